section
theorem jBc_op {f : Nat → Int32} {n i d i1 d1 : Int} {k : Nat} (hk : 0 < k) (hi : i < n) (h : jOpI f i n = 1) (e1 : i1 = i + 2) (e2 : d1 = d + 1) : jBc f n (k - 1) i1 d1 = jBc f n k i d := by rw [jBc_s hk, if_pos hi, if_pos h, e1, e2]
theorem jBc_cl {f : Nat → Int32} {n i d i1 d1 : Int} {k : Nat} (hk : 0 < k) (hi : i < n) (h : jOpI f i n = 0) (h2 : jClI f i n = 1) (h3 : d1 ≠ 0) (e1 : i1 = i + 2) (e2 : d1 = d - 1) : jBc f n (k - 1) i1 d1 = jBc f n k i d := by rw [jBc_s hk, if_pos hi, if_neg (by omega), if_pos h2, if_neg (by omega), e1, e2]
theorem jBc_el {f : Nat → Int32} {n i d i1 d1 : Int} {k : Nat} (hk : 0 < k) (hi : i < n) (h : jOpI f i n = 0) (h2 : jClI f i n = 0) (e1 : i1 = i + 1) (e2 : d1 = d) : jBc f n (k - 1) i1 d1 = jBc f n k i d := by rw [jBc_s hk, if_pos hi, if_neg (by omega), if_neg (by omega), e1, e2]
theorem jBc_end {f : Nat → Int32} {n i d r : Int} {k : Nat} (hk : 0 < k) (hi : i < n) (h : jOpI f i n = 0) (h2 : jClI f i n = 1) (h3 : d = 1) (e1 : r = i + 2) : r = jBc f n k i d := by rw [jBc_s hk, if_pos hi, if_neg (by omega), if_pos h2, if_pos (by omega), e1]
theorem jBc_out {f : Nat → Int32} {n i d r : Int} {k : Nat} (hk : 0 < k) (hi : n ≤ i) (e : r = -1) : r = jBc f n k i d := by rw [jBc_s hk, if_neg (by omega), e]
theorem dX14_lineBegin_0 : decode cX14_lineBegin 0 = .ok (.iconst 0, 1) := by decide +kernel
theorem dX14_lineBegin_1 : decode cX14_lineBegin 1 = .ok (.istore_n 3, 1) := by decide +kernel
theorem dX14_lineBegin_2 : decode cX14_lineBegin 2 = .ok (.iconst 0, 1) := by decide +kernel
theorem dX14_lineBegin_3 : decode cX14_lineBegin 3 = .ok (.istore 4, 2) := by decide +kernel
theorem dX14_lineBegin_5 : decode cX14_lineBegin 5 = .ok (.iload 4, 2) := by decide +kernel
theorem dX14_lineBegin_7 : decode cX14_lineBegin 7 = .ok (.iload_n 2, 1) := by decide +kernel
theorem dX14_lineBegin_8 : decode cX14_lineBegin 8 = .ok (.if_icmp .ge 76, 3) := by decide +kernel
theorem dX14_lineBegin_11 : decode cX14_lineBegin 11 = .ok (.iload_n 3, 1) := by decide +kernel
theorem dX14_lineBegin_12 : decode cX14_lineBegin 12 = .ok (.iload_n 1, 1) := by decide +kernel
theorem dX14_lineBegin_13 : decode cX14_lineBegin 13 = .ok (.if_icmp .ge 25, 3) := by decide +kernel
theorem dX14_lineBegin_16 : decode cX14_lineBegin 16 = .ok (.aload_n 0, 1) := by decide +kernel
theorem dX14_lineBegin_17 : decode cX14_lineBegin 17 = .ok (.iload_n 3, 1) := by decide +kernel
theorem dX14_lineBegin_18 : decode cX14_lineBegin 18 = .ok (.iaload, 1) := by decide +kernel
theorem dX14_lineBegin_19 : decode cX14_lineBegin 19 = .ok (.bipush 10, 2) := by decide +kernel
theorem dX14_lineBegin_21 : decode cX14_lineBegin 21 = .ok (.if_icmp .eq 17, 3) := by decide +kernel
theorem dX14_lineBegin_24 : decode cX14_lineBegin 24 = .ok (.aload_n 0, 1) := by decide +kernel
theorem dX14_lineBegin_25 : decode cX14_lineBegin 25 = .ok (.iload_n 3, 1) := by decide +kernel
theorem dX14_lineBegin_26 : decode cX14_lineBegin 26 = .ok (.iaload, 1) := by decide +kernel
theorem dX14_lineBegin_27 : decode cX14_lineBegin 27 = .ok (.bipush 13, 2) := by decide +kernel
theorem dX14_lineBegin_29 : decode cX14_lineBegin 29 = .ok (.if_icmp .eq 9, 3) := by decide +kernel
theorem dX14_lineBegin_32 : decode cX14_lineBegin 32 = .ok (.iinc 3 1, 3) := by decide +kernel
theorem dX14_lineBegin_35 : decode cX14_lineBegin 35 = .ok (.goto (-24), 3) := by decide +kernel
theorem dX14_lineBegin_38 : decode cX14_lineBegin 38 = .ok (.iload_n 3, 1) := by decide +kernel
theorem dX14_lineBegin_39 : decode cX14_lineBegin 39 = .ok (.iload_n 1, 1) := by decide +kernel
theorem dX14_lineBegin_40 : decode cX14_lineBegin 40 = .ok (.if_icmp .ne 5, 3) := by decide +kernel
theorem dX14_lineBegin_43 : decode cX14_lineBegin 43 = .ok (.iconst (-1), 1) := by decide +kernel
theorem dX14_lineBegin_44 : decode cX14_lineBegin 44 = .ok (.ireturn, 1) := by decide +kernel
theorem dX14_lineBegin_45 : decode cX14_lineBegin 45 = .ok (.iload_n 3, 1) := by decide +kernel
theorem dX14_lineBegin_46 : decode cX14_lineBegin 46 = .ok (.aload_n 0, 1) := by decide +kernel
theorem dX14_lineBegin_47 : decode cX14_lineBegin 47 = .ok (.iload_n 3, 1) := by decide +kernel
theorem dX14_lineBegin_48 : decode cX14_lineBegin 48 = .ok (.iaload, 1) := by decide +kernel
theorem dX14_lineBegin_49 : decode cX14_lineBegin 49 = .ok (.bipush 13, 2) := by decide +kernel
theorem dX14_lineBegin_51 : decode cX14_lineBegin 51 = .ok (.if_icmp .ne 24, 3) := by decide +kernel
theorem dX14_lineBegin_54 : decode cX14_lineBegin 54 = .ok (.iload_n 3, 1) := by decide +kernel
theorem dX14_lineBegin_55 : decode cX14_lineBegin 55 = .ok (.iconst 1, 1) := by decide +kernel
theorem dX14_lineBegin_56 : decode cX14_lineBegin 56 = .ok (.iadd, 1) := by decide +kernel
theorem dX14_lineBegin_57 : decode cX14_lineBegin 57 = .ok (.iload_n 1, 1) := by decide +kernel
theorem dX14_lineBegin_58 : decode cX14_lineBegin 58 = .ok (.if_icmp .ge 17, 3) := by decide +kernel
theorem dX14_lineBegin_61 : decode cX14_lineBegin 61 = .ok (.aload_n 0, 1) := by decide +kernel
theorem dX14_lineBegin_62 : decode cX14_lineBegin 62 = .ok (.iload_n 3, 1) := by decide +kernel
theorem dX14_lineBegin_63 : decode cX14_lineBegin 63 = .ok (.iconst 1, 1) := by decide +kernel
theorem dX14_lineBegin_64 : decode cX14_lineBegin 64 = .ok (.iadd, 1) := by decide +kernel
theorem dX14_lineBegin_65 : decode cX14_lineBegin 65 = .ok (.iaload, 1) := by decide +kernel
theorem dX14_lineBegin_66 : decode cX14_lineBegin 66 = .ok (.bipush 10, 2) := by decide +kernel
theorem dX14_lineBegin_68 : decode cX14_lineBegin 68 = .ok (.if_icmp .ne 7, 3) := by decide +kernel
theorem dX14_lineBegin_71 : decode cX14_lineBegin 71 = .ok (.iconst 2, 1) := by decide +kernel
theorem dX14_lineBegin_72 : decode cX14_lineBegin 72 = .ok (.goto 4, 3) := by decide +kernel
theorem dX14_lineBegin_75 : decode cX14_lineBegin 75 = .ok (.iconst 1, 1) := by decide +kernel
theorem dX14_lineBegin_76 : decode cX14_lineBegin 76 = .ok (.iadd, 1) := by decide +kernel
theorem dX14_lineBegin_77 : decode cX14_lineBegin 77 = .ok (.istore_n 3, 1) := by decide +kernel
theorem dX14_lineBegin_78 : decode cX14_lineBegin 78 = .ok (.iinc 4 1, 3) := by decide +kernel
theorem dX14_lineBegin_81 : decode cX14_lineBegin 81 = .ok (.goto (-76), 3) := by decide +kernel
theorem dX14_lineBegin_84 : decode cX14_lineBegin 84 = .ok (.iload_n 3, 1) := by decide +kernel
theorem dX14_lineBegin_85 : decode cX14_lineBegin 85 = .ok (.ireturn, 1) := by decide +kernel
theorem dX14_opens_0 : decode cX14_opens 0 = .ok (.iload_n 1, 1) := by decide +kernel
theorem dX14_opens_1 : decode cX14_opens 1 = .ok (.iconst 1, 1) := by decide +kernel
theorem dX14_opens_2 : decode cX14_opens 2 = .ok (.iadd, 1) := by decide +kernel
theorem dX14_opens_3 : decode cX14_opens 3 = .ok (.iload_n 2, 1) := by decide +kernel
theorem dX14_opens_4 : decode cX14_opens 4 = .ok (.if_icmp .ge 25, 3) := by decide +kernel
theorem dX14_opens_7 : decode cX14_opens 7 = .ok (.aload_n 0, 1) := by decide +kernel
theorem dX14_opens_8 : decode cX14_opens 8 = .ok (.iload_n 1, 1) := by decide +kernel
theorem dX14_opens_9 : decode cX14_opens 9 = .ok (.iaload, 1) := by decide +kernel
theorem dX14_opens_10 : decode cX14_opens 10 = .ok (.bipush 40, 2) := by decide +kernel
theorem dX14_opens_12 : decode cX14_opens 12 = .ok (.if_icmp .ne 17, 3) := by decide +kernel
theorem dX14_opens_15 : decode cX14_opens 15 = .ok (.aload_n 0, 1) := by decide +kernel
theorem dX14_opens_16 : decode cX14_opens 16 = .ok (.iload_n 1, 1) := by decide +kernel
theorem dX14_opens_17 : decode cX14_opens 17 = .ok (.iconst 1, 1) := by decide +kernel
theorem dX14_opens_18 : decode cX14_opens 18 = .ok (.iadd, 1) := by decide +kernel
theorem dX14_opens_19 : decode cX14_opens 19 = .ok (.iaload, 1) := by decide +kernel
theorem dX14_opens_20 : decode cX14_opens 20 = .ok (.bipush 42, 2) := by decide +kernel
theorem dX14_opens_22 : decode cX14_opens 22 = .ok (.if_icmp .ne 7, 3) := by decide +kernel
theorem dX14_opens_25 : decode cX14_opens 25 = .ok (.iconst 1, 1) := by decide +kernel
theorem dX14_opens_26 : decode cX14_opens 26 = .ok (.goto 4, 3) := by decide +kernel
theorem dX14_opens_29 : decode cX14_opens 29 = .ok (.iconst 0, 1) := by decide +kernel
theorem dX14_opens_30 : decode cX14_opens 30 = .ok (.ireturn, 1) := by decide +kernel
theorem dX14_closes_0 : decode cX14_closes 0 = .ok (.iload_n 1, 1) := by decide +kernel
theorem dX14_closes_1 : decode cX14_closes 1 = .ok (.iconst 1, 1) := by decide +kernel
theorem dX14_closes_2 : decode cX14_closes 2 = .ok (.iadd, 1) := by decide +kernel
theorem dX14_closes_3 : decode cX14_closes 3 = .ok (.iload_n 2, 1) := by decide +kernel
theorem dX14_closes_4 : decode cX14_closes 4 = .ok (.if_icmp .ge 25, 3) := by decide +kernel
theorem dX14_closes_7 : decode cX14_closes 7 = .ok (.aload_n 0, 1) := by decide +kernel
theorem dX14_closes_8 : decode cX14_closes 8 = .ok (.iload_n 1, 1) := by decide +kernel
theorem dX14_closes_9 : decode cX14_closes 9 = .ok (.iaload, 1) := by decide +kernel
theorem dX14_closes_10 : decode cX14_closes 10 = .ok (.bipush 42, 2) := by decide +kernel
theorem dX14_closes_12 : decode cX14_closes 12 = .ok (.if_icmp .ne 17, 3) := by decide +kernel
theorem dX14_closes_15 : decode cX14_closes 15 = .ok (.aload_n 0, 1) := by decide +kernel
theorem dX14_closes_16 : decode cX14_closes 16 = .ok (.iload_n 1, 1) := by decide +kernel
theorem dX14_closes_17 : decode cX14_closes 17 = .ok (.iconst 1, 1) := by decide +kernel
theorem dX14_closes_18 : decode cX14_closes 18 = .ok (.iadd, 1) := by decide +kernel
theorem dX14_closes_19 : decode cX14_closes 19 = .ok (.iaload, 1) := by decide +kernel
theorem dX14_closes_20 : decode cX14_closes 20 = .ok (.bipush 41, 2) := by decide +kernel
theorem dX14_closes_22 : decode cX14_closes 22 = .ok (.if_icmp .ne 7, 3) := by decide +kernel
theorem dX14_closes_25 : decode cX14_closes 25 = .ok (.iconst 1, 1) := by decide +kernel
theorem dX14_closes_26 : decode cX14_closes 26 = .ok (.goto 4, 3) := by decide +kernel
theorem dX14_closes_29 : decode cX14_closes 29 = .ok (.iconst 0, 1) := by decide +kernel
theorem dX14_closes_30 : decode cX14_closes 30 = .ok (.ireturn, 1) := by decide +kernel
theorem dX14_behindComment_0 : decode cX14_behindComment 0 = .ok (.iconst 0, 1) := by decide +kernel
theorem dX14_behindComment_1 : decode cX14_behindComment 1 = .ok (.istore_n 3, 1) := by decide +kernel
theorem dX14_behindComment_2 : decode cX14_behindComment 2 = .ok (.iload_n 1, 1) := by decide +kernel
theorem dX14_behindComment_3 : decode cX14_behindComment 3 = .ok (.istore 4, 2) := by decide +kernel
theorem dX14_behindComment_5 : decode cX14_behindComment 5 = .ok (.iload 4, 2) := by decide +kernel
theorem dX14_behindComment_7 : decode cX14_behindComment 7 = .ok (.iload_n 2, 1) := by decide +kernel
theorem dX14_behindComment_8 : decode cX14_behindComment 8 = .ok (.if_icmp .ge 51, 3) := by decide +kernel
theorem dX14_behindComment_11 : decode cX14_behindComment 11 = .ok (.aload_n 0, 1) := by decide +kernel
theorem dX14_behindComment_12 : decode cX14_behindComment 12 = .ok (.iload 4, 2) := by decide +kernel
theorem dX14_behindComment_14 : decode cX14_behindComment 14 = .ok (.iload_n 2, 1) := by decide +kernel
theorem dX14_behindComment_15 : decode cX14_behindComment 15 = .ok (.invokestatic 608, 3) := by decide +kernel
theorem dX14_behindComment_18 : decode cX14_behindComment 18 = .ok (.ifCond .eq 12, 3) := by decide +kernel
theorem dX14_behindComment_21 : decode cX14_behindComment 21 = .ok (.iinc 3 1, 3) := by decide +kernel
theorem dX14_behindComment_24 : decode cX14_behindComment 24 = .ok (.iinc 4 2, 3) := by decide +kernel
theorem dX14_behindComment_27 : decode cX14_behindComment 27 = .ok (.goto (-22), 3) := by decide +kernel
theorem dX14_behindComment_30 : decode cX14_behindComment 30 = .ok (.aload_n 0, 1) := by decide +kernel
theorem dX14_behindComment_31 : decode cX14_behindComment 31 = .ok (.iload 4, 2) := by decide +kernel
theorem dX14_behindComment_33 : decode cX14_behindComment 33 = .ok (.iload_n 2, 1) := by decide +kernel
theorem dX14_behindComment_34 : decode cX14_behindComment 34 = .ok (.invokestatic 612, 3) := by decide +kernel
theorem dX14_behindComment_37 : decode cX14_behindComment 37 = .ok (.ifCond .eq 16, 3) := by decide +kernel
theorem dX14_behindComment_40 : decode cX14_behindComment 40 = .ok (.iinc 3 (-1), 3) := by decide +kernel
theorem dX14_behindComment_43 : decode cX14_behindComment 43 = .ok (.iinc 4 2, 3) := by decide +kernel
theorem dX14_behindComment_46 : decode cX14_behindComment 46 = .ok (.iload_n 3, 1) := by decide +kernel
theorem dX14_behindComment_47 : decode cX14_behindComment 47 = .ok (.ifCond .ne (-42), 3) := by decide +kernel
theorem dX14_behindComment_50 : decode cX14_behindComment 50 = .ok (.iload 4, 2) := by decide +kernel
theorem dX14_behindComment_52 : decode cX14_behindComment 52 = .ok (.ireturn, 1) := by decide +kernel
theorem dX14_behindComment_53 : decode cX14_behindComment 53 = .ok (.iinc 4 1, 3) := by decide +kernel
theorem dX14_behindComment_56 : decode cX14_behindComment 56 = .ok (.goto (-51), 3) := by decide +kernel
theorem dX14_behindComment_59 : decode cX14_behindComment 59 = .ok (.iconst (-1), 1) := by decide +kernel
theorem dX14_behindComment_60 : decode cX14_behindComment 60 = .ok (.ireturn, 1) := by decide +kernel
end
section
def EX14_opensv9 : List (Nat × Nat) := []
def EX14_closesv9 : List (Nat × Nat) := []
def EX14_behindCommentv9 : List (Nat × Nat) := []
def EX14_lineBeginv9 : List (Nat × Nat) := []
set_option maxHeartbeats 4000000 in
set_option maxRecDepth 20000 in
theorem uX14_opensv9 (l : Launch) (dC : Nat → ClassId) (dI : Nat → Nat → Nat) (ca : Nat → ClassId) (base : Nat) (B : jF) (hB : jBok B) (hAp : jAp (dC, dI)) (hB194 : ∀ n G a H, B 194 n G a H ↔ jAr (dC, dI) (ca 1) (fun j z => True) n a H) (G0 : jT) (H0 : Heap) (r0 : Nat) (a1 : Int32) (a2 : Int32) (n0 : Nat) (f0 : Nat → Int32) : Met l yX14_opens (jw yX14_opens cX14_opens 3 (some .boolean)) ({ frames := 0, cells := 0, slots := 0, locals := 0 }) (va_Pc [.ref r0, .int a1, .int a2] (fun U => U.heap = H0 ∧ jX B base G0 [] H0 ∧ jG dC dI ca base U ∧ G0 r0 = some (194, n0) ∧ jP (dC, dI) G0 H0 [] ∧ jMc (dC, dI) G0 H0 [(r0, 194, n0, ca 1, f0)] ∧ 0 ≤ a1.toInt ∧ a1.toInt ≤ 1000000 ∧ a2.toInt ≤ n0 ∧ n0 ≤ 200000 ∧ -1000 ≤ a2.toInt)) (va_Qi (S := Unit) (fun r u => (r = 0 ∨ r = 1) ∧ (r.toInt = jOpI f0 a1.toInt a2.toInt ∧ a1.toInt + 2 ≤ a2.toInt + 1000000000 * (1 - r.toInt))) (fun u t => jRt (dC, dI) B base G0 EX14_opensv9 H0 [] t.heap) (jA base)) 0 0 (jA base) := by
  refine Met.ofW (cc := cX14_opens) (maxL := 3) (ret := (some .boolean)) (by decide) rfl ?_
  intro p e s m args below meth c s₁ Bd hml hv
  obtain ⟨rfl, hH0, hX, hG, hg_r0, hP0, hM0, hp0, hp1, hp2, hp3, hp4⟩ := hv
  have hK := hG.1
  have hx := Bd.exec
  have hb := Bd.bytes
  have hr := Bd.returns
  have hts := atoms_spec (ws := (jw yX14_opens cX14_opens 3 (some .boolean))) Bd.pre
  have htw : ∀ w ∈ jWl, w.before _ s = true := fun w h => hts w (List.mem_cons_of_mem _ h)
  have hown : s.vm.findClass RX14 = some m.cls := findClass_of_methodNamed Bd.named
  have hlocks := Bd.notSynchronized
  obtain ⟨Q, hQ⟩ : ∃ Q, Q = MQ below (va_Qi (S := Unit) (fun r u => (r = 0 ∨ r = 1) ∧ (r.toInt = jOpI f0 a1.toInt a2.toInt ∧ a1.toInt + 2 ≤ a2.toInt + 1000000000 * (1 - r.toInt))) (fun u t => jRt (dC, dI) B base G0 EX14_opensv9 H0 [] t.heap) (jA base)) ([.ref r0, .int a1, .int a2] : List Value).toArray s 0 0 (jA base) := ⟨_, rfl⟩
  rw [← hQ]
  have hl := lv_entry ([.ref r0, .int a1, .int a2]) (n := 3) (Nat.le_of_ble_eq_true rfl)
  rw [lg_entry_eq]
  generalize (lg_sl ([.ref r0, .int a1, .int a2]) ++ List.replicate (3 - (lg_sl ([.ref r0, .int a1, .int a2])).length) Slot.unset).toArray = ls at hl ⊢
  have hl : lv_has ls 3 [(0, .ref r0), (1, .int a1), (2, .int a2)] := hl
  generalize hR : (headSpec (jw yX14_opens cX14_opens 3 (some .boolean)) ({ frames := 0, cells := 0, slots := 0, locals := 0 })).room = R
  subst hH0
  have hh : jSt (dC, dI) B base G0 G0 EX14_opensv9 s.heap 0 0 [] [(r0, 194, n0, ca 1, f0)] [] s.heap [] := jSt.start hX hP0 hM0 jIs.nil
  clear hX hP0
  have hk0 : (0 : Int32).toInt = 0 := by decide
  have hk1 : (1 : Int32).toInt = 1 := by decide
  have hk40 : (40 : Int32).toInt = 40 := by decide
  have hk42 : (42 : Int32).toInt = 42 := by decide
  have hrg_a1 := jb_rng a1
  have hrg_a2 := jb_rng a2
  refine lv_iload_n hx hb dX14_opens_0 rfl (lv_at hl 1 rfl) ?_
  refine lv_iconst (v := 1) hx hb dX14_opens_1 (by decide) ?_
  refine lv_iadd hx hb dX14_opens_2 ?_
  refine lv_topi (fun z_1 ez_1 => ?_)
  have hz_1 : z_1.toInt = a1.toInt + 1 := by rw [ez_1]; exact jb_iadd2 (rfl) ((by decide)) (by omega)
  refine lv_iload_n hx hb dX14_opens_3 rfl (lv_at hl 2 rfl) ?_
  refine lv_icmp_ge (tgt := 29) hx hb dX14_opens_4 (by decide) (fun c_2 => ?_) (fun c_2 => ?_)
  · skip
    have c_2' : z_1.toInt ≥ a2.toInt := jb_ge (rfl) (rfl) c_2
    refine lv_iconst (v := 0) hx hb dX14_opens_29 (by decide) ?_
    rw [hQ]
    exact W.zret (v := 0) hx hb hr (jb_nz (Or.inl rfl)) (fun t ht hW => ⟨⟨0, (), rfl, ⟨(Or.inl rfl), by refine ⟨by unfold jOpI; first | (rw [if_pos (by omega)]; decide) | (rw [if_neg (by omega)]; decide), by omega⟩⟩, hh.rt (M1 := []) [] rfl ht⟩, by rw [ht]; try exact hh.1.1, fun q h9 hq => by rw [ht]; try exact hh.1.2.1 q h9 hq⟩) hh.1.2.2 dX14_opens_30
  · skip
    have c_2' : z_1.toInt < a2.toInt := jb_ge_n (rfl) (rfl) c_2
    refine lv_aload_n hx hb dX14_opens_7 rfl (lv_at hl 0 rfl) ?_
    refine lv_iload_n hx hb dX14_opens_8 rfl (lv_at hl 1 rfl) ?_
    refine j7_ialdM hx hb hK hh hB194 1 rfl (by decide) hg_r0 (x := a1.toInt) (rfl) (by omega) (j := 0) rfl dX14_opens_9 (fun z_3 ez_3 (hz_3 : True) => ?_)
    have hqz_3 : z_3.toInt = (f0 (a1.toInt).toNat).toInt := by rw [ez_3]
    refine lv_bipush (v := 40) hx hb dX14_opens_10 (by decide) ?_
    refine lv_icmp_ne (tgt := 29) hx hb dX14_opens_12 (by decide) (fun c_4 => ?_) (fun c_4 => ?_)
    · skip
      have c_4' : z_3.toInt ≠ 40 := jb_ne (rfl) ((by decide)) c_4
      refine lv_iconst (v := 0) hx hb dX14_opens_29 (by decide) ?_
      rw [hQ]
      exact W.zret (v := 0) hx hb hr (jb_nz (Or.inl rfl)) (fun t ht hW => ⟨⟨0, (), rfl, ⟨(Or.inl rfl), by refine ⟨by unfold jOpI; first | (rw [if_pos (by omega)]; decide) | (rw [if_neg (by omega)]; decide), by omega⟩⟩, hh.rt (M1 := []) [] rfl ht⟩, by rw [ht]; try exact hh.1.1, fun q h9 hq => by rw [ht]; try exact hh.1.2.1 q h9 hq⟩) hh.1.2.2 dX14_opens_30
    · skip
      have c_4' : z_3.toInt = 40 := jb_ne_n (rfl) ((by decide)) c_4
      refine lv_aload_n hx hb dX14_opens_15 rfl (lv_at hl 0 rfl) ?_
      refine lv_iload_n hx hb dX14_opens_16 rfl (lv_at hl 1 rfl) ?_
      refine lv_iconst (v := 1) hx hb dX14_opens_17 (by decide) ?_
      refine lv_iadd hx hb dX14_opens_18 ?_
      refine lv_topi (fun z_5 ez_5 => ?_)
      have hz_5 : z_5.toInt = a1.toInt + 1 := by rw [ez_5]; exact jb_iadd2 (rfl) ((by decide)) (by omega)
      refine j7_ialdM hx hb hK hh hB194 1 rfl (by decide) hg_r0 (x := z_5.toInt) (rfl) (by omega) (j := 0) rfl dX14_opens_19 (fun z_6 ez_6 (hz_6 : True) => ?_)
      have hqz_6 : z_6.toInt = (f0 ((a1.toInt + 1)).toNat).toInt := by rw [ez_6, show z_5.toInt = (a1.toInt + 1) by omega]
      first | have hqz_6_7 : z_6.toInt = (f0 (a1.toInt).toNat).toInt := by rw [ez_6, show z_5.toInt = a1.toInt by omega] | skip
      refine lv_bipush (v := 42) hx hb dX14_opens_20 (by decide) ?_
      refine lv_icmp_ne (tgt := 29) hx hb dX14_opens_22 (by decide) (fun c_8 => ?_) (fun c_8 => ?_)
      · skip
        have c_8' : z_6.toInt ≠ 42 := jb_ne (rfl) ((by decide)) c_8
        refine lv_iconst (v := 0) hx hb dX14_opens_29 (by decide) ?_
        rw [hQ]
        exact W.zret (v := 0) hx hb hr (jb_nz (Or.inl rfl)) (fun t ht hW => ⟨⟨0, (), rfl, ⟨(Or.inl rfl), by refine ⟨by unfold jOpI; first | (rw [if_pos (by omega)]; decide) | (rw [if_neg (by omega)]; decide), by omega⟩⟩, hh.rt (M1 := []) [] rfl ht⟩, by rw [ht]; try exact hh.1.1, fun q h9 hq => by rw [ht]; try exact hh.1.2.1 q h9 hq⟩) hh.1.2.2 dX14_opens_30
      · skip
        have c_8' : z_6.toInt = 42 := jb_ne_n (rfl) ((by decide)) c_8
        refine lv_iconst (v := 1) hx hb dX14_opens_25 (by decide) ?_
        refine lv_goto (tgt := 30) hx hb dX14_opens_26 (by decide) ?_
        rw [hQ]
        exact W.zret (v := 1) hx hb hr (jb_nz (Or.inr rfl)) (fun t ht hW => ⟨⟨1, (), rfl, ⟨(Or.inr rfl), by refine ⟨by unfold jOpI; first | (rw [if_pos (by omega)]; decide) | (rw [if_neg (by omega)]; decide), by omega⟩⟩, hh.rt (M1 := []) [] rfl ht⟩, by rw [ht]; try exact hh.1.1, fun q h9 hq => by rw [ht]; try exact hh.1.2.1 q h9 hq⟩) hh.1.2.2 dX14_opens_30
set_option maxHeartbeats 4000000 in
set_option maxRecDepth 20000 in
theorem uX14_closesv9 (l : Launch) (dC : Nat → ClassId) (dI : Nat → Nat → Nat) (ca : Nat → ClassId) (base : Nat) (B : jF) (hB : jBok B) (hAp : jAp (dC, dI)) (hB194 : ∀ n G a H, B 194 n G a H ↔ jAr (dC, dI) (ca 1) (fun j z => True) n a H) (G0 : jT) (H0 : Heap) (r0 : Nat) (a1 : Int32) (a2 : Int32) (n0 : Nat) (f0 : Nat → Int32) : Met l yX14_closes (jw yX14_closes cX14_closes 3 (some .boolean)) ({ frames := 0, cells := 0, slots := 0, locals := 0 }) (va_Pc [.ref r0, .int a1, .int a2] (fun U => U.heap = H0 ∧ jX B base G0 [] H0 ∧ jG dC dI ca base U ∧ G0 r0 = some (194, n0) ∧ jP (dC, dI) G0 H0 [] ∧ jMc (dC, dI) G0 H0 [(r0, 194, n0, ca 1, f0)] ∧ 0 ≤ a1.toInt ∧ a1.toInt ≤ 1000000 ∧ a2.toInt ≤ n0 ∧ n0 ≤ 200000 ∧ -1000 ≤ a2.toInt)) (va_Qi (S := Unit) (fun r u => (r = 0 ∨ r = 1) ∧ (r.toInt = jClI f0 a1.toInt a2.toInt ∧ a1.toInt + 2 ≤ a2.toInt + 1000000000 * (1 - r.toInt))) (fun u t => jRt (dC, dI) B base G0 EX14_closesv9 H0 [] t.heap) (jA base)) 0 0 (jA base) := by
  refine Met.ofW (cc := cX14_closes) (maxL := 3) (ret := (some .boolean)) (by decide) rfl ?_
  intro p e s m args below meth c s₁ Bd hml hv
  obtain ⟨rfl, hH0, hX, hG, hg_r0, hP0, hM0, hp0, hp1, hp2, hp3, hp4⟩ := hv
  have hK := hG.1
  have hx := Bd.exec
  have hb := Bd.bytes
  have hr := Bd.returns
  have hts := atoms_spec (ws := (jw yX14_closes cX14_closes 3 (some .boolean))) Bd.pre
  have htw : ∀ w ∈ jWl, w.before _ s = true := fun w h => hts w (List.mem_cons_of_mem _ h)
  have hown : s.vm.findClass RX14 = some m.cls := findClass_of_methodNamed Bd.named
  have hlocks := Bd.notSynchronized
  obtain ⟨Q, hQ⟩ : ∃ Q, Q = MQ below (va_Qi (S := Unit) (fun r u => (r = 0 ∨ r = 1) ∧ (r.toInt = jClI f0 a1.toInt a2.toInt ∧ a1.toInt + 2 ≤ a2.toInt + 1000000000 * (1 - r.toInt))) (fun u t => jRt (dC, dI) B base G0 EX14_closesv9 H0 [] t.heap) (jA base)) ([.ref r0, .int a1, .int a2] : List Value).toArray s 0 0 (jA base) := ⟨_, rfl⟩
  rw [← hQ]
  have hl := lv_entry ([.ref r0, .int a1, .int a2]) (n := 3) (Nat.le_of_ble_eq_true rfl)
  rw [lg_entry_eq]
  generalize (lg_sl ([.ref r0, .int a1, .int a2]) ++ List.replicate (3 - (lg_sl ([.ref r0, .int a1, .int a2])).length) Slot.unset).toArray = ls at hl ⊢
  have hl : lv_has ls 3 [(0, .ref r0), (1, .int a1), (2, .int a2)] := hl
  generalize hR : (headSpec (jw yX14_closes cX14_closes 3 (some .boolean)) ({ frames := 0, cells := 0, slots := 0, locals := 0 })).room = R
  subst hH0
  have hh : jSt (dC, dI) B base G0 G0 EX14_closesv9 s.heap 0 0 [] [(r0, 194, n0, ca 1, f0)] [] s.heap [] := jSt.start hX hP0 hM0 jIs.nil
  clear hX hP0
  have hk0 : (0 : Int32).toInt = 0 := by decide
  have hk1 : (1 : Int32).toInt = 1 := by decide
  have hk41 : (41 : Int32).toInt = 41 := by decide
  have hk42 : (42 : Int32).toInt = 42 := by decide
  have hrg_a1 := jb_rng a1
  have hrg_a2 := jb_rng a2
  refine lv_iload_n hx hb dX14_closes_0 rfl (lv_at hl 1 rfl) ?_
  refine lv_iconst (v := 1) hx hb dX14_closes_1 (by decide) ?_
  refine lv_iadd hx hb dX14_closes_2 ?_
  refine lv_topi (fun z_1 ez_1 => ?_)
  have hz_1 : z_1.toInt = a1.toInt + 1 := by rw [ez_1]; exact jb_iadd2 (rfl) ((by decide)) (by omega)
  refine lv_iload_n hx hb dX14_closes_3 rfl (lv_at hl 2 rfl) ?_
  refine lv_icmp_ge (tgt := 29) hx hb dX14_closes_4 (by decide) (fun c_2 => ?_) (fun c_2 => ?_)
  · skip
    have c_2' : z_1.toInt ≥ a2.toInt := jb_ge (rfl) (rfl) c_2
    refine lv_iconst (v := 0) hx hb dX14_closes_29 (by decide) ?_
    rw [hQ]
    exact W.zret (v := 0) hx hb hr (jb_nz (Or.inl rfl)) (fun t ht hW => ⟨⟨0, (), rfl, ⟨(Or.inl rfl), by refine ⟨by unfold jClI; first | (rw [if_pos (by omega)]; decide) | (rw [if_neg (by omega)]; decide), by omega⟩⟩, hh.rt (M1 := []) [] rfl ht⟩, by rw [ht]; try exact hh.1.1, fun q h9 hq => by rw [ht]; try exact hh.1.2.1 q h9 hq⟩) hh.1.2.2 dX14_closes_30
  · skip
    have c_2' : z_1.toInt < a2.toInt := jb_ge_n (rfl) (rfl) c_2
    refine lv_aload_n hx hb dX14_closes_7 rfl (lv_at hl 0 rfl) ?_
    refine lv_iload_n hx hb dX14_closes_8 rfl (lv_at hl 1 rfl) ?_
    refine j7_ialdM hx hb hK hh hB194 1 rfl (by decide) hg_r0 (x := a1.toInt) (rfl) (by omega) (j := 0) rfl dX14_closes_9 (fun z_3 ez_3 (hz_3 : True) => ?_)
    have hqz_3 : z_3.toInt = (f0 (a1.toInt).toNat).toInt := by rw [ez_3]
    refine lv_bipush (v := 42) hx hb dX14_closes_10 (by decide) ?_
    refine lv_icmp_ne (tgt := 29) hx hb dX14_closes_12 (by decide) (fun c_4 => ?_) (fun c_4 => ?_)
    · skip
      have c_4' : z_3.toInt ≠ 42 := jb_ne (rfl) ((by decide)) c_4
      refine lv_iconst (v := 0) hx hb dX14_closes_29 (by decide) ?_
      rw [hQ]
      exact W.zret (v := 0) hx hb hr (jb_nz (Or.inl rfl)) (fun t ht hW => ⟨⟨0, (), rfl, ⟨(Or.inl rfl), by refine ⟨by unfold jClI; first | (rw [if_pos (by omega)]; decide) | (rw [if_neg (by omega)]; decide), by omega⟩⟩, hh.rt (M1 := []) [] rfl ht⟩, by rw [ht]; try exact hh.1.1, fun q h9 hq => by rw [ht]; try exact hh.1.2.1 q h9 hq⟩) hh.1.2.2 dX14_closes_30
    · skip
      have c_4' : z_3.toInt = 42 := jb_ne_n (rfl) ((by decide)) c_4
      refine lv_aload_n hx hb dX14_closes_15 rfl (lv_at hl 0 rfl) ?_
      refine lv_iload_n hx hb dX14_closes_16 rfl (lv_at hl 1 rfl) ?_
      refine lv_iconst (v := 1) hx hb dX14_closes_17 (by decide) ?_
      refine lv_iadd hx hb dX14_closes_18 ?_
      refine lv_topi (fun z_5 ez_5 => ?_)
      have hz_5 : z_5.toInt = a1.toInt + 1 := by rw [ez_5]; exact jb_iadd2 (rfl) ((by decide)) (by omega)
      refine j7_ialdM hx hb hK hh hB194 1 rfl (by decide) hg_r0 (x := z_5.toInt) (rfl) (by omega) (j := 0) rfl dX14_closes_19 (fun z_6 ez_6 (hz_6 : True) => ?_)
      have hqz_6 : z_6.toInt = (f0 ((a1.toInt + 1)).toNat).toInt := by rw [ez_6, show z_5.toInt = (a1.toInt + 1) by omega]
      first | have hqz_6_7 : z_6.toInt = (f0 (a1.toInt).toNat).toInt := by rw [ez_6, show z_5.toInt = a1.toInt by omega] | skip
      refine lv_bipush (v := 41) hx hb dX14_closes_20 (by decide) ?_
      refine lv_icmp_ne (tgt := 29) hx hb dX14_closes_22 (by decide) (fun c_8 => ?_) (fun c_8 => ?_)
      · skip
        have c_8' : z_6.toInt ≠ 41 := jb_ne (rfl) ((by decide)) c_8
        refine lv_iconst (v := 0) hx hb dX14_closes_29 (by decide) ?_
        rw [hQ]
        exact W.zret (v := 0) hx hb hr (jb_nz (Or.inl rfl)) (fun t ht hW => ⟨⟨0, (), rfl, ⟨(Or.inl rfl), by refine ⟨by unfold jClI; first | (rw [if_pos (by omega)]; decide) | (rw [if_neg (by omega)]; decide), by omega⟩⟩, hh.rt (M1 := []) [] rfl ht⟩, by rw [ht]; try exact hh.1.1, fun q h9 hq => by rw [ht]; try exact hh.1.2.1 q h9 hq⟩) hh.1.2.2 dX14_closes_30
      · skip
        have c_8' : z_6.toInt = 41 := jb_ne_n (rfl) ((by decide)) c_8
        refine lv_iconst (v := 1) hx hb dX14_closes_25 (by decide) ?_
        refine lv_goto (tgt := 30) hx hb dX14_closes_26 (by decide) ?_
        rw [hQ]
        exact W.zret (v := 1) hx hb hr (jb_nz (Or.inr rfl)) (fun t ht hW => ⟨⟨1, (), rfl, ⟨(Or.inr rfl), by refine ⟨by unfold jClI; first | (rw [if_pos (by omega)]; decide) | (rw [if_neg (by omega)]; decide), by omega⟩⟩, hh.rt (M1 := []) [] rfl ht⟩, by rw [ht]; try exact hh.1.1, fun q h9 hq => by rw [ht]; try exact hh.1.2.1 q h9 hq⟩) hh.1.2.2 dX14_closes_30
set_option maxHeartbeats 4000000 in
set_option maxRecDepth 20000 in
theorem uX14_behindCommentv9 (l : Launch) (dC : Nat → ClassId) (dI : Nat → Nat → Nat) (ca : Nat → ClassId) (base : Nat) (B : jF) (hB : jBok B) (hAp : jAp (dC, dI)) (hB101 : ∀ n G a H, B 101 n G a H ↔ jAr (dC, dI) (ca 1) (fun j z => True) n a H) (hB194 : ∀ n G a H, B 194 n G a H ↔ jAr (dC, dI) (ca 1) (fun j z => True) n a H) (G0 : jT) (H0 : Heap) (r0 : Nat) (a1 : Int32) (a2 : Int32) (n0 : Nat) (f0 : Nat → Int32) : Met l yX14_behindComment (jw yX14_behindComment cX14_behindComment 5 (some .int)) ({ frames := 1, cells := 0, slots := 0, locals := 22 }) (va_Pc [.ref r0, .int a1, .int a2] (fun U => U.heap = H0 ∧ jX B base G0 [] H0 ∧ jG dC dI ca base U ∧ G0 r0 = some (194, n0) ∧ jP (dC, dI) G0 H0 [] ∧ jMc (dC, dI) G0 H0 [(r0, 194, n0, ca 1, f0)] ∧ 0 ≤ a1.toInt ∧ a1.toInt ≤ a2.toInt ∧ a2.toInt ≤ n0 ∧ n0 ≤ 200000)) (va_Qi (S := Unit) (fun r u => (r.toInt = jBc f0 a2.toInt ((a2.toInt - a1.toInt).toNat + 1) a1.toInt 0 ∧ -1 ≤ r.toInt ∧ r.toInt ≤ a2.toInt ∧ (r.toInt = -1 ∨ a1.toInt < r.toInt))) (fun u t => jRt (dC, dI) B base G0 EX14_behindCommentv9 H0 [] t.heap) (jA base)) 0 0 (jA base) := by
  refine Met.ofW (cc := cX14_behindComment) (maxL := 5) (ret := (some .int)) (by decide) rfl ?_
  intro p e s m args below meth c s₁ Bd hml hv
  obtain ⟨rfl, hH0, hX, hG, hg_r0, hP0, hM0, hp0, hp1, hp2, hp3⟩ := hv
  have hK := hG.1
  have hx := Bd.exec
  have hb := Bd.bytes
  have hr := Bd.returns
  have hts := atoms_spec (ws := (jw yX14_behindComment cX14_behindComment 5 (some .int))) Bd.pre
  have htw : ∀ w ∈ jWl, w.before _ s = true := fun w h => hts w (List.mem_cons_of_mem _ h)
  have hown : s.vm.findClass RX14 = some m.cls := findClass_of_methodNamed Bd.named
  have hlocks := Bd.notSynchronized
  obtain ⟨Q, hQ⟩ : ∃ Q, Q = MQ below (va_Qi (S := Unit) (fun r u => (r.toInt = jBc f0 a2.toInt ((a2.toInt - a1.toInt).toNat + 1) a1.toInt 0 ∧ -1 ≤ r.toInt ∧ r.toInt ≤ a2.toInt ∧ (r.toInt = -1 ∨ a1.toInt < r.toInt))) (fun u t => jRt (dC, dI) B base G0 EX14_behindCommentv9 H0 [] t.heap) (jA base)) ([.ref r0, .int a1, .int a2] : List Value).toArray s 0 0 (jA base) := ⟨_, rfl⟩
  rw [← hQ]
  have hl := lv_entry ([.ref r0, .int a1, .int a2]) (n := 5) (Nat.le_of_ble_eq_true rfl)
  rw [lg_entry_eq]
  generalize (lg_sl ([.ref r0, .int a1, .int a2]) ++ List.replicate (5 - (lg_sl ([.ref r0, .int a1, .int a2])).length) Slot.unset).toArray = ls at hl ⊢
  have hl : lv_has ls 5 [(0, .ref r0), (1, .int a1), (2, .int a2)] := hl
  generalize hR : (headSpec (jw yX14_behindComment cX14_behindComment 5 (some .int)) ({ frames := 1, cells := 0, slots := 0, locals := 22 })).room = R
  subst hH0
  have hh : jSt (dC, dI) B base G0 G0 EX14_behindCommentv9 s.heap 0 0 [] [(r0, 194, n0, ca 1, f0)] [] s.heap [] := jSt.start hX hP0 hM0 jIs.nil
  clear hX hP0
  have hkm1 : ((-1) : Int32).toInt = (-1) := by decide
  have hk0 : (0 : Int32).toInt = 0 := by decide
  have hk1 : (1 : Int32).toInt = 1 := by decide
  have hrg_a1 := jb_rng a1
  have hrg_a2 := jb_rng a2
  refine lv_iconst (v := 0) hx hb dX14_behindComment_0 (by decide) ?_
  refine lv_istore_n (lv' := [(3, .int 0), (0, .ref r0), (1, .int a1), (2, .int a2)]) hx hb dX14_behindComment_1 rfl hl (by decide) rfl (fun ls hl => ?_)
  refine lv_iload_n hx hb dX14_behindComment_2 rfl (lv_at hl 2 rfl) ?_
  refine lv_istore (lv' := [(4, .int a1), (3, .int 0), (0, .ref r0), (1, .int a1), (2, .int a2)]) hx hb dX14_behindComment_3 hl (by decide) rfl (fun ls hl => ?_)
  have L5 : ∀ (N : Nat) (v3_1 : Int32) (v4_1 : Int32) (kf : Nat) (H_1 : Heap) (locs_1 : List Loc), jSt (dC, dI) B base G0 G0 EX14_behindCommentv9 s.heap 0 0 [] [(r0, 194, n0, ca 1, f0)] [] H_1 locs_1 → (a1.toInt ≤ v4_1.toInt ∧ v4_1.toInt ≤ a2.toInt ∧ -v4_1.toInt ≤ v3_1.toInt ∧ v3_1.toInt ≤ v4_1.toInt ∧ a2.toInt - v4_1.toInt < kf ∧ jBc f0 a2.toInt kf v4_1.toInt v3_1.toInt = jBc f0 a2.toInt ((a2.toInt - a1.toInt).toNat + 1) a1.toInt 0) → (a2.toInt - v4_1.toInt : Int) < N → ∀ ls : Array Slot, lv_has ls 5 [(0, .ref r0), (1, .int a1), (2, .int a2), (3, .int v3_1), (4, .int v4_1)] → W p l e R s m ([.ref r0, .int a1, .int a2] : List Value).toArray below meth c H_1 locs_1 0 0 Q (F0 m 5 ls []) := by
    intro N
    induction N with
    | zero => intro v3_1 v4_1 kf H_1 locs_1 hh_1  hi_1 hm; exact absurd hm (by omega)
    | succ N L5 =>
      intro v3_1 v4_1 kf H_1 locs_1 hh_1  hi_1 hm_1 ls hl
      obtain ⟨hi_1_0, hi_1_1, hi_1_2, hi_1_3, hi_1_4, hi_1_5⟩ := hi_1
      refine lv_iload hx hb dX14_behindComment_5 (lv_at hl 4 rfl) ?_
      refine lv_iload_n hx hb dX14_behindComment_7 rfl (lv_at hl 2 rfl) ?_
      refine lv_icmp_ge (tgt := 59) hx hb dX14_behindComment_8 (by decide) (fun c_2 => ?_) (fun c_2 => ?_)
      · skip
        have c_2' : v4_1.toInt ≥ a2.toInt := jb_ge (rfl) (rfl) c_2
        refine lv_iconst (v := (-1)) hx hb dX14_behindComment_59 (by decide) ?_
        rw [hQ]
        exact W.iret (v := (-1)) hx hb hr (fun t ht hW => ⟨⟨(-1), (), rfl, by refine ⟨?_, by omega, by omega, by omega⟩; first | exact (jBc_end (by omega) (by omega) (by omega) (by omega) (by omega) (by omega)).trans hi_1_5 | exact (jBc_out (by omega) (by omega) (by omega)).trans hi_1_5, hh_1.rt (M1 := []) [] rfl ht⟩, by rw [ht]; try exact hh_1.1.1, fun q h9 hq => by rw [ht]; try exact hh_1.1.2.1 q h9 hq⟩) hh_1.1.2.2 dX14_behindComment_60
      · skip
        have c_2' : v4_1.toInt < a2.toInt := jb_ge_n (rfl) (rfl) c_2
        refine lv_aload_n hx hb dX14_behindComment_11 rfl (lv_at hl 0 rfl) ?_
        refine lv_iload hx hb dX14_behindComment_12 (lv_at hl 4 rfl) ?_
        refine lv_iload_n hx hb dX14_behindComment_14 rfl (lv_at hl 2 rfl) ?_
        refine va_calli (A0 := jA base) (H0 := s.heap) (va_runS (As := [.ref r0, .int v4_1, .int a2]) (rest := []) ⟨hx, hb, hml, hown, hts⟩ (uX14_opensv9 l dC dI ca base B hB hAp hB194 G0 H_1 r0 v4_1 a2 n0 f0) (va_cwS 3 hts (jgS (jWr_57 _ (List.mem_of_getElem? (i := 19) rfl)) (jWr_57 _ (List.mem_of_getElem? (i := 20) rfl)) (jWr_1 _ (List.mem_of_getElem? (i := 5) rfl)) (jWr_57 _ (List.mem_of_getElem? (i := 21) rfl))) rfl rfl rfl (by decide +kernel) ⟨by rw [← hR]; exact Nat.le_of_ble_eq_true rfl, by rw [← hR]; exact Nat.le_of_ble_eq_true rfl⟩) ⟨fun a U g mk q => by obtain ⟨q0, q1, q2, qK, q10, q11, q12, q13⟩ := q; exact ⟨q0, q1, q2, jG.calling g mk a qK, q10, q11, q12, q13⟩, fun U hU hW => ⟨rfl, hU, hh_1.2.1, hG.step hW hU hh_1.1, hg_r0, jP.nil, (hh_1.2.2.2.2.2.2.2.1.sub (L1 := [(r0, 194, n0, ca 1, f0)]) [0] rfl), by first | omega | (refine ⟨?_, ?_, ?_, ?_, ?_⟩ <;> (first | omega | rfl | assumption | decide | exact Or.inl rfl | exact Or.inr rfl | (simp only; omega)))⟩⟩ rfl rfl hl.1 rfl (lv_room (Nat.le_of_ble_eq_true rfl)) dX14_behindComment_15 ⟨Nat.zero_le _, Nat.zero_le _⟩) hh_1.1 (fun q _ h => h) (fun q h => h) (fun r_4 u_3 t_3 H_3 locs_3 ht_3 hvm_3 hr_4 hb_3 hz_3 hk_3 hS_3 => ?_)
        rw [ht_3] at hb_3
        obtain ⟨hb_31, hb_32, hb_33, hb_34, hb_35⟩ := hb_3
        have hh_3 : jSt (dC, dI) B base G0 G0 EX14_behindCommentv9 s.heap 0 0 [] [(r0, 194, n0, ca 1, f0)] [] H_3 locs_3 := ((hh_1.call hb_31 hb_32 hb_33 hb_34 hS_3 rfl (L1 := []) [] rfl rfl (M1 := [(r0, 194, n0, ca 1, f0)]) [0] rfl rfl (I1 := []) [] rfl rfl).more hb_35)
        clear hh_1 ht_3 hvm_3 hz_3 hk_3 hS_3 hb_31 hb_32 hb_33 hb_34 hb_35
        obtain ⟨hr_4b, hr_4p⟩ := hr_4
        obtain ⟨hr_4p_0, hr_4p_1⟩ := hr_4p
        have hr_4' := jb_01 hr_4b
        refine lv_if_eq (tgt := 30) hx hb dX14_behindComment_18 (by decide) (fun c_5 => ?_) (fun c_5 => ?_)
        · skip
          have c_5' : r_4.toInt = 0 := jb_eq (rfl) ((by decide)) c_5
          refine lv_aload_n hx hb dX14_behindComment_30 rfl (lv_at hl 0 rfl) ?_
          refine lv_iload hx hb dX14_behindComment_31 (lv_at hl 4 rfl) ?_
          refine lv_iload_n hx hb dX14_behindComment_33 rfl (lv_at hl 2 rfl) ?_
          refine va_calli (A0 := jA base) (H0 := s.heap) (va_runS (As := [.ref r0, .int v4_1, .int a2]) (rest := []) ⟨hx, hb, hml, hown, hts⟩ (uX14_closesv9 l dC dI ca base B hB hAp hB194 G0 H_3 r0 v4_1 a2 n0 f0) (va_cwS 3 hts (jgS (jWr_58 _ (List.mem_of_getElem? (i := 1) rfl)) (jWr_58 _ (List.mem_of_getElem? (i := 2) rfl)) (jWr_1 _ (List.mem_of_getElem? (i := 5) rfl)) (jWr_58 _ (List.mem_of_getElem? (i := 3) rfl))) rfl rfl rfl (by decide +kernel) ⟨by rw [← hR]; exact Nat.le_of_ble_eq_true rfl, by rw [← hR]; exact Nat.le_of_ble_eq_true rfl⟩) ⟨fun a U g mk q => by obtain ⟨q0, q1, q2, qK, q10, q11, q12, q13⟩ := q; exact ⟨q0, q1, q2, jG.calling g mk a qK, q10, q11, q12, q13⟩, fun U hU hW => ⟨rfl, hU, hh_3.2.1, hG.step hW hU hh_3.1, hg_r0, jP.nil, (hh_3.2.2.2.2.2.2.2.1.sub (L1 := [(r0, 194, n0, ca 1, f0)]) [0] rfl), by first | omega | (refine ⟨?_, ?_, ?_, ?_, ?_⟩ <;> (first | omega | rfl | assumption | decide | exact Or.inl rfl | exact Or.inr rfl | (simp only; omega)))⟩⟩ rfl rfl hl.1 rfl (lv_room (Nat.le_of_ble_eq_true rfl)) dX14_behindComment_34 ⟨Nat.zero_le _, Nat.zero_le _⟩) hh_3.1 (fun q _ h => h) (fun q h => h) (fun r_7 u_6 t_6 H_6 locs_6 ht_6 hvm_6 hr_7 hb_6 hz_6 hk_6 hS_6 => ?_)
          rw [ht_6] at hb_6
          obtain ⟨hb_61, hb_62, hb_63, hb_64, hb_65⟩ := hb_6
          have hh_6 : jSt (dC, dI) B base G0 G0 EX14_behindCommentv9 s.heap 0 0 [] [(r0, 194, n0, ca 1, f0)] [] H_6 locs_6 := ((hh_3.call hb_61 hb_62 hb_63 hb_64 hS_6 rfl (L1 := []) [] rfl rfl (M1 := [(r0, 194, n0, ca 1, f0)]) [0] rfl rfl (I1 := []) [] rfl rfl).more hb_65)
          clear hh_3 ht_6 hvm_6 hz_6 hk_6 hS_6 hb_61 hb_62 hb_63 hb_64 hb_65
          obtain ⟨hr_7b, hr_7p⟩ := hr_7
          obtain ⟨hr_7p_0, hr_7p_1⟩ := hr_7p
          have hr_7' := jb_01 hr_7b
          refine lv_if_eq (tgt := 53) hx hb dX14_behindComment_37 (by decide) (fun c_8 => ?_) (fun c_8 => ?_)
          · skip
            have c_8' : r_7.toInt = 0 := jb_eq (rfl) ((by decide)) c_8
            obtain ⟨z_9, ez_9⟩ : ∃ y : Int32, y = v4_1 + 1 := ⟨_, rfl⟩
            refine lv_iinc (v := z_9) (lv' := [(4, .int z_9), (0, .ref r0), (1, .int a1), (2, .int a2), (3, .int v3_1)]) hx hb dX14_behindComment_53 hl (k := 4) rfl (by rw [ez_9]; rfl) (by decide) rfl (fun ls hl => ?_)
            have hz_9 : z_9.toInt = v4_1.toInt + 1 := by rw [ez_9]; exact jb_iadd2 (rfl) (by decide) (by omega)
            refine lv_goto (tgt := 5) hx hb dX14_behindComment_56 (by decide) ?_
            exact L5 v3_1 z_9 (kf - 1) _ _ hh_6 (by refine ⟨by omega, by omega, by omega, by omega, by omega, ?_⟩; first | exact (jBc_op (by omega) (by omega) (by omega) (by omega) (by omega)).trans hi_1_5 | exact (jBc_cl (by omega) (by omega) (by omega) (by omega) (by omega) (by omega) (by omega)).trans hi_1_5 | exact (jBc_el (by omega) (by omega) (by omega) (by omega) (by omega) (by omega)).trans hi_1_5) (by omega) _ (lv_sub hl [1, 2, 3, 4, 0] rfl)
          · skip
            have c_8' : r_7.toInt ≠ 0 := jb_eq_n (rfl) ((by decide)) c_8
            obtain ⟨z_10, ez_10⟩ : ∃ y : Int32, y = v3_1 + (-1) := ⟨_, rfl⟩
            refine lv_iinc (v := z_10) (lv' := [(3, .int z_10), (0, .ref r0), (1, .int a1), (2, .int a2), (4, .int v4_1)]) hx hb dX14_behindComment_40 hl (k := 3) rfl (by rw [ez_10]; rfl) (by decide) rfl (fun ls hl => ?_)
            have hz_10 : z_10.toInt = v3_1.toInt + (-1) := by rw [ez_10]; exact jb_iadd2 (rfl) (by decide) (by omega)
            obtain ⟨z_11, ez_11⟩ : ∃ y : Int32, y = v4_1 + 2 := ⟨_, rfl⟩
            refine lv_iinc (v := z_11) (lv' := [(4, .int z_11), (3, .int z_10), (0, .ref r0), (1, .int a1), (2, .int a2)]) hx hb dX14_behindComment_43 hl (k := 4) rfl (by rw [ez_11]; rfl) (by decide) rfl (fun ls hl => ?_)
            have hz_11 : z_11.toInt = v4_1.toInt + 2 := by rw [ez_11]; exact jb_iadd2 (rfl) (by decide) (by omega)
            refine lv_iload_n hx hb dX14_behindComment_46 rfl (lv_at hl 1 rfl) ?_
            refine lv_if_ne (tgt := 5) hx hb dX14_behindComment_47 (by decide) (fun c_12 => ?_) (fun c_12 => ?_)
            · skip
              have c_12' : z_10.toInt ≠ 0 := jb_ne (rfl) ((by decide)) c_12
              exact L5 z_10 z_11 (kf - 1) _ _ hh_6 (by refine ⟨by omega, by omega, by omega, by omega, by omega, ?_⟩; first | exact (jBc_op (by omega) (by omega) (by omega) (by omega) (by omega)).trans hi_1_5 | exact (jBc_cl (by omega) (by omega) (by omega) (by omega) (by omega) (by omega) (by omega)).trans hi_1_5 | exact (jBc_el (by omega) (by omega) (by omega) (by omega) (by omega) (by omega)).trans hi_1_5) (by omega) _ (lv_sub hl [2, 3, 4, 1, 0] rfl)
            · skip
              have c_12' : z_10.toInt = 0 := jb_ne_n (rfl) ((by decide)) c_12
              refine lv_iload hx hb dX14_behindComment_50 (lv_at hl 0 rfl) ?_
              rw [hQ]
              exact W.iret (v := z_11) hx hb hr (fun t ht hW => ⟨⟨z_11, (), rfl, by refine ⟨?_, by omega, by omega, by omega⟩; first | exact (jBc_end (by omega) (by omega) (by omega) (by omega) (by omega) (by omega)).trans hi_1_5 | exact (jBc_out (by omega) (by omega) (by omega)).trans hi_1_5, hh_6.rt (M1 := []) [] rfl ht⟩, by rw [ht]; try exact hh_6.1.1, fun q h9 hq => by rw [ht]; try exact hh_6.1.2.1 q h9 hq⟩) hh_6.1.2.2 dX14_behindComment_52
        · skip
          have c_5' : r_4.toInt ≠ 0 := jb_eq_n (rfl) ((by decide)) c_5
          obtain ⟨z_13, ez_13⟩ : ∃ y : Int32, y = v3_1 + 1 := ⟨_, rfl⟩
          refine lv_iinc (v := z_13) (lv' := [(3, .int z_13), (0, .ref r0), (1, .int a1), (2, .int a2), (4, .int v4_1)]) hx hb dX14_behindComment_21 hl (k := 3) rfl (by rw [ez_13]; rfl) (by decide) rfl (fun ls hl => ?_)
          have hz_13 : z_13.toInt = v3_1.toInt + 1 := by rw [ez_13]; exact jb_iadd2 (rfl) (by decide) (by omega)
          obtain ⟨z_14, ez_14⟩ : ∃ y : Int32, y = v4_1 + 2 := ⟨_, rfl⟩
          refine lv_iinc (v := z_14) (lv' := [(4, .int z_14), (3, .int z_13), (0, .ref r0), (1, .int a1), (2, .int a2)]) hx hb dX14_behindComment_24 hl (k := 4) rfl (by rw [ez_14]; rfl) (by decide) rfl (fun ls hl => ?_)
          have hz_14 : z_14.toInt = v4_1.toInt + 2 := by rw [ez_14]; exact jb_iadd2 (rfl) (by decide) (by omega)
          refine lv_goto (tgt := 5) hx hb dX14_behindComment_27 (by decide) ?_
          exact L5 z_13 z_14 (kf - 1) _ _ hh_3 (by refine ⟨by omega, by omega, by omega, by omega, by omega, ?_⟩; first | exact (jBc_op (by omega) (by omega) (by omega) (by omega) (by omega)).trans hi_1_5 | exact (jBc_cl (by omega) (by omega) (by omega) (by omega) (by omega) (by omega) (by omega)).trans hi_1_5 | exact (jBc_el (by omega) (by omega) (by omega) (by omega) (by omega) (by omega)).trans hi_1_5) (by omega) _ (lv_sub hl [2, 3, 4, 1, 0] rfl)
  exact L5 (a2.toInt - (a1 : Int32).toInt : Int).toNat.succ 0 a1 ((a2.toInt - a1.toInt).toNat + 1) _ _ hh (by refine ⟨by omega, by omega, by omega, by omega, by omega, rfl⟩) (by omega) _ (lv_sub hl [2, 3, 4, 1, 0] rfl)
set_option maxHeartbeats 4000000 in
set_option maxRecDepth 20000 in
theorem uX14_lineBeginv9 (l : Launch) (dC : Nat → ClassId) (dI : Nat → Nat → Nat) (ca : Nat → ClassId) (base : Nat) (B : jF) (hB : jBok B) (hAp : jAp (dC, dI)) (hB194 : ∀ n G a H, B 194 n G a H ↔ jAr (dC, dI) (ca 1) (fun j z => True) n a H) (G0 : jT) (H0 : Heap) (r0 : Nat) (a1 : Int32) (a2 : Int32) (n0 : Nat) : Met l yX14_lineBegin (jw yX14_lineBegin cX14_lineBegin 5 (some .int)) ({ frames := 0, cells := 0, slots := 0, locals := 0 }) (va_Pc [.ref r0, .int a1, .int a2] (fun U => U.heap = H0 ∧ jX B base G0 [] H0 ∧ jG dC dI ca base U ∧ G0 r0 = some (194, n0) ∧ jP (dC, dI) G0 H0 [] ∧ 0 ≤ a1.toInt ∧ a1.toInt ≤ n0 ∧ n0 ≤ 200000)) (va_Qi (S := Unit) (fun r u => (-1 ≤ r.toInt ∧ r.toInt ≤ a1.toInt ∧ (r.toInt = -1 ∨ a2.toInt ≤ r.toInt))) (fun u t => jRt (dC, dI) B base G0 EX14_lineBeginv9 H0 [] t.heap) (jA base)) 0 0 (jA base) := by
  refine Met.ofW (cc := cX14_lineBegin) (maxL := 5) (ret := (some .int)) (by decide) rfl ?_
  intro p e s m args below meth c s₁ Bd hml hv
  obtain ⟨rfl, hH0, hX, hG, hg_r0, hP0, hp0, hp1, hp2⟩ := hv
  have hK := hG.1
  have hx := Bd.exec
  have hb := Bd.bytes
  have hr := Bd.returns
  have hts := atoms_spec (ws := (jw yX14_lineBegin cX14_lineBegin 5 (some .int))) Bd.pre
  have htw : ∀ w ∈ jWl, w.before _ s = true := fun w h => hts w (List.mem_cons_of_mem _ h)
  have hown : s.vm.findClass RX14 = some m.cls := findClass_of_methodNamed Bd.named
  have hlocks := Bd.notSynchronized
  obtain ⟨Q, hQ⟩ : ∃ Q, Q = MQ below (va_Qi (S := Unit) (fun r u => (-1 ≤ r.toInt ∧ r.toInt ≤ a1.toInt ∧ (r.toInt = -1 ∨ a2.toInt ≤ r.toInt))) (fun u t => jRt (dC, dI) B base G0 EX14_lineBeginv9 H0 [] t.heap) (jA base)) ([.ref r0, .int a1, .int a2] : List Value).toArray s 0 0 (jA base) := ⟨_, rfl⟩
  rw [← hQ]
  have hl := lv_entry ([.ref r0, .int a1, .int a2]) (n := 5) (Nat.le_of_ble_eq_true rfl)
  rw [lg_entry_eq]
  generalize (lg_sl ([.ref r0, .int a1, .int a2]) ++ List.replicate (5 - (lg_sl ([.ref r0, .int a1, .int a2])).length) Slot.unset).toArray = ls at hl ⊢
  have hl : lv_has ls 5 [(0, .ref r0), (1, .int a1), (2, .int a2)] := hl
  generalize hR : (headSpec (jw yX14_lineBegin cX14_lineBegin 5 (some .int)) ({ frames := 0, cells := 0, slots := 0, locals := 0 })).room = R
  subst hH0
  have hh : jSt (dC, dI) B base G0 G0 EX14_lineBeginv9 s.heap 0 0 [] [] [] s.heap [] := jSt.start hX hP0 jMc.nil jIs.nil
  clear hX hP0
  have hkm1 : ((-1) : Int32).toInt = (-1) := by decide
  have hk0 : (0 : Int32).toInt = 0 := by decide
  have hk1 : (1 : Int32).toInt = 1 := by decide
  have hk2 : (2 : Int32).toInt = 2 := by decide
  have hk10 : (10 : Int32).toInt = 10 := by decide
  have hk13 : (13 : Int32).toInt = 13 := by decide
  have hrg_a1 := jb_rng a1
  have hrg_a2 := jb_rng a2
  refine lv_iconst (v := 0) hx hb dX14_lineBegin_0 (by decide) ?_
  refine lv_istore_n (lv' := [(3, .int 0), (0, .ref r0), (1, .int a1), (2, .int a2)]) hx hb dX14_lineBegin_1 rfl hl (by decide) rfl (fun ls hl => ?_)
  refine lv_iconst (v := 0) hx hb dX14_lineBegin_2 (by decide) ?_
  refine lv_istore (lv' := [(4, .int 0), (3, .int 0), (0, .ref r0), (1, .int a1), (2, .int a2)]) hx hb dX14_lineBegin_3 hl (by decide) rfl (fun ls hl => ?_)
  have L5 : ∀ (N : Nat) (v3_1 : Int32) (v4_1 : Int32) (H_1 : Heap) (locs_1 : List Loc), jSt (dC, dI) B base G0 G0 EX14_lineBeginv9 s.heap 0 0 [] [] [] H_1 locs_1 → (0 ≤ v4_1.toInt ∧ v4_1.toInt ≤ v3_1.toInt ∧ v3_1.toInt ≤ a1.toInt) → (((a2.toInt - v4_1.toInt).toNat : Int) : Int) < N → ∀ ls : Array Slot, lv_has ls 5 [(0, .ref r0), (1, .int a1), (2, .int a2), (3, .int v3_1), (4, .int v4_1)] → W p l e R s m ([.ref r0, .int a1, .int a2] : List Value).toArray below meth c H_1 locs_1 0 0 Q (F0 m 5 ls []) := by
    intro N
    induction N with
    | zero => intro v3_1 v4_1 H_1 locs_1 hh_1  hi_1 hm; exact absurd hm (by omega)
    | succ N L5 =>
      intro v3_1 v4_1 H_1 locs_1 hh_1  hi_1 hm_1 ls hl
      obtain ⟨hi_1_0, hi_1_1, hi_1_2⟩ := hi_1
      refine lv_iload hx hb dX14_lineBegin_5 (lv_at hl 4 rfl) ?_
      refine lv_iload_n hx hb dX14_lineBegin_7 rfl (lv_at hl 2 rfl) ?_
      refine lv_icmp_ge (tgt := 84) hx hb dX14_lineBegin_8 (by decide) (fun c_2 => ?_) (fun c_2 => ?_)
      · skip
        have c_2' : v4_1.toInt ≥ a2.toInt := jb_ge (rfl) (rfl) c_2
        refine lv_iload_n hx hb dX14_lineBegin_84 rfl (lv_at hl 3 rfl) ?_
        rw [hQ]
        exact W.iret (v := v3_1) hx hb hr (fun t ht hW => ⟨⟨v3_1, (), rfl, by first | omega | (refine ⟨?_, ?_, ?_⟩ <;> (first | omega | rfl | assumption | decide | exact Or.inl rfl | exact Or.inr rfl | (simp only; omega))), hh_1.rt (M1 := []) [] rfl ht⟩, by rw [ht]; try exact hh_1.1.1, fun q h9 hq => by rw [ht]; try exact hh_1.1.2.1 q h9 hq⟩) hh_1.1.2.2 dX14_lineBegin_85
      · skip
        have c_2' : v4_1.toInt < a2.toInt := jb_ge_n (rfl) (rfl) c_2
        have L11 : ∀ (N : Nat) (v3_3 : Int32) (H_3 : Heap) (locs_3 : List Loc), jSt (dC, dI) B base G0 G0 EX14_lineBeginv9 s.heap 0 0 [] [] [] H_3 locs_3 → (v4_1.toInt ≤ v3_3.toInt ∧ v3_3.toInt ≤ a1.toInt) → (a1.toInt - v3_3.toInt : Int) < N → ∀ ls : Array Slot, lv_has ls 5 [(0, .ref r0), (1, .int a1), (2, .int a2), (3, .int v3_3), (4, .int v4_1)] → W p l e R s m ([.ref r0, .int a1, .int a2] : List Value).toArray below meth c H_3 locs_3 0 0 Q (F0 m 11 ls []) := by
          intro N
          induction N with
          | zero => intro v3_3 H_3 locs_3 hh_3  hi_3 hm; exact absurd hm (by omega)
          | succ N L11 =>
            intro v3_3 H_3 locs_3 hh_3  hi_3 hm_3 ls hl
            obtain ⟨hi_3_0, hi_3_1⟩ := hi_3
            refine lv_iload_n hx hb dX14_lineBegin_11 rfl (lv_at hl 3 rfl) ?_
            refine lv_iload_n hx hb dX14_lineBegin_12 rfl (lv_at hl 1 rfl) ?_
            refine lv_icmp_ge (tgt := 38) hx hb dX14_lineBegin_13 (by decide) (fun c_4 => ?_) (fun c_4 => ?_)
            · skip
              have c_4' : v3_3.toInt ≥ a1.toInt := jb_ge (rfl) (rfl) c_4
              refine lv_iload_n hx hb dX14_lineBegin_38 rfl (lv_at hl 3 rfl) ?_
              refine lv_iload_n hx hb dX14_lineBegin_39 rfl (lv_at hl 1 rfl) ?_
              refine lv_icmp_ne (tgt := 45) hx hb dX14_lineBegin_40 (by decide) (fun c_5 => ?_) (fun c_5 => ?_)
              · skip
                have c_5' : v3_3.toInt ≠ a1.toInt := jb_ne (rfl) (rfl) c_5
                refine lv_iload_n hx hb dX14_lineBegin_45 rfl (lv_at hl 3 rfl) ?_
                refine lv_aload_n hx hb dX14_lineBegin_46 rfl (lv_at hl 0 rfl) ?_
                refine lv_iload_n hx hb dX14_lineBegin_47 rfl (lv_at hl 3 rfl) ?_
                refine j7_iald hx hb hK hh_3 hB194 1 rfl (by decide) hg_r0 (x := v3_3.toInt) (rfl) (by omega) dX14_lineBegin_48 (fun z_6 (hz_6 : True) => ?_)
                refine lv_bipush (v := 13) hx hb dX14_lineBegin_49 (by decide) ?_
                have C76 : ∀ (w0_7 : Int32) (H_7 : Heap) (locs_7 : List Loc), jSt (dC, dI) B base G0 G0 EX14_lineBeginv9 s.heap 0 0 [] [] [] H_7 locs_7 → (1 ≤ w0_7.toInt ∧ v3_3.toInt + w0_7.toInt ≤ a1.toInt) → ∀ ls : Array Slot, lv_has ls 5 [(0, .ref r0), (1, .int a1), (2, .int a2), (3, .int v3_3), (4, .int v4_1)] → W p l e R s m ([.ref r0, .int a1, .int a2] : List Value).toArray below meth c H_7 locs_7 0 0 Q (F0 m 76 ls [.int w0_7, .int v3_3]) := by
                  intro w0_7 H_7 locs_7 hh_7  hi_7 ls hl
                  obtain ⟨hi_7_0, hi_7_1⟩ := hi_7
                  refine lv_iadd hx hb dX14_lineBegin_76 ?_
                  refine lv_topi (fun z_8 ez_8 => ?_)
                  have hz_8 : z_8.toInt = v3_3.toInt + w0_7.toInt := by rw [ez_8]; exact jb_iadd2 (rfl) (rfl) (by omega)
                  refine lv_istore_n (lv' := [(3, .int z_8), (0, .ref r0), (1, .int a1), (2, .int a2), (4, .int v4_1)]) hx hb dX14_lineBegin_77 rfl hl (by decide) rfl (fun ls hl => ?_)
                  obtain ⟨z_9, ez_9⟩ : ∃ y : Int32, y = v4_1 + 1 := ⟨_, rfl⟩
                  refine lv_iinc (v := z_9) (lv' := [(4, .int z_9), (3, .int z_8), (0, .ref r0), (1, .int a1), (2, .int a2)]) hx hb dX14_lineBegin_78 hl (k := 4) rfl (by rw [ez_9]; rfl) (by decide) rfl (fun ls hl => ?_)
                  have hz_9 : z_9.toInt = v4_1.toInt + 1 := by rw [ez_9]; exact jb_iadd2 (rfl) (by decide) (by omega)
                  refine lv_goto (tgt := 5) hx hb dX14_lineBegin_81 (by decide) ?_
                  exact L5 z_8 z_9 _ _ hh_7 (by first | omega | (refine ⟨?_, ?_, ?_⟩ <;> (first | omega | rfl | assumption | decide | exact Or.inl rfl | exact Or.inr rfl | (simp only; omega)))) (by omega) _ (lv_sub hl [2, 3, 4, 1, 0] rfl)
                refine lv_icmp_ne (tgt := 75) hx hb dX14_lineBegin_51 (by decide) (fun c_10 => ?_) (fun c_10 => ?_)
                · skip
                  have c_10' : z_6.toInt ≠ 13 := jb_ne (rfl) ((by decide)) c_10
                  refine lv_iconst (v := 1) hx hb dX14_lineBegin_75 (by decide) ?_
                  exact C76 1 _ _ hh_3 (by first | omega | (refine ⟨?_, ?_⟩ <;> (first | omega | rfl | assumption | decide | exact Or.inl rfl | exact Or.inr rfl | (simp only; omega)))) _ (lv_sub hl [0, 1, 2, 3, 4] rfl)
                · skip
                  have c_10' : z_6.toInt = 13 := jb_ne_n (rfl) ((by decide)) c_10
                  refine lv_iload_n hx hb dX14_lineBegin_54 rfl (lv_at hl 3 rfl) ?_
                  refine lv_iconst (v := 1) hx hb dX14_lineBegin_55 (by decide) ?_
                  refine lv_iadd hx hb dX14_lineBegin_56 ?_
                  refine lv_topi (fun z_11 ez_11 => ?_)
                  have hz_11 : z_11.toInt = v3_3.toInt + 1 := by rw [ez_11]; exact jb_iadd2 (rfl) ((by decide)) (by omega)
                  refine lv_iload_n hx hb dX14_lineBegin_57 rfl (lv_at hl 1 rfl) ?_
                  refine lv_icmp_ge (tgt := 75) hx hb dX14_lineBegin_58 (by decide) (fun c_12 => ?_) (fun c_12 => ?_)
                  · skip
                    have c_12' : z_11.toInt ≥ a1.toInt := jb_ge (rfl) (rfl) c_12
                    refine lv_iconst (v := 1) hx hb dX14_lineBegin_75 (by decide) ?_
                    exact C76 1 _ _ hh_3 (by first | omega | (refine ⟨?_, ?_⟩ <;> (first | omega | rfl | assumption | decide | exact Or.inl rfl | exact Or.inr rfl | (simp only; omega)))) _ (lv_sub hl [0, 1, 2, 3, 4] rfl)
                  · skip
                    have c_12' : z_11.toInt < a1.toInt := jb_ge_n (rfl) (rfl) c_12
                    refine lv_aload_n hx hb dX14_lineBegin_61 rfl (lv_at hl 0 rfl) ?_
                    refine lv_iload_n hx hb dX14_lineBegin_62 rfl (lv_at hl 3 rfl) ?_
                    refine lv_iconst (v := 1) hx hb dX14_lineBegin_63 (by decide) ?_
                    refine lv_iadd hx hb dX14_lineBegin_64 ?_
                    refine lv_topi (fun z_13 ez_13 => ?_)
                    have hz_13 : z_13.toInt = v3_3.toInt + 1 := by rw [ez_13]; exact jb_iadd2 (rfl) ((by decide)) (by omega)
                    refine j7_iald hx hb hK hh_3 hB194 1 rfl (by decide) hg_r0 (x := z_13.toInt) (rfl) (by omega) dX14_lineBegin_65 (fun z_14 (hz_14 : True) => ?_)
                    refine lv_bipush (v := 10) hx hb dX14_lineBegin_66 (by decide) ?_
                    refine lv_icmp_ne (tgt := 75) hx hb dX14_lineBegin_68 (by decide) (fun c_15 => ?_) (fun c_15 => ?_)
                    · skip
                      have c_15' : z_14.toInt ≠ 10 := jb_ne (rfl) ((by decide)) c_15
                      refine lv_iconst (v := 1) hx hb dX14_lineBegin_75 (by decide) ?_
                      exact C76 1 _ _ hh_3 (by first | omega | (refine ⟨?_, ?_⟩ <;> (first | omega | rfl | assumption | decide | exact Or.inl rfl | exact Or.inr rfl | (simp only; omega)))) _ (lv_sub hl [0, 1, 2, 3, 4] rfl)
                    · skip
                      have c_15' : z_14.toInt = 10 := jb_ne_n (rfl) ((by decide)) c_15
                      refine lv_iconst (v := 2) hx hb dX14_lineBegin_71 (by decide) ?_
                      refine lv_goto (tgt := 76) hx hb dX14_lineBegin_72 (by decide) ?_
                      exact C76 2 _ _ hh_3 (by first | omega | (refine ⟨?_, ?_⟩ <;> (first | omega | rfl | assumption | decide | exact Or.inl rfl | exact Or.inr rfl | (simp only; omega)))) _ (lv_sub hl [0, 1, 2, 3, 4] rfl)
              · skip
                have c_5' : v3_3.toInt = a1.toInt := jb_ne_n (rfl) (rfl) c_5
                refine lv_iconst (v := (-1)) hx hb dX14_lineBegin_43 (by decide) ?_
                rw [hQ]
                exact W.iret (v := (-1)) hx hb hr (fun t ht hW => ⟨⟨(-1), (), rfl, by first | omega | (refine ⟨?_, ?_, ?_⟩ <;> (first | omega | rfl | assumption | decide | exact Or.inl rfl | exact Or.inr rfl | (simp only; omega))), hh_3.rt (M1 := []) [] rfl ht⟩, by rw [ht]; try exact hh_3.1.1, fun q h9 hq => by rw [ht]; try exact hh_3.1.2.1 q h9 hq⟩) hh_3.1.2.2 dX14_lineBegin_44
            · skip
              have c_4' : v3_3.toInt < a1.toInt := jb_ge_n (rfl) (rfl) c_4
              refine lv_aload_n hx hb dX14_lineBegin_16 rfl (lv_at hl 0 rfl) ?_
              refine lv_iload_n hx hb dX14_lineBegin_17 rfl (lv_at hl 3 rfl) ?_
              refine j7_iald hx hb hK hh_3 hB194 1 rfl (by decide) hg_r0 (x := v3_3.toInt) (rfl) (by omega) dX14_lineBegin_18 (fun z_16 (hz_16 : True) => ?_)
              refine lv_bipush (v := 10) hx hb dX14_lineBegin_19 (by decide) ?_
              refine lv_icmp_eq (tgt := 38) hx hb dX14_lineBegin_21 (by decide) (fun c_17 => ?_) (fun c_17 => ?_)
              · skip
                have c_17' : z_16.toInt = 10 := jb_eq (rfl) ((by decide)) c_17
                refine lv_iload_n hx hb dX14_lineBegin_38 rfl (lv_at hl 3 rfl) ?_
                refine lv_iload_n hx hb dX14_lineBegin_39 rfl (lv_at hl 1 rfl) ?_
                refine lv_icmp_ne (tgt := 45) hx hb dX14_lineBegin_40 (by decide) (fun c_18 => ?_) (fun c_18 => ?_)
                · skip
                  have c_18' : v3_3.toInt ≠ a1.toInt := jb_ne (rfl) (rfl) c_18
                  refine lv_iload_n hx hb dX14_lineBegin_45 rfl (lv_at hl 3 rfl) ?_
                  refine lv_aload_n hx hb dX14_lineBegin_46 rfl (lv_at hl 0 rfl) ?_
                  refine lv_iload_n hx hb dX14_lineBegin_47 rfl (lv_at hl 3 rfl) ?_
                  refine j7_iald hx hb hK hh_3 hB194 1 rfl (by decide) hg_r0 (x := v3_3.toInt) (rfl) (by omega) dX14_lineBegin_48 (fun z_19 (hz_19 : True) => ?_)
                  refine lv_bipush (v := 13) hx hb dX14_lineBegin_49 (by decide) ?_
                  have C76 : ∀ (w0_20 : Int32) (H_20 : Heap) (locs_20 : List Loc), jSt (dC, dI) B base G0 G0 EX14_lineBeginv9 s.heap 0 0 [] [] [] H_20 locs_20 → (1 ≤ w0_20.toInt ∧ v3_3.toInt + w0_20.toInt ≤ a1.toInt) → ∀ ls : Array Slot, lv_has ls 5 [(0, .ref r0), (1, .int a1), (2, .int a2), (3, .int v3_3), (4, .int v4_1)] → W p l e R s m ([.ref r0, .int a1, .int a2] : List Value).toArray below meth c H_20 locs_20 0 0 Q (F0 m 76 ls [.int w0_20, .int v3_3]) := by
                    intro w0_20 H_20 locs_20 hh_20  hi_20 ls hl
                    obtain ⟨hi_20_0, hi_20_1⟩ := hi_20
                    refine lv_iadd hx hb dX14_lineBegin_76 ?_
                    refine lv_topi (fun z_21 ez_21 => ?_)
                    have hz_21 : z_21.toInt = v3_3.toInt + w0_20.toInt := by rw [ez_21]; exact jb_iadd2 (rfl) (rfl) (by omega)
                    refine lv_istore_n (lv' := [(3, .int z_21), (0, .ref r0), (1, .int a1), (2, .int a2), (4, .int v4_1)]) hx hb dX14_lineBegin_77 rfl hl (by decide) rfl (fun ls hl => ?_)
                    obtain ⟨z_22, ez_22⟩ : ∃ y : Int32, y = v4_1 + 1 := ⟨_, rfl⟩
                    refine lv_iinc (v := z_22) (lv' := [(4, .int z_22), (3, .int z_21), (0, .ref r0), (1, .int a1), (2, .int a2)]) hx hb dX14_lineBegin_78 hl (k := 4) rfl (by rw [ez_22]; rfl) (by decide) rfl (fun ls hl => ?_)
                    have hz_22 : z_22.toInt = v4_1.toInt + 1 := by rw [ez_22]; exact jb_iadd2 (rfl) (by decide) (by omega)
                    refine lv_goto (tgt := 5) hx hb dX14_lineBegin_81 (by decide) ?_
                    exact L5 z_21 z_22 _ _ hh_20 (by first | omega | (refine ⟨?_, ?_, ?_⟩ <;> (first | omega | rfl | assumption | decide | exact Or.inl rfl | exact Or.inr rfl | (simp only; omega)))) (by omega) _ (lv_sub hl [2, 3, 4, 1, 0] rfl)
                  refine lv_icmp_ne (tgt := 75) hx hb dX14_lineBegin_51 (by decide) (fun c_23 => ?_) (fun c_23 => ?_)
                  · skip
                    have c_23' : z_19.toInt ≠ 13 := jb_ne (rfl) ((by decide)) c_23
                    refine lv_iconst (v := 1) hx hb dX14_lineBegin_75 (by decide) ?_
                    exact C76 1 _ _ hh_3 (by first | omega | (refine ⟨?_, ?_⟩ <;> (first | omega | rfl | assumption | decide | exact Or.inl rfl | exact Or.inr rfl | (simp only; omega)))) _ (lv_sub hl [0, 1, 2, 3, 4] rfl)
                  · skip
                    have c_23' : z_19.toInt = 13 := jb_ne_n (rfl) ((by decide)) c_23
                    refine lv_iload_n hx hb dX14_lineBegin_54 rfl (lv_at hl 3 rfl) ?_
                    refine lv_iconst (v := 1) hx hb dX14_lineBegin_55 (by decide) ?_
                    refine lv_iadd hx hb dX14_lineBegin_56 ?_
                    refine lv_topi (fun z_24 ez_24 => ?_)
                    have hz_24 : z_24.toInt = v3_3.toInt + 1 := by rw [ez_24]; exact jb_iadd2 (rfl) ((by decide)) (by omega)
                    refine lv_iload_n hx hb dX14_lineBegin_57 rfl (lv_at hl 1 rfl) ?_
                    refine lv_icmp_ge (tgt := 75) hx hb dX14_lineBegin_58 (by decide) (fun c_25 => ?_) (fun c_25 => ?_)
                    · skip
                      have c_25' : z_24.toInt ≥ a1.toInt := jb_ge (rfl) (rfl) c_25
                      refine lv_iconst (v := 1) hx hb dX14_lineBegin_75 (by decide) ?_
                      exact C76 1 _ _ hh_3 (by first | omega | (refine ⟨?_, ?_⟩ <;> (first | omega | rfl | assumption | decide | exact Or.inl rfl | exact Or.inr rfl | (simp only; omega)))) _ (lv_sub hl [0, 1, 2, 3, 4] rfl)
                    · skip
                      have c_25' : z_24.toInt < a1.toInt := jb_ge_n (rfl) (rfl) c_25
                      refine lv_aload_n hx hb dX14_lineBegin_61 rfl (lv_at hl 0 rfl) ?_
                      refine lv_iload_n hx hb dX14_lineBegin_62 rfl (lv_at hl 3 rfl) ?_
                      refine lv_iconst (v := 1) hx hb dX14_lineBegin_63 (by decide) ?_
                      refine lv_iadd hx hb dX14_lineBegin_64 ?_
                      refine lv_topi (fun z_26 ez_26 => ?_)
                      have hz_26 : z_26.toInt = v3_3.toInt + 1 := by rw [ez_26]; exact jb_iadd2 (rfl) ((by decide)) (by omega)
                      refine j7_iald hx hb hK hh_3 hB194 1 rfl (by decide) hg_r0 (x := z_26.toInt) (rfl) (by omega) dX14_lineBegin_65 (fun z_27 (hz_27 : True) => ?_)
                      refine lv_bipush (v := 10) hx hb dX14_lineBegin_66 (by decide) ?_
                      refine lv_icmp_ne (tgt := 75) hx hb dX14_lineBegin_68 (by decide) (fun c_28 => ?_) (fun c_28 => ?_)
                      · skip
                        have c_28' : z_27.toInt ≠ 10 := jb_ne (rfl) ((by decide)) c_28
                        refine lv_iconst (v := 1) hx hb dX14_lineBegin_75 (by decide) ?_
                        exact C76 1 _ _ hh_3 (by first | omega | (refine ⟨?_, ?_⟩ <;> (first | omega | rfl | assumption | decide | exact Or.inl rfl | exact Or.inr rfl | (simp only; omega)))) _ (lv_sub hl [0, 1, 2, 3, 4] rfl)
                      · skip
                        have c_28' : z_27.toInt = 10 := jb_ne_n (rfl) ((by decide)) c_28
                        refine lv_iconst (v := 2) hx hb dX14_lineBegin_71 (by decide) ?_
                        refine lv_goto (tgt := 76) hx hb dX14_lineBegin_72 (by decide) ?_
                        exact C76 2 _ _ hh_3 (by first | omega | (refine ⟨?_, ?_⟩ <;> (first | omega | rfl | assumption | decide | exact Or.inl rfl | exact Or.inr rfl | (simp only; omega)))) _ (lv_sub hl [0, 1, 2, 3, 4] rfl)
                · skip
                  have c_18' : v3_3.toInt = a1.toInt := jb_ne_n (rfl) (rfl) c_18
                  refine lv_iconst (v := (-1)) hx hb dX14_lineBegin_43 (by decide) ?_
                  rw [hQ]
                  exact W.iret (v := (-1)) hx hb hr (fun t ht hW => ⟨⟨(-1), (), rfl, by first | omega | (refine ⟨?_, ?_, ?_⟩ <;> (first | omega | rfl | assumption | decide | exact Or.inl rfl | exact Or.inr rfl | (simp only; omega))), hh_3.rt (M1 := []) [] rfl ht⟩, by rw [ht]; try exact hh_3.1.1, fun q h9 hq => by rw [ht]; try exact hh_3.1.2.1 q h9 hq⟩) hh_3.1.2.2 dX14_lineBegin_44
              · skip
                have c_17' : z_16.toInt ≠ 10 := jb_eq_n (rfl) ((by decide)) c_17
                refine lv_aload_n hx hb dX14_lineBegin_24 rfl (lv_at hl 0 rfl) ?_
                refine lv_iload_n hx hb dX14_lineBegin_25 rfl (lv_at hl 3 rfl) ?_
                refine j7_iald hx hb hK hh_3 hB194 1 rfl (by decide) hg_r0 (x := v3_3.toInt) (rfl) (by omega) dX14_lineBegin_26 (fun z_29 (hz_29 : True) => ?_)
                refine lv_bipush (v := 13) hx hb dX14_lineBegin_27 (by decide) ?_
                refine lv_icmp_eq (tgt := 38) hx hb dX14_lineBegin_29 (by decide) (fun c_30 => ?_) (fun c_30 => ?_)
                · skip
                  have c_30' : z_29.toInt = 13 := jb_eq (rfl) ((by decide)) c_30
                  refine lv_iload_n hx hb dX14_lineBegin_38 rfl (lv_at hl 3 rfl) ?_
                  refine lv_iload_n hx hb dX14_lineBegin_39 rfl (lv_at hl 1 rfl) ?_
                  refine lv_icmp_ne (tgt := 45) hx hb dX14_lineBegin_40 (by decide) (fun c_31 => ?_) (fun c_31 => ?_)
                  · skip
                    have c_31' : v3_3.toInt ≠ a1.toInt := jb_ne (rfl) (rfl) c_31
                    refine lv_iload_n hx hb dX14_lineBegin_45 rfl (lv_at hl 3 rfl) ?_
                    refine lv_aload_n hx hb dX14_lineBegin_46 rfl (lv_at hl 0 rfl) ?_
                    refine lv_iload_n hx hb dX14_lineBegin_47 rfl (lv_at hl 3 rfl) ?_
                    refine j7_iald hx hb hK hh_3 hB194 1 rfl (by decide) hg_r0 (x := v3_3.toInt) (rfl) (by omega) dX14_lineBegin_48 (fun z_32 (hz_32 : True) => ?_)
                    refine lv_bipush (v := 13) hx hb dX14_lineBegin_49 (by decide) ?_
                    have C76 : ∀ (w0_33 : Int32) (H_33 : Heap) (locs_33 : List Loc), jSt (dC, dI) B base G0 G0 EX14_lineBeginv9 s.heap 0 0 [] [] [] H_33 locs_33 → (1 ≤ w0_33.toInt ∧ v3_3.toInt + w0_33.toInt ≤ a1.toInt) → ∀ ls : Array Slot, lv_has ls 5 [(0, .ref r0), (1, .int a1), (2, .int a2), (3, .int v3_3), (4, .int v4_1)] → W p l e R s m ([.ref r0, .int a1, .int a2] : List Value).toArray below meth c H_33 locs_33 0 0 Q (F0 m 76 ls [.int w0_33, .int v3_3]) := by
                      intro w0_33 H_33 locs_33 hh_33  hi_33 ls hl
                      obtain ⟨hi_33_0, hi_33_1⟩ := hi_33
                      refine lv_iadd hx hb dX14_lineBegin_76 ?_
                      refine lv_topi (fun z_34 ez_34 => ?_)
                      have hz_34 : z_34.toInt = v3_3.toInt + w0_33.toInt := by rw [ez_34]; exact jb_iadd2 (rfl) (rfl) (by omega)
                      refine lv_istore_n (lv' := [(3, .int z_34), (0, .ref r0), (1, .int a1), (2, .int a2), (4, .int v4_1)]) hx hb dX14_lineBegin_77 rfl hl (by decide) rfl (fun ls hl => ?_)
                      obtain ⟨z_35, ez_35⟩ : ∃ y : Int32, y = v4_1 + 1 := ⟨_, rfl⟩
                      refine lv_iinc (v := z_35) (lv' := [(4, .int z_35), (3, .int z_34), (0, .ref r0), (1, .int a1), (2, .int a2)]) hx hb dX14_lineBegin_78 hl (k := 4) rfl (by rw [ez_35]; rfl) (by decide) rfl (fun ls hl => ?_)
                      have hz_35 : z_35.toInt = v4_1.toInt + 1 := by rw [ez_35]; exact jb_iadd2 (rfl) (by decide) (by omega)
                      refine lv_goto (tgt := 5) hx hb dX14_lineBegin_81 (by decide) ?_
                      exact L5 z_34 z_35 _ _ hh_33 (by first | omega | (refine ⟨?_, ?_, ?_⟩ <;> (first | omega | rfl | assumption | decide | exact Or.inl rfl | exact Or.inr rfl | (simp only; omega)))) (by omega) _ (lv_sub hl [2, 3, 4, 1, 0] rfl)
                    refine lv_icmp_ne (tgt := 75) hx hb dX14_lineBegin_51 (by decide) (fun c_36 => ?_) (fun c_36 => ?_)
                    · skip
                      have c_36' : z_32.toInt ≠ 13 := jb_ne (rfl) ((by decide)) c_36
                      refine lv_iconst (v := 1) hx hb dX14_lineBegin_75 (by decide) ?_
                      exact C76 1 _ _ hh_3 (by first | omega | (refine ⟨?_, ?_⟩ <;> (first | omega | rfl | assumption | decide | exact Or.inl rfl | exact Or.inr rfl | (simp only; omega)))) _ (lv_sub hl [0, 1, 2, 3, 4] rfl)
                    · skip
                      have c_36' : z_32.toInt = 13 := jb_ne_n (rfl) ((by decide)) c_36
                      refine lv_iload_n hx hb dX14_lineBegin_54 rfl (lv_at hl 3 rfl) ?_
                      refine lv_iconst (v := 1) hx hb dX14_lineBegin_55 (by decide) ?_
                      refine lv_iadd hx hb dX14_lineBegin_56 ?_
                      refine lv_topi (fun z_37 ez_37 => ?_)
                      have hz_37 : z_37.toInt = v3_3.toInt + 1 := by rw [ez_37]; exact jb_iadd2 (rfl) ((by decide)) (by omega)
                      refine lv_iload_n hx hb dX14_lineBegin_57 rfl (lv_at hl 1 rfl) ?_
                      refine lv_icmp_ge (tgt := 75) hx hb dX14_lineBegin_58 (by decide) (fun c_38 => ?_) (fun c_38 => ?_)
                      · skip
                        have c_38' : z_37.toInt ≥ a1.toInt := jb_ge (rfl) (rfl) c_38
                        refine lv_iconst (v := 1) hx hb dX14_lineBegin_75 (by decide) ?_
                        exact C76 1 _ _ hh_3 (by first | omega | (refine ⟨?_, ?_⟩ <;> (first | omega | rfl | assumption | decide | exact Or.inl rfl | exact Or.inr rfl | (simp only; omega)))) _ (lv_sub hl [0, 1, 2, 3, 4] rfl)
                      · skip
                        have c_38' : z_37.toInt < a1.toInt := jb_ge_n (rfl) (rfl) c_38
                        refine lv_aload_n hx hb dX14_lineBegin_61 rfl (lv_at hl 0 rfl) ?_
                        refine lv_iload_n hx hb dX14_lineBegin_62 rfl (lv_at hl 3 rfl) ?_
                        refine lv_iconst (v := 1) hx hb dX14_lineBegin_63 (by decide) ?_
                        refine lv_iadd hx hb dX14_lineBegin_64 ?_
                        refine lv_topi (fun z_39 ez_39 => ?_)
                        have hz_39 : z_39.toInt = v3_3.toInt + 1 := by rw [ez_39]; exact jb_iadd2 (rfl) ((by decide)) (by omega)
                        refine j7_iald hx hb hK hh_3 hB194 1 rfl (by decide) hg_r0 (x := z_39.toInt) (rfl) (by omega) dX14_lineBegin_65 (fun z_40 (hz_40 : True) => ?_)
                        refine lv_bipush (v := 10) hx hb dX14_lineBegin_66 (by decide) ?_
                        refine lv_icmp_ne (tgt := 75) hx hb dX14_lineBegin_68 (by decide) (fun c_41 => ?_) (fun c_41 => ?_)
                        · skip
                          have c_41' : z_40.toInt ≠ 10 := jb_ne (rfl) ((by decide)) c_41
                          refine lv_iconst (v := 1) hx hb dX14_lineBegin_75 (by decide) ?_
                          exact C76 1 _ _ hh_3 (by first | omega | (refine ⟨?_, ?_⟩ <;> (first | omega | rfl | assumption | decide | exact Or.inl rfl | exact Or.inr rfl | (simp only; omega)))) _ (lv_sub hl [0, 1, 2, 3, 4] rfl)
                        · skip
                          have c_41' : z_40.toInt = 10 := jb_ne_n (rfl) ((by decide)) c_41
                          refine lv_iconst (v := 2) hx hb dX14_lineBegin_71 (by decide) ?_
                          refine lv_goto (tgt := 76) hx hb dX14_lineBegin_72 (by decide) ?_
                          exact C76 2 _ _ hh_3 (by first | omega | (refine ⟨?_, ?_⟩ <;> (first | omega | rfl | assumption | decide | exact Or.inl rfl | exact Or.inr rfl | (simp only; omega)))) _ (lv_sub hl [0, 1, 2, 3, 4] rfl)
                  · skip
                    have c_31' : v3_3.toInt = a1.toInt := jb_ne_n (rfl) (rfl) c_31
                    refine lv_iconst (v := (-1)) hx hb dX14_lineBegin_43 (by decide) ?_
                    rw [hQ]
                    exact W.iret (v := (-1)) hx hb hr (fun t ht hW => ⟨⟨(-1), (), rfl, by first | omega | (refine ⟨?_, ?_, ?_⟩ <;> (first | omega | rfl | assumption | decide | exact Or.inl rfl | exact Or.inr rfl | (simp only; omega))), hh_3.rt (M1 := []) [] rfl ht⟩, by rw [ht]; try exact hh_3.1.1, fun q h9 hq => by rw [ht]; try exact hh_3.1.2.1 q h9 hq⟩) hh_3.1.2.2 dX14_lineBegin_44
                · skip
                  have c_30' : z_29.toInt ≠ 13 := jb_eq_n (rfl) ((by decide)) c_30
                  obtain ⟨z_42, ez_42⟩ : ∃ y : Int32, y = v3_3 + 1 := ⟨_, rfl⟩
                  refine lv_iinc (v := z_42) (lv' := [(3, .int z_42), (0, .ref r0), (1, .int a1), (2, .int a2), (4, .int v4_1)]) hx hb dX14_lineBegin_32 hl (k := 3) rfl (by rw [ez_42]; rfl) (by decide) rfl (fun ls hl => ?_)
                  have hz_42 : z_42.toInt = v3_3.toInt + 1 := by rw [ez_42]; exact jb_iadd2 (rfl) (by decide) (by omega)
                  refine lv_goto (tgt := 11) hx hb dX14_lineBegin_35 (by decide) ?_
                  exact L11 z_42 _ _ hh_3 (by first | omega | (refine ⟨?_, ?_⟩ <;> (first | omega | rfl | assumption | decide | exact Or.inl rfl | exact Or.inr rfl | (simp only; omega)))) (by omega) _ (lv_sub hl [1, 2, 3, 0, 4] rfl)
        exact L11 (a1.toInt - (v3_1 : Int32).toInt : Int).toNat.succ v3_1 _ _ hh_1 (by first | omega | (refine ⟨?_, ?_⟩ <;> (first | omega | rfl | assumption | decide | exact Or.inl rfl | exact Or.inr rfl | (simp only; omega)))) (by omega) _ (lv_sub hl [0, 1, 2, 3, 4] rfl)
  exact L5 (((a2.toInt - (0 : Int32).toInt).toNat : Int) : Int).toNat.succ 0 0 _ _ hh (by first | omega | (refine ⟨?_, ?_, ?_⟩ <;> (first | omega | rfl | assumption | decide | exact Or.inl rfl | exact Or.inr rfl | (simp only; omega)))) (by omega) _ (lv_sub hl [2, 3, 4, 1, 0] rfl)
end
