section
def EX10_isTermB : List (Nat × Nat) := [(12, 4), (12, 10), (280, 0)]
def EX10_isOneB : List (Nat × Nat) := [(12, 4), (12, 10), (280, 0)]
def EX10_isChainB : List (Nat × Nat) := [(12, 4), (12, 10), (280, 0)]
def qX10_isTermB (l : Launch) (dC : Nat → ClassId) (dI : Nat → Nat → Nat) (ca : Nat → ClassId) (base : Nat) (B : jF) (ef : Nat) : Prop := ∀ (G0 : jT) (H0 : Heap) (r0 : Nat) (a1 : Int32) (a2 : Int32) (tk : Int32) (pa : Int32) (nc : Int32) (zv : Nat) (fn : Nat → Int32), Met l yX10_isTerm (jw yX10_isTerm cX10_isTerm 6 (some .boolean)) ({ frames := ef + 3, cells := 0, slots := 0, locals := 60 * ef + 120 }) (va_Pc [.ref r0, .int a1, .int a2] (fun U => U.heap = H0 ∧ jX B base G0 [] H0 ∧ jG dC dI ca base U ∧ G0 r0 = some (12, 0) ∧ G0 zv = some (280, 3000) ∧ jP (dC, dI) G0 H0 [(r0, 12, 3, .int tk), (r0, 12, 4, .int pa), (r0, 12, 10, .int nc), (r0, 12, 9, .ref zv)] ∧ jMc (dC, dI) G0 H0 [(zv, 280, 3000, ca 1, fn)] ∧ 0 ≤ tk.toInt ∧ tk.toInt ≤ 1500 ∧ 0 ≤ pa.toInt ∧ pa.toInt ≤ 1503 ∧ 0 ≤ nc.toInt ∧ nc.toInt ≤ 3000 ∧ pa.toInt ≤ tk.toInt ∧ a2.toInt = 12 - ef ∧ ef ≤ 12 ∧ 0 ≤ a1.toInt ∧ a1.toInt ≤ 15)) (va_Qi (S := Int32 × Int32 × (Nat → Int32)) (fun r u => (r = 0 ∨ r = 1) ∧ (0 ≤ u.1.toInt ∧ u.1.toInt ≤ tk.toInt + 2 ∧ nc.toInt ≤ u.2.1.toInt ∧ u.2.1.toInt ≤ 3000 ∧ (r.toInt = 0 ∨ (u.1.toInt ≤ tk.toInt ∧ nc.toInt + 1 ≤ u.2.1.toInt)) ∧ jKb fn u.2.2 nc.toInt ∧ (r.toInt = 0 ∨ (0 ≤ jSo u.2.2 nc.toInt ∧ jSo u.2.2 nc.toInt < 268435456)))) (fun u t => jRt (dC, dI) B base G0 EX10_isTermB H0 [(r0, 12, 4, .int u.1), (r0, 12, 10, .int u.2.1)] t.heap ∧ jMc (dC, dI) G0 t.heap [(zv, 280, 3000, ca 1, u.2.2)]) (jA base)) 0 0 (jA base)
def qX10_isOneB (l : Launch) (dC : Nat → ClassId) (dI : Nat → Nat → Nat) (ca : Nat → ClassId) (base : Nat) (B : jF) (ef : Nat) : Prop := ∀ (G0 : jT) (H0 : Heap) (r0 : Nat) (a1 : Int32) (tk : Int32) (pa : Int32) (nc : Int32), Met l yX10_isOne (jw yX10_isOne cX10_isOne 6 (some .boolean)) ({ frames := 5 * ef + 5, cells := 0, slots := 0, locals := 160 * ef + 200 }) (va_Pc [.ref r0, .int a1] (fun U => U.heap = H0 ∧ jX B base G0 [] H0 ∧ jG dC dI ca base U ∧ G0 r0 = some (12, 0) ∧ jP (dC, dI) G0 H0 [(r0, 12, 3, .int tk), (r0, 12, 4, .int pa), (r0, 12, 10, .int nc)] ∧ 0 ≤ tk.toInt ∧ tk.toInt ≤ 1500 ∧ 0 ≤ pa.toInt ∧ pa.toInt ≤ 1503 ∧ 0 ≤ nc.toInt ∧ nc.toInt ≤ 3000 ∧ pa.toInt ≤ tk.toInt ∧ a1.toInt = 12 - ef ∧ ef ≤ 12)) (va_Qi (S := Int32 × Int32) (fun r u => (r = 0 ∨ r = 1) ∧ (0 ≤ u.1.toInt ∧ u.1.toInt ≤ tk.toInt + 2 ∧ nc.toInt ≤ u.2.toInt ∧ u.2.toInt ≤ 3000 ∧ (r.toInt = 0 ∨ (u.1.toInt ≤ tk.toInt ∧ nc.toInt + 1 ≤ u.2.toInt)))) (fun u t => jRt (dC, dI) B base G0 EX10_isOneB H0 [(r0, 12, 4, .int u.1), (r0, 12, 10, .int u.2)] t.heap) (jA base)) 0 0 (jA base)
def qX10_isChainB (l : Launch) (dC : Nat → ClassId) (dI : Nat → Nat → Nat) (ca : Nat → ClassId) (base : Nat) (B : jF) (ef : Nat) (jf : Nat) : Prop := ∀ (G0 : jT) (H0 : Heap) (r0 : Nat) (a1 : Int32) (a2 : Int32) (tk : Int32) (pa : Int32) (nc : Int32), Met l yX10_isChain (jw yX10_isChain cX10_isChain 6 (some .boolean)) ({ frames := 5 * ef + 6 + jf, cells := 0, slots := 0, locals := 160 * ef + 230 + 30 * jf }) (va_Pc [.ref r0, .int a1, .int a2] (fun U => U.heap = H0 ∧ jX B base G0 [] H0 ∧ jG dC dI ca base U ∧ G0 r0 = some (12, 0) ∧ jP (dC, dI) G0 H0 [(r0, 12, 3, .int tk), (r0, 12, 4, .int pa), (r0, 12, 10, .int nc)] ∧ 0 ≤ tk.toInt ∧ tk.toInt ≤ 1500 ∧ 0 ≤ pa.toInt ∧ pa.toInt ≤ 1503 ∧ 0 ≤ nc.toInt ∧ nc.toInt ≤ 3000 ∧ pa.toInt ≤ tk.toInt ∧ a2.toInt = 12 - ef ∧ ef ≤ 12 ∧ a1.toInt = 2 - jf ∧ jf ≤ 2)) (va_Qi (S := Int32 × Int32) (fun r u => (r = 0 ∨ r = 1) ∧ (0 ≤ u.1.toInt ∧ u.1.toInt ≤ tk.toInt + 2 ∧ nc.toInt ≤ u.2.toInt ∧ u.2.toInt ≤ 3000 ∧ (r.toInt = 0 ∨ (u.1.toInt ≤ tk.toInt ∧ nc.toInt + 1 ≤ u.2.toInt)))) (fun u t => jRt (dC, dI) B base G0 EX10_isChainB H0 [(r0, 12, 4, .int u.1), (r0, 12, 10, .int u.2)] t.heap) (jA base)) 0 0 (jA base)
set_option maxHeartbeats 4000000 in
set_option maxRecDepth 20000 in
theorem uX10_isTermB (l : Launch) (dC : Nat → ClassId) (dI : Nat → Nat → Nat) (ca : Nat → ClassId) (base : Nat) (B : jF) (hB : jBok B) (hAp : jAp (dC, dI)) (hB12 : ∀ n G a H, B 12 n G a H ↔ jOb (dC, dI) 12 11 (F12b n G) a H) (hB101 : ∀ n G a H, B 101 n G a H ↔ jAr (dC, dI) (ca 1) (fun j z => True) n a H) (hB280 : ∀ n G a H, B 280 n G a H ↔ jAr (dC, dI) (ca 1) (fun j z => -1 ≤ z.toInt) n a H) (hB293 : ∀ n G a H, B 293 n G a H ↔ jAr (dC, dI) (ca 1) (fun j z => -1 ≤ z.toInt ∧ z.toInt ≤ 8191) n a H) (ef : Nat) (ih : ∀ e1, e1 < ef → qX10_isTermB l dC dI ca base B e1) (G0 : jT) (H0 : Heap) (r0 : Nat) (a1 : Int32) (a2 : Int32) (tk : Int32) (pa : Int32) (nc : Int32) (zv : Nat) (fn : Nat → Int32) : Met l yX10_isTerm (jw yX10_isTerm cX10_isTerm 6 (some .boolean)) ({ frames := ef + 3, cells := 0, slots := 0, locals := 60 * ef + 120 }) (va_Pc [.ref r0, .int a1, .int a2] (fun U => U.heap = H0 ∧ jX B base G0 [] H0 ∧ jG dC dI ca base U ∧ G0 r0 = some (12, 0) ∧ G0 zv = some (280, 3000) ∧ jP (dC, dI) G0 H0 [(r0, 12, 3, .int tk), (r0, 12, 4, .int pa), (r0, 12, 10, .int nc), (r0, 12, 9, .ref zv)] ∧ jMc (dC, dI) G0 H0 [(zv, 280, 3000, ca 1, fn)] ∧ 0 ≤ tk.toInt ∧ tk.toInt ≤ 1500 ∧ 0 ≤ pa.toInt ∧ pa.toInt ≤ 1503 ∧ 0 ≤ nc.toInt ∧ nc.toInt ≤ 3000 ∧ pa.toInt ≤ tk.toInt ∧ a2.toInt = 12 - ef ∧ ef ≤ 12 ∧ 0 ≤ a1.toInt ∧ a1.toInt ≤ 15)) (va_Qi (S := Int32 × Int32 × (Nat → Int32)) (fun r u => (r = 0 ∨ r = 1) ∧ (0 ≤ u.1.toInt ∧ u.1.toInt ≤ tk.toInt + 2 ∧ nc.toInt ≤ u.2.1.toInt ∧ u.2.1.toInt ≤ 3000 ∧ (r.toInt = 0 ∨ (u.1.toInt ≤ tk.toInt ∧ nc.toInt + 1 ≤ u.2.1.toInt)) ∧ jKb fn u.2.2 nc.toInt ∧ (r.toInt = 0 ∨ (0 ≤ jSo u.2.2 nc.toInt ∧ jSo u.2.2 nc.toInt < 268435456)))) (fun u t => jRt (dC, dI) B base G0 EX10_isTermB H0 [(r0, 12, 4, .int u.1), (r0, 12, 10, .int u.2.1)] t.heap ∧ jMc (dC, dI) G0 t.heap [(zv, 280, 3000, ca 1, u.2.2)]) (jA base)) 0 0 (jA base) := by
  refine Met.ofW (cc := cX10_isTerm) (maxL := 6) (ret := (some .boolean)) (by decide) rfl ?_
  intro p e s m args below meth c s₁ Bd hml hv
  obtain ⟨rfl, hH0, hX, hG, hg_r0, hg_zv, hP0, hM0, hp0, hp1, hp2, hp3, hp4, hp5, hp6, hp7, hp8, hp9, hp10⟩ := hv
  have hK := hG.1
  have hx := Bd.exec
  have hb := Bd.bytes
  have hr := Bd.returns
  have hts := atoms_spec (ws := (jw yX10_isTerm cX10_isTerm 6 (some .boolean))) Bd.pre
  have htw : ∀ w ∈ jWl, w.before _ s = true := fun w h => hts w (List.mem_cons_of_mem _ h)
  have hown : s.vm.findClass RX10 = some m.cls := findClass_of_methodNamed Bd.named
  have hlocks := Bd.notSynchronized
  obtain ⟨Q, hQ⟩ : ∃ Q, Q = MQ below (va_Qi (S := Int32 × Int32 × (Nat → Int32)) (fun r u => (r = 0 ∨ r = 1) ∧ (0 ≤ u.1.toInt ∧ u.1.toInt ≤ tk.toInt + 2 ∧ nc.toInt ≤ u.2.1.toInt ∧ u.2.1.toInt ≤ 3000 ∧ (r.toInt = 0 ∨ (u.1.toInt ≤ tk.toInt ∧ nc.toInt + 1 ≤ u.2.1.toInt)) ∧ jKb fn u.2.2 nc.toInt ∧ (r.toInt = 0 ∨ (0 ≤ jSo u.2.2 nc.toInt ∧ jSo u.2.2 nc.toInt < 268435456)))) (fun u t => jRt (dC, dI) B base G0 EX10_isTermB H0 [(r0, 12, 4, .int u.1), (r0, 12, 10, .int u.2.1)] t.heap ∧ jMc (dC, dI) G0 t.heap [(zv, 280, 3000, ca 1, u.2.2)]) (jA base)) ([.ref r0, .int a1, .int a2] : List Value).toArray s 0 0 (jA base) := ⟨_, rfl⟩
  rw [← hQ]
  have hl := lv_entry ([.ref r0, .int a1, .int a2]) (n := 6) (Nat.le_of_ble_eq_true rfl)
  rw [lg_entry_eq]
  generalize (lg_sl ([.ref r0, .int a1, .int a2]) ++ List.replicate (6 - (lg_sl ([.ref r0, .int a1, .int a2])).length) Slot.unset).toArray = ls at hl ⊢
  have hl : lv_has ls 6 [(0, .ref r0), (1, .int a1), (2, .int a2)] := hl
  generalize hR : (headSpec (jw yX10_isTerm cX10_isTerm 6 (some .boolean)) ({ frames := ef + 3, cells := 0, slots := 0, locals := 60 * ef + 120 })).room = R
  subst hH0
  have hh : jSt (dC, dI) B base G0 G0 EX10_isTermB s.heap 0 0 [(r0, 12, 3, .int tk), (r0, 12, 4, .int pa), (r0, 12, 10, .int nc), (r0, 12, 9, .ref zv)] [(zv, 280, 3000, ca 1, fn)] [] s.heap [] := jSt.start hX hP0 hM0 jIs.nil
  clear hX hP0
  have hk0 : (0 : Int32).toInt = 0 := by decide
  have hk1 : (1 : Int32).toInt = 1 := by decide
  have hk2 : (2 : Int32).toInt = 2 := by decide
  have hk4 : (4 : Int32).toInt = 4 := by decide
  have hk8 : (8 : Int32).toInt = 8 := by decide
  have hk12 : (12 : Int32).toInt = 12 := by decide
  have hk15 : (15 : Int32).toInt = 15 := by decide
  have hk40 : (40 : Int32).toInt = 40 := by decide
  have hk41 : (41 : Int32).toInt = 41 := by decide
  have hk44 : (44 : Int32).toInt = 44 := by decide
  have hk2047 : (2047 : Int32).toInt = 2047 := by decide
  have hly_12_4 := htw (u_lay RX10 TX10 4) (jWc_wsX100 _ (u_in_lay (by decide)))
  have hly_12_9 := htw (u_lay RX10 TX10 9) (jWc_wsX100 _ (u_in_lay (by decide)))
  have hly_12_10 := htw (u_lay RX10 TX10 10) (jWc_wsX100 _ (u_in_lay (by decide)))
  have hlk_89 := (htw (.fieldLink RX10 89 "ProofServer$Syntax" "nodeCount" "I") (jWr_79 _ (List.mem_of_getElem? (i := 7) rfl)))
  have hlk_83 := (htw (.fieldLink RX10 83 "ProofServer$Syntax" "at" "I") (jWr_79 _ (List.mem_of_getElem? (i := 5) rfl)))
  have hlk_21 := (htw (.fieldLink RX10 21 "ProofServer$Syntax" "nodes" "[I") (jWr_8 _ (List.mem_of_getElem? (i := 11) rfl)))
  have hrg_a1 := jb_rng a1
  have hrg_a2 := jb_rng a2
  obtain ⟨fn0, hfn0⟩ : ∃ q, q = fn := ⟨_, rfl⟩
  refine lv_aload_n hx hb dX10_isTerm_0 rfl (lv_at hl 0 rfl) ?_
  refine j7_read hx hb hown hK (C := RX10) (T := TX10) (N := 11) rfl hly_12_10 hlk_89 (hh.at 2 rfl) dX10_isTerm_1 ?_
  refine lv_istore_n (lv' := [(3, .int nc), (0, .ref r0), (1, .int a1), (2, .int a2)]) hx hb dX10_isTerm_4 rfl hl (by decide) rfl (fun ls hl => ?_)
  refine lv_aload_n hx hb dX10_isTerm_5 rfl (lv_at hl 1 rfl) ?_
  refine va_calli (A0 := jA base) (H0 := s.heap) (va_runV (As := []) (rest := []) ⟨hx, hb, hml, hown, hts⟩ (uX10_peekNameB l dC dI ca base B hB hAp hB12 hB101 hB293 G0 s.heap r0 tk pa) (cwV 0 hts (jgV (jWr_79 _ (List.mem_of_getElem? (i := 14) rfl)) (jWr_79 _ (List.mem_of_getElem? (i := 15) rfl)) (jWr_79 _ (List.mem_of_getElem? (i := 16) rfl)) (jWr_4 _ (List.mem_of_getElem? (i := 14) rfl)) (jWr_79 _ (List.mem_of_getElem? (i := 17) rfl))) rfl rfl rfl (by decide +kernel) ⟨by rw [← hR]; show (1) + 1 ≤ ef + 3; omega, by rw [← hR]; show 8 + (1 + 11) + (20) ≤ 60 * ef + 120; omega⟩) ⟨fun a U g mk q => by obtain ⟨q0, q1, q2, qK, q10, q11, q12⟩ := q; exact ⟨q0, q1, q2, jG.calling g mk a qK, q10, q11, q12⟩, hh.recv (C := RX10) (T := TX10) (N := 11) hB12 rfl (by decide) hg_r0 hK, fun U hU hW => ⟨rfl, hU, hh.2.1, hG.step hW hU hh.1, hg_r0, (hh.2.2.1.sub (L1 := [(r0, 12, 3, .int tk), (r0, 12, 4, .int pa)]) [0, 1] rfl), by first | omega | (refine ⟨?_, ?_, ?_, ?_⟩ <;> (first | omega | rfl | assumption | decide | exact Or.inl rfl | exact Or.inr rfl | (simp only; omega)))⟩⟩ rfl rfl hl.1 rfl (lv_room (Nat.le_of_ble_eq_true rfl)) dX10_isTerm_6 ⟨Nat.zero_le _, Nat.zero_le _⟩) hh.1 (fun q _ h => h) (fun q h => h) (fun r_2 u_1 t_1 H_1 locs_1 ht_1 hvm_1 hr_2 hb_1 hz_1 hk_1 hS_1 => ?_)
  rw [ht_1] at hb_1
  obtain ⟨hb_11, hb_12, hb_13, hb_14, hb_15⟩ := hb_1
  have hh_1 : jSt (dC, dI) B base G0 G0 EX10_isTermB s.heap 0 0 [(r0, 12, 3, .int tk), (r0, 12, 4, .int pa), (r0, 12, 10, .int nc), (r0, 12, 9, .ref zv)] [(zv, 280, 3000, ca 1, fn)] [] H_1 locs_1 := ((hh.call hb_11 hb_12 hb_13 hb_14 hS_1 rfl (L1 := [(r0, 12, 3, .int tk), (r0, 12, 4, .int pa), (r0, 12, 10, .int nc), (r0, 12, 9, .ref zv)]) [0, 1, 2, 3] rfl rfl (M1 := [(zv, 280, 3000, ca 1, fn)]) [0] rfl rfl (I1 := []) [] rfl rfl).more hb_15)
  clear hh ht_1 hvm_1 hz_1 hk_1 hS_1 hb_11 hb_12 hb_13 hb_14 hb_15
  obtain ⟨hr_2_0, hr_2_1, hr_2_2⟩ := hr_2
  refine lv_istore (lv' := [(4, .int r_2), (3, .int nc), (0, .ref r0), (1, .int a1), (2, .int a2)]) hx hb dX10_isTerm_9 hl (by decide) rfl (fun ls hl => ?_)
  refine lv_aload_n hx hb dX10_isTerm_11 rfl (lv_at hl 2 rfl) ?_
  refine lv_dup hx hb dX10_isTerm_12 rfl ?_
  refine j7_read hx hb hown hK (C := RX10) (T := TX10) (N := 11) rfl hly_12_4 hlk_83 (hh_1.at 1 rfl) dX10_isTerm_13 ?_
  refine lv_iconst (v := 1) hx hb dX10_isTerm_16 (by decide) ?_
  refine lv_iadd hx hb dX10_isTerm_17 ?_
  refine lv_topi (fun z_3 ez_3 => ?_)
  have hz_3 : z_3.toInt = pa.toInt + 1 := by rw [ez_3]; exact jb_iadd2 (rfl) ((by decide)) (by omega)
  refine j7_put hx hb hown hK hh_1 hB hAp hB12 (C := RX10) (T := TX10) (N := 11) rfl (by decide) hg_r0 (i := 4) (by decide) hly_12_4 rfl hlk_83 rfl (ty := .int) (v := .int z_3) (by decide +kernel) rfl rfl (⟨_, rfl, by omega, by omega⟩) rfl (L1 := [(r0, 12, 3, .int tk), (r0, 12, 10, .int nc), (r0, 12, 9, .ref zv)]) [0, 2, 3] rfl rfl rfl dX10_isTerm_18 (fun H_4 locs_4 hh_4 => ?_)
  clear hh_1
  refine lv_iload hx hb dX10_isTerm_21 (lv_at hl 0 rfl) ?_
  refine lv_iconst (v := 2) hx hb dX10_isTerm_23 (by decide) ?_
  refine lv_icmp_le (tgt := 41) hx hb dX10_isTerm_24 (by decide) (fun c_5 => ?_) (fun c_5 => ?_)
  · skip
    have c_5' : r_2.toInt ≤ 2 := jb_le (rfl) ((by decide)) c_5
    first | (have hr_2_0q := hr_2_0.resolve_left (by omega); clear hr_2_0) | (have hr_2_0q := hr_2_0.resolve_right (by omega); clear hr_2_0) | skip
    refine lv_iconst (v := 0) hx hb dX10_isTerm_41 (by decide) ?_
    rw [hQ]
    exact W.zret (v := 0) hx hb hr (jb_nz (Or.inl rfl)) (fun t ht hW => ⟨⟨0, (z_3, nc, fn), rfl, ⟨(Or.inl rfl), by (try dsimp only); refine ⟨by omega, by omega, by omega, by omega, by omega, jKb.rf, by omega⟩⟩, ⟨hh_4.rt (M1 := [(r0, 12, 4, .int z_3), (r0, 12, 10, .int nc)]) [0, 2] rfl ht, by rw [ht]; exact hh_4.2.2.2.2.2.2.2.1.sub [0] rfl⟩⟩, by rw [ht]; try exact hh_4.1.1, fun q h9 hq => by rw [ht]; try exact hh_4.1.2.1 q h9 hq⟩) hh_4.1.2.2 dX10_isTerm_42
  · skip
    have c_5' : r_2.toInt > 2 := jb_le_n (rfl) ((by decide)) c_5
    first | (have hr_2_0q := hr_2_0.resolve_left (by omega); clear hr_2_0) | (have hr_2_0q := hr_2_0.resolve_right (by omega); clear hr_2_0) | skip
    refine lv_aload_n hx hb dX10_isTerm_27 rfl (lv_at hl 2 rfl) ?_
    refine lv_iload_n hx hb dX10_isTerm_28 rfl (lv_at hl 3 rfl) ?_
    refine lv_iload hx hb dX10_isTerm_29 (lv_at hl 0 rfl) ?_
    refine lv_bipush (v := 15) hx hb dX10_isTerm_31 (by decide) ?_
    refine lv_ishl hx hb dX10_isTerm_33 ?_
    refine lv_topi (fun z_6 ez_6 => ?_)
    refine lv_ior hx hb dX10_isTerm_34 ?_
    refine lv_topi (fun z_7 ez_7 => ?_)
    have hs9 := jb_shlc 15 32768 ez_6 (by decide) (by decide) (by omega) (by omega)
    have ho9 := jb_or28 ez_7 (by omega) (by omega) (by omega) (by omega)
    refine va_calli (A0 := jA base) (H0 := s.heap) (va_runV (As := [.int z_7]) (rest := []) ⟨hx, hb, hml, hown, hts⟩ (uX10_addNodeB l dC dI ca base B hB hAp hB12 hB280 G0 H_4 r0 z_7 nc zv fn) (cwV 1 hts (jgV (jWr_80 _ (List.mem_of_getElem? (i := 20) rfl)) (jWr_80 _ (List.mem_of_getElem? (i := 21) rfl)) (jWr_80 _ (List.mem_of_getElem? (i := 22) rfl)) (jWr_4 _ (List.mem_of_getElem? (i := 14) rfl)) (jWr_80 _ (List.mem_of_getElem? (i := 23) rfl))) rfl rfl rfl (by decide +kernel) ⟨by rw [← hR]; show (0) + 1 ≤ ef + 3; omega, by rw [← hR]; show 8 + (2 + 11) + (0) ≤ 60 * ef + 120; omega⟩) ⟨fun a U g mk q => by obtain ⟨q0, q1, q2, qK, q10, q11, q12, q13, q14⟩ := q; exact ⟨q0, q1, q2, jG.calling g mk a qK, q10, q11, q12, q13, q14⟩, hh_4.recv (C := RX10) (T := TX10) (N := 11) hB12 rfl (by decide) hg_r0 hK, fun U hU hW => ⟨rfl, hU, hh_4.2.1, hG.step hW hU hh_4.1, hg_r0, hg_zv, (hh_4.2.2.1.sub (L1 := [(r0, 12, 10, .int nc), (r0, 12, 9, .ref zv)]) [2, 3] rfl), (hh_4.2.2.2.2.2.2.2.1.sub (L1 := [(zv, 280, 3000, ca 1, fn)]) [0] rfl), by first | omega | (refine ⟨?_, ?_, ?_⟩ <;> (first | omega | rfl | assumption | decide | exact Or.inl rfl | exact Or.inr rfl | (simp only; omega)))⟩⟩ rfl rfl hl.1 rfl (lv_room (Nat.le_of_ble_eq_true rfl)) dX10_isTerm_35 ⟨Nat.zero_le _, Nat.zero_le _⟩) hh_4.1 (fun q _ h => h) (fun q h => h) (fun r_9 u_8 t_8 H_8 locs_8 ht_8 hvm_8 hr_9 hb_8 hz_8 hk_8 hS_8 => ?_)
    obtain ⟨qc_8, fn2_8⟩ := u_8
    rw [ht_8] at hb_8
    obtain ⟨⟨hb_81, hb_82, hb_83, hb_84, hb_85⟩, hb_86⟩ := hb_8
    have hh_8 : jSt (dC, dI) B base G0 G0 EX10_isTermB s.heap 0 0 [(r0, 12, 10, .int qc_8), (r0, 12, 4, .int z_3), (r0, 12, 3, .int tk), (r0, 12, 9, .ref zv)] [(zv, 280, 3000, ca 1, fn2_8)] [] H_8 locs_8 := ((hh_4.call hb_81 hb_82 hb_83 hb_84 hS_8 rfl (L1 := [(r0, 12, 4, .int z_3), (r0, 12, 3, .int tk), (r0, 12, 9, .ref zv)]) [0, 1, 3] rfl rfl (M1 := []) [] rfl rfl (I1 := []) [] rfl rfl).more hb_85).moreM hb_86
    clear hh_4 ht_8 hvm_8 hz_8 hk_8 hS_8 hb_81 hb_82 hb_83 hb_84 hb_85
    clear hb_86
    try simp only at hr_9
    obtain ⟨hr_9b, hr_9p⟩ := hr_9
    obtain ⟨hr_9p_0, hr_9p_1, hr_9p_2, hr_9p_3⟩ := hr_9p
    have hr_9' := jb_01 hr_9b
    refine lv_if_ne (tgt := 43) hx hb dX10_isTerm_38 (by decide) (fun c_10 => ?_) (fun c_10 => ?_)
    · skip
      have c_10' : r_9.toInt ≠ 0 := jb_ne (rfl) ((by decide)) c_10
      first | (have hr_9p_0q := hr_9p_0.resolve_left (by omega); clear hr_9p_0) | (have hr_9p_0q := hr_9p_0.resolve_right (by omega); clear hr_9p_0) | skip
      first | (have hr_9p_3q := hr_9p_3.resolve_left (by omega); clear hr_9p_3) | (have hr_9p_3q := hr_9p_3.resolve_right (by omega); clear hr_9p_3) | skip
      refine lv_aload_n hx hb dX10_isTerm_43 rfl (lv_at hl 2 rfl) ?_
      refine va_calli (A0 := jA base) (H0 := s.heap) (va_runV (As := []) (rest := []) ⟨hx, hb, hml, hown, hts⟩ (uX10_peekB l dC dI ca base B hB hAp hB12 hB101 G0 H_8 r0 tk z_3) (cwV 0 hts (jgV (jWr_79 _ (List.mem_of_getElem? (i := 18) rfl)) (jWr_79 _ (List.mem_of_getElem? (i := 19) rfl)) (jWr_79 _ (List.mem_of_getElem? (i := 20) rfl)) (jWr_4 _ (List.mem_of_getElem? (i := 14) rfl)) (jWr_79 _ (List.mem_of_getElem? (i := 21) rfl))) rfl rfl rfl (by decide +kernel) ⟨by rw [← hR]; show (0) + 1 ≤ ef + 3; omega, by rw [← hR]; show 8 + (1 + 11) + (0) ≤ 60 * ef + 120; omega⟩) ⟨fun a U g mk q => by obtain ⟨q0, q1, q2, qK, q10, q11, q12⟩ := q; exact ⟨q0, q1, q2, jG.calling g mk a qK, q10, q11, q12⟩, hh_8.recv (C := RX10) (T := TX10) (N := 11) hB12 rfl (by decide) hg_r0 hK, fun U hU hW => ⟨rfl, hU, hh_8.2.1, hG.step hW hU hh_8.1, hg_r0, (hh_8.2.2.1.sub (L1 := [(r0, 12, 3, .int tk), (r0, 12, 4, .int z_3)]) [2, 1] rfl), by first | omega | (refine ⟨?_, ?_, ?_, ?_⟩ <;> (first | omega | rfl | assumption | decide | exact Or.inl rfl | exact Or.inr rfl | (simp only; omega)))⟩⟩ rfl rfl hl.1 rfl (lv_room (Nat.le_of_ble_eq_true rfl)) dX10_isTerm_44 ⟨Nat.zero_le _, Nat.zero_le _⟩) hh_8.1 (fun q _ h => h) (fun q h => h) (fun r_12 u_11 t_11 H_11 locs_11 ht_11 hvm_11 hr_12 hb_11 hz_11 hk_11 hS_11 => ?_)
      rw [ht_11] at hb_11
      obtain ⟨hb_111, hb_112, hb_113, hb_114, hb_115⟩ := hb_11
      have hh_11 : jSt (dC, dI) B base G0 G0 EX10_isTermB s.heap 0 0 [(r0, 12, 10, .int qc_8), (r0, 12, 4, .int z_3), (r0, 12, 3, .int tk), (r0, 12, 9, .ref zv)] [(zv, 280, 3000, ca 1, fn2_8)] [] H_11 locs_11 := ((hh_8.call hb_111 hb_112 hb_113 hb_114 hS_11 rfl (L1 := [(r0, 12, 10, .int qc_8), (r0, 12, 4, .int z_3), (r0, 12, 3, .int tk), (r0, 12, 9, .ref zv)]) [0, 1, 2, 3] rfl rfl (M1 := [(zv, 280, 3000, ca 1, fn2_8)]) [0] rfl rfl (I1 := []) [] rfl rfl).more hb_115)
      clear hh_8 ht_11 hvm_11 hz_11 hk_11 hS_11 hb_111 hb_112 hb_113 hb_114 hb_115
      refine lv_bipush (v := 40) hx hb dX10_isTerm_47 (by decide) ?_
      refine lv_icmp_eq (tgt := 54) hx hb dX10_isTerm_49 (by decide) (fun c_13 => ?_) (fun c_13 => ?_)
      · skip
        have c_13' : r_12.toInt = 40 := jb_eq (rfl) ((by decide)) c_13
        first | (have hr_12q := hr_12.resolve_left (by omega); clear hr_12) | (have hr_12q := hr_12.resolve_right (by omega); clear hr_12) | try clear hr_12
        refine lv_iload_n hx hb dX10_isTerm_54 rfl (lv_at hl 4 rfl) ?_
        refine lv_bipush (v := 12) hx hb dX10_isTerm_55 (by decide) ?_
        refine lv_icmp_lt (tgt := 62) hx hb dX10_isTerm_57 (by decide) (fun c_14 => ?_) (fun c_14 => ?_)
        · skip
          have c_14' : a2.toInt < 12 := jb_lt (rfl) ((by decide)) c_14
          refine lv_iconst (v := 1) hx hb dX10_isTerm_62 (by decide) ?_
          refine lv_istore (lv' := [(5, .int 1), (4, .int r_2), (3, .int nc), (0, .ref r0), (1, .int a1), (2, .int a2)]) hx hb dX10_isTerm_63 hl (by decide) rfl (fun ls hl => ?_)
          have L65 : ∀ (N : Nat) (v5_15 : Int32) (wa_15 : Int32) (wc_15 : Int32) (fn_15 : Nat → Int32) (H_15 : Heap) (locs_15 : List Loc), jSt (dC, dI) B base G0 G0 EX10_isTermB s.heap 0 0 [(r0, 12, 4, .int wa_15), (r0, 12, 10, .int wc_15), (r0, 12, 3, .int tk), (r0, 12, 9, .ref zv)] [(zv, 280, 3000, ca 1, fn_15)] [] H_15 locs_15 → (1 ≤ v5_15.toInt ∧ v5_15.toInt ≤ 2048 ∧ 0 ≤ wa_15.toInt ∧ wa_15.toInt < tk.toInt ∧ nc.toInt + 1 ≤ wc_15.toInt ∧ wc_15.toInt ≤ 3000 ∧ jKb fn0 fn_15 nc.toInt ∧ 0 ≤ jSo fn_15 nc.toInt ∧ jSo fn_15 nc.toInt < 268435456) → (2048 - v5_15.toInt : Int) < N → ∀ ls : Array Slot, lv_has ls 6 [(0, .ref r0), (1, .int a1), (2, .int a2), (3, .int nc), (4, .int r_2), (5, .int v5_15)] → W p l e R s m ([.ref r0, .int a1, .int a2] : List Value).toArray below meth c H_15 locs_15 0 0 Q (F0 m 65 ls []) := by
            intro N
            induction N with
            | zero => intro v5_15 wa_15 wc_15 fn_15 H_15 locs_15 hh_15  hi_15 hm; exact absurd hm (by omega)
            | succ N L65 =>
              intro v5_15 wa_15 wc_15 fn_15 H_15 locs_15 hh_15  hi_15 hm_15 ls hl
              obtain ⟨hi_15_0, hi_15_1, hi_15_2, hi_15_3, hi_15_4, hi_15_5, hi_15_6, hi_15_7, hi_15_8⟩ := hi_15
              try clear hr_2_0; try clear hr_9p_0; try clear hr_9p_3
              refine lv_iload hx hb dX10_isTerm_65 (lv_at hl 5 rfl) ?_
              refine lv_sipush (v := 2047) hx hb dX10_isTerm_67 (by decide) ?_
              refine lv_icmp_gt (tgt := 132) hx hb dX10_isTerm_70 (by decide) (fun c_16 => ?_) (fun c_16 => ?_)
              · skip
                have c_16' : v5_15.toInt > 2047 := jb_gt (rfl) ((by decide)) c_16
                refine lv_iconst (v := 0) hx hb dX10_isTerm_132 (by decide) ?_
                rw [hQ]
                exact W.zret (v := 0) hx hb hr (jb_nz (Or.inl rfl)) (fun t ht hW => ⟨⟨0, (wa_15, wc_15, fn_15), rfl, ⟨(Or.inl rfl), by (try dsimp only); refine ⟨by omega, by omega, by omega, by omega, by omega, hi_15_6.cg hfn0.symm, Or.inl (by omega)⟩⟩, ⟨hh_15.rt (M1 := [(r0, 12, 4, .int wa_15), (r0, 12, 10, .int wc_15)]) [0, 1] rfl ht, by rw [ht]; exact hh_15.2.2.2.2.2.2.2.1.sub [0] rfl⟩⟩, by rw [ht]; try exact hh_15.1.1, fun q h9 hq => by rw [ht]; try exact hh_15.1.2.1 q h9 hq⟩) hh_15.1.2.2 dX10_isTerm_133
              · skip
                have c_16' : v5_15.toInt ≤ 2047 := jb_gt_n (rfl) ((by decide)) c_16
                refine lv_aload_n hx hb dX10_isTerm_73 rfl (lv_at hl 0 rfl) ?_
                refine lv_dup hx hb dX10_isTerm_74 rfl ?_
                refine j7_read hx hb hown hK (C := RX10) (T := TX10) (N := 11) rfl hly_12_4 hlk_83 (hh_15.at 0 rfl) dX10_isTerm_75 ?_
                refine lv_iconst (v := 1) hx hb dX10_isTerm_78 (by decide) ?_
                refine lv_iadd hx hb dX10_isTerm_79 ?_
                refine lv_topi (fun z_17 ez_17 => ?_)
                have hz_17 : z_17.toInt = wa_15.toInt + 1 := by rw [ez_17]; exact jb_iadd2 (rfl) ((by decide)) (by omega)
                refine j7_put hx hb hown hK hh_15 hB hAp hB12 (C := RX10) (T := TX10) (N := 11) rfl (by decide) hg_r0 (i := 4) (by decide) hly_12_4 rfl hlk_83 rfl (ty := .int) (v := .int z_17) (by decide +kernel) rfl rfl (⟨_, rfl, by omega, by omega⟩) rfl (L1 := [(r0, 12, 10, .int wc_15), (r0, 12, 3, .int tk), (r0, 12, 9, .ref zv)]) [1, 2, 3] rfl rfl rfl dX10_isTerm_80 (fun H_18 locs_18 hh_18 => ?_)
                clear hh_15
                refine lv_aload_n hx hb dX10_isTerm_83 rfl (lv_at hl 0 rfl) ?_
                refine lv_bipush (v := 8) hx hb dX10_isTerm_84 (by decide) ?_
                refine lv_iload_n hx hb dX10_isTerm_86 rfl (lv_at hl 2 rfl) ?_
                refine lv_iconst (v := 1) hx hb dX10_isTerm_87 (by decide) ?_
                refine lv_iadd hx hb dX10_isTerm_88 ?_
                refine lv_topi (fun z_19 ez_19 => ?_)
                have hz_19 : z_19.toInt = a2.toInt + 1 := by rw [ez_19]; exact jb_iadd2 (rfl) ((by decide)) (by omega)
                refine va_calli (A0 := jA base) (H0 := s.heap) (va_runV (As := [.int 8, .int z_19]) (rest := []) ⟨hx, hb, hml, hown, hts⟩ (ih (ef - 1) (by omega) G0 H_18 r0 8 z_19 tk z_17 wc_15 zv fn_15) (cwV 2 hts (jgV (jWr_81 _ (List.mem_of_getElem? (i := 0) rfl)) (jWr_81 _ (List.mem_of_getElem? (i := 1) rfl)) (jWr_81 _ (List.mem_of_getElem? (i := 2) rfl)) (jWr_4 _ (List.mem_of_getElem? (i := 14) rfl)) (jWr_81 _ (List.mem_of_getElem? (i := 3) rfl))) rfl rfl rfl (by decide +kernel) ⟨by rw [← hR]; show ((ef - 1) + 3) + 1 ≤ ef + 3; omega, by rw [← hR]; show 8 + (6 + 11) + (60 * (ef - 1) + 120) ≤ 60 * ef + 120; omega⟩) ⟨fun a U g mk q => by obtain ⟨q0, q1, q2, qK, q10, q11, q12, q13, q14⟩ := q; exact ⟨q0, q1, q2, jG.calling g mk a qK, q10, q11, q12, q13, q14⟩, hh_18.recv (C := RX10) (T := TX10) (N := 11) hB12 rfl (by decide) hg_r0 hK, fun U hU hW => ⟨rfl, hU, hh_18.2.1, hG.step hW hU hh_18.1, hg_r0, hg_zv, (hh_18.2.2.1.sub (L1 := [(r0, 12, 3, .int tk), (r0, 12, 4, .int z_17), (r0, 12, 10, .int wc_15), (r0, 12, 9, .ref zv)]) [2, 0, 1, 3] rfl), (hh_18.2.2.2.2.2.2.2.1.sub (L1 := [(zv, 280, 3000, ca 1, fn_15)]) [0] rfl), by first | omega | (refine ⟨?_, ?_, ?_, ?_, ?_, ?_, ?_, ?_, ?_, ?_, ?_⟩ <;> (first | omega | rfl | assumption | decide | exact Or.inl rfl | exact Or.inr rfl | (simp only; omega)))⟩⟩ rfl rfl hl.1 rfl (lv_room (Nat.le_of_ble_eq_true rfl)) dX10_isTerm_89 ⟨Nat.zero_le _, Nat.zero_le _⟩) hh_18.1 (fun q _ h => h) (fun q h => h) (fun r_21 u_20 t_20 H_20 locs_20 ht_20 hvm_20 hr_21 hb_20 hz_20 hk_20 hS_20 => ?_)
                obtain ⟨qa_20, qc_20, fn2_20⟩ := u_20
                rw [ht_20] at hb_20
                obtain ⟨⟨hb_201, hb_202, hb_203, hb_204, hb_205⟩, hb_206⟩ := hb_20
                have hh_20 : jSt (dC, dI) B base G0 G0 EX10_isTermB s.heap 0 0 [(r0, 12, 4, .int qa_20), (r0, 12, 10, .int qc_20), (r0, 12, 3, .int tk), (r0, 12, 9, .ref zv)] [(zv, 280, 3000, ca 1, fn2_20)] [] H_20 locs_20 := ((hh_18.call hb_201 hb_202 hb_203 hb_204 hS_20 rfl (L1 := [(r0, 12, 3, .int tk), (r0, 12, 9, .ref zv)]) [2, 3] rfl rfl (M1 := []) [] rfl rfl (I1 := []) [] rfl rfl).more hb_205).moreM hb_206
                clear hh_18 ht_20 hvm_20 hz_20 hk_20 hS_20 hb_201 hb_202 hb_203 hb_204 hb_205
                clear hb_206
                try simp only at hr_21
                obtain ⟨hr_21b, hr_21p⟩ := hr_21
                obtain ⟨hr_21p_0, hr_21p_1, hr_21p_2, hr_21p_3, hr_21p_4, hr_21p_5, hr_21p_6⟩ := hr_21p
                have hr_21' := jb_01 hr_21b
                refine lv_if_ne (tgt := 97) hx hb dX10_isTerm_92 (by decide) (fun c_22 => ?_) (fun c_22 => ?_)
                · skip
                  have c_22' : r_21.toInt ≠ 0 := jb_ne (rfl) ((by decide)) c_22
                  first | (have hr_21p_4q := hr_21p_4.resolve_left (by omega); clear hr_21p_4) | (have hr_21p_4q := hr_21p_4.resolve_right (by omega); clear hr_21p_4) | skip
                  first | (have hr_21p_6q := hr_21p_6.resolve_left (by omega); clear hr_21p_6) | (have hr_21p_6q := hr_21p_6.resolve_right (by omega); clear hr_21p_6) | skip
                  refine lv_aload_n hx hb dX10_isTerm_97 rfl (lv_at hl 0 rfl) ?_
                  refine va_calli (A0 := jA base) (H0 := s.heap) (va_runV (As := []) (rest := []) ⟨hx, hb, hml, hown, hts⟩ (uX10_peekB l dC dI ca base B hB hAp hB12 hB101 G0 H_20 r0 tk qa_20) (cwV 0 hts (jgV (jWr_79 _ (List.mem_of_getElem? (i := 18) rfl)) (jWr_79 _ (List.mem_of_getElem? (i := 19) rfl)) (jWr_79 _ (List.mem_of_getElem? (i := 20) rfl)) (jWr_4 _ (List.mem_of_getElem? (i := 14) rfl)) (jWr_79 _ (List.mem_of_getElem? (i := 21) rfl))) rfl rfl rfl (by decide +kernel) ⟨by rw [← hR]; show (0) + 1 ≤ ef + 3; omega, by rw [← hR]; show 8 + (1 + 11) + (0) ≤ 60 * ef + 120; omega⟩) ⟨fun a U g mk q => by obtain ⟨q0, q1, q2, qK, q10, q11, q12⟩ := q; exact ⟨q0, q1, q2, jG.calling g mk a qK, q10, q11, q12⟩, hh_20.recv (C := RX10) (T := TX10) (N := 11) hB12 rfl (by decide) hg_r0 hK, fun U hU hW => ⟨rfl, hU, hh_20.2.1, hG.step hW hU hh_20.1, hg_r0, (hh_20.2.2.1.sub (L1 := [(r0, 12, 3, .int tk), (r0, 12, 4, .int qa_20)]) [2, 0] rfl), by first | omega | (refine ⟨?_, ?_, ?_, ?_⟩ <;> (first | omega | rfl | assumption | decide | exact Or.inl rfl | exact Or.inr rfl | (simp only; omega)))⟩⟩ rfl rfl hl.1 rfl (lv_room (Nat.le_of_ble_eq_true rfl)) dX10_isTerm_98 ⟨Nat.zero_le _, Nat.zero_le _⟩) hh_20.1 (fun q _ h => h) (fun q h => h) (fun r_24 u_23 t_23 H_23 locs_23 ht_23 hvm_23 hr_24 hb_23 hz_23 hk_23 hS_23 => ?_)
                  rw [ht_23] at hb_23
                  obtain ⟨hb_231, hb_232, hb_233, hb_234, hb_235⟩ := hb_23
                  have hh_23 : jSt (dC, dI) B base G0 G0 EX10_isTermB s.heap 0 0 [(r0, 12, 4, .int qa_20), (r0, 12, 10, .int qc_20), (r0, 12, 3, .int tk), (r0, 12, 9, .ref zv)] [(zv, 280, 3000, ca 1, fn2_20)] [] H_23 locs_23 := ((hh_20.call hb_231 hb_232 hb_233 hb_234 hS_23 rfl (L1 := [(r0, 12, 4, .int qa_20), (r0, 12, 10, .int qc_20), (r0, 12, 3, .int tk), (r0, 12, 9, .ref zv)]) [0, 1, 2, 3] rfl rfl (M1 := [(zv, 280, 3000, ca 1, fn2_20)]) [0] rfl rfl (I1 := []) [] rfl rfl).more hb_235)
                  clear hh_20 ht_23 hvm_23 hz_23 hk_23 hS_23 hb_231 hb_232 hb_233 hb_234 hb_235
                  refine lv_bipush (v := 44) hx hb dX10_isTerm_101 (by decide) ?_
                  refine lv_icmp_eq (tgt := 126) hx hb dX10_isTerm_103 (by decide) (fun c_25 => ?_) (fun c_25 => ?_)
                  · skip
                    have c_25' : r_24.toInt = 44 := jb_eq (rfl) ((by decide)) c_25
                    first | (have hr_24q := hr_24.resolve_left (by omega); clear hr_24) | (have hr_24q := hr_24.resolve_right (by omega); clear hr_24) | try clear hr_24
                    obtain ⟨z_26, ez_26⟩ : ∃ y : Int32, y = v5_15 + 1 := ⟨_, rfl⟩
                    refine lv_iinc (v := z_26) (lv' := [(5, .int z_26), (0, .ref r0), (1, .int a1), (2, .int a2), (3, .int nc), (4, .int r_2)]) hx hb dX10_isTerm_126 hl (k := 5) rfl (by rw [ez_26]; rfl) (by decide) rfl (fun ls hl => ?_)
                    have hz_26 : z_26.toInt = v5_15.toInt + 1 := by rw [ez_26]; exact jb_iadd2 (rfl) (by decide) (by omega)
                    refine lv_goto (tgt := 65) hx hb dX10_isTerm_129 (by decide) ?_
                    exact L65 z_26 qa_20 qc_20 fn2_20 _ _ hh_23 (by have hq9 := hr_21p_5 nc.toInt (by omega) (by omega); refine ⟨by omega, by omega, by omega, by omega, by omega, by omega, hi_15_6.tr hr_21p_5 (by omega), ?_, ?_⟩ <;> omega) (by omega) _ (lv_sub hl [1, 2, 3, 4, 5, 0] rfl)
                  · skip
                    have c_25' : r_24.toInt ≠ 44 := jb_eq_n (rfl) ((by decide)) c_25
                    try clear hr_24
                    have hq8 := hr_21p_5 nc.toInt (by omega) (by omega)
                    refine lv_aload_n hx hb dX10_isTerm_106 rfl (lv_at hl 0 rfl) ?_
                    refine j7_read hx hb hown hK (C := RX10) (T := TX10) (N := 11) rfl hly_12_9 hlk_21 (hh_23.at 3 rfl) dX10_isTerm_107 ?_
                    refine lv_iload_n hx hb dX10_isTerm_110 rfl (lv_at hl 3 rfl) ?_
                    refine lv_dup2_11 hx hb dX10_isTerm_111 rfl rfl ?_
                    refine j7_ialdM hx hb hK hh_23 hB280 1 rfl (by decide) hg_zv (x := nc.toInt) (rfl) (by omega) (j := 0) rfl dX10_isTerm_112 (fun z_27 ez_27 (hz_27 : -1 ≤ z_27.toInt) => ?_)
                    have hqz_27 : z_27.toInt = jSo fn2_20 (nc.toInt) := by unfold jSo; rw [ez_27]
                    refine lv_iload hx hb dX10_isTerm_113 (lv_at hl 5 rfl) ?_
                    refine lv_iconst (v := 4) hx hb dX10_isTerm_115 (by decide) ?_
                    refine lv_ishl hx hb dX10_isTerm_116 ?_
                    refine lv_topi (fun z_28 ez_28 => ?_)
                    have hbz_28 := jb_shlc 4 16 ez_28 (by decide) (by decide) (by omega) (by omega)
                    refine lv_ior hx hb dX10_isTerm_117 ?_
                    refine lv_topi (fun z_29 ez_29 => ?_)
                    have hbz_29 := jb_or28 ez_29 (by omega) (by omega) (by omega) (by omega)
                    refine j7_iastU hx hb hK hh_23 hB hB280 1 rfl (by decide) (by decide) rfl 0 rfl (M1 := []) [] rfl rfl rfl hg_zv (x := nc.toInt) (rfl) (by omega) (by first | omega | rfl | assumption | decide | exact Or.inl rfl | exact Or.inr rfl | (simp only; omega)) dX10_isTerm_118 (fun H_30 locs_30 fs_31 hv_30 ho_30 hh_30 => ?_)
                    have hv_30 : jSo fs_31 (nc.toInt) = z_29.toInt := by unfold jSo; rw [hv_30]; try exact rfl
                    clear hh_23
                    refine lv_aload_n hx hb dX10_isTerm_119 rfl (lv_at hl 0 rfl) ?_
                    refine lv_bipush (v := 41) hx hb dX10_isTerm_120 (by decide) ?_
                    refine va_calli (A0 := jA base) (H0 := s.heap) (va_runV (As := [.int 41]) (rest := []) ⟨hx, hb, hml, hown, hts⟩ (uX10_isSignB l dC dI ca base B hB hAp hB12 hB101 G0 H_30 r0 41 tk qa_20) (cwV 1 hts (jgV (jWr_80 _ (List.mem_of_getElem? (i := 2) rfl)) (jWr_80 _ (List.mem_of_getElem? (i := 3) rfl)) (jWr_80 _ (List.mem_of_getElem? (i := 4) rfl)) (jWr_4 _ (List.mem_of_getElem? (i := 14) rfl)) (jWr_80 _ (List.mem_of_getElem? (i := 5) rfl))) rfl rfl rfl (by decide +kernel) ⟨by rw [← hR]; show (0) + 1 ≤ ef + 3; omega, by rw [← hR]; show 8 + (3 + 11) + (0) ≤ 60 * ef + 120; omega⟩) ⟨fun a U g mk q => by obtain ⟨q0, q1, q2, qK, q10, q11, q12⟩ := q; exact ⟨q0, q1, q2, jG.calling g mk a qK, q10, q11, q12⟩, hh_30.recv (C := RX10) (T := TX10) (N := 11) hB12 rfl (by decide) hg_r0 hK, fun U hU hW => ⟨rfl, hU, hh_30.2.1, hG.step hW hU hh_30.1, hg_r0, (hh_30.2.2.1.sub (L1 := [(r0, 12, 3, .int tk), (r0, 12, 4, .int qa_20)]) [2, 0] rfl), by first | omega | (refine ⟨?_, ?_, ?_, ?_, ?_⟩ <;> (first | omega | rfl | assumption | decide | exact Or.inl rfl | exact Or.inr rfl | (simp only; omega)))⟩⟩ rfl rfl hl.1 rfl (lv_room (Nat.le_of_ble_eq_true rfl)) dX10_isTerm_122 ⟨Nat.zero_le _, Nat.zero_le _⟩) hh_30.1 (fun q _ h => h) (fun q h => h) (fun r_33 u_32 t_32 H_32 locs_32 ht_32 hvm_32 hr_33 hb_32 hz_32 hk_32 hS_32 => ?_)
                    obtain ⟨qa_32, rfl⟩ : ∃ z, z = u_32 := ⟨_, rfl⟩
                    rw [ht_32] at hb_32
                    obtain ⟨hb_321, hb_322, hb_323, hb_324, hb_325⟩ := hb_32
                    have hh_32 : jSt (dC, dI) B base G0 G0 EX10_isTermB s.heap 0 0 [(r0, 12, 4, .int qa_32), (r0, 12, 10, .int qc_20), (r0, 12, 3, .int tk), (r0, 12, 9, .ref zv)] [(zv, 280, 3000, ca 1, fs_31)] [] H_32 locs_32 := ((hh_30.call hb_321 hb_322 hb_323 hb_324 hS_32 rfl (L1 := [(r0, 12, 10, .int qc_20), (r0, 12, 3, .int tk), (r0, 12, 9, .ref zv)]) [1, 2, 3] rfl rfl (M1 := [(zv, 280, 3000, ca 1, fs_31)]) [0] rfl rfl (I1 := []) [] rfl rfl).more hb_325)
                    clear hh_30 ht_32 hvm_32 hz_32 hk_32 hS_32 hb_321 hb_322 hb_323 hb_324 hb_325
                    obtain ⟨hr_33b, hr_33p⟩ := hr_33
                    obtain ⟨hr_33p_0, hr_33p_1⟩ := hr_33p
                    have hr_33' := jb_01 hr_33b
                    rw [hQ]
                    exact W.zret (v := r_33) hx hb hr (jb_nz (hr_33b)) (fun t ht hW => ⟨⟨r_33, (qa_32, qc_20, fs_31), rfl, ⟨(hr_33b), by (try dsimp only); refine ⟨by omega, by omega, by omega, by omega, by omega, ((hi_15_6.tr hr_21p_5 (by omega)).tr (jKb.put (Int.le_refl _) (by omega) (by omega) ho_30) (Int.le_refl _)).cg hfn0.symm, ?_⟩; right; rw [hv_30]; omega⟩, ⟨hh_32.rt (M1 := [(r0, 12, 4, .int qa_32), (r0, 12, 10, .int qc_20)]) [0, 1] rfl ht, by rw [ht]; exact hh_32.2.2.2.2.2.2.2.1.sub [0] rfl⟩⟩, by rw [ht]; try exact hh_32.1.1, fun q h9 hq => by rw [ht]; try exact hh_32.1.2.1 q h9 hq⟩) hh_32.1.2.2 dX10_isTerm_125
                · skip
                  have c_22' : r_21.toInt = 0 := jb_ne_n (rfl) ((by decide)) c_22
                  first | (have hr_21p_4q := hr_21p_4.resolve_left (by omega); clear hr_21p_4) | (have hr_21p_4q := hr_21p_4.resolve_right (by omega); clear hr_21p_4) | skip
                  first | (have hr_21p_6q := hr_21p_6.resolve_left (by omega); clear hr_21p_6) | (have hr_21p_6q := hr_21p_6.resolve_right (by omega); clear hr_21p_6) | skip
                  refine lv_iconst (v := 0) hx hb dX10_isTerm_95 (by decide) ?_
                  rw [hQ]
                  exact W.zret (v := 0) hx hb hr (jb_nz (Or.inl rfl)) (fun t ht hW => ⟨⟨0, (qa_20, qc_20, fn2_20), rfl, ⟨(Or.inl rfl), by (try dsimp only); refine ⟨by omega, by omega, by omega, by omega, by omega, (hi_15_6.tr hr_21p_5 (by omega)).cg hfn0.symm, Or.inl (by omega)⟩⟩, ⟨hh_20.rt (M1 := [(r0, 12, 4, .int qa_20), (r0, 12, 10, .int qc_20)]) [0, 1] rfl ht, by rw [ht]; exact hh_20.2.2.2.2.2.2.2.1.sub [0] rfl⟩⟩, by rw [ht]; try exact hh_20.1.1, fun q h9 hq => by rw [ht]; try exact hh_20.1.2.1 q h9 hq⟩) hh_20.1.2.2 dX10_isTerm_96
          exact L65 (2048 - (1 : Int32).toInt : Int).toNat.succ 1 z_3 qc_8 fn2_8 _ _ (hh_11.sub (L1 := [(r0, 12, 4, .int z_3), (r0, 12, 10, .int qc_8), (r0, 12, 3, .int tk), (r0, 12, 9, .ref zv)]) [1, 0, 2, 3] rfl (M1 := [(zv, 280, 3000, ca 1, fn2_8)]) [0] rfl (I1 := []) [] rfl) (by refine ⟨by omega, by omega, by omega, by omega, by omega, by omega, hr_9p_2.cg hfn0, ?_, ?_⟩ <;> omega) (by omega) _ (lv_sub hl [3, 4, 5, 2, 1, 0] rfl)
        · skip
          have c_14' : a2.toInt ≥ 12 := jb_lt_n (rfl) ((by decide)) c_14
          refine lv_iconst (v := 0) hx hb dX10_isTerm_60 (by decide) ?_
          rw [hQ]
          exact W.zret (v := 0) hx hb hr (jb_nz (Or.inl rfl)) (fun t ht hW => ⟨⟨0, (z_3, qc_8, fn2_8), rfl, ⟨(Or.inl rfl), by (try dsimp only); refine ⟨by omega, by omega, by omega, by omega, by omega, hr_9p_2, ?_⟩; omega⟩, ⟨hh_11.rt (M1 := [(r0, 12, 4, .int z_3), (r0, 12, 10, .int qc_8)]) [1, 0] rfl ht, by rw [ht]; exact hh_11.2.2.2.2.2.2.2.1.sub [0] rfl⟩⟩, by rw [ht]; try exact hh_11.1.1, fun q h9 hq => by rw [ht]; try exact hh_11.1.2.1 q h9 hq⟩) hh_11.1.2.2 dX10_isTerm_61
      · skip
        have c_13' : r_12.toInt ≠ 40 := jb_eq_n (rfl) ((by decide)) c_13
        try clear hr_12
        refine lv_iconst (v := 1) hx hb dX10_isTerm_52 (by decide) ?_
        rw [hQ]
        exact W.zret (v := 1) hx hb hr (jb_nz (Or.inr rfl)) (fun t ht hW => ⟨⟨1, (z_3, qc_8, fn2_8), rfl, ⟨(Or.inr rfl), by (try dsimp only); refine ⟨by omega, by omega, by omega, by omega, by omega, hr_9p_2, ?_⟩; omega⟩, ⟨hh_11.rt (M1 := [(r0, 12, 4, .int z_3), (r0, 12, 10, .int qc_8)]) [1, 0] rfl ht, by rw [ht]; exact hh_11.2.2.2.2.2.2.2.1.sub [0] rfl⟩⟩, by rw [ht]; try exact hh_11.1.1, fun q h9 hq => by rw [ht]; try exact hh_11.1.2.1 q h9 hq⟩) hh_11.1.2.2 dX10_isTerm_53
    · skip
      have c_10' : r_9.toInt = 0 := jb_ne_n (rfl) ((by decide)) c_10
      first | (have hr_9p_0q := hr_9p_0.resolve_left (by omega); clear hr_9p_0) | (have hr_9p_0q := hr_9p_0.resolve_right (by omega); clear hr_9p_0) | skip
      first | (have hr_9p_3q := hr_9p_3.resolve_left (by omega); clear hr_9p_3) | (have hr_9p_3q := hr_9p_3.resolve_right (by omega); clear hr_9p_3) | skip
      refine lv_iconst (v := 0) hx hb dX10_isTerm_41 (by decide) ?_
      rw [hQ]
      exact W.zret (v := 0) hx hb hr (jb_nz (Or.inl rfl)) (fun t ht hW => ⟨⟨0, (z_3, qc_8, fn2_8), rfl, ⟨(Or.inl rfl), by (try dsimp only); refine ⟨by omega, by omega, by omega, by omega, by omega, hr_9p_2, ?_⟩; omega⟩, ⟨hh_8.rt (M1 := [(r0, 12, 4, .int z_3), (r0, 12, 10, .int qc_8)]) [1, 0] rfl ht, by rw [ht]; exact hh_8.2.2.2.2.2.2.2.1.sub [0] rfl⟩⟩, by rw [ht]; try exact hh_8.1.1, fun q h9 hq => by rw [ht]; try exact hh_8.1.2.1 q h9 hq⟩) hh_8.1.2.2 dX10_isTerm_42
theorem aX10_isTermB (l : Launch) (dC : Nat → ClassId) (dI : Nat → Nat → Nat) (ca : Nat → ClassId) (base : Nat) (B : jF) (hB : jBok B) (hAp : jAp (dC, dI)) (hB12 : ∀ n G a H, B 12 n G a H ↔ jOb (dC, dI) 12 11 (F12b n G) a H) (hB101 : ∀ n G a H, B 101 n G a H ↔ jAr (dC, dI) (ca 1) (fun j z => True) n a H) (hB280 : ∀ n G a H, B 280 n G a H ↔ jAr (dC, dI) (ca 1) (fun j z => -1 ≤ z.toInt) n a H) (hB293 : ∀ n G a H, B 293 n G a H ↔ jAr (dC, dI) (ca 1) (fun j z => -1 ≤ z.toInt ∧ z.toInt ≤ 8191) n a H) : ∀ ef, qX10_isTermB l dC dI ca base B ef := fun ef => Nat.strongRecOn ef (fun e ih => fun G0 H0 r0 a1 a2 tk pa nc zv fn => uX10_isTermB l dC dI ca base B hB hAp hB12 hB101 hB280 hB293 e ih G0 H0 r0 a1 a2 tk pa nc zv fn)
set_option maxHeartbeats 4000000 in
set_option maxRecDepth 20000 in
theorem uX10_isOneB (l : Launch) (dC : Nat → ClassId) (dI : Nat → Nat → Nat) (ca : Nat → ClassId) (base : Nat) (B : jF) (hB : jBok B) (hAp : jAp (dC, dI)) (hB12 : ∀ n G a H, B 12 n G a H ↔ jOb (dC, dI) 12 11 (F12b n G) a H) (hB101 : ∀ n G a H, B 101 n G a H ↔ jAr (dC, dI) (ca 1) (fun j z => True) n a H) (hB280 : ∀ n G a H, B 280 n G a H ↔ jAr (dC, dI) (ca 1) (fun j z => -1 ≤ z.toInt) n a H) (hB293 : ∀ n G a H, B 293 n G a H ↔ jAr (dC, dI) (ca 1) (fun j z => -1 ≤ z.toInt ∧ z.toInt ≤ 8191) n a H) (ef : Nat) (ihO : ∀ e1, e1 < ef → qX10_isOneB l dC dI ca base B e1) (ihC : ∀ e1, e1 < ef → qX10_isChainB l dC dI ca base B e1 2) (G0 : jT) (H0 : Heap) (r0 : Nat) (a1 : Int32) (tk : Int32) (pa : Int32) (nc : Int32) : Met l yX10_isOne (jw yX10_isOne cX10_isOne 6 (some .boolean)) ({ frames := 5 * ef + 5, cells := 0, slots := 0, locals := 160 * ef + 200 }) (va_Pc [.ref r0, .int a1] (fun U => U.heap = H0 ∧ jX B base G0 [] H0 ∧ jG dC dI ca base U ∧ G0 r0 = some (12, 0) ∧ jP (dC, dI) G0 H0 [(r0, 12, 3, .int tk), (r0, 12, 4, .int pa), (r0, 12, 10, .int nc)] ∧ 0 ≤ tk.toInt ∧ tk.toInt ≤ 1500 ∧ 0 ≤ pa.toInt ∧ pa.toInt ≤ 1503 ∧ 0 ≤ nc.toInt ∧ nc.toInt ≤ 3000 ∧ pa.toInt ≤ tk.toInt ∧ a1.toInt = 12 - ef ∧ ef ≤ 12)) (va_Qi (S := Int32 × Int32) (fun r u => (r = 0 ∨ r = 1) ∧ (0 ≤ u.1.toInt ∧ u.1.toInt ≤ tk.toInt + 2 ∧ nc.toInt ≤ u.2.toInt ∧ u.2.toInt ≤ 3000 ∧ (r.toInt = 0 ∨ (u.1.toInt ≤ tk.toInt ∧ nc.toInt + 1 ≤ u.2.toInt)))) (fun u t => jRt (dC, dI) B base G0 EX10_isOneB H0 [(r0, 12, 4, .int u.1), (r0, 12, 10, .int u.2)] t.heap) (jA base)) 0 0 (jA base) := by
  refine Met.ofW (cc := cX10_isOne) (maxL := 6) (ret := (some .boolean)) (by decide) rfl ?_
  intro p e s m args below meth c s₁ Bd hml hv
  obtain ⟨rfl, hH0, hX, hG, hg_r0, hP0, hp0, hp1, hp2, hp3, hp4, hp5, hp6, hp7, hp8⟩ := hv
  have hK := hG.1
  have hx := Bd.exec
  have hb := Bd.bytes
  have hr := Bd.returns
  have hts := atoms_spec (ws := (jw yX10_isOne cX10_isOne 6 (some .boolean))) Bd.pre
  have htw : ∀ w ∈ jWl, w.before _ s = true := fun w h => hts w (List.mem_cons_of_mem _ h)
  have hown : s.vm.findClass RX10 = some m.cls := findClass_of_methodNamed Bd.named
  have hlocks := Bd.notSynchronized
  obtain ⟨Q, hQ⟩ : ∃ Q, Q = MQ below (va_Qi (S := Int32 × Int32) (fun r u => (r = 0 ∨ r = 1) ∧ (0 ≤ u.1.toInt ∧ u.1.toInt ≤ tk.toInt + 2 ∧ nc.toInt ≤ u.2.toInt ∧ u.2.toInt ≤ 3000 ∧ (r.toInt = 0 ∨ (u.1.toInt ≤ tk.toInt ∧ nc.toInt + 1 ≤ u.2.toInt)))) (fun u t => jRt (dC, dI) B base G0 EX10_isOneB H0 [(r0, 12, 4, .int u.1), (r0, 12, 10, .int u.2)] t.heap) (jA base)) ([.ref r0, .int a1] : List Value).toArray s 0 0 (jA base) := ⟨_, rfl⟩
  rw [← hQ]
  have hl := lv_entry ([.ref r0, .int a1]) (n := 6) (Nat.le_of_ble_eq_true rfl)
  rw [lg_entry_eq]
  generalize (lg_sl ([.ref r0, .int a1]) ++ List.replicate (6 - (lg_sl ([.ref r0, .int a1])).length) Slot.unset).toArray = ls at hl ⊢
  have hl : lv_has ls 6 [(0, .ref r0), (1, .int a1)] := hl
  generalize hR : (headSpec (jw yX10_isOne cX10_isOne 6 (some .boolean)) ({ frames := 5 * ef + 5, cells := 0, slots := 0, locals := 160 * ef + 200 })).room = R
  subst hH0
  have hh : jSt (dC, dI) B base G0 G0 EX10_isOneB s.heap 0 0 [(r0, 12, 3, .int tk), (r0, 12, 4, .int pa), (r0, 12, 10, .int nc)] [] [] s.heap [] := jSt.start hX hP0 jMc.nil jIs.nil
  clear hX hP0
  have hk0 : (0 : Int32).toInt = 0 := by decide
  have hk1 : (1 : Int32).toInt = 1 := by decide
  have hk2 : (2 : Int32).toInt = 2 := by decide
  have hk4 : (4 : Int32).toInt = 4 := by decide
  have hk5 : (5 : Int32).toInt = 5 := by decide
  have hk6 : (6 : Int32).toInt = 6 := by decide
  have hk7 : (7 : Int32).toInt = 7 := by decide
  have hk8 : (8 : Int32).toInt = 8 := by decide
  have hk12 : (12 : Int32).toInt = 12 := by decide
  have hk15 : (15 : Int32).toInt = 15 := by decide
  have hk40 : (40 : Int32).toInt = 40 := by decide
  have hk41 : (41 : Int32).toInt = 41 := by decide
  have hk44 : (44 : Int32).toInt = 44 := by decide
  have hk61 : (61 : Int32).toInt = 61 := by decide
  have hk126 : (126 : Int32).toInt = 126 := by decide
  have hly_12_4 := htw (u_lay RX10 TX10 4) (jWc_wsX100 _ (u_in_lay (by decide)))
  have hly_12_9 := htw (u_lay RX10 TX10 9) (jWc_wsX100 _ (u_in_lay (by decide)))
  have hly_12_10 := htw (u_lay RX10 TX10 10) (jWc_wsX100 _ (u_in_lay (by decide)))
  have hlk_83 := (htw (.fieldLink RX10 83 "ProofServer$Syntax" "at" "I") (jWr_79 _ (List.mem_of_getElem? (i := 5) rfl)))
  have hlk_89 := (htw (.fieldLink RX10 89 "ProofServer$Syntax" "nodeCount" "I") (jWr_79 _ (List.mem_of_getElem? (i := 7) rfl)))
  have hlk_21 := (htw (.fieldLink RX10 21 "ProofServer$Syntax" "nodes" "[I") (jWr_8 _ (List.mem_of_getElem? (i := 11) rfl)))
  have hrg_a1 := jb_rng a1
  refine lv_aload_n hx hb dX10_isOne_0 rfl (lv_at hl 0 rfl) ?_
  refine va_calli (A0 := jA base) (H0 := s.heap) (va_runV (As := []) (rest := []) ⟨hx, hb, hml, hown, hts⟩ (uX10_peekB l dC dI ca base B hB hAp hB12 hB101 G0 s.heap r0 tk pa) (cwV 0 hts (jgV (jWr_79 _ (List.mem_of_getElem? (i := 18) rfl)) (jWr_79 _ (List.mem_of_getElem? (i := 19) rfl)) (jWr_79 _ (List.mem_of_getElem? (i := 20) rfl)) (jWr_4 _ (List.mem_of_getElem? (i := 14) rfl)) (jWr_79 _ (List.mem_of_getElem? (i := 21) rfl))) rfl rfl rfl (by decide +kernel) ⟨by rw [← hR]; show (0) + 1 ≤ 5 * ef + 5; omega, by rw [← hR]; show 8 + (1 + 11) + (0) ≤ 160 * ef + 200; omega⟩) ⟨fun a U g mk q => by obtain ⟨q0, q1, q2, qK, q10, q11, q12⟩ := q; exact ⟨q0, q1, q2, jG.calling g mk a qK, q10, q11, q12⟩, hh.recv (C := RX10) (T := TX10) (N := 11) hB12 rfl (by decide) hg_r0 hK, fun U hU hW => ⟨rfl, hU, hh.2.1, hG.step hW hU hh.1, hg_r0, (hh.2.2.1.sub (L1 := [(r0, 12, 3, .int tk), (r0, 12, 4, .int pa)]) [0, 1] rfl), by first | omega | (refine ⟨?_, ?_, ?_, ?_⟩ <;> (first | omega | rfl | assumption | decide | exact Or.inl rfl | exact Or.inr rfl | (simp only; omega)))⟩⟩ rfl rfl hl.1 rfl (lv_room (Nat.le_of_ble_eq_true rfl)) dX10_isOne_1 ⟨Nat.zero_le _, Nat.zero_le _⟩) hh.1 (fun q _ h => h) (fun q h => h) (fun r_2 u_1 t_1 H_1 locs_1 ht_1 hvm_1 hr_2 hb_1 hz_1 hk_1 hS_1 => ?_)
  rw [ht_1] at hb_1
  obtain ⟨hb_11, hb_12, hb_13, hb_14, hb_15⟩ := hb_1
  have hh_1 : jSt (dC, dI) B base G0 G0 EX10_isOneB s.heap 0 0 [(r0, 12, 3, .int tk), (r0, 12, 4, .int pa), (r0, 12, 10, .int nc)] [] [] H_1 locs_1 := ((hh.call hb_11 hb_12 hb_13 hb_14 hS_1 rfl (L1 := [(r0, 12, 3, .int tk), (r0, 12, 4, .int pa), (r0, 12, 10, .int nc)]) [0, 1, 2] rfl rfl (M1 := []) [] rfl rfl (I1 := []) [] rfl rfl).more hb_15)
  clear hh ht_1 hvm_1 hz_1 hk_1 hS_1 hb_11 hb_12 hb_13 hb_14 hb_15
  refine lv_istore_n (lv' := [(2, .int r_2), (0, .ref r0), (1, .int a1)]) hx hb dX10_isOne_4 rfl hl (by decide) rfl (fun ls hl => ?_)
  refine lv_aload_n hx hb dX10_isOne_5 rfl (lv_at hl 1 rfl) ?_
  refine va_calli (A0 := jA base) (H0 := s.heap) (va_runV (As := []) (rest := []) ⟨hx, hb, hml, hown, hts⟩ (uX10_peekNameB l dC dI ca base B hB hAp hB12 hB101 hB293 G0 H_1 r0 tk pa) (cwV 0 hts (jgV (jWr_79 _ (List.mem_of_getElem? (i := 14) rfl)) (jWr_79 _ (List.mem_of_getElem? (i := 15) rfl)) (jWr_79 _ (List.mem_of_getElem? (i := 16) rfl)) (jWr_4 _ (List.mem_of_getElem? (i := 14) rfl)) (jWr_79 _ (List.mem_of_getElem? (i := 17) rfl))) rfl rfl rfl (by decide +kernel) ⟨by rw [← hR]; show (1) + 1 ≤ 5 * ef + 5; omega, by rw [← hR]; show 8 + (1 + 11) + (20) ≤ 160 * ef + 200; omega⟩) ⟨fun a U g mk q => by obtain ⟨q0, q1, q2, qK, q10, q11, q12⟩ := q; exact ⟨q0, q1, q2, jG.calling g mk a qK, q10, q11, q12⟩, hh_1.recv (C := RX10) (T := TX10) (N := 11) hB12 rfl (by decide) hg_r0 hK, fun U hU hW => ⟨rfl, hU, hh_1.2.1, hG.step hW hU hh_1.1, hg_r0, (hh_1.2.2.1.sub (L1 := [(r0, 12, 3, .int tk), (r0, 12, 4, .int pa)]) [0, 1] rfl), by first | omega | (refine ⟨?_, ?_, ?_, ?_⟩ <;> (first | omega | rfl | assumption | decide | exact Or.inl rfl | exact Or.inr rfl | (simp only; omega)))⟩⟩ rfl rfl hl.1 rfl (lv_room (Nat.le_of_ble_eq_true rfl)) dX10_isOne_6 ⟨Nat.zero_le _, Nat.zero_le _⟩) hh_1.1 (fun q _ h => h) (fun q h => h) (fun r_4 u_3 t_3 H_3 locs_3 ht_3 hvm_3 hr_4 hb_3 hz_3 hk_3 hS_3 => ?_)
  rw [ht_3] at hb_3
  obtain ⟨hb_31, hb_32, hb_33, hb_34, hb_35⟩ := hb_3
  have hh_3 : jSt (dC, dI) B base G0 G0 EX10_isOneB s.heap 0 0 [(r0, 12, 3, .int tk), (r0, 12, 4, .int pa), (r0, 12, 10, .int nc)] [] [] H_3 locs_3 := ((hh_1.call hb_31 hb_32 hb_33 hb_34 hS_3 rfl (L1 := [(r0, 12, 3, .int tk), (r0, 12, 4, .int pa), (r0, 12, 10, .int nc)]) [0, 1, 2] rfl rfl (M1 := []) [] rfl rfl (I1 := []) [] rfl rfl).more hb_35)
  clear hh_1 ht_3 hvm_3 hz_3 hk_3 hS_3 hb_31 hb_32 hb_33 hb_34 hb_35
  obtain ⟨hr_4_0, hr_4_1, hr_4_2⟩ := hr_4
  refine lv_istore_n (lv' := [(3, .int r_4), (2, .int r_2), (0, .ref r0), (1, .int a1)]) hx hb dX10_isOne_9 rfl hl (by decide) rfl (fun ls hl => ?_)
  refine lv_iload_n hx hb dX10_isOne_10 rfl (lv_at hl 1 rfl) ?_
  refine lv_bipush (v := 126) hx hb dX10_isOne_11 (by decide) ?_
  refine lv_icmp_ne (tgt := 64) hx hb dX10_isOne_13 (by decide) (fun c_5 => ?_) (fun c_5 => ?_)
  · skip
    have c_5' : r_2.toInt ≠ 126 := jb_ne (rfl) ((by decide)) c_5
    refine lv_iload_n hx hb dX10_isOne_64 rfl (lv_at hl 1 rfl) ?_
    refine lv_bipush (v := 40) hx hb dX10_isOne_65 (by decide) ?_
    refine lv_icmp_ne (tgt := 112) hx hb dX10_isOne_67 (by decide) (fun c_6 => ?_) (fun c_6 => ?_)
    · skip
      have c_6' : r_2.toInt ≠ 40 := jb_ne (rfl) ((by decide)) c_6
      refine lv_iload_n hx hb dX10_isOne_112 rfl (lv_at hl 0 rfl) ?_
      refine lv_if_eq (tgt := 121) hx hb dX10_isOne_113 (by decide) (fun c_7 => ?_) (fun c_7 => ?_)
      · skip
        have c_7' : r_4.toInt = 0 := jb_eq (rfl) ((by decide)) c_7
        first | (have hr_4_0q := hr_4_0.resolve_left (by omega); clear hr_4_0) | (have hr_4_0q := hr_4_0.resolve_right (by omega); clear hr_4_0) | skip
        refine lv_aload_n hx hb dX10_isOne_121 rfl (lv_at hl 2 rfl) ?_
        refine lv_dup hx hb dX10_isOne_122 rfl ?_
        refine j7_read hx hb hown hK (C := RX10) (T := TX10) (N := 11) rfl hly_12_4 hlk_83 (hh_3.at 1 rfl) dX10_isOne_123 ?_
        refine lv_iconst (v := 1) hx hb dX10_isOne_126 (by decide) ?_
        refine lv_iadd hx hb dX10_isOne_127 ?_
        refine lv_topi (fun z_8 ez_8 => ?_)
        have hz_8 : z_8.toInt = pa.toInt + 1 := by rw [ez_8]; exact jb_iadd2 (rfl) ((by decide)) (by omega)
        refine j7_put hx hb hown hK hh_3 hB hAp hB12 (C := RX10) (T := TX10) (N := 11) rfl (by decide) hg_r0 (i := 4) (by decide) hly_12_4 rfl hlk_83 rfl (ty := .int) (v := .int z_8) (by decide +kernel) rfl rfl (⟨_, rfl, by omega, by omega⟩) rfl (L1 := [(r0, 12, 3, .int tk), (r0, 12, 10, .int nc)]) [0, 2] rfl rfl rfl dX10_isOne_128 (fun H_9 locs_9 hh_9 => ?_)
        clear hh_3
        refine lv_aload_n hx hb dX10_isOne_131 rfl (lv_at hl 2 rfl) ?_
        refine va_calli (A0 := jA base) (H0 := s.heap) (va_runV (As := []) (rest := []) ⟨hx, hb, hml, hown, hts⟩ (uX10_peekNameB l dC dI ca base B hB hAp hB12 hB101 hB293 G0 H_9 r0 tk z_8) (cwV 0 hts (jgV (jWr_79 _ (List.mem_of_getElem? (i := 14) rfl)) (jWr_79 _ (List.mem_of_getElem? (i := 15) rfl)) (jWr_79 _ (List.mem_of_getElem? (i := 16) rfl)) (jWr_4 _ (List.mem_of_getElem? (i := 14) rfl)) (jWr_79 _ (List.mem_of_getElem? (i := 17) rfl))) rfl rfl rfl (by decide +kernel) ⟨by rw [← hR]; show (1) + 1 ≤ 5 * ef + 5; omega, by rw [← hR]; show 8 + (1 + 11) + (20) ≤ 160 * ef + 200; omega⟩) ⟨fun a U g mk q => by obtain ⟨q0, q1, q2, qK, q10, q11, q12⟩ := q; exact ⟨q0, q1, q2, jG.calling g mk a qK, q10, q11, q12⟩, hh_9.recv (C := RX10) (T := TX10) (N := 11) hB12 rfl (by decide) hg_r0 hK, fun U hU hW => ⟨rfl, hU, hh_9.2.1, hG.step hW hU hh_9.1, hg_r0, (hh_9.2.2.1.sub (L1 := [(r0, 12, 3, .int tk), (r0, 12, 4, .int z_8)]) [1, 0] rfl), by first | omega | (refine ⟨?_, ?_, ?_, ?_⟩ <;> (first | omega | rfl | assumption | decide | exact Or.inl rfl | exact Or.inr rfl | (simp only; omega)))⟩⟩ rfl rfl hl.1 rfl (lv_room (Nat.le_of_ble_eq_true rfl)) dX10_isOne_132 ⟨Nat.zero_le _, Nat.zero_le _⟩) hh_9.1 (fun q _ h => h) (fun q h => h) (fun r_11 u_10 t_10 H_10 locs_10 ht_10 hvm_10 hr_11 hb_10 hz_10 hk_10 hS_10 => ?_)
        rw [ht_10] at hb_10
        obtain ⟨hb_101, hb_102, hb_103, hb_104, hb_105⟩ := hb_10
        have hh_10 : jSt (dC, dI) B base G0 G0 EX10_isOneB s.heap 0 0 [(r0, 12, 4, .int z_8), (r0, 12, 3, .int tk), (r0, 12, 10, .int nc)] [] [] H_10 locs_10 := ((hh_9.call hb_101 hb_102 hb_103 hb_104 hS_10 rfl (L1 := [(r0, 12, 4, .int z_8), (r0, 12, 3, .int tk), (r0, 12, 10, .int nc)]) [0, 1, 2] rfl rfl (M1 := []) [] rfl rfl (I1 := []) [] rfl rfl).more hb_105)
        clear hh_9 ht_10 hvm_10 hz_10 hk_10 hS_10 hb_101 hb_102 hb_103 hb_104 hb_105
        obtain ⟨hr_11_0, hr_11_1, hr_11_2⟩ := hr_11
        refine lv_istore (lv' := [(4, .int r_11), (3, .int r_4), (2, .int r_2), (0, .ref r0), (1, .int a1)]) hx hb dX10_isOne_135 hl (by decide) rfl (fun ls hl => ?_)
        refine lv_iload_n hx hb dX10_isOne_137 rfl (lv_at hl 1 rfl) ?_
        refine lv_if_ne (tgt := 145) hx hb dX10_isOne_138 (by decide) (fun c_12 => ?_) (fun c_12 => ?_)
        · skip
          have c_12' : r_4.toInt ≠ 0 := jb_ne (rfl) ((by decide)) c_12
          exact (by omega : False).elim
        · skip
          have c_12' : r_4.toInt = 0 := jb_ne_n (rfl) ((by decide)) c_12
          first | (have hr_4_0q := hr_4_0.resolve_left (by omega); clear hr_4_0) | (have hr_4_0q := hr_4_0.resolve_right (by omega); clear hr_4_0) | skip
          refine lv_iconst (v := 5) hx hb dX10_isOne_141 (by decide) ?_
          refine lv_goto (tgt := 147) hx hb dX10_isOne_142 (by decide) ?_
          refine lv_iload hx hb dX10_isOne_147 (lv_at hl 0 rfl) ?_
          refine lv_bipush (v := 15) hx hb dX10_isOne_149 (by decide) ?_
          refine lv_ishl hx hb dX10_isOne_151 ?_
          refine lv_topi (fun z_13 ez_13 => ?_)
          refine lv_ior hx hb dX10_isOne_152 ?_
          refine lv_topi (fun z_14 ez_14 => ?_)
          refine lv_istore (lv' := [(5, .int z_14), (4, .int r_11), (3, .int r_4), (2, .int r_2), (0, .ref r0), (1, .int a1)]) hx hb dX10_isOne_153 hl (by decide) rfl (fun ls hl => ?_)
          refine lv_aload_n hx hb dX10_isOne_155 rfl (lv_at hl 4 rfl) ?_
          refine lv_dup hx hb dX10_isOne_156 rfl ?_
          refine j7_read hx hb hown hK (C := RX10) (T := TX10) (N := 11) rfl hly_12_4 hlk_83 (hh_10.at 0 rfl) dX10_isOne_157 ?_
          refine lv_iconst (v := 1) hx hb dX10_isOne_160 (by decide) ?_
          refine lv_iadd hx hb dX10_isOne_161 ?_
          refine lv_topi (fun z_15 ez_15 => ?_)
          have hz_15 : z_15.toInt = z_8.toInt + 1 := by rw [ez_15]; exact jb_iadd2 (rfl) ((by decide)) (by omega)
          refine j7_put hx hb hown hK hh_10 hB hAp hB12 (C := RX10) (T := TX10) (N := 11) rfl (by decide) hg_r0 (i := 4) (by decide) hly_12_4 rfl hlk_83 rfl (ty := .int) (v := .int z_15) (by decide +kernel) rfl rfl (⟨_, rfl, by omega, by omega⟩) rfl (L1 := [(r0, 12, 3, .int tk), (r0, 12, 10, .int nc)]) [1, 2] rfl rfl rfl dX10_isOne_162 (fun H_16 locs_16 hh_16 => ?_)
          clear hh_10
          refine lv_iload_n hx hb dX10_isOne_165 rfl (lv_at hl 5 rfl) ?_
          refine lv_bipush (v := 12) hx hb dX10_isOne_166 (by decide) ?_
          refine lv_icmp_ge (tgt := 210) hx hb dX10_isOne_168 (by decide) (fun c_17 => ?_) (fun c_17 => ?_)
          · skip
            have c_17' : a1.toInt ≥ 12 := jb_ge (rfl) ((by decide)) c_17
            refine lv_iconst (v := 0) hx hb dX10_isOne_210 (by decide) ?_
            rw [hQ]
            exact W.zret (v := 0) hx hb hr (jb_nz (Or.inl rfl)) (fun t ht hW => ⟨⟨0, (z_15, nc), rfl, ⟨(Or.inl rfl), by (try dsimp only); first | omega | (refine ⟨?_, ?_, ?_, ?_, ?_⟩ <;> (first | omega | rfl | assumption | decide | exact Or.inl rfl | exact Or.inr rfl | (simp only; omega)))⟩, hh_16.rt (M1 := [(r0, 12, 4, .int z_15), (r0, 12, 10, .int nc)]) [0, 2] rfl ht⟩, by rw [ht]; try exact hh_16.1.1, fun q h9 hq => by rw [ht]; try exact hh_16.1.2.1 q h9 hq⟩) hh_16.1.2.2 dX10_isOne_211
          · skip
            have c_17' : a1.toInt < 12 := jb_ge_n (rfl) ((by decide)) c_17
            refine lv_iload hx hb dX10_isOne_171 (lv_at hl 1 rfl) ?_
            refine lv_iconst (v := 2) hx hb dX10_isOne_173 (by decide) ?_
            refine lv_icmp_le (tgt := 210) hx hb dX10_isOne_174 (by decide) (fun c_18 => ?_) (fun c_18 => ?_)
            · skip
              have c_18' : r_11.toInt ≤ 2 := jb_le (rfl) ((by decide)) c_18
              first | (have hr_11_0q := hr_11_0.resolve_left (by omega); clear hr_11_0) | (have hr_11_0q := hr_11_0.resolve_right (by omega); clear hr_11_0) | skip
              refine lv_iconst (v := 0) hx hb dX10_isOne_210 (by decide) ?_
              rw [hQ]
              exact W.zret (v := 0) hx hb hr (jb_nz (Or.inl rfl)) (fun t ht hW => ⟨⟨0, (z_15, nc), rfl, ⟨(Or.inl rfl), by (try dsimp only); first | omega | (refine ⟨?_, ?_, ?_, ?_, ?_⟩ <;> (first | omega | rfl | assumption | decide | exact Or.inl rfl | exact Or.inr rfl | (simp only; omega)))⟩, hh_16.rt (M1 := [(r0, 12, 4, .int z_15), (r0, 12, 10, .int nc)]) [0, 2] rfl ht⟩, by rw [ht]; try exact hh_16.1.1, fun q h9 hq => by rw [ht]; try exact hh_16.1.2.1 q h9 hq⟩) hh_16.1.2.2 dX10_isOne_211
            · skip
              have c_18' : r_11.toInt > 2 := jb_le_n (rfl) ((by decide)) c_18
              first | (have hr_11_0q := hr_11_0.resolve_left (by omega); clear hr_11_0) | (have hr_11_0q := hr_11_0.resolve_right (by omega); clear hr_11_0) | skip
              refine lv_aload_n hx hb dX10_isOne_177 rfl (lv_at hl 4 rfl) ?_
              refine lv_bipush (v := 44) hx hb dX10_isOne_178 (by decide) ?_
              refine va_calli (A0 := jA base) (H0 := s.heap) (va_runV (As := [.int 44]) (rest := []) ⟨hx, hb, hml, hown, hts⟩ (uX10_isSignB l dC dI ca base B hB hAp hB12 hB101 G0 H_16 r0 44 tk z_15) (cwV 1 hts (jgV (jWr_80 _ (List.mem_of_getElem? (i := 2) rfl)) (jWr_80 _ (List.mem_of_getElem? (i := 3) rfl)) (jWr_80 _ (List.mem_of_getElem? (i := 4) rfl)) (jWr_4 _ (List.mem_of_getElem? (i := 14) rfl)) (jWr_80 _ (List.mem_of_getElem? (i := 5) rfl))) rfl rfl rfl (by decide +kernel) ⟨by rw [← hR]; show (0) + 1 ≤ 5 * ef + 5; omega, by rw [← hR]; show 8 + (3 + 11) + (0) ≤ 160 * ef + 200; omega⟩) ⟨fun a U g mk q => by obtain ⟨q0, q1, q2, qK, q10, q11, q12⟩ := q; exact ⟨q0, q1, q2, jG.calling g mk a qK, q10, q11, q12⟩, hh_16.recv (C := RX10) (T := TX10) (N := 11) hB12 rfl (by decide) hg_r0 hK, fun U hU hW => ⟨rfl, hU, hh_16.2.1, hG.step hW hU hh_16.1, hg_r0, (hh_16.2.2.1.sub (L1 := [(r0, 12, 3, .int tk), (r0, 12, 4, .int z_15)]) [1, 0] rfl), by first | omega | (refine ⟨?_, ?_, ?_, ?_, ?_⟩ <;> (first | omega | rfl | assumption | decide | exact Or.inl rfl | exact Or.inr rfl | (simp only; omega)))⟩⟩ rfl rfl hl.1 rfl (lv_room (Nat.le_of_ble_eq_true rfl)) dX10_isOne_180 ⟨Nat.zero_le _, Nat.zero_le _⟩) hh_16.1 (fun q _ h => h) (fun q h => h) (fun r_20 u_19 t_19 H_19 locs_19 ht_19 hvm_19 hr_20 hb_19 hz_19 hk_19 hS_19 => ?_)
              obtain ⟨qa_19, rfl⟩ : ∃ z, z = u_19 := ⟨_, rfl⟩
              rw [ht_19] at hb_19
              obtain ⟨hb_191, hb_192, hb_193, hb_194, hb_195⟩ := hb_19
              have hh_19 : jSt (dC, dI) B base G0 G0 EX10_isOneB s.heap 0 0 [(r0, 12, 4, .int qa_19), (r0, 12, 3, .int tk), (r0, 12, 10, .int nc)] [] [] H_19 locs_19 := ((hh_16.call hb_191 hb_192 hb_193 hb_194 hS_19 rfl (L1 := [(r0, 12, 3, .int tk), (r0, 12, 10, .int nc)]) [1, 2] rfl rfl (M1 := []) [] rfl rfl (I1 := []) [] rfl rfl).more hb_195)
              clear hh_16 ht_19 hvm_19 hz_19 hk_19 hS_19 hb_191 hb_192 hb_193 hb_194 hb_195
              obtain ⟨hr_20b, hr_20p⟩ := hr_20
              obtain ⟨hr_20p_0, hr_20p_1⟩ := hr_20p
              have hr_20' := jb_01 hr_20b
              refine lv_if_eq (tgt := 210) hx hb dX10_isOne_183 (by decide) (fun c_21 => ?_) (fun c_21 => ?_)
              · skip
                have c_21' : r_20.toInt = 0 := jb_eq (rfl) ((by decide)) c_21
                first | (have hr_20p_1q := hr_20p_1.resolve_left (by omega); clear hr_20p_1) | (have hr_20p_1q := hr_20p_1.resolve_right (by omega); clear hr_20p_1) | skip
                refine lv_iconst (v := 0) hx hb dX10_isOne_210 (by decide) ?_
                rw [hQ]
                exact W.zret (v := 0) hx hb hr (jb_nz (Or.inl rfl)) (fun t ht hW => ⟨⟨0, (qa_19, nc), rfl, ⟨(Or.inl rfl), by (try dsimp only); first | omega | (refine ⟨?_, ?_, ?_, ?_, ?_⟩ <;> (first | omega | rfl | assumption | decide | exact Or.inl rfl | exact Or.inr rfl | (simp only; omega)))⟩, hh_19.rt (M1 := [(r0, 12, 4, .int qa_19), (r0, 12, 10, .int nc)]) [0, 2] rfl ht⟩, by rw [ht]; try exact hh_19.1.1, fun q h9 hq => by rw [ht]; try exact hh_19.1.2.1 q h9 hq⟩) hh_19.1.2.2 dX10_isOne_211
              · skip
                have c_21' : r_20.toInt ≠ 0 := jb_eq_n (rfl) ((by decide)) c_21
                first | (have hr_20p_1q := hr_20p_1.resolve_left (by omega); clear hr_20p_1) | (have hr_20p_1q := hr_20p_1.resolve_right (by omega); clear hr_20p_1) | skip
                have hs9 := jb_shlc 15 32768 ez_13 (by decide) (by decide) (by omega) (by omega)
                have ho9 := jb_or ez_14 (by omega) (by omega)
                refine lv_aload_n hx hb dX10_isOne_186 rfl (lv_at hl 4 rfl) ?_
                refine lv_iload hx hb dX10_isOne_187 (lv_at hl 0 rfl) ?_
                obtain ⟨v_24, hv_24, hh_25⟩ := hh_19.pin (C := RX10) (T := TX10) (N := 11) hB12 rfl (by decide) hg_r0 (i := 9) (by decide) rfl
                obtain ⟨nodes_26, rfl, hg_nodes_26⟩ := hv_24
                obtain ⟨f_fn_27, hh_27⟩ := hh_25.cpin hB280 (by decide) (by decide) hg_nodes_26
                clear hh_25
                refine va_calli (A0 := jA base) (H0 := s.heap) (va_runV (As := [.int z_14]) (rest := []) ⟨hx, hb, hml, hown, hts⟩ (uX10_addNodeB l dC dI ca base B hB hAp hB12 hB280 G0 H_19 r0 z_14 nc nodes_26 f_fn_27) (cwV 1 hts (jgV (jWr_80 _ (List.mem_of_getElem? (i := 20) rfl)) (jWr_80 _ (List.mem_of_getElem? (i := 21) rfl)) (jWr_80 _ (List.mem_of_getElem? (i := 22) rfl)) (jWr_4 _ (List.mem_of_getElem? (i := 14) rfl)) (jWr_80 _ (List.mem_of_getElem? (i := 23) rfl))) rfl rfl rfl (by decide +kernel) ⟨by rw [← hR]; show (0) + 1 ≤ 5 * ef + 5; omega, by rw [← hR]; show 8 + (2 + 11) + (0) ≤ 160 * ef + 200; omega⟩) ⟨fun a U g mk q => by obtain ⟨q0, q1, q2, qK, q10, q11, q12, q13, q14⟩ := q; exact ⟨q0, q1, q2, jG.calling g mk a qK, q10, q11, q12, q13, q14⟩, hh_27.recv (C := RX10) (T := TX10) (N := 11) hB12 rfl (by decide) hg_r0 hK, fun U hU hW => ⟨rfl, hU, hh_27.2.1, hG.step hW hU hh_27.1, hg_r0, hg_nodes_26, (hh_27.2.2.1.sub (L1 := [(r0, 12, 10, .int nc), (r0, 12, 9, .ref nodes_26)]) [3, 0] rfl), (hh_27.2.2.2.2.2.2.2.1.sub (L1 := [(nodes_26, 280, 3000, ca 1, f_fn_27)]) [0] rfl), by first | omega | (refine ⟨?_, ?_, ?_⟩ <;> (first | omega | rfl | assumption | decide | exact Or.inl rfl | exact Or.inr rfl | (simp only; omega)))⟩⟩ rfl rfl hl.1 rfl (lv_room (Nat.le_of_ble_eq_true rfl)) dX10_isOne_189 ⟨Nat.zero_le _, Nat.zero_le _⟩) hh_27.1 (fun q _ h => h) (fun q h => h) (fun r_23 u_22 t_22 H_22 locs_22 ht_22 hvm_22 hr_23 hb_22 hz_22 hk_22 hS_22 => ?_)
                obtain ⟨qc_22, fn2_22⟩ := u_22
                rw [ht_22] at hb_22
                obtain ⟨⟨hb_221, hb_222, hb_223, hb_224, hb_225⟩, hb_226⟩ := hb_22
                have hh_22 : jSt (dC, dI) B base G0 G0 EX10_isOneB s.heap 0 0 [(r0, 12, 10, .int qc_22), (r0, 12, 9, .ref nodes_26), (r0, 12, 4, .int qa_19), (r0, 12, 3, .int tk)] [(nodes_26, 280, 3000, ca 1, fn2_22)] [] H_22 locs_22 := ((hh_27.call hb_221 hb_222 hb_223 hb_224 hS_22 rfl (L1 := [(r0, 12, 9, .ref nodes_26), (r0, 12, 4, .int qa_19), (r0, 12, 3, .int tk)]) [0, 1, 2] rfl rfl (M1 := []) [] rfl rfl (I1 := []) [] rfl rfl).more hb_225).moreM hb_226
                clear hh_27 ht_22 hvm_22 hz_22 hk_22 hS_22 hb_221 hb_222 hb_223 hb_224 hb_225
                clear hb_226
                try simp only at hr_23
                obtain ⟨hr_23b, hr_23p⟩ := hr_23
                obtain ⟨hr_23p_0, hr_23p_1, hr_23p_2, hr_23p_3⟩ := hr_23p
                have hr_23' := jb_01 hr_23b
                refine lv_if_eq (tgt := 210) hx hb dX10_isOne_192 (by decide) (fun c_28 => ?_) (fun c_28 => ?_)
                · skip
                  have c_28' : r_23.toInt = 0 := jb_eq (rfl) ((by decide)) c_28
                  first | (have hr_23p_0q := hr_23p_0.resolve_left (by omega); clear hr_23p_0) | (have hr_23p_0q := hr_23p_0.resolve_right (by omega); clear hr_23p_0) | skip
                  first | (have hr_23p_3q := hr_23p_3.resolve_left (by omega); clear hr_23p_3) | (have hr_23p_3q := hr_23p_3.resolve_right (by omega); clear hr_23p_3) | skip
                  refine lv_iconst (v := 0) hx hb dX10_isOne_210 (by decide) ?_
                  rw [hQ]
                  exact W.zret (v := 0) hx hb hr (jb_nz (Or.inl rfl)) (fun t ht hW => ⟨⟨0, (qa_19, qc_22), rfl, ⟨(Or.inl rfl), by (try dsimp only); first | omega | (refine ⟨?_, ?_, ?_, ?_, ?_⟩ <;> (first | omega | rfl | assumption | decide | exact Or.inl rfl | exact Or.inr rfl | (simp only; omega)))⟩, hh_22.rt (M1 := [(r0, 12, 4, .int qa_19), (r0, 12, 10, .int qc_22)]) [2, 0] rfl ht⟩, by rw [ht]; try exact hh_22.1.1, fun q h9 hq => by rw [ht]; try exact hh_22.1.2.1 q h9 hq⟩) hh_22.1.2.2 dX10_isOne_211
                · skip
                  have c_28' : r_23.toInt ≠ 0 := jb_eq_n (rfl) ((by decide)) c_28
                  first | (have hr_23p_0q := hr_23p_0.resolve_left (by omega); clear hr_23p_0) | (have hr_23p_0q := hr_23p_0.resolve_right (by omega); clear hr_23p_0) | skip
                  first | (have hr_23p_3q := hr_23p_3.resolve_left (by omega); clear hr_23p_3) | (have hr_23p_3q := hr_23p_3.resolve_right (by omega); clear hr_23p_3) | skip
                  refine lv_aload_n hx hb dX10_isOne_195 rfl (lv_at hl 4 rfl) ?_
                  refine lv_iconst (v := 0) hx hb dX10_isOne_196 (by decide) ?_
                  refine lv_iload_n hx hb dX10_isOne_197 rfl (lv_at hl 5 rfl) ?_
                  refine lv_iconst (v := 1) hx hb dX10_isOne_198 (by decide) ?_
                  refine lv_iadd hx hb dX10_isOne_199 ?_
                  refine lv_topi (fun z_29 ez_29 => ?_)
                  have hz_29 : z_29.toInt = a1.toInt + 1 := by rw [ez_29]; exact jb_iadd2 (rfl) ((by decide)) (by omega)
                  refine va_calli (A0 := jA base) (H0 := s.heap) (va_runV (As := [.int 0, .int z_29]) (rest := []) ⟨hx, hb, hml, hown, hts⟩ (ihC (ef - 1) (by omega) G0 H_22 r0 0 z_29 tk qa_19 qc_22) (cwV 2 hts (jgV (jWr_80 _ (List.mem_of_getElem? (i := 6) rfl)) (jWr_80 _ (List.mem_of_getElem? (i := 7) rfl)) (jWr_80 _ (List.mem_of_getElem? (i := 8) rfl)) (jWr_4 _ (List.mem_of_getElem? (i := 14) rfl)) (jWr_80 _ (List.mem_of_getElem? (i := 9) rfl))) rfl rfl rfl (by decide +kernel) ⟨by rw [← hR]; show (5 * (ef - 1) + 6 + 2) + 1 ≤ 5 * ef + 5; omega, by rw [← hR]; show 8 + (6 + 11) + (160 * (ef - 1) + 230 + 30 * 2) ≤ 160 * ef + 200; omega⟩) ⟨fun a U g mk q => by obtain ⟨q0, q1, q2, qK, q10, q11, q12⟩ := q; exact ⟨q0, q1, q2, jG.calling g mk a qK, q10, q11, q12⟩, hh_22.recv (C := RX10) (T := TX10) (N := 11) hB12 rfl (by decide) hg_r0 hK, fun U hU hW => ⟨rfl, hU, hh_22.2.1, hG.step hW hU hh_22.1, hg_r0, (hh_22.2.2.1.sub (L1 := [(r0, 12, 3, .int tk), (r0, 12, 4, .int qa_19), (r0, 12, 10, .int qc_22)]) [3, 2, 0] rfl), by first | omega | (refine ⟨?_, ?_, ?_, ?_, ?_, ?_, ?_, ?_, ?_, ?_, ?_⟩ <;> (first | omega | rfl | assumption | decide | exact Or.inl rfl | exact Or.inr rfl | (simp only; omega)))⟩⟩ rfl rfl hl.1 rfl (lv_room (Nat.le_of_ble_eq_true rfl)) dX10_isOne_200 ⟨Nat.zero_le _, Nat.zero_le _⟩) hh_22.1 (fun q _ h => h) (fun q h => h) (fun r_31 u_30 t_30 H_30 locs_30 ht_30 hvm_30 hr_31 hb_30 hz_30 hk_30 hS_30 => ?_)
                  obtain ⟨qa_30, qc_30⟩ := u_30
                  rw [ht_30] at hb_30
                  obtain ⟨hb_301, hb_302, hb_303, hb_304, hb_305⟩ := hb_30
                  have hh_30 : jSt (dC, dI) B base G0 G0 EX10_isOneB s.heap 0 0 [(r0, 12, 4, .int qa_30), (r0, 12, 10, .int qc_30), (r0, 12, 9, .ref nodes_26), (r0, 12, 3, .int tk)] [] [] H_30 locs_30 := ((hh_22.call hb_301 hb_302 hb_303 hb_304 hS_30 rfl (L1 := [(r0, 12, 9, .ref nodes_26), (r0, 12, 3, .int tk)]) [1, 3] rfl rfl (M1 := []) [] rfl rfl (I1 := []) [] rfl rfl).more hb_305)
                  clear hh_22 ht_30 hvm_30 hz_30 hk_30 hS_30 hb_301 hb_302 hb_303 hb_304 hb_305
                  try simp only at hr_31
                  obtain ⟨hr_31b, hr_31p⟩ := hr_31
                  obtain ⟨hr_31p_0, hr_31p_1, hr_31p_2, hr_31p_3, hr_31p_4⟩ := hr_31p
                  have hr_31' := jb_01 hr_31b
                  refine lv_if_eq (tgt := 210) hx hb dX10_isOne_203 (by decide) (fun c_32 => ?_) (fun c_32 => ?_)
                  · skip
                    have c_32' : r_31.toInt = 0 := jb_eq (rfl) ((by decide)) c_32
                    first | (have hr_31p_4q := hr_31p_4.resolve_left (by omega); clear hr_31p_4) | (have hr_31p_4q := hr_31p_4.resolve_right (by omega); clear hr_31p_4) | skip
                    refine lv_iconst (v := 0) hx hb dX10_isOne_210 (by decide) ?_
                    rw [hQ]
                    exact W.zret (v := 0) hx hb hr (jb_nz (Or.inl rfl)) (fun t ht hW => ⟨⟨0, (qa_30, qc_30), rfl, ⟨(Or.inl rfl), by (try dsimp only); first | omega | (refine ⟨?_, ?_, ?_, ?_, ?_⟩ <;> (first | omega | rfl | assumption | decide | exact Or.inl rfl | exact Or.inr rfl | (simp only; omega)))⟩, hh_30.rt (M1 := [(r0, 12, 4, .int qa_30), (r0, 12, 10, .int qc_30)]) [0, 1] rfl ht⟩, by rw [ht]; try exact hh_30.1.1, fun q h9 hq => by rw [ht]; try exact hh_30.1.2.1 q h9 hq⟩) hh_30.1.2.2 dX10_isOne_211
                  · skip
                    have c_32' : r_31.toInt ≠ 0 := jb_eq_n (rfl) ((by decide)) c_32
                    first | (have hr_31p_4q := hr_31p_4.resolve_left (by omega); clear hr_31p_4) | (have hr_31p_4q := hr_31p_4.resolve_right (by omega); clear hr_31p_4) | skip
                    refine lv_iconst (v := 1) hx hb dX10_isOne_206 (by decide) ?_
                    refine lv_goto (tgt := 211) hx hb dX10_isOne_207 (by decide) ?_
                    rw [hQ]
                    exact W.zret (v := 1) hx hb hr (jb_nz (Or.inr rfl)) (fun t ht hW => ⟨⟨1, (qa_30, qc_30), rfl, ⟨(Or.inr rfl), by (try dsimp only); first | omega | (refine ⟨?_, ?_, ?_, ?_, ?_⟩ <;> (first | omega | rfl | assumption | decide | exact Or.inl rfl | exact Or.inr rfl | (simp only; omega)))⟩, hh_30.rt (M1 := [(r0, 12, 4, .int qa_30), (r0, 12, 10, .int qc_30)]) [0, 1] rfl ht⟩, by rw [ht]; try exact hh_30.1.1, fun q h9 hq => by rw [ht]; try exact hh_30.1.2.1 q h9 hq⟩) hh_30.1.2.2 dX10_isOne_211
      · skip
        have c_7' : r_4.toInt ≠ 0 := jb_eq_n (rfl) ((by decide)) c_7
        refine lv_iload_n hx hb dX10_isOne_116 rfl (lv_at hl 0 rfl) ?_
        refine lv_iconst (v := 1) hx hb dX10_isOne_117 (by decide) ?_
        refine lv_icmp_ne (tgt := 212) hx hb dX10_isOne_118 (by decide) (fun c_33 => ?_) (fun c_33 => ?_)
        · skip
          have c_33' : r_4.toInt ≠ 1 := jb_ne (rfl) ((by decide)) c_33
          refine lv_iload_n hx hb dX10_isOne_212 rfl (lv_at hl 0 rfl) ?_
          refine lv_iconst (v := 2) hx hb dX10_isOne_213 (by decide) ?_
          refine lv_icmp_ne (tgt := 233) hx hb dX10_isOne_214 (by decide) (fun c_34 => ?_) (fun c_34 => ?_)
          · skip
            have c_34' : r_4.toInt ≠ 2 := jb_ne (rfl) ((by decide)) c_34
            refine lv_aload_n hx hb dX10_isOne_233 rfl (lv_at hl 2 rfl) ?_
            refine j7_read hx hb hown hK (C := RX10) (T := TX10) (N := 11) rfl hly_12_10 hlk_89 (hh_3.at 2 rfl) dX10_isOne_234 ?_
            refine lv_istore (lv' := [(4, .int nc), (3, .int r_4), (2, .int r_2), (0, .ref r0), (1, .int a1)]) hx hb dX10_isOne_237 hl (by decide) rfl (fun ls hl => ?_)
            refine lv_aload_n hx hb dX10_isOne_239 rfl (lv_at hl 3 rfl) ?_
            refine lv_bipush (v := 7) hx hb dX10_isOne_240 (by decide) ?_
            refine lv_iload_n hx hb dX10_isOne_242 rfl (lv_at hl 4 rfl) ?_
            obtain ⟨v_37, hv_37, hh_38⟩ := hh_3.pin (C := RX10) (T := TX10) (N := 11) hB12 rfl (by decide) hg_r0 (i := 9) (by decide) rfl
            obtain ⟨nodes_39, rfl, hg_nodes_39⟩ := hv_37
            obtain ⟨f_fn_40, hh_40⟩ := hh_38.cpin hB280 (by decide) (by decide) hg_nodes_39
            clear hh_38
            refine va_calli (A0 := jA base) (H0 := s.heap) (va_runV (As := [.int 7, .int a1]) (rest := []) ⟨hx, hb, hml, hown, hts⟩ (aX10_isTermB l dC dI ca base B hB hAp hB12 hB101 hB280 hB293 ef G0 H_3 r0 7 a1 tk pa nc nodes_39 f_fn_40) (cwV 2 hts (jgV (jWr_81 _ (List.mem_of_getElem? (i := 0) rfl)) (jWr_81 _ (List.mem_of_getElem? (i := 1) rfl)) (jWr_81 _ (List.mem_of_getElem? (i := 2) rfl)) (jWr_4 _ (List.mem_of_getElem? (i := 14) rfl)) (jWr_81 _ (List.mem_of_getElem? (i := 3) rfl))) rfl rfl rfl (by decide +kernel) ⟨by rw [← hR]; show (ef + 3) + 1 ≤ 5 * ef + 5; omega, by rw [← hR]; show 8 + (6 + 11) + (60 * ef + 120) ≤ 160 * ef + 200; omega⟩) ⟨fun a U g mk q => by obtain ⟨q0, q1, q2, qK, q10, q11, q12, q13, q14⟩ := q; exact ⟨q0, q1, q2, jG.calling g mk a qK, q10, q11, q12, q13, q14⟩, hh_40.recv (C := RX10) (T := TX10) (N := 11) hB12 rfl (by decide) hg_r0 hK, fun U hU hW => ⟨rfl, hU, hh_40.2.1, hG.step hW hU hh_40.1, hg_r0, hg_nodes_39, (hh_40.2.2.1.sub (L1 := [(r0, 12, 3, .int tk), (r0, 12, 4, .int pa), (r0, 12, 10, .int nc), (r0, 12, 9, .ref nodes_39)]) [1, 2, 3, 0] rfl), (hh_40.2.2.2.2.2.2.2.1.sub (L1 := [(nodes_39, 280, 3000, ca 1, f_fn_40)]) [0] rfl), by first | omega | (refine ⟨?_, ?_, ?_, ?_, ?_, ?_, ?_, ?_, ?_, ?_, ?_⟩ <;> (first | omega | rfl | assumption | decide | exact Or.inl rfl | exact Or.inr rfl | (simp only; omega)))⟩⟩ rfl rfl hl.1 rfl (lv_room (Nat.le_of_ble_eq_true rfl)) dX10_isOne_243 ⟨Nat.zero_le _, Nat.zero_le _⟩) hh_40.1 (fun q _ h => h) (fun q h => h) (fun r_36 u_35 t_35 H_35 locs_35 ht_35 hvm_35 hr_36 hb_35 hz_35 hk_35 hS_35 => ?_)
            obtain ⟨qa_35, qc_35, fn2_35⟩ := u_35
            rw [ht_35] at hb_35
            obtain ⟨⟨hb_351, hb_352, hb_353, hb_354, hb_355⟩, hb_356⟩ := hb_35
            have hh_35 : jSt (dC, dI) B base G0 G0 EX10_isOneB s.heap 0 0 [(r0, 12, 4, .int qa_35), (r0, 12, 10, .int qc_35), (r0, 12, 9, .ref nodes_39), (r0, 12, 3, .int tk)] [(nodes_39, 280, 3000, ca 1, fn2_35)] [] H_35 locs_35 := ((hh_40.call hb_351 hb_352 hb_353 hb_354 hS_35 rfl (L1 := [(r0, 12, 9, .ref nodes_39), (r0, 12, 3, .int tk)]) [0, 1] rfl rfl (M1 := []) [] rfl rfl (I1 := []) [] rfl rfl).more hb_355).moreM hb_356
            clear hh_40 ht_35 hvm_35 hz_35 hk_35 hS_35 hb_351 hb_352 hb_353 hb_354 hb_355
            clear hb_356
            try simp only at hr_36
            obtain ⟨hr_36b, hr_36p⟩ := hr_36
            obtain ⟨hr_36p_0, hr_36p_1, hr_36p_2, hr_36p_3, hr_36p_4, hr_36p_5, hr_36p_6⟩ := hr_36p
            have hr_36' := jb_01 hr_36b
            refine lv_if_ne (tgt := 251) hx hb dX10_isOne_246 (by decide) (fun c_41 => ?_) (fun c_41 => ?_)
            · skip
              have c_41' : r_36.toInt ≠ 0 := jb_ne (rfl) ((by decide)) c_41
              first | (have hr_36p_4q := hr_36p_4.resolve_left (by omega); clear hr_36p_4) | (have hr_36p_4q := hr_36p_4.resolve_right (by omega); clear hr_36p_4) | skip
              first | (have hr_36p_6q := hr_36p_6.resolve_left (by omega); clear hr_36p_6) | (have hr_36p_6q := hr_36p_6.resolve_right (by omega); clear hr_36p_6) | skip
              refine lv_aload_n hx hb dX10_isOne_251 rfl (lv_at hl 3 rfl) ?_
              refine va_calli (A0 := jA base) (H0 := s.heap) (va_runV (As := []) (rest := []) ⟨hx, hb, hml, hown, hts⟩ (uX10_peekB l dC dI ca base B hB hAp hB12 hB101 G0 H_35 r0 tk qa_35) (cwV 0 hts (jgV (jWr_79 _ (List.mem_of_getElem? (i := 18) rfl)) (jWr_79 _ (List.mem_of_getElem? (i := 19) rfl)) (jWr_79 _ (List.mem_of_getElem? (i := 20) rfl)) (jWr_4 _ (List.mem_of_getElem? (i := 14) rfl)) (jWr_79 _ (List.mem_of_getElem? (i := 21) rfl))) rfl rfl rfl (by decide +kernel) ⟨by rw [← hR]; show (0) + 1 ≤ 5 * ef + 5; omega, by rw [← hR]; show 8 + (1 + 11) + (0) ≤ 160 * ef + 200; omega⟩) ⟨fun a U g mk q => by obtain ⟨q0, q1, q2, qK, q10, q11, q12⟩ := q; exact ⟨q0, q1, q2, jG.calling g mk a qK, q10, q11, q12⟩, hh_35.recv (C := RX10) (T := TX10) (N := 11) hB12 rfl (by decide) hg_r0 hK, fun U hU hW => ⟨rfl, hU, hh_35.2.1, hG.step hW hU hh_35.1, hg_r0, (hh_35.2.2.1.sub (L1 := [(r0, 12, 3, .int tk), (r0, 12, 4, .int qa_35)]) [3, 0] rfl), by first | omega | (refine ⟨?_, ?_, ?_, ?_⟩ <;> (first | omega | rfl | assumption | decide | exact Or.inl rfl | exact Or.inr rfl | (simp only; omega)))⟩⟩ rfl rfl hl.1 rfl (lv_room (Nat.le_of_ble_eq_true rfl)) dX10_isOne_252 ⟨Nat.zero_le _, Nat.zero_le _⟩) hh_35.1 (fun q _ h => h) (fun q h => h) (fun r_43 u_42 t_42 H_42 locs_42 ht_42 hvm_42 hr_43 hb_42 hz_42 hk_42 hS_42 => ?_)
              rw [ht_42] at hb_42
              obtain ⟨hb_421, hb_422, hb_423, hb_424, hb_425⟩ := hb_42
              have hh_42 : jSt (dC, dI) B base G0 G0 EX10_isOneB s.heap 0 0 [(r0, 12, 4, .int qa_35), (r0, 12, 10, .int qc_35), (r0, 12, 9, .ref nodes_39), (r0, 12, 3, .int tk)] [(nodes_39, 280, 3000, ca 1, fn2_35)] [] H_42 locs_42 := ((hh_35.call hb_421 hb_422 hb_423 hb_424 hS_42 rfl (L1 := [(r0, 12, 4, .int qa_35), (r0, 12, 10, .int qc_35), (r0, 12, 9, .ref nodes_39), (r0, 12, 3, .int tk)]) [0, 1, 2, 3] rfl rfl (M1 := [(nodes_39, 280, 3000, ca 1, fn2_35)]) [0] rfl rfl (I1 := []) [] rfl rfl).more hb_425)
              clear hh_35 ht_42 hvm_42 hz_42 hk_42 hS_42 hb_421 hb_422 hb_423 hb_424 hb_425
              refine lv_bipush (v := 61) hx hb dX10_isOne_255 (by decide) ?_
              refine lv_icmp_eq (tgt := 262) hx hb dX10_isOne_257 (by decide) (fun c_44 => ?_) (fun c_44 => ?_)
              · skip
                have c_44' : r_43.toInt = 61 := jb_eq (rfl) ((by decide)) c_44
                first | (have hr_43q := hr_43.resolve_left (by omega); clear hr_43) | (have hr_43q := hr_43.resolve_right (by omega); clear hr_43) | try clear hr_43
                refine lv_aload_n hx hb dX10_isOne_262 rfl (lv_at hl 3 rfl) ?_
                refine lv_dup hx hb dX10_isOne_263 rfl ?_
                refine j7_read hx hb hown hK (C := RX10) (T := TX10) (N := 11) rfl hly_12_4 hlk_83 (hh_42.at 0 rfl) dX10_isOne_264 ?_
                refine lv_iconst (v := 1) hx hb dX10_isOne_267 (by decide) ?_
                refine lv_iadd hx hb dX10_isOne_268 ?_
                refine lv_topi (fun z_45 ez_45 => ?_)
                have hz_45 : z_45.toInt = qa_35.toInt + 1 := by rw [ez_45]; exact jb_iadd2 (rfl) ((by decide)) (by omega)
                refine j7_put hx hb hown hK hh_42 hB hAp hB12 (C := RX10) (T := TX10) (N := 11) rfl (by decide) hg_r0 (i := 4) (by decide) hly_12_4 rfl hlk_83 rfl (ty := .int) (v := .int z_45) (by decide +kernel) rfl rfl (⟨_, rfl, by omega, by omega⟩) rfl (L1 := [(r0, 12, 10, .int qc_35), (r0, 12, 9, .ref nodes_39), (r0, 12, 3, .int tk)]) [1, 2, 3] rfl rfl rfl dX10_isOne_269 (fun H_46 locs_46 hh_46 => ?_)
                clear hh_42
                refine lv_aload_n hx hb dX10_isOne_272 rfl (lv_at hl 3 rfl) ?_
                refine j7_read hx hb hown hK (C := RX10) (T := TX10) (N := 11) rfl hly_12_9 hlk_21 (hh_46.at 2 rfl) dX10_isOne_273 ?_
                refine lv_iload hx hb dX10_isOne_276 (lv_at hl 0 rfl) ?_
                refine lv_dup2_11 hx hb dX10_isOne_278 rfl rfl ?_
                refine j7_ialdM hx hb hK hh_46 hB280 1 rfl (by decide) hg_nodes_39 (x := nc.toInt) (rfl) (by omega) (j := 0) rfl dX10_isOne_279 (fun z_47 ez_47 (hz_47 : -1 ≤ z_47.toInt) => ?_)
                have hqz_47 : z_47.toInt = jSo fn2_35 (nc.toInt) := by unfold jSo; rw [ez_47]
                refine lv_iconst (v := 1) hx hb dX10_isOne_280 (by decide) ?_
                refine lv_iadd hx hb dX10_isOne_281 ?_
                refine lv_topi (fun z_48 ez_48 => ?_)
                have hz_48 : z_48.toInt = z_47.toInt + 1 := by rw [ez_48]; exact jb_iadd2 (rfl) ((by decide)) (by omega)
                refine j7_iastU hx hb hK hh_46 hB hB280 1 rfl (by decide) (by decide) rfl 0 rfl (M1 := []) [] rfl rfl rfl hg_nodes_39 (x := nc.toInt) (rfl) (by omega) (by first | omega | rfl | assumption | decide | exact Or.inl rfl | exact Or.inr rfl | (simp only; omega)) dX10_isOne_282 (fun H_49 locs_49 fs_50 hv_49 ho_49 hh_49 => ?_)
                have hv_49 : jSo fs_50 (nc.toInt) = z_48.toInt := by unfold jSo; rw [hv_49]; try exact rfl
                clear hh_46
                refine lv_aload_n hx hb dX10_isOne_283 rfl (lv_at hl 3 rfl) ?_
                refine lv_iload hx hb dX10_isOne_284 (lv_at hl 0 rfl) ?_
                refine lv_iconst (v := 4) hx hb dX10_isOne_286 (by decide) ?_
                refine va_calli (A0 := jA base) (H0 := s.heap) (va_runV (As := [.int nc, .int 4]) (rest := []) ⟨hx, hb, hml, hown, hts⟩ (uX10_insertNodeB l dC dI ca base B hB hAp hB12 hB280 G0 H_49 r0 nc 4 qc_35) (cwV 2 hts (jgV (jWr_80 _ (List.mem_of_getElem? (i := 15) rfl)) (jWr_80 _ (List.mem_of_getElem? (i := 16) rfl)) (jWr_80 _ (List.mem_of_getElem? (i := 17) rfl)) (jWr_4 _ (List.mem_of_getElem? (i := 14) rfl)) (jWr_80 _ (List.mem_of_getElem? (i := 18) rfl))) rfl rfl rfl (by decide +kernel) ⟨by rw [← hR]; show (0) + 1 ≤ 5 * ef + 5; omega, by rw [← hR]; show 8 + (4 + 11) + (0) ≤ 160 * ef + 200; omega⟩) ⟨fun a U g mk q => by obtain ⟨q0, q1, q2, qK, q10, q11, q12⟩ := q; exact ⟨q0, q1, q2, jG.calling g mk a qK, q10, q11, q12⟩, hh_49.recv (C := RX10) (T := TX10) (N := 11) hB12 rfl (by decide) hg_r0 hK, fun U hU hW => ⟨rfl, hU, hh_49.2.1, hG.step hW hU hh_49.1, hg_r0, (hh_49.2.2.1.sub (L1 := [(r0, 12, 10, .int qc_35)]) [1] rfl), by first | omega | (refine ⟨?_, ?_, ?_⟩ <;> (first | omega | rfl | assumption | decide | exact Or.inl rfl | exact Or.inr rfl | (simp only; omega)))⟩⟩ rfl rfl hl.1 rfl (lv_room (Nat.le_of_ble_eq_true rfl)) dX10_isOne_287 ⟨Nat.zero_le _, Nat.zero_le _⟩) hh_49.1 (fun q _ h => h) (fun q h => h) (fun r_52 u_51 t_51 H_51 locs_51 ht_51 hvm_51 hr_52 hb_51 hz_51 hk_51 hS_51 => ?_)
                obtain ⟨qc_51, rfl⟩ : ∃ z, z = u_51 := ⟨_, rfl⟩
                rw [ht_51] at hb_51
                obtain ⟨hb_511, hb_512, hb_513, hb_514, hb_515⟩ := hb_51
                have hh_51 : jSt (dC, dI) B base G0 G0 EX10_isOneB s.heap 0 0 [(r0, 12, 10, .int qc_51), (r0, 12, 4, .int z_45), (r0, 12, 9, .ref nodes_39), (r0, 12, 3, .int tk)] [] [] H_51 locs_51 := ((hh_49.call hb_511 hb_512 hb_513 hb_514 hS_51 rfl (L1 := [(r0, 12, 4, .int z_45), (r0, 12, 9, .ref nodes_39), (r0, 12, 3, .int tk)]) [0, 2, 3] rfl rfl (M1 := []) [] rfl rfl (I1 := []) [] rfl rfl).more hb_515)
                clear hh_49 ht_51 hvm_51 hz_51 hk_51 hS_51 hb_511 hb_512 hb_513 hb_514 hb_515
                obtain ⟨hr_52b, hr_52p⟩ := hr_52
                obtain ⟨hr_52p_0, hr_52p_1⟩ := hr_52p
                have hr_52' := jb_01 hr_52b
                refine lv_if_eq (tgt := 307) hx hb dX10_isOne_290 (by decide) (fun c_53 => ?_) (fun c_53 => ?_)
                · skip
                  have c_53' : r_52.toInt = 0 := jb_eq (rfl) ((by decide)) c_53
                  first | (have hr_52p_0q := hr_52p_0.resolve_left (by omega); clear hr_52p_0) | (have hr_52p_0q := hr_52p_0.resolve_right (by omega); clear hr_52p_0) | skip
                  refine lv_iconst (v := 0) hx hb dX10_isOne_307 (by decide) ?_
                  rw [hQ]
                  exact W.zret (v := 0) hx hb hr (jb_nz (Or.inl rfl)) (fun t ht hW => ⟨⟨0, (z_45, qc_51), rfl, ⟨(Or.inl rfl), by (try dsimp only); first | omega | (refine ⟨?_, ?_, ?_, ?_, ?_⟩ <;> (first | omega | rfl | assumption | decide | exact Or.inl rfl | exact Or.inr rfl | (simp only; omega)))⟩, hh_51.rt (M1 := [(r0, 12, 4, .int z_45), (r0, 12, 10, .int qc_51)]) [1, 0] rfl ht⟩, by rw [ht]; try exact hh_51.1.1, fun q h9 hq => by rw [ht]; try exact hh_51.1.2.1 q h9 hq⟩) hh_51.1.2.2 dX10_isOne_308
                · skip
                  have c_53' : r_52.toInt ≠ 0 := jb_eq_n (rfl) ((by decide)) c_53
                  first | (have hr_52p_0q := hr_52p_0.resolve_left (by omega); clear hr_52p_0) | (have hr_52p_0q := hr_52p_0.resolve_right (by omega); clear hr_52p_0) | skip
                  refine lv_aload_n hx hb dX10_isOne_293 rfl (lv_at hl 3 rfl) ?_
                  refine lv_bipush (v := 8) hx hb dX10_isOne_294 (by decide) ?_
                  refine lv_iload_n hx hb dX10_isOne_296 rfl (lv_at hl 4 rfl) ?_
                  obtain ⟨f_fn_56, hh_56⟩ := hh_51.cpin hB280 (by decide) (by decide) hg_nodes_39
                  clear hh_51
                  refine va_calli (A0 := jA base) (H0 := s.heap) (va_runV (As := [.int 8, .int a1]) (rest := []) ⟨hx, hb, hml, hown, hts⟩ (aX10_isTermB l dC dI ca base B hB hAp hB12 hB101 hB280 hB293 ef G0 H_51 r0 8 a1 tk z_45 qc_51 nodes_39 f_fn_56) (cwV 2 hts (jgV (jWr_81 _ (List.mem_of_getElem? (i := 0) rfl)) (jWr_81 _ (List.mem_of_getElem? (i := 1) rfl)) (jWr_81 _ (List.mem_of_getElem? (i := 2) rfl)) (jWr_4 _ (List.mem_of_getElem? (i := 14) rfl)) (jWr_81 _ (List.mem_of_getElem? (i := 3) rfl))) rfl rfl rfl (by decide +kernel) ⟨by rw [← hR]; show (ef + 3) + 1 ≤ 5 * ef + 5; omega, by rw [← hR]; show 8 + (6 + 11) + (60 * ef + 120) ≤ 160 * ef + 200; omega⟩) ⟨fun a U g mk q => by obtain ⟨q0, q1, q2, qK, q10, q11, q12, q13, q14⟩ := q; exact ⟨q0, q1, q2, jG.calling g mk a qK, q10, q11, q12, q13, q14⟩, hh_56.recv (C := RX10) (T := TX10) (N := 11) hB12 rfl (by decide) hg_r0 hK, fun U hU hW => ⟨rfl, hU, hh_56.2.1, hG.step hW hU hh_56.1, hg_r0, hg_nodes_39, (hh_56.2.2.1.sub (L1 := [(r0, 12, 3, .int tk), (r0, 12, 4, .int z_45), (r0, 12, 10, .int qc_51), (r0, 12, 9, .ref nodes_39)]) [3, 1, 0, 2] rfl), (hh_56.2.2.2.2.2.2.2.1.sub (L1 := [(nodes_39, 280, 3000, ca 1, f_fn_56)]) [0] rfl), by first | omega | (refine ⟨?_, ?_, ?_, ?_, ?_, ?_, ?_, ?_, ?_, ?_, ?_⟩ <;> (first | omega | rfl | assumption | decide | exact Or.inl rfl | exact Or.inr rfl | (simp only; omega)))⟩⟩ rfl rfl hl.1 rfl (lv_room (Nat.le_of_ble_eq_true rfl)) dX10_isOne_297 ⟨Nat.zero_le _, Nat.zero_le _⟩) hh_56.1 (fun q _ h => h) (fun q h => h) (fun r_55 u_54 t_54 H_54 locs_54 ht_54 hvm_54 hr_55 hb_54 hz_54 hk_54 hS_54 => ?_)
                  obtain ⟨qa_54, qc_54, fn2_54⟩ := u_54
                  rw [ht_54] at hb_54
                  obtain ⟨⟨hb_541, hb_542, hb_543, hb_544, hb_545⟩, hb_546⟩ := hb_54
                  have hh_54 : jSt (dC, dI) B base G0 G0 EX10_isOneB s.heap 0 0 [(r0, 12, 4, .int qa_54), (r0, 12, 10, .int qc_54), (r0, 12, 9, .ref nodes_39), (r0, 12, 3, .int tk)] [(nodes_39, 280, 3000, ca 1, fn2_54)] [] H_54 locs_54 := ((hh_56.call hb_541 hb_542 hb_543 hb_544 hS_54 rfl (L1 := [(r0, 12, 9, .ref nodes_39), (r0, 12, 3, .int tk)]) [2, 3] rfl rfl (M1 := []) [] rfl rfl (I1 := []) [] rfl rfl).more hb_545).moreM hb_546
                  clear hh_56 ht_54 hvm_54 hz_54 hk_54 hS_54 hb_541 hb_542 hb_543 hb_544 hb_545
                  clear hb_546
                  try simp only at hr_55
                  obtain ⟨hr_55b, hr_55p⟩ := hr_55
                  obtain ⟨hr_55p_0, hr_55p_1, hr_55p_2, hr_55p_3, hr_55p_4, hr_55p_5, hr_55p_6⟩ := hr_55p
                  have hr_55' := jb_01 hr_55b
                  refine lv_if_eq (tgt := 307) hx hb dX10_isOne_300 (by decide) (fun c_57 => ?_) (fun c_57 => ?_)
                  · skip
                    have c_57' : r_55.toInt = 0 := jb_eq (rfl) ((by decide)) c_57
                    first | (have hr_36p_4q := hr_36p_4.resolve_left (by omega); clear hr_36p_4) | (have hr_36p_4q := hr_36p_4.resolve_right (by omega); clear hr_36p_4) | try clear hr_36p_4
                    first | (have hr_36p_6q := hr_36p_6.resolve_left (by omega); clear hr_36p_6) | (have hr_36p_6q := hr_36p_6.resolve_right (by omega); clear hr_36p_6) | try clear hr_36p_6
                    first | (have hr_55p_4q := hr_55p_4.resolve_left (by omega); clear hr_55p_4) | (have hr_55p_4q := hr_55p_4.resolve_right (by omega); clear hr_55p_4) | skip
                    first | (have hr_55p_6q := hr_55p_6.resolve_left (by omega); clear hr_55p_6) | (have hr_55p_6q := hr_55p_6.resolve_right (by omega); clear hr_55p_6) | skip
                    refine lv_iconst (v := 0) hx hb dX10_isOne_307 (by decide) ?_
                    rw [hQ]
                    exact W.zret (v := 0) hx hb hr (jb_nz (Or.inl rfl)) (fun t ht hW => ⟨⟨0, (qa_54, qc_54), rfl, ⟨(Or.inl rfl), by (try dsimp only); first | omega | (refine ⟨?_, ?_, ?_, ?_, ?_⟩ <;> (first | omega | rfl | assumption | decide | exact Or.inl rfl | exact Or.inr rfl | (simp only; omega)))⟩, hh_54.rt (M1 := [(r0, 12, 4, .int qa_54), (r0, 12, 10, .int qc_54)]) [0, 1] rfl ht⟩, by rw [ht]; try exact hh_54.1.1, fun q h9 hq => by rw [ht]; try exact hh_54.1.2.1 q h9 hq⟩) hh_54.1.2.2 dX10_isOne_308
                  · skip
                    have c_57' : r_55.toInt ≠ 0 := jb_eq_n (rfl) ((by decide)) c_57
                    first | (have hr_36p_4q := hr_36p_4.resolve_left (by omega); clear hr_36p_4) | (have hr_36p_4q := hr_36p_4.resolve_right (by omega); clear hr_36p_4) | try clear hr_36p_4
                    first | (have hr_36p_6q := hr_36p_6.resolve_left (by omega); clear hr_36p_6) | (have hr_36p_6q := hr_36p_6.resolve_right (by omega); clear hr_36p_6) | try clear hr_36p_6
                    first | (have hr_55p_4q := hr_55p_4.resolve_left (by omega); clear hr_55p_4) | (have hr_55p_4q := hr_55p_4.resolve_right (by omega); clear hr_55p_4) | skip
                    first | (have hr_55p_6q := hr_55p_6.resolve_left (by omega); clear hr_55p_6) | (have hr_55p_6q := hr_55p_6.resolve_right (by omega); clear hr_55p_6) | skip
                    refine lv_iconst (v := 1) hx hb dX10_isOne_303 (by decide) ?_
                    refine lv_goto (tgt := 308) hx hb dX10_isOne_304 (by decide) ?_
                    rw [hQ]
                    exact W.zret (v := 1) hx hb hr (jb_nz (Or.inr rfl)) (fun t ht hW => ⟨⟨1, (qa_54, qc_54), rfl, ⟨(Or.inr rfl), by (try dsimp only); first | omega | (refine ⟨?_, ?_, ?_, ?_, ?_⟩ <;> (first | omega | rfl | assumption | decide | exact Or.inl rfl | exact Or.inr rfl | (simp only; omega)))⟩, hh_54.rt (M1 := [(r0, 12, 4, .int qa_54), (r0, 12, 10, .int qc_54)]) [0, 1] rfl ht⟩, by rw [ht]; try exact hh_54.1.1, fun q h9 hq => by rw [ht]; try exact hh_54.1.2.1 q h9 hq⟩) hh_54.1.2.2 dX10_isOne_308
              · skip
                have c_44' : r_43.toInt ≠ 61 := jb_eq_n (rfl) ((by decide)) c_44
                try clear hr_43
                refine lv_iconst (v := 1) hx hb dX10_isOne_260 (by decide) ?_
                rw [hQ]
                exact W.zret (v := 1) hx hb hr (jb_nz (Or.inr rfl)) (fun t ht hW => ⟨⟨1, (qa_35, qc_35), rfl, ⟨(Or.inr rfl), by (try dsimp only); first | omega | (refine ⟨?_, ?_, ?_, ?_, ?_⟩ <;> (first | omega | rfl | assumption | decide | exact Or.inl rfl | exact Or.inr rfl | (simp only; omega)))⟩, hh_42.rt (M1 := [(r0, 12, 4, .int qa_35), (r0, 12, 10, .int qc_35)]) [0, 1] rfl ht⟩, by rw [ht]; try exact hh_42.1.1, fun q h9 hq => by rw [ht]; try exact hh_42.1.2.1 q h9 hq⟩) hh_42.1.2.2 dX10_isOne_261
            · skip
              have c_41' : r_36.toInt = 0 := jb_ne_n (rfl) ((by decide)) c_41
              first | (have hr_36p_4q := hr_36p_4.resolve_left (by omega); clear hr_36p_4) | (have hr_36p_4q := hr_36p_4.resolve_right (by omega); clear hr_36p_4) | skip
              first | (have hr_36p_6q := hr_36p_6.resolve_left (by omega); clear hr_36p_6) | (have hr_36p_6q := hr_36p_6.resolve_right (by omega); clear hr_36p_6) | skip
              refine lv_iconst (v := 0) hx hb dX10_isOne_249 (by decide) ?_
              rw [hQ]
              exact W.zret (v := 0) hx hb hr (jb_nz (Or.inl rfl)) (fun t ht hW => ⟨⟨0, (qa_35, qc_35), rfl, ⟨(Or.inl rfl), by (try dsimp only); first | omega | (refine ⟨?_, ?_, ?_, ?_, ?_⟩ <;> (first | omega | rfl | assumption | decide | exact Or.inl rfl | exact Or.inr rfl | (simp only; omega)))⟩, hh_35.rt (M1 := [(r0, 12, 4, .int qa_35), (r0, 12, 10, .int qc_35)]) [0, 1] rfl ht⟩, by rw [ht]; try exact hh_35.1.1, fun q h9 hq => by rw [ht]; try exact hh_35.1.2.1 q h9 hq⟩) hh_35.1.2.2 dX10_isOne_250
          · skip
            have c_34' : r_4.toInt = 2 := jb_ne_n (rfl) ((by decide)) c_34
            first | (have hr_4_0q := hr_4_0.resolve_left (by omega); clear hr_4_0) | (have hr_4_0q := hr_4_0.resolve_right (by omega); clear hr_4_0) | skip
            refine lv_aload_n hx hb dX10_isOne_217 rfl (lv_at hl 2 rfl) ?_
            refine lv_dup hx hb dX10_isOne_218 rfl ?_
            refine j7_read hx hb hown hK (C := RX10) (T := TX10) (N := 11) rfl hly_12_4 hlk_83 (hh_3.at 1 rfl) dX10_isOne_219 ?_
            refine lv_iconst (v := 1) hx hb dX10_isOne_222 (by decide) ?_
            refine lv_iadd hx hb dX10_isOne_223 ?_
            refine lv_topi (fun z_58 ez_58 => ?_)
            have hz_58 : z_58.toInt = pa.toInt + 1 := by rw [ez_58]; exact jb_iadd2 (rfl) ((by decide)) (by omega)
            refine j7_put hx hb hown hK hh_3 hB hAp hB12 (C := RX10) (T := TX10) (N := 11) rfl (by decide) hg_r0 (i := 4) (by decide) hly_12_4 rfl hlk_83 rfl (ty := .int) (v := .int z_58) (by decide +kernel) rfl rfl (⟨_, rfl, by omega, by omega⟩) rfl (L1 := [(r0, 12, 3, .int tk), (r0, 12, 10, .int nc)]) [0, 2] rfl rfl rfl dX10_isOne_224 (fun H_59 locs_59 hh_59 => ?_)
            clear hh_3
            refine lv_aload_n hx hb dX10_isOne_227 rfl (lv_at hl 2 rfl) ?_
            refine lv_iconst (v := 0) hx hb dX10_isOne_228 (by decide) ?_
            obtain ⟨v_62, hv_62, hh_63⟩ := hh_59.pin (C := RX10) (T := TX10) (N := 11) hB12 rfl (by decide) hg_r0 (i := 9) (by decide) rfl
            obtain ⟨nodes_64, rfl, hg_nodes_64⟩ := hv_62
            obtain ⟨f_fn_65, hh_65⟩ := hh_63.cpin hB280 (by decide) (by decide) hg_nodes_64
            clear hh_63
            refine va_calli (A0 := jA base) (H0 := s.heap) (va_runV (As := [.int 0]) (rest := []) ⟨hx, hb, hml, hown, hts⟩ (uX10_addNodeB l dC dI ca base B hB hAp hB12 hB280 G0 H_59 r0 0 nc nodes_64 f_fn_65) (cwV 1 hts (jgV (jWr_80 _ (List.mem_of_getElem? (i := 20) rfl)) (jWr_80 _ (List.mem_of_getElem? (i := 21) rfl)) (jWr_80 _ (List.mem_of_getElem? (i := 22) rfl)) (jWr_4 _ (List.mem_of_getElem? (i := 14) rfl)) (jWr_80 _ (List.mem_of_getElem? (i := 23) rfl))) rfl rfl rfl (by decide +kernel) ⟨by rw [← hR]; show (0) + 1 ≤ 5 * ef + 5; omega, by rw [← hR]; show 8 + (2 + 11) + (0) ≤ 160 * ef + 200; omega⟩) ⟨fun a U g mk q => by obtain ⟨q0, q1, q2, qK, q10, q11, q12, q13, q14⟩ := q; exact ⟨q0, q1, q2, jG.calling g mk a qK, q10, q11, q12, q13, q14⟩, hh_65.recv (C := RX10) (T := TX10) (N := 11) hB12 rfl (by decide) hg_r0 hK, fun U hU hW => ⟨rfl, hU, hh_65.2.1, hG.step hW hU hh_65.1, hg_r0, hg_nodes_64, (hh_65.2.2.1.sub (L1 := [(r0, 12, 10, .int nc), (r0, 12, 9, .ref nodes_64)]) [3, 0] rfl), (hh_65.2.2.2.2.2.2.2.1.sub (L1 := [(nodes_64, 280, 3000, ca 1, f_fn_65)]) [0] rfl), by first | omega | (refine ⟨?_, ?_, ?_⟩ <;> (first | omega | rfl | assumption | decide | exact Or.inl rfl | exact Or.inr rfl | (simp only; omega)))⟩⟩ rfl rfl hl.1 rfl (lv_room (Nat.le_of_ble_eq_true rfl)) dX10_isOne_229 ⟨Nat.zero_le _, Nat.zero_le _⟩) hh_65.1 (fun q _ h => h) (fun q h => h) (fun r_61 u_60 t_60 H_60 locs_60 ht_60 hvm_60 hr_61 hb_60 hz_60 hk_60 hS_60 => ?_)
            obtain ⟨qc_60, fn2_60⟩ := u_60
            rw [ht_60] at hb_60
            obtain ⟨⟨hb_601, hb_602, hb_603, hb_604, hb_605⟩, hb_606⟩ := hb_60
            have hh_60 : jSt (dC, dI) B base G0 G0 EX10_isOneB s.heap 0 0 [(r0, 12, 10, .int qc_60), (r0, 12, 9, .ref nodes_64), (r0, 12, 4, .int z_58), (r0, 12, 3, .int tk)] [(nodes_64, 280, 3000, ca 1, fn2_60)] [] H_60 locs_60 := ((hh_65.call hb_601 hb_602 hb_603 hb_604 hS_60 rfl (L1 := [(r0, 12, 9, .ref nodes_64), (r0, 12, 4, .int z_58), (r0, 12, 3, .int tk)]) [0, 1, 2] rfl rfl (M1 := []) [] rfl rfl (I1 := []) [] rfl rfl).more hb_605).moreM hb_606
            clear hh_65 ht_60 hvm_60 hz_60 hk_60 hS_60 hb_601 hb_602 hb_603 hb_604 hb_605
            clear hb_606
            try simp only at hr_61
            obtain ⟨hr_61b, hr_61p⟩ := hr_61
            obtain ⟨hr_61p_0, hr_61p_1, hr_61p_2, hr_61p_3⟩ := hr_61p
            have hr_61' := jb_01 hr_61b
            rw [hQ]
            exact W.zret (v := r_61) hx hb hr (jb_nz (hr_61b)) (fun t ht hW => ⟨⟨r_61, (z_58, qc_60), rfl, ⟨(hr_61b), by (try dsimp only); first | omega | (refine ⟨?_, ?_, ?_, ?_, ?_⟩ <;> (first | omega | rfl | assumption | decide | exact Or.inl rfl | exact Or.inr rfl | (simp only; omega)))⟩, hh_60.rt (M1 := [(r0, 12, 4, .int z_58), (r0, 12, 10, .int qc_60)]) [2, 0] rfl ht⟩, by rw [ht]; try exact hh_60.1.1, fun q h9 hq => by rw [ht]; try exact hh_60.1.2.1 q h9 hq⟩) hh_60.1.2.2 dX10_isOne_232
        · skip
          have c_33' : r_4.toInt = 1 := jb_ne_n (rfl) ((by decide)) c_33
          first | (have hr_4_0q := hr_4_0.resolve_left (by omega); clear hr_4_0) | (have hr_4_0q := hr_4_0.resolve_right (by omega); clear hr_4_0) | skip
          refine lv_aload_n hx hb dX10_isOne_121 rfl (lv_at hl 2 rfl) ?_
          refine lv_dup hx hb dX10_isOne_122 rfl ?_
          refine j7_read hx hb hown hK (C := RX10) (T := TX10) (N := 11) rfl hly_12_4 hlk_83 (hh_3.at 1 rfl) dX10_isOne_123 ?_
          refine lv_iconst (v := 1) hx hb dX10_isOne_126 (by decide) ?_
          refine lv_iadd hx hb dX10_isOne_127 ?_
          refine lv_topi (fun z_66 ez_66 => ?_)
          have hz_66 : z_66.toInt = pa.toInt + 1 := by rw [ez_66]; exact jb_iadd2 (rfl) ((by decide)) (by omega)
          refine j7_put hx hb hown hK hh_3 hB hAp hB12 (C := RX10) (T := TX10) (N := 11) rfl (by decide) hg_r0 (i := 4) (by decide) hly_12_4 rfl hlk_83 rfl (ty := .int) (v := .int z_66) (by decide +kernel) rfl rfl (⟨_, rfl, by omega, by omega⟩) rfl (L1 := [(r0, 12, 3, .int tk), (r0, 12, 10, .int nc)]) [0, 2] rfl rfl rfl dX10_isOne_128 (fun H_67 locs_67 hh_67 => ?_)
          clear hh_3
          refine lv_aload_n hx hb dX10_isOne_131 rfl (lv_at hl 2 rfl) ?_
          refine va_calli (A0 := jA base) (H0 := s.heap) (va_runV (As := []) (rest := []) ⟨hx, hb, hml, hown, hts⟩ (uX10_peekNameB l dC dI ca base B hB hAp hB12 hB101 hB293 G0 H_67 r0 tk z_66) (cwV 0 hts (jgV (jWr_79 _ (List.mem_of_getElem? (i := 14) rfl)) (jWr_79 _ (List.mem_of_getElem? (i := 15) rfl)) (jWr_79 _ (List.mem_of_getElem? (i := 16) rfl)) (jWr_4 _ (List.mem_of_getElem? (i := 14) rfl)) (jWr_79 _ (List.mem_of_getElem? (i := 17) rfl))) rfl rfl rfl (by decide +kernel) ⟨by rw [← hR]; show (1) + 1 ≤ 5 * ef + 5; omega, by rw [← hR]; show 8 + (1 + 11) + (20) ≤ 160 * ef + 200; omega⟩) ⟨fun a U g mk q => by obtain ⟨q0, q1, q2, qK, q10, q11, q12⟩ := q; exact ⟨q0, q1, q2, jG.calling g mk a qK, q10, q11, q12⟩, hh_67.recv (C := RX10) (T := TX10) (N := 11) hB12 rfl (by decide) hg_r0 hK, fun U hU hW => ⟨rfl, hU, hh_67.2.1, hG.step hW hU hh_67.1, hg_r0, (hh_67.2.2.1.sub (L1 := [(r0, 12, 3, .int tk), (r0, 12, 4, .int z_66)]) [1, 0] rfl), by first | omega | (refine ⟨?_, ?_, ?_, ?_⟩ <;> (first | omega | rfl | assumption | decide | exact Or.inl rfl | exact Or.inr rfl | (simp only; omega)))⟩⟩ rfl rfl hl.1 rfl (lv_room (Nat.le_of_ble_eq_true rfl)) dX10_isOne_132 ⟨Nat.zero_le _, Nat.zero_le _⟩) hh_67.1 (fun q _ h => h) (fun q h => h) (fun r_69 u_68 t_68 H_68 locs_68 ht_68 hvm_68 hr_69 hb_68 hz_68 hk_68 hS_68 => ?_)
          rw [ht_68] at hb_68
          obtain ⟨hb_681, hb_682, hb_683, hb_684, hb_685⟩ := hb_68
          have hh_68 : jSt (dC, dI) B base G0 G0 EX10_isOneB s.heap 0 0 [(r0, 12, 4, .int z_66), (r0, 12, 3, .int tk), (r0, 12, 10, .int nc)] [] [] H_68 locs_68 := ((hh_67.call hb_681 hb_682 hb_683 hb_684 hS_68 rfl (L1 := [(r0, 12, 4, .int z_66), (r0, 12, 3, .int tk), (r0, 12, 10, .int nc)]) [0, 1, 2] rfl rfl (M1 := []) [] rfl rfl (I1 := []) [] rfl rfl).more hb_685)
          clear hh_67 ht_68 hvm_68 hz_68 hk_68 hS_68 hb_681 hb_682 hb_683 hb_684 hb_685
          obtain ⟨hr_69_0, hr_69_1, hr_69_2⟩ := hr_69
          refine lv_istore (lv' := [(4, .int r_69), (3, .int r_4), (2, .int r_2), (0, .ref r0), (1, .int a1)]) hx hb dX10_isOne_135 hl (by decide) rfl (fun ls hl => ?_)
          refine lv_iload_n hx hb dX10_isOne_137 rfl (lv_at hl 1 rfl) ?_
          refine lv_if_ne (tgt := 145) hx hb dX10_isOne_138 (by decide) (fun c_70 => ?_) (fun c_70 => ?_)
          · skip
            have c_70' : r_4.toInt ≠ 0 := jb_ne (rfl) ((by decide)) c_70
            refine lv_bipush (v := 6) hx hb dX10_isOne_145 (by decide) ?_
            refine lv_iload hx hb dX10_isOne_147 (lv_at hl 0 rfl) ?_
            refine lv_bipush (v := 15) hx hb dX10_isOne_149 (by decide) ?_
            refine lv_ishl hx hb dX10_isOne_151 ?_
            refine lv_topi (fun z_71 ez_71 => ?_)
            refine lv_ior hx hb dX10_isOne_152 ?_
            refine lv_topi (fun z_72 ez_72 => ?_)
            refine lv_istore (lv' := [(5, .int z_72), (4, .int r_69), (3, .int r_4), (2, .int r_2), (0, .ref r0), (1, .int a1)]) hx hb dX10_isOne_153 hl (by decide) rfl (fun ls hl => ?_)
            refine lv_aload_n hx hb dX10_isOne_155 rfl (lv_at hl 4 rfl) ?_
            refine lv_dup hx hb dX10_isOne_156 rfl ?_
            refine j7_read hx hb hown hK (C := RX10) (T := TX10) (N := 11) rfl hly_12_4 hlk_83 (hh_68.at 0 rfl) dX10_isOne_157 ?_
            refine lv_iconst (v := 1) hx hb dX10_isOne_160 (by decide) ?_
            refine lv_iadd hx hb dX10_isOne_161 ?_
            refine lv_topi (fun z_73 ez_73 => ?_)
            have hz_73 : z_73.toInt = z_66.toInt + 1 := by rw [ez_73]; exact jb_iadd2 (rfl) ((by decide)) (by omega)
            refine j7_put hx hb hown hK hh_68 hB hAp hB12 (C := RX10) (T := TX10) (N := 11) rfl (by decide) hg_r0 (i := 4) (by decide) hly_12_4 rfl hlk_83 rfl (ty := .int) (v := .int z_73) (by decide +kernel) rfl rfl (⟨_, rfl, by omega, by omega⟩) rfl (L1 := [(r0, 12, 3, .int tk), (r0, 12, 10, .int nc)]) [1, 2] rfl rfl rfl dX10_isOne_162 (fun H_74 locs_74 hh_74 => ?_)
            clear hh_68
            refine lv_iload_n hx hb dX10_isOne_165 rfl (lv_at hl 5 rfl) ?_
            refine lv_bipush (v := 12) hx hb dX10_isOne_166 (by decide) ?_
            refine lv_icmp_ge (tgt := 210) hx hb dX10_isOne_168 (by decide) (fun c_75 => ?_) (fun c_75 => ?_)
            · skip
              have c_75' : a1.toInt ≥ 12 := jb_ge (rfl) ((by decide)) c_75
              refine lv_iconst (v := 0) hx hb dX10_isOne_210 (by decide) ?_
              rw [hQ]
              exact W.zret (v := 0) hx hb hr (jb_nz (Or.inl rfl)) (fun t ht hW => ⟨⟨0, (z_73, nc), rfl, ⟨(Or.inl rfl), by (try dsimp only); first | omega | (refine ⟨?_, ?_, ?_, ?_, ?_⟩ <;> (first | omega | rfl | assumption | decide | exact Or.inl rfl | exact Or.inr rfl | (simp only; omega)))⟩, hh_74.rt (M1 := [(r0, 12, 4, .int z_73), (r0, 12, 10, .int nc)]) [0, 2] rfl ht⟩, by rw [ht]; try exact hh_74.1.1, fun q h9 hq => by rw [ht]; try exact hh_74.1.2.1 q h9 hq⟩) hh_74.1.2.2 dX10_isOne_211
            · skip
              have c_75' : a1.toInt < 12 := jb_ge_n (rfl) ((by decide)) c_75
              refine lv_iload hx hb dX10_isOne_171 (lv_at hl 1 rfl) ?_
              refine lv_iconst (v := 2) hx hb dX10_isOne_173 (by decide) ?_
              refine lv_icmp_le (tgt := 210) hx hb dX10_isOne_174 (by decide) (fun c_76 => ?_) (fun c_76 => ?_)
              · skip
                have c_76' : r_69.toInt ≤ 2 := jb_le (rfl) ((by decide)) c_76
                first | (have hr_69_0q := hr_69_0.resolve_left (by omega); clear hr_69_0) | (have hr_69_0q := hr_69_0.resolve_right (by omega); clear hr_69_0) | skip
                refine lv_iconst (v := 0) hx hb dX10_isOne_210 (by decide) ?_
                rw [hQ]
                exact W.zret (v := 0) hx hb hr (jb_nz (Or.inl rfl)) (fun t ht hW => ⟨⟨0, (z_73, nc), rfl, ⟨(Or.inl rfl), by (try dsimp only); first | omega | (refine ⟨?_, ?_, ?_, ?_, ?_⟩ <;> (first | omega | rfl | assumption | decide | exact Or.inl rfl | exact Or.inr rfl | (simp only; omega)))⟩, hh_74.rt (M1 := [(r0, 12, 4, .int z_73), (r0, 12, 10, .int nc)]) [0, 2] rfl ht⟩, by rw [ht]; try exact hh_74.1.1, fun q h9 hq => by rw [ht]; try exact hh_74.1.2.1 q h9 hq⟩) hh_74.1.2.2 dX10_isOne_211
              · skip
                have c_76' : r_69.toInt > 2 := jb_le_n (rfl) ((by decide)) c_76
                first | (have hr_69_0q := hr_69_0.resolve_left (by omega); clear hr_69_0) | (have hr_69_0q := hr_69_0.resolve_right (by omega); clear hr_69_0) | skip
                refine lv_aload_n hx hb dX10_isOne_177 rfl (lv_at hl 4 rfl) ?_
                refine lv_bipush (v := 44) hx hb dX10_isOne_178 (by decide) ?_
                refine va_calli (A0 := jA base) (H0 := s.heap) (va_runV (As := [.int 44]) (rest := []) ⟨hx, hb, hml, hown, hts⟩ (uX10_isSignB l dC dI ca base B hB hAp hB12 hB101 G0 H_74 r0 44 tk z_73) (cwV 1 hts (jgV (jWr_80 _ (List.mem_of_getElem? (i := 2) rfl)) (jWr_80 _ (List.mem_of_getElem? (i := 3) rfl)) (jWr_80 _ (List.mem_of_getElem? (i := 4) rfl)) (jWr_4 _ (List.mem_of_getElem? (i := 14) rfl)) (jWr_80 _ (List.mem_of_getElem? (i := 5) rfl))) rfl rfl rfl (by decide +kernel) ⟨by rw [← hR]; show (0) + 1 ≤ 5 * ef + 5; omega, by rw [← hR]; show 8 + (3 + 11) + (0) ≤ 160 * ef + 200; omega⟩) ⟨fun a U g mk q => by obtain ⟨q0, q1, q2, qK, q10, q11, q12⟩ := q; exact ⟨q0, q1, q2, jG.calling g mk a qK, q10, q11, q12⟩, hh_74.recv (C := RX10) (T := TX10) (N := 11) hB12 rfl (by decide) hg_r0 hK, fun U hU hW => ⟨rfl, hU, hh_74.2.1, hG.step hW hU hh_74.1, hg_r0, (hh_74.2.2.1.sub (L1 := [(r0, 12, 3, .int tk), (r0, 12, 4, .int z_73)]) [1, 0] rfl), by first | omega | (refine ⟨?_, ?_, ?_, ?_, ?_⟩ <;> (first | omega | rfl | assumption | decide | exact Or.inl rfl | exact Or.inr rfl | (simp only; omega)))⟩⟩ rfl rfl hl.1 rfl (lv_room (Nat.le_of_ble_eq_true rfl)) dX10_isOne_180 ⟨Nat.zero_le _, Nat.zero_le _⟩) hh_74.1 (fun q _ h => h) (fun q h => h) (fun r_78 u_77 t_77 H_77 locs_77 ht_77 hvm_77 hr_78 hb_77 hz_77 hk_77 hS_77 => ?_)
                obtain ⟨qa_77, rfl⟩ : ∃ z, z = u_77 := ⟨_, rfl⟩
                rw [ht_77] at hb_77
                obtain ⟨hb_771, hb_772, hb_773, hb_774, hb_775⟩ := hb_77
                have hh_77 : jSt (dC, dI) B base G0 G0 EX10_isOneB s.heap 0 0 [(r0, 12, 4, .int qa_77), (r0, 12, 3, .int tk), (r0, 12, 10, .int nc)] [] [] H_77 locs_77 := ((hh_74.call hb_771 hb_772 hb_773 hb_774 hS_77 rfl (L1 := [(r0, 12, 3, .int tk), (r0, 12, 10, .int nc)]) [1, 2] rfl rfl (M1 := []) [] rfl rfl (I1 := []) [] rfl rfl).more hb_775)
                clear hh_74 ht_77 hvm_77 hz_77 hk_77 hS_77 hb_771 hb_772 hb_773 hb_774 hb_775
                obtain ⟨hr_78b, hr_78p⟩ := hr_78
                obtain ⟨hr_78p_0, hr_78p_1⟩ := hr_78p
                have hr_78' := jb_01 hr_78b
                refine lv_if_eq (tgt := 210) hx hb dX10_isOne_183 (by decide) (fun c_79 => ?_) (fun c_79 => ?_)
                · skip
                  have c_79' : r_78.toInt = 0 := jb_eq (rfl) ((by decide)) c_79
                  first | (have hr_78p_1q := hr_78p_1.resolve_left (by omega); clear hr_78p_1) | (have hr_78p_1q := hr_78p_1.resolve_right (by omega); clear hr_78p_1) | skip
                  refine lv_iconst (v := 0) hx hb dX10_isOne_210 (by decide) ?_
                  rw [hQ]
                  exact W.zret (v := 0) hx hb hr (jb_nz (Or.inl rfl)) (fun t ht hW => ⟨⟨0, (qa_77, nc), rfl, ⟨(Or.inl rfl), by (try dsimp only); first | omega | (refine ⟨?_, ?_, ?_, ?_, ?_⟩ <;> (first | omega | rfl | assumption | decide | exact Or.inl rfl | exact Or.inr rfl | (simp only; omega)))⟩, hh_77.rt (M1 := [(r0, 12, 4, .int qa_77), (r0, 12, 10, .int nc)]) [0, 2] rfl ht⟩, by rw [ht]; try exact hh_77.1.1, fun q h9 hq => by rw [ht]; try exact hh_77.1.2.1 q h9 hq⟩) hh_77.1.2.2 dX10_isOne_211
                · skip
                  have c_79' : r_78.toInt ≠ 0 := jb_eq_n (rfl) ((by decide)) c_79
                  first | (have hr_78p_1q := hr_78p_1.resolve_left (by omega); clear hr_78p_1) | (have hr_78p_1q := hr_78p_1.resolve_right (by omega); clear hr_78p_1) | skip
                  have hs9 := jb_shlc 15 32768 ez_71 (by decide) (by decide) (by omega) (by omega)
                  have ho9 := jb_or ez_72 (by omega) (by omega)
                  refine lv_aload_n hx hb dX10_isOne_186 rfl (lv_at hl 4 rfl) ?_
                  refine lv_iload hx hb dX10_isOne_187 (lv_at hl 0 rfl) ?_
                  obtain ⟨v_82, hv_82, hh_83⟩ := hh_77.pin (C := RX10) (T := TX10) (N := 11) hB12 rfl (by decide) hg_r0 (i := 9) (by decide) rfl
                  obtain ⟨nodes_84, rfl, hg_nodes_84⟩ := hv_82
                  obtain ⟨f_fn_85, hh_85⟩ := hh_83.cpin hB280 (by decide) (by decide) hg_nodes_84
                  clear hh_83
                  refine va_calli (A0 := jA base) (H0 := s.heap) (va_runV (As := [.int z_72]) (rest := []) ⟨hx, hb, hml, hown, hts⟩ (uX10_addNodeB l dC dI ca base B hB hAp hB12 hB280 G0 H_77 r0 z_72 nc nodes_84 f_fn_85) (cwV 1 hts (jgV (jWr_80 _ (List.mem_of_getElem? (i := 20) rfl)) (jWr_80 _ (List.mem_of_getElem? (i := 21) rfl)) (jWr_80 _ (List.mem_of_getElem? (i := 22) rfl)) (jWr_4 _ (List.mem_of_getElem? (i := 14) rfl)) (jWr_80 _ (List.mem_of_getElem? (i := 23) rfl))) rfl rfl rfl (by decide +kernel) ⟨by rw [← hR]; show (0) + 1 ≤ 5 * ef + 5; omega, by rw [← hR]; show 8 + (2 + 11) + (0) ≤ 160 * ef + 200; omega⟩) ⟨fun a U g mk q => by obtain ⟨q0, q1, q2, qK, q10, q11, q12, q13, q14⟩ := q; exact ⟨q0, q1, q2, jG.calling g mk a qK, q10, q11, q12, q13, q14⟩, hh_85.recv (C := RX10) (T := TX10) (N := 11) hB12 rfl (by decide) hg_r0 hK, fun U hU hW => ⟨rfl, hU, hh_85.2.1, hG.step hW hU hh_85.1, hg_r0, hg_nodes_84, (hh_85.2.2.1.sub (L1 := [(r0, 12, 10, .int nc), (r0, 12, 9, .ref nodes_84)]) [3, 0] rfl), (hh_85.2.2.2.2.2.2.2.1.sub (L1 := [(nodes_84, 280, 3000, ca 1, f_fn_85)]) [0] rfl), by first | omega | (refine ⟨?_, ?_, ?_⟩ <;> (first | omega | rfl | assumption | decide | exact Or.inl rfl | exact Or.inr rfl | (simp only; omega)))⟩⟩ rfl rfl hl.1 rfl (lv_room (Nat.le_of_ble_eq_true rfl)) dX10_isOne_189 ⟨Nat.zero_le _, Nat.zero_le _⟩) hh_85.1 (fun q _ h => h) (fun q h => h) (fun r_81 u_80 t_80 H_80 locs_80 ht_80 hvm_80 hr_81 hb_80 hz_80 hk_80 hS_80 => ?_)
                  obtain ⟨qc_80, fn2_80⟩ := u_80
                  rw [ht_80] at hb_80
                  obtain ⟨⟨hb_801, hb_802, hb_803, hb_804, hb_805⟩, hb_806⟩ := hb_80
                  have hh_80 : jSt (dC, dI) B base G0 G0 EX10_isOneB s.heap 0 0 [(r0, 12, 10, .int qc_80), (r0, 12, 9, .ref nodes_84), (r0, 12, 4, .int qa_77), (r0, 12, 3, .int tk)] [(nodes_84, 280, 3000, ca 1, fn2_80)] [] H_80 locs_80 := ((hh_85.call hb_801 hb_802 hb_803 hb_804 hS_80 rfl (L1 := [(r0, 12, 9, .ref nodes_84), (r0, 12, 4, .int qa_77), (r0, 12, 3, .int tk)]) [0, 1, 2] rfl rfl (M1 := []) [] rfl rfl (I1 := []) [] rfl rfl).more hb_805).moreM hb_806
                  clear hh_85 ht_80 hvm_80 hz_80 hk_80 hS_80 hb_801 hb_802 hb_803 hb_804 hb_805
                  clear hb_806
                  try simp only at hr_81
                  obtain ⟨hr_81b, hr_81p⟩ := hr_81
                  obtain ⟨hr_81p_0, hr_81p_1, hr_81p_2, hr_81p_3⟩ := hr_81p
                  have hr_81' := jb_01 hr_81b
                  refine lv_if_eq (tgt := 210) hx hb dX10_isOne_192 (by decide) (fun c_86 => ?_) (fun c_86 => ?_)
                  · skip
                    have c_86' : r_81.toInt = 0 := jb_eq (rfl) ((by decide)) c_86
                    first | (have hr_81p_0q := hr_81p_0.resolve_left (by omega); clear hr_81p_0) | (have hr_81p_0q := hr_81p_0.resolve_right (by omega); clear hr_81p_0) | skip
                    first | (have hr_81p_3q := hr_81p_3.resolve_left (by omega); clear hr_81p_3) | (have hr_81p_3q := hr_81p_3.resolve_right (by omega); clear hr_81p_3) | skip
                    refine lv_iconst (v := 0) hx hb dX10_isOne_210 (by decide) ?_
                    rw [hQ]
                    exact W.zret (v := 0) hx hb hr (jb_nz (Or.inl rfl)) (fun t ht hW => ⟨⟨0, (qa_77, qc_80), rfl, ⟨(Or.inl rfl), by (try dsimp only); first | omega | (refine ⟨?_, ?_, ?_, ?_, ?_⟩ <;> (first | omega | rfl | assumption | decide | exact Or.inl rfl | exact Or.inr rfl | (simp only; omega)))⟩, hh_80.rt (M1 := [(r0, 12, 4, .int qa_77), (r0, 12, 10, .int qc_80)]) [2, 0] rfl ht⟩, by rw [ht]; try exact hh_80.1.1, fun q h9 hq => by rw [ht]; try exact hh_80.1.2.1 q h9 hq⟩) hh_80.1.2.2 dX10_isOne_211
                  · skip
                    have c_86' : r_81.toInt ≠ 0 := jb_eq_n (rfl) ((by decide)) c_86
                    first | (have hr_81p_0q := hr_81p_0.resolve_left (by omega); clear hr_81p_0) | (have hr_81p_0q := hr_81p_0.resolve_right (by omega); clear hr_81p_0) | skip
                    first | (have hr_81p_3q := hr_81p_3.resolve_left (by omega); clear hr_81p_3) | (have hr_81p_3q := hr_81p_3.resolve_right (by omega); clear hr_81p_3) | skip
                    refine lv_aload_n hx hb dX10_isOne_195 rfl (lv_at hl 4 rfl) ?_
                    refine lv_iconst (v := 0) hx hb dX10_isOne_196 (by decide) ?_
                    refine lv_iload_n hx hb dX10_isOne_197 rfl (lv_at hl 5 rfl) ?_
                    refine lv_iconst (v := 1) hx hb dX10_isOne_198 (by decide) ?_
                    refine lv_iadd hx hb dX10_isOne_199 ?_
                    refine lv_topi (fun z_87 ez_87 => ?_)
                    have hz_87 : z_87.toInt = a1.toInt + 1 := by rw [ez_87]; exact jb_iadd2 (rfl) ((by decide)) (by omega)
                    refine va_calli (A0 := jA base) (H0 := s.heap) (va_runV (As := [.int 0, .int z_87]) (rest := []) ⟨hx, hb, hml, hown, hts⟩ (ihC (ef - 1) (by omega) G0 H_80 r0 0 z_87 tk qa_77 qc_80) (cwV 2 hts (jgV (jWr_80 _ (List.mem_of_getElem? (i := 6) rfl)) (jWr_80 _ (List.mem_of_getElem? (i := 7) rfl)) (jWr_80 _ (List.mem_of_getElem? (i := 8) rfl)) (jWr_4 _ (List.mem_of_getElem? (i := 14) rfl)) (jWr_80 _ (List.mem_of_getElem? (i := 9) rfl))) rfl rfl rfl (by decide +kernel) ⟨by rw [← hR]; show (5 * (ef - 1) + 6 + 2) + 1 ≤ 5 * ef + 5; omega, by rw [← hR]; show 8 + (6 + 11) + (160 * (ef - 1) + 230 + 30 * 2) ≤ 160 * ef + 200; omega⟩) ⟨fun a U g mk q => by obtain ⟨q0, q1, q2, qK, q10, q11, q12⟩ := q; exact ⟨q0, q1, q2, jG.calling g mk a qK, q10, q11, q12⟩, hh_80.recv (C := RX10) (T := TX10) (N := 11) hB12 rfl (by decide) hg_r0 hK, fun U hU hW => ⟨rfl, hU, hh_80.2.1, hG.step hW hU hh_80.1, hg_r0, (hh_80.2.2.1.sub (L1 := [(r0, 12, 3, .int tk), (r0, 12, 4, .int qa_77), (r0, 12, 10, .int qc_80)]) [3, 2, 0] rfl), by first | omega | (refine ⟨?_, ?_, ?_, ?_, ?_, ?_, ?_, ?_, ?_, ?_, ?_⟩ <;> (first | omega | rfl | assumption | decide | exact Or.inl rfl | exact Or.inr rfl | (simp only; omega)))⟩⟩ rfl rfl hl.1 rfl (lv_room (Nat.le_of_ble_eq_true rfl)) dX10_isOne_200 ⟨Nat.zero_le _, Nat.zero_le _⟩) hh_80.1 (fun q _ h => h) (fun q h => h) (fun r_89 u_88 t_88 H_88 locs_88 ht_88 hvm_88 hr_89 hb_88 hz_88 hk_88 hS_88 => ?_)
                    obtain ⟨qa_88, qc_88⟩ := u_88
                    rw [ht_88] at hb_88
                    obtain ⟨hb_881, hb_882, hb_883, hb_884, hb_885⟩ := hb_88
                    have hh_88 : jSt (dC, dI) B base G0 G0 EX10_isOneB s.heap 0 0 [(r0, 12, 4, .int qa_88), (r0, 12, 10, .int qc_88), (r0, 12, 9, .ref nodes_84), (r0, 12, 3, .int tk)] [] [] H_88 locs_88 := ((hh_80.call hb_881 hb_882 hb_883 hb_884 hS_88 rfl (L1 := [(r0, 12, 9, .ref nodes_84), (r0, 12, 3, .int tk)]) [1, 3] rfl rfl (M1 := []) [] rfl rfl (I1 := []) [] rfl rfl).more hb_885)
                    clear hh_80 ht_88 hvm_88 hz_88 hk_88 hS_88 hb_881 hb_882 hb_883 hb_884 hb_885
                    try simp only at hr_89
                    obtain ⟨hr_89b, hr_89p⟩ := hr_89
                    obtain ⟨hr_89p_0, hr_89p_1, hr_89p_2, hr_89p_3, hr_89p_4⟩ := hr_89p
                    have hr_89' := jb_01 hr_89b
                    refine lv_if_eq (tgt := 210) hx hb dX10_isOne_203 (by decide) (fun c_90 => ?_) (fun c_90 => ?_)
                    · skip
                      have c_90' : r_89.toInt = 0 := jb_eq (rfl) ((by decide)) c_90
                      first | (have hr_89p_4q := hr_89p_4.resolve_left (by omega); clear hr_89p_4) | (have hr_89p_4q := hr_89p_4.resolve_right (by omega); clear hr_89p_4) | skip
                      refine lv_iconst (v := 0) hx hb dX10_isOne_210 (by decide) ?_
                      rw [hQ]
                      exact W.zret (v := 0) hx hb hr (jb_nz (Or.inl rfl)) (fun t ht hW => ⟨⟨0, (qa_88, qc_88), rfl, ⟨(Or.inl rfl), by (try dsimp only); first | omega | (refine ⟨?_, ?_, ?_, ?_, ?_⟩ <;> (first | omega | rfl | assumption | decide | exact Or.inl rfl | exact Or.inr rfl | (simp only; omega)))⟩, hh_88.rt (M1 := [(r0, 12, 4, .int qa_88), (r0, 12, 10, .int qc_88)]) [0, 1] rfl ht⟩, by rw [ht]; try exact hh_88.1.1, fun q h9 hq => by rw [ht]; try exact hh_88.1.2.1 q h9 hq⟩) hh_88.1.2.2 dX10_isOne_211
                    · skip
                      have c_90' : r_89.toInt ≠ 0 := jb_eq_n (rfl) ((by decide)) c_90
                      first | (have hr_89p_4q := hr_89p_4.resolve_left (by omega); clear hr_89p_4) | (have hr_89p_4q := hr_89p_4.resolve_right (by omega); clear hr_89p_4) | skip
                      refine lv_iconst (v := 1) hx hb dX10_isOne_206 (by decide) ?_
                      refine lv_goto (tgt := 211) hx hb dX10_isOne_207 (by decide) ?_
                      rw [hQ]
                      exact W.zret (v := 1) hx hb hr (jb_nz (Or.inr rfl)) (fun t ht hW => ⟨⟨1, (qa_88, qc_88), rfl, ⟨(Or.inr rfl), by (try dsimp only); first | omega | (refine ⟨?_, ?_, ?_, ?_, ?_⟩ <;> (first | omega | rfl | assumption | decide | exact Or.inl rfl | exact Or.inr rfl | (simp only; omega)))⟩, hh_88.rt (M1 := [(r0, 12, 4, .int qa_88), (r0, 12, 10, .int qc_88)]) [0, 1] rfl ht⟩, by rw [ht]; try exact hh_88.1.1, fun q h9 hq => by rw [ht]; try exact hh_88.1.2.1 q h9 hq⟩) hh_88.1.2.2 dX10_isOne_211
          · skip
            have c_70' : r_4.toInt = 0 := jb_ne_n (rfl) ((by decide)) c_70
            exact (by omega : False).elim
    · skip
      have c_6' : r_2.toInt = 40 := jb_ne_n (rfl) ((by decide)) c_6
      first | (have hr_2q := hr_2.resolve_left (by omega); clear hr_2) | (have hr_2q := hr_2.resolve_right (by omega); clear hr_2) | skip
      refine lv_aload_n hx hb dX10_isOne_70 rfl (lv_at hl 2 rfl) ?_
      refine lv_dup hx hb dX10_isOne_71 rfl ?_
      refine j7_read hx hb hown hK (C := RX10) (T := TX10) (N := 11) rfl hly_12_4 hlk_83 (hh_3.at 1 rfl) dX10_isOne_72 ?_
      refine lv_iconst (v := 1) hx hb dX10_isOne_75 (by decide) ?_
      refine lv_iadd hx hb dX10_isOne_76 ?_
      refine lv_topi (fun z_91 ez_91 => ?_)
      have hz_91 : z_91.toInt = pa.toInt + 1 := by rw [ez_91]; exact jb_iadd2 (rfl) ((by decide)) (by omega)
      refine j7_put hx hb hown hK hh_3 hB hAp hB12 (C := RX10) (T := TX10) (N := 11) rfl (by decide) hg_r0 (i := 4) (by decide) hly_12_4 rfl hlk_83 rfl (ty := .int) (v := .int z_91) (by decide +kernel) rfl rfl (⟨_, rfl, by omega, by omega⟩) rfl (L1 := [(r0, 12, 3, .int tk), (r0, 12, 10, .int nc)]) [0, 2] rfl rfl rfl dX10_isOne_77 (fun H_92 locs_92 hh_92 => ?_)
      clear hh_3
      refine lv_iload_n hx hb dX10_isOne_80 rfl (lv_at hl 3 rfl) ?_
      refine lv_bipush (v := 12) hx hb dX10_isOne_81 (by decide) ?_
      refine lv_icmp_ge (tgt := 110) hx hb dX10_isOne_83 (by decide) (fun c_93 => ?_) (fun c_93 => ?_)
      · skip
        have c_93' : a1.toInt ≥ 12 := jb_ge (rfl) ((by decide)) c_93
        refine lv_iconst (v := 0) hx hb dX10_isOne_110 (by decide) ?_
        rw [hQ]
        exact W.zret (v := 0) hx hb hr (jb_nz (Or.inl rfl)) (fun t ht hW => ⟨⟨0, (z_91, nc), rfl, ⟨(Or.inl rfl), by (try dsimp only); first | omega | (refine ⟨?_, ?_, ?_, ?_, ?_⟩ <;> (first | omega | rfl | assumption | decide | exact Or.inl rfl | exact Or.inr rfl | (simp only; omega)))⟩, hh_92.rt (M1 := [(r0, 12, 4, .int z_91), (r0, 12, 10, .int nc)]) [0, 2] rfl ht⟩, by rw [ht]; try exact hh_92.1.1, fun q h9 hq => by rw [ht]; try exact hh_92.1.2.1 q h9 hq⟩) hh_92.1.2.2 dX10_isOne_111
      · skip
        have c_93' : a1.toInt < 12 := jb_ge_n (rfl) ((by decide)) c_93
        refine lv_aload_n hx hb dX10_isOne_86 rfl (lv_at hl 2 rfl) ?_
        refine lv_iconst (v := 0) hx hb dX10_isOne_87 (by decide) ?_
        refine lv_iload_n hx hb dX10_isOne_88 rfl (lv_at hl 3 rfl) ?_
        refine lv_iconst (v := 1) hx hb dX10_isOne_89 (by decide) ?_
        refine lv_iadd hx hb dX10_isOne_90 ?_
        refine lv_topi (fun z_94 ez_94 => ?_)
        have hz_94 : z_94.toInt = a1.toInt + 1 := by rw [ez_94]; exact jb_iadd2 (rfl) ((by decide)) (by omega)
        refine va_calli (A0 := jA base) (H0 := s.heap) (va_runV (As := [.int 0, .int z_94]) (rest := []) ⟨hx, hb, hml, hown, hts⟩ (ihC (ef - 1) (by omega) G0 H_92 r0 0 z_94 tk z_91 nc) (cwV 2 hts (jgV (jWr_80 _ (List.mem_of_getElem? (i := 6) rfl)) (jWr_80 _ (List.mem_of_getElem? (i := 7) rfl)) (jWr_80 _ (List.mem_of_getElem? (i := 8) rfl)) (jWr_4 _ (List.mem_of_getElem? (i := 14) rfl)) (jWr_80 _ (List.mem_of_getElem? (i := 9) rfl))) rfl rfl rfl (by decide +kernel) ⟨by rw [← hR]; show (5 * (ef - 1) + 6 + 2) + 1 ≤ 5 * ef + 5; omega, by rw [← hR]; show 8 + (6 + 11) + (160 * (ef - 1) + 230 + 30 * 2) ≤ 160 * ef + 200; omega⟩) ⟨fun a U g mk q => by obtain ⟨q0, q1, q2, qK, q10, q11, q12⟩ := q; exact ⟨q0, q1, q2, jG.calling g mk a qK, q10, q11, q12⟩, hh_92.recv (C := RX10) (T := TX10) (N := 11) hB12 rfl (by decide) hg_r0 hK, fun U hU hW => ⟨rfl, hU, hh_92.2.1, hG.step hW hU hh_92.1, hg_r0, (hh_92.2.2.1.sub (L1 := [(r0, 12, 3, .int tk), (r0, 12, 4, .int z_91), (r0, 12, 10, .int nc)]) [1, 0, 2] rfl), by first | omega | (refine ⟨?_, ?_, ?_, ?_, ?_, ?_, ?_, ?_, ?_, ?_, ?_⟩ <;> (first | omega | rfl | assumption | decide | exact Or.inl rfl | exact Or.inr rfl | (simp only; omega)))⟩⟩ rfl rfl hl.1 rfl (lv_room (Nat.le_of_ble_eq_true rfl)) dX10_isOne_91 ⟨Nat.zero_le _, Nat.zero_le _⟩) hh_92.1 (fun q _ h => h) (fun q h => h) (fun r_96 u_95 t_95 H_95 locs_95 ht_95 hvm_95 hr_96 hb_95 hz_95 hk_95 hS_95 => ?_)
        obtain ⟨qa_95, qc_95⟩ := u_95
        rw [ht_95] at hb_95
        obtain ⟨hb_951, hb_952, hb_953, hb_954, hb_955⟩ := hb_95
        have hh_95 : jSt (dC, dI) B base G0 G0 EX10_isOneB s.heap 0 0 [(r0, 12, 4, .int qa_95), (r0, 12, 10, .int qc_95), (r0, 12, 3, .int tk)] [] [] H_95 locs_95 := ((hh_92.call hb_951 hb_952 hb_953 hb_954 hS_95 rfl (L1 := [(r0, 12, 3, .int tk)]) [1] rfl rfl (M1 := []) [] rfl rfl (I1 := []) [] rfl rfl).more hb_955)
        clear hh_92 ht_95 hvm_95 hz_95 hk_95 hS_95 hb_951 hb_952 hb_953 hb_954 hb_955
        try simp only at hr_96
        obtain ⟨hr_96b, hr_96p⟩ := hr_96
        obtain ⟨hr_96p_0, hr_96p_1, hr_96p_2, hr_96p_3, hr_96p_4⟩ := hr_96p
        have hr_96' := jb_01 hr_96b
        refine lv_if_eq (tgt := 110) hx hb dX10_isOne_94 (by decide) (fun c_97 => ?_) (fun c_97 => ?_)
        · skip
          have c_97' : r_96.toInt = 0 := jb_eq (rfl) ((by decide)) c_97
          first | (have hr_96p_4q := hr_96p_4.resolve_left (by omega); clear hr_96p_4) | (have hr_96p_4q := hr_96p_4.resolve_right (by omega); clear hr_96p_4) | skip
          refine lv_iconst (v := 0) hx hb dX10_isOne_110 (by decide) ?_
          rw [hQ]
          exact W.zret (v := 0) hx hb hr (jb_nz (Or.inl rfl)) (fun t ht hW => ⟨⟨0, (qa_95, qc_95), rfl, ⟨(Or.inl rfl), by (try dsimp only); first | omega | (refine ⟨?_, ?_, ?_, ?_, ?_⟩ <;> (first | omega | rfl | assumption | decide | exact Or.inl rfl | exact Or.inr rfl | (simp only; omega)))⟩, hh_95.rt (M1 := [(r0, 12, 4, .int qa_95), (r0, 12, 10, .int qc_95)]) [0, 1] rfl ht⟩, by rw [ht]; try exact hh_95.1.1, fun q h9 hq => by rw [ht]; try exact hh_95.1.2.1 q h9 hq⟩) hh_95.1.2.2 dX10_isOne_111
        · skip
          have c_97' : r_96.toInt ≠ 0 := jb_eq_n (rfl) ((by decide)) c_97
          first | (have hr_96p_4q := hr_96p_4.resolve_left (by omega); clear hr_96p_4) | (have hr_96p_4q := hr_96p_4.resolve_right (by omega); clear hr_96p_4) | skip
          refine lv_aload_n hx hb dX10_isOne_97 rfl (lv_at hl 2 rfl) ?_
          refine lv_bipush (v := 41) hx hb dX10_isOne_98 (by decide) ?_
          refine va_calli (A0 := jA base) (H0 := s.heap) (va_runV (As := [.int 41]) (rest := []) ⟨hx, hb, hml, hown, hts⟩ (uX10_isSignB l dC dI ca base B hB hAp hB12 hB101 G0 H_95 r0 41 tk qa_95) (cwV 1 hts (jgV (jWr_80 _ (List.mem_of_getElem? (i := 2) rfl)) (jWr_80 _ (List.mem_of_getElem? (i := 3) rfl)) (jWr_80 _ (List.mem_of_getElem? (i := 4) rfl)) (jWr_4 _ (List.mem_of_getElem? (i := 14) rfl)) (jWr_80 _ (List.mem_of_getElem? (i := 5) rfl))) rfl rfl rfl (by decide +kernel) ⟨by rw [← hR]; show (0) + 1 ≤ 5 * ef + 5; omega, by rw [← hR]; show 8 + (3 + 11) + (0) ≤ 160 * ef + 200; omega⟩) ⟨fun a U g mk q => by obtain ⟨q0, q1, q2, qK, q10, q11, q12⟩ := q; exact ⟨q0, q1, q2, jG.calling g mk a qK, q10, q11, q12⟩, hh_95.recv (C := RX10) (T := TX10) (N := 11) hB12 rfl (by decide) hg_r0 hK, fun U hU hW => ⟨rfl, hU, hh_95.2.1, hG.step hW hU hh_95.1, hg_r0, (hh_95.2.2.1.sub (L1 := [(r0, 12, 3, .int tk), (r0, 12, 4, .int qa_95)]) [2, 0] rfl), by first | omega | (refine ⟨?_, ?_, ?_, ?_, ?_⟩ <;> (first | omega | rfl | assumption | decide | exact Or.inl rfl | exact Or.inr rfl | (simp only; omega)))⟩⟩ rfl rfl hl.1 rfl (lv_room (Nat.le_of_ble_eq_true rfl)) dX10_isOne_100 ⟨Nat.zero_le _, Nat.zero_le _⟩) hh_95.1 (fun q _ h => h) (fun q h => h) (fun r_99 u_98 t_98 H_98 locs_98 ht_98 hvm_98 hr_99 hb_98 hz_98 hk_98 hS_98 => ?_)
          obtain ⟨qa_98, rfl⟩ : ∃ z, z = u_98 := ⟨_, rfl⟩
          rw [ht_98] at hb_98
          obtain ⟨hb_981, hb_982, hb_983, hb_984, hb_985⟩ := hb_98
          have hh_98 : jSt (dC, dI) B base G0 G0 EX10_isOneB s.heap 0 0 [(r0, 12, 4, .int qa_98), (r0, 12, 10, .int qc_95), (r0, 12, 3, .int tk)] [] [] H_98 locs_98 := ((hh_95.call hb_981 hb_982 hb_983 hb_984 hS_98 rfl (L1 := [(r0, 12, 10, .int qc_95), (r0, 12, 3, .int tk)]) [1, 2] rfl rfl (M1 := []) [] rfl rfl (I1 := []) [] rfl rfl).more hb_985)
          clear hh_95 ht_98 hvm_98 hz_98 hk_98 hS_98 hb_981 hb_982 hb_983 hb_984 hb_985
          obtain ⟨hr_99b, hr_99p⟩ := hr_99
          obtain ⟨hr_99p_0, hr_99p_1⟩ := hr_99p
          have hr_99' := jb_01 hr_99b
          refine lv_if_eq (tgt := 110) hx hb dX10_isOne_103 (by decide) (fun c_100 => ?_) (fun c_100 => ?_)
          · skip
            have c_100' : r_99.toInt = 0 := jb_eq (rfl) ((by decide)) c_100
            first | (have hr_96p_4q := hr_96p_4.resolve_left (by omega); clear hr_96p_4) | (have hr_96p_4q := hr_96p_4.resolve_right (by omega); clear hr_96p_4) | skip
            first | (have hr_99p_1q := hr_99p_1.resolve_left (by omega); clear hr_99p_1) | (have hr_99p_1q := hr_99p_1.resolve_right (by omega); clear hr_99p_1) | skip
            refine lv_iconst (v := 0) hx hb dX10_isOne_110 (by decide) ?_
            rw [hQ]
            exact W.zret (v := 0) hx hb hr (jb_nz (Or.inl rfl)) (fun t ht hW => ⟨⟨0, (qa_98, qc_95), rfl, ⟨(Or.inl rfl), by (try dsimp only); first | omega | (refine ⟨?_, ?_, ?_, ?_, ?_⟩ <;> (first | omega | rfl | assumption | decide | exact Or.inl rfl | exact Or.inr rfl | (simp only; omega)))⟩, hh_98.rt (M1 := [(r0, 12, 4, .int qa_98), (r0, 12, 10, .int qc_95)]) [0, 1] rfl ht⟩, by rw [ht]; try exact hh_98.1.1, fun q h9 hq => by rw [ht]; try exact hh_98.1.2.1 q h9 hq⟩) hh_98.1.2.2 dX10_isOne_111
          · skip
            have c_100' : r_99.toInt ≠ 0 := jb_eq_n (rfl) ((by decide)) c_100
            first | (have hr_96p_4q := hr_96p_4.resolve_left (by omega); clear hr_96p_4) | (have hr_96p_4q := hr_96p_4.resolve_right (by omega); clear hr_96p_4) | skip
            first | (have hr_99p_1q := hr_99p_1.resolve_left (by omega); clear hr_99p_1) | (have hr_99p_1q := hr_99p_1.resolve_right (by omega); clear hr_99p_1) | skip
            refine lv_iconst (v := 1) hx hb dX10_isOne_106 (by decide) ?_
            refine lv_goto (tgt := 111) hx hb dX10_isOne_107 (by decide) ?_
            rw [hQ]
            exact W.zret (v := 1) hx hb hr (jb_nz (Or.inr rfl)) (fun t ht hW => ⟨⟨1, (qa_98, qc_95), rfl, ⟨(Or.inr rfl), by (try dsimp only); first | omega | (refine ⟨?_, ?_, ?_, ?_, ?_⟩ <;> (first | omega | rfl | assumption | decide | exact Or.inl rfl | exact Or.inr rfl | (simp only; omega)))⟩, hh_98.rt (M1 := [(r0, 12, 4, .int qa_98), (r0, 12, 10, .int qc_95)]) [0, 1] rfl ht⟩, by rw [ht]; try exact hh_98.1.1, fun q h9 hq => by rw [ht]; try exact hh_98.1.2.1 q h9 hq⟩) hh_98.1.2.2 dX10_isOne_111
  · skip
    have c_5' : r_2.toInt = 126 := jb_ne_n (rfl) ((by decide)) c_5
    first | (have hr_2q := hr_2.resolve_left (by omega); clear hr_2) | (have hr_2q := hr_2.resolve_right (by omega); clear hr_2) | skip
    refine lv_aload_n hx hb dX10_isOne_16 rfl (lv_at hl 2 rfl) ?_
    refine lv_dup hx hb dX10_isOne_17 rfl ?_
    refine j7_read hx hb hown hK (C := RX10) (T := TX10) (N := 11) rfl hly_12_4 hlk_83 (hh_3.at 1 rfl) dX10_isOne_18 ?_
    refine lv_iconst (v := 1) hx hb dX10_isOne_21 (by decide) ?_
    refine lv_iadd hx hb dX10_isOne_22 ?_
    refine lv_topi (fun z_101 ez_101 => ?_)
    have hz_101 : z_101.toInt = pa.toInt + 1 := by rw [ez_101]; exact jb_iadd2 (rfl) ((by decide)) (by omega)
    refine j7_put hx hb hown hK hh_3 hB hAp hB12 (C := RX10) (T := TX10) (N := 11) rfl (by decide) hg_r0 (i := 4) (by decide) hly_12_4 rfl hlk_83 rfl (ty := .int) (v := .int z_101) (by decide +kernel) rfl rfl (⟨_, rfl, by omega, by omega⟩) rfl (L1 := [(r0, 12, 3, .int tk), (r0, 12, 10, .int nc)]) [0, 2] rfl rfl rfl dX10_isOne_23 (fun H_102 locs_102 hh_102 => ?_)
    clear hh_3
    refine lv_iload_n hx hb dX10_isOne_26 rfl (lv_at hl 3 rfl) ?_
    refine lv_bipush (v := 12) hx hb dX10_isOne_27 (by decide) ?_
    refine lv_icmp_ge (tgt := 62) hx hb dX10_isOne_29 (by decide) (fun c_103 => ?_) (fun c_103 => ?_)
    · skip
      have c_103' : a1.toInt ≥ 12 := jb_ge (rfl) ((by decide)) c_103
      refine lv_iconst (v := 0) hx hb dX10_isOne_62 (by decide) ?_
      rw [hQ]
      exact W.zret (v := 0) hx hb hr (jb_nz (Or.inl rfl)) (fun t ht hW => ⟨⟨0, (z_101, nc), rfl, ⟨(Or.inl rfl), by (try dsimp only); first | omega | (refine ⟨?_, ?_, ?_, ?_, ?_⟩ <;> (first | omega | rfl | assumption | decide | exact Or.inl rfl | exact Or.inr rfl | (simp only; omega)))⟩, hh_102.rt (M1 := [(r0, 12, 4, .int z_101), (r0, 12, 10, .int nc)]) [0, 2] rfl ht⟩, by rw [ht]; try exact hh_102.1.1, fun q h9 hq => by rw [ht]; try exact hh_102.1.2.1 q h9 hq⟩) hh_102.1.2.2 dX10_isOne_63
    · skip
      have c_103' : a1.toInt < 12 := jb_ge_n (rfl) ((by decide)) c_103
      refine lv_aload_n hx hb dX10_isOne_32 rfl (lv_at hl 2 rfl) ?_
      refine lv_iconst (v := 1) hx hb dX10_isOne_33 (by decide) ?_
      obtain ⟨v_106, hv_106, hh_107⟩ := hh_102.pin (C := RX10) (T := TX10) (N := 11) hB12 rfl (by decide) hg_r0 (i := 9) (by decide) rfl
      obtain ⟨nodes_108, rfl, hg_nodes_108⟩ := hv_106
      obtain ⟨f_fn_109, hh_109⟩ := hh_107.cpin hB280 (by decide) (by decide) hg_nodes_108
      clear hh_107
      refine va_calli (A0 := jA base) (H0 := s.heap) (va_runV (As := [.int 1]) (rest := []) ⟨hx, hb, hml, hown, hts⟩ (uX10_addNodeB l dC dI ca base B hB hAp hB12 hB280 G0 H_102 r0 1 nc nodes_108 f_fn_109) (cwV 1 hts (jgV (jWr_80 _ (List.mem_of_getElem? (i := 20) rfl)) (jWr_80 _ (List.mem_of_getElem? (i := 21) rfl)) (jWr_80 _ (List.mem_of_getElem? (i := 22) rfl)) (jWr_4 _ (List.mem_of_getElem? (i := 14) rfl)) (jWr_80 _ (List.mem_of_getElem? (i := 23) rfl))) rfl rfl rfl (by decide +kernel) ⟨by rw [← hR]; show (0) + 1 ≤ 5 * ef + 5; omega, by rw [← hR]; show 8 + (2 + 11) + (0) ≤ 160 * ef + 200; omega⟩) ⟨fun a U g mk q => by obtain ⟨q0, q1, q2, qK, q10, q11, q12, q13, q14⟩ := q; exact ⟨q0, q1, q2, jG.calling g mk a qK, q10, q11, q12, q13, q14⟩, hh_109.recv (C := RX10) (T := TX10) (N := 11) hB12 rfl (by decide) hg_r0 hK, fun U hU hW => ⟨rfl, hU, hh_109.2.1, hG.step hW hU hh_109.1, hg_r0, hg_nodes_108, (hh_109.2.2.1.sub (L1 := [(r0, 12, 10, .int nc), (r0, 12, 9, .ref nodes_108)]) [3, 0] rfl), (hh_109.2.2.2.2.2.2.2.1.sub (L1 := [(nodes_108, 280, 3000, ca 1, f_fn_109)]) [0] rfl), by first | omega | (refine ⟨?_, ?_, ?_⟩ <;> (first | omega | rfl | assumption | decide | exact Or.inl rfl | exact Or.inr rfl | (simp only; omega)))⟩⟩ rfl rfl hl.1 rfl (lv_room (Nat.le_of_ble_eq_true rfl)) dX10_isOne_34 ⟨Nat.zero_le _, Nat.zero_le _⟩) hh_109.1 (fun q _ h => h) (fun q h => h) (fun r_105 u_104 t_104 H_104 locs_104 ht_104 hvm_104 hr_105 hb_104 hz_104 hk_104 hS_104 => ?_)
      obtain ⟨qc_104, fn2_104⟩ := u_104
      rw [ht_104] at hb_104
      obtain ⟨⟨hb_1041, hb_1042, hb_1043, hb_1044, hb_1045⟩, hb_1046⟩ := hb_104
      have hh_104 : jSt (dC, dI) B base G0 G0 EX10_isOneB s.heap 0 0 [(r0, 12, 10, .int qc_104), (r0, 12, 9, .ref nodes_108), (r0, 12, 4, .int z_101), (r0, 12, 3, .int tk)] [(nodes_108, 280, 3000, ca 1, fn2_104)] [] H_104 locs_104 := ((hh_109.call hb_1041 hb_1042 hb_1043 hb_1044 hS_104 rfl (L1 := [(r0, 12, 9, .ref nodes_108), (r0, 12, 4, .int z_101), (r0, 12, 3, .int tk)]) [0, 1, 2] rfl rfl (M1 := []) [] rfl rfl (I1 := []) [] rfl rfl).more hb_1045).moreM hb_1046
      clear hh_109 ht_104 hvm_104 hz_104 hk_104 hS_104 hb_1041 hb_1042 hb_1043 hb_1044 hb_1045
      clear hb_1046
      try simp only at hr_105
      obtain ⟨hr_105b, hr_105p⟩ := hr_105
      obtain ⟨hr_105p_0, hr_105p_1, hr_105p_2, hr_105p_3⟩ := hr_105p
      have hr_105' := jb_01 hr_105b
      refine lv_if_eq (tgt := 62) hx hb dX10_isOne_37 (by decide) (fun c_110 => ?_) (fun c_110 => ?_)
      · skip
        have c_110' : r_105.toInt = 0 := jb_eq (rfl) ((by decide)) c_110
        first | (have hr_105p_0q := hr_105p_0.resolve_left (by omega); clear hr_105p_0) | (have hr_105p_0q := hr_105p_0.resolve_right (by omega); clear hr_105p_0) | skip
        first | (have hr_105p_3q := hr_105p_3.resolve_left (by omega); clear hr_105p_3) | (have hr_105p_3q := hr_105p_3.resolve_right (by omega); clear hr_105p_3) | skip
        refine lv_iconst (v := 0) hx hb dX10_isOne_62 (by decide) ?_
        rw [hQ]
        exact W.zret (v := 0) hx hb hr (jb_nz (Or.inl rfl)) (fun t ht hW => ⟨⟨0, (z_101, qc_104), rfl, ⟨(Or.inl rfl), by (try dsimp only); first | omega | (refine ⟨?_, ?_, ?_, ?_, ?_⟩ <;> (first | omega | rfl | assumption | decide | exact Or.inl rfl | exact Or.inr rfl | (simp only; omega)))⟩, hh_104.rt (M1 := [(r0, 12, 4, .int z_101), (r0, 12, 10, .int qc_104)]) [2, 0] rfl ht⟩, by rw [ht]; try exact hh_104.1.1, fun q h9 hq => by rw [ht]; try exact hh_104.1.2.1 q h9 hq⟩) hh_104.1.2.2 dX10_isOne_63
      · skip
        have c_110' : r_105.toInt ≠ 0 := jb_eq_n (rfl) ((by decide)) c_110
        first | (have hr_105p_0q := hr_105p_0.resolve_left (by omega); clear hr_105p_0) | (have hr_105p_0q := hr_105p_0.resolve_right (by omega); clear hr_105p_0) | skip
        first | (have hr_105p_3q := hr_105p_3.resolve_left (by omega); clear hr_105p_3) | (have hr_105p_3q := hr_105p_3.resolve_right (by omega); clear hr_105p_3) | skip
        refine lv_aload_n hx hb dX10_isOne_40 rfl (lv_at hl 2 rfl) ?_
        refine lv_iload_n hx hb dX10_isOne_41 rfl (lv_at hl 3 rfl) ?_
        refine lv_iconst (v := 1) hx hb dX10_isOne_42 (by decide) ?_
        refine lv_iadd hx hb dX10_isOne_43 ?_
        refine lv_topi (fun z_111 ez_111 => ?_)
        have hz_111 : z_111.toInt = a1.toInt + 1 := by rw [ez_111]; exact jb_iadd2 (rfl) ((by decide)) (by omega)
        refine va_calli (A0 := jA base) (H0 := s.heap) (va_runV (As := [.int z_111]) (rest := []) ⟨hx, hb, hml, hown, hts⟩ (ihO (ef - 1) (by omega) G0 H_104 r0 z_111 tk z_101 qc_104) (cwV 1 hts (jgV (jWr_80 _ (List.mem_of_getElem? (i := 12) rfl)) (jWr_80 _ (List.mem_of_getElem? (i := 13) rfl)) (jWr_80 _ (List.mem_of_getElem? (i := 14) rfl)) (jWr_4 _ (List.mem_of_getElem? (i := 14) rfl)) (jWr_80 _ (List.mem_of_getElem? (i := 19) rfl))) rfl rfl rfl (by decide +kernel) ⟨by rw [← hR]; show (5 * (ef - 1) + 5) + 1 ≤ 5 * ef + 5; omega, by rw [← hR]; show 8 + (6 + 11) + (160 * (ef - 1) + 200) ≤ 160 * ef + 200; omega⟩) ⟨fun a U g mk q => by obtain ⟨q0, q1, q2, qK, q10, q11, q12⟩ := q; exact ⟨q0, q1, q2, jG.calling g mk a qK, q10, q11, q12⟩, hh_104.recv (C := RX10) (T := TX10) (N := 11) hB12 rfl (by decide) hg_r0 hK, fun U hU hW => ⟨rfl, hU, hh_104.2.1, hG.step hW hU hh_104.1, hg_r0, (hh_104.2.2.1.sub (L1 := [(r0, 12, 3, .int tk), (r0, 12, 4, .int z_101), (r0, 12, 10, .int qc_104)]) [3, 2, 0] rfl), by first | omega | (refine ⟨?_, ?_, ?_, ?_, ?_, ?_, ?_, ?_, ?_⟩ <;> (first | omega | rfl | assumption | decide | exact Or.inl rfl | exact Or.inr rfl | (simp only; omega)))⟩⟩ rfl rfl hl.1 rfl (lv_room (Nat.le_of_ble_eq_true rfl)) dX10_isOne_44 ⟨Nat.zero_le _, Nat.zero_le _⟩) hh_104.1 (fun q _ h => h) (fun q h => h) (fun r_113 u_112 t_112 H_112 locs_112 ht_112 hvm_112 hr_113 hb_112 hz_112 hk_112 hS_112 => ?_)
        obtain ⟨qa_112, qc_112⟩ := u_112
        rw [ht_112] at hb_112
        obtain ⟨hb_1121, hb_1122, hb_1123, hb_1124, hb_1125⟩ := hb_112
        have hh_112 : jSt (dC, dI) B base G0 G0 EX10_isOneB s.heap 0 0 [(r0, 12, 4, .int qa_112), (r0, 12, 10, .int qc_112), (r0, 12, 9, .ref nodes_108), (r0, 12, 3, .int tk)] [] [] H_112 locs_112 := ((hh_104.call hb_1121 hb_1122 hb_1123 hb_1124 hS_112 rfl (L1 := [(r0, 12, 9, .ref nodes_108), (r0, 12, 3, .int tk)]) [1, 3] rfl rfl (M1 := []) [] rfl rfl (I1 := []) [] rfl rfl).more hb_1125)
        clear hh_104 ht_112 hvm_112 hz_112 hk_112 hS_112 hb_1121 hb_1122 hb_1123 hb_1124 hb_1125
        try simp only at hr_113
        obtain ⟨hr_113b, hr_113p⟩ := hr_113
        obtain ⟨hr_113p_0, hr_113p_1, hr_113p_2, hr_113p_3, hr_113p_4⟩ := hr_113p
        have hr_113' := jb_01 hr_113b
        refine lv_if_eq (tgt := 62) hx hb dX10_isOne_47 (by decide) (fun c_114 => ?_) (fun c_114 => ?_)
        · skip
          have c_114' : r_113.toInt = 0 := jb_eq (rfl) ((by decide)) c_114
          first | (have hr_113p_4q := hr_113p_4.resolve_left (by omega); clear hr_113p_4) | (have hr_113p_4q := hr_113p_4.resolve_right (by omega); clear hr_113p_4) | skip
          refine lv_iconst (v := 0) hx hb dX10_isOne_62 (by decide) ?_
          rw [hQ]
          exact W.zret (v := 0) hx hb hr (jb_nz (Or.inl rfl)) (fun t ht hW => ⟨⟨0, (qa_112, qc_112), rfl, ⟨(Or.inl rfl), by (try dsimp only); first | omega | (refine ⟨?_, ?_, ?_, ?_, ?_⟩ <;> (first | omega | rfl | assumption | decide | exact Or.inl rfl | exact Or.inr rfl | (simp only; omega)))⟩, hh_112.rt (M1 := [(r0, 12, 4, .int qa_112), (r0, 12, 10, .int qc_112)]) [0, 1] rfl ht⟩, by rw [ht]; try exact hh_112.1.1, fun q h9 hq => by rw [ht]; try exact hh_112.1.2.1 q h9 hq⟩) hh_112.1.2.2 dX10_isOne_63
        · skip
          have c_114' : r_113.toInt ≠ 0 := jb_eq_n (rfl) ((by decide)) c_114
          first | (have hr_113p_4q := hr_113p_4.resolve_left (by omega); clear hr_113p_4) | (have hr_113p_4q := hr_113p_4.resolve_right (by omega); clear hr_113p_4) | skip
          refine lv_aload_n hx hb dX10_isOne_50 rfl (lv_at hl 2 rfl) ?_
          refine lv_iconst (v := 0) hx hb dX10_isOne_51 (by decide) ?_
          obtain ⟨f_fn_117, hh_117⟩ := hh_112.cpin hB280 (by decide) (by decide) hg_nodes_108
          clear hh_112
          refine va_calli (A0 := jA base) (H0 := s.heap) (va_runV (As := [.int 0]) (rest := []) ⟨hx, hb, hml, hown, hts⟩ (uX10_addNodeB l dC dI ca base B hB hAp hB12 hB280 G0 H_112 r0 0 qc_112 nodes_108 f_fn_117) (cwV 1 hts (jgV (jWr_80 _ (List.mem_of_getElem? (i := 20) rfl)) (jWr_80 _ (List.mem_of_getElem? (i := 21) rfl)) (jWr_80 _ (List.mem_of_getElem? (i := 22) rfl)) (jWr_4 _ (List.mem_of_getElem? (i := 14) rfl)) (jWr_80 _ (List.mem_of_getElem? (i := 23) rfl))) rfl rfl rfl (by decide +kernel) ⟨by rw [← hR]; show (0) + 1 ≤ 5 * ef + 5; omega, by rw [← hR]; show 8 + (2 + 11) + (0) ≤ 160 * ef + 200; omega⟩) ⟨fun a U g mk q => by obtain ⟨q0, q1, q2, qK, q10, q11, q12, q13, q14⟩ := q; exact ⟨q0, q1, q2, jG.calling g mk a qK, q10, q11, q12, q13, q14⟩, hh_117.recv (C := RX10) (T := TX10) (N := 11) hB12 rfl (by decide) hg_r0 hK, fun U hU hW => ⟨rfl, hU, hh_117.2.1, hG.step hW hU hh_117.1, hg_r0, hg_nodes_108, (hh_117.2.2.1.sub (L1 := [(r0, 12, 10, .int qc_112), (r0, 12, 9, .ref nodes_108)]) [1, 2] rfl), (hh_117.2.2.2.2.2.2.2.1.sub (L1 := [(nodes_108, 280, 3000, ca 1, f_fn_117)]) [0] rfl), by first | omega | (refine ⟨?_, ?_, ?_⟩ <;> (first | omega | rfl | assumption | decide | exact Or.inl rfl | exact Or.inr rfl | (simp only; omega)))⟩⟩ rfl rfl hl.1 rfl (lv_room (Nat.le_of_ble_eq_true rfl)) dX10_isOne_52 ⟨Nat.zero_le _, Nat.zero_le _⟩) hh_117.1 (fun q _ h => h) (fun q h => h) (fun r_116 u_115 t_115 H_115 locs_115 ht_115 hvm_115 hr_116 hb_115 hz_115 hk_115 hS_115 => ?_)
          obtain ⟨qc_115, fn2_115⟩ := u_115
          rw [ht_115] at hb_115
          obtain ⟨⟨hb_1151, hb_1152, hb_1153, hb_1154, hb_1155⟩, hb_1156⟩ := hb_115
          have hh_115 : jSt (dC, dI) B base G0 G0 EX10_isOneB s.heap 0 0 [(r0, 12, 10, .int qc_115), (r0, 12, 4, .int qa_112), (r0, 12, 9, .ref nodes_108), (r0, 12, 3, .int tk)] [(nodes_108, 280, 3000, ca 1, fn2_115)] [] H_115 locs_115 := ((hh_117.call hb_1151 hb_1152 hb_1153 hb_1154 hS_115 rfl (L1 := [(r0, 12, 4, .int qa_112), (r0, 12, 9, .ref nodes_108), (r0, 12, 3, .int tk)]) [0, 2, 3] rfl rfl (M1 := []) [] rfl rfl (I1 := []) [] rfl rfl).more hb_1155).moreM hb_1156
          clear hh_117 ht_115 hvm_115 hz_115 hk_115 hS_115 hb_1151 hb_1152 hb_1153 hb_1154 hb_1155
          clear hb_1156
          try simp only at hr_116
          obtain ⟨hr_116b, hr_116p⟩ := hr_116
          obtain ⟨hr_116p_0, hr_116p_1, hr_116p_2, hr_116p_3⟩ := hr_116p
          have hr_116' := jb_01 hr_116b
          refine lv_if_eq (tgt := 62) hx hb dX10_isOne_55 (by decide) (fun c_118 => ?_) (fun c_118 => ?_)
          · skip
            have c_118' : r_116.toInt = 0 := jb_eq (rfl) ((by decide)) c_118
            first | (have hr_116p_0q := hr_116p_0.resolve_left (by omega); clear hr_116p_0) | (have hr_116p_0q := hr_116p_0.resolve_right (by omega); clear hr_116p_0) | skip
            first | (have hr_116p_3q := hr_116p_3.resolve_left (by omega); clear hr_116p_3) | (have hr_116p_3q := hr_116p_3.resolve_right (by omega); clear hr_116p_3) | skip
            refine lv_iconst (v := 0) hx hb dX10_isOne_62 (by decide) ?_
            rw [hQ]
            exact W.zret (v := 0) hx hb hr (jb_nz (Or.inl rfl)) (fun t ht hW => ⟨⟨0, (qa_112, qc_115), rfl, ⟨(Or.inl rfl), by (try dsimp only); first | omega | (refine ⟨?_, ?_, ?_, ?_, ?_⟩ <;> (first | omega | rfl | assumption | decide | exact Or.inl rfl | exact Or.inr rfl | (simp only; omega)))⟩, hh_115.rt (M1 := [(r0, 12, 4, .int qa_112), (r0, 12, 10, .int qc_115)]) [1, 0] rfl ht⟩, by rw [ht]; try exact hh_115.1.1, fun q h9 hq => by rw [ht]; try exact hh_115.1.2.1 q h9 hq⟩) hh_115.1.2.2 dX10_isOne_63
          · skip
            have c_118' : r_116.toInt ≠ 0 := jb_eq_n (rfl) ((by decide)) c_118
            first | (have hr_116p_0q := hr_116p_0.resolve_left (by omega); clear hr_116p_0) | (have hr_116p_0q := hr_116p_0.resolve_right (by omega); clear hr_116p_0) | skip
            first | (have hr_116p_3q := hr_116p_3.resolve_left (by omega); clear hr_116p_3) | (have hr_116p_3q := hr_116p_3.resolve_right (by omega); clear hr_116p_3) | skip
            refine lv_iconst (v := 1) hx hb dX10_isOne_58 (by decide) ?_
            refine lv_goto (tgt := 63) hx hb dX10_isOne_59 (by decide) ?_
            rw [hQ]
            exact W.zret (v := 1) hx hb hr (jb_nz (Or.inr rfl)) (fun t ht hW => ⟨⟨1, (qa_112, qc_115), rfl, ⟨(Or.inr rfl), by (try dsimp only); first | omega | (refine ⟨?_, ?_, ?_, ?_, ?_⟩ <;> (first | omega | rfl | assumption | decide | exact Or.inl rfl | exact Or.inr rfl | (simp only; omega)))⟩, hh_115.rt (M1 := [(r0, 12, 4, .int qa_112), (r0, 12, 10, .int qc_115)]) [1, 0] rfl ht⟩, by rw [ht]; try exact hh_115.1.1, fun q h9 hq => by rw [ht]; try exact hh_115.1.2.1 q h9 hq⟩) hh_115.1.2.2 dX10_isOne_63
set_option maxHeartbeats 4000000 in
set_option maxRecDepth 20000 in
theorem uX10_isChainB (l : Launch) (dC : Nat → ClassId) (dI : Nat → Nat → Nat) (ca : Nat → ClassId) (base : Nat) (B : jF) (hB : jBok B) (hAp : jAp (dC, dI)) (hB12 : ∀ n G a H, B 12 n G a H ↔ jOb (dC, dI) 12 11 (F12b n G) a H) (hB101 : ∀ n G a H, B 101 n G a H ↔ jAr (dC, dI) (ca 1) (fun j z => True) n a H) (hB280 : ∀ n G a H, B 280 n G a H ↔ jAr (dC, dI) (ca 1) (fun j z => -1 ≤ z.toInt) n a H) (hB293 : ∀ n G a H, B 293 n G a H ↔ jAr (dC, dI) (ca 1) (fun j z => -1 ≤ z.toInt ∧ z.toInt ≤ 8191) n a H) (ef : Nat) (jf : Nat) (hO : qX10_isOneB l dC dI ca base B ef) (ihJ : ∀ j1, j1 < jf → qX10_isChainB l dC dI ca base B ef j1) (G0 : jT) (H0 : Heap) (r0 : Nat) (a1 : Int32) (a2 : Int32) (tk : Int32) (pa : Int32) (nc : Int32) : Met l yX10_isChain (jw yX10_isChain cX10_isChain 6 (some .boolean)) ({ frames := 5 * ef + 6 + jf, cells := 0, slots := 0, locals := 160 * ef + 230 + 30 * jf }) (va_Pc [.ref r0, .int a1, .int a2] (fun U => U.heap = H0 ∧ jX B base G0 [] H0 ∧ jG dC dI ca base U ∧ G0 r0 = some (12, 0) ∧ jP (dC, dI) G0 H0 [(r0, 12, 3, .int tk), (r0, 12, 4, .int pa), (r0, 12, 10, .int nc)] ∧ 0 ≤ tk.toInt ∧ tk.toInt ≤ 1500 ∧ 0 ≤ pa.toInt ∧ pa.toInt ≤ 1503 ∧ 0 ≤ nc.toInt ∧ nc.toInt ≤ 3000 ∧ pa.toInt ≤ tk.toInt ∧ a2.toInt = 12 - ef ∧ ef ≤ 12 ∧ a1.toInt = 2 - jf ∧ jf ≤ 2)) (va_Qi (S := Int32 × Int32) (fun r u => (r = 0 ∨ r = 1) ∧ (0 ≤ u.1.toInt ∧ u.1.toInt ≤ tk.toInt + 2 ∧ nc.toInt ≤ u.2.toInt ∧ u.2.toInt ≤ 3000 ∧ (r.toInt = 0 ∨ (u.1.toInt ≤ tk.toInt ∧ nc.toInt + 1 ≤ u.2.toInt)))) (fun u t => jRt (dC, dI) B base G0 EX10_isChainB H0 [(r0, 12, 4, .int u.1), (r0, 12, 10, .int u.2)] t.heap) (jA base)) 0 0 (jA base) := by
  refine Met.ofW (cc := cX10_isChain) (maxL := 6) (ret := (some .boolean)) (by decide) rfl ?_
  intro p e s m args below meth c s₁ Bd hml hv
  obtain ⟨rfl, hH0, hX, hG, hg_r0, hP0, hp0, hp1, hp2, hp3, hp4, hp5, hp6, hp7, hp8, hp9, hp10⟩ := hv
  have hK := hG.1
  have hx := Bd.exec
  have hb := Bd.bytes
  have hr := Bd.returns
  have hts := atoms_spec (ws := (jw yX10_isChain cX10_isChain 6 (some .boolean))) Bd.pre
  have htw : ∀ w ∈ jWl, w.before _ s = true := fun w h => hts w (List.mem_cons_of_mem _ h)
  have hown : s.vm.findClass RX10 = some m.cls := findClass_of_methodNamed Bd.named
  have hlocks := Bd.notSynchronized
  obtain ⟨Q, hQ⟩ : ∃ Q, Q = MQ below (va_Qi (S := Int32 × Int32) (fun r u => (r = 0 ∨ r = 1) ∧ (0 ≤ u.1.toInt ∧ u.1.toInt ≤ tk.toInt + 2 ∧ nc.toInt ≤ u.2.toInt ∧ u.2.toInt ≤ 3000 ∧ (r.toInt = 0 ∨ (u.1.toInt ≤ tk.toInt ∧ nc.toInt + 1 ≤ u.2.toInt)))) (fun u t => jRt (dC, dI) B base G0 EX10_isChainB H0 [(r0, 12, 4, .int u.1), (r0, 12, 10, .int u.2)] t.heap) (jA base)) ([.ref r0, .int a1, .int a2] : List Value).toArray s 0 0 (jA base) := ⟨_, rfl⟩
  rw [← hQ]
  have hl := lv_entry ([.ref r0, .int a1, .int a2]) (n := 6) (Nat.le_of_ble_eq_true rfl)
  rw [lg_entry_eq]
  generalize (lg_sl ([.ref r0, .int a1, .int a2]) ++ List.replicate (6 - (lg_sl ([.ref r0, .int a1, .int a2])).length) Slot.unset).toArray = ls at hl ⊢
  have hl : lv_has ls 6 [(0, .ref r0), (1, .int a1), (2, .int a2)] := hl
  generalize hR : (headSpec (jw yX10_isChain cX10_isChain 6 (some .boolean)) ({ frames := 5 * ef + 6 + jf, cells := 0, slots := 0, locals := 160 * ef + 230 + 30 * jf })).room = R
  subst hH0
  have hh : jSt (dC, dI) B base G0 G0 EX10_isChainB s.heap 0 0 [(r0, 12, 3, .int tk), (r0, 12, 4, .int pa), (r0, 12, 10, .int nc)] [] [] s.heap [] := jSt.start hX hP0 jMc.nil jIs.nil
  clear hX hP0
  have hk0 : (0 : Int32).toInt = 0 := by decide
  have hk1 : (1 : Int32).toInt = 1 := by decide
  have hk1500 : (1500 : Int32).toInt = 1500 := by decide
  have hly_12_4 := htw (u_lay RX10 TX10 4) (jWc_wsX100 _ (u_in_lay (by decide)))
  have hly_12_10 := htw (u_lay RX10 TX10 10) (jWc_wsX100 _ (u_in_lay (by decide)))
  have hlk_89 := (htw (.fieldLink RX10 89 "ProofServer$Syntax" "nodeCount" "I") (jWr_79 _ (List.mem_of_getElem? (i := 7) rfl)))
  have hlk_83 := (htw (.fieldLink RX10 83 "ProofServer$Syntax" "at" "I") (jWr_79 _ (List.mem_of_getElem? (i := 5) rfl)))
  have hrg_a1 := jb_rng a1
  have hrg_a2 := jb_rng a2
  refine lv_iconst (v := 0) hx hb dX10_isChain_0 (by decide) ?_
  refine lv_istore_n (lv' := [(3, .int 0), (0, .ref r0), (1, .int a1), (2, .int a2)]) hx hb dX10_isChain_1 rfl hl (by decide) rfl (fun ls hl => ?_)
  have L2 : ∀ (N : Nat) (v3_1 : Int32) (wa_1 : Int32) (wc_1 : Int32) (H_1 : Heap) (locs_1 : List Loc), jSt (dC, dI) B base G0 G0 EX10_isChainB s.heap 0 0 [(r0, 12, 4, .int wa_1), (r0, 12, 10, .int wc_1), (r0, 12, 3, .int tk)] [] [] H_1 locs_1 → (0 ≤ v3_1.toInt ∧ v3_1.toInt ≤ 1500 ∧ 0 ≤ wa_1.toInt ∧ wa_1.toInt ≤ tk.toInt ∧ nc.toInt ≤ wc_1.toInt ∧ wc_1.toInt ≤ 3000) → (1500 - v3_1.toInt : Int) < N → ∀ ls : Array Slot, lv_has ls 6 [(0, .ref r0), (1, .int a1), (2, .int a2), (3, .int v3_1)] → W p l e R s m ([.ref r0, .int a1, .int a2] : List Value).toArray below meth c H_1 locs_1 0 0 Q (F0 m 2 ls []) := by
    intro N
    induction N with
    | zero => intro v3_1 wa_1 wc_1 H_1 locs_1 hh_1  hi_1 hm; exact absurd hm (by omega)
    | succ N L2 =>
      intro v3_1 wa_1 wc_1 H_1 locs_1 hh_1  hi_1 hm_1 ls hl
      obtain ⟨hi_1_0, hi_1_1, hi_1_2, hi_1_3, hi_1_4, hi_1_5⟩ := hi_1
      refine lv_iload_n hx hb dX10_isChain_2 rfl (lv_at hl 3 rfl) ?_
      refine lv_sipush (v := 1500) hx hb dX10_isChain_3 (by decide) ?_
      refine lv_icmp_ge (tgt := 104) hx hb dX10_isChain_6 (by decide) (fun c_2 => ?_) (fun c_2 => ?_)
      · skip
        have c_2' : v3_1.toInt ≥ 1500 := jb_ge (rfl) ((by decide)) c_2
        refine lv_iconst (v := 0) hx hb dX10_isChain_104 (by decide) ?_
        rw [hQ]
        exact W.zret (v := 0) hx hb hr (jb_nz (Or.inl rfl)) (fun t ht hW => ⟨⟨0, (wa_1, wc_1), rfl, ⟨(Or.inl rfl), by first | omega | (refine ⟨?_, ?_, ?_, ?_, ?_⟩ <;> (first | omega | rfl | assumption | decide | exact Or.inl rfl | exact Or.inr rfl | (simp only; omega)))⟩, hh_1.rt (M1 := [(r0, 12, 4, .int wa_1), (r0, 12, 10, .int wc_1)]) [0, 1] rfl ht⟩, by rw [ht]; try exact hh_1.1.1, fun q h9 hq => by rw [ht]; try exact hh_1.1.2.1 q h9 hq⟩) hh_1.1.2.2 dX10_isChain_105
      · skip
        have c_2' : v3_1.toInt < 1500 := jb_ge_n (rfl) ((by decide)) c_2
        refine lv_iload_n hx hb dX10_isChain_9 rfl (lv_at hl 1 rfl) ?_
        obtain ⟨ts_3, fts_3, hzts_3, htts_3, hpts_3⟩ := hG.2.2.2.2.2.1
        refine va_gets hx hb hzts_3 hh_1.1 hown (htw (.fieldLink RX10 122 "ProofServer$Syntax" "CHAIN_SIGNS" "[I") (jWr_80 _ (List.mem_of_getElem? (i := 10) rfl))) (fun _ h9 => h9) dX10_isChain_10 ?_
        refine va_tlen hx hb htts_3 hh_1.1 (v := Int32.ofNat 3) rfl dX10_isChain_13 ?_
        refine lv_topi (fun z_4 ez_4 => ?_)
        have hz_4 : z_4.toInt = 3 := by rw [ez_4]; exact jb_nat (by omega)
        refine lv_icmp_ge (tgt := 104) hx hb dX10_isChain_14 (by decide) (fun c_5 => ?_) (fun c_5 => ?_)
        · skip
          have c_5' : a1.toInt ≥ z_4.toInt := jb_ge (rfl) (rfl) c_5
          refine lv_iconst (v := 0) hx hb dX10_isChain_104 (by decide) ?_
          rw [hQ]
          exact W.zret (v := 0) hx hb hr (jb_nz (Or.inl rfl)) (fun t ht hW => ⟨⟨0, (wa_1, wc_1), rfl, ⟨(Or.inl rfl), by first | omega | (refine ⟨?_, ?_, ?_, ?_, ?_⟩ <;> (first | omega | rfl | assumption | decide | exact Or.inl rfl | exact Or.inr rfl | (simp only; omega)))⟩, hh_1.rt (M1 := [(r0, 12, 4, .int wa_1), (r0, 12, 10, .int wc_1)]) [0, 1] rfl ht⟩, by rw [ht]; try exact hh_1.1.1, fun q h9 hq => by rw [ht]; try exact hh_1.1.2.1 q h9 hq⟩) hh_1.1.2.2 dX10_isChain_105
        · skip
          have c_5' : a1.toInt < z_4.toInt := jb_ge_n (rfl) (rfl) c_5
          refine lv_aload_n hx hb dX10_isChain_17 rfl (lv_at hl 0 rfl) ?_
          refine j7_read hx hb hown hK (C := RX10) (T := TX10) (N := 11) rfl hly_12_10 hlk_89 (hh_1.at 1 rfl) dX10_isChain_18 ?_
          refine lv_istore (lv' := [(4, .int wc_1), (0, .ref r0), (1, .int a1), (2, .int a2), (3, .int v3_1)]) hx hb dX10_isChain_21 hl (by decide) rfl (fun ls hl => ?_)
          refine lv_iload_n hx hb dX10_isChain_23 rfl (lv_at hl 2 rfl) ?_
          obtain ⟨ts_6, fts_6, hzts_6, htts_6, hpts_6⟩ := hG.2.2.2.2.2.1
          refine va_gets hx hb hzts_6 hh_1.1 hown (htw (.fieldLink RX10 122 "ProofServer$Syntax" "CHAIN_SIGNS" "[I") (jWr_80 _ (List.mem_of_getElem? (i := 10) rfl))) (fun _ h9 => h9) dX10_isChain_24 ?_
          refine va_tlen hx hb htts_6 hh_1.1 (v := Int32.ofNat 3) rfl dX10_isChain_27 ?_
          refine lv_topi (fun z_7 ez_7 => ?_)
          have hz_7 : z_7.toInt = 3 := by rw [ez_7]; exact jb_nat (by omega)
          refine lv_iconst (v := 1) hx hb dX10_isChain_28 (by decide) ?_
          refine lv_isub hx hb dX10_isChain_29 ?_
          refine lv_topi (fun z_8 ez_8 => ?_)
          have hz_8 : z_8.toInt = z_7.toInt - 1 := by rw [ez_8]; exact jb_isub2 (rfl) ((by decide)) (by omega)
          refine lv_icmp_ne (tgt := 41) hx hb dX10_isChain_30 (by decide) (fun c_9 => ?_) (fun c_9 => ?_)
          · skip
            have c_9' : a1.toInt ≠ z_8.toInt := jb_ne (rfl) (rfl) c_9
            refine lv_aload_n hx hb dX10_isChain_41 rfl (lv_at hl 1 rfl) ?_
            refine lv_iload_n hx hb dX10_isChain_42 rfl (lv_at hl 2 rfl) ?_
            refine lv_iconst (v := 1) hx hb dX10_isChain_43 (by decide) ?_
            refine lv_iadd hx hb dX10_isChain_44 ?_
            refine lv_topi (fun z_10 ez_10 => ?_)
            have hz_10 : z_10.toInt = a1.toInt + 1 := by rw [ez_10]; exact jb_iadd2 (rfl) ((by decide)) (by omega)
            refine lv_iload_n hx hb dX10_isChain_45 rfl (lv_at hl 3 rfl) ?_
            refine va_calli (A0 := jA base) (H0 := s.heap) (va_runV (As := [.int z_10, .int a2]) (rest := []) ⟨hx, hb, hml, hown, hts⟩ (ihJ (jf - 1) (by omega) G0 H_1 r0 z_10 a2 tk wa_1 wc_1) (cwV 2 hts (jgV (jWr_80 _ (List.mem_of_getElem? (i := 6) rfl)) (jWr_80 _ (List.mem_of_getElem? (i := 7) rfl)) (jWr_80 _ (List.mem_of_getElem? (i := 8) rfl)) (jWr_4 _ (List.mem_of_getElem? (i := 14) rfl)) (jWr_80 _ (List.mem_of_getElem? (i := 9) rfl))) rfl rfl rfl (by decide +kernel) ⟨by rw [← hR]; show (5 * ef + 6 + (jf - 1)) + 1 ≤ 5 * ef + 6 + jf; omega, by rw [← hR]; show 8 + (6 + 11) + (160 * ef + 230 + 30 * (jf - 1)) ≤ 160 * ef + 230 + 30 * jf; omega⟩) ⟨fun a U g mk q => by obtain ⟨q0, q1, q2, qK, q10, q11, q12⟩ := q; exact ⟨q0, q1, q2, jG.calling g mk a qK, q10, q11, q12⟩, hh_1.recv (C := RX10) (T := TX10) (N := 11) hB12 rfl (by decide) hg_r0 hK, fun U hU hW => ⟨rfl, hU, hh_1.2.1, hG.step hW hU hh_1.1, hg_r0, (hh_1.2.2.1.sub (L1 := [(r0, 12, 3, .int tk), (r0, 12, 4, .int wa_1), (r0, 12, 10, .int wc_1)]) [2, 0, 1] rfl), by first | omega | (refine ⟨?_, ?_, ?_, ?_, ?_, ?_, ?_, ?_, ?_, ?_, ?_⟩ <;> (first | omega | rfl | assumption | decide | exact Or.inl rfl | exact Or.inr rfl | (simp only; omega)))⟩⟩ rfl rfl hl.1 rfl (lv_room (Nat.le_of_ble_eq_true rfl)) dX10_isChain_46 ⟨Nat.zero_le _, Nat.zero_le _⟩) hh_1.1 (fun q _ h => h) (fun q h => h) (fun r_12 u_11 t_11 H_11 locs_11 ht_11 hvm_11 hr_12 hb_11 hz_11 hk_11 hS_11 => ?_)
            obtain ⟨qa_11, qc_11⟩ := u_11
            rw [ht_11] at hb_11
            obtain ⟨hb_111, hb_112, hb_113, hb_114, hb_115⟩ := hb_11
            have hh_11 : jSt (dC, dI) B base G0 G0 EX10_isChainB s.heap 0 0 [(r0, 12, 4, .int qa_11), (r0, 12, 10, .int qc_11), (r0, 12, 3, .int tk)] [] [] H_11 locs_11 := ((hh_1.call hb_111 hb_112 hb_113 hb_114 hS_11 rfl (L1 := [(r0, 12, 3, .int tk)]) [2] rfl rfl (M1 := []) [] rfl rfl (I1 := []) [] rfl rfl).more hb_115)
            clear hh_1 ht_11 hvm_11 hz_11 hk_11 hS_11 hb_111 hb_112 hb_113 hb_114 hb_115
            try simp only at hr_12
            obtain ⟨hr_12b, hr_12p⟩ := hr_12
            obtain ⟨hr_12p_0, hr_12p_1, hr_12p_2, hr_12p_3, hr_12p_4⟩ := hr_12p
            have hr_12' := jb_01 hr_12b
            refine lv_istore (lv' := [(5, .int r_12), (4, .int wc_1), (0, .ref r0), (1, .int a1), (2, .int a2), (3, .int v3_1)]) hx hb dX10_isChain_49 hl (by decide) rfl (fun ls hl => ?_)
            refine lv_iload hx hb dX10_isChain_51 (lv_at hl 0 rfl) ?_
            refine lv_if_ne (tgt := 58) hx hb dX10_isChain_53 (by decide) (fun c_13 => ?_) (fun c_13 => ?_)
            · skip
              have c_13' : r_12.toInt ≠ 0 := jb_ne (rfl) ((by decide)) c_13
              first | (have hr_12p_4q := hr_12p_4.resolve_left (by omega); clear hr_12p_4) | (have hr_12p_4q := hr_12p_4.resolve_right (by omega); clear hr_12p_4) | skip
              refine lv_aload_n hx hb dX10_isChain_58 rfl (lv_at hl 2 rfl) ?_
              refine va_calli (A0 := jA base) (H0 := s.heap) (va_runV (As := []) (rest := []) ⟨hx, hb, hml, hown, hts⟩ (uX10_peekB l dC dI ca base B hB hAp hB12 hB101 G0 H_11 r0 tk qa_11) (cwV 0 hts (jgV (jWr_79 _ (List.mem_of_getElem? (i := 18) rfl)) (jWr_79 _ (List.mem_of_getElem? (i := 19) rfl)) (jWr_79 _ (List.mem_of_getElem? (i := 20) rfl)) (jWr_4 _ (List.mem_of_getElem? (i := 14) rfl)) (jWr_79 _ (List.mem_of_getElem? (i := 21) rfl))) rfl rfl rfl (by decide +kernel) ⟨by rw [← hR]; show (0) + 1 ≤ 5 * ef + 6 + jf; omega, by rw [← hR]; show 8 + (1 + 11) + (0) ≤ 160 * ef + 230 + 30 * jf; omega⟩) ⟨fun a U g mk q => by obtain ⟨q0, q1, q2, qK, q10, q11, q12⟩ := q; exact ⟨q0, q1, q2, jG.calling g mk a qK, q10, q11, q12⟩, hh_11.recv (C := RX10) (T := TX10) (N := 11) hB12 rfl (by decide) hg_r0 hK, fun U hU hW => ⟨rfl, hU, hh_11.2.1, hG.step hW hU hh_11.1, hg_r0, (hh_11.2.2.1.sub (L1 := [(r0, 12, 3, .int tk), (r0, 12, 4, .int qa_11)]) [2, 0] rfl), by first | omega | (refine ⟨?_, ?_, ?_, ?_⟩ <;> (first | omega | rfl | assumption | decide | exact Or.inl rfl | exact Or.inr rfl | (simp only; omega)))⟩⟩ rfl rfl hl.1 rfl (lv_room (Nat.le_of_ble_eq_true rfl)) dX10_isChain_59 ⟨Nat.zero_le _, Nat.zero_le _⟩) hh_11.1 (fun q _ h => h) (fun q h => h) (fun r_15 u_14 t_14 H_14 locs_14 ht_14 hvm_14 hr_15 hb_14 hz_14 hk_14 hS_14 => ?_)
              rw [ht_14] at hb_14
              obtain ⟨hb_141, hb_142, hb_143, hb_144, hb_145⟩ := hb_14
              have hh_14 : jSt (dC, dI) B base G0 G0 EX10_isChainB s.heap 0 0 [(r0, 12, 4, .int qa_11), (r0, 12, 10, .int qc_11), (r0, 12, 3, .int tk)] [] [] H_14 locs_14 := ((hh_11.call hb_141 hb_142 hb_143 hb_144 hS_14 rfl (L1 := [(r0, 12, 4, .int qa_11), (r0, 12, 10, .int qc_11), (r0, 12, 3, .int tk)]) [0, 1, 2] rfl rfl (M1 := []) [] rfl rfl (I1 := []) [] rfl rfl).more hb_145)
              clear hh_11 ht_14 hvm_14 hz_14 hk_14 hS_14 hb_141 hb_142 hb_143 hb_144 hb_145
              obtain ⟨ts_16, fts_16, hzts_16, htts_16, hpts_16⟩ := hG.2.2.2.2.2.1
              refine va_gets hx hb hzts_16 hh_14.1 hown (htw (.fieldLink RX10 122 "ProofServer$Syntax" "CHAIN_SIGNS" "[I") (jWr_80 _ (List.mem_of_getElem? (i := 10) rfl))) (fun _ h9 => h9) dX10_isChain_62 ?_
              refine lv_iload_n hx hb dX10_isChain_65 rfl (lv_at hl 3 rfl) ?_
              refine va_ti hx hb htts_16 hh_14.1 (jb_in (i := a1) (n := 3) (rfl) (by omega) (by omega)) rfl dX10_isChain_66 ?_
              refine lv_topi (fun z_17 ez_17 => ?_)
              have hz_17 : 0 < z_17.toInt := by rw [ez_17]; exact hpts_16 _ (jb_cl_lt (i := a1) (rfl) (by omega) (by omega))
              refine lv_icmp_eq (tgt := 72) hx hb dX10_isChain_67 (by decide) (fun c_18 => ?_) (fun c_18 => ?_)
              · skip
                have c_18' : r_15.toInt = z_17.toInt := jb_eq (rfl) (rfl) c_18
                first | (have hr_15q := hr_15.resolve_left (by omega); clear hr_15) | (have hr_15q := hr_15.resolve_right (by omega); clear hr_15) | try clear hr_15
                refine lv_aload_n hx hb dX10_isChain_72 rfl (lv_at hl 2 rfl) ?_
                refine lv_dup hx hb dX10_isChain_73 rfl ?_
                refine j7_read hx hb hown hK (C := RX10) (T := TX10) (N := 11) rfl hly_12_4 hlk_83 (hh_14.at 0 rfl) dX10_isChain_74 ?_
                refine lv_iconst (v := 1) hx hb dX10_isChain_77 (by decide) ?_
                refine lv_iadd hx hb dX10_isChain_78 ?_
                refine lv_topi (fun z_19 ez_19 => ?_)
                have hz_19 : z_19.toInt = qa_11.toInt + 1 := by rw [ez_19]; exact jb_iadd2 (rfl) ((by decide)) (by omega)
                refine j7_put hx hb hown hK hh_14 hB hAp hB12 (C := RX10) (T := TX10) (N := 11) rfl (by decide) hg_r0 (i := 4) (by decide) hly_12_4 rfl hlk_83 rfl (ty := .int) (v := .int z_19) (by decide +kernel) rfl rfl (⟨_, rfl, by omega, by omega⟩) rfl (L1 := [(r0, 12, 10, .int qc_11), (r0, 12, 3, .int tk)]) [1, 2] rfl rfl rfl dX10_isChain_79 (fun H_20 locs_20 hh_20 => ?_)
                clear hh_14
                refine lv_aload_n hx hb dX10_isChain_82 rfl (lv_at hl 2 rfl) ?_
                refine lv_iload hx hb dX10_isChain_83 (lv_at hl 1 rfl) ?_
                obtain ⟨ts_21, fts_21, hzts_21, htts_21, hpts_21⟩ := hG.2.2.2.2.2.2.1
                refine va_gets hx hb hzts_21 hh_20.1 hown (htw (.fieldLink RX10 128 "ProofServer$Syntax" "CHAIN_NODES" "[I") (jWr_80 _ (List.mem_of_getElem? (i := 11) rfl))) (fun _ h9 => h9) dX10_isChain_85 ?_
                refine lv_iload_n hx hb dX10_isChain_88 rfl (lv_at hl 3 rfl) ?_
                refine va_ti hx hb htts_21 hh_20.1 (jb_in (i := a1) (n := 3) (rfl) (by omega) (by omega)) rfl dX10_isChain_89 ?_
                refine lv_topi (fun z_22 ez_22 => ?_)
                have hz_22 : 0 < z_22.toInt := by rw [ez_22]; exact hpts_21 _ (jb_cl_lt (i := a1) (rfl) (by omega) (by omega))
                refine va_calli (A0 := jA base) (H0 := s.heap) (va_runV (As := [.int wc_1, .int z_22]) (rest := []) ⟨hx, hb, hml, hown, hts⟩ (uX10_insertNodeB l dC dI ca base B hB hAp hB12 hB280 G0 H_20 r0 wc_1 z_22 qc_11) (cwV 2 hts (jgV (jWr_80 _ (List.mem_of_getElem? (i := 15) rfl)) (jWr_80 _ (List.mem_of_getElem? (i := 16) rfl)) (jWr_80 _ (List.mem_of_getElem? (i := 17) rfl)) (jWr_4 _ (List.mem_of_getElem? (i := 14) rfl)) (jWr_80 _ (List.mem_of_getElem? (i := 18) rfl))) rfl rfl rfl (by decide +kernel) ⟨by rw [← hR]; show (0) + 1 ≤ 5 * ef + 6 + jf; omega, by rw [← hR]; show 8 + (4 + 11) + (0) ≤ 160 * ef + 230 + 30 * jf; omega⟩) ⟨fun a U g mk q => by obtain ⟨q0, q1, q2, qK, q10, q11, q12⟩ := q; exact ⟨q0, q1, q2, jG.calling g mk a qK, q10, q11, q12⟩, hh_20.recv (C := RX10) (T := TX10) (N := 11) hB12 rfl (by decide) hg_r0 hK, fun U hU hW => ⟨rfl, hU, hh_20.2.1, hG.step hW hU hh_20.1, hg_r0, (hh_20.2.2.1.sub (L1 := [(r0, 12, 10, .int qc_11)]) [1] rfl), by first | omega | (refine ⟨?_, ?_, ?_⟩ <;> (first | omega | rfl | assumption | decide | exact Or.inl rfl | exact Or.inr rfl | (simp only; omega)))⟩⟩ rfl rfl hl.1 rfl (lv_room (Nat.le_of_ble_eq_true rfl)) dX10_isChain_90 ⟨Nat.zero_le _, Nat.zero_le _⟩) hh_20.1 (fun q _ h => h) (fun q h => h) (fun r_24 u_23 t_23 H_23 locs_23 ht_23 hvm_23 hr_24 hb_23 hz_23 hk_23 hS_23 => ?_)
                obtain ⟨qc_23, rfl⟩ : ∃ z, z = u_23 := ⟨_, rfl⟩
                rw [ht_23] at hb_23
                obtain ⟨hb_231, hb_232, hb_233, hb_234, hb_235⟩ := hb_23
                have hh_23 : jSt (dC, dI) B base G0 G0 EX10_isChainB s.heap 0 0 [(r0, 12, 10, .int qc_23), (r0, 12, 4, .int z_19), (r0, 12, 3, .int tk)] [] [] H_23 locs_23 := ((hh_20.call hb_231 hb_232 hb_233 hb_234 hS_23 rfl (L1 := [(r0, 12, 4, .int z_19), (r0, 12, 3, .int tk)]) [0, 2] rfl rfl (M1 := []) [] rfl rfl (I1 := []) [] rfl rfl).more hb_235)
                clear hh_20 ht_23 hvm_23 hz_23 hk_23 hS_23 hb_231 hb_232 hb_233 hb_234 hb_235
                obtain ⟨hr_24b, hr_24p⟩ := hr_24
                obtain ⟨hr_24p_0, hr_24p_1⟩ := hr_24p
                have hr_24' := jb_01 hr_24b
                refine lv_if_ne (tgt := 98) hx hb dX10_isChain_93 (by decide) (fun c_25 => ?_) (fun c_25 => ?_)
                · skip
                  have c_25' : r_24.toInt ≠ 0 := jb_ne (rfl) ((by decide)) c_25
                  first | (have hr_24p_0q := hr_24p_0.resolve_left (by omega); clear hr_24p_0) | (have hr_24p_0q := hr_24p_0.resolve_right (by omega); clear hr_24p_0) | skip
                  obtain ⟨z_26, ez_26⟩ : ∃ y : Int32, y = v3_1 + 1 := ⟨_, rfl⟩
                  refine lv_iinc (v := z_26) (lv' := [(3, .int z_26), (5, .int r_12), (4, .int wc_1), (0, .ref r0), (1, .int a1), (2, .int a2)]) hx hb dX10_isChain_98 hl (k := 5) rfl (by rw [ez_26]; rfl) (by decide) rfl (fun ls hl => ?_)
                  have hz_26 : z_26.toInt = v3_1.toInt + 1 := by rw [ez_26]; exact jb_iadd2 (rfl) (by decide) (by omega)
                  refine lv_goto (tgt := 2) hx hb dX10_isChain_101 (by decide) ?_
                  exact L2 z_26 z_19 qc_23 _ _ (hh_23.sub (L1 := [(r0, 12, 4, .int z_19), (r0, 12, 10, .int qc_23), (r0, 12, 3, .int tk)]) [1, 0, 2] rfl (M1 := []) [] rfl (I1 := []) [] rfl) (by first | omega | (refine ⟨?_, ?_, ?_, ?_, ?_, ?_⟩ <;> (first | omega | rfl | assumption | decide | exact Or.inl rfl | exact Or.inr rfl | (simp only; omega)))) (by omega) _ (lv_sub hl [3, 4, 5, 0] rfl)
                · skip
                  have c_25' : r_24.toInt = 0 := jb_ne_n (rfl) ((by decide)) c_25
                  first | (have hr_24p_0q := hr_24p_0.resolve_left (by omega); clear hr_24p_0) | (have hr_24p_0q := hr_24p_0.resolve_right (by omega); clear hr_24p_0) | skip
                  refine lv_iconst (v := 0) hx hb dX10_isChain_96 (by decide) ?_
                  rw [hQ]
                  exact W.zret (v := 0) hx hb hr (jb_nz (Or.inl rfl)) (fun t ht hW => ⟨⟨0, (z_19, qc_23), rfl, ⟨(Or.inl rfl), by first | omega | (refine ⟨?_, ?_, ?_, ?_, ?_⟩ <;> (first | omega | rfl | assumption | decide | exact Or.inl rfl | exact Or.inr rfl | (simp only; omega)))⟩, hh_23.rt (M1 := [(r0, 12, 4, .int z_19), (r0, 12, 10, .int qc_23)]) [1, 0] rfl ht⟩, by rw [ht]; try exact hh_23.1.1, fun q h9 hq => by rw [ht]; try exact hh_23.1.2.1 q h9 hq⟩) hh_23.1.2.2 dX10_isChain_97
              · skip
                have c_18' : r_15.toInt ≠ z_17.toInt := jb_eq_n (rfl) (rfl) c_18
                try clear hr_15
                refine lv_iconst (v := 1) hx hb dX10_isChain_70 (by decide) ?_
                rw [hQ]
                exact W.zret (v := 1) hx hb hr (jb_nz (Or.inr rfl)) (fun t ht hW => ⟨⟨1, (qa_11, qc_11), rfl, ⟨(Or.inr rfl), by first | omega | (refine ⟨?_, ?_, ?_, ?_, ?_⟩ <;> (first | omega | rfl | assumption | decide | exact Or.inl rfl | exact Or.inr rfl | (simp only; omega)))⟩, hh_14.rt (M1 := [(r0, 12, 4, .int qa_11), (r0, 12, 10, .int qc_11)]) [0, 1] rfl ht⟩, by rw [ht]; try exact hh_14.1.1, fun q h9 hq => by rw [ht]; try exact hh_14.1.2.1 q h9 hq⟩) hh_14.1.2.2 dX10_isChain_71
            · skip
              have c_13' : r_12.toInt = 0 := jb_ne_n (rfl) ((by decide)) c_13
              first | (have hr_12p_4q := hr_12p_4.resolve_left (by omega); clear hr_12p_4) | (have hr_12p_4q := hr_12p_4.resolve_right (by omega); clear hr_12p_4) | skip
              refine lv_iconst (v := 0) hx hb dX10_isChain_56 (by decide) ?_
              rw [hQ]
              exact W.zret (v := 0) hx hb hr (jb_nz (Or.inl rfl)) (fun t ht hW => ⟨⟨0, (qa_11, qc_11), rfl, ⟨(Or.inl rfl), by first | omega | (refine ⟨?_, ?_, ?_, ?_, ?_⟩ <;> (first | omega | rfl | assumption | decide | exact Or.inl rfl | exact Or.inr rfl | (simp only; omega)))⟩, hh_11.rt (M1 := [(r0, 12, 4, .int qa_11), (r0, 12, 10, .int qc_11)]) [0, 1] rfl ht⟩, by rw [ht]; try exact hh_11.1.1, fun q h9 hq => by rw [ht]; try exact hh_11.1.2.1 q h9 hq⟩) hh_11.1.2.2 dX10_isChain_57
          · skip
            have c_9' : a1.toInt = z_8.toInt := jb_ne_n (rfl) (rfl) c_9
            refine lv_aload_n hx hb dX10_isChain_33 rfl (lv_at hl 1 rfl) ?_
            refine lv_iload_n hx hb dX10_isChain_34 rfl (lv_at hl 3 rfl) ?_
            refine va_calli (A0 := jA base) (H0 := s.heap) (va_runV (As := [.int a2]) (rest := []) ⟨hx, hb, hml, hown, hts⟩ (hO G0 H_1 r0 a2 tk wa_1 wc_1) (cwV 1 hts (jgV (jWr_80 _ (List.mem_of_getElem? (i := 12) rfl)) (jWr_80 _ (List.mem_of_getElem? (i := 13) rfl)) (jWr_80 _ (List.mem_of_getElem? (i := 14) rfl)) (jWr_4 _ (List.mem_of_getElem? (i := 14) rfl)) (jWr_80 _ (List.mem_of_getElem? (i := 19) rfl))) rfl rfl rfl (by decide +kernel) ⟨by rw [← hR]; show (5 * ef + 5) + 1 ≤ 5 * ef + 6 + jf; omega, by rw [← hR]; show 8 + (6 + 11) + (160 * ef + 200) ≤ 160 * ef + 230 + 30 * jf; omega⟩) ⟨fun a U g mk q => by obtain ⟨q0, q1, q2, qK, q10, q11, q12⟩ := q; exact ⟨q0, q1, q2, jG.calling g mk a qK, q10, q11, q12⟩, hh_1.recv (C := RX10) (T := TX10) (N := 11) hB12 rfl (by decide) hg_r0 hK, fun U hU hW => ⟨rfl, hU, hh_1.2.1, hG.step hW hU hh_1.1, hg_r0, (hh_1.2.2.1.sub (L1 := [(r0, 12, 3, .int tk), (r0, 12, 4, .int wa_1), (r0, 12, 10, .int wc_1)]) [2, 0, 1] rfl), by first | omega | (refine ⟨?_, ?_, ?_, ?_, ?_, ?_, ?_, ?_, ?_⟩ <;> (first | omega | rfl | assumption | decide | exact Or.inl rfl | exact Or.inr rfl | (simp only; omega)))⟩⟩ rfl rfl hl.1 rfl (lv_room (Nat.le_of_ble_eq_true rfl)) dX10_isChain_35 ⟨Nat.zero_le _, Nat.zero_le _⟩) hh_1.1 (fun q _ h => h) (fun q h => h) (fun r_28 u_27 t_27 H_27 locs_27 ht_27 hvm_27 hr_28 hb_27 hz_27 hk_27 hS_27 => ?_)
            obtain ⟨qa_27, qc_27⟩ := u_27
            rw [ht_27] at hb_27
            obtain ⟨hb_271, hb_272, hb_273, hb_274, hb_275⟩ := hb_27
            have hh_27 : jSt (dC, dI) B base G0 G0 EX10_isChainB s.heap 0 0 [(r0, 12, 4, .int qa_27), (r0, 12, 10, .int qc_27), (r0, 12, 3, .int tk)] [] [] H_27 locs_27 := ((hh_1.call hb_271 hb_272 hb_273 hb_274 hS_27 rfl (L1 := [(r0, 12, 3, .int tk)]) [2] rfl rfl (M1 := []) [] rfl rfl (I1 := []) [] rfl rfl).more hb_275)
            clear hh_1 ht_27 hvm_27 hz_27 hk_27 hS_27 hb_271 hb_272 hb_273 hb_274 hb_275
            try simp only at hr_28
            obtain ⟨hr_28b, hr_28p⟩ := hr_28
            obtain ⟨hr_28p_0, hr_28p_1, hr_28p_2, hr_28p_3, hr_28p_4⟩ := hr_28p
            have hr_28' := jb_01 hr_28b
            refine lv_goto (tgt := 49) hx hb dX10_isChain_38 (by decide) ?_
            refine lv_istore (lv' := [(5, .int r_28), (4, .int wc_1), (0, .ref r0), (1, .int a1), (2, .int a2), (3, .int v3_1)]) hx hb dX10_isChain_49 hl (by decide) rfl (fun ls hl => ?_)
            refine lv_iload hx hb dX10_isChain_51 (lv_at hl 0 rfl) ?_
            refine lv_if_ne (tgt := 58) hx hb dX10_isChain_53 (by decide) (fun c_29 => ?_) (fun c_29 => ?_)
            · skip
              have c_29' : r_28.toInt ≠ 0 := jb_ne (rfl) ((by decide)) c_29
              first | (have hr_28p_4q := hr_28p_4.resolve_left (by omega); clear hr_28p_4) | (have hr_28p_4q := hr_28p_4.resolve_right (by omega); clear hr_28p_4) | skip
              refine lv_aload_n hx hb dX10_isChain_58 rfl (lv_at hl 2 rfl) ?_
              refine va_calli (A0 := jA base) (H0 := s.heap) (va_runV (As := []) (rest := []) ⟨hx, hb, hml, hown, hts⟩ (uX10_peekB l dC dI ca base B hB hAp hB12 hB101 G0 H_27 r0 tk qa_27) (cwV 0 hts (jgV (jWr_79 _ (List.mem_of_getElem? (i := 18) rfl)) (jWr_79 _ (List.mem_of_getElem? (i := 19) rfl)) (jWr_79 _ (List.mem_of_getElem? (i := 20) rfl)) (jWr_4 _ (List.mem_of_getElem? (i := 14) rfl)) (jWr_79 _ (List.mem_of_getElem? (i := 21) rfl))) rfl rfl rfl (by decide +kernel) ⟨by rw [← hR]; show (0) + 1 ≤ 5 * ef + 6 + jf; omega, by rw [← hR]; show 8 + (1 + 11) + (0) ≤ 160 * ef + 230 + 30 * jf; omega⟩) ⟨fun a U g mk q => by obtain ⟨q0, q1, q2, qK, q10, q11, q12⟩ := q; exact ⟨q0, q1, q2, jG.calling g mk a qK, q10, q11, q12⟩, hh_27.recv (C := RX10) (T := TX10) (N := 11) hB12 rfl (by decide) hg_r0 hK, fun U hU hW => ⟨rfl, hU, hh_27.2.1, hG.step hW hU hh_27.1, hg_r0, (hh_27.2.2.1.sub (L1 := [(r0, 12, 3, .int tk), (r0, 12, 4, .int qa_27)]) [2, 0] rfl), by first | omega | (refine ⟨?_, ?_, ?_, ?_⟩ <;> (first | omega | rfl | assumption | decide | exact Or.inl rfl | exact Or.inr rfl | (simp only; omega)))⟩⟩ rfl rfl hl.1 rfl (lv_room (Nat.le_of_ble_eq_true rfl)) dX10_isChain_59 ⟨Nat.zero_le _, Nat.zero_le _⟩) hh_27.1 (fun q _ h => h) (fun q h => h) (fun r_31 u_30 t_30 H_30 locs_30 ht_30 hvm_30 hr_31 hb_30 hz_30 hk_30 hS_30 => ?_)
              rw [ht_30] at hb_30
              obtain ⟨hb_301, hb_302, hb_303, hb_304, hb_305⟩ := hb_30
              have hh_30 : jSt (dC, dI) B base G0 G0 EX10_isChainB s.heap 0 0 [(r0, 12, 4, .int qa_27), (r0, 12, 10, .int qc_27), (r0, 12, 3, .int tk)] [] [] H_30 locs_30 := ((hh_27.call hb_301 hb_302 hb_303 hb_304 hS_30 rfl (L1 := [(r0, 12, 4, .int qa_27), (r0, 12, 10, .int qc_27), (r0, 12, 3, .int tk)]) [0, 1, 2] rfl rfl (M1 := []) [] rfl rfl (I1 := []) [] rfl rfl).more hb_305)
              clear hh_27 ht_30 hvm_30 hz_30 hk_30 hS_30 hb_301 hb_302 hb_303 hb_304 hb_305
              obtain ⟨ts_32, fts_32, hzts_32, htts_32, hpts_32⟩ := hG.2.2.2.2.2.1
              refine va_gets hx hb hzts_32 hh_30.1 hown (htw (.fieldLink RX10 122 "ProofServer$Syntax" "CHAIN_SIGNS" "[I") (jWr_80 _ (List.mem_of_getElem? (i := 10) rfl))) (fun _ h9 => h9) dX10_isChain_62 ?_
              refine lv_iload_n hx hb dX10_isChain_65 rfl (lv_at hl 3 rfl) ?_
              refine va_ti hx hb htts_32 hh_30.1 (jb_in (i := a1) (n := 3) (rfl) (by omega) (by omega)) rfl dX10_isChain_66 ?_
              refine lv_topi (fun z_33 ez_33 => ?_)
              have hz_33 : 0 < z_33.toInt := by rw [ez_33]; exact hpts_32 _ (jb_cl_lt (i := a1) (rfl) (by omega) (by omega))
              refine lv_icmp_eq (tgt := 72) hx hb dX10_isChain_67 (by decide) (fun c_34 => ?_) (fun c_34 => ?_)
              · skip
                have c_34' : r_31.toInt = z_33.toInt := jb_eq (rfl) (rfl) c_34
                first | (have hr_31q := hr_31.resolve_left (by omega); clear hr_31) | (have hr_31q := hr_31.resolve_right (by omega); clear hr_31) | try clear hr_31
                refine lv_aload_n hx hb dX10_isChain_72 rfl (lv_at hl 2 rfl) ?_
                refine lv_dup hx hb dX10_isChain_73 rfl ?_
                refine j7_read hx hb hown hK (C := RX10) (T := TX10) (N := 11) rfl hly_12_4 hlk_83 (hh_30.at 0 rfl) dX10_isChain_74 ?_
                refine lv_iconst (v := 1) hx hb dX10_isChain_77 (by decide) ?_
                refine lv_iadd hx hb dX10_isChain_78 ?_
                refine lv_topi (fun z_35 ez_35 => ?_)
                have hz_35 : z_35.toInt = qa_27.toInt + 1 := by rw [ez_35]; exact jb_iadd2 (rfl) ((by decide)) (by omega)
                refine j7_put hx hb hown hK hh_30 hB hAp hB12 (C := RX10) (T := TX10) (N := 11) rfl (by decide) hg_r0 (i := 4) (by decide) hly_12_4 rfl hlk_83 rfl (ty := .int) (v := .int z_35) (by decide +kernel) rfl rfl (⟨_, rfl, by omega, by omega⟩) rfl (L1 := [(r0, 12, 10, .int qc_27), (r0, 12, 3, .int tk)]) [1, 2] rfl rfl rfl dX10_isChain_79 (fun H_36 locs_36 hh_36 => ?_)
                clear hh_30
                refine lv_aload_n hx hb dX10_isChain_82 rfl (lv_at hl 2 rfl) ?_
                refine lv_iload hx hb dX10_isChain_83 (lv_at hl 1 rfl) ?_
                obtain ⟨ts_37, fts_37, hzts_37, htts_37, hpts_37⟩ := hG.2.2.2.2.2.2.1
                refine va_gets hx hb hzts_37 hh_36.1 hown (htw (.fieldLink RX10 128 "ProofServer$Syntax" "CHAIN_NODES" "[I") (jWr_80 _ (List.mem_of_getElem? (i := 11) rfl))) (fun _ h9 => h9) dX10_isChain_85 ?_
                refine lv_iload_n hx hb dX10_isChain_88 rfl (lv_at hl 3 rfl) ?_
                refine va_ti hx hb htts_37 hh_36.1 (jb_in (i := a1) (n := 3) (rfl) (by omega) (by omega)) rfl dX10_isChain_89 ?_
                refine lv_topi (fun z_38 ez_38 => ?_)
                have hz_38 : 0 < z_38.toInt := by rw [ez_38]; exact hpts_37 _ (jb_cl_lt (i := a1) (rfl) (by omega) (by omega))
                refine va_calli (A0 := jA base) (H0 := s.heap) (va_runV (As := [.int wc_1, .int z_38]) (rest := []) ⟨hx, hb, hml, hown, hts⟩ (uX10_insertNodeB l dC dI ca base B hB hAp hB12 hB280 G0 H_36 r0 wc_1 z_38 qc_27) (cwV 2 hts (jgV (jWr_80 _ (List.mem_of_getElem? (i := 15) rfl)) (jWr_80 _ (List.mem_of_getElem? (i := 16) rfl)) (jWr_80 _ (List.mem_of_getElem? (i := 17) rfl)) (jWr_4 _ (List.mem_of_getElem? (i := 14) rfl)) (jWr_80 _ (List.mem_of_getElem? (i := 18) rfl))) rfl rfl rfl (by decide +kernel) ⟨by rw [← hR]; show (0) + 1 ≤ 5 * ef + 6 + jf; omega, by rw [← hR]; show 8 + (4 + 11) + (0) ≤ 160 * ef + 230 + 30 * jf; omega⟩) ⟨fun a U g mk q => by obtain ⟨q0, q1, q2, qK, q10, q11, q12⟩ := q; exact ⟨q0, q1, q2, jG.calling g mk a qK, q10, q11, q12⟩, hh_36.recv (C := RX10) (T := TX10) (N := 11) hB12 rfl (by decide) hg_r0 hK, fun U hU hW => ⟨rfl, hU, hh_36.2.1, hG.step hW hU hh_36.1, hg_r0, (hh_36.2.2.1.sub (L1 := [(r0, 12, 10, .int qc_27)]) [1] rfl), by first | omega | (refine ⟨?_, ?_, ?_⟩ <;> (first | omega | rfl | assumption | decide | exact Or.inl rfl | exact Or.inr rfl | (simp only; omega)))⟩⟩ rfl rfl hl.1 rfl (lv_room (Nat.le_of_ble_eq_true rfl)) dX10_isChain_90 ⟨Nat.zero_le _, Nat.zero_le _⟩) hh_36.1 (fun q _ h => h) (fun q h => h) (fun r_40 u_39 t_39 H_39 locs_39 ht_39 hvm_39 hr_40 hb_39 hz_39 hk_39 hS_39 => ?_)
                obtain ⟨qc_39, rfl⟩ : ∃ z, z = u_39 := ⟨_, rfl⟩
                rw [ht_39] at hb_39
                obtain ⟨hb_391, hb_392, hb_393, hb_394, hb_395⟩ := hb_39
                have hh_39 : jSt (dC, dI) B base G0 G0 EX10_isChainB s.heap 0 0 [(r0, 12, 10, .int qc_39), (r0, 12, 4, .int z_35), (r0, 12, 3, .int tk)] [] [] H_39 locs_39 := ((hh_36.call hb_391 hb_392 hb_393 hb_394 hS_39 rfl (L1 := [(r0, 12, 4, .int z_35), (r0, 12, 3, .int tk)]) [0, 2] rfl rfl (M1 := []) [] rfl rfl (I1 := []) [] rfl rfl).more hb_395)
                clear hh_36 ht_39 hvm_39 hz_39 hk_39 hS_39 hb_391 hb_392 hb_393 hb_394 hb_395
                obtain ⟨hr_40b, hr_40p⟩ := hr_40
                obtain ⟨hr_40p_0, hr_40p_1⟩ := hr_40p
                have hr_40' := jb_01 hr_40b
                refine lv_if_ne (tgt := 98) hx hb dX10_isChain_93 (by decide) (fun c_41 => ?_) (fun c_41 => ?_)
                · skip
                  have c_41' : r_40.toInt ≠ 0 := jb_ne (rfl) ((by decide)) c_41
                  first | (have hr_40p_0q := hr_40p_0.resolve_left (by omega); clear hr_40p_0) | (have hr_40p_0q := hr_40p_0.resolve_right (by omega); clear hr_40p_0) | skip
                  obtain ⟨z_42, ez_42⟩ : ∃ y : Int32, y = v3_1 + 1 := ⟨_, rfl⟩
                  refine lv_iinc (v := z_42) (lv' := [(3, .int z_42), (5, .int r_28), (4, .int wc_1), (0, .ref r0), (1, .int a1), (2, .int a2)]) hx hb dX10_isChain_98 hl (k := 5) rfl (by rw [ez_42]; rfl) (by decide) rfl (fun ls hl => ?_)
                  have hz_42 : z_42.toInt = v3_1.toInt + 1 := by rw [ez_42]; exact jb_iadd2 (rfl) (by decide) (by omega)
                  refine lv_goto (tgt := 2) hx hb dX10_isChain_101 (by decide) ?_
                  exact L2 z_42 z_35 qc_39 _ _ (hh_39.sub (L1 := [(r0, 12, 4, .int z_35), (r0, 12, 10, .int qc_39), (r0, 12, 3, .int tk)]) [1, 0, 2] rfl (M1 := []) [] rfl (I1 := []) [] rfl) (by first | omega | (refine ⟨?_, ?_, ?_, ?_, ?_, ?_⟩ <;> (first | omega | rfl | assumption | decide | exact Or.inl rfl | exact Or.inr rfl | (simp only; omega)))) (by omega) _ (lv_sub hl [3, 4, 5, 0] rfl)
                · skip
                  have c_41' : r_40.toInt = 0 := jb_ne_n (rfl) ((by decide)) c_41
                  first | (have hr_40p_0q := hr_40p_0.resolve_left (by omega); clear hr_40p_0) | (have hr_40p_0q := hr_40p_0.resolve_right (by omega); clear hr_40p_0) | skip
                  refine lv_iconst (v := 0) hx hb dX10_isChain_96 (by decide) ?_
                  rw [hQ]
                  exact W.zret (v := 0) hx hb hr (jb_nz (Or.inl rfl)) (fun t ht hW => ⟨⟨0, (z_35, qc_39), rfl, ⟨(Or.inl rfl), by first | omega | (refine ⟨?_, ?_, ?_, ?_, ?_⟩ <;> (first | omega | rfl | assumption | decide | exact Or.inl rfl | exact Or.inr rfl | (simp only; omega)))⟩, hh_39.rt (M1 := [(r0, 12, 4, .int z_35), (r0, 12, 10, .int qc_39)]) [1, 0] rfl ht⟩, by rw [ht]; try exact hh_39.1.1, fun q h9 hq => by rw [ht]; try exact hh_39.1.2.1 q h9 hq⟩) hh_39.1.2.2 dX10_isChain_97
              · skip
                have c_34' : r_31.toInt ≠ z_33.toInt := jb_eq_n (rfl) (rfl) c_34
                try clear hr_31
                refine lv_iconst (v := 1) hx hb dX10_isChain_70 (by decide) ?_
                rw [hQ]
                exact W.zret (v := 1) hx hb hr (jb_nz (Or.inr rfl)) (fun t ht hW => ⟨⟨1, (qa_27, qc_27), rfl, ⟨(Or.inr rfl), by first | omega | (refine ⟨?_, ?_, ?_, ?_, ?_⟩ <;> (first | omega | rfl | assumption | decide | exact Or.inl rfl | exact Or.inr rfl | (simp only; omega)))⟩, hh_30.rt (M1 := [(r0, 12, 4, .int qa_27), (r0, 12, 10, .int qc_27)]) [0, 1] rfl ht⟩, by rw [ht]; try exact hh_30.1.1, fun q h9 hq => by rw [ht]; try exact hh_30.1.2.1 q h9 hq⟩) hh_30.1.2.2 dX10_isChain_71
            · skip
              have c_29' : r_28.toInt = 0 := jb_ne_n (rfl) ((by decide)) c_29
              first | (have hr_28p_4q := hr_28p_4.resolve_left (by omega); clear hr_28p_4) | (have hr_28p_4q := hr_28p_4.resolve_right (by omega); clear hr_28p_4) | skip
              refine lv_iconst (v := 0) hx hb dX10_isChain_56 (by decide) ?_
              rw [hQ]
              exact W.zret (v := 0) hx hb hr (jb_nz (Or.inl rfl)) (fun t ht hW => ⟨⟨0, (qa_27, qc_27), rfl, ⟨(Or.inl rfl), by first | omega | (refine ⟨?_, ?_, ?_, ?_, ?_⟩ <;> (first | omega | rfl | assumption | decide | exact Or.inl rfl | exact Or.inr rfl | (simp only; omega)))⟩, hh_27.rt (M1 := [(r0, 12, 4, .int qa_27), (r0, 12, 10, .int qc_27)]) [0, 1] rfl ht⟩, by rw [ht]; try exact hh_27.1.1, fun q h9 hq => by rw [ht]; try exact hh_27.1.2.1 q h9 hq⟩) hh_27.1.2.2 dX10_isChain_57
  exact L2 (1500 - (0 : Int32).toInt : Int).toNat.succ 0 pa nc _ _ (hh.sub (L1 := [(r0, 12, 4, .int pa), (r0, 12, 10, .int nc), (r0, 12, 3, .int tk)]) [1, 2, 0] rfl (M1 := []) [] rfl (I1 := []) [] rfl) (by first | omega | (refine ⟨?_, ?_, ?_, ?_, ?_, ?_⟩ <;> (first | omega | rfl | assumption | decide | exact Or.inl rfl | exact Or.inr rfl | (simp only; omega)))) (by omega) _ (lv_sub hl [1, 2, 3, 0] rfl)
theorem aX10_isOneChainB (l : Launch) (dC : Nat → ClassId) (dI : Nat → Nat → Nat) (ca : Nat → ClassId) (base : Nat) (B : jF) (hB : jBok B) (hAp : jAp (dC, dI)) (hB12 : ∀ n G a H, B 12 n G a H ↔ jOb (dC, dI) 12 11 (F12b n G) a H) (hB101 : ∀ n G a H, B 101 n G a H ↔ jAr (dC, dI) (ca 1) (fun j z => True) n a H) (hB280 : ∀ n G a H, B 280 n G a H ↔ jAr (dC, dI) (ca 1) (fun j z => -1 ≤ z.toInt) n a H) (hB293 : ∀ n G a H, B 293 n G a H ↔ jAr (dC, dI) (ca 1) (fun j z => -1 ≤ z.toInt ∧ z.toInt ≤ 8191) n a H) : ∀ ef, qX10_isOneB l dC dI ca base B ef ∧ ∀ jf, qX10_isChainB l dC dI ca base B ef jf := fun ef => Nat.strongRecOn ef (fun e ih => by
  have hO : qX10_isOneB l dC dI ca base B e := fun G0 H0 r0 a1 tk pa nc => uX10_isOneB l dC dI ca base B hB hAp hB12 hB101 hB280 hB293 e (fun e1 h => (ih e1 h).1) (fun e1 h => (ih e1 h).2 2) G0 H0 r0 a1 tk pa nc
  refine ⟨hO, fun jf => Nat.strongRecOn jf (fun j ihj => fun G0 H0 r0 a1 a2 tk pa nc => uX10_isChainB l dC dI ca base B hB hAp hB12 hB101 hB280 hB293 e j hO ihj G0 H0 r0 a1 a2 tk pa nc)⟩)
end
section
theorem dX5_check_0 : decode cX5_check 0 = .ok (.new 27, 3) := by decide +kernel
theorem dX5_check_3 : decode cX5_check 3 = .ok (.dup, 1) := by decide +kernel
theorem dX5_check_4 : decode cX5_check 4 = .ok (.aload_n 1, 1) := by decide +kernel
theorem dX5_check_5 : decode cX5_check 5 = .ok (.aload_n 2, 1) := by decide +kernel
theorem dX5_check_6 : decode cX5_check 6 = .ok (.invokespecial 59, 3) := by decide +kernel
theorem dX5_check_9 : decode cX5_check 9 = .ok (.astore 4, 2) := by decide +kernel
theorem dX5_check_11 : decode cX5_check 11 = .ok (.aload 4, 2) := by decide +kernel
theorem dX5_check_13 : decode cX5_check 13 = .ok (.iload_n 3, 1) := by decide +kernel
theorem dX5_check_14 : decode cX5_check 14 = .ok (.putfield 62, 3) := by decide +kernel
theorem dX5_check_17 : decode cX5_check 17 = .ok (.iload_n 3, 1) := by decide +kernel
theorem dX5_check_18 : decode cX5_check 18 = .ok (.ifCond .le 6, 3) := by decide +kernel
theorem dX5_check_21 : decode cX5_check 21 = .ok (.aload 4, 2) := by decide +kernel
theorem dX5_check_23 : decode cX5_check 23 = .ok (.areturn, 1) := by decide +kernel
theorem dX5_check_24 : decode cX5_check 24 = .ok (.aload_n 0, 1) := by decide +kernel
theorem dX5_check_25 : decode cX5_check 25 = .ok (.getfield 23, 3) := by decide +kernel
theorem dX5_check_28 : decode cX5_check 28 = .ok (.aload_n 2, 1) := by decide +kernel
theorem dX5_check_29 : decode cX5_check 29 = .ok (.iconst 0, 1) := by decide +kernel
theorem dX5_check_30 : decode cX5_check 30 = .ok (.aload_n 2, 1) := by decide +kernel
theorem dX5_check_31 : decode cX5_check 31 = .ok (.arraylength, 1) := by decide +kernel
theorem dX5_check_32 : decode cX5_check 32 = .ok (.invokevirtual 66, 3) := by decide +kernel
theorem dX5_check_35 : decode cX5_check 35 = .ok (.pop, 1) := by decide +kernel
theorem dX5_check_36 : decode cX5_check 36 = .ok (.aload_n 0, 1) := by decide +kernel
theorem dX5_check_37 : decode cX5_check 37 = .ok (.getfield 23, 3) := by decide +kernel
theorem dX5_check_40 : decode cX5_check 40 = .ok (.invokevirtual 70, 3) := by decide +kernel
theorem dX5_check_43 : decode cX5_check 43 = .ok (.istore 5, 2) := by decide +kernel
theorem dX5_check_45 : decode cX5_check 45 = .ok (.aload_n 0, 1) := by decide +kernel
theorem dX5_check_46 : decode cX5_check 46 = .ok (.getfield 23, 3) := by decide +kernel
theorem dX5_check_49 : decode cX5_check 49 = .ok (.getfield 74, 3) := by decide +kernel
theorem dX5_check_52 : decode cX5_check 52 = .ok (.bipush 6, 2) := by decide +kernel
theorem dX5_check_54 : decode cX5_check 54 = .ok (.if_icmp .le 7, 3) := by decide +kernel
theorem dX5_check_57 : decode cX5_check 57 = .ok (.iconst 1, 1) := by decide +kernel
theorem dX5_check_58 : decode cX5_check 58 = .ok (.goto 4, 3) := by decide +kernel
theorem dX5_check_61 : decode cX5_check 61 = .ok (.iconst 0, 1) := by decide +kernel
theorem dX5_check_62 : decode cX5_check 62 = .ok (.istore 6, 2) := by decide +kernel
theorem dX5_check_64 : decode cX5_check 64 = .ok (.aload 4, 2) := by decide +kernel
theorem dX5_check_66 : decode cX5_check 66 = .ok (.getfield 77, 3) := by decide +kernel
theorem dX5_check_69 : decode cX5_check 69 = .ok (.ifCond .lt 7, 3) := by decide +kernel
theorem dX5_check_72 : decode cX5_check 72 = .ok (.iconst 1, 1) := by decide +kernel
theorem dX5_check_73 : decode cX5_check 73 = .ok (.goto 4, 3) := by decide +kernel
theorem dX5_check_76 : decode cX5_check 76 = .ok (.iconst 0, 1) := by decide +kernel
theorem dX5_check_77 : decode cX5_check 77 = .ok (.istore 7, 2) := by decide +kernel
theorem dX5_check_79 : decode cX5_check 79 = .ok (.iload 5, 2) := by decide +kernel
theorem dX5_check_81 : decode cX5_check 81 = .ok (.ifCond .ne 12, 3) := by decide +kernel
theorem dX5_check_84 : decode cX5_check 84 = .ok (.aload 4, 2) := by decide +kernel
theorem dX5_check_86 : decode cX5_check 86 = .ok (.iconst 3, 1) := by decide +kernel
theorem dX5_check_87 : decode cX5_check 87 = .ok (.putfield 62, 3) := by decide +kernel
theorem dX5_check_90 : decode cX5_check 90 = .ok (.goto 107, 3) := by decide +kernel
theorem dX5_check_93 : decode cX5_check 93 = .ok (.iload 6, 2) := by decide +kernel
theorem dX5_check_95 : decode cX5_check 95 = .ok (.iload 7, 2) := by decide +kernel
theorem dX5_check_97 : decode cX5_check 97 = .ok (.if_icmp .eq 12, 3) := by decide +kernel
theorem dX5_check_100 : decode cX5_check 100 = .ok (.aload 4, 2) := by decide +kernel
theorem dX5_check_102 : decode cX5_check 102 = .ok (.iconst 4, 1) := by decide +kernel
theorem dX5_check_103 : decode cX5_check 103 = .ok (.putfield 62, 3) := by decide +kernel
theorem dX5_check_106 : decode cX5_check 106 = .ok (.goto 91, 3) := by decide +kernel
theorem dX5_check_109 : decode cX5_check 109 = .ok (.aload_n 0, 1) := by decide +kernel
theorem dX5_check_110 : decode cX5_check 110 = .ok (.getfield 23, 3) := by decide +kernel
theorem dX5_check_113 : decode cX5_check 113 = .ok (.getfield 74, 3) := by decide +kernel
theorem dX5_check_116 : decode cX5_check 116 = .ok (.iconst 4, 1) := by decide +kernel
theorem dX5_check_117 : decode cX5_check 117 = .ok (.if_icmp .gt 17, 3) := by decide +kernel
theorem dX5_check_120 : decode cX5_check 120 = .ok (.aload 4, 2) := by decide +kernel
theorem dX5_check_122 : decode cX5_check 122 = .ok (.aload_n 0, 1) := by decide +kernel
theorem dX5_check_123 : decode cX5_check 123 = .ok (.aload 4, 2) := by decide +kernel
theorem dX5_check_125 : decode cX5_check 125 = .ok (.invokevirtual 80, 3) := by decide +kernel
theorem dX5_check_128 : decode cX5_check 128 = .ok (.putfield 62, 3) := by decide +kernel
theorem dX5_check_131 : decode cX5_check 131 = .ok (.goto 66, 3) := by decide +kernel
theorem dX5_check_134 : decode cX5_check 134 = .ok (.aload_n 0, 1) := by decide +kernel
theorem dX5_check_135 : decode cX5_check 135 = .ok (.getfield 23, 3) := by decide +kernel
theorem dX5_check_138 : decode cX5_check 138 = .ok (.getfield 74, 3) := by decide +kernel
theorem dX5_check_141 : decode cX5_check 141 = .ok (.bipush 6, 2) := by decide +kernel
theorem dX5_check_143 : decode cX5_check 143 = .ok (.if_icmp .gt 17, 3) := by decide +kernel
theorem dX5_check_146 : decode cX5_check 146 = .ok (.aload 4, 2) := by decide +kernel
theorem dX5_check_148 : decode cX5_check 148 = .ok (.aload_n 0, 1) := by decide +kernel
theorem dX5_check_149 : decode cX5_check 149 = .ok (.aload 4, 2) := by decide +kernel
theorem dX5_check_151 : decode cX5_check 151 = .ok (.invokevirtual 84, 3) := by decide +kernel
theorem dX5_check_154 : decode cX5_check 154 = .ok (.putfield 62, 3) := by decide +kernel
theorem dX5_check_157 : decode cX5_check 157 = .ok (.goto 40, 3) := by decide +kernel
theorem dX5_check_160 : decode cX5_check 160 = .ok (.aload_n 0, 1) := by decide +kernel
theorem dX5_check_161 : decode cX5_check 161 = .ok (.getfield 23, 3) := by decide +kernel
theorem dX5_check_164 : decode cX5_check 164 = .ok (.getfield 74, 3) := by decide +kernel
theorem dX5_check_167 : decode cX5_check 167 = .ok (.bipush 8, 2) := by decide +kernel
theorem dX5_check_169 : decode cX5_check 169 = .ok (.if_icmp .gt 17, 3) := by decide +kernel
theorem dX5_check_172 : decode cX5_check 172 = .ok (.aload 4, 2) := by decide +kernel
theorem dX5_check_174 : decode cX5_check 174 = .ok (.aload_n 0, 1) := by decide +kernel
theorem dX5_check_175 : decode cX5_check 175 = .ok (.aload 4, 2) := by decide +kernel
theorem dX5_check_177 : decode cX5_check 177 = .ok (.invokevirtual 87, 3) := by decide +kernel
theorem dX5_check_180 : decode cX5_check 180 = .ok (.putfield 62, 3) := by decide +kernel
theorem dX5_check_183 : decode cX5_check 183 = .ok (.goto 14, 3) := by decide +kernel
theorem dX5_check_186 : decode cX5_check 186 = .ok (.aload 4, 2) := by decide +kernel
theorem dX5_check_188 : decode cX5_check 188 = .ok (.aload_n 0, 1) := by decide +kernel
theorem dX5_check_189 : decode cX5_check 189 = .ok (.aload 4, 2) := by decide +kernel
theorem dX5_check_191 : decode cX5_check 191 = .ok (.invokevirtual 90, 3) := by decide +kernel
theorem dX5_check_194 : decode cX5_check 194 = .ok (.putfield 62, 3) := by decide +kernel
theorem dX5_check_197 : decode cX5_check 197 = .ok (.aload 4, 2) := by decide +kernel
theorem dX5_check_199 : decode cX5_check 199 = .ok (.areturn, 1) := by decide +kernel
end
