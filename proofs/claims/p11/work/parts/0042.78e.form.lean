section
theorem dX13_replaced_0 : decode cX13_replaced 0 = .ok (.aload_n 0, 1) := by decide +kernel
theorem dX13_replaced_1 : decode cX13_replaced 1 = .ok (.iload_n 1, 1) := by decide +kernel
theorem dX13_replaced_2 : decode cX13_replaced 2 = .ok (.iload_n 2, 1) := by decide +kernel
theorem dX13_replaced_3 : decode cX13_replaced 3 = .ok (.invokevirtual 262, 3) := by decide +kernel
theorem dX13_replaced_6 : decode cX13_replaced 6 = .ok (.ifCond .eq 5, 3) := by decide +kernel
theorem dX13_replaced_9 : decode cX13_replaced 9 = .ok (.iload_n 3, 1) := by decide +kernel
theorem dX13_replaced_10 : decode cX13_replaced 10 = .ok (.ireturn, 1) := by decide +kernel
theorem dX13_replaced_11 : decode cX13_replaced 11 = .ok (.aload_n 0, 1) := by decide +kernel
theorem dX13_replaced_12 : decode cX13_replaced 12 = .ok (.iload_n 1, 1) := by decide +kernel
theorem dX13_replaced_13 : decode cX13_replaced 13 = .ok (.invokevirtual 252, 3) := by decide +kernel
theorem dX13_replaced_16 : decode cX13_replaced 16 = .ok (.istore 4, 2) := by decide +kernel
theorem dX13_replaced_18 : decode cX13_replaced 18 = .ok (.iload 4, 2) := by decide +kernel
theorem dX13_replaced_20 : decode cX13_replaced 20 = .ok (.ifCond .ne 5, 3) := by decide +kernel
theorem dX13_replaced_23 : decode cX13_replaced 23 = .ok (.iload_n 1, 1) := by decide +kernel
theorem dX13_replaced_24 : decode cX13_replaced 24 = .ok (.ireturn, 1) := by decide +kernel
theorem dX13_replaced_25 : decode cX13_replaced 25 = .ok (.aload_n 0, 1) := by decide +kernel
theorem dX13_replaced_26 : decode cX13_replaced 26 = .ok (.aload_n 0, 1) := by decide +kernel
theorem dX13_replaced_27 : decode cX13_replaced 27 = .ok (.getfield 19, 3) := by decide +kernel
theorem dX13_replaced_30 : decode cX13_replaced 30 = .ok (.iload_n 1, 1) := by decide +kernel
theorem dX13_replaced_31 : decode cX13_replaced 31 = .ok (.iaload, 1) := by decide +kernel
theorem dX13_replaced_32 : decode cX13_replaced 32 = .ok (.iload_n 2, 1) := by decide +kernel
theorem dX13_replaced_33 : decode cX13_replaced 33 = .ok (.iload_n 3, 1) := by decide +kernel
theorem dX13_replaced_34 : decode cX13_replaced 34 = .ok (.invokevirtual 283, 3) := by decide +kernel
theorem dX13_replaced_37 : decode cX13_replaced 37 = .ok (.istore 5, 2) := by decide +kernel
theorem dX13_replaced_39 : decode cX13_replaced 39 = .ok (.iload 4, 2) := by decide +kernel
theorem dX13_replaced_41 : decode cX13_replaced 41 = .ok (.iconst 1, 1) := by decide +kernel
theorem dX13_replaced_42 : decode cX13_replaced 42 = .ok (.if_icmp .le 18, 3) := by decide +kernel
theorem dX13_replaced_45 : decode cX13_replaced 45 = .ok (.aload_n 0, 1) := by decide +kernel
theorem dX13_replaced_46 : decode cX13_replaced 46 = .ok (.aload_n 0, 1) := by decide +kernel
theorem dX13_replaced_47 : decode cX13_replaced 47 = .ok (.getfield 22, 3) := by decide +kernel
theorem dX13_replaced_50 : decode cX13_replaced 50 = .ok (.iload_n 1, 1) := by decide +kernel
theorem dX13_replaced_51 : decode cX13_replaced 51 = .ok (.iaload, 1) := by decide +kernel
theorem dX13_replaced_52 : decode cX13_replaced 52 = .ok (.iload_n 2, 1) := by decide +kernel
theorem dX13_replaced_53 : decode cX13_replaced 53 = .ok (.iload_n 3, 1) := by decide +kernel
theorem dX13_replaced_54 : decode cX13_replaced 54 = .ok (.invokevirtual 283, 3) := by decide +kernel
theorem dX13_replaced_57 : decode cX13_replaced 57 = .ok (.goto 4, 3) := by decide +kernel
theorem dX13_replaced_60 : decode cX13_replaced 60 = .ok (.iconst 0, 1) := by decide +kernel
theorem dX13_replaced_61 : decode cX13_replaced 61 = .ok (.istore 6, 2) := by decide +kernel
theorem dX13_replaced_63 : decode cX13_replaced 63 = .ok (.aload_n 0, 1) := by decide +kernel
theorem dX13_replaced_64 : decode cX13_replaced 64 = .ok (.aload_n 0, 1) := by decide +kernel
theorem dX13_replaced_65 : decode cX13_replaced 65 = .ok (.getfield 12, 3) := by decide +kernel
theorem dX13_replaced_68 : decode cX13_replaced 68 = .ok (.iload_n 1, 1) := by decide +kernel
theorem dX13_replaced_69 : decode cX13_replaced 69 = .ok (.iaload, 1) := by decide +kernel
theorem dX13_replaced_70 : decode cX13_replaced 70 = .ok (.aload_n 0, 1) := by decide +kernel
theorem dX13_replaced_71 : decode cX13_replaced 71 = .ok (.getfield 16, 3) := by decide +kernel
theorem dX13_replaced_74 : decode cX13_replaced 74 = .ok (.iload_n 1, 1) := by decide +kernel
theorem dX13_replaced_75 : decode cX13_replaced 75 = .ok (.iaload, 1) := by decide +kernel
theorem dX13_replaced_76 : decode cX13_replaced 76 = .ok (.iload 5, 2) := by decide +kernel
theorem dX13_replaced_78 : decode cX13_replaced 78 = .ok (.iload 6, 2) := by decide +kernel
theorem dX13_replaced_80 : decode cX13_replaced 80 = .ok (.iload 4, 2) := by decide +kernel
theorem dX13_replaced_82 : decode cX13_replaced 82 = .ok (.iconst 2, 1) := by decide +kernel
theorem dX13_replaced_83 : decode cX13_replaced 83 = .ok (.if_icmp .le 18, 3) := by decide +kernel
theorem dX13_replaced_86 : decode cX13_replaced 86 = .ok (.aload_n 0, 1) := by decide +kernel
theorem dX13_replaced_87 : decode cX13_replaced 87 = .ok (.aload_n 0, 1) := by decide +kernel
theorem dX13_replaced_88 : decode cX13_replaced 88 = .ok (.getfield 25, 3) := by decide +kernel
theorem dX13_replaced_91 : decode cX13_replaced 91 = .ok (.iload_n 1, 1) := by decide +kernel
theorem dX13_replaced_92 : decode cX13_replaced 92 = .ok (.iaload, 1) := by decide +kernel
theorem dX13_replaced_93 : decode cX13_replaced 93 = .ok (.iload_n 2, 1) := by decide +kernel
theorem dX13_replaced_94 : decode cX13_replaced 94 = .ok (.iload_n 3, 1) := by decide +kernel
theorem dX13_replaced_95 : decode cX13_replaced 95 = .ok (.invokevirtual 283, 3) := by decide +kernel
theorem dX13_replaced_98 : decode cX13_replaced 98 = .ok (.goto 4, 3) := by decide +kernel
theorem dX13_replaced_101 : decode cX13_replaced 101 = .ok (.iconst 0, 1) := by decide +kernel
theorem dX13_replaced_102 : decode cX13_replaced 102 = .ok (.invokevirtual 197, 3) := by decide +kernel
theorem dX13_replaced_105 : decode cX13_replaced 105 = .ok (.ireturn, 1) := by decide +kernel
def EX13_replaced : List (Nat × Nat) := [(15, 5), (150, 0), (151, 0), (152, 0), (153, 0), (154, 0)]
def qX13_replaced (l : Launch) (dC : Nat → ClassId) (dI : Nat → Nat → Nat) (ca : Nat → ClassId) (base : Nat) (B : jF) (d : Nat) : Prop := ∀ (G0 : jT) (H0 : Heap) (r0 : Nat) (a1 : Int32) (a2 : Int32) (a3 : Int32) (pn : Int32) (py : Int32) (zs : Nat) (zn : Nat) (za : Nat) (zb : Nat) (zc : Nat) (zy : Nat) (gb : Int) (C : jK), Met l yX13_replaced (jw yX13_replaced cX13_replaced 7 (some .int)) ({ frames := d + 90, cells := 0, slots := 0, locals := 60 * d + 6000 }) (va_Pc [.ref r0, .int a1, .int a2, .int a3] (fun U => U.heap = H0 ∧ jX B base G0 [] H0 ∧ jG dC dI ca base U ∧ G0 r0 = some (15, 0) ∧ G0 zs = some (150, 120000) ∧ G0 zn = some (151, 120000) ∧ G0 za = some (152, 120000) ∧ G0 zb = some (153, 120000) ∧ G0 zc = some (154, 120000) ∧ G0 zy = some (165, 16) ∧ jP (dC, dI) G0 H0 [(r0, 15, 5, .int pn), (r0, 15, 11, .int py), (r0, 15, 0, .ref zs), (r0, 15, 1, .ref zn), (r0, 15, 2, .ref za), (r0, 15, 3, .ref zb), (r0, 15, 4, .ref zc), (r0, 15, 14, .ref zy)] ∧ jMc (dC, dI) G0 H0 [(zs, 150, 120000, ca 1, C.s), (zn, 151, 120000, ca 1, C.n), (za, 152, 120000, ca 1, C.a), (zb, 153, 120000, ca 1, C.b), (zc, 154, 120000, ca 1, C.c), (zy, 165, 16, ca 1, C.y)] ∧ jFm C pn.toInt py.toInt d gb a1.toInt ∧ jFm C pn.toInt py.toInt 80 0 a2.toInt ∧ jFm C pn.toInt py.toInt 80 0 a3.toInt ∧ d ≤ 80 ∧ 0 ≤ gb ∧ 0 ≤ pn.toInt ∧ pn.toInt + jsz C a1.toInt ≤ 119999 ∧ 0 ≤ py.toInt ∧ py.toInt ≤ 16)) (va_Qi (S := Int32 × jK) (fun r u => (pn.toInt ≤ u.1.toInt ∧ u.1.toInt ≤ pn.toInt + jsz C a1.toInt ∧ jAgK C u.2 pn.toInt ∧ jFm u.2 u.1.toInt py.toInt (d + 80) gb r.toInt ∧ jsz u.2 r.toInt = jsz C a1.toInt + jCd C a2.toInt a3.toInt a1.toInt)) (fun u t => jRt (dC, dI) B base G0 EX13_replaced H0 [(r0, 15, 5, .int u.1)] t.heap ∧ jMc (dC, dI) G0 t.heap [(zs, 150, 120000, ca 1, u.2.s), (zn, 151, 120000, ca 1, u.2.n), (za, 152, 120000, ca 1, u.2.a), (zb, 153, 120000, ca 1, u.2.b), (zc, 154, 120000, ca 1, u.2.c), (zy, 165, 16, ca 1, u.2.y)]) (jA base)) 0 0 (jA base)
set_option maxHeartbeats 4000000 in
set_option maxRecDepth 20000 in
theorem uX13_replaced (l : Launch) (dC : Nat → ClassId) (dI : Nat → Nat → Nat) (ca : Nat → ClassId) (base : Nat) (B : jF) (hB : jBok B) (hAp : jAp (dC, dI)) (hB15 : ∀ n G a H, B 15 n G a H ↔ jOb (dC, dI) 15 50 (F15 n G) a H) (hB150 : ∀ n G a H, B 150 n G a H ↔ jAr (dC, dI) (ca 1) (fun j z => True) n a H) (hB151 : ∀ n G a H, B 151 n G a H ↔ jAr (dC, dI) (ca 1) (fun j z => True) n a H) (hB152 : ∀ n G a H, B 152 n G a H ↔ jAr (dC, dI) (ca 1) (fun j z => True) n a H) (hB153 : ∀ n G a H, B 153 n G a H ↔ jAr (dC, dI) (ca 1) (fun j z => True) n a H) (hB154 : ∀ n G a H, B 154 n G a H ↔ jAr (dC, dI) (ca 1) (fun j z => True) n a H) (hB165 : ∀ n G a H, B 165 n G a H ↔ jAr (dC, dI) (ca 1) (fun j z => 0 ≤ z.toInt ∧ z.toInt ≤ 3) n a H) (d : Nat) (ih : ∀ d1, d1 < d → qX13_replaced l dC dI ca base B d1) (G0 : jT) (H0 : Heap) (r0 : Nat) (a1 : Int32) (a2 : Int32) (a3 : Int32) (pn : Int32) (py : Int32) (zs : Nat) (zn : Nat) (za : Nat) (zb : Nat) (zc : Nat) (zy : Nat) (gb : Int) (C : jK) : Met l yX13_replaced (jw yX13_replaced cX13_replaced 7 (some .int)) ({ frames := d + 90, cells := 0, slots := 0, locals := 60 * d + 6000 }) (va_Pc [.ref r0, .int a1, .int a2, .int a3] (fun U => U.heap = H0 ∧ jX B base G0 [] H0 ∧ jG dC dI ca base U ∧ G0 r0 = some (15, 0) ∧ G0 zs = some (150, 120000) ∧ G0 zn = some (151, 120000) ∧ G0 za = some (152, 120000) ∧ G0 zb = some (153, 120000) ∧ G0 zc = some (154, 120000) ∧ G0 zy = some (165, 16) ∧ jP (dC, dI) G0 H0 [(r0, 15, 5, .int pn), (r0, 15, 11, .int py), (r0, 15, 0, .ref zs), (r0, 15, 1, .ref zn), (r0, 15, 2, .ref za), (r0, 15, 3, .ref zb), (r0, 15, 4, .ref zc), (r0, 15, 14, .ref zy)] ∧ jMc (dC, dI) G0 H0 [(zs, 150, 120000, ca 1, C.s), (zn, 151, 120000, ca 1, C.n), (za, 152, 120000, ca 1, C.a), (zb, 153, 120000, ca 1, C.b), (zc, 154, 120000, ca 1, C.c), (zy, 165, 16, ca 1, C.y)] ∧ jFm C pn.toInt py.toInt d gb a1.toInt ∧ jFm C pn.toInt py.toInt 80 0 a2.toInt ∧ jFm C pn.toInt py.toInt 80 0 a3.toInt ∧ d ≤ 80 ∧ 0 ≤ gb ∧ 0 ≤ pn.toInt ∧ pn.toInt + jsz C a1.toInt ≤ 119999 ∧ 0 ≤ py.toInt ∧ py.toInt ≤ 16)) (va_Qi (S := Int32 × jK) (fun r u => (pn.toInt ≤ u.1.toInt ∧ u.1.toInt ≤ pn.toInt + jsz C a1.toInt ∧ jAgK C u.2 pn.toInt ∧ jFm u.2 u.1.toInt py.toInt (d + 80) gb r.toInt ∧ jsz u.2 r.toInt = jsz C a1.toInt + jCd C a2.toInt a3.toInt a1.toInt)) (fun u t => jRt (dC, dI) B base G0 EX13_replaced H0 [(r0, 15, 5, .int u.1)] t.heap ∧ jMc (dC, dI) G0 t.heap [(zs, 150, 120000, ca 1, u.2.s), (zn, 151, 120000, ca 1, u.2.n), (za, 152, 120000, ca 1, u.2.a), (zb, 153, 120000, ca 1, u.2.b), (zc, 154, 120000, ca 1, u.2.c), (zy, 165, 16, ca 1, u.2.y)]) (jA base)) 0 0 (jA base) := by
  refine Met.ofW (cc := cX13_replaced) (maxL := 7) (ret := (some .int)) (by decide) rfl ?_
  intro p e s m args below meth c s₁ Bd hml hv
  obtain ⟨rfl, hH0, hX, hG, hg_r0, hg_zs, hg_zn, hg_za, hg_zb, hg_zc, hg_zy, hP0, hM0, hp0, hp1, hp2, hp3, hp4, hp5, hp6, hp7, hp8⟩ := hv
  have hK := hG.1
  have hx := Bd.exec
  have hb := Bd.bytes
  have hr := Bd.returns
  have hts := atoms_spec (ws := (jw yX13_replaced cX13_replaced 7 (some .int))) Bd.pre
  have htw : ∀ w ∈ jWl, w.before _ s = true := fun w h => hts w (List.mem_cons_of_mem _ h)
  have hown : s.vm.findClass RX13 = some m.cls := findClass_of_methodNamed Bd.named
  have hlocks := Bd.notSynchronized
  obtain ⟨Q, hQ⟩ : ∃ Q, Q = MQ below (va_Qi (S := Int32 × jK) (fun r u => (pn.toInt ≤ u.1.toInt ∧ u.1.toInt ≤ pn.toInt + jsz C a1.toInt ∧ jAgK C u.2 pn.toInt ∧ jFm u.2 u.1.toInt py.toInt (d + 80) gb r.toInt ∧ jsz u.2 r.toInt = jsz C a1.toInt + jCd C a2.toInt a3.toInt a1.toInt)) (fun u t => jRt (dC, dI) B base G0 EX13_replaced H0 [(r0, 15, 5, .int u.1)] t.heap ∧ jMc (dC, dI) G0 t.heap [(zs, 150, 120000, ca 1, u.2.s), (zn, 151, 120000, ca 1, u.2.n), (za, 152, 120000, ca 1, u.2.a), (zb, 153, 120000, ca 1, u.2.b), (zc, 154, 120000, ca 1, u.2.c), (zy, 165, 16, ca 1, u.2.y)]) (jA base)) ([.ref r0, .int a1, .int a2, .int a3] : List Value).toArray s 0 0 (jA base) := ⟨_, rfl⟩
  rw [← hQ]
  have hl := lv_entry ([.ref r0, .int a1, .int a2, .int a3]) (n := 7) (Nat.le_of_ble_eq_true rfl)
  rw [lg_entry_eq]
  generalize (lg_sl ([.ref r0, .int a1, .int a2, .int a3]) ++ List.replicate (7 - (lg_sl ([.ref r0, .int a1, .int a2, .int a3])).length) Slot.unset).toArray = ls at hl ⊢
  have hl : lv_has ls 7 [(0, .ref r0), (1, .int a1), (2, .int a2), (3, .int a3)] := hl
  generalize hR : (headSpec (jw yX13_replaced cX13_replaced 7 (some .int)) ({ frames := d + 90, cells := 0, slots := 0, locals := 60 * d + 6000 })).room = R
  subst hH0
  have hh : jSt (dC, dI) B base G0 G0 EX13_replaced s.heap 0 0 [(r0, 15, 5, .int pn), (r0, 15, 11, .int py), (r0, 15, 0, .ref zs), (r0, 15, 1, .ref zn), (r0, 15, 2, .ref za), (r0, 15, 3, .ref zb), (r0, 15, 4, .ref zc), (r0, 15, 14, .ref zy)] [(zs, 150, 120000, ca 1, C.s), (zn, 151, 120000, ca 1, C.n), (za, 152, 120000, ca 1, C.a), (zb, 153, 120000, ca 1, C.b), (zc, 154, 120000, ca 1, C.c), (zy, 165, 16, ca 1, C.y)] [] s.heap [] := jSt.start hX hP0 hM0 jIs.nil
  clear hX hP0
  have hk0 : (0 : Int32).toInt = 0 := by decide
  have hk1 : (1 : Int32).toInt = 1 := by decide
  have hk2 : (2 : Int32).toInt = 2 := by decide
  have hly_15_0 := htw (u_lay RX13 TX13 0) (jWc_wsX130 _ (u_in_lay (by decide)))
  have hly_15_1 := htw (u_lay RX13 TX13 1) (jWc_wsX130 _ (u_in_lay (by decide)))
  have hly_15_2 := htw (u_lay RX13 TX13 2) (jWc_wsX130 _ (u_in_lay (by decide)))
  have hly_15_3 := htw (u_lay RX13 TX13 3) (jWc_wsX130 _ (u_in_lay (by decide)))
  have hly_15_4 := htw (u_lay RX13 TX13 4) (jWc_wsX130 _ (u_in_lay (by decide)))
  have hlk_19 := (htw (.fieldLink RX13 19 "ProofServerModel$Kernel" "one" "[I") (jWr_14 _ (List.mem_of_getElem? (i := 11) rfl)))
  have hlk_22 := (htw (.fieldLink RX13 22 "ProofServerModel$Kernel" "two" "[I") (jWr_14 _ (List.mem_of_getElem? (i := 12) rfl)))
  have hlk_12 := (htw (.fieldLink RX13 12 "ProofServerModel$Kernel" "sort" "[I") (jWr_14 _ (List.mem_of_getElem? (i := 9) rfl)))
  have hlk_16 := (htw (.fieldLink RX13 16 "ProofServerModel$Kernel" "name" "[I") (jWr_14 _ (List.mem_of_getElem? (i := 10) rfl)))
  have hlk_25 := (htw (.fieldLink RX13 25 "ProofServerModel$Kernel" "three" "[I") (jWr_14 _ (List.mem_of_getElem? (i := 13) rfl)))
  have hrg_a1 := jb_rng a1
  have hrg_a2 := jb_rng a2
  have hrg_a3 := jb_rng a3
  obtain ⟨g1, g2, g3, g4, -, -, -, g8, g9⟩ := hp0.nd
  have hpos := hp0.pos
  have h0p := jsz_nn C a1.toInt
  have htr := hp0.tr (by omega) (by omega)
  have hst := jsz_step hp0 (by omega)
  have h01 := jSm_le C a1.toInt a2.toInt
  have hq01 := (jQf_ok C a1.toInt).2.2
  refine lv_aload_n hx hb dX13_replaced_0 rfl (lv_at hl 0 rfl) ?_
  refine lv_iload_n hx hb dX13_replaced_1 rfl (lv_at hl 1 rfl) ?_
  refine lv_iload_n hx hb dX13_replaced_2 rfl (lv_at hl 2 rfl) ?_
  refine va_calli (A0 := jA base) (H0 := s.heap) (va_runV (As := [.int a1, .int a2]) (rest := []) ⟨hx, hb, hml, hown, hts⟩ (aX13_isSame l dC dI ca base B hB hAp hB15 hB150 hB151 hB152 hB153 hB154 hB165 80 G0 s.heap r0 a1 a2 zs zn za zb zc zy C) (cwV 2 hts (jgV (jWr_67 _ (List.mem_of_getElem? (i := 11) rfl)) (jWr_67 _ (List.mem_of_getElem? (i := 12) rfl)) (jWr_67 _ (List.mem_of_getElem? (i := 13) rfl)) (jWr_12 _ (List.mem_of_getElem? (i := 12) rfl)) (jWr_67 _ (List.mem_of_getElem? (i := 14) rfl))) rfl rfl rfl (by decide +kernel) ⟨by rw [← hR]; show (83) + 1 ≤ d + 90; omega, by rw [← hR]; show 8 + (5 + 11) + (3400) ≤ 60 * d + 6000; omega⟩) ⟨fun a U g mk q => by obtain ⟨q0, q1, q2, qK, q10, q11, q12, q13, q14, q15, q16, q17, q18, q19⟩ := q; exact ⟨q0, q1, q2, jG.calling g mk a qK, q10, q11, q12, q13, q14, q15, q16, q17, q18, q19⟩, hh.recv (C := RX13) (T := TX13) (N := 50) hB15 rfl (by decide) hg_r0 hK, fun U hU hW => ⟨rfl, hU, hh.2.1, hG.step hW hU hh.1, hg_r0, hg_zs, hg_zn, hg_za, hg_zb, hg_zc, hg_zy, (hh.2.2.1.sub (L1 := [(r0, 15, 0, .ref zs), (r0, 15, 1, .ref zn), (r0, 15, 2, .ref za), (r0, 15, 3, .ref zb), (r0, 15, 4, .ref zc), (r0, 15, 14, .ref zy)]) [2, 3, 4, 5, 6, 7] rfl), (hh.2.2.2.2.2.2.2.1.sub (L1 := [(zs, 150, 120000, ca 1, C.s), (zn, 151, 120000, ca 1, C.n), (za, 152, 120000, ca 1, C.a), (zb, 153, 120000, ca 1, C.b), (zc, 154, 120000, ca 1, C.c), (zy, 165, 16, ca 1, C.y)]) [0, 1, 2, 3, 4, 5] rfl), ⟨(by first | assumption | exact htr.mono (by omega) | exact hp1.tr (by omega) (by omega) | omega), (by first | assumption | exact htr.mono (by omega) | exact hp1.tr (by omega) (by omega) | omega), (by first | omega | rfl | assumption | exact htr.mono (by omega) | exact hp1.tr (by omega) (by omega))⟩⟩⟩ rfl rfl hl.1 rfl (lv_room (Nat.le_of_ble_eq_true rfl)) dX13_replaced_3 ⟨Nat.zero_le _, Nat.zero_le _⟩) hh.1 (fun q _ h => h) (fun q h => h) (fun r_2 u_1 t_1 H_1 locs_1 ht_1 hvm_1 hr_2 hb_1 hz_1 hk_1 hS_1 => ?_)
  rw [ht_1] at hb_1
  obtain ⟨hb_11, hb_12, hb_13, hb_14, hb_15⟩ := hb_1
  have hh_1 : jSt (dC, dI) B base G0 G0 EX13_replaced s.heap 0 0 [(r0, 15, 5, .int pn), (r0, 15, 11, .int py), (r0, 15, 0, .ref zs), (r0, 15, 1, .ref zn), (r0, 15, 2, .ref za), (r0, 15, 3, .ref zb), (r0, 15, 4, .ref zc), (r0, 15, 14, .ref zy)] [(zs, 150, 120000, ca 1, C.s), (zn, 151, 120000, ca 1, C.n), (za, 152, 120000, ca 1, C.a), (zb, 153, 120000, ca 1, C.b), (zc, 154, 120000, ca 1, C.c), (zy, 165, 16, ca 1, C.y)] [] H_1 locs_1 := ((hh.call hb_11 hb_12 hb_13 hb_14 hS_1 rfl (L1 := [(r0, 15, 5, .int pn), (r0, 15, 11, .int py), (r0, 15, 0, .ref zs), (r0, 15, 1, .ref zn), (r0, 15, 2, .ref za), (r0, 15, 3, .ref zb), (r0, 15, 4, .ref zc), (r0, 15, 14, .ref zy)]) [0, 1, 2, 3, 4, 5, 6, 7] rfl rfl (M1 := [(zs, 150, 120000, ca 1, C.s), (zn, 151, 120000, ca 1, C.n), (za, 152, 120000, ca 1, C.a), (zb, 153, 120000, ca 1, C.b), (zc, 154, 120000, ca 1, C.c), (zy, 165, 16, ca 1, C.y)]) [0, 1, 2, 3, 4, 5] rfl rfl (I1 := []) [] rfl rfl).more hb_15)
  clear hh ht_1 hvm_1 hz_1 hk_1 hS_1 hb_11 hb_12 hb_13 hb_14 hb_15
  obtain ⟨hr_2b, hr_2p⟩ := hr_2
  have hr_2' := jb_01 hr_2b
  refine lv_if_eq (tgt := 11) hx hb dX13_replaced_6 (by decide) (fun c_3 => ?_) (fun c_3 => ?_)
  · skip
    have c_3' : r_2.toInt = 0 := jb_eq (rfl) ((by decide)) c_3
    refine lv_aload_n hx hb dX13_replaced_11 rfl (lv_at hl 0 rfl) ?_
    refine lv_iload_n hx hb dX13_replaced_12 rfl (lv_at hl 1 rfl) ?_
    refine va_calli (A0 := jA base) (H0 := s.heap) (va_runV (As := [.int a1]) (rest := []) ⟨hx, hb, hml, hown, hts⟩ (uX13_parts l dC dI ca base B hB hAp hB15 hB150 hB151 hB152 hB153 hB154 hB165 G0 H_1 r0 a1 zs zn za zb zc zy C) (cwV 1 hts (jgV (jWr_65 _ (List.mem_of_getElem? (i := 15) rfl)) (jWr_65 _ (List.mem_of_getElem? (i := 16) rfl)) (jWr_65 _ (List.mem_of_getElem? (i := 17) rfl)) (jWr_12 _ (List.mem_of_getElem? (i := 12) rfl)) (jWr_65 _ (List.mem_of_getElem? (i := 18) rfl))) rfl rfl rfl (by decide +kernel) ⟨by rw [← hR]; show (0) + 1 ≤ d + 90; omega, by rw [← hR]; show 8 + (3 + 11) + (0) ≤ 60 * d + 6000; omega⟩) ⟨fun a U g mk q => by obtain ⟨q0, q1, q2, qK, q10, q11, q12, q13, q14, q15, q16, q17, q18, q19⟩ := q; exact ⟨q0, q1, q2, jG.calling g mk a qK, q10, q11, q12, q13, q14, q15, q16, q17, q18, q19⟩, hh_1.recv (C := RX13) (T := TX13) (N := 50) hB15 rfl (by decide) hg_r0 hK, fun U hU hW => ⟨rfl, hU, hh_1.2.1, hG.step hW hU hh_1.1, hg_r0, hg_zs, hg_zn, hg_za, hg_zb, hg_zc, hg_zy, (hh_1.2.2.1.sub (L1 := [(r0, 15, 0, .ref zs), (r0, 15, 1, .ref zn), (r0, 15, 2, .ref za), (r0, 15, 3, .ref zb), (r0, 15, 4, .ref zc), (r0, 15, 14, .ref zy)]) [2, 3, 4, 5, 6, 7] rfl), (hh_1.2.2.2.2.2.2.2.1.sub (L1 := [(zs, 150, 120000, ca 1, C.s), (zn, 151, 120000, ca 1, C.n), (za, 152, 120000, ca 1, C.a), (zb, 153, 120000, ca 1, C.b), (zc, 154, 120000, ca 1, C.c), (zy, 165, 16, ca 1, C.y)]) [0, 1, 2, 3, 4, 5] rfl), ⟨(by first | omega | rfl | assumption | exact hp0.sym (by omega)), (by first | omega | rfl | assumption | exact hp0.sym (by omega)), (by first | assumption | exact hp0.sym (by omega) | omega)⟩⟩⟩ rfl rfl hl.1 rfl (lv_room (Nat.le_of_ble_eq_true rfl)) dX13_replaced_13 ⟨Nat.zero_le _, Nat.zero_le _⟩) hh_1.1 (fun q _ h => h) (fun q h => h) (fun r_5 u_4 t_4 H_4 locs_4 ht_4 hvm_4 hr_5 hb_4 hz_4 hk_4 hS_4 => ?_)
    rw [ht_4] at hb_4
    obtain ⟨hb_41, hb_42, hb_43, hb_44, hb_45⟩ := hb_4
    have hh_4 : jSt (dC, dI) B base G0 G0 EX13_replaced s.heap 0 0 [(r0, 15, 5, .int pn), (r0, 15, 11, .int py), (r0, 15, 0, .ref zs), (r0, 15, 1, .ref zn), (r0, 15, 2, .ref za), (r0, 15, 3, .ref zb), (r0, 15, 4, .ref zc), (r0, 15, 14, .ref zy)] [(zs, 150, 120000, ca 1, C.s), (zn, 151, 120000, ca 1, C.n), (za, 152, 120000, ca 1, C.a), (zb, 153, 120000, ca 1, C.b), (zc, 154, 120000, ca 1, C.c), (zy, 165, 16, ca 1, C.y)] [] H_4 locs_4 := ((hh_1.call hb_41 hb_42 hb_43 hb_44 hS_4 rfl (L1 := [(r0, 15, 5, .int pn), (r0, 15, 11, .int py), (r0, 15, 0, .ref zs), (r0, 15, 1, .ref zn), (r0, 15, 2, .ref za), (r0, 15, 3, .ref zb), (r0, 15, 4, .ref zc), (r0, 15, 14, .ref zy)]) [0, 1, 2, 3, 4, 5, 6, 7] rfl rfl (M1 := [(zs, 150, 120000, ca 1, C.s), (zn, 151, 120000, ca 1, C.n), (za, 152, 120000, ca 1, C.a), (zb, 153, 120000, ca 1, C.b), (zc, 154, 120000, ca 1, C.c), (zy, 165, 16, ca 1, C.y)]) [0, 1, 2, 3, 4, 5] rfl rfl (I1 := []) [] rfl rfl).more hb_45)
    clear hh_1 ht_4 hvm_4 hz_4 hk_4 hS_4 hb_41 hb_42 hb_43 hb_44 hb_45
    obtain ⟨hr_5_0, hr_5_1, hr_5_2⟩ := hr_5
    refine lv_istore (lv' := [(4, .int r_5), (0, .ref r0), (1, .int a1), (2, .int a2), (3, .int a3)]) hx hb dX13_replaced_16 hl (by decide) rfl (fun ls hl => ?_)
    refine lv_iload hx hb dX13_replaced_18 (lv_at hl 0 rfl) ?_
    refine lv_if_ne (tgt := 25) hx hb dX13_replaced_20 (by decide) (fun c_6 => ?_) (fun c_6 => ?_)
    · skip
      have c_6' : r_5.toInt ≠ 0 := jb_ne (rfl) ((by decide)) c_6
      have y0 := jSzK_a C a1.toInt (jPts C a1.toInt) (by omega) (by omega)
      have hn0 := jsz_nn C (jSo C.a a1.toInt)
      refine lv_aload_n hx hb dX13_replaced_25 rfl (lv_at hl 1 rfl) ?_
      refine lv_aload_n hx hb dX13_replaced_26 rfl (lv_at hl 1 rfl) ?_
      refine j7_read hx hb hown hK (C := RX13) (T := TX13) (N := 50) rfl hly_15_2 hlk_19 (hh_4.at 4 rfl) dX13_replaced_27 ?_
      refine lv_iload_n hx hb dX13_replaced_30 rfl (lv_at hl 2 rfl) ?_
      refine j7_ialdM hx hb hK hh_4 hB152 1 rfl (by decide) hg_za (x := a1.toInt) (rfl) (by omega) (j := 2) rfl dX13_replaced_31 (fun z_7 ez_7 (hz_7 : True) => ?_)
      have hqz_7 : z_7.toInt = jSo C.a (a1.toInt) := by unfold jSo; rw [ez_7]
      refine lv_iload_n hx hb dX13_replaced_32 rfl (lv_at hl 3 rfl) ?_
      refine lv_iload_n hx hb dX13_replaced_33 rfl (lv_at hl 4 rfl) ?_
      refine va_calli (A0 := jA base) (H0 := s.heap) (va_runV (As := [.int z_7, .int a2, .int a3]) (rest := []) ⟨hx, hb, hml, hown, hts⟩ (ih (d - 1) (by omega) G0 H_4 r0 z_7 a2 a3 pn py zs zn za zb zc zy (gb + jQf C a1.toInt) C) (cwV 3 hts (jgV (jWr_69 _ (List.mem_of_getElem? (i := 7) rfl)) (jWr_69 _ (List.mem_of_getElem? (i := 8) rfl)) (jWr_69 _ (List.mem_of_getElem? (i := 9) rfl)) (jWr_12 _ (List.mem_of_getElem? (i := 12) rfl)) (jWr_69 _ (List.mem_of_getElem? (i := 10) rfl))) rfl rfl rfl (by decide +kernel) ⟨by rw [← hR]; show (d - 1 + 90) + 1 ≤ d + 90; omega, by rw [← hR]; show 8 + (7 + 11) + (60 * (d - 1) + 6000) ≤ 60 * d + 6000; omega⟩) ⟨fun a U g mk q => by obtain ⟨q0, q1, q2, qK, q10, q11, q12, q13, q14, q15, q16, q17, q18, q19⟩ := q; exact ⟨q0, q1, q2, jG.calling g mk a qK, q10, q11, q12, q13, q14, q15, q16, q17, q18, q19⟩, hh_4.recv (C := RX13) (T := TX13) (N := 50) hB15 rfl (by decide) hg_r0 hK, fun U hU hW => ⟨rfl, hU, hh_4.2.1, hG.step hW hU hh_4.1, hg_r0, hg_zs, hg_zn, hg_za, hg_zb, hg_zc, hg_zy, (hh_4.2.2.1.sub (L1 := [(r0, 15, 5, .int pn), (r0, 15, 11, .int py), (r0, 15, 0, .ref zs), (r0, 15, 1, .ref zn), (r0, 15, 2, .ref za), (r0, 15, 3, .ref zb), (r0, 15, 4, .ref zc), (r0, 15, 14, .ref zy)]) [0, 1, 2, 3, 4, 5, 6, 7] rfl), (hh_4.2.2.2.2.2.2.2.1.sub (L1 := [(zs, 150, 120000, ca 1, C.s), (zn, 151, 120000, ca 1, C.n), (za, 152, 120000, ca 1, C.a), (zb, 153, 120000, ca 1, C.b), (zc, 154, 120000, ca 1, C.c), (zy, 165, 16, ca 1, C.y)]) [0, 1, 2, 3, 4, 5] rfl), ⟨(by first | assumption | (rw [hqz_7]; exact hp0.part (k := 0) (by omega) (by omega)) | (rw [hqz_7]; omega) | omega), (by first | assumption | (rw [hqz_7]; exact hp0.part (k := 0) (by omega) (by omega)) | (rw [hqz_7]; omega) | omega), (by first | assumption | (rw [hqz_7]; exact hp0.part (k := 0) (by omega) (by omega)) | (rw [hqz_7]; omega) | omega), (by first | omega | rfl | assumption | (rw [hqz_7]; exact hp0.part (k := 0) (by omega) (by omega)) | (rw [hqz_7]; omega)), (by first | omega | rfl | assumption | (rw [hqz_7]; exact hp0.part (k := 0) (by omega) (by omega)) | (rw [hqz_7]; omega)), (by first | omega | rfl | assumption | (rw [hqz_7]; exact hp0.part (k := 0) (by omega) (by omega)) | (rw [hqz_7]; omega)), (by first | omega | rfl | assumption | (rw [hqz_7]; exact hp0.part (k := 0) (by omega) (by omega)) | (rw [hqz_7]; omega)), (by first | omega | rfl | assumption | (rw [hqz_7]; exact hp0.part (k := 0) (by omega) (by omega)) | (rw [hqz_7]; omega)), (by first | omega | rfl | assumption | (rw [hqz_7]; exact hp0.part (k := 0) (by omega) (by omega)) | (rw [hqz_7]; omega))⟩⟩⟩ rfl rfl hl.1 rfl (lv_room (Nat.le_of_ble_eq_true rfl)) dX13_replaced_34 ⟨Nat.zero_le _, Nat.zero_le _⟩) hh_4.1 (fun q _ h => h) (fun q h => h) (fun r_9 u_8 t_8 H_8 locs_8 ht_8 hvm_8 hr_9 hb_8 hz_8 hk_8 hS_8 => ?_)
      obtain ⟨qn_8, D_8⟩ := u_8
      rw [ht_8] at hb_8
      obtain ⟨⟨hb_81, hb_82, hb_83, hb_84, hb_85⟩, hb_86⟩ := hb_8
      have hh_8 : jSt (dC, dI) B base G0 G0 EX13_replaced s.heap 0 0 [(r0, 15, 5, .int qn_8), (r0, 15, 11, .int py), (r0, 15, 0, .ref zs), (r0, 15, 1, .ref zn), (r0, 15, 2, .ref za), (r0, 15, 3, .ref zb), (r0, 15, 4, .ref zc), (r0, 15, 14, .ref zy)] [(zs, 150, 120000, ca 1, D_8.s), (zn, 151, 120000, ca 1, D_8.n), (za, 152, 120000, ca 1, D_8.a), (zb, 153, 120000, ca 1, D_8.b), (zc, 154, 120000, ca 1, D_8.c), (zy, 165, 16, ca 1, D_8.y), (zy, 165, 16, ca 1, C.y)] [] H_8 locs_8 := ((hh_4.call hb_81 hb_82 hb_83 hb_84 hS_8 rfl (L1 := [(r0, 15, 11, .int py), (r0, 15, 0, .ref zs), (r0, 15, 1, .ref zn), (r0, 15, 2, .ref za), (r0, 15, 3, .ref zb), (r0, 15, 4, .ref zc), (r0, 15, 14, .ref zy)]) [1, 2, 3, 4, 5, 6, 7] rfl rfl (M1 := [(zy, 165, 16, ca 1, C.y)]) [5] rfl rfl (I1 := []) [] rfl rfl).more hb_85).moreM hb_86
      clear hh_4 ht_8 hvm_8 hz_8 hk_8 hS_8 hb_81 hb_82 hb_83 hb_84 hb_85
      clear hb_86
      try simp only at hr_9
      obtain ⟨hr_9_0, hr_9_1, hr_9_2, hr_9_3, hr_9_4⟩ := hr_9
      rw [hqz_7] at hr_9_1 hr_9_4
      have hso1 := (hr_9_2).so g1 g2
      refine lv_istore (lv' := [(5, .int r_9), (4, .int r_5), (0, .ref r0), (1, .int a1), (2, .int a2), (3, .int a3)]) hx hb dX13_replaced_37 hl (by decide) rfl (fun ls hl => ?_)
      refine lv_iload hx hb dX13_replaced_39 (lv_at hl 1 rfl) ?_
      refine lv_iconst (v := 1) hx hb dX13_replaced_41 (by decide) ?_
      refine lv_icmp_le (tgt := 60) hx hb dX13_replaced_42 (by decide) (fun c_10 => ?_) (fun c_10 => ?_)
      · skip
        have c_10' : r_5.toInt ≤ 1 := jb_le (rfl) ((by decide)) c_10
        refine lv_iconst (v := 0) hx hb dX13_replaced_60 (by decide) ?_
        refine lv_istore (lv' := [(6, .int 0), (5, .int r_9), (4, .int r_5), (0, .ref r0), (1, .int a1), (2, .int a2), (3, .int a3)]) hx hb dX13_replaced_61 hl (by decide) rfl (fun ls hl => ?_)
        refine lv_aload_n hx hb dX13_replaced_63 rfl (lv_at hl 3 rfl) ?_
        refine lv_aload_n hx hb dX13_replaced_64 rfl (lv_at hl 3 rfl) ?_
        refine j7_read hx hb hown hK (C := RX13) (T := TX13) (N := 50) rfl hly_15_0 hlk_12 (hh_8.at 2 rfl) dX13_replaced_65 ?_
        refine lv_iload_n hx hb dX13_replaced_68 rfl (lv_at hl 4 rfl) ?_
        refine j7_ialdM hx hb hK hh_8 hB150 1 rfl (by decide) hg_zs (x := a1.toInt) (rfl) (by omega) (j := 0) rfl dX13_replaced_69 (fun z_11 ez_11 (hz_11 : True) => ?_)
        have hqz_11 : z_11.toInt = jSo D_8.s (a1.toInt) := by unfold jSo; rw [ez_11]
        refine lv_aload_n hx hb dX13_replaced_70 rfl (lv_at hl 3 rfl) ?_
        refine j7_read hx hb hown hK (C := RX13) (T := TX13) (N := 50) rfl hly_15_1 hlk_16 (hh_8.at 3 rfl) dX13_replaced_71 ?_
        refine lv_iload_n hx hb dX13_replaced_74 rfl (lv_at hl 4 rfl) ?_
        refine j7_ialdM hx hb hK hh_8 hB151 1 rfl (by decide) hg_zn (x := a1.toInt) (rfl) (by omega) (j := 1) rfl dX13_replaced_75 (fun z_12 ez_12 (hz_12 : True) => ?_)
        have hqz_12 : z_12.toInt = jSo D_8.n (a1.toInt) := by unfold jSo; rw [ez_12]
        refine lv_iload hx hb dX13_replaced_76 (lv_at hl 1 rfl) ?_
        refine lv_iload hx hb dX13_replaced_78 (lv_at hl 0 rfl) ?_
        refine lv_iload hx hb dX13_replaced_80 (lv_at hl 2 rfl) ?_
        refine lv_iconst (v := 2) hx hb dX13_replaced_82 (by decide) ?_
        refine lv_icmp_le (tgt := 101) hx hb dX13_replaced_83 (by decide) (fun c_13 => ?_) (fun c_13 => ?_)
        · skip
          have c_13' : r_5.toInt ≤ 2 := jb_le (rfl) ((by decide)) c_13
          refine lv_iconst (v := 0) hx hb dX13_replaced_101 (by decide) ?_
          refine va_calli (A0 := jA base) (H0 := s.heap) (va_runV (As := [.int z_11, .int z_12, .int r_9, .int 0, .int 0]) (rest := []) ⟨hx, hb, hml, hown, hts⟩ (uX13_nodeK l dC dI ca base B hB hAp hB15 hB150 hB151 hB152 hB153 hB154 hB165 G0 H_8 r0 z_11 z_12 r_9 0 0 qn_8 zs zn za zb zc zy D_8) (cwV 5 hts (jgV (jWr_62 _ (List.mem_of_getElem? (i := 9) rfl)) (jWr_62 _ (List.mem_of_getElem? (i := 10) rfl)) (jWr_62 _ (List.mem_of_getElem? (i := 11) rfl)) (jWr_12 _ (List.mem_of_getElem? (i := 12) rfl)) (jWr_62 _ (List.mem_of_getElem? (i := 12) rfl))) rfl rfl rfl (by decide +kernel) ⟨by rw [← hR]; show (0) + 1 ≤ d + 90; omega, by rw [← hR]; show 8 + (6 + 11) + (0) ≤ 60 * d + 6000; omega⟩) ⟨fun a U g mk q => by obtain ⟨q0, q1, q2, qK, q10, q11, q12, q13, q14, q15, q16, q17, q18, q19⟩ := q; exact ⟨q0, q1, q2, jG.calling g mk a qK, q10, q11, q12, q13, q14, q15, q16, q17, q18, q19⟩, hh_8.recv (C := RX13) (T := TX13) (N := 50) hB15 rfl (by decide) hg_r0 hK, fun U hU hW => ⟨rfl, hU, hh_8.2.1, hG.step hW hU hh_8.1, hg_r0, hg_zs, hg_zn, hg_za, hg_zb, hg_zc, hg_zy, (hh_8.2.2.1.sub (L1 := [(r0, 15, 5, .int qn_8), (r0, 15, 0, .ref zs), (r0, 15, 1, .ref zn), (r0, 15, 2, .ref za), (r0, 15, 3, .ref zb), (r0, 15, 4, .ref zc), (r0, 15, 14, .ref zy)]) [0, 2, 3, 4, 5, 6, 7] rfl), (hh_8.2.2.2.2.2.2.2.1.sub (L1 := [(zs, 150, 120000, ca 1, D_8.s), (zn, 151, 120000, ca 1, D_8.n), (za, 152, 120000, ca 1, D_8.a), (zb, 153, 120000, ca 1, D_8.b), (zc, 154, 120000, ca 1, D_8.c), (zy, 165, 16, ca 1, D_8.y)]) [0, 1, 2, 3, 4, 5] rfl), by first | omega | (refine ⟨?_, ?_⟩ <;> (first | omega | rfl | assumption | decide | exact Or.inl rfl | exact Or.inr rfl | (simp only; omega)))⟩⟩ rfl rfl hl.1 rfl (lv_room (Nat.le_of_ble_eq_true rfl)) dX13_replaced_102 ⟨Nat.zero_le _, Nat.zero_le _⟩) hh_8.1 (fun q _ h => h) (fun q h => h) (fun r_15 u_14 t_14 H_14 locs_14 ht_14 hvm_14 hr_15 hb_14 hz_14 hk_14 hS_14 => ?_)
          obtain ⟨qn_14, D_14⟩ := u_14
          rw [ht_14] at hb_14
          obtain ⟨⟨hb_141, hb_142, hb_143, hb_144, hb_145⟩, hb_146⟩ := hb_14
          have hh_14 : jSt (dC, dI) B base G0 G0 EX13_replaced s.heap 0 0 [(r0, 15, 5, .int qn_14), (r0, 15, 11, .int py), (r0, 15, 0, .ref zs), (r0, 15, 1, .ref zn), (r0, 15, 2, .ref za), (r0, 15, 3, .ref zb), (r0, 15, 4, .ref zc), (r0, 15, 14, .ref zy)] [(zs, 150, 120000, ca 1, D_14.s), (zn, 151, 120000, ca 1, D_14.n), (za, 152, 120000, ca 1, D_14.a), (zb, 153, 120000, ca 1, D_14.b), (zc, 154, 120000, ca 1, D_14.c), (zy, 165, 16, ca 1, D_14.y), (zy, 165, 16, ca 1, D_8.y), (zy, 165, 16, ca 1, C.y)] [] H_14 locs_14 := ((hh_8.call hb_141 hb_142 hb_143 hb_144 hS_14 rfl (L1 := [(r0, 15, 11, .int py), (r0, 15, 0, .ref zs), (r0, 15, 1, .ref zn), (r0, 15, 2, .ref za), (r0, 15, 3, .ref zb), (r0, 15, 4, .ref zc), (r0, 15, 14, .ref zy)]) [1, 2, 3, 4, 5, 6, 7] rfl rfl (M1 := [(zy, 165, 16, ca 1, D_8.y), (zy, 165, 16, ca 1, C.y)]) [5, 6] rfl rfl (I1 := []) [] rfl rfl).more hb_145).moreM hb_146
          clear hh_8 ht_14 hvm_14 hz_14 hk_14 hS_14 hb_141 hb_142 hb_143 hb_144 hb_145
          clear hb_146
          try simp only at hr_15
          obtain ⟨hr_15_0, hr_15_1, hr_15_2⟩ := hr_15
          first | rw [hqz_11, hqz_12, hso2.1, hso2.2.1] at hr_15_2 | rw [hqz_11, hqz_12, hso1.1, hso1.2.1] at hr_15_2
          rw [hQ]
          exact W.iret (v := r_15) hx hb hr (fun t ht hW => ⟨⟨r_15, (qn_14, D_14), rfl, by
    try dsimp only
    have h00 : jPts C a1.toInt = 1 := by omega
    have key := jRe4 (v := gb) hp0 hr_9_2 hr_9_0 hr_15_2 (fun q => (hp0.bnd q).2.1) (by omega) (fun _ => hr_9_3) (fun q => absurd q (by omega)) (fun q => absurd q (by omega))
    have ys := (jSzK_y C a1.toInt (jPts C a1.toInt)).2.1 h00
    have yc := ((jCd_y (t := a2.toInt) (u := a3.toInt) htr (by omega)).2 (by omega)).2.1 h00
    refine ⟨by omega, by omega, key.1, ?_, ?_⟩
    · rw [hr_15_0, hr_15_1]; exact key.2.1.mono (by omega) (Int.le_refl _)
    · rw [hr_15_0, key.2.2.1 h00]; omega, ⟨hh_14.rt (M1 := [(r0, 15, 5, .int qn_14)]) [0] rfl ht, by rw [ht]; exact hh_14.2.2.2.2.2.2.2.1.sub [0, 1, 2, 3, 4, 5] rfl⟩⟩, by rw [ht]; try exact hh_14.1.1, fun q h9 hq => by rw [ht]; try exact hh_14.1.2.1 q h9 hq⟩) hh_14.1.2.2 dX13_replaced_105
        · skip
          have c_13' : r_5.toInt > 2 := jb_le_n (rfl) ((by decide)) c_13
          exact (by omega : False).elim
      · skip
        have c_10' : r_5.toInt > 1 := jb_le_n (rfl) ((by decide)) c_10
        have y1 := jSzK_b C a1.toInt (jPts C a1.toInt) (by omega) (by omega)
        have hn1 := jsz_nn C (jSo C.b a1.toInt)
        have hu1 := hp1.ag (hr_9_2) (hr_9_0)
        have hv1 := hp2.ag (hr_9_2) (hr_9_0)
        have hf1 : jFm D_8 qn_8.toInt py.toInt (d - 1) (gb + jQf C a1.toInt) (jSo C.b a1.toInt) := (hp0.part (k := 1) (by omega) (by omega)).ag (hr_9_2) (hr_9_0)
        have hz1 : jsz D_8 (jSo C.b a1.toInt) = jsz C (jSo C.b a1.toInt) := jsz_ag (hr_9_2) (hp0.part (k := 1) (by omega) (by omega))
        have hc1 : jCd D_8 a2.toInt a3.toInt (jSo C.b a1.toInt) = jCd C a2.toInt a3.toInt (jSo C.b a1.toInt) := jCd_ag (hr_9_2) (hp0.part (k := 1) (by omega) (by omega)) hp1 hp2
        refine lv_aload_n hx hb dX13_replaced_45 rfl (lv_at hl 2 rfl) ?_
        refine lv_aload_n hx hb dX13_replaced_46 rfl (lv_at hl 2 rfl) ?_
        refine j7_read hx hb hown hK (C := RX13) (T := TX13) (N := 50) rfl hly_15_3 hlk_22 (hh_8.at 5 rfl) dX13_replaced_47 ?_
        refine lv_iload_n hx hb dX13_replaced_50 rfl (lv_at hl 3 rfl) ?_
        refine j7_ialdM hx hb hK hh_8 hB153 1 rfl (by decide) hg_zb (x := a1.toInt) (rfl) (by omega) (j := 3) rfl dX13_replaced_51 (fun z_16 ez_16 (hz_16 : True) => ?_)
        have hqz_16 : z_16.toInt = jSo D_8.b (a1.toInt) := by unfold jSo; rw [ez_16]
        refine lv_iload_n hx hb dX13_replaced_52 rfl (lv_at hl 4 rfl) ?_
        refine lv_iload_n hx hb dX13_replaced_53 rfl (lv_at hl 5 rfl) ?_
        refine va_calli (A0 := jA base) (H0 := s.heap) (va_runV (As := [.int z_16, .int a2, .int a3]) (rest := []) ⟨hx, hb, hml, hown, hts⟩ (ih (d - 1) (by omega) G0 H_8 r0 z_16 a2 a3 qn_8 py zs zn za zb zc zy (gb + jQf C a1.toInt) D_8) (cwV 3 hts (jgV (jWr_69 _ (List.mem_of_getElem? (i := 7) rfl)) (jWr_69 _ (List.mem_of_getElem? (i := 8) rfl)) (jWr_69 _ (List.mem_of_getElem? (i := 9) rfl)) (jWr_12 _ (List.mem_of_getElem? (i := 12) rfl)) (jWr_69 _ (List.mem_of_getElem? (i := 10) rfl))) rfl rfl rfl (by decide +kernel) ⟨by rw [← hR]; show (d - 1 + 90) + 1 ≤ d + 90; omega, by rw [← hR]; show 8 + (7 + 11) + (60 * (d - 1) + 6000) ≤ 60 * d + 6000; omega⟩) ⟨fun a U g mk q => by obtain ⟨q0, q1, q2, qK, q10, q11, q12, q13, q14, q15, q16, q17, q18, q19⟩ := q; exact ⟨q0, q1, q2, jG.calling g mk a qK, q10, q11, q12, q13, q14, q15, q16, q17, q18, q19⟩, hh_8.recv (C := RX13) (T := TX13) (N := 50) hB15 rfl (by decide) hg_r0 hK, fun U hU hW => ⟨rfl, hU, hh_8.2.1, hG.step hW hU hh_8.1, hg_r0, hg_zs, hg_zn, hg_za, hg_zb, hg_zc, hg_zy, (hh_8.2.2.1.sub (L1 := [(r0, 15, 5, .int qn_8), (r0, 15, 11, .int py), (r0, 15, 0, .ref zs), (r0, 15, 1, .ref zn), (r0, 15, 2, .ref za), (r0, 15, 3, .ref zb), (r0, 15, 4, .ref zc), (r0, 15, 14, .ref zy)]) [0, 1, 2, 3, 4, 5, 6, 7] rfl), (hh_8.2.2.2.2.2.2.2.1.sub (L1 := [(zs, 150, 120000, ca 1, D_8.s), (zn, 151, 120000, ca 1, D_8.n), (za, 152, 120000, ca 1, D_8.a), (zb, 153, 120000, ca 1, D_8.b), (zc, 154, 120000, ca 1, D_8.c), (zy, 165, 16, ca 1, D_8.y)]) [0, 1, 2, 3, 4, 5] rfl), ⟨(by first | assumption | (rw [hqz_16, hso1.2.2.2.1]; exact hf1) | (rw [hqz_16, hso1.2.2.2.1, hz1]; omega) | omega), (by first | assumption | (rw [hqz_16, hso1.2.2.2.1]; exact hf1) | (rw [hqz_16, hso1.2.2.2.1, hz1]; omega) | omega), (by first | assumption | (rw [hqz_16, hso1.2.2.2.1]; exact hf1) | (rw [hqz_16, hso1.2.2.2.1, hz1]; omega) | omega), (by first | omega | rfl | assumption | (rw [hqz_16, hso1.2.2.2.1]; exact hf1) | (rw [hqz_16, hso1.2.2.2.1, hz1]; omega)), (by first | omega | rfl | assumption | (rw [hqz_16, hso1.2.2.2.1]; exact hf1) | (rw [hqz_16, hso1.2.2.2.1, hz1]; omega)), (by first | omega | rfl | assumption | (rw [hqz_16, hso1.2.2.2.1]; exact hf1) | (rw [hqz_16, hso1.2.2.2.1, hz1]; omega)), (by first | omega | rfl | assumption | (rw [hqz_16, hso1.2.2.2.1]; exact hf1) | (rw [hqz_16, hso1.2.2.2.1, hz1]; omega)), (by first | omega | rfl | assumption | (rw [hqz_16, hso1.2.2.2.1]; exact hf1) | (rw [hqz_16, hso1.2.2.2.1, hz1]; omega)), (by first | omega | rfl | assumption | (rw [hqz_16, hso1.2.2.2.1]; exact hf1) | (rw [hqz_16, hso1.2.2.2.1, hz1]; omega))⟩⟩⟩ rfl rfl hl.1 rfl (lv_room (Nat.le_of_ble_eq_true rfl)) dX13_replaced_54 ⟨Nat.zero_le _, Nat.zero_le _⟩) hh_8.1 (fun q _ h => h) (fun q h => h) (fun r_18 u_17 t_17 H_17 locs_17 ht_17 hvm_17 hr_18 hb_17 hz_17 hk_17 hS_17 => ?_)
        obtain ⟨qn_17, D_17⟩ := u_17
        rw [ht_17] at hb_17
        obtain ⟨⟨hb_171, hb_172, hb_173, hb_174, hb_175⟩, hb_176⟩ := hb_17
        have hh_17 : jSt (dC, dI) B base G0 G0 EX13_replaced s.heap 0 0 [(r0, 15, 5, .int qn_17), (r0, 15, 11, .int py), (r0, 15, 0, .ref zs), (r0, 15, 1, .ref zn), (r0, 15, 2, .ref za), (r0, 15, 3, .ref zb), (r0, 15, 4, .ref zc), (r0, 15, 14, .ref zy)] [(zs, 150, 120000, ca 1, D_17.s), (zn, 151, 120000, ca 1, D_17.n), (za, 152, 120000, ca 1, D_17.a), (zb, 153, 120000, ca 1, D_17.b), (zc, 154, 120000, ca 1, D_17.c), (zy, 165, 16, ca 1, D_17.y), (zy, 165, 16, ca 1, D_8.y), (zy, 165, 16, ca 1, C.y)] [] H_17 locs_17 := ((hh_8.call hb_171 hb_172 hb_173 hb_174 hS_17 rfl (L1 := [(r0, 15, 11, .int py), (r0, 15, 0, .ref zs), (r0, 15, 1, .ref zn), (r0, 15, 2, .ref za), (r0, 15, 3, .ref zb), (r0, 15, 4, .ref zc), (r0, 15, 14, .ref zy)]) [1, 2, 3, 4, 5, 6, 7] rfl rfl (M1 := [(zy, 165, 16, ca 1, D_8.y), (zy, 165, 16, ca 1, C.y)]) [5, 6] rfl rfl (I1 := []) [] rfl rfl).more hb_175).moreM hb_176
        clear hh_8 ht_17 hvm_17 hz_17 hk_17 hS_17 hb_171 hb_172 hb_173 hb_174 hb_175
        clear hb_176
        try simp only at hr_18
        obtain ⟨hr_18_0, hr_18_1, hr_18_2, hr_18_3, hr_18_4⟩ := hr_18
        rw [hqz_16, hso1.2.2.2.1, hz1] at hr_18_1 hr_18_4
        rw [hc1] at hr_18_4
        have hso2 := (hr_9_2.tr hr_18_2 hr_9_0).so g1 g2
        refine lv_goto (tgt := 61) hx hb dX13_replaced_57 (by decide) ?_
        refine lv_istore (lv' := [(6, .int r_18), (5, .int r_9), (4, .int r_5), (0, .ref r0), (1, .int a1), (2, .int a2), (3, .int a3)]) hx hb dX13_replaced_61 hl (by decide) rfl (fun ls hl => ?_)
        refine lv_aload_n hx hb dX13_replaced_63 rfl (lv_at hl 3 rfl) ?_
        refine lv_aload_n hx hb dX13_replaced_64 rfl (lv_at hl 3 rfl) ?_
        refine j7_read hx hb hown hK (C := RX13) (T := TX13) (N := 50) rfl hly_15_0 hlk_12 (hh_17.at 2 rfl) dX13_replaced_65 ?_
        refine lv_iload_n hx hb dX13_replaced_68 rfl (lv_at hl 4 rfl) ?_
        refine j7_ialdM hx hb hK hh_17 hB150 1 rfl (by decide) hg_zs (x := a1.toInt) (rfl) (by omega) (j := 0) rfl dX13_replaced_69 (fun z_19 ez_19 (hz_19 : True) => ?_)
        have hqz_19 : z_19.toInt = jSo D_17.s (a1.toInt) := by unfold jSo; rw [ez_19]
        refine lv_aload_n hx hb dX13_replaced_70 rfl (lv_at hl 3 rfl) ?_
        refine j7_read hx hb hown hK (C := RX13) (T := TX13) (N := 50) rfl hly_15_1 hlk_16 (hh_17.at 3 rfl) dX13_replaced_71 ?_
        refine lv_iload_n hx hb dX13_replaced_74 rfl (lv_at hl 4 rfl) ?_
        refine j7_ialdM hx hb hK hh_17 hB151 1 rfl (by decide) hg_zn (x := a1.toInt) (rfl) (by omega) (j := 1) rfl dX13_replaced_75 (fun z_20 ez_20 (hz_20 : True) => ?_)
        have hqz_20 : z_20.toInt = jSo D_17.n (a1.toInt) := by unfold jSo; rw [ez_20]
        refine lv_iload hx hb dX13_replaced_76 (lv_at hl 1 rfl) ?_
        refine lv_iload hx hb dX13_replaced_78 (lv_at hl 0 rfl) ?_
        refine lv_iload hx hb dX13_replaced_80 (lv_at hl 2 rfl) ?_
        refine lv_iconst (v := 2) hx hb dX13_replaced_82 (by decide) ?_
        refine lv_icmp_le (tgt := 101) hx hb dX13_replaced_83 (by decide) (fun c_21 => ?_) (fun c_21 => ?_)
        · skip
          have c_21' : r_5.toInt ≤ 2 := jb_le (rfl) ((by decide)) c_21
          refine lv_iconst (v := 0) hx hb dX13_replaced_101 (by decide) ?_
          refine va_calli (A0 := jA base) (H0 := s.heap) (va_runV (As := [.int z_19, .int z_20, .int r_9, .int r_18, .int 0]) (rest := []) ⟨hx, hb, hml, hown, hts⟩ (uX13_nodeK l dC dI ca base B hB hAp hB15 hB150 hB151 hB152 hB153 hB154 hB165 G0 H_17 r0 z_19 z_20 r_9 r_18 0 qn_17 zs zn za zb zc zy D_17) (cwV 5 hts (jgV (jWr_62 _ (List.mem_of_getElem? (i := 9) rfl)) (jWr_62 _ (List.mem_of_getElem? (i := 10) rfl)) (jWr_62 _ (List.mem_of_getElem? (i := 11) rfl)) (jWr_12 _ (List.mem_of_getElem? (i := 12) rfl)) (jWr_62 _ (List.mem_of_getElem? (i := 12) rfl))) rfl rfl rfl (by decide +kernel) ⟨by rw [← hR]; show (0) + 1 ≤ d + 90; omega, by rw [← hR]; show 8 + (6 + 11) + (0) ≤ 60 * d + 6000; omega⟩) ⟨fun a U g mk q => by obtain ⟨q0, q1, q2, qK, q10, q11, q12, q13, q14, q15, q16, q17, q18, q19⟩ := q; exact ⟨q0, q1, q2, jG.calling g mk a qK, q10, q11, q12, q13, q14, q15, q16, q17, q18, q19⟩, hh_17.recv (C := RX13) (T := TX13) (N := 50) hB15 rfl (by decide) hg_r0 hK, fun U hU hW => ⟨rfl, hU, hh_17.2.1, hG.step hW hU hh_17.1, hg_r0, hg_zs, hg_zn, hg_za, hg_zb, hg_zc, hg_zy, (hh_17.2.2.1.sub (L1 := [(r0, 15, 5, .int qn_17), (r0, 15, 0, .ref zs), (r0, 15, 1, .ref zn), (r0, 15, 2, .ref za), (r0, 15, 3, .ref zb), (r0, 15, 4, .ref zc), (r0, 15, 14, .ref zy)]) [0, 2, 3, 4, 5, 6, 7] rfl), (hh_17.2.2.2.2.2.2.2.1.sub (L1 := [(zs, 150, 120000, ca 1, D_17.s), (zn, 151, 120000, ca 1, D_17.n), (za, 152, 120000, ca 1, D_17.a), (zb, 153, 120000, ca 1, D_17.b), (zc, 154, 120000, ca 1, D_17.c), (zy, 165, 16, ca 1, D_17.y)]) [0, 1, 2, 3, 4, 5] rfl), by first | omega | (refine ⟨?_, ?_⟩ <;> (first | omega | rfl | assumption | decide | exact Or.inl rfl | exact Or.inr rfl | (simp only; omega)))⟩⟩ rfl rfl hl.1 rfl (lv_room (Nat.le_of_ble_eq_true rfl)) dX13_replaced_102 ⟨Nat.zero_le _, Nat.zero_le _⟩) hh_17.1 (fun q _ h => h) (fun q h => h) (fun r_23 u_22 t_22 H_22 locs_22 ht_22 hvm_22 hr_23 hb_22 hz_22 hk_22 hS_22 => ?_)
          obtain ⟨qn_22, D_22⟩ := u_22
          rw [ht_22] at hb_22
          obtain ⟨⟨hb_221, hb_222, hb_223, hb_224, hb_225⟩, hb_226⟩ := hb_22
          have hh_22 : jSt (dC, dI) B base G0 G0 EX13_replaced s.heap 0 0 [(r0, 15, 5, .int qn_22), (r0, 15, 11, .int py), (r0, 15, 0, .ref zs), (r0, 15, 1, .ref zn), (r0, 15, 2, .ref za), (r0, 15, 3, .ref zb), (r0, 15, 4, .ref zc), (r0, 15, 14, .ref zy)] [(zs, 150, 120000, ca 1, D_22.s), (zn, 151, 120000, ca 1, D_22.n), (za, 152, 120000, ca 1, D_22.a), (zb, 153, 120000, ca 1, D_22.b), (zc, 154, 120000, ca 1, D_22.c), (zy, 165, 16, ca 1, D_22.y), (zy, 165, 16, ca 1, D_17.y), (zy, 165, 16, ca 1, D_8.y), (zy, 165, 16, ca 1, C.y)] [] H_22 locs_22 := ((hh_17.call hb_221 hb_222 hb_223 hb_224 hS_22 rfl (L1 := [(r0, 15, 11, .int py), (r0, 15, 0, .ref zs), (r0, 15, 1, .ref zn), (r0, 15, 2, .ref za), (r0, 15, 3, .ref zb), (r0, 15, 4, .ref zc), (r0, 15, 14, .ref zy)]) [1, 2, 3, 4, 5, 6, 7] rfl rfl (M1 := [(zy, 165, 16, ca 1, D_17.y), (zy, 165, 16, ca 1, D_8.y), (zy, 165, 16, ca 1, C.y)]) [5, 6, 7] rfl rfl (I1 := []) [] rfl rfl).more hb_225).moreM hb_226
          clear hh_17 ht_22 hvm_22 hz_22 hk_22 hS_22 hb_221 hb_222 hb_223 hb_224 hb_225
          clear hb_226
          try simp only at hr_23
          obtain ⟨hr_23_0, hr_23_1, hr_23_2⟩ := hr_23
          first | rw [hqz_19, hqz_20, hso2.1, hso2.2.1] at hr_23_2 | rw [hqz_19, hqz_20, hso1.1, hso1.2.1] at hr_23_2
          rw [hQ]
          exact W.iret (v := r_23) hx hb hr (fun t ht hW => ⟨⟨r_23, (qn_22, D_22), rfl, by
    try dsimp only
    have h00 : jPts C a1.toInt = 2 := by omega
    have key := jRe4 (v := gb) hp0 (hr_9_2.tr hr_18_2 hr_9_0) (Int.le_trans hr_9_0 hr_18_0) hr_23_2 (fun q => (hp0.bnd q).2.1) (by omega) (fun _ => hr_9_3.ag hr_18_2 hr_18_0) (fun _ => hr_18_3) (fun q => absurd q (by omega))
    have j1 := jsz_ag hr_18_2 hr_9_3
    have ys := (jSzK_y C a1.toInt (jPts C a1.toInt)).2.2.1 h00
    have yc := ((jCd_y (t := a2.toInt) (u := a3.toInt) htr (by omega)).2 (by omega)).2.2.1 h00
    refine ⟨by omega, by omega, key.1, ?_, ?_⟩
    · rw [hr_23_0, hr_23_1]; exact key.2.1.mono (by omega) (Int.le_refl _)
    · rw [hr_23_0, key.2.2.2.1 h00]; omega, ⟨hh_22.rt (M1 := [(r0, 15, 5, .int qn_22)]) [0] rfl ht, by rw [ht]; exact hh_22.2.2.2.2.2.2.2.1.sub [0, 1, 2, 3, 4, 5] rfl⟩⟩, by rw [ht]; try exact hh_22.1.1, fun q h9 hq => by rw [ht]; try exact hh_22.1.2.1 q h9 hq⟩) hh_22.1.2.2 dX13_replaced_105
        · skip
          have c_21' : r_5.toInt > 2 := jb_le_n (rfl) ((by decide)) c_21
          have y2 := (jSzK_y C a1.toInt (jPts C a1.toInt)).2.2.2 (by omega)
          have hn2 := jsz_nn C (jSo C.c a1.toInt)
          have hu2 := hp1.ag (hr_9_2.tr hr_18_2 hr_9_0) (Int.le_trans hr_9_0 hr_18_0)
          have hv2 := hp2.ag (hr_9_2.tr hr_18_2 hr_9_0) (Int.le_trans hr_9_0 hr_18_0)
          have hf2 : jFm D_17 qn_17.toInt py.toInt (d - 1) (gb + jQf C a1.toInt) (jSo C.c a1.toInt) := (hp0.part (k := 2) (by omega) (by omega)).ag (hr_9_2.tr hr_18_2 hr_9_0) (Int.le_trans hr_9_0 hr_18_0)
          have hz2 : jsz D_17 (jSo C.c a1.toInt) = jsz C (jSo C.c a1.toInt) := jsz_ag (hr_9_2.tr hr_18_2 hr_9_0) (hp0.part (k := 2) (by omega) (by omega))
          have hc2 : jCd D_17 a2.toInt a3.toInt (jSo C.c a1.toInt) = jCd C a2.toInt a3.toInt (jSo C.c a1.toInt) := jCd_ag (hr_9_2.tr hr_18_2 hr_9_0) (hp0.part (k := 2) (by omega) (by omega)) hp1 hp2
          refine lv_aload_n hx hb dX13_replaced_86 rfl (lv_at hl 3 rfl) ?_
          refine lv_aload_n hx hb dX13_replaced_87 rfl (lv_at hl 3 rfl) ?_
          refine j7_read hx hb hown hK (C := RX13) (T := TX13) (N := 50) rfl hly_15_4 hlk_25 (hh_17.at 6 rfl) dX13_replaced_88 ?_
          refine lv_iload_n hx hb dX13_replaced_91 rfl (lv_at hl 4 rfl) ?_
          refine j7_ialdM hx hb hK hh_17 hB154 1 rfl (by decide) hg_zc (x := a1.toInt) (rfl) (by omega) (j := 4) rfl dX13_replaced_92 (fun z_24 ez_24 (hz_24 : True) => ?_)
          have hqz_24 : z_24.toInt = jSo D_17.c (a1.toInt) := by unfold jSo; rw [ez_24]
          refine lv_iload_n hx hb dX13_replaced_93 rfl (lv_at hl 5 rfl) ?_
          refine lv_iload_n hx hb dX13_replaced_94 rfl (lv_at hl 6 rfl) ?_
          refine va_calli (A0 := jA base) (H0 := s.heap) (va_runV (As := [.int z_24, .int a2, .int a3]) (rest := [.int r_18, .int r_9, .int z_20, .int z_19, .ref r0]) ⟨hx, hb, hml, hown, hts⟩ (ih (d - 1) (by omega) G0 H_17 r0 z_24 a2 a3 qn_17 py zs zn za zb zc zy (gb + jQf C a1.toInt) D_17) (cwV 3 hts (jgV (jWr_69 _ (List.mem_of_getElem? (i := 7) rfl)) (jWr_69 _ (List.mem_of_getElem? (i := 8) rfl)) (jWr_69 _ (List.mem_of_getElem? (i := 9) rfl)) (jWr_12 _ (List.mem_of_getElem? (i := 12) rfl)) (jWr_69 _ (List.mem_of_getElem? (i := 10) rfl))) rfl rfl rfl (by decide +kernel) ⟨by rw [← hR]; show (d - 1 + 90) + 1 ≤ d + 90; omega, by rw [← hR]; show 8 + (7 + 11) + (60 * (d - 1) + 6000) ≤ 60 * d + 6000; omega⟩) ⟨fun a U g mk q => by obtain ⟨q0, q1, q2, qK, q10, q11, q12, q13, q14, q15, q16, q17, q18, q19⟩ := q; exact ⟨q0, q1, q2, jG.calling g mk a qK, q10, q11, q12, q13, q14, q15, q16, q17, q18, q19⟩, hh_17.recv (C := RX13) (T := TX13) (N := 50) hB15 rfl (by decide) hg_r0 hK, fun U hU hW => ⟨rfl, hU, hh_17.2.1, hG.step hW hU hh_17.1, hg_r0, hg_zs, hg_zn, hg_za, hg_zb, hg_zc, hg_zy, (hh_17.2.2.1.sub (L1 := [(r0, 15, 5, .int qn_17), (r0, 15, 11, .int py), (r0, 15, 0, .ref zs), (r0, 15, 1, .ref zn), (r0, 15, 2, .ref za), (r0, 15, 3, .ref zb), (r0, 15, 4, .ref zc), (r0, 15, 14, .ref zy)]) [0, 1, 2, 3, 4, 5, 6, 7] rfl), (hh_17.2.2.2.2.2.2.2.1.sub (L1 := [(zs, 150, 120000, ca 1, D_17.s), (zn, 151, 120000, ca 1, D_17.n), (za, 152, 120000, ca 1, D_17.a), (zb, 153, 120000, ca 1, D_17.b), (zc, 154, 120000, ca 1, D_17.c), (zy, 165, 16, ca 1, D_17.y)]) [0, 1, 2, 3, 4, 5] rfl), ⟨(by first | assumption | (rw [hqz_24, hso2.2.2.2.2]; exact hf2) | (rw [hqz_24, hso2.2.2.2.2, hz2]; omega) | omega), (by first | assumption | (rw [hqz_24, hso2.2.2.2.2]; exact hf2) | (rw [hqz_24, hso2.2.2.2.2, hz2]; omega) | omega), (by first | assumption | (rw [hqz_24, hso2.2.2.2.2]; exact hf2) | (rw [hqz_24, hso2.2.2.2.2, hz2]; omega) | omega), (by first | omega | rfl | assumption | (rw [hqz_24, hso2.2.2.2.2]; exact hf2) | (rw [hqz_24, hso2.2.2.2.2, hz2]; omega)), (by first | omega | rfl | assumption | (rw [hqz_24, hso2.2.2.2.2]; exact hf2) | (rw [hqz_24, hso2.2.2.2.2, hz2]; omega)), (by first | omega | rfl | assumption | (rw [hqz_24, hso2.2.2.2.2]; exact hf2) | (rw [hqz_24, hso2.2.2.2.2, hz2]; omega)), (by first | omega | rfl | assumption | (rw [hqz_24, hso2.2.2.2.2]; exact hf2) | (rw [hqz_24, hso2.2.2.2.2, hz2]; omega)), (by first | omega | rfl | assumption | (rw [hqz_24, hso2.2.2.2.2]; exact hf2) | (rw [hqz_24, hso2.2.2.2.2, hz2]; omega)), (by first | omega | rfl | assumption | (rw [hqz_24, hso2.2.2.2.2]; exact hf2) | (rw [hqz_24, hso2.2.2.2.2, hz2]; omega))⟩⟩⟩ rfl rfl hl.1 rfl (lv_room (Nat.le_of_ble_eq_true rfl)) dX13_replaced_95 ⟨Nat.zero_le _, Nat.zero_le _⟩) hh_17.1 (fun q _ h => h) (fun q h => h) (fun r_26 u_25 t_25 H_25 locs_25 ht_25 hvm_25 hr_26 hb_25 hz_25 hk_25 hS_25 => ?_)
          obtain ⟨qn_25, D_25⟩ := u_25
          rw [ht_25] at hb_25
          obtain ⟨⟨hb_251, hb_252, hb_253, hb_254, hb_255⟩, hb_256⟩ := hb_25
          have hh_25 : jSt (dC, dI) B base G0 G0 EX13_replaced s.heap 0 0 [(r0, 15, 5, .int qn_25), (r0, 15, 11, .int py), (r0, 15, 0, .ref zs), (r0, 15, 1, .ref zn), (r0, 15, 2, .ref za), (r0, 15, 3, .ref zb), (r0, 15, 4, .ref zc), (r0, 15, 14, .ref zy)] [(zs, 150, 120000, ca 1, D_25.s), (zn, 151, 120000, ca 1, D_25.n), (za, 152, 120000, ca 1, D_25.a), (zb, 153, 120000, ca 1, D_25.b), (zc, 154, 120000, ca 1, D_25.c), (zy, 165, 16, ca 1, D_25.y), (zy, 165, 16, ca 1, D_17.y), (zy, 165, 16, ca 1, D_8.y), (zy, 165, 16, ca 1, C.y)] [] H_25 locs_25 := ((hh_17.call hb_251 hb_252 hb_253 hb_254 hS_25 rfl (L1 := [(r0, 15, 11, .int py), (r0, 15, 0, .ref zs), (r0, 15, 1, .ref zn), (r0, 15, 2, .ref za), (r0, 15, 3, .ref zb), (r0, 15, 4, .ref zc), (r0, 15, 14, .ref zy)]) [1, 2, 3, 4, 5, 6, 7] rfl rfl (M1 := [(zy, 165, 16, ca 1, D_17.y), (zy, 165, 16, ca 1, D_8.y), (zy, 165, 16, ca 1, C.y)]) [5, 6, 7] rfl rfl (I1 := []) [] rfl rfl).more hb_255).moreM hb_256
          clear hh_17 ht_25 hvm_25 hz_25 hk_25 hS_25 hb_251 hb_252 hb_253 hb_254 hb_255
          clear hb_256
          try simp only at hr_26
          obtain ⟨hr_26_0, hr_26_1, hr_26_2, hr_26_3, hr_26_4⟩ := hr_26
          rw [hqz_24, hso2.2.2.2.2, hz2] at hr_26_1 hr_26_4
          rw [hc2] at hr_26_4
          refine lv_goto (tgt := 102) hx hb dX13_replaced_98 (by decide) ?_
          refine va_calli (A0 := jA base) (H0 := s.heap) (va_runV (As := [.int z_19, .int z_20, .int r_9, .int r_18, .int r_26]) (rest := []) ⟨hx, hb, hml, hown, hts⟩ (uX13_nodeK l dC dI ca base B hB hAp hB15 hB150 hB151 hB152 hB153 hB154 hB165 G0 H_25 r0 z_19 z_20 r_9 r_18 r_26 qn_25 zs zn za zb zc zy D_25) (cwV 5 hts (jgV (jWr_62 _ (List.mem_of_getElem? (i := 9) rfl)) (jWr_62 _ (List.mem_of_getElem? (i := 10) rfl)) (jWr_62 _ (List.mem_of_getElem? (i := 11) rfl)) (jWr_12 _ (List.mem_of_getElem? (i := 12) rfl)) (jWr_62 _ (List.mem_of_getElem? (i := 12) rfl))) rfl rfl rfl (by decide +kernel) ⟨by rw [← hR]; show (0) + 1 ≤ d + 90; omega, by rw [← hR]; show 8 + (6 + 11) + (0) ≤ 60 * d + 6000; omega⟩) ⟨fun a U g mk q => by obtain ⟨q0, q1, q2, qK, q10, q11, q12, q13, q14, q15, q16, q17, q18, q19⟩ := q; exact ⟨q0, q1, q2, jG.calling g mk a qK, q10, q11, q12, q13, q14, q15, q16, q17, q18, q19⟩, hh_25.recv (C := RX13) (T := TX13) (N := 50) hB15 rfl (by decide) hg_r0 hK, fun U hU hW => ⟨rfl, hU, hh_25.2.1, hG.step hW hU hh_25.1, hg_r0, hg_zs, hg_zn, hg_za, hg_zb, hg_zc, hg_zy, (hh_25.2.2.1.sub (L1 := [(r0, 15, 5, .int qn_25), (r0, 15, 0, .ref zs), (r0, 15, 1, .ref zn), (r0, 15, 2, .ref za), (r0, 15, 3, .ref zb), (r0, 15, 4, .ref zc), (r0, 15, 14, .ref zy)]) [0, 2, 3, 4, 5, 6, 7] rfl), (hh_25.2.2.2.2.2.2.2.1.sub (L1 := [(zs, 150, 120000, ca 1, D_25.s), (zn, 151, 120000, ca 1, D_25.n), (za, 152, 120000, ca 1, D_25.a), (zb, 153, 120000, ca 1, D_25.b), (zc, 154, 120000, ca 1, D_25.c), (zy, 165, 16, ca 1, D_25.y)]) [0, 1, 2, 3, 4, 5] rfl), by first | omega | (refine ⟨?_, ?_⟩ <;> (first | omega | rfl | assumption | decide | exact Or.inl rfl | exact Or.inr rfl | (simp only; omega)))⟩⟩ rfl rfl hl.1 rfl (lv_room (Nat.le_of_ble_eq_true rfl)) dX13_replaced_102 ⟨Nat.zero_le _, Nat.zero_le _⟩) hh_25.1 (fun q _ h => h) (fun q h => h) (fun r_28 u_27 t_27 H_27 locs_27 ht_27 hvm_27 hr_28 hb_27 hz_27 hk_27 hS_27 => ?_)
          obtain ⟨qn_27, D_27⟩ := u_27
          rw [ht_27] at hb_27
          obtain ⟨⟨hb_271, hb_272, hb_273, hb_274, hb_275⟩, hb_276⟩ := hb_27
          have hh_27 : jSt (dC, dI) B base G0 G0 EX13_replaced s.heap 0 0 [(r0, 15, 5, .int qn_27), (r0, 15, 11, .int py), (r0, 15, 0, .ref zs), (r0, 15, 1, .ref zn), (r0, 15, 2, .ref za), (r0, 15, 3, .ref zb), (r0, 15, 4, .ref zc), (r0, 15, 14, .ref zy)] [(zs, 150, 120000, ca 1, D_27.s), (zn, 151, 120000, ca 1, D_27.n), (za, 152, 120000, ca 1, D_27.a), (zb, 153, 120000, ca 1, D_27.b), (zc, 154, 120000, ca 1, D_27.c), (zy, 165, 16, ca 1, D_27.y), (zy, 165, 16, ca 1, D_25.y), (zy, 165, 16, ca 1, D_17.y), (zy, 165, 16, ca 1, D_8.y), (zy, 165, 16, ca 1, C.y)] [] H_27 locs_27 := ((hh_25.call hb_271 hb_272 hb_273 hb_274 hS_27 rfl (L1 := [(r0, 15, 11, .int py), (r0, 15, 0, .ref zs), (r0, 15, 1, .ref zn), (r0, 15, 2, .ref za), (r0, 15, 3, .ref zb), (r0, 15, 4, .ref zc), (r0, 15, 14, .ref zy)]) [1, 2, 3, 4, 5, 6, 7] rfl rfl (M1 := [(zy, 165, 16, ca 1, D_25.y), (zy, 165, 16, ca 1, D_17.y), (zy, 165, 16, ca 1, D_8.y), (zy, 165, 16, ca 1, C.y)]) [5, 6, 7, 8] rfl rfl (I1 := []) [] rfl rfl).more hb_275).moreM hb_276
          clear hh_25 ht_27 hvm_27 hz_27 hk_27 hS_27 hb_271 hb_272 hb_273 hb_274 hb_275
          clear hb_276
          try simp only at hr_28
          obtain ⟨hr_28_0, hr_28_1, hr_28_2⟩ := hr_28
          first | rw [hqz_19, hqz_20, hso2.1, hso2.2.1] at hr_28_2 | rw [hqz_19, hqz_20, hso1.1, hso1.2.1] at hr_28_2
          rw [hQ]
          exact W.iret (v := r_28) hx hb hr (fun t ht hW => ⟨⟨r_28, (qn_27, D_27), rfl, by
    try dsimp only
    have h00 : jPts C a1.toInt = 3 := by omega
    have key := jRe4 (v := gb) hp0 ((hr_9_2.tr hr_18_2 hr_9_0).tr hr_26_2 (Int.le_trans hr_9_0 hr_18_0)) (by omega) hr_28_2 (fun q => (hp0.bnd q).2.1) (by omega) (fun _ => (hr_9_3.ag hr_18_2 hr_18_0).ag hr_26_2 hr_26_0) (fun _ => hr_18_3.ag hr_26_2 hr_26_0) (fun _ => hr_26_3)
    have j1 := jsz_ag hr_18_2 hr_9_3
    have j2 := jsz_ag hr_26_2 hr_18_3
    have j3 := jsz_ag hr_26_2 (hr_9_3.ag hr_18_2 hr_18_0)
    have ys := (jSzK_y C a1.toInt (jPts C a1.toInt)).2.2.2 h00
    have yc := ((jCd_y (t := a2.toInt) (u := a3.toInt) htr (by omega)).2 (by omega)).2.2.2 h00
    refine ⟨by omega, by omega, key.1, ?_, ?_⟩
    · rw [hr_28_0, hr_28_1]; exact key.2.1.mono (by omega) (Int.le_refl _)
    · rw [hr_28_0, key.2.2.2.2 h00]; omega, ⟨hh_27.rt (M1 := [(r0, 15, 5, .int qn_27)]) [0] rfl ht, by rw [ht]; exact hh_27.2.2.2.2.2.2.2.1.sub [0, 1, 2, 3, 4, 5] rfl⟩⟩, by rw [ht]; try exact hh_27.1.1, fun q h9 hq => by rw [ht]; try exact hh_27.1.2.1 q h9 hq⟩) hh_27.1.2.2 dX13_replaced_105
    · skip
      have c_6' : r_5.toInt = 0 := jb_ne_n (rfl) ((by decide)) c_6
      refine lv_iload_n hx hb dX13_replaced_23 rfl (lv_at hl 2 rfl) ?_
      rw [hQ]
      exact W.iret (v := a1) hx hb hr (fun t ht hW => ⟨⟨a1, (pn, C), rfl, by
    try dsimp only
    have h00 : jPts C a1.toInt = 0 := by omega
    have z3 := ((jCd_y (t := a2.toInt) (u := a3.toInt) htr (by omega)).2 (by omega)).1 h00
    exact ⟨by omega, by omega, jAgK.rf _ _, hp0.mono (by omega) (Int.le_refl _), by omega⟩, ⟨hh_4.rt (M1 := [(r0, 15, 5, .int pn)]) [0] rfl ht, by rw [ht]; exact hh_4.2.2.2.2.2.2.2.1.sub [0, 1, 2, 3, 4, 5] rfl⟩⟩, by rw [ht]; try exact hh_4.1.1, fun q h9 hq => by rw [ht]; try exact hh_4.1.2.1 q h9 hq⟩) hh_4.1.2.2 dX13_replaced_24
  · skip
    have c_3' : r_2.toInt ≠ 0 := jb_eq_n (rfl) ((by decide)) c_3
    refine lv_iload_n hx hb dX13_replaced_9 rfl (lv_at hl 3 rfl) ?_
    rw [hQ]
    exact W.iret (v := a3) hx hb hr (fun t ht hW => ⟨⟨a3, (pn, C), rfl, by
    try dsimp only
    have h01 : jSm C a1.toInt a2.toInt = 1 := by omega
    have z2 := jSm_sz (by omega : 80 ≤ 4000) (hp0.mono (by omega : d ≤ 80) (Int.le_refl _)) hp1 h01
    have z3 := (jCd_y (t := a2.toInt) (u := a3.toInt) htr (by omega)).1 h01
    exact ⟨by omega, by omega, jAgK.rf _ _, hp2.mono (by omega) (by omega), by omega⟩, ⟨hh_1.rt (M1 := [(r0, 15, 5, .int pn)]) [0] rfl ht, by rw [ht]; exact hh_1.2.2.2.2.2.2.2.1.sub [0, 1, 2, 3, 4, 5] rfl⟩⟩, by rw [ht]; try exact hh_1.1.1, fun q h9 hq => by rw [ht]; try exact hh_1.1.2.1 q h9 hq⟩) hh_1.1.2.2 dX13_replaced_10
theorem aX13_replaced (l : Launch) (dC : Nat → ClassId) (dI : Nat → Nat → Nat) (ca : Nat → ClassId) (base : Nat) (B : jF) (hB : jBok B) (hAp : jAp (dC, dI)) (hB15 : ∀ n G a H, B 15 n G a H ↔ jOb (dC, dI) 15 50 (F15 n G) a H) (hB150 : ∀ n G a H, B 150 n G a H ↔ jAr (dC, dI) (ca 1) (fun j z => True) n a H) (hB151 : ∀ n G a H, B 151 n G a H ↔ jAr (dC, dI) (ca 1) (fun j z => True) n a H) (hB152 : ∀ n G a H, B 152 n G a H ↔ jAr (dC, dI) (ca 1) (fun j z => True) n a H) (hB153 : ∀ n G a H, B 153 n G a H ↔ jAr (dC, dI) (ca 1) (fun j z => True) n a H) (hB154 : ∀ n G a H, B 154 n G a H ↔ jAr (dC, dI) (ca 1) (fun j z => True) n a H) (hB165 : ∀ n G a H, B 165 n G a H ↔ jAr (dC, dI) (ca 1) (fun j z => 0 ≤ z.toInt ∧ z.toInt ≤ 3) n a H) : ∀ ef, qX13_replaced l dC dI ca base B ef := fun ef => Nat.strongRecOn ef (fun e ih => fun G0 H0 r0 a1 a2 a3 pn py zs zn za zb zc zy gb C => uX13_replaced l dC dI ca base B hB hAp hB15 hB150 hB151 hB152 hB153 hB154 hB165 e ih G0 H0 r0 a1 a2 a3 pn py zs zn za zb zc zy gb C)
end
section
-- goals, hypotheses, facts of the reference's kernel: slots of arrays
def jTm (fg fh fp gg gh gp : Nat → Int32) (p q n : Int) : Prop := (∀ j : Int, 0 ≤ j → j < q → ∃ i : Int, 0 ≤ i ∧ i < p ∧ jSe fg fh fp gg gh gp i j) ∧ ∀ j : Int, 0 ≤ j → j < n → jSe fg fh fp gg gh gp 0 j
theorem jT0.tm {fg fh fp gg gh gp : Nat → Int32} {p q v n : Int} (h : jT0 fg fh fp gg gh gp p v) (hv : v = p - 1) (hq : q = p - 1) (hn : n ≤ 0) : jTm fg fh fp gg gh gp p q n := ⟨fun j g0 g1 => ⟨j + 1, by omega, by omega, h.1 j g0 (by omega)⟩, fun j g0 g1 => by omega⟩
theorem jTu2.tm {fg fh fp gg gh gp : Nat → Int32} {p q n v : Int} (h : jTu2 fg fh fp gg gh gp p n v) (hv : n ≤ v) (hq : q = p + n - 1) (hp : 1 ≤ p) : jTm fg fh fp gg gh gp p q n := by
  refine ⟨fun j g0 g1 => ?_, fun j g0 g1 => h.2 j g0 (by omega)⟩
  by_cases q : j < n
  · exact ⟨0, by omega, by omega, h.2 j g0 (by omega)⟩
  · have := h.1 (j - n + 1) (by omega) (by omega)
    rw [show j - n + 1 + n - 1 = j by omega] at this
    exact ⟨j - n + 1, by omega, by omega, this⟩
def jAh (fh fp gh gp : Nat → Int32) (g x : Int) : Prop := jUpd 46 fh gh g (jSo fh g + 1) ∧ jUpd 368 fp gp (8 * g + jSo fh g) x
def jDh (fh fp gh gp : Nat → Int32) (x : Int) : Prop := jUpd 46 fh gh x (jSo fh x - 1) ∧ (∀ k : Int, 0 ≤ k → k < jSo fh x - 1 → ∃ i : Int, 0 ≤ i ∧ i < jSo fh x ∧ jSo gp (8 * x + k) = jSo fp (8 * x + i)) ∧ ∀ j : Int, 0 ≤ j → j < 368 → (j < 8 * x ∨ 8 * x + 8 ≤ j) → jSo gp j = jSo fp j
theorem jDq.dh {fh gh f g : Nat → Int32} {x h v : Int} (hq : jDq f g x h v) (hU : jUpd 46 fh gh x (jSo fh x - 1)) (h0 : 0 ≤ h) (h1 : jSo fh x ≤ v + 1) (h8 : jSo fh x ≤ 8) : jDh fh f gh g x := by
  refine ⟨hU, fun k g0 g1 => ?_, hq.2⟩
  by_cases w : k < h
  · exact ⟨k, g0, by omega, (hq.1 k g0 (by omega)).1 (Or.inl w)⟩
  · exact ⟨k + 1, by omega, by omega, (hq.1 k g0 (by omega)).2 (by omega)⟩
-- what is good of all slots
theorem jFa.add {P : Int → Prop} {ff gf : Nat → Int32} {n m x : Int} (h : jFa P ff n) (hU : jUpd 16 ff gf n x) (hx : P x) (hm : m = n + 1) (h16 : n < 16) : jFa P gf m := fun k g0 g1 => by
  by_cases q : k = n
  · rw [q, hU.1]; exact hx
  · rw [hU.2 k g0 (by omega) q]; exact h k g0 (by omega)
theorem jSe.sl {P : Int → Prop} {fg fh fp gg gh gp : Nat → Int32} {i j : Int} (hs : jSe fg fh fp gg gh gp i j) (h : jSl P fg fh fp i) : jSl P gg gh gp j := by
  refine ⟨by rw [hs.1]; exact h.1, by rw [hs.2.1]; exact h.2.1, by rw [hs.2.1]; exact h.2.2.1, fun k g0 g1 => ?_⟩
  rw [hs.2.1] at g1
  rw [hs.2.2 k g0 (by have := h.2.2.1; omega)]
  exact h.2.2.2 k g0 g1
theorem jGl.times {P : Int → Prop} {fg fh fp gg gh gp : Nat → Int32} {p q n : Int} (h : jGl P fg fh fp p) (ht : jTm fg fh fp gg gh gp p q n) : jGl P gg gh gp q := fun g g0 g1 => by
  obtain ⟨i, h0, h1, h2⟩ := ht.1 g g0 g1
  exact h2.sl (h i h0 h1)
theorem jGl.add {P : Int → Prop} {fg fh fp gh gp : Nat → Int32} {n i x : Int} (h : jGl P fg fh fp n) (hA : jAh fh fp gh gp i x) (hx : P x) (h0 : 0 ≤ i) (h1 : i ≤ 45) (h7 : jSo fh i ≤ 7) (hn : n ≤ 46) (hi : 0 ≤ jSo fh i) : jGl P fg gh gp n := fun g g0 g1 => by
  obtain ⟨q1, q2, q3, q4⟩ := h g g0 g1
  by_cases q : g = i
  · subst q
    refine ⟨q1, by rw [hA.1.1]; omega, by rw [hA.1.1]; omega, fun k r0 r1 => ?_⟩
    rw [hA.1.1] at r1
    by_cases w : k = jSo fh g
    · rw [w, hA.2.1]; exact hx
    · rw [hA.2.2 _ (by omega) (by omega) (by omega)]; exact q4 k r0 (by omega)
  · have e := hA.1.2 g g0 (by omega) q
    refine ⟨q1, by rw [e]; exact q2, by rw [e]; exact q3, fun k r0 r1 => ?_⟩
    rw [e] at r1
    rw [hA.2.2 _ (by omega) (by omega) (by omega)]; exact q4 k r0 r1
theorem jGl.drop {P : Int → Prop} {fg fh fp gh gp : Nat → Int32} {n i : Int} (h : jGl P fg fh fp n) (hD : jDh fh fp gh gp i) (h1 : 1 ≤ jSo fh i) (h0 : 0 ≤ i) (hn : n ≤ 46) : jGl P fg gh gp n := fun g g0 g1 => by
  obtain ⟨q1, q2, q3, q4⟩ := h g g0 g1
  by_cases q : g = i
  · subst q
    refine ⟨q1, by rw [hD.1.1]; omega, by rw [hD.1.1]; omega, fun k r0 r1 => ?_⟩
    rw [hD.1.1] at r1
    obtain ⟨j, w0, w1, w2⟩ := hD.2.1 k r0 r1
    rw [w2]; exact q4 j w0 w1
  · have e := hD.1.2 g g0 (by omega) q
    refine ⟨q1, by rw [e]; exact q2, by rw [e]; exact q3, fun k r0 r1 => ?_⟩
    rw [e] at r1
    rw [hD.2.2 _ (by omega) (by omega) (by omega)]; exact q4 k r0 r1
end
