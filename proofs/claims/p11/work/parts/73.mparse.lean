theorem dX13_readTerm_0 : decode cX13_readTerm 0 = .ok (.aload_n 0, 1) := by decide +kernel
theorem dX13_readTerm_1 : decode cX13_readTerm 1 = .ok (.invokevirtual 194, 3) := by decide +kernel
theorem dX13_readTerm_4 : decode cX13_readTerm 4 = .ok (.istore_n 2, 1) := by decide +kernel
theorem dX13_readTerm_5 : decode cX13_readTerm 5 = .ok (.aload_n 0, 1) := by decide +kernel
theorem dX13_readTerm_6 : decode cX13_readTerm 6 = .ok (.getfield 181, 3) := by decide +kernel
theorem dX13_readTerm_9 : decode cX13_readTerm 9 = .ok (.ifCond .eq 5, 3) := by decide +kernel
theorem dX13_readTerm_12 : decode cX13_readTerm 12 = .ok (.iconst 0, 1) := by decide +kernel
theorem dX13_readTerm_13 : decode cX13_readTerm 13 = .ok (.ireturn, 1) := by decide +kernel
theorem dX13_readTerm_14 : decode cX13_readTerm 14 = .ok (.aload_n 0, 1) := by decide +kernel
theorem dX13_readTerm_15 : decode cX13_readTerm 15 = .ok (.bipush 11, 2) := by decide +kernel
theorem dX13_readTerm_17 : decode cX13_readTerm 17 = .ok (.iload_n 2, 1) := by decide +kernel
theorem dX13_readTerm_18 : decode cX13_readTerm 18 = .ok (.iconst (-1), 1) := by decide +kernel
theorem dX13_readTerm_19 : decode cX13_readTerm 19 = .ok (.iconst (-1), 1) := by decide +kernel
theorem dX13_readTerm_20 : decode cX13_readTerm 20 = .ok (.iconst 0, 1) := by decide +kernel
theorem dX13_readTerm_21 : decode cX13_readTerm 21 = .ok (.invokevirtual 197, 3) := by decide +kernel
theorem dX13_readTerm_24 : decode cX13_readTerm 24 = .ok (.istore_n 3, 1) := by decide +kernel
theorem dX13_readTerm_25 : decode cX13_readTerm 25 = .ok (.aload_n 0, 1) := by decide +kernel
theorem dX13_readTerm_26 : decode cX13_readTerm 26 = .ok (.bipush 40, 2) := by decide +kernel
theorem dX13_readTerm_28 : decode cX13_readTerm 28 = .ok (.invokevirtual 178, 3) := by decide +kernel
theorem dX13_readTerm_31 : decode cX13_readTerm 31 = .ok (.ifCond .ne 5, 3) := by decide +kernel
theorem dX13_readTerm_34 : decode cX13_readTerm 34 = .ok (.iload_n 3, 1) := by decide +kernel
theorem dX13_readTerm_35 : decode cX13_readTerm 35 = .ok (.ireturn, 1) := by decide +kernel
theorem dX13_readTerm_36 : decode cX13_readTerm 36 = .ok (.iload_n 1, 1) := by decide +kernel
theorem dX13_readTerm_37 : decode cX13_readTerm 37 = .ok (.bipush 12, 2) := by decide +kernel
theorem dX13_readTerm_39 : decode cX13_readTerm 39 = .ok (.if_icmp .ne 8, 3) := by decide +kernel
theorem dX13_readTerm_42 : decode cX13_readTerm 42 = .ok (.aload_n 0, 1) := by decide +kernel
theorem dX13_readTerm_43 : decode cX13_readTerm 43 = .ok (.iconst 1, 1) := by decide +kernel
theorem dX13_readTerm_44 : decode cX13_readTerm 44 = .ok (.putfield 181, 3) := by decide +kernel
theorem dX13_readTerm_47 : decode cX13_readTerm 47 = .ok (.aload_n 0, 1) := by decide +kernel
theorem dX13_readTerm_48 : decode cX13_readTerm 48 = .ok (.dup, 1) := by decide +kernel
theorem dX13_readTerm_49 : decode cX13_readTerm 49 = .ok (.getfield 171, 3) := by decide +kernel
theorem dX13_readTerm_52 : decode cX13_readTerm 52 = .ok (.iconst 1, 1) := by decide +kernel
theorem dX13_readTerm_53 : decode cX13_readTerm 53 = .ok (.iadd, 1) := by decide +kernel
theorem dX13_readTerm_54 : decode cX13_readTerm 54 = .ok (.putfield 171, 3) := by decide +kernel
theorem dX13_readTerm_57 : decode cX13_readTerm 57 = .ok (.iconst (-1), 1) := by decide +kernel
theorem dX13_readTerm_58 : decode cX13_readTerm 58 = .ok (.istore 4, 2) := by decide +kernel
theorem dX13_readTerm_60 : decode cX13_readTerm 60 = .ok (.iconst 1, 1) := by decide +kernel
theorem dX13_readTerm_61 : decode cX13_readTerm 61 = .ok (.istore 5, 2) := by decide +kernel
theorem dX13_readTerm_63 : decode cX13_readTerm 63 = .ok (.iload 5, 2) := by decide +kernel
theorem dX13_readTerm_65 : decode cX13_readTerm 65 = .ok (.ifCond .eq 84, 3) := by decide +kernel
theorem dX13_readTerm_68 : decode cX13_readTerm 68 = .ok (.aload_n 0, 1) := by decide +kernel
theorem dX13_readTerm_69 : decode cX13_readTerm 69 = .ok (.getfield 181, 3) := by decide +kernel
theorem dX13_readTerm_72 : decode cX13_readTerm 72 = .ok (.ifCond .ne 77, 3) := by decide +kernel
theorem dX13_readTerm_75 : decode cX13_readTerm 75 = .ok (.aload_n 0, 1) := by decide +kernel
theorem dX13_readTerm_76 : decode cX13_readTerm 76 = .ok (.iload_n 1, 1) := by decide +kernel
theorem dX13_readTerm_77 : decode cX13_readTerm 77 = .ok (.iconst 1, 1) := by decide +kernel
theorem dX13_readTerm_78 : decode cX13_readTerm 78 = .ok (.iadd, 1) := by decide +kernel
theorem dX13_readTerm_79 : decode cX13_readTerm 79 = .ok (.invokevirtual 201, 3) := by decide +kernel
theorem dX13_readTerm_82 : decode cX13_readTerm 82 = .ok (.istore 6, 2) := by decide +kernel
theorem dX13_readTerm_84 : decode cX13_readTerm 84 = .ok (.iload 4, 2) := by decide +kernel
theorem dX13_readTerm_86 : decode cX13_readTerm 86 = .ok (.ifCond .ge 14, 3) := by decide +kernel
theorem dX13_readTerm_89 : decode cX13_readTerm 89 = .ok (.aload_n 0, 1) := by decide +kernel
theorem dX13_readTerm_90 : decode cX13_readTerm 90 = .ok (.getfield 19, 3) := by decide +kernel
theorem dX13_readTerm_93 : decode cX13_readTerm 93 = .ok (.iload_n 3, 1) := by decide +kernel
theorem dX13_readTerm_94 : decode cX13_readTerm 94 = .ok (.iload 6, 2) := by decide +kernel
theorem dX13_readTerm_96 : decode cX13_readTerm 96 = .ok (.iastore, 1) := by decide +kernel
theorem dX13_readTerm_97 : decode cX13_readTerm 97 = .ok (.goto 12, 3) := by decide +kernel
theorem dX13_readTerm_100 : decode cX13_readTerm 100 = .ok (.aload_n 0, 1) := by decide +kernel
theorem dX13_readTerm_101 : decode cX13_readTerm 101 = .ok (.getfield 22, 3) := by decide +kernel
theorem dX13_readTerm_104 : decode cX13_readTerm 104 = .ok (.iload 4, 2) := by decide +kernel
theorem dX13_readTerm_106 : decode cX13_readTerm 106 = .ok (.iload 6, 2) := by decide +kernel
theorem dX13_readTerm_108 : decode cX13_readTerm 108 = .ok (.iastore, 1) := by decide +kernel
theorem dX13_readTerm_109 : decode cX13_readTerm 109 = .ok (.iload 6, 2) := by decide +kernel
theorem dX13_readTerm_111 : decode cX13_readTerm 111 = .ok (.istore 4, 2) := by decide +kernel
theorem dX13_readTerm_113 : decode cX13_readTerm 113 = .ok (.aload_n 0, 1) := by decide +kernel
theorem dX13_readTerm_114 : decode cX13_readTerm 114 = .ok (.getfield 25, 3) := by decide +kernel
theorem dX13_readTerm_117 : decode cX13_readTerm 117 = .ok (.iload_n 3, 1) := by decide +kernel
theorem dX13_readTerm_118 : decode cX13_readTerm 118 = .ok (.dup2, 1) := by decide +kernel
theorem dX13_readTerm_119 : decode cX13_readTerm 119 = .ok (.iaload, 1) := by decide +kernel
theorem dX13_readTerm_120 : decode cX13_readTerm 120 = .ok (.iconst 1, 1) := by decide +kernel
theorem dX13_readTerm_121 : decode cX13_readTerm 121 = .ok (.iadd, 1) := by decide +kernel
theorem dX13_readTerm_122 : decode cX13_readTerm 122 = .ok (.iastore, 1) := by decide +kernel
theorem dX13_readTerm_123 : decode cX13_readTerm 123 = .ok (.aload_n 0, 1) := by decide +kernel
theorem dX13_readTerm_124 : decode cX13_readTerm 124 = .ok (.bipush 44, 2) := by decide +kernel
theorem dX13_readTerm_126 : decode cX13_readTerm 126 = .ok (.invokevirtual 178, 3) := by decide +kernel
theorem dX13_readTerm_129 : decode cX13_readTerm 129 = .ok (.istore 5, 2) := by decide +kernel
theorem dX13_readTerm_131 : decode cX13_readTerm 131 = .ok (.iload 5, 2) := by decide +kernel
theorem dX13_readTerm_133 : decode cX13_readTerm 133 = .ok (.ifCond .eq 13, 3) := by decide +kernel
theorem dX13_readTerm_136 : decode cX13_readTerm 136 = .ok (.aload_n 0, 1) := by decide +kernel
theorem dX13_readTerm_137 : decode cX13_readTerm 137 = .ok (.dup, 1) := by decide +kernel
theorem dX13_readTerm_138 : decode cX13_readTerm 138 = .ok (.getfield 171, 3) := by decide +kernel
theorem dX13_readTerm_141 : decode cX13_readTerm 141 = .ok (.iconst 1, 1) := by decide +kernel
theorem dX13_readTerm_142 : decode cX13_readTerm 142 = .ok (.iadd, 1) := by decide +kernel
theorem dX13_readTerm_143 : decode cX13_readTerm 143 = .ok (.putfield 171, 3) := by decide +kernel
theorem dX13_readTerm_146 : decode cX13_readTerm 146 = .ok (.goto (-83), 3) := by decide +kernel
theorem dX13_readTerm_149 : decode cX13_readTerm 149 = .ok (.aload_n 0, 1) := by decide +kernel
theorem dX13_readTerm_150 : decode cX13_readTerm 150 = .ok (.bipush 41, 2) := by decide +kernel
theorem dX13_readTerm_152 : decode cX13_readTerm 152 = .ok (.invokevirtual 205, 3) := by decide +kernel
theorem dX13_readTerm_155 : decode cX13_readTerm 155 = .ok (.iload_n 3, 1) := by decide +kernel
theorem dX13_readTerm_156 : decode cX13_readTerm 156 = .ok (.ireturn, 1) := by decide +kernel
def EX13_readTerm : List (Nat × Nat) := [(15, 5), (15, 32), (15, 33), (150, 0), (151, 0), (152, 0), (153, 0), (154, 0)]
def qX13_readTerm (l : Launch) (dC : Nat → ClassId) (dI : Nat → Nat → Nat) (ca : Nat → ClassId) (base : Nat) (B : jF) (d : Nat) : Prop := ∀ (G0 : jT) (H0 : Heap) (r0 : Nat) (a1 : Int32) (pk : Int32) (pa : Int32) (pn : Int32), Met l yX13_readTerm (jw yX13_readTerm cX13_readTerm 7 (some .int)) ({ frames := d + 8, cells := 0, slots := 0, locals := 60 * d + 400 }) (va_Pc [.ref r0, .int a1] (fun U => U.heap = H0 ∧ jX B base G0 [] H0 ∧ jG dC dI ca base U ∧ G0 r0 = some (15, 0) ∧ jP (dC, dI) G0 H0 [(r0, 15, 30, .int pk), (r0, 15, 32, .int pa), (r0, 15, 5, .int pn)] ∧ 0 ≤ pa.toInt ∧ pa.toInt ≤ pk.toInt ∧ pk.toInt ≤ 1500 ∧ 0 ≤ pn.toInt ∧ pn.toInt + 2 * (pk.toInt - pa.toInt) ≤ 119990 ∧ a1.toInt = 12 - d ∧ d ≤ 12)) (va_Qi (S := Int32 × Int32) (fun r u => (0 ≤ r.toInt ∧ r.toInt ≤ 119999 ∧ pa.toInt ≤ u.1.toInt ∧ u.1.toInt ≤ pk.toInt ∧ pn.toInt ≤ u.2.toInt ∧ u.2.toInt ≤ pn.toInt + 2 * (u.1.toInt - pa.toInt) + 1)) (fun u t => jRt (dC, dI) B base G0 EX13_readTerm H0 [(r0, 15, 32, .int u.1), (r0, 15, 5, .int u.2)] t.heap) (jA base)) 0 0 (jA base)
set_option maxHeartbeats 4000000 in
set_option maxRecDepth 20000 in
theorem uX13_readTerm (l : Launch) (dC : Nat → ClassId) (dI : Nat → Nat → Nat) (ca : Nat → ClassId) (base : Nat) (B : jF) (hB : jBok B) (hAp : jAp (dC, dI)) (hB15 : ∀ n G a H, B 15 n G a H ↔ jOb (dC, dI) 15 50 (F15 n G) a H) (hB150 : ∀ n G a H, B 150 n G a H ↔ jAr (dC, dI) (ca 1) (fun j z => True) n a H) (hB151 : ∀ n G a H, B 151 n G a H ↔ jAr (dC, dI) (ca 1) (fun j z => True) n a H) (hB152 : ∀ n G a H, B 152 n G a H ↔ jAr (dC, dI) (ca 1) (fun j z => True) n a H) (hB153 : ∀ n G a H, B 153 n G a H ↔ jAr (dC, dI) (ca 1) (fun j z => True) n a H) (hB154 : ∀ n G a H, B 154 n G a H ↔ jAr (dC, dI) (ca 1) (fun j z => True) n a H) (hB155 : ∀ n G a H, B 155 n G a H ↔ jAr (dC, dI) (ca 1) (fun j z => 0 ≤ z.toInt ∧ z.toInt ≤ 11990) n a H) (hB156 : ∀ n G a H, B 156 n G a H ↔ jAr (dC, dI) (ca 1) (fun j z => 0 ≤ z.toInt ∧ z.toInt ≤ 10) n a H) (hB157 : ∀ n G a H, B 157 n G a H ↔ jAr (dC, dI) (ca 1) (fun j z => 0 ≤ z.toInt ∧ z.toInt ≤ 1599) n a H) (hB166 : ∀ n G a H, B 166 n G a H ↔ jAr (dC, dI) (ca 1) (fun j z => True) n a H) (hB167 : ∀ n G a H, B 167 n G a H ↔ jAr (dC, dI) (ca 1) (fun j z => True) n a H) (d : Nat) (ih : ∀ e1, e1 < d → qX13_readTerm l dC dI ca base B e1) (G0 : jT) (H0 : Heap) (r0 : Nat) (a1 : Int32) (pk : Int32) (pa : Int32) (pn : Int32) : Met l yX13_readTerm (jw yX13_readTerm cX13_readTerm 7 (some .int)) ({ frames := d + 8, cells := 0, slots := 0, locals := 60 * d + 400 }) (va_Pc [.ref r0, .int a1] (fun U => U.heap = H0 ∧ jX B base G0 [] H0 ∧ jG dC dI ca base U ∧ G0 r0 = some (15, 0) ∧ jP (dC, dI) G0 H0 [(r0, 15, 30, .int pk), (r0, 15, 32, .int pa), (r0, 15, 5, .int pn)] ∧ 0 ≤ pa.toInt ∧ pa.toInt ≤ pk.toInt ∧ pk.toInt ≤ 1500 ∧ 0 ≤ pn.toInt ∧ pn.toInt + 2 * (pk.toInt - pa.toInt) ≤ 119990 ∧ a1.toInt = 12 - d ∧ d ≤ 12)) (va_Qi (S := Int32 × Int32) (fun r u => (0 ≤ r.toInt ∧ r.toInt ≤ 119999 ∧ pa.toInt ≤ u.1.toInt ∧ u.1.toInt ≤ pk.toInt ∧ pn.toInt ≤ u.2.toInt ∧ u.2.toInt ≤ pn.toInt + 2 * (u.1.toInt - pa.toInt) + 1)) (fun u t => jRt (dC, dI) B base G0 EX13_readTerm H0 [(r0, 15, 32, .int u.1), (r0, 15, 5, .int u.2)] t.heap) (jA base)) 0 0 (jA base) := by
  refine Met.ofW (cc := cX13_readTerm) (maxL := 7) (ret := (some .int)) (by decide) rfl ?_
  intro p e s m args below meth c s₁ Bd hml hv
  obtain ⟨rfl, hH0, hX, hG, hg_r0, hP0, hp0, hp1, hp2, hp3, hp4, hp5, hp6⟩ := hv
  have hK := hG.1
  have hx := Bd.exec
  have hb := Bd.bytes
  have hr := Bd.returns
  have hts := atoms_spec (ws := (jw yX13_readTerm cX13_readTerm 7 (some .int))) Bd.pre
  have htw : ∀ w ∈ jWl, w.before _ s = true := fun w h => hts w (List.mem_cons_of_mem _ h)
  have hown : s.vm.findClass RX13 = some m.cls := findClass_of_methodNamed Bd.named
  have hlocks := Bd.notSynchronized
  obtain ⟨Q, hQ⟩ : ∃ Q, Q = MQ below (va_Qi (S := Int32 × Int32) (fun r u => (0 ≤ r.toInt ∧ r.toInt ≤ 119999 ∧ pa.toInt ≤ u.1.toInt ∧ u.1.toInt ≤ pk.toInt ∧ pn.toInt ≤ u.2.toInt ∧ u.2.toInt ≤ pn.toInt + 2 * (u.1.toInt - pa.toInt) + 1)) (fun u t => jRt (dC, dI) B base G0 EX13_readTerm H0 [(r0, 15, 32, .int u.1), (r0, 15, 5, .int u.2)] t.heap) (jA base)) ([.ref r0, .int a1] : List Value).toArray s 0 0 (jA base) := ⟨_, rfl⟩
  rw [← hQ]
  have hl := lv_entry ([.ref r0, .int a1]) (n := 7) (Nat.le_of_ble_eq_true rfl)
  rw [lg_entry_eq]
  generalize (lg_sl ([.ref r0, .int a1]) ++ List.replicate (7 - (lg_sl ([.ref r0, .int a1])).length) Slot.unset).toArray = ls at hl ⊢
  have hl : lv_has ls 7 [(0, .ref r0), (1, .int a1)] := hl
  generalize hR : (headSpec (jw yX13_readTerm cX13_readTerm 7 (some .int)) ({ frames := d + 8, cells := 0, slots := 0, locals := 60 * d + 400 })).room = R
  subst hH0
  have hh : jSt (dC, dI) B base G0 G0 EX13_readTerm s.heap 0 0 [(r0, 15, 30, .int pk), (r0, 15, 32, .int pa), (r0, 15, 5, .int pn)] [] [] s.heap [] := jSt.start hX hP0 jMc.nil jIs.nil
  clear hX hP0
  have hkm1 : ((-1) : Int32).toInt = (-1) := by decide
  have hk0 : (0 : Int32).toInt = 0 := by decide
  have hk1 : (1 : Int32).toInt = 1 := by decide
  have hk11 : (11 : Int32).toInt = 11 := by decide
  have hk12 : (12 : Int32).toInt = 12 := by decide
  have hk40 : (40 : Int32).toInt = 40 := by decide
  have hk41 : (41 : Int32).toInt = 41 := by decide
  have hk44 : (44 : Int32).toInt = 44 := by decide
  have hly_15_2 := htw (u_lay RX13 TX13 2) (jWc_wsX130 _ (u_in_lay (by decide)))
  have hly_15_3 := htw (u_lay RX13 TX13 3) (jWc_wsX130 _ (u_in_lay (by decide)))
  have hly_15_4 := htw (u_lay RX13 TX13 4) (jWc_wsX130 _ (u_in_lay (by decide)))
  have hly_15_32 := htw (u_lay RX13 TX13 32) (jWc_wsX130 _ (u_in_lay (by decide)))
  have hly_15_33 := htw (u_lay RX13 TX13 33) (jWc_wsX130 _ (u_in_lay (by decide)))
  have hlk_181 := (htw (.fieldLink RX13 181 "ProofServerModel$Kernel" "wrong" "Z") (jWr_60 _ (List.mem_of_getElem? (i := 2) rfl)))
  have hlk_171 := (htw (.fieldLink RX13 171 "ProofServerModel$Kernel" "at" "I") (jWr_61 _ (List.mem_of_getElem? (i := 11) rfl)))
  have hlk_19 := (htw (.fieldLink RX13 19 "ProofServerModel$Kernel" "one" "[I") (jWr_14 _ (List.mem_of_getElem? (i := 11) rfl)))
  have hlk_22 := (htw (.fieldLink RX13 22 "ProofServerModel$Kernel" "two" "[I") (jWr_14 _ (List.mem_of_getElem? (i := 12) rfl)))
  have hlk_25 := (htw (.fieldLink RX13 25 "ProofServerModel$Kernel" "three" "[I") (jWr_14 _ (List.mem_of_getElem? (i := 13) rfl)))
  have hrg_a1 := jb_rng a1
  refine lv_aload_n hx hb dX13_readTerm_0 rfl (lv_at hl 0 rfl) ?_
  refine va_calli (A0 := jA base) (H0 := s.heap) (va_runV (As := []) (rest := []) ⟨hx, hb, hml, hown, hts⟩ (uX13_readName l dC dI ca base B hB hAp hB15 hB155 hB156 hB157 hB166 hB167 G0 s.heap r0 pk pa) (cwV 0 hts (jgV (jWr_61 _ (List.mem_of_getElem? (i := 21) rfl)) (jWr_61 _ (List.mem_of_getElem? (i := 22) rfl)) (jWr_61 _ (List.mem_of_getElem? (i := 23) rfl)) (jWr_12 _ (List.mem_of_getElem? (i := 12) rfl)) (jWr_62 _ (List.mem_of_getElem? (i := 0) rfl))) rfl rfl rfl (by decide +kernel) ⟨by rw [← hR]; show (6) + 1 ≤ d + 8; omega, by rw [← hR]; show 8 + (1 + 11) + (186) ≤ 60 * d + 400; omega⟩) ⟨fun a U g mk q => by obtain ⟨q0, q1, q2, qK, q10, q11, q12⟩ := q; exact ⟨q0, q1, q2, jG.calling g mk a qK, q10, q11, q12⟩, hh.recv (C := RX13) (T := TX13) (N := 50) hB15 rfl (by decide) hg_r0 hK, fun U hU hW => ⟨rfl, hU, hh.2.1, hG.step hW hU hh.1, hg_r0, (hh.2.2.1.sub (L1 := [(r0, 15, 30, .int pk), (r0, 15, 32, .int pa)]) [0, 1] rfl), by first | omega | (refine ⟨?_, ?_, ?_, ?_⟩ <;> (first | omega | rfl | assumption | decide | exact Or.inl rfl | exact Or.inr rfl | (simp only; omega)))⟩⟩ rfl rfl hl.1 rfl (lv_room (Nat.le_of_ble_eq_true rfl)) dX13_readTerm_1 ⟨Nat.zero_le _, Nat.zero_le _⟩) hh.1 (fun q _ h => h) (fun q h => h) (fun r_2 u_1 t_1 H_1 locs_1 ht_1 hvm_1 hr_2 hb_1 hz_1 hk_1 hS_1 => ?_)
  obtain ⟨qa_1, rfl⟩ : ∃ z, z = u_1 := ⟨_, rfl⟩
  rw [ht_1] at hb_1
  obtain ⟨hb_11, hb_12, hb_13, hb_14, hb_15⟩ := hb_1
  have hh_1 : jSt (dC, dI) B base G0 G0 EX13_readTerm s.heap 0 0 [(r0, 15, 32, .int qa_1), (r0, 15, 30, .int pk), (r0, 15, 5, .int pn)] [] [] H_1 locs_1 := ((hh.call hb_11 hb_12 hb_13 hb_14 hS_1 rfl (L1 := [(r0, 15, 30, .int pk), (r0, 15, 5, .int pn)]) [0, 2] rfl rfl (M1 := []) [] rfl rfl (I1 := []) [] rfl rfl).more hb_15)
  clear hh ht_1 hvm_1 hz_1 hk_1 hS_1 hb_11 hb_12 hb_13 hb_14 hb_15
  obtain ⟨hr_2_0, hr_2_1, hr_2_2, hr_2_3, hr_2_4⟩ := hr_2
  refine lv_istore_n (lv' := [(2, .int r_2), (0, .ref r0), (1, .int a1)]) hx hb dX13_readTerm_4 rfl hl (by decide) rfl (fun ls hl => ?_)
  refine lv_aload_n hx hb dX13_readTerm_5 rfl (lv_at hl 1 rfl) ?_
  obtain ⟨v_3, hv_3, hh_4⟩ := hh_1.pin (C := RX13) (T := TX13) (N := 50) hB15 rfl (by decide) hg_r0 (i := 33) (by decide) rfl
  clear hh_1
  obtain ⟨wrong_5, rfl, hzwrong_5⟩ := hv_3
  have hzwrong_5' := jb_01 hzwrong_5
  refine j7_read hx hb hown hK (C := RX13) (T := TX13) (N := 50) rfl hly_15_33 hlk_181 (hh_4.at 0 rfl) dX13_readTerm_6 ?_
  refine lv_if_eq (tgt := 14) hx hb dX13_readTerm_9 (by decide) (fun c_6 => ?_) (fun c_6 => ?_)
  · skip
    have c_6' : wrong_5.toInt = 0 := jb_eq (rfl) ((by decide)) c_6
    refine lv_aload_n hx hb dX13_readTerm_14 rfl (lv_at hl 1 rfl) ?_
    refine lv_bipush (v := 11) hx hb dX13_readTerm_15 (by decide) ?_
    refine lv_iload_n hx hb dX13_readTerm_17 rfl (lv_at hl 0 rfl) ?_
    refine lv_iconst (v := (-1)) hx hb dX13_readTerm_18 (by decide) ?_
    refine lv_iconst (v := (-1)) hx hb dX13_readTerm_19 (by decide) ?_
    refine lv_iconst (v := 0) hx hb dX13_readTerm_20 (by decide) ?_
    refine va_calli (A0 := jA base) (H0 := s.heap) (va_runV (As := [.int 11, .int r_2, .int (-1), .int (-1), .int 0]) (rest := []) ⟨hx, hb, hml, hown, hts⟩ (uX13_node l dC dI ca base B hB hAp hB15 hB150 hB151 hB152 hB153 hB154 G0 H_1 r0 11 r_2 (-1) (-1) 0 pn) (cwV 5 hts (jgV (jWr_62 _ (List.mem_of_getElem? (i := 9) rfl)) (jWr_62 _ (List.mem_of_getElem? (i := 10) rfl)) (jWr_62 _ (List.mem_of_getElem? (i := 11) rfl)) (jWr_12 _ (List.mem_of_getElem? (i := 12) rfl)) (jWr_62 _ (List.mem_of_getElem? (i := 12) rfl))) rfl rfl rfl (by decide +kernel) ⟨by rw [← hR]; show (0) + 1 ≤ d + 8; omega, by rw [← hR]; show 8 + (6 + 11) + (0) ≤ 60 * d + 400; omega⟩) ⟨fun a U g mk q => by obtain ⟨q0, q1, q2, qK, q10, q11, q12⟩ := q; exact ⟨q0, q1, q2, jG.calling g mk a qK, q10, q11, q12⟩, hh_4.recv (C := RX13) (T := TX13) (N := 50) hB15 rfl (by decide) hg_r0 hK, fun U hU hW => ⟨rfl, hU, hh_4.2.1, hG.step hW hU hh_4.1, hg_r0, (hh_4.2.2.1.sub (L1 := [(r0, 15, 5, .int pn)]) [3] rfl), by first | omega | (refine ⟨?_, ?_⟩ <;> (first | omega | rfl | assumption | decide | exact Or.inl rfl | exact Or.inr rfl | (simp only; omega)))⟩⟩ rfl rfl hl.1 rfl (lv_room (Nat.le_of_ble_eq_true rfl)) dX13_readTerm_21 ⟨Nat.zero_le _, Nat.zero_le _⟩) hh_4.1 (fun q _ h => h) (fun q h => h) (fun r_8 u_7 t_7 H_7 locs_7 ht_7 hvm_7 hr_8 hb_7 hz_7 hk_7 hS_7 => ?_)
    obtain ⟨qn_7, rfl⟩ : ∃ z, z = u_7 := ⟨_, rfl⟩
    rw [ht_7] at hb_7
    obtain ⟨hb_71, hb_72, hb_73, hb_74, hb_75⟩ := hb_7
    have hh_7 : jSt (dC, dI) B base G0 G0 EX13_readTerm s.heap 0 0 [(r0, 15, 5, .int qn_7), (r0, 15, 33, .int wrong_5), (r0, 15, 32, .int qa_1), (r0, 15, 30, .int pk)] [] [] H_7 locs_7 := ((hh_4.call hb_71 hb_72 hb_73 hb_74 hS_7 rfl (L1 := [(r0, 15, 33, .int wrong_5), (r0, 15, 32, .int qa_1), (r0, 15, 30, .int pk)]) [0, 1, 2] rfl rfl (M1 := []) [] rfl rfl (I1 := []) [] rfl rfl).more hb_75)
    clear hh_4 ht_7 hvm_7 hz_7 hk_7 hS_7 hb_71 hb_72 hb_73 hb_74 hb_75
    obtain ⟨hr_8_0, hr_8_1⟩ := hr_8
    refine lv_istore_n (lv' := [(3, .int r_8), (2, .int r_2), (0, .ref r0), (1, .int a1)]) hx hb dX13_readTerm_24 rfl hl (by decide) rfl (fun ls hl => ?_)
    refine lv_aload_n hx hb dX13_readTerm_25 rfl (lv_at hl 2 rfl) ?_
    refine lv_bipush (v := 40) hx hb dX13_readTerm_26 (by decide) ?_
    obtain ⟨v_11, hv_11, hh_12⟩ := hh_7.pin (C := RX13) (T := TX13) (N := 50) hB15 rfl (by decide) hg_r0 (i := 28) (by decide) rfl
    obtain ⟨kind_13, rfl, hg_kind_13⟩ := hv_11
    obtain ⟨v_14, hv_14, hh_15⟩ := hh_12.pin (C := RX13) (T := TX13) (N := 50) hB15 rfl (by decide) hg_r0 (i := 29) (by decide) rfl
    obtain ⟨what_16, rfl, hg_what_16⟩ := hv_14
    obtain ⟨f_fk_17, hh_17⟩ := hh_15.cpin hB167 (by decide) (by decide) hg_kind_13
    clear hh_15
    obtain ⟨f_fw_18, hh_18⟩ := hh_17.cpin hB157 (by decide) (by decide) hg_what_16
    clear hh_17
    refine va_calli (A0 := jA base) (H0 := s.heap) (va_runV (As := [.int 40]) (rest := []) ⟨hx, hb, hml, hown, hts⟩ (uX13_is l dC dI ca base B hB hAp hB15 hB157 hB167 G0 H_7 r0 40 pk qa_1 kind_13 1500 what_16 1500 f_fk_17 f_fw_18) (cwV 1 hts (jgV (jWr_62 _ (List.mem_of_getElem? (i := 13) rfl)) (jWr_62 _ (List.mem_of_getElem? (i := 14) rfl)) (jWr_62 _ (List.mem_of_getElem? (i := 15) rfl)) (jWr_12 _ (List.mem_of_getElem? (i := 12) rfl)) (jWr_62 _ (List.mem_of_getElem? (i := 16) rfl))) rfl rfl rfl (by decide +kernel) ⟨by rw [← hR]; show (0) + 1 ≤ d + 8; omega, by rw [← hR]; show 8 + (2 + 11) + (0) ≤ 60 * d + 400; omega⟩) ⟨fun a U g mk q => by obtain ⟨q0, q1, q2, qK, q10, q11, q12, q13, q14, q15⟩ := q; exact ⟨q0, q1, q2, jG.calling g mk a qK, q10, q11, q12, q13, q14, q15⟩, hh_18.recv (C := RX13) (T := TX13) (N := 50) hB15 rfl (by decide) hg_r0 hK, fun U hU hW => ⟨rfl, hU, hh_18.2.1, hG.step hW hU hh_18.1, hg_r0, hg_kind_13, hg_what_16, (hh_18.2.2.1.sub (L1 := [(r0, 15, 30, .int pk), (r0, 15, 32, .int qa_1), (r0, 15, 28, .ref kind_13), (r0, 15, 29, .ref what_16)]) [5, 4, 1, 0] rfl), (hh_18.2.2.2.2.2.2.2.1.sub (L1 := [(kind_13, 167, 1500, ca 1, f_fk_17), (what_16, 157, 1500, ca 1, f_fw_18)]) [1, 0] rfl), by first | omega | (refine ⟨?_, ?_, ?_, ?_, ?_, ?_⟩ <;> (first | omega | rfl | assumption | decide | exact Or.inl rfl | exact Or.inr rfl | (simp only; omega)))⟩⟩ rfl rfl hl.1 rfl (lv_room (Nat.le_of_ble_eq_true rfl)) dX13_readTerm_28 ⟨Nat.zero_le _, Nat.zero_le _⟩) hh_18.1 (fun q _ h => h) (fun q h => h) (fun r_10 u_9 t_9 H_9 locs_9 ht_9 hvm_9 hr_10 hb_9 hz_9 hk_9 hS_9 => ?_)
    rw [ht_9] at hb_9
    obtain ⟨hb_91, hb_92, hb_93, hb_94, hb_95⟩ := hb_9
    have hh_9 : jSt (dC, dI) B base G0 G0 EX13_readTerm s.heap 0 0 [(r0, 15, 29, .ref what_16), (r0, 15, 28, .ref kind_13), (r0, 15, 5, .int qn_7), (r0, 15, 33, .int wrong_5), (r0, 15, 32, .int qa_1), (r0, 15, 30, .int pk)] [(what_16, 157, 1500, ca 1, f_fw_18), (kind_13, 167, 1500, ca 1, f_fk_17)] [] H_9 locs_9 := ((hh_18.call hb_91 hb_92 hb_93 hb_94 hS_9 rfl (L1 := [(r0, 15, 29, .ref what_16), (r0, 15, 28, .ref kind_13), (r0, 15, 5, .int qn_7), (r0, 15, 33, .int wrong_5), (r0, 15, 32, .int qa_1), (r0, 15, 30, .int pk)]) [0, 1, 2, 3, 4, 5] rfl rfl (M1 := [(what_16, 157, 1500, ca 1, f_fw_18), (kind_13, 167, 1500, ca 1, f_fk_17)]) [0, 1] rfl rfl (I1 := []) [] rfl rfl).more hb_95)
    clear hh_18 ht_9 hvm_9 hz_9 hk_9 hS_9 hb_91 hb_92 hb_93 hb_94 hb_95
    obtain ⟨hr_10b, hr_10p⟩ := hr_10
    obtain ⟨hr_10p_0, hr_10p_1⟩ := hr_10p
    have hr_10' := jb_01 hr_10b
    refine lv_if_ne (tgt := 36) hx hb dX13_readTerm_31 (by decide) (fun c_19 => ?_) (fun c_19 => ?_)
    · skip
      have c_19' : r_10.toInt ≠ 0 := jb_ne (rfl) ((by decide)) c_19
      refine lv_iload_n hx hb dX13_readTerm_36 rfl (lv_at hl 3 rfl) ?_
      refine lv_bipush (v := 12) hx hb dX13_readTerm_37 (by decide) ?_
      have C47 : ∀ (ww_20 : Int32) (H_20 : Heap) (locs_20 : List Loc), jSt (dC, dI) B base G0 G0 EX13_readTerm s.heap 0 0 [(r0, 15, 33, .int ww_20), (r0, 15, 29, .ref what_16), (r0, 15, 28, .ref kind_13), (r0, 15, 5, .int qn_7), (r0, 15, 32, .int qa_1), (r0, 15, 30, .int pk)] [(what_16, 157, 1500, ca 1, f_fw_18), (kind_13, 167, 1500, ca 1, f_fk_17)] [] H_20 locs_20 → (0 ≤ ww_20.toInt ∧ ww_20.toInt ≤ 1 ∧ a1.toInt ≤ 11 + ww_20.toInt) → ∀ ls : Array Slot, lv_has ls 7 [(0, .ref r0), (1, .int a1), (2, .int r_2), (3, .int r_8)] → W p l e R s m ([.ref r0, .int a1] : List Value).toArray below meth c H_20 locs_20 0 0 Q (F0 m 47 ls []) := by
        intro ww_20 H_20 locs_20 hh_20  hi_20 ls hl
        obtain ⟨hi_20_0, hi_20_1, hi_20_2⟩ := hi_20
        try clear hr_2_4
        refine lv_aload_n hx hb dX13_readTerm_47 rfl (lv_at hl 0 rfl) ?_
        refine lv_dup hx hb dX13_readTerm_48 rfl ?_
        refine j7_read hx hb hown hK (C := RX13) (T := TX13) (N := 50) rfl hly_15_32 hlk_171 (hh_20.at 4 rfl) dX13_readTerm_49 ?_
        refine lv_iconst (v := 1) hx hb dX13_readTerm_52 (by decide) ?_
        refine lv_iadd hx hb dX13_readTerm_53 ?_
        refine lv_topi (fun z_21 ez_21 => ?_)
        have hz_21 : z_21.toInt = qa_1.toInt + 1 := by rw [ez_21]; exact jb_iadd2 (rfl) ((by decide)) (by omega)
        refine j7_put hx hb hown hK hh_20 hB hAp hB15 (C := RX13) (T := TX13) (N := 50) rfl (by decide) hg_r0 (i := 32) (by decide) hly_15_32 rfl hlk_171 rfl (ty := .int) (v := .int z_21) (by decide +kernel) rfl rfl (⟨_, rfl, by omega, by omega⟩) rfl (L1 := [(r0, 15, 33, .int ww_20), (r0, 15, 29, .ref what_16), (r0, 15, 28, .ref kind_13), (r0, 15, 5, .int qn_7), (r0, 15, 30, .int pk)]) [0, 1, 2, 3, 5] rfl rfl rfl dX13_readTerm_54 (fun H_22 locs_22 hh_22 => ?_)
        clear hh_20
        refine lv_iconst (v := (-1)) hx hb dX13_readTerm_57 (by decide) ?_
        refine lv_istore (lv' := [(4, .int (-1)), (0, .ref r0), (1, .int a1), (2, .int r_2), (3, .int r_8)]) hx hb dX13_readTerm_58 hl (by decide) rfl (fun ls hl => ?_)
        refine lv_iconst (v := 1) hx hb dX13_readTerm_60 (by decide) ?_
        refine lv_istore (lv' := [(5, .int 1), (4, .int (-1)), (0, .ref r0), (1, .int a1), (2, .int r_2), (3, .int r_8)]) hx hb dX13_readTerm_61 hl (by decide) rfl (fun ls hl => ?_)
        have L63 : ∀ (N : Nat) (v4_23 : Int32) (v5_23 : Int32) (wa_23 : Int32) (wn_23 : Int32) (ww_23 : Int32) (H_23 : Heap) (locs_23 : List Loc), jSt (dC, dI) B base G0 G0 EX13_readTerm s.heap 0 0 [(r0, 15, 32, .int wa_23), (r0, 15, 5, .int wn_23), (r0, 15, 33, .int ww_23), (r0, 15, 29, .ref what_16), (r0, 15, 28, .ref kind_13), (r0, 15, 30, .int pk)] [(what_16, 157, 1500, ca 1, f_fw_18), (kind_13, 167, 1500, ca 1, f_fk_17)] [] H_23 locs_23 → (v5_23 = 0 ∨ v5_23 = 1) → (-1 ≤ v4_23.toInt ∧ v4_23.toInt ≤ 119999 ∧ pa.toInt + 1 ≤ wa_23.toInt ∧ wa_23.toInt ≤ pk.toInt ∧ pn.toInt + 1 ≤ wn_23.toInt ∧ wn_23.toInt ≤ pn.toInt + 2 * (wa_23.toInt - pa.toInt) + 1 - 2 * v5_23.toInt ∧ 0 ≤ v5_23.toInt ∧ v5_23.toInt ≤ 1 ∧ 0 ≤ ww_23.toInt ∧ ww_23.toInt ≤ 1 ∧ a1.toInt ≤ 11 + ww_23.toInt) → (pk.toInt - wa_23.toInt + v5_23.toInt : Int) < N → ∀ ls : Array Slot, lv_has ls 7 [(0, .ref r0), (1, .int a1), (2, .int r_2), (3, .int r_8), (4, .int v4_23), (5, .int v5_23)] → W p l e R s m ([.ref r0, .int a1] : List Value).toArray below meth c H_23 locs_23 0 0 Q (F0 m 63 ls []) := by
          intro N
          induction N with
          | zero => intro v4_23 v5_23 wa_23 wn_23 ww_23 H_23 locs_23 hh_23 hb_v5_23 hi_23 hm; exact absurd hm (by omega)
          | succ N L63 =>
            intro v4_23 v5_23 wa_23 wn_23 ww_23 H_23 locs_23 hh_23 hb_v5_23 hi_23 hm_23 ls hl
            obtain ⟨hi_23_0, hi_23_1, hi_23_2, hi_23_3, hi_23_4, hi_23_5, hi_23_6, hi_23_7, hi_23_8, hi_23_9, hi_23_10⟩ := hi_23
            have hb_v5_23' := jb_01 hb_v5_23
            refine lv_iload hx hb dX13_readTerm_63 (lv_at hl 5 rfl) ?_
            refine lv_if_eq (tgt := 149) hx hb dX13_readTerm_65 (by decide) (fun c_24 => ?_) (fun c_24 => ?_)
            · skip
              have c_24' : v5_23.toInt = 0 := jb_eq (rfl) ((by decide)) c_24
              refine lv_aload_n hx hb dX13_readTerm_149 rfl (lv_at hl 0 rfl) ?_
              refine lv_bipush (v := 41) hx hb dX13_readTerm_150 (by decide) ?_
              refine va_callv (A0 := jA base) (H0 := s.heap) (va_runV (As := [.int 41]) (rest := []) ⟨hx, hb, hml, hown, hts⟩ (uX13_expect l dC dI ca base B hB hAp hB15 hB157 hB167 G0 H_23 r0 41 pk wa_23) (cwV 1 hts (jgV (jWr_62 _ (List.mem_of_getElem? (i := 17) rfl)) (jWr_62 _ (List.mem_of_getElem? (i := 18) rfl)) (jWr_62 _ (List.mem_of_getElem? (i := 19) rfl)) (jWr_12 _ (List.mem_of_getElem? (i := 12) rfl)) (jWr_62 _ (List.mem_of_getElem? (i := 20) rfl))) rfl rfl rfl (by decide +kernel) ⟨by rw [← hR]; show (1) + 1 ≤ d + 8; omega, by rw [← hR]; show 8 + (2 + 11) + (21) ≤ 60 * d + 400; omega⟩) ⟨fun a U g mk q => by obtain ⟨q0, q1, q2, qK, q10, q11, q12⟩ := q; exact ⟨q0, q1, q2, jG.calling g mk a qK, q10, q11, q12⟩, hh_23.recv (C := RX13) (T := TX13) (N := 50) hB15 rfl (by decide) hg_r0 hK, fun U hU hW => ⟨rfl, hU, hh_23.2.1, hG.step hW hU hh_23.1, hg_r0, (hh_23.2.2.1.sub (L1 := [(r0, 15, 30, .int pk), (r0, 15, 32, .int wa_23)]) [5, 0] rfl), by first | omega | (refine ⟨?_, ?_, ?_, ?_⟩ <;> (first | omega | rfl | assumption | decide | exact Or.inl rfl | exact Or.inr rfl | (simp only; omega)))⟩⟩ rfl rfl hl.1 rfl (lv_room (Nat.le_of_ble_eq_true rfl)) dX13_readTerm_152 ⟨Nat.zero_le _, Nat.zero_le _⟩) hh_23.1 (fun q _ h => h) (fun q h => h) (fun u_25 t_25 H_25 locs_25 ht_25 hvm_25 hr_26 hb_25 hz_25 hk_25 hS_25 => ?_)
              obtain ⟨qa_25, rfl⟩ : ∃ z, z = u_25 := ⟨_, rfl⟩
              rw [ht_25] at hb_25
              obtain ⟨hb_251, hb_252, hb_253, hb_254, hb_255⟩ := hb_25
              have hh_25 : jSt (dC, dI) B base G0 G0 EX13_readTerm s.heap 0 0 [(r0, 15, 32, .int qa_25), (r0, 15, 5, .int wn_23), (r0, 15, 29, .ref what_16), (r0, 15, 28, .ref kind_13), (r0, 15, 30, .int pk)] [(what_16, 157, 1500, ca 1, f_fw_18), (kind_13, 167, 1500, ca 1, f_fk_17)] [] H_25 locs_25 := ((hh_23.call hb_251 hb_252 hb_253 hb_254 hS_25 rfl (L1 := [(r0, 15, 5, .int wn_23), (r0, 15, 29, .ref what_16), (r0, 15, 28, .ref kind_13), (r0, 15, 30, .int pk)]) [1, 3, 4, 5] rfl rfl (M1 := [(what_16, 157, 1500, ca 1, f_fw_18), (kind_13, 167, 1500, ca 1, f_fk_17)]) [0, 1] rfl rfl (I1 := []) [] rfl rfl).more hb_255)
              clear hh_23 ht_25 hvm_25 hz_25 hk_25 hS_25 hb_251 hb_252 hb_253 hb_254 hb_255
              obtain ⟨hr_26_0, hr_26_1, hr_26_2⟩ := hr_26
              refine lv_iload_n hx hb dX13_readTerm_155 rfl (lv_at hl 3 rfl) ?_
              rw [hQ]
              exact W.iret (v := r_8) hx hb hr (fun t ht hW => ⟨⟨r_8, (qa_25, wn_23), rfl, by first | omega | (refine ⟨?_, ?_, ?_, ?_, ?_, ?_⟩ <;> (first | omega | rfl | assumption | decide | exact Or.inl rfl | exact Or.inr rfl | (simp only; omega))), hh_25.rt (M1 := [(r0, 15, 32, .int qa_25), (r0, 15, 5, .int wn_23)]) [0, 1] rfl ht⟩, by rw [ht]; try exact hh_25.1.1, fun q h9 hq => by rw [ht]; try exact hh_25.1.2.1 q h9 hq⟩) hh_25.1.2.2 dX13_readTerm_156
            · skip
              have c_24' : v5_23.toInt ≠ 0 := jb_eq_n (rfl) ((by decide)) c_24
              refine lv_aload_n hx hb dX13_readTerm_68 rfl (lv_at hl 0 rfl) ?_
              refine j7_read hx hb hown hK (C := RX13) (T := TX13) (N := 50) rfl hly_15_33 hlk_181 (hh_23.at 2 rfl) dX13_readTerm_69 ?_
              refine lv_if_ne (tgt := 149) hx hb dX13_readTerm_72 (by decide) (fun c_27 => ?_) (fun c_27 => ?_)
              · skip
                have c_27' : ww_23.toInt ≠ 0 := jb_ne (rfl) ((by decide)) c_27
                refine lv_aload_n hx hb dX13_readTerm_149 rfl (lv_at hl 0 rfl) ?_
                refine lv_bipush (v := 41) hx hb dX13_readTerm_150 (by decide) ?_
                refine va_callv (A0 := jA base) (H0 := s.heap) (va_runV (As := [.int 41]) (rest := []) ⟨hx, hb, hml, hown, hts⟩ (uX13_expect l dC dI ca base B hB hAp hB15 hB157 hB167 G0 H_23 r0 41 pk wa_23) (cwV 1 hts (jgV (jWr_62 _ (List.mem_of_getElem? (i := 17) rfl)) (jWr_62 _ (List.mem_of_getElem? (i := 18) rfl)) (jWr_62 _ (List.mem_of_getElem? (i := 19) rfl)) (jWr_12 _ (List.mem_of_getElem? (i := 12) rfl)) (jWr_62 _ (List.mem_of_getElem? (i := 20) rfl))) rfl rfl rfl (by decide +kernel) ⟨by rw [← hR]; show (1) + 1 ≤ d + 8; omega, by rw [← hR]; show 8 + (2 + 11) + (21) ≤ 60 * d + 400; omega⟩) ⟨fun a U g mk q => by obtain ⟨q0, q1, q2, qK, q10, q11, q12⟩ := q; exact ⟨q0, q1, q2, jG.calling g mk a qK, q10, q11, q12⟩, hh_23.recv (C := RX13) (T := TX13) (N := 50) hB15 rfl (by decide) hg_r0 hK, fun U hU hW => ⟨rfl, hU, hh_23.2.1, hG.step hW hU hh_23.1, hg_r0, (hh_23.2.2.1.sub (L1 := [(r0, 15, 30, .int pk), (r0, 15, 32, .int wa_23)]) [5, 0] rfl), by first | omega | (refine ⟨?_, ?_, ?_, ?_⟩ <;> (first | omega | rfl | assumption | decide | exact Or.inl rfl | exact Or.inr rfl | (simp only; omega)))⟩⟩ rfl rfl hl.1 rfl (lv_room (Nat.le_of_ble_eq_true rfl)) dX13_readTerm_152 ⟨Nat.zero_le _, Nat.zero_le _⟩) hh_23.1 (fun q _ h => h) (fun q h => h) (fun u_28 t_28 H_28 locs_28 ht_28 hvm_28 hr_29 hb_28 hz_28 hk_28 hS_28 => ?_)
                obtain ⟨qa_28, rfl⟩ : ∃ z, z = u_28 := ⟨_, rfl⟩
                rw [ht_28] at hb_28
                obtain ⟨hb_281, hb_282, hb_283, hb_284, hb_285⟩ := hb_28
                have hh_28 : jSt (dC, dI) B base G0 G0 EX13_readTerm s.heap 0 0 [(r0, 15, 32, .int qa_28), (r0, 15, 5, .int wn_23), (r0, 15, 29, .ref what_16), (r0, 15, 28, .ref kind_13), (r0, 15, 30, .int pk)] [(what_16, 157, 1500, ca 1, f_fw_18), (kind_13, 167, 1500, ca 1, f_fk_17)] [] H_28 locs_28 := ((hh_23.call hb_281 hb_282 hb_283 hb_284 hS_28 rfl (L1 := [(r0, 15, 5, .int wn_23), (r0, 15, 29, .ref what_16), (r0, 15, 28, .ref kind_13), (r0, 15, 30, .int pk)]) [1, 3, 4, 5] rfl rfl (M1 := [(what_16, 157, 1500, ca 1, f_fw_18), (kind_13, 167, 1500, ca 1, f_fk_17)]) [0, 1] rfl rfl (I1 := []) [] rfl rfl).more hb_285)
                clear hh_23 ht_28 hvm_28 hz_28 hk_28 hS_28 hb_281 hb_282 hb_283 hb_284 hb_285
                obtain ⟨hr_29_0, hr_29_1, hr_29_2⟩ := hr_29
                refine lv_iload_n hx hb dX13_readTerm_155 rfl (lv_at hl 3 rfl) ?_
                rw [hQ]
                exact W.iret (v := r_8) hx hb hr (fun t ht hW => ⟨⟨r_8, (qa_28, wn_23), rfl, by first | omega | (refine ⟨?_, ?_, ?_, ?_, ?_, ?_⟩ <;> (first | omega | rfl | assumption | decide | exact Or.inl rfl | exact Or.inr rfl | (simp only; omega))), hh_28.rt (M1 := [(r0, 15, 32, .int qa_28), (r0, 15, 5, .int wn_23)]) [0, 1] rfl ht⟩, by rw [ht]; try exact hh_28.1.1, fun q h9 hq => by rw [ht]; try exact hh_28.1.2.1 q h9 hq⟩) hh_28.1.2.2 dX13_readTerm_156
              · skip
                have c_27' : ww_23.toInt = 0 := jb_ne_n (rfl) ((by decide)) c_27
                refine lv_aload_n hx hb dX13_readTerm_75 rfl (lv_at hl 0 rfl) ?_
                refine lv_iload_n hx hb dX13_readTerm_76 rfl (lv_at hl 1 rfl) ?_
                refine lv_iconst (v := 1) hx hb dX13_readTerm_77 (by decide) ?_
                refine lv_iadd hx hb dX13_readTerm_78 ?_
                refine lv_topi (fun z_30 ez_30 => ?_)
                have hz_30 : z_30.toInt = a1.toInt + 1 := by rw [ez_30]; exact jb_iadd2 (rfl) ((by decide)) (by omega)
                refine va_calli (A0 := jA base) (H0 := s.heap) (va_runV (As := [.int z_30]) (rest := []) ⟨hx, hb, hml, hown, hts⟩ (ih (d - 1) (by omega) G0 H_23 r0 z_30 pk wa_23 wn_23) (cwV 1 hts (jgV (jWr_61 _ (List.mem_of_getElem? (i := 17) rfl)) (jWr_61 _ (List.mem_of_getElem? (i := 18) rfl)) (jWr_61 _ (List.mem_of_getElem? (i := 19) rfl)) (jWr_12 _ (List.mem_of_getElem? (i := 12) rfl)) (jWr_61 _ (List.mem_of_getElem? (i := 20) rfl))) rfl rfl rfl (by decide +kernel) ⟨by rw [← hR]; show (d - 1 + 8) + 1 ≤ d + 8; omega, by rw [← hR]; show 8 + (7 + 11) + (60 * (d - 1) + 400) ≤ 60 * d + 400; omega⟩) ⟨fun a U g mk q => by obtain ⟨q0, q1, q2, qK, q10, q11, q12⟩ := q; exact ⟨q0, q1, q2, jG.calling g mk a qK, q10, q11, q12⟩, hh_23.recv (C := RX13) (T := TX13) (N := 50) hB15 rfl (by decide) hg_r0 hK, fun U hU hW => ⟨rfl, hU, hh_23.2.1, hG.step hW hU hh_23.1, hg_r0, (hh_23.2.2.1.sub (L1 := [(r0, 15, 30, .int pk), (r0, 15, 32, .int wa_23), (r0, 15, 5, .int wn_23)]) [5, 0, 1] rfl), by first | omega | (refine ⟨?_, ?_, ?_, ?_, ?_, ?_, ?_⟩ <;> (first | omega | rfl | assumption | decide | exact Or.inl rfl | exact Or.inr rfl | (simp only; omega)))⟩⟩ rfl rfl hl.1 rfl (lv_room (Nat.le_of_ble_eq_true rfl)) dX13_readTerm_79 ⟨Nat.zero_le _, Nat.zero_le _⟩) hh_23.1 (fun q _ h => h) (fun q h => h) (fun r_32 u_31 t_31 H_31 locs_31 ht_31 hvm_31 hr_32 hb_31 hz_31 hk_31 hS_31 => ?_)
                obtain ⟨qa_31, qn_31⟩ := u_31
                rw [ht_31] at hb_31
                obtain ⟨hb_311, hb_312, hb_313, hb_314, hb_315⟩ := hb_31
                have hh_31 : jSt (dC, dI) B base G0 G0 EX13_readTerm s.heap 0 0 [(r0, 15, 32, .int qa_31), (r0, 15, 5, .int qn_31), (r0, 15, 29, .ref what_16), (r0, 15, 28, .ref kind_13), (r0, 15, 30, .int pk)] [(what_16, 157, 1500, ca 1, f_fw_18), (kind_13, 167, 1500, ca 1, f_fk_17)] [] H_31 locs_31 := ((hh_23.call hb_311 hb_312 hb_313 hb_314 hS_31 rfl (L1 := [(r0, 15, 29, .ref what_16), (r0, 15, 28, .ref kind_13), (r0, 15, 30, .int pk)]) [3, 4, 5] rfl rfl (M1 := [(what_16, 157, 1500, ca 1, f_fw_18), (kind_13, 167, 1500, ca 1, f_fk_17)]) [0, 1] rfl rfl (I1 := []) [] rfl rfl).more hb_315)
                clear hh_23 ht_31 hvm_31 hz_31 hk_31 hS_31 hb_311 hb_312 hb_313 hb_314 hb_315
                try simp only at hr_32
                obtain ⟨hr_32_0, hr_32_1, hr_32_2, hr_32_3, hr_32_4, hr_32_5⟩ := hr_32
                refine lv_istore (lv' := [(6, .int r_32), (0, .ref r0), (1, .int a1), (2, .int r_2), (3, .int r_8), (4, .int v4_23), (5, .int v5_23)]) hx hb dX13_readTerm_82 hl (by decide) rfl (fun ls hl => ?_)
                refine lv_iload hx hb dX13_readTerm_84 (lv_at hl 5 rfl) ?_
                have C109 : ∀ (H_33 : Heap) (locs_33 : List Loc), jSt (dC, dI) B base G0 G0 EX13_readTerm s.heap 0 0 [(r0, 15, 32, .int qa_31), (r0, 15, 5, .int qn_31), (r0, 15, 29, .ref what_16), (r0, 15, 28, .ref kind_13), (r0, 15, 30, .int pk)] [(what_16, 157, 1500, ca 1, f_fw_18), (kind_13, 167, 1500, ca 1, f_fk_17)] [] H_33 locs_33 → (True) → ∀ ls : Array Slot, lv_has ls 7 [(0, .ref r0), (1, .int a1), (2, .int r_2), (3, .int r_8), (4, .int v4_23), (5, .int v5_23), (6, .int r_32)] → W p l e R s m ([.ref r0, .int a1] : List Value).toArray below meth c H_33 locs_33 0 0 Q (F0 m 109 ls []) := by
                  intro  H_33 locs_33 hh_33  hi_33 ls hl
                  refine lv_iload hx hb dX13_readTerm_109 (lv_at hl 6 rfl) ?_
                  refine lv_istore (lv' := [(4, .int r_32), (0, .ref r0), (1, .int a1), (2, .int r_2), (3, .int r_8), (5, .int v5_23), (6, .int r_32)]) hx hb dX13_readTerm_111 hl (by decide) rfl (fun ls hl => ?_)
                  refine lv_aload_n hx hb dX13_readTerm_113 rfl (lv_at hl 1 rfl) ?_
                  obtain ⟨v_34, hv_34, hh_35⟩ := hh_33.pin (C := RX13) (T := TX13) (N := 50) hB15 rfl (by decide) hg_r0 (i := 4) (by decide) rfl
                  clear hh_33
                  obtain ⟨three_36, rfl, hg_three_36⟩ := hv_34
                  refine j7_read hx hb hown hK (C := RX13) (T := TX13) (N := 50) rfl hly_15_4 hlk_25 (hh_35.at 0 rfl) dX13_readTerm_114 ?_
                  refine lv_iload_n hx hb dX13_readTerm_117 rfl (lv_at hl 4 rfl) ?_
                  refine lv_dup2_11 hx hb dX13_readTerm_118 rfl rfl ?_
                  refine j7_iald hx hb hK hh_35 hB154 1 rfl (by decide) hg_three_36 (x := r_8.toInt) (rfl) (by omega) dX13_readTerm_119 (fun z_37 (hz_37 : True) => ?_)
                  refine lv_iconst (v := 1) hx hb dX13_readTerm_120 (by decide) ?_
                  refine lv_iadd hx hb dX13_readTerm_121 ?_
                  refine lv_topi (fun z_38 ez_38 => ?_)
                  refine j7_iast hx hb hK hh_35 hB hB154 1 rfl (by decide) (by decide) rfl rfl rfl hg_three_36 (x := r_8.toInt) (rfl) (by omega) (trivial) dX13_readTerm_122 (fun H_39 locs_39 hh_39 => ?_)
                  clear hh_35
                  refine lv_aload_n hx hb dX13_readTerm_123 rfl (lv_at hl 1 rfl) ?_
                  refine lv_bipush (v := 44) hx hb dX13_readTerm_124 (by decide) ?_
                  refine va_calli (A0 := jA base) (H0 := s.heap) (va_runV (As := [.int 44]) (rest := []) ⟨hx, hb, hml, hown, hts⟩ (uX13_is l dC dI ca base B hB hAp hB15 hB157 hB167 G0 H_39 r0 44 pk qa_31 kind_13 1500 what_16 1500 f_fk_17 f_fw_18) (cwV 1 hts (jgV (jWr_62 _ (List.mem_of_getElem? (i := 13) rfl)) (jWr_62 _ (List.mem_of_getElem? (i := 14) rfl)) (jWr_62 _ (List.mem_of_getElem? (i := 15) rfl)) (jWr_12 _ (List.mem_of_getElem? (i := 12) rfl)) (jWr_62 _ (List.mem_of_getElem? (i := 16) rfl))) rfl rfl rfl (by decide +kernel) ⟨by rw [← hR]; show (0) + 1 ≤ d + 8; omega, by rw [← hR]; show 8 + (2 + 11) + (0) ≤ 60 * d + 400; omega⟩) ⟨fun a U g mk q => by obtain ⟨q0, q1, q2, qK, q10, q11, q12, q13, q14, q15⟩ := q; exact ⟨q0, q1, q2, jG.calling g mk a qK, q10, q11, q12, q13, q14, q15⟩, hh_39.recv (C := RX13) (T := TX13) (N := 50) hB15 rfl (by decide) hg_r0 hK, fun U hU hW => ⟨rfl, hU, hh_39.2.1, hG.step hW hU hh_39.1, hg_r0, hg_kind_13, hg_what_16, (hh_39.2.2.1.sub (L1 := [(r0, 15, 30, .int pk), (r0, 15, 32, .int qa_31), (r0, 15, 28, .ref kind_13), (r0, 15, 29, .ref what_16)]) [5, 1, 4, 3] rfl), (hh_39.2.2.2.2.2.2.2.1.sub (L1 := [(kind_13, 167, 1500, ca 1, f_fk_17), (what_16, 157, 1500, ca 1, f_fw_18)]) [1, 0] rfl), by first | omega | (refine ⟨?_, ?_, ?_, ?_, ?_, ?_⟩ <;> (first | omega | rfl | assumption | decide | exact Or.inl rfl | exact Or.inr rfl | (simp only; omega)))⟩⟩ rfl rfl hl.1 rfl (lv_room (Nat.le_of_ble_eq_true rfl)) dX13_readTerm_126 ⟨Nat.zero_le _, Nat.zero_le _⟩) hh_39.1 (fun q _ h => h) (fun q h => h) (fun r_41 u_40 t_40 H_40 locs_40 ht_40 hvm_40 hr_41 hb_40 hz_40 hk_40 hS_40 => ?_)
                  rw [ht_40] at hb_40
                  obtain ⟨hb_401, hb_402, hb_403, hb_404, hb_405⟩ := hb_40
                  have hh_40 : jSt (dC, dI) B base G0 G0 EX13_readTerm s.heap 0 0 [(r0, 15, 4, .ref three_36), (r0, 15, 32, .int qa_31), (r0, 15, 5, .int qn_31), (r0, 15, 29, .ref what_16), (r0, 15, 28, .ref kind_13), (r0, 15, 30, .int pk)] [(what_16, 157, 1500, ca 1, f_fw_18), (kind_13, 167, 1500, ca 1, f_fk_17)] [] H_40 locs_40 := ((hh_39.call hb_401 hb_402 hb_403 hb_404 hS_40 rfl (L1 := [(r0, 15, 4, .ref three_36), (r0, 15, 32, .int qa_31), (r0, 15, 5, .int qn_31), (r0, 15, 29, .ref what_16), (r0, 15, 28, .ref kind_13), (r0, 15, 30, .int pk)]) [0, 1, 2, 3, 4, 5] rfl rfl (M1 := [(what_16, 157, 1500, ca 1, f_fw_18), (kind_13, 167, 1500, ca 1, f_fk_17)]) [0, 1] rfl rfl (I1 := []) [] rfl rfl).more hb_405)
                  clear hh_39 ht_40 hvm_40 hz_40 hk_40 hS_40 hb_401 hb_402 hb_403 hb_404 hb_405
                  obtain ⟨hr_41b, hr_41p⟩ := hr_41
                  obtain ⟨hr_41p_0, hr_41p_1⟩ := hr_41p
                  have hr_41' := jb_01 hr_41b
                  refine lv_istore (lv' := [(5, .int r_41), (4, .int r_32), (0, .ref r0), (1, .int a1), (2, .int r_2), (3, .int r_8), (6, .int r_32)]) hx hb dX13_readTerm_129 hl (by decide) rfl (fun ls hl => ?_)
                  refine lv_iload hx hb dX13_readTerm_131 (lv_at hl 0 rfl) ?_
                  refine lv_if_eq (tgt := 146) hx hb dX13_readTerm_133 (by decide) (fun c_42 => ?_) (fun c_42 => ?_)
                  · skip
                    have c_42' : r_41.toInt = 0 := jb_eq (rfl) ((by decide)) c_42
                    refine lv_goto (tgt := 63) hx hb dX13_readTerm_146 (by decide) ?_
                    obtain ⟨v_43, hv_43, hh_44⟩ := hh_40.pin (C := RX13) (T := TX13) (N := 50) hB15 rfl (by decide) hg_r0 (i := 33) (by decide) rfl
                    obtain ⟨wrong_45, rfl, hzwrong_45⟩ := hv_43
                    have hzwrong_45' := jb_01 hzwrong_45
                    exact L63 r_32 r_41 qa_31 qn_31 wrong_45 _ _ (hh_44.sub (L1 := [(r0, 15, 32, .int qa_31), (r0, 15, 5, .int qn_31), (r0, 15, 33, .int wrong_45), (r0, 15, 29, .ref what_16), (r0, 15, 28, .ref kind_13), (r0, 15, 30, .int pk)]) [2, 3, 0, 4, 5, 6] rfl (M1 := [(what_16, 157, 1500, ca 1, f_fw_18), (kind_13, 167, 1500, ca 1, f_fk_17)]) [0, 1] rfl (I1 := []) [] rfl) (hr_41b) (by first | omega | (refine ⟨?_, ?_, ?_, ?_, ?_, ?_, ?_, ?_, ?_, ?_, ?_⟩ <;> (first | omega | rfl | assumption | decide | exact Or.inl rfl | exact Or.inr rfl | (simp only; omega)))) (by omega) _ (lv_sub hl [2, 3, 4, 5, 1, 0] rfl)
                  · skip
                    have c_42' : r_41.toInt ≠ 0 := jb_eq_n (rfl) ((by decide)) c_42
                    refine lv_aload_n hx hb dX13_readTerm_136 rfl (lv_at hl 2 rfl) ?_
                    refine lv_dup hx hb dX13_readTerm_137 rfl ?_
                    refine j7_read hx hb hown hK (C := RX13) (T := TX13) (N := 50) rfl hly_15_32 hlk_171 (hh_40.at 1 rfl) dX13_readTerm_138 ?_
                    refine lv_iconst (v := 1) hx hb dX13_readTerm_141 (by decide) ?_
                    refine lv_iadd hx hb dX13_readTerm_142 ?_
                    refine lv_topi (fun z_46 ez_46 => ?_)
                    have hz_46 : z_46.toInt = qa_31.toInt + 1 := by rw [ez_46]; exact jb_iadd2 (rfl) ((by decide)) (by omega)
                    refine j7_put hx hb hown hK hh_40 hB hAp hB15 (C := RX13) (T := TX13) (N := 50) rfl (by decide) hg_r0 (i := 32) (by decide) hly_15_32 rfl hlk_171 rfl (ty := .int) (v := .int z_46) (by decide +kernel) rfl rfl (⟨_, rfl, by omega, by omega⟩) rfl (L1 := [(r0, 15, 4, .ref three_36), (r0, 15, 5, .int qn_31), (r0, 15, 29, .ref what_16), (r0, 15, 28, .ref kind_13), (r0, 15, 30, .int pk)]) [0, 2, 3, 4, 5] rfl rfl rfl dX13_readTerm_143 (fun H_47 locs_47 hh_47 => ?_)
                    clear hh_40
                    refine lv_goto (tgt := 63) hx hb dX13_readTerm_146 (by decide) ?_
                    obtain ⟨v_48, hv_48, hh_49⟩ := hh_47.pin (C := RX13) (T := TX13) (N := 50) hB15 rfl (by decide) hg_r0 (i := 33) (by decide) rfl
                    obtain ⟨wrong_50, rfl, hzwrong_50⟩ := hv_48
                    have hzwrong_50' := jb_01 hzwrong_50
                    exact L63 r_32 r_41 z_46 qn_31 wrong_50 _ _ (hh_49.sub (L1 := [(r0, 15, 32, .int z_46), (r0, 15, 5, .int qn_31), (r0, 15, 33, .int wrong_50), (r0, 15, 29, .ref what_16), (r0, 15, 28, .ref kind_13), (r0, 15, 30, .int pk)]) [1, 3, 0, 4, 5, 6] rfl (M1 := [(what_16, 157, 1500, ca 1, f_fw_18), (kind_13, 167, 1500, ca 1, f_fk_17)]) [0, 1] rfl (I1 := []) [] rfl) (hr_41b) (by first | omega | (refine ⟨?_, ?_, ?_, ?_, ?_, ?_, ?_, ?_, ?_, ?_, ?_⟩ <;> (first | omega | rfl | assumption | decide | exact Or.inl rfl | exact Or.inr rfl | (simp only; omega)))) (by omega) _ (lv_sub hl [2, 3, 4, 5, 1, 0] rfl)
                refine lv_if_ge (tgt := 100) hx hb dX13_readTerm_86 (by decide) (fun c_51 => ?_) (fun c_51 => ?_)
                · skip
                  have c_51' : v4_23.toInt ≥ 0 := jb_ge (rfl) ((by decide)) c_51
                  refine lv_aload_n hx hb dX13_readTerm_100 rfl (lv_at hl 1 rfl) ?_
                  obtain ⟨v_52, hv_52, hh_53⟩ := hh_31.pin (C := RX13) (T := TX13) (N := 50) hB15 rfl (by decide) hg_r0 (i := 3) (by decide) rfl
                  clear hh_31
                  obtain ⟨two_54, rfl, hg_two_54⟩ := hv_52
                  refine j7_read hx hb hown hK (C := RX13) (T := TX13) (N := 50) rfl hly_15_3 hlk_22 (hh_53.at 0 rfl) dX13_readTerm_101 ?_
                  refine lv_iload hx hb dX13_readTerm_104 (lv_at hl 5 rfl) ?_
                  refine lv_iload hx hb dX13_readTerm_106 (lv_at hl 0 rfl) ?_
                  refine j7_iast hx hb hK hh_53 hB hB153 1 rfl (by decide) (by decide) rfl rfl rfl hg_two_54 (x := v4_23.toInt) (rfl) (by omega) (trivial) dX13_readTerm_108 (fun H_55 locs_55 hh_55 => ?_)
                  clear hh_53
                  exact C109  _ _ (hh_55.sub (L1 := [(r0, 15, 32, .int qa_31), (r0, 15, 5, .int qn_31), (r0, 15, 29, .ref what_16), (r0, 15, 28, .ref kind_13), (r0, 15, 30, .int pk)]) [1, 2, 3, 4, 5] rfl (M1 := [(what_16, 157, 1500, ca 1, f_fw_18), (kind_13, 167, 1500, ca 1, f_fk_17)]) [0, 1] rfl (I1 := []) [] rfl) (trivial) _ (lv_sub hl [1, 2, 3, 4, 5, 6, 0] rfl)
                · skip
                  have c_51' : v4_23.toInt < 0 := jb_ge_n (rfl) ((by decide)) c_51
                  refine lv_aload_n hx hb dX13_readTerm_89 rfl (lv_at hl 1 rfl) ?_
                  obtain ⟨v_56, hv_56, hh_57⟩ := hh_31.pin (C := RX13) (T := TX13) (N := 50) hB15 rfl (by decide) hg_r0 (i := 2) (by decide) rfl
                  clear hh_31
                  obtain ⟨one_58, rfl, hg_one_58⟩ := hv_56
                  refine j7_read hx hb hown hK (C := RX13) (T := TX13) (N := 50) rfl hly_15_2 hlk_19 (hh_57.at 0 rfl) dX13_readTerm_90 ?_
                  refine lv_iload_n hx hb dX13_readTerm_93 rfl (lv_at hl 4 rfl) ?_
                  refine lv_iload hx hb dX13_readTerm_94 (lv_at hl 0 rfl) ?_
                  refine j7_iast hx hb hK hh_57 hB hB152 1 rfl (by decide) (by decide) rfl rfl rfl hg_one_58 (x := r_8.toInt) (rfl) (by omega) (trivial) dX13_readTerm_96 (fun H_59 locs_59 hh_59 => ?_)
                  clear hh_57
                  refine lv_goto (tgt := 109) hx hb dX13_readTerm_97 (by decide) ?_
                  exact C109  _ _ (hh_59.sub (L1 := [(r0, 15, 32, .int qa_31), (r0, 15, 5, .int qn_31), (r0, 15, 29, .ref what_16), (r0, 15, 28, .ref kind_13), (r0, 15, 30, .int pk)]) [1, 2, 3, 4, 5] rfl (M1 := [(what_16, 157, 1500, ca 1, f_fw_18), (kind_13, 167, 1500, ca 1, f_fk_17)]) [0, 1] rfl (I1 := []) [] rfl) (trivial) _ (lv_sub hl [1, 2, 3, 4, 5, 6, 0] rfl)
        exact L63 (pk.toInt - (z_21 : Int32).toInt + (1 : Int32).toInt : Int).toNat.succ (-1) 1 z_21 qn_7 ww_20 _ _ (hh_22.sub (L1 := [(r0, 15, 32, .int z_21), (r0, 15, 5, .int qn_7), (r0, 15, 33, .int ww_20), (r0, 15, 29, .ref what_16), (r0, 15, 28, .ref kind_13), (r0, 15, 30, .int pk)]) [0, 4, 1, 2, 3, 5] rfl (M1 := [(what_16, 157, 1500, ca 1, f_fw_18), (kind_13, 167, 1500, ca 1, f_fk_17)]) [0, 1] rfl (I1 := []) [] rfl) (Or.inr rfl) (by first | omega | (refine ⟨?_, ?_, ?_, ?_, ?_, ?_, ?_, ?_, ?_, ?_, ?_⟩ <;> (first | omega | rfl | assumption | decide | exact Or.inl rfl | exact Or.inr rfl | (simp only; omega)))) (by omega) _ (lv_sub hl [2, 3, 4, 5, 1, 0] rfl)
      refine lv_icmp_ne (tgt := 47) hx hb dX13_readTerm_39 (by decide) (fun c_60 => ?_) (fun c_60 => ?_)
      · skip
        have c_60' : a1.toInt ≠ 12 := jb_ne (rfl) ((by decide)) c_60
        exact C47 wrong_5 _ _ (hh_9.sub (L1 := [(r0, 15, 33, .int wrong_5), (r0, 15, 29, .ref what_16), (r0, 15, 28, .ref kind_13), (r0, 15, 5, .int qn_7), (r0, 15, 32, .int qa_1), (r0, 15, 30, .int pk)]) [3, 0, 1, 2, 4, 5] rfl (M1 := [(what_16, 157, 1500, ca 1, f_fw_18), (kind_13, 167, 1500, ca 1, f_fk_17)]) [0, 1] rfl (I1 := []) [] rfl) (by first | omega | (refine ⟨?_, ?_, ?_⟩ <;> (first | omega | rfl | assumption | decide | exact Or.inl rfl | exact Or.inr rfl | (simp only; omega)))) _ (lv_sub hl [2, 3, 1, 0] rfl)
      · skip
        have c_60' : a1.toInt = 12 := jb_ne_n (rfl) ((by decide)) c_60
        refine lv_aload_n hx hb dX13_readTerm_42 rfl (lv_at hl 2 rfl) ?_
        refine lv_iconst (v := 1) hx hb dX13_readTerm_43 (by decide) ?_
        refine j7_put hx hb hown hK hh_9 hB hAp hB15 (C := RX13) (T := TX13) (N := 50) rfl (by decide) hg_r0 (i := 33) (by decide) hly_15_33 rfl hlk_181 rfl (ty := .boolean) (v := .int 1) (by decide +kernel) (jb_nz (Or.inr rfl)) (jb_fz (Or.inr rfl)) (⟨_, rfl, (Or.inr rfl)⟩) rfl (L1 := [(r0, 15, 29, .ref what_16), (r0, 15, 28, .ref kind_13), (r0, 15, 5, .int qn_7), (r0, 15, 32, .int qa_1), (r0, 15, 30, .int pk)]) [0, 1, 2, 4, 5] rfl rfl rfl dX13_readTerm_44 (fun H_61 locs_61 hh_61 => ?_)
        clear hh_9
        exact C47 1 _ _ hh_61 (by first | omega | (refine ⟨?_, ?_, ?_⟩ <;> (first | omega | rfl | assumption | decide | exact Or.inl rfl | exact Or.inr rfl | (simp only; omega)))) _ (lv_sub hl [2, 3, 1, 0] rfl)
    · skip
      have c_19' : r_10.toInt = 0 := jb_ne_n (rfl) ((by decide)) c_19
      refine lv_iload_n hx hb dX13_readTerm_34 rfl (lv_at hl 0 rfl) ?_
      rw [hQ]
      exact W.iret (v := r_8) hx hb hr (fun t ht hW => ⟨⟨r_8, (qa_1, qn_7), rfl, by first | omega | (refine ⟨?_, ?_, ?_, ?_, ?_, ?_⟩ <;> (first | omega | rfl | assumption | decide | exact Or.inl rfl | exact Or.inr rfl | (simp only; omega))), hh_9.rt (M1 := [(r0, 15, 32, .int qa_1), (r0, 15, 5, .int qn_7)]) [4, 2] rfl ht⟩, by rw [ht]; try exact hh_9.1.1, fun q h9 hq => by rw [ht]; try exact hh_9.1.2.1 q h9 hq⟩) hh_9.1.2.2 dX13_readTerm_35
  · skip
    have c_6' : wrong_5.toInt ≠ 0 := jb_eq_n (rfl) ((by decide)) c_6
    refine lv_iconst (v := 0) hx hb dX13_readTerm_12 (by decide) ?_
    rw [hQ]
    exact W.iret (v := 0) hx hb hr (fun t ht hW => ⟨⟨0, (qa_1, pn), rfl, by first | omega | (refine ⟨?_, ?_, ?_, ?_, ?_, ?_⟩ <;> (first | omega | rfl | assumption | decide | exact Or.inl rfl | exact Or.inr rfl | (simp only; omega))), hh_4.rt (M1 := [(r0, 15, 32, .int qa_1), (r0, 15, 5, .int pn)]) [1, 3] rfl ht⟩, by rw [ht]; try exact hh_4.1.1, fun q h9 hq => by rw [ht]; try exact hh_4.1.2.1 q h9 hq⟩) hh_4.1.2.2 dX13_readTerm_13
theorem aX13_readTerm (l : Launch) (dC : Nat → ClassId) (dI : Nat → Nat → Nat) (ca : Nat → ClassId) (base : Nat) (B : jF) (hB : jBok B) (hAp : jAp (dC, dI)) (hB15 : ∀ n G a H, B 15 n G a H ↔ jOb (dC, dI) 15 50 (F15 n G) a H) (hB150 : ∀ n G a H, B 150 n G a H ↔ jAr (dC, dI) (ca 1) (fun j z => True) n a H) (hB151 : ∀ n G a H, B 151 n G a H ↔ jAr (dC, dI) (ca 1) (fun j z => True) n a H) (hB152 : ∀ n G a H, B 152 n G a H ↔ jAr (dC, dI) (ca 1) (fun j z => True) n a H) (hB153 : ∀ n G a H, B 153 n G a H ↔ jAr (dC, dI) (ca 1) (fun j z => True) n a H) (hB154 : ∀ n G a H, B 154 n G a H ↔ jAr (dC, dI) (ca 1) (fun j z => True) n a H) (hB155 : ∀ n G a H, B 155 n G a H ↔ jAr (dC, dI) (ca 1) (fun j z => 0 ≤ z.toInt ∧ z.toInt ≤ 11990) n a H) (hB156 : ∀ n G a H, B 156 n G a H ↔ jAr (dC, dI) (ca 1) (fun j z => 0 ≤ z.toInt ∧ z.toInt ≤ 10) n a H) (hB157 : ∀ n G a H, B 157 n G a H ↔ jAr (dC, dI) (ca 1) (fun j z => 0 ≤ z.toInt ∧ z.toInt ≤ 1599) n a H) (hB166 : ∀ n G a H, B 166 n G a H ↔ jAr (dC, dI) (ca 1) (fun j z => True) n a H) (hB167 : ∀ n G a H, B 167 n G a H ↔ jAr (dC, dI) (ca 1) (fun j z => True) n a H) : ∀ ef, qX13_readTerm l dC dI ca base B ef := fun ef => Nat.strongRecOn ef (fun e ih => fun G0 H0 r0 a1 pk pa pn => uX13_readTerm l dC dI ca base B hB hAp hB15 hB150 hB151 hB152 hB153 hB154 hB155 hB156 hB157 hB166 hB167 e ih G0 H0 r0 a1 pk pa pn)
