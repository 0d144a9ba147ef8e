theorem dX13_readTerm_0 : decode cX13_readTerm 0 = .ok (.aload_n 0, 1) := by decide +kernel
theorem dX13_readTerm_1 : decode cX13_readTerm 1 = .ok (.invokevirtual 194, 3) := by decide +kernel
theorem dX13_readTerm_4 : decode cX13_readTerm 4 = .ok (.istore_n 2, 1) := by decide +kernel
theorem dX13_readTerm_5 : decode cX13_readTerm 5 = .ok (.aload_n 0, 1) := by decide +kernel
theorem dX13_readTerm_6 : decode cX13_readTerm 6 = .ok (.getfield 181, 3) := by decide +kernel
theorem dX13_readTerm_9 : decode cX13_readTerm 9 = .ok (.ifCond .eq 5, 3) := by decide +kernel
theorem dX13_readTerm_12 : decode cX13_readTerm 12 = .ok (.iconst 0, 1) := by decide +kernel
theorem dX13_readTerm_13 : decode cX13_readTerm 13 = .ok (.ireturn, 1) := by decide +kernel
theorem dX13_readTerm_14 : decode cX13_readTerm 14 = .ok (.aload_n 0, 1) := by decide +kernel
theorem dX13_readTerm_15 : decode cX13_readTerm 15 = .ok (.bipush 11, 2) := by decide +kernel
theorem dX13_readTerm_17 : decode cX13_readTerm 17 = .ok (.iload_n 2, 1) := by decide +kernel
theorem dX13_readTerm_18 : decode cX13_readTerm 18 = .ok (.iconst (-1), 1) := by decide +kernel
theorem dX13_readTerm_19 : decode cX13_readTerm 19 = .ok (.iconst (-1), 1) := by decide +kernel
theorem dX13_readTerm_20 : decode cX13_readTerm 20 = .ok (.iconst 0, 1) := by decide +kernel
theorem dX13_readTerm_21 : decode cX13_readTerm 21 = .ok (.invokevirtual 197, 3) := by decide +kernel
theorem dX13_readTerm_24 : decode cX13_readTerm 24 = .ok (.istore_n 3, 1) := by decide +kernel
theorem dX13_readTerm_25 : decode cX13_readTerm 25 = .ok (.aload_n 0, 1) := by decide +kernel
theorem dX13_readTerm_26 : decode cX13_readTerm 26 = .ok (.bipush 40, 2) := by decide +kernel
theorem dX13_readTerm_28 : decode cX13_readTerm 28 = .ok (.invokevirtual 178, 3) := by decide +kernel
theorem dX13_readTerm_31 : decode cX13_readTerm 31 = .ok (.ifCond .ne 5, 3) := by decide +kernel
theorem dX13_readTerm_34 : decode cX13_readTerm 34 = .ok (.iload_n 3, 1) := by decide +kernel
theorem dX13_readTerm_35 : decode cX13_readTerm 35 = .ok (.ireturn, 1) := by decide +kernel
theorem dX13_readTerm_36 : decode cX13_readTerm 36 = .ok (.iload_n 1, 1) := by decide +kernel
theorem dX13_readTerm_37 : decode cX13_readTerm 37 = .ok (.bipush 12, 2) := by decide +kernel
theorem dX13_readTerm_39 : decode cX13_readTerm 39 = .ok (.if_icmp .ne 8, 3) := by decide +kernel
theorem dX13_readTerm_42 : decode cX13_readTerm 42 = .ok (.aload_n 0, 1) := by decide +kernel
theorem dX13_readTerm_43 : decode cX13_readTerm 43 = .ok (.iconst 1, 1) := by decide +kernel
theorem dX13_readTerm_44 : decode cX13_readTerm 44 = .ok (.putfield 181, 3) := by decide +kernel
theorem dX13_readTerm_47 : decode cX13_readTerm 47 = .ok (.aload_n 0, 1) := by decide +kernel
theorem dX13_readTerm_48 : decode cX13_readTerm 48 = .ok (.dup, 1) := by decide +kernel
theorem dX13_readTerm_49 : decode cX13_readTerm 49 = .ok (.getfield 171, 3) := by decide +kernel
theorem dX13_readTerm_52 : decode cX13_readTerm 52 = .ok (.iconst 1, 1) := by decide +kernel
theorem dX13_readTerm_53 : decode cX13_readTerm 53 = .ok (.iadd, 1) := by decide +kernel
theorem dX13_readTerm_54 : decode cX13_readTerm 54 = .ok (.putfield 171, 3) := by decide +kernel
theorem dX13_readTerm_57 : decode cX13_readTerm 57 = .ok (.iconst (-1), 1) := by decide +kernel
theorem dX13_readTerm_58 : decode cX13_readTerm 58 = .ok (.istore 4, 2) := by decide +kernel
theorem dX13_readTerm_60 : decode cX13_readTerm 60 = .ok (.iconst 1, 1) := by decide +kernel
theorem dX13_readTerm_61 : decode cX13_readTerm 61 = .ok (.istore 5, 2) := by decide +kernel
theorem dX13_readTerm_63 : decode cX13_readTerm 63 = .ok (.iload 5, 2) := by decide +kernel
theorem dX13_readTerm_65 : decode cX13_readTerm 65 = .ok (.ifCond .eq 84, 3) := by decide +kernel
theorem dX13_readTerm_68 : decode cX13_readTerm 68 = .ok (.aload_n 0, 1) := by decide +kernel
theorem dX13_readTerm_69 : decode cX13_readTerm 69 = .ok (.getfield 181, 3) := by decide +kernel
theorem dX13_readTerm_72 : decode cX13_readTerm 72 = .ok (.ifCond .ne 77, 3) := by decide +kernel
theorem dX13_readTerm_75 : decode cX13_readTerm 75 = .ok (.aload_n 0, 1) := by decide +kernel
theorem dX13_readTerm_76 : decode cX13_readTerm 76 = .ok (.iload_n 1, 1) := by decide +kernel
theorem dX13_readTerm_77 : decode cX13_readTerm 77 = .ok (.iconst 1, 1) := by decide +kernel
theorem dX13_readTerm_78 : decode cX13_readTerm 78 = .ok (.iadd, 1) := by decide +kernel
theorem dX13_readTerm_79 : decode cX13_readTerm 79 = .ok (.invokevirtual 201, 3) := by decide +kernel
theorem dX13_readTerm_82 : decode cX13_readTerm 82 = .ok (.istore 6, 2) := by decide +kernel
theorem dX13_readTerm_84 : decode cX13_readTerm 84 = .ok (.iload 4, 2) := by decide +kernel
theorem dX13_readTerm_86 : decode cX13_readTerm 86 = .ok (.ifCond .ge 14, 3) := by decide +kernel
theorem dX13_readTerm_89 : decode cX13_readTerm 89 = .ok (.aload_n 0, 1) := by decide +kernel
theorem dX13_readTerm_90 : decode cX13_readTerm 90 = .ok (.getfield 19, 3) := by decide +kernel
theorem dX13_readTerm_93 : decode cX13_readTerm 93 = .ok (.iload_n 3, 1) := by decide +kernel
theorem dX13_readTerm_94 : decode cX13_readTerm 94 = .ok (.iload 6, 2) := by decide +kernel
theorem dX13_readTerm_96 : decode cX13_readTerm 96 = .ok (.iastore, 1) := by decide +kernel
theorem dX13_readTerm_97 : decode cX13_readTerm 97 = .ok (.goto 12, 3) := by decide +kernel
theorem dX13_readTerm_100 : decode cX13_readTerm 100 = .ok (.aload_n 0, 1) := by decide +kernel
theorem dX13_readTerm_101 : decode cX13_readTerm 101 = .ok (.getfield 22, 3) := by decide +kernel
theorem dX13_readTerm_104 : decode cX13_readTerm 104 = .ok (.iload 4, 2) := by decide +kernel
theorem dX13_readTerm_106 : decode cX13_readTerm 106 = .ok (.iload 6, 2) := by decide +kernel
theorem dX13_readTerm_108 : decode cX13_readTerm 108 = .ok (.iastore, 1) := by decide +kernel
theorem dX13_readTerm_109 : decode cX13_readTerm 109 = .ok (.iload 6, 2) := by decide +kernel
theorem dX13_readTerm_111 : decode cX13_readTerm 111 = .ok (.istore 4, 2) := by decide +kernel
theorem dX13_readTerm_113 : decode cX13_readTerm 113 = .ok (.aload_n 0, 1) := by decide +kernel
theorem dX13_readTerm_114 : decode cX13_readTerm 114 = .ok (.getfield 25, 3) := by decide +kernel
theorem dX13_readTerm_117 : decode cX13_readTerm 117 = .ok (.iload_n 3, 1) := by decide +kernel
theorem dX13_readTerm_118 : decode cX13_readTerm 118 = .ok (.dup2, 1) := by decide +kernel
theorem dX13_readTerm_119 : decode cX13_readTerm 119 = .ok (.iaload, 1) := by decide +kernel
theorem dX13_readTerm_120 : decode cX13_readTerm 120 = .ok (.iconst 1, 1) := by decide +kernel
theorem dX13_readTerm_121 : decode cX13_readTerm 121 = .ok (.iadd, 1) := by decide +kernel
theorem dX13_readTerm_122 : decode cX13_readTerm 122 = .ok (.iastore, 1) := by decide +kernel
theorem dX13_readTerm_123 : decode cX13_readTerm 123 = .ok (.aload_n 0, 1) := by decide +kernel
theorem dX13_readTerm_124 : decode cX13_readTerm 124 = .ok (.bipush 44, 2) := by decide +kernel
theorem dX13_readTerm_126 : decode cX13_readTerm 126 = .ok (.invokevirtual 178, 3) := by decide +kernel
theorem dX13_readTerm_129 : decode cX13_readTerm 129 = .ok (.istore 5, 2) := by decide +kernel
theorem dX13_readTerm_131 : decode cX13_readTerm 131 = .ok (.iload 5, 2) := by decide +kernel
theorem dX13_readTerm_133 : decode cX13_readTerm 133 = .ok (.ifCond .eq 13, 3) := by decide +kernel
theorem dX13_readTerm_136 : decode cX13_readTerm 136 = .ok (.aload_n 0, 1) := by decide +kernel
theorem dX13_readTerm_137 : decode cX13_readTerm 137 = .ok (.dup, 1) := by decide +kernel
theorem dX13_readTerm_138 : decode cX13_readTerm 138 = .ok (.getfield 171, 3) := by decide +kernel
theorem dX13_readTerm_141 : decode cX13_readTerm 141 = .ok (.iconst 1, 1) := by decide +kernel
theorem dX13_readTerm_142 : decode cX13_readTerm 142 = .ok (.iadd, 1) := by decide +kernel
theorem dX13_readTerm_143 : decode cX13_readTerm 143 = .ok (.putfield 171, 3) := by decide +kernel
theorem dX13_readTerm_146 : decode cX13_readTerm 146 = .ok (.goto (-83), 3) := by decide +kernel
theorem dX13_readTerm_149 : decode cX13_readTerm 149 = .ok (.aload_n 0, 1) := by decide +kernel
theorem dX13_readTerm_150 : decode cX13_readTerm 150 = .ok (.bipush 41, 2) := by decide +kernel
theorem dX13_readTerm_152 : decode cX13_readTerm 152 = .ok (.invokevirtual 205, 3) := by decide +kernel
theorem dX13_readTerm_155 : decode cX13_readTerm 155 = .ok (.iload_n 3, 1) := by decide +kernel
theorem dX13_readTerm_156 : decode cX13_readTerm 156 = .ok (.ireturn, 1) := by decide +kernel
def EX13_readTerm : List (Nat × Nat) := [(15, 5), (15, 32), (15, 33), (150, 0), (151, 0), (152, 0), (153, 0), (154, 0)]
def qX13_readTerm (l : Launch) (dC : Nat → ClassId) (dI : Nat → Nat → Nat) (ca : Nat → ClassId) (base : Nat) (B : jF) (d : Nat) : Prop := ∀ (G0 : jT) (H0 : Heap) (r0 : Nat) (a1 : Int32) (pk : Int32) (pa : Int32) (pn : Int32), Met l yX13_readTerm (jw yX13_readTerm cX13_readTerm 7 (some .int)) ({ frames := d + 8, cells := 0, slots := 0, locals := 60 * d + 400 }) (va_Pc [.ref r0, .int a1] (fun U => U.heap = H0 ∧ jX B base G0 [] H0 ∧ jG dC dI ca base U ∧ G0 r0 = some (15, 0) ∧ jP (dC, dI) G0 H0 [(r0, 15, 30, .int pk), (r0, 15, 32, .int pa), (r0, 15, 5, .int pn)] ∧ 0 ≤ pa.toInt ∧ pa.toInt ≤ pk.toInt ∧ pk.toInt ≤ 1500 ∧ 0 ≤ pn.toInt ∧ pn.toInt + 2 * (pk.toInt - pa.toInt) ≤ 119990 ∧ a1.toInt = 12 - d ∧ d ≤ 12)) (va_Qi (S := Int32 × Int32) (fun r u => (0 ≤ r.toInt ∧ r.toInt ≤ 119999 ∧ pa.toInt ≤ u.1.toInt ∧ u.1.toInt ≤ pk.toInt ∧ pn.toInt ≤ u.2.toInt ∧ u.2.toInt ≤ pn.toInt + 2 * (u.1.toInt - pa.toInt) + 1)) (fun u t => jRt (dC, dI) B base G0 EX13_readTerm H0 [(r0, 15, 32, .int u.1), (r0, 15, 5, .int u.2)] t.heap) (jA base)) 0 0 (jA base)
set_option maxHeartbeats 4000000 in
set_option maxRecDepth 20000 in
theorem uX13_readTerm (l : Launch) (dC : Nat → ClassId) (dI : Nat → Nat → Nat) (ca : Nat → ClassId) (base : Nat) (B : jF) (hB : jBok B) (hAp : jAp (dC, dI)) (hB15 : ∀ n G a H, B 15 n G a H ↔ jOb (dC, dI) 15 50 (F15 n G) a H) (hB150 : ∀ n G a H, B 150 n G a H ↔ jAr (dC, dI) (ca 1) (fun j z => True) n a H) (hB151 : ∀ n G a H, B 151 n G a H ↔ jAr (dC, dI) (ca 1) (fun j z => True) n a H) (hB152 : ∀ n G a H, B 152 n G a H ↔ jAr (dC, dI) (ca 1) (fun j z => True) n a H) (hB153 : ∀ n G a H, B 153 n G a H ↔ jAr (dC, dI) (ca 1) (fun j z => True) n a H) (hB154 : ∀ n G a H, B 154 n G a H ↔ jAr (dC, dI) (ca 1) (fun j z => True) n a H) (hB155 : ∀ n G a H, B 155 n G a H ↔ jAr (dC, dI) (ca 1) (fun j z => 0 ≤ z.toInt ∧ z.toInt ≤ 11990) n a H) (hB156 : ∀ n G a H, B 156 n G a H ↔ jAr (dC, dI) (ca 1) (fun j z => 0 ≤ z.toInt ∧ z.toInt ≤ 10) n a H) (hB157 : ∀ n G a H, B 157 n G a H ↔ jAr (dC, dI) (ca 1) (fun j z => 0 ≤ z.toInt ∧ z.toInt ≤ 1599) n a H) (hB166 : ∀ n G a H, B 166 n G a H ↔ jAr (dC, dI) (ca 1) (fun j z => True) n a H) (hB167 : ∀ n G a H, B 167 n G a H ↔ jAr (dC, dI) (ca 1) (fun j z => True) n a H) (d : Nat) (ih : ∀ e1, e1 < d → qX13_readTerm l dC dI ca base B e1) (G0 : jT) (H0 : Heap) (r0 : Nat) (a1 : Int32) (pk : Int32) (pa : Int32) (pn : Int32) : Met l yX13_readTerm (jw yX13_readTerm cX13_readTerm 7 (some .int)) ({ frames := d + 8, cells := 0, slots := 0, locals := 60 * d + 400 }) (va_Pc [.ref r0, .int a1] (fun U => U.heap = H0 ∧ jX B base G0 [] H0 ∧ jG dC dI ca base U ∧ G0 r0 = some (15, 0) ∧ jP (dC, dI) G0 H0 [(r0, 15, 30, .int pk), (r0, 15, 32, .int pa), (r0, 15, 5, .int pn)] ∧ 0 ≤ pa.toInt ∧ pa.toInt ≤ pk.toInt ∧ pk.toInt ≤ 1500 ∧ 0 ≤ pn.toInt ∧ pn.toInt + 2 * (pk.toInt - pa.toInt) ≤ 119990 ∧ a1.toInt = 12 - d ∧ d ≤ 12)) (va_Qi (S := Int32 × Int32) (fun r u => (0 ≤ r.toInt ∧ r.toInt ≤ 119999 ∧ pa.toInt ≤ u.1.toInt ∧ u.1.toInt ≤ pk.toInt ∧ pn.toInt ≤ u.2.toInt ∧ u.2.toInt ≤ pn.toInt + 2 * (u.1.toInt - pa.toInt) + 1)) (fun u t => jRt (dC, dI) B base G0 EX13_readTerm H0 [(r0, 15, 32, .int u.1), (r0, 15, 5, .int u.2)] t.heap) (jA base)) 0 0 (jA base) := by
  refine Met.ofW (cc := cX13_readTerm) (maxL := 7) (ret := (some .int)) (by decide) rfl ?_
  intro p e s m args below meth c s₁ Bd hml hv
  obtain ⟨rfl, hH0, hX, hG, hg_r0, hP0, hp0, hp1, hp2, hp3, hp4, hp5, hp6⟩ := hv
  have hK := hG.1
  have hx := Bd.exec
  have hb := Bd.bytes
  have hr := Bd.returns
  have hts := atoms_spec (ws := (jw yX13_readTerm cX13_readTerm 7 (some .int))) Bd.pre
  have htw : ∀ w ∈ jWl, w.before _ s = true := fun w h => hts w (List.mem_cons_of_mem _ h)
  have hown : s.vm.findClass RX13 = some m.cls := findClass_of_methodNamed Bd.named
  have hlocks := Bd.notSynchronized
  obtain ⟨Q, hQ⟩ : ∃ Q, Q = MQ below (va_Qi (S := Int32 × Int32) (fun r u => (0 ≤ r.toInt ∧ r.toInt ≤ 119999 ∧ pa.toInt ≤ u.1.toInt ∧ u.1.toInt ≤ pk.toInt ∧ pn.toInt ≤ u.2.toInt ∧ u.2.toInt ≤ pn.toInt + 2 * (u.1.toInt - pa.toInt) + 1)) (fun u t => jRt (dC, dI) B base G0 EX13_readTerm H0 [(r0, 15, 32, .int u.1), (r0, 15, 5, .int u.2)] t.heap) (jA base)) ([.ref r0, .int a1] : List Value).toArray s 0 0 (jA base) := ⟨_, rfl⟩
  rw [← hQ]
  have hl := lv_entry ([.ref r0, .int a1]) (n := 7) (Nat.le_of_ble_eq_true rfl)
  rw [lg_entry_eq]
  generalize (lg_sl ([.ref r0, .int a1]) ++ List.replicate (7 - (lg_sl ([.ref r0, .int a1])).length) Slot.unset).toArray = ls at hl ⊢
  have hl : lv_has ls 7 [(0, .ref r0), (1, .int a1)] := hl
  generalize hR : (headSpec (jw yX13_readTerm cX13_readTerm 7 (some .int)) ({ frames := d + 8, cells := 0, slots := 0, locals := 60 * d + 400 })).room = R
  subst hH0
  have hh : jSt (dC, dI) B base G0 G0 EX13_readTerm s.heap 0 0 [(r0, 15, 30, .int pk), (r0, 15, 32, .int pa), (r0, 15, 5, .int pn)] [] [] s.heap [] := jSt.start hX hP0 jMc.nil jIs.nil
  clear hX hP0
  have hkm1 : ((-1) : Int32).toInt = (-1) := by decide
  have hk0 : (0 : Int32).toInt = 0 := by decide
  have hk1 : (1 : Int32).toInt = 1 := by decide
  have hk11 : (11 : Int32).toInt = 11 := by decide
  have hk12 : (12 : Int32).toInt = 12 := by decide
  have hk40 : (40 : Int32).toInt = 40 := by decide
  have hk41 : (41 : Int32).toInt = 41 := by decide
  have hk44 : (44 : Int32).toInt = 44 := by decide
  have hly_15_2 := htw (u_lay RX13 TX13 2) (jWc_wsX130 _ (u_in_lay (by decide)))
  have hly_15_3 := htw (u_lay RX13 TX13 3) (jWc_wsX130 _ (u_in_lay (by decide)))
  have hly_15_4 := htw (u_lay RX13 TX13 4) (jWc_wsX130 _ (u_in_lay (by decide)))
  have hly_15_32 := htw (u_lay RX13 TX13 32) (jWc_wsX130 _ (u_in_lay (by decide)))
  have hly_15_33 := htw (u_lay RX13 TX13 33) (jWc_wsX130 _ (u_in_lay (by decide)))
  have hlk_181 := (htw (.fieldLink RX13 181 "ProofServerModel$Kernel" "wrong" "Z") (jWr_60 _ (List.mem_of_getElem? (i := 2) rfl)))
  have hlk_171 := (htw (.fieldLink RX13 171 "ProofServerModel$Kernel" "at" "I") (jWr_61 _ (List.mem_of_getElem? (i := 11) rfl)))
  have hlk_19 := (htw (.fieldLink RX13 19 "ProofServerModel$Kernel" "one" "[I") (jWr_14 _ (List.mem_of_getElem? (i := 11) rfl)))
  have hlk_22 := (htw (.fieldLink RX13 22 "ProofServerModel$Kernel" "two" "[I") (jWr_14 _ (List.mem_of_getElem? (i := 12) rfl)))
  have hlk_25 := (htw (.fieldLink RX13 25 "ProofServerModel$Kernel" "three" "[I") (jWr_14 _ (List.mem_of_getElem? (i := 13) rfl)))
  have hrg_a1 := jb_rng a1
  refine lv_aload_n hx hb dX13_readTerm_0 rfl (lv_at hl 0 rfl) ?_
  refine va_calli (A0 := jA base) (H0 := s.heap) (va_runV (As := []) (rest := []) ⟨hx, hb, hml, hown, hts⟩ (uX13_readName l dC dI ca base B hB hAp hB15 hB155 hB156 hB157 hB166 hB167 G0 s.heap r0 pk pa) (cwV 0 hts (jgV (jWr_61 _ (List.mem_of_getElem? (i := 21) rfl)) (jWr_61 _ (List.mem_of_getElem? (i := 22) rfl)) (jWr_61 _ (List.mem_of_getElem? (i := 23) rfl)) (jWr_12 _ (List.mem_of_getElem? (i := 12) rfl)) (jWr_62 _ (List.mem_of_getElem? (i := 0) rfl))) rfl rfl rfl (by decide +kernel) ⟨by rw [← hR]; show (6) + 1 ≤ d + 8; omega, by rw [← hR]; show 8 + (1 + 11) + (186) ≤ 60 * d + 400; omega⟩) ⟨fun a U g mk q => by obtain ⟨q0, q1, q2, qK, q10, q11, q12⟩ := q; exact ⟨q0, q1, q2, jG.calling g mk a qK, q10, q11, q12⟩, hh.recv (C := RX13) (T := TX13) (N := 50) hB15 rfl (by decide) hg_r0 hK, fun U hU hW => ⟨rfl, hU, hh.2.1, hG.step hW hU hh.1, hg_r0, (hh.2.2.1.sub (L1 := [(r0, 15, 30, .int pk), (r0, 15, 32, .int pa)]) [0, 1] rfl), by first | omega | (refine ⟨?_, ?_, ?_, ?_⟩ <;> (first | omega | rfl | assumption | decide | exact Or.inl rfl | exact Or.inr rfl | (simp only; omega)))⟩⟩ rfl rfl hl.1 rfl (lv_room (Nat.le_of_ble_eq_true rfl)) dX13_readTerm_1 ⟨Nat.zero_le _, Nat.zero_le _⟩) hh.1 (fun q _ h => h) (fun q h => h) (fun r_2 u_1 t_1 H_1 locs_1 ht_1 hvm_1 hr_2 hb_1 hz_1 hk_1 hS_1 => ?_)
  obtain ⟨qa_1, rfl⟩ : ∃ z, z = u_1 := ⟨_, rfl⟩
  rw [ht_1] at hb_1
  obtain ⟨hb_11, hb_12, hb_13, hb_14, hb_15⟩ := hb_1
  have hh_1 : jSt (dC, dI) B base G0 G0 EX13_readTerm s.heap 0 0 [(r0, 15, 32, .int qa_1), (r0, 15, 30, .int pk), (r0, 15, 5, .int pn)] [] [] H_1 locs_1 := (hh.call hb_11 hb_12 hb_13 hb_14 hS_1 rfl (L1 := [(r0, 15, 30, .int pk), (r0, 15, 5, .int pn)]) [0, 2] rfl rfl (M1 := []) [] rfl rfl (I1 := []) [] rfl rfl).more hb_15
  clear hh ht_1 hvm_1 hz_1 hk_1 hS_1 hb_11 hb_12 hb_13 hb_14 hb_15
  obtain ⟨hr_2_0, hr_2_1, hr_2_2, hr_2_3, hr_2_4⟩ := hr_2
  refine lv_istore_n (lv' := [(2, .int r_2), (0, .ref r0), (1, .int a1)]) hx hb dX13_readTerm_4 rfl hl (by decide) rfl (fun ls hl => ?_)
  refine lv_aload_n hx hb dX13_readTerm_5 rfl (lv_at hl 1 rfl) ?_
  obtain ⟨v_3, hv_3, hh_4⟩ := hh_1.pin (C := RX13) (T := TX13) (N := 50) hB15 rfl (by decide) hg_r0 (i := 33) (by decide) rfl
  clear hh_1
  obtain ⟨wrong_5, rfl, hzwrong_5⟩ := hv_3
  have hzwrong_5' := jb_01 hzwrong_5
  refine j7_read hx hb hown hK (C := RX13) (T := TX13) (N := 50) rfl hly_15_33 hlk_181 (hh_4.at 0 rfl) dX13_readTerm_6 ?_
  refine lv_if_eq (tgt := 14) hx hb dX13_readTerm_9 (by decide) (fun c_6 => ?_) (fun c_6 => ?_)
  · skip
    have c_6' : wrong_5.toInt = 0 := jb_eq (rfl) ((by decide)) c_6
    refine lv_aload_n hx hb dX13_readTerm_14 rfl (lv_at hl 1 rfl) ?_
    refine lv_bipush (v := 11) hx hb dX13_readTerm_15 (by decide) ?_
    refine lv_iload_n hx hb dX13_readTerm_17 rfl (lv_at hl 0 rfl) ?_
    refine lv_iconst (v := (-1)) hx hb dX13_readTerm_18 (by decide) ?_
    refine lv_iconst (v := (-1)) hx hb dX13_readTerm_19 (by decide) ?_
    refine lv_iconst (v := 0) hx hb dX13_readTerm_20 (by decide) ?_
    refine va_calli (A0 := jA base) (H0 := s.heap) (va_runV (As := [.int 11, .int r_2, .int (-1), .int (-1), .int 0]) (rest := []) ⟨hx, hb, hml, hown, hts⟩ (uX13_node l dC dI ca base B hB hAp hB15 hB150 hB151 hB152 hB153 hB154 G0 H_1 r0 11 r_2 (-1) (-1) 0 pn) (cwV 5 hts (jgV (jWr_62 _ (List.mem_of_getElem? (i := 9) rfl)) (jWr_62 _ (List.mem_of_getElem? (i := 10) rfl)) (jWr_62 _ (List.mem_of_getElem? (i := 11) rfl)) (jWr_12 _ (List.mem_of_getElem? (i := 12) rfl)) (jWr_62 _ (List.mem_of_getElem? (i := 12) rfl))) rfl rfl rfl (by decide +kernel) ⟨by rw [← hR]; show (0) + 1 ≤ d + 8; omega, by rw [← hR]; show 8 + (6 + 11) + (0) ≤ 60 * d + 400; omega⟩) ⟨fun a U g mk q => by obtain ⟨q0, q1, q2, qK, q10, q11, q12⟩ := q; exact ⟨q0, q1, q2, jG.calling g mk a qK, q10, q11, q12⟩, hh_4.recv (C := RX13) (T := TX13) (N := 50) hB15 rfl (by decide) hg_r0 hK, fun U hU hW => ⟨rfl, hU, hh_4.2.1, hG.step hW hU hh_4.1, hg_r0, (hh_4.2.2.1.sub (L1 := [(r0, 15, 5, .int pn)]) [3] rfl), by first | omega | (refine ⟨?_, ?_⟩ <;> (first | omega | rfl | assumption | decide | exact Or.inl rfl | exact Or.inr rfl | (simp only; omega)))⟩⟩ rfl rfl hl.1 rfl (lv_room (Nat.le_of_ble_eq_true rfl)) dX13_readTerm_21 ⟨Nat.zero_le _, Nat.zero_le _⟩) hh_4.1 (fun q _ h => h) (fun q h => h) (fun r_8 u_7 t_7 H_7 locs_7 ht_7 hvm_7 hr_8 hb_7 hz_7 hk_7 hS_7 => ?_)
    obtain ⟨qn_7, rfl⟩ : ∃ z, z = u_7 := ⟨_, rfl⟩
    rw [ht_7] at hb_7
    obtain ⟨hb_71, hb_72, hb_73, hb_74, hb_75⟩ := hb_7
    have hh_7 : jSt (dC, dI) B base G0 G0 EX13_readTerm s.heap 0 0 [(r0, 15, 5, .int qn_7), (r0, 15, 33, .int wrong_5), (r0, 15, 32, .int qa_1), (r0, 15, 30, .int pk)] [] [] H_7 locs_7 := (hh_4.call hb_71 hb_72 hb_73 hb_74 hS_7 rfl (L1 := [(r0, 15, 33, .int wrong_5), (r0, 15, 32, .int qa_1), (r0, 15, 30, .int pk)]) [0, 1, 2] rfl rfl (M1 := []) [] rfl rfl (I1 := []) [] rfl rfl).more hb_75
    clear hh_4 ht_7 hvm_7 hz_7 hk_7 hS_7 hb_71 hb_72 hb_73 hb_74 hb_75
    obtain ⟨hr_8_0, hr_8_1⟩ := hr_8
    refine lv_istore_n (lv' := [(3, .int r_8), (2, .int r_2), (0, .ref r0), (1, .int a1)]) hx hb dX13_readTerm_24 rfl hl (by decide) rfl (fun ls hl => ?_)
    refine lv_aload_n hx hb dX13_readTerm_25 rfl (lv_at hl 2 rfl) ?_
    refine lv_bipush (v := 40) hx hb dX13_readTerm_26 (by decide) ?_
    refine va_calli (A0 := jA base) (H0 := s.heap) (va_runV (As := [.int 40]) (rest := []) ⟨hx, hb, hml, hown, hts⟩ (uX13_is l dC dI ca base B hB hAp hB15 hB157 hB167 G0 H_7 r0 40 pk qa_1) (cwV 1 hts (jgV (jWr_62 _ (List.mem_of_getElem? (i := 13) rfl)) (jWr_62 _ (List.mem_of_getElem? (i := 14) rfl)) (jWr_62 _ (List.mem_of_getElem? (i := 15) rfl)) (jWr_12 _ (List.mem_of_getElem? (i := 12) rfl)) (jWr_62 _ (List.mem_of_getElem? (i := 16) rfl))) rfl rfl rfl (by decide +kernel) ⟨by rw [← hR]; show (0) + 1 ≤ d + 8; omega, by rw [← hR]; show 8 + (2 + 11) + (0) ≤ 60 * d + 400; omega⟩) ⟨fun a U g mk q => by obtain ⟨q0, q1, q2, qK, q10, q11, q12⟩ := q; exact ⟨q0, q1, q2, jG.calling g mk a qK, q10, q11, q12⟩, hh_7.recv (C := RX13) (T := TX13) (N := 50) hB15 rfl (by decide) hg_r0 hK, fun U hU hW => ⟨rfl, hU, hh_7.2.1, hG.step hW hU hh_7.1, hg_r0, (hh_7.2.2.1.sub (L1 := [(r0, 15, 30, .int pk), (r0, 15, 32, .int qa_1)]) [3, 2] rfl), by first | omega | (refine ⟨?_, ?_, ?_, ?_⟩ <;> (first | omega | rfl | assumption | decide | exact Or.inl rfl | exact Or.inr rfl | (simp only; omega)))⟩⟩ rfl rfl hl.1 rfl (lv_room (Nat.le_of_ble_eq_true rfl)) dX13_readTerm_28 ⟨Nat.zero_le _, Nat.zero_le _⟩) hh_7.1 (fun q _ h => h) (fun q h => h) (fun r_10 u_9 t_9 H_9 locs_9 ht_9 hvm_9 hr_10 hb_9 hz_9 hk_9 hS_9 => ?_)
    rw [ht_9] at hb_9
    obtain ⟨hb_91, hb_92, hb_93, hb_94, hb_95⟩ := hb_9
    have hh_9 : jSt (dC, dI) B base G0 G0 EX13_readTerm s.heap 0 0 [(r0, 15, 5, .int qn_7), (r0, 15, 33, .int wrong_5), (r0, 15, 32, .int qa_1), (r0, 15, 30, .int pk)] [] [] H_9 locs_9 := (hh_7.call hb_91 hb_92 hb_93 hb_94 hS_9 rfl (L1 := [(r0, 15, 5, .int qn_7), (r0, 15, 33, .int wrong_5), (r0, 15, 32, .int qa_1), (r0, 15, 30, .int pk)]) [0, 1, 2, 3] rfl rfl (M1 := []) [] rfl rfl (I1 := []) [] rfl rfl).more hb_95
    clear hh_7 ht_9 hvm_9 hz_9 hk_9 hS_9 hb_91 hb_92 hb_93 hb_94 hb_95
    obtain ⟨hr_10b, hr_10p⟩ := hr_10
    have hr_10' := jb_01 hr_10b
    refine lv_if_ne (tgt := 36) hx hb dX13_readTerm_31 (by decide) (fun c_11 => ?_) (fun c_11 => ?_)
    · skip
      have c_11' : r_10.toInt ≠ 0 := jb_ne (rfl) ((by decide)) c_11
      first | (have hr_10pq := hr_10p.resolve_left (by omega); clear hr_10p) | (have hr_10pq := hr_10p.resolve_right (by omega); clear hr_10p) | try clear hr_10p
      refine lv_iload_n hx hb dX13_readTerm_36 rfl (lv_at hl 3 rfl) ?_
      refine lv_bipush (v := 12) hx hb dX13_readTerm_37 (by decide) ?_
      have C47 : ∀ (ww_12 : Int32) (H_12 : Heap) (locs_12 : List Loc), jSt (dC, dI) B base G0 G0 EX13_readTerm s.heap 0 0 [(r0, 15, 33, .int ww_12), (r0, 15, 5, .int qn_7), (r0, 15, 32, .int qa_1), (r0, 15, 30, .int pk)] [] [] H_12 locs_12 → (0 ≤ ww_12.toInt ∧ ww_12.toInt ≤ 1 ∧ a1.toInt ≤ 11 + ww_12.toInt) → ∀ ls : Array Slot, lv_has ls 7 [(0, .ref r0), (1, .int a1), (2, .int r_2), (3, .int r_8)] → W p l e R s m ([.ref r0, .int a1] : List Value).toArray below meth c H_12 locs_12 0 0 Q (F0 m 47 ls []) := by
        intro ww_12 H_12 locs_12 hh_12  hi_12 ls hl
        obtain ⟨hi_12_0, hi_12_1, hi_12_2⟩ := hi_12
        try clear hr_2_4
        refine lv_aload_n hx hb dX13_readTerm_47 rfl (lv_at hl 0 rfl) ?_
        refine lv_dup hx hb dX13_readTerm_48 rfl ?_
        refine j7_read hx hb hown hK (C := RX13) (T := TX13) (N := 50) rfl hly_15_32 hlk_171 (hh_12.at 2 rfl) dX13_readTerm_49 ?_
        refine lv_iconst (v := 1) hx hb dX13_readTerm_52 (by decide) ?_
        refine lv_iadd hx hb dX13_readTerm_53 ?_
        refine lv_topi (fun z_13 ez_13 => ?_)
        have hz_13 : z_13.toInt = qa_1.toInt + 1 := by rw [ez_13]; exact jb_iadd2 (rfl) ((by decide)) (by omega)
        refine j7_put hx hb hown hK hh_12 hB hAp hB15 (C := RX13) (T := TX13) (N := 50) rfl (by decide) hg_r0 (i := 32) (by decide) hly_15_32 rfl hlk_171 rfl (ty := .int) (v := .int z_13) (by decide +kernel) rfl rfl (⟨_, rfl, by omega, by omega⟩) rfl (L1 := [(r0, 15, 33, .int ww_12), (r0, 15, 5, .int qn_7), (r0, 15, 30, .int pk)]) [0, 1, 3] rfl rfl rfl dX13_readTerm_54 (fun H_14 locs_14 hh_14 => ?_)
        clear hh_12
        refine lv_iconst (v := (-1)) hx hb dX13_readTerm_57 (by decide) ?_
        refine lv_istore (lv' := [(4, .int (-1)), (0, .ref r0), (1, .int a1), (2, .int r_2), (3, .int r_8)]) hx hb dX13_readTerm_58 hl (by decide) rfl (fun ls hl => ?_)
        refine lv_iconst (v := 1) hx hb dX13_readTerm_60 (by decide) ?_
        refine lv_istore (lv' := [(5, .int 1), (4, .int (-1)), (0, .ref r0), (1, .int a1), (2, .int r_2), (3, .int r_8)]) hx hb dX13_readTerm_61 hl (by decide) rfl (fun ls hl => ?_)
        have L63 : ∀ (N : Nat) (v4_15 : Int32) (v5_15 : Int32) (wa_15 : Int32) (wn_15 : Int32) (ww_15 : Int32) (H_15 : Heap) (locs_15 : List Loc), jSt (dC, dI) B base G0 G0 EX13_readTerm s.heap 0 0 [(r0, 15, 32, .int wa_15), (r0, 15, 5, .int wn_15), (r0, 15, 33, .int ww_15), (r0, 15, 30, .int pk)] [] [] H_15 locs_15 → (v5_15 = 0 ∨ v5_15 = 1) → (-1 ≤ v4_15.toInt ∧ v4_15.toInt ≤ 119999 ∧ pa.toInt + 1 ≤ wa_15.toInt ∧ wa_15.toInt ≤ pk.toInt ∧ pn.toInt + 1 ≤ wn_15.toInt ∧ wn_15.toInt ≤ pn.toInt + 2 * (wa_15.toInt - pa.toInt) + 1 - 2 * v5_15.toInt ∧ 0 ≤ v5_15.toInt ∧ v5_15.toInt ≤ 1 ∧ 0 ≤ ww_15.toInt ∧ ww_15.toInt ≤ 1 ∧ a1.toInt ≤ 11 + ww_15.toInt) → (pk.toInt - wa_15.toInt + v5_15.toInt : Int) < N → ∀ ls : Array Slot, lv_has ls 7 [(0, .ref r0), (1, .int a1), (2, .int r_2), (3, .int r_8), (4, .int v4_15), (5, .int v5_15)] → W p l e R s m ([.ref r0, .int a1] : List Value).toArray below meth c H_15 locs_15 0 0 Q (F0 m 63 ls []) := by
          intro N
          induction N with
          | zero => intro v4_15 v5_15 wa_15 wn_15 ww_15 H_15 locs_15 hh_15 hb_v5_15 hi_15 hm; exact absurd hm (by omega)
          | succ N L63 =>
            intro v4_15 v5_15 wa_15 wn_15 ww_15 H_15 locs_15 hh_15 hb_v5_15 hi_15 hm_15 ls hl
            obtain ⟨hi_15_0, hi_15_1, hi_15_2, hi_15_3, hi_15_4, hi_15_5, hi_15_6, hi_15_7, hi_15_8, hi_15_9, hi_15_10⟩ := hi_15
            have hb_v5_15' := jb_01 hb_v5_15
            refine lv_iload hx hb dX13_readTerm_63 (lv_at hl 5 rfl) ?_
            refine lv_if_eq (tgt := 149) hx hb dX13_readTerm_65 (by decide) (fun c_16 => ?_) (fun c_16 => ?_)
            · skip
              have c_16' : v5_15.toInt = 0 := jb_eq (rfl) ((by decide)) c_16
              refine lv_aload_n hx hb dX13_readTerm_149 rfl (lv_at hl 0 rfl) ?_
              refine lv_bipush (v := 41) hx hb dX13_readTerm_150 (by decide) ?_
              refine va_callv (A0 := jA base) (H0 := s.heap) (va_runV (As := [.int 41]) (rest := []) ⟨hx, hb, hml, hown, hts⟩ (uX13_expect l dC dI ca base B hB hAp hB15 hB157 hB167 G0 H_15 r0 41 pk wa_15) (cwV 1 hts (jgV (jWr_62 _ (List.mem_of_getElem? (i := 17) rfl)) (jWr_62 _ (List.mem_of_getElem? (i := 18) rfl)) (jWr_62 _ (List.mem_of_getElem? (i := 19) rfl)) (jWr_12 _ (List.mem_of_getElem? (i := 12) rfl)) (jWr_62 _ (List.mem_of_getElem? (i := 20) rfl))) rfl rfl rfl (by decide +kernel) ⟨by rw [← hR]; show (1) + 1 ≤ d + 8; omega, by rw [← hR]; show 8 + (2 + 11) + (21) ≤ 60 * d + 400; omega⟩) ⟨fun a U g mk q => by obtain ⟨q0, q1, q2, qK, q10, q11, q12⟩ := q; exact ⟨q0, q1, q2, jG.calling g mk a qK, q10, q11, q12⟩, hh_15.recv (C := RX13) (T := TX13) (N := 50) hB15 rfl (by decide) hg_r0 hK, fun U hU hW => ⟨rfl, hU, hh_15.2.1, hG.step hW hU hh_15.1, hg_r0, (hh_15.2.2.1.sub (L1 := [(r0, 15, 30, .int pk), (r0, 15, 32, .int wa_15)]) [3, 0] rfl), by first | omega | (refine ⟨?_, ?_, ?_, ?_⟩ <;> (first | omega | rfl | assumption | decide | exact Or.inl rfl | exact Or.inr rfl | (simp only; omega)))⟩⟩ rfl rfl hl.1 rfl (lv_room (Nat.le_of_ble_eq_true rfl)) dX13_readTerm_152 ⟨Nat.zero_le _, Nat.zero_le _⟩) hh_15.1 (fun q _ h => h) (fun q h => h) (fun u_17 t_17 H_17 locs_17 ht_17 hvm_17 hr_18 hb_17 hz_17 hk_17 hS_17 => ?_)
              obtain ⟨qa_17, rfl⟩ : ∃ z, z = u_17 := ⟨_, rfl⟩
              rw [ht_17] at hb_17
              obtain ⟨hb_171, hb_172, hb_173, hb_174, hb_175⟩ := hb_17
              have hh_17 : jSt (dC, dI) B base G0 G0 EX13_readTerm s.heap 0 0 [(r0, 15, 32, .int qa_17), (r0, 15, 5, .int wn_15), (r0, 15, 30, .int pk)] [] [] H_17 locs_17 := (hh_15.call hb_171 hb_172 hb_173 hb_174 hS_17 rfl (L1 := [(r0, 15, 5, .int wn_15), (r0, 15, 30, .int pk)]) [1, 3] rfl rfl (M1 := []) [] rfl rfl (I1 := []) [] rfl rfl).more hb_175
              clear hh_15 ht_17 hvm_17 hz_17 hk_17 hS_17 hb_171 hb_172 hb_173 hb_174 hb_175
              obtain ⟨hr_18_0, hr_18_1, hr_18_2⟩ := hr_18
              refine lv_iload_n hx hb dX13_readTerm_155 rfl (lv_at hl 3 rfl) ?_
              rw [hQ]
              exact W.iret (v := r_8) hx hb hr (fun t ht hW => ⟨⟨r_8, (qa_17, wn_15), rfl, by first | omega | (refine ⟨?_, ?_, ?_, ?_, ?_, ?_⟩ <;> (first | omega | rfl | assumption | decide | exact Or.inl rfl | exact Or.inr rfl | (simp only; omega))), hh_17.rt (M1 := [(r0, 15, 32, .int qa_17), (r0, 15, 5, .int wn_15)]) [0, 1] rfl ht⟩, by rw [ht]; try exact hh_17.1.1, fun q h9 hq => by rw [ht]; try exact hh_17.1.2.1 q h9 hq⟩) hh_17.1.2.2 dX13_readTerm_156
            · skip
              have c_16' : v5_15.toInt ≠ 0 := jb_eq_n (rfl) ((by decide)) c_16
              refine lv_aload_n hx hb dX13_readTerm_68 rfl (lv_at hl 0 rfl) ?_
              refine j7_read hx hb hown hK (C := RX13) (T := TX13) (N := 50) rfl hly_15_33 hlk_181 (hh_15.at 2 rfl) dX13_readTerm_69 ?_
              refine lv_if_ne (tgt := 149) hx hb dX13_readTerm_72 (by decide) (fun c_19 => ?_) (fun c_19 => ?_)
              · skip
                have c_19' : ww_15.toInt ≠ 0 := jb_ne (rfl) ((by decide)) c_19
                refine lv_aload_n hx hb dX13_readTerm_149 rfl (lv_at hl 0 rfl) ?_
                refine lv_bipush (v := 41) hx hb dX13_readTerm_150 (by decide) ?_
                refine va_callv (A0 := jA base) (H0 := s.heap) (va_runV (As := [.int 41]) (rest := []) ⟨hx, hb, hml, hown, hts⟩ (uX13_expect l dC dI ca base B hB hAp hB15 hB157 hB167 G0 H_15 r0 41 pk wa_15) (cwV 1 hts (jgV (jWr_62 _ (List.mem_of_getElem? (i := 17) rfl)) (jWr_62 _ (List.mem_of_getElem? (i := 18) rfl)) (jWr_62 _ (List.mem_of_getElem? (i := 19) rfl)) (jWr_12 _ (List.mem_of_getElem? (i := 12) rfl)) (jWr_62 _ (List.mem_of_getElem? (i := 20) rfl))) rfl rfl rfl (by decide +kernel) ⟨by rw [← hR]; show (1) + 1 ≤ d + 8; omega, by rw [← hR]; show 8 + (2 + 11) + (21) ≤ 60 * d + 400; omega⟩) ⟨fun a U g mk q => by obtain ⟨q0, q1, q2, qK, q10, q11, q12⟩ := q; exact ⟨q0, q1, q2, jG.calling g mk a qK, q10, q11, q12⟩, hh_15.recv (C := RX13) (T := TX13) (N := 50) hB15 rfl (by decide) hg_r0 hK, fun U hU hW => ⟨rfl, hU, hh_15.2.1, hG.step hW hU hh_15.1, hg_r0, (hh_15.2.2.1.sub (L1 := [(r0, 15, 30, .int pk), (r0, 15, 32, .int wa_15)]) [3, 0] rfl), by first | omega | (refine ⟨?_, ?_, ?_, ?_⟩ <;> (first | omega | rfl | assumption | decide | exact Or.inl rfl | exact Or.inr rfl | (simp only; omega)))⟩⟩ rfl rfl hl.1 rfl (lv_room (Nat.le_of_ble_eq_true rfl)) dX13_readTerm_152 ⟨Nat.zero_le _, Nat.zero_le _⟩) hh_15.1 (fun q _ h => h) (fun q h => h) (fun u_20 t_20 H_20 locs_20 ht_20 hvm_20 hr_21 hb_20 hz_20 hk_20 hS_20 => ?_)
                obtain ⟨qa_20, rfl⟩ : ∃ z, z = u_20 := ⟨_, rfl⟩
                rw [ht_20] at hb_20
                obtain ⟨hb_201, hb_202, hb_203, hb_204, hb_205⟩ := hb_20
                have hh_20 : jSt (dC, dI) B base G0 G0 EX13_readTerm s.heap 0 0 [(r0, 15, 32, .int qa_20), (r0, 15, 5, .int wn_15), (r0, 15, 30, .int pk)] [] [] H_20 locs_20 := (hh_15.call hb_201 hb_202 hb_203 hb_204 hS_20 rfl (L1 := [(r0, 15, 5, .int wn_15), (r0, 15, 30, .int pk)]) [1, 3] rfl rfl (M1 := []) [] rfl rfl (I1 := []) [] rfl rfl).more hb_205
                clear hh_15 ht_20 hvm_20 hz_20 hk_20 hS_20 hb_201 hb_202 hb_203 hb_204 hb_205
                obtain ⟨hr_21_0, hr_21_1, hr_21_2⟩ := hr_21
                refine lv_iload_n hx hb dX13_readTerm_155 rfl (lv_at hl 3 rfl) ?_
                rw [hQ]
                exact W.iret (v := r_8) hx hb hr (fun t ht hW => ⟨⟨r_8, (qa_20, wn_15), rfl, by first | omega | (refine ⟨?_, ?_, ?_, ?_, ?_, ?_⟩ <;> (first | omega | rfl | assumption | decide | exact Or.inl rfl | exact Or.inr rfl | (simp only; omega))), hh_20.rt (M1 := [(r0, 15, 32, .int qa_20), (r0, 15, 5, .int wn_15)]) [0, 1] rfl ht⟩, by rw [ht]; try exact hh_20.1.1, fun q h9 hq => by rw [ht]; try exact hh_20.1.2.1 q h9 hq⟩) hh_20.1.2.2 dX13_readTerm_156
              · skip
                have c_19' : ww_15.toInt = 0 := jb_ne_n (rfl) ((by decide)) c_19
                refine lv_aload_n hx hb dX13_readTerm_75 rfl (lv_at hl 0 rfl) ?_
                refine lv_iload_n hx hb dX13_readTerm_76 rfl (lv_at hl 1 rfl) ?_
                refine lv_iconst (v := 1) hx hb dX13_readTerm_77 (by decide) ?_
                refine lv_iadd hx hb dX13_readTerm_78 ?_
                refine lv_topi (fun z_22 ez_22 => ?_)
                have hz_22 : z_22.toInt = a1.toInt + 1 := by rw [ez_22]; exact jb_iadd2 (rfl) ((by decide)) (by omega)
                refine va_calli (A0 := jA base) (H0 := s.heap) (va_runV (As := [.int z_22]) (rest := []) ⟨hx, hb, hml, hown, hts⟩ (ih (d - 1) (by omega) G0 H_15 r0 z_22 pk wa_15 wn_15) (cwV 1 hts (jgV (jWr_61 _ (List.mem_of_getElem? (i := 17) rfl)) (jWr_61 _ (List.mem_of_getElem? (i := 18) rfl)) (jWr_61 _ (List.mem_of_getElem? (i := 19) rfl)) (jWr_12 _ (List.mem_of_getElem? (i := 12) rfl)) (jWr_61 _ (List.mem_of_getElem? (i := 20) rfl))) rfl rfl rfl (by decide +kernel) ⟨by rw [← hR]; show (d - 1 + 8) + 1 ≤ d + 8; omega, by rw [← hR]; show 8 + (7 + 11) + (60 * (d - 1) + 400) ≤ 60 * d + 400; omega⟩) ⟨fun a U g mk q => by obtain ⟨q0, q1, q2, qK, q10, q11, q12⟩ := q; exact ⟨q0, q1, q2, jG.calling g mk a qK, q10, q11, q12⟩, hh_15.recv (C := RX13) (T := TX13) (N := 50) hB15 rfl (by decide) hg_r0 hK, fun U hU hW => ⟨rfl, hU, hh_15.2.1, hG.step hW hU hh_15.1, hg_r0, (hh_15.2.2.1.sub (L1 := [(r0, 15, 30, .int pk), (r0, 15, 32, .int wa_15), (r0, 15, 5, .int wn_15)]) [3, 0, 1] rfl), by first | omega | (refine ⟨?_, ?_, ?_, ?_, ?_, ?_, ?_⟩ <;> (first | omega | rfl | assumption | decide | exact Or.inl rfl | exact Or.inr rfl | (simp only; omega)))⟩⟩ rfl rfl hl.1 rfl (lv_room (Nat.le_of_ble_eq_true rfl)) dX13_readTerm_79 ⟨Nat.zero_le _, Nat.zero_le _⟩) hh_15.1 (fun q _ h => h) (fun q h => h) (fun r_24 u_23 t_23 H_23 locs_23 ht_23 hvm_23 hr_24 hb_23 hz_23 hk_23 hS_23 => ?_)
                obtain ⟨qa_23, qn_23⟩ := u_23
                rw [ht_23] at hb_23
                obtain ⟨hb_231, hb_232, hb_233, hb_234, hb_235⟩ := hb_23
                have hh_23 : jSt (dC, dI) B base G0 G0 EX13_readTerm s.heap 0 0 [(r0, 15, 32, .int qa_23), (r0, 15, 5, .int qn_23), (r0, 15, 30, .int pk)] [] [] H_23 locs_23 := (hh_15.call hb_231 hb_232 hb_233 hb_234 hS_23 rfl (L1 := [(r0, 15, 30, .int pk)]) [3] rfl rfl (M1 := []) [] rfl rfl (I1 := []) [] rfl rfl).more hb_235
                clear hh_15 ht_23 hvm_23 hz_23 hk_23 hS_23 hb_231 hb_232 hb_233 hb_234 hb_235
                try simp only at hr_24
                obtain ⟨hr_24_0, hr_24_1, hr_24_2, hr_24_3, hr_24_4, hr_24_5⟩ := hr_24
                refine lv_istore (lv' := [(6, .int r_24), (0, .ref r0), (1, .int a1), (2, .int r_2), (3, .int r_8), (4, .int v4_15), (5, .int v5_15)]) hx hb dX13_readTerm_82 hl (by decide) rfl (fun ls hl => ?_)
                refine lv_iload hx hb dX13_readTerm_84 (lv_at hl 5 rfl) ?_
                have C109 : ∀ (H_25 : Heap) (locs_25 : List Loc), jSt (dC, dI) B base G0 G0 EX13_readTerm s.heap 0 0 [(r0, 15, 32, .int qa_23), (r0, 15, 5, .int qn_23), (r0, 15, 30, .int pk)] [] [] H_25 locs_25 → (True) → ∀ ls : Array Slot, lv_has ls 7 [(0, .ref r0), (1, .int a1), (2, .int r_2), (3, .int r_8), (4, .int v4_15), (5, .int v5_15), (6, .int r_24)] → W p l e R s m ([.ref r0, .int a1] : List Value).toArray below meth c H_25 locs_25 0 0 Q (F0 m 109 ls []) := by
                  intro  H_25 locs_25 hh_25  hi_25 ls hl
                  refine lv_iload hx hb dX13_readTerm_109 (lv_at hl 6 rfl) ?_
                  refine lv_istore (lv' := [(4, .int r_24), (0, .ref r0), (1, .int a1), (2, .int r_2), (3, .int r_8), (5, .int v5_15), (6, .int r_24)]) hx hb dX13_readTerm_111 hl (by decide) rfl (fun ls hl => ?_)
                  refine lv_aload_n hx hb dX13_readTerm_113 rfl (lv_at hl 1 rfl) ?_
                  obtain ⟨v_26, hv_26, hh_27⟩ := hh_25.pin (C := RX13) (T := TX13) (N := 50) hB15 rfl (by decide) hg_r0 (i := 4) (by decide) rfl
                  clear hh_25
                  obtain ⟨three_28, rfl, hg_three_28⟩ := hv_26
                  refine j7_read hx hb hown hK (C := RX13) (T := TX13) (N := 50) rfl hly_15_4 hlk_25 (hh_27.at 0 rfl) dX13_readTerm_114 ?_
                  refine lv_iload_n hx hb dX13_readTerm_117 rfl (lv_at hl 4 rfl) ?_
                  refine lv_dup2_11 hx hb dX13_readTerm_118 rfl rfl ?_
                  refine j7_iald hx hb hK hh_27 hB154 1 rfl (by decide) hg_three_28 (x := r_8.toInt) (rfl) (by omega) dX13_readTerm_119 (fun z_29 (hz_29 : True) => ?_)
                  refine lv_iconst (v := 1) hx hb dX13_readTerm_120 (by decide) ?_
                  refine lv_iadd hx hb dX13_readTerm_121 ?_
                  refine lv_topi (fun z_30 ez_30 => ?_)
                  refine j7_iast hx hb hK hh_27 hB hB154 1 rfl (by decide) (by decide) rfl rfl rfl hg_three_28 (x := r_8.toInt) (rfl) (by omega) (trivial) dX13_readTerm_122 (fun H_31 locs_31 hh_31 => ?_)
                  clear hh_27
                  refine lv_aload_n hx hb dX13_readTerm_123 rfl (lv_at hl 1 rfl) ?_
                  refine lv_bipush (v := 44) hx hb dX13_readTerm_124 (by decide) ?_
                  refine va_calli (A0 := jA base) (H0 := s.heap) (va_runV (As := [.int 44]) (rest := []) ⟨hx, hb, hml, hown, hts⟩ (uX13_is l dC dI ca base B hB hAp hB15 hB157 hB167 G0 H_31 r0 44 pk qa_23) (cwV 1 hts (jgV (jWr_62 _ (List.mem_of_getElem? (i := 13) rfl)) (jWr_62 _ (List.mem_of_getElem? (i := 14) rfl)) (jWr_62 _ (List.mem_of_getElem? (i := 15) rfl)) (jWr_12 _ (List.mem_of_getElem? (i := 12) rfl)) (jWr_62 _ (List.mem_of_getElem? (i := 16) rfl))) rfl rfl rfl (by decide +kernel) ⟨by rw [← hR]; show (0) + 1 ≤ d + 8; omega, by rw [← hR]; show 8 + (2 + 11) + (0) ≤ 60 * d + 400; omega⟩) ⟨fun a U g mk q => by obtain ⟨q0, q1, q2, qK, q10, q11, q12⟩ := q; exact ⟨q0, q1, q2, jG.calling g mk a qK, q10, q11, q12⟩, hh_31.recv (C := RX13) (T := TX13) (N := 50) hB15 rfl (by decide) hg_r0 hK, fun U hU hW => ⟨rfl, hU, hh_31.2.1, hG.step hW hU hh_31.1, hg_r0, (hh_31.2.2.1.sub (L1 := [(r0, 15, 30, .int pk), (r0, 15, 32, .int qa_23)]) [3, 1] rfl), by first | omega | (refine ⟨?_, ?_, ?_, ?_⟩ <;> (first | omega | rfl | assumption | decide | exact Or.inl rfl | exact Or.inr rfl | (simp only; omega)))⟩⟩ rfl rfl hl.1 rfl (lv_room (Nat.le_of_ble_eq_true rfl)) dX13_readTerm_126 ⟨Nat.zero_le _, Nat.zero_le _⟩) hh_31.1 (fun q _ h => h) (fun q h => h) (fun r_33 u_32 t_32 H_32 locs_32 ht_32 hvm_32 hr_33 hb_32 hz_32 hk_32 hS_32 => ?_)
                  rw [ht_32] at hb_32
                  obtain ⟨hb_321, hb_322, hb_323, hb_324, hb_325⟩ := hb_32
                  have hh_32 : jSt (dC, dI) B base G0 G0 EX13_readTerm s.heap 0 0 [(r0, 15, 4, .ref three_28), (r0, 15, 32, .int qa_23), (r0, 15, 5, .int qn_23), (r0, 15, 30, .int pk)] [] [] H_32 locs_32 := (hh_31.call hb_321 hb_322 hb_323 hb_324 hS_32 rfl (L1 := [(r0, 15, 4, .ref three_28), (r0, 15, 32, .int qa_23), (r0, 15, 5, .int qn_23), (r0, 15, 30, .int pk)]) [0, 1, 2, 3] rfl rfl (M1 := []) [] rfl rfl (I1 := []) [] rfl rfl).more hb_325
                  clear hh_31 ht_32 hvm_32 hz_32 hk_32 hS_32 hb_321 hb_322 hb_323 hb_324 hb_325
                  obtain ⟨hr_33b, hr_33p⟩ := hr_33
                  have hr_33' := jb_01 hr_33b
                  refine lv_istore (lv' := [(5, .int r_33), (4, .int r_24), (0, .ref r0), (1, .int a1), (2, .int r_2), (3, .int r_8), (6, .int r_24)]) hx hb dX13_readTerm_129 hl (by decide) rfl (fun ls hl => ?_)
                  refine lv_iload hx hb dX13_readTerm_131 (lv_at hl 0 rfl) ?_
                  refine lv_if_eq (tgt := 146) hx hb dX13_readTerm_133 (by decide) (fun c_34 => ?_) (fun c_34 => ?_)
                  · skip
                    have c_34' : r_33.toInt = 0 := jb_eq (rfl) ((by decide)) c_34
                    first | (have hr_33pq := hr_33p.resolve_left (by omega); clear hr_33p) | (have hr_33pq := hr_33p.resolve_right (by omega); clear hr_33p) | skip
                    refine lv_goto (tgt := 63) hx hb dX13_readTerm_146 (by decide) ?_
                    obtain ⟨v_35, hv_35, hh_36⟩ := hh_32.pin (C := RX13) (T := TX13) (N := 50) hB15 rfl (by decide) hg_r0 (i := 33) (by decide) rfl
                    obtain ⟨wrong_37, rfl, hzwrong_37⟩ := hv_35
                    have hzwrong_37' := jb_01 hzwrong_37
                    exact L63 r_24 r_33 qa_23 qn_23 wrong_37 _ _ (hh_36.sub (L1 := [(r0, 15, 32, .int qa_23), (r0, 15, 5, .int qn_23), (r0, 15, 33, .int wrong_37), (r0, 15, 30, .int pk)]) [2, 3, 0, 4] rfl (M1 := []) [] rfl (I1 := []) [] rfl) (hr_33b) (by first | omega | (refine ⟨?_, ?_, ?_, ?_, ?_, ?_, ?_, ?_, ?_, ?_, ?_⟩ <;> (first | omega | rfl | assumption | decide | exact Or.inl rfl | exact Or.inr rfl | (simp only; omega)))) (by omega) _ (lv_sub hl [2, 3, 4, 5, 1, 0] rfl)
                  · skip
                    have c_34' : r_33.toInt ≠ 0 := jb_eq_n (rfl) ((by decide)) c_34
                    first | (have hr_33pq := hr_33p.resolve_left (by omega); clear hr_33p) | (have hr_33pq := hr_33p.resolve_right (by omega); clear hr_33p) | skip
                    refine lv_aload_n hx hb dX13_readTerm_136 rfl (lv_at hl 2 rfl) ?_
                    refine lv_dup hx hb dX13_readTerm_137 rfl ?_
                    refine j7_read hx hb hown hK (C := RX13) (T := TX13) (N := 50) rfl hly_15_32 hlk_171 (hh_32.at 1 rfl) dX13_readTerm_138 ?_
                    refine lv_iconst (v := 1) hx hb dX13_readTerm_141 (by decide) ?_
                    refine lv_iadd hx hb dX13_readTerm_142 ?_
                    refine lv_topi (fun z_38 ez_38 => ?_)
                    have hz_38 : z_38.toInt = qa_23.toInt + 1 := by rw [ez_38]; exact jb_iadd2 (rfl) ((by decide)) (by omega)
                    refine j7_put hx hb hown hK hh_32 hB hAp hB15 (C := RX13) (T := TX13) (N := 50) rfl (by decide) hg_r0 (i := 32) (by decide) hly_15_32 rfl hlk_171 rfl (ty := .int) (v := .int z_38) (by decide +kernel) rfl rfl (⟨_, rfl, by omega, by omega⟩) rfl (L1 := [(r0, 15, 4, .ref three_28), (r0, 15, 5, .int qn_23), (r0, 15, 30, .int pk)]) [0, 2, 3] rfl rfl rfl dX13_readTerm_143 (fun H_39 locs_39 hh_39 => ?_)
                    clear hh_32
                    refine lv_goto (tgt := 63) hx hb dX13_readTerm_146 (by decide) ?_
                    obtain ⟨v_40, hv_40, hh_41⟩ := hh_39.pin (C := RX13) (T := TX13) (N := 50) hB15 rfl (by decide) hg_r0 (i := 33) (by decide) rfl
                    obtain ⟨wrong_42, rfl, hzwrong_42⟩ := hv_40
                    have hzwrong_42' := jb_01 hzwrong_42
                    exact L63 r_24 r_33 z_38 qn_23 wrong_42 _ _ (hh_41.sub (L1 := [(r0, 15, 32, .int z_38), (r0, 15, 5, .int qn_23), (r0, 15, 33, .int wrong_42), (r0, 15, 30, .int pk)]) [1, 3, 0, 4] rfl (M1 := []) [] rfl (I1 := []) [] rfl) (hr_33b) (by first | omega | (refine ⟨?_, ?_, ?_, ?_, ?_, ?_, ?_, ?_, ?_, ?_, ?_⟩ <;> (first | omega | rfl | assumption | decide | exact Or.inl rfl | exact Or.inr rfl | (simp only; omega)))) (by omega) _ (lv_sub hl [2, 3, 4, 5, 1, 0] rfl)
                refine lv_if_ge (tgt := 100) hx hb dX13_readTerm_86 (by decide) (fun c_43 => ?_) (fun c_43 => ?_)
                · skip
                  have c_43' : v4_15.toInt ≥ 0 := jb_ge (rfl) ((by decide)) c_43
                  refine lv_aload_n hx hb dX13_readTerm_100 rfl (lv_at hl 1 rfl) ?_
                  obtain ⟨v_44, hv_44, hh_45⟩ := hh_23.pin (C := RX13) (T := TX13) (N := 50) hB15 rfl (by decide) hg_r0 (i := 3) (by decide) rfl
                  clear hh_23
                  obtain ⟨two_46, rfl, hg_two_46⟩ := hv_44
                  refine j7_read hx hb hown hK (C := RX13) (T := TX13) (N := 50) rfl hly_15_3 hlk_22 (hh_45.at 0 rfl) dX13_readTerm_101 ?_
                  refine lv_iload hx hb dX13_readTerm_104 (lv_at hl 5 rfl) ?_
                  refine lv_iload hx hb dX13_readTerm_106 (lv_at hl 0 rfl) ?_
                  refine j7_iast hx hb hK hh_45 hB hB153 1 rfl (by decide) (by decide) rfl rfl rfl hg_two_46 (x := v4_15.toInt) (rfl) (by omega) (trivial) dX13_readTerm_108 (fun H_47 locs_47 hh_47 => ?_)
                  clear hh_45
                  exact C109  _ _ (hh_47.sub (L1 := [(r0, 15, 32, .int qa_23), (r0, 15, 5, .int qn_23), (r0, 15, 30, .int pk)]) [1, 2, 3] rfl (M1 := []) [] rfl (I1 := []) [] rfl) (trivial) _ (lv_sub hl [1, 2, 3, 4, 5, 6, 0] rfl)
                · skip
                  have c_43' : v4_15.toInt < 0 := jb_ge_n (rfl) ((by decide)) c_43
                  refine lv_aload_n hx hb dX13_readTerm_89 rfl (lv_at hl 1 rfl) ?_
                  obtain ⟨v_48, hv_48, hh_49⟩ := hh_23.pin (C := RX13) (T := TX13) (N := 50) hB15 rfl (by decide) hg_r0 (i := 2) (by decide) rfl
                  clear hh_23
                  obtain ⟨one_50, rfl, hg_one_50⟩ := hv_48
                  refine j7_read hx hb hown hK (C := RX13) (T := TX13) (N := 50) rfl hly_15_2 hlk_19 (hh_49.at 0 rfl) dX13_readTerm_90 ?_
                  refine lv_iload_n hx hb dX13_readTerm_93 rfl (lv_at hl 4 rfl) ?_
                  refine lv_iload hx hb dX13_readTerm_94 (lv_at hl 0 rfl) ?_
                  refine j7_iast hx hb hK hh_49 hB hB152 1 rfl (by decide) (by decide) rfl rfl rfl hg_one_50 (x := r_8.toInt) (rfl) (by omega) (trivial) dX13_readTerm_96 (fun H_51 locs_51 hh_51 => ?_)
                  clear hh_49
                  refine lv_goto (tgt := 109) hx hb dX13_readTerm_97 (by decide) ?_
                  exact C109  _ _ (hh_51.sub (L1 := [(r0, 15, 32, .int qa_23), (r0, 15, 5, .int qn_23), (r0, 15, 30, .int pk)]) [1, 2, 3] rfl (M1 := []) [] rfl (I1 := []) [] rfl) (trivial) _ (lv_sub hl [1, 2, 3, 4, 5, 6, 0] rfl)
        exact L63 (pk.toInt - (z_13 : Int32).toInt + (1 : Int32).toInt : Int).toNat.succ (-1) 1 z_13 qn_7 ww_12 _ _ (hh_14.sub (L1 := [(r0, 15, 32, .int z_13), (r0, 15, 5, .int qn_7), (r0, 15, 33, .int ww_12), (r0, 15, 30, .int pk)]) [0, 2, 1, 3] rfl (M1 := []) [] rfl (I1 := []) [] rfl) (Or.inr rfl) (by first | omega | (refine ⟨?_, ?_, ?_, ?_, ?_, ?_, ?_, ?_, ?_, ?_, ?_⟩ <;> (first | omega | rfl | assumption | decide | exact Or.inl rfl | exact Or.inr rfl | (simp only; omega)))) (by omega) _ (lv_sub hl [2, 3, 4, 5, 1, 0] rfl)
      refine lv_icmp_ne (tgt := 47) hx hb dX13_readTerm_39 (by decide) (fun c_52 => ?_) (fun c_52 => ?_)
      · skip
        have c_52' : a1.toInt ≠ 12 := jb_ne (rfl) ((by decide)) c_52
        exact C47 wrong_5 _ _ (hh_9.sub (L1 := [(r0, 15, 33, .int wrong_5), (r0, 15, 5, .int qn_7), (r0, 15, 32, .int qa_1), (r0, 15, 30, .int pk)]) [1, 0, 2, 3] rfl (M1 := []) [] rfl (I1 := []) [] rfl) (by first | omega | (refine ⟨?_, ?_, ?_⟩ <;> (first | omega | rfl | assumption | decide | exact Or.inl rfl | exact Or.inr rfl | (simp only; omega)))) _ (lv_sub hl [2, 3, 1, 0] rfl)
      · skip
        have c_52' : a1.toInt = 12 := jb_ne_n (rfl) ((by decide)) c_52
        refine lv_aload_n hx hb dX13_readTerm_42 rfl (lv_at hl 2 rfl) ?_
        refine lv_iconst (v := 1) hx hb dX13_readTerm_43 (by decide) ?_
        refine j7_put hx hb hown hK hh_9 hB hAp hB15 (C := RX13) (T := TX13) (N := 50) rfl (by decide) hg_r0 (i := 33) (by decide) hly_15_33 rfl hlk_181 rfl (ty := .boolean) (v := .int 1) (by decide +kernel) (jb_nz (Or.inr rfl)) (jb_fz (Or.inr rfl)) (⟨_, rfl, (Or.inr rfl)⟩) rfl (L1 := [(r0, 15, 5, .int qn_7), (r0, 15, 32, .int qa_1), (r0, 15, 30, .int pk)]) [0, 2, 3] rfl rfl rfl dX13_readTerm_44 (fun H_53 locs_53 hh_53 => ?_)
        clear hh_9
        exact C47 1 _ _ hh_53 (by first | omega | (refine ⟨?_, ?_, ?_⟩ <;> (first | omega | rfl | assumption | decide | exact Or.inl rfl | exact Or.inr rfl | (simp only; omega)))) _ (lv_sub hl [2, 3, 1, 0] rfl)
    · skip
      have c_11' : r_10.toInt = 0 := jb_ne_n (rfl) ((by decide)) c_11
      first | (have hr_10pq := hr_10p.resolve_left (by omega); clear hr_10p) | (have hr_10pq := hr_10p.resolve_right (by omega); clear hr_10p) | try clear hr_10p
      refine lv_iload_n hx hb dX13_readTerm_34 rfl (lv_at hl 0 rfl) ?_
      rw [hQ]
      exact W.iret (v := r_8) hx hb hr (fun t ht hW => ⟨⟨r_8, (qa_1, qn_7), rfl, by first | omega | (refine ⟨?_, ?_, ?_, ?_, ?_, ?_⟩ <;> (first | omega | rfl | assumption | decide | exact Or.inl rfl | exact Or.inr rfl | (simp only; omega))), hh_9.rt (M1 := [(r0, 15, 32, .int qa_1), (r0, 15, 5, .int qn_7)]) [2, 0] rfl ht⟩, by rw [ht]; try exact hh_9.1.1, fun q h9 hq => by rw [ht]; try exact hh_9.1.2.1 q h9 hq⟩) hh_9.1.2.2 dX13_readTerm_35
  · skip
    have c_6' : wrong_5.toInt ≠ 0 := jb_eq_n (rfl) ((by decide)) c_6
    refine lv_iconst (v := 0) hx hb dX13_readTerm_12 (by decide) ?_
    rw [hQ]
    exact W.iret (v := 0) hx hb hr (fun t ht hW => ⟨⟨0, (qa_1, pn), rfl, by first | omega | (refine ⟨?_, ?_, ?_, ?_, ?_, ?_⟩ <;> (first | omega | rfl | assumption | decide | exact Or.inl rfl | exact Or.inr rfl | (simp only; omega))), hh_4.rt (M1 := [(r0, 15, 32, .int qa_1), (r0, 15, 5, .int pn)]) [1, 3] rfl ht⟩, by rw [ht]; try exact hh_4.1.1, fun q h9 hq => by rw [ht]; try exact hh_4.1.2.1 q h9 hq⟩) hh_4.1.2.2 dX13_readTerm_13
theorem aX13_readTerm (l : Launch) (dC : Nat → ClassId) (dI : Nat → Nat → Nat) (ca : Nat → ClassId) (base : Nat) (B : jF) (hB : jBok B) (hAp : jAp (dC, dI)) (hB15 : ∀ n G a H, B 15 n G a H ↔ jOb (dC, dI) 15 50 (F15 n G) a H) (hB150 : ∀ n G a H, B 150 n G a H ↔ jAr (dC, dI) (ca 1) (fun j z => True) n a H) (hB151 : ∀ n G a H, B 151 n G a H ↔ jAr (dC, dI) (ca 1) (fun j z => True) n a H) (hB152 : ∀ n G a H, B 152 n G a H ↔ jAr (dC, dI) (ca 1) (fun j z => True) n a H) (hB153 : ∀ n G a H, B 153 n G a H ↔ jAr (dC, dI) (ca 1) (fun j z => True) n a H) (hB154 : ∀ n G a H, B 154 n G a H ↔ jAr (dC, dI) (ca 1) (fun j z => True) n a H) (hB155 : ∀ n G a H, B 155 n G a H ↔ jAr (dC, dI) (ca 1) (fun j z => 0 ≤ z.toInt ∧ z.toInt ≤ 11990) n a H) (hB156 : ∀ n G a H, B 156 n G a H ↔ jAr (dC, dI) (ca 1) (fun j z => 0 ≤ z.toInt ∧ z.toInt ≤ 10) n a H) (hB157 : ∀ n G a H, B 157 n G a H ↔ jAr (dC, dI) (ca 1) (fun j z => 0 ≤ z.toInt ∧ z.toInt ≤ 1599) n a H) (hB166 : ∀ n G a H, B 166 n G a H ↔ jAr (dC, dI) (ca 1) (fun j z => True) n a H) (hB167 : ∀ n G a H, B 167 n G a H ↔ jAr (dC, dI) (ca 1) (fun j z => True) n a H) : ∀ ef, qX13_readTerm l dC dI ca base B ef := fun ef => Nat.strongRecOn ef (fun e ih => fun G0 H0 r0 a1 pk pa pn => uX13_readTerm l dC dI ca base B hB hAp hB15 hB150 hB151 hB152 hB153 hB154 hB155 hB156 hB157 hB166 hB167 e ih G0 H0 r0 a1 pk pa pn)
