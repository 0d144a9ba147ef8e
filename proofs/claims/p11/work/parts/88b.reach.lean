theorem dX14_isSame_0 : decode cX14_isSame 0 = .ok (.aload_n 0, 1) := by decide +kernel
theorem dX14_isSame_1 : decode cX14_isSame 1 = .ok (.getfield 594, 3) := by decide +kernel
theorem dX14_isSame_4 : decode cX14_isSame 4 = .ok (.iload_n 1, 1) := by decide +kernel
theorem dX14_isSame_5 : decode cX14_isSame 5 = .ok (.iaload, 1) := by decide +kernel
theorem dX14_isSame_6 : decode cX14_isSame 6 = .ok (.aload_n 0, 1) := by decide +kernel
theorem dX14_isSame_7 : decode cX14_isSame 7 = .ok (.getfield 596, 3) := by decide +kernel
theorem dX14_isSame_10 : decode cX14_isSame 10 = .ok (.iload_n 1, 1) := by decide +kernel
theorem dX14_isSame_11 : decode cX14_isSame 11 = .ok (.iaload, 1) := by decide +kernel
theorem dX14_isSame_12 : decode cX14_isSame 12 = .ok (.isub, 1) := by decide +kernel
theorem dX14_isSame_13 : decode cX14_isSame 13 = .ok (.istore 4, 2) := by decide +kernel
theorem dX14_isSame_15 : decode cX14_isSame 15 = .ok (.aload_n 2, 1) := by decide +kernel
theorem dX14_isSame_16 : decode cX14_isSame 16 = .ok (.getfield 594, 3) := by decide +kernel
theorem dX14_isSame_19 : decode cX14_isSame 19 = .ok (.iload_n 3, 1) := by decide +kernel
theorem dX14_isSame_20 : decode cX14_isSame 20 = .ok (.iaload, 1) := by decide +kernel
theorem dX14_isSame_21 : decode cX14_isSame 21 = .ok (.aload_n 2, 1) := by decide +kernel
theorem dX14_isSame_22 : decode cX14_isSame 22 = .ok (.getfield 596, 3) := by decide +kernel
theorem dX14_isSame_25 : decode cX14_isSame 25 = .ok (.iload_n 3, 1) := by decide +kernel
theorem dX14_isSame_26 : decode cX14_isSame 26 = .ok (.iaload, 1) := by decide +kernel
theorem dX14_isSame_27 : decode cX14_isSame 27 = .ok (.isub, 1) := by decide +kernel
theorem dX14_isSame_28 : decode cX14_isSame 28 = .ok (.iload 4, 2) := by decide +kernel
theorem dX14_isSame_30 : decode cX14_isSame 30 = .ok (.if_icmp .ne 18, 3) := by decide +kernel
theorem dX14_isSame_33 : decode cX14_isSame 33 = .ok (.aload_n 0, 1) := by decide +kernel
theorem dX14_isSame_34 : decode cX14_isSame 34 = .ok (.getfield 599, 3) := by decide +kernel
theorem dX14_isSame_37 : decode cX14_isSame 37 = .ok (.iload_n 1, 1) := by decide +kernel
theorem dX14_isSame_38 : decode cX14_isSame 38 = .ok (.iaload, 1) := by decide +kernel
theorem dX14_isSame_39 : decode cX14_isSame 39 = .ok (.aload_n 2, 1) := by decide +kernel
theorem dX14_isSame_40 : decode cX14_isSame 40 = .ok (.getfield 599, 3) := by decide +kernel
theorem dX14_isSame_43 : decode cX14_isSame 43 = .ok (.iload_n 3, 1) := by decide +kernel
theorem dX14_isSame_44 : decode cX14_isSame 44 = .ok (.iaload, 1) := by decide +kernel
theorem dX14_isSame_45 : decode cX14_isSame 45 = .ok (.if_icmp .eq 5, 3) := by decide +kernel
theorem dX14_isSame_48 : decode cX14_isSame 48 = .ok (.iconst 0, 1) := by decide +kernel
theorem dX14_isSame_49 : decode cX14_isSame 49 = .ok (.ireturn, 1) := by decide +kernel
theorem dX14_isSame_50 : decode cX14_isSame 50 = .ok (.iconst 0, 1) := by decide +kernel
theorem dX14_isSame_51 : decode cX14_isSame 51 = .ok (.istore 5, 2) := by decide +kernel
theorem dX14_isSame_53 : decode cX14_isSame 53 = .ok (.iload 5, 2) := by decide +kernel
theorem dX14_isSame_55 : decode cX14_isSame 55 = .ok (.iload 4, 2) := by decide +kernel
theorem dX14_isSame_57 : decode cX14_isSame 57 = .ok (.if_icmp .ge 42, 3) := by decide +kernel
theorem dX14_isSame_60 : decode cX14_isSame 60 = .ok (.aload_n 0, 1) := by decide +kernel
theorem dX14_isSame_61 : decode cX14_isSame 61 = .ok (.getfield 529, 3) := by decide +kernel
theorem dX14_isSame_64 : decode cX14_isSame 64 = .ok (.aload_n 0, 1) := by decide +kernel
theorem dX14_isSame_65 : decode cX14_isSame 65 = .ok (.getfield 596, 3) := by decide +kernel
theorem dX14_isSame_68 : decode cX14_isSame 68 = .ok (.iload_n 1, 1) := by decide +kernel
theorem dX14_isSame_69 : decode cX14_isSame 69 = .ok (.iaload, 1) := by decide +kernel
theorem dX14_isSame_70 : decode cX14_isSame 70 = .ok (.iload 5, 2) := by decide +kernel
theorem dX14_isSame_72 : decode cX14_isSame 72 = .ok (.iadd, 1) := by decide +kernel
theorem dX14_isSame_73 : decode cX14_isSame 73 = .ok (.iaload, 1) := by decide +kernel
theorem dX14_isSame_74 : decode cX14_isSame 74 = .ok (.aload_n 2, 1) := by decide +kernel
theorem dX14_isSame_75 : decode cX14_isSame 75 = .ok (.getfield 529, 3) := by decide +kernel
theorem dX14_isSame_78 : decode cX14_isSame 78 = .ok (.aload_n 2, 1) := by decide +kernel
theorem dX14_isSame_79 : decode cX14_isSame 79 = .ok (.getfield 596, 3) := by decide +kernel
theorem dX14_isSame_82 : decode cX14_isSame 82 = .ok (.iload_n 3, 1) := by decide +kernel
theorem dX14_isSame_83 : decode cX14_isSame 83 = .ok (.iaload, 1) := by decide +kernel
theorem dX14_isSame_84 : decode cX14_isSame 84 = .ok (.iload 5, 2) := by decide +kernel
theorem dX14_isSame_86 : decode cX14_isSame 86 = .ok (.iadd, 1) := by decide +kernel
theorem dX14_isSame_87 : decode cX14_isSame 87 = .ok (.iaload, 1) := by decide +kernel
theorem dX14_isSame_88 : decode cX14_isSame 88 = .ok (.if_icmp .eq 5, 3) := by decide +kernel
theorem dX14_isSame_91 : decode cX14_isSame 91 = .ok (.iconst 0, 1) := by decide +kernel
theorem dX14_isSame_92 : decode cX14_isSame 92 = .ok (.ireturn, 1) := by decide +kernel
theorem dX14_isSame_93 : decode cX14_isSame 93 = .ok (.iinc 5 1, 3) := by decide +kernel
theorem dX14_isSame_96 : decode cX14_isSame 96 = .ok (.goto (-43), 3) := by decide +kernel
theorem dX14_isSame_99 : decode cX14_isSame 99 = .ok (.iconst 1, 1) := by decide +kernel
theorem dX14_isSame_100 : decode cX14_isSame 100 = .ok (.ireturn, 1) := by decide +kernel
theorem dX14_takeRow_0 : decode cX14_takeRow 0 = .ok (.aload_n 0, 1) := by decide +kernel
theorem dX14_takeRow_1 : decode cX14_takeRow 1 = .ok (.iconst 0, 1) := by decide +kernel
theorem dX14_takeRow_2 : decode cX14_takeRow 2 = .ok (.putfield 766, 3) := by decide +kernel
theorem dX14_takeRow_5 : decode cX14_takeRow 5 = .ok (.iconst 0, 1) := by decide +kernel
theorem dX14_takeRow_6 : decode cX14_takeRow 6 = .ok (.istore_n 3, 1) := by decide +kernel
theorem dX14_takeRow_7 : decode cX14_takeRow 7 = .ok (.iload_n 3, 1) := by decide +kernel
theorem dX14_takeRow_8 : decode cX14_takeRow 8 = .ok (.iload_n 2, 1) := by decide +kernel
theorem dX14_takeRow_9 : decode cX14_takeRow 9 = .ok (.if_icmp .gt 80, 3) := by decide +kernel
theorem dX14_takeRow_12 : decode cX14_takeRow 12 = .ok (.aload_n 1, 1) := by decide +kernel
theorem dX14_takeRow_13 : decode cX14_takeRow 13 = .ok (.getfield 596, 3) := by decide +kernel
theorem dX14_takeRow_16 : decode cX14_takeRow 16 = .ok (.iload_n 3, 1) := by decide +kernel
theorem dX14_takeRow_17 : decode cX14_takeRow 17 = .ok (.iaload, 1) := by decide +kernel
theorem dX14_takeRow_18 : decode cX14_takeRow 18 = .ok (.istore 4, 2) := by decide +kernel
theorem dX14_takeRow_20 : decode cX14_takeRow 20 = .ok (.iload 4, 2) := by decide +kernel
theorem dX14_takeRow_22 : decode cX14_takeRow 22 = .ok (.aload_n 1, 1) := by decide +kernel
theorem dX14_takeRow_23 : decode cX14_takeRow 23 = .ok (.getfield 594, 3) := by decide +kernel
theorem dX14_takeRow_26 : decode cX14_takeRow 26 = .ok (.iload_n 3, 1) := by decide +kernel
theorem dX14_takeRow_27 : decode cX14_takeRow 27 = .ok (.iaload, 1) := by decide +kernel
theorem dX14_takeRow_28 : decode cX14_takeRow 28 = .ok (.if_icmp .ge 35, 3) := by decide +kernel
theorem dX14_takeRow_31 : decode cX14_takeRow 31 = .ok (.aload_n 0, 1) := by decide +kernel
theorem dX14_takeRow_32 : decode cX14_takeRow 32 = .ok (.getfield 148, 3) := by decide +kernel
theorem dX14_takeRow_35 : decode cX14_takeRow 35 = .ok (.aload_n 0, 1) := by decide +kernel
theorem dX14_takeRow_36 : decode cX14_takeRow 36 = .ok (.getfield 766, 3) := by decide +kernel
theorem dX14_takeRow_39 : decode cX14_takeRow 39 = .ok (.aload_n 1, 1) := by decide +kernel
theorem dX14_takeRow_40 : decode cX14_takeRow 40 = .ok (.getfield 529, 3) := by decide +kernel
theorem dX14_takeRow_43 : decode cX14_takeRow 43 = .ok (.iload 4, 2) := by decide +kernel
theorem dX14_takeRow_45 : decode cX14_takeRow 45 = .ok (.iaload, 1) := by decide +kernel
theorem dX14_takeRow_46 : decode cX14_takeRow 46 = .ok (.iastore, 1) := by decide +kernel
theorem dX14_takeRow_47 : decode cX14_takeRow 47 = .ok (.aload_n 0, 1) := by decide +kernel
theorem dX14_takeRow_48 : decode cX14_takeRow 48 = .ok (.dup, 1) := by decide +kernel
theorem dX14_takeRow_49 : decode cX14_takeRow 49 = .ok (.getfield 766, 3) := by decide +kernel
theorem dX14_takeRow_52 : decode cX14_takeRow 52 = .ok (.iconst 1, 1) := by decide +kernel
theorem dX14_takeRow_53 : decode cX14_takeRow 53 = .ok (.iadd, 1) := by decide +kernel
theorem dX14_takeRow_54 : decode cX14_takeRow 54 = .ok (.putfield 766, 3) := by decide +kernel
theorem dX14_takeRow_57 : decode cX14_takeRow 57 = .ok (.iinc 4 1, 3) := by decide +kernel
theorem dX14_takeRow_60 : decode cX14_takeRow 60 = .ok (.goto (-40), 3) := by decide +kernel
theorem dX14_takeRow_63 : decode cX14_takeRow 63 = .ok (.aload_n 0, 1) := by decide +kernel
theorem dX14_takeRow_64 : decode cX14_takeRow 64 = .ok (.getfield 148, 3) := by decide +kernel
theorem dX14_takeRow_67 : decode cX14_takeRow 67 = .ok (.aload_n 0, 1) := by decide +kernel
theorem dX14_takeRow_68 : decode cX14_takeRow 68 = .ok (.getfield 766, 3) := by decide +kernel
theorem dX14_takeRow_71 : decode cX14_takeRow 71 = .ok (.iconst (-1), 1) := by decide +kernel
theorem dX14_takeRow_72 : decode cX14_takeRow 72 = .ok (.iastore, 1) := by decide +kernel
theorem dX14_takeRow_73 : decode cX14_takeRow 73 = .ok (.aload_n 0, 1) := by decide +kernel
theorem dX14_takeRow_74 : decode cX14_takeRow 74 = .ok (.dup, 1) := by decide +kernel
theorem dX14_takeRow_75 : decode cX14_takeRow 75 = .ok (.getfield 766, 3) := by decide +kernel
theorem dX14_takeRow_78 : decode cX14_takeRow 78 = .ok (.iconst 1, 1) := by decide +kernel
theorem dX14_takeRow_79 : decode cX14_takeRow 79 = .ok (.iadd, 1) := by decide +kernel
theorem dX14_takeRow_80 : decode cX14_takeRow 80 = .ok (.putfield 766, 3) := by decide +kernel
theorem dX14_takeRow_83 : decode cX14_takeRow 83 = .ok (.iinc 3 1, 3) := by decide +kernel
theorem dX14_takeRow_86 : decode cX14_takeRow 86 = .ok (.goto (-79), 3) := by decide +kernel
theorem dX14_takeRow_89 : decode cX14_takeRow 89 = .ok (.return_, 1) := by decide +kernel
theorem dX14_costOf_0 : decode cX14_costOf 0 = .ok (.aload_n 0, 1) := by decide +kernel
theorem dX14_costOf_1 : decode cX14_costOf 1 = .ok (.getfield 122, 3) := by decide +kernel
theorem dX14_costOf_4 : decode cX14_costOf 4 = .ok (.invokevirtual 627, 3) := by decide +kernel
theorem dX14_costOf_7 : decode cX14_costOf 7 = .ok (.aload_n 0, 1) := by decide +kernel
theorem dX14_costOf_8 : decode cX14_costOf 8 = .ok (.getfield 122, 3) := by decide +kernel
theorem dX14_costOf_11 : decode cX14_costOf 11 = .ok (.aload_n 1, 1) := by decide +kernel
theorem dX14_costOf_12 : decode cX14_costOf 12 = .ok (.getfield 529, 3) := by decide +kernel
theorem dX14_costOf_15 : decode cX14_costOf 15 = .ok (.aload_n 1, 1) := by decide +kernel
theorem dX14_costOf_16 : decode cX14_costOf 16 = .ok (.getfield 596, 3) := by decide +kernel
theorem dX14_costOf_19 : decode cX14_costOf 19 = .ok (.iload_n 2, 1) := by decide +kernel
theorem dX14_costOf_20 : decode cX14_costOf 20 = .ok (.iaload, 1) := by decide +kernel
theorem dX14_costOf_21 : decode cX14_costOf 21 = .ok (.aload_n 1, 1) := by decide +kernel
theorem dX14_costOf_22 : decode cX14_costOf 22 = .ok (.getfield 594, 3) := by decide +kernel
theorem dX14_costOf_25 : decode cX14_costOf 25 = .ok (.iload_n 2, 1) := by decide +kernel
theorem dX14_costOf_26 : decode cX14_costOf 26 = .ok (.iaload, 1) := by decide +kernel
theorem dX14_costOf_27 : decode cX14_costOf 27 = .ok (.aload_n 1, 1) := by decide +kernel
theorem dX14_costOf_28 : decode cX14_costOf 28 = .ok (.getfield 599, 3) := by decide +kernel
theorem dX14_costOf_31 : decode cX14_costOf 31 = .ok (.iload_n 2, 1) := by decide +kernel
theorem dX14_costOf_32 : decode cX14_costOf 32 = .ok (.iaload, 1) := by decide +kernel
theorem dX14_costOf_33 : decode cX14_costOf 33 = .ok (.invokevirtual 779, 3) := by decide +kernel
theorem dX14_costOf_36 : decode cX14_costOf 36 = .ok (.ireturn, 1) := by decide +kernel
def EX13_beginK : List (Nat × Nat) := [(15, 5), (15, 7), (15, 10), (15, 11), (15, 15), (15, 18), (15, 21)]
def EX14_takeRow : List (Nat × Nat) := [(16, 70), (101, 0)]
def EX14_isSame : List (Nat × Nat) := []
def EX14_costOf : List (Nat × Nat) := [(15, 5), (15, 7), (15, 10), (15, 11), (15, 15), (15, 18), (15, 21), (15, 30), (15, 31), (155, 0), (156, 0), (157, 0), (166, 0), (167, 0)]
set_option maxHeartbeats 4000000 in
set_option maxRecDepth 20000 in
theorem uX13_beginK (l : Launch) (dC : Nat → ClassId) (dI : Nat → Nat → Nat) (ca : Nat → ClassId) (base : Nat) (B : jF) (hB : jBok B) (hAp : jAp (dC, dI)) (hB15 : ∀ n G a H, B 15 n G a H ↔ jOb (dC, dI) 15 50 (F15 n G) a H) (G0 : jT) (H0 : Heap) (r0 : Nat) : Met l yX13_begin (jw yX13_begin cX13_begin 1 none) ({ frames := 0, cells := 0, slots := 0, locals := 0 }) (va_Pc [.ref r0] (fun U => U.heap = H0 ∧ jX B base G0 [] H0 ∧ jG dC dI ca base U ∧ G0 r0 = some (15, 0) ∧ jP (dC, dI) G0 H0 [] ∧ True)) (va_Qv (S := Int32 × Int32 × Int32 × Int32 × Int32 × Int32 × Int32) (fun u => u.1.toInt = 0 ∧ u.2.1.toInt = 0 ∧ u.2.2.1.toInt = 0 ∧ u.2.2.2.1.toInt = 0 ∧ u.2.2.2.2.1.toInt = 0 ∧ u.2.2.2.2.2.1.toInt = 0 ∧ u.2.2.2.2.2.2.toInt = 0) (fun u t => jRt (dC, dI) B base G0 EX13_beginK H0 [(r0, 15, 5, .int u.1), (r0, 15, 11, .int u.2.1), (r0, 15, 15, .int u.2.2.1), (r0, 15, 21, .int u.2.2.2.1), (r0, 15, 18, .int u.2.2.2.2.1), (r0, 15, 10, .int u.2.2.2.2.2.1), (r0, 15, 7, .int u.2.2.2.2.2.2)] t.heap) (jA base)) 0 0 (jA base) := by
  refine Met.ofW (cc := cX13_begin) (maxL := 1) (ret := none) (by decide) rfl ?_
  intro p e s m args below meth c s₁ Bd hml hv
  obtain ⟨rfl, hH0, hX, hG, hg_r0, hP0, hp0⟩ := hv
  have hK := hG.1
  have hx := Bd.exec
  have hb := Bd.bytes
  have hr := Bd.returns
  have hts := atoms_spec (ws := (jw yX13_begin cX13_begin 1 none)) Bd.pre
  have htw : ∀ w ∈ jWl, w.before _ s = true := fun w h => hts w (List.mem_cons_of_mem _ h)
  have hown : s.vm.findClass RX13 = some m.cls := findClass_of_methodNamed Bd.named
  have hlocks := Bd.notSynchronized
  obtain ⟨Q, hQ⟩ : ∃ Q, Q = MQ below (va_Qv (S := Int32 × Int32 × Int32 × Int32 × Int32 × Int32 × Int32) (fun u => u.1.toInt = 0 ∧ u.2.1.toInt = 0 ∧ u.2.2.1.toInt = 0 ∧ u.2.2.2.1.toInt = 0 ∧ u.2.2.2.2.1.toInt = 0 ∧ u.2.2.2.2.2.1.toInt = 0 ∧ u.2.2.2.2.2.2.toInt = 0) (fun u t => jRt (dC, dI) B base G0 EX13_beginK H0 [(r0, 15, 5, .int u.1), (r0, 15, 11, .int u.2.1), (r0, 15, 15, .int u.2.2.1), (r0, 15, 21, .int u.2.2.2.1), (r0, 15, 18, .int u.2.2.2.2.1), (r0, 15, 10, .int u.2.2.2.2.2.1), (r0, 15, 7, .int u.2.2.2.2.2.2)] t.heap) (jA base)) ([.ref r0] : List Value).toArray s 0 0 (jA base) := ⟨_, rfl⟩
  rw [← hQ]
  have hl := lv_entry ([.ref r0]) (n := 1) (Nat.le_of_ble_eq_true rfl)
  rw [lg_entry_eq]
  generalize (lg_sl ([.ref r0]) ++ List.replicate (1 - (lg_sl ([.ref r0])).length) Slot.unset).toArray = ls at hl ⊢
  have hl : lv_has ls 1 [(0, .ref r0)] := hl
  generalize hR : (headSpec (jw yX13_begin cX13_begin 1 none) ({ frames := 0, cells := 0, slots := 0, locals := 0 })).room = R
  subst hH0
  have hh : jSt (dC, dI) B base G0 G0 EX13_beginK s.heap 0 0 [] [] [] s.heap [] := jSt.start hX hP0 jMc.nil jIs.nil
  clear hX hP0
  have hk0 : (0 : Int32).toInt = 0 := by decide
  have hk1 : (1 : Int32).toInt = 1 := by decide
  have hly_15_5 := htw (u_lay RX13 TX13 5) (jWc_wsX130 _ (u_in_lay (by decide)))
  have hly_15_7 := htw (u_lay RX13 TX13 7) (jWc_wsX130 _ (u_in_lay (by decide)))
  have hly_15_10 := htw (u_lay RX13 TX13 10) (jWc_wsX130 _ (u_in_lay (by decide)))
  have hly_15_11 := htw (u_lay RX13 TX13 11) (jWc_wsX130 _ (u_in_lay (by decide)))
  have hly_15_15 := htw (u_lay RX13 TX13 15) (jWc_wsX130 _ (u_in_lay (by decide)))
  have hly_15_18 := htw (u_lay RX13 TX13 18) (jWc_wsX130 _ (u_in_lay (by decide)))
  have hly_15_21 := htw (u_lay RX13 TX13 21) (jWc_wsX130 _ (u_in_lay (by decide)))
  have hlk_99 := (htw (.fieldLink RX13 99 "ProofServerModel$Kernel" "nodes" "I") (jWr_59 _ (List.mem_of_getElem? (i := 14) rfl)))
  have hlk_103 := (htw (.fieldLink RX13 103 "ProofServerModel$Kernel" "nameCount" "I") (jWr_59 _ (List.mem_of_getElem? (i := 15) rfl)))
  have hlk_106 := (htw (.fieldLink RX13 106 "ProofServerModel$Kernel" "signCount" "I") (jWr_59 _ (List.mem_of_getElem? (i := 16) rfl)))
  have hlk_109 := (htw (.fieldLink RX13 109 "ProofServerModel$Kernel" "symbols" "I") (jWr_59 _ (List.mem_of_getElem? (i := 17) rfl)))
  have hlk_112 := (htw (.fieldLink RX13 112 "ProofServerModel$Kernel" "facts" "I") (jWr_59 _ (List.mem_of_getElem? (i := 18) rfl)))
  have hlk_115 := (htw (.fieldLink RX13 115 "ProofServerModel$Kernel" "proof" "Z") (jWr_59 _ (List.mem_of_getElem? (i := 19) rfl)))
  have hlk_119 := (htw (.fieldLink RX13 119 "ProofServerModel$Kernel" "goals" "I") (jWr_59 _ (List.mem_of_getElem? (i := 20) rfl)))
  refine lv_aload_n hx hb dX13_begin_0 rfl (lv_at hl 0 rfl) ?_
  refine lv_iconst (v := 0) hx hb dX13_begin_1 (by decide) ?_
  refine j7_put hx hb hown hK hh hB hAp hB15 (C := RX13) (T := TX13) (N := 50) rfl (by decide) hg_r0 (i := 5) (by decide) hly_15_5 rfl hlk_99 rfl (ty := .int) (v := .int 0) (by decide +kernel) rfl rfl (⟨_, rfl, by omega, by omega⟩) rfl (L1 := []) [] rfl rfl rfl dX13_begin_2 (fun H_1 locs_1 hh_1 => ?_)
  clear hh
  refine lv_aload_n hx hb dX13_begin_5 rfl (lv_at hl 0 rfl) ?_
  refine lv_iconst (v := 0) hx hb dX13_begin_6 (by decide) ?_
  refine j7_put hx hb hown hK hh_1 hB hAp hB15 (C := RX13) (T := TX13) (N := 50) rfl (by decide) hg_r0 (i := 10) (by decide) hly_15_10 rfl hlk_103 rfl (ty := .int) (v := .int 0) (by decide +kernel) rfl rfl (⟨_, rfl, by omega, by omega⟩) rfl (L1 := [(r0, 15, 5, .int 0)]) [0] rfl rfl rfl dX13_begin_7 (fun H_2 locs_2 hh_2 => ?_)
  clear hh_1
  refine lv_aload_n hx hb dX13_begin_10 rfl (lv_at hl 0 rfl) ?_
  refine lv_iconst (v := 0) hx hb dX13_begin_11 (by decide) ?_
  refine j7_put hx hb hown hK hh_2 hB hAp hB15 (C := RX13) (T := TX13) (N := 50) rfl (by decide) hg_r0 (i := 7) (by decide) hly_15_7 rfl hlk_106 rfl (ty := .int) (v := .int 0) (by decide +kernel) rfl rfl (⟨_, rfl, by omega, by omega⟩) rfl (L1 := [(r0, 15, 10, .int 0), (r0, 15, 5, .int 0)]) [0, 1] rfl rfl rfl dX13_begin_12 (fun H_3 locs_3 hh_3 => ?_)
  clear hh_2
  refine lv_aload_n hx hb dX13_begin_15 rfl (lv_at hl 0 rfl) ?_
  refine lv_iconst (v := 0) hx hb dX13_begin_16 (by decide) ?_
  refine j7_put hx hb hown hK hh_3 hB hAp hB15 (C := RX13) (T := TX13) (N := 50) rfl (by decide) hg_r0 (i := 11) (by decide) hly_15_11 rfl hlk_109 rfl (ty := .int) (v := .int 0) (by decide +kernel) rfl rfl (⟨_, rfl, by omega, by omega⟩) rfl (L1 := [(r0, 15, 7, .int 0), (r0, 15, 10, .int 0), (r0, 15, 5, .int 0)]) [0, 1, 2] rfl rfl rfl dX13_begin_17 (fun H_4 locs_4 hh_4 => ?_)
  clear hh_3
  refine lv_aload_n hx hb dX13_begin_20 rfl (lv_at hl 0 rfl) ?_
  refine lv_iconst (v := 0) hx hb dX13_begin_21 (by decide) ?_
  refine j7_put hx hb hown hK hh_4 hB hAp hB15 (C := RX13) (T := TX13) (N := 50) rfl (by decide) hg_r0 (i := 15) (by decide) hly_15_15 rfl hlk_112 rfl (ty := .int) (v := .int 0) (by decide +kernel) rfl rfl (⟨_, rfl, by omega, by omega⟩) rfl (L1 := [(r0, 15, 11, .int 0), (r0, 15, 7, .int 0), (r0, 15, 10, .int 0), (r0, 15, 5, .int 0)]) [0, 1, 2, 3] rfl rfl rfl dX13_begin_22 (fun H_5 locs_5 hh_5 => ?_)
  clear hh_4
  refine lv_aload_n hx hb dX13_begin_25 rfl (lv_at hl 0 rfl) ?_
  refine lv_iconst (v := 0) hx hb dX13_begin_26 (by decide) ?_
  refine j7_put hx hb hown hK hh_5 hB hAp hB15 (C := RX13) (T := TX13) (N := 50) rfl (by decide) hg_r0 (i := 18) (by decide) hly_15_18 rfl hlk_115 rfl (ty := .boolean) (v := .int 0) (by decide +kernel) (jb_nz (Or.inl rfl)) (jb_fz (Or.inl rfl)) (⟨_, rfl, (Or.inl rfl)⟩) rfl (L1 := [(r0, 15, 15, .int 0), (r0, 15, 11, .int 0), (r0, 15, 7, .int 0), (r0, 15, 10, .int 0), (r0, 15, 5, .int 0)]) [0, 1, 2, 3, 4] rfl rfl rfl dX13_begin_27 (fun H_6 locs_6 hh_6 => ?_)
  clear hh_5
  refine lv_aload_n hx hb dX13_begin_30 rfl (lv_at hl 0 rfl) ?_
  refine lv_iconst (v := 0) hx hb dX13_begin_31 (by decide) ?_
  refine j7_put hx hb hown hK hh_6 hB hAp hB15 (C := RX13) (T := TX13) (N := 50) rfl (by decide) hg_r0 (i := 21) (by decide) hly_15_21 rfl hlk_119 rfl (ty := .int) (v := .int 0) (by decide +kernel) rfl rfl (⟨_, rfl, by omega, by omega⟩) rfl (L1 := [(r0, 15, 18, .int 0), (r0, 15, 15, .int 0), (r0, 15, 11, .int 0), (r0, 15, 7, .int 0), (r0, 15, 10, .int 0), (r0, 15, 5, .int 0)]) [0, 1, 2, 3, 4, 5] rfl rfl rfl dX13_begin_32 (fun H_7 locs_7 hh_7 => ?_)
  clear hh_6
  rw [hQ]
  exact W.vret hx hb hr (fun t ht hW => ⟨⟨(0, 0, 0, 0, 0, 0, 0), rfl, by (try dsimp only); first | omega | (refine ⟨?_, ?_, ?_, ?_, ?_, ?_, ?_⟩ <;> (first | omega | rfl | assumption | decide | exact Or.inl rfl | exact Or.inr rfl | (simp only; omega))), hh_7.rt (M1 := [(r0, 15, 5, .int 0), (r0, 15, 11, .int 0), (r0, 15, 15, .int 0), (r0, 15, 21, .int 0), (r0, 15, 18, .int 0), (r0, 15, 10, .int 0), (r0, 15, 7, .int 0)]) [6, 3, 2, 0, 1, 5, 4] rfl ht⟩, by rw [ht]; try exact hh_7.1.1, fun q h9 hq => by rw [ht]; try exact hh_7.1.2.1 q h9 hq⟩) hh_7.1.2.2 dX13_begin_35
set_option maxHeartbeats 4000000 in
set_option maxRecDepth 20000 in
theorem uX14_takeRow (l : Launch) (dC : Nat → ClassId) (dI : Nat → Nat → Nat) (ca : Nat → ClassId) (base : Nat) (B : jF) (hB : jBok B) (hAp : jAp (dC, dI)) (hB14 : ∀ n G a H, B 14 n G a H ↔ jOb (dC, dI) 14 11 (F14 n G) a H) (hB16 : ∀ n G a H, B 16 n G a H ↔ jOb (dC, dI) 16 74 (F16 n G) a H) (hB101 : ∀ n G a H, B 101 n G a H ↔ jAr (dC, dI) (ca 1) (fun j z => True) n a H) (hB190 : ∀ n G a H, B 190 n G a H ↔ jAr (dC, dI) (ca 1) (fun j z => 0 ≤ z.toInt ∧ z.toInt ≤ 1500) n a H) (hB191 : ∀ n G a H, B 191 n G a H ↔ jAr (dC, dI) (ca 1) (fun j z => 0 ≤ z.toInt ∧ z.toInt ≤ 1500) n a H) (G0 : jT) (H0 : Heap) (r0 : Nat) (r1 : Nat) (a2 : Int32) (yb : Nat) (ye : Nat) (sn : Int) (fb : Nat → Int32) (fe : Nat → Int32) : Met l yX14_takeRow (jw yX14_takeRow cX14_takeRow 5 none) ({ frames := 0, cells := 0, slots := 0, locals := 0 }) (va_Pc [.ref r0, .ref r1, .int a2] (fun U => U.heap = H0 ∧ jX B base G0 [] H0 ∧ jG dC dI ca base U ∧ G0 r1 = some (14, 0) ∧ G0 r0 = some (16, 0) ∧ G0 yb = some (190, 40) ∧ G0 ye = some (191, 40) ∧ jP (dC, dI) G0 H0 [(r1, 14, 6, .ref yb), (r1, 14, 7, .ref ye)] ∧ jMc (dC, dI) G0 H0 [(yb, 190, 40, ca 1, fb), (ye, 191, 40, ca 1, fe)] ∧ jSrt fb fe sn 1500 ∧ 0 ≤ a2.toInt ∧ a2.toInt < sn ∧ sn ≤ 40)) (va_Qv (S := Unit) (fun u => True) (fun u t => jRt (dC, dI) B base G0 EX14_takeRow H0 [] t.heap) (jA base)) 0 0 (jA base) := by
  refine Met.ofW (cc := cX14_takeRow) (maxL := 5) (ret := none) (by decide) rfl ?_
  intro p e s m args below meth c s₁ Bd hml hv
  obtain ⟨rfl, hH0, hX, hG, hg_r1, hg_r0, hg_yb, hg_ye, hP0, hM0, hp0, hp1, hp2, hp3⟩ := hv
  have hK := hG.1
  have hx := Bd.exec
  have hb := Bd.bytes
  have hr := Bd.returns
  have hts := atoms_spec (ws := (jw yX14_takeRow cX14_takeRow 5 none)) Bd.pre
  have htw : ∀ w ∈ jWl, w.before _ s = true := fun w h => hts w (List.mem_cons_of_mem _ h)
  have hown : s.vm.findClass RX14 = some m.cls := findClass_of_methodNamed Bd.named
  have hlocks := Bd.notSynchronized
  obtain ⟨Q, hQ⟩ : ∃ Q, Q = MQ below (va_Qv (S := Unit) (fun u => True) (fun u t => jRt (dC, dI) B base G0 EX14_takeRow H0 [] t.heap) (jA base)) ([.ref r0, .ref r1, .int a2] : List Value).toArray s 0 0 (jA base) := ⟨_, rfl⟩
  rw [← hQ]
  have hl := lv_entry ([.ref r0, .ref r1, .int a2]) (n := 5) (Nat.le_of_ble_eq_true rfl)
  rw [lg_entry_eq]
  generalize (lg_sl ([.ref r0, .ref r1, .int a2]) ++ List.replicate (5 - (lg_sl ([.ref r0, .ref r1, .int a2])).length) Slot.unset).toArray = ls at hl ⊢
  have hl : lv_has ls 5 [(0, .ref r0), (1, .ref r1), (2, .int a2)] := hl
  generalize hR : (headSpec (jw yX14_takeRow cX14_takeRow 5 none) ({ frames := 0, cells := 0, slots := 0, locals := 0 })).room = R
  subst hH0
  have hh : jSt (dC, dI) B base G0 G0 EX14_takeRow s.heap 0 0 [(r1, 14, 6, .ref yb), (r1, 14, 7, .ref ye)] [(yb, 190, 40, ca 1, fb), (ye, 191, 40, ca 1, fe)] [] s.heap [] := jSt.start hX hP0 hM0 jIs.nil
  clear hX hP0
  have hkm1 : ((-1) : Int32).toInt = (-1) := by decide
  have hk0 : (0 : Int32).toInt = 0 := by decide
  have hk1 : (1 : Int32).toInt = 1 := by decide
  have hly_14_3 := htw (u_lay RX12 TX12 3) (jWc_wsX120 _ (u_in_lay (by decide)))
  have hly_14_6 := htw (u_lay RX12 TX12 6) (jWc_wsX120 _ (u_in_lay (by decide)))
  have hly_14_7 := htw (u_lay RX12 TX12 7) (jWc_wsX120 _ (u_in_lay (by decide)))
  have hly_16_69 := htw (u_lay RX14 TX14 69) (jWc_wsX140 _ (u_in_lay (by decide)))
  have hly_16_70 := htw (u_lay RX14 TX14 70) (jWc_wsX140 _ (u_in_lay (by decide)))
  have hlk_766 := (htw (.fieldLink RX14 766 "ProofServerModel" "rowLength" "I") (jWr_90 _ (List.mem_of_getElem? (i := 17) rfl)))
  have hlk_596 := (va_Nw.use (A := ([.ref r0, .ref r1, .int a2] : List Value).toArray) rfl (hG.2.1 RX14 596 "ProofServerModel$Document" "begin" "[I" "ProofServerModel" (List.mem_of_getElem? (i := 1739) (by decide +kernel))))
  have hlk_594 := (va_Nw.use (A := ([.ref r0, .ref r1, .int a2] : List Value).toArray) rfl (hG.2.1 RX14 594 "ProofServerModel$Document" "end" "[I" "ProofServerModel" (List.mem_of_getElem? (i := 1741) (by decide +kernel))))
  have hlk_148 := (htw (.fieldLink RX14 148 "ProofServerModel" "row" "[I") (jWr_12 _ (List.mem_of_getElem? (i := 22) rfl)))
  have hlk_529 := (va_Nw.use (A := ([.ref r0, .ref r1, .int a2] : List Value).toArray) rfl (hG.2.1 RX14 529 "ProofServerModel$Document" "text" "[I" "ProofServerModel" (List.mem_of_getElem? (i := 1735) (by decide +kernel))))
  have hrg_a2 := jb_rng a2
  refine lv_aload_n hx hb dX14_takeRow_0 rfl (lv_at hl 0 rfl) ?_
  refine lv_iconst (v := 0) hx hb dX14_takeRow_1 (by decide) ?_
  refine j7_put hx hb hown hK hh hB hAp hB16 (C := RX14) (T := TX14) (N := 74) rfl (by decide) hg_r0 (i := 70) (by decide) hly_16_70 rfl hlk_766 rfl (ty := .int) (v := .int 0) (by decide +kernel) rfl rfl (⟨_, rfl, by omega, by omega⟩) rfl (L1 := [(r1, 14, 6, .ref yb), (r1, 14, 7, .ref ye)]) [0, 1] rfl rfl rfl dX14_takeRow_2 (fun H_1 locs_1 hh_1 => ?_)
  clear hh
  refine lv_iconst (v := 0) hx hb dX14_takeRow_5 (by decide) ?_
  refine lv_istore_n (lv' := [(3, .int 0), (0, .ref r0), (1, .ref r1), (2, .int a2)]) hx hb dX14_takeRow_6 rfl hl (by decide) rfl (fun ls hl => ?_)
  have L7 : ∀ (N : Nat) (v3_2 : Int32) (wl_2 : Int32) (H_2 : Heap) (locs_2 : List Loc), jSt (dC, dI) B base G0 G0 EX14_takeRow s.heap 0 0 [(r0, 16, 70, .int wl_2), (r1, 14, 6, .ref yb), (r1, 14, 7, .ref ye)] [(yb, 190, 40, ca 1, fb), (ye, 191, 40, ca 1, fe)] [] H_2 locs_2 → (0 ≤ v3_2.toInt ∧ v3_2.toInt ≤ a2.toInt + 1 ∧ 0 ≤ wl_2.toInt ∧ wl_2.toInt ≤ 1500 + v3_2.toInt ∧ (v3_2.toInt ≤ a2.toInt → wl_2.toInt ≤ jSo fb v3_2.toInt + v3_2.toInt)) → (a2.toInt + 1 - v3_2.toInt : Int) < N → ∀ ls : Array Slot, lv_has ls 5 [(0, .ref r0), (1, .ref r1), (2, .int a2), (3, .int v3_2)] → W p l e R s m ([.ref r0, .ref r1, .int a2] : List Value).toArray below meth c H_2 locs_2 0 0 Q (F0 m 7 ls []) := by
    intro N
    induction N with
    | zero => intro v3_2 wl_2 H_2 locs_2 hh_2  hi_2 hm; exact absurd hm (by omega)
    | succ N L7 =>
      intro v3_2 wl_2 H_2 locs_2 hh_2  hi_2 hm_2 ls hl
      obtain ⟨hi_2_0, hi_2_1, hi_2_2, hi_2_3, hi_2_4⟩ := hi_2
      refine lv_iload_n hx hb dX14_takeRow_7 rfl (lv_at hl 3 rfl) ?_
      refine lv_iload_n hx hb dX14_takeRow_8 rfl (lv_at hl 2 rfl) ?_
      refine lv_icmp_gt (tgt := 89) hx hb dX14_takeRow_9 (by decide) (fun c_3 => ?_) (fun c_3 => ?_)
      · skip
        have c_3' : v3_2.toInt > a2.toInt := jb_gt (rfl) (rfl) c_3
        rw [hQ]
        exact W.vret hx hb hr (fun t ht hW => ⟨⟨(), rfl, trivial, hh_2.rt (M1 := []) [] rfl ht⟩, by rw [ht]; try exact hh_2.1.1, fun q h9 hq => by rw [ht]; try exact hh_2.1.2.1 q h9 hq⟩) hh_2.1.2.2 dX14_takeRow_89
      · skip
        have c_3' : v3_2.toInt ≤ a2.toInt := jb_gt_n (rfl) (rfl) c_3
        obtain ⟨s1, s2, s3, s4⟩ := hp0 v3_2.toInt (by omega) (by omega)
        refine lv_aload_n hx hb dX14_takeRow_12 rfl (lv_at hl 1 rfl) ?_
        refine j7_readN hx hb hown hK (C := RX12) (T := TX12) (N := 11) rfl hly_14_6 hlk_596 (hh_2.at 1 rfl) dX14_takeRow_13 ?_
        refine lv_iload_n hx hb dX14_takeRow_16 rfl (lv_at hl 3 rfl) ?_
        refine j7_ialdM hx hb hK hh_2 hB190 1 rfl (by decide) hg_yb (x := v3_2.toInt) (rfl) (by omega) (j := 0) rfl dX14_takeRow_17 (fun z_4 ez_4 (hz_4 : 0 ≤ z_4.toInt ∧ z_4.toInt ≤ 1500) => ?_)
        have hqz_4 : z_4.toInt = jSo fb (v3_2.toInt) := by unfold jSo; rw [ez_4]
        refine lv_istore (lv' := [(4, .int z_4), (0, .ref r0), (1, .ref r1), (2, .int a2), (3, .int v3_2)]) hx hb dX14_takeRow_18 hl (by decide) rfl (fun ls hl => ?_)
        have L20 : ∀ (N : Nat) (v4_5 : Int32) (wl_5 : Int32) (H_5 : Heap) (locs_5 : List Loc), jSt (dC, dI) B base G0 G0 EX14_takeRow s.heap 0 0 [(r0, 16, 70, .int wl_5), (r1, 14, 6, .ref yb), (r1, 14, 7, .ref ye)] [(yb, 190, 40, ca 1, fb), (ye, 191, 40, ca 1, fe)] [] H_5 locs_5 → (jSo fb v3_2.toInt ≤ v4_5.toInt ∧ v4_5.toInt ≤ jSo fe v3_2.toInt ∧ 0 ≤ wl_5.toInt ∧ wl_5.toInt ≤ v4_5.toInt + v3_2.toInt) → (jSo fe v3_2.toInt - v4_5.toInt : Int) < N → ∀ ls : Array Slot, lv_has ls 5 [(0, .ref r0), (1, .ref r1), (2, .int a2), (3, .int v3_2), (4, .int v4_5)] → W p l e R s m ([.ref r0, .ref r1, .int a2] : List Value).toArray below meth c H_5 locs_5 0 0 Q (F0 m 20 ls []) := by
          intro N
          induction N with
          | zero => intro v4_5 wl_5 H_5 locs_5 hh_5  hi_5 hm; exact absurd hm (by omega)
          | succ N L20 =>
            intro v4_5 wl_5 H_5 locs_5 hh_5  hi_5 hm_5 ls hl
            obtain ⟨hi_5_0, hi_5_1, hi_5_2, hi_5_3⟩ := hi_5
            refine lv_iload hx hb dX14_takeRow_20 (lv_at hl 4 rfl) ?_
            refine lv_aload_n hx hb dX14_takeRow_22 rfl (lv_at hl 1 rfl) ?_
            refine j7_readN hx hb hown hK (C := RX12) (T := TX12) (N := 11) rfl hly_14_7 hlk_594 (hh_5.at 2 rfl) dX14_takeRow_23 ?_
            refine lv_iload_n hx hb dX14_takeRow_26 rfl (lv_at hl 3 rfl) ?_
            refine j7_ialdM hx hb hK hh_5 hB191 1 rfl (by decide) hg_ye (x := v3_2.toInt) (rfl) (by omega) (j := 1) rfl dX14_takeRow_27 (fun z_6 ez_6 (hz_6 : 0 ≤ z_6.toInt ∧ z_6.toInt ≤ 1500) => ?_)
            have hqz_6 : z_6.toInt = jSo fe (v3_2.toInt) := by unfold jSo; rw [ez_6]
            refine lv_icmp_ge (tgt := 63) hx hb dX14_takeRow_28 (by decide) (fun c_7 => ?_) (fun c_7 => ?_)
            · skip
              have c_7' : v4_5.toInt ≥ z_6.toInt := jb_ge (rfl) (rfl) c_7
              refine lv_aload_n hx hb dX14_takeRow_63 rfl (lv_at hl 0 rfl) ?_
              obtain ⟨v_8, hv_8, hh_9⟩ := hh_5.pin (C := RX14) (T := TX14) (N := 74) hB16 rfl (by decide) hg_r0 (i := 69) (by decide) rfl
              clear hh_5
              obtain ⟨row_10, rfl, hg_row_10⟩ := hv_8
              refine j7_read hx hb hown hK (C := RX14) (T := TX14) (N := 74) rfl hly_16_69 hlk_148 (hh_9.at 0 rfl) dX14_takeRow_64 ?_
              refine lv_aload_n hx hb dX14_takeRow_67 rfl (lv_at hl 0 rfl) ?_
              refine j7_read hx hb hown hK (C := RX14) (T := TX14) (N := 74) rfl hly_16_70 hlk_766 (hh_9.at 1 rfl) dX14_takeRow_68 ?_
              refine lv_iconst (v := (-1)) hx hb dX14_takeRow_71 (by decide) ?_
              refine j7_iast hx hb hK hh_9 hB hB101 1 rfl (by decide) (by decide) rfl rfl rfl hg_row_10 (x := wl_5.toInt) (rfl) (by omega) (trivial) dX14_takeRow_72 (fun H_11 locs_11 hh_11 => ?_)
              clear hh_9
              refine lv_aload_n hx hb dX14_takeRow_73 rfl (lv_at hl 0 rfl) ?_
              refine lv_dup hx hb dX14_takeRow_74 rfl ?_
              refine j7_read hx hb hown hK (C := RX14) (T := TX14) (N := 74) rfl hly_16_70 hlk_766 (hh_11.at 1 rfl) dX14_takeRow_75 ?_
              refine lv_iconst (v := 1) hx hb dX14_takeRow_78 (by decide) ?_
              refine lv_iadd hx hb dX14_takeRow_79 ?_
              refine lv_topi (fun z_12 ez_12 => ?_)
              have hz_12 : z_12.toInt = wl_5.toInt + 1 := by rw [ez_12]; exact jb_iadd2 (rfl) ((by decide)) (by omega)
              refine j7_put hx hb hown hK hh_11 hB hAp hB16 (C := RX14) (T := TX14) (N := 74) rfl (by decide) hg_r0 (i := 70) (by decide) hly_16_70 rfl hlk_766 rfl (ty := .int) (v := .int z_12) (by decide +kernel) rfl rfl (⟨_, rfl, by omega, by omega⟩) rfl (L1 := [(r0, 16, 69, .ref row_10), (r1, 14, 6, .ref yb), (r1, 14, 7, .ref ye)]) [0, 2, 3] rfl rfl rfl dX14_takeRow_80 (fun H_13 locs_13 hh_13 => ?_)
              clear hh_11
              obtain ⟨z_14, ez_14⟩ : ∃ y : Int32, y = v3_2 + 1 := ⟨_, rfl⟩
              refine lv_iinc (v := z_14) (lv' := [(3, .int z_14), (0, .ref r0), (1, .ref r1), (2, .int a2), (4, .int v4_5)]) hx hb dX14_takeRow_83 hl (k := 3) rfl (by rw [ez_14]; rfl) (by decide) rfl (fun ls hl => ?_)
              have hz_14 : z_14.toInt = v3_2.toInt + 1 := by rw [ez_14]; exact jb_iadd2 (rfl) (by decide) (by omega)
              refine lv_goto (tgt := 7) hx hb dX14_takeRow_86 (by decide) ?_
              exact L7 z_14 z_12 _ _ (hh_13.sub (L1 := [(r0, 16, 70, .int z_12), (r1, 14, 6, .ref yb), (r1, 14, 7, .ref ye)]) [0, 2, 3] rfl (M1 := [(yb, 190, 40, ca 1, fb), (ye, 191, 40, ca 1, fe)]) [0, 1] rfl (I1 := []) [] rfl) (⟨(by first | omega | rfl | assumption | (intro _; rw [hk0]; have h9 := (hp0 0 (by omega) (by omega)).1; omega) | (intro h9; rw [show (z_14).toInt = v3_2.toInt + 1 by omega]; have h8 := s4 (by omega); omega)), (by first | omega | rfl | assumption | (intro _; rw [hk0]; have h9 := (hp0 0 (by omega) (by omega)).1; omega) | (intro h9; rw [show (z_14).toInt = v3_2.toInt + 1 by omega]; have h8 := s4 (by omega); omega)), (by first | omega | rfl | assumption | (intro _; rw [hk0]; have h9 := (hp0 0 (by omega) (by omega)).1; omega) | (intro h9; rw [show (z_14).toInt = v3_2.toInt + 1 by omega]; have h8 := s4 (by omega); omega)), (by first | omega | rfl | assumption | (intro _; rw [hk0]; have h9 := (hp0 0 (by omega) (by omega)).1; omega) | (intro h9; rw [show (z_14).toInt = v3_2.toInt + 1 by omega]; have h8 := s4 (by omega); omega)), (by first | assumption | (intro _; rw [hk0]; have h9 := (hp0 0 (by omega) (by omega)).1; omega) | (intro h9; rw [show (z_14).toInt = v3_2.toInt + 1 by omega]; have h8 := s4 (by omega); omega) | omega)⟩) (by omega) _ (lv_sub hl [1, 2, 3, 0] rfl)
            · skip
              have c_7' : v4_5.toInt < z_6.toInt := jb_ge_n (rfl) (rfl) c_7
              refine lv_aload_n hx hb dX14_takeRow_31 rfl (lv_at hl 0 rfl) ?_
              obtain ⟨v_15, hv_15, hh_16⟩ := hh_5.pin (C := RX14) (T := TX14) (N := 74) hB16 rfl (by decide) hg_r0 (i := 69) (by decide) rfl
              clear hh_5
              obtain ⟨row_17, rfl, hg_row_17⟩ := hv_15
              refine j7_read hx hb hown hK (C := RX14) (T := TX14) (N := 74) rfl hly_16_69 hlk_148 (hh_16.at 0 rfl) dX14_takeRow_32 ?_
              refine lv_aload_n hx hb dX14_takeRow_35 rfl (lv_at hl 0 rfl) ?_
              refine j7_read hx hb hown hK (C := RX14) (T := TX14) (N := 74) rfl hly_16_70 hlk_766 (hh_16.at 1 rfl) dX14_takeRow_36 ?_
              refine lv_aload_n hx hb dX14_takeRow_39 rfl (lv_at hl 1 rfl) ?_
              obtain ⟨v_18, hv_18, hh_19⟩ := hh_16.pin (C := RX12) (T := TX12) (N := 11) hB14 rfl (by decide) hg_r1 (i := 3) (by decide) rfl
              clear hh_16
              obtain ⟨text_20, rfl, hg_text_20⟩ := hv_18
              refine j7_readN hx hb hown hK (C := RX12) (T := TX12) (N := 11) rfl hly_14_3 hlk_529 (hh_19.at 0 rfl) dX14_takeRow_40 ?_
              refine lv_iload hx hb dX14_takeRow_43 (lv_at hl 4 rfl) ?_
              refine j7_iald hx hb hK hh_19 hB101 1 rfl (by decide) hg_text_20 (x := v4_5.toInt) (rfl) (by omega) dX14_takeRow_45 (fun z_21 (hz_21 : True) => ?_)
              refine j7_iast hx hb hK hh_19 hB hB101 1 rfl (by decide) (by decide) rfl rfl rfl hg_row_17 (x := wl_5.toInt) (rfl) (by omega) (trivial) dX14_takeRow_46 (fun H_22 locs_22 hh_22 => ?_)
              clear hh_19
              refine lv_aload_n hx hb dX14_takeRow_47 rfl (lv_at hl 0 rfl) ?_
              refine lv_dup hx hb dX14_takeRow_48 rfl ?_
              refine j7_read hx hb hown hK (C := RX14) (T := TX14) (N := 74) rfl hly_16_70 hlk_766 (hh_22.at 2 rfl) dX14_takeRow_49 ?_
              refine lv_iconst (v := 1) hx hb dX14_takeRow_52 (by decide) ?_
              refine lv_iadd hx hb dX14_takeRow_53 ?_
              refine lv_topi (fun z_23 ez_23 => ?_)
              have hz_23 : z_23.toInt = wl_5.toInt + 1 := by rw [ez_23]; exact jb_iadd2 (rfl) ((by decide)) (by omega)
              refine j7_put hx hb hown hK hh_22 hB hAp hB16 (C := RX14) (T := TX14) (N := 74) rfl (by decide) hg_r0 (i := 70) (by decide) hly_16_70 rfl hlk_766 rfl (ty := .int) (v := .int z_23) (by decide +kernel) rfl rfl (⟨_, rfl, by omega, by omega⟩) rfl (L1 := [(r1, 14, 3, .ref text_20), (r0, 16, 69, .ref row_17), (r1, 14, 6, .ref yb), (r1, 14, 7, .ref ye)]) [0, 1, 3, 4] rfl rfl rfl dX14_takeRow_54 (fun H_24 locs_24 hh_24 => ?_)
              clear hh_22
              obtain ⟨z_25, ez_25⟩ : ∃ y : Int32, y = v4_5 + 1 := ⟨_, rfl⟩
              refine lv_iinc (v := z_25) (lv' := [(4, .int z_25), (0, .ref r0), (1, .ref r1), (2, .int a2), (3, .int v3_2)]) hx hb dX14_takeRow_57 hl (k := 4) rfl (by rw [ez_25]; rfl) (by decide) rfl (fun ls hl => ?_)
              have hz_25 : z_25.toInt = v4_5.toInt + 1 := by rw [ez_25]; exact jb_iadd2 (rfl) (by decide) (by omega)
              refine lv_goto (tgt := 20) hx hb dX14_takeRow_60 (by decide) ?_
              exact L20 z_25 z_23 _ _ (hh_24.sub (L1 := [(r0, 16, 70, .int z_23), (r1, 14, 6, .ref yb), (r1, 14, 7, .ref ye)]) [0, 3, 4] rfl (M1 := [(yb, 190, 40, ca 1, fb), (ye, 191, 40, ca 1, fe)]) [0, 1] rfl (I1 := []) [] rfl) (by first | omega | (refine ⟨?_, ?_, ?_, ?_⟩ <;> (first | omega | rfl | assumption | decide | exact Or.inl rfl | exact Or.inr rfl | (simp only; omega)))) (by omega) _ (lv_sub hl [1, 2, 3, 4, 0] rfl)
        exact L20 (jSo fe v3_2.toInt - (z_4 : Int32).toInt : Int).toNat.succ z_4 wl_2 _ _ hh_2 (by first | omega | (refine ⟨?_, ?_, ?_, ?_⟩ <;> (first | omega | rfl | assumption | decide | exact Or.inl rfl | exact Or.inr rfl | (simp only; omega)))) (by omega) _ (lv_sub hl [1, 2, 3, 4, 0] rfl)
  exact L7 (a2.toInt + 1 - (0 : Int32).toInt : Int).toNat.succ 0 0 _ _ hh_1 (⟨(by first | omega | rfl | assumption | (intro _; rw [hk0]; have h9 := (hp0 0 (by omega) (by omega)).1; omega) | (intro h9; rw [show (0).toInt = (zz_none).toInt + 1 by omega]; have h8 := s4 (by omega); omega)), (by first | omega | rfl | assumption | (intro _; rw [hk0]; have h9 := (hp0 0 (by omega) (by omega)).1; omega) | (intro h9; rw [show (0).toInt = (zz_none).toInt + 1 by omega]; have h8 := s4 (by omega); omega)), (by first | omega | rfl | assumption | (intro _; rw [hk0]; have h9 := (hp0 0 (by omega) (by omega)).1; omega) | (intro h9; rw [show (0).toInt = (zz_none).toInt + 1 by omega]; have h8 := s4 (by omega); omega)), (by first | omega | rfl | assumption | (intro _; rw [hk0]; have h9 := (hp0 0 (by omega) (by omega)).1; omega) | (intro h9; rw [show (0).toInt = (zz_none).toInt + 1 by omega]; have h8 := s4 (by omega); omega)), (by first | assumption | (intro _; rw [hk0]; have h9 := (hp0 0 (by omega) (by omega)).1; omega) | (intro h9; rw [show (0).toInt = (zz_none).toInt + 1 by omega]; have h8 := s4 (by omega); omega) | omega)⟩) (by omega) _ (lv_sub hl [1, 2, 3, 0] rfl)
set_option maxHeartbeats 4000000 in
set_option maxRecDepth 20000 in
theorem uX14_isSame (l : Launch) (dC : Nat → ClassId) (dI : Nat → Nat → Nat) (ca : Nat → ClassId) (base : Nat) (B : jF) (hB : jBok B) (hAp : jAp (dC, dI)) (hB14 : ∀ n G a H, B 14 n G a H ↔ jOb (dC, dI) 14 11 (F14 n G) a H) (hB101 : ∀ n G a H, B 101 n G a H ↔ jAr (dC, dI) (ca 1) (fun j z => True) n a H) (hB190 : ∀ n G a H, B 190 n G a H ↔ jAr (dC, dI) (ca 1) (fun j z => 0 ≤ z.toInt ∧ z.toInt ≤ 1500) n a H) (hB191 : ∀ n G a H, B 191 n G a H ↔ jAr (dC, dI) (ca 1) (fun j z => 0 ≤ z.toInt ∧ z.toInt ≤ 1500) n a H) (hB192 : ∀ n G a H, B 192 n G a H ↔ jAr (dC, dI) (ca 1) (fun j z => 0 ≤ z.toInt ∧ z.toInt ≤ 2) n a H) (G0 : jT) (H0 : Heap) (r0 : Nat) (a1 : Int32) (r2 : Nat) (a3 : Int32) (yb : Nat) (ye : Nat) (xb : Nat) (xe : Nat) (fb : Nat → Int32) (fe : Nat → Int32) (gb : Nat → Int32) (ge : Nat → Int32) : Met l yX14_isSame (jw yX14_isSame cX14_isSame 6 (some .boolean)) ({ frames := 0, cells := 0, slots := 0, locals := 0 }) (va_Pc [.ref r0, .int a1, .ref r2, .int a3] (fun U => U.heap = H0 ∧ jX B base G0 [] H0 ∧ jG dC dI ca base U ∧ G0 r0 = some (14, 0) ∧ G0 r2 = some (14, 0) ∧ G0 yb = some (190, 40) ∧ G0 ye = some (191, 40) ∧ G0 xb = some (190, 40) ∧ G0 xe = some (191, 40) ∧ jP (dC, dI) G0 H0 [(r0, 14, 6, .ref yb), (r0, 14, 7, .ref ye), (r2, 14, 6, .ref xb), (r2, 14, 7, .ref xe)] ∧ jMc (dC, dI) G0 H0 [(yb, 190, 40, ca 1, fb), (ye, 191, 40, ca 1, fe), (xb, 190, 40, ca 1, gb), (xe, 191, 40, ca 1, ge)] ∧ 0 ≤ a1.toInt ∧ a1.toInt ≤ 39 ∧ 0 ≤ a3.toInt ∧ a3.toInt ≤ 39)) (va_Qi (S := Unit) (fun r u => (r = 0 ∨ r = 1) ∧ (True)) (fun u t => jRt (dC, dI) B base G0 EX14_isSame H0 [] t.heap) (jA base)) 0 0 (jA base) := by
  refine Met.ofW (cc := cX14_isSame) (maxL := 6) (ret := (some .boolean)) (by decide) rfl ?_
  intro p e s m args below meth c s₁ Bd hml hv
  obtain ⟨rfl, hH0, hX, hG, hg_r0, hg_r2, hg_yb, hg_ye, hg_xb, hg_xe, hP0, hM0, hp0, hp1, hp2, hp3⟩ := hv
  have hK := hG.1
  have hx := Bd.exec
  have hb := Bd.bytes
  have hr := Bd.returns
  have hts := atoms_spec (ws := (jw yX14_isSame cX14_isSame 6 (some .boolean))) Bd.pre
  have htw : ∀ w ∈ jWl, w.before _ s = true := fun w h => hts w (List.mem_cons_of_mem _ h)
  have hown : s.vm.findClass RX14 = some m.cls := findClass_of_methodNamed Bd.named
  have hlocks := Bd.notSynchronized
  obtain ⟨Q, hQ⟩ : ∃ Q, Q = MQ below (va_Qi (S := Unit) (fun r u => (r = 0 ∨ r = 1) ∧ (True)) (fun u t => jRt (dC, dI) B base G0 EX14_isSame H0 [] t.heap) (jA base)) ([.ref r0, .int a1, .ref r2, .int a3] : List Value).toArray s 0 0 (jA base) := ⟨_, rfl⟩
  rw [← hQ]
  have hl := lv_entry ([.ref r0, .int a1, .ref r2, .int a3]) (n := 6) (Nat.le_of_ble_eq_true rfl)
  rw [lg_entry_eq]
  generalize (lg_sl ([.ref r0, .int a1, .ref r2, .int a3]) ++ List.replicate (6 - (lg_sl ([.ref r0, .int a1, .ref r2, .int a3])).length) Slot.unset).toArray = ls at hl ⊢
  have hl : lv_has ls 6 [(0, .ref r0), (1, .int a1), (2, .ref r2), (3, .int a3)] := hl
  generalize hR : (headSpec (jw yX14_isSame cX14_isSame 6 (some .boolean)) ({ frames := 0, cells := 0, slots := 0, locals := 0 })).room = R
  subst hH0
  have hh : jSt (dC, dI) B base G0 G0 EX14_isSame s.heap 0 0 [(r0, 14, 6, .ref yb), (r0, 14, 7, .ref ye), (r2, 14, 6, .ref xb), (r2, 14, 7, .ref xe)] [(yb, 190, 40, ca 1, fb), (ye, 191, 40, ca 1, fe), (xb, 190, 40, ca 1, gb), (xe, 191, 40, ca 1, ge)] [] s.heap [] := jSt.start hX hP0 hM0 jIs.nil
  clear hX hP0
  have hk0 : (0 : Int32).toInt = 0 := by decide
  have hk1 : (1 : Int32).toInt = 1 := by decide
  have hly_14_3 := htw (u_lay RX12 TX12 3) (jWc_wsX120 _ (u_in_lay (by decide)))
  have hly_14_6 := htw (u_lay RX12 TX12 6) (jWc_wsX120 _ (u_in_lay (by decide)))
  have hly_14_7 := htw (u_lay RX12 TX12 7) (jWc_wsX120 _ (u_in_lay (by decide)))
  have hly_14_8 := htw (u_lay RX12 TX12 8) (jWc_wsX120 _ (u_in_lay (by decide)))
  have hlk_594 := (va_Nw.use (A := ([.ref r0, .int a1, .ref r2, .int a3] : List Value).toArray) rfl (hG.2.1 RX14 594 "ProofServerModel$Document" "end" "[I" "ProofServerModel" (List.mem_of_getElem? (i := 1741) (by decide +kernel))))
  have hlk_596 := (va_Nw.use (A := ([.ref r0, .int a1, .ref r2, .int a3] : List Value).toArray) rfl (hG.2.1 RX14 596 "ProofServerModel$Document" "begin" "[I" "ProofServerModel" (List.mem_of_getElem? (i := 1739) (by decide +kernel))))
  have hlk_599 := (va_Nw.use (A := ([.ref r0, .int a1, .ref r2, .int a3] : List Value).toArray) rfl (hG.2.1 RX14 599 "ProofServerModel$Document" "flaw" "[I" "ProofServerModel" (List.mem_of_getElem? (i := 1743) (by decide +kernel))))
  have hlk_529 := (va_Nw.use (A := ([.ref r0, .int a1, .ref r2, .int a3] : List Value).toArray) rfl (hG.2.1 RX14 529 "ProofServerModel$Document" "text" "[I" "ProofServerModel" (List.mem_of_getElem? (i := 1735) (by decide +kernel))))
  have hrg_a1 := jb_rng a1
  have hrg_a3 := jb_rng a3
  refine lv_aload_n hx hb dX14_isSame_0 rfl (lv_at hl 0 rfl) ?_
  refine j7_readN hx hb hown hK (C := RX12) (T := TX12) (N := 11) rfl hly_14_7 hlk_594 (hh.at 1 rfl) dX14_isSame_1 ?_
  refine lv_iload_n hx hb dX14_isSame_4 rfl (lv_at hl 1 rfl) ?_
  refine j7_ialdM hx hb hK hh hB191 1 rfl (by decide) hg_ye (x := a1.toInt) (rfl) (by omega) (j := 1) rfl dX14_isSame_5 (fun z_1 ez_1 (hz_1 : 0 ≤ z_1.toInt ∧ z_1.toInt ≤ 1500) => ?_)
  have hqz_1 : z_1.toInt = jSo fe (a1.toInt) := by unfold jSo; rw [ez_1]
  refine lv_aload_n hx hb dX14_isSame_6 rfl (lv_at hl 0 rfl) ?_
  refine j7_readN hx hb hown hK (C := RX12) (T := TX12) (N := 11) rfl hly_14_6 hlk_596 (hh.at 0 rfl) dX14_isSame_7 ?_
  refine lv_iload_n hx hb dX14_isSame_10 rfl (lv_at hl 1 rfl) ?_
  refine j7_ialdM hx hb hK hh hB190 1 rfl (by decide) hg_yb (x := a1.toInt) (rfl) (by omega) (j := 0) rfl dX14_isSame_11 (fun z_2 ez_2 (hz_2 : 0 ≤ z_2.toInt ∧ z_2.toInt ≤ 1500) => ?_)
  have hqz_2 : z_2.toInt = jSo fb (a1.toInt) := by unfold jSo; rw [ez_2]
  refine lv_isub hx hb dX14_isSame_12 ?_
  refine lv_topi (fun z_3 ez_3 => ?_)
  have hz_3 : z_3.toInt = z_1.toInt - z_2.toInt := by rw [ez_3]; exact jb_isub2 (rfl) (rfl) (by omega)
  refine lv_istore (lv' := [(4, .int z_3), (0, .ref r0), (1, .int a1), (2, .ref r2), (3, .int a3)]) hx hb dX14_isSame_13 hl (by decide) rfl (fun ls hl => ?_)
  refine lv_aload_n hx hb dX14_isSame_15 rfl (lv_at hl 3 rfl) ?_
  refine j7_readN hx hb hown hK (C := RX12) (T := TX12) (N := 11) rfl hly_14_7 hlk_594 (hh.at 3 rfl) dX14_isSame_16 ?_
  refine lv_iload_n hx hb dX14_isSame_19 rfl (lv_at hl 4 rfl) ?_
  refine j7_ialdM hx hb hK hh hB191 1 rfl (by decide) hg_xe (x := a3.toInt) (rfl) (by omega) (j := 3) rfl dX14_isSame_20 (fun z_4 ez_4 (hz_4 : 0 ≤ z_4.toInt ∧ z_4.toInt ≤ 1500) => ?_)
  have hqz_4 : z_4.toInt = jSo ge (a3.toInt) := by unfold jSo; rw [ez_4]
  refine lv_aload_n hx hb dX14_isSame_21 rfl (lv_at hl 3 rfl) ?_
  refine j7_readN hx hb hown hK (C := RX12) (T := TX12) (N := 11) rfl hly_14_6 hlk_596 (hh.at 2 rfl) dX14_isSame_22 ?_
  refine lv_iload_n hx hb dX14_isSame_25 rfl (lv_at hl 4 rfl) ?_
  refine j7_ialdM hx hb hK hh hB190 1 rfl (by decide) hg_xb (x := a3.toInt) (rfl) (by omega) (j := 2) rfl dX14_isSame_26 (fun z_5 ez_5 (hz_5 : 0 ≤ z_5.toInt ∧ z_5.toInt ≤ 1500) => ?_)
  have hqz_5 : z_5.toInt = jSo gb (a3.toInt) := by unfold jSo; rw [ez_5]
  refine lv_isub hx hb dX14_isSame_27 ?_
  refine lv_topi (fun z_6 ez_6 => ?_)
  have hz_6 : z_6.toInt = z_4.toInt - z_5.toInt := by rw [ez_6]; exact jb_isub2 (rfl) (rfl) (by omega)
  refine lv_iload hx hb dX14_isSame_28 (lv_at hl 0 rfl) ?_
  refine lv_icmp_ne (tgt := 48) hx hb dX14_isSame_30 (by decide) (fun c_7 => ?_) (fun c_7 => ?_)
  · skip
    have c_7' : z_6.toInt ≠ z_3.toInt := jb_ne (rfl) (rfl) c_7
    refine lv_iconst (v := 0) hx hb dX14_isSame_48 (by decide) ?_
    rw [hQ]
    exact W.zret (v := 0) hx hb hr (jb_nz (Or.inl rfl)) (fun t ht hW => ⟨⟨0, (), rfl, ⟨(Or.inl rfl), trivial⟩, hh.rt (M1 := []) [] rfl ht⟩, by rw [ht]; try exact hh.1.1, fun q h9 hq => by rw [ht]; try exact hh.1.2.1 q h9 hq⟩) hh.1.2.2 dX14_isSame_49
  · skip
    have c_7' : z_6.toInt = z_3.toInt := jb_ne_n (rfl) (rfl) c_7
    refine lv_aload_n hx hb dX14_isSame_33 rfl (lv_at hl 1 rfl) ?_
    obtain ⟨v_8, hv_8, hh_9⟩ := hh.pin (C := RX12) (T := TX12) (N := 11) hB14 rfl (by decide) hg_r0 (i := 8) (by decide) rfl
    clear hh
    obtain ⟨flaw_10, rfl, hg_flaw_10⟩ := hv_8
    refine j7_readN hx hb hown hK (C := RX12) (T := TX12) (N := 11) rfl hly_14_8 hlk_599 (hh_9.at 0 rfl) dX14_isSame_34 ?_
    refine lv_iload_n hx hb dX14_isSame_37 rfl (lv_at hl 2 rfl) ?_
    refine j7_iald hx hb hK hh_9 hB192 1 rfl (by decide) hg_flaw_10 (x := a1.toInt) (rfl) (by omega) dX14_isSame_38 (fun z_11 (hz_11 : 0 ≤ z_11.toInt ∧ z_11.toInt ≤ 2) => ?_)
    refine lv_aload_n hx hb dX14_isSame_39 rfl (lv_at hl 3 rfl) ?_
    obtain ⟨v_12, hv_12, hh_13⟩ := hh_9.pin (C := RX12) (T := TX12) (N := 11) hB14 rfl (by decide) hg_r2 (i := 8) (by decide) rfl
    clear hh_9
    obtain ⟨flaw_14, rfl, hg_flaw_14⟩ := hv_12
    refine j7_readN hx hb hown hK (C := RX12) (T := TX12) (N := 11) rfl hly_14_8 hlk_599 (hh_13.at 0 rfl) dX14_isSame_40 ?_
    refine lv_iload_n hx hb dX14_isSame_43 rfl (lv_at hl 4 rfl) ?_
    refine j7_iald hx hb hK hh_13 hB192 1 rfl (by decide) hg_flaw_14 (x := a3.toInt) (rfl) (by omega) dX14_isSame_44 (fun z_15 (hz_15 : 0 ≤ z_15.toInt ∧ z_15.toInt ≤ 2) => ?_)
    refine lv_icmp_eq (tgt := 50) hx hb dX14_isSame_45 (by decide) (fun c_16 => ?_) (fun c_16 => ?_)
    · skip
      have c_16' : z_11.toInt = z_15.toInt := jb_eq (rfl) (rfl) c_16
      refine lv_iconst (v := 0) hx hb dX14_isSame_50 (by decide) ?_
      refine lv_istore (lv' := [(5, .int 0), (4, .int z_3), (0, .ref r0), (1, .int a1), (2, .ref r2), (3, .int a3)]) hx hb dX14_isSame_51 hl (by decide) rfl (fun ls hl => ?_)
      have L53 : ∀ (N : Nat) (v5_17 : Int32) (H_17 : Heap) (locs_17 : List Loc), jSt (dC, dI) B base G0 G0 EX14_isSame s.heap 0 0 [(r2, 14, 8, .ref flaw_14), (r0, 14, 8, .ref flaw_10), (r0, 14, 6, .ref yb), (r0, 14, 7, .ref ye), (r2, 14, 6, .ref xb), (r2, 14, 7, .ref xe)] [(yb, 190, 40, ca 1, fb), (ye, 191, 40, ca 1, fe), (xb, 190, 40, ca 1, gb), (xe, 191, 40, ca 1, ge)] [] H_17 locs_17 → (0 ≤ v5_17.toInt ∧ v5_17.toInt ≤ 1500) → (1500 - v5_17.toInt : Int) < N → ∀ ls : Array Slot, lv_has ls 6 [(0, .ref r0), (1, .int a1), (2, .ref r2), (3, .int a3), (4, .int z_3), (5, .int v5_17)] → W p l e R s m ([.ref r0, .int a1, .ref r2, .int a3] : List Value).toArray below meth c H_17 locs_17 0 0 Q (F0 m 53 ls []) := by
        intro N
        induction N with
        | zero => intro v5_17 H_17 locs_17 hh_17  hi_17 hm; exact absurd hm (by omega)
        | succ N L53 =>
          intro v5_17 H_17 locs_17 hh_17  hi_17 hm_17 ls hl
          obtain ⟨hi_17_0, hi_17_1⟩ := hi_17
          refine lv_iload hx hb dX14_isSame_53 (lv_at hl 5 rfl) ?_
          refine lv_iload hx hb dX14_isSame_55 (lv_at hl 4 rfl) ?_
          refine lv_icmp_ge (tgt := 99) hx hb dX14_isSame_57 (by decide) (fun c_18 => ?_) (fun c_18 => ?_)
          · skip
            have c_18' : v5_17.toInt ≥ z_3.toInt := jb_ge (rfl) (rfl) c_18
            refine lv_iconst (v := 1) hx hb dX14_isSame_99 (by decide) ?_
            rw [hQ]
            exact W.zret (v := 1) hx hb hr (jb_nz (Or.inr rfl)) (fun t ht hW => ⟨⟨1, (), rfl, ⟨(Or.inr rfl), trivial⟩, hh_17.rt (M1 := []) [] rfl ht⟩, by rw [ht]; try exact hh_17.1.1, fun q h9 hq => by rw [ht]; try exact hh_17.1.2.1 q h9 hq⟩) hh_17.1.2.2 dX14_isSame_100
          · skip
            have c_18' : v5_17.toInt < z_3.toInt := jb_ge_n (rfl) (rfl) c_18
            refine lv_aload_n hx hb dX14_isSame_60 rfl (lv_at hl 0 rfl) ?_
            obtain ⟨v_19, hv_19, hh_20⟩ := hh_17.pin (C := RX12) (T := TX12) (N := 11) hB14 rfl (by decide) hg_r0 (i := 3) (by decide) rfl
            clear hh_17
            obtain ⟨text_21, rfl, hg_text_21⟩ := hv_19
            refine j7_readN hx hb hown hK (C := RX12) (T := TX12) (N := 11) rfl hly_14_3 hlk_529 (hh_20.at 0 rfl) dX14_isSame_61 ?_
            refine lv_aload_n hx hb dX14_isSame_64 rfl (lv_at hl 0 rfl) ?_
            refine j7_readN hx hb hown hK (C := RX12) (T := TX12) (N := 11) rfl hly_14_6 hlk_596 (hh_20.at 3 rfl) dX14_isSame_65 ?_
            refine lv_iload_n hx hb dX14_isSame_68 rfl (lv_at hl 1 rfl) ?_
            refine j7_ialdM hx hb hK hh_20 hB190 1 rfl (by decide) hg_yb (x := a1.toInt) (rfl) (by omega) (j := 0) rfl dX14_isSame_69 (fun z_22 ez_22 (hz_22 : 0 ≤ z_22.toInt ∧ z_22.toInt ≤ 1500) => ?_)
            have hqz_22 : z_22.toInt = jSo fb (a1.toInt) := by unfold jSo; rw [ez_22]
            refine lv_iload hx hb dX14_isSame_70 (lv_at hl 5 rfl) ?_
            refine lv_iadd hx hb dX14_isSame_72 ?_
            refine lv_topi (fun z_23 ez_23 => ?_)
            have hz_23 : z_23.toInt = z_22.toInt + v5_17.toInt := by rw [ez_23]; exact jb_iadd2 (rfl) (rfl) (by omega)
            refine j7_iald hx hb hK hh_20 hB101 1 rfl (by decide) hg_text_21 (x := z_23.toInt) (rfl) (by omega) dX14_isSame_73 (fun z_24 (hz_24 : True) => ?_)
            refine lv_aload_n hx hb dX14_isSame_74 rfl (lv_at hl 2 rfl) ?_
            obtain ⟨v_25, hv_25, hh_26⟩ := hh_20.pin (C := RX12) (T := TX12) (N := 11) hB14 rfl (by decide) hg_r2 (i := 3) (by decide) rfl
            clear hh_20
            obtain ⟨text_27, rfl, hg_text_27⟩ := hv_25
            refine j7_readN hx hb hown hK (C := RX12) (T := TX12) (N := 11) rfl hly_14_3 hlk_529 (hh_26.at 0 rfl) dX14_isSame_75 ?_
            refine lv_aload_n hx hb dX14_isSame_78 rfl (lv_at hl 2 rfl) ?_
            refine j7_readN hx hb hown hK (C := RX12) (T := TX12) (N := 11) rfl hly_14_6 hlk_596 (hh_26.at 6 rfl) dX14_isSame_79 ?_
            refine lv_iload_n hx hb dX14_isSame_82 rfl (lv_at hl 3 rfl) ?_
            refine j7_ialdM hx hb hK hh_26 hB190 1 rfl (by decide) hg_xb (x := a3.toInt) (rfl) (by omega) (j := 2) rfl dX14_isSame_83 (fun z_28 ez_28 (hz_28 : 0 ≤ z_28.toInt ∧ z_28.toInt ≤ 1500) => ?_)
            have hqz_28 : z_28.toInt = jSo gb (a3.toInt) := by unfold jSo; rw [ez_28]
            refine lv_iload hx hb dX14_isSame_84 (lv_at hl 5 rfl) ?_
            refine lv_iadd hx hb dX14_isSame_86 ?_
            refine lv_topi (fun z_29 ez_29 => ?_)
            have hz_29 : z_29.toInt = z_28.toInt + v5_17.toInt := by rw [ez_29]; exact jb_iadd2 (rfl) (rfl) (by omega)
            refine j7_iald hx hb hK hh_26 hB101 1 rfl (by decide) hg_text_27 (x := z_29.toInt) (rfl) (by omega) dX14_isSame_87 (fun z_30 (hz_30 : True) => ?_)
            refine lv_icmp_eq (tgt := 93) hx hb dX14_isSame_88 (by decide) (fun c_31 => ?_) (fun c_31 => ?_)
            · skip
              have c_31' : z_24.toInt = z_30.toInt := jb_eq (rfl) (rfl) c_31
              obtain ⟨z_32, ez_32⟩ : ∃ y : Int32, y = v5_17 + 1 := ⟨_, rfl⟩
              refine lv_iinc (v := z_32) (lv' := [(5, .int z_32), (0, .ref r0), (1, .int a1), (2, .ref r2), (3, .int a3), (4, .int z_3)]) hx hb dX14_isSame_93 hl (k := 5) rfl (by rw [ez_32]; rfl) (by decide) rfl (fun ls hl => ?_)
              have hz_32 : z_32.toInt = v5_17.toInt + 1 := by rw [ez_32]; exact jb_iadd2 (rfl) (by decide) (by omega)
              refine lv_goto (tgt := 53) hx hb dX14_isSame_96 (by decide) ?_
              exact L53 z_32 _ _ (hh_26.sub (L1 := [(r2, 14, 8, .ref flaw_14), (r0, 14, 8, .ref flaw_10), (r0, 14, 6, .ref yb), (r0, 14, 7, .ref ye), (r2, 14, 6, .ref xb), (r2, 14, 7, .ref xe)]) [2, 3, 4, 5, 6, 7] rfl (M1 := [(yb, 190, 40, ca 1, fb), (ye, 191, 40, ca 1, fe), (xb, 190, 40, ca 1, gb), (xe, 191, 40, ca 1, ge)]) [0, 1, 2, 3] rfl (I1 := []) [] rfl) (by first | omega | (refine ⟨?_, ?_⟩ <;> (first | omega | rfl | assumption | decide | exact Or.inl rfl | exact Or.inr rfl | (simp only; omega)))) (by omega) _ (lv_sub hl [1, 2, 3, 4, 5, 0] rfl)
            · skip
              have c_31' : z_24.toInt ≠ z_30.toInt := jb_eq_n (rfl) (rfl) c_31
              refine lv_iconst (v := 0) hx hb dX14_isSame_91 (by decide) ?_
              rw [hQ]
              exact W.zret (v := 0) hx hb hr (jb_nz (Or.inl rfl)) (fun t ht hW => ⟨⟨0, (), rfl, ⟨(Or.inl rfl), trivial⟩, hh_26.rt (M1 := []) [] rfl ht⟩, by rw [ht]; try exact hh_26.1.1, fun q h9 hq => by rw [ht]; try exact hh_26.1.2.1 q h9 hq⟩) hh_26.1.2.2 dX14_isSame_92
      exact L53 (1500 - (0 : Int32).toInt : Int).toNat.succ 0 _ _ hh_13 (by first | omega | (refine ⟨?_, ?_⟩ <;> (first | omega | rfl | assumption | decide | exact Or.inl rfl | exact Or.inr rfl | (simp only; omega)))) (by omega) _ (lv_sub hl [2, 3, 4, 5, 1, 0] rfl)
    · skip
      have c_16' : z_11.toInt ≠ z_15.toInt := jb_eq_n (rfl) (rfl) c_16
      refine lv_iconst (v := 0) hx hb dX14_isSame_48 (by decide) ?_
      rw [hQ]
      exact W.zret (v := 0) hx hb hr (jb_nz (Or.inl rfl)) (fun t ht hW => ⟨⟨0, (), rfl, ⟨(Or.inl rfl), trivial⟩, hh_13.rt (M1 := []) [] rfl ht⟩, by rw [ht]; try exact hh_13.1.1, fun q h9 hq => by rw [ht]; try exact hh_13.1.2.1 q h9 hq⟩) hh_13.1.2.2 dX14_isSame_49
set_option maxHeartbeats 4000000 in
set_option maxRecDepth 20000 in
theorem uX14_costOf (l : Launch) (dC : Nat → ClassId) (dI : Nat → Nat → Nat) (ca : Nat → ClassId) (base : Nat) (B : jF) (hB : jBok B) (hAp : jAp (dC, dI)) (hB14 : ∀ n G a H, B 14 n G a H ↔ jOb (dC, dI) 14 11 (F14 n G) a H) (hB15 : ∀ n G a H, B 15 n G a H ↔ jOb (dC, dI) 15 50 (F15 n G) a H) (hB16 : ∀ n G a H, B 16 n G a H ↔ jOb (dC, dI) 16 74 (F16 n G) a H) (hB101 : ∀ n G a H, B 101 n G a H ↔ jAr (dC, dI) (ca 1) (fun j z => True) n a H) (hB155 : ∀ n G a H, B 155 n G a H ↔ jAr (dC, dI) (ca 1) (fun j z => 0 ≤ z.toInt ∧ z.toInt ≤ 11990) n a H) (hB156 : ∀ n G a H, B 156 n G a H ↔ jAr (dC, dI) (ca 1) (fun j z => 0 ≤ z.toInt ∧ z.toInt ≤ 10) n a H) (hB157 : ∀ n G a H, B 157 n G a H ↔ jAr (dC, dI) (ca 1) (fun j z => 0 ≤ z.toInt ∧ z.toInt ≤ 1599) n a H) (hB166 : ∀ n G a H, B 166 n G a H ↔ jAr (dC, dI) (ca 1) (fun j z => True) n a H) (hB167 : ∀ n G a H, B 167 n G a H ↔ jAr (dC, dI) (ca 1) (fun j z => True) n a H) (hB190 : ∀ n G a H, B 190 n G a H ↔ jAr (dC, dI) (ca 1) (fun j z => 0 ≤ z.toInt ∧ z.toInt ≤ 1500) n a H) (hB191 : ∀ n G a H, B 191 n G a H ↔ jAr (dC, dI) (ca 1) (fun j z => 0 ≤ z.toInt ∧ z.toInt ≤ 1500) n a H) (hB192 : ∀ n G a H, B 192 n G a H ↔ jAr (dC, dI) (ca 1) (fun j z => 0 ≤ z.toInt ∧ z.toInt ≤ 2) n a H) (G0 : jT) (H0 : Heap) (r0 : Nat) (r1 : Nat) (a2 : Int32) (yb : Nat) (ye : Nat) (sn : Int) (fb : Nat → Int32) (fe : Nat → Int32) : Met l yX14_costOf (jw yX14_costOf cX14_costOf 3 (some .int)) ({ frames := 5, cells := 0, slots := 0, locals := 114 }) (va_Pc [.ref r0, .ref r1, .int a2] (fun U => U.heap = H0 ∧ jX B base G0 [] H0 ∧ jG dC dI ca base U ∧ G0 r1 = some (14, 0) ∧ G0 r0 = some (16, 0) ∧ G0 yb = some (190, 40) ∧ G0 ye = some (191, 40) ∧ jP (dC, dI) G0 H0 [(r1, 14, 6, .ref yb), (r1, 14, 7, .ref ye)] ∧ jMc (dC, dI) G0 H0 [(yb, 190, 40, ca 1, fb), (ye, 191, 40, ca 1, fe)] ∧ jSrt fb fe sn 1500 ∧ 0 ≤ a2.toInt ∧ a2.toInt < sn ∧ sn ≤ 40)) (va_Qi (S := Unit) (fun r u => (True)) (fun u t => jRt (dC, dI) B base G0 EX14_costOf H0 [] t.heap) (jA base)) 0 0 (jA base) := by
  refine Met.ofW (cc := cX14_costOf) (maxL := 3) (ret := (some .int)) (by decide) rfl ?_
  intro p e s m args below meth c s₁ Bd hml hv
  obtain ⟨rfl, hH0, hX, hG, hg_r1, hg_r0, hg_yb, hg_ye, hP0, hM0, hp0, hp1, hp2, hp3⟩ := hv
  have hK := hG.1
  have hx := Bd.exec
  have hb := Bd.bytes
  have hr := Bd.returns
  have hts := atoms_spec (ws := (jw yX14_costOf cX14_costOf 3 (some .int))) Bd.pre
  have htw : ∀ w ∈ jWl, w.before _ s = true := fun w h => hts w (List.mem_cons_of_mem _ h)
  have hown : s.vm.findClass RX14 = some m.cls := findClass_of_methodNamed Bd.named
  have hlocks := Bd.notSynchronized
  obtain ⟨Q, hQ⟩ : ∃ Q, Q = MQ below (va_Qi (S := Unit) (fun r u => (True)) (fun u t => jRt (dC, dI) B base G0 EX14_costOf H0 [] t.heap) (jA base)) ([.ref r0, .ref r1, .int a2] : List Value).toArray s 0 0 (jA base) := ⟨_, rfl⟩
  rw [← hQ]
  have hl := lv_entry ([.ref r0, .ref r1, .int a2]) (n := 3) (Nat.le_of_ble_eq_true rfl)
  rw [lg_entry_eq]
  generalize (lg_sl ([.ref r0, .ref r1, .int a2]) ++ List.replicate (3 - (lg_sl ([.ref r0, .ref r1, .int a2])).length) Slot.unset).toArray = ls at hl ⊢
  have hl : lv_has ls 3 [(0, .ref r0), (1, .ref r1), (2, .int a2)] := hl
  generalize hR : (headSpec (jw yX14_costOf cX14_costOf 3 (some .int)) ({ frames := 5, cells := 0, slots := 0, locals := 114 })).room = R
  subst hH0
  have hh : jSt (dC, dI) B base G0 G0 EX14_costOf s.heap 0 0 [(r1, 14, 6, .ref yb), (r1, 14, 7, .ref ye)] [(yb, 190, 40, ca 1, fb), (ye, 191, 40, ca 1, fe)] [] s.heap [] := jSt.start hX hP0 hM0 jIs.nil
  clear hX hP0
  have hk0 : (0 : Int32).toInt = 0 := by decide
  have hk1 : (1 : Int32).toInt = 1 := by decide
  have hly_14_3 := htw (u_lay RX12 TX12 3) (jWc_wsX120 _ (u_in_lay (by decide)))
  have hly_14_6 := htw (u_lay RX12 TX12 6) (jWc_wsX120 _ (u_in_lay (by decide)))
  have hly_14_7 := htw (u_lay RX12 TX12 7) (jWc_wsX120 _ (u_in_lay (by decide)))
  have hly_14_8 := htw (u_lay RX12 TX12 8) (jWc_wsX120 _ (u_in_lay (by decide)))
  have hly_16_58 := htw (u_lay RX14 TX14 58) (jWc_wsX140 _ (u_in_lay (by decide)))
  have hlk_122 := (htw (.fieldLink RX14 122 "ProofServerModel" "kernel" "LProofServerModel$Kernel;") (jWr_12 _ (List.mem_of_getElem? (i := 13) rfl)))
  have hlk_529 := (va_Nw.use (A := ([.ref r0, .ref r1, .int a2] : List Value).toArray) rfl (hG.2.1 RX14 529 "ProofServerModel$Document" "text" "[I" "ProofServerModel" (List.mem_of_getElem? (i := 1735) (by decide +kernel))))
  have hlk_596 := (va_Nw.use (A := ([.ref r0, .ref r1, .int a2] : List Value).toArray) rfl (hG.2.1 RX14 596 "ProofServerModel$Document" "begin" "[I" "ProofServerModel" (List.mem_of_getElem? (i := 1739) (by decide +kernel))))
  have hlk_594 := (va_Nw.use (A := ([.ref r0, .ref r1, .int a2] : List Value).toArray) rfl (hG.2.1 RX14 594 "ProofServerModel$Document" "end" "[I" "ProofServerModel" (List.mem_of_getElem? (i := 1741) (by decide +kernel))))
  have hlk_599 := (va_Nw.use (A := ([.ref r0, .ref r1, .int a2] : List Value).toArray) rfl (hG.2.1 RX14 599 "ProofServerModel$Document" "flaw" "[I" "ProofServerModel" (List.mem_of_getElem? (i := 1743) (by decide +kernel))))
  have hrg_a2 := jb_rng a2
  obtain ⟨s1, s2, s3, s4⟩ := hp0 a2.toInt (by omega) (by omega)
  refine lv_aload_n hx hb dX14_costOf_0 rfl (lv_at hl 0 rfl) ?_
  obtain ⟨v_1, hv_1, hh_2⟩ := hh.pin (C := RX14) (T := TX14) (N := 74) hB16 rfl (by decide) hg_r0 (i := 58) (by decide) rfl
  clear hh
  obtain ⟨kernel_3, rfl, hg_kernel_3⟩ := hv_1
  refine j7_read hx hb hown hK (C := RX14) (T := TX14) (N := 74) rfl hly_16_58 hlk_122 (hh_2.at 0 rfl) dX14_costOf_1 ?_
  refine va_callv (A0 := jA base) (H0 := s.heap) (va_runV (As := []) (rest := []) ⟨hx, hb, hml, hown, hts⟩ (uX13_beginK l dC dI ca base B hB hAp hB15 G0 s.heap kernel_3) (cwV 0 hts (jgV (jWr_59 _ (List.mem_of_getElem? (i := 10) rfl)) (jWr_59 _ (List.mem_of_getElem? (i := 11) rfl)) (jWr_59 _ (List.mem_of_getElem? (i := 12) rfl)) (jWr_12 _ (List.mem_of_getElem? (i := 12) rfl)) (jWr_59 _ (List.mem_of_getElem? (i := 13) rfl))) rfl rfl rfl (by decide +kernel) ⟨by rw [← hR]; exact Nat.le_of_ble_eq_true rfl, by rw [← hR]; exact Nat.le_of_ble_eq_true rfl⟩) ⟨fun a U g mk q => by obtain ⟨q0, q1, q2, qK, q10, q11, q12⟩ := q; exact ⟨q0, q1, q2, jG.calling g mk a qK, q10, q11, q12⟩, hh_2.recv (C := RX13) (T := TX13) (N := 50) hB15 rfl (by decide) hg_kernel_3 hK, fun U hU hW => ⟨rfl, hU, hh_2.2.1, hG.step hW hU hh_2.1, hg_kernel_3, jP.nil, trivial⟩⟩ rfl rfl hl.1 rfl (lv_room (Nat.le_of_ble_eq_true rfl)) dX14_costOf_4 ⟨Nat.zero_le _, Nat.zero_le _⟩) hh_2.1 (fun q _ h => h) (fun q h => h) (fun u_4 t_4 H_4 locs_4 ht_4 hvm_4 hr_5 hb_4 hz_4 hk_4 hS_4 => ?_)
  obtain ⟨qn_4, qy_4, qf_4, qg_4, qp_4, qc_4, qs_4⟩ := u_4
  rw [ht_4] at hb_4
  obtain ⟨hb_41, hb_42, hb_43, hb_44, hb_45⟩ := hb_4
  have hh_4 : jSt (dC, dI) B base G0 G0 EX14_costOf s.heap 0 0 [(kernel_3, 15, 5, .int qn_4), (kernel_3, 15, 11, .int qy_4), (kernel_3, 15, 15, .int qf_4), (kernel_3, 15, 21, .int qg_4), (kernel_3, 15, 18, .int qp_4), (kernel_3, 15, 10, .int qc_4), (kernel_3, 15, 7, .int qs_4), (r0, 16, 58, .ref kernel_3), (r1, 14, 6, .ref yb), (r1, 14, 7, .ref ye)] [(yb, 190, 40, ca 1, fb), (ye, 191, 40, ca 1, fe)] [] H_4 locs_4 := ((hh_2.call hb_41 hb_42 hb_43 hb_44 hS_4 rfl (L1 := [(r0, 16, 58, .ref kernel_3), (r1, 14, 6, .ref yb), (r1, 14, 7, .ref ye)]) [0, 1, 2] rfl rfl (M1 := [(yb, 190, 40, ca 1, fb), (ye, 191, 40, ca 1, fe)]) [0, 1] rfl rfl (I1 := []) [] rfl rfl).more hb_45)
  clear hh_2 ht_4 hvm_4 hz_4 hk_4 hS_4 hb_41 hb_42 hb_43 hb_44 hb_45
  try simp only at hr_5
  obtain ⟨hr_5_0, hr_5_1, hr_5_2, hr_5_3, hr_5_4, hr_5_5, hr_5_6⟩ := hr_5
  refine lv_aload_n hx hb dX14_costOf_7 rfl (lv_at hl 0 rfl) ?_
  refine j7_read hx hb hown hK (C := RX14) (T := TX14) (N := 74) rfl hly_16_58 hlk_122 (hh_4.at 7 rfl) dX14_costOf_8 ?_
  refine lv_aload_n hx hb dX14_costOf_11 rfl (lv_at hl 1 rfl) ?_
  obtain ⟨v_6, hv_6, hh_7⟩ := hh_4.pin (C := RX12) (T := TX12) (N := 11) hB14 rfl (by decide) hg_r1 (i := 3) (by decide) rfl
  clear hh_4
  obtain ⟨text_8, rfl, hg_text_8⟩ := hv_6
  refine j7_readN hx hb hown hK (C := RX12) (T := TX12) (N := 11) rfl hly_14_3 hlk_529 (hh_7.at 0 rfl) dX14_costOf_12 ?_
  refine lv_aload_n hx hb dX14_costOf_15 rfl (lv_at hl 1 rfl) ?_
  refine j7_readN hx hb hown hK (C := RX12) (T := TX12) (N := 11) rfl hly_14_6 hlk_596 (hh_7.at 9 rfl) dX14_costOf_16 ?_
  refine lv_iload_n hx hb dX14_costOf_19 rfl (lv_at hl 2 rfl) ?_
  refine j7_ialdM hx hb hK hh_7 hB190 1 rfl (by decide) hg_yb (x := a2.toInt) (rfl) (by omega) (j := 0) rfl dX14_costOf_20 (fun z_9 ez_9 (hz_9 : 0 ≤ z_9.toInt ∧ z_9.toInt ≤ 1500) => ?_)
  have hqz_9 : z_9.toInt = jSo fb (a2.toInt) := by unfold jSo; rw [ez_9]
  refine lv_aload_n hx hb dX14_costOf_21 rfl (lv_at hl 1 rfl) ?_
  refine j7_readN hx hb hown hK (C := RX12) (T := TX12) (N := 11) rfl hly_14_7 hlk_594 (hh_7.at 10 rfl) dX14_costOf_22 ?_
  refine lv_iload_n hx hb dX14_costOf_25 rfl (lv_at hl 2 rfl) ?_
  refine j7_ialdM hx hb hK hh_7 hB191 1 rfl (by decide) hg_ye (x := a2.toInt) (rfl) (by omega) (j := 1) rfl dX14_costOf_26 (fun z_10 ez_10 (hz_10 : 0 ≤ z_10.toInt ∧ z_10.toInt ≤ 1500) => ?_)
  have hqz_10 : z_10.toInt = jSo fe (a2.toInt) := by unfold jSo; rw [ez_10]
  refine lv_aload_n hx hb dX14_costOf_27 rfl (lv_at hl 1 rfl) ?_
  obtain ⟨v_11, hv_11, hh_12⟩ := hh_7.pin (C := RX12) (T := TX12) (N := 11) hB14 rfl (by decide) hg_r1 (i := 8) (by decide) rfl
  clear hh_7
  obtain ⟨flaw_13, rfl, hg_flaw_13⟩ := hv_11
  refine j7_readN hx hb hown hK (C := RX12) (T := TX12) (N := 11) rfl hly_14_8 hlk_599 (hh_12.at 0 rfl) dX14_costOf_28 ?_
  refine lv_iload_n hx hb dX14_costOf_31 rfl (lv_at hl 2 rfl) ?_
  refine j7_iald hx hb hK hh_12 hB192 1 rfl (by decide) hg_flaw_13 (x := a2.toInt) (rfl) (by omega) dX14_costOf_32 (fun z_14 (hz_14 : 0 ≤ z_14.toInt ∧ z_14.toInt ≤ 2) => ?_)
  refine va_calli (A0 := jA base) (H0 := s.heap) (va_runV (As := [.ref text_8, .int z_9, .int z_10, .int z_14]) (rest := []) ⟨hx, hb, hml, hown, hts⟩ (uX13_cost l dC dI ca base B hB hAp hB15 hB101 hB155 hB156 hB157 hB166 hB167 G0 H_4 kernel_3 text_8 z_9 z_10 z_14 1500 qc_4 qs_4) (cwV 4 hts (jgV (jWr_91 _ (List.mem_of_getElem? (i := 3) rfl)) (jWr_91 _ (List.mem_of_getElem? (i := 4) rfl)) (jWr_91 _ (List.mem_of_getElem? (i := 5) rfl)) (jWr_12 _ (List.mem_of_getElem? (i := 12) rfl)) (jWr_91 _ (List.mem_of_getElem? (i := 6) rfl))) rfl rfl rfl (by decide +kernel) ⟨by rw [← hR]; exact Nat.le_of_ble_eq_true rfl, by rw [← hR]; exact Nat.le_of_ble_eq_true rfl⟩) ⟨fun a U g mk q => by obtain ⟨q0, q1, q2, qK, q10, q11, q12, q13⟩ := q; exact ⟨q0, q1, q2, jG.calling g mk a qK, q10, q11, q12, q13⟩, hh_12.recv (C := RX13) (T := TX13) (N := 50) hB15 rfl (by decide) hg_kernel_3 hK, fun U hU hW => ⟨rfl, hU, hh_12.2.1, hG.step hW hU hh_12.1, hg_text_8, hg_kernel_3, (hh_12.2.2.1.sub (L1 := [(kernel_3, 15, 10, .int qc_4), (kernel_3, 15, 7, .int qs_4)]) [7, 8] rfl), by first | omega | (refine ⟨?_, ?_, ?_, ?_, ?_, ?_, ?_, ?_⟩ <;> (first | omega | rfl | assumption | decide | exact Or.inl rfl | exact Or.inr rfl | (simp only; omega)))⟩⟩ rfl rfl hl.1 rfl (lv_room (Nat.le_of_ble_eq_true rfl)) dX14_costOf_33 ⟨Nat.zero_le _, Nat.zero_le _⟩) hh_12.1 (fun q _ h => h) (fun q h => h) (fun r_16 u_15 t_15 H_15 locs_15 ht_15 hvm_15 hr_16 hb_15 hz_15 hk_15 hS_15 => ?_)
  rw [ht_15] at hb_15
  obtain ⟨hb_151, hb_152, hb_153, hb_154, hb_155⟩ := hb_15
  have hh_15 : jSt (dC, dI) B base G0 G0 EX14_costOf s.heap 0 0 [(r1, 14, 8, .ref flaw_13), (r1, 14, 3, .ref text_8), (kernel_3, 15, 5, .int qn_4), (kernel_3, 15, 11, .int qy_4), (kernel_3, 15, 15, .int qf_4), (kernel_3, 15, 21, .int qg_4), (kernel_3, 15, 18, .int qp_4), (r0, 16, 58, .ref kernel_3), (r1, 14, 6, .ref yb), (r1, 14, 7, .ref ye)] [(yb, 190, 40, ca 1, fb), (ye, 191, 40, ca 1, fe)] [] H_15 locs_15 := ((hh_12.call hb_151 hb_152 hb_153 hb_154 hS_15 rfl (L1 := [(r1, 14, 8, .ref flaw_13), (r1, 14, 3, .ref text_8), (kernel_3, 15, 5, .int qn_4), (kernel_3, 15, 11, .int qy_4), (kernel_3, 15, 15, .int qf_4), (kernel_3, 15, 21, .int qg_4), (kernel_3, 15, 18, .int qp_4), (r0, 16, 58, .ref kernel_3), (r1, 14, 6, .ref yb), (r1, 14, 7, .ref ye)]) [0, 1, 2, 3, 4, 5, 6, 9, 10, 11] rfl rfl (M1 := [(yb, 190, 40, ca 1, fb), (ye, 191, 40, ca 1, fe)]) [0, 1] rfl rfl (I1 := []) [] rfl rfl).more hb_155)
  clear hh_12 ht_15 hvm_15 hz_15 hk_15 hS_15 hb_151 hb_152 hb_153 hb_154 hb_155
  rw [hQ]
  exact W.iret (v := r_16) hx hb hr (fun t ht hW => ⟨⟨r_16, (), rfl, trivial, hh_15.rt (M1 := []) [] rfl ht⟩, by rw [ht]; try exact hh_15.1.1, fun q h9 hq => by rw [ht]; try exact hh_15.1.2.1 q h9 hq⟩) hh_15.1.2.2 dX14_costOf_36
