section
theorem dX14_put_0 : decode cX14_put 0 = .ok (.aload_n 0, 1) := by decide +kernel
theorem dX14_put_1 : decode cX14_put 1 = .ok (.getfield 160, 3) := by decide +kernel
theorem dX14_put_4 : decode cX14_put 4 = .ok (.ldc 16, 2) := by decide +kernel
theorem dX14_put_6 : decode cX14_put 6 = .ok (.if_icmp .ge 23, 3) := by decide +kernel
theorem dX14_put_9 : decode cX14_put 9 = .ok (.aload_n 0, 1) := by decide +kernel
theorem dX14_put_10 : decode cX14_put 10 = .ok (.getfield 17, 3) := by decide +kernel
theorem dX14_put_13 : decode cX14_put 13 = .ok (.aload_n 0, 1) := by decide +kernel
theorem dX14_put_14 : decode cX14_put 14 = .ok (.getfield 160, 3) := by decide +kernel
theorem dX14_put_17 : decode cX14_put 17 = .ok (.iload_n 1, 1) := by decide +kernel
theorem dX14_put_18 : decode cX14_put 18 = .ok (.iastore, 1) := by decide +kernel
theorem dX14_put_19 : decode cX14_put 19 = .ok (.aload_n 0, 1) := by decide +kernel
theorem dX14_put_20 : decode cX14_put 20 = .ok (.dup, 1) := by decide +kernel
theorem dX14_put_21 : decode cX14_put 21 = .ok (.getfield 160, 3) := by decide +kernel
theorem dX14_put_24 : decode cX14_put 24 = .ok (.iconst 1, 1) := by decide +kernel
theorem dX14_put_25 : decode cX14_put 25 = .ok (.iadd, 1) := by decide +kernel
theorem dX14_put_26 : decode cX14_put 26 = .ok (.putfield 160, 3) := by decide +kernel
theorem dX14_put_29 : decode cX14_put 29 = .ok (.return_, 1) := by decide +kernel
theorem dX14_word_0 : decode cX14_word 0 = .ok (.iconst 0, 1) := by decide +kernel
theorem dX14_word_1 : decode cX14_word 1 = .ok (.istore_n 2, 1) := by decide +kernel
theorem dX14_word_2 : decode cX14_word 2 = .ok (.iload_n 2, 1) := by decide +kernel
theorem dX14_word_3 : decode cX14_word 3 = .ok (.aload_n 1, 1) := by decide +kernel
theorem dX14_word_4 : decode cX14_word 4 = .ok (.invokevirtual 163, 3) := by decide +kernel
theorem dX14_word_7 : decode cX14_word 7 = .ok (.if_icmp .ge 18, 3) := by decide +kernel
theorem dX14_word_10 : decode cX14_word 10 = .ok (.aload_n 0, 1) := by decide +kernel
theorem dX14_word_11 : decode cX14_word 11 = .ok (.aload_n 1, 1) := by decide +kernel
theorem dX14_word_12 : decode cX14_word 12 = .ok (.iload_n 2, 1) := by decide +kernel
theorem dX14_word_13 : decode cX14_word 13 = .ok (.invokevirtual 168, 3) := by decide +kernel
theorem dX14_word_16 : decode cX14_word 16 = .ok (.invokevirtual 172, 3) := by decide +kernel
theorem dX14_word_19 : decode cX14_word 19 = .ok (.iinc 2 1, 3) := by decide +kernel
theorem dX14_word_22 : decode cX14_word 22 = .ok (.goto (-20), 3) := by decide +kernel
theorem dX14_word_25 : decode cX14_word 25 = .ok (.return_, 1) := by decide +kernel
theorem dX14_number_0 : decode cX14_number 0 = .ok (.iload_n 1, 1) := by decide +kernel
theorem dX14_number_1 : decode cX14_number 1 = .ok (.ifCond .ge 9, 3) := by decide +kernel
theorem dX14_number_4 : decode cX14_number 4 = .ok (.aload_n 0, 1) := by decide +kernel
theorem dX14_number_5 : decode cX14_number 5 = .ok (.bipush 45, 2) := by decide +kernel
theorem dX14_number_7 : decode cX14_number 7 = .ok (.invokevirtual 172, 3) := by decide +kernel
theorem dX14_number_10 : decode cX14_number 10 = .ok (.aload_n 0, 1) := by decide +kernel
theorem dX14_number_11 : decode cX14_number 11 = .ok (.iload_n 1, 1) := by decide +kernel
theorem dX14_number_12 : decode cX14_number 12 = .ok (.ifCond .ge 7, 3) := by decide +kernel
theorem dX14_number_15 : decode cX14_number 15 = .ok (.iload_n 1, 1) := by decide +kernel
theorem dX14_number_16 : decode cX14_number 16 = .ok (.goto 5, 3) := by decide +kernel
theorem dX14_number_19 : decode cX14_number 19 = .ok (.iload_n 1, 1) := by decide +kernel
theorem dX14_number_20 : decode cX14_number 20 = .ok (.ineg, 1) := by decide +kernel
theorem dX14_number_21 : decode cX14_number 21 = .ok (.invokevirtual 176, 3) := by decide +kernel
theorem dX14_number_24 : decode cX14_number 24 = .ok (.return_, 1) := by decide +kernel
theorem dX14_digitsOf_0 : decode cX14_digitsOf 0 = .ok (.iload_n 1, 1) := by decide +kernel
theorem dX14_digitsOf_1 : decode cX14_digitsOf 1 = .ok (.bipush (-9), 2) := by decide +kernel
theorem dX14_digitsOf_3 : decode cX14_digitsOf 3 = .ok (.if_icmp .ge 11, 3) := by decide +kernel
theorem dX14_digitsOf_6 : decode cX14_digitsOf 6 = .ok (.aload_n 0, 1) := by decide +kernel
theorem dX14_digitsOf_7 : decode cX14_digitsOf 7 = .ok (.iload_n 1, 1) := by decide +kernel
theorem dX14_digitsOf_8 : decode cX14_digitsOf 8 = .ok (.bipush 10, 2) := by decide +kernel
theorem dX14_digitsOf_10 : decode cX14_digitsOf 10 = .ok (.idiv, 1) := by decide +kernel
theorem dX14_digitsOf_11 : decode cX14_digitsOf 11 = .ok (.invokevirtual 176, 3) := by decide +kernel
theorem dX14_digitsOf_14 : decode cX14_digitsOf 14 = .ok (.aload_n 0, 1) := by decide +kernel
theorem dX14_digitsOf_15 : decode cX14_digitsOf 15 = .ok (.bipush 48, 2) := by decide +kernel
theorem dX14_digitsOf_17 : decode cX14_digitsOf 17 = .ok (.iload_n 1, 1) := by decide +kernel
theorem dX14_digitsOf_18 : decode cX14_digitsOf 18 = .ok (.bipush 10, 2) := by decide +kernel
theorem dX14_digitsOf_20 : decode cX14_digitsOf 20 = .ok (.irem, 1) := by decide +kernel
theorem dX14_digitsOf_21 : decode cX14_digitsOf 21 = .ok (.isub, 1) := by decide +kernel
theorem dX14_digitsOf_22 : decode cX14_digitsOf 22 = .ok (.invokevirtual 172, 3) := by decide +kernel
theorem dX14_digitsOf_25 : decode cX14_digitsOf 25 = .ok (.return_, 1) := by decide +kernel
theorem dX14_utf8_0 : decode cX14_utf8 0 = .ok (.iload_n 1, 1) := by decide +kernel
theorem dX14_utf8_1 : decode cX14_utf8 1 = .ok (.sipush 128, 3) := by decide +kernel
theorem dX14_utf8_4 : decode cX14_utf8 4 = .ok (.if_icmp .ge 11, 3) := by decide +kernel
theorem dX14_utf8_7 : decode cX14_utf8 7 = .ok (.aload_n 0, 1) := by decide +kernel
theorem dX14_utf8_8 : decode cX14_utf8 8 = .ok (.iload_n 1, 1) := by decide +kernel
theorem dX14_utf8_9 : decode cX14_utf8 9 = .ok (.invokevirtual 172, 3) := by decide +kernel
theorem dX14_utf8_12 : decode cX14_utf8 12 = .ok (.goto 139, 3) := by decide +kernel
theorem dX14_utf8_15 : decode cX14_utf8 15 = .ok (.iload_n 1, 1) := by decide +kernel
theorem dX14_utf8_16 : decode cX14_utf8 16 = .ok (.sipush 2048, 3) := by decide +kernel
theorem dX14_utf8_19 : decode cX14_utf8 19 = .ok (.if_icmp .ge 30, 3) := by decide +kernel
theorem dX14_utf8_22 : decode cX14_utf8 22 = .ok (.aload_n 0, 1) := by decide +kernel
theorem dX14_utf8_23 : decode cX14_utf8 23 = .ok (.sipush 192, 3) := by decide +kernel
theorem dX14_utf8_26 : decode cX14_utf8 26 = .ok (.iload_n 1, 1) := by decide +kernel
theorem dX14_utf8_27 : decode cX14_utf8 27 = .ok (.bipush 6, 2) := by decide +kernel
theorem dX14_utf8_29 : decode cX14_utf8 29 = .ok (.ishr, 1) := by decide +kernel
theorem dX14_utf8_30 : decode cX14_utf8 30 = .ok (.ior, 1) := by decide +kernel
theorem dX14_utf8_31 : decode cX14_utf8 31 = .ok (.invokevirtual 172, 3) := by decide +kernel
theorem dX14_utf8_34 : decode cX14_utf8 34 = .ok (.aload_n 0, 1) := by decide +kernel
theorem dX14_utf8_35 : decode cX14_utf8 35 = .ok (.sipush 128, 3) := by decide +kernel
theorem dX14_utf8_38 : decode cX14_utf8 38 = .ok (.iload_n 1, 1) := by decide +kernel
theorem dX14_utf8_39 : decode cX14_utf8 39 = .ok (.bipush 63, 2) := by decide +kernel
theorem dX14_utf8_41 : decode cX14_utf8 41 = .ok (.iand, 1) := by decide +kernel
theorem dX14_utf8_42 : decode cX14_utf8 42 = .ok (.ior, 1) := by decide +kernel
theorem dX14_utf8_43 : decode cX14_utf8 43 = .ok (.invokevirtual 172, 3) := by decide +kernel
theorem dX14_utf8_46 : decode cX14_utf8 46 = .ok (.goto 105, 3) := by decide +kernel
theorem dX14_utf8_49 : decode cX14_utf8 49 = .ok (.iload_n 1, 1) := by decide +kernel
theorem dX14_utf8_50 : decode cX14_utf8 50 = .ok (.ldc 197, 2) := by decide +kernel
theorem dX14_utf8_52 : decode cX14_utf8 52 = .ok (.if_icmp .ge 45, 3) := by decide +kernel
theorem dX14_utf8_55 : decode cX14_utf8 55 = .ok (.aload_n 0, 1) := by decide +kernel
theorem dX14_utf8_56 : decode cX14_utf8 56 = .ok (.sipush 224, 3) := by decide +kernel
theorem dX14_utf8_59 : decode cX14_utf8 59 = .ok (.iload_n 1, 1) := by decide +kernel
theorem dX14_utf8_60 : decode cX14_utf8 60 = .ok (.bipush 12, 2) := by decide +kernel
theorem dX14_utf8_62 : decode cX14_utf8 62 = .ok (.ishr, 1) := by decide +kernel
theorem dX14_utf8_63 : decode cX14_utf8 63 = .ok (.ior, 1) := by decide +kernel
theorem dX14_utf8_64 : decode cX14_utf8 64 = .ok (.invokevirtual 172, 3) := by decide +kernel
theorem dX14_utf8_67 : decode cX14_utf8 67 = .ok (.aload_n 0, 1) := by decide +kernel
theorem dX14_utf8_68 : decode cX14_utf8 68 = .ok (.sipush 128, 3) := by decide +kernel
theorem dX14_utf8_71 : decode cX14_utf8 71 = .ok (.iload_n 1, 1) := by decide +kernel
theorem dX14_utf8_72 : decode cX14_utf8 72 = .ok (.bipush 6, 2) := by decide +kernel
theorem dX14_utf8_74 : decode cX14_utf8 74 = .ok (.ishr, 1) := by decide +kernel
theorem dX14_utf8_75 : decode cX14_utf8 75 = .ok (.bipush 63, 2) := by decide +kernel
theorem dX14_utf8_77 : decode cX14_utf8 77 = .ok (.iand, 1) := by decide +kernel
theorem dX14_utf8_78 : decode cX14_utf8 78 = .ok (.ior, 1) := by decide +kernel
theorem dX14_utf8_79 : decode cX14_utf8 79 = .ok (.invokevirtual 172, 3) := by decide +kernel
theorem dX14_utf8_82 : decode cX14_utf8 82 = .ok (.aload_n 0, 1) := by decide +kernel
theorem dX14_utf8_83 : decode cX14_utf8 83 = .ok (.sipush 128, 3) := by decide +kernel
theorem dX14_utf8_86 : decode cX14_utf8 86 = .ok (.iload_n 1, 1) := by decide +kernel
theorem dX14_utf8_87 : decode cX14_utf8 87 = .ok (.bipush 63, 2) := by decide +kernel
theorem dX14_utf8_89 : decode cX14_utf8 89 = .ok (.iand, 1) := by decide +kernel
theorem dX14_utf8_90 : decode cX14_utf8 90 = .ok (.ior, 1) := by decide +kernel
theorem dX14_utf8_91 : decode cX14_utf8 91 = .ok (.invokevirtual 172, 3) := by decide +kernel
theorem dX14_utf8_94 : decode cX14_utf8 94 = .ok (.goto 57, 3) := by decide +kernel
theorem dX14_utf8_97 : decode cX14_utf8 97 = .ok (.aload_n 0, 1) := by decide +kernel
theorem dX14_utf8_98 : decode cX14_utf8 98 = .ok (.sipush 240, 3) := by decide +kernel
theorem dX14_utf8_101 : decode cX14_utf8 101 = .ok (.iload_n 1, 1) := by decide +kernel
theorem dX14_utf8_102 : decode cX14_utf8 102 = .ok (.bipush 18, 2) := by decide +kernel
theorem dX14_utf8_104 : decode cX14_utf8 104 = .ok (.ishr, 1) := by decide +kernel
theorem dX14_utf8_105 : decode cX14_utf8 105 = .ok (.ior, 1) := by decide +kernel
theorem dX14_utf8_106 : decode cX14_utf8 106 = .ok (.invokevirtual 172, 3) := by decide +kernel
theorem dX14_utf8_109 : decode cX14_utf8 109 = .ok (.aload_n 0, 1) := by decide +kernel
theorem dX14_utf8_110 : decode cX14_utf8 110 = .ok (.sipush 128, 3) := by decide +kernel
theorem dX14_utf8_113 : decode cX14_utf8 113 = .ok (.iload_n 1, 1) := by decide +kernel
theorem dX14_utf8_114 : decode cX14_utf8 114 = .ok (.bipush 12, 2) := by decide +kernel
theorem dX14_utf8_116 : decode cX14_utf8 116 = .ok (.ishr, 1) := by decide +kernel
theorem dX14_utf8_117 : decode cX14_utf8 117 = .ok (.bipush 63, 2) := by decide +kernel
theorem dX14_utf8_119 : decode cX14_utf8 119 = .ok (.iand, 1) := by decide +kernel
theorem dX14_utf8_120 : decode cX14_utf8 120 = .ok (.ior, 1) := by decide +kernel
theorem dX14_utf8_121 : decode cX14_utf8 121 = .ok (.invokevirtual 172, 3) := by decide +kernel
theorem dX14_utf8_124 : decode cX14_utf8 124 = .ok (.aload_n 0, 1) := by decide +kernel
theorem dX14_utf8_125 : decode cX14_utf8 125 = .ok (.sipush 128, 3) := by decide +kernel
theorem dX14_utf8_128 : decode cX14_utf8 128 = .ok (.iload_n 1, 1) := by decide +kernel
theorem dX14_utf8_129 : decode cX14_utf8 129 = .ok (.bipush 6, 2) := by decide +kernel
theorem dX14_utf8_131 : decode cX14_utf8 131 = .ok (.ishr, 1) := by decide +kernel
theorem dX14_utf8_132 : decode cX14_utf8 132 = .ok (.bipush 63, 2) := by decide +kernel
theorem dX14_utf8_134 : decode cX14_utf8 134 = .ok (.iand, 1) := by decide +kernel
theorem dX14_utf8_135 : decode cX14_utf8 135 = .ok (.ior, 1) := by decide +kernel
theorem dX14_utf8_136 : decode cX14_utf8 136 = .ok (.invokevirtual 172, 3) := by decide +kernel
theorem dX14_utf8_139 : decode cX14_utf8 139 = .ok (.aload_n 0, 1) := by decide +kernel
theorem dX14_utf8_140 : decode cX14_utf8 140 = .ok (.sipush 128, 3) := by decide +kernel
theorem dX14_utf8_143 : decode cX14_utf8 143 = .ok (.iload_n 1, 1) := by decide +kernel
theorem dX14_utf8_144 : decode cX14_utf8 144 = .ok (.bipush 63, 2) := by decide +kernel
theorem dX14_utf8_146 : decode cX14_utf8 146 = .ok (.iand, 1) := by decide +kernel
theorem dX14_utf8_147 : decode cX14_utf8 147 = .ok (.ior, 1) := by decide +kernel
theorem dX14_utf8_148 : decode cX14_utf8 148 = .ok (.invokevirtual 172, 3) := by decide +kernel
theorem dX14_utf8_151 : decode cX14_utf8 151 = .ok (.return_, 1) := by decide +kernel
theorem dX14_text_0 : decode cX14_text 0 = .ok (.aload_n 0, 1) := by decide +kernel
theorem dX14_text_1 : decode cX14_text 1 = .ok (.bipush 34, 2) := by decide +kernel
theorem dX14_text_3 : decode cX14_text 3 = .ok (.invokevirtual 172, 3) := by decide +kernel
theorem dX14_text_6 : decode cX14_text 6 = .ok (.aload_n 0, 1) := by decide +kernel
theorem dX14_text_7 : decode cX14_text 7 = .ok (.aload_n 1, 1) := by decide +kernel
theorem dX14_text_8 : decode cX14_text 8 = .ok (.invokevirtual 189, 3) := by decide +kernel
theorem dX14_text_11 : decode cX14_text 11 = .ok (.aload_n 0, 1) := by decide +kernel
theorem dX14_text_12 : decode cX14_text 12 = .ok (.bipush 34, 2) := by decide +kernel
theorem dX14_text_14 : decode cX14_text 14 = .ok (.invokevirtual 172, 3) := by decide +kernel
theorem dX14_text_17 : decode cX14_text 17 = .ok (.return_, 1) := by decide +kernel
def EX14_put : List (Nat × Nat) := [(16, 6), (101, 0)]
def EX14_word : List (Nat × Nat) := [(16, 6), (101, 0)]
def EX14_utf8 : List (Nat × Nat) := [(16, 6), (101, 0)]
def EX14_text : List (Nat × Nat) := [(16, 6), (101, 0)]
def EX14_digitsOf : List (Nat × Nat) := [(16, 6), (101, 0)]
def EX14_number : List (Nat × Nat) := [(16, 6), (101, 0)]
def qX14_digitsOf (l : Launch) (dC : Nat → ClassId) (dI : Nat → Nat → Nat) (ca : Nat → ClassId) (base : Nat) (B : jF) (ef : Nat) : Prop := ∀ (G0 : jT) (H0 : Heap) (r0 : Nat) (a1 : Int32) (pf : Int32), Met l yX14_digitsOf (jw yX14_digitsOf cX14_digitsOf 2 none) ({ frames := ef + 1, cells := 0, slots := 0, locals := 40 * ef + 60 }) (va_Pc [.ref r0, .int a1] (fun U => U.heap = H0 ∧ jX B base G0 [] H0 ∧ jG dC dI ca base U ∧ G0 r0 = some (16, 0) ∧ jP (dC, dI) G0 H0 [(r0, 16, 6, .int pf)] ∧ 0 ≤ pf.toInt ∧ pf.toInt ≤ 100000 ∧ a1.toInt ≤ 0 ∧ -a1.toInt < jpw ef)) (va_Qv (S := Int32) (fun u => pf.toInt ≤ u.toInt ∧ u.toInt ≤ 100000) (fun u t => jRt (dC, dI) B base G0 EX14_digitsOf H0 [(r0, 16, 6, .int u)] t.heap) (jA base)) 0 0 (jA base)
set_option maxHeartbeats 4000000 in
set_option maxRecDepth 20000 in
theorem uX14_put (l : Launch) (dC : Nat → ClassId) (dI : Nat → Nat → Nat) (ca : Nat → ClassId) (base : Nat) (B : jF) (hB : jBok B) (hAp : jAp (dC, dI)) (hB16 : ∀ n G a H, B 16 n G a H ↔ jOb (dC, dI) 16 74 (F16 n G) a H) (hB101 : ∀ n G a H, B 101 n G a H ↔ jAr (dC, dI) (ca 1) (fun j z => True) n a H) (G0 : jT) (H0 : Heap) (r0 : Nat) (a1 : Int32) (pf : Int32) : Met l yX14_put (jw yX14_put cX14_put 2 none) ({ frames := 0, cells := 0, slots := 0, locals := 0 }) (va_Pc [.ref r0, .int a1] (fun U => U.heap = H0 ∧ jX B base G0 [] H0 ∧ jG dC dI ca base U ∧ G0 r0 = some (16, 0) ∧ jP (dC, dI) G0 H0 [(r0, 16, 6, .int pf)] ∧ 0 ≤ pf.toInt ∧ pf.toInt ≤ 100000)) (va_Qv (S := Int32) (fun u => pf.toInt ≤ u.toInt ∧ u.toInt ≤ 100000) (fun u t => jRt (dC, dI) B base G0 EX14_put H0 [(r0, 16, 6, .int u)] t.heap) (jA base)) 0 0 (jA base) := by
  refine Met.ofW (cc := cX14_put) (maxL := 2) (ret := none) (by decide) rfl ?_
  intro p e s m args below meth c s₁ Bd hml hv
  obtain ⟨rfl, hH0, hX, hG, hg_r0, hP0, hp0, hp1⟩ := hv
  have hK := hG.1
  have hx := Bd.exec
  have hb := Bd.bytes
  have hr := Bd.returns
  have hts := atoms_spec (ws := (jw yX14_put cX14_put 2 none)) Bd.pre
  have htw : ∀ w ∈ jWl, w.before _ s = true := fun w h => hts w (List.mem_cons_of_mem _ h)
  have hown : s.vm.findClass RX14 = some m.cls := findClass_of_methodNamed Bd.named
  have hlocks := Bd.notSynchronized
  obtain ⟨Q, hQ⟩ : ∃ Q, Q = MQ below (va_Qv (S := Int32) (fun u => pf.toInt ≤ u.toInt ∧ u.toInt ≤ 100000) (fun u t => jRt (dC, dI) B base G0 EX14_put H0 [(r0, 16, 6, .int u)] t.heap) (jA base)) ([.ref r0, .int a1] : List Value).toArray s 0 0 (jA base) := ⟨_, rfl⟩
  rw [← hQ]
  have hl := lv_entry ([.ref r0, .int a1]) (n := 2) (Nat.le_of_ble_eq_true rfl)
  rw [lg_entry_eq]
  generalize (lg_sl ([.ref r0, .int a1]) ++ List.replicate (2 - (lg_sl ([.ref r0, .int a1])).length) Slot.unset).toArray = ls at hl ⊢
  have hl : lv_has ls 2 [(0, .ref r0), (1, .int a1)] := hl
  generalize hR : (headSpec (jw yX14_put cX14_put 2 none) ({ frames := 0, cells := 0, slots := 0, locals := 0 })).room = R
  subst hH0
  have hh : jSt (dC, dI) B base G0 G0 EX14_put s.heap 0 0 [(r0, 16, 6, .int pf)] [] [] s.heap [] := jSt.start hX hP0 jMc.nil jIs.nil
  clear hX hP0
  have hk0 : (0 : Int32).toInt = 0 := by decide
  have hk1 : (1 : Int32).toInt = 1 := by decide
  have hk100000 : (100000 : Int32).toInt = 100000 := by decide
  have hly_16_5 := htw (u_lay RX14 TX14 5) (jWc_wsX140 _ (u_in_lay (by decide)))
  have hly_16_6 := htw (u_lay RX14 TX14 6) (jWc_wsX140 _ (u_in_lay (by decide)))
  have hlk_160 := (htw (.fieldLink RX14 160 "ProofServerModel" "framed" "I") (jWr_53 _ (List.mem_of_getElem? (i := 18) rfl)))
  have hcs_16 := htw (.constant RX14 16 100000) (jWr_10 _ (List.mem_of_getElem? (i := 19) rfl))
  have hlk_17 := (htw (.fieldLink RX14 17 "ProofServerModel" "frame" "[I") (jWr_10 _ (List.mem_of_getElem? (i := 20) rfl)))
  have hrg_a1 := jb_rng a1
  refine lv_aload_n hx hb dX14_put_0 rfl (lv_at hl 0 rfl) ?_
  refine j7_read hx hb hown hK (C := RX14) (T := TX14) (N := 74) rfl hly_16_6 hlk_160 (hh.at 0 rfl) dX14_put_1 ?_
  refine lv_ldc hx hb hown hcs_16 dX14_put_4 ?_
  refine lv_icmp_ge (tgt := 29) hx hb dX14_put_6 (by decide) (fun c_1 => ?_) (fun c_1 => ?_)
  · skip
    have c_1' : pf.toInt ≥ 100000 := jb_ge (rfl) ((by decide)) c_1
    rw [hQ]
    exact W.vret hx hb hr (fun t ht hW => ⟨⟨pf, rfl, by first | omega | (refine ⟨?_, ?_⟩ <;> (first | omega | rfl | assumption | decide | exact Or.inl rfl | exact Or.inr rfl | (simp only; omega))), hh.rt (M1 := [(r0, 16, 6, .int pf)]) [0] rfl ht⟩, by rw [ht]; try exact hh.1.1, fun q h9 hq => by rw [ht]; try exact hh.1.2.1 q h9 hq⟩) hh.1.2.2 dX14_put_29
  · skip
    have c_1' : pf.toInt < 100000 := jb_ge_n (rfl) ((by decide)) c_1
    refine lv_aload_n hx hb dX14_put_9 rfl (lv_at hl 0 rfl) ?_
    obtain ⟨v_2, hv_2, hh_3⟩ := hh.pin (C := RX14) (T := TX14) (N := 74) hB16 rfl (by decide) hg_r0 (i := 5) (by decide) rfl
    clear hh
    obtain ⟨frame_4, rfl, hg_frame_4⟩ := hv_2
    refine j7_read hx hb hown hK (C := RX14) (T := TX14) (N := 74) rfl hly_16_5 hlk_17 (hh_3.at 0 rfl) dX14_put_10 ?_
    refine lv_aload_n hx hb dX14_put_13 rfl (lv_at hl 0 rfl) ?_
    refine j7_read hx hb hown hK (C := RX14) (T := TX14) (N := 74) rfl hly_16_6 hlk_160 (hh_3.at 1 rfl) dX14_put_14 ?_
    refine lv_iload_n hx hb dX14_put_17 rfl (lv_at hl 1 rfl) ?_
    refine j7_iast hx hb hK hh_3 hB hB101 1 rfl (by decide) (by decide) rfl rfl rfl hg_frame_4 (x := pf.toInt) (rfl) (by omega) (trivial) dX14_put_18 (fun H_5 locs_5 hh_5 => ?_)
    clear hh_3
    refine lv_aload_n hx hb dX14_put_19 rfl (lv_at hl 0 rfl) ?_
    refine lv_dup hx hb dX14_put_20 rfl ?_
    refine j7_read hx hb hown hK (C := RX14) (T := TX14) (N := 74) rfl hly_16_6 hlk_160 (hh_5.at 1 rfl) dX14_put_21 ?_
    refine lv_iconst (v := 1) hx hb dX14_put_24 (by decide) ?_
    refine lv_iadd hx hb dX14_put_25 ?_
    refine lv_topi (fun z_6 ez_6 => ?_)
    have hz_6 : z_6.toInt = pf.toInt + 1 := by rw [ez_6]; exact jb_iadd2 (rfl) ((by decide)) (by omega)
    refine j7_put hx hb hown hK hh_5 hB hAp hB16 (C := RX14) (T := TX14) (N := 74) rfl (by decide) hg_r0 (i := 6) (by decide) hly_16_6 rfl hlk_160 rfl (ty := .int) (v := .int z_6) (by decide +kernel) rfl rfl (⟨_, rfl, by omega, by omega⟩) rfl (L1 := [(r0, 16, 5, .ref frame_4)]) [0] rfl rfl rfl dX14_put_26 (fun H_7 locs_7 hh_7 => ?_)
    clear hh_5
    rw [hQ]
    exact W.vret hx hb hr (fun t ht hW => ⟨⟨z_6, rfl, by first | omega | (refine ⟨?_, ?_⟩ <;> (first | omega | rfl | assumption | decide | exact Or.inl rfl | exact Or.inr rfl | (simp only; omega))), hh_7.rt (M1 := [(r0, 16, 6, .int z_6)]) [0] rfl ht⟩, by rw [ht]; try exact hh_7.1.1, fun q h9 hq => by rw [ht]; try exact hh_7.1.2.1 q h9 hq⟩) hh_7.1.2.2 dX14_put_29
set_option maxHeartbeats 4000000 in
set_option maxRecDepth 20000 in
theorem uX14_word (l : Launch) (dC : Nat → ClassId) (dI : Nat → Nat → Nat) (ca : Nat → ClassId) (base : Nat) (B : jF) (hB : jBok B) (hAp : jAp (dC, dI)) (hB16 : ∀ n G a H, B 16 n G a H ↔ jOb (dC, dI) 16 74 (F16 n G) a H) (hB101 : ∀ n G a H, B 101 n G a H ↔ jAr (dC, dI) (ca 1) (fun j z => True) n a H) (G0 : jT) (H0 : Heap) (r0 : Nat) (r1 : Nat) (n1 : Nat) (pf : Int32) : Met l yX14_word (jw yX14_word cX14_word 3 none) ({ frames := 4, cells := 0, slots := 0, locals := 141 }) (va_Pc [.ref r0, .ref r1] (fun U => U.heap = H0 ∧ jX B base G0 [] H0 ∧ jG dC dI ca base U ∧ jStr base r1 n1 U H0 ∧ G0 r0 = some (16, 0) ∧ jP (dC, dI) G0 H0 [(r0, 16, 6, .int pf)] ∧ 0 ≤ pf.toInt ∧ pf.toInt ≤ 100000 ∧ n1 < 2147483648)) (va_Qv (S := Int32) (fun u => pf.toInt ≤ u.toInt ∧ u.toInt ≤ 100000) (fun u t => jRt (dC, dI) B base G0 EX14_word H0 [(r0, 16, 6, .int u)] t.heap) (jA base)) 0 0 (jA base) := by
  refine Met.ofW (cc := cX14_word) (maxL := 3) (ret := none) (by decide) rfl ?_
  intro p e s m args below meth c s₁ Bd hml hv
  obtain ⟨rfl, hH0, hX, hG, hstr_r1, hg_r0, hP0, hp0, hp1, hp2⟩ := hv
  have hK := hG.1
  have hx := Bd.exec
  have hb := Bd.bytes
  have hr := Bd.returns
  have hts := atoms_spec (ws := (jw yX14_word cX14_word 3 none)) Bd.pre
  have htw : ∀ w ∈ jWl, w.before _ s = true := fun w h => hts w (List.mem_cons_of_mem _ h)
  have hown : s.vm.findClass RX14 = some m.cls := findClass_of_methodNamed Bd.named
  have hlocks := Bd.notSynchronized
  obtain ⟨Q, hQ⟩ : ∃ Q, Q = MQ below (va_Qv (S := Int32) (fun u => pf.toInt ≤ u.toInt ∧ u.toInt ≤ 100000) (fun u t => jRt (dC, dI) B base G0 EX14_word H0 [(r0, 16, 6, .int u)] t.heap) (jA base)) ([.ref r0, .ref r1] : List Value).toArray s 0 0 (jA base) := ⟨_, rfl⟩
  rw [← hQ]
  have hl := lv_entry ([.ref r0, .ref r1]) (n := 3) (Nat.le_of_ble_eq_true rfl)
  rw [lg_entry_eq]
  generalize (lg_sl ([.ref r0, .ref r1]) ++ List.replicate (3 - (lg_sl ([.ref r0, .ref r1])).length) Slot.unset).toArray = ls at hl ⊢
  have hl : lv_has ls 3 [(0, .ref r0), (1, .ref r1)] := hl
  generalize hR : (headSpec (jw yX14_word cX14_word 3 none) ({ frames := 4, cells := 0, slots := 0, locals := 141 })).room = R
  subst hH0
  have hh : jSt (dC, dI) B base G0 G0 EX14_word s.heap 0 0 [(r0, 16, 6, .int pf)] [] [] s.heap [] := jSt.start hX hP0 jMc.nil jIs.nil
  clear hX hP0
  have hk0 : (0 : Int32).toInt = 0 := by decide
  have hk1 : (1 : Int32).toInt = 1 := by decide
  refine lv_iconst (v := 0) hx hb dX14_word_0 (by decide) ?_
  refine lv_istore_n (lv' := [(2, .int 0), (0, .ref r0), (1, .ref r1)]) hx hb dX14_word_1 rfl hl (by decide) rfl (fun ls hl => ?_)
  have L2 : ∀ (N : Nat) (v2_1 : Int32) (wf_1 : Int32) (H_1 : Heap) (locs_1 : List Loc), jSt (dC, dI) B base G0 G0 EX14_word s.heap 0 0 [(r0, 16, 6, .int wf_1)] [] [] H_1 locs_1 → (0 ≤ v2_1.toInt ∧ v2_1.toInt ≤ n1 ∧ pf.toInt ≤ wf_1.toInt ∧ wf_1.toInt ≤ 100000) → (n1 - v2_1.toInt : Int) < N → ∀ ls : Array Slot, lv_has ls 3 [(0, .ref r0), (1, .ref r1), (2, .int v2_1)] → W p l e R s m ([.ref r0, .ref r1] : List Value).toArray below meth c H_1 locs_1 0 0 Q (F0 m 2 ls []) := by
    intro N
    induction N with
    | zero => intro v2_1 wf_1 H_1 locs_1 hh_1  hi_1 hm; exact absurd hm (by omega)
    | succ N L2 =>
      intro v2_1 wf_1 H_1 locs_1 hh_1  hi_1 hm_1 ls hl
      obtain ⟨hi_1_0, hi_1_1, hi_1_2, hi_1_3⟩ := hi_1
      refine lv_iload_n hx hb dX14_word_2 rfl (lv_at hl 2 rfl) ?_
      refine lv_aload_n hx hb dX14_word_3 rfl (lv_at hl 1 rfl) ?_
      refine vp_callSi (W.runV (As := []) (rest := [.int v2_1]) ⟨hx, hb, hml, hown, hts⟩ (wJ0_length_8abf5 l dC dI ca base H_1 r1 n1) (cwV 0 hts (jgV (jWr_49 _ (List.mem_of_getElem? (i := 1) rfl)) (jWr_5 _ (List.mem_of_getElem? (i := 13) rfl)) (jWr_5 _ (List.mem_of_getElem? (i := 14) rfl)) (jWr_5 _ (List.mem_of_getElem? (i := 15) rfl)) (jWr_5 _ (List.mem_of_getElem? (i := 16) rfl))) rfl rfl rfl (by decide +kernel) ⟨by rw [← hR]; exact Nat.le_of_ble_eq_true rfl, by rw [← hR]; exact Nat.le_of_ble_eq_true rfl⟩) ⟨fun a U g mk q => by obtain ⟨q0, q1, q2, qK, q9⟩ := q; exact ⟨q0, q1, (q2.moved (Vm.Alike.refl U.vm)), jG.calling g mk a qK, q9⟩, jStr_recv hstr_r1 hh_1.1, fun U hU hW => ⟨rfl, hU, (hstr_r1.moved hW.alike).kept hh_1.1.2.1, hG.step hW hU hh_1.1, by omega⟩⟩ rfl rfl hl.1 rfl (lv_room (Nat.le_of_ble_eq_true rfl)) dX14_word_4 ⟨Nat.zero_le _, Nat.zero_le _⟩) (fun r_2 hr_2 => ?_)
      refine lv_icmp_ge (tgt := 25) hx hb dX14_word_7 (by decide) (fun c_3 => ?_) (fun c_3 => ?_)
      · skip
        have c_3' : v2_1.toInt ≥ r_2.toInt := jb_ge (rfl) (rfl) c_3
        rw [hQ]
        exact W.vret hx hb hr (fun t ht hW => ⟨⟨wf_1, rfl, by first | omega | (refine ⟨?_, ?_⟩ <;> (first | omega | rfl | assumption | decide | exact Or.inl rfl | exact Or.inr rfl | (simp only; omega))), hh_1.rt (M1 := [(r0, 16, 6, .int wf_1)]) [0] rfl ht⟩, by rw [ht]; try exact hh_1.1.1, fun q h9 hq => by rw [ht]; try exact hh_1.1.2.1 q h9 hq⟩) hh_1.1.2.2 dX14_word_25
      · skip
        have c_3' : v2_1.toInt < r_2.toInt := jb_ge_n (rfl) (rfl) c_3
        refine lv_aload_n hx hb dX14_word_10 rfl (lv_at hl 0 rfl) ?_
        refine lv_aload_n hx hb dX14_word_11 rfl (lv_at hl 1 rfl) ?_
        refine lv_iload_n hx hb dX14_word_12 rfl (lv_at hl 2 rfl) ?_
        refine vp_callSi (W.runV (As := [.int v2_1]) (rest := [.ref r0]) ⟨hx, hb, hml, hown, hts⟩ (wJ0_charAt_5068e l dC dI ca base H_1 r1 n1 v2_1) (cwV 1 hts (jgV (jWr_49 _ (List.mem_of_getElem? (i := 13) rfl)) (jWr_6 _ (List.mem_of_getElem? (i := 1) rfl)) (jWr_6 _ (List.mem_of_getElem? (i := 2) rfl)) (jWr_5 _ (List.mem_of_getElem? (i := 15) rfl)) (jWr_6 _ (List.mem_of_getElem? (i := 3) rfl))) rfl rfl rfl (by decide +kernel) ⟨by rw [← hR]; exact Nat.le_of_ble_eq_true rfl, by rw [← hR]; exact Nat.le_of_ble_eq_true rfl⟩) ⟨fun a U g mk q => by obtain ⟨q0, q1, q2, qK, q9⟩ := q; exact ⟨q0, q1, (q2.moved (Vm.Alike.refl U.vm)), jG.calling g mk a qK, q9⟩, jStr_recv hstr_r1 hh_1.1, fun U hU hW => ⟨rfl, hU, (hstr_r1.moved hW.alike).kept hh_1.1.2.1, hG.step hW hU hh_1.1, ⟨by omega, by omega, by omega⟩⟩⟩ rfl rfl hl.1 rfl (lv_room (Nat.le_of_ble_eq_true rfl)) dX14_word_13 ⟨Nat.zero_le _, Nat.zero_le _⟩) (fun r_4 hr_4 => ?_)
        refine va_callv (A0 := jA base) (H0 := s.heap) (va_runV (As := [.int r_4]) (rest := []) ⟨hx, hb, hml, hown, hts⟩ (uX14_put l dC dI ca base B hB hAp hB16 hB101 G0 H_1 r0 r_4 wf_1) (cwV 1 hts (jgV (jWr_54 _ (List.mem_of_getElem? (i := 2) rfl)) (jWr_54 _ (List.mem_of_getElem? (i := 3) rfl)) (jWr_54 _ (List.mem_of_getElem? (i := 4) rfl)) (jWr_1 _ (List.mem_of_getElem? (i := 5) rfl)) (jWr_54 _ (List.mem_of_getElem? (i := 5) rfl))) rfl rfl rfl (by decide +kernel) ⟨by rw [← hR]; exact Nat.le_of_ble_eq_true rfl, by rw [← hR]; exact Nat.le_of_ble_eq_true rfl⟩) ⟨fun a U g mk q => by obtain ⟨q0, q1, q2, qK, q10, q11, q12⟩ := q; exact ⟨q0, q1, q2, jG.calling g mk a qK, q10, q11, q12⟩, hh_1.recv (C := RX14) (T := TX14) (N := 74) hB16 rfl (by decide) hg_r0 hK, fun U hU hW => ⟨rfl, hU, hh_1.2.1, hG.step hW hU hh_1.1, hg_r0, (hh_1.2.2.1.sub (L1 := [(r0, 16, 6, .int wf_1)]) [0] rfl), by first | omega | (refine ⟨?_, ?_⟩ <;> (first | omega | rfl | assumption | decide | exact Or.inl rfl | exact Or.inr rfl | (simp only; omega)))⟩⟩ rfl rfl hl.1 rfl (lv_room (Nat.le_of_ble_eq_true rfl)) dX14_word_16 ⟨Nat.zero_le _, Nat.zero_le _⟩) hh_1.1 (fun q _ h => h) (fun q h => h) (fun u_5 t_5 H_5 locs_5 ht_5 hvm_5 hr_6 hb_5 hz_5 hk_5 hS_5 => ?_)
        obtain ⟨qf_5, rfl⟩ : ∃ z, z = u_5 := ⟨_, rfl⟩
        rw [ht_5] at hb_5
        obtain ⟨hb_51, hb_52, hb_53, hb_54, hb_55⟩ := hb_5
        have hh_5 : jSt (dC, dI) B base G0 G0 EX14_word s.heap 0 0 [(r0, 16, 6, .int qf_5)] [] [] H_5 locs_5 := ((hh_1.call hb_51 hb_52 hb_53 hb_54 hS_5 rfl (L1 := []) [] rfl rfl (M1 := []) [] rfl rfl (I1 := []) [] rfl rfl).more hb_55)
        clear hh_1 ht_5 hvm_5 hz_5 hk_5 hS_5 hb_51 hb_52 hb_53 hb_54 hb_55
        obtain ⟨hr_6_0, hr_6_1⟩ := hr_6
        obtain ⟨z_7, ez_7⟩ : ∃ y : Int32, y = v2_1 + 1 := ⟨_, rfl⟩
        refine lv_iinc (v := z_7) (lv' := [(2, .int z_7), (0, .ref r0), (1, .ref r1)]) hx hb dX14_word_19 hl (k := 2) rfl (by rw [ez_7]; rfl) (by decide) rfl (fun ls hl => ?_)
        have hz_7 : z_7.toInt = v2_1.toInt + 1 := by rw [ez_7]; exact jb_iadd2 (rfl) (by decide) (by omega)
        refine lv_goto (tgt := 2) hx hb dX14_word_22 (by decide) ?_
        exact L2 z_7 qf_5 _ _ hh_5 (by first | omega | (refine ⟨?_, ?_, ?_, ?_⟩ <;> (first | omega | rfl | assumption | decide | exact Or.inl rfl | exact Or.inr rfl | (simp only; omega)))) (by omega) _ (lv_sub hl [1, 2, 0] rfl)
  exact L2 (n1 - (0 : Int32).toInt : Int).toNat.succ 0 pf _ _ hh (by first | omega | (refine ⟨?_, ?_, ?_, ?_⟩ <;> (first | omega | rfl | assumption | decide | exact Or.inl rfl | exact Or.inr rfl | (simp only; omega)))) (by omega) _ (lv_sub hl [1, 2, 0] rfl)
set_option maxHeartbeats 4000000 in
set_option maxRecDepth 20000 in
theorem uX14_utf8 (l : Launch) (dC : Nat → ClassId) (dI : Nat → Nat → Nat) (ca : Nat → ClassId) (base : Nat) (B : jF) (hB : jBok B) (hAp : jAp (dC, dI)) (hB16 : ∀ n G a H, B 16 n G a H ↔ jOb (dC, dI) 16 74 (F16 n G) a H) (hB101 : ∀ n G a H, B 101 n G a H ↔ jAr (dC, dI) (ca 1) (fun j z => True) n a H) (G0 : jT) (H0 : Heap) (r0 : Nat) (a1 : Int32) (pf : Int32) : Met l yX14_utf8 (jw yX14_utf8 cX14_utf8 2 none) ({ frames := 1, cells := 0, slots := 0, locals := 21 }) (va_Pc [.ref r0, .int a1] (fun U => U.heap = H0 ∧ jX B base G0 [] H0 ∧ jG dC dI ca base U ∧ G0 r0 = some (16, 0) ∧ jP (dC, dI) G0 H0 [(r0, 16, 6, .int pf)] ∧ 0 ≤ pf.toInt ∧ pf.toInt ≤ 100000)) (va_Qv (S := Int32) (fun u => pf.toInt ≤ u.toInt ∧ u.toInt ≤ 100000) (fun u t => jRt (dC, dI) B base G0 EX14_utf8 H0 [(r0, 16, 6, .int u)] t.heap) (jA base)) 0 0 (jA base) := by
  refine Met.ofW (cc := cX14_utf8) (maxL := 2) (ret := none) (by decide) rfl ?_
  intro p e s m args below meth c s₁ Bd hml hv
  obtain ⟨rfl, hH0, hX, hG, hg_r0, hP0, hp0, hp1⟩ := hv
  have hK := hG.1
  have hx := Bd.exec
  have hb := Bd.bytes
  have hr := Bd.returns
  have hts := atoms_spec (ws := (jw yX14_utf8 cX14_utf8 2 none)) Bd.pre
  have htw : ∀ w ∈ jWl, w.before _ s = true := fun w h => hts w (List.mem_cons_of_mem _ h)
  have hown : s.vm.findClass RX14 = some m.cls := findClass_of_methodNamed Bd.named
  have hlocks := Bd.notSynchronized
  obtain ⟨Q, hQ⟩ : ∃ Q, Q = MQ below (va_Qv (S := Int32) (fun u => pf.toInt ≤ u.toInt ∧ u.toInt ≤ 100000) (fun u t => jRt (dC, dI) B base G0 EX14_utf8 H0 [(r0, 16, 6, .int u)] t.heap) (jA base)) ([.ref r0, .int a1] : List Value).toArray s 0 0 (jA base) := ⟨_, rfl⟩
  rw [← hQ]
  have hl := lv_entry ([.ref r0, .int a1]) (n := 2) (Nat.le_of_ble_eq_true rfl)
  rw [lg_entry_eq]
  generalize (lg_sl ([.ref r0, .int a1]) ++ List.replicate (2 - (lg_sl ([.ref r0, .int a1])).length) Slot.unset).toArray = ls at hl ⊢
  have hl : lv_has ls 2 [(0, .ref r0), (1, .int a1)] := hl
  generalize hR : (headSpec (jw yX14_utf8 cX14_utf8 2 none) ({ frames := 1, cells := 0, slots := 0, locals := 21 })).room = R
  subst hH0
  have hh : jSt (dC, dI) B base G0 G0 EX14_utf8 s.heap 0 0 [(r0, 16, 6, .int pf)] [] [] s.heap [] := jSt.start hX hP0 jMc.nil jIs.nil
  clear hX hP0
  have hk0 : (0 : Int32).toInt = 0 := by decide
  have hk1 : (1 : Int32).toInt = 1 := by decide
  have hk6 : (6 : Int32).toInt = 6 := by decide
  have hk12 : (12 : Int32).toInt = 12 := by decide
  have hk18 : (18 : Int32).toInt = 18 := by decide
  have hk63 : (63 : Int32).toInt = 63 := by decide
  have hk128 : (128 : Int32).toInt = 128 := by decide
  have hk192 : (192 : Int32).toInt = 192 := by decide
  have hk224 : (224 : Int32).toInt = 224 := by decide
  have hk240 : (240 : Int32).toInt = 240 := by decide
  have hk2048 : (2048 : Int32).toInt = 2048 := by decide
  have hk65536 : (65536 : Int32).toInt = 65536 := by decide
  have hcs_197 := htw (.constant RX14 197 65536) (jWr_52 _ (List.mem_of_getElem? (i := 2) rfl))
  have hrg_a1 := jb_rng a1
  refine lv_iload_n hx hb dX14_utf8_0 rfl (lv_at hl 1 rfl) ?_
  refine lv_sipush (v := 128) hx hb dX14_utf8_1 (by decide) ?_
  refine lv_icmp_ge (tgt := 15) hx hb dX14_utf8_4 (by decide) (fun c_1 => ?_) (fun c_1 => ?_)
  · skip
    have c_1' : a1.toInt ≥ 128 := jb_ge (rfl) ((by decide)) c_1
    refine lv_iload_n hx hb dX14_utf8_15 rfl (lv_at hl 1 rfl) ?_
    refine lv_sipush (v := 2048) hx hb dX14_utf8_16 (by decide) ?_
    refine lv_icmp_ge (tgt := 49) hx hb dX14_utf8_19 (by decide) (fun c_2 => ?_) (fun c_2 => ?_)
    · skip
      have c_2' : a1.toInt ≥ 2048 := jb_ge (rfl) ((by decide)) c_2
      refine lv_iload_n hx hb dX14_utf8_49 rfl (lv_at hl 1 rfl) ?_
      refine lv_ldc hx hb hown hcs_197 dX14_utf8_50 ?_
      refine lv_icmp_ge (tgt := 97) hx hb dX14_utf8_52 (by decide) (fun c_3 => ?_) (fun c_3 => ?_)
      · skip
        have c_3' : a1.toInt ≥ 65536 := jb_ge (rfl) ((by decide)) c_3
        refine lv_aload_n hx hb dX14_utf8_97 rfl (lv_at hl 0 rfl) ?_
        refine lv_sipush (v := 240) hx hb dX14_utf8_98 (by decide) ?_
        refine lv_iload_n hx hb dX14_utf8_101 rfl (lv_at hl 1 rfl) ?_
        refine lv_bipush (v := 18) hx hb dX14_utf8_102 (by decide) ?_
        refine lv_ishr hx hb dX14_utf8_104 ?_
        refine lv_topi (fun z_4 ez_4 => ?_)
        have hz_4 : z_4.toInt = a1.toInt / 2 ^ 18 := by rw [ez_4]; exact jb_ishr 18 (rfl) (by decide)
        refine lv_ior hx hb dX14_utf8_105 ?_
        refine lv_topi (fun z_5 ez_5 => ?_)
        refine va_callv (A0 := jA base) (H0 := s.heap) (va_runV (As := [.int z_5]) (rest := []) ⟨hx, hb, hml, hown, hts⟩ (uX14_put l dC dI ca base B hB hAp hB16 hB101 G0 s.heap r0 z_5 pf) (cwV 1 hts (jgV (jWr_54 _ (List.mem_of_getElem? (i := 2) rfl)) (jWr_54 _ (List.mem_of_getElem? (i := 3) rfl)) (jWr_54 _ (List.mem_of_getElem? (i := 4) rfl)) (jWr_1 _ (List.mem_of_getElem? (i := 5) rfl)) (jWr_54 _ (List.mem_of_getElem? (i := 5) rfl))) rfl rfl rfl (by decide +kernel) ⟨by rw [← hR]; exact Nat.le_of_ble_eq_true rfl, by rw [← hR]; exact Nat.le_of_ble_eq_true rfl⟩) ⟨fun a U g mk q => by obtain ⟨q0, q1, q2, qK, q10, q11, q12⟩ := q; exact ⟨q0, q1, q2, jG.calling g mk a qK, q10, q11, q12⟩, hh.recv (C := RX14) (T := TX14) (N := 74) hB16 rfl (by decide) hg_r0 hK, fun U hU hW => ⟨rfl, hU, hh.2.1, hG.step hW hU hh.1, hg_r0, (hh.2.2.1.sub (L1 := [(r0, 16, 6, .int pf)]) [0] rfl), by first | omega | (refine ⟨?_, ?_⟩ <;> (first | omega | rfl | assumption | decide | exact Or.inl rfl | exact Or.inr rfl | (simp only; omega)))⟩⟩ rfl rfl hl.1 rfl (lv_room (Nat.le_of_ble_eq_true rfl)) dX14_utf8_106 ⟨Nat.zero_le _, Nat.zero_le _⟩) hh.1 (fun q _ h => h) (fun q h => h) (fun u_6 t_6 H_6 locs_6 ht_6 hvm_6 hr_7 hb_6 hz_6 hk_6 hS_6 => ?_)
        obtain ⟨qf_6, rfl⟩ : ∃ z, z = u_6 := ⟨_, rfl⟩
        rw [ht_6] at hb_6
        obtain ⟨hb_61, hb_62, hb_63, hb_64, hb_65⟩ := hb_6
        have hh_6 : jSt (dC, dI) B base G0 G0 EX14_utf8 s.heap 0 0 [(r0, 16, 6, .int qf_6)] [] [] H_6 locs_6 := ((hh.call hb_61 hb_62 hb_63 hb_64 hS_6 rfl (L1 := []) [] rfl rfl (M1 := []) [] rfl rfl (I1 := []) [] rfl rfl).more hb_65)
        clear hh ht_6 hvm_6 hz_6 hk_6 hS_6 hb_61 hb_62 hb_63 hb_64 hb_65
        obtain ⟨hr_7_0, hr_7_1⟩ := hr_7
        refine lv_aload_n hx hb dX14_utf8_109 rfl (lv_at hl 0 rfl) ?_
        refine lv_sipush (v := 128) hx hb dX14_utf8_110 (by decide) ?_
        refine lv_iload_n hx hb dX14_utf8_113 rfl (lv_at hl 1 rfl) ?_
        refine lv_bipush (v := 12) hx hb dX14_utf8_114 (by decide) ?_
        refine lv_ishr hx hb dX14_utf8_116 ?_
        refine lv_topi (fun z_8 ez_8 => ?_)
        have hz_8 : z_8.toInt = a1.toInt / 2 ^ 12 := by rw [ez_8]; exact jb_ishr 12 (rfl) (by decide)
        refine lv_bipush (v := 63) hx hb dX14_utf8_117 (by decide) ?_
        refine lv_iand hx hb dX14_utf8_119 ?_
        refine lv_topi (fun z_9 ez_9 => ?_)
        have hz_9 : 0 ≤ z_9.toInt ∧ z_9.toInt ≤ 63 := by rw [ez_9]; exact jb_and z_8 (m := 63) (k := 6) (by decide) (by decide)
        refine lv_ior hx hb dX14_utf8_120 ?_
        refine lv_topi (fun z_10 ez_10 => ?_)
        refine va_callv (A0 := jA base) (H0 := s.heap) (va_runV (As := [.int z_10]) (rest := []) ⟨hx, hb, hml, hown, hts⟩ (uX14_put l dC dI ca base B hB hAp hB16 hB101 G0 H_6 r0 z_10 qf_6) (cwV 1 hts (jgV (jWr_54 _ (List.mem_of_getElem? (i := 2) rfl)) (jWr_54 _ (List.mem_of_getElem? (i := 3) rfl)) (jWr_54 _ (List.mem_of_getElem? (i := 4) rfl)) (jWr_1 _ (List.mem_of_getElem? (i := 5) rfl)) (jWr_54 _ (List.mem_of_getElem? (i := 5) rfl))) rfl rfl rfl (by decide +kernel) ⟨by rw [← hR]; exact Nat.le_of_ble_eq_true rfl, by rw [← hR]; exact Nat.le_of_ble_eq_true rfl⟩) ⟨fun a U g mk q => by obtain ⟨q0, q1, q2, qK, q10, q11, q12⟩ := q; exact ⟨q0, q1, q2, jG.calling g mk a qK, q10, q11, q12⟩, hh_6.recv (C := RX14) (T := TX14) (N := 74) hB16 rfl (by decide) hg_r0 hK, fun U hU hW => ⟨rfl, hU, hh_6.2.1, hG.step hW hU hh_6.1, hg_r0, (hh_6.2.2.1.sub (L1 := [(r0, 16, 6, .int qf_6)]) [0] rfl), by first | omega | (refine ⟨?_, ?_⟩ <;> (first | omega | rfl | assumption | decide | exact Or.inl rfl | exact Or.inr rfl | (simp only; omega)))⟩⟩ rfl rfl hl.1 rfl (lv_room (Nat.le_of_ble_eq_true rfl)) dX14_utf8_121 ⟨Nat.zero_le _, Nat.zero_le _⟩) hh_6.1 (fun q _ h => h) (fun q h => h) (fun u_11 t_11 H_11 locs_11 ht_11 hvm_11 hr_12 hb_11 hz_11 hk_11 hS_11 => ?_)
        obtain ⟨qf_11, rfl⟩ : ∃ z, z = u_11 := ⟨_, rfl⟩
        rw [ht_11] at hb_11
        obtain ⟨hb_111, hb_112, hb_113, hb_114, hb_115⟩ := hb_11
        have hh_11 : jSt (dC, dI) B base G0 G0 EX14_utf8 s.heap 0 0 [(r0, 16, 6, .int qf_11)] [] [] H_11 locs_11 := ((hh_6.call hb_111 hb_112 hb_113 hb_114 hS_11 rfl (L1 := []) [] rfl rfl (M1 := []) [] rfl rfl (I1 := []) [] rfl rfl).more hb_115)
        clear hh_6 ht_11 hvm_11 hz_11 hk_11 hS_11 hb_111 hb_112 hb_113 hb_114 hb_115
        obtain ⟨hr_12_0, hr_12_1⟩ := hr_12
        refine lv_aload_n hx hb dX14_utf8_124 rfl (lv_at hl 0 rfl) ?_
        refine lv_sipush (v := 128) hx hb dX14_utf8_125 (by decide) ?_
        refine lv_iload_n hx hb dX14_utf8_128 rfl (lv_at hl 1 rfl) ?_
        refine lv_bipush (v := 6) hx hb dX14_utf8_129 (by decide) ?_
        refine lv_ishr hx hb dX14_utf8_131 ?_
        refine lv_topi (fun z_13 ez_13 => ?_)
        have hz_13 : z_13.toInt = a1.toInt / 2 ^ 6 := by rw [ez_13]; exact jb_ishr 6 (rfl) (by decide)
        refine lv_bipush (v := 63) hx hb dX14_utf8_132 (by decide) ?_
        refine lv_iand hx hb dX14_utf8_134 ?_
        refine lv_topi (fun z_14 ez_14 => ?_)
        have hz_14 : 0 ≤ z_14.toInt ∧ z_14.toInt ≤ 63 := by rw [ez_14]; exact jb_and z_13 (m := 63) (k := 6) (by decide) (by decide)
        refine lv_ior hx hb dX14_utf8_135 ?_
        refine lv_topi (fun z_15 ez_15 => ?_)
        refine va_callv (A0 := jA base) (H0 := s.heap) (va_runV (As := [.int z_15]) (rest := []) ⟨hx, hb, hml, hown, hts⟩ (uX14_put l dC dI ca base B hB hAp hB16 hB101 G0 H_11 r0 z_15 qf_11) (cwV 1 hts (jgV (jWr_54 _ (List.mem_of_getElem? (i := 2) rfl)) (jWr_54 _ (List.mem_of_getElem? (i := 3) rfl)) (jWr_54 _ (List.mem_of_getElem? (i := 4) rfl)) (jWr_1 _ (List.mem_of_getElem? (i := 5) rfl)) (jWr_54 _ (List.mem_of_getElem? (i := 5) rfl))) rfl rfl rfl (by decide +kernel) ⟨by rw [← hR]; exact Nat.le_of_ble_eq_true rfl, by rw [← hR]; exact Nat.le_of_ble_eq_true rfl⟩) ⟨fun a U g mk q => by obtain ⟨q0, q1, q2, qK, q10, q11, q12⟩ := q; exact ⟨q0, q1, q2, jG.calling g mk a qK, q10, q11, q12⟩, hh_11.recv (C := RX14) (T := TX14) (N := 74) hB16 rfl (by decide) hg_r0 hK, fun U hU hW => ⟨rfl, hU, hh_11.2.1, hG.step hW hU hh_11.1, hg_r0, (hh_11.2.2.1.sub (L1 := [(r0, 16, 6, .int qf_11)]) [0] rfl), by first | omega | (refine ⟨?_, ?_⟩ <;> (first | omega | rfl | assumption | decide | exact Or.inl rfl | exact Or.inr rfl | (simp only; omega)))⟩⟩ rfl rfl hl.1 rfl (lv_room (Nat.le_of_ble_eq_true rfl)) dX14_utf8_136 ⟨Nat.zero_le _, Nat.zero_le _⟩) hh_11.1 (fun q _ h => h) (fun q h => h) (fun u_16 t_16 H_16 locs_16 ht_16 hvm_16 hr_17 hb_16 hz_16 hk_16 hS_16 => ?_)
        obtain ⟨qf_16, rfl⟩ : ∃ z, z = u_16 := ⟨_, rfl⟩
        rw [ht_16] at hb_16
        obtain ⟨hb_161, hb_162, hb_163, hb_164, hb_165⟩ := hb_16
        have hh_16 : jSt (dC, dI) B base G0 G0 EX14_utf8 s.heap 0 0 [(r0, 16, 6, .int qf_16)] [] [] H_16 locs_16 := ((hh_11.call hb_161 hb_162 hb_163 hb_164 hS_16 rfl (L1 := []) [] rfl rfl (M1 := []) [] rfl rfl (I1 := []) [] rfl rfl).more hb_165)
        clear hh_11 ht_16 hvm_16 hz_16 hk_16 hS_16 hb_161 hb_162 hb_163 hb_164 hb_165
        obtain ⟨hr_17_0, hr_17_1⟩ := hr_17
        refine lv_aload_n hx hb dX14_utf8_139 rfl (lv_at hl 0 rfl) ?_
        refine lv_sipush (v := 128) hx hb dX14_utf8_140 (by decide) ?_
        refine lv_iload_n hx hb dX14_utf8_143 rfl (lv_at hl 1 rfl) ?_
        refine lv_bipush (v := 63) hx hb dX14_utf8_144 (by decide) ?_
        refine lv_iand hx hb dX14_utf8_146 ?_
        refine lv_topi (fun z_18 ez_18 => ?_)
        have hz_18 : 0 ≤ z_18.toInt ∧ z_18.toInt ≤ 63 := by rw [ez_18]; exact jb_and a1 (m := 63) (k := 6) (by decide) (by decide)
        refine lv_ior hx hb dX14_utf8_147 ?_
        refine lv_topi (fun z_19 ez_19 => ?_)
        refine va_callv (A0 := jA base) (H0 := s.heap) (va_runV (As := [.int z_19]) (rest := []) ⟨hx, hb, hml, hown, hts⟩ (uX14_put l dC dI ca base B hB hAp hB16 hB101 G0 H_16 r0 z_19 qf_16) (cwV 1 hts (jgV (jWr_54 _ (List.mem_of_getElem? (i := 2) rfl)) (jWr_54 _ (List.mem_of_getElem? (i := 3) rfl)) (jWr_54 _ (List.mem_of_getElem? (i := 4) rfl)) (jWr_1 _ (List.mem_of_getElem? (i := 5) rfl)) (jWr_54 _ (List.mem_of_getElem? (i := 5) rfl))) rfl rfl rfl (by decide +kernel) ⟨by rw [← hR]; exact Nat.le_of_ble_eq_true rfl, by rw [← hR]; exact Nat.le_of_ble_eq_true rfl⟩) ⟨fun a U g mk q => by obtain ⟨q0, q1, q2, qK, q10, q11, q12⟩ := q; exact ⟨q0, q1, q2, jG.calling g mk a qK, q10, q11, q12⟩, hh_16.recv (C := RX14) (T := TX14) (N := 74) hB16 rfl (by decide) hg_r0 hK, fun U hU hW => ⟨rfl, hU, hh_16.2.1, hG.step hW hU hh_16.1, hg_r0, (hh_16.2.2.1.sub (L1 := [(r0, 16, 6, .int qf_16)]) [0] rfl), by first | omega | (refine ⟨?_, ?_⟩ <;> (first | omega | rfl | assumption | decide | exact Or.inl rfl | exact Or.inr rfl | (simp only; omega)))⟩⟩ rfl rfl hl.1 rfl (lv_room (Nat.le_of_ble_eq_true rfl)) dX14_utf8_148 ⟨Nat.zero_le _, Nat.zero_le _⟩) hh_16.1 (fun q _ h => h) (fun q h => h) (fun u_20 t_20 H_20 locs_20 ht_20 hvm_20 hr_21 hb_20 hz_20 hk_20 hS_20 => ?_)
        obtain ⟨qf_20, rfl⟩ : ∃ z, z = u_20 := ⟨_, rfl⟩
        rw [ht_20] at hb_20
        obtain ⟨hb_201, hb_202, hb_203, hb_204, hb_205⟩ := hb_20
        have hh_20 : jSt (dC, dI) B base G0 G0 EX14_utf8 s.heap 0 0 [(r0, 16, 6, .int qf_20)] [] [] H_20 locs_20 := ((hh_16.call hb_201 hb_202 hb_203 hb_204 hS_20 rfl (L1 := []) [] rfl rfl (M1 := []) [] rfl rfl (I1 := []) [] rfl rfl).more hb_205)
        clear hh_16 ht_20 hvm_20 hz_20 hk_20 hS_20 hb_201 hb_202 hb_203 hb_204 hb_205
        obtain ⟨hr_21_0, hr_21_1⟩ := hr_21
        rw [hQ]
        exact W.vret hx hb hr (fun t ht hW => ⟨⟨qf_20, rfl, by first | omega | (refine ⟨?_, ?_⟩ <;> (first | omega | rfl | assumption | decide | exact Or.inl rfl | exact Or.inr rfl | (simp only; omega))), hh_20.rt (M1 := [(r0, 16, 6, .int qf_20)]) [0] rfl ht⟩, by rw [ht]; try exact hh_20.1.1, fun q h9 hq => by rw [ht]; try exact hh_20.1.2.1 q h9 hq⟩) hh_20.1.2.2 dX14_utf8_151
      · skip
        have c_3' : a1.toInt < 65536 := jb_ge_n (rfl) ((by decide)) c_3
        refine lv_aload_n hx hb dX14_utf8_55 rfl (lv_at hl 0 rfl) ?_
        refine lv_sipush (v := 224) hx hb dX14_utf8_56 (by decide) ?_
        refine lv_iload_n hx hb dX14_utf8_59 rfl (lv_at hl 1 rfl) ?_
        refine lv_bipush (v := 12) hx hb dX14_utf8_60 (by decide) ?_
        refine lv_ishr hx hb dX14_utf8_62 ?_
        refine lv_topi (fun z_22 ez_22 => ?_)
        have hz_22 : z_22.toInt = a1.toInt / 2 ^ 12 := by rw [ez_22]; exact jb_ishr 12 (rfl) (by decide)
        refine lv_ior hx hb dX14_utf8_63 ?_
        refine lv_topi (fun z_23 ez_23 => ?_)
        refine va_callv (A0 := jA base) (H0 := s.heap) (va_runV (As := [.int z_23]) (rest := []) ⟨hx, hb, hml, hown, hts⟩ (uX14_put l dC dI ca base B hB hAp hB16 hB101 G0 s.heap r0 z_23 pf) (cwV 1 hts (jgV (jWr_54 _ (List.mem_of_getElem? (i := 2) rfl)) (jWr_54 _ (List.mem_of_getElem? (i := 3) rfl)) (jWr_54 _ (List.mem_of_getElem? (i := 4) rfl)) (jWr_1 _ (List.mem_of_getElem? (i := 5) rfl)) (jWr_54 _ (List.mem_of_getElem? (i := 5) rfl))) rfl rfl rfl (by decide +kernel) ⟨by rw [← hR]; exact Nat.le_of_ble_eq_true rfl, by rw [← hR]; exact Nat.le_of_ble_eq_true rfl⟩) ⟨fun a U g mk q => by obtain ⟨q0, q1, q2, qK, q10, q11, q12⟩ := q; exact ⟨q0, q1, q2, jG.calling g mk a qK, q10, q11, q12⟩, hh.recv (C := RX14) (T := TX14) (N := 74) hB16 rfl (by decide) hg_r0 hK, fun U hU hW => ⟨rfl, hU, hh.2.1, hG.step hW hU hh.1, hg_r0, (hh.2.2.1.sub (L1 := [(r0, 16, 6, .int pf)]) [0] rfl), by first | omega | (refine ⟨?_, ?_⟩ <;> (first | omega | rfl | assumption | decide | exact Or.inl rfl | exact Or.inr rfl | (simp only; omega)))⟩⟩ rfl rfl hl.1 rfl (lv_room (Nat.le_of_ble_eq_true rfl)) dX14_utf8_64 ⟨Nat.zero_le _, Nat.zero_le _⟩) hh.1 (fun q _ h => h) (fun q h => h) (fun u_24 t_24 H_24 locs_24 ht_24 hvm_24 hr_25 hb_24 hz_24 hk_24 hS_24 => ?_)
        obtain ⟨qf_24, rfl⟩ : ∃ z, z = u_24 := ⟨_, rfl⟩
        rw [ht_24] at hb_24
        obtain ⟨hb_241, hb_242, hb_243, hb_244, hb_245⟩ := hb_24
        have hh_24 : jSt (dC, dI) B base G0 G0 EX14_utf8 s.heap 0 0 [(r0, 16, 6, .int qf_24)] [] [] H_24 locs_24 := ((hh.call hb_241 hb_242 hb_243 hb_244 hS_24 rfl (L1 := []) [] rfl rfl (M1 := []) [] rfl rfl (I1 := []) [] rfl rfl).more hb_245)
        clear hh ht_24 hvm_24 hz_24 hk_24 hS_24 hb_241 hb_242 hb_243 hb_244 hb_245
        obtain ⟨hr_25_0, hr_25_1⟩ := hr_25
        refine lv_aload_n hx hb dX14_utf8_67 rfl (lv_at hl 0 rfl) ?_
        refine lv_sipush (v := 128) hx hb dX14_utf8_68 (by decide) ?_
        refine lv_iload_n hx hb dX14_utf8_71 rfl (lv_at hl 1 rfl) ?_
        refine lv_bipush (v := 6) hx hb dX14_utf8_72 (by decide) ?_
        refine lv_ishr hx hb dX14_utf8_74 ?_
        refine lv_topi (fun z_26 ez_26 => ?_)
        have hz_26 : z_26.toInt = a1.toInt / 2 ^ 6 := by rw [ez_26]; exact jb_ishr 6 (rfl) (by decide)
        refine lv_bipush (v := 63) hx hb dX14_utf8_75 (by decide) ?_
        refine lv_iand hx hb dX14_utf8_77 ?_
        refine lv_topi (fun z_27 ez_27 => ?_)
        have hz_27 : 0 ≤ z_27.toInt ∧ z_27.toInt ≤ 63 := by rw [ez_27]; exact jb_and z_26 (m := 63) (k := 6) (by decide) (by decide)
        refine lv_ior hx hb dX14_utf8_78 ?_
        refine lv_topi (fun z_28 ez_28 => ?_)
        refine va_callv (A0 := jA base) (H0 := s.heap) (va_runV (As := [.int z_28]) (rest := []) ⟨hx, hb, hml, hown, hts⟩ (uX14_put l dC dI ca base B hB hAp hB16 hB101 G0 H_24 r0 z_28 qf_24) (cwV 1 hts (jgV (jWr_54 _ (List.mem_of_getElem? (i := 2) rfl)) (jWr_54 _ (List.mem_of_getElem? (i := 3) rfl)) (jWr_54 _ (List.mem_of_getElem? (i := 4) rfl)) (jWr_1 _ (List.mem_of_getElem? (i := 5) rfl)) (jWr_54 _ (List.mem_of_getElem? (i := 5) rfl))) rfl rfl rfl (by decide +kernel) ⟨by rw [← hR]; exact Nat.le_of_ble_eq_true rfl, by rw [← hR]; exact Nat.le_of_ble_eq_true rfl⟩) ⟨fun a U g mk q => by obtain ⟨q0, q1, q2, qK, q10, q11, q12⟩ := q; exact ⟨q0, q1, q2, jG.calling g mk a qK, q10, q11, q12⟩, hh_24.recv (C := RX14) (T := TX14) (N := 74) hB16 rfl (by decide) hg_r0 hK, fun U hU hW => ⟨rfl, hU, hh_24.2.1, hG.step hW hU hh_24.1, hg_r0, (hh_24.2.2.1.sub (L1 := [(r0, 16, 6, .int qf_24)]) [0] rfl), by first | omega | (refine ⟨?_, ?_⟩ <;> (first | omega | rfl | assumption | decide | exact Or.inl rfl | exact Or.inr rfl | (simp only; omega)))⟩⟩ rfl rfl hl.1 rfl (lv_room (Nat.le_of_ble_eq_true rfl)) dX14_utf8_79 ⟨Nat.zero_le _, Nat.zero_le _⟩) hh_24.1 (fun q _ h => h) (fun q h => h) (fun u_29 t_29 H_29 locs_29 ht_29 hvm_29 hr_30 hb_29 hz_29 hk_29 hS_29 => ?_)
        obtain ⟨qf_29, rfl⟩ : ∃ z, z = u_29 := ⟨_, rfl⟩
        rw [ht_29] at hb_29
        obtain ⟨hb_291, hb_292, hb_293, hb_294, hb_295⟩ := hb_29
        have hh_29 : jSt (dC, dI) B base G0 G0 EX14_utf8 s.heap 0 0 [(r0, 16, 6, .int qf_29)] [] [] H_29 locs_29 := ((hh_24.call hb_291 hb_292 hb_293 hb_294 hS_29 rfl (L1 := []) [] rfl rfl (M1 := []) [] rfl rfl (I1 := []) [] rfl rfl).more hb_295)
        clear hh_24 ht_29 hvm_29 hz_29 hk_29 hS_29 hb_291 hb_292 hb_293 hb_294 hb_295
        obtain ⟨hr_30_0, hr_30_1⟩ := hr_30
        refine lv_aload_n hx hb dX14_utf8_82 rfl (lv_at hl 0 rfl) ?_
        refine lv_sipush (v := 128) hx hb dX14_utf8_83 (by decide) ?_
        refine lv_iload_n hx hb dX14_utf8_86 rfl (lv_at hl 1 rfl) ?_
        refine lv_bipush (v := 63) hx hb dX14_utf8_87 (by decide) ?_
        refine lv_iand hx hb dX14_utf8_89 ?_
        refine lv_topi (fun z_31 ez_31 => ?_)
        have hz_31 : 0 ≤ z_31.toInt ∧ z_31.toInt ≤ 63 := by rw [ez_31]; exact jb_and a1 (m := 63) (k := 6) (by decide) (by decide)
        refine lv_ior hx hb dX14_utf8_90 ?_
        refine lv_topi (fun z_32 ez_32 => ?_)
        refine va_callv (A0 := jA base) (H0 := s.heap) (va_runV (As := [.int z_32]) (rest := []) ⟨hx, hb, hml, hown, hts⟩ (uX14_put l dC dI ca base B hB hAp hB16 hB101 G0 H_29 r0 z_32 qf_29) (cwV 1 hts (jgV (jWr_54 _ (List.mem_of_getElem? (i := 2) rfl)) (jWr_54 _ (List.mem_of_getElem? (i := 3) rfl)) (jWr_54 _ (List.mem_of_getElem? (i := 4) rfl)) (jWr_1 _ (List.mem_of_getElem? (i := 5) rfl)) (jWr_54 _ (List.mem_of_getElem? (i := 5) rfl))) rfl rfl rfl (by decide +kernel) ⟨by rw [← hR]; exact Nat.le_of_ble_eq_true rfl, by rw [← hR]; exact Nat.le_of_ble_eq_true rfl⟩) ⟨fun a U g mk q => by obtain ⟨q0, q1, q2, qK, q10, q11, q12⟩ := q; exact ⟨q0, q1, q2, jG.calling g mk a qK, q10, q11, q12⟩, hh_29.recv (C := RX14) (T := TX14) (N := 74) hB16 rfl (by decide) hg_r0 hK, fun U hU hW => ⟨rfl, hU, hh_29.2.1, hG.step hW hU hh_29.1, hg_r0, (hh_29.2.2.1.sub (L1 := [(r0, 16, 6, .int qf_29)]) [0] rfl), by first | omega | (refine ⟨?_, ?_⟩ <;> (first | omega | rfl | assumption | decide | exact Or.inl rfl | exact Or.inr rfl | (simp only; omega)))⟩⟩ rfl rfl hl.1 rfl (lv_room (Nat.le_of_ble_eq_true rfl)) dX14_utf8_91 ⟨Nat.zero_le _, Nat.zero_le _⟩) hh_29.1 (fun q _ h => h) (fun q h => h) (fun u_33 t_33 H_33 locs_33 ht_33 hvm_33 hr_34 hb_33 hz_33 hk_33 hS_33 => ?_)
        obtain ⟨qf_33, rfl⟩ : ∃ z, z = u_33 := ⟨_, rfl⟩
        rw [ht_33] at hb_33
        obtain ⟨hb_331, hb_332, hb_333, hb_334, hb_335⟩ := hb_33
        have hh_33 : jSt (dC, dI) B base G0 G0 EX14_utf8 s.heap 0 0 [(r0, 16, 6, .int qf_33)] [] [] H_33 locs_33 := ((hh_29.call hb_331 hb_332 hb_333 hb_334 hS_33 rfl (L1 := []) [] rfl rfl (M1 := []) [] rfl rfl (I1 := []) [] rfl rfl).more hb_335)
        clear hh_29 ht_33 hvm_33 hz_33 hk_33 hS_33 hb_331 hb_332 hb_333 hb_334 hb_335
        obtain ⟨hr_34_0, hr_34_1⟩ := hr_34
        refine lv_goto (tgt := 151) hx hb dX14_utf8_94 (by decide) ?_
        rw [hQ]
        exact W.vret hx hb hr (fun t ht hW => ⟨⟨qf_33, rfl, by first | omega | (refine ⟨?_, ?_⟩ <;> (first | omega | rfl | assumption | decide | exact Or.inl rfl | exact Or.inr rfl | (simp only; omega))), hh_33.rt (M1 := [(r0, 16, 6, .int qf_33)]) [0] rfl ht⟩, by rw [ht]; try exact hh_33.1.1, fun q h9 hq => by rw [ht]; try exact hh_33.1.2.1 q h9 hq⟩) hh_33.1.2.2 dX14_utf8_151
    · skip
      have c_2' : a1.toInt < 2048 := jb_ge_n (rfl) ((by decide)) c_2
      refine lv_aload_n hx hb dX14_utf8_22 rfl (lv_at hl 0 rfl) ?_
      refine lv_sipush (v := 192) hx hb dX14_utf8_23 (by decide) ?_
      refine lv_iload_n hx hb dX14_utf8_26 rfl (lv_at hl 1 rfl) ?_
      refine lv_bipush (v := 6) hx hb dX14_utf8_27 (by decide) ?_
      refine lv_ishr hx hb dX14_utf8_29 ?_
      refine lv_topi (fun z_35 ez_35 => ?_)
      have hz_35 : z_35.toInt = a1.toInt / 2 ^ 6 := by rw [ez_35]; exact jb_ishr 6 (rfl) (by decide)
      refine lv_ior hx hb dX14_utf8_30 ?_
      refine lv_topi (fun z_36 ez_36 => ?_)
      refine va_callv (A0 := jA base) (H0 := s.heap) (va_runV (As := [.int z_36]) (rest := []) ⟨hx, hb, hml, hown, hts⟩ (uX14_put l dC dI ca base B hB hAp hB16 hB101 G0 s.heap r0 z_36 pf) (cwV 1 hts (jgV (jWr_54 _ (List.mem_of_getElem? (i := 2) rfl)) (jWr_54 _ (List.mem_of_getElem? (i := 3) rfl)) (jWr_54 _ (List.mem_of_getElem? (i := 4) rfl)) (jWr_1 _ (List.mem_of_getElem? (i := 5) rfl)) (jWr_54 _ (List.mem_of_getElem? (i := 5) rfl))) rfl rfl rfl (by decide +kernel) ⟨by rw [← hR]; exact Nat.le_of_ble_eq_true rfl, by rw [← hR]; exact Nat.le_of_ble_eq_true rfl⟩) ⟨fun a U g mk q => by obtain ⟨q0, q1, q2, qK, q10, q11, q12⟩ := q; exact ⟨q0, q1, q2, jG.calling g mk a qK, q10, q11, q12⟩, hh.recv (C := RX14) (T := TX14) (N := 74) hB16 rfl (by decide) hg_r0 hK, fun U hU hW => ⟨rfl, hU, hh.2.1, hG.step hW hU hh.1, hg_r0, (hh.2.2.1.sub (L1 := [(r0, 16, 6, .int pf)]) [0] rfl), by first | omega | (refine ⟨?_, ?_⟩ <;> (first | omega | rfl | assumption | decide | exact Or.inl rfl | exact Or.inr rfl | (simp only; omega)))⟩⟩ rfl rfl hl.1 rfl (lv_room (Nat.le_of_ble_eq_true rfl)) dX14_utf8_31 ⟨Nat.zero_le _, Nat.zero_le _⟩) hh.1 (fun q _ h => h) (fun q h => h) (fun u_37 t_37 H_37 locs_37 ht_37 hvm_37 hr_38 hb_37 hz_37 hk_37 hS_37 => ?_)
      obtain ⟨qf_37, rfl⟩ : ∃ z, z = u_37 := ⟨_, rfl⟩
      rw [ht_37] at hb_37
      obtain ⟨hb_371, hb_372, hb_373, hb_374, hb_375⟩ := hb_37
      have hh_37 : jSt (dC, dI) B base G0 G0 EX14_utf8 s.heap 0 0 [(r0, 16, 6, .int qf_37)] [] [] H_37 locs_37 := ((hh.call hb_371 hb_372 hb_373 hb_374 hS_37 rfl (L1 := []) [] rfl rfl (M1 := []) [] rfl rfl (I1 := []) [] rfl rfl).more hb_375)
      clear hh ht_37 hvm_37 hz_37 hk_37 hS_37 hb_371 hb_372 hb_373 hb_374 hb_375
      obtain ⟨hr_38_0, hr_38_1⟩ := hr_38
      refine lv_aload_n hx hb dX14_utf8_34 rfl (lv_at hl 0 rfl) ?_
      refine lv_sipush (v := 128) hx hb dX14_utf8_35 (by decide) ?_
      refine lv_iload_n hx hb dX14_utf8_38 rfl (lv_at hl 1 rfl) ?_
      refine lv_bipush (v := 63) hx hb dX14_utf8_39 (by decide) ?_
      refine lv_iand hx hb dX14_utf8_41 ?_
      refine lv_topi (fun z_39 ez_39 => ?_)
      have hz_39 : 0 ≤ z_39.toInt ∧ z_39.toInt ≤ 63 := by rw [ez_39]; exact jb_and a1 (m := 63) (k := 6) (by decide) (by decide)
      refine lv_ior hx hb dX14_utf8_42 ?_
      refine lv_topi (fun z_40 ez_40 => ?_)
      refine va_callv (A0 := jA base) (H0 := s.heap) (va_runV (As := [.int z_40]) (rest := []) ⟨hx, hb, hml, hown, hts⟩ (uX14_put l dC dI ca base B hB hAp hB16 hB101 G0 H_37 r0 z_40 qf_37) (cwV 1 hts (jgV (jWr_54 _ (List.mem_of_getElem? (i := 2) rfl)) (jWr_54 _ (List.mem_of_getElem? (i := 3) rfl)) (jWr_54 _ (List.mem_of_getElem? (i := 4) rfl)) (jWr_1 _ (List.mem_of_getElem? (i := 5) rfl)) (jWr_54 _ (List.mem_of_getElem? (i := 5) rfl))) rfl rfl rfl (by decide +kernel) ⟨by rw [← hR]; exact Nat.le_of_ble_eq_true rfl, by rw [← hR]; exact Nat.le_of_ble_eq_true rfl⟩) ⟨fun a U g mk q => by obtain ⟨q0, q1, q2, qK, q10, q11, q12⟩ := q; exact ⟨q0, q1, q2, jG.calling g mk a qK, q10, q11, q12⟩, hh_37.recv (C := RX14) (T := TX14) (N := 74) hB16 rfl (by decide) hg_r0 hK, fun U hU hW => ⟨rfl, hU, hh_37.2.1, hG.step hW hU hh_37.1, hg_r0, (hh_37.2.2.1.sub (L1 := [(r0, 16, 6, .int qf_37)]) [0] rfl), by first | omega | (refine ⟨?_, ?_⟩ <;> (first | omega | rfl | assumption | decide | exact Or.inl rfl | exact Or.inr rfl | (simp only; omega)))⟩⟩ rfl rfl hl.1 rfl (lv_room (Nat.le_of_ble_eq_true rfl)) dX14_utf8_43 ⟨Nat.zero_le _, Nat.zero_le _⟩) hh_37.1 (fun q _ h => h) (fun q h => h) (fun u_41 t_41 H_41 locs_41 ht_41 hvm_41 hr_42 hb_41 hz_41 hk_41 hS_41 => ?_)
      obtain ⟨qf_41, rfl⟩ : ∃ z, z = u_41 := ⟨_, rfl⟩
      rw [ht_41] at hb_41
      obtain ⟨hb_411, hb_412, hb_413, hb_414, hb_415⟩ := hb_41
      have hh_41 : jSt (dC, dI) B base G0 G0 EX14_utf8 s.heap 0 0 [(r0, 16, 6, .int qf_41)] [] [] H_41 locs_41 := ((hh_37.call hb_411 hb_412 hb_413 hb_414 hS_41 rfl (L1 := []) [] rfl rfl (M1 := []) [] rfl rfl (I1 := []) [] rfl rfl).more hb_415)
      clear hh_37 ht_41 hvm_41 hz_41 hk_41 hS_41 hb_411 hb_412 hb_413 hb_414 hb_415
      obtain ⟨hr_42_0, hr_42_1⟩ := hr_42
      refine lv_goto (tgt := 151) hx hb dX14_utf8_46 (by decide) ?_
      rw [hQ]
      exact W.vret hx hb hr (fun t ht hW => ⟨⟨qf_41, rfl, by first | omega | (refine ⟨?_, ?_⟩ <;> (first | omega | rfl | assumption | decide | exact Or.inl rfl | exact Or.inr rfl | (simp only; omega))), hh_41.rt (M1 := [(r0, 16, 6, .int qf_41)]) [0] rfl ht⟩, by rw [ht]; try exact hh_41.1.1, fun q h9 hq => by rw [ht]; try exact hh_41.1.2.1 q h9 hq⟩) hh_41.1.2.2 dX14_utf8_151
  · skip
    have c_1' : a1.toInt < 128 := jb_ge_n (rfl) ((by decide)) c_1
    refine lv_aload_n hx hb dX14_utf8_7 rfl (lv_at hl 0 rfl) ?_
    refine lv_iload_n hx hb dX14_utf8_8 rfl (lv_at hl 1 rfl) ?_
    refine va_callv (A0 := jA base) (H0 := s.heap) (va_runV (As := [.int a1]) (rest := []) ⟨hx, hb, hml, hown, hts⟩ (uX14_put l dC dI ca base B hB hAp hB16 hB101 G0 s.heap r0 a1 pf) (cwV 1 hts (jgV (jWr_54 _ (List.mem_of_getElem? (i := 2) rfl)) (jWr_54 _ (List.mem_of_getElem? (i := 3) rfl)) (jWr_54 _ (List.mem_of_getElem? (i := 4) rfl)) (jWr_1 _ (List.mem_of_getElem? (i := 5) rfl)) (jWr_54 _ (List.mem_of_getElem? (i := 5) rfl))) rfl rfl rfl (by decide +kernel) ⟨by rw [← hR]; exact Nat.le_of_ble_eq_true rfl, by rw [← hR]; exact Nat.le_of_ble_eq_true rfl⟩) ⟨fun a U g mk q => by obtain ⟨q0, q1, q2, qK, q10, q11, q12⟩ := q; exact ⟨q0, q1, q2, jG.calling g mk a qK, q10, q11, q12⟩, hh.recv (C := RX14) (T := TX14) (N := 74) hB16 rfl (by decide) hg_r0 hK, fun U hU hW => ⟨rfl, hU, hh.2.1, hG.step hW hU hh.1, hg_r0, (hh.2.2.1.sub (L1 := [(r0, 16, 6, .int pf)]) [0] rfl), by first | omega | (refine ⟨?_, ?_⟩ <;> (first | omega | rfl | assumption | decide | exact Or.inl rfl | exact Or.inr rfl | (simp only; omega)))⟩⟩ rfl rfl hl.1 rfl (lv_room (Nat.le_of_ble_eq_true rfl)) dX14_utf8_9 ⟨Nat.zero_le _, Nat.zero_le _⟩) hh.1 (fun q _ h => h) (fun q h => h) (fun u_43 t_43 H_43 locs_43 ht_43 hvm_43 hr_44 hb_43 hz_43 hk_43 hS_43 => ?_)
    obtain ⟨qf_43, rfl⟩ : ∃ z, z = u_43 := ⟨_, rfl⟩
    rw [ht_43] at hb_43
    obtain ⟨hb_431, hb_432, hb_433, hb_434, hb_435⟩ := hb_43
    have hh_43 : jSt (dC, dI) B base G0 G0 EX14_utf8 s.heap 0 0 [(r0, 16, 6, .int qf_43)] [] [] H_43 locs_43 := ((hh.call hb_431 hb_432 hb_433 hb_434 hS_43 rfl (L1 := []) [] rfl rfl (M1 := []) [] rfl rfl (I1 := []) [] rfl rfl).more hb_435)
    clear hh ht_43 hvm_43 hz_43 hk_43 hS_43 hb_431 hb_432 hb_433 hb_434 hb_435
    obtain ⟨hr_44_0, hr_44_1⟩ := hr_44
    refine lv_goto (tgt := 151) hx hb dX14_utf8_12 (by decide) ?_
    rw [hQ]
    exact W.vret hx hb hr (fun t ht hW => ⟨⟨qf_43, rfl, by first | omega | (refine ⟨?_, ?_⟩ <;> (first | omega | rfl | assumption | decide | exact Or.inl rfl | exact Or.inr rfl | (simp only; omega))), hh_43.rt (M1 := [(r0, 16, 6, .int qf_43)]) [0] rfl ht⟩, by rw [ht]; try exact hh_43.1.1, fun q h9 hq => by rw [ht]; try exact hh_43.1.2.1 q h9 hq⟩) hh_43.1.2.2 dX14_utf8_151
set_option maxHeartbeats 4000000 in
set_option maxRecDepth 20000 in
theorem uX14_text (l : Launch) (dC : Nat → ClassId) (dI : Nat → Nat → Nat) (ca : Nat → ClassId) (base : Nat) (B : jF) (hB : jBok B) (hAp : jAp (dC, dI)) (hB16 : ∀ n G a H, B 16 n G a H ↔ jOb (dC, dI) 16 74 (F16 n G) a H) (hB101 : ∀ n G a H, B 101 n G a H ↔ jAr (dC, dI) (ca 1) (fun j z => True) n a H) (G0 : jT) (H0 : Heap) (r0 : Nat) (r1 : Nat) (n1 : Nat) (pf : Int32) : Met l yX14_text (jw yX14_text cX14_text 2 none) ({ frames := 5, cells := 0, slots := 0, locals := 163 }) (va_Pc [.ref r0, .ref r1] (fun U => U.heap = H0 ∧ jX B base G0 [] H0 ∧ jG dC dI ca base U ∧ jStr base r1 n1 U H0 ∧ G0 r0 = some (16, 0) ∧ jP (dC, dI) G0 H0 [(r0, 16, 6, .int pf)] ∧ 0 ≤ pf.toInt ∧ pf.toInt ≤ 100000 ∧ n1 < 2147483648)) (va_Qv (S := Int32) (fun u => pf.toInt ≤ u.toInt ∧ u.toInt ≤ 100000) (fun u t => jRt (dC, dI) B base G0 EX14_text H0 [(r0, 16, 6, .int u)] t.heap) (jA base)) 0 0 (jA base) := by
  refine Met.ofW (cc := cX14_text) (maxL := 2) (ret := none) (by decide) rfl ?_
  intro p e s m args below meth c s₁ Bd hml hv
  obtain ⟨rfl, hH0, hX, hG, hstr_r1, hg_r0, hP0, hp0, hp1, hp2⟩ := hv
  have hK := hG.1
  have hx := Bd.exec
  have hb := Bd.bytes
  have hr := Bd.returns
  have hts := atoms_spec (ws := (jw yX14_text cX14_text 2 none)) Bd.pre
  have htw : ∀ w ∈ jWl, w.before _ s = true := fun w h => hts w (List.mem_cons_of_mem _ h)
  have hown : s.vm.findClass RX14 = some m.cls := findClass_of_methodNamed Bd.named
  have hlocks := Bd.notSynchronized
  obtain ⟨Q, hQ⟩ : ∃ Q, Q = MQ below (va_Qv (S := Int32) (fun u => pf.toInt ≤ u.toInt ∧ u.toInt ≤ 100000) (fun u t => jRt (dC, dI) B base G0 EX14_text H0 [(r0, 16, 6, .int u)] t.heap) (jA base)) ([.ref r0, .ref r1] : List Value).toArray s 0 0 (jA base) := ⟨_, rfl⟩
  rw [← hQ]
  have hl := lv_entry ([.ref r0, .ref r1]) (n := 2) (Nat.le_of_ble_eq_true rfl)
  rw [lg_entry_eq]
  generalize (lg_sl ([.ref r0, .ref r1]) ++ List.replicate (2 - (lg_sl ([.ref r0, .ref r1])).length) Slot.unset).toArray = ls at hl ⊢
  have hl : lv_has ls 2 [(0, .ref r0), (1, .ref r1)] := hl
  generalize hR : (headSpec (jw yX14_text cX14_text 2 none) ({ frames := 5, cells := 0, slots := 0, locals := 163 })).room = R
  subst hH0
  have hh : jSt (dC, dI) B base G0 G0 EX14_text s.heap 0 0 [(r0, 16, 6, .int pf)] [] [] s.heap [] := jSt.start hX hP0 jMc.nil jIs.nil
  clear hX hP0
  have hk0 : (0 : Int32).toInt = 0 := by decide
  have hk1 : (1 : Int32).toInt = 1 := by decide
  have hk34 : (34 : Int32).toInt = 34 := by decide
  refine lv_aload_n hx hb dX14_text_0 rfl (lv_at hl 0 rfl) ?_
  refine lv_bipush (v := 34) hx hb dX14_text_1 (by decide) ?_
  refine va_callv (A0 := jA base) (H0 := s.heap) (va_runV (As := [.int 34]) (rest := []) ⟨hx, hb, hml, hown, hts⟩ (uX14_put l dC dI ca base B hB hAp hB16 hB101 G0 s.heap r0 34 pf) (cwV 1 hts (jgV (jWr_54 _ (List.mem_of_getElem? (i := 2) rfl)) (jWr_54 _ (List.mem_of_getElem? (i := 3) rfl)) (jWr_54 _ (List.mem_of_getElem? (i := 4) rfl)) (jWr_1 _ (List.mem_of_getElem? (i := 5) rfl)) (jWr_54 _ (List.mem_of_getElem? (i := 5) rfl))) rfl rfl rfl (by decide +kernel) ⟨by rw [← hR]; exact Nat.le_of_ble_eq_true rfl, by rw [← hR]; exact Nat.le_of_ble_eq_true rfl⟩) ⟨fun a U g mk q => by obtain ⟨q0, q1, q2, qK, q10, q11, q12⟩ := q; exact ⟨q0, q1, q2, jG.calling g mk a qK, q10, q11, q12⟩, hh.recv (C := RX14) (T := TX14) (N := 74) hB16 rfl (by decide) hg_r0 hK, fun U hU hW => ⟨rfl, hU, hh.2.1, hG.step hW hU hh.1, hg_r0, (hh.2.2.1.sub (L1 := [(r0, 16, 6, .int pf)]) [0] rfl), by first | omega | (refine ⟨?_, ?_⟩ <;> (first | omega | rfl | assumption | decide | exact Or.inl rfl | exact Or.inr rfl | (simp only; omega)))⟩⟩ rfl rfl hl.1 rfl (lv_room (Nat.le_of_ble_eq_true rfl)) dX14_text_3 ⟨Nat.zero_le _, Nat.zero_le _⟩) hh.1 (fun q _ h => h) (fun q h => h) (fun u_1 t_1 H_1 locs_1 ht_1 hvm_1 hr_2 hb_1 hz_1 hk_1 hS_1 => ?_)
  obtain ⟨qf_1, rfl⟩ : ∃ z, z = u_1 := ⟨_, rfl⟩
  rw [ht_1] at hb_1
  obtain ⟨hb_11, hb_12, hb_13, hb_14, hb_15⟩ := hb_1
  have hh_1 : jSt (dC, dI) B base G0 G0 EX14_text s.heap 0 0 [(r0, 16, 6, .int qf_1)] [] [] H_1 locs_1 := ((hh.call hb_11 hb_12 hb_13 hb_14 hS_1 rfl (L1 := []) [] rfl rfl (M1 := []) [] rfl rfl (I1 := []) [] rfl rfl).more hb_15)
  clear hh ht_1 hvm_1 hz_1 hk_1 hS_1 hb_11 hb_12 hb_13 hb_14 hb_15
  obtain ⟨hr_2_0, hr_2_1⟩ := hr_2
  refine lv_aload_n hx hb dX14_text_6 rfl (lv_at hl 0 rfl) ?_
  refine lv_aload_n hx hb dX14_text_7 rfl (lv_at hl 1 rfl) ?_
  refine va_callv (A0 := jA base) (H0 := s.heap) (va_runV (As := [.ref r1]) (rest := []) ⟨hx, hb, hml, hown, hts⟩ (uX14_word l dC dI ca base B hB hAp hB16 hB101 G0 H_1 r0 r1 n1 qf_1) (cwV 1 hts (jgV (jWr_53 _ (List.mem_of_getElem? (i := 22) rfl)) (jWr_53 _ (List.mem_of_getElem? (i := 23) rfl)) (jWr_54 _ (List.mem_of_getElem? (i := 0) rfl)) (jWr_1 _ (List.mem_of_getElem? (i := 5) rfl)) (jWr_54 _ (List.mem_of_getElem? (i := 1) rfl))) rfl rfl rfl (by decide +kernel) ⟨by rw [← hR]; exact Nat.le_of_ble_eq_true rfl, by rw [← hR]; exact Nat.le_of_ble_eq_true rfl⟩) ⟨fun a U g mk q => by obtain ⟨q0, q1, q2, qK, q10, q11, q12, q13⟩ := q; exact ⟨q0, q1, q2, jG.calling g mk a qK, (q10.moved (Vm.Alike.refl U.vm)), q11, q12, q13⟩, hh_1.recv (C := RX14) (T := TX14) (N := 74) hB16 rfl (by decide) hg_r0 hK, fun U hU hW => ⟨rfl, hU, hh_1.2.1, hG.step hW hU hh_1.1, (hstr_r1.moved hW.alike).kept hh_1.1.2.1, hg_r0, (hh_1.2.2.1.sub (L1 := [(r0, 16, 6, .int qf_1)]) [0] rfl), by first | omega | (refine ⟨?_, ?_, ?_⟩ <;> (first | omega | rfl | assumption | decide | exact Or.inl rfl | exact Or.inr rfl | (simp only; omega)))⟩⟩ rfl rfl hl.1 rfl (lv_room (Nat.le_of_ble_eq_true rfl)) dX14_text_8 ⟨Nat.zero_le _, Nat.zero_le _⟩) hh_1.1 (fun q _ h => h) (fun q h => h) (fun u_3 t_3 H_3 locs_3 ht_3 hvm_3 hr_4 hb_3 hz_3 hk_3 hS_3 => ?_)
  obtain ⟨qf_3, rfl⟩ : ∃ z, z = u_3 := ⟨_, rfl⟩
  rw [ht_3] at hb_3
  obtain ⟨hb_31, hb_32, hb_33, hb_34, hb_35⟩ := hb_3
  have hh_3 : jSt (dC, dI) B base G0 G0 EX14_text s.heap 0 0 [(r0, 16, 6, .int qf_3)] [] [] H_3 locs_3 := ((hh_1.call hb_31 hb_32 hb_33 hb_34 hS_3 rfl (L1 := []) [] rfl rfl (M1 := []) [] rfl rfl (I1 := []) [] rfl rfl).more hb_35)
  clear hh_1 ht_3 hvm_3 hz_3 hk_3 hS_3 hb_31 hb_32 hb_33 hb_34 hb_35
  obtain ⟨hr_4_0, hr_4_1⟩ := hr_4
  refine lv_aload_n hx hb dX14_text_11 rfl (lv_at hl 0 rfl) ?_
  refine lv_bipush (v := 34) hx hb dX14_text_12 (by decide) ?_
  refine va_callv (A0 := jA base) (H0 := s.heap) (va_runV (As := [.int 34]) (rest := []) ⟨hx, hb, hml, hown, hts⟩ (uX14_put l dC dI ca base B hB hAp hB16 hB101 G0 H_3 r0 34 qf_3) (cwV 1 hts (jgV (jWr_54 _ (List.mem_of_getElem? (i := 2) rfl)) (jWr_54 _ (List.mem_of_getElem? (i := 3) rfl)) (jWr_54 _ (List.mem_of_getElem? (i := 4) rfl)) (jWr_1 _ (List.mem_of_getElem? (i := 5) rfl)) (jWr_54 _ (List.mem_of_getElem? (i := 5) rfl))) rfl rfl rfl (by decide +kernel) ⟨by rw [← hR]; exact Nat.le_of_ble_eq_true rfl, by rw [← hR]; exact Nat.le_of_ble_eq_true rfl⟩) ⟨fun a U g mk q => by obtain ⟨q0, q1, q2, qK, q10, q11, q12⟩ := q; exact ⟨q0, q1, q2, jG.calling g mk a qK, q10, q11, q12⟩, hh_3.recv (C := RX14) (T := TX14) (N := 74) hB16 rfl (by decide) hg_r0 hK, fun U hU hW => ⟨rfl, hU, hh_3.2.1, hG.step hW hU hh_3.1, hg_r0, (hh_3.2.2.1.sub (L1 := [(r0, 16, 6, .int qf_3)]) [0] rfl), by first | omega | (refine ⟨?_, ?_⟩ <;> (first | omega | rfl | assumption | decide | exact Or.inl rfl | exact Or.inr rfl | (simp only; omega)))⟩⟩ rfl rfl hl.1 rfl (lv_room (Nat.le_of_ble_eq_true rfl)) dX14_text_14 ⟨Nat.zero_le _, Nat.zero_le _⟩) hh_3.1 (fun q _ h => h) (fun q h => h) (fun u_5 t_5 H_5 locs_5 ht_5 hvm_5 hr_6 hb_5 hz_5 hk_5 hS_5 => ?_)
  obtain ⟨qf_5, rfl⟩ : ∃ z, z = u_5 := ⟨_, rfl⟩
  rw [ht_5] at hb_5
  obtain ⟨hb_51, hb_52, hb_53, hb_54, hb_55⟩ := hb_5
  have hh_5 : jSt (dC, dI) B base G0 G0 EX14_text s.heap 0 0 [(r0, 16, 6, .int qf_5)] [] [] H_5 locs_5 := ((hh_3.call hb_51 hb_52 hb_53 hb_54 hS_5 rfl (L1 := []) [] rfl rfl (M1 := []) [] rfl rfl (I1 := []) [] rfl rfl).more hb_55)
  clear hh_3 ht_5 hvm_5 hz_5 hk_5 hS_5 hb_51 hb_52 hb_53 hb_54 hb_55
  obtain ⟨hr_6_0, hr_6_1⟩ := hr_6
  rw [hQ]
  exact W.vret hx hb hr (fun t ht hW => ⟨⟨qf_5, rfl, by first | omega | (refine ⟨?_, ?_⟩ <;> (first | omega | rfl | assumption | decide | exact Or.inl rfl | exact Or.inr rfl | (simp only; omega))), hh_5.rt (M1 := [(r0, 16, 6, .int qf_5)]) [0] rfl ht⟩, by rw [ht]; try exact hh_5.1.1, fun q h9 hq => by rw [ht]; try exact hh_5.1.2.1 q h9 hq⟩) hh_5.1.2.2 dX14_text_17
set_option maxHeartbeats 4000000 in
set_option maxRecDepth 20000 in
theorem uX14_digitsOf (l : Launch) (dC : Nat → ClassId) (dI : Nat → Nat → Nat) (ca : Nat → ClassId) (base : Nat) (B : jF) (hB : jBok B) (hAp : jAp (dC, dI)) (hB16 : ∀ n G a H, B 16 n G a H ↔ jOb (dC, dI) 16 74 (F16 n G) a H) (hB101 : ∀ n G a H, B 101 n G a H ↔ jAr (dC, dI) (ca 1) (fun j z => True) n a H) (ef : Nat) (ih : ∀ e1, e1 < ef → qX14_digitsOf l dC dI ca base B e1) (G0 : jT) (H0 : Heap) (r0 : Nat) (a1 : Int32) (pf : Int32) : Met l yX14_digitsOf (jw yX14_digitsOf cX14_digitsOf 2 none) ({ frames := ef + 1, cells := 0, slots := 0, locals := 40 * ef + 60 }) (va_Pc [.ref r0, .int a1] (fun U => U.heap = H0 ∧ jX B base G0 [] H0 ∧ jG dC dI ca base U ∧ G0 r0 = some (16, 0) ∧ jP (dC, dI) G0 H0 [(r0, 16, 6, .int pf)] ∧ 0 ≤ pf.toInt ∧ pf.toInt ≤ 100000 ∧ a1.toInt ≤ 0 ∧ -a1.toInt < jpw ef)) (va_Qv (S := Int32) (fun u => pf.toInt ≤ u.toInt ∧ u.toInt ≤ 100000) (fun u t => jRt (dC, dI) B base G0 EX14_digitsOf H0 [(r0, 16, 6, .int u)] t.heap) (jA base)) 0 0 (jA base) := by
  refine Met.ofW (cc := cX14_digitsOf) (maxL := 2) (ret := none) (by decide) rfl ?_
  intro p e s m args below meth c s₁ Bd hml hv
  obtain ⟨rfl, hH0, hX, hG, hg_r0, hP0, hp0, hp1, hp2, hp3⟩ := hv
  have hK := hG.1
  have hx := Bd.exec
  have hb := Bd.bytes
  have hr := Bd.returns
  have hts := atoms_spec (ws := (jw yX14_digitsOf cX14_digitsOf 2 none)) Bd.pre
  have htw : ∀ w ∈ jWl, w.before _ s = true := fun w h => hts w (List.mem_cons_of_mem _ h)
  have hown : s.vm.findClass RX14 = some m.cls := findClass_of_methodNamed Bd.named
  have hlocks := Bd.notSynchronized
  obtain ⟨Q, hQ⟩ : ∃ Q, Q = MQ below (va_Qv (S := Int32) (fun u => pf.toInt ≤ u.toInt ∧ u.toInt ≤ 100000) (fun u t => jRt (dC, dI) B base G0 EX14_digitsOf H0 [(r0, 16, 6, .int u)] t.heap) (jA base)) ([.ref r0, .int a1] : List Value).toArray s 0 0 (jA base) := ⟨_, rfl⟩
  rw [← hQ]
  have hl := lv_entry ([.ref r0, .int a1]) (n := 2) (Nat.le_of_ble_eq_true rfl)
  rw [lg_entry_eq]
  generalize (lg_sl ([.ref r0, .int a1]) ++ List.replicate (2 - (lg_sl ([.ref r0, .int a1])).length) Slot.unset).toArray = ls at hl ⊢
  have hl : lv_has ls 2 [(0, .ref r0), (1, .int a1)] := hl
  generalize hR : (headSpec (jw yX14_digitsOf cX14_digitsOf 2 none) ({ frames := ef + 1, cells := 0, slots := 0, locals := 40 * ef + 60 })).room = R
  subst hH0
  have hh : jSt (dC, dI) B base G0 G0 EX14_digitsOf s.heap 0 0 [(r0, 16, 6, .int pf)] [] [] s.heap [] := jSt.start hX hP0 jMc.nil jIs.nil
  clear hX hP0
  have hkm9 : ((-9) : Int32).toInt = (-9) := by decide
  have hk0 : (0 : Int32).toInt = 0 := by decide
  have hk1 : (1 : Int32).toInt = 1 := by decide
  have hk10 : (10 : Int32).toInt = 10 := by decide
  have hk48 : (48 : Int32).toInt = 48 := by decide
  have hrg_a1 := jb_rng a1
  have hpw := jpw_s ef
  refine lv_iload_n hx hb dX14_digitsOf_0 rfl (lv_at hl 1 rfl) ?_
  refine lv_bipush (v := (-9)) hx hb dX14_digitsOf_1 (by decide) ?_
  refine lv_icmp_ge (tgt := 14) hx hb dX14_digitsOf_3 (by decide) (fun c_1 => ?_) (fun c_1 => ?_)
  · skip
    have c_1' : a1.toInt ≥ (-9) := jb_ge (rfl) ((by decide)) c_1
    refine lv_aload_n hx hb dX14_digitsOf_14 rfl (lv_at hl 0 rfl) ?_
    refine lv_bipush (v := 48) hx hb dX14_digitsOf_15 (by decide) ?_
    refine lv_iload_n hx hb dX14_digitsOf_17 rfl (lv_at hl 1 rfl) ?_
    refine lv_bipush (v := 10) hx hb dX14_digitsOf_18 (by decide) ?_
    refine lv_irem hx hb dX14_digitsOf_20 (by decide) ?_
    refine lv_topi (fun z_2 ez_2 => ?_)
    have hz_2 := jb_irem (n := 10) ez_2 (by decide) (by decide)
    refine lv_isub hx hb dX14_digitsOf_21 ?_
    refine lv_topi (fun z_3 ez_3 => ?_)
    refine va_callv (A0 := jA base) (H0 := s.heap) (va_runV (As := [.int z_3]) (rest := []) ⟨hx, hb, hml, hown, hts⟩ (uX14_put l dC dI ca base B hB hAp hB16 hB101 G0 s.heap r0 z_3 pf) (cwV 1 hts (jgV (jWr_54 _ (List.mem_of_getElem? (i := 2) rfl)) (jWr_54 _ (List.mem_of_getElem? (i := 3) rfl)) (jWr_54 _ (List.mem_of_getElem? (i := 4) rfl)) (jWr_1 _ (List.mem_of_getElem? (i := 5) rfl)) (jWr_54 _ (List.mem_of_getElem? (i := 5) rfl))) rfl rfl rfl (by decide +kernel) ⟨by rw [← hR]; show (0) + 1 ≤ ef + 1; omega, by rw [← hR]; show 8 + (2 + 11) + (0) ≤ 40 * ef + 60; omega⟩) ⟨fun a U g mk q => by obtain ⟨q0, q1, q2, qK, q10, q11, q12⟩ := q; exact ⟨q0, q1, q2, jG.calling g mk a qK, q10, q11, q12⟩, hh.recv (C := RX14) (T := TX14) (N := 74) hB16 rfl (by decide) hg_r0 hK, fun U hU hW => ⟨rfl, hU, hh.2.1, hG.step hW hU hh.1, hg_r0, (hh.2.2.1.sub (L1 := [(r0, 16, 6, .int pf)]) [0] rfl), by first | omega | (refine ⟨?_, ?_⟩ <;> (first | omega | rfl | assumption | decide | exact Or.inl rfl | exact Or.inr rfl | (simp only; omega)))⟩⟩ rfl rfl hl.1 rfl (lv_room (Nat.le_of_ble_eq_true rfl)) dX14_digitsOf_22 ⟨Nat.zero_le _, Nat.zero_le _⟩) hh.1 (fun q _ h => h) (fun q h => h) (fun u_4 t_4 H_4 locs_4 ht_4 hvm_4 hr_5 hb_4 hz_4 hk_4 hS_4 => ?_)
    obtain ⟨qf_4, rfl⟩ : ∃ z, z = u_4 := ⟨_, rfl⟩
    rw [ht_4] at hb_4
    obtain ⟨hb_41, hb_42, hb_43, hb_44, hb_45⟩ := hb_4
    have hh_4 : jSt (dC, dI) B base G0 G0 EX14_digitsOf s.heap 0 0 [(r0, 16, 6, .int qf_4)] [] [] H_4 locs_4 := ((hh.call hb_41 hb_42 hb_43 hb_44 hS_4 rfl (L1 := []) [] rfl rfl (M1 := []) [] rfl rfl (I1 := []) [] rfl rfl).more hb_45)
    clear hh ht_4 hvm_4 hz_4 hk_4 hS_4 hb_41 hb_42 hb_43 hb_44 hb_45
    obtain ⟨hr_5_0, hr_5_1⟩ := hr_5
    rw [hQ]
    exact W.vret hx hb hr (fun t ht hW => ⟨⟨qf_4, rfl, by first | omega | (refine ⟨?_, ?_⟩ <;> (first | omega | rfl | assumption | decide | exact Or.inl rfl | exact Or.inr rfl | (simp only; omega))), hh_4.rt (M1 := [(r0, 16, 6, .int qf_4)]) [0] rfl ht⟩, by rw [ht]; try exact hh_4.1.1, fun q h9 hq => by rw [ht]; try exact hh_4.1.2.1 q h9 hq⟩) hh_4.1.2.2 dX14_digitsOf_25
  · skip
    have c_1' : a1.toInt < (-9) := jb_ge_n (rfl) ((by decide)) c_1
    refine lv_aload_n hx hb dX14_digitsOf_6 rfl (lv_at hl 0 rfl) ?_
    refine lv_iload_n hx hb dX14_digitsOf_7 rfl (lv_at hl 1 rfl) ?_
    refine lv_bipush (v := 10) hx hb dX14_digitsOf_8 (by decide) ?_
    refine lv_idiv hx hb dX14_digitsOf_10 (by decide) ?_
    refine lv_topi (fun z_6 ez_6 => ?_)
    have hz_6 := jb_idiv (n := 10) ez_6 (by decide) (by decide)
    refine va_callv (A0 := jA base) (H0 := s.heap) (va_runV (As := [.int z_6]) (rest := []) ⟨hx, hb, hml, hown, hts⟩ (ih (ef - 1) (by omega) G0 s.heap r0 z_6 pf) (cwV 1 hts (jgV (jWr_54 _ (List.mem_of_getElem? (i := 22) rfl)) (jWr_54 _ (List.mem_of_getElem? (i := 23) rfl)) (jWr_55 _ (List.mem_of_getElem? (i := 0) rfl)) (jWr_1 _ (List.mem_of_getElem? (i := 5) rfl)) (jWr_55 _ (List.mem_of_getElem? (i := 1) rfl))) rfl rfl rfl (by decide +kernel) ⟨by rw [← hR]; show (ef - 1 + 1) + 1 ≤ ef + 1; omega, by rw [← hR]; show 8 + (2 + 11) + (40 * (ef - 1) + 60) ≤ 40 * ef + 60; omega⟩) ⟨fun a U g mk q => by obtain ⟨q0, q1, q2, qK, q10, q11, q12⟩ := q; exact ⟨q0, q1, q2, jG.calling g mk a qK, q10, q11, q12⟩, hh.recv (C := RX14) (T := TX14) (N := 74) hB16 rfl (by decide) hg_r0 hK, fun U hU hW => ⟨rfl, hU, hh.2.1, hG.step hW hU hh.1, hg_r0, (hh.2.2.1.sub (L1 := [(r0, 16, 6, .int pf)]) [0] rfl), by first | omega | (refine ⟨?_, ?_, ?_, ?_⟩ <;> (first | omega | rfl | assumption | decide | exact Or.inl rfl | exact Or.inr rfl | (simp only; omega)))⟩⟩ rfl rfl hl.1 rfl (lv_room (Nat.le_of_ble_eq_true rfl)) dX14_digitsOf_11 ⟨Nat.zero_le _, Nat.zero_le _⟩) hh.1 (fun q _ h => h) (fun q h => h) (fun u_7 t_7 H_7 locs_7 ht_7 hvm_7 hr_8 hb_7 hz_7 hk_7 hS_7 => ?_)
    obtain ⟨qf_7, rfl⟩ : ∃ z, z = u_7 := ⟨_, rfl⟩
    rw [ht_7] at hb_7
    obtain ⟨hb_71, hb_72, hb_73, hb_74, hb_75⟩ := hb_7
    have hh_7 : jSt (dC, dI) B base G0 G0 EX14_digitsOf s.heap 0 0 [(r0, 16, 6, .int qf_7)] [] [] H_7 locs_7 := ((hh.call hb_71 hb_72 hb_73 hb_74 hS_7 rfl (L1 := []) [] rfl rfl (M1 := []) [] rfl rfl (I1 := []) [] rfl rfl).more hb_75)
    clear hh ht_7 hvm_7 hz_7 hk_7 hS_7 hb_71 hb_72 hb_73 hb_74 hb_75
    obtain ⟨hr_8_0, hr_8_1⟩ := hr_8
    refine lv_aload_n hx hb dX14_digitsOf_14 rfl (lv_at hl 0 rfl) ?_
    refine lv_bipush (v := 48) hx hb dX14_digitsOf_15 (by decide) ?_
    refine lv_iload_n hx hb dX14_digitsOf_17 rfl (lv_at hl 1 rfl) ?_
    refine lv_bipush (v := 10) hx hb dX14_digitsOf_18 (by decide) ?_
    refine lv_irem hx hb dX14_digitsOf_20 (by decide) ?_
    refine lv_topi (fun z_9 ez_9 => ?_)
    have hz_9 := jb_irem (n := 10) ez_9 (by decide) (by decide)
    refine lv_isub hx hb dX14_digitsOf_21 ?_
    refine lv_topi (fun z_10 ez_10 => ?_)
    refine va_callv (A0 := jA base) (H0 := s.heap) (va_runV (As := [.int z_10]) (rest := []) ⟨hx, hb, hml, hown, hts⟩ (uX14_put l dC dI ca base B hB hAp hB16 hB101 G0 H_7 r0 z_10 qf_7) (cwV 1 hts (jgV (jWr_54 _ (List.mem_of_getElem? (i := 2) rfl)) (jWr_54 _ (List.mem_of_getElem? (i := 3) rfl)) (jWr_54 _ (List.mem_of_getElem? (i := 4) rfl)) (jWr_1 _ (List.mem_of_getElem? (i := 5) rfl)) (jWr_54 _ (List.mem_of_getElem? (i := 5) rfl))) rfl rfl rfl (by decide +kernel) ⟨by rw [← hR]; show (0) + 1 ≤ ef + 1; omega, by rw [← hR]; show 8 + (2 + 11) + (0) ≤ 40 * ef + 60; omega⟩) ⟨fun a U g mk q => by obtain ⟨q0, q1, q2, qK, q10, q11, q12⟩ := q; exact ⟨q0, q1, q2, jG.calling g mk a qK, q10, q11, q12⟩, hh_7.recv (C := RX14) (T := TX14) (N := 74) hB16 rfl (by decide) hg_r0 hK, fun U hU hW => ⟨rfl, hU, hh_7.2.1, hG.step hW hU hh_7.1, hg_r0, (hh_7.2.2.1.sub (L1 := [(r0, 16, 6, .int qf_7)]) [0] rfl), by first | omega | (refine ⟨?_, ?_⟩ <;> (first | omega | rfl | assumption | decide | exact Or.inl rfl | exact Or.inr rfl | (simp only; omega)))⟩⟩ rfl rfl hl.1 rfl (lv_room (Nat.le_of_ble_eq_true rfl)) dX14_digitsOf_22 ⟨Nat.zero_le _, Nat.zero_le _⟩) hh_7.1 (fun q _ h => h) (fun q h => h) (fun u_11 t_11 H_11 locs_11 ht_11 hvm_11 hr_12 hb_11 hz_11 hk_11 hS_11 => ?_)
    obtain ⟨qf_11, rfl⟩ : ∃ z, z = u_11 := ⟨_, rfl⟩
    rw [ht_11] at hb_11
    obtain ⟨hb_111, hb_112, hb_113, hb_114, hb_115⟩ := hb_11
    have hh_11 : jSt (dC, dI) B base G0 G0 EX14_digitsOf s.heap 0 0 [(r0, 16, 6, .int qf_11)] [] [] H_11 locs_11 := ((hh_7.call hb_111 hb_112 hb_113 hb_114 hS_11 rfl (L1 := []) [] rfl rfl (M1 := []) [] rfl rfl (I1 := []) [] rfl rfl).more hb_115)
    clear hh_7 ht_11 hvm_11 hz_11 hk_11 hS_11 hb_111 hb_112 hb_113 hb_114 hb_115
    obtain ⟨hr_12_0, hr_12_1⟩ := hr_12
    rw [hQ]
    exact W.vret hx hb hr (fun t ht hW => ⟨⟨qf_11, rfl, by first | omega | (refine ⟨?_, ?_⟩ <;> (first | omega | rfl | assumption | decide | exact Or.inl rfl | exact Or.inr rfl | (simp only; omega))), hh_11.rt (M1 := [(r0, 16, 6, .int qf_11)]) [0] rfl ht⟩, by rw [ht]; try exact hh_11.1.1, fun q h9 hq => by rw [ht]; try exact hh_11.1.2.1 q h9 hq⟩) hh_11.1.2.2 dX14_digitsOf_25
theorem aX14_digitsOf (l : Launch) (dC : Nat → ClassId) (dI : Nat → Nat → Nat) (ca : Nat → ClassId) (base : Nat) (B : jF) (hB : jBok B) (hAp : jAp (dC, dI)) (hB16 : ∀ n G a H, B 16 n G a H ↔ jOb (dC, dI) 16 74 (F16 n G) a H) (hB101 : ∀ n G a H, B 101 n G a H ↔ jAr (dC, dI) (ca 1) (fun j z => True) n a H) : ∀ ef, qX14_digitsOf l dC dI ca base B ef := fun ef => Nat.strongRecOn ef (fun e ih => fun G0 H0 r0 a1 pf => uX14_digitsOf l dC dI ca base B hB hAp hB16 hB101 e ih G0 H0 r0 a1 pf)
set_option maxHeartbeats 4000000 in
set_option maxRecDepth 20000 in
theorem uX14_number (l : Launch) (dC : Nat → ClassId) (dI : Nat → Nat → Nat) (ca : Nat → ClassId) (base : Nat) (B : jF) (hB : jBok B) (hAp : jAp (dC, dI)) (hB16 : ∀ n G a H, B 16 n G a H ↔ jOb (dC, dI) 16 74 (F16 n G) a H) (hB101 : ∀ n G a H, B 101 n G a H ↔ jAr (dC, dI) (ca 1) (fun j z => True) n a H) (G0 : jT) (H0 : Heap) (r0 : Nat) (a1 : Int32) (pf : Int32) : Met l yX14_number (jw yX14_number cX14_number 2 none) ({ frames := 11, cells := 0, slots := 0, locals := 441 }) (va_Pc [.ref r0, .int a1] (fun U => U.heap = H0 ∧ jX B base G0 [] H0 ∧ jG dC dI ca base U ∧ G0 r0 = some (16, 0) ∧ jP (dC, dI) G0 H0 [(r0, 16, 6, .int pf)] ∧ 0 ≤ pf.toInt ∧ pf.toInt ≤ 100000)) (va_Qv (S := Int32) (fun u => pf.toInt ≤ u.toInt ∧ u.toInt ≤ 100000) (fun u t => jRt (dC, dI) B base G0 EX14_number H0 [(r0, 16, 6, .int u)] t.heap) (jA base)) 0 0 (jA base) := by
  refine Met.ofW (cc := cX14_number) (maxL := 2) (ret := none) (by decide) rfl ?_
  intro p e s m args below meth c s₁ Bd hml hv
  obtain ⟨rfl, hH0, hX, hG, hg_r0, hP0, hp0, hp1⟩ := hv
  have hK := hG.1
  have hx := Bd.exec
  have hb := Bd.bytes
  have hr := Bd.returns
  have hts := atoms_spec (ws := (jw yX14_number cX14_number 2 none)) Bd.pre
  have htw : ∀ w ∈ jWl, w.before _ s = true := fun w h => hts w (List.mem_cons_of_mem _ h)
  have hown : s.vm.findClass RX14 = some m.cls := findClass_of_methodNamed Bd.named
  have hlocks := Bd.notSynchronized
  obtain ⟨Q, hQ⟩ : ∃ Q, Q = MQ below (va_Qv (S := Int32) (fun u => pf.toInt ≤ u.toInt ∧ u.toInt ≤ 100000) (fun u t => jRt (dC, dI) B base G0 EX14_number H0 [(r0, 16, 6, .int u)] t.heap) (jA base)) ([.ref r0, .int a1] : List Value).toArray s 0 0 (jA base) := ⟨_, rfl⟩
  rw [← hQ]
  have hl := lv_entry ([.ref r0, .int a1]) (n := 2) (Nat.le_of_ble_eq_true rfl)
  rw [lg_entry_eq]
  generalize (lg_sl ([.ref r0, .int a1]) ++ List.replicate (2 - (lg_sl ([.ref r0, .int a1])).length) Slot.unset).toArray = ls at hl ⊢
  have hl : lv_has ls 2 [(0, .ref r0), (1, .int a1)] := hl
  generalize hR : (headSpec (jw yX14_number cX14_number 2 none) ({ frames := 11, cells := 0, slots := 0, locals := 441 })).room = R
  subst hH0
  have hh : jSt (dC, dI) B base G0 G0 EX14_number s.heap 0 0 [(r0, 16, 6, .int pf)] [] [] s.heap [] := jSt.start hX hP0 jMc.nil jIs.nil
  clear hX hP0
  have hk0 : (0 : Int32).toInt = 0 := by decide
  have hk1 : (1 : Int32).toInt = 1 := by decide
  have hk45 : (45 : Int32).toInt = 45 := by decide
  have hrg_a1 := jb_rng a1
  have hj9 : jpw 9 = 10000000000 := rfl
  have hra := jb_rng a1
  refine lv_iload_n hx hb dX14_number_0 rfl (lv_at hl 1 rfl) ?_
  refine lv_if_ge (tgt := 10) hx hb dX14_number_1 (by decide) (fun c_1 => ?_) (fun c_1 => ?_)
  · skip
    have c_1' : a1.toInt ≥ 0 := jb_ge (rfl) ((by decide)) c_1
    refine lv_aload_n hx hb dX14_number_10 rfl (lv_at hl 0 rfl) ?_
    refine lv_iload_n hx hb dX14_number_11 rfl (lv_at hl 1 rfl) ?_
    refine lv_if_ge (tgt := 19) hx hb dX14_number_12 (by decide) (fun c_2 => ?_) (fun c_2 => ?_)
    · skip
      have c_2' : a1.toInt ≥ 0 := jb_ge (rfl) ((by decide)) c_2
      refine lv_iload_n hx hb dX14_number_19 rfl (lv_at hl 1 rfl) ?_
      refine lv_ineg hx hb dX14_number_20 ?_
      refine lv_topi (fun z_3 ez_3 => ?_)
      have hz_3 : z_3.toInt = -a1.toInt := by rw [ez_3]; exact jb_ineg (rfl) (by omega)
      refine va_callv (A0 := jA base) (H0 := s.heap) (va_runV (As := [.int z_3]) (rest := []) ⟨hx, hb, hml, hown, hts⟩ (aX14_digitsOf l dC dI ca base B hB hAp hB16 hB101 9 G0 s.heap r0 z_3 pf) (cwV 1 hts (jgV (jWr_54 _ (List.mem_of_getElem? (i := 22) rfl)) (jWr_54 _ (List.mem_of_getElem? (i := 23) rfl)) (jWr_55 _ (List.mem_of_getElem? (i := 0) rfl)) (jWr_1 _ (List.mem_of_getElem? (i := 5) rfl)) (jWr_55 _ (List.mem_of_getElem? (i := 1) rfl))) rfl rfl rfl (by decide +kernel) ⟨by rw [← hR]; exact Nat.le_of_ble_eq_true rfl, by rw [← hR]; exact Nat.le_of_ble_eq_true rfl⟩) ⟨fun a U g mk q => by obtain ⟨q0, q1, q2, qK, q10, q11, q12⟩ := q; exact ⟨q0, q1, q2, jG.calling g mk a qK, q10, q11, q12⟩, hh.recv (C := RX14) (T := TX14) (N := 74) hB16 rfl (by decide) hg_r0 hK, fun U hU hW => ⟨rfl, hU, hh.2.1, hG.step hW hU hh.1, hg_r0, (hh.2.2.1.sub (L1 := [(r0, 16, 6, .int pf)]) [0] rfl), by first | omega | (refine ⟨?_, ?_, ?_, ?_⟩ <;> (first | omega | rfl | assumption | decide | exact Or.inl rfl | exact Or.inr rfl | (simp only; omega)))⟩⟩ rfl rfl hl.1 rfl (lv_room (Nat.le_of_ble_eq_true rfl)) dX14_number_21 ⟨Nat.zero_le _, Nat.zero_le _⟩) hh.1 (fun q _ h => h) (fun q h => h) (fun u_4 t_4 H_4 locs_4 ht_4 hvm_4 hr_5 hb_4 hz_4 hk_4 hS_4 => ?_)
      obtain ⟨qf_4, rfl⟩ : ∃ z, z = u_4 := ⟨_, rfl⟩
      rw [ht_4] at hb_4
      obtain ⟨hb_41, hb_42, hb_43, hb_44, hb_45⟩ := hb_4
      have hh_4 : jSt (dC, dI) B base G0 G0 EX14_number s.heap 0 0 [(r0, 16, 6, .int qf_4)] [] [] H_4 locs_4 := ((hh.call hb_41 hb_42 hb_43 hb_44 hS_4 rfl (L1 := []) [] rfl rfl (M1 := []) [] rfl rfl (I1 := []) [] rfl rfl).more hb_45)
      clear hh ht_4 hvm_4 hz_4 hk_4 hS_4 hb_41 hb_42 hb_43 hb_44 hb_45
      obtain ⟨hr_5_0, hr_5_1⟩ := hr_5
      rw [hQ]
      exact W.vret hx hb hr (fun t ht hW => ⟨⟨qf_4, rfl, by first | omega | (refine ⟨?_, ?_⟩ <;> (first | omega | rfl | assumption | decide | exact Or.inl rfl | exact Or.inr rfl | (simp only; omega))), hh_4.rt (M1 := [(r0, 16, 6, .int qf_4)]) [0] rfl ht⟩, by rw [ht]; try exact hh_4.1.1, fun q h9 hq => by rw [ht]; try exact hh_4.1.2.1 q h9 hq⟩) hh_4.1.2.2 dX14_number_24
    · skip
      have c_2' : a1.toInt < 0 := jb_ge_n (rfl) ((by decide)) c_2
      refine lv_iload_n hx hb dX14_number_15 rfl (lv_at hl 1 rfl) ?_
      refine lv_goto (tgt := 21) hx hb dX14_number_16 (by decide) ?_
      refine va_callv (A0 := jA base) (H0 := s.heap) (va_runV (As := [.int a1]) (rest := []) ⟨hx, hb, hml, hown, hts⟩ (aX14_digitsOf l dC dI ca base B hB hAp hB16 hB101 9 G0 s.heap r0 a1 pf) (cwV 1 hts (jgV (jWr_54 _ (List.mem_of_getElem? (i := 22) rfl)) (jWr_54 _ (List.mem_of_getElem? (i := 23) rfl)) (jWr_55 _ (List.mem_of_getElem? (i := 0) rfl)) (jWr_1 _ (List.mem_of_getElem? (i := 5) rfl)) (jWr_55 _ (List.mem_of_getElem? (i := 1) rfl))) rfl rfl rfl (by decide +kernel) ⟨by rw [← hR]; exact Nat.le_of_ble_eq_true rfl, by rw [← hR]; exact Nat.le_of_ble_eq_true rfl⟩) ⟨fun a U g mk q => by obtain ⟨q0, q1, q2, qK, q10, q11, q12⟩ := q; exact ⟨q0, q1, q2, jG.calling g mk a qK, q10, q11, q12⟩, hh.recv (C := RX14) (T := TX14) (N := 74) hB16 rfl (by decide) hg_r0 hK, fun U hU hW => ⟨rfl, hU, hh.2.1, hG.step hW hU hh.1, hg_r0, (hh.2.2.1.sub (L1 := [(r0, 16, 6, .int pf)]) [0] rfl), by first | omega | (refine ⟨?_, ?_, ?_, ?_⟩ <;> (first | omega | rfl | assumption | decide | exact Or.inl rfl | exact Or.inr rfl | (simp only; omega)))⟩⟩ rfl rfl hl.1 rfl (lv_room (Nat.le_of_ble_eq_true rfl)) dX14_number_21 ⟨Nat.zero_le _, Nat.zero_le _⟩) hh.1 (fun q _ h => h) (fun q h => h) (fun u_6 t_6 H_6 locs_6 ht_6 hvm_6 hr_7 hb_6 hz_6 hk_6 hS_6 => ?_)
      obtain ⟨qf_6, rfl⟩ : ∃ z, z = u_6 := ⟨_, rfl⟩
      rw [ht_6] at hb_6
      obtain ⟨hb_61, hb_62, hb_63, hb_64, hb_65⟩ := hb_6
      have hh_6 : jSt (dC, dI) B base G0 G0 EX14_number s.heap 0 0 [(r0, 16, 6, .int qf_6)] [] [] H_6 locs_6 := ((hh.call hb_61 hb_62 hb_63 hb_64 hS_6 rfl (L1 := []) [] rfl rfl (M1 := []) [] rfl rfl (I1 := []) [] rfl rfl).more hb_65)
      clear hh ht_6 hvm_6 hz_6 hk_6 hS_6 hb_61 hb_62 hb_63 hb_64 hb_65
      obtain ⟨hr_7_0, hr_7_1⟩ := hr_7
      rw [hQ]
      exact W.vret hx hb hr (fun t ht hW => ⟨⟨qf_6, rfl, by first | omega | (refine ⟨?_, ?_⟩ <;> (first | omega | rfl | assumption | decide | exact Or.inl rfl | exact Or.inr rfl | (simp only; omega))), hh_6.rt (M1 := [(r0, 16, 6, .int qf_6)]) [0] rfl ht⟩, by rw [ht]; try exact hh_6.1.1, fun q h9 hq => by rw [ht]; try exact hh_6.1.2.1 q h9 hq⟩) hh_6.1.2.2 dX14_number_24
  · skip
    have c_1' : a1.toInt < 0 := jb_ge_n (rfl) ((by decide)) c_1
    refine lv_aload_n hx hb dX14_number_4 rfl (lv_at hl 0 rfl) ?_
    refine lv_bipush (v := 45) hx hb dX14_number_5 (by decide) ?_
    refine va_callv (A0 := jA base) (H0 := s.heap) (va_runV (As := [.int 45]) (rest := []) ⟨hx, hb, hml, hown, hts⟩ (uX14_put l dC dI ca base B hB hAp hB16 hB101 G0 s.heap r0 45 pf) (cwV 1 hts (jgV (jWr_54 _ (List.mem_of_getElem? (i := 2) rfl)) (jWr_54 _ (List.mem_of_getElem? (i := 3) rfl)) (jWr_54 _ (List.mem_of_getElem? (i := 4) rfl)) (jWr_1 _ (List.mem_of_getElem? (i := 5) rfl)) (jWr_54 _ (List.mem_of_getElem? (i := 5) rfl))) rfl rfl rfl (by decide +kernel) ⟨by rw [← hR]; exact Nat.le_of_ble_eq_true rfl, by rw [← hR]; exact Nat.le_of_ble_eq_true rfl⟩) ⟨fun a U g mk q => by obtain ⟨q0, q1, q2, qK, q10, q11, q12⟩ := q; exact ⟨q0, q1, q2, jG.calling g mk a qK, q10, q11, q12⟩, hh.recv (C := RX14) (T := TX14) (N := 74) hB16 rfl (by decide) hg_r0 hK, fun U hU hW => ⟨rfl, hU, hh.2.1, hG.step hW hU hh.1, hg_r0, (hh.2.2.1.sub (L1 := [(r0, 16, 6, .int pf)]) [0] rfl), by first | omega | (refine ⟨?_, ?_⟩ <;> (first | omega | rfl | assumption | decide | exact Or.inl rfl | exact Or.inr rfl | (simp only; omega)))⟩⟩ rfl rfl hl.1 rfl (lv_room (Nat.le_of_ble_eq_true rfl)) dX14_number_7 ⟨Nat.zero_le _, Nat.zero_le _⟩) hh.1 (fun q _ h => h) (fun q h => h) (fun u_8 t_8 H_8 locs_8 ht_8 hvm_8 hr_9 hb_8 hz_8 hk_8 hS_8 => ?_)
    obtain ⟨qf_8, rfl⟩ : ∃ z, z = u_8 := ⟨_, rfl⟩
    rw [ht_8] at hb_8
    obtain ⟨hb_81, hb_82, hb_83, hb_84, hb_85⟩ := hb_8
    have hh_8 : jSt (dC, dI) B base G0 G0 EX14_number s.heap 0 0 [(r0, 16, 6, .int qf_8)] [] [] H_8 locs_8 := ((hh.call hb_81 hb_82 hb_83 hb_84 hS_8 rfl (L1 := []) [] rfl rfl (M1 := []) [] rfl rfl (I1 := []) [] rfl rfl).more hb_85)
    clear hh ht_8 hvm_8 hz_8 hk_8 hS_8 hb_81 hb_82 hb_83 hb_84 hb_85
    obtain ⟨hr_9_0, hr_9_1⟩ := hr_9
    refine lv_aload_n hx hb dX14_number_10 rfl (lv_at hl 0 rfl) ?_
    refine lv_iload_n hx hb dX14_number_11 rfl (lv_at hl 1 rfl) ?_
    refine lv_if_ge (tgt := 19) hx hb dX14_number_12 (by decide) (fun c_10 => ?_) (fun c_10 => ?_)
    · skip
      have c_10' : a1.toInt ≥ 0 := jb_ge (rfl) ((by decide)) c_10
      refine lv_iload_n hx hb dX14_number_19 rfl (lv_at hl 1 rfl) ?_
      refine lv_ineg hx hb dX14_number_20 ?_
      refine lv_topi (fun z_11 ez_11 => ?_)
      have hz_11 : z_11.toInt = -a1.toInt := by rw [ez_11]; exact jb_ineg (rfl) (by omega)
      refine va_callv (A0 := jA base) (H0 := s.heap) (va_runV (As := [.int z_11]) (rest := []) ⟨hx, hb, hml, hown, hts⟩ (aX14_digitsOf l dC dI ca base B hB hAp hB16 hB101 9 G0 H_8 r0 z_11 qf_8) (cwV 1 hts (jgV (jWr_54 _ (List.mem_of_getElem? (i := 22) rfl)) (jWr_54 _ (List.mem_of_getElem? (i := 23) rfl)) (jWr_55 _ (List.mem_of_getElem? (i := 0) rfl)) (jWr_1 _ (List.mem_of_getElem? (i := 5) rfl)) (jWr_55 _ (List.mem_of_getElem? (i := 1) rfl))) rfl rfl rfl (by decide +kernel) ⟨by rw [← hR]; exact Nat.le_of_ble_eq_true rfl, by rw [← hR]; exact Nat.le_of_ble_eq_true rfl⟩) ⟨fun a U g mk q => by obtain ⟨q0, q1, q2, qK, q10, q11, q12⟩ := q; exact ⟨q0, q1, q2, jG.calling g mk a qK, q10, q11, q12⟩, hh_8.recv (C := RX14) (T := TX14) (N := 74) hB16 rfl (by decide) hg_r0 hK, fun U hU hW => ⟨rfl, hU, hh_8.2.1, hG.step hW hU hh_8.1, hg_r0, (hh_8.2.2.1.sub (L1 := [(r0, 16, 6, .int qf_8)]) [0] rfl), by first | omega | (refine ⟨?_, ?_, ?_, ?_⟩ <;> (first | omega | rfl | assumption | decide | exact Or.inl rfl | exact Or.inr rfl | (simp only; omega)))⟩⟩ rfl rfl hl.1 rfl (lv_room (Nat.le_of_ble_eq_true rfl)) dX14_number_21 ⟨Nat.zero_le _, Nat.zero_le _⟩) hh_8.1 (fun q _ h => h) (fun q h => h) (fun u_12 t_12 H_12 locs_12 ht_12 hvm_12 hr_13 hb_12 hz_12 hk_12 hS_12 => ?_)
      obtain ⟨qf_12, rfl⟩ : ∃ z, z = u_12 := ⟨_, rfl⟩
      rw [ht_12] at hb_12
      obtain ⟨hb_121, hb_122, hb_123, hb_124, hb_125⟩ := hb_12
      have hh_12 : jSt (dC, dI) B base G0 G0 EX14_number s.heap 0 0 [(r0, 16, 6, .int qf_12)] [] [] H_12 locs_12 := ((hh_8.call hb_121 hb_122 hb_123 hb_124 hS_12 rfl (L1 := []) [] rfl rfl (M1 := []) [] rfl rfl (I1 := []) [] rfl rfl).more hb_125)
      clear hh_8 ht_12 hvm_12 hz_12 hk_12 hS_12 hb_121 hb_122 hb_123 hb_124 hb_125
      obtain ⟨hr_13_0, hr_13_1⟩ := hr_13
      rw [hQ]
      exact W.vret hx hb hr (fun t ht hW => ⟨⟨qf_12, rfl, by first | omega | (refine ⟨?_, ?_⟩ <;> (first | omega | rfl | assumption | decide | exact Or.inl rfl | exact Or.inr rfl | (simp only; omega))), hh_12.rt (M1 := [(r0, 16, 6, .int qf_12)]) [0] rfl ht⟩, by rw [ht]; try exact hh_12.1.1, fun q h9 hq => by rw [ht]; try exact hh_12.1.2.1 q h9 hq⟩) hh_12.1.2.2 dX14_number_24
    · skip
      have c_10' : a1.toInt < 0 := jb_ge_n (rfl) ((by decide)) c_10
      refine lv_iload_n hx hb dX14_number_15 rfl (lv_at hl 1 rfl) ?_
      refine lv_goto (tgt := 21) hx hb dX14_number_16 (by decide) ?_
      refine va_callv (A0 := jA base) (H0 := s.heap) (va_runV (As := [.int a1]) (rest := []) ⟨hx, hb, hml, hown, hts⟩ (aX14_digitsOf l dC dI ca base B hB hAp hB16 hB101 9 G0 H_8 r0 a1 qf_8) (cwV 1 hts (jgV (jWr_54 _ (List.mem_of_getElem? (i := 22) rfl)) (jWr_54 _ (List.mem_of_getElem? (i := 23) rfl)) (jWr_55 _ (List.mem_of_getElem? (i := 0) rfl)) (jWr_1 _ (List.mem_of_getElem? (i := 5) rfl)) (jWr_55 _ (List.mem_of_getElem? (i := 1) rfl))) rfl rfl rfl (by decide +kernel) ⟨by rw [← hR]; exact Nat.le_of_ble_eq_true rfl, by rw [← hR]; exact Nat.le_of_ble_eq_true rfl⟩) ⟨fun a U g mk q => by obtain ⟨q0, q1, q2, qK, q10, q11, q12⟩ := q; exact ⟨q0, q1, q2, jG.calling g mk a qK, q10, q11, q12⟩, hh_8.recv (C := RX14) (T := TX14) (N := 74) hB16 rfl (by decide) hg_r0 hK, fun U hU hW => ⟨rfl, hU, hh_8.2.1, hG.step hW hU hh_8.1, hg_r0, (hh_8.2.2.1.sub (L1 := [(r0, 16, 6, .int qf_8)]) [0] rfl), by first | omega | (refine ⟨?_, ?_, ?_, ?_⟩ <;> (first | omega | rfl | assumption | decide | exact Or.inl rfl | exact Or.inr rfl | (simp only; omega)))⟩⟩ rfl rfl hl.1 rfl (lv_room (Nat.le_of_ble_eq_true rfl)) dX14_number_21 ⟨Nat.zero_le _, Nat.zero_le _⟩) hh_8.1 (fun q _ h => h) (fun q h => h) (fun u_14 t_14 H_14 locs_14 ht_14 hvm_14 hr_15 hb_14 hz_14 hk_14 hS_14 => ?_)
      obtain ⟨qf_14, rfl⟩ : ∃ z, z = u_14 := ⟨_, rfl⟩
      rw [ht_14] at hb_14
      obtain ⟨hb_141, hb_142, hb_143, hb_144, hb_145⟩ := hb_14
      have hh_14 : jSt (dC, dI) B base G0 G0 EX14_number s.heap 0 0 [(r0, 16, 6, .int qf_14)] [] [] H_14 locs_14 := ((hh_8.call hb_141 hb_142 hb_143 hb_144 hS_14 rfl (L1 := []) [] rfl rfl (M1 := []) [] rfl rfl (I1 := []) [] rfl rfl).more hb_145)
      clear hh_8 ht_14 hvm_14 hz_14 hk_14 hS_14 hb_141 hb_142 hb_143 hb_144 hb_145
      obtain ⟨hr_15_0, hr_15_1⟩ := hr_15
      rw [hQ]
      exact W.vret hx hb hr (fun t ht hW => ⟨⟨qf_14, rfl, by first | omega | (refine ⟨?_, ?_⟩ <;> (first | omega | rfl | assumption | decide | exact Or.inl rfl | exact Or.inr rfl | (simp only; omega))), hh_14.rt (M1 := [(r0, 16, 6, .int qf_14)]) [0] rfl ht⟩, by rw [ht]; try exact hh_14.1.1, fun q h9 hq => by rw [ht]; try exact hh_14.1.2.1 q h9 hq⟩) hh_14.1.2.2 dX14_number_24
end
section
def EX14_in : List (Nat × Nat) := []
set_option maxHeartbeats 4000000 in
set_option maxRecDepth 20000 in
theorem uX14_in (l : Launch) (dC : Nat → ClassId) (dI : Nat → Nat → Nat) (ca : Nat → ClassId) (base : Nat) (B : jF) (hB : jBok B) (hAp : jAp (dC, dI)) (G0 : jT) (H0 : Heap) (a0 : Int32) (a1 : Int32) (a2 : Int32) : Met l yX14_in (jw yX14_in cX14_in 3 (some .boolean)) ({ frames := 0, cells := 0, slots := 0, locals := 0 }) (va_Pc [.int a0, .int a1, .int a2] (fun U => U.heap = H0 ∧ jX B base G0 [] H0 ∧ jG dC dI ca base U ∧ jP (dC, dI) G0 H0 [] ∧ True)) (va_Qi (S := Unit) (fun r u => (r = 0 ∨ r = 1) ∧ (a1.toInt ≤ a0.toInt + 4294967296 * (1 - r.toInt) ∧ a0.toInt ≤ a2.toInt + 4294967296 * (1 - r.toInt) ∧ r.toInt = jIn a0.toInt a1.toInt a2.toInt)) (fun u t => jRt (dC, dI) B base G0 EX14_in H0 [] t.heap) (jA base)) 0 0 (jA base) := by
  refine Met.ofW (cc := cX14_in) (maxL := 3) (ret := (some .boolean)) (by decide) rfl ?_
  intro p e s m args below meth c s₁ Bd hml hv
  obtain ⟨rfl, hH0, hX, hG, hP0, hp0⟩ := hv
  have hK := hG.1
  have hx := Bd.exec
  have hb := Bd.bytes
  have hr := Bd.returns
  have hts := atoms_spec (ws := (jw yX14_in cX14_in 3 (some .boolean))) Bd.pre
  have htw : ∀ w ∈ jWl, w.before _ s = true := fun w h => hts w (List.mem_cons_of_mem _ h)
  have hown : s.vm.findClass RX14 = some m.cls := findClass_of_methodNamed Bd.named
  have hlocks := Bd.notSynchronized
  obtain ⟨Q, hQ⟩ : ∃ Q, Q = MQ below (va_Qi (S := Unit) (fun r u => (r = 0 ∨ r = 1) ∧ (a1.toInt ≤ a0.toInt + 4294967296 * (1 - r.toInt) ∧ a0.toInt ≤ a2.toInt + 4294967296 * (1 - r.toInt) ∧ r.toInt = jIn a0.toInt a1.toInt a2.toInt)) (fun u t => jRt (dC, dI) B base G0 EX14_in H0 [] t.heap) (jA base)) ([.int a0, .int a1, .int a2] : List Value).toArray s 0 0 (jA base) := ⟨_, rfl⟩
  rw [← hQ]
  have hl := lv_entry ([.int a0, .int a1, .int a2]) (n := 3) (Nat.le_of_ble_eq_true rfl)
  rw [lg_entry_eq]
  generalize (lg_sl ([.int a0, .int a1, .int a2]) ++ List.replicate (3 - (lg_sl ([.int a0, .int a1, .int a2])).length) Slot.unset).toArray = ls at hl ⊢
  have hl : lv_has ls 3 [(0, .int a0), (1, .int a1), (2, .int a2)] := hl
  generalize hR : (headSpec (jw yX14_in cX14_in 3 (some .boolean)) ({ frames := 0, cells := 0, slots := 0, locals := 0 })).room = R
  subst hH0
  have hh : jSt (dC, dI) B base G0 G0 EX14_in s.heap 0 0 [] [] [] s.heap [] := jSt.start hX hP0 jMc.nil jIs.nil
  clear hX hP0
  have hk0 : (0 : Int32).toInt = 0 := by decide
  have hk1 : (1 : Int32).toInt = 1 := by decide
  have hrg_a0 := jb_rng a0
  have hrg_a1 := jb_rng a1
  have hrg_a2 := jb_rng a2
  refine lv_iload_n hx hb dX14_in_0 rfl (lv_at hl 0 rfl) ?_
  refine lv_iload_n hx hb dX14_in_1 rfl (lv_at hl 1 rfl) ?_
  refine lv_icmp_lt (tgt := 14) hx hb dX14_in_2 (by decide) (fun c_1 => ?_) (fun c_1 => ?_)
  · skip
    have c_1' : a0.toInt < a1.toInt := jb_lt (rfl) (rfl) c_1
    refine lv_iconst (v := 0) hx hb dX14_in_14 (by decide) ?_
    rw [hQ]
    exact W.zret (v := 0) hx hb hr (jb_nz (Or.inl rfl)) (fun t ht hW => ⟨⟨0, (), rfl, ⟨(Or.inl rfl), by refine ⟨by omega, by omega, by unfold jIn; first | (rw [if_pos (by omega)]; decide) | (rw [if_neg (by omega)]; decide)⟩⟩, hh.rt (M1 := []) [] rfl ht⟩, by rw [ht]; try exact hh.1.1, fun q h9 hq => by rw [ht]; try exact hh.1.2.1 q h9 hq⟩) hh.1.2.2 dX14_in_15
  · skip
    have c_1' : a0.toInt ≥ a1.toInt := jb_lt_n (rfl) (rfl) c_1
    refine lv_iload_n hx hb dX14_in_5 rfl (lv_at hl 0 rfl) ?_
    refine lv_iload_n hx hb dX14_in_6 rfl (lv_at hl 2 rfl) ?_
    refine lv_icmp_gt (tgt := 14) hx hb dX14_in_7 (by decide) (fun c_2 => ?_) (fun c_2 => ?_)
    · skip
      have c_2' : a0.toInt > a2.toInt := jb_gt (rfl) (rfl) c_2
      refine lv_iconst (v := 0) hx hb dX14_in_14 (by decide) ?_
      rw [hQ]
      exact W.zret (v := 0) hx hb hr (jb_nz (Or.inl rfl)) (fun t ht hW => ⟨⟨0, (), rfl, ⟨(Or.inl rfl), by refine ⟨by omega, by omega, by unfold jIn; first | (rw [if_pos (by omega)]; decide) | (rw [if_neg (by omega)]; decide)⟩⟩, hh.rt (M1 := []) [] rfl ht⟩, by rw [ht]; try exact hh.1.1, fun q h9 hq => by rw [ht]; try exact hh.1.2.1 q h9 hq⟩) hh.1.2.2 dX14_in_15
    · skip
      have c_2' : a0.toInt ≤ a2.toInt := jb_gt_n (rfl) (rfl) c_2
      refine lv_iconst (v := 1) hx hb dX14_in_10 (by decide) ?_
      refine lv_goto (tgt := 15) hx hb dX14_in_11 (by decide) ?_
      rw [hQ]
      exact W.zret (v := 1) hx hb hr (jb_nz (Or.inr rfl)) (fun t ht hW => ⟨⟨1, (), rfl, ⟨(Or.inr rfl), by refine ⟨by omega, by omega, by unfold jIn; first | (rw [if_pos (by omega)]; decide) | (rw [if_neg (by omega)]; decide)⟩⟩, hh.rt (M1 := []) [] rfl ht⟩, by rw [ht]; try exact hh.1.1, fun q h9 hq => by rw [ht]; try exact hh.1.2.1 q h9 hq⟩) hh.1.2.2 dX14_in_15
end
