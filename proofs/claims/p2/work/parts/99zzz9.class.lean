theorem dX11_init_0 : decode cX11_init 0 = .ok (.aload_n 0, 1) := by decide +kernel
theorem dX11_init_1 : decode cX11_init 1 = .ok (.invokespecial 1, 3) := by decide +kernel
theorem dX11_init_4 : decode cX11_init 4 = .ok (.aload_n 0, 1) := by decide +kernel
theorem dX11_init_5 : decode cX11_init 5 = .ok (.new 7, 3) := by decide +kernel
theorem dX11_init_8 : decode cX11_init 8 = .ok (.dup, 1) := by decide +kernel
theorem dX11_init_9 : decode cX11_init 9 = .ok (.sipush 4000, 3) := by decide +kernel
theorem dX11_init_12 : decode cX11_init 12 = .ok (.invokespecial 11, 3) := by decide +kernel
theorem dX11_init_15 : decode cX11_init 15 = .ok (.putfield 14, 3) := by decide +kernel
theorem dX11_init_18 : decode cX11_init 18 = .ok (.aload_n 0, 1) := by decide +kernel
theorem dX11_init_19 : decode cX11_init 19 = .ok (.new 18, 3) := by decide +kernel
theorem dX11_init_22 : decode cX11_init 22 = .ok (.dup, 1) := by decide +kernel
theorem dX11_init_23 : decode cX11_init 23 = .ok (.invokespecial 20, 3) := by decide +kernel
theorem dX11_init_26 : decode cX11_init 26 = .ok (.putfield 21, 3) := by decide +kernel
theorem dX11_init_29 : decode cX11_init 29 = .ok (.aload_n 0, 1) := by decide +kernel
theorem dX11_init_30 : decode cX11_init 30 = .ok (.new 25, 3) := by decide +kernel
theorem dX11_init_33 : decode cX11_init 33 = .ok (.dup, 1) := by decide +kernel
theorem dX11_init_34 : decode cX11_init 34 = .ok (.invokespecial 27, 3) := by decide +kernel
theorem dX11_init_37 : decode cX11_init 37 = .ok (.putfield 28, 3) := by decide +kernel
theorem dX11_init_40 : decode cX11_init 40 = .ok (.aload_n 0, 1) := by decide +kernel
theorem dX11_init_41 : decode cX11_init 41 = .ok (.new 7, 3) := by decide +kernel
theorem dX11_init_44 : decode cX11_init 44 = .ok (.dup, 1) := by decide +kernel
theorem dX11_init_45 : decode cX11_init 45 = .ok (.sipush 20000, 3) := by decide +kernel
theorem dX11_init_48 : decode cX11_init 48 = .ok (.invokespecial 11, 3) := by decide +kernel
theorem dX11_init_51 : decode cX11_init 51 = .ok (.putfield 32, 3) := by decide +kernel
theorem dX11_init_54 : decode cX11_init 54 = .ok (.aload_n 0, 1) := by decide +kernel
theorem dX11_init_55 : decode cX11_init 55 = .ok (.new 7, 3) := by decide +kernel
theorem dX11_init_58 : decode cX11_init 58 = .ok (.dup, 1) := by decide +kernel
theorem dX11_init_59 : decode cX11_init 59 = .ok (.sipush 1024, 3) := by decide +kernel
theorem dX11_init_62 : decode cX11_init 62 = .ok (.invokespecial 11, 3) := by decide +kernel
theorem dX11_init_65 : decode cX11_init 65 = .ok (.putfield 35, 3) := by decide +kernel
theorem dX11_init_68 : decode cX11_init 68 = .ok (.aload_n 0, 1) := by decide +kernel
theorem dX11_init_69 : decode cX11_init 69 = .ok (.new 38, 3) := by decide +kernel
theorem dX11_init_72 : decode cX11_init 72 = .ok (.dup, 1) := by decide +kernel
theorem dX11_init_73 : decode cX11_init 73 = .ok (.invokespecial 40, 3) := by decide +kernel
theorem dX11_init_76 : decode cX11_init 76 = .ok (.putfield 41, 3) := by decide +kernel
theorem dX11_init_79 : decode cX11_init 79 = .ok (.aload_n 0, 1) := by decide +kernel
theorem dX11_init_80 : decode cX11_init 80 = .ok (.new 45, 3) := by decide +kernel
theorem dX11_init_83 : decode cX11_init 83 = .ok (.dup, 1) := by decide +kernel
theorem dX11_init_84 : decode cX11_init 84 = .ok (.aload_n 0, 1) := by decide +kernel
theorem dX11_init_85 : decode cX11_init 85 = .ok (.getfield 41, 3) := by decide +kernel
theorem dX11_init_88 : decode cX11_init 88 = .ok (.getfield 47, 3) := by decide +kernel
theorem dX11_init_91 : decode cX11_init 91 = .ok (.invokespecial 51, 3) := by decide +kernel
theorem dX11_init_94 : decode cX11_init 94 = .ok (.putfield 54, 3) := by decide +kernel
theorem dX11_init_97 : decode cX11_init 97 = .ok (.aload_n 0, 1) := by decide +kernel
theorem dX11_init_98 : decode cX11_init 98 = .ok (.new 58, 3) := by decide +kernel
theorem dX11_init_101 : decode cX11_init 101 = .ok (.dup, 1) := by decide +kernel
theorem dX11_init_102 : decode cX11_init 102 = .ok (.invokespecial 60, 3) := by decide +kernel
theorem dX11_init_105 : decode cX11_init 105 = .ok (.putfield 61, 3) := by decide +kernel
theorem dX11_init_108 : decode cX11_init 108 = .ok (.aload_n 0, 1) := by decide +kernel
theorem dX11_init_109 : decode cX11_init 109 = .ok (.new 58, 3) := by decide +kernel
theorem dX11_init_112 : decode cX11_init 112 = .ok (.dup, 1) := by decide +kernel
theorem dX11_init_113 : decode cX11_init 113 = .ok (.invokespecial 60, 3) := by decide +kernel
theorem dX11_init_116 : decode cX11_init 116 = .ok (.putfield 65, 3) := by decide +kernel
theorem dX11_init_119 : decode cX11_init 119 = .ok (.aload_n 0, 1) := by decide +kernel
theorem dX11_init_120 : decode cX11_init 120 = .ok (.new 58, 3) := by decide +kernel
theorem dX11_init_123 : decode cX11_init 123 = .ok (.dup, 1) := by decide +kernel
theorem dX11_init_124 : decode cX11_init 124 = .ok (.invokespecial 60, 3) := by decide +kernel
theorem dX11_init_127 : decode cX11_init 127 = .ok (.putfield 68, 3) := by decide +kernel
theorem dX11_init_130 : decode cX11_init 130 = .ok (.aload_n 0, 1) := by decide +kernel
theorem dX11_init_131 : decode cX11_init 131 = .ok (.iconst 2, 1) := by decide +kernel
theorem dX11_init_132 : decode cX11_init 132 = .ok (.anewarray 71, 3) := by decide +kernel
theorem dX11_init_135 : decode cX11_init 135 = .ok (.putfield 73, 3) := by decide +kernel
theorem dX11_init_138 : decode cX11_init 138 = .ok (.aload_n 0, 1) := by decide +kernel
theorem dX11_init_139 : decode cX11_init 139 = .ok (.iconst 0, 1) := by decide +kernel
theorem dX11_init_140 : decode cX11_init 140 = .ok (.putfield 77, 3) := by decide +kernel
theorem dX11_init_143 : decode cX11_init 143 = .ok (.aload_n 0, 1) := by decide +kernel
theorem dX11_init_144 : decode cX11_init 144 = .ok (.new 71, 3) := by decide +kernel
theorem dX11_init_147 : decode cX11_init 147 = .ok (.dup, 1) := by decide +kernel
theorem dX11_init_148 : decode cX11_init 148 = .ok (.invokespecial 81, 3) := by decide +kernel
theorem dX11_init_151 : decode cX11_init 151 = .ok (.putfield 82, 3) := by decide +kernel
theorem dX11_init_154 : decode cX11_init 154 = .ok (.aload_n 0, 1) := by decide +kernel
theorem dX11_init_155 : decode cX11_init 155 = .ok (.new 7, 3) := by decide +kernel
theorem dX11_init_158 : decode cX11_init 158 = .ok (.dup, 1) := by decide +kernel
theorem dX11_init_159 : decode cX11_init 159 = .ok (.sipush 256, 3) := by decide +kernel
theorem dX11_init_162 : decode cX11_init 162 = .ok (.invokespecial 11, 3) := by decide +kernel
theorem dX11_init_165 : decode cX11_init 165 = .ok (.putfield 86, 3) := by decide +kernel
theorem dX11_init_168 : decode cX11_init 168 = .ok (.aload_n 0, 1) := by decide +kernel
theorem dX11_init_169 : decode cX11_init 169 = .ok (.bipush (-2), 2) := by decide +kernel
theorem dX11_init_171 : decode cX11_init 171 = .ok (.putfield 89, 3) := by decide +kernel
theorem dX11_init_174 : decode cX11_init 174 = .ok (.return_, 1) := by decide +kernel
def EX11_init : List (Nat × Nat) := [(8, 3), (101, 0), (102, 0), (132, 0), (133, 0)]
set_option maxHeartbeats 4000000 in
set_option maxRecDepth 20000 in
theorem uX11_init (l : Launch) (dC : Nat → ClassId) (dI : Nat → Nat → Nat) (ca : Nat → ClassId) (base : Nat) (B : jF) (hB : jBok B) (hAp : jAp (dC, dI)) (hB1 : ∀ n G a H, B 1 n G a H ↔ jOb (dC, dI) 1 3 (F1 n G) a H) (hB2 : ∀ n G a H, B 2 n G a H ↔ jOb (dC, dI) 2 2 (F2 n G) a H) (hB3 : ∀ n G a H, B 3 n G a H ↔ jOb (dC, dI) 3 17 (F3 n G) a H) (hB4 : ∀ n G a H, B 4 n G a H ↔ jOb (dC, dI) 4 12 (F4 n G) a H) (hB5 : ∀ n G a H, B 5 n G a H ↔ jOb (dC, dI) 5 4 (F5 n G) a H) (hB6 : ∀ n G a H, B 6 n G a H ↔ jOb (dC, dI) 6 12 (F6 n G) a H) (hB7 : ∀ n G a H, B 7 n G a H ↔ jOb (dC, dI) 7 11 (F7 n G) a H) (hB8 : ∀ n G a H, B 8 n G a H ↔ jOb (dC, dI) 8 4 (F8 n G) a H) (hB9 : ∀ n G a H, B 9 n G a H ↔ jOb (dC, dI) 9 5 (F9b n G) a H) (hB11 : ∀ n G a H, B 11 n G a H ↔ jOb (dC, dI) 11 9 (F11 n G) a H) (hB12 : ∀ n G a H, B 12 n G a H ↔ jOb (dC, dI) 12 11 (F12b n G) a H) (hB13 : ∀ n G a H, B 13 n G a H ↔ jOb (dC, dI) 13 19 (F13 n G) a H) (hB100 : ∀ n G a H, B 100 n G a H ↔ jAr (dC, dI) (ca 0) (fun j z => True) n a H) (hB101 : ∀ n G a H, B 101 n G a H ↔ jAr (dC, dI) (ca 1) (fun j z => True) n a H) (hB102 : ∀ n G a H, B 102 n G a H ↔ jAl (dC, dI) (ca 2) n a H) (hB132 : ∀ n G a H, B 132 n G a H ↔ jAr (dC, dI) (ca 1) (fun j z => 0 ≤ z.toInt ∧ z.toInt ≤ 10) n a H) (hB133 : ∀ n G a H, B 133 n G a H ↔ jAr (dC, dI) (ca 1) (fun j z => 0 ≤ z.toInt ∧ z.toInt ≤ 8192) n a H) (hB140 : ∀ n G a H, B 140 n G a H ↔ jAr (dC, dI) (ca 1) (fun j z => True) n a H) (hB141 : ∀ n G a H, B 141 n G a H ↔ jAr (dC, dI) (ca 1) (fun j z => True) n a H) (hB142 : ∀ n G a H, B 142 n G a H ↔ jAr (dC, dI) (ca 1) (fun j z => True) n a H) (hB143 : ∀ n G a H, B 143 n G a H ↔ jAr (dC, dI) (ca 1) (fun j z => True) n a H) (hB144 : ∀ n G a H, B 144 n G a H ↔ jAr (dC, dI) (ca 1) (fun j z => 0 ≤ z.toInt ∧ z.toInt ≤ 3000) n a H) (hB145 : ∀ n G a H, B 145 n G a H ↔ jAr (dC, dI) (ca 1) (fun j z => True) n a H) (hB146 : ∀ n G a H, B 146 n G a H ↔ jAr (dC, dI) (ca 1) (fun j z => True) n a H) (hB171 : ∀ n G a H, B 171 n G a H ↔ jAr (dC, dI) (ca 1) (fun j z => 0 ≤ z.toInt ∧ z.toInt ≤ 1500) n a H) (hB172 : ∀ n G a H, B 172 n G a H ↔ jAr (dC, dI) (ca 1) (fun j z => 0 ≤ z.toInt ∧ z.toInt ≤ 1500) n a H) (hB196 : ∀ n G a H, B 196 n G a H ↔ jAr (dC, dI) (ca 0) (fun j z => jBf j z) n a H) (hB210 : ∀ n G a H, B 210 n G a H ↔ jAq (dC, dI) (ca 6) (jQn 11 0) n G a H) (hB211 : ∀ n G a H, B 211 n G a H ↔ jAq (dC, dI) (ca 7) (jQh) n G a H) (hB212 : ∀ n G a H, B 212 n G a H ↔ jAq (dC, dI) (ca 5) (jQn 3 0) n G a H) (hB214 : ∀ n G a H, B 214 n G a H ↔ jAq (dC, dI) (ca 7) (jQg) n G a H) (hB280 : ∀ n G a H, B 280 n G a H ↔ jAr (dC, dI) (ca 1) (fun j z => -1 ≤ z.toInt) n a H) (hB286 : ∀ n G a H, B 286 n G a H ↔ jAr (dC, dI) (ca 1) (fun j z => (0 ≤ z.toInt ∨ z.toInt = -3)) n a H) (hB287 : ∀ n G a H, B 287 n G a H ↔ jAr (dC, dI) (ca 1) (fun j z => 0 ≤ z.toInt ∧ z.toInt ≤ 65535) n a H) (hB288 : ∀ n G a H, B 288 n G a H ↔ jAr (dC, dI) (ca 1) (fun j z => 0 ≤ z.toInt ∧ z.toInt ≤ 160) n a H) (hB290 : ∀ n G a H, B 290 n G a H ↔ jAr (dC, dI) (ca 1) (fun j z => 0 ≤ z.toInt ∧ z.toInt ≤ 3000) n a H) (hB291 : ∀ n G a H, B 291 n G a H ↔ jAr (dC, dI) (ca 1) (fun j z => 0 ≤ z.toInt ∧ z.toInt ≤ 3000) n a H) (hB292 : ∀ n G a H, B 292 n G a H ↔ jAr (dC, dI) (ca 1) (fun j z => 0 ≤ z.toInt ∧ z.toInt ≤ 8191) n a H) (hB293 : ∀ n G a H, B 293 n G a H ↔ jAr (dC, dI) (ca 1) (fun j z => -1 ≤ z.toInt ∧ z.toInt ≤ 8191) n a H) (hB313 : ∀ n G a H, B 313 n G a H ↔ jAq (dC, dI) (ca 8) (jQk 280 80) n G a H) (G0 : jT) (H0 : Heap) (r0 : Nat) (LC LS : Nat) : Met l yX11_init (jw yX11_init cX11_init 1 none) ({ frames := 6, cells := LC - H0.size, slots := LS - jTot H0, locals := 184 }) (va_Pc [.ref r0] (fun U => U.heap = H0 ∧ jX B base G0 [] H0 ∧ jG dC dI ca base U ∧ jK2 dC dI ca U ∧ jK5 dC dI ca U ∧ jK6 U ∧ jK7 dC dI ca base U ∧ va_at (dC, dI) vwCl (r0, .inr (13, [.null, .null, .null, .null, .null, .null, .null, .null, .null, .null, .null, .int 0, .int 0, .int 0, .int 0, .null, .null, .null, .int 0])) H0 ∧ (∀ t, G0 r0 ≠ some t) ∧ base ≤ r0 ∧ jP (dC, dI) G0 H0 [] ∧ jIs (dC, dI) G0 H0 [(jFy, jYb dC dI G0), (jFs11, jSef dC dI G0), (jFl, jLs dC dI ca G0 0 none)] ∧ H0.size + 60 ≤ LC ∧ jTot H0 + 81884 ≤ LS ∧ True)) (va_Qv (S := jT) (fun u => True) (fun u t => jRa (dC, dI) B base G0 u EX11_init H0 (60) (81884) [] t.heap ∧ (jNk [0, 5, 10, 14, 15, 16]) G0 u ∧ u r0 = some (13, 0) ∧ jKx r0 G0 u H0 t.heap ∧ jIs (dC, dI) u t.heap [(jFy, jYb dC dI u), (jFs11, jSef dC dI u), (jFl, jLs dC dI ca u 3 none)]) (jA base)) (LC - H0.size) (LS - jTot H0) (jA base) := by
  refine Met.ofW (cc := cX11_init) (maxL := 1) (ret := none) (by decide) rfl ?_
  intro p e s m args below meth c s₁ Bd hml hv
  obtain ⟨rfl, hH0, hX, hG, hK2, hK5, hK6, hK7, hraw0, hnr0, hbr0, hP0, hI0, hLC0, hLS0, hp0⟩ := hv
  have hK := hG.1
  have hx := Bd.exec
  have hb := Bd.bytes
  have hr := Bd.returns
  have hts := atoms_spec (ws := (jw yX11_init cX11_init 1 none)) Bd.pre
  have htw : ∀ w ∈ jWl, w.before _ s = true := fun w h => hts w (List.mem_cons_of_mem _ h)
  have hown : s.vm.findClass RX11 = some m.cls := findClass_of_methodNamed Bd.named
  have hlocks := Bd.notSynchronized
  obtain ⟨Q, hQ⟩ : ∃ Q, Q = MQ below (va_Qv (S := jT) (fun u => True) (fun u t => jRa (dC, dI) B base G0 u EX11_init H0 (60) (81884) [] t.heap ∧ (jNk [0, 5, 10, 14, 15, 16]) G0 u ∧ u r0 = some (13, 0) ∧ jKx r0 G0 u H0 t.heap ∧ jIs (dC, dI) u t.heap [(jFy, jYb dC dI u), (jFs11, jSef dC dI u), (jFl, jLs dC dI ca u 3 none)]) (jA base)) ([.ref r0] : List Value).toArray s (LC - H0.size) (LS - jTot H0) (jA base) := ⟨_, rfl⟩
  rw [← hQ]
  have hl := lv_entry ([.ref r0]) (n := 1) (Nat.le_of_ble_eq_true rfl)
  rw [lg_entry_eq]
  generalize (lg_sl ([.ref r0]) ++ List.replicate (1 - (lg_sl ([.ref r0])).length) Slot.unset).toArray = ls at hl ⊢
  have hl : lv_has ls 1 [(0, .ref r0)] := hl
  generalize hR : (headSpec (jw yX11_init cX11_init 1 none) ({ frames := 6, cells := LC - H0.size, slots := LS - jTot H0, locals := 184 })).room = R
  subst hH0
  have hh : jSt (dC, dI) B base G0 G0 EX11_init s.heap 0 0 [] [] [(jFy, jYb dC dI G0), (jFs11, jSef dC dI G0), (jFl, jLs dC dI ca G0 0 none)] s.heap [] := jSt.start hX hP0 jMc.nil hI0
  clear hX hP0
  have hkm2 : ((-2) : Int32).toInt = (-2) := by decide
  have hk0 : (0 : Int32).toInt = 0 := by decide
  have hk1 : (1 : Int32).toInt = 1 := by decide
  have hk2 : (2 : Int32).toInt = 2 := by decide
  have hk256 : (256 : Int32).toInt = 256 := by decide
  have hk1024 : (1024 : Int32).toInt = 1024 := by decide
  have hk4000 : (4000 : Int32).toInt = 4000 := by decide
  have hk20000 : (20000 : Int32).toInt = 20000 := by decide
  have hly_7_0 := htw (u_lay RX5 TX5 0) (jWc_wsX50 _ (u_in_lay (by decide)))
  have hly_13_0 := htw (u_lay RX11 TX11 0) (jWc_wsX110 _ (u_in_lay (by decide)))
  have hly_13_1 := htw (u_lay RX11 TX11 1) (jWc_wsX110 _ (u_in_lay (by decide)))
  have hly_13_2 := htw (u_lay RX11 TX11 2) (jWc_wsX110 _ (u_in_lay (by decide)))
  have hly_13_3 := htw (u_lay RX11 TX11 3) (jWc_wsX110 _ (u_in_lay (by decide)))
  have hly_13_4 := htw (u_lay RX11 TX11 4) (jWc_wsX110 _ (u_in_lay (by decide)))
  have hly_13_5 := htw (u_lay RX11 TX11 5) (jWc_wsX110 _ (u_in_lay (by decide)))
  have hly_13_6 := htw (u_lay RX11 TX11 6) (jWc_wsX110 _ (u_in_lay (by decide)))
  have hly_13_7 := htw (u_lay RX11 TX11 7) (jWc_wsX110 _ (u_in_lay (by decide)))
  have hly_13_8 := htw (u_lay RX11 TX11 8) (jWc_wsX110 _ (u_in_lay (by decide)))
  have hly_13_9 := htw (u_lay RX11 TX11 9) (jWc_wsX110 _ (u_in_lay (by decide)))
  have hly_13_10 := htw (u_lay RX11 TX11 10) (jWc_wsX110 _ (u_in_lay (by decide)))
  have hly_13_11 := htw (u_lay RX11 TX11 11) (jWc_wsX110 _ (u_in_lay (by decide)))
  have hly_13_15 := htw (u_lay RX11 TX11 15) (jWc_wsX110 _ (u_in_lay (by decide)))
  have hly_13_17 := htw (u_lay RX11 TX11 17) (jWc_wsX110 _ (u_in_lay (by decide)))
  have hly_13_18 := htw (u_lay RX11 TX11 18) (jWc_wsX110 _ (u_in_lay (by decide)))
  have hlk_14 := (htw (.fieldLink RX11 14 "ProofServer" "tape" "LProofServer$Bytes;") (jWr_1 _ (List.mem_of_getElem? (i := 15) rfl)))
  have hlk_21 := (htw (.fieldLink RX11 21 "ProofServer" "frames" "LProofServer$Frames;") (jWr_1 _ (List.mem_of_getElem? (i := 19) rfl)))
  have hlk_28 := (htw (.fieldLink RX11 28 "ProofServer" "json" "LProofServer$Json;") (jWr_1 _ (List.mem_of_getElem? (i := 23) rfl)))
  have hlk_32 := (htw (.fieldLink RX11 32 "ProofServer" "output" "LProofServer$Bytes;") (jWr_2 _ (List.mem_of_getElem? (i := 0) rfl)))
  have hlk_35 := (htw (.fieldLink RX11 35 "ProofServer" "body" "LProofServer$Bytes;") (jWr_2 _ (List.mem_of_getElem? (i := 1) rfl)))
  have hlk_41 := (htw (.fieldLink RX11 41 "ProofServer" "kernel" "LProofServer$Kernel;") (jWr_2 _ (List.mem_of_getElem? (i := 5) rfl)))
  have hlk_47 := (htw (.fieldLink RX11 47 "ProofServer$Kernel" "names" "LProofServer$Names;") (jWr_2 _ (List.mem_of_getElem? (i := 9) rfl)))
  have hlk_54 := (htw (.fieldLink RX11 54 "ProofServer" "printer" "LProofServer$Printer;") (jWr_2 _ (List.mem_of_getElem? (i := 10) rfl)))
  have hlk_61 := (htw (.fieldLink RX11 61 "ProofServer" "open" "Ljava/util/List;") (jWr_2 _ (List.mem_of_getElem? (i := 14) rfl)))
  have hlk_65 := (htw (.fieldLink RX11 65 "ProofServer" "waiting" "Ljava/util/List;") (jWr_2 _ (List.mem_of_getElem? (i := 15) rfl)))
  have hlk_68 := (htw (.fieldLink RX11 68 "ProofServer" "cache" "Ljava/util/List;") (jWr_2 _ (List.mem_of_getElem? (i := 16) rfl)))
  have hlk_73 := (htw (.fieldLink RX11 73 "ProofServer" "hands" "[LProofServer$Document;") (jWr_2 _ (List.mem_of_getElem? (i := 18) rfl)))
  have hlk_77 := (htw (.fieldLink RX11 77 "ProofServer" "phase" "I") (jWr_2 _ (List.mem_of_getElem? (i := 19) rfl)))
  have hlk_82 := (htw (.fieldLink RX11 82 "ProofServer" "spare" "LProofServer$Document;") (jWr_2 _ (List.mem_of_getElem? (i := 22) rfl)))
  have hlk_86 := (htw (.fieldLink RX11 86 "ProofServer" "shown" "LProofServer$Bytes;") (jWr_2 _ (List.mem_of_getElem? (i := 23) rfl)))
  have hlk_89 := (htw (.fieldLink RX11 89 "ProofServer" "shownOf" "I") (jWr_3 _ (List.mem_of_getElem? (i := 0) rfl)))
  have hbs : base ≤ s.heap.size := Nat.le_of_lt (Nat.lt_of_le_of_lt hbr0 hraw0.lt)
  have hRc : R.cells = LC - s.heap.size := by rw [← hR]; rfl
  have hRs : R.slots = LS - jTot s.heap := by rw [← hR]; rfl
  have hin2 : meth.name = "<init>" := (name_of_methodNamed Bd.named Bd.method).1
  have hkp : jKx r0 G0 G0 s.heap s.heap := jKx.rf
  refine lv_aload_n hx hb dX11_init_0 rfl (lv_at hl 0 rfl) ?_
  refine W.objInit hx hb hown (htw (.methodLink RX11 1 objectInit) (jWr_1 _ (List.mem_of_getElem? (i := 9) rfl))) (htw (.instanceMethod objectInit) (jWr_1 _ (List.mem_of_getElem? (i := 10) rfl))) (htw (.code objectInit ⟨#[0xb1]⟩ 1 none) (jWr_1 _ (List.mem_of_getElem? (i := 11) rfl))) rfl (by rw [hml]; exact hl.1) rfl dX11_init_1 (by rw [← hR]; exact Nat.le_of_ble_eq_true rfl) (by rw [← hR]; exact Nat.le_of_ble_eq_true rfl) ?_
  refine W.eq (g2 := F0 m 4 ls []) rfl ?_
  refine lv_aload_n hx hb dX11_init_4 rfl (lv_at hl 0 rfl) ?_
  have hsz_1 := hh.2.2.2.2.2.1
  have htt_1 := hh.2.2.2.2.2.2.1
  refine j7_newo (k := 2) (C := RX0) (T := TX0) (N := 2) (fs := [.null, .int 0]) hx hb htw jWc_wsX00 (fun k => ([(.array .byte), .int] : List FieldType).getD k .int) (by decide +kernel) hown (htw (.classLink RX11 7 RX0) (jWr_1 _ (List.mem_of_getElem? (i := 12) rfl))) (htw (.instantiable RX0 2) (jWr_1 _ (List.mem_of_getElem? (i := 13) rfl))) (htw (.initialized RX0) (jWr_1 _ (List.mem_of_getElem? (i := 14) rfl))) hK rfl (fun j hj => by rcases (by omega : j = 0 ∨ j = 1) with rfl | rfl <;> rfl) hh hB (by rw [hRc]; omega) (by rw [hRs]; omega) dX11_init_5 (fun H_1 hraw_1 hfr_1 hnr_1 hh_1 => ?_)
  have hlt_2 := hraw0.lt
  have hke_1 : jKe G0 G0 s.heap H_1 := jKe.raw hfr_1
  have hbr_1 : base ≤ s.heap.size := Nat.le_trans hbs hh.1.1
  have hsy_1 : s.heap.size ≤ s.heap.size := hh.1.1
  clear hh
  have hkp_3 := hkp.tr hke_1
  have hraw_4n := hke_1.nr hraw0.lt hnr0
  have hraw_4 := hraw0.kept (hke_1.1 _ hraw0.lt)
  have hne_5 : r0 ≠ s.heap.size := Nat.ne_of_lt hlt_2
  refine lv_dup hx hb dX11_init_8 rfl ?_
  refine lv_sipush (v := 4000) hx hb dX11_init_9 (by decide) ?_
  clear hsz_1 htt_1
  have hsz_6 := hh_1.2.2.2.2.2.1
  have htt_6 := hh_1.2.2.2.2.2.2.1
  refine W.room (fun hrc_6 hrs_6 => ?_)
  refine va_callv (A0 := jA base) (H0 := s.heap) (va_runI (As := [.int 4000]) (rest := [.ref s.heap.size, .ref r0]) ⟨hx, hb, hml, hown, hts⟩ (uX0_initY l dC dI ca base B hB hAp hB2 hB196 G0 H_1 s.heap.size 4000 4000 LC LS) (cwI 1 hts (jgW (jWr_3 _ (List.mem_of_getElem? (i := 3) rfl))) rfl rfl rfl (htw (.initialized RX0) (jWr_1 _ (List.mem_of_getElem? (i := 14) rfl))) (htw (.methodLink RX11 11 yX0_init) (jWr_3 _ (List.mem_of_getElem? (i := 1) rfl))) (htw (.instanceMethod yX0_init) (jWr_3 _ (List.mem_of_getElem? (i := 2) rfl))) rfl (by decide +kernel) ⟨by rw [← hR]; exact Nat.le_of_ble_eq_true rfl, by rw [← hR]; exact Nat.le_of_ble_eq_true rfl⟩) ⟨fun a U g mk q => by obtain ⟨q0, q1, q2, qK, q10, q11, q12, q13, q14, q15⟩ := q; exact ⟨q0, q1, q2, jG.calling g mk a qK, q10, q11, q12, q13, q14, q15⟩, fun U hU hW => ⟨rfl, hU, hh_1.2.1, hG.step hW hU hh_1.1, hraw_1, hnr_1, hbr_1, jP.nil, (hh_1.2.2.2.2.2.2.2.2.sub (L1 := [(jFy, jYb dC dI G0)]) [0] rfl), (by omega), (by omega), ⟨(by first | omega | rfl | assumption | exact fun h9 => absurd h9 (by decide)), (by first | omega | rfl | assumption | exact fun h9 => absurd h9 (by decide)), (by first | omega | rfl | assumption | exact fun h9 => absurd h9 (by decide)), (by first | assumption | exact fun h9 => absurd h9 (by decide) | omega)⟩⟩⟩ rfl rfl hl.1 rfl (lv_room (Nat.le_of_ble_eq_true rfl)) dX11_init_12 ⟨by rw [hRc]; omega, by rw [hRs]; omega⟩) hh_1.1 (fun q _ h => h) (fun q h => h) (fun u_6 t_6 H_6 locs_6 ht_6 hvm_6 hr_7 hb_6 hz_6 hk_6 hS_6 => ?_)
  obtain ⟨qc_6, qa_6, m_qa_6, G_6⟩ := u_6
  rw [ht_6] at hb_6
  simp only at hb_6
  obtain ⟨⟨hb_61, hb_62, hb_63, hb_64, hb_65, hb_66⟩, hgq_6_0, hN_6, hgc_6, hbX_6, hbE_6⟩ := hb_6
  have hL_6 := hN_6
  have hM_6 := hN_6
  have hN_6 : (jNk [0, 5, 10, 14, 15, 16]) G0 G_6 := hN_6.sub (by decide)
  have hh_6 : jSt (dC, dI) B base G0 G_6 EX11_init s.heap ((0 + 1) + (1)) ((0 + 2) + ((4000 : Int).toNat)) [(s.heap.size, 2, 1, .int qc_6), (s.heap.size, 2, 0, .ref qa_6)] [] [(jFs11, jSef dC dI G0), (jFl, jLs dC dI ca G0 0 none)] H_6 locs_6 := (hh_1.callG hb_61 hb_62 hb_63 hb_64 hb_65 hS_6 rfl (L1 := []) [] rfl rfl (M1 := []) [] rfl rfl (I1 := [(jFs11, jSef dC dI G0), (jFl, jLs dC dI ca G0 0 none)]) [1, 2] rfl rfl).more hb_66
  have hNn_6 : (jNk [0, 5, 10, 14, 15, 16]) G0 G_6 := (jNk.rf).tr hN_6
  have hd_8 := jSef.grow (hh_6.iv 0 rfl) hb_62 hM_6 (by decide)
  have hh_9 := hh_6.sub (L1 := [(s.heap.size, 2, 1, .int qc_6), (s.heap.size, 2, 0, .ref qa_6)]) [0, 1] rfl (M1 := []) [] rfl (I1 := [(jFl, jLs dC dI ca G0 0 none)]) [1] rfl
  clear hh_6
  have hh_10 := hh_9.addI (jSef.ie hd_8)
  clear hh_9
  have hd_11 := jLs.grow (hh_10.iv 1 rfl) hb_62 hL_6 (by decide)
  have hh_12 := hh_10.sub (L1 := [(s.heap.size, 2, 1, .int qc_6), (s.heap.size, 2, 0, .ref qa_6)]) [0, 1] rfl (M1 := []) [] rfl (I1 := [(jFs11, jSef dC dI G_6)]) [0] rfl
  clear hh_10
  have hh_13 := hh_12.addI (jLs.ie hd_11)
  clear hh_12
  have hh_14 := hh_13.addIs hbE_6
  try simp only at hr_7
  obtain ⟨hr_7_0, hr_7_1⟩ := hr_7
  have hkp_15 := hkp_3.in hbX_6 hsy_1
  have hraw_16x := hbX_6.ke hraw_4.lt hne_5 hraw_4n
  have hraw_16 := hraw_4.kept hraw_16x.1
  refine j7_putRF hx hb hown hK hh_14 hB hAp hraw_16 hraw_16x.2 hbr0 (C := RX11) (T := TX11) (N := 19) rfl (i := 0) (by decide) (Nat.le_of_ble_eq_true rfl) hly_13_0 rfl hin2 rfl hlk_14 (ty := (.object "ProofServer$Bytes")) (v := .ref s.heap.size) (by decide +kernel) rfl rfl dX11_init_15 (fun H_17 locs_17 hraw_17 hr_17 hh_17 => ?_)
  have hraw_17 : va_at (dC, dI) vwCl (r0, .inr (13, [.ref s.heap.size, .null, .null, .null, .null, .null, .null, .null, .null, .null, .null, .int 0, .int 0, .int 0, .int 0, .null, .null, .null, .int 0])) H_17 := hraw_17
  have hkp_18 := hkp_15.put hr_17
  clear hh_14
  refine lv_aload_n hx hb dX11_init_18 rfl (lv_at hl 0 rfl) ?_
  clear hsz_6 htt_6 hrc_6 hrs_6
  have hsz_19 := hh_17.2.2.2.2.2.1
  have htt_19 := hh_17.2.2.2.2.2.2.1
  refine j7_newo (k := 4) (C := RX2) (T := TX2) (N := 12) (fs := [.null, .int 0, .int 0, .int 0, .int 0, .int 0, .int 0, .int 0, .int 0, .int 0, .int 0, .int 0]) hx hb htw jWc_wsX20 (fun k => ([(.array .byte), .int, .int, .int, .boolean, .int, .int, .int, .int, .boolean, .int, .int] : List FieldType).getD k .int) (by decide +kernel) hown (htw (.classLink RX11 18 RX2) (jWr_1 _ (List.mem_of_getElem? (i := 16) rfl))) (htw (.instantiable RX2 12) (jWr_1 _ (List.mem_of_getElem? (i := 17) rfl))) (htw (.initialized RX2) (jWr_1 _ (List.mem_of_getElem? (i := 18) rfl))) hK rfl (fun j hj => by rcases (by omega : j = 0 ∨ j = 1 ∨ j = 2 ∨ j = 3 ∨ j = 4 ∨ j = 5 ∨ j = 6 ∨ j = 7 ∨ j = 8 ∨ j = 9 ∨ j = 10 ∨ j = 11) with rfl | rfl | rfl | rfl | rfl | rfl | rfl | rfl | rfl | rfl | rfl | rfl <;> rfl) hh_17 hB (by rw [hRc]; omega) (by rw [hRs]; omega) dX11_init_19 (fun H_19 hraw_19 hfr_19 hnr_19 hh_19 => ?_)
  have hlt_20 := hraw_17.lt
  have hke_19 : jKe G_6 G_6 H_17 H_19 := jKe.raw hfr_19
  have hbr_19 : base ≤ H_17.size := Nat.le_trans hbs hh_17.1.1
  have hsy_19 : s.heap.size ≤ H_17.size := hh_17.1.1
  clear hh_17
  have hkp_21 := hkp_18.tr hke_19
  have hraw_22n := hke_19.nr hraw_17.lt hraw_16x.2
  have hraw_22 := hraw_17.kept (hke_19.1 _ hraw_17.lt)
  have hne_23 : r0 ≠ H_17.size := Nat.ne_of_lt hlt_20
  refine lv_dup hx hb dX11_init_22 rfl ?_
  clear hsz_19 htt_19
  have hsz_24 := hh_19.2.2.2.2.2.1
  have htt_24 := hh_19.2.2.2.2.2.2.1
  refine W.room (fun hrc_24 hrs_24 => ?_)
  refine va_callv (A0 := jA base) (H0 := s.heap) (va_runIN (As := []) (rest := [.ref H_17.size, .ref r0]) ⟨hx, hb, hml, hown, hts⟩ (uX2_init l dC dI ca base B hB hAp hB4 hB100 G_6 H_19 H_17.size LC LS) ⟨va_cnB 0 hts (jgW (jWr_3 _ (List.mem_of_getElem? (i := 12) rfl))) rfl rfl rfl (hG.2.2.1 RX11 20 yX2_init "ProofServer" (List.mem_of_getElem? (i := 62) (by decide +kernel))) (htw (.initialized RX2) (jWr_1 _ (List.mem_of_getElem? (i := 18) rfl))) (by decide +kernel) ⟨by rw [← hR]; exact Nat.le_of_ble_eq_true rfl, by rw [← hR]; exact Nat.le_of_ble_eq_true rfl⟩, rfl, htw (.instanceMethod yX2_init) (jWr_3 _ (List.mem_of_getElem? (i := 11) rfl))⟩ ⟨fun a U g mk q => by obtain ⟨q0, q1, q2, qK, q10, q11, q12, q13, q14⟩ := q; exact ⟨q0, q1, q2, jG.calling g mk a qK, q10, q11, q12, q13, q14⟩, fun U hU hW => ⟨rfl, hU, hh_19.2.1, hG.step hW hU hh_19.1, hraw_19, hnr_19, hbr_19, jP.nil, (by omega), (by omega), trivial⟩⟩ rfl rfl hl.1 rfl (lv_room (Nat.le_of_ble_eq_true rfl)) dX11_init_23 ⟨by rw [hRc]; omega, by rw [hRs]; omega⟩) hh_19.1 (fun q _ h => h) (fun q h => h) (fun u_24 t_24 H_24 locs_24 ht_24 hvm_24 hr_25 hb_24 hz_24 hk_24 hS_24 => ?_)
  rw [ht_24] at hb_24
  obtain ⟨G_24, rfl⟩ : ∃ z, z = u_24 := ⟨_, rfl⟩
  try simp only at hb_24
  obtain ⟨⟨hb_241, hb_242, hb_243, hb_244, hb_245, hb_246⟩, hN_24, hgc_24, hbX_24⟩ := hb_24
  have hL_24 := hN_24
  have hY_24 := hN_24
  have hM_24 := hN_24
  have hN_24 : (jNk [0, 5, 10, 14, 15, 16]) G_6 G_24 := hN_24.sub (by decide)
  have hh_24 : jSt (dC, dI) B base G0 G_24 EX11_init s.heap ((((0 + 1) + (1)) + 1) + (1)) ((((0 + 2) + ((4000 : Int).toNat)) + 12) + (3000)) [(s.heap.size, 2, 1, .int qc_6), (s.heap.size, 2, 0, .ref qa_6)] [] [(jFy, jYb dC dI G_6), (jFl, jLs dC dI ca G_6 0 none), (jFs11, jSef dC dI G_6)] H_24 locs_24 := (hh_19.callG hb_241 hb_242 hb_243 hb_244 hb_245 hS_24 rfl (L1 := [(s.heap.size, 2, 1, .int qc_6), (s.heap.size, 2, 0, .ref qa_6)]) [0, 1] rfl rfl (M1 := []) [] rfl rfl (I1 := [(jFy, jYb dC dI G_6), (jFl, jLs dC dI ca G_6 0 none), (jFs11, jSef dC dI G_6)]) [0, 1, 2] rfl rfl).more hb_246
  have hNn_24 : (jNk [0, 5, 10, 14, 15, 16]) G0 G_24 := (hNn_6).tr hN_24
  have hg_26 := hb_242 _ _ hgq_6_0
  have hd_27 := jYb.grow (hh_24.iv 0 rfl) hb_242 hY_24 (by decide)
  have hh_28 := hh_24.sub (L1 := [(s.heap.size, 2, 1, .int qc_6), (s.heap.size, 2, 0, .ref qa_6)]) [0, 1] rfl (M1 := []) [] rfl (I1 := [(jFl, jLs dC dI ca G_6 0 none), (jFs11, jSef dC dI G_6)]) [1, 2] rfl
  clear hh_24
  have hh_29 := hh_28.addI (jYb.ie hd_27)
  clear hh_28
  have hd_30 := jLs.grow (hh_29.iv 1 rfl) hb_242 hL_24 (by decide)
  have hh_31 := hh_29.sub (L1 := [(s.heap.size, 2, 1, .int qc_6), (s.heap.size, 2, 0, .ref qa_6)]) [0, 1] rfl (M1 := []) [] rfl (I1 := [(jFy, jYb dC dI G_24), (jFs11, jSef dC dI G_6)]) [0, 2] rfl
  clear hh_29
  have hh_32 := hh_31.addI (jLs.ie hd_30)
  clear hh_31
  have hd_33 := jSef.grow (hh_32.iv 2 rfl) hb_242 hM_24 (by decide)
  have hh_34 := hh_32.sub (L1 := [(s.heap.size, 2, 1, .int qc_6), (s.heap.size, 2, 0, .ref qa_6)]) [0, 1] rfl (M1 := []) [] rfl (I1 := [(jFl, jLs dC dI ca G_24 0 none), (jFy, jYb dC dI G_24)]) [0, 1] rfl
  clear hh_32
  have hh_35 := hh_34.addI (jSef.ie hd_33)
  clear hh_34
  try simp only at hr_25
  have hkp_36 := hkp_21.in hbX_24 hsy_19
  have hraw_37x := hbX_24.ke hraw_22.lt hne_23 hraw_22n
  have hraw_37 := hraw_22.kept hraw_37x.1
  refine j7_putRF hx hb hown hK hh_35 hB hAp hraw_37 hraw_37x.2 hbr0 (C := RX11) (T := TX11) (N := 19) rfl (i := 1) (by decide) (Nat.le_of_ble_eq_true rfl) hly_13_1 rfl hin2 rfl hlk_21 (ty := (.object "ProofServer$Frames")) (v := .ref H_17.size) (by decide +kernel) rfl rfl dX11_init_26 (fun H_38 locs_38 hraw_38 hr_38 hh_38 => ?_)
  have hraw_38 : va_at (dC, dI) vwCl (r0, .inr (13, [.ref s.heap.size, .ref H_17.size, .null, .null, .null, .null, .null, .null, .null, .null, .null, .int 0, .int 0, .int 0, .int 0, .null, .null, .null, .int 0])) H_38 := hraw_38
  have hkp_39 := hkp_36.put hr_38
  clear hh_35
  refine lv_aload_n hx hb dX11_init_29 rfl (lv_at hl 0 rfl) ?_
  clear hsz_24 htt_24 hrc_24 hrs_24
  have hsz_40 := hh_38.2.2.2.2.2.1
  have htt_40 := hh_38.2.2.2.2.2.2.1
  refine j7_newo (k := 6) (C := RX4) (T := TX4) (N := 12) (fs := [.null, .null, .null, .null, .null, .null, .null, .int 0, .int 0, .null, .int 0, .int 0]) hx hb htw jWc_wsX40 (fun k => ([(.array .int), (.array .int), (.array .int), (.array .int), (.array .int), (.array .int), (.array .int), .int, .int, (.array .byte), .int, .int] : List FieldType).getD k .int) (by decide +kernel) hown (htw (.classLink RX11 25 RX4) (jWr_1 _ (List.mem_of_getElem? (i := 20) rfl))) (htw (.instantiable RX4 12) (jWr_1 _ (List.mem_of_getElem? (i := 21) rfl))) (htw (.initialized RX4) (jWr_1 _ (List.mem_of_getElem? (i := 22) rfl))) hK rfl (fun j hj => by rcases (by omega : j = 0 ∨ j = 1 ∨ j = 2 ∨ j = 3 ∨ j = 4 ∨ j = 5 ∨ j = 6 ∨ j = 7 ∨ j = 8 ∨ j = 9 ∨ j = 10 ∨ j = 11) with rfl | rfl | rfl | rfl | rfl | rfl | rfl | rfl | rfl | rfl | rfl | rfl <;> rfl) hh_38 hB (by rw [hRc]; omega) (by rw [hRs]; omega) dX11_init_30 (fun H_40 hraw_40 hfr_40 hnr_40 hh_40 => ?_)
  have hlt_41 := hraw_38.lt
  have hke_40 : jKe G_24 G_24 H_38 H_40 := jKe.raw hfr_40
  have hbr_40 : base ≤ H_38.size := Nat.le_trans hbs hh_38.1.1
  have hsy_40 : s.heap.size ≤ H_38.size := hh_38.1.1
  clear hh_38
  have hkp_42 := hkp_39.tr hke_40
  have hraw_43n := hke_40.nr hraw_38.lt hraw_37x.2
  have hraw_43 := hraw_38.kept (hke_40.1 _ hraw_38.lt)
  have hne_44 : r0 ≠ H_38.size := Nat.ne_of_lt hlt_41
  refine lv_dup hx hb dX11_init_33 rfl ?_
  clear hsz_40 htt_40
  have hsz_45 := hh_40.2.2.2.2.2.1
  have htt_45 := hh_40.2.2.2.2.2.2.1
  refine W.room (fun hrc_45 hrs_45 => ?_)
  refine va_callv (A0 := jA base) (H0 := s.heap) (va_runIN (As := []) (rest := [.ref H_38.size, .ref r0]) ⟨hx, hb, hml, hown, hts⟩ (uX4_init l dC dI ca base B hB hAp hB6 hB100 hB140 hB141 hB142 hB143 hB144 hB145 hB146 G_24 H_40 H_38.size LC LS) ⟨va_cnB 0 hts (jgW (jWr_3 _ (List.mem_of_getElem? (i := 18) rfl))) rfl rfl rfl (hG.2.2.1 RX11 27 yX4_init "ProofServer" (List.mem_of_getElem? (i := 110) (by decide +kernel))) (htw (.initialized RX4) (jWr_1 _ (List.mem_of_getElem? (i := 22) rfl))) (by decide +kernel) ⟨by rw [← hR]; exact Nat.le_of_ble_eq_true rfl, by rw [← hR]; exact Nat.le_of_ble_eq_true rfl⟩, rfl, htw (.instanceMethod yX4_init) (jWr_3 _ (List.mem_of_getElem? (i := 17) rfl))⟩ ⟨fun a U g mk q => by obtain ⟨q0, q1, q2, qK, q10, q11, q12, q13, q14⟩ := q; exact ⟨q0, q1, q2, jG.calling g mk a qK, q10, q11, q12, q13, q14⟩, fun U hU hW => ⟨rfl, hU, hh_40.2.1, hG.step hW hU hh_40.1, hraw_40, hnr_40, hbr_40, jP.nil, (by omega), (by omega), trivial⟩⟩ rfl rfl hl.1 rfl (lv_room (Nat.le_of_ble_eq_true rfl)) dX11_init_34 ⟨by rw [hRc]; omega, by rw [hRs]; omega⟩) hh_40.1 (fun q _ h => h) (fun q h => h) (fun u_45 t_45 H_45 locs_45 ht_45 hvm_45 hr_46 hb_45 hz_45 hk_45 hS_45 => ?_)
  rw [ht_45] at hb_45
  obtain ⟨G_45, rfl⟩ : ∃ z, z = u_45 := ⟨_, rfl⟩
  try simp only at hb_45
  obtain ⟨⟨hb_451, hb_452, hb_453, hb_454, hb_455, hb_456⟩, hN_45, hgc_45, hbX_45⟩ := hb_45
  have hL_45 := hN_45
  have hY_45 := hN_45
  have hM_45 := hN_45
  have hN_45 : (jNk [0, 5, 10, 14, 15, 16]) G_24 G_45 := hN_45.sub (by decide)
  have hh_45 : jSt (dC, dI) B base G0 G_45 EX11_init s.heap ((((((0 + 1) + (1)) + 1) + (1)) + 1) + (8)) ((((((0 + 2) + ((4000 : Int).toNat)) + 12) + (3000)) + 12) + (12012)) [(s.heap.size, 2, 1, .int qc_6), (s.heap.size, 2, 0, .ref qa_6)] [] [(jFs11, jSef dC dI G_24), (jFl, jLs dC dI ca G_24 0 none), (jFy, jYb dC dI G_24)] H_45 locs_45 := (hh_40.callG hb_451 hb_452 hb_453 hb_454 hb_455 hS_45 rfl (L1 := [(s.heap.size, 2, 1, .int qc_6), (s.heap.size, 2, 0, .ref qa_6)]) [0, 1] rfl rfl (M1 := []) [] rfl rfl (I1 := [(jFs11, jSef dC dI G_24), (jFl, jLs dC dI ca G_24 0 none), (jFy, jYb dC dI G_24)]) [0, 1, 2] rfl rfl).more hb_456
  have hNn_45 : (jNk [0, 5, 10, 14, 15, 16]) G0 G_45 := (hNn_24).tr hN_45
  have hg_47 := hb_452 _ _ hg_26
  have hd_48 := jSef.grow (hh_45.iv 0 rfl) hb_452 hM_45 (by decide)
  have hh_49 := hh_45.sub (L1 := [(s.heap.size, 2, 1, .int qc_6), (s.heap.size, 2, 0, .ref qa_6)]) [0, 1] rfl (M1 := []) [] rfl (I1 := [(jFl, jLs dC dI ca G_24 0 none), (jFy, jYb dC dI G_24)]) [1, 2] rfl
  clear hh_45
  have hh_50 := hh_49.addI (jSef.ie hd_48)
  clear hh_49
  have hd_51 := jLs.grow (hh_50.iv 1 rfl) hb_452 hL_45 (by decide)
  have hh_52 := hh_50.sub (L1 := [(s.heap.size, 2, 1, .int qc_6), (s.heap.size, 2, 0, .ref qa_6)]) [0, 1] rfl (M1 := []) [] rfl (I1 := [(jFs11, jSef dC dI G_45), (jFy, jYb dC dI G_24)]) [0, 2] rfl
  clear hh_50
  have hh_53 := hh_52.addI (jLs.ie hd_51)
  clear hh_52
  have hd_54 := jYb.grow (hh_53.iv 2 rfl) hb_452 hY_45 (by decide)
  have hh_55 := hh_53.sub (L1 := [(s.heap.size, 2, 1, .int qc_6), (s.heap.size, 2, 0, .ref qa_6)]) [0, 1] rfl (M1 := []) [] rfl (I1 := [(jFl, jLs dC dI ca G_45 0 none), (jFs11, jSef dC dI G_45)]) [0, 1] rfl
  clear hh_53
  have hh_56 := hh_55.addI (jYb.ie hd_54)
  clear hh_55
  try simp only at hr_46
  have hkp_57 := hkp_42.in hbX_45 hsy_40
  have hraw_58x := hbX_45.ke hraw_43.lt hne_44 hraw_43n
  have hraw_58 := hraw_43.kept hraw_58x.1
  refine j7_putRF hx hb hown hK hh_56 hB hAp hraw_58 hraw_58x.2 hbr0 (C := RX11) (T := TX11) (N := 19) rfl (i := 2) (by decide) (Nat.le_of_ble_eq_true rfl) hly_13_2 rfl hin2 rfl hlk_28 (ty := (.object "ProofServer$Json")) (v := .ref H_38.size) (by decide +kernel) rfl rfl dX11_init_37 (fun H_59 locs_59 hraw_59 hr_59 hh_59 => ?_)
  have hraw_59 : va_at (dC, dI) vwCl (r0, .inr (13, [.ref s.heap.size, .ref H_17.size, .ref H_38.size, .null, .null, .null, .null, .null, .null, .null, .null, .int 0, .int 0, .int 0, .int 0, .null, .null, .null, .int 0])) H_59 := hraw_59
  have hkp_60 := hkp_57.put hr_59
  clear hh_56
  refine lv_aload_n hx hb dX11_init_40 rfl (lv_at hl 0 rfl) ?_
  clear hsz_45 htt_45 hrc_45 hrs_45
  have hsz_61 := hh_59.2.2.2.2.2.1
  have htt_61 := hh_59.2.2.2.2.2.2.1
  refine j7_newo (k := 2) (C := RX0) (T := TX0) (N := 2) (fs := [.null, .int 0]) hx hb htw jWc_wsX00 (fun k => ([(.array .byte), .int] : List FieldType).getD k .int) (by decide +kernel) hown (htw (.classLink RX11 7 RX0) (jWr_1 _ (List.mem_of_getElem? (i := 12) rfl))) (htw (.instantiable RX0 2) (jWr_1 _ (List.mem_of_getElem? (i := 13) rfl))) (htw (.initialized RX0) (jWr_1 _ (List.mem_of_getElem? (i := 14) rfl))) hK rfl (fun j hj => by rcases (by omega : j = 0 ∨ j = 1) with rfl | rfl <;> rfl) hh_59 hB (by rw [hRc]; omega) (by rw [hRs]; omega) dX11_init_41 (fun H_61 hraw_61 hfr_61 hnr_61 hh_61 => ?_)
  have hlt_62 := hraw_59.lt
  have hke_61 : jKe G_45 G_45 H_59 H_61 := jKe.raw hfr_61
  have hbr_61 : base ≤ H_59.size := Nat.le_trans hbs hh_59.1.1
  have hsy_61 : s.heap.size ≤ H_59.size := hh_59.1.1
  clear hh_59
  have hkp_63 := hkp_60.tr hke_61
  have hraw_64n := hke_61.nr hraw_59.lt hraw_58x.2
  have hraw_64 := hraw_59.kept (hke_61.1 _ hraw_59.lt)
  have hne_65 : r0 ≠ H_59.size := Nat.ne_of_lt hlt_62
  refine lv_dup hx hb dX11_init_44 rfl ?_
  refine lv_sipush (v := 20000) hx hb dX11_init_45 (by decide) ?_
  clear hsz_61 htt_61
  have hsz_66 := hh_61.2.2.2.2.2.1
  have htt_66 := hh_61.2.2.2.2.2.2.1
  refine W.room (fun hrc_66 hrs_66 => ?_)
  refine va_callv (A0 := jA base) (H0 := s.heap) (va_runI (As := [.int 20000]) (rest := [.ref H_59.size, .ref r0]) ⟨hx, hb, hml, hown, hts⟩ (uX0_initY l dC dI ca base B hB hAp hB2 hB196 G_45 H_61 H_59.size 20000 20000 LC LS) (cwI 1 hts (jgW (jWr_3 _ (List.mem_of_getElem? (i := 3) rfl))) rfl rfl rfl (htw (.initialized RX0) (jWr_1 _ (List.mem_of_getElem? (i := 14) rfl))) (htw (.methodLink RX11 11 yX0_init) (jWr_3 _ (List.mem_of_getElem? (i := 1) rfl))) (htw (.instanceMethod yX0_init) (jWr_3 _ (List.mem_of_getElem? (i := 2) rfl))) rfl (by decide +kernel) ⟨by rw [← hR]; exact Nat.le_of_ble_eq_true rfl, by rw [← hR]; exact Nat.le_of_ble_eq_true rfl⟩) ⟨fun a U g mk q => by obtain ⟨q0, q1, q2, qK, q10, q11, q12, q13, q14, q15⟩ := q; exact ⟨q0, q1, q2, jG.calling g mk a qK, q10, q11, q12, q13, q14, q15⟩, fun U hU hW => ⟨rfl, hU, hh_61.2.1, hG.step hW hU hh_61.1, hraw_61, hnr_61, hbr_61, jP.nil, (hh_61.2.2.2.2.2.2.2.2.sub (L1 := [(jFy, jYb dC dI G_45)]) [0] rfl), (by omega), (by omega), ⟨(by first | omega | rfl | assumption | exact fun h9 => absurd h9 (by decide)), (by first | omega | rfl | assumption | exact fun h9 => absurd h9 (by decide)), (by first | omega | rfl | assumption | exact fun h9 => absurd h9 (by decide)), (by first | assumption | exact fun h9 => absurd h9 (by decide) | omega)⟩⟩⟩ rfl rfl hl.1 rfl (lv_room (Nat.le_of_ble_eq_true rfl)) dX11_init_48 ⟨by rw [hRc]; omega, by rw [hRs]; omega⟩) hh_61.1 (fun q _ h => h) (fun q h => h) (fun u_66 t_66 H_66 locs_66 ht_66 hvm_66 hr_67 hb_66 hz_66 hk_66 hS_66 => ?_)
  obtain ⟨qc_66, qa_66, m_qa_66, G_66⟩ := u_66
  rw [ht_66] at hb_66
  simp only at hb_66
  obtain ⟨⟨hb_661, hb_662, hb_663, hb_664, hb_665, hb_666⟩, hgq_66_0, hN_66, hgc_66, hbX_66, hbE_66⟩ := hb_66
  have hL_66 := hN_66
  have hM_66 := hN_66
  have hN_66 : (jNk [0, 5, 10, 14, 15, 16]) G_45 G_66 := hN_66.sub (by decide)
  have hh_66 : jSt (dC, dI) B base G0 G_66 EX11_init s.heap ((((((((0 + 1) + (1)) + 1) + (1)) + 1) + (8)) + 1) + (1)) ((((((((0 + 2) + ((4000 : Int).toNat)) + 12) + (3000)) + 12) + (12012)) + 2) + ((20000 : Int).toNat)) [(H_59.size, 2, 1, .int qc_66), (H_59.size, 2, 0, .ref qa_66), (s.heap.size, 2, 1, .int qc_6), (s.heap.size, 2, 0, .ref qa_6)] [] [(jFl, jLs dC dI ca G_45 0 none), (jFs11, jSef dC dI G_45)] H_66 locs_66 := (hh_61.callG hb_661 hb_662 hb_663 hb_664 hb_665 hS_66 rfl (L1 := [(s.heap.size, 2, 1, .int qc_6), (s.heap.size, 2, 0, .ref qa_6)]) [0, 1] rfl rfl (M1 := []) [] rfl rfl (I1 := [(jFl, jLs dC dI ca G_45 0 none), (jFs11, jSef dC dI G_45)]) [1, 2] rfl rfl).more hb_666
  have hNn_66 : (jNk [0, 5, 10, 14, 15, 16]) G0 G_66 := (hNn_45).tr hN_66
  have hg_68 := hb_662 _ _ hg_47
  have hd_69 := jLs.grow (hh_66.iv 0 rfl) hb_662 hL_66 (by decide)
  have hh_70 := hh_66.sub (L1 := [(H_59.size, 2, 1, .int qc_66), (H_59.size, 2, 0, .ref qa_66), (s.heap.size, 2, 1, .int qc_6), (s.heap.size, 2, 0, .ref qa_6)]) [0, 1, 2, 3] rfl (M1 := []) [] rfl (I1 := [(jFs11, jSef dC dI G_45)]) [1] rfl
  clear hh_66
  have hh_71 := hh_70.addI (jLs.ie hd_69)
  clear hh_70
  have hd_72 := jSef.grow (hh_71.iv 1 rfl) hb_662 hM_66 (by decide)
  have hh_73 := hh_71.sub (L1 := [(H_59.size, 2, 1, .int qc_66), (H_59.size, 2, 0, .ref qa_66), (s.heap.size, 2, 1, .int qc_6), (s.heap.size, 2, 0, .ref qa_6)]) [0, 1, 2, 3] rfl (M1 := []) [] rfl (I1 := [(jFl, jLs dC dI ca G_66 0 none)]) [0] rfl
  clear hh_71
  have hh_74 := hh_73.addI (jSef.ie hd_72)
  clear hh_73
  have hh_75 := hh_74.addIs hbE_66
  try simp only at hr_67
  obtain ⟨hr_67_0, hr_67_1⟩ := hr_67
  have hkp_76 := hkp_63.in hbX_66 hsy_61
  have hraw_77x := hbX_66.ke hraw_64.lt hne_65 hraw_64n
  have hraw_77 := hraw_64.kept hraw_77x.1
  refine j7_putRF hx hb hown hK hh_75 hB hAp hraw_77 hraw_77x.2 hbr0 (C := RX11) (T := TX11) (N := 19) rfl (i := 3) (by decide) (Nat.le_of_ble_eq_true rfl) hly_13_3 rfl hin2 rfl hlk_32 (ty := (.object "ProofServer$Bytes")) (v := .ref H_59.size) (by decide +kernel) rfl rfl dX11_init_51 (fun H_78 locs_78 hraw_78 hr_78 hh_78 => ?_)
  have hraw_78 : va_at (dC, dI) vwCl (r0, .inr (13, [.ref s.heap.size, .ref H_17.size, .ref H_38.size, .ref H_59.size, .null, .null, .null, .null, .null, .null, .null, .int 0, .int 0, .int 0, .int 0, .null, .null, .null, .int 0])) H_78 := hraw_78
  have hkp_79 := hkp_76.put hr_78
  clear hh_75
  refine lv_aload_n hx hb dX11_init_54 rfl (lv_at hl 0 rfl) ?_
  clear hsz_66 htt_66 hrc_66 hrs_66
  have hsz_80 := hh_78.2.2.2.2.2.1
  have htt_80 := hh_78.2.2.2.2.2.2.1
  refine j7_newo (k := 2) (C := RX0) (T := TX0) (N := 2) (fs := [.null, .int 0]) hx hb htw jWc_wsX00 (fun k => ([(.array .byte), .int] : List FieldType).getD k .int) (by decide +kernel) hown (htw (.classLink RX11 7 RX0) (jWr_1 _ (List.mem_of_getElem? (i := 12) rfl))) (htw (.instantiable RX0 2) (jWr_1 _ (List.mem_of_getElem? (i := 13) rfl))) (htw (.initialized RX0) (jWr_1 _ (List.mem_of_getElem? (i := 14) rfl))) hK rfl (fun j hj => by rcases (by omega : j = 0 ∨ j = 1) with rfl | rfl <;> rfl) hh_78 hB (by rw [hRc]; omega) (by rw [hRs]; omega) dX11_init_55 (fun H_80 hraw_80 hfr_80 hnr_80 hh_80 => ?_)
  have hlt_81 := hraw_78.lt
  have hke_80 : jKe G_66 G_66 H_78 H_80 := jKe.raw hfr_80
  have hbr_80 : base ≤ H_78.size := Nat.le_trans hbs hh_78.1.1
  have hsy_80 : s.heap.size ≤ H_78.size := hh_78.1.1
  clear hh_78
  have hkp_82 := hkp_79.tr hke_80
  have hraw_83n := hke_80.nr hraw_78.lt hraw_77x.2
  have hraw_83 := hraw_78.kept (hke_80.1 _ hraw_78.lt)
  have hne_84 : r0 ≠ H_78.size := Nat.ne_of_lt hlt_81
  refine lv_dup hx hb dX11_init_58 rfl ?_
  refine lv_sipush (v := 1024) hx hb dX11_init_59 (by decide) ?_
  clear hsz_80 htt_80
  have hsz_85 := hh_80.2.2.2.2.2.1
  have htt_85 := hh_80.2.2.2.2.2.2.1
  refine W.room (fun hrc_85 hrs_85 => ?_)
  refine va_callv (A0 := jA base) (H0 := s.heap) (va_runI (As := [.int 1024]) (rest := [.ref H_78.size, .ref r0]) ⟨hx, hb, hml, hown, hts⟩ (uX0_initY l dC dI ca base B hB hAp hB2 hB196 G_66 H_80 H_78.size 1024 0 LC LS) (cwI 1 hts (jgW (jWr_3 _ (List.mem_of_getElem? (i := 3) rfl))) rfl rfl rfl (htw (.initialized RX0) (jWr_1 _ (List.mem_of_getElem? (i := 14) rfl))) (htw (.methodLink RX11 11 yX0_init) (jWr_3 _ (List.mem_of_getElem? (i := 1) rfl))) (htw (.instanceMethod yX0_init) (jWr_3 _ (List.mem_of_getElem? (i := 2) rfl))) rfl (by decide +kernel) ⟨by rw [← hR]; exact Nat.le_of_ble_eq_true rfl, by rw [← hR]; exact Nat.le_of_ble_eq_true rfl⟩) ⟨fun a U g mk q => by obtain ⟨q0, q1, q2, qK, q10, q11, q12, q13, q14, q15⟩ := q; exact ⟨q0, q1, q2, jG.calling g mk a qK, q10, q11, q12, q13, q14, q15⟩, fun U hU hW => ⟨rfl, hU, hh_80.2.1, hG.step hW hU hh_80.1, hraw_80, hnr_80, hbr_80, jP.nil, (hh_80.2.2.2.2.2.2.2.2.sub (L1 := [(jFy, jYb dC dI G_66)]) [0] rfl), (by omega), (by omega), ⟨(by first | omega | rfl | assumption | exact fun _ => ⟨6, by decide, by decide⟩), (by first | omega | rfl | assumption | exact fun _ => ⟨6, by decide, by decide⟩), (by first | omega | rfl | assumption | exact fun _ => ⟨6, by decide, by decide⟩), (by first | assumption | exact fun _ => ⟨6, by decide, by decide⟩ | omega)⟩⟩⟩ rfl rfl hl.1 rfl (lv_room (Nat.le_of_ble_eq_true rfl)) dX11_init_62 ⟨by rw [hRc]; omega, by rw [hRs]; omega⟩) hh_80.1 (fun q _ h => h) (fun q h => h) (fun u_85 t_85 H_85 locs_85 ht_85 hvm_85 hr_86 hb_85 hz_85 hk_85 hS_85 => ?_)
  obtain ⟨qc_85, qa_85, m_qa_85, G_85⟩ := u_85
  rw [ht_85] at hb_85
  simp only at hb_85
  obtain ⟨⟨hb_851, hb_852, hb_853, hb_854, hb_855, hb_856⟩, hgq_85_0, hN_85, hgc_85, hbX_85, hbE_85⟩ := hb_85
  have hL_85 := hN_85
  have hM_85 := hN_85
  have hN_85 : (jNk [0, 5, 10, 14, 15, 16]) G_66 G_85 := hN_85.sub (by decide)
  have hh_85 : jSt (dC, dI) B base G0 G_85 EX11_init s.heap ((((((((((0 + 1) + (1)) + 1) + (1)) + 1) + (8)) + 1) + (1)) + 1) + (1)) ((((((((((0 + 2) + ((4000 : Int).toNat)) + 12) + (3000)) + 12) + (12012)) + 2) + ((20000 : Int).toNat)) + 2) + ((1024 : Int).toNat)) [(H_78.size, 2, 1, .int qc_85), (H_78.size, 2, 0, .ref qa_85), (H_59.size, 2, 1, .int qc_66), (H_59.size, 2, 0, .ref qa_66), (s.heap.size, 2, 1, .int qc_6), (s.heap.size, 2, 0, .ref qa_6)] [] [(jFs11, jSef dC dI G_66), (jFl, jLs dC dI ca G_66 0 none)] H_85 locs_85 := (hh_80.callG hb_851 hb_852 hb_853 hb_854 hb_855 hS_85 rfl (L1 := [(H_59.size, 2, 1, .int qc_66), (H_59.size, 2, 0, .ref qa_66), (s.heap.size, 2, 1, .int qc_6), (s.heap.size, 2, 0, .ref qa_6)]) [0, 1, 2, 3] rfl rfl (M1 := []) [] rfl rfl (I1 := [(jFs11, jSef dC dI G_66), (jFl, jLs dC dI ca G_66 0 none)]) [1, 2] rfl rfl).more hb_856
  have hNn_85 : (jNk [0, 5, 10, 14, 15, 16]) G0 G_85 := (hNn_66).tr hN_85
  have hg_87 := hb_852 _ _ hgq_66_0
  have hg_88 := hb_852 _ _ hg_68
  have hd_89 := jSef.grow (hh_85.iv 0 rfl) hb_852 hM_85 (by decide)
  have hh_90 := hh_85.sub (L1 := [(H_78.size, 2, 1, .int qc_85), (H_78.size, 2, 0, .ref qa_85), (H_59.size, 2, 1, .int qc_66), (H_59.size, 2, 0, .ref qa_66), (s.heap.size, 2, 1, .int qc_6), (s.heap.size, 2, 0, .ref qa_6)]) [0, 1, 2, 3, 4, 5] rfl (M1 := []) [] rfl (I1 := [(jFl, jLs dC dI ca G_66 0 none)]) [1] rfl
  clear hh_85
  have hh_91 := hh_90.addI (jSef.ie hd_89)
  clear hh_90
  have hd_92 := jLs.grow (hh_91.iv 1 rfl) hb_852 hL_85 (by decide)
  have hh_93 := hh_91.sub (L1 := [(H_78.size, 2, 1, .int qc_85), (H_78.size, 2, 0, .ref qa_85), (H_59.size, 2, 1, .int qc_66), (H_59.size, 2, 0, .ref qa_66), (s.heap.size, 2, 1, .int qc_6), (s.heap.size, 2, 0, .ref qa_6)]) [0, 1, 2, 3, 4, 5] rfl (M1 := []) [] rfl (I1 := [(jFs11, jSef dC dI G_85)]) [0] rfl
  clear hh_91
  have hh_94 := hh_93.addI (jLs.ie hd_92)
  clear hh_93
  have hh_95 := hh_94.addIs hbE_85
  try simp only at hr_86
  obtain ⟨hr_86_0, hr_86_1⟩ := hr_86
  have hkp_96 := hkp_82.in hbX_85 hsy_80
  have hraw_97x := hbX_85.ke hraw_83.lt hne_84 hraw_83n
  have hraw_97 := hraw_83.kept hraw_97x.1
  refine j7_putRF hx hb hown hK hh_95 hB hAp hraw_97 hraw_97x.2 hbr0 (C := RX11) (T := TX11) (N := 19) rfl (i := 4) (by decide) (Nat.le_of_ble_eq_true rfl) hly_13_4 rfl hin2 rfl hlk_35 (ty := (.object "ProofServer$Bytes")) (v := .ref H_78.size) (by decide +kernel) rfl rfl dX11_init_65 (fun H_98 locs_98 hraw_98 hr_98 hh_98 => ?_)
  have hraw_98 : va_at (dC, dI) vwCl (r0, .inr (13, [.ref s.heap.size, .ref H_17.size, .ref H_38.size, .ref H_59.size, .ref H_78.size, .null, .null, .null, .null, .null, .null, .int 0, .int 0, .int 0, .int 0, .null, .null, .null, .int 0])) H_98 := hraw_98
  have hkp_99 := hkp_96.put hr_98
  clear hh_95
  refine lv_aload_n hx hb dX11_init_68 rfl (lv_at hl 0 rfl) ?_
  clear hsz_85 htt_85 hrc_85 hrs_85
  have hsz_100 := hh_98.2.2.2.2.2.1
  have htt_100 := hh_98.2.2.2.2.2.2.1
  refine j7_newo (k := 7) (C := RX5) (T := TX5) (N := 11) (fs := [.null, .null, .null, .null, .null, .null, .null, .null, .null, .null, .int 0]) hx hb htw jWc_wsX50 (fun k => ([(.object "ProofServer$Names"), (.object "ProofServer$Syntax"), (.object "ProofServer$State"), (.array .int), (.array .int), (.array .int), (.array .int), (.array .int), (.array .int), (.array (.object "ProofServer$Goal")), .int] : List FieldType).getD k .int) (by decide +kernel) hown (htw (.classLink RX11 38 RX5) (jWr_2 _ (List.mem_of_getElem? (i := 2) rfl))) (htw (.instantiable RX5 11) (jWr_2 _ (List.mem_of_getElem? (i := 3) rfl))) (htw (.initialized RX5) (jWr_2 _ (List.mem_of_getElem? (i := 4) rfl))) hK rfl (fun j hj => by rcases (by omega : j = 0 ∨ j = 1 ∨ j = 2 ∨ j = 3 ∨ j = 4 ∨ j = 5 ∨ j = 6 ∨ j = 7 ∨ j = 8 ∨ j = 9 ∨ j = 10) with rfl | rfl | rfl | rfl | rfl | rfl | rfl | rfl | rfl | rfl | rfl <;> rfl) hh_98 hB (by rw [hRc]; omega) (by rw [hRs]; omega) dX11_init_69 (fun H_100 hraw_100 hfr_100 hnr_100 hh_100 => ?_)
  have hlt_101 := hraw_98.lt
  have hke_100 : jKe G_85 G_85 H_98 H_100 := jKe.raw hfr_100
  have hbr_100 : base ≤ H_98.size := Nat.le_trans hbs hh_98.1.1
  have hsy_100 : s.heap.size ≤ H_98.size := hh_98.1.1
  clear hh_98
  have hkp_102 := hkp_99.tr hke_100
  have hraw_103n := hke_100.nr hraw_98.lt hraw_97x.2
  have hraw_103 := hraw_98.kept (hke_100.1 _ hraw_98.lt)
  have hne_104 : r0 ≠ H_98.size := Nat.ne_of_lt hlt_101
  refine lv_dup hx hb dX11_init_72 rfl ?_
  clear hsz_100 htt_100
  have hsz_105 := hh_100.2.2.2.2.2.1
  have htt_105 := hh_100.2.2.2.2.2.2.1
  refine W.room (fun hrc_105 hrs_105 => ?_)
  refine va_callv (A0 := jA base) (H0 := s.heap) (va_runIN (As := []) (rest := [.ref H_98.size, .ref r0]) ⟨hx, hb, hml, hown, hts⟩ (uX5_init l dC dI ca base B hB hAp hB5 hB7 hB8 hB11 hB12 hB101 hB102 hB132 hB133 hB211 hB214 hB280 hB290 hB291 hB292 hB293 hB313 G_85 H_100 H_98.size LC LS) ⟨va_cnB 0 hts (jgW (jWr_4 _ (List.mem_of_getElem? (i := 6) rfl))) rfl rfl rfl (hG.2.2.1 RX11 40 yX5_init "ProofServer" (List.mem_of_getElem? (i := 154) (by decide +kernel))) (htw (.initialized RX5) (jWr_2 _ (List.mem_of_getElem? (i := 4) rfl))) (by decide +kernel) ⟨by rw [← hR]; exact Nat.le_of_ble_eq_true rfl, by rw [← hR]; exact Nat.le_of_ble_eq_true rfl⟩, rfl, htw (.instanceMethod yX5_init) (jWr_4 _ (List.mem_of_getElem? (i := 5) rfl))⟩ ⟨fun a U g mk q => by obtain ⟨q0, q1, q2, qK, q10, q11, q12, q13, q14, q15, q16, q17, q18⟩ := q; exact ⟨q0, q1, q2, jG.calling g mk a qK, (va_K.moved (Vm.Alike.refl U.vm) q10), (jK5.moved (Vm.Alike.refl U.vm) q11), (jK6.moved (Vm.Alike.refl U.vm) q12), q13, q14, q15, q16, q17, q18⟩, fun U hU hW => ⟨rfl, hU, hh_100.2.1, hG.step hW hU hh_100.1, va_K.moved hW.alike hK2, jK5.moved hW.alike hK5, jK6.moved hW.alike hK6, hraw_100, hnr_100, hbr_100, jP.nil, (hh_100.2.2.2.2.2.2.2.2.sub (L1 := [(jFs11, jSef dC dI G_85)]) [2] rfl), (by omega), (by omega), trivial⟩⟩ rfl rfl hl.1 rfl (lv_room (Nat.le_of_ble_eq_true rfl)) dX11_init_73 ⟨by rw [hRc]; omega, by rw [hRs]; omega⟩) hh_100.1 (fun q _ h => h) (fun q h => h) (fun u_105 t_105 H_105 locs_105 ht_105 hvm_105 hr_106 hb_105 hz_105 hk_105 hS_105 => ?_)
  rw [ht_105] at hb_105
  obtain ⟨G_105, rfl⟩ : ∃ z, z = u_105 := ⟨_, rfl⟩
  try simp only at hb_105
  obtain ⟨⟨hb_1051, hb_1052, hb_1053, hb_1054, hb_1055, hb_1056⟩, hN_105, hgc_105, hbX_105, hbE_105⟩ := hb_105
  have hL_105 := hN_105
  have hY_105 := hN_105
  have hN_105 : (jNk [0, 5, 10, 14, 15, 16]) G_85 G_105 := hN_105.sub (by decide)
  have hh_105 : jSt (dC, dI) B base G0 G_105 EX11_init s.heap ((((((((((((0 + 1) + (1)) + 1) + (1)) + 1) + (8)) + 1) + (1)) + 1) + (1)) + 1) + (24)) ((((((((((((0 + 2) + ((4000 : Int).toNat)) + 12) + (3000)) + 12) + (12012)) + 2) + ((20000 : Int).toNat)) + 2) + ((1024 : Int).toNat)) + 11) + (38990)) [(H_78.size, 2, 1, .int qc_85), (H_78.size, 2, 0, .ref qa_85), (H_59.size, 2, 1, .int qc_66), (H_59.size, 2, 0, .ref qa_66), (s.heap.size, 2, 1, .int qc_6), (s.heap.size, 2, 0, .ref qa_6)] [] [(jFy, jYb dC dI G_85), (jFl, jLs dC dI ca G_85 0 none)] H_105 locs_105 := (hh_100.callG hb_1051 hb_1052 hb_1053 hb_1054 hb_1055 hS_105 rfl (L1 := [(H_78.size, 2, 1, .int qc_85), (H_78.size, 2, 0, .ref qa_85), (H_59.size, 2, 1, .int qc_66), (H_59.size, 2, 0, .ref qa_66), (s.heap.size, 2, 1, .int qc_6), (s.heap.size, 2, 0, .ref qa_6)]) [0, 1, 2, 3, 4, 5] rfl rfl (M1 := []) [] rfl rfl (I1 := [(jFy, jYb dC dI G_85), (jFl, jLs dC dI ca G_85 0 none)]) [0, 1] rfl rfl).more hb_1056
  have hNn_105 : (jNk [0, 5, 10, 14, 15, 16]) G0 G_105 := (hNn_85).tr hN_105
  have hg_107 := hb_1052 _ _ hgq_85_0
  have hg_108 := hb_1052 _ _ hg_87
  have hg_109 := hb_1052 _ _ hg_88
  have hd_110 := jYb.grow (hh_105.iv 0 rfl) hb_1052 hY_105 (by decide)
  have hh_111 := hh_105.sub (L1 := [(H_78.size, 2, 1, .int qc_85), (H_78.size, 2, 0, .ref qa_85), (H_59.size, 2, 1, .int qc_66), (H_59.size, 2, 0, .ref qa_66), (s.heap.size, 2, 1, .int qc_6), (s.heap.size, 2, 0, .ref qa_6)]) [0, 1, 2, 3, 4, 5] rfl (M1 := []) [] rfl (I1 := [(jFl, jLs dC dI ca G_85 0 none)]) [1] rfl
  clear hh_105
  have hh_112 := hh_111.addI (jYb.ie hd_110)
  clear hh_111
  have hd_113 := jLs.grow (hh_112.iv 1 rfl) hb_1052 hL_105 (by decide)
  have hh_114 := hh_112.sub (L1 := [(H_78.size, 2, 1, .int qc_85), (H_78.size, 2, 0, .ref qa_85), (H_59.size, 2, 1, .int qc_66), (H_59.size, 2, 0, .ref qa_66), (s.heap.size, 2, 1, .int qc_6), (s.heap.size, 2, 0, .ref qa_6)]) [0, 1, 2, 3, 4, 5] rfl (M1 := []) [] rfl (I1 := [(jFy, jYb dC dI G_105)]) [0] rfl
  clear hh_112
  have hh_115 := hh_114.addI (jLs.ie hd_113)
  clear hh_114
  have hh_116 := hh_115.addIs hbE_105
  try simp only at hr_106
  have hkp_117 := hkp_102.in hbX_105 hsy_100
  have hraw_118x := hbX_105.ke hraw_103.lt hne_104 hraw_103n
  have hraw_118 := hraw_103.kept hraw_118x.1
  refine j7_putRF hx hb hown hK hh_116 hB hAp hraw_118 hraw_118x.2 hbr0 (C := RX11) (T := TX11) (N := 19) rfl (i := 5) (by decide) (Nat.le_of_ble_eq_true rfl) hly_13_5 rfl hin2 rfl hlk_41 (ty := (.object "ProofServer$Kernel")) (v := .ref H_98.size) (by decide +kernel) rfl rfl dX11_init_76 (fun H_119 locs_119 hraw_119 hr_119 hh_119 => ?_)
  have hraw_119 : va_at (dC, dI) vwCl (r0, .inr (13, [.ref s.heap.size, .ref H_17.size, .ref H_38.size, .ref H_59.size, .ref H_78.size, .ref H_98.size, .null, .null, .null, .null, .null, .int 0, .int 0, .int 0, .int 0, .null, .null, .null, .int 0])) H_119 := hraw_119
  have hkp_120 := hkp_117.put hr_119
  clear hh_116
  refine lv_aload_n hx hb dX11_init_79 rfl (lv_at hl 0 rfl) ?_
  clear hsz_105 htt_105 hrc_105 hrs_105
  have hsz_121 := hh_119.2.2.2.2.2.1
  have htt_121 := hh_119.2.2.2.2.2.2.1
  refine j7_newo (k := 9) (C := RX7) (T := TX7) (N := 5) (fs := [.null, .null, .int 0, .null, .null]) hx hb htw jWc_wsX70 (fun k => ([(.object "ProofServer$Names"), (.array .int), .int, (.array .int), (.array .int)] : List FieldType).getD k .int) (by decide +kernel) hown (htw (.classLink RX11 45 RX7) (jWr_2 _ (List.mem_of_getElem? (i := 6) rfl))) (htw (.instantiable RX7 5) (jWr_2 _ (List.mem_of_getElem? (i := 7) rfl))) (htw (.initialized RX7) (jWr_2 _ (List.mem_of_getElem? (i := 8) rfl))) hK rfl (fun j hj => by rcases (by omega : j = 0 ∨ j = 1 ∨ j = 2 ∨ j = 3 ∨ j = 4) with rfl | rfl | rfl | rfl | rfl <;> rfl) hh_119 hB (by rw [hRc]; omega) (by rw [hRs]; omega) dX11_init_80 (fun H_121 hraw_121 hfr_121 hnr_121 hh_121 => ?_)
  have hlt_122 := hraw_119.lt
  have hke_121 : jKe G_105 G_105 H_119 H_121 := jKe.raw hfr_121
  have hbr_121 : base ≤ H_119.size := Nat.le_trans hbs hh_119.1.1
  have hsy_121 : s.heap.size ≤ H_119.size := hh_119.1.1
  clear hh_119
  have hkp_123 := hkp_120.tr hke_121
  have hraw_124n := hke_121.nr hraw_119.lt hraw_118x.2
  have hraw_124 := hraw_119.kept (hke_121.1 _ hraw_119.lt)
  have hne_125 : r0 ≠ H_119.size := Nat.ne_of_lt hlt_122
  refine lv_dup hx hb dX11_init_83 rfl ?_
  refine lv_aload_n hx hb dX11_init_84 rfl (lv_at hl 0 rfl) ?_
  refine j7_read hx hb hown hK (C := RX11) (T := TX11) (N := 19) rfl hly_13_5 hlk_41 (jf.raw (C := RX11) (T := TX11) (N := 19) rfl hraw_124 (i := 5) (by decide)) dX11_init_85 ?_
  have hg_126 := (jLe.rf) _ _ hgc_105
  obtain ⟨v_127, hv_127, hh_128⟩ := hh_121.pin (C := RX5) (T := TX5) (N := 11) hB7 rfl (by decide) hg_126 (i := 0) (by decide) rfl
  clear hh_121
  obtain ⟨names_129, rfl, hg_names_129⟩ := hv_127
  refine j7_read hx hb hown hK (C := RX5) (T := TX5) (N := 11) rfl hly_7_0 hlk_47 (hh_128.at 0 rfl) dX11_init_88 ?_
  clear hsz_121 htt_121
  have hsz_130 := hh_128.2.2.2.2.2.1
  have htt_130 := hh_128.2.2.2.2.2.2.1
  refine W.room (fun hrc_130 hrs_130 => ?_)
  refine va_callv (A0 := jA base) (H0 := s.heap) (va_runI (As := [.ref names_129]) (rest := [.ref H_119.size, .ref r0]) ⟨hx, hb, hml, hown, hts⟩ (uX7_init l dC dI ca base B hB hAp hB8 hB9 hB286 hB287 hB288 G_105 H_121 H_119.size names_129 LC LS) (cwI 1 hts (jgW (jWr_9 _ (List.mem_of_getElem? (i := 5) rfl))) rfl rfl rfl (htw (.initialized RX7) (jWr_2 _ (List.mem_of_getElem? (i := 8) rfl))) (htw (.methodLink RX11 51 yX7_init) (jWr_9 _ (List.mem_of_getElem? (i := 3) rfl))) (htw (.instanceMethod yX7_init) (jWr_9 _ (List.mem_of_getElem? (i := 4) rfl))) rfl (by decide +kernel) ⟨by rw [← hR]; exact Nat.le_of_ble_eq_true rfl, by rw [← hR]; exact Nat.le_of_ble_eq_true rfl⟩) ⟨fun a U g mk q => by obtain ⟨q0, q1, q2, qK, q10, q11, q12, q13, q14, q15⟩ := q; exact ⟨q0, q1, q2, jG.calling g mk a qK, q10, q11, q12, q13, q14, q15⟩, fun U hU hW => ⟨rfl, hU, hh_128.2.1, hG.step hW hU hh_128.1, hg_names_129, hraw_121, hnr_121, hbr_121, jP.nil, (by omega), (by omega), trivial⟩⟩ rfl rfl hl.1 rfl (lv_room (Nat.le_of_ble_eq_true rfl)) dX11_init_91 ⟨by rw [hRc]; omega, by rw [hRs]; omega⟩) hh_128.1 (fun q _ h => h) (fun q h => h) (fun u_130 t_130 H_130 locs_130 ht_130 hvm_130 hr_131 hb_130 hz_130 hk_130 hS_130 => ?_)
  rw [ht_130] at hb_130
  obtain ⟨G_130, rfl⟩ : ∃ z, z = u_130 := ⟨_, rfl⟩
  try simp only at hb_130
  obtain ⟨⟨hb_1301, hb_1302, hb_1303, hb_1304, hb_1305, hb_1306⟩, hN_130, hgc_130, hbX_130⟩ := hb_130
  have hL_130 := hN_130
  have hY_130 := hN_130
  have hM_130 := hN_130
  have hN_130 : (jNk [0, 5, 10, 14, 15, 16]) G_105 G_130 := hN_130.sub (by decide)
  have hh_130 : jSt (dC, dI) B base G0 G_130 EX11_init s.heap ((((((((((((((0 + 1) + (1)) + 1) + (1)) + 1) + (8)) + 1) + (1)) + 1) + (1)) + 1) + (24)) + 1) + (3)) ((((((((((((((0 + 2) + ((4000 : Int).toNat)) + 12) + (3000)) + 12) + (12012)) + 2) + ((20000 : Int).toNat)) + 2) + ((1024 : Int).toNat)) + 11) + (38990)) + 5) + (826)) [(H_98.size, 7, 0, .ref names_129), (H_78.size, 2, 1, .int qc_85), (H_78.size, 2, 0, .ref qa_85), (H_59.size, 2, 1, .int qc_66), (H_59.size, 2, 0, .ref qa_66), (s.heap.size, 2, 1, .int qc_6), (s.heap.size, 2, 0, .ref qa_6)] [] [(jFs11, jSef dC dI G_105), (jFl, jLs dC dI ca G_105 0 none), (jFy, jYb dC dI G_105)] H_130 locs_130 := (hh_128.callG hb_1301 hb_1302 hb_1303 hb_1304 hb_1305 hS_130 rfl (L1 := [(H_98.size, 7, 0, .ref names_129), (H_78.size, 2, 1, .int qc_85), (H_78.size, 2, 0, .ref qa_85), (H_59.size, 2, 1, .int qc_66), (H_59.size, 2, 0, .ref qa_66), (s.heap.size, 2, 1, .int qc_6), (s.heap.size, 2, 0, .ref qa_6)]) [0, 1, 2, 3, 4, 5, 6] rfl rfl (M1 := []) [] rfl rfl (I1 := [(jFs11, jSef dC dI G_105), (jFl, jLs dC dI ca G_105 0 none), (jFy, jYb dC dI G_105)]) [0, 1, 2] rfl rfl).more hb_1306
  have hNn_130 : (jNk [0, 5, 10, 14, 15, 16]) G0 G_130 := (hNn_105).tr hN_130
  have hg_132 := hb_1302 _ _ hg_names_129
  have hg_133 := hb_1302 _ _ hg_107
  have hg_134 := hb_1302 _ _ hg_108
  have hg_135 := hb_1302 _ _ hg_109
  have hd_136 := jSef.grow (hh_130.iv 0 rfl) hb_1302 hM_130 (by decide)
  have hh_137 := hh_130.sub (L1 := [(H_98.size, 7, 0, .ref names_129), (H_78.size, 2, 1, .int qc_85), (H_78.size, 2, 0, .ref qa_85), (H_59.size, 2, 1, .int qc_66), (H_59.size, 2, 0, .ref qa_66), (s.heap.size, 2, 1, .int qc_6), (s.heap.size, 2, 0, .ref qa_6)]) [0, 1, 2, 3, 4, 5, 6] rfl (M1 := []) [] rfl (I1 := [(jFl, jLs dC dI ca G_105 0 none), (jFy, jYb dC dI G_105)]) [1, 2] rfl
  clear hh_130
  have hh_138 := hh_137.addI (jSef.ie hd_136)
  clear hh_137
  have hd_139 := jLs.grow (hh_138.iv 1 rfl) hb_1302 hL_130 (by decide)
  have hh_140 := hh_138.sub (L1 := [(H_98.size, 7, 0, .ref names_129), (H_78.size, 2, 1, .int qc_85), (H_78.size, 2, 0, .ref qa_85), (H_59.size, 2, 1, .int qc_66), (H_59.size, 2, 0, .ref qa_66), (s.heap.size, 2, 1, .int qc_6), (s.heap.size, 2, 0, .ref qa_6)]) [0, 1, 2, 3, 4, 5, 6] rfl (M1 := []) [] rfl (I1 := [(jFs11, jSef dC dI G_130), (jFy, jYb dC dI G_105)]) [0, 2] rfl
  clear hh_138
  have hh_141 := hh_140.addI (jLs.ie hd_139)
  clear hh_140
  have hd_142 := jYb.grow (hh_141.iv 2 rfl) hb_1302 hY_130 (by decide)
  have hh_143 := hh_141.sub (L1 := [(H_98.size, 7, 0, .ref names_129), (H_78.size, 2, 1, .int qc_85), (H_78.size, 2, 0, .ref qa_85), (H_59.size, 2, 1, .int qc_66), (H_59.size, 2, 0, .ref qa_66), (s.heap.size, 2, 1, .int qc_6), (s.heap.size, 2, 0, .ref qa_6)]) [0, 1, 2, 3, 4, 5, 6] rfl (M1 := []) [] rfl (I1 := [(jFl, jLs dC dI ca G_130 0 none), (jFs11, jSef dC dI G_130)]) [0, 1] rfl
  clear hh_141
  have hh_144 := hh_143.addI (jYb.ie hd_142)
  clear hh_143
  try simp only at hr_131
  have hkp_145 := hkp_123.in hbX_130 hsy_121
  have hraw_146x := hbX_130.ke hraw_124.lt hne_125 hraw_124n
  have hraw_146 := hraw_124.kept hraw_146x.1
  refine j7_putRF hx hb hown hK hh_144 hB hAp hraw_146 hraw_146x.2 hbr0 (C := RX11) (T := TX11) (N := 19) rfl (i := 6) (by decide) (Nat.le_of_ble_eq_true rfl) hly_13_6 rfl hin2 rfl hlk_54 (ty := (.object "ProofServer$Printer")) (v := .ref H_119.size) (by decide +kernel) rfl rfl dX11_init_94 (fun H_147 locs_147 hraw_147 hr_147 hh_147 => ?_)
  have hraw_147 : va_at (dC, dI) vwCl (r0, .inr (13, [.ref s.heap.size, .ref H_17.size, .ref H_38.size, .ref H_59.size, .ref H_78.size, .ref H_98.size, .ref H_119.size, .null, .null, .null, .null, .int 0, .int 0, .int 0, .int 0, .null, .null, .null, .int 0])) H_147 := hraw_147
  have hkp_148 := hkp_145.put hr_147
  clear hh_144
  refine lv_aload_n hx hb dX11_init_97 rfl (lv_at hl 0 rfl) ?_
  clear hsz_130 htt_130 hrc_130 hrs_130
  have hsz_149 := hh_147.2.2.2.2.2.1
  have htt_149 := hh_147.2.2.2.2.2.2.1
  refine j7_newo (k := 1) (C := RJx4a65c) (T := TJx4a65c) (N := 3) (fs := [.int 0, .null, .int 0]) hx hb htw jWc_wsJx4a65c0 (fun k => ([.int, (.array (.object "java/lang/Object")), .int] : List FieldType).getD k .int) (by decide +kernel) hown (htw (.classLink RX11 58 RJx4a65c) (jWr_2 _ (List.mem_of_getElem? (i := 11) rfl))) (htw (.instantiable RJx4a65c 3) (jWr_2 _ (List.mem_of_getElem? (i := 12) rfl))) (htw (.initialized RJx4a65c) (jWr_2 _ (List.mem_of_getElem? (i := 13) rfl))) hK rfl (fun j hj => by rcases (by omega : j = 0 ∨ j = 1 ∨ j = 2) with rfl | rfl | rfl <;> rfl) hh_147 hB (by rw [hRc]; omega) (by rw [hRs]; omega) dX11_init_98 (fun H_149 hraw_149 hfr_149 hnr_149 hh_149 => ?_)
  have hlt_150 := hraw_147.lt
  have hke_149 : jKe G_130 G_130 H_147 H_149 := jKe.raw hfr_149
  have hbr_149 : base ≤ H_147.size := Nat.le_trans hbs hh_147.1.1
  have hsy_149 : s.heap.size ≤ H_147.size := hh_147.1.1
  clear hh_147
  have hkp_151 := hkp_148.tr hke_149
  have hraw_152n := hke_149.nr hraw_147.lt hraw_146x.2
  have hraw_152 := hraw_147.kept (hke_149.1 _ hraw_147.lt)
  have hne_153 : r0 ≠ H_147.size := Nat.ne_of_lt hlt_150
  refine lv_dup hx hb dX11_init_101 rfl ?_
  clear hsz_149 htt_149
  have hsz_154 := hh_149.2.2.2.2.2.1
  have htt_154 := hh_149.2.2.2.2.2.2.1
  refine W.room (fun hrc_154 hrs_154 => ?_)
  refine va_callv (A0 := jA base) (H0 := s.heap) (va_runI (As := []) (rest := [.ref H_147.size, .ref r0]) ⟨hx, hb, hml, hown, hts⟩ (uJx4a65c_init_da8c8C1 l dC dI ca base B hB hAp hB1 G_130 H_149 H_147.size LC LS) (cwI 0 hts (jgW (jWr_9 _ (List.mem_of_getElem? (i := 13) rfl))) rfl rfl rfl (htw (.initialized RJx4a65c) (jWr_2 _ (List.mem_of_getElem? (i := 13) rfl))) (htw (.methodLink RX11 60 yJx4a65c_init_da8c8) (jWr_9 _ (List.mem_of_getElem? (i := 11) rfl))) (htw (.instanceMethod yJx4a65c_init_da8c8) (jWr_9 _ (List.mem_of_getElem? (i := 12) rfl))) rfl (by decide +kernel) ⟨by rw [← hR]; exact Nat.le_of_ble_eq_true rfl, by rw [← hR]; exact Nat.le_of_ble_eq_true rfl⟩) ⟨fun a U g mk q => by obtain ⟨q0, q1, q2, qK, q10, q11, q12, q13, q14, q15, q16⟩ := q; exact ⟨q0, q1, q2, jG.calling g mk a qK, (jK7.calling g mk a q10), q11, q12, q13, q14, q15, q16⟩, fun U hU hW => ⟨rfl, hU, hh_149.2.1, hG.step hW hU hh_149.1, (hK7.step hW hU hh_149.1), hraw_149, hnr_149, hbr_149, jP.nil, (hh_149.2.2.2.2.2.2.2.2.sub (L1 := [(jFl, jLs dC dI ca G_130 0 none)]) [1] rfl), (by omega), (by omega), trivial⟩⟩ rfl rfl hl.1 rfl (lv_room (Nat.le_of_ble_eq_true rfl)) dX11_init_102 ⟨by rw [hRc]; omega, by rw [hRs]; omega⟩) hh_149.1 (fun q _ h => h) (fun q h => h) (fun u_154 t_154 H_154 locs_154 ht_154 hvm_154 hr_155 hb_154 hz_154 hk_154 hS_154 => ?_)
  rw [ht_154] at hb_154
  obtain ⟨G_154, rfl⟩ : ∃ z, z = u_154 := ⟨_, rfl⟩
  try simp only at hb_154
  obtain ⟨⟨hb_1541, hb_1542, hb_1543, hb_1544, hb_1545, hb_1546⟩, hN_154, hgc_154, hbX_154, hbE_154⟩ := hb_154
  have hY_154 := hN_154
  have hM_154 := hN_154
  have hN_154 : (jNk [0, 5, 10, 14, 15, 16]) G_130 G_154 := hN_154.sub (by decide)
  have hh_154 : jSt (dC, dI) B base G0 G_154 EX11_init s.heap ((((((((((((((((0 + 1) + (1)) + 1) + (1)) + 1) + (8)) + 1) + (1)) + 1) + (1)) + 1) + (24)) + 1) + (3)) + 1) + (0)) ((((((((((((((((0 + 2) + ((4000 : Int).toNat)) + 12) + (3000)) + 12) + (12012)) + 2) + ((20000 : Int).toNat)) + 2) + ((1024 : Int).toNat)) + 11) + (38990)) + 5) + (826)) + 3) + (0)) [(H_98.size, 7, 0, .ref names_129), (H_78.size, 2, 1, .int qc_85), (H_78.size, 2, 0, .ref qa_85), (H_59.size, 2, 1, .int qc_66), (H_59.size, 2, 0, .ref qa_66), (s.heap.size, 2, 1, .int qc_6), (s.heap.size, 2, 0, .ref qa_6)] [] [(jFy, jYb dC dI G_130), (jFs11, jSef dC dI G_130)] H_154 locs_154 := (hh_149.callG hb_1541 hb_1542 hb_1543 hb_1544 hb_1545 hS_154 rfl (L1 := [(H_98.size, 7, 0, .ref names_129), (H_78.size, 2, 1, .int qc_85), (H_78.size, 2, 0, .ref qa_85), (H_59.size, 2, 1, .int qc_66), (H_59.size, 2, 0, .ref qa_66), (s.heap.size, 2, 1, .int qc_6), (s.heap.size, 2, 0, .ref qa_6)]) [0, 1, 2, 3, 4, 5, 6] rfl rfl (M1 := []) [] rfl rfl (I1 := [(jFy, jYb dC dI G_130), (jFs11, jSef dC dI G_130)]) [0, 2] rfl rfl).more hb_1546
  have hNn_154 : (jNk [0, 5, 10, 14, 15, 16]) G0 G_154 := (hNn_130).tr hN_154
  have hg_156 := hb_1542 _ _ hg_132
  have hg_157 := hb_1542 _ _ hg_133
  have hg_158 := hb_1542 _ _ hg_134
  have hg_159 := hb_1542 _ _ hg_135
  have hd_160 := jYb.grow (hh_154.iv 0 rfl) hb_1542 hY_154 (by decide)
  have hh_161 := hh_154.sub (L1 := [(H_98.size, 7, 0, .ref names_129), (H_78.size, 2, 1, .int qc_85), (H_78.size, 2, 0, .ref qa_85), (H_59.size, 2, 1, .int qc_66), (H_59.size, 2, 0, .ref qa_66), (s.heap.size, 2, 1, .int qc_6), (s.heap.size, 2, 0, .ref qa_6)]) [0, 1, 2, 3, 4, 5, 6] rfl (M1 := []) [] rfl (I1 := [(jFs11, jSef dC dI G_130)]) [1] rfl
  clear hh_154
  have hh_162 := hh_161.addI (jYb.ie hd_160)
  clear hh_161
  have hd_163 := jSef.grow (hh_162.iv 1 rfl) hb_1542 hM_154 (by decide)
  have hh_164 := hh_162.sub (L1 := [(H_98.size, 7, 0, .ref names_129), (H_78.size, 2, 1, .int qc_85), (H_78.size, 2, 0, .ref qa_85), (H_59.size, 2, 1, .int qc_66), (H_59.size, 2, 0, .ref qa_66), (s.heap.size, 2, 1, .int qc_6), (s.heap.size, 2, 0, .ref qa_6)]) [0, 1, 2, 3, 4, 5, 6] rfl (M1 := []) [] rfl (I1 := [(jFy, jYb dC dI G_154)]) [0] rfl
  clear hh_162
  have hh_165 := hh_164.addI (jSef.ie hd_163)
  clear hh_164
  have hh_166 := hh_165.addIs hbE_154
  try simp only at hr_155
  have hkp_167 := hkp_151.in hbX_154 hsy_149
  have hraw_168x := hbX_154.ke hraw_152.lt hne_153 hraw_152n
  have hraw_168 := hraw_152.kept hraw_168x.1
  refine j7_putRF hx hb hown hK hh_166 hB hAp hraw_168 hraw_168x.2 hbr0 (C := RX11) (T := TX11) (N := 19) rfl (i := 7) (by decide) (Nat.le_of_ble_eq_true rfl) hly_13_7 rfl hin2 rfl hlk_61 (ty := (.object "java/util/List")) (v := .ref H_147.size) (by decide +kernel) rfl rfl dX11_init_105 (fun H_169 locs_169 hraw_169 hr_169 hh_169 => ?_)
  have hraw_169 : va_at (dC, dI) vwCl (r0, .inr (13, [.ref s.heap.size, .ref H_17.size, .ref H_38.size, .ref H_59.size, .ref H_78.size, .ref H_98.size, .ref H_119.size, .ref H_147.size, .null, .null, .null, .int 0, .int 0, .int 0, .int 0, .null, .null, .null, .int 0])) H_169 := hraw_169
  have hkp_170 := hkp_167.put hr_169
  clear hh_166
  refine lv_aload_n hx hb dX11_init_108 rfl (lv_at hl 0 rfl) ?_
  clear hsz_154 htt_154 hrc_154 hrs_154
  have hsz_171 := hh_169.2.2.2.2.2.1
  have htt_171 := hh_169.2.2.2.2.2.2.1
  refine j7_newo (k := 1) (C := RJx4a65c) (T := TJx4a65c) (N := 3) (fs := [.int 0, .null, .int 0]) hx hb htw jWc_wsJx4a65c0 (fun k => ([.int, (.array (.object "java/lang/Object")), .int] : List FieldType).getD k .int) (by decide +kernel) hown (htw (.classLink RX11 58 RJx4a65c) (jWr_2 _ (List.mem_of_getElem? (i := 11) rfl))) (htw (.instantiable RJx4a65c 3) (jWr_2 _ (List.mem_of_getElem? (i := 12) rfl))) (htw (.initialized RJx4a65c) (jWr_2 _ (List.mem_of_getElem? (i := 13) rfl))) hK rfl (fun j hj => by rcases (by omega : j = 0 ∨ j = 1 ∨ j = 2) with rfl | rfl | rfl <;> rfl) hh_169 hB (by rw [hRc]; omega) (by rw [hRs]; omega) dX11_init_109 (fun H_171 hraw_171 hfr_171 hnr_171 hh_171 => ?_)
  have hlt_172 := hraw_169.lt
  have hke_171 : jKe G_154 G_154 H_169 H_171 := jKe.raw hfr_171
  have hbr_171 : base ≤ H_169.size := Nat.le_trans hbs hh_169.1.1
  have hsy_171 : s.heap.size ≤ H_169.size := hh_169.1.1
  clear hh_169
  have hkp_173 := hkp_170.tr hke_171
  have hraw_174n := hke_171.nr hraw_169.lt hraw_168x.2
  have hraw_174 := hraw_169.kept (hke_171.1 _ hraw_169.lt)
  have hne_175 : r0 ≠ H_169.size := Nat.ne_of_lt hlt_172
  refine lv_dup hx hb dX11_init_112 rfl ?_
  clear hsz_171 htt_171
  have hsz_176 := hh_171.2.2.2.2.2.1
  have htt_176 := hh_171.2.2.2.2.2.2.1
  refine W.room (fun hrc_176 hrs_176 => ?_)
  refine va_callv (A0 := jA base) (H0 := s.heap) (va_runI (As := []) (rest := [.ref H_169.size, .ref r0]) ⟨hx, hb, hml, hown, hts⟩ (uJx4a65c_init_da8c8C2 l dC dI ca base B hB hAp hB1 G_154 H_171 H_169.size LC LS) (cwI 0 hts (jgW (jWr_9 _ (List.mem_of_getElem? (i := 13) rfl))) rfl rfl rfl (htw (.initialized RJx4a65c) (jWr_2 _ (List.mem_of_getElem? (i := 13) rfl))) (htw (.methodLink RX11 60 yJx4a65c_init_da8c8) (jWr_9 _ (List.mem_of_getElem? (i := 11) rfl))) (htw (.instanceMethod yJx4a65c_init_da8c8) (jWr_9 _ (List.mem_of_getElem? (i := 12) rfl))) rfl (by decide +kernel) ⟨by rw [← hR]; exact Nat.le_of_ble_eq_true rfl, by rw [← hR]; exact Nat.le_of_ble_eq_true rfl⟩) ⟨fun a U g mk q => by obtain ⟨q0, q1, q2, qK, q10, q11, q12, q13, q14, q15, q16⟩ := q; exact ⟨q0, q1, q2, jG.calling g mk a qK, (jK7.calling g mk a q10), q11, q12, q13, q14, q15, q16⟩, fun U hU hW => ⟨rfl, hU, hh_171.2.1, hG.step hW hU hh_171.1, (hK7.step hW hU hh_171.1), hraw_171, hnr_171, hbr_171, jP.nil, (hh_171.2.2.2.2.2.2.2.2.sub (L1 := [(jFl, jLs dC dI ca G_154 1 none)]) [0] rfl), (by omega), (by omega), trivial⟩⟩ rfl rfl hl.1 rfl (lv_room (Nat.le_of_ble_eq_true rfl)) dX11_init_113 ⟨by rw [hRc]; omega, by rw [hRs]; omega⟩) hh_171.1 (fun q _ h => h) (fun q h => h) (fun u_176 t_176 H_176 locs_176 ht_176 hvm_176 hr_177 hb_176 hz_176 hk_176 hS_176 => ?_)
  rw [ht_176] at hb_176
  obtain ⟨G_176, rfl⟩ : ∃ z, z = u_176 := ⟨_, rfl⟩
  try simp only at hb_176
  obtain ⟨⟨hb_1761, hb_1762, hb_1763, hb_1764, hb_1765, hb_1766⟩, hN_176, hgc_176, hbX_176, hbE_176⟩ := hb_176
  have hY_176 := hN_176
  have hM_176 := hN_176
  have hN_176 : (jNk [0, 5, 10, 14, 15, 16]) G_154 G_176 := hN_176.sub (by decide)
  have hh_176 : jSt (dC, dI) B base G0 G_176 EX11_init s.heap ((((((((((((((((((0 + 1) + (1)) + 1) + (1)) + 1) + (8)) + 1) + (1)) + 1) + (1)) + 1) + (24)) + 1) + (3)) + 1) + (0)) + 1) + (0)) ((((((((((((((((((0 + 2) + ((4000 : Int).toNat)) + 12) + (3000)) + 12) + (12012)) + 2) + ((20000 : Int).toNat)) + 2) + ((1024 : Int).toNat)) + 11) + (38990)) + 5) + (826)) + 3) + (0)) + 3) + (0)) [(H_98.size, 7, 0, .ref names_129), (H_78.size, 2, 1, .int qc_85), (H_78.size, 2, 0, .ref qa_85), (H_59.size, 2, 1, .int qc_66), (H_59.size, 2, 0, .ref qa_66), (s.heap.size, 2, 1, .int qc_6), (s.heap.size, 2, 0, .ref qa_6)] [] [(jFs11, jSef dC dI G_154), (jFy, jYb dC dI G_154)] H_176 locs_176 := (hh_171.callG hb_1761 hb_1762 hb_1763 hb_1764 hb_1765 hS_176 rfl (L1 := [(H_98.size, 7, 0, .ref names_129), (H_78.size, 2, 1, .int qc_85), (H_78.size, 2, 0, .ref qa_85), (H_59.size, 2, 1, .int qc_66), (H_59.size, 2, 0, .ref qa_66), (s.heap.size, 2, 1, .int qc_6), (s.heap.size, 2, 0, .ref qa_6)]) [0, 1, 2, 3, 4, 5, 6] rfl rfl (M1 := []) [] rfl rfl (I1 := [(jFs11, jSef dC dI G_154), (jFy, jYb dC dI G_154)]) [1, 2] rfl rfl).more hb_1766
  have hNn_176 : (jNk [0, 5, 10, 14, 15, 16]) G0 G_176 := (hNn_154).tr hN_176
  have hg_178 := hb_1762 _ _ hg_156
  have hg_179 := hb_1762 _ _ hg_157
  have hg_180 := hb_1762 _ _ hg_158
  have hg_181 := hb_1762 _ _ hg_159
  have hd_182 := jSef.grow (hh_176.iv 0 rfl) hb_1762 hM_176 (by decide)
  have hh_183 := hh_176.sub (L1 := [(H_98.size, 7, 0, .ref names_129), (H_78.size, 2, 1, .int qc_85), (H_78.size, 2, 0, .ref qa_85), (H_59.size, 2, 1, .int qc_66), (H_59.size, 2, 0, .ref qa_66), (s.heap.size, 2, 1, .int qc_6), (s.heap.size, 2, 0, .ref qa_6)]) [0, 1, 2, 3, 4, 5, 6] rfl (M1 := []) [] rfl (I1 := [(jFy, jYb dC dI G_154)]) [1] rfl
  clear hh_176
  have hh_184 := hh_183.addI (jSef.ie hd_182)
  clear hh_183
  have hd_185 := jYb.grow (hh_184.iv 1 rfl) hb_1762 hY_176 (by decide)
  have hh_186 := hh_184.sub (L1 := [(H_98.size, 7, 0, .ref names_129), (H_78.size, 2, 1, .int qc_85), (H_78.size, 2, 0, .ref qa_85), (H_59.size, 2, 1, .int qc_66), (H_59.size, 2, 0, .ref qa_66), (s.heap.size, 2, 1, .int qc_6), (s.heap.size, 2, 0, .ref qa_6)]) [0, 1, 2, 3, 4, 5, 6] rfl (M1 := []) [] rfl (I1 := [(jFs11, jSef dC dI G_176)]) [0] rfl
  clear hh_184
  have hh_187 := hh_186.addI (jYb.ie hd_185)
  clear hh_186
  have hh_188 := hh_187.addIs hbE_176
  try simp only at hr_177
  have hkp_189 := hkp_173.in hbX_176 hsy_171
  have hraw_190x := hbX_176.ke hraw_174.lt hne_175 hraw_174n
  have hraw_190 := hraw_174.kept hraw_190x.1
  refine j7_putRF hx hb hown hK hh_188 hB hAp hraw_190 hraw_190x.2 hbr0 (C := RX11) (T := TX11) (N := 19) rfl (i := 8) (by decide) (Nat.le_of_ble_eq_true rfl) hly_13_8 rfl hin2 rfl hlk_65 (ty := (.object "java/util/List")) (v := .ref H_169.size) (by decide +kernel) rfl rfl dX11_init_116 (fun H_191 locs_191 hraw_191 hr_191 hh_191 => ?_)
  have hraw_191 : va_at (dC, dI) vwCl (r0, .inr (13, [.ref s.heap.size, .ref H_17.size, .ref H_38.size, .ref H_59.size, .ref H_78.size, .ref H_98.size, .ref H_119.size, .ref H_147.size, .ref H_169.size, .null, .null, .int 0, .int 0, .int 0, .int 0, .null, .null, .null, .int 0])) H_191 := hraw_191
  have hkp_192 := hkp_189.put hr_191
  clear hh_188
  refine lv_aload_n hx hb dX11_init_119 rfl (lv_at hl 0 rfl) ?_
  clear hsz_176 htt_176 hrc_176 hrs_176
  have hsz_193 := hh_191.2.2.2.2.2.1
  have htt_193 := hh_191.2.2.2.2.2.2.1
  refine j7_newo (k := 1) (C := RJx4a65c) (T := TJx4a65c) (N := 3) (fs := [.int 0, .null, .int 0]) hx hb htw jWc_wsJx4a65c0 (fun k => ([.int, (.array (.object "java/lang/Object")), .int] : List FieldType).getD k .int) (by decide +kernel) hown (htw (.classLink RX11 58 RJx4a65c) (jWr_2 _ (List.mem_of_getElem? (i := 11) rfl))) (htw (.instantiable RJx4a65c 3) (jWr_2 _ (List.mem_of_getElem? (i := 12) rfl))) (htw (.initialized RJx4a65c) (jWr_2 _ (List.mem_of_getElem? (i := 13) rfl))) hK rfl (fun j hj => by rcases (by omega : j = 0 ∨ j = 1 ∨ j = 2) with rfl | rfl | rfl <;> rfl) hh_191 hB (by rw [hRc]; omega) (by rw [hRs]; omega) dX11_init_120 (fun H_193 hraw_193 hfr_193 hnr_193 hh_193 => ?_)
  have hlt_194 := hraw_191.lt
  have hke_193 : jKe G_176 G_176 H_191 H_193 := jKe.raw hfr_193
  have hbr_193 : base ≤ H_191.size := Nat.le_trans hbs hh_191.1.1
  have hsy_193 : s.heap.size ≤ H_191.size := hh_191.1.1
  clear hh_191
  have hkp_195 := hkp_192.tr hke_193
  have hraw_196n := hke_193.nr hraw_191.lt hraw_190x.2
  have hraw_196 := hraw_191.kept (hke_193.1 _ hraw_191.lt)
  have hne_197 : r0 ≠ H_191.size := Nat.ne_of_lt hlt_194
  refine lv_dup hx hb dX11_init_123 rfl ?_
  clear hsz_193 htt_193
  have hsz_198 := hh_193.2.2.2.2.2.1
  have htt_198 := hh_193.2.2.2.2.2.2.1
  refine W.room (fun hrc_198 hrs_198 => ?_)
  refine va_callv (A0 := jA base) (H0 := s.heap) (va_runI (As := []) (rest := [.ref H_191.size, .ref r0]) ⟨hx, hb, hml, hown, hts⟩ (uJx4a65c_init_da8c8C3 l dC dI ca base B hB hAp hB1 G_176 H_193 H_191.size LC LS) (cwI 0 hts (jgW (jWr_9 _ (List.mem_of_getElem? (i := 13) rfl))) rfl rfl rfl (htw (.initialized RJx4a65c) (jWr_2 _ (List.mem_of_getElem? (i := 13) rfl))) (htw (.methodLink RX11 60 yJx4a65c_init_da8c8) (jWr_9 _ (List.mem_of_getElem? (i := 11) rfl))) (htw (.instanceMethod yJx4a65c_init_da8c8) (jWr_9 _ (List.mem_of_getElem? (i := 12) rfl))) rfl (by decide +kernel) ⟨by rw [← hR]; exact Nat.le_of_ble_eq_true rfl, by rw [← hR]; exact Nat.le_of_ble_eq_true rfl⟩) ⟨fun a U g mk q => by obtain ⟨q0, q1, q2, qK, q10, q11, q12, q13, q14, q15, q16⟩ := q; exact ⟨q0, q1, q2, jG.calling g mk a qK, (jK7.calling g mk a q10), q11, q12, q13, q14, q15, q16⟩, fun U hU hW => ⟨rfl, hU, hh_193.2.1, hG.step hW hU hh_193.1, (hK7.step hW hU hh_193.1), hraw_193, hnr_193, hbr_193, jP.nil, (hh_193.2.2.2.2.2.2.2.2.sub (L1 := [(jFl, jLs dC dI ca G_176 2 none)]) [0] rfl), (by omega), (by omega), trivial⟩⟩ rfl rfl hl.1 rfl (lv_room (Nat.le_of_ble_eq_true rfl)) dX11_init_124 ⟨by rw [hRc]; omega, by rw [hRs]; omega⟩) hh_193.1 (fun q _ h => h) (fun q h => h) (fun u_198 t_198 H_198 locs_198 ht_198 hvm_198 hr_199 hb_198 hz_198 hk_198 hS_198 => ?_)
  rw [ht_198] at hb_198
  obtain ⟨G_198, rfl⟩ : ∃ z, z = u_198 := ⟨_, rfl⟩
  try simp only at hb_198
  obtain ⟨⟨hb_1981, hb_1982, hb_1983, hb_1984, hb_1985, hb_1986⟩, hN_198, hgc_198, hbX_198, hbE_198⟩ := hb_198
  have hY_198 := hN_198
  have hM_198 := hN_198
  have hN_198 : (jNk [0, 5, 10, 14, 15, 16]) G_176 G_198 := hN_198.sub (by decide)
  have hh_198 : jSt (dC, dI) B base G0 G_198 EX11_init s.heap ((((((((((((((((((((0 + 1) + (1)) + 1) + (1)) + 1) + (8)) + 1) + (1)) + 1) + (1)) + 1) + (24)) + 1) + (3)) + 1) + (0)) + 1) + (0)) + 1) + (0)) ((((((((((((((((((((0 + 2) + ((4000 : Int).toNat)) + 12) + (3000)) + 12) + (12012)) + 2) + ((20000 : Int).toNat)) + 2) + ((1024 : Int).toNat)) + 11) + (38990)) + 5) + (826)) + 3) + (0)) + 3) + (0)) + 3) + (0)) [(H_98.size, 7, 0, .ref names_129), (H_78.size, 2, 1, .int qc_85), (H_78.size, 2, 0, .ref qa_85), (H_59.size, 2, 1, .int qc_66), (H_59.size, 2, 0, .ref qa_66), (s.heap.size, 2, 1, .int qc_6), (s.heap.size, 2, 0, .ref qa_6)] [] [(jFy, jYb dC dI G_176), (jFs11, jSef dC dI G_176)] H_198 locs_198 := (hh_193.callG hb_1981 hb_1982 hb_1983 hb_1984 hb_1985 hS_198 rfl (L1 := [(H_98.size, 7, 0, .ref names_129), (H_78.size, 2, 1, .int qc_85), (H_78.size, 2, 0, .ref qa_85), (H_59.size, 2, 1, .int qc_66), (H_59.size, 2, 0, .ref qa_66), (s.heap.size, 2, 1, .int qc_6), (s.heap.size, 2, 0, .ref qa_6)]) [0, 1, 2, 3, 4, 5, 6] rfl rfl (M1 := []) [] rfl rfl (I1 := [(jFy, jYb dC dI G_176), (jFs11, jSef dC dI G_176)]) [1, 2] rfl rfl).more hb_1986
  have hNn_198 : (jNk [0, 5, 10, 14, 15, 16]) G0 G_198 := (hNn_176).tr hN_198
  have hg_200 := hb_1982 _ _ hg_178
  have hg_201 := hb_1982 _ _ hg_179
  have hg_202 := hb_1982 _ _ hg_180
  have hg_203 := hb_1982 _ _ hg_181
  have hd_204 := jYb.grow (hh_198.iv 0 rfl) hb_1982 hY_198 (by decide)
  have hh_205 := hh_198.sub (L1 := [(H_98.size, 7, 0, .ref names_129), (H_78.size, 2, 1, .int qc_85), (H_78.size, 2, 0, .ref qa_85), (H_59.size, 2, 1, .int qc_66), (H_59.size, 2, 0, .ref qa_66), (s.heap.size, 2, 1, .int qc_6), (s.heap.size, 2, 0, .ref qa_6)]) [0, 1, 2, 3, 4, 5, 6] rfl (M1 := []) [] rfl (I1 := [(jFs11, jSef dC dI G_176)]) [1] rfl
  clear hh_198
  have hh_206 := hh_205.addI (jYb.ie hd_204)
  clear hh_205
  have hd_207 := jSef.grow (hh_206.iv 1 rfl) hb_1982 hM_198 (by decide)
  have hh_208 := hh_206.sub (L1 := [(H_98.size, 7, 0, .ref names_129), (H_78.size, 2, 1, .int qc_85), (H_78.size, 2, 0, .ref qa_85), (H_59.size, 2, 1, .int qc_66), (H_59.size, 2, 0, .ref qa_66), (s.heap.size, 2, 1, .int qc_6), (s.heap.size, 2, 0, .ref qa_6)]) [0, 1, 2, 3, 4, 5, 6] rfl (M1 := []) [] rfl (I1 := [(jFy, jYb dC dI G_198)]) [0] rfl
  clear hh_206
  have hh_209 := hh_208.addI (jSef.ie hd_207)
  clear hh_208
  have hh_210 := hh_209.addIs hbE_198
  try simp only at hr_199
  have hkp_211 := hkp_195.in hbX_198 hsy_193
  have hraw_212x := hbX_198.ke hraw_196.lt hne_197 hraw_196n
  have hraw_212 := hraw_196.kept hraw_212x.1
  refine j7_putRF hx hb hown hK hh_210 hB hAp hraw_212 hraw_212x.2 hbr0 (C := RX11) (T := TX11) (N := 19) rfl (i := 9) (by decide) (Nat.le_of_ble_eq_true rfl) hly_13_9 rfl hin2 rfl hlk_68 (ty := (.object "java/util/List")) (v := .ref H_191.size) (by decide +kernel) rfl rfl dX11_init_127 (fun H_213 locs_213 hraw_213 hr_213 hh_213 => ?_)
  have hraw_213 : va_at (dC, dI) vwCl (r0, .inr (13, [.ref s.heap.size, .ref H_17.size, .ref H_38.size, .ref H_59.size, .ref H_78.size, .ref H_98.size, .ref H_119.size, .ref H_147.size, .ref H_169.size, .ref H_191.size, .null, .int 0, .int 0, .int 0, .int 0, .null, .null, .null, .int 0])) H_213 := hraw_213
  have hkp_214 := hkp_211.put hr_213
  clear hh_210
  refine lv_aload_n hx hb dX11_init_130 rfl (lv_at hl 0 rfl) ?_
  refine lv_iconst (v := 2) hx hb dX11_init_131 (by decide) ?_
  clear hsz_198 htt_198 hrc_198 hrs_198
  have hsz_215 := hh_213.2.2.2.2.2.1
  have htt_215 := hh_213.2.2.2.2.2.2.1
  have hsy_215 : s.heap.size ≤ H_213.size := hh_213.1.1
  refine j7_newqK hx hb hown (htw (.classLink RX11 71 RX1) (jWr_2 _ (List.mem_of_getElem? (i := 17) rfl))) hK6.2.1 hK2 hh_213 hB hB212 1 rfl (by decide) hbs (x := 2) (by decide) (by omega) (fun _ => Or.inl rfl) (by rw [hRc]; omega) (by rw [hRs]; omega) dX11_init_132 (fun H_215 hfr_215 hh_215 hqn_215 => ?_)
  have hh_215 : jSt (dC, dI) B base G0 (va_up G_198 H_213.size (some (212, 2))) EX11_init s.heap (((((((((((((((((((((0 + 1) + (1)) + 1) + (1)) + 1) + (8)) + 1) + (1)) + 1) + (1)) + 1) + (24)) + 1) + (3)) + 1) + (0)) + 1) + (0)) + 1) + (0)) + 1) (((((((((((((((((((((0 + 2) + ((4000 : Int).toNat)) + 12) + (3000)) + 12) + (12012)) + 2) + ((20000 : Int).toNat)) + 2) + ((1024 : Int).toNat)) + 11) + (38990)) + 5) + (826)) + 3) + (0)) + 3) + (0)) + 3) + (0)) + 2) [(H_98.size, 7, 0, .ref names_129), (H_78.size, 2, 1, .int qc_85), (H_78.size, 2, 0, .ref qa_85), (H_59.size, 2, 1, .int qc_66), (H_59.size, 2, 0, .ref qa_66), (s.heap.size, 2, 1, .int qc_6), (s.heap.size, 2, 0, .ref qa_6)] [] [(jFl, jLs dC dI ca G_198 3 none), (jFs11, jSef dC dI G_198), (jFy, jYb dC dI G_198)] H_215 locs_213 := hh_215
  have hM_215 : jNk [1, 2, 11] G_198 (va_up G_198 H_213.size (some (212, 2))) := jNk.new (by decide)
  have hN_215 : (jNk [0, 5, 10, 14, 15, 16]) G_198 (va_up G_198 H_213.size (some (212, 2))) := jNk.new (by decide)
  have hgn_215 : (va_up G_198 H_213.size (some (212, 2))) H_213.size = some (212, 2) := jUp_self
  have hle_215 : jLe G_198 (va_up G_198 H_213.size (some (212, 2))) := jLe.new hh_213.2.1.fresh
  have hke_215 : jKe G_198 (va_up G_198 H_213.size (some (212, 2))) H_213 H_215 := jKe.new hfr_215
  have hsy_215 : s.heap.size ≤ H_213.size := hh_213.1.1
  generalize (va_up G_198 H_213.size (some (212, 2))) = G_215 at hN_215 hgn_215 hle_215 hke_215 hh_215 hM_215
  clear hh_213
  have hNn_215 : (jNk [0, 5, 10, 14, 15, 16]) G0 G_215 := (hNn_198).tr hN_215
  have hg_216 := hle_215 _ _ hg_200
  have hg_217 := hle_215 _ _ hg_201
  have hg_218 := hle_215 _ _ hg_202
  have hg_219 := hle_215 _ _ hg_203
  have hkp_220 := hkp_214.tr hke_215
  have hraw_221n := hke_215.nr hraw_213.lt hraw_212x.2
  have hraw_221 := hraw_213.kept (hke_215.1 _ hraw_213.lt)
  have hd_222 := jLs.grow (hh_215.iv 0 rfl) hle_215 hM_215 (by decide)
  have hh_223 := hh_215.sub (L1 := [(H_98.size, 7, 0, .ref names_129), (H_78.size, 2, 1, .int qc_85), (H_78.size, 2, 0, .ref qa_85), (H_59.size, 2, 1, .int qc_66), (H_59.size, 2, 0, .ref qa_66), (s.heap.size, 2, 1, .int qc_6), (s.heap.size, 2, 0, .ref qa_6)]) [0, 1, 2, 3, 4, 5, 6] rfl (M1 := []) [] rfl (I1 := [(jFs11, jSef dC dI G_198), (jFy, jYb dC dI G_198)]) [1, 2] rfl
  clear hh_215
  have hh_224 := hh_223.addI (jLs.ie hd_222)
  clear hh_223
  have hd_225 := jSef.grow (hh_224.iv 1 rfl) hle_215 hM_215 (by decide)
  have hh_226 := hh_224.sub (L1 := [(H_98.size, 7, 0, .ref names_129), (H_78.size, 2, 1, .int qc_85), (H_78.size, 2, 0, .ref qa_85), (H_59.size, 2, 1, .int qc_66), (H_59.size, 2, 0, .ref qa_66), (s.heap.size, 2, 1, .int qc_6), (s.heap.size, 2, 0, .ref qa_6)]) [0, 1, 2, 3, 4, 5, 6] rfl (M1 := []) [] rfl (I1 := [(jFl, jLs dC dI ca G_215 3 none), (jFy, jYb dC dI G_198)]) [0, 2] rfl
  clear hh_224
  have hh_227 := hh_226.addI (jSef.ie hd_225)
  clear hh_226
  have hd_228 := jYb.grow (hh_227.iv 2 rfl) hle_215 hM_215 (by decide)
  have hh_229 := hh_227.sub (L1 := [(H_98.size, 7, 0, .ref names_129), (H_78.size, 2, 1, .int qc_85), (H_78.size, 2, 0, .ref qa_85), (H_59.size, 2, 1, .int qc_66), (H_59.size, 2, 0, .ref qa_66), (s.heap.size, 2, 1, .int qc_6), (s.heap.size, 2, 0, .ref qa_6)]) [0, 1, 2, 3, 4, 5, 6] rfl (M1 := []) [] rfl (I1 := [(jFs11, jSef dC dI G_215), (jFl, jLs dC dI ca G_215 3 none)]) [0, 1] rfl
  clear hh_227
  have hh_230 := hh_229.addI (jYb.ie hd_228)
  clear hh_229
  refine j7_putRF hx hb hown hK hh_230 hB hAp hraw_221 hraw_221n hbr0 (C := RX11) (T := TX11) (N := 19) rfl (i := 10) (by decide) (Nat.le_of_ble_eq_true rfl) hly_13_10 rfl hin2 rfl hlk_73 (ty := (.array (.object "ProofServer$Document"))) (v := .ref H_213.size) (by decide +kernel) rfl rfl dX11_init_135 (fun H_231 locs_231 hraw_231 hr_231 hh_231 => ?_)
  have hraw_231 : va_at (dC, dI) vwCl (r0, .inr (13, [.ref s.heap.size, .ref H_17.size, .ref H_38.size, .ref H_59.size, .ref H_78.size, .ref H_98.size, .ref H_119.size, .ref H_147.size, .ref H_169.size, .ref H_191.size, .ref H_213.size, .int 0, .int 0, .int 0, .int 0, .null, .null, .null, .int 0])) H_231 := hraw_231
  have hkp_232 := hkp_220.put hr_231
  clear hh_230
  refine lv_aload_n hx hb dX11_init_138 rfl (lv_at hl 0 rfl) ?_
  refine lv_iconst (v := 0) hx hb dX11_init_139 (by decide) ?_
  refine j7_putR hx hb hown hK hh_231 hB hAp hraw_231 hraw_221n hbr0 (C := RX11) (T := TX11) (N := 19) rfl (i := 11) (by decide) (Nat.le_of_ble_eq_true rfl) hly_13_11 rfl hlk_77 (ty := .int) (v := .int 0) (by decide +kernel) rfl rfl dX11_init_140 (fun H_233 locs_233 hraw_233 hr_233 hh_233 => ?_)
  have hraw_233 : va_at (dC, dI) vwCl (r0, .inr (13, [.ref s.heap.size, .ref H_17.size, .ref H_38.size, .ref H_59.size, .ref H_78.size, .ref H_98.size, .ref H_119.size, .ref H_147.size, .ref H_169.size, .ref H_191.size, .ref H_213.size, .int 0, .int 0, .int 0, .int 0, .null, .null, .null, .int 0])) H_233 := hraw_233
  have hkp_234 := hkp_232.put hr_233
  clear hh_231
  refine lv_aload_n hx hb dX11_init_143 rfl (lv_at hl 0 rfl) ?_
  clear hsz_215 htt_215
  have hsz_235 := hh_233.2.2.2.2.2.1
  have htt_235 := hh_233.2.2.2.2.2.2.1
  refine j7_newo (k := 3) (C := RX1) (T := TX1) (N := 17) (fs := [.null, .int 0, .null, .int 0, .int 0, .null, .null, .null, .null, .null, .int 0, .null, .null, .int 0, .int 0, .int 0, .int 0]) hx hb htw jWc_wsX10 (fun k => ([(.array .int), .int, (.array .int), .int, .int, (.array .int), (.array .int), (.array .int), (.array .int), (.array (.object "ProofServer$State")), .int, (.array .int), (.object "ProofServer$State"), .int, .int, .int, .int] : List FieldType).getD k .int) (by decide +kernel) hown (htw (.classLink RX11 71 RX1) (jWr_2 _ (List.mem_of_getElem? (i := 17) rfl))) (htw (.instantiable RX1 17) (jWr_2 _ (List.mem_of_getElem? (i := 20) rfl))) (htw (.initialized RX1) (jWr_2 _ (List.mem_of_getElem? (i := 21) rfl))) hK rfl (fun j hj => by rcases (by omega : j = 0 ∨ j = 1 ∨ j = 2 ∨ j = 3 ∨ j = 4 ∨ j = 5 ∨ j = 6 ∨ j = 7 ∨ j = 8 ∨ j = 9 ∨ j = 10 ∨ j = 11 ∨ j = 12 ∨ j = 13 ∨ j = 14 ∨ j = 15 ∨ j = 16) with rfl | rfl | rfl | rfl | rfl | rfl | rfl | rfl | rfl | rfl | rfl | rfl | rfl | rfl | rfl | rfl | rfl <;> rfl) hh_233 hB (by rw [hRc]; omega) (by rw [hRs]; omega) dX11_init_144 (fun H_235 hraw_235 hfr_235 hnr_235 hh_235 => ?_)
  have hlt_236 := hraw_233.lt
  have hke_235 : jKe G_215 G_215 H_233 H_235 := jKe.raw hfr_235
  have hbr_235 : base ≤ H_233.size := Nat.le_trans hbs hh_233.1.1
  have hsy_235 : s.heap.size ≤ H_233.size := hh_233.1.1
  clear hh_233
  have hkp_237 := hkp_234.tr hke_235
  have hraw_238n := hke_235.nr hraw_233.lt hraw_221n
  have hraw_238 := hraw_233.kept (hke_235.1 _ hraw_233.lt)
  have hne_239 : r0 ≠ H_233.size := Nat.ne_of_lt hlt_236
  refine lv_dup hx hb dX11_init_147 rfl ?_
  clear hsz_235 htt_235
  have hsz_240 := hh_235.2.2.2.2.2.1
  have htt_240 := hh_235.2.2.2.2.2.2.1
  refine W.room (fun hrc_240 hrs_240 => ?_)
  refine va_callv (A0 := jA base) (H0 := s.heap) (va_runIN (As := []) (rest := [.ref H_233.size, .ref r0]) ⟨hx, hb, hml, hown, hts⟩ (uX1_init l dC dI ca base B hB hAp hB3 hB11 hB101 hB171 hB172 hB210 G_215 H_235 H_233.size 1 LC LS) ⟨va_cnB 0 hts (jgW (jWr_10 _ (List.mem_of_getElem? (i := 3) rfl))) rfl rfl rfl (hG.2.2.1 RX11 81 yX1_init "ProofServer" (List.mem_of_getElem? (i := 434) (by decide +kernel))) (htw (.initialized RX1) (jWr_2 _ (List.mem_of_getElem? (i := 21) rfl))) (by decide +kernel) ⟨by rw [← hR]; exact Nat.le_of_ble_eq_true rfl, by rw [← hR]; exact Nat.le_of_ble_eq_true rfl⟩, rfl, htw (.instanceMethod yX1_init) (jWr_10 _ (List.mem_of_getElem? (i := 2) rfl))⟩ ⟨fun a U g mk q => by obtain ⟨q0, q1, q2, qK, q10, q11, q12, q13, q14, q15, q16⟩ := q; exact ⟨q0, q1, q2, jG.calling g mk a qK, (va_K.moved (Vm.Alike.refl U.vm) q10), (jK6.moved (Vm.Alike.refl U.vm) q11), q12, q13, q14, q15, q16⟩, fun U hU hW => ⟨rfl, hU, hh_235.2.1, hG.step hW hU hh_235.1, va_K.moved hW.alike hK2, jK6.moved hW.alike hK6, hraw_235, hnr_235, hbr_235, jP.nil, (by omega), (by omega), trivial⟩⟩ rfl rfl hl.1 rfl (lv_room (Nat.le_of_ble_eq_true rfl)) dX11_init_148 ⟨by rw [hRc]; omega, by rw [hRs]; omega⟩) hh_235.1 (fun q _ h => h) (fun q h => h) (fun u_240 t_240 H_240 locs_240 ht_240 hvm_240 hr_241 hb_240 hz_240 hk_240 hS_240 => ?_)
  rw [ht_240] at hb_240
  obtain ⟨G_240, rfl⟩ : ∃ z, z = u_240 := ⟨_, rfl⟩
  try simp only at hb_240
  obtain ⟨⟨hb_2401, hb_2402, hb_2403, hb_2404, hb_2405, hb_2406⟩, hN_240, hgc_240, hbX_240⟩ := hb_240
  have hL_240 := hN_240
  have hY_240 := hN_240
  have hM_240 := hN_240
  have hN_240 : (jNk [0, 5, 10, 14, 15, 16]) G_215 G_240 := hN_240.sub (by decide)
  have hh_240 : jSt (dC, dI) B base G0 G_240 EX11_init s.heap (((((((((((((((((((((((0 + 1) + (1)) + 1) + (1)) + 1) + (8)) + 1) + (1)) + 1) + (1)) + 1) + (24)) + 1) + (3)) + 1) + (0)) + 1) + (0)) + 1) + (0)) + 1) + 1) + (7)) (((((((((((((((((((((((0 + 2) + ((4000 : Int).toNat)) + 12) + (3000)) + 12) + (12012)) + 2) + ((20000 : Int).toNat)) + 2) + ((1024 : Int).toNat)) + 11) + (38990)) + 5) + (826)) + 3) + (0)) + 3) + (0)) + 3) + (0)) + 2) + 17) + (1700)) [(H_98.size, 7, 0, .ref names_129), (H_78.size, 2, 1, .int qc_85), (H_78.size, 2, 0, .ref qa_85), (H_59.size, 2, 1, .int qc_66), (H_59.size, 2, 0, .ref qa_66), (s.heap.size, 2, 1, .int qc_6), (s.heap.size, 2, 0, .ref qa_6)] [] [(jFy, jYb dC dI G_215), (jFs11, jSef dC dI G_215), (jFl, jLs dC dI ca G_215 3 none)] H_240 locs_240 := (hh_235.callG hb_2401 hb_2402 hb_2403 hb_2404 hb_2405 hS_240 rfl (L1 := [(H_98.size, 7, 0, .ref names_129), (H_78.size, 2, 1, .int qc_85), (H_78.size, 2, 0, .ref qa_85), (H_59.size, 2, 1, .int qc_66), (H_59.size, 2, 0, .ref qa_66), (s.heap.size, 2, 1, .int qc_6), (s.heap.size, 2, 0, .ref qa_6)]) [0, 1, 2, 3, 4, 5, 6] rfl rfl (M1 := []) [] rfl rfl (I1 := [(jFy, jYb dC dI G_215), (jFs11, jSef dC dI G_215), (jFl, jLs dC dI ca G_215 3 none)]) [0, 1, 2] rfl rfl).more hb_2406
  have hNn_240 : (jNk [0, 5, 10, 14, 15, 16]) G0 G_240 := (hNn_215).tr hN_240
  have hg_242 := hb_2402 _ _ hg_216
  have hg_243 := hb_2402 _ _ hg_217
  have hg_244 := hb_2402 _ _ hg_218
  have hg_245 := hb_2402 _ _ hg_219
  have hd_246 := jYb.grow (hh_240.iv 0 rfl) hb_2402 hY_240 (by decide)
  have hh_247 := hh_240.sub (L1 := [(H_98.size, 7, 0, .ref names_129), (H_78.size, 2, 1, .int qc_85), (H_78.size, 2, 0, .ref qa_85), (H_59.size, 2, 1, .int qc_66), (H_59.size, 2, 0, .ref qa_66), (s.heap.size, 2, 1, .int qc_6), (s.heap.size, 2, 0, .ref qa_6)]) [0, 1, 2, 3, 4, 5, 6] rfl (M1 := []) [] rfl (I1 := [(jFs11, jSef dC dI G_215), (jFl, jLs dC dI ca G_215 3 none)]) [1, 2] rfl
  clear hh_240
  have hh_248 := hh_247.addI (jYb.ie hd_246)
  clear hh_247
  have hd_249 := jSef.grow (hh_248.iv 1 rfl) hb_2402 hM_240 (by decide)
  have hh_250 := hh_248.sub (L1 := [(H_98.size, 7, 0, .ref names_129), (H_78.size, 2, 1, .int qc_85), (H_78.size, 2, 0, .ref qa_85), (H_59.size, 2, 1, .int qc_66), (H_59.size, 2, 0, .ref qa_66), (s.heap.size, 2, 1, .int qc_6), (s.heap.size, 2, 0, .ref qa_6)]) [0, 1, 2, 3, 4, 5, 6] rfl (M1 := []) [] rfl (I1 := [(jFy, jYb dC dI G_240), (jFl, jLs dC dI ca G_215 3 none)]) [0, 2] rfl
  clear hh_248
  have hh_251 := hh_250.addI (jSef.ie hd_249)
  clear hh_250
  have hd_252 := jLs.grow (hh_251.iv 2 rfl) hb_2402 hL_240 (by decide)
  have hh_253 := hh_251.sub (L1 := [(H_98.size, 7, 0, .ref names_129), (H_78.size, 2, 1, .int qc_85), (H_78.size, 2, 0, .ref qa_85), (H_59.size, 2, 1, .int qc_66), (H_59.size, 2, 0, .ref qa_66), (s.heap.size, 2, 1, .int qc_6), (s.heap.size, 2, 0, .ref qa_6)]) [0, 1, 2, 3, 4, 5, 6] rfl (M1 := []) [] rfl (I1 := [(jFs11, jSef dC dI G_240), (jFy, jYb dC dI G_240)]) [0, 1] rfl
  clear hh_251
  have hh_254 := hh_253.addI (jLs.ie hd_252)
  clear hh_253
  try simp only at hr_241
  have hkp_255 := hkp_237.in hbX_240 hsy_235
  have hraw_256x := hbX_240.ke hraw_238.lt hne_239 hraw_238n
  have hraw_256 := hraw_238.kept hraw_256x.1
  refine j7_putR hx hb hown hK hh_254 hB hAp hraw_256 hraw_256x.2 hbr0 (C := RX11) (T := TX11) (N := 19) rfl (i := 15) (by decide) (Nat.le_of_ble_eq_true rfl) hly_13_15 rfl hlk_82 (ty := (.object "ProofServer$Document")) (v := .ref H_233.size) (by decide +kernel) rfl rfl dX11_init_151 (fun H_257 locs_257 hraw_257 hr_257 hh_257 => ?_)
  have hraw_257 : va_at (dC, dI) vwCl (r0, .inr (13, [.ref s.heap.size, .ref H_17.size, .ref H_38.size, .ref H_59.size, .ref H_78.size, .ref H_98.size, .ref H_119.size, .ref H_147.size, .ref H_169.size, .ref H_191.size, .ref H_213.size, .int 0, .int 0, .int 0, .int 0, .ref H_233.size, .null, .null, .int 0])) H_257 := hraw_257
  have hkp_258 := hkp_255.put hr_257
  clear hh_254
  refine lv_aload_n hx hb dX11_init_154 rfl (lv_at hl 0 rfl) ?_
  clear hsz_240 htt_240 hrc_240 hrs_240
  have hsz_259 := hh_257.2.2.2.2.2.1
  have htt_259 := hh_257.2.2.2.2.2.2.1
  refine j7_newo (k := 2) (C := RX0) (T := TX0) (N := 2) (fs := [.null, .int 0]) hx hb htw jWc_wsX00 (fun k => ([(.array .byte), .int] : List FieldType).getD k .int) (by decide +kernel) hown (htw (.classLink RX11 7 RX0) (jWr_1 _ (List.mem_of_getElem? (i := 12) rfl))) (htw (.instantiable RX0 2) (jWr_1 _ (List.mem_of_getElem? (i := 13) rfl))) (htw (.initialized RX0) (jWr_1 _ (List.mem_of_getElem? (i := 14) rfl))) hK rfl (fun j hj => by rcases (by omega : j = 0 ∨ j = 1) with rfl | rfl <;> rfl) hh_257 hB (by rw [hRc]; omega) (by rw [hRs]; omega) dX11_init_155 (fun H_259 hraw_259 hfr_259 hnr_259 hh_259 => ?_)
  have hlt_260 := hraw_257.lt
  have hke_259 : jKe G_240 G_240 H_257 H_259 := jKe.raw hfr_259
  have hbr_259 : base ≤ H_257.size := Nat.le_trans hbs hh_257.1.1
  have hsy_259 : s.heap.size ≤ H_257.size := hh_257.1.1
  clear hh_257
  have hkp_261 := hkp_258.tr hke_259
  have hraw_262n := hke_259.nr hraw_257.lt hraw_256x.2
  have hraw_262 := hraw_257.kept (hke_259.1 _ hraw_257.lt)
  have hne_263 : r0 ≠ H_257.size := Nat.ne_of_lt hlt_260
  refine lv_dup hx hb dX11_init_158 rfl ?_
  refine lv_sipush (v := 256) hx hb dX11_init_159 (by decide) ?_
  clear hsz_259 htt_259
  have hsz_264 := hh_259.2.2.2.2.2.1
  have htt_264 := hh_259.2.2.2.2.2.2.1
  refine W.room (fun hrc_264 hrs_264 => ?_)
  refine va_callv (A0 := jA base) (H0 := s.heap) (va_runI (As := [.int 256]) (rest := [.ref H_257.size, .ref r0]) ⟨hx, hb, hml, hown, hts⟩ (uX0_initY l dC dI ca base B hB hAp hB2 hB196 G_240 H_259 H_257.size 256 0 LC LS) (cwI 1 hts (jgW (jWr_3 _ (List.mem_of_getElem? (i := 3) rfl))) rfl rfl rfl (htw (.initialized RX0) (jWr_1 _ (List.mem_of_getElem? (i := 14) rfl))) (htw (.methodLink RX11 11 yX0_init) (jWr_3 _ (List.mem_of_getElem? (i := 1) rfl))) (htw (.instanceMethod yX0_init) (jWr_3 _ (List.mem_of_getElem? (i := 2) rfl))) rfl (by decide +kernel) ⟨by rw [← hR]; exact Nat.le_of_ble_eq_true rfl, by rw [← hR]; exact Nat.le_of_ble_eq_true rfl⟩) ⟨fun a U g mk q => by obtain ⟨q0, q1, q2, qK, q10, q11, q12, q13, q14, q15⟩ := q; exact ⟨q0, q1, q2, jG.calling g mk a qK, q10, q11, q12, q13, q14, q15⟩, fun U hU hW => ⟨rfl, hU, hh_259.2.1, hG.step hW hU hh_259.1, hraw_259, hnr_259, hbr_259, jP.nil, (hh_259.2.2.2.2.2.2.2.2.sub (L1 := [(jFy, jYb dC dI G_240)]) [2] rfl), (by omega), (by omega), ⟨(by first | omega | rfl | assumption | exact fun _ => ⟨4, by decide, by decide⟩), (by first | omega | rfl | assumption | exact fun _ => ⟨4, by decide, by decide⟩), (by first | omega | rfl | assumption | exact fun _ => ⟨4, by decide, by decide⟩), (by first | assumption | exact fun _ => ⟨4, by decide, by decide⟩ | omega)⟩⟩⟩ rfl rfl hl.1 rfl (lv_room (Nat.le_of_ble_eq_true rfl)) dX11_init_162 ⟨by rw [hRc]; omega, by rw [hRs]; omega⟩) hh_259.1 (fun q _ h => h) (fun q h => h) (fun u_264 t_264 H_264 locs_264 ht_264 hvm_264 hr_265 hb_264 hz_264 hk_264 hS_264 => ?_)
  obtain ⟨qc_264, qa_264, m_qa_264, G_264⟩ := u_264
  rw [ht_264] at hb_264
  simp only at hb_264
  obtain ⟨⟨hb_2641, hb_2642, hb_2643, hb_2644, hb_2645, hb_2646⟩, hgq_264_0, hN_264, hgc_264, hbX_264, hbE_264⟩ := hb_264
  have hL_264 := hN_264
  have hM_264 := hN_264
  have hN_264 : (jNk [0, 5, 10, 14, 15, 16]) G_240 G_264 := hN_264.sub (by decide)
  have hh_264 : jSt (dC, dI) B base G0 G_264 EX11_init s.heap (((((((((((((((((((((((((0 + 1) + (1)) + 1) + (1)) + 1) + (8)) + 1) + (1)) + 1) + (1)) + 1) + (24)) + 1) + (3)) + 1) + (0)) + 1) + (0)) + 1) + (0)) + 1) + 1) + (7)) + 1) + (1)) (((((((((((((((((((((((((0 + 2) + ((4000 : Int).toNat)) + 12) + (3000)) + 12) + (12012)) + 2) + ((20000 : Int).toNat)) + 2) + ((1024 : Int).toNat)) + 11) + (38990)) + 5) + (826)) + 3) + (0)) + 3) + (0)) + 3) + (0)) + 2) + 17) + (1700)) + 2) + ((256 : Int).toNat)) [(H_257.size, 2, 1, .int qc_264), (H_257.size, 2, 0, .ref qa_264), (H_98.size, 7, 0, .ref names_129), (H_78.size, 2, 1, .int qc_85), (H_78.size, 2, 0, .ref qa_85), (H_59.size, 2, 1, .int qc_66), (H_59.size, 2, 0, .ref qa_66), (s.heap.size, 2, 1, .int qc_6), (s.heap.size, 2, 0, .ref qa_6)] [] [(jFl, jLs dC dI ca G_240 3 none), (jFs11, jSef dC dI G_240)] H_264 locs_264 := (hh_259.callG hb_2641 hb_2642 hb_2643 hb_2644 hb_2645 hS_264 rfl (L1 := [(H_98.size, 7, 0, .ref names_129), (H_78.size, 2, 1, .int qc_85), (H_78.size, 2, 0, .ref qa_85), (H_59.size, 2, 1, .int qc_66), (H_59.size, 2, 0, .ref qa_66), (s.heap.size, 2, 1, .int qc_6), (s.heap.size, 2, 0, .ref qa_6)]) [0, 1, 2, 3, 4, 5, 6] rfl rfl (M1 := []) [] rfl rfl (I1 := [(jFl, jLs dC dI ca G_240 3 none), (jFs11, jSef dC dI G_240)]) [0, 1] rfl rfl).more hb_2646
  have hNn_264 : (jNk [0, 5, 10, 14, 15, 16]) G0 G_264 := (hNn_240).tr hN_264
  have hg_266 := hb_2642 _ _ hg_242
  have hg_267 := hb_2642 _ _ hg_243
  have hg_268 := hb_2642 _ _ hg_244
  have hg_269 := hb_2642 _ _ hg_245
  have hd_270 := jLs.grow (hh_264.iv 0 rfl) hb_2642 hL_264 (by decide)
  have hh_271 := hh_264.sub (L1 := [(H_257.size, 2, 1, .int qc_264), (H_257.size, 2, 0, .ref qa_264), (H_98.size, 7, 0, .ref names_129), (H_78.size, 2, 1, .int qc_85), (H_78.size, 2, 0, .ref qa_85), (H_59.size, 2, 1, .int qc_66), (H_59.size, 2, 0, .ref qa_66), (s.heap.size, 2, 1, .int qc_6), (s.heap.size, 2, 0, .ref qa_6)]) [0, 1, 2, 3, 4, 5, 6, 7, 8] rfl (M1 := []) [] rfl (I1 := [(jFs11, jSef dC dI G_240)]) [1] rfl
  clear hh_264
  have hh_272 := hh_271.addI (jLs.ie hd_270)
  clear hh_271
  have hd_273 := jSef.grow (hh_272.iv 1 rfl) hb_2642 hM_264 (by decide)
  have hh_274 := hh_272.sub (L1 := [(H_257.size, 2, 1, .int qc_264), (H_257.size, 2, 0, .ref qa_264), (H_98.size, 7, 0, .ref names_129), (H_78.size, 2, 1, .int qc_85), (H_78.size, 2, 0, .ref qa_85), (H_59.size, 2, 1, .int qc_66), (H_59.size, 2, 0, .ref qa_66), (s.heap.size, 2, 1, .int qc_6), (s.heap.size, 2, 0, .ref qa_6)]) [0, 1, 2, 3, 4, 5, 6, 7, 8] rfl (M1 := []) [] rfl (I1 := [(jFl, jLs dC dI ca G_264 3 none)]) [0] rfl
  clear hh_272
  have hh_275 := hh_274.addI (jSef.ie hd_273)
  clear hh_274
  have hh_276 := hh_275.addIs hbE_264
  try simp only at hr_265
  obtain ⟨hr_265_0, hr_265_1⟩ := hr_265
  have hkp_277 := hkp_261.in hbX_264 hsy_259
  have hraw_278x := hbX_264.ke hraw_262.lt hne_263 hraw_262n
  have hraw_278 := hraw_262.kept hraw_278x.1
  refine j7_putRF hx hb hown hK hh_276 hB hAp hraw_278 hraw_278x.2 hbr0 (C := RX11) (T := TX11) (N := 19) rfl (i := 17) (by decide) (Nat.le_of_ble_eq_true rfl) hly_13_17 rfl hin2 rfl hlk_86 (ty := (.object "ProofServer$Bytes")) (v := .ref H_257.size) (by decide +kernel) rfl rfl dX11_init_165 (fun H_279 locs_279 hraw_279 hr_279 hh_279 => ?_)
  have hraw_279 : va_at (dC, dI) vwCl (r0, .inr (13, [.ref s.heap.size, .ref H_17.size, .ref H_38.size, .ref H_59.size, .ref H_78.size, .ref H_98.size, .ref H_119.size, .ref H_147.size, .ref H_169.size, .ref H_191.size, .ref H_213.size, .int 0, .int 0, .int 0, .int 0, .ref H_233.size, .null, .ref H_257.size, .int 0])) H_279 := hraw_279
  have hkp_280 := hkp_277.put hr_279
  clear hh_276
  refine lv_aload_n hx hb dX11_init_168 rfl (lv_at hl 0 rfl) ?_
  refine lv_bipush (v := (-2)) hx hb dX11_init_169 (by decide) ?_
  refine j7_putR hx hb hown hK hh_279 hB hAp hraw_279 hraw_278x.2 hbr0 (C := RX11) (T := TX11) (N := 19) rfl (i := 18) (by decide) (Nat.le_of_ble_eq_true rfl) hly_13_18 rfl hlk_89 (ty := .int) (v := .int (-2)) (by decide +kernel) rfl rfl dX11_init_171 (fun H_281 locs_281 hraw_281 hr_281 hh_281 => ?_)
  have hraw_281 : va_at (dC, dI) vwCl (r0, .inr (13, [.ref s.heap.size, .ref H_17.size, .ref H_38.size, .ref H_59.size, .ref H_78.size, .ref H_98.size, .ref H_119.size, .ref H_147.size, .ref H_169.size, .ref H_191.size, .ref H_213.size, .int 0, .int 0, .int 0, .int 0, .ref H_233.size, .null, .ref H_257.size, .int (-2)])) H_281 := hraw_281
  have hkp_282 := hkp_280.put hr_281
  clear hh_279
  clear hsz_264 htt_264 hrc_264 hrs_264
  have hsz_283 := hh_281.2.2.2.2.2.1
  have htt_283 := hh_281.2.2.2.2.2.2.1
  refine W.room (fun hrc_283 hrs_283 => ?_)
  refine W.widen (k := LC - s.heap.size) (n := LS - jTot s.heap) (by omega) (by omega) ?_
  rw [hQ]
  have hle_284 : jLe G_264 (va_up G_264 r0 (some (13, 0))) := jLe.typ hraw_278x.2
  have hg_285 := hle_284 _ _ hgq_264_0
  have hg_286 := hle_284 _ _ hg_266
  have hg_287 := hle_284 _ _ hg_267
  have hg_288 := hle_284 _ _ hg_268
  have hg_289 := hle_284 _ _ hg_269
  have hg_290 := ((((((((((((hb_242).tr hb_452).tr hb_662).tr hb_852).tr hb_1052).tr hb_1302).tr hb_1542).tr hb_1762).tr hb_1982).tr hle_215).tr hb_2402).tr hb_2642).tr hle_284 _ _ hgc_6
  have hg_291 := (((((((((((hb_452).tr hb_662).tr hb_852).tr hb_1052).tr hb_1302).tr hb_1542).tr hb_1762).tr hb_1982).tr hle_215).tr hb_2402).tr hb_2642).tr hle_284 _ _ hgc_24
  have hg_292 := ((((((((((hb_662).tr hb_852).tr hb_1052).tr hb_1302).tr hb_1542).tr hb_1762).tr hb_1982).tr hle_215).tr hb_2402).tr hb_2642).tr hle_284 _ _ hgc_45
  have hg_293 := (((((((((hb_852).tr hb_1052).tr hb_1302).tr hb_1542).tr hb_1762).tr hb_1982).tr hle_215).tr hb_2402).tr hb_2642).tr hle_284 _ _ hgc_66
  have hg_294 := ((((((((hb_1052).tr hb_1302).tr hb_1542).tr hb_1762).tr hb_1982).tr hle_215).tr hb_2402).tr hb_2642).tr hle_284 _ _ hgc_85
  have hg_295 := (((((((hb_1302).tr hb_1542).tr hb_1762).tr hb_1982).tr hle_215).tr hb_2402).tr hb_2642).tr hle_284 _ _ hgc_105
  have hg_296 := ((((((hb_1542).tr hb_1762).tr hb_1982).tr hle_215).tr hb_2402).tr hb_2642).tr hle_284 _ _ hgc_130
  have hg_297 := (((((hb_1762).tr hb_1982).tr hle_215).tr hb_2402).tr hb_2642).tr hle_284 _ _ hgc_154
  have hg_298 := ((((hb_1982).tr hle_215).tr hb_2402).tr hb_2642).tr hle_284 _ _ hgc_176
  have hg_299 := (((hle_215).tr hb_2402).tr hb_2642).tr hle_284 _ _ hgc_198
  have hg_300 := ((hb_2402).tr hb_2642).tr hle_284 _ _ hgn_215
  have hg_301 := (hb_2642).tr hle_284 _ _ hgc_240
  have hg_302 := (jLe.rf).tr hle_284 _ _ hgc_264
  have hfa_284 : jRf (va_up G_264 r0 (some (13, 0))) 2 4000 (.ref s.heap.size) ∧ jRf (va_up G_264 r0 (some (13, 0))) 4 0 (.ref H_17.size) ∧ jRf (va_up G_264 r0 (some (13, 0))) 6 0 (.ref H_38.size) ∧ jRf (va_up G_264 r0 (some (13, 0))) 2 20000 (.ref H_59.size) ∧ jRf (va_up G_264 r0 (some (13, 0))) 2 0 (.ref H_78.size) ∧ jRf (va_up G_264 r0 (some (13, 0))) 7 0 (.ref H_98.size) ∧ jRf (va_up G_264 r0 (some (13, 0))) 9 0 (.ref H_119.size) ∧ jRf (va_up G_264 r0 (some (13, 0))) 1 1 (.ref H_147.size) ∧ jRf (va_up G_264 r0 (some (13, 0))) 1 2 (.ref H_169.size) ∧ jRf (va_up G_264 r0 (some (13, 0))) 1 3 (.ref H_191.size) ∧ jRf (va_up G_264 r0 (some (13, 0))) 212 2 (.ref H_213.size) ∧ jI 0 2 (.int 0) ∧ jIa (.int 0) ∧ jIa (.int 0) ∧ jIa (.int 0) ∧ jRf (va_up G_264 r0 (some (13, 0))) 3 1 (.ref H_233.size) ∧ jRn (va_up G_264 r0 (some (13, 0))) 3 1 (.null) ∧ jRf (va_up G_264 r0 (some (13, 0))) 2 0 (.ref H_257.size) ∧ jIa (.int (-2)) ∧ True := ⟨⟨_, rfl, hg_290⟩, ⟨_, rfl, hg_291⟩, ⟨_, rfl, hg_292⟩, ⟨_, rfl, hg_293⟩, ⟨_, rfl, hg_294⟩, ⟨_, rfl, hg_295⟩, ⟨_, rfl, hg_296⟩, ⟨_, rfl, hg_297⟩, ⟨_, rfl, hg_298⟩, ⟨_, rfl, hg_299⟩, ⟨_, rfl, hg_300⟩, ⟨_, rfl, by omega, by omega⟩, ⟨_, rfl⟩, ⟨_, rfl⟩, ⟨_, rfl⟩, ⟨_, rfl, hg_301⟩, Or.inl rfl, ⟨_, rfl, hg_302⟩, ⟨_, rfl⟩, trivial⟩
  have hh_284 := hh_281.typ (k := 13) (n := 0) hB hraw_278x.2 hbr0 hraw_281.lt (jOb.of (C := RX11) (T := TX11) (N := 19) (F := F13) hB13 rfl hraw_281 (show jFx (F13 0 (va_up G_264 r0 (some (13, 0)))) [.ref s.heap.size, .ref H_17.size, .ref H_38.size, .ref H_59.size, .ref H_78.size, .ref H_98.size, .ref H_119.size, .ref H_147.size, .ref H_169.size, .ref H_191.size, .ref H_213.size, .int 0, .int 0, .int 0, .int 0, .ref H_233.size, .null, .ref H_257.size, .int (-2)] from hfa_284))
  have hgn_284 : (va_up G_264 r0 (some (13, 0))) r0 = some (13, 0) := jUp_self
  have hN_284 : (jNk [0, 5, 10, 14, 15, 16]) G_264 (va_up G_264 r0 (some (13, 0))) := jNk.new (by decide)
  have hNn_284 : (jNk [0, 5, 10, 14, 15, 16]) G0 (va_up G_264 r0 (some (13, 0))) := (hNn_264).tr hN_284
  have hkp_303 := hkp_282.typ (t := some (13, 0))
  have hM_284 : jNk [1, 2, 11] G_264 (va_up G_264 r0 (some (13, 0))) := jNk.new (by decide)
  have hd_304 := jYb.grow (hh_284.iv 0 rfl) hle_284 hM_284 (by decide)
  have hh_305 := hh_284.sub (L1 := [(H_257.size, 2, 1, .int qc_264), (H_257.size, 2, 0, .ref qa_264), (H_98.size, 7, 0, .ref names_129), (H_78.size, 2, 1, .int qc_85), (H_78.size, 2, 0, .ref qa_85), (H_59.size, 2, 1, .int qc_66), (H_59.size, 2, 0, .ref qa_66), (s.heap.size, 2, 1, .int qc_6), (s.heap.size, 2, 0, .ref qa_6)]) [0, 1, 2, 3, 4, 5, 6, 7, 8] rfl (M1 := []) [] rfl (I1 := [(jFs11, jSef dC dI G_264), (jFl, jLs dC dI ca G_264 3 none)]) [1, 2] rfl
  clear hh_284
  have hh_306 := hh_305.addI (jYb.ie hd_304)
  clear hh_305
  have hd_307 := jSef.grow (hh_306.iv 1 rfl) hle_284 hM_284 (by decide)
  have hh_308 := hh_306.sub (L1 := [(H_257.size, 2, 1, .int qc_264), (H_257.size, 2, 0, .ref qa_264), (H_98.size, 7, 0, .ref names_129), (H_78.size, 2, 1, .int qc_85), (H_78.size, 2, 0, .ref qa_85), (H_59.size, 2, 1, .int qc_66), (H_59.size, 2, 0, .ref qa_66), (s.heap.size, 2, 1, .int qc_6), (s.heap.size, 2, 0, .ref qa_6)]) [0, 1, 2, 3, 4, 5, 6, 7, 8] rfl (M1 := []) [] rfl (I1 := [(jFy, jYb dC dI (va_up G_264 r0 (some (13, 0)))), (jFl, jLs dC dI ca G_264 3 none)]) [0, 2] rfl
  clear hh_306
  have hh_309 := hh_308.addI (jSef.ie hd_307)
  clear hh_308
  have hd_310 := jLs.grow (hh_309.iv 2 rfl) hle_284 hM_284 (by decide)
  have hh_311 := hh_309.sub (L1 := [(H_257.size, 2, 1, .int qc_264), (H_257.size, 2, 0, .ref qa_264), (H_98.size, 7, 0, .ref names_129), (H_78.size, 2, 1, .int qc_85), (H_78.size, 2, 0, .ref qa_85), (H_59.size, 2, 1, .int qc_66), (H_59.size, 2, 0, .ref qa_66), (s.heap.size, 2, 1, .int qc_6), (s.heap.size, 2, 0, .ref qa_6)]) [0, 1, 2, 3, 4, 5, 6, 7, 8] rfl (M1 := []) [] rfl (I1 := [(jFs11, jSef dC dI (va_up G_264 r0 (some (13, 0)))), (jFy, jYb dC dI (va_up G_264 r0 (some (13, 0))))]) [0, 1] rfl
  clear hh_309
  have hh_312 := hh_311.addI (jLs.ie hd_310)
  clear hh_311
  exact W.vret hx hb hr (fun t ht hW => ⟨⟨(va_up G_264 r0 (some (13, 0))), rfl, trivial, ⟨hh_312.ra (by first | omega | (simp only; omega)) (by first | omega | (simp only; omega)) (M1 := []) [] rfl ht, hNn_284, hgn_284, by rw [ht]; exact hkp_303, by rw [ht]; exact hh_312.2.2.2.2.2.2.2.2.sub (L1 := [(jFy, jYb dC dI (va_up G_264 r0 (some (13, 0)))), (jFs11, jSef dC dI (va_up G_264 r0 (some (13, 0)))), (jFl, jLs dC dI ca (va_up G_264 r0 (some (13, 0))) 3 none)]) [2, 1, 0] rfl⟩⟩, by rw [ht]; try exact hh_312.1.1, fun q h9 hq => by rw [ht]; try exact hh_312.1.2.1 q h9 hq⟩) hh_312.1.2.2 dX11_init_174
