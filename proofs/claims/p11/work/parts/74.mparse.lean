theorem dX13_read_0 : decode cX13_read 0 = .ok (.aload_n 0, 1) := by decide +kernel
theorem dX13_read_1 : decode cX13_read 1 = .ok (.iconst 1, 1) := by decide +kernel
theorem dX13_read_2 : decode cX13_read 2 = .ok (.putfield 171, 3) := by decide +kernel
theorem dX13_read_5 : decode cX13_read 5 = .ok (.iload_n 1, 1) := by decide +kernel
theorem dX13_read_6 : decode cX13_read 6 = .ok (.iconst 4, 1) := by decide +kernel
theorem dX13_read_7 : decode cX13_read 7 = .ok (.if_icmp .eq 32, 3) := by decide +kernel
theorem dX13_read_10 : decode cX13_read 10 = .ok (.iload_n 1, 1) := by decide +kernel
theorem dX13_read_11 : decode cX13_read 11 = .ok (.iconst 5, 1) := by decide +kernel
theorem dX13_read_12 : decode cX13_read 12 = .ok (.if_icmp .eq 27, 3) := by decide +kernel
theorem dX13_read_15 : decode cX13_read 15 = .ok (.iload_n 1, 1) := by decide +kernel
theorem dX13_read_16 : decode cX13_read 16 = .ok (.bipush 9, 2) := by decide +kernel
theorem dX13_read_18 : decode cX13_read 18 = .ok (.if_icmp .eq 21, 3) := by decide +kernel
theorem dX13_read_21 : decode cX13_read 21 = .ok (.iload_n 1, 1) := by decide +kernel
theorem dX13_read_22 : decode cX13_read 22 = .ok (.bipush 10, 2) := by decide +kernel
theorem dX13_read_24 : decode cX13_read 24 = .ok (.if_icmp .eq 15, 3) := by decide +kernel
theorem dX13_read_27 : decode cX13_read 27 = .ok (.iload_n 1, 1) := by decide +kernel
theorem dX13_read_28 : decode cX13_read 28 = .ok (.bipush 11, 2) := by decide +kernel
theorem dX13_read_30 : decode cX13_read 30 = .ok (.if_icmp .eq 9, 3) := by decide +kernel
theorem dX13_read_33 : decode cX13_read 33 = .ok (.iload_n 1, 1) := by decide +kernel
theorem dX13_read_34 : decode cX13_read 34 = .ok (.bipush 16, 2) := by decide +kernel
theorem dX13_read_36 : decode cX13_read 36 = .ok (.if_icmp .ne 11, 3) := by decide +kernel
theorem dX13_read_39 : decode cX13_read 39 = .ok (.aload_n 0, 1) := by decide +kernel
theorem dX13_read_40 : decode cX13_read 40 = .ok (.iconst 0, 1) := by decide +kernel
theorem dX13_read_41 : decode cX13_read 41 = .ok (.putfield 291, 3) := by decide +kernel
theorem dX13_read_44 : decode cX13_read 44 = .ok (.goto 29, 3) := by decide +kernel
theorem dX13_read_47 : decode cX13_read 47 = .ok (.iload_n 1, 1) := by decide +kernel
theorem dX13_read_48 : decode cX13_read 48 = .ok (.bipush 14, 2) := by decide +kernel
theorem dX13_read_50 : decode cX13_read 50 = .ok (.if_icmp .ne 15, 3) := by decide +kernel
theorem dX13_read_53 : decode cX13_read 53 = .ok (.aload_n 0, 1) := by decide +kernel
theorem dX13_read_54 : decode cX13_read 54 = .ok (.aload_n 0, 1) := by decide +kernel
theorem dX13_read_55 : decode cX13_read 55 = .ok (.iconst 0, 1) := by decide +kernel
theorem dX13_read_56 : decode cX13_read 56 = .ok (.invokevirtual 201, 3) := by decide +kernel
theorem dX13_read_59 : decode cX13_read 59 = .ok (.putfield 294, 3) := by decide +kernel
theorem dX13_read_62 : decode cX13_read 62 = .ok (.goto 11, 3) := by decide +kernel
theorem dX13_read_65 : decode cX13_read 65 = .ok (.aload_n 0, 1) := by decide +kernel
theorem dX13_read_66 : decode cX13_read 66 = .ok (.aload_n 0, 1) := by decide +kernel
theorem dX13_read_67 : decode cX13_read 67 = .ok (.invokevirtual 194, 3) := by decide +kernel
theorem dX13_read_70 : decode cX13_read 70 = .ok (.putfield 291, 3) := by decide +kernel
theorem dX13_read_73 : decode cX13_read 73 = .ok (.iload_n 1, 1) := by decide +kernel
theorem dX13_read_74 : decode cX13_read 74 = .ok (.iconst 1, 1) := by decide +kernel
theorem dX13_read_75 : decode cX13_read 75 = .ok (.if_icmp .gt 11, 3) := by decide +kernel
theorem dX13_read_78 : decode cX13_read 78 = .ok (.aload_n 0, 1) := by decide +kernel
theorem dX13_read_79 : decode cX13_read 79 = .ok (.aload_n 0, 1) := by decide +kernel
theorem dX13_read_80 : decode cX13_read 80 = .ok (.invokevirtual 297, 3) := by decide +kernel
theorem dX13_read_83 : decode cX13_read 83 = .ok (.putfield 300, 3) := by decide +kernel
theorem dX13_read_86 : decode cX13_read 86 = .ok (.iload_n 1, 1) := by decide +kernel
theorem dX13_read_87 : decode cX13_read 87 = .ok (.iconst 2, 1) := by decide +kernel
theorem dX13_read_88 : decode cX13_read 88 = .ok (.if_icmp .eq 14, 3) := by decide +kernel
theorem dX13_read_91 : decode cX13_read 91 = .ok (.iload_n 1, 1) := by decide +kernel
theorem dX13_read_92 : decode cX13_read 92 = .ok (.iconst 3, 1) := by decide +kernel
theorem dX13_read_93 : decode cX13_read 93 = .ok (.if_icmp .eq 9, 3) := by decide +kernel
theorem dX13_read_96 : decode cX13_read 96 = .ok (.iload_n 1, 1) := by decide +kernel
theorem dX13_read_97 : decode cX13_read 97 = .ok (.bipush 18, 2) := by decide +kernel
theorem dX13_read_99 : decode cX13_read 99 = .ok (.if_icmp .ne 29, 3) := by decide +kernel
theorem dX13_read_102 : decode cX13_read 102 = .ok (.aload_n 0, 1) := by decide +kernel
theorem dX13_read_103 : decode cX13_read 103 = .ok (.bipush 58, 2) := by decide +kernel
theorem dX13_read_105 : decode cX13_read 105 = .ok (.invokevirtual 205, 3) := by decide +kernel
theorem dX13_read_108 : decode cX13_read 108 = .ok (.aload_n 0, 1) := by decide +kernel
theorem dX13_read_109 : decode cX13_read 109 = .ok (.aload_n 0, 1) := by decide +kernel
theorem dX13_read_110 : decode cX13_read 110 = .ok (.getfield 181, 3) := by decide +kernel
theorem dX13_read_113 : decode cX13_read 113 = .ok (.ifCond .eq 7, 3) := by decide +kernel
theorem dX13_read_116 : decode cX13_read 116 = .ok (.iconst 0, 1) := by decide +kernel
theorem dX13_read_117 : decode cX13_read 117 = .ok (.goto 8, 3) := by decide +kernel
theorem dX13_read_120 : decode cX13_read 120 = .ok (.aload_n 0, 1) := by decide +kernel
theorem dX13_read_121 : decode cX13_read 121 = .ok (.iconst 0, 1) := by decide +kernel
theorem dX13_read_122 : decode cX13_read 122 = .ok (.invokevirtual 212, 3) := by decide +kernel
theorem dX13_read_125 : decode cX13_read 125 = .ok (.putfield 294, 3) := by decide +kernel
theorem dX13_read_128 : decode cX13_read 128 = .ok (.iload_n 1, 1) := by decide +kernel
theorem dX13_read_129 : decode cX13_read 129 = .ok (.bipush 12, 2) := by decide +kernel
theorem dX13_read_131 : decode cX13_read 131 = .ok (.if_icmp .ne 19, 3) := by decide +kernel
theorem dX13_read_134 : decode cX13_read 134 = .ok (.aload_n 0, 1) := by decide +kernel
theorem dX13_read_135 : decode cX13_read 135 = .ok (.aload_n 0, 1) := by decide +kernel
theorem dX13_read_136 : decode cX13_read 136 = .ok (.invokevirtual 194, 3) := by decide +kernel
theorem dX13_read_139 : decode cX13_read 139 = .ok (.putfield 303, 3) := by decide +kernel
theorem dX13_read_142 : decode cX13_read 142 = .ok (.aload_n 0, 1) := by decide +kernel
theorem dX13_read_143 : decode cX13_read 143 = .ok (.aload_n 0, 1) := by decide +kernel
theorem dX13_read_144 : decode cX13_read 144 = .ok (.invokevirtual 194, 3) := by decide +kernel
theorem dX13_read_147 : decode cX13_read 147 = .ok (.putfield 306, 3) := by decide +kernel
theorem dX13_read_150 : decode cX13_read 150 = .ok (.iload_n 1, 1) := by decide +kernel
theorem dX13_read_151 : decode cX13_read 151 = .ok (.bipush 15, 2) := by decide +kernel
theorem dX13_read_153 : decode cX13_read 153 = .ok (.if_icmp .ne 31, 3) := by decide +kernel
theorem dX13_read_156 : decode cX13_read 156 = .ok (.aload_n 0, 1) := by decide +kernel
theorem dX13_read_157 : decode cX13_read 157 = .ok (.aload_n 0, 1) := by decide +kernel
theorem dX13_read_158 : decode cX13_read 158 = .ok (.getfield 181, 3) := by decide +kernel
theorem dX13_read_161 : decode cX13_read 161 = .ok (.ifCond .eq 7, 3) := by decide +kernel
theorem dX13_read_164 : decode cX13_read 164 = .ok (.iconst 0, 1) := by decide +kernel
theorem dX13_read_165 : decode cX13_read 165 = .ok (.goto 8, 3) := by decide +kernel
theorem dX13_read_168 : decode cX13_read 168 = .ok (.aload_n 0, 1) := by decide +kernel
theorem dX13_read_169 : decode cX13_read 169 = .ok (.iconst 0, 1) := by decide +kernel
theorem dX13_read_170 : decode cX13_read 170 = .ok (.invokevirtual 201, 3) := by decide +kernel
theorem dX13_read_173 : decode cX13_read 173 = .ok (.putfield 294, 3) := by decide +kernel
theorem dX13_read_176 : decode cX13_read 176 = .ok (.aload_n 0, 1) := by decide +kernel
theorem dX13_read_177 : decode cX13_read 177 = .ok (.aload_n 0, 1) := by decide +kernel
theorem dX13_read_178 : decode cX13_read 178 = .ok (.invokevirtual 194, 3) := by decide +kernel
theorem dX13_read_181 : decode cX13_read 181 = .ok (.putfield 303, 3) := by decide +kernel
theorem dX13_read_184 : decode cX13_read 184 = .ok (.aload_n 0, 1) := by decide +kernel
theorem dX13_read_185 : decode cX13_read 185 = .ok (.bipush 46, 2) := by decide +kernel
theorem dX13_read_187 : decode cX13_read 187 = .ok (.invokevirtual 205, 3) := by decide +kernel
theorem dX13_read_190 : decode cX13_read 190 = .ok (.aload_n 0, 1) := by decide +kernel
theorem dX13_read_191 : decode cX13_read 191 = .ok (.aload_n 0, 1) := by decide +kernel
theorem dX13_read_192 : decode cX13_read 192 = .ok (.getfield 181, 3) := by decide +kernel
theorem dX13_read_195 : decode cX13_read 195 = .ok (.ifCond .ne 14, 3) := by decide +kernel
theorem dX13_read_198 : decode cX13_read 198 = .ok (.aload_n 0, 1) := by decide +kernel
theorem dX13_read_199 : decode cX13_read 199 = .ok (.getfield 171, 3) := by decide +kernel
theorem dX13_read_202 : decode cX13_read 202 = .ok (.aload_n 0, 1) := by decide +kernel
theorem dX13_read_203 : decode cX13_read 203 = .ok (.getfield 140, 3) := by decide +kernel
theorem dX13_read_206 : decode cX13_read 206 = .ok (.if_icmp .eq 7, 3) := by decide +kernel
theorem dX13_read_209 : decode cX13_read 209 = .ok (.iconst 1, 1) := by decide +kernel
theorem dX13_read_210 : decode cX13_read 210 = .ok (.goto 4, 3) := by decide +kernel
theorem dX13_read_213 : decode cX13_read 213 = .ok (.iconst 0, 1) := by decide +kernel
theorem dX13_read_214 : decode cX13_read 214 = .ok (.putfield 181, 3) := by decide +kernel
theorem dX13_read_217 : decode cX13_read 217 = .ok (.return_, 1) := by decide +kernel
def EX13_read : List (Nat × Nat) := [(15, 5), (15, 32), (15, 33), (15, 38), (15, 39), (15, 40), (15, 41), (15, 42), (150, 0), (151, 0), (152, 0), (153, 0), (154, 0)]
set_option maxHeartbeats 4000000 in
set_option maxRecDepth 20000 in
theorem uX13_read (l : Launch) (dC : Nat → ClassId) (dI : Nat → Nat → Nat) (ca : Nat → ClassId) (base : Nat) (B : jF) (hB : jBok B) (hAp : jAp (dC, dI)) (hB15 : ∀ n G a H, B 15 n G a H ↔ jOb (dC, dI) 15 50 (F15 n G) a H) (hB150 : ∀ n G a H, B 150 n G a H ↔ jAr (dC, dI) (ca 1) (fun j z => True) n a H) (hB151 : ∀ n G a H, B 151 n G a H ↔ jAr (dC, dI) (ca 1) (fun j z => True) n a H) (hB152 : ∀ n G a H, B 152 n G a H ↔ jAr (dC, dI) (ca 1) (fun j z => True) n a H) (hB153 : ∀ n G a H, B 153 n G a H ↔ jAr (dC, dI) (ca 1) (fun j z => True) n a H) (hB154 : ∀ n G a H, B 154 n G a H ↔ jAr (dC, dI) (ca 1) (fun j z => True) n a H) (hB155 : ∀ n G a H, B 155 n G a H ↔ jAr (dC, dI) (ca 1) (fun j z => 0 ≤ z.toInt ∧ z.toInt ≤ 11990) n a H) (hB156 : ∀ n G a H, B 156 n G a H ↔ jAr (dC, dI) (ca 1) (fun j z => 0 ≤ z.toInt ∧ z.toInt ≤ 10) n a H) (hB157 : ∀ n G a H, B 157 n G a H ↔ jAr (dC, dI) (ca 1) (fun j z => 0 ≤ z.toInt ∧ z.toInt ≤ 1599) n a H) (hB166 : ∀ n G a H, B 166 n G a H ↔ jAr (dC, dI) (ca 1) (fun j z => True) n a H) (hB167 : ∀ n G a H, B 167 n G a H ↔ jAr (dC, dI) (ca 1) (fun j z => True) n a H) (G0 : jT) (H0 : Heap) (r0 : Nat) (a1 : Int32) (pk : Int32) (pn : Int32) : Met l yX13_read (jw yX13_read cX13_read 2 none) ({ frames := 1566, cells := 0, slots := 0, locals := 47152 }) (va_Pc [.ref r0, .int a1] (fun U => U.heap = H0 ∧ jX B base G0 [] H0 ∧ jG dC dI ca base U ∧ G0 r0 = some (15, 0) ∧ jP (dC, dI) G0 H0 [(r0, 15, 30, .int pk), (r0, 15, 5, .int pn)] ∧ 1 ≤ pk.toInt ∧ pk.toInt ≤ 1500 ∧ 0 ≤ pn.toInt ∧ pn.toInt + 4 * pk.toInt ≤ 119900)) (va_Qv (S := Int32) (fun u => pn.toInt ≤ u.toInt ∧ u.toInt ≤ pn.toInt + 4 * pk.toInt + 5) (fun u t => jRt (dC, dI) B base G0 EX13_read H0 [(r0, 15, 5, .int u)] t.heap) (jA base)) 0 0 (jA base) := by
  refine Met.ofW (cc := cX13_read) (maxL := 2) (ret := none) (by decide) rfl ?_
  intro p e s m args below meth c s₁ Bd hml hv
  obtain ⟨rfl, hH0, hX, hG, hg_r0, hP0, hp0, hp1, hp2, hp3⟩ := hv
  have hK := hG.1
  have hx := Bd.exec
  have hb := Bd.bytes
  have hr := Bd.returns
  have hts := atoms_spec (ws := (jw yX13_read cX13_read 2 none)) Bd.pre
  have htw : ∀ w ∈ jWl, w.before _ s = true := fun w h => hts w (List.mem_cons_of_mem _ h)
  have hown : s.vm.findClass RX13 = some m.cls := findClass_of_methodNamed Bd.named
  have hlocks := Bd.notSynchronized
  obtain ⟨Q, hQ⟩ : ∃ Q, Q = MQ below (va_Qv (S := Int32) (fun u => pn.toInt ≤ u.toInt ∧ u.toInt ≤ pn.toInt + 4 * pk.toInt + 5) (fun u t => jRt (dC, dI) B base G0 EX13_read H0 [(r0, 15, 5, .int u)] t.heap) (jA base)) ([.ref r0, .int a1] : List Value).toArray s 0 0 (jA base) := ⟨_, rfl⟩
  rw [← hQ]
  have hl := lv_entry ([.ref r0, .int a1]) (n := 2) (Nat.le_of_ble_eq_true rfl)
  rw [lg_entry_eq]
  generalize (lg_sl ([.ref r0, .int a1]) ++ List.replicate (2 - (lg_sl ([.ref r0, .int a1])).length) Slot.unset).toArray = ls at hl ⊢
  have hl : lv_has ls 2 [(0, .ref r0), (1, .int a1)] := hl
  generalize hR : (headSpec (jw yX13_read cX13_read 2 none) ({ frames := 1566, cells := 0, slots := 0, locals := 47152 })).room = R
  subst hH0
  have hh : jSt (dC, dI) B base G0 G0 EX13_read s.heap 0 0 [(r0, 15, 30, .int pk), (r0, 15, 5, .int pn)] [] [] s.heap [] := jSt.start hX hP0 jMc.nil jIs.nil
  clear hX hP0
  have hk0 : (0 : Int32).toInt = 0 := by decide
  have hk1 : (1 : Int32).toInt = 1 := by decide
  have hk2 : (2 : Int32).toInt = 2 := by decide
  have hk3 : (3 : Int32).toInt = 3 := by decide
  have hk4 : (4 : Int32).toInt = 4 := by decide
  have hk5 : (5 : Int32).toInt = 5 := by decide
  have hk9 : (9 : Int32).toInt = 9 := by decide
  have hk10 : (10 : Int32).toInt = 10 := by decide
  have hk11 : (11 : Int32).toInt = 11 := by decide
  have hk12 : (12 : Int32).toInt = 12 := by decide
  have hk14 : (14 : Int32).toInt = 14 := by decide
  have hk15 : (15 : Int32).toInt = 15 := by decide
  have hk16 : (16 : Int32).toInt = 16 := by decide
  have hk18 : (18 : Int32).toInt = 18 := by decide
  have hk46 : (46 : Int32).toInt = 46 := by decide
  have hk58 : (58 : Int32).toInt = 58 := by decide
  have hly_15_30 := htw (u_lay RX13 TX13 30) (jWc_wsX130 _ (u_in_lay (by decide)))
  have hly_15_32 := htw (u_lay RX13 TX13 32) (jWc_wsX130 _ (u_in_lay (by decide)))
  have hly_15_33 := htw (u_lay RX13 TX13 33) (jWc_wsX130 _ (u_in_lay (by decide)))
  have hly_15_38 := htw (u_lay RX13 TX13 38) (jWc_wsX130 _ (u_in_lay (by decide)))
  have hly_15_39 := htw (u_lay RX13 TX13 39) (jWc_wsX130 _ (u_in_lay (by decide)))
  have hly_15_40 := htw (u_lay RX13 TX13 40) (jWc_wsX130 _ (u_in_lay (by decide)))
  have hly_15_41 := htw (u_lay RX13 TX13 41) (jWc_wsX130 _ (u_in_lay (by decide)))
  have hly_15_42 := htw (u_lay RX13 TX13 42) (jWc_wsX130 _ (u_in_lay (by decide)))
  have hlk_171 := (htw (.fieldLink RX13 171 "ProofServerModel$Kernel" "at" "I") (jWr_61 _ (List.mem_of_getElem? (i := 11) rfl)))
  have hlk_291 := (htw (.fieldLink RX13 291 "ProofServerModel$Kernel" "name1" "I") (jWr_61 _ (List.mem_of_getElem? (i := 12) rfl)))
  have hlk_294 := (htw (.fieldLink RX13 294 "ProofServerModel$Kernel" "raw" "I") (jWr_61 _ (List.mem_of_getElem? (i := 13) rfl)))
  have hlk_300 := (htw (.fieldLink RX13 300 "ProofServerModel$Kernel" "digit" "I") (jWr_61 _ (List.mem_of_getElem? (i := 14) rfl)))
  have hlk_181 := (htw (.fieldLink RX13 181 "ProofServerModel$Kernel" "wrong" "Z") (jWr_60 _ (List.mem_of_getElem? (i := 2) rfl)))
  have hlk_303 := (htw (.fieldLink RX13 303 "ProofServerModel$Kernel" "name2" "I") (jWr_61 _ (List.mem_of_getElem? (i := 15) rfl)))
  have hlk_306 := (htw (.fieldLink RX13 306 "ProofServerModel$Kernel" "name3" "I") (jWr_61 _ (List.mem_of_getElem? (i := 16) rfl)))
  have hlk_140 := (htw (.fieldLink RX13 140 "ProofServerModel$Kernel" "tokens" "I") (jWr_60 _ (List.mem_of_getElem? (i := 9) rfl)))
  have hrg_a1 := jb_rng a1
  refine lv_aload_n hx hb dX13_read_0 rfl (lv_at hl 0 rfl) ?_
  refine lv_iconst (v := 1) hx hb dX13_read_1 (by decide) ?_
  refine j7_put hx hb hown hK hh hB hAp hB15 (C := RX13) (T := TX13) (N := 50) rfl (by decide) hg_r0 (i := 32) (by decide) hly_15_32 rfl hlk_171 rfl (ty := .int) (v := .int 1) (by decide +kernel) rfl rfl (⟨_, rfl, by omega, by omega⟩) rfl (L1 := [(r0, 15, 30, .int pk), (r0, 15, 5, .int pn)]) [0, 1] rfl rfl rfl dX13_read_2 (fun H_1 locs_1 hh_1 => ?_)
  clear hh
  refine lv_iload_n hx hb dX13_read_5 rfl (lv_at hl 1 rfl) ?_
  refine lv_iconst (v := 4) hx hb dX13_read_6 (by decide) ?_
  have C73 : ∀ (wa_2 : Int32) (wn_2 : Int32) (H_2 : Heap) (locs_2 : List Loc), jSt (dC, dI) B base G0 G0 EX13_read s.heap 0 0 [(r0, 15, 32, .int wa_2), (r0, 15, 5, .int wn_2), (r0, 15, 30, .int pk)] [] [] H_2 locs_2 → (1 ≤ wa_2.toInt ∧ wa_2.toInt ≤ pk.toInt ∧ pn.toInt ≤ wn_2.toInt ∧ wn_2.toInt ≤ pn.toInt + 4 * (wa_2.toInt - 1) + 1) → ∀ ls : Array Slot, lv_has ls 2 [(0, .ref r0), (1, .int a1)] → W p l e R s m ([.ref r0, .int a1] : List Value).toArray below meth c H_2 locs_2 0 0 Q (F0 m 73 ls []) := by
    intro wa_2 wn_2 H_2 locs_2 hh_2  hi_2 ls hl
    obtain ⟨hi_2_0, hi_2_1, hi_2_2, hi_2_3⟩ := hi_2
    refine lv_iload_n hx hb dX13_read_73 rfl (lv_at hl 1 rfl) ?_
    refine lv_iconst (v := 1) hx hb dX13_read_74 (by decide) ?_
    have C86 : ∀ (wa_3 : Int32) (wn_3 : Int32) (H_3 : Heap) (locs_3 : List Loc), jSt (dC, dI) B base G0 G0 EX13_read s.heap 0 0 [(r0, 15, 32, .int wa_3), (r0, 15, 5, .int wn_3), (r0, 15, 30, .int pk)] [] [] H_3 locs_3 → (1 ≤ wa_3.toInt ∧ wa_3.toInt ≤ pk.toInt ∧ pn.toInt ≤ wn_3.toInt ∧ wn_3.toInt ≤ pn.toInt + 4 * (wa_3.toInt - 1) + 1) → ∀ ls : Array Slot, lv_has ls 2 [(0, .ref r0), (1, .int a1)] → W p l e R s m ([.ref r0, .int a1] : List Value).toArray below meth c H_3 locs_3 0 0 Q (F0 m 86 ls []) := by
      intro wa_3 wn_3 H_3 locs_3 hh_3  hi_3 ls hl
      obtain ⟨hi_3_0, hi_3_1, hi_3_2, hi_3_3⟩ := hi_3
      refine lv_iload_n hx hb dX13_read_86 rfl (lv_at hl 1 rfl) ?_
      refine lv_iconst (v := 2) hx hb dX13_read_87 (by decide) ?_
      have C128 : ∀ (wa_4 : Int32) (wn_4 : Int32) (H_4 : Heap) (locs_4 : List Loc), jSt (dC, dI) B base G0 G0 EX13_read s.heap 0 0 [(r0, 15, 32, .int wa_4), (r0, 15, 5, .int wn_4), (r0, 15, 30, .int pk)] [] [] H_4 locs_4 → (1 ≤ wa_4.toInt ∧ wa_4.toInt ≤ pk.toInt ∧ pn.toInt ≤ wn_4.toInt ∧ wn_4.toInt ≤ pn.toInt + 4 * (wa_4.toInt - 1) + 4) → ∀ ls : Array Slot, lv_has ls 2 [(0, .ref r0), (1, .int a1)] → W p l e R s m ([.ref r0, .int a1] : List Value).toArray below meth c H_4 locs_4 0 0 Q (F0 m 128 ls []) := by
        intro wa_4 wn_4 H_4 locs_4 hh_4  hi_4 ls hl
        obtain ⟨hi_4_0, hi_4_1, hi_4_2, hi_4_3⟩ := hi_4
        refine lv_iload_n hx hb dX13_read_128 rfl (lv_at hl 1 rfl) ?_
        refine lv_bipush (v := 12) hx hb dX13_read_129 (by decide) ?_
        have C150 : ∀ (wa_5 : Int32) (wn_5 : Int32) (H_5 : Heap) (locs_5 : List Loc), jSt (dC, dI) B base G0 G0 EX13_read s.heap 0 0 [(r0, 15, 32, .int wa_5), (r0, 15, 5, .int wn_5), (r0, 15, 30, .int pk)] [] [] H_5 locs_5 → (1 ≤ wa_5.toInt ∧ wa_5.toInt ≤ pk.toInt ∧ pn.toInt ≤ wn_5.toInt ∧ wn_5.toInt ≤ pn.toInt + 4 * (wa_5.toInt - 1) + 4) → ∀ ls : Array Slot, lv_has ls 2 [(0, .ref r0), (1, .int a1)] → W p l e R s m ([.ref r0, .int a1] : List Value).toArray below meth c H_5 locs_5 0 0 Q (F0 m 150 ls []) := by
          intro wa_5 wn_5 H_5 locs_5 hh_5  hi_5 ls hl
          obtain ⟨hi_5_0, hi_5_1, hi_5_2, hi_5_3⟩ := hi_5
          refine lv_iload_n hx hb dX13_read_150 rfl (lv_at hl 1 rfl) ?_
          refine lv_bipush (v := 15) hx hb dX13_read_151 (by decide) ?_
          have C184 : ∀ (wa_6 : Int32) (wn_6 : Int32) (H_6 : Heap) (locs_6 : List Loc), jSt (dC, dI) B base G0 G0 EX13_read s.heap 0 0 [(r0, 15, 32, .int wa_6), (r0, 15, 5, .int wn_6), (r0, 15, 30, .int pk)] [] [] H_6 locs_6 → (1 ≤ wa_6.toInt ∧ wa_6.toInt ≤ pk.toInt ∧ pn.toInt ≤ wn_6.toInt ∧ wn_6.toInt ≤ pn.toInt + 4 * (wa_6.toInt - 1) + 5) → ∀ ls : Array Slot, lv_has ls 2 [(0, .ref r0), (1, .int a1)] → W p l e R s m ([.ref r0, .int a1] : List Value).toArray below meth c H_6 locs_6 0 0 Q (F0 m 184 ls []) := by
            intro wa_6 wn_6 H_6 locs_6 hh_6  hi_6 ls hl
            obtain ⟨hi_6_0, hi_6_1, hi_6_2, hi_6_3⟩ := hi_6
            refine lv_aload_n hx hb dX13_read_184 rfl (lv_at hl 0 rfl) ?_
            refine lv_bipush (v := 46) hx hb dX13_read_185 (by decide) ?_
            refine va_callv (A0 := jA base) (H0 := s.heap) (va_runV (As := [.int 46]) (rest := []) ⟨hx, hb, hml, hown, hts⟩ (uX13_expect l dC dI ca base B hB hAp hB15 hB157 hB167 G0 H_6 r0 46 pk wa_6) (cwV 1 hts (jgV (jWr_62 _ (List.mem_of_getElem? (i := 17) rfl)) (jWr_62 _ (List.mem_of_getElem? (i := 18) rfl)) (jWr_62 _ (List.mem_of_getElem? (i := 19) rfl)) (jWr_12 _ (List.mem_of_getElem? (i := 12) rfl)) (jWr_62 _ (List.mem_of_getElem? (i := 20) rfl))) rfl rfl rfl (by decide +kernel) ⟨by rw [← hR]; exact Nat.le_of_ble_eq_true rfl, by rw [← hR]; exact Nat.le_of_ble_eq_true rfl⟩) ⟨fun a U g mk q => by obtain ⟨q0, q1, q2, qK, q10, q11, q12⟩ := q; exact ⟨q0, q1, q2, jG.calling g mk a qK, q10, q11, q12⟩, hh_6.recv (C := RX13) (T := TX13) (N := 50) hB15 rfl (by decide) hg_r0 hK, fun U hU hW => ⟨rfl, hU, hh_6.2.1, hG.step hW hU hh_6.1, hg_r0, (hh_6.2.2.1.sub (L1 := [(r0, 15, 30, .int pk), (r0, 15, 32, .int wa_6)]) [2, 0] rfl), by first | omega | (refine ⟨?_, ?_, ?_, ?_⟩ <;> (first | omega | rfl | assumption | decide | exact Or.inl rfl | exact Or.inr rfl | (simp only; omega)))⟩⟩ rfl rfl hl.1 rfl (lv_room (Nat.le_of_ble_eq_true rfl)) dX13_read_187 ⟨Nat.zero_le _, Nat.zero_le _⟩) hh_6.1 (fun q _ h => h) (fun q h => h) (fun u_7 t_7 H_7 locs_7 ht_7 hvm_7 hr_8 hb_7 hz_7 hk_7 hS_7 => ?_)
            obtain ⟨qa_7, rfl⟩ : ∃ z, z = u_7 := ⟨_, rfl⟩
            rw [ht_7] at hb_7
            obtain ⟨hb_71, hb_72, hb_73, hb_74, hb_75⟩ := hb_7
            have hh_7 : jSt (dC, dI) B base G0 G0 EX13_read s.heap 0 0 [(r0, 15, 32, .int qa_7), (r0, 15, 5, .int wn_6), (r0, 15, 30, .int pk)] [] [] H_7 locs_7 := ((hh_6.call hb_71 hb_72 hb_73 hb_74 hS_7 rfl (L1 := [(r0, 15, 5, .int wn_6), (r0, 15, 30, .int pk)]) [1, 2] rfl rfl (M1 := []) [] rfl rfl (I1 := []) [] rfl rfl).more hb_75)
            clear hh_6 ht_7 hvm_7 hz_7 hk_7 hS_7 hb_71 hb_72 hb_73 hb_74 hb_75
            obtain ⟨hr_8_0, hr_8_1, hr_8_2⟩ := hr_8
            refine lv_aload_n hx hb dX13_read_190 rfl (lv_at hl 0 rfl) ?_
            refine lv_aload_n hx hb dX13_read_191 rfl (lv_at hl 0 rfl) ?_
            obtain ⟨v_9, hv_9, hh_10⟩ := hh_7.pin (C := RX13) (T := TX13) (N := 50) hB15 rfl (by decide) hg_r0 (i := 33) (by decide) rfl
            clear hh_7
            obtain ⟨wrong_11, rfl, hzwrong_11⟩ := hv_9
            have hzwrong_11' := jb_01 hzwrong_11
            refine j7_read hx hb hown hK (C := RX13) (T := TX13) (N := 50) rfl hly_15_33 hlk_181 (hh_10.at 0 rfl) dX13_read_192 ?_
            refine lv_if_ne (tgt := 209) hx hb dX13_read_195 (by decide) (fun c_12 => ?_) (fun c_12 => ?_)
            · skip
              have c_12' : wrong_11.toInt ≠ 0 := jb_ne (rfl) ((by decide)) c_12
              refine lv_iconst (v := 1) hx hb dX13_read_209 (by decide) ?_
              refine lv_goto (tgt := 214) hx hb dX13_read_210 (by decide) ?_
              refine j7_put hx hb hown hK hh_10 hB hAp hB15 (C := RX13) (T := TX13) (N := 50) rfl (by decide) hg_r0 (i := 33) (by decide) hly_15_33 rfl hlk_181 rfl (ty := .boolean) (v := .int 1) (by decide +kernel) (jb_nz (Or.inr rfl)) (jb_fz (Or.inr rfl)) (⟨_, rfl, (Or.inr rfl)⟩) rfl (L1 := [(r0, 15, 32, .int qa_7), (r0, 15, 5, .int wn_6), (r0, 15, 30, .int pk)]) [1, 2, 3] rfl rfl rfl dX13_read_214 (fun H_13 locs_13 hh_13 => ?_)
              clear hh_10
              rw [hQ]
              exact W.vret hx hb hr (fun t ht hW => ⟨⟨wn_6, rfl, by first | omega | (refine ⟨?_, ?_⟩ <;> (first | omega | rfl | assumption | decide | exact Or.inl rfl | exact Or.inr rfl | (simp only; omega))), hh_13.rt (M1 := [(r0, 15, 5, .int wn_6)]) [2] rfl ht⟩, by rw [ht]; try exact hh_13.1.1, fun q h9 hq => by rw [ht]; try exact hh_13.1.2.1 q h9 hq⟩) hh_13.1.2.2 dX13_read_217
            · skip
              have c_12' : wrong_11.toInt = 0 := jb_ne_n (rfl) ((by decide)) c_12
              refine lv_aload_n hx hb dX13_read_198 rfl (lv_at hl 0 rfl) ?_
              refine j7_read hx hb hown hK (C := RX13) (T := TX13) (N := 50) rfl hly_15_32 hlk_171 (hh_10.at 1 rfl) dX13_read_199 ?_
              refine lv_aload_n hx hb dX13_read_202 rfl (lv_at hl 0 rfl) ?_
              refine j7_read hx hb hown hK (C := RX13) (T := TX13) (N := 50) rfl hly_15_30 hlk_140 (hh_10.at 3 rfl) dX13_read_203 ?_
              refine lv_icmp_eq (tgt := 213) hx hb dX13_read_206 (by decide) (fun c_14 => ?_) (fun c_14 => ?_)
              · skip
                have c_14' : qa_7.toInt = pk.toInt := jb_eq (rfl) (rfl) c_14
                first | (have hr_8_2q := hr_8_2.resolve_left (by omega); clear hr_8_2) | (have hr_8_2q := hr_8_2.resolve_right (by omega); clear hr_8_2) | skip
                refine lv_iconst (v := 0) hx hb dX13_read_213 (by decide) ?_
                refine j7_put hx hb hown hK hh_10 hB hAp hB15 (C := RX13) (T := TX13) (N := 50) rfl (by decide) hg_r0 (i := 33) (by decide) hly_15_33 rfl hlk_181 rfl (ty := .boolean) (v := .int 0) (by decide +kernel) (jb_nz (Or.inl rfl)) (jb_fz (Or.inl rfl)) (⟨_, rfl, (Or.inl rfl)⟩) rfl (L1 := [(r0, 15, 32, .int qa_7), (r0, 15, 5, .int wn_6), (r0, 15, 30, .int pk)]) [1, 2, 3] rfl rfl rfl dX13_read_214 (fun H_15 locs_15 hh_15 => ?_)
                clear hh_10
                rw [hQ]
                exact W.vret hx hb hr (fun t ht hW => ⟨⟨wn_6, rfl, by first | omega | (refine ⟨?_, ?_⟩ <;> (first | omega | rfl | assumption | decide | exact Or.inl rfl | exact Or.inr rfl | (simp only; omega))), hh_15.rt (M1 := [(r0, 15, 5, .int wn_6)]) [2] rfl ht⟩, by rw [ht]; try exact hh_15.1.1, fun q h9 hq => by rw [ht]; try exact hh_15.1.2.1 q h9 hq⟩) hh_15.1.2.2 dX13_read_217
              · skip
                have c_14' : qa_7.toInt ≠ pk.toInt := jb_eq_n (rfl) (rfl) c_14
                refine lv_iconst (v := 1) hx hb dX13_read_209 (by decide) ?_
                refine lv_goto (tgt := 214) hx hb dX13_read_210 (by decide) ?_
                refine j7_put hx hb hown hK hh_10 hB hAp hB15 (C := RX13) (T := TX13) (N := 50) rfl (by decide) hg_r0 (i := 33) (by decide) hly_15_33 rfl hlk_181 rfl (ty := .boolean) (v := .int 1) (by decide +kernel) (jb_nz (Or.inr rfl)) (jb_fz (Or.inr rfl)) (⟨_, rfl, (Or.inr rfl)⟩) rfl (L1 := [(r0, 15, 32, .int qa_7), (r0, 15, 5, .int wn_6), (r0, 15, 30, .int pk)]) [1, 2, 3] rfl rfl rfl dX13_read_214 (fun H_16 locs_16 hh_16 => ?_)
                clear hh_10
                rw [hQ]
                exact W.vret hx hb hr (fun t ht hW => ⟨⟨wn_6, rfl, by first | omega | (refine ⟨?_, ?_⟩ <;> (first | omega | rfl | assumption | decide | exact Or.inl rfl | exact Or.inr rfl | (simp only; omega))), hh_16.rt (M1 := [(r0, 15, 5, .int wn_6)]) [2] rfl ht⟩, by rw [ht]; try exact hh_16.1.1, fun q h9 hq => by rw [ht]; try exact hh_16.1.2.1 q h9 hq⟩) hh_16.1.2.2 dX13_read_217
          refine lv_icmp_ne (tgt := 184) hx hb dX13_read_153 (by decide) (fun c_17 => ?_) (fun c_17 => ?_)
          · skip
            have c_17' : a1.toInt ≠ 15 := jb_ne (rfl) ((by decide)) c_17
            exact C184 wa_5 wn_5 _ _ hh_5 (by first | omega | (refine ⟨?_, ?_, ?_, ?_⟩ <;> (first | omega | rfl | assumption | decide | exact Or.inl rfl | exact Or.inr rfl | (simp only; omega)))) _ (lv_sub hl [0, 1] rfl)
          · skip
            have c_17' : a1.toInt = 15 := jb_ne_n (rfl) ((by decide)) c_17
            refine lv_aload_n hx hb dX13_read_156 rfl (lv_at hl 0 rfl) ?_
            refine lv_aload_n hx hb dX13_read_157 rfl (lv_at hl 0 rfl) ?_
            obtain ⟨v_18, hv_18, hh_19⟩ := hh_5.pin (C := RX13) (T := TX13) (N := 50) hB15 rfl (by decide) hg_r0 (i := 33) (by decide) rfl
            clear hh_5
            obtain ⟨wrong_20, rfl, hzwrong_20⟩ := hv_18
            have hzwrong_20' := jb_01 hzwrong_20
            refine j7_read hx hb hown hK (C := RX13) (T := TX13) (N := 50) rfl hly_15_33 hlk_181 (hh_19.at 0 rfl) dX13_read_158 ?_
            have C173 : ∀ (wa_21 : Int32) (wn_21 : Int32) (w0_21 : Int32) (H_21 : Heap) (locs_21 : List Loc), jSt (dC, dI) B base G0 G0 EX13_read s.heap 0 0 [(r0, 15, 32, .int wa_21), (r0, 15, 5, .int wn_21), (r0, 15, 30, .int pk)] [] [] H_21 locs_21 → (1 ≤ wa_21.toInt ∧ wa_21.toInt ≤ pk.toInt ∧ pn.toInt ≤ wn_21.toInt ∧ wn_21.toInt ≤ pn.toInt + 4 * (wa_21.toInt - 1) + 5 ∧ 0 ≤ w0_21.toInt ∧ w0_21.toInt ≤ 119999) → ∀ ls : Array Slot, lv_has ls 2 [(0, .ref r0), (1, .int a1)] → W p l e R s m ([.ref r0, .int a1] : List Value).toArray below meth c H_21 locs_21 0 0 Q (F0 m 173 ls [.int w0_21, .ref r0]) := by
              intro wa_21 wn_21 w0_21 H_21 locs_21 hh_21  hi_21 ls hl
              obtain ⟨hi_21_0, hi_21_1, hi_21_2, hi_21_3, hi_21_4, hi_21_5⟩ := hi_21
              refine j7_put hx hb hown hK hh_21 hB hAp hB15 (C := RX13) (T := TX13) (N := 50) rfl (by decide) hg_r0 (i := 42) (by decide) hly_15_42 rfl hlk_294 rfl (ty := .int) (v := .int w0_21) (by decide +kernel) rfl rfl (⟨_, rfl, by omega, by omega⟩) rfl (L1 := [(r0, 15, 32, .int wa_21), (r0, 15, 5, .int wn_21), (r0, 15, 30, .int pk)]) [0, 1, 2] rfl rfl rfl dX13_read_173 (fun H_22 locs_22 hh_22 => ?_)
              clear hh_21
              refine lv_aload_n hx hb dX13_read_176 rfl (lv_at hl 0 rfl) ?_
              refine lv_aload_n hx hb dX13_read_177 rfl (lv_at hl 0 rfl) ?_
              refine va_calli (A0 := jA base) (H0 := s.heap) (va_runV (As := []) (rest := [.ref r0]) ⟨hx, hb, hml, hown, hts⟩ (uX13_readName l dC dI ca base B hB hAp hB15 hB155 hB156 hB157 hB166 hB167 G0 H_22 r0 pk wa_21) (cwV 0 hts (jgV (jWr_61 _ (List.mem_of_getElem? (i := 21) rfl)) (jWr_61 _ (List.mem_of_getElem? (i := 22) rfl)) (jWr_61 _ (List.mem_of_getElem? (i := 23) rfl)) (jWr_12 _ (List.mem_of_getElem? (i := 12) rfl)) (jWr_62 _ (List.mem_of_getElem? (i := 0) rfl))) rfl rfl rfl (by decide +kernel) ⟨by rw [← hR]; exact Nat.le_of_ble_eq_true rfl, by rw [← hR]; exact Nat.le_of_ble_eq_true rfl⟩) ⟨fun a U g mk q => by obtain ⟨q0, q1, q2, qK, q10, q11, q12⟩ := q; exact ⟨q0, q1, q2, jG.calling g mk a qK, q10, q11, q12⟩, hh_22.recv (C := RX13) (T := TX13) (N := 50) hB15 rfl (by decide) hg_r0 hK, fun U hU hW => ⟨rfl, hU, hh_22.2.1, hG.step hW hU hh_22.1, hg_r0, (hh_22.2.2.1.sub (L1 := [(r0, 15, 30, .int pk), (r0, 15, 32, .int wa_21)]) [3, 1] rfl), by first | omega | (refine ⟨?_, ?_, ?_, ?_⟩ <;> (first | omega | rfl | assumption | decide | exact Or.inl rfl | exact Or.inr rfl | (simp only; omega)))⟩⟩ rfl rfl hl.1 rfl (lv_room (Nat.le_of_ble_eq_true rfl)) dX13_read_178 ⟨Nat.zero_le _, Nat.zero_le _⟩) hh_22.1 (fun q _ h => h) (fun q h => h) (fun r_24 u_23 t_23 H_23 locs_23 ht_23 hvm_23 hr_24 hb_23 hz_23 hk_23 hS_23 => ?_)
              obtain ⟨qa_23, rfl⟩ : ∃ z, z = u_23 := ⟨_, rfl⟩
              rw [ht_23] at hb_23
              obtain ⟨hb_231, hb_232, hb_233, hb_234, hb_235⟩ := hb_23
              have hh_23 : jSt (dC, dI) B base G0 G0 EX13_read s.heap 0 0 [(r0, 15, 32, .int qa_23), (r0, 15, 42, .int w0_21), (r0, 15, 5, .int wn_21), (r0, 15, 30, .int pk)] [] [] H_23 locs_23 := ((hh_22.call hb_231 hb_232 hb_233 hb_234 hS_23 rfl (L1 := [(r0, 15, 42, .int w0_21), (r0, 15, 5, .int wn_21), (r0, 15, 30, .int pk)]) [0, 2, 3] rfl rfl (M1 := []) [] rfl rfl (I1 := []) [] rfl rfl).more hb_235)
              clear hh_22 ht_23 hvm_23 hz_23 hk_23 hS_23 hb_231 hb_232 hb_233 hb_234 hb_235
              obtain ⟨hr_24_0, hr_24_1, hr_24_2, hr_24_3, hr_24_4⟩ := hr_24
              refine j7_put hx hb hown hK hh_23 hB hAp hB15 (C := RX13) (T := TX13) (N := 50) rfl (by decide) hg_r0 (i := 39) (by decide) hly_15_39 rfl hlk_303 rfl (ty := .int) (v := .int r_24) (by decide +kernel) rfl rfl (⟨_, rfl, by omega, by omega⟩) rfl (L1 := [(r0, 15, 32, .int qa_23), (r0, 15, 42, .int w0_21), (r0, 15, 5, .int wn_21), (r0, 15, 30, .int pk)]) [0, 1, 2, 3] rfl rfl rfl dX13_read_181 (fun H_25 locs_25 hh_25 => ?_)
              clear hh_23
              exact C184 qa_23 wn_21 _ _ (hh_25.sub (L1 := [(r0, 15, 32, .int qa_23), (r0, 15, 5, .int wn_21), (r0, 15, 30, .int pk)]) [1, 3, 4] rfl (M1 := []) [] rfl (I1 := []) [] rfl) (by first | omega | (refine ⟨?_, ?_, ?_, ?_⟩ <;> (first | omega | rfl | assumption | decide | exact Or.inl rfl | exact Or.inr rfl | (simp only; omega)))) _ (lv_sub hl [0, 1] rfl)
            refine lv_if_eq (tgt := 168) hx hb dX13_read_161 (by decide) (fun c_26 => ?_) (fun c_26 => ?_)
            · skip
              have c_26' : wrong_20.toInt = 0 := jb_eq (rfl) ((by decide)) c_26
              refine lv_aload_n hx hb dX13_read_168 rfl (lv_at hl 0 rfl) ?_
              refine lv_iconst (v := 0) hx hb dX13_read_169 (by decide) ?_
              refine va_calli (A0 := jA base) (H0 := s.heap) (va_runV (As := [.int 0]) (rest := [.ref r0]) ⟨hx, hb, hml, hown, hts⟩ (aX13_readTerm l dC dI ca base B hB hAp hB15 hB150 hB151 hB152 hB153 hB154 hB155 hB156 hB157 hB166 hB167 12 G0 H_5 r0 0 pk wa_5 wn_5) (cwV 1 hts (jgV (jWr_61 _ (List.mem_of_getElem? (i := 17) rfl)) (jWr_61 _ (List.mem_of_getElem? (i := 18) rfl)) (jWr_61 _ (List.mem_of_getElem? (i := 19) rfl)) (jWr_12 _ (List.mem_of_getElem? (i := 12) rfl)) (jWr_61 _ (List.mem_of_getElem? (i := 20) rfl))) rfl rfl rfl (by decide +kernel) ⟨by rw [← hR]; exact Nat.le_of_ble_eq_true rfl, by rw [← hR]; exact Nat.le_of_ble_eq_true rfl⟩) ⟨fun a U g mk q => by obtain ⟨q0, q1, q2, qK, q10, q11, q12⟩ := q; exact ⟨q0, q1, q2, jG.calling g mk a qK, q10, q11, q12⟩, hh_19.recv (C := RX13) (T := TX13) (N := 50) hB15 rfl (by decide) hg_r0 hK, fun U hU hW => ⟨rfl, hU, hh_19.2.1, hG.step hW hU hh_19.1, hg_r0, (hh_19.2.2.1.sub (L1 := [(r0, 15, 30, .int pk), (r0, 15, 32, .int wa_5), (r0, 15, 5, .int wn_5)]) [3, 1, 2] rfl), by first | omega | (refine ⟨?_, ?_, ?_, ?_, ?_, ?_, ?_⟩ <;> (first | omega | rfl | assumption | decide | exact Or.inl rfl | exact Or.inr rfl | (simp only; omega)))⟩⟩ rfl rfl hl.1 rfl (lv_room (Nat.le_of_ble_eq_true rfl)) dX13_read_170 ⟨Nat.zero_le _, Nat.zero_le _⟩) hh_19.1 (fun q _ h => h) (fun q h => h) (fun r_28 u_27 t_27 H_27 locs_27 ht_27 hvm_27 hr_28 hb_27 hz_27 hk_27 hS_27 => ?_)
              obtain ⟨qa_27, qn_27⟩ := u_27
              rw [ht_27] at hb_27
              obtain ⟨hb_271, hb_272, hb_273, hb_274, hb_275⟩ := hb_27
              have hh_27 : jSt (dC, dI) B base G0 G0 EX13_read s.heap 0 0 [(r0, 15, 32, .int qa_27), (r0, 15, 5, .int qn_27), (r0, 15, 30, .int pk)] [] [] H_27 locs_27 := ((hh_19.call hb_271 hb_272 hb_273 hb_274 hS_27 rfl (L1 := [(r0, 15, 30, .int pk)]) [3] rfl rfl (M1 := []) [] rfl rfl (I1 := []) [] rfl rfl).more hb_275)
              clear hh_19 ht_27 hvm_27 hz_27 hk_27 hS_27 hb_271 hb_272 hb_273 hb_274 hb_275
              try simp only at hr_28
              obtain ⟨hr_28_0, hr_28_1, hr_28_2, hr_28_3, hr_28_4, hr_28_5⟩ := hr_28
              exact C173 qa_27 qn_27 r_28 _ _ hh_27 (by first | omega | (refine ⟨?_, ?_, ?_, ?_, ?_, ?_⟩ <;> (first | omega | rfl | assumption | decide | exact Or.inl rfl | exact Or.inr rfl | (simp only; omega)))) _ (lv_sub hl [0, 1] rfl)
            · skip
              have c_26' : wrong_20.toInt ≠ 0 := jb_eq_n (rfl) ((by decide)) c_26
              refine lv_iconst (v := 0) hx hb dX13_read_164 (by decide) ?_
              refine lv_goto (tgt := 173) hx hb dX13_read_165 (by decide) ?_
              exact C173 wa_5 wn_5 0 _ _ (hh_19.sub (L1 := [(r0, 15, 32, .int wa_5), (r0, 15, 5, .int wn_5), (r0, 15, 30, .int pk)]) [1, 2, 3] rfl (M1 := []) [] rfl (I1 := []) [] rfl) (by first | omega | (refine ⟨?_, ?_, ?_, ?_, ?_, ?_⟩ <;> (first | omega | rfl | assumption | decide | exact Or.inl rfl | exact Or.inr rfl | (simp only; omega)))) _ (lv_sub hl [0, 1] rfl)
        refine lv_icmp_ne (tgt := 150) hx hb dX13_read_131 (by decide) (fun c_29 => ?_) (fun c_29 => ?_)
        · skip
          have c_29' : a1.toInt ≠ 12 := jb_ne (rfl) ((by decide)) c_29
          exact C150 wa_4 wn_4 _ _ hh_4 (by first | omega | (refine ⟨?_, ?_, ?_, ?_⟩ <;> (first | omega | rfl | assumption | decide | exact Or.inl rfl | exact Or.inr rfl | (simp only; omega)))) _ (lv_sub hl [0, 1] rfl)
        · skip
          have c_29' : a1.toInt = 12 := jb_ne_n (rfl) ((by decide)) c_29
          refine lv_aload_n hx hb dX13_read_134 rfl (lv_at hl 0 rfl) ?_
          refine lv_aload_n hx hb dX13_read_135 rfl (lv_at hl 0 rfl) ?_
          refine va_calli (A0 := jA base) (H0 := s.heap) (va_runV (As := []) (rest := [.ref r0]) ⟨hx, hb, hml, hown, hts⟩ (uX13_readName l dC dI ca base B hB hAp hB15 hB155 hB156 hB157 hB166 hB167 G0 H_4 r0 pk wa_4) (cwV 0 hts (jgV (jWr_61 _ (List.mem_of_getElem? (i := 21) rfl)) (jWr_61 _ (List.mem_of_getElem? (i := 22) rfl)) (jWr_61 _ (List.mem_of_getElem? (i := 23) rfl)) (jWr_12 _ (List.mem_of_getElem? (i := 12) rfl)) (jWr_62 _ (List.mem_of_getElem? (i := 0) rfl))) rfl rfl rfl (by decide +kernel) ⟨by rw [← hR]; exact Nat.le_of_ble_eq_true rfl, by rw [← hR]; exact Nat.le_of_ble_eq_true rfl⟩) ⟨fun a U g mk q => by obtain ⟨q0, q1, q2, qK, q10, q11, q12⟩ := q; exact ⟨q0, q1, q2, jG.calling g mk a qK, q10, q11, q12⟩, hh_4.recv (C := RX13) (T := TX13) (N := 50) hB15 rfl (by decide) hg_r0 hK, fun U hU hW => ⟨rfl, hU, hh_4.2.1, hG.step hW hU hh_4.1, hg_r0, (hh_4.2.2.1.sub (L1 := [(r0, 15, 30, .int pk), (r0, 15, 32, .int wa_4)]) [2, 0] rfl), by first | omega | (refine ⟨?_, ?_, ?_, ?_⟩ <;> (first | omega | rfl | assumption | decide | exact Or.inl rfl | exact Or.inr rfl | (simp only; omega)))⟩⟩ rfl rfl hl.1 rfl (lv_room (Nat.le_of_ble_eq_true rfl)) dX13_read_136 ⟨Nat.zero_le _, Nat.zero_le _⟩) hh_4.1 (fun q _ h => h) (fun q h => h) (fun r_31 u_30 t_30 H_30 locs_30 ht_30 hvm_30 hr_31 hb_30 hz_30 hk_30 hS_30 => ?_)
          obtain ⟨qa_30, rfl⟩ : ∃ z, z = u_30 := ⟨_, rfl⟩
          rw [ht_30] at hb_30
          obtain ⟨hb_301, hb_302, hb_303, hb_304, hb_305⟩ := hb_30
          have hh_30 : jSt (dC, dI) B base G0 G0 EX13_read s.heap 0 0 [(r0, 15, 32, .int qa_30), (r0, 15, 5, .int wn_4), (r0, 15, 30, .int pk)] [] [] H_30 locs_30 := ((hh_4.call hb_301 hb_302 hb_303 hb_304 hS_30 rfl (L1 := [(r0, 15, 5, .int wn_4), (r0, 15, 30, .int pk)]) [1, 2] rfl rfl (M1 := []) [] rfl rfl (I1 := []) [] rfl rfl).more hb_305)
          clear hh_4 ht_30 hvm_30 hz_30 hk_30 hS_30 hb_301 hb_302 hb_303 hb_304 hb_305
          obtain ⟨hr_31_0, hr_31_1, hr_31_2, hr_31_3, hr_31_4⟩ := hr_31
          refine j7_put hx hb hown hK hh_30 hB hAp hB15 (C := RX13) (T := TX13) (N := 50) rfl (by decide) hg_r0 (i := 39) (by decide) hly_15_39 rfl hlk_303 rfl (ty := .int) (v := .int r_31) (by decide +kernel) rfl rfl (⟨_, rfl, by omega, by omega⟩) rfl (L1 := [(r0, 15, 32, .int qa_30), (r0, 15, 5, .int wn_4), (r0, 15, 30, .int pk)]) [0, 1, 2] rfl rfl rfl dX13_read_139 (fun H_32 locs_32 hh_32 => ?_)
          clear hh_30
          refine lv_aload_n hx hb dX13_read_142 rfl (lv_at hl 0 rfl) ?_
          refine lv_aload_n hx hb dX13_read_143 rfl (lv_at hl 0 rfl) ?_
          refine va_calli (A0 := jA base) (H0 := s.heap) (va_runV (As := []) (rest := [.ref r0]) ⟨hx, hb, hml, hown, hts⟩ (uX13_readName l dC dI ca base B hB hAp hB15 hB155 hB156 hB157 hB166 hB167 G0 H_32 r0 pk qa_30) (cwV 0 hts (jgV (jWr_61 _ (List.mem_of_getElem? (i := 21) rfl)) (jWr_61 _ (List.mem_of_getElem? (i := 22) rfl)) (jWr_61 _ (List.mem_of_getElem? (i := 23) rfl)) (jWr_12 _ (List.mem_of_getElem? (i := 12) rfl)) (jWr_62 _ (List.mem_of_getElem? (i := 0) rfl))) rfl rfl rfl (by decide +kernel) ⟨by rw [← hR]; exact Nat.le_of_ble_eq_true rfl, by rw [← hR]; exact Nat.le_of_ble_eq_true rfl⟩) ⟨fun a U g mk q => by obtain ⟨q0, q1, q2, qK, q10, q11, q12⟩ := q; exact ⟨q0, q1, q2, jG.calling g mk a qK, q10, q11, q12⟩, hh_32.recv (C := RX13) (T := TX13) (N := 50) hB15 rfl (by decide) hg_r0 hK, fun U hU hW => ⟨rfl, hU, hh_32.2.1, hG.step hW hU hh_32.1, hg_r0, (hh_32.2.2.1.sub (L1 := [(r0, 15, 30, .int pk), (r0, 15, 32, .int qa_30)]) [3, 1] rfl), by first | omega | (refine ⟨?_, ?_, ?_, ?_⟩ <;> (first | omega | rfl | assumption | decide | exact Or.inl rfl | exact Or.inr rfl | (simp only; omega)))⟩⟩ rfl rfl hl.1 rfl (lv_room (Nat.le_of_ble_eq_true rfl)) dX13_read_144 ⟨Nat.zero_le _, Nat.zero_le _⟩) hh_32.1 (fun q _ h => h) (fun q h => h) (fun r_34 u_33 t_33 H_33 locs_33 ht_33 hvm_33 hr_34 hb_33 hz_33 hk_33 hS_33 => ?_)
          obtain ⟨qa_33, rfl⟩ : ∃ z, z = u_33 := ⟨_, rfl⟩
          rw [ht_33] at hb_33
          obtain ⟨hb_331, hb_332, hb_333, hb_334, hb_335⟩ := hb_33
          have hh_33 : jSt (dC, dI) B base G0 G0 EX13_read s.heap 0 0 [(r0, 15, 32, .int qa_33), (r0, 15, 39, .int r_31), (r0, 15, 5, .int wn_4), (r0, 15, 30, .int pk)] [] [] H_33 locs_33 := ((hh_32.call hb_331 hb_332 hb_333 hb_334 hS_33 rfl (L1 := [(r0, 15, 39, .int r_31), (r0, 15, 5, .int wn_4), (r0, 15, 30, .int pk)]) [0, 2, 3] rfl rfl (M1 := []) [] rfl rfl (I1 := []) [] rfl rfl).more hb_335)
          clear hh_32 ht_33 hvm_33 hz_33 hk_33 hS_33 hb_331 hb_332 hb_333 hb_334 hb_335
          obtain ⟨hr_34_0, hr_34_1, hr_34_2, hr_34_3, hr_34_4⟩ := hr_34
          refine j7_put hx hb hown hK hh_33 hB hAp hB15 (C := RX13) (T := TX13) (N := 50) rfl (by decide) hg_r0 (i := 40) (by decide) hly_15_40 rfl hlk_306 rfl (ty := .int) (v := .int r_34) (by decide +kernel) rfl rfl (⟨_, rfl, by omega, by omega⟩) rfl (L1 := [(r0, 15, 32, .int qa_33), (r0, 15, 39, .int r_31), (r0, 15, 5, .int wn_4), (r0, 15, 30, .int pk)]) [0, 1, 2, 3] rfl rfl rfl dX13_read_147 (fun H_35 locs_35 hh_35 => ?_)
          clear hh_33
          exact C150 qa_33 wn_4 _ _ (hh_35.sub (L1 := [(r0, 15, 32, .int qa_33), (r0, 15, 5, .int wn_4), (r0, 15, 30, .int pk)]) [1, 3, 4] rfl (M1 := []) [] rfl (I1 := []) [] rfl) (by first | omega | (refine ⟨?_, ?_, ?_, ?_⟩ <;> (first | omega | rfl | assumption | decide | exact Or.inl rfl | exact Or.inr rfl | (simp only; omega)))) _ (lv_sub hl [0, 1] rfl)
      have C102 : ∀ (H_36 : Heap) (locs_36 : List Loc), jSt (dC, dI) B base G0 G0 EX13_read s.heap 0 0 [(r0, 15, 32, .int wa_3), (r0, 15, 5, .int wn_3), (r0, 15, 30, .int pk)] [] [] H_36 locs_36 → (True) → ∀ ls : Array Slot, lv_has ls 2 [(0, .ref r0), (1, .int a1)] → W p l e R s m ([.ref r0, .int a1] : List Value).toArray below meth c H_36 locs_36 0 0 Q (F0 m 102 ls []) := by
        intro  H_36 locs_36 hh_36  hi_36 ls hl
        refine lv_aload_n hx hb dX13_read_102 rfl (lv_at hl 0 rfl) ?_
        refine lv_bipush (v := 58) hx hb dX13_read_103 (by decide) ?_
        refine va_callv (A0 := jA base) (H0 := s.heap) (va_runV (As := [.int 58]) (rest := []) ⟨hx, hb, hml, hown, hts⟩ (uX13_expect l dC dI ca base B hB hAp hB15 hB157 hB167 G0 H_36 r0 58 pk wa_3) (cwV 1 hts (jgV (jWr_62 _ (List.mem_of_getElem? (i := 17) rfl)) (jWr_62 _ (List.mem_of_getElem? (i := 18) rfl)) (jWr_62 _ (List.mem_of_getElem? (i := 19) rfl)) (jWr_12 _ (List.mem_of_getElem? (i := 12) rfl)) (jWr_62 _ (List.mem_of_getElem? (i := 20) rfl))) rfl rfl rfl (by decide +kernel) ⟨by rw [← hR]; exact Nat.le_of_ble_eq_true rfl, by rw [← hR]; exact Nat.le_of_ble_eq_true rfl⟩) ⟨fun a U g mk q => by obtain ⟨q0, q1, q2, qK, q10, q11, q12⟩ := q; exact ⟨q0, q1, q2, jG.calling g mk a qK, q10, q11, q12⟩, hh_36.recv (C := RX13) (T := TX13) (N := 50) hB15 rfl (by decide) hg_r0 hK, fun U hU hW => ⟨rfl, hU, hh_36.2.1, hG.step hW hU hh_36.1, hg_r0, (hh_36.2.2.1.sub (L1 := [(r0, 15, 30, .int pk), (r0, 15, 32, .int wa_3)]) [2, 0] rfl), by first | omega | (refine ⟨?_, ?_, ?_, ?_⟩ <;> (first | omega | rfl | assumption | decide | exact Or.inl rfl | exact Or.inr rfl | (simp only; omega)))⟩⟩ rfl rfl hl.1 rfl (lv_room (Nat.le_of_ble_eq_true rfl)) dX13_read_105 ⟨Nat.zero_le _, Nat.zero_le _⟩) hh_36.1 (fun q _ h => h) (fun q h => h) (fun u_37 t_37 H_37 locs_37 ht_37 hvm_37 hr_38 hb_37 hz_37 hk_37 hS_37 => ?_)
        obtain ⟨qa_37, rfl⟩ : ∃ z, z = u_37 := ⟨_, rfl⟩
        rw [ht_37] at hb_37
        obtain ⟨hb_371, hb_372, hb_373, hb_374, hb_375⟩ := hb_37
        have hh_37 : jSt (dC, dI) B base G0 G0 EX13_read s.heap 0 0 [(r0, 15, 32, .int qa_37), (r0, 15, 5, .int wn_3), (r0, 15, 30, .int pk)] [] [] H_37 locs_37 := ((hh_36.call hb_371 hb_372 hb_373 hb_374 hS_37 rfl (L1 := [(r0, 15, 5, .int wn_3), (r0, 15, 30, .int pk)]) [1, 2] rfl rfl (M1 := []) [] rfl rfl (I1 := []) [] rfl rfl).more hb_375)
        clear hh_36 ht_37 hvm_37 hz_37 hk_37 hS_37 hb_371 hb_372 hb_373 hb_374 hb_375
        obtain ⟨hr_38_0, hr_38_1, hr_38_2⟩ := hr_38
        refine lv_aload_n hx hb dX13_read_108 rfl (lv_at hl 0 rfl) ?_
        refine lv_aload_n hx hb dX13_read_109 rfl (lv_at hl 0 rfl) ?_
        obtain ⟨v_39, hv_39, hh_40⟩ := hh_37.pin (C := RX13) (T := TX13) (N := 50) hB15 rfl (by decide) hg_r0 (i := 33) (by decide) rfl
        clear hh_37
        obtain ⟨wrong_41, rfl, hzwrong_41⟩ := hv_39
        have hzwrong_41' := jb_01 hzwrong_41
        refine j7_read hx hb hown hK (C := RX13) (T := TX13) (N := 50) rfl hly_15_33 hlk_181 (hh_40.at 0 rfl) dX13_read_110 ?_
        have C125 : ∀ (wa_42 : Int32) (wn_42 : Int32) (w0_42 : Int32) (H_42 : Heap) (locs_42 : List Loc), jSt (dC, dI) B base G0 G0 EX13_read s.heap 0 0 [(r0, 15, 32, .int wa_42), (r0, 15, 5, .int wn_42), (r0, 15, 30, .int pk)] [] [] H_42 locs_42 → (1 ≤ wa_42.toInt ∧ wa_42.toInt ≤ pk.toInt ∧ pn.toInt ≤ wn_42.toInt ∧ wn_42.toInt ≤ pn.toInt + 4 * (wa_42.toInt - 1) + 4 ∧ 0 ≤ w0_42.toInt ∧ w0_42.toInt ≤ 119999) → ∀ ls : Array Slot, lv_has ls 2 [(0, .ref r0), (1, .int a1)] → W p l e R s m ([.ref r0, .int a1] : List Value).toArray below meth c H_42 locs_42 0 0 Q (F0 m 125 ls [.int w0_42, .ref r0]) := by
          intro wa_42 wn_42 w0_42 H_42 locs_42 hh_42  hi_42 ls hl
          obtain ⟨hi_42_0, hi_42_1, hi_42_2, hi_42_3, hi_42_4, hi_42_5⟩ := hi_42
          try clear hr_38_2
          refine j7_put hx hb hown hK hh_42 hB hAp hB15 (C := RX13) (T := TX13) (N := 50) rfl (by decide) hg_r0 (i := 42) (by decide) hly_15_42 rfl hlk_294 rfl (ty := .int) (v := .int w0_42) (by decide +kernel) rfl rfl (⟨_, rfl, by omega, by omega⟩) rfl (L1 := [(r0, 15, 32, .int wa_42), (r0, 15, 5, .int wn_42), (r0, 15, 30, .int pk)]) [0, 1, 2] rfl rfl rfl dX13_read_125 (fun H_43 locs_43 hh_43 => ?_)
          clear hh_42
          exact C128 wa_42 wn_42 _ _ (hh_43.sub (L1 := [(r0, 15, 32, .int wa_42), (r0, 15, 5, .int wn_42), (r0, 15, 30, .int pk)]) [1, 2, 3] rfl (M1 := []) [] rfl (I1 := []) [] rfl) (by first | omega | (refine ⟨?_, ?_, ?_, ?_⟩ <;> (first | omega | rfl | assumption | decide | exact Or.inl rfl | exact Or.inr rfl | (simp only; omega)))) _ (lv_sub hl [0, 1] rfl)
        refine lv_if_eq (tgt := 120) hx hb dX13_read_113 (by decide) (fun c_44 => ?_) (fun c_44 => ?_)
        · skip
          have c_44' : wrong_41.toInt = 0 := jb_eq (rfl) ((by decide)) c_44
          refine lv_aload_n hx hb dX13_read_120 rfl (lv_at hl 0 rfl) ?_
          refine lv_iconst (v := 0) hx hb dX13_read_121 (by decide) ?_
          obtain ⟨v_47, hv_47, hh_48⟩ := hh_40.pin (C := RX13) (T := TX13) (N := 50) hB15 rfl (by decide) hg_r0 (i := 28) (by decide) rfl
          obtain ⟨kind_49, rfl, hg_kind_49⟩ := hv_47
          obtain ⟨v_50, hv_50, hh_51⟩ := hh_48.pin (C := RX13) (T := TX13) (N := 50) hB15 rfl (by decide) hg_r0 (i := 29) (by decide) rfl
          obtain ⟨what_52, rfl, hg_what_52⟩ := hv_50
          obtain ⟨f_fk_53, hh_53⟩ := hh_51.cpin hB167 (by decide) (by decide) hg_kind_49
          clear hh_51
          obtain ⟨f_fw_54, hh_54⟩ := hh_53.cpin hB157 (by decide) (by decide) hg_what_52
          clear hh_53
          refine va_calli (A0 := jA base) (H0 := s.heap) (va_runV (As := [.int 0]) (rest := [.ref r0]) ⟨hx, hb, hml, hown, hts⟩ ((aX13_readImp l dC dI ca base B hB hAp hB15 hB150 hB151 hB152 hB153 hB154 hB155 hB156 hB157 hB166 hB167 1500 12).2.2.2 G0 H_37 r0 0 pk qa_37 wn_3 kind_49 1500 what_52 1500 f_fk_53 f_fw_54) (cwV 1 hts (jgV (jWr_63 _ (List.mem_of_getElem? (i := 1) rfl)) (jWr_63 _ (List.mem_of_getElem? (i := 2) rfl)) (jWr_63 _ (List.mem_of_getElem? (i := 3) rfl)) (jWr_12 _ (List.mem_of_getElem? (i := 12) rfl)) (jWr_63 _ (List.mem_of_getElem? (i := 4) rfl))) rfl rfl rfl (by decide +kernel) ⟨by rw [← hR]; exact Nat.le_of_ble_eq_true rfl, by rw [← hR]; exact Nat.le_of_ble_eq_true rfl⟩) ⟨fun a U g mk q => by obtain ⟨q0, q1, q2, qK, q10, q11, q12, q13, q14, q15⟩ := q; exact ⟨q0, q1, q2, jG.calling g mk a qK, q10, q11, q12, q13, q14, q15⟩, hh_54.recv (C := RX13) (T := TX13) (N := 50) hB15 rfl (by decide) hg_r0 hK, fun U hU hW => ⟨rfl, hU, hh_54.2.1, hG.step hW hU hh_54.1, hg_r0, hg_kind_49, hg_what_52, (hh_54.2.2.1.sub (L1 := [(r0, 15, 30, .int pk), (r0, 15, 32, .int qa_37), (r0, 15, 5, .int wn_3), (r0, 15, 28, .ref kind_49), (r0, 15, 29, .ref what_52)]) [5, 3, 4, 1, 0] rfl), (hh_54.2.2.2.2.2.2.2.1.sub (L1 := [(kind_49, 167, 1500, ca 1, f_fk_53), (what_52, 157, 1500, ca 1, f_fw_54)]) [1, 0] rfl), by first | omega | (refine ⟨?_, ?_, ?_, ?_, ?_, ?_, ?_, ?_, ?_, ?_⟩ <;> (first | omega | rfl | assumption | decide | exact Or.inl rfl | exact Or.inr rfl | (simp only; omega)))⟩⟩ rfl rfl hl.1 rfl (lv_room (Nat.le_of_ble_eq_true rfl)) dX13_read_122 ⟨Nat.zero_le _, Nat.zero_le _⟩) hh_54.1 (fun q _ h => h) (fun q h => h) (fun r_46 u_45 t_45 H_45 locs_45 ht_45 hvm_45 hr_46 hb_45 hz_45 hk_45 hS_45 => ?_)
          obtain ⟨qa_45, qn_45⟩ := u_45
          rw [ht_45] at hb_45
          obtain ⟨hb_451, hb_452, hb_453, hb_454, hb_455⟩ := hb_45
          have hh_45 : jSt (dC, dI) B base G0 G0 EX13_read s.heap 0 0 [(r0, 15, 32, .int qa_45), (r0, 15, 5, .int qn_45), (r0, 15, 29, .ref what_52), (r0, 15, 28, .ref kind_49), (r0, 15, 30, .int pk)] [(what_52, 157, 1500, ca 1, f_fw_54), (kind_49, 167, 1500, ca 1, f_fk_53)] [] H_45 locs_45 := ((hh_54.call hb_451 hb_452 hb_453 hb_454 hS_45 rfl (L1 := [(r0, 15, 29, .ref what_52), (r0, 15, 28, .ref kind_49), (r0, 15, 30, .int pk)]) [0, 1, 5] rfl rfl (M1 := [(what_52, 157, 1500, ca 1, f_fw_54), (kind_49, 167, 1500, ca 1, f_fk_53)]) [0, 1] rfl rfl (I1 := []) [] rfl rfl).more hb_455)
          clear hh_54 ht_45 hvm_45 hz_45 hk_45 hS_45 hb_451 hb_452 hb_453 hb_454 hb_455
          try simp only at hr_46
          obtain ⟨hr_46_0, hr_46_1, hr_46_2, hr_46_3, hr_46_4, hr_46_5⟩ := hr_46
          exact C125 qa_45 qn_45 r_46 _ _ (hh_45.sub (L1 := [(r0, 15, 32, .int qa_45), (r0, 15, 5, .int qn_45), (r0, 15, 30, .int pk)]) [0, 1, 4] rfl (M1 := []) [] rfl (I1 := []) [] rfl) (by first | omega | (refine ⟨?_, ?_, ?_, ?_, ?_, ?_⟩ <;> (first | omega | rfl | assumption | decide | exact Or.inl rfl | exact Or.inr rfl | (simp only; omega)))) _ (lv_sub hl [0, 1] rfl)
        · skip
          have c_44' : wrong_41.toInt ≠ 0 := jb_eq_n (rfl) ((by decide)) c_44
          refine lv_iconst (v := 0) hx hb dX13_read_116 (by decide) ?_
          refine lv_goto (tgt := 125) hx hb dX13_read_117 (by decide) ?_
          exact C125 qa_37 wn_3 0 _ _ (hh_40.sub (L1 := [(r0, 15, 32, .int qa_37), (r0, 15, 5, .int wn_3), (r0, 15, 30, .int pk)]) [1, 2, 3] rfl (M1 := []) [] rfl (I1 := []) [] rfl) (by first | omega | (refine ⟨?_, ?_, ?_, ?_, ?_, ?_⟩ <;> (first | omega | rfl | assumption | decide | exact Or.inl rfl | exact Or.inr rfl | (simp only; omega)))) _ (lv_sub hl [0, 1] rfl)
      refine lv_icmp_eq (tgt := 102) hx hb dX13_read_88 (by decide) (fun c_55 => ?_) (fun c_55 => ?_)
      · skip
        have c_55' : a1.toInt = 2 := jb_eq (rfl) ((by decide)) c_55
        exact C102  _ _ hh_3 (trivial) _ (lv_sub hl [0, 1] rfl)
      · skip
        have c_55' : a1.toInt ≠ 2 := jb_eq_n (rfl) ((by decide)) c_55
        refine lv_iload_n hx hb dX13_read_91 rfl (lv_at hl 1 rfl) ?_
        refine lv_iconst (v := 3) hx hb dX13_read_92 (by decide) ?_
        refine lv_icmp_eq (tgt := 102) hx hb dX13_read_93 (by decide) (fun c_56 => ?_) (fun c_56 => ?_)
        · skip
          have c_56' : a1.toInt = 3 := jb_eq (rfl) ((by decide)) c_56
          exact C102  _ _ hh_3 (trivial) _ (lv_sub hl [0, 1] rfl)
        · skip
          have c_56' : a1.toInt ≠ 3 := jb_eq_n (rfl) ((by decide)) c_56
          refine lv_iload_n hx hb dX13_read_96 rfl (lv_at hl 1 rfl) ?_
          refine lv_bipush (v := 18) hx hb dX13_read_97 (by decide) ?_
          refine lv_icmp_ne (tgt := 128) hx hb dX13_read_99 (by decide) (fun c_57 => ?_) (fun c_57 => ?_)
          · skip
            have c_57' : a1.toInt ≠ 18 := jb_ne (rfl) ((by decide)) c_57
            exact C128 wa_3 wn_3 _ _ hh_3 (by first | omega | (refine ⟨?_, ?_, ?_, ?_⟩ <;> (first | omega | rfl | assumption | decide | exact Or.inl rfl | exact Or.inr rfl | (simp only; omega)))) _ (lv_sub hl [0, 1] rfl)
          · skip
            have c_57' : a1.toInt = 18 := jb_ne_n (rfl) ((by decide)) c_57
            exact C102  _ _ hh_3 (trivial) _ (lv_sub hl [0, 1] rfl)
    refine lv_icmp_gt (tgt := 86) hx hb dX13_read_75 (by decide) (fun c_58 => ?_) (fun c_58 => ?_)
    · skip
      have c_58' : a1.toInt > 1 := jb_gt (rfl) ((by decide)) c_58
      exact C86 wa_2 wn_2 _ _ hh_2 (by first | omega | (refine ⟨?_, ?_, ?_, ?_⟩ <;> (first | omega | rfl | assumption | decide | exact Or.inl rfl | exact Or.inr rfl | (simp only; omega)))) _ (lv_sub hl [0, 1] rfl)
    · skip
      have c_58' : a1.toInt ≤ 1 := jb_gt_n (rfl) ((by decide)) c_58
      refine lv_aload_n hx hb dX13_read_78 rfl (lv_at hl 0 rfl) ?_
      refine lv_aload_n hx hb dX13_read_79 rfl (lv_at hl 0 rfl) ?_
      refine va_calli (A0 := jA base) (H0 := s.heap) (va_runV (As := []) (rest := [.ref r0]) ⟨hx, hb, hml, hown, hts⟩ (uX13_readNumber l dC dI ca base B hB hAp hB15 hB157 hB167 G0 H_2 r0 pk wa_2) (cwV 0 hts (jgV (jWr_62 _ (List.mem_of_getElem? (i := 21) rfl)) (jWr_62 _ (List.mem_of_getElem? (i := 22) rfl)) (jWr_62 _ (List.mem_of_getElem? (i := 23) rfl)) (jWr_12 _ (List.mem_of_getElem? (i := 12) rfl)) (jWr_63 _ (List.mem_of_getElem? (i := 0) rfl))) rfl rfl rfl (by decide +kernel) ⟨by rw [← hR]; exact Nat.le_of_ble_eq_true rfl, by rw [← hR]; exact Nat.le_of_ble_eq_true rfl⟩) ⟨fun a U g mk q => by obtain ⟨q0, q1, q2, qK, q10, q11, q12⟩ := q; exact ⟨q0, q1, q2, jG.calling g mk a qK, q10, q11, q12⟩, hh_2.recv (C := RX13) (T := TX13) (N := 50) hB15 rfl (by decide) hg_r0 hK, fun U hU hW => ⟨rfl, hU, hh_2.2.1, hG.step hW hU hh_2.1, hg_r0, (hh_2.2.2.1.sub (L1 := [(r0, 15, 30, .int pk), (r0, 15, 32, .int wa_2)]) [2, 0] rfl), by first | omega | (refine ⟨?_, ?_, ?_, ?_⟩ <;> (first | omega | rfl | assumption | decide | exact Or.inl rfl | exact Or.inr rfl | (simp only; omega)))⟩⟩ rfl rfl hl.1 rfl (lv_room (Nat.le_of_ble_eq_true rfl)) dX13_read_80 ⟨Nat.zero_le _, Nat.zero_le _⟩) hh_2.1 (fun q _ h => h) (fun q h => h) (fun r_60 u_59 t_59 H_59 locs_59 ht_59 hvm_59 hr_60 hb_59 hz_59 hk_59 hS_59 => ?_)
      obtain ⟨qa_59, rfl⟩ : ∃ z, z = u_59 := ⟨_, rfl⟩
      rw [ht_59] at hb_59
      obtain ⟨hb_591, hb_592, hb_593, hb_594, hb_595⟩ := hb_59
      have hh_59 : jSt (dC, dI) B base G0 G0 EX13_read s.heap 0 0 [(r0, 15, 32, .int qa_59), (r0, 15, 5, .int wn_2), (r0, 15, 30, .int pk)] [] [] H_59 locs_59 := ((hh_2.call hb_591 hb_592 hb_593 hb_594 hS_59 rfl (L1 := [(r0, 15, 5, .int wn_2), (r0, 15, 30, .int pk)]) [1, 2] rfl rfl (M1 := []) [] rfl rfl (I1 := []) [] rfl rfl).more hb_595)
      clear hh_2 ht_59 hvm_59 hz_59 hk_59 hS_59 hb_591 hb_592 hb_593 hb_594 hb_595
      obtain ⟨hr_60_0, hr_60_1, hr_60_2, hr_60_3, hr_60_4⟩ := hr_60
      refine j7_put hx hb hown hK hh_59 hB hAp hB15 (C := RX13) (T := TX13) (N := 50) rfl (by decide) hg_r0 (i := 41) (by decide) hly_15_41 rfl hlk_300 rfl (ty := .int) (v := .int r_60) (by decide +kernel) rfl rfl (⟨_, rfl, by omega, by omega⟩) rfl (L1 := [(r0, 15, 32, .int qa_59), (r0, 15, 5, .int wn_2), (r0, 15, 30, .int pk)]) [0, 1, 2] rfl rfl rfl dX13_read_83 (fun H_61 locs_61 hh_61 => ?_)
      clear hh_59
      exact C86 qa_59 wn_2 _ _ (hh_61.sub (L1 := [(r0, 15, 32, .int qa_59), (r0, 15, 5, .int wn_2), (r0, 15, 30, .int pk)]) [1, 2, 3] rfl (M1 := []) [] rfl (I1 := []) [] rfl) (by first | omega | (refine ⟨?_, ?_, ?_, ?_⟩ <;> (first | omega | rfl | assumption | decide | exact Or.inl rfl | exact Or.inr rfl | (simp only; omega)))) _ (lv_sub hl [0, 1] rfl)
  have C39 : ∀ (H_62 : Heap) (locs_62 : List Loc), jSt (dC, dI) B base G0 G0 EX13_read s.heap 0 0 [(r0, 15, 32, .int 1), (r0, 15, 30, .int pk), (r0, 15, 5, .int pn)] [] [] H_62 locs_62 → (True) → ∀ ls : Array Slot, lv_has ls 2 [(0, .ref r0), (1, .int a1)] → W p l e R s m ([.ref r0, .int a1] : List Value).toArray below meth c H_62 locs_62 0 0 Q (F0 m 39 ls []) := by
    intro  H_62 locs_62 hh_62  hi_62 ls hl
    refine lv_aload_n hx hb dX13_read_39 rfl (lv_at hl 0 rfl) ?_
    refine lv_iconst (v := 0) hx hb dX13_read_40 (by decide) ?_
    refine j7_put hx hb hown hK hh_62 hB hAp hB15 (C := RX13) (T := TX13) (N := 50) rfl (by decide) hg_r0 (i := 38) (by decide) hly_15_38 rfl hlk_291 rfl (ty := .int) (v := .int 0) (by decide +kernel) rfl rfl (⟨_, rfl, by omega, by omega⟩) rfl (L1 := [(r0, 15, 32, .int 1), (r0, 15, 30, .int pk), (r0, 15, 5, .int pn)]) [0, 1, 2] rfl rfl rfl dX13_read_41 (fun H_63 locs_63 hh_63 => ?_)
    clear hh_62
    refine lv_goto (tgt := 73) hx hb dX13_read_44 (by decide) ?_
    exact C73 1 pn _ _ (hh_63.sub (L1 := [(r0, 15, 32, .int 1), (r0, 15, 5, .int pn), (r0, 15, 30, .int pk)]) [1, 3, 2] rfl (M1 := []) [] rfl (I1 := []) [] rfl) (by first | omega | (refine ⟨?_, ?_, ?_, ?_⟩ <;> (first | omega | rfl | assumption | decide | exact Or.inl rfl | exact Or.inr rfl | (simp only; omega)))) _ (lv_sub hl [0, 1] rfl)
  refine lv_icmp_eq (tgt := 39) hx hb dX13_read_7 (by decide) (fun c_64 => ?_) (fun c_64 => ?_)
  · skip
    have c_64' : a1.toInt = 4 := jb_eq (rfl) ((by decide)) c_64
    exact C39  _ _ hh_1 (trivial) _ (lv_sub hl [0, 1] rfl)
  · skip
    have c_64' : a1.toInt ≠ 4 := jb_eq_n (rfl) ((by decide)) c_64
    refine lv_iload_n hx hb dX13_read_10 rfl (lv_at hl 1 rfl) ?_
    refine lv_iconst (v := 5) hx hb dX13_read_11 (by decide) ?_
    refine lv_icmp_eq (tgt := 39) hx hb dX13_read_12 (by decide) (fun c_65 => ?_) (fun c_65 => ?_)
    · skip
      have c_65' : a1.toInt = 5 := jb_eq (rfl) ((by decide)) c_65
      exact C39  _ _ hh_1 (trivial) _ (lv_sub hl [0, 1] rfl)
    · skip
      have c_65' : a1.toInt ≠ 5 := jb_eq_n (rfl) ((by decide)) c_65
      refine lv_iload_n hx hb dX13_read_15 rfl (lv_at hl 1 rfl) ?_
      refine lv_bipush (v := 9) hx hb dX13_read_16 (by decide) ?_
      refine lv_icmp_eq (tgt := 39) hx hb dX13_read_18 (by decide) (fun c_66 => ?_) (fun c_66 => ?_)
      · skip
        have c_66' : a1.toInt = 9 := jb_eq (rfl) ((by decide)) c_66
        exact C39  _ _ hh_1 (trivial) _ (lv_sub hl [0, 1] rfl)
      · skip
        have c_66' : a1.toInt ≠ 9 := jb_eq_n (rfl) ((by decide)) c_66
        refine lv_iload_n hx hb dX13_read_21 rfl (lv_at hl 1 rfl) ?_
        refine lv_bipush (v := 10) hx hb dX13_read_22 (by decide) ?_
        refine lv_icmp_eq (tgt := 39) hx hb dX13_read_24 (by decide) (fun c_67 => ?_) (fun c_67 => ?_)
        · skip
          have c_67' : a1.toInt = 10 := jb_eq (rfl) ((by decide)) c_67
          exact C39  _ _ hh_1 (trivial) _ (lv_sub hl [0, 1] rfl)
        · skip
          have c_67' : a1.toInt ≠ 10 := jb_eq_n (rfl) ((by decide)) c_67
          refine lv_iload_n hx hb dX13_read_27 rfl (lv_at hl 1 rfl) ?_
          refine lv_bipush (v := 11) hx hb dX13_read_28 (by decide) ?_
          refine lv_icmp_eq (tgt := 39) hx hb dX13_read_30 (by decide) (fun c_68 => ?_) (fun c_68 => ?_)
          · skip
            have c_68' : a1.toInt = 11 := jb_eq (rfl) ((by decide)) c_68
            exact C39  _ _ hh_1 (trivial) _ (lv_sub hl [0, 1] rfl)
          · skip
            have c_68' : a1.toInt ≠ 11 := jb_eq_n (rfl) ((by decide)) c_68
            refine lv_iload_n hx hb dX13_read_33 rfl (lv_at hl 1 rfl) ?_
            refine lv_bipush (v := 16) hx hb dX13_read_34 (by decide) ?_
            refine lv_icmp_ne (tgt := 47) hx hb dX13_read_36 (by decide) (fun c_69 => ?_) (fun c_69 => ?_)
            · skip
              have c_69' : a1.toInt ≠ 16 := jb_ne (rfl) ((by decide)) c_69
              refine lv_iload_n hx hb dX13_read_47 rfl (lv_at hl 1 rfl) ?_
              refine lv_bipush (v := 14) hx hb dX13_read_48 (by decide) ?_
              refine lv_icmp_ne (tgt := 65) hx hb dX13_read_50 (by decide) (fun c_70 => ?_) (fun c_70 => ?_)
              · skip
                have c_70' : a1.toInt ≠ 14 := jb_ne (rfl) ((by decide)) c_70
                refine lv_aload_n hx hb dX13_read_65 rfl (lv_at hl 0 rfl) ?_
                refine lv_aload_n hx hb dX13_read_66 rfl (lv_at hl 0 rfl) ?_
                refine va_calli (A0 := jA base) (H0 := s.heap) (va_runV (As := []) (rest := [.ref r0]) ⟨hx, hb, hml, hown, hts⟩ (uX13_readName l dC dI ca base B hB hAp hB15 hB155 hB156 hB157 hB166 hB167 G0 H_1 r0 pk 1) (cwV 0 hts (jgV (jWr_61 _ (List.mem_of_getElem? (i := 21) rfl)) (jWr_61 _ (List.mem_of_getElem? (i := 22) rfl)) (jWr_61 _ (List.mem_of_getElem? (i := 23) rfl)) (jWr_12 _ (List.mem_of_getElem? (i := 12) rfl)) (jWr_62 _ (List.mem_of_getElem? (i := 0) rfl))) rfl rfl rfl (by decide +kernel) ⟨by rw [← hR]; exact Nat.le_of_ble_eq_true rfl, by rw [← hR]; exact Nat.le_of_ble_eq_true rfl⟩) ⟨fun a U g mk q => by obtain ⟨q0, q1, q2, qK, q10, q11, q12⟩ := q; exact ⟨q0, q1, q2, jG.calling g mk a qK, q10, q11, q12⟩, hh_1.recv (C := RX13) (T := TX13) (N := 50) hB15 rfl (by decide) hg_r0 hK, fun U hU hW => ⟨rfl, hU, hh_1.2.1, hG.step hW hU hh_1.1, hg_r0, (hh_1.2.2.1.sub (L1 := [(r0, 15, 30, .int pk), (r0, 15, 32, .int 1)]) [1, 0] rfl), by first | omega | (refine ⟨?_, ?_, ?_, ?_⟩ <;> (first | omega | rfl | assumption | decide | exact Or.inl rfl | exact Or.inr rfl | (simp only; omega)))⟩⟩ rfl rfl hl.1 rfl (lv_room (Nat.le_of_ble_eq_true rfl)) dX13_read_67 ⟨Nat.zero_le _, Nat.zero_le _⟩) hh_1.1 (fun q _ h => h) (fun q h => h) (fun r_72 u_71 t_71 H_71 locs_71 ht_71 hvm_71 hr_72 hb_71 hz_71 hk_71 hS_71 => ?_)
                obtain ⟨qa_71, rfl⟩ : ∃ z, z = u_71 := ⟨_, rfl⟩
                rw [ht_71] at hb_71
                obtain ⟨hb_711, hb_712, hb_713, hb_714, hb_715⟩ := hb_71
                have hh_71 : jSt (dC, dI) B base G0 G0 EX13_read s.heap 0 0 [(r0, 15, 32, .int qa_71), (r0, 15, 30, .int pk), (r0, 15, 5, .int pn)] [] [] H_71 locs_71 := ((hh_1.call hb_711 hb_712 hb_713 hb_714 hS_71 rfl (L1 := [(r0, 15, 30, .int pk), (r0, 15, 5, .int pn)]) [1, 2] rfl rfl (M1 := []) [] rfl rfl (I1 := []) [] rfl rfl).more hb_715)
                clear hh_1 ht_71 hvm_71 hz_71 hk_71 hS_71 hb_711 hb_712 hb_713 hb_714 hb_715
                obtain ⟨hr_72_0, hr_72_1, hr_72_2, hr_72_3, hr_72_4⟩ := hr_72
                refine j7_put hx hb hown hK hh_71 hB hAp hB15 (C := RX13) (T := TX13) (N := 50) rfl (by decide) hg_r0 (i := 38) (by decide) hly_15_38 rfl hlk_291 rfl (ty := .int) (v := .int r_72) (by decide +kernel) rfl rfl (⟨_, rfl, by omega, by omega⟩) rfl (L1 := [(r0, 15, 32, .int qa_71), (r0, 15, 30, .int pk), (r0, 15, 5, .int pn)]) [0, 1, 2] rfl rfl rfl dX13_read_70 (fun H_73 locs_73 hh_73 => ?_)
                clear hh_71
                exact C73 qa_71 pn _ _ (hh_73.sub (L1 := [(r0, 15, 32, .int qa_71), (r0, 15, 5, .int pn), (r0, 15, 30, .int pk)]) [1, 3, 2] rfl (M1 := []) [] rfl (I1 := []) [] rfl) (by first | omega | (refine ⟨?_, ?_, ?_, ?_⟩ <;> (first | omega | rfl | assumption | decide | exact Or.inl rfl | exact Or.inr rfl | (simp only; omega)))) _ (lv_sub hl [0, 1] rfl)
              · skip
                have c_70' : a1.toInt = 14 := jb_ne_n (rfl) ((by decide)) c_70
                refine lv_aload_n hx hb dX13_read_53 rfl (lv_at hl 0 rfl) ?_
                refine lv_aload_n hx hb dX13_read_54 rfl (lv_at hl 0 rfl) ?_
                refine lv_iconst (v := 0) hx hb dX13_read_55 (by decide) ?_
                refine va_calli (A0 := jA base) (H0 := s.heap) (va_runV (As := [.int 0]) (rest := [.ref r0]) ⟨hx, hb, hml, hown, hts⟩ (aX13_readTerm l dC dI ca base B hB hAp hB15 hB150 hB151 hB152 hB153 hB154 hB155 hB156 hB157 hB166 hB167 12 G0 H_1 r0 0 pk 1 pn) (cwV 1 hts (jgV (jWr_61 _ (List.mem_of_getElem? (i := 17) rfl)) (jWr_61 _ (List.mem_of_getElem? (i := 18) rfl)) (jWr_61 _ (List.mem_of_getElem? (i := 19) rfl)) (jWr_12 _ (List.mem_of_getElem? (i := 12) rfl)) (jWr_61 _ (List.mem_of_getElem? (i := 20) rfl))) rfl rfl rfl (by decide +kernel) ⟨by rw [← hR]; exact Nat.le_of_ble_eq_true rfl, by rw [← hR]; exact Nat.le_of_ble_eq_true rfl⟩) ⟨fun a U g mk q => by obtain ⟨q0, q1, q2, qK, q10, q11, q12⟩ := q; exact ⟨q0, q1, q2, jG.calling g mk a qK, q10, q11, q12⟩, hh_1.recv (C := RX13) (T := TX13) (N := 50) hB15 rfl (by decide) hg_r0 hK, fun U hU hW => ⟨rfl, hU, hh_1.2.1, hG.step hW hU hh_1.1, hg_r0, (hh_1.2.2.1.sub (L1 := [(r0, 15, 30, .int pk), (r0, 15, 32, .int 1), (r0, 15, 5, .int pn)]) [1, 0, 2] rfl), by first | omega | (refine ⟨?_, ?_, ?_, ?_, ?_, ?_, ?_⟩ <;> (first | omega | rfl | assumption | decide | exact Or.inl rfl | exact Or.inr rfl | (simp only; omega)))⟩⟩ rfl rfl hl.1 rfl (lv_room (Nat.le_of_ble_eq_true rfl)) dX13_read_56 ⟨Nat.zero_le _, Nat.zero_le _⟩) hh_1.1 (fun q _ h => h) (fun q h => h) (fun r_75 u_74 t_74 H_74 locs_74 ht_74 hvm_74 hr_75 hb_74 hz_74 hk_74 hS_74 => ?_)
                obtain ⟨qa_74, qn_74⟩ := u_74
                rw [ht_74] at hb_74
                obtain ⟨hb_741, hb_742, hb_743, hb_744, hb_745⟩ := hb_74
                have hh_74 : jSt (dC, dI) B base G0 G0 EX13_read s.heap 0 0 [(r0, 15, 32, .int qa_74), (r0, 15, 5, .int qn_74), (r0, 15, 30, .int pk)] [] [] H_74 locs_74 := ((hh_1.call hb_741 hb_742 hb_743 hb_744 hS_74 rfl (L1 := [(r0, 15, 30, .int pk)]) [1] rfl rfl (M1 := []) [] rfl rfl (I1 := []) [] rfl rfl).more hb_745)
                clear hh_1 ht_74 hvm_74 hz_74 hk_74 hS_74 hb_741 hb_742 hb_743 hb_744 hb_745
                try simp only at hr_75
                obtain ⟨hr_75_0, hr_75_1, hr_75_2, hr_75_3, hr_75_4, hr_75_5⟩ := hr_75
                refine j7_put hx hb hown hK hh_74 hB hAp hB15 (C := RX13) (T := TX13) (N := 50) rfl (by decide) hg_r0 (i := 42) (by decide) hly_15_42 rfl hlk_294 rfl (ty := .int) (v := .int r_75) (by decide +kernel) rfl rfl (⟨_, rfl, by omega, by omega⟩) rfl (L1 := [(r0, 15, 32, .int qa_74), (r0, 15, 5, .int qn_74), (r0, 15, 30, .int pk)]) [0, 1, 2] rfl rfl rfl dX13_read_59 (fun H_76 locs_76 hh_76 => ?_)
                clear hh_74
                refine lv_goto (tgt := 73) hx hb dX13_read_62 (by decide) ?_
                exact C73 qa_74 qn_74 _ _ (hh_76.sub (L1 := [(r0, 15, 32, .int qa_74), (r0, 15, 5, .int qn_74), (r0, 15, 30, .int pk)]) [1, 2, 3] rfl (M1 := []) [] rfl (I1 := []) [] rfl) (by first | omega | (refine ⟨?_, ?_, ?_, ?_⟩ <;> (first | omega | rfl | assumption | decide | exact Or.inl rfl | exact Or.inr rfl | (simp only; omega)))) _ (lv_sub hl [0, 1] rfl)
            · skip
              have c_69' : a1.toInt = 16 := jb_ne_n (rfl) ((by decide)) c_69
              exact C39  _ _ hh_1 (trivial) _ (lv_sub hl [0, 1] rfl)
