section
theorem dX11_init_0 : decode cX11_init 0 = .ok (.aload_n 0, 1) := by decide +kernel
theorem dX11_init_1 : decode cX11_init 1 = .ok (.invokespecial 1, 3) := by decide +kernel
theorem dX11_init_4 : decode cX11_init 4 = .ok (.aload_n 0, 1) := by decide +kernel
theorem dX11_init_5 : decode cX11_init 5 = .ok (.new 7, 3) := by decide +kernel
theorem dX11_init_8 : decode cX11_init 8 = .ok (.dup, 1) := by decide +kernel
theorem dX11_init_9 : decode cX11_init 9 = .ok (.sipush 4000, 3) := by decide +kernel
theorem dX11_init_12 : decode cX11_init 12 = .ok (.invokespecial 11, 3) := by decide +kernel
theorem dX11_init_15 : decode cX11_init 15 = .ok (.putfield 14, 3) := by decide +kernel
theorem dX11_init_18 : decode cX11_init 18 = .ok (.aload_n 0, 1) := by decide +kernel
theorem dX11_init_19 : decode cX11_init 19 = .ok (.new 18, 3) := by decide +kernel
theorem dX11_init_22 : decode cX11_init 22 = .ok (.dup, 1) := by decide +kernel
theorem dX11_init_23 : decode cX11_init 23 = .ok (.invokespecial 20, 3) := by decide +kernel
theorem dX11_init_26 : decode cX11_init 26 = .ok (.putfield 21, 3) := by decide +kernel
theorem dX11_init_29 : decode cX11_init 29 = .ok (.aload_n 0, 1) := by decide +kernel
theorem dX11_init_30 : decode cX11_init 30 = .ok (.new 25, 3) := by decide +kernel
theorem dX11_init_33 : decode cX11_init 33 = .ok (.dup, 1) := by decide +kernel
theorem dX11_init_34 : decode cX11_init 34 = .ok (.invokespecial 27, 3) := by decide +kernel
theorem dX11_init_37 : decode cX11_init 37 = .ok (.putfield 28, 3) := by decide +kernel
theorem dX11_init_40 : decode cX11_init 40 = .ok (.aload_n 0, 1) := by decide +kernel
theorem dX11_init_41 : decode cX11_init 41 = .ok (.new 7, 3) := by decide +kernel
theorem dX11_init_44 : decode cX11_init 44 = .ok (.dup, 1) := by decide +kernel
theorem dX11_init_45 : decode cX11_init 45 = .ok (.sipush 20000, 3) := by decide +kernel
theorem dX11_init_48 : decode cX11_init 48 = .ok (.invokespecial 11, 3) := by decide +kernel
theorem dX11_init_51 : decode cX11_init 51 = .ok (.putfield 32, 3) := by decide +kernel
theorem dX11_init_54 : decode cX11_init 54 = .ok (.aload_n 0, 1) := by decide +kernel
theorem dX11_init_55 : decode cX11_init 55 = .ok (.new 7, 3) := by decide +kernel
theorem dX11_init_58 : decode cX11_init 58 = .ok (.dup, 1) := by decide +kernel
theorem dX11_init_59 : decode cX11_init 59 = .ok (.sipush 1024, 3) := by decide +kernel
theorem dX11_init_62 : decode cX11_init 62 = .ok (.invokespecial 11, 3) := by decide +kernel
theorem dX11_init_65 : decode cX11_init 65 = .ok (.putfield 35, 3) := by decide +kernel
theorem dX11_init_68 : decode cX11_init 68 = .ok (.aload_n 0, 1) := by decide +kernel
theorem dX11_init_69 : decode cX11_init 69 = .ok (.new 38, 3) := by decide +kernel
theorem dX11_init_72 : decode cX11_init 72 = .ok (.dup, 1) := by decide +kernel
theorem dX11_init_73 : decode cX11_init 73 = .ok (.invokespecial 40, 3) := by decide +kernel
theorem dX11_init_76 : decode cX11_init 76 = .ok (.putfield 41, 3) := by decide +kernel
theorem dX11_init_79 : decode cX11_init 79 = .ok (.aload_n 0, 1) := by decide +kernel
theorem dX11_init_80 : decode cX11_init 80 = .ok (.new 45, 3) := by decide +kernel
theorem dX11_init_83 : decode cX11_init 83 = .ok (.dup, 1) := by decide +kernel
theorem dX11_init_84 : decode cX11_init 84 = .ok (.aload_n 0, 1) := by decide +kernel
theorem dX11_init_85 : decode cX11_init 85 = .ok (.getfield 41, 3) := by decide +kernel
theorem dX11_init_88 : decode cX11_init 88 = .ok (.getfield 47, 3) := by decide +kernel
theorem dX11_init_91 : decode cX11_init 91 = .ok (.invokespecial 51, 3) := by decide +kernel
theorem dX11_init_94 : decode cX11_init 94 = .ok (.putfield 54, 3) := by decide +kernel
theorem dX11_init_97 : decode cX11_init 97 = .ok (.aload_n 0, 1) := by decide +kernel
theorem dX11_init_98 : decode cX11_init 98 = .ok (.new 58, 3) := by decide +kernel
theorem dX11_init_101 : decode cX11_init 101 = .ok (.dup, 1) := by decide +kernel
theorem dX11_init_102 : decode cX11_init 102 = .ok (.invokespecial 60, 3) := by decide +kernel
theorem dX11_init_105 : decode cX11_init 105 = .ok (.putfield 61, 3) := by decide +kernel
theorem dX11_init_108 : decode cX11_init 108 = .ok (.aload_n 0, 1) := by decide +kernel
theorem dX11_init_109 : decode cX11_init 109 = .ok (.new 58, 3) := by decide +kernel
theorem dX11_init_112 : decode cX11_init 112 = .ok (.dup, 1) := by decide +kernel
theorem dX11_init_113 : decode cX11_init 113 = .ok (.invokespecial 60, 3) := by decide +kernel
theorem dX11_init_116 : decode cX11_init 116 = .ok (.putfield 65, 3) := by decide +kernel
theorem dX11_init_119 : decode cX11_init 119 = .ok (.aload_n 0, 1) := by decide +kernel
theorem dX11_init_120 : decode cX11_init 120 = .ok (.new 58, 3) := by decide +kernel
theorem dX11_init_123 : decode cX11_init 123 = .ok (.dup, 1) := by decide +kernel
theorem dX11_init_124 : decode cX11_init 124 = .ok (.invokespecial 60, 3) := by decide +kernel
theorem dX11_init_127 : decode cX11_init 127 = .ok (.putfield 68, 3) := by decide +kernel
theorem dX11_init_130 : decode cX11_init 130 = .ok (.aload_n 0, 1) := by decide +kernel
theorem dX11_init_131 : decode cX11_init 131 = .ok (.iconst 2, 1) := by decide +kernel
theorem dX11_init_132 : decode cX11_init 132 = .ok (.anewarray 71, 3) := by decide +kernel
theorem dX11_init_135 : decode cX11_init 135 = .ok (.putfield 73, 3) := by decide +kernel
theorem dX11_init_138 : decode cX11_init 138 = .ok (.aload_n 0, 1) := by decide +kernel
theorem dX11_init_139 : decode cX11_init 139 = .ok (.iconst 0, 1) := by decide +kernel
theorem dX11_init_140 : decode cX11_init 140 = .ok (.putfield 77, 3) := by decide +kernel
theorem dX11_init_143 : decode cX11_init 143 = .ok (.aload_n 0, 1) := by decide +kernel
theorem dX11_init_144 : decode cX11_init 144 = .ok (.new 71, 3) := by decide +kernel
theorem dX11_init_147 : decode cX11_init 147 = .ok (.dup, 1) := by decide +kernel
theorem dX11_init_148 : decode cX11_init 148 = .ok (.invokespecial 81, 3) := by decide +kernel
theorem dX11_init_151 : decode cX11_init 151 = .ok (.putfield 82, 3) := by decide +kernel
theorem dX11_init_154 : decode cX11_init 154 = .ok (.aload_n 0, 1) := by decide +kernel
theorem dX11_init_155 : decode cX11_init 155 = .ok (.new 7, 3) := by decide +kernel
theorem dX11_init_158 : decode cX11_init 158 = .ok (.dup, 1) := by decide +kernel
theorem dX11_init_159 : decode cX11_init 159 = .ok (.sipush 256, 3) := by decide +kernel
theorem dX11_init_162 : decode cX11_init 162 = .ok (.invokespecial 11, 3) := by decide +kernel
theorem dX11_init_165 : decode cX11_init 165 = .ok (.putfield 86, 3) := by decide +kernel
theorem dX11_init_168 : decode cX11_init 168 = .ok (.aload_n 0, 1) := by decide +kernel
theorem dX11_init_169 : decode cX11_init 169 = .ok (.bipush (-2), 2) := by decide +kernel
theorem dX11_init_171 : decode cX11_init 171 = .ok (.putfield 89, 3) := by decide +kernel
theorem dX11_init_174 : decode cX11_init 174 = .ok (.return_, 1) := by decide +kernel
def EX2_initW : List (Nat × Nat) := []
def EX11_init : List (Nat × Nat) := [(8, 3), (101, 0), (102, 0), (132, 0), (133, 0)]
set_option maxHeartbeats 4000000 in
set_option maxRecDepth 20000 in
theorem uX2_initW (l : Launch) (dC : Nat → ClassId) (dI : Nat → Nat → Nat) (ca : Nat → ClassId) (base : Nat) (B : jF) (hB : jBok B) (hAp : jAp (dC, dI)) (hB4 : ∀ n G a H, B 4 n G a H ↔ jOb (dC, dI) 4 12 (F4 n G) a H) (hB100 : ∀ n G a H, B 100 n G a H ↔ jAr (dC, dI) (ca 0) (fun j z => True) n a H) (G0 : jT) (H0 : Heap) (r0 : Nat) (LC LS : Nat) : Met l yX2_init (jw yX2_init cX2_init 1 none) ({ frames := 1, cells := LC - H0.size, slots := LS - jTot H0, locals := 31 }) (va_Pc [.ref r0] (fun U => U.heap = H0 ∧ jX B base G0 [] H0 ∧ jG dC dI ca base U ∧ va_at (dC, dI) vwCl (r0, .inr (4, [.null, .int 0, .int 0, .int 0, .int 0, .int 0, .int 0, .int 0, .int 0, .int 0, .int 0, .int 0])) H0 ∧ (∀ t, G0 r0 ≠ some t) ∧ base ≤ r0 ∧ jP (dC, dI) G0 H0 [] ∧ H0.size + 1 ≤ LC ∧ jTot H0 + 3000 ≤ LS ∧ True)) (va_Qv (S := Int32 × Int32 × Int32 × Int32 × Int32 × Int32 × Int32 × Int32 × jT) (fun u => u.1.toInt = 0 ∧ u.2.2.1.toInt = 0 ∧ u.2.2.2.1.toInt = 0 ∧ u.2.2.2.2.1.toInt = 0 ∧ u.2.2.2.2.2.1.toInt = 0 ∧ u.2.2.2.2.2.2.1.toInt = 0 ∧ u.2.2.2.2.2.2.2.1.toInt = -1) (fun u t => jRa (dC, dI) B base G0 u.2.2.2.2.2.2.2.2 EX2_initW H0 (1) (3000) [(r0, 4, 9, .int u.1), (r0, 4, 8, .int u.2.1), (r0, 4, 11, .int u.2.2.1), (r0, 4, 4, .int u.2.2.2.1), (r0, 4, 7, .int u.2.2.2.2.1), (r0, 4, 2, .int u.2.2.2.2.2.1), (r0, 4, 5, .int u.2.2.2.2.2.2.1), (r0, 4, 6, .int u.2.2.2.2.2.2.2.1)] t.heap ∧ (jNk [0, 1, 2, 3, 5, 6, 7, 8, 9, 10, 11, 12, 13, 14, 15, 16]) G0 u.2.2.2.2.2.2.2.2 ∧ u.2.2.2.2.2.2.2.2 r0 = some (4, 0) ∧ jKx r0 G0 u.2.2.2.2.2.2.2.2 H0 t.heap) (jA base)) (LC - H0.size) (LS - jTot H0) (jA base) := by
  refine Met.ofW (cc := cX2_init) (maxL := 1) (ret := none) (by decide) rfl ?_
  intro p e s m args below meth c s₁ Bd hml hv
  obtain ⟨rfl, hH0, hX, hG, hraw0, hnr0, hbr0, hP0, hLC0, hLS0, hp0⟩ := hv
  have hK := hG.1
  have hx := Bd.exec
  have hb := Bd.bytes
  have hr := Bd.returns
  have hts := atoms_spec (ws := (jw yX2_init cX2_init 1 none)) Bd.pre
  have htw : ∀ w ∈ jWl, w.before _ s = true := fun w h => hts w (List.mem_cons_of_mem _ h)
  have hown : s.vm.findClass RX2 = some m.cls := findClass_of_methodNamed Bd.named
  have hlocks := Bd.notSynchronized
  obtain ⟨Q, hQ⟩ : ∃ Q, Q = MQ below (va_Qv (S := Int32 × Int32 × Int32 × Int32 × Int32 × Int32 × Int32 × Int32 × jT) (fun u => u.1.toInt = 0 ∧ u.2.2.1.toInt = 0 ∧ u.2.2.2.1.toInt = 0 ∧ u.2.2.2.2.1.toInt = 0 ∧ u.2.2.2.2.2.1.toInt = 0 ∧ u.2.2.2.2.2.2.1.toInt = 0 ∧ u.2.2.2.2.2.2.2.1.toInt = -1) (fun u t => jRa (dC, dI) B base G0 u.2.2.2.2.2.2.2.2 EX2_initW H0 (1) (3000) [(r0, 4, 9, .int u.1), (r0, 4, 8, .int u.2.1), (r0, 4, 11, .int u.2.2.1), (r0, 4, 4, .int u.2.2.2.1), (r0, 4, 7, .int u.2.2.2.2.1), (r0, 4, 2, .int u.2.2.2.2.2.1), (r0, 4, 5, .int u.2.2.2.2.2.2.1), (r0, 4, 6, .int u.2.2.2.2.2.2.2.1)] t.heap ∧ (jNk [0, 1, 2, 3, 5, 6, 7, 8, 9, 10, 11, 12, 13, 14, 15, 16]) G0 u.2.2.2.2.2.2.2.2 ∧ u.2.2.2.2.2.2.2.2 r0 = some (4, 0) ∧ jKx r0 G0 u.2.2.2.2.2.2.2.2 H0 t.heap) (jA base)) ([.ref r0] : List Value).toArray s (LC - H0.size) (LS - jTot H0) (jA base) := ⟨_, rfl⟩
  rw [← hQ]
  have hl := lv_entry ([.ref r0]) (n := 1) (Nat.le_of_ble_eq_true rfl)
  rw [lg_entry_eq]
  generalize (lg_sl ([.ref r0]) ++ List.replicate (1 - (lg_sl ([.ref r0])).length) Slot.unset).toArray = ls at hl ⊢
  have hl : lv_has ls 1 [(0, .ref r0)] := hl
  generalize hR : (headSpec (jw yX2_init cX2_init 1 none) ({ frames := 1, cells := LC - H0.size, slots := LS - jTot H0, locals := 31 })).room = R
  subst hH0
  have hh : jSt (dC, dI) B base G0 G0 EX2_initW s.heap 0 0 [] [] [] s.heap [] := jSt.start hX hP0 jMc.nil jIs.nil
  clear hX hP0
  have hkm1 : ((-1) : Int32).toInt = (-1) := by decide
  have hk0 : (0 : Int32).toInt = 0 := by decide
  have hk1 : (1 : Int32).toInt = 1 := by decide
  have hk3000 : (3000 : Int32).toInt = 3000 := by decide
  have hly_4_0 := htw (u_lay RX2 TX2 0) (jWc_wsX20 _ (u_in_lay (by decide)))
  have hly_4_5 := htw (u_lay RX2 TX2 5) (jWc_wsX20 _ (u_in_lay (by decide)))
  have hly_4_6 := htw (u_lay RX2 TX2 6) (jWc_wsX20 _ (u_in_lay (by decide)))
  have hlk_9 := (htw (.fieldLink RX2 9 "ProofServer$Frames" "body" "[B") (jWr_3 _ (List.mem_of_getElem? (i := 14) rfl)))
  have hlk_15 := (htw (.fieldLink RX2 15 "ProofServer$Frames" "place" "I") (jWr_3 _ (List.mem_of_getElem? (i := 15) rfl)))
  have hlk_19 := (htw (.fieldLink RX2 19 "ProofServer$Frames" "told" "I") (jWr_3 _ (List.mem_of_getElem? (i := 16) rfl)))
  have hbs : base ≤ s.heap.size := Nat.le_of_lt (Nat.lt_of_le_of_lt hbr0 hraw0.lt)
  have hRc : R.cells = LC - s.heap.size := by rw [← hR]; rfl
  have hRs : R.slots = LS - jTot s.heap := by rw [← hR]; rfl
  have hin2 : meth.name = "<init>" := (name_of_methodNamed Bd.named Bd.method).1
  have hkp : jKx r0 G0 G0 s.heap s.heap := jKx.rf
  refine lv_aload_n hx hb dX2_init_0 rfl (lv_at hl 0 rfl) ?_
  refine W.objInit hx hb hown (htw (.methodLink RX2 3 objectInit) (jWr_3 _ (List.mem_of_getElem? (i := 13) rfl))) (htw (.instanceMethod objectInit) (jWr_1 _ (List.mem_of_getElem? (i := 10) rfl))) (htw (.code objectInit ⟨#[0xb1]⟩ 1 none) (jWr_1 _ (List.mem_of_getElem? (i := 11) rfl))) rfl (by rw [hml]; exact hl.1) rfl dX2_init_1 (by rw [← hR]; exact Nat.le_of_ble_eq_true rfl) (by rw [← hR]; exact Nat.le_of_ble_eq_true rfl) ?_
  refine W.eq (g2 := F0 m 4 ls []) rfl ?_
  refine lv_aload_n hx hb dX2_init_4 rfl (lv_at hl 0 rfl) ?_
  refine lv_sipush (v := 3000) hx hb dX2_init_5 (by decide) ?_
  have hsz_1 := hh.2.2.2.2.2.1
  have htt_1 := hh.2.2.2.2.2.2.1
  refine j7_newiK hx hb hK hh hB (atype := .byte) (ty := .byte) (htw (.arrayClass .byte) (jWr_3 _ (List.mem_of_getElem? (i := 9) rfl))) rfl rfl (fun _ h => h) hB100 0 rfl (by decide) (by decide) hbs (x := 3000) (by decide) (by omega) (fun j => by first | trivial | decide | rfl | exact Or.inl rfl | exact Or.inr (Or.inl (by decide)) | (refine ⟨?_, ?_⟩ <;> decide)) (by rw [hRc]; omega) (by rw [hRs]; omega) dX2_init_8 (fun H_1 hfr_1 hh_1 => ?_)
  have hh_1 : jSt (dC, dI) B base G0 (va_up G0 s.heap.size (some (100, 3000))) EX2_initW s.heap (0 + 1) (0 + 3000) [] [] [] H_1 [] := hh_1
  have hN_1 : (jNk [0, 1, 2, 3, 5, 6, 7, 8, 9, 10, 11, 12, 13, 14, 15, 16]) G0 (va_up G0 s.heap.size (some (100, 3000))) := jNk.new (by decide)
  have hgn_1 : (va_up G0 s.heap.size (some (100, 3000))) s.heap.size = some (100, 3000) := jUp_self
  have hle_1 : jLe G0 (va_up G0 s.heap.size (some (100, 3000))) := jLe.new hh.2.1.fresh
  have hke_1 : jKe G0 (va_up G0 s.heap.size (some (100, 3000))) s.heap H_1 := jKe.new hfr_1
  have hsy_1 : s.heap.size ≤ s.heap.size := hh.1.1
  generalize (va_up G0 s.heap.size (some (100, 3000))) = G_1 at hN_1 hgn_1 hle_1 hke_1 hh_1
  clear hh
  have hNn_1 : (jNk [0, 1, 2, 3, 5, 6, 7, 8, 9, 10, 11, 12, 13, 14, 15, 16]) G0 G_1 := (jNk.rf).tr hN_1
  have hkp_2 := hkp.tr hke_1
  have hraw_3n := hke_1.nr hraw0.lt hnr0
  have hraw_3 := hraw0.kept (hke_1.1 _ hraw0.lt)
  refine j7_putRF hx hb hown hK hh_1 hB hAp hraw_3 hraw_3n hbr0 (C := RX2) (T := TX2) (N := 12) rfl (i := 0) (by decide) (Nat.le_of_ble_eq_true rfl) hly_4_0 rfl hin2 rfl hlk_9 (ty := (.array .byte)) (v := .ref s.heap.size) (by decide +kernel) rfl rfl dX2_init_10 (fun H_4 locs_4 hraw_4 hr_4 hh_4 => ?_)
  have hraw_4 : va_at (dC, dI) vwCl (r0, .inr (4, [.ref s.heap.size, .int 0, .int 0, .int 0, .int 0, .int 0, .int 0, .int 0, .int 0, .int 0, .int 0, .int 0])) H_4 := hraw_4
  have hkp_5 := hkp_2.put hr_4
  clear hh_1
  refine lv_aload_n hx hb dX2_init_13 rfl (lv_at hl 0 rfl) ?_
  refine lv_iconst (v := 0) hx hb dX2_init_14 (by decide) ?_
  refine j7_putR hx hb hown hK hh_4 hB hAp hraw_4 hraw_3n hbr0 (C := RX2) (T := TX2) (N := 12) rfl (i := 5) (by decide) (Nat.le_of_ble_eq_true rfl) hly_4_5 rfl hlk_15 (ty := .int) (v := .int 0) (by decide +kernel) rfl rfl dX2_init_15 (fun H_6 locs_6 hraw_6 hr_6 hh_6 => ?_)
  have hraw_6 : va_at (dC, dI) vwCl (r0, .inr (4, [.ref s.heap.size, .int 0, .int 0, .int 0, .int 0, .int 0, .int 0, .int 0, .int 0, .int 0, .int 0, .int 0])) H_6 := hraw_6
  have hkp_7 := hkp_5.put hr_6
  clear hh_4
  refine lv_aload_n hx hb dX2_init_18 rfl (lv_at hl 0 rfl) ?_
  refine lv_iconst (v := (-1)) hx hb dX2_init_19 (by decide) ?_
  refine j7_putR hx hb hown hK hh_6 hB hAp hraw_6 hraw_3n hbr0 (C := RX2) (T := TX2) (N := 12) rfl (i := 6) (by decide) (Nat.le_of_ble_eq_true rfl) hly_4_6 rfl hlk_19 (ty := .int) (v := .int (-1)) (by decide +kernel) rfl rfl dX2_init_20 (fun H_8 locs_8 hraw_8 hr_8 hh_8 => ?_)
  have hraw_8 : va_at (dC, dI) vwCl (r0, .inr (4, [.ref s.heap.size, .int 0, .int 0, .int 0, .int 0, .int 0, .int (-1), .int 0, .int 0, .int 0, .int 0, .int 0])) H_8 := hraw_8
  have hkp_9 := hkp_7.put hr_8
  clear hh_6
  have hsz_10 := hh_8.2.2.2.2.2.1
  have htt_10 := hh_8.2.2.2.2.2.2.1
  refine W.room (fun hrc_10 hrs_10 => ?_)
  refine W.widen (k := LC - s.heap.size) (n := LS - jTot s.heap) (by omega) (by omega) ?_
  rw [hQ]
  have hle_11 : jLe G_1 (va_up G_1 r0 (some (4, 0))) := jLe.typ hraw_3n
  have hg_12 := (jLe.rf).tr hle_11 _ _ hgn_1
  have hfa_11 : jRf (va_up G_1 r0 (some (4, 0))) 100 3000 (.ref s.heap.size) ∧ jI (-1) 3000 (.int 0) ∧ jIa (.int 0) ∧ jIa (.int 0) ∧ jZb (.int 0) ∧ jIa (.int 0) ∧ jI (-1) 3000 (.int (-1)) ∧ jI 0 3001 (.int 0) ∧ jIa (.int 0) ∧ jZb (.int 0) ∧ jIa (.int 0) ∧ jI 0 40000 (.int 0) ∧ True := ⟨⟨_, rfl, hg_12⟩, ⟨_, rfl, by omega, by omega⟩, ⟨_, rfl⟩, ⟨_, rfl⟩, ⟨_, rfl, Or.inl rfl⟩, ⟨_, rfl⟩, ⟨_, rfl, by omega, by omega⟩, ⟨_, rfl, by omega, by omega⟩, ⟨_, rfl⟩, ⟨_, rfl, Or.inl rfl⟩, ⟨_, rfl⟩, ⟨_, rfl, by omega, by omega⟩, trivial⟩
  have hh_11 := hh_8.typ (k := 4) (n := 0) hB hraw_3n hbr0 hraw_8.lt (jOb.of (C := RX2) (T := TX2) (N := 12) (F := F4) hB4 rfl hraw_8 (show jFx (F4 0 (va_up G_1 r0 (some (4, 0)))) [.ref s.heap.size, .int 0, .int 0, .int 0, .int 0, .int 0, .int (-1), .int 0, .int 0, .int 0, .int 0, .int 0] from hfa_11))
  have hgn_11 : (va_up G_1 r0 (some (4, 0))) r0 = some (4, 0) := jUp_self
  have hN_11 : (jNk [0, 1, 2, 3, 5, 6, 7, 8, 9, 10, 11, 12, 13, 14, 15, 16]) G_1 (va_up G_1 r0 (some (4, 0))) := jNk.new (by decide)
  have hNn_11 : (jNk [0, 1, 2, 3, 5, 6, 7, 8, 9, 10, 11, 12, 13, 14, 15, 16]) G0 (va_up G_1 r0 (some (4, 0))) := (hNn_1).tr hN_11
  have hkp_13 := hkp_9.typ (t := some (4, 0))
  have hh_14 := hh_11.more (P1 := [(r0, 4, 9, .int 0), (r0, 4, 8, .int 0), (r0, 4, 11, .int 0), (r0, 4, 4, .int 0), (r0, 4, 7, .int 0), (r0, 4, 2, .int 0), (r0, 4, 5, .int 0), (r0, 4, 6, .int (-1))]) (jP.cons hgn_11 (jf.raw (C := RX2) (T := TX2) (N := 12) rfl hraw_8 (i := 9) (by decide)) (jP.cons hgn_11 (jf.raw (C := RX2) (T := TX2) (N := 12) rfl hraw_8 (i := 8) (by decide)) (jP.cons hgn_11 (jf.raw (C := RX2) (T := TX2) (N := 12) rfl hraw_8 (i := 11) (by decide)) (jP.cons hgn_11 (jf.raw (C := RX2) (T := TX2) (N := 12) rfl hraw_8 (i := 4) (by decide)) (jP.cons hgn_11 (jf.raw (C := RX2) (T := TX2) (N := 12) rfl hraw_8 (i := 7) (by decide)) (jP.cons hgn_11 (jf.raw (C := RX2) (T := TX2) (N := 12) rfl hraw_8 (i := 2) (by decide)) (jP.cons hgn_11 (jf.raw (C := RX2) (T := TX2) (N := 12) rfl hraw_8 (i := 5) (by decide)) (jP.cons hgn_11 (jf.raw (C := RX2) (T := TX2) (N := 12) rfl hraw_8 (i := 6) (by decide)) jP.nil))))))))
  exact W.vret hx hb hr (fun t ht hW => ⟨⟨(0, 0, 0, 0, 0, 0, 0, (-1), (va_up G_1 r0 (some (4, 0)))), rfl, by (try dsimp only); exact ⟨(by first | omega | rfl | assumption | fail), (by first | omega | rfl | assumption | fail), (by first | omega | rfl | assumption | fail), (by first | omega | rfl | assumption | fail), (by first | omega | rfl | assumption | fail), (by first | omega | rfl | assumption | fail), (by first | omega | rfl | assumption | fail)⟩, ⟨hh_14.ra (by first | (simp only; omega) | omega) (by first | (simp only; omega) | omega) (M1 := [(r0, 4, 9, .int 0), (r0, 4, 8, .int 0), (r0, 4, 11, .int 0), (r0, 4, 4, .int 0), (r0, 4, 7, .int 0), (r0, 4, 2, .int 0), (r0, 4, 5, .int 0), (r0, 4, 6, .int (-1))]) [0, 1, 2, 3, 4, 5, 6, 7] rfl ht, hNn_11, hgn_11, by rw [ht]; exact hkp_13⟩⟩, by rw [ht]; try exact hh_14.1.1, fun q h9 hq => by rw [ht]; try exact hh_14.1.2.1 q h9 hq⟩) hh_14.1.2.2 dX2_init_23
set_option maxHeartbeats 40000000 in
set_option maxRecDepth 20000 in
theorem uX11_init (l : Launch) (dC : Nat → ClassId) (dI : Nat → Nat → Nat) (ca : Nat → ClassId) (base : Nat) (B : jF) (hB : jBok B) (hAp : jAp (dC, dI)) (hB1 : ∀ n G a H, B 1 n G a H ↔ jOb (dC, dI) 1 3 (F1 n G) a H) (hB2 : ∀ n G a H, B 2 n G a H ↔ jOb (dC, dI) 2 2 (F2 n G) a H) (hB3 : ∀ n G a H, B 3 n G a H ↔ jOb (dC, dI) 3 17 (F3 n G) a H) (hB4 : ∀ n G a H, B 4 n G a H ↔ jOb (dC, dI) 4 12 (F4 n G) a H) (hB5 : ∀ n G a H, B 5 n G a H ↔ jOb (dC, dI) 5 4 (F5 n G) a H) (hB6 : ∀ n G a H, B 6 n G a H ↔ jOb (dC, dI) 6 12 (F6 n G) a H) (hB7 : ∀ n G a H, B 7 n G a H ↔ jOb (dC, dI) 7 11 (F7 n G) a H) (hB8 : ∀ n G a H, B 8 n G a H ↔ jOb (dC, dI) 8 4 (F8 n G) a H) (hB9 : ∀ n G a H, B 9 n G a H ↔ jOb (dC, dI) 9 5 (F9b n G) a H) (hB11 : ∀ n G a H, B 11 n G a H ↔ jOb (dC, dI) 11 9 (F11 n G) a H) (hB12 : ∀ n G a H, B 12 n G a H ↔ jOb (dC, dI) 12 11 (F12b n G) a H) (hB13 : ∀ n G a H, B 13 n G a H ↔ jOb (dC, dI) 13 19 (F13 n G) a H) (hB100 : ∀ n G a H, B 100 n G a H ↔ jAr (dC, dI) (ca 0) (fun j z => True) n a H) (hB101 : ∀ n G a H, B 101 n G a H ↔ jAr (dC, dI) (ca 1) (fun j z => True) n a H) (hB102 : ∀ n G a H, B 102 n G a H ↔ jAl (dC, dI) (ca 2) n a H) (hB132 : ∀ n G a H, B 132 n G a H ↔ jAr (dC, dI) (ca 1) (fun j z => 0 ≤ z.toInt ∧ z.toInt ≤ 10) n a H) (hB133 : ∀ n G a H, B 133 n G a H ↔ jAr (dC, dI) (ca 1) (fun j z => 0 ≤ z.toInt ∧ z.toInt ≤ 8192) n a H) (hB140 : ∀ n G a H, B 140 n G a H ↔ jAr (dC, dI) (ca 1) (fun j z => True) n a H) (hB141 : ∀ n G a H, B 141 n G a H ↔ jAr (dC, dI) (ca 1) (fun j z => True) n a H) (hB142 : ∀ n G a H, B 142 n G a H ↔ jAr (dC, dI) (ca 1) (fun j z => True) n a H) (hB143 : ∀ n G a H, B 143 n G a H ↔ jAr (dC, dI) (ca 1) (fun j z => True) n a H) (hB144 : ∀ n G a H, B 144 n G a H ↔ jAr (dC, dI) (ca 1) (fun j z => 0 ≤ z.toInt ∧ z.toInt ≤ 3000) n a H) (hB145 : ∀ n G a H, B 145 n G a H ↔ jAr (dC, dI) (ca 1) (fun j z => True) n a H) (hB146 : ∀ n G a H, B 146 n G a H ↔ jAr (dC, dI) (ca 1) (fun j z => True) n a H) (hB171 : ∀ n G a H, B 171 n G a H ↔ jAr (dC, dI) (ca 1) (fun j z => 0 ≤ z.toInt ∧ z.toInt ≤ 1500) n a H) (hB172 : ∀ n G a H, B 172 n G a H ↔ jAr (dC, dI) (ca 1) (fun j z => 0 ≤ z.toInt ∧ z.toInt ≤ 1500) n a H) (hB196 : ∀ n G a H, B 196 n G a H ↔ jAr (dC, dI) (ca 0) (fun j z => jBf j z) n a H) (hB197 : ∀ n G a H, B 197 n G a H ↔ jAr (dC, dI) (ca 0) (fun j z => jBf j z) n a H) (hB210 : ∀ n G a H, B 210 n G a H ↔ jAq (dC, dI) (ca 6) (jQn 11 0) n G a H) (hB211 : ∀ n G a H, B 211 n G a H ↔ jAq (dC, dI) (ca 7) (jQh) n G a H) (hB212 : ∀ n G a H, B 212 n G a H ↔ jAq (dC, dI) (ca 5) (jQn 3 0) n G a H) (hB214 : ∀ n G a H, B 214 n G a H ↔ jAq (dC, dI) (ca 7) (jQg) n G a H) (hB280 : ∀ n G a H, B 280 n G a H ↔ jAr (dC, dI) (ca 1) (fun j z => -1 ≤ z.toInt) n a H) (hB286 : ∀ n G a H, B 286 n G a H ↔ jAr (dC, dI) (ca 1) (fun j z => (0 ≤ z.toInt ∨ z.toInt = -3)) n a H) (hB287 : ∀ n G a H, B 287 n G a H ↔ jAr (dC, dI) (ca 1) (fun j z => 0 ≤ z.toInt ∧ z.toInt ≤ 65535) n a H) (hB288 : ∀ n G a H, B 288 n G a H ↔ jAr (dC, dI) (ca 1) (fun j z => 0 ≤ z.toInt ∧ z.toInt ≤ 160) n a H) (hB290 : ∀ n G a H, B 290 n G a H ↔ jAr (dC, dI) (ca 1) (fun j z => 0 ≤ z.toInt ∧ z.toInt ≤ 3000) n a H) (hB291 : ∀ n G a H, B 291 n G a H ↔ jAr (dC, dI) (ca 1) (fun j z => 0 ≤ z.toInt ∧ z.toInt ≤ 3000) n a H) (hB292 : ∀ n G a H, B 292 n G a H ↔ jAr (dC, dI) (ca 1) (fun j z => 0 ≤ z.toInt ∧ z.toInt ≤ 8191) n a H) (hB293 : ∀ n G a H, B 293 n G a H ↔ jAr (dC, dI) (ca 1) (fun j z => -1 ≤ z.toInt ∧ z.toInt ≤ 8191) n a H) (hB313 : ∀ n G a H, B 313 n G a H ↔ jAq (dC, dI) (ca 8) (jQk 280 80) n G a H) (G0 : jT) (H0 : Heap) (r0 : Nat) (ph : Nat) (LC LS : Nat) : Met l yX11_init (jw yX11_init cX11_init 1 none) ({ frames := 6, cells := LC - H0.size, slots := LS - jTot H0, locals := 184 }) (va_Pc [.ref r0] (fun U => U.heap = H0 ∧ jX B base G0 [] H0 ∧ jG dC dI ca base U ∧ jK2 dC dI ca U ∧ jK5 dC dI ca U ∧ jK6 U ∧ jK7 dC dI ca base U ∧ va_at (dC, dI) vwCl (r0, .inr (13, [.null, .null, .null, .null, .null, .null, .null, .null, .null, .null, .null, .int 0, .int 0, .int 0, .int 0, .null, .null, .null, .int 0])) H0 ∧ (∀ t, G0 r0 ≠ some t) ∧ base ≤ r0 ∧ jP (dC, dI) G0 H0 [] ∧ jIs (dC, dI) G0 H0 [(jFy, jYb dC dI G0), (jFs11, jSef dC dI G0), (jFl, jLs dC dI ca G0 0 none), (jFdo, jDcc dC dI ca G0 none ph)] ∧ H0.size + 60 ≤ LC ∧ jTot H0 + 81884 ≤ LS ∧ True)) (va_Qv (S := Int32 × Int32 × Int32 × Int32 × Int32 × Int32 × Int32 × Int32 × Int32 × Nat × Nat × Nat × Nat × Nat × Nat × Nat × Nat × jT) (fun u => u.2.2.2.2.2.2.2.2.2.2.2.2.2.1 ≠ u.2.2.2.2.2.2.2.2.2.2.2.2.2.2.2.1 ∧ u.2.2.2.2.2.2.2.2.2.2.2.2.2.2.1 = 0 ∧ u.2.2.2.2.2.2.2.2.2.2.2.2.2.2.2.2.1 = 0 ∧ u.2.2.2.2.2.2.2.2.2.2.1 = 4000 ∧ u.2.2.2.2.2.2.2.2.2.2.2.2.1 = 0 ∧ u.1.toInt = 0 ∧ u.2.1.toInt = 0 ∧ u.2.2.2.1.toInt = 0 ∧ u.2.2.2.2.1.toInt = 0 ∧ u.2.2.2.2.2.1.toInt = 0 ∧ u.2.2.2.2.2.2.1.toInt = 0 ∧ u.2.2.2.2.2.2.2.1.toInt = 0 ∧ u.2.2.2.2.2.2.2.2.1.toInt = -1) (fun u t => jRa (dC, dI) B base G0 u.2.2.2.2.2.2.2.2.2.2.2.2.2.2.2.2.2 EX11_init H0 (60) (81884) [(u.2.2.2.2.2.2.2.2.2.1, 2, 1, .int u.1), (u.2.2.2.2.2.2.2.2.2.2.2.1, 4, 9, .int u.2.1), (u.2.2.2.2.2.2.2.2.2.2.2.1, 4, 8, .int u.2.2.1), (u.2.2.2.2.2.2.2.2.2.2.2.1, 4, 11, .int u.2.2.2.1), (u.2.2.2.2.2.2.2.2.2.2.2.1, 4, 4, .int u.2.2.2.2.1), (u.2.2.2.2.2.2.2.2.2.2.2.1, 4, 7, .int u.2.2.2.2.2.1), (u.2.2.2.2.2.2.2.2.2.2.2.1, 4, 2, .int u.2.2.2.2.2.2.1), (u.2.2.2.2.2.2.2.2.2.2.2.1, 4, 5, .int u.2.2.2.2.2.2.2.1), (u.2.2.2.2.2.2.2.2.2.2.2.1, 4, 6, .int u.2.2.2.2.2.2.2.2.1), (r0, 13, 0, .ref u.2.2.2.2.2.2.2.2.2.1), (r0, 13, 1, .ref u.2.2.2.2.2.2.2.2.2.2.2.1), (r0, 13, 4, .ref u.2.2.2.2.2.2.2.2.2.2.2.2.2.1), (r0, 13, 17, .ref u.2.2.2.2.2.2.2.2.2.2.2.2.2.2.2.1)] t.heap ∧ u.2.2.2.2.2.2.2.2.2.2.2.2.2.2.2.2.2 u.2.2.2.2.2.2.2.2.2.1 = some (2, u.2.2.2.2.2.2.2.2.2.2.1) ∧ u.2.2.2.2.2.2.2.2.2.2.2.2.2.2.2.2.2 u.2.2.2.2.2.2.2.2.2.2.2.1 = some (4, u.2.2.2.2.2.2.2.2.2.2.2.2.1) ∧ u.2.2.2.2.2.2.2.2.2.2.2.2.2.2.2.2.2 u.2.2.2.2.2.2.2.2.2.2.2.2.2.1 = some (2, u.2.2.2.2.2.2.2.2.2.2.2.2.2.2.1) ∧ u.2.2.2.2.2.2.2.2.2.2.2.2.2.2.2.2.2 u.2.2.2.2.2.2.2.2.2.2.2.2.2.2.2.1 = some (2, u.2.2.2.2.2.2.2.2.2.2.2.2.2.2.2.2.1) ∧ (jNk [0, 5, 10, 14, 15, 16]) G0 u.2.2.2.2.2.2.2.2.2.2.2.2.2.2.2.2.2 ∧ u.2.2.2.2.2.2.2.2.2.2.2.2.2.2.2.2.2 r0 = some (13, 0) ∧ jKx r0 G0 u.2.2.2.2.2.2.2.2.2.2.2.2.2.2.2.2.2 H0 t.heap ∧ jIs (dC, dI) u.2.2.2.2.2.2.2.2.2.2.2.2.2.2.2.2.2 t.heap [(jFy, jYb dC dI u.2.2.2.2.2.2.2.2.2.2.2.2.2.2.2.2.2), (jFs11, jSef dC dI u.2.2.2.2.2.2.2.2.2.2.2.2.2.2.2.2.2), (jFl, jLs dC dI ca u.2.2.2.2.2.2.2.2.2.2.2.2.2.2.2.2.2 3 none), (jFdo, jDcc dC dI ca u.2.2.2.2.2.2.2.2.2.2.2.2.2.2.2.2.2 none (ph + 1500))]) (jA base)) (LC - H0.size) (LS - jTot H0) (jA base) := by
  refine Met.ofW (cc := cX11_init) (maxL := 1) (ret := none) (by decide) rfl ?_
  intro p e s m args below meth c s₁ Bd hml hv
  obtain ⟨rfl, hH0, hX, hG, hK2, hK5, hK6, hK7, hraw0, hnr0, hbr0, hP0, hI0, hLC0, hLS0, hp0⟩ := hv
  have hK := hG.1
  have hx := Bd.exec
  have hb := Bd.bytes
  have hr := Bd.returns
  have hts := atoms_spec (ws := (jw yX11_init cX11_init 1 none)) Bd.pre
  have htw : ∀ w ∈ jWl, w.before _ s = true := fun w h => hts w (List.mem_cons_of_mem _ h)
  have hown : s.vm.findClass RX11 = some m.cls := findClass_of_methodNamed Bd.named
  have hlocks := Bd.notSynchronized
  obtain ⟨Q, hQ⟩ : ∃ Q, Q = MQ below (va_Qv (S := Int32 × Int32 × Int32 × Int32 × Int32 × Int32 × Int32 × Int32 × Int32 × Nat × Nat × Nat × Nat × Nat × Nat × Nat × Nat × jT) (fun u => u.2.2.2.2.2.2.2.2.2.2.2.2.2.1 ≠ u.2.2.2.2.2.2.2.2.2.2.2.2.2.2.2.1 ∧ u.2.2.2.2.2.2.2.2.2.2.2.2.2.2.1 = 0 ∧ u.2.2.2.2.2.2.2.2.2.2.2.2.2.2.2.2.1 = 0 ∧ u.2.2.2.2.2.2.2.2.2.2.1 = 4000 ∧ u.2.2.2.2.2.2.2.2.2.2.2.2.1 = 0 ∧ u.1.toInt = 0 ∧ u.2.1.toInt = 0 ∧ u.2.2.2.1.toInt = 0 ∧ u.2.2.2.2.1.toInt = 0 ∧ u.2.2.2.2.2.1.toInt = 0 ∧ u.2.2.2.2.2.2.1.toInt = 0 ∧ u.2.2.2.2.2.2.2.1.toInt = 0 ∧ u.2.2.2.2.2.2.2.2.1.toInt = -1) (fun u t => jRa (dC, dI) B base G0 u.2.2.2.2.2.2.2.2.2.2.2.2.2.2.2.2.2 EX11_init H0 (60) (81884) [(u.2.2.2.2.2.2.2.2.2.1, 2, 1, .int u.1), (u.2.2.2.2.2.2.2.2.2.2.2.1, 4, 9, .int u.2.1), (u.2.2.2.2.2.2.2.2.2.2.2.1, 4, 8, .int u.2.2.1), (u.2.2.2.2.2.2.2.2.2.2.2.1, 4, 11, .int u.2.2.2.1), (u.2.2.2.2.2.2.2.2.2.2.2.1, 4, 4, .int u.2.2.2.2.1), (u.2.2.2.2.2.2.2.2.2.2.2.1, 4, 7, .int u.2.2.2.2.2.1), (u.2.2.2.2.2.2.2.2.2.2.2.1, 4, 2, .int u.2.2.2.2.2.2.1), (u.2.2.2.2.2.2.2.2.2.2.2.1, 4, 5, .int u.2.2.2.2.2.2.2.1), (u.2.2.2.2.2.2.2.2.2.2.2.1, 4, 6, .int u.2.2.2.2.2.2.2.2.1), (r0, 13, 0, .ref u.2.2.2.2.2.2.2.2.2.1), (r0, 13, 1, .ref u.2.2.2.2.2.2.2.2.2.2.2.1), (r0, 13, 4, .ref u.2.2.2.2.2.2.2.2.2.2.2.2.2.1), (r0, 13, 17, .ref u.2.2.2.2.2.2.2.2.2.2.2.2.2.2.2.1)] t.heap ∧ u.2.2.2.2.2.2.2.2.2.2.2.2.2.2.2.2.2 u.2.2.2.2.2.2.2.2.2.1 = some (2, u.2.2.2.2.2.2.2.2.2.2.1) ∧ u.2.2.2.2.2.2.2.2.2.2.2.2.2.2.2.2.2 u.2.2.2.2.2.2.2.2.2.2.2.1 = some (4, u.2.2.2.2.2.2.2.2.2.2.2.2.1) ∧ u.2.2.2.2.2.2.2.2.2.2.2.2.2.2.2.2.2 u.2.2.2.2.2.2.2.2.2.2.2.2.2.1 = some (2, u.2.2.2.2.2.2.2.2.2.2.2.2.2.2.1) ∧ u.2.2.2.2.2.2.2.2.2.2.2.2.2.2.2.2.2 u.2.2.2.2.2.2.2.2.2.2.2.2.2.2.2.1 = some (2, u.2.2.2.2.2.2.2.2.2.2.2.2.2.2.2.2.1) ∧ (jNk [0, 5, 10, 14, 15, 16]) G0 u.2.2.2.2.2.2.2.2.2.2.2.2.2.2.2.2.2 ∧ u.2.2.2.2.2.2.2.2.2.2.2.2.2.2.2.2.2 r0 = some (13, 0) ∧ jKx r0 G0 u.2.2.2.2.2.2.2.2.2.2.2.2.2.2.2.2.2 H0 t.heap ∧ jIs (dC, dI) u.2.2.2.2.2.2.2.2.2.2.2.2.2.2.2.2.2 t.heap [(jFy, jYb dC dI u.2.2.2.2.2.2.2.2.2.2.2.2.2.2.2.2.2), (jFs11, jSef dC dI u.2.2.2.2.2.2.2.2.2.2.2.2.2.2.2.2.2), (jFl, jLs dC dI ca u.2.2.2.2.2.2.2.2.2.2.2.2.2.2.2.2.2 3 none), (jFdo, jDcc dC dI ca u.2.2.2.2.2.2.2.2.2.2.2.2.2.2.2.2.2 none (ph + 1500))]) (jA base)) ([.ref r0] : List Value).toArray s (LC - H0.size) (LS - jTot H0) (jA base) := ⟨_, rfl⟩
  rw [← hQ]
  have hl := lv_entry ([.ref r0]) (n := 1) (Nat.le_of_ble_eq_true rfl)
  rw [lg_entry_eq]
  generalize (lg_sl ([.ref r0]) ++ List.replicate (1 - (lg_sl ([.ref r0])).length) Slot.unset).toArray = ls at hl ⊢
  have hl : lv_has ls 1 [(0, .ref r0)] := hl
  generalize hR : (headSpec (jw yX11_init cX11_init 1 none) ({ frames := 6, cells := LC - H0.size, slots := LS - jTot H0, locals := 184 })).room = R
  subst hH0
  have hh : jSt (dC, dI) B base G0 G0 EX11_init s.heap 0 0 [] [] [(jFy, jYb dC dI G0), (jFs11, jSef dC dI G0), (jFl, jLs dC dI ca G0 0 none), (jFdo, jDcc dC dI ca G0 none ph)] s.heap [] := jSt.start hX hP0 jMc.nil hI0
  clear hX hP0
  have hkm2 : ((-2) : Int32).toInt = (-2) := by decide
  have hk0 : (0 : Int32).toInt = 0 := by decide
  have hk1 : (1 : Int32).toInt = 1 := by decide
  have hk2 : (2 : Int32).toInt = 2 := by decide
  have hk256 : (256 : Int32).toInt = 256 := by decide
  have hk1024 : (1024 : Int32).toInt = 1024 := by decide
  have hk4000 : (4000 : Int32).toInt = 4000 := by decide
  have hk20000 : (20000 : Int32).toInt = 20000 := by decide
  have hly_7_0 := htw (u_lay RX5 TX5 0) (jWc_wsX50 _ (u_in_lay (by decide)))
  have hly_13_0 := htw (u_lay RX11 TX11 0) (jWc_wsX110 _ (u_in_lay (by decide)))
  have hly_13_1 := htw (u_lay RX11 TX11 1) (jWc_wsX110 _ (u_in_lay (by decide)))
  have hly_13_2 := htw (u_lay RX11 TX11 2) (jWc_wsX110 _ (u_in_lay (by decide)))
  have hly_13_3 := htw (u_lay RX11 TX11 3) (jWc_wsX110 _ (u_in_lay (by decide)))
  have hly_13_4 := htw (u_lay RX11 TX11 4) (jWc_wsX110 _ (u_in_lay (by decide)))
  have hly_13_5 := htw (u_lay RX11 TX11 5) (jWc_wsX110 _ (u_in_lay (by decide)))
  have hly_13_6 := htw (u_lay RX11 TX11 6) (jWc_wsX110 _ (u_in_lay (by decide)))
  have hly_13_7 := htw (u_lay RX11 TX11 7) (jWc_wsX110 _ (u_in_lay (by decide)))
  have hly_13_8 := htw (u_lay RX11 TX11 8) (jWc_wsX110 _ (u_in_lay (by decide)))
  have hly_13_9 := htw (u_lay RX11 TX11 9) (jWc_wsX110 _ (u_in_lay (by decide)))
  have hly_13_10 := htw (u_lay RX11 TX11 10) (jWc_wsX110 _ (u_in_lay (by decide)))
  have hly_13_11 := htw (u_lay RX11 TX11 11) (jWc_wsX110 _ (u_in_lay (by decide)))
  have hly_13_15 := htw (u_lay RX11 TX11 15) (jWc_wsX110 _ (u_in_lay (by decide)))
  have hly_13_17 := htw (u_lay RX11 TX11 17) (jWc_wsX110 _ (u_in_lay (by decide)))
  have hly_13_18 := htw (u_lay RX11 TX11 18) (jWc_wsX110 _ (u_in_lay (by decide)))
  have hlk_14 := (htw (.fieldLink RX11 14 "ProofServer" "tape" "LProofServer$Bytes;") (jWr_1 _ (List.mem_of_getElem? (i := 15) rfl)))
  have hlk_21 := (htw (.fieldLink RX11 21 "ProofServer" "frames" "LProofServer$Frames;") (jWr_1 _ (List.mem_of_getElem? (i := 19) rfl)))
  have hlk_28 := (htw (.fieldLink RX11 28 "ProofServer" "json" "LProofServer$Json;") (jWr_1 _ (List.mem_of_getElem? (i := 23) rfl)))
  have hlk_32 := (htw (.fieldLink RX11 32 "ProofServer" "output" "LProofServer$Bytes;") (jWr_2 _ (List.mem_of_getElem? (i := 0) rfl)))
  have hlk_35 := (htw (.fieldLink RX11 35 "ProofServer" "body" "LProofServer$Bytes;") (jWr_2 _ (List.mem_of_getElem? (i := 1) rfl)))
  have hlk_41 := (htw (.fieldLink RX11 41 "ProofServer" "kernel" "LProofServer$Kernel;") (jWr_2 _ (List.mem_of_getElem? (i := 5) rfl)))
  have hlk_47 := (htw (.fieldLink RX11 47 "ProofServer$Kernel" "names" "LProofServer$Names;") (jWr_2 _ (List.mem_of_getElem? (i := 9) rfl)))
  have hlk_54 := (htw (.fieldLink RX11 54 "ProofServer" "printer" "LProofServer$Printer;") (jWr_2 _ (List.mem_of_getElem? (i := 10) rfl)))
  have hlk_61 := (htw (.fieldLink RX11 61 "ProofServer" "open" "Ljava/util/List;") (jWr_2 _ (List.mem_of_getElem? (i := 14) rfl)))
  have hlk_65 := (htw (.fieldLink RX11 65 "ProofServer" "waiting" "Ljava/util/List;") (jWr_2 _ (List.mem_of_getElem? (i := 15) rfl)))
  have hlk_68 := (htw (.fieldLink RX11 68 "ProofServer" "cache" "Ljava/util/List;") (jWr_2 _ (List.mem_of_getElem? (i := 16) rfl)))
  have hlk_73 := (htw (.fieldLink RX11 73 "ProofServer" "hands" "[LProofServer$Document;") (jWr_2 _ (List.mem_of_getElem? (i := 18) rfl)))
  have hlk_77 := (htw (.fieldLink RX11 77 "ProofServer" "phase" "I") (jWr_2 _ (List.mem_of_getElem? (i := 19) rfl)))
  have hlk_82 := (htw (.fieldLink RX11 82 "ProofServer" "spare" "LProofServer$Document;") (jWr_2 _ (List.mem_of_getElem? (i := 22) rfl)))
  have hlk_86 := (htw (.fieldLink RX11 86 "ProofServer" "shown" "LProofServer$Bytes;") (jWr_2 _ (List.mem_of_getElem? (i := 23) rfl)))
  have hlk_89 := (htw (.fieldLink RX11 89 "ProofServer" "shownOf" "I") (jWr_3 _ (List.mem_of_getElem? (i := 0) rfl)))
  have hbs : base ≤ s.heap.size := Nat.le_of_lt (Nat.lt_of_le_of_lt hbr0 hraw0.lt)
  have hRc : R.cells = LC - s.heap.size := by rw [← hR]; rfl
  have hRs : R.slots = LS - jTot s.heap := by rw [← hR]; rfl
  have hE0 := hh.iv 3 rfl
  have hab0 : ∀ {a : Nat} {t : Nat × Nat}, G0 a = some t → a < s.heap.size := fun ht => (hh.ab ht).2
  have hin2 : meth.name = "<init>" := (name_of_methodNamed Bd.named Bd.method).1
  have hkp : jKx r0 G0 G0 s.heap s.heap := jKx.rf
  refine lv_aload_n hx hb dX11_init_0 rfl (lv_at hl 0 rfl) ?_
  refine W.objInit hx hb hown (htw (.methodLink RX11 1 objectInit) (jWr_1 _ (List.mem_of_getElem? (i := 9) rfl))) (htw (.instanceMethod objectInit) (jWr_1 _ (List.mem_of_getElem? (i := 10) rfl))) (htw (.code objectInit ⟨#[0xb1]⟩ 1 none) (jWr_1 _ (List.mem_of_getElem? (i := 11) rfl))) rfl (by rw [hml]; exact hl.1) rfl dX11_init_1 (by rw [← hR]; exact Nat.le_of_ble_eq_true rfl) (by rw [← hR]; exact Nat.le_of_ble_eq_true rfl) ?_
  refine W.eq (g2 := F0 m 4 ls []) rfl ?_
  refine lv_aload_n hx hb dX11_init_4 rfl (lv_at hl 0 rfl) ?_
  have hsz_1 := hh.2.2.2.2.2.1
  have htt_1 := hh.2.2.2.2.2.2.1
  refine j7_newo (k := 2) (C := RX0) (T := TX0) (N := 2) (fs := [.null, .int 0]) hx hb htw jWc_wsX00 (fun k => ([(.array .byte), .int] : List FieldType).getD k .int) (by decide +kernel) hown (htw (.classLink RX11 7 RX0) (jWr_1 _ (List.mem_of_getElem? (i := 12) rfl))) (htw (.instantiable RX0 2) (jWr_1 _ (List.mem_of_getElem? (i := 13) rfl))) (htw (.initialized RX0) (jWr_1 _ (List.mem_of_getElem? (i := 14) rfl))) hK rfl (fun j hj => by rcases (by omega : j = 0 ∨ j = 1) with rfl | rfl <;> rfl) hh hB (by rw [hRc]; omega) (by rw [hRs]; omega) dX11_init_5 (fun H_1 hraw_1 hfr_1 hnr_1 hh_1 => ?_)
  have hlt_2 := hraw0.lt
  have hke_1 : jKe G0 G0 s.heap H_1 := jKe.raw hfr_1
  have hbr_1 : base ≤ s.heap.size := Nat.le_trans hbs hh.1.1
  have hsy_1 : s.heap.size ≤ s.heap.size := hh.1.1
  clear hh
  have hkp_3 := hkp.tr hke_1
  have hraw_4n := hke_1.nr hraw0.lt hnr0
  have hraw_4 := hraw0.kept (hke_1.1 _ hraw0.lt)
  have hne_5 : r0 ≠ s.heap.size := Nat.ne_of_lt hlt_2
  refine lv_dup hx hb dX11_init_8 rfl ?_
  refine lv_sipush (v := 4000) hx hb dX11_init_9 (by decide) ?_
  clear hsz_1 htt_1
  have hsz_6 := hh_1.2.2.2.2.2.1
  have htt_6 := hh_1.2.2.2.2.2.2.1
  refine W.room (fun hrc_6 hrs_6 => ?_)
  refine va_callv (A0 := jA base) (H0 := s.heap) (va_runI (As := [.int 4000]) (rest := [.ref s.heap.size, .ref r0]) ⟨hx, hb, hml, hown, hts⟩ (uX0_initT l dC dI ca base B hB hAp hB2 hB196 hB197 G0 H_1 s.heap.size 4000 LC LS) (cwI 1 hts (jgW (jWr_3 _ (List.mem_of_getElem? (i := 3) rfl))) rfl rfl rfl (htw (.initialized RX0) (jWr_1 _ (List.mem_of_getElem? (i := 14) rfl))) (htw (.methodLink RX11 11 yX0_init) (jWr_3 _ (List.mem_of_getElem? (i := 1) rfl))) (htw (.instanceMethod yX0_init) (jWr_3 _ (List.mem_of_getElem? (i := 2) rfl))) rfl (by decide +kernel) ⟨by rw [← hR]; exact Nat.le_of_ble_eq_true rfl, by rw [← hR]; exact Nat.le_of_ble_eq_true rfl⟩) ⟨fun a U g mk q => by obtain ⟨q0, q1, q2, qK, q10, q11, q12, q13, q14, q15⟩ := q; exact ⟨q0, q1, q2, jG.calling g mk a qK, q10, q11, q12, q13, q14, q15⟩, fun U hU hW => ⟨rfl, hU, hh_1.2.1, hG.step hW hU hh_1.1, hraw_1, hnr_1, hbr_1, jP.nil, (hh_1.2.2.2.2.2.2.2.2.sub (L1 := [(jFy, jYb dC dI G0)]) [0] rfl), (by omega), (by omega), by first | omega | rfl | assumption | exact fun h9 => absurd h9 (by decide)⟩⟩ rfl rfl hl.1 rfl (lv_room (Nat.le_of_ble_eq_true rfl)) dX11_init_12 ⟨by rw [hRc]; omega, by rw [hRs]; omega⟩) hh_1.1 (fun q _ h => h) (fun q h => h) (fun u_6 t_6 H_6 locs_6 ht_6 hvm_6 hr_7 hb_6 hz_6 hk_6 hS_6 => ?_)
  obtain ⟨qc_6, qa_6, m_qa_6, G_6⟩ := u_6
  rw [ht_6] at hb_6
  simp only at hb_6
  obtain ⟨⟨hb_61, hb_62, hb_63, hb_64, hb_65, hb_66⟩, hgq_6_0, hN_6, hgc_6, hbX_6, hbE_6⟩ := hb_6
  have hE9_6 := hN_6
  have hn3_6 : jNk [3] G0 G_6 := (jNk.rf).tr (hE9_6.sub (ks1 := [3]) (by decide))
  have hL_6 := hN_6
  have hM_6 := hN_6
  have hN_6 : (jNk [0, 5, 10, 14, 15, 16]) G0 G_6 := hN_6.sub (by decide)
  have hh_6 : jSt (dC, dI) B base G0 G_6 EX11_init s.heap ((0 + 1) + (1)) ((0 + 2) + (4000)) [(s.heap.size, 2, 1, .int qc_6), (s.heap.size, 2, 0, .ref qa_6)] [] [(jFs11, jSef dC dI G0), (jFl, jLs dC dI ca G0 0 none), (jFdo, jDcc dC dI ca G0 none ph)] H_6 locs_6 := (hh_1.callG hb_61 hb_62 hb_63 hb_64 hb_65 hS_6 rfl (L1 := []) [] rfl rfl (M1 := []) [] rfl rfl (I1 := [(jFs11, jSef dC dI G0), (jFl, jLs dC dI ca G0 0 none), (jFdo, jDcc dC dI ca G0 none ph)]) [1, 2, 3] rfl rfl).more hb_66
  have hNn_6 : (jNk [0, 5, 10, 14, 15, 16]) G0 G_6 := (jNk.rf).tr hN_6
  have hd_8 := jSef.grow (hh_6.iv 0 rfl) hb_62 hM_6 (by decide)
  have hh_9 := hh_6.sub (L1 := [(s.heap.size, 2, 1, .int qc_6), (s.heap.size, 2, 0, .ref qa_6)]) [0, 1] rfl (M1 := []) [] rfl (I1 := [(jFl, jLs dC dI ca G0 0 none), (jFdo, jDcc dC dI ca G0 none ph)]) [1, 2] rfl
  clear hh_6
  have hh_10 := hh_9.addI (jSef.ie hd_8)
  clear hh_9
  have hd_11 := jLs.grow (hh_10.iv 1 rfl) hb_62 hL_6 (by decide)
  have hh_12 := hh_10.sub (L1 := [(s.heap.size, 2, 1, .int qc_6), (s.heap.size, 2, 0, .ref qa_6)]) [0, 1] rfl (M1 := []) [] rfl (I1 := [(jFs11, jSef dC dI G_6), (jFdo, jDcc dC dI ca G0 none ph)]) [0, 2] rfl
  clear hh_10
  have hh_13 := hh_12.addI (jLs.ie hd_11)
  clear hh_12
  have hd_14 := jDcc.grow (hh_13.iv 2 rfl) hb_62 hE9_6 (by decide)
  have hh_15 := hh_13.sub (L1 := [(s.heap.size, 2, 1, .int qc_6), (s.heap.size, 2, 0, .ref qa_6)]) [0, 1] rfl (M1 := []) [] rfl (I1 := [(jFl, jLs dC dI ca G_6 0 none), (jFs11, jSef dC dI G_6)]) [0, 1] rfl
  clear hh_13
  have hh_16 := hh_15.addI (jDcc.ie hd_14)
  clear hh_15
  have hh_17 := hh_16.addIs hbE_6
  try simp only at hr_7
  obtain ⟨hr_7_0, hr_7_1⟩ := hr_7
  have hkp_18 := hkp_3.in hbX_6 hsy_1
  have hraw_19x := hbX_6.ke hraw_4.lt hne_5 hraw_4n
  clear hne_5
  have hraw_19 := hraw_4.kept hraw_19x.1
  refine j7_putRF hx hb hown hK hh_17 hB hAp hraw_19 hraw_19x.2 hbr0 (C := RX11) (T := TX11) (N := 19) rfl (i := 0) (by decide) (Nat.le_of_ble_eq_true rfl) hly_13_0 rfl hin2 rfl hlk_14 (ty := (.object "ProofServer$Bytes")) (v := .ref s.heap.size) (by decide +kernel) rfl rfl dX11_init_15 (fun H_20 locs_20 hraw_20 hr_20 hh_20 => ?_)
  have hraw_20 : va_at (dC, dI) vwCl (r0, .inr (13, [.ref s.heap.size, .null, .null, .null, .null, .null, .null, .null, .null, .null, .null, .int 0, .int 0, .int 0, .int 0, .null, .null, .null, .int 0])) H_20 := hraw_20
  have hkp_21 := hkp_18.put hr_20
  clear hh_17
  refine lv_aload_n hx hb dX11_init_18 rfl (lv_at hl 0 rfl) ?_
  clear hsz_6 htt_6 hrc_6 hrs_6
  (try clear hb_64); (try clear hb_65); (try clear hz_6)
  have hsz_22 := hh_20.2.2.2.2.2.1
  have htt_22 := hh_20.2.2.2.2.2.2.1
  refine j7_newo (k := 4) (C := RX2) (T := TX2) (N := 12) (fs := [.null, .int 0, .int 0, .int 0, .int 0, .int 0, .int 0, .int 0, .int 0, .int 0, .int 0, .int 0]) hx hb htw jWc_wsX20 (fun k => ([(.array .byte), .int, .int, .int, .boolean, .int, .int, .int, .int, .boolean, .int, .int] : List FieldType).getD k .int) (by decide +kernel) hown (htw (.classLink RX11 18 RX2) (jWr_1 _ (List.mem_of_getElem? (i := 16) rfl))) (htw (.instantiable RX2 12) (jWr_1 _ (List.mem_of_getElem? (i := 17) rfl))) (htw (.initialized RX2) (jWr_1 _ (List.mem_of_getElem? (i := 18) rfl))) hK rfl (fun j hj => by rcases (by omega : j = 0 ∨ j = 1 ∨ j = 2 ∨ j = 3 ∨ j = 4 ∨ j = 5 ∨ j = 6 ∨ j = 7 ∨ j = 8 ∨ j = 9 ∨ j = 10 ∨ j = 11) with rfl | rfl | rfl | rfl | rfl | rfl | rfl | rfl | rfl | rfl | rfl | rfl <;> rfl) hh_20 hB (by rw [hRc]; omega) (by rw [hRs]; omega) dX11_init_19 (fun H_22 hraw_22 hfr_22 hnr_22 hh_22 => ?_)
  have hlt_23 := hraw_20.lt
  have hke_22 : jKe G_6 G_6 H_20 H_22 := jKe.raw hfr_22
  have hbr_22 : base ≤ H_20.size := Nat.le_trans hbs hh_20.1.1
  have hsy_22 : s.heap.size ≤ H_20.size := hh_20.1.1
  clear hh_20
  have hkp_24 := hkp_21.tr hke_22
  have hraw_25n := hke_22.nr hraw_20.lt hraw_19x.2
  have hraw_25 := hraw_20.kept (hke_22.1 _ hraw_20.lt)
  have hne_26 : r0 ≠ H_20.size := Nat.ne_of_lt hlt_23
  refine lv_dup hx hb dX11_init_22 rfl ?_
  clear hsz_22 htt_22
  have hsz_27 := hh_22.2.2.2.2.2.1
  have htt_27 := hh_22.2.2.2.2.2.2.1
  refine W.room (fun hrc_27 hrs_27 => ?_)
  refine va_callv (A0 := jA base) (H0 := s.heap) (va_runIN (As := []) (rest := [.ref H_20.size, .ref r0]) ⟨hx, hb, hml, hown, hts⟩ (uX2_initW l dC dI ca base B hB hAp hB4 hB100 G_6 H_22 H_20.size LC LS) ⟨va_cnB 0 hts (jgW (jWr_3 _ (List.mem_of_getElem? (i := 12) rfl))) rfl rfl rfl (hG.2.2.1 RX11 20 yX2_init "ProofServer" (List.mem_of_getElem? (i := 62) (by decide +kernel))) (htw (.initialized RX2) (jWr_1 _ (List.mem_of_getElem? (i := 18) rfl))) (by decide +kernel) ⟨by rw [← hR]; exact Nat.le_of_ble_eq_true rfl, by rw [← hR]; exact Nat.le_of_ble_eq_true rfl⟩, rfl, htw (.instanceMethod yX2_init) (jWr_3 _ (List.mem_of_getElem? (i := 11) rfl))⟩ ⟨fun a U g mk q => by obtain ⟨q0, q1, q2, qK, q10, q11, q12, q13, q14⟩ := q; exact ⟨q0, q1, q2, jG.calling g mk a qK, q10, q11, q12, q13, q14⟩, fun U hU hW => ⟨rfl, hU, hh_22.2.1, hG.step hW hU hh_22.1, hraw_22, hnr_22, hbr_22, jP.nil, (by omega), (by omega), trivial⟩⟩ rfl rfl hl.1 rfl (lv_room (Nat.le_of_ble_eq_true rfl)) dX11_init_23 ⟨by rw [hRc]; omega, by rw [hRs]; omega⟩) hh_22.1 (fun q _ h => h) (fun q h => h) (fun u_27 t_27 H_27 locs_27 ht_27 hvm_27 hr_28 hb_27 hz_27 hk_27 hS_27 => ?_)
  obtain ⟨ql_27, qg_27, qv_27, qb_27, qf_27, qk_27, qp_27, qo_27, G_27⟩ := u_27
  rw [ht_27] at hb_27
  simp only at hb_27
  obtain ⟨⟨hb_271, hb_272, hb_273, hb_274, hb_275, hb_276⟩, hN_27, hgc_27, hbX_27⟩ := hb_27
  have hE9_27 := hN_27
  have hn3_27 : jNk [3] G0 G_27 := (hn3_6).tr (hE9_27.sub (ks1 := [3]) (by decide))
  have hL_27 := hN_27
  have hY_27 := hN_27
  have hM_27 := hN_27
  have hN_27 : (jNk [0, 5, 10, 14, 15, 16]) G_6 G_27 := hN_27.sub (by decide)
  have hh_27 : jSt (dC, dI) B base G0 G_27 EX11_init s.heap ((((0 + 1) + (1)) + 1) + (1)) ((((0 + 2) + (4000)) + 12) + (3000)) [(H_20.size, 4, 9, .int ql_27), (H_20.size, 4, 8, .int qg_27), (H_20.size, 4, 11, .int qv_27), (H_20.size, 4, 4, .int qb_27), (H_20.size, 4, 7, .int qf_27), (H_20.size, 4, 2, .int qk_27), (H_20.size, 4, 5, .int qp_27), (H_20.size, 4, 6, .int qo_27), (s.heap.size, 2, 1, .int qc_6), (s.heap.size, 2, 0, .ref qa_6)] [] [(jFy, jYb dC dI G_6), (jFdo, jDcc dC dI ca G_6 none ph), (jFl, jLs dC dI ca G_6 0 none), (jFs11, jSef dC dI G_6)] H_27 locs_27 := (hh_22.callG hb_271 hb_272 hb_273 hb_274 hb_275 hS_27 rfl (L1 := [(s.heap.size, 2, 1, .int qc_6), (s.heap.size, 2, 0, .ref qa_6)]) [0, 1] rfl rfl (M1 := []) [] rfl rfl (I1 := [(jFy, jYb dC dI G_6), (jFdo, jDcc dC dI ca G_6 none ph), (jFl, jLs dC dI ca G_6 0 none), (jFs11, jSef dC dI G_6)]) [0, 1, 2, 3] rfl rfl).more hb_276
  have hNn_27 : (jNk [0, 5, 10, 14, 15, 16]) G0 G_27 := (hNn_6).tr hN_27
  have hg_29 := hb_272 _ _ hgq_6_0
  have hd_30 := jYb.grow (hh_27.iv 0 rfl) hb_272 hY_27 (by decide)
  have hh_31 := hh_27.sub (L1 := [(H_20.size, 4, 9, .int ql_27), (H_20.size, 4, 8, .int qg_27), (H_20.size, 4, 11, .int qv_27), (H_20.size, 4, 4, .int qb_27), (H_20.size, 4, 7, .int qf_27), (H_20.size, 4, 2, .int qk_27), (H_20.size, 4, 5, .int qp_27), (H_20.size, 4, 6, .int qo_27), (s.heap.size, 2, 1, .int qc_6), (s.heap.size, 2, 0, .ref qa_6)]) [0, 1, 2, 3, 4, 5, 6, 7, 8, 9] rfl (M1 := []) [] rfl (I1 := [(jFdo, jDcc dC dI ca G_6 none ph), (jFl, jLs dC dI ca G_6 0 none), (jFs11, jSef dC dI G_6)]) [1, 2, 3] rfl
  clear hh_27
  have hh_32 := hh_31.addI (jYb.ie hd_30)
  clear hh_31
  have hd_33 := jDcc.grow (hh_32.iv 1 rfl) hb_272 hE9_27 (by decide)
  have hh_34 := hh_32.sub (L1 := [(H_20.size, 4, 9, .int ql_27), (H_20.size, 4, 8, .int qg_27), (H_20.size, 4, 11, .int qv_27), (H_20.size, 4, 4, .int qb_27), (H_20.size, 4, 7, .int qf_27), (H_20.size, 4, 2, .int qk_27), (H_20.size, 4, 5, .int qp_27), (H_20.size, 4, 6, .int qo_27), (s.heap.size, 2, 1, .int qc_6), (s.heap.size, 2, 0, .ref qa_6)]) [0, 1, 2, 3, 4, 5, 6, 7, 8, 9] rfl (M1 := []) [] rfl (I1 := [(jFy, jYb dC dI G_27), (jFl, jLs dC dI ca G_6 0 none), (jFs11, jSef dC dI G_6)]) [0, 2, 3] rfl
  clear hh_32
  have hh_35 := hh_34.addI (jDcc.ie hd_33)
  clear hh_34
  have hd_36 := jLs.grow (hh_35.iv 2 rfl) hb_272 hL_27 (by decide)
  have hh_37 := hh_35.sub (L1 := [(H_20.size, 4, 9, .int ql_27), (H_20.size, 4, 8, .int qg_27), (H_20.size, 4, 11, .int qv_27), (H_20.size, 4, 4, .int qb_27), (H_20.size, 4, 7, .int qf_27), (H_20.size, 4, 2, .int qk_27), (H_20.size, 4, 5, .int qp_27), (H_20.size, 4, 6, .int qo_27), (s.heap.size, 2, 1, .int qc_6), (s.heap.size, 2, 0, .ref qa_6)]) [0, 1, 2, 3, 4, 5, 6, 7, 8, 9] rfl (M1 := []) [] rfl (I1 := [(jFdo, jDcc dC dI ca G_27 none ph), (jFy, jYb dC dI G_27), (jFs11, jSef dC dI G_6)]) [0, 1, 3] rfl
  clear hh_35
  have hh_38 := hh_37.addI (jLs.ie hd_36)
  clear hh_37
  have hd_39 := jSef.grow (hh_38.iv 3 rfl) hb_272 hM_27 (by decide)
  have hh_40 := hh_38.sub (L1 := [(H_20.size, 4, 9, .int ql_27), (H_20.size, 4, 8, .int qg_27), (H_20.size, 4, 11, .int qv_27), (H_20.size, 4, 4, .int qb_27), (H_20.size, 4, 7, .int qf_27), (H_20.size, 4, 2, .int qk_27), (H_20.size, 4, 5, .int qp_27), (H_20.size, 4, 6, .int qo_27), (s.heap.size, 2, 1, .int qc_6), (s.heap.size, 2, 0, .ref qa_6)]) [0, 1, 2, 3, 4, 5, 6, 7, 8, 9] rfl (M1 := []) [] rfl (I1 := [(jFl, jLs dC dI ca G_27 0 none), (jFdo, jDcc dC dI ca G_27 none ph), (jFy, jYb dC dI G_27)]) [0, 1, 2] rfl
  clear hh_38
  have hh_41 := hh_40.addI (jSef.ie hd_39)
  clear hh_40
  try simp only at hr_28
  obtain ⟨hr_28_0, hr_28_1, hr_28_2, hr_28_3, hr_28_4, hr_28_5, hr_28_6⟩ := hr_28
  have hkp_42 := hkp_24.in hbX_27 hsy_22
  have hraw_43x := hbX_27.ke hraw_25.lt hne_26 hraw_25n
  clear hne_26
  have hraw_43 := hraw_25.kept hraw_43x.1
  refine j7_putRF hx hb hown hK hh_41 hB hAp hraw_43 hraw_43x.2 hbr0 (C := RX11) (T := TX11) (N := 19) rfl (i := 1) (by decide) (Nat.le_of_ble_eq_true rfl) hly_13_1 rfl hin2 rfl hlk_21 (ty := (.object "ProofServer$Frames")) (v := .ref H_20.size) (by decide +kernel) rfl rfl dX11_init_26 (fun H_44 locs_44 hraw_44 hr_44 hh_44 => ?_)
  have hraw_44 : va_at (dC, dI) vwCl (r0, .inr (13, [.ref s.heap.size, .ref H_20.size, .null, .null, .null, .null, .null, .null, .null, .null, .null, .int 0, .int 0, .int 0, .int 0, .null, .null, .null, .int 0])) H_44 := hraw_44
  have hkp_45 := hkp_42.put hr_44
  clear hh_41
  refine lv_aload_n hx hb dX11_init_29 rfl (lv_at hl 0 rfl) ?_
  clear hsz_27 htt_27 hrc_27 hrs_27
  (try clear hb_274); (try clear hb_275); (try clear hz_27)
  have hsz_46 := hh_44.2.2.2.2.2.1
  have htt_46 := hh_44.2.2.2.2.2.2.1
  refine j7_newo (k := 6) (C := RX4) (T := TX4) (N := 12) (fs := [.null, .null, .null, .null, .null, .null, .null, .int 0, .int 0, .null, .int 0, .int 0]) hx hb htw jWc_wsX40 (fun k => ([(.array .int), (.array .int), (.array .int), (.array .int), (.array .int), (.array .int), (.array .int), .int, .int, (.array .byte), .int, .int] : List FieldType).getD k .int) (by decide +kernel) hown (htw (.classLink RX11 25 RX4) (jWr_1 _ (List.mem_of_getElem? (i := 20) rfl))) (htw (.instantiable RX4 12) (jWr_1 _ (List.mem_of_getElem? (i := 21) rfl))) (htw (.initialized RX4) (jWr_1 _ (List.mem_of_getElem? (i := 22) rfl))) hK rfl (fun j hj => by rcases (by omega : j = 0 ∨ j = 1 ∨ j = 2 ∨ j = 3 ∨ j = 4 ∨ j = 5 ∨ j = 6 ∨ j = 7 ∨ j = 8 ∨ j = 9 ∨ j = 10 ∨ j = 11) with rfl | rfl | rfl | rfl | rfl | rfl | rfl | rfl | rfl | rfl | rfl | rfl <;> rfl) hh_44 hB (by rw [hRc]; omega) (by rw [hRs]; omega) dX11_init_30 (fun H_46 hraw_46 hfr_46 hnr_46 hh_46 => ?_)
  have hlt_47 := hraw_44.lt
  have hke_46 : jKe G_27 G_27 H_44 H_46 := jKe.raw hfr_46
  have hbr_46 : base ≤ H_44.size := Nat.le_trans hbs hh_44.1.1
  have hsy_46 : s.heap.size ≤ H_44.size := hh_44.1.1
  clear hh_44
  have hkp_48 := hkp_45.tr hke_46
  have hraw_49n := hke_46.nr hraw_44.lt hraw_43x.2
  have hraw_49 := hraw_44.kept (hke_46.1 _ hraw_44.lt)
  have hne_50 : r0 ≠ H_44.size := Nat.ne_of_lt hlt_47
  refine lv_dup hx hb dX11_init_33 rfl ?_
  clear hsz_46 htt_46
  have hsz_51 := hh_46.2.2.2.2.2.1
  have htt_51 := hh_46.2.2.2.2.2.2.1
  refine W.room (fun hrc_51 hrs_51 => ?_)
  refine va_callv (A0 := jA base) (H0 := s.heap) (va_runIN (As := []) (rest := [.ref H_44.size, .ref r0]) ⟨hx, hb, hml, hown, hts⟩ (uX4_init l dC dI ca base B hB hAp hB6 hB100 hB140 hB141 hB142 hB143 hB144 hB145 hB146 G_27 H_46 H_44.size LC LS) ⟨va_cnB 0 hts (jgW (jWr_3 _ (List.mem_of_getElem? (i := 18) rfl))) rfl rfl rfl (hG.2.2.1 RX11 27 yX4_init "ProofServer" (List.mem_of_getElem? (i := 110) (by decide +kernel))) (htw (.initialized RX4) (jWr_1 _ (List.mem_of_getElem? (i := 22) rfl))) (by decide +kernel) ⟨by rw [← hR]; exact Nat.le_of_ble_eq_true rfl, by rw [← hR]; exact Nat.le_of_ble_eq_true rfl⟩, rfl, htw (.instanceMethod yX4_init) (jWr_3 _ (List.mem_of_getElem? (i := 17) rfl))⟩ ⟨fun a U g mk q => by obtain ⟨q0, q1, q2, qK, q10, q11, q12, q13, q14⟩ := q; exact ⟨q0, q1, q2, jG.calling g mk a qK, q10, q11, q12, q13, q14⟩, fun U hU hW => ⟨rfl, hU, hh_46.2.1, hG.step hW hU hh_46.1, hraw_46, hnr_46, hbr_46, jP.nil, (by omega), (by omega), trivial⟩⟩ rfl rfl hl.1 rfl (lv_room (Nat.le_of_ble_eq_true rfl)) dX11_init_34 ⟨by rw [hRc]; omega, by rw [hRs]; omega⟩) hh_46.1 (fun q _ h => h) (fun q h => h) (fun u_51 t_51 H_51 locs_51 ht_51 hvm_51 hr_52 hb_51 hz_51 hk_51 hS_51 => ?_)
  rw [ht_51] at hb_51
  obtain ⟨G_51, rfl⟩ : ∃ z, z = u_51 := ⟨_, rfl⟩
  try simp only at hb_51
  obtain ⟨⟨hb_511, hb_512, hb_513, hb_514, hb_515, hb_516⟩, hN_51, hgc_51, hbX_51⟩ := hb_51
  have hE9_51 := hN_51
  have hn3_51 : jNk [3] G0 G_51 := (hn3_27).tr (hE9_51.sub (ks1 := [3]) (by decide))
  have hL_51 := hN_51
  have hY_51 := hN_51
  have hM_51 := hN_51
  have hN_51 : (jNk [0, 5, 10, 14, 15, 16]) G_27 G_51 := hN_51.sub (by decide)
  have hh_51 : jSt (dC, dI) B base G0 G_51 EX11_init s.heap ((((((0 + 1) + (1)) + 1) + (1)) + 1) + (8)) ((((((0 + 2) + (4000)) + 12) + (3000)) + 12) + (12012)) [(H_20.size, 4, 9, .int ql_27), (H_20.size, 4, 8, .int qg_27), (H_20.size, 4, 11, .int qv_27), (H_20.size, 4, 4, .int qb_27), (H_20.size, 4, 7, .int qf_27), (H_20.size, 4, 2, .int qk_27), (H_20.size, 4, 5, .int qp_27), (H_20.size, 4, 6, .int qo_27), (s.heap.size, 2, 1, .int qc_6), (s.heap.size, 2, 0, .ref qa_6)] [] [(jFs11, jSef dC dI G_27), (jFl, jLs dC dI ca G_27 0 none), (jFdo, jDcc dC dI ca G_27 none ph), (jFy, jYb dC dI G_27)] H_51 locs_51 := (hh_46.callG hb_511 hb_512 hb_513 hb_514 hb_515 hS_51 rfl (L1 := [(H_20.size, 4, 9, .int ql_27), (H_20.size, 4, 8, .int qg_27), (H_20.size, 4, 11, .int qv_27), (H_20.size, 4, 4, .int qb_27), (H_20.size, 4, 7, .int qf_27), (H_20.size, 4, 2, .int qk_27), (H_20.size, 4, 5, .int qp_27), (H_20.size, 4, 6, .int qo_27), (s.heap.size, 2, 1, .int qc_6), (s.heap.size, 2, 0, .ref qa_6)]) [0, 1, 2, 3, 4, 5, 6, 7, 8, 9] rfl rfl (M1 := []) [] rfl rfl (I1 := [(jFs11, jSef dC dI G_27), (jFl, jLs dC dI ca G_27 0 none), (jFdo, jDcc dC dI ca G_27 none ph), (jFy, jYb dC dI G_27)]) [0, 1, 2, 3] rfl rfl).more hb_516
  have hNn_51 : (jNk [0, 5, 10, 14, 15, 16]) G0 G_51 := (hNn_27).tr hN_51
  have hg_53 := hb_512 _ _ hg_29
  have hd_54 := jSef.grow (hh_51.iv 0 rfl) hb_512 hM_51 (by decide)
  have hh_55 := hh_51.sub (L1 := [(H_20.size, 4, 9, .int ql_27), (H_20.size, 4, 8, .int qg_27), (H_20.size, 4, 11, .int qv_27), (H_20.size, 4, 4, .int qb_27), (H_20.size, 4, 7, .int qf_27), (H_20.size, 4, 2, .int qk_27), (H_20.size, 4, 5, .int qp_27), (H_20.size, 4, 6, .int qo_27), (s.heap.size, 2, 1, .int qc_6), (s.heap.size, 2, 0, .ref qa_6)]) [0, 1, 2, 3, 4, 5, 6, 7, 8, 9] rfl (M1 := []) [] rfl (I1 := [(jFl, jLs dC dI ca G_27 0 none), (jFdo, jDcc dC dI ca G_27 none ph), (jFy, jYb dC dI G_27)]) [1, 2, 3] rfl
  clear hh_51
  have hh_56 := hh_55.addI (jSef.ie hd_54)
  clear hh_55
  have hd_57 := jLs.grow (hh_56.iv 1 rfl) hb_512 hL_51 (by decide)
  have hh_58 := hh_56.sub (L1 := [(H_20.size, 4, 9, .int ql_27), (H_20.size, 4, 8, .int qg_27), (H_20.size, 4, 11, .int qv_27), (H_20.size, 4, 4, .int qb_27), (H_20.size, 4, 7, .int qf_27), (H_20.size, 4, 2, .int qk_27), (H_20.size, 4, 5, .int qp_27), (H_20.size, 4, 6, .int qo_27), (s.heap.size, 2, 1, .int qc_6), (s.heap.size, 2, 0, .ref qa_6)]) [0, 1, 2, 3, 4, 5, 6, 7, 8, 9] rfl (M1 := []) [] rfl (I1 := [(jFs11, jSef dC dI G_51), (jFdo, jDcc dC dI ca G_27 none ph), (jFy, jYb dC dI G_27)]) [0, 2, 3] rfl
  clear hh_56
  have hh_59 := hh_58.addI (jLs.ie hd_57)
  clear hh_58
  have hd_60 := jDcc.grow (hh_59.iv 2 rfl) hb_512 hE9_51 (by decide)
  have hh_61 := hh_59.sub (L1 := [(H_20.size, 4, 9, .int ql_27), (H_20.size, 4, 8, .int qg_27), (H_20.size, 4, 11, .int qv_27), (H_20.size, 4, 4, .int qb_27), (H_20.size, 4, 7, .int qf_27), (H_20.size, 4, 2, .int qk_27), (H_20.size, 4, 5, .int qp_27), (H_20.size, 4, 6, .int qo_27), (s.heap.size, 2, 1, .int qc_6), (s.heap.size, 2, 0, .ref qa_6)]) [0, 1, 2, 3, 4, 5, 6, 7, 8, 9] rfl (M1 := []) [] rfl (I1 := [(jFl, jLs dC dI ca G_51 0 none), (jFs11, jSef dC dI G_51), (jFy, jYb dC dI G_27)]) [0, 1, 3] rfl
  clear hh_59
  have hh_62 := hh_61.addI (jDcc.ie hd_60)
  clear hh_61
  have hd_63 := jYb.grow (hh_62.iv 3 rfl) hb_512 hY_51 (by decide)
  have hh_64 := hh_62.sub (L1 := [(H_20.size, 4, 9, .int ql_27), (H_20.size, 4, 8, .int qg_27), (H_20.size, 4, 11, .int qv_27), (H_20.size, 4, 4, .int qb_27), (H_20.size, 4, 7, .int qf_27), (H_20.size, 4, 2, .int qk_27), (H_20.size, 4, 5, .int qp_27), (H_20.size, 4, 6, .int qo_27), (s.heap.size, 2, 1, .int qc_6), (s.heap.size, 2, 0, .ref qa_6)]) [0, 1, 2, 3, 4, 5, 6, 7, 8, 9] rfl (M1 := []) [] rfl (I1 := [(jFdo, jDcc dC dI ca G_51 none ph), (jFl, jLs dC dI ca G_51 0 none), (jFs11, jSef dC dI G_51)]) [0, 1, 2] rfl
  clear hh_62
  have hh_65 := hh_64.addI (jYb.ie hd_63)
  clear hh_64
  try simp only at hr_52
  have hkp_66 := hkp_48.in hbX_51 hsy_46
  have hraw_67x := hbX_51.ke hraw_49.lt hne_50 hraw_49n
  clear hne_50
  have hraw_67 := hraw_49.kept hraw_67x.1
  refine j7_putRF hx hb hown hK hh_65 hB hAp hraw_67 hraw_67x.2 hbr0 (C := RX11) (T := TX11) (N := 19) rfl (i := 2) (by decide) (Nat.le_of_ble_eq_true rfl) hly_13_2 rfl hin2 rfl hlk_28 (ty := (.object "ProofServer$Json")) (v := .ref H_44.size) (by decide +kernel) rfl rfl dX11_init_37 (fun H_68 locs_68 hraw_68 hr_68 hh_68 => ?_)
  have hraw_68 : va_at (dC, dI) vwCl (r0, .inr (13, [.ref s.heap.size, .ref H_20.size, .ref H_44.size, .null, .null, .null, .null, .null, .null, .null, .null, .int 0, .int 0, .int 0, .int 0, .null, .null, .null, .int 0])) H_68 := hraw_68
  have hkp_69 := hkp_66.put hr_68
  clear hh_65
  refine lv_aload_n hx hb dX11_init_40 rfl (lv_at hl 0 rfl) ?_
  clear hsz_51 htt_51 hrc_51 hrs_51
  (try clear hb_514); (try clear hb_515); (try clear hz_51)
  have hsz_70 := hh_68.2.2.2.2.2.1
  have htt_70 := hh_68.2.2.2.2.2.2.1
  refine j7_newo (k := 2) (C := RX0) (T := TX0) (N := 2) (fs := [.null, .int 0]) hx hb htw jWc_wsX00 (fun k => ([(.array .byte), .int] : List FieldType).getD k .int) (by decide +kernel) hown (htw (.classLink RX11 7 RX0) (jWr_1 _ (List.mem_of_getElem? (i := 12) rfl))) (htw (.instantiable RX0 2) (jWr_1 _ (List.mem_of_getElem? (i := 13) rfl))) (htw (.initialized RX0) (jWr_1 _ (List.mem_of_getElem? (i := 14) rfl))) hK rfl (fun j hj => by rcases (by omega : j = 0 ∨ j = 1) with rfl | rfl <;> rfl) hh_68 hB (by rw [hRc]; omega) (by rw [hRs]; omega) dX11_init_41 (fun H_70 hraw_70 hfr_70 hnr_70 hh_70 => ?_)
  have hlt_71 := hraw_68.lt
  have hke_70 : jKe G_51 G_51 H_68 H_70 := jKe.raw hfr_70
  have hbr_70 : base ≤ H_68.size := Nat.le_trans hbs hh_68.1.1
  have hsy_70 : s.heap.size ≤ H_68.size := hh_68.1.1
  clear hh_68
  have hkp_72 := hkp_69.tr hke_70
  have hraw_73n := hke_70.nr hraw_68.lt hraw_67x.2
  have hraw_73 := hraw_68.kept (hke_70.1 _ hraw_68.lt)
  have hne_74 : r0 ≠ H_68.size := Nat.ne_of_lt hlt_71
  refine lv_dup hx hb dX11_init_44 rfl ?_
  refine lv_sipush (v := 20000) hx hb dX11_init_45 (by decide) ?_
  clear hsz_70 htt_70
  have hsz_75 := hh_70.2.2.2.2.2.1
  have htt_75 := hh_70.2.2.2.2.2.2.1
  refine W.room (fun hrc_75 hrs_75 => ?_)
  refine va_callv (A0 := jA base) (H0 := s.heap) (va_runI (As := [.int 20000]) (rest := [.ref H_68.size, .ref r0]) ⟨hx, hb, hml, hown, hts⟩ (uX0_initY l dC dI ca base B hB hAp hB2 hB196 G_51 H_70 H_68.size 20000 20000 LC LS) (cwI 1 hts (jgW (jWr_3 _ (List.mem_of_getElem? (i := 3) rfl))) rfl rfl rfl (htw (.initialized RX0) (jWr_1 _ (List.mem_of_getElem? (i := 14) rfl))) (htw (.methodLink RX11 11 yX0_init) (jWr_3 _ (List.mem_of_getElem? (i := 1) rfl))) (htw (.instanceMethod yX0_init) (jWr_3 _ (List.mem_of_getElem? (i := 2) rfl))) rfl (by decide +kernel) ⟨by rw [← hR]; exact Nat.le_of_ble_eq_true rfl, by rw [← hR]; exact Nat.le_of_ble_eq_true rfl⟩) ⟨fun a U g mk q => by obtain ⟨q0, q1, q2, qK, q10, q11, q12, q13, q14, q15⟩ := q; exact ⟨q0, q1, q2, jG.calling g mk a qK, q10, q11, q12, q13, q14, q15⟩, fun U hU hW => ⟨rfl, hU, hh_70.2.1, hG.step hW hU hh_70.1, hraw_70, hnr_70, hbr_70, jP.nil, (hh_70.2.2.2.2.2.2.2.2.sub (L1 := [(jFy, jYb dC dI G_51)]) [0] rfl), (by omega), (by omega), ⟨(by first | omega | rfl | assumption | exact fun h9 => absurd h9 (by decide)), (by first | omega | rfl | assumption | exact fun h9 => absurd h9 (by decide)), (by first | omega | rfl | assumption | exact fun h9 => absurd h9 (by decide)), (by first | assumption | exact fun h9 => absurd h9 (by decide) | omega), (by first | omega | rfl | assumption | exact fun h9 => absurd h9 (by decide))⟩⟩⟩ rfl rfl hl.1 rfl (lv_room (Nat.le_of_ble_eq_true rfl)) dX11_init_48 ⟨by rw [hRc]; omega, by rw [hRs]; omega⟩) hh_70.1 (fun q _ h => h) (fun q h => h) (fun u_75 t_75 H_75 locs_75 ht_75 hvm_75 hr_76 hb_75 hz_75 hk_75 hS_75 => ?_)
  obtain ⟨qc_75, qa_75, m_qa_75, G_75⟩ := u_75
  rw [ht_75] at hb_75
  simp only at hb_75
  obtain ⟨⟨hb_751, hb_752, hb_753, hb_754, hb_755, hb_756⟩, hgq_75_0, hN_75, hgc_75, hbX_75, hbE_75⟩ := hb_75
  have hE9_75 := hN_75
  have hn3_75 : jNk [3] G0 G_75 := (hn3_51).tr (hE9_75.sub (ks1 := [3]) (by decide))
  have hL_75 := hN_75
  have hM_75 := hN_75
  have hN_75 : (jNk [0, 5, 10, 14, 15, 16]) G_51 G_75 := hN_75.sub (by decide)
  have hh_75 : jSt (dC, dI) B base G0 G_75 EX11_init s.heap ((((((((0 + 1) + (1)) + 1) + (1)) + 1) + (8)) + 1) + (1)) ((((((((0 + 2) + (4000)) + 12) + (3000)) + 12) + (12012)) + 2) + (20000)) [(H_68.size, 2, 1, .int qc_75), (H_68.size, 2, 0, .ref qa_75), (H_20.size, 4, 9, .int ql_27), (H_20.size, 4, 8, .int qg_27), (H_20.size, 4, 11, .int qv_27), (H_20.size, 4, 4, .int qb_27), (H_20.size, 4, 7, .int qf_27), (H_20.size, 4, 2, .int qk_27), (H_20.size, 4, 5, .int qp_27), (H_20.size, 4, 6, .int qo_27), (s.heap.size, 2, 1, .int qc_6), (s.heap.size, 2, 0, .ref qa_6)] [] [(jFdo, jDcc dC dI ca G_51 none ph), (jFl, jLs dC dI ca G_51 0 none), (jFs11, jSef dC dI G_51)] H_75 locs_75 := (hh_70.callG hb_751 hb_752 hb_753 hb_754 hb_755 hS_75 rfl (L1 := [(H_20.size, 4, 9, .int ql_27), (H_20.size, 4, 8, .int qg_27), (H_20.size, 4, 11, .int qv_27), (H_20.size, 4, 4, .int qb_27), (H_20.size, 4, 7, .int qf_27), (H_20.size, 4, 2, .int qk_27), (H_20.size, 4, 5, .int qp_27), (H_20.size, 4, 6, .int qo_27), (s.heap.size, 2, 1, .int qc_6), (s.heap.size, 2, 0, .ref qa_6)]) [0, 1, 2, 3, 4, 5, 6, 7, 8, 9] rfl rfl (M1 := []) [] rfl rfl (I1 := [(jFdo, jDcc dC dI ca G_51 none ph), (jFl, jLs dC dI ca G_51 0 none), (jFs11, jSef dC dI G_51)]) [1, 2, 3] rfl rfl).more hb_756
  have hNn_75 : (jNk [0, 5, 10, 14, 15, 16]) G0 G_75 := (hNn_51).tr hN_75
  have hg_77 := hb_752 _ _ hg_53
  have hd_78 := jDcc.grow (hh_75.iv 0 rfl) hb_752 hE9_75 (by decide)
  have hh_79 := hh_75.sub (L1 := [(H_68.size, 2, 1, .int qc_75), (H_68.size, 2, 0, .ref qa_75), (H_20.size, 4, 9, .int ql_27), (H_20.size, 4, 8, .int qg_27), (H_20.size, 4, 11, .int qv_27), (H_20.size, 4, 4, .int qb_27), (H_20.size, 4, 7, .int qf_27), (H_20.size, 4, 2, .int qk_27), (H_20.size, 4, 5, .int qp_27), (H_20.size, 4, 6, .int qo_27), (s.heap.size, 2, 1, .int qc_6), (s.heap.size, 2, 0, .ref qa_6)]) [0, 1, 2, 3, 4, 5, 6, 7, 8, 9, 10, 11] rfl (M1 := []) [] rfl (I1 := [(jFl, jLs dC dI ca G_51 0 none), (jFs11, jSef dC dI G_51)]) [1, 2] rfl
  clear hh_75
  have hh_80 := hh_79.addI (jDcc.ie hd_78)
  clear hh_79
  have hd_81 := jLs.grow (hh_80.iv 1 rfl) hb_752 hL_75 (by decide)
  have hh_82 := hh_80.sub (L1 := [(H_68.size, 2, 1, .int qc_75), (H_68.size, 2, 0, .ref qa_75), (H_20.size, 4, 9, .int ql_27), (H_20.size, 4, 8, .int qg_27), (H_20.size, 4, 11, .int qv_27), (H_20.size, 4, 4, .int qb_27), (H_20.size, 4, 7, .int qf_27), (H_20.size, 4, 2, .int qk_27), (H_20.size, 4, 5, .int qp_27), (H_20.size, 4, 6, .int qo_27), (s.heap.size, 2, 1, .int qc_6), (s.heap.size, 2, 0, .ref qa_6)]) [0, 1, 2, 3, 4, 5, 6, 7, 8, 9, 10, 11] rfl (M1 := []) [] rfl (I1 := [(jFdo, jDcc dC dI ca G_75 none ph), (jFs11, jSef dC dI G_51)]) [0, 2] rfl
  clear hh_80
  have hh_83 := hh_82.addI (jLs.ie hd_81)
  clear hh_82
  have hd_84 := jSef.grow (hh_83.iv 2 rfl) hb_752 hM_75 (by decide)
  have hh_85 := hh_83.sub (L1 := [(H_68.size, 2, 1, .int qc_75), (H_68.size, 2, 0, .ref qa_75), (H_20.size, 4, 9, .int ql_27), (H_20.size, 4, 8, .int qg_27), (H_20.size, 4, 11, .int qv_27), (H_20.size, 4, 4, .int qb_27), (H_20.size, 4, 7, .int qf_27), (H_20.size, 4, 2, .int qk_27), (H_20.size, 4, 5, .int qp_27), (H_20.size, 4, 6, .int qo_27), (s.heap.size, 2, 1, .int qc_6), (s.heap.size, 2, 0, .ref qa_6)]) [0, 1, 2, 3, 4, 5, 6, 7, 8, 9, 10, 11] rfl (M1 := []) [] rfl (I1 := [(jFl, jLs dC dI ca G_75 0 none), (jFdo, jDcc dC dI ca G_75 none ph)]) [0, 1] rfl
  clear hh_83
  have hh_86 := hh_85.addI (jSef.ie hd_84)
  clear hh_85
  have hh_87 := hh_86.addIs hbE_75
  try simp only at hr_76
  obtain ⟨hr_76_0, hr_76_1⟩ := hr_76
  have hkp_88 := hkp_72.in hbX_75 hsy_70
  have hraw_89x := hbX_75.ke hraw_73.lt hne_74 hraw_73n
  clear hne_74
  have hraw_89 := hraw_73.kept hraw_89x.1
  refine j7_putRF hx hb hown hK hh_87 hB hAp hraw_89 hraw_89x.2 hbr0 (C := RX11) (T := TX11) (N := 19) rfl (i := 3) (by decide) (Nat.le_of_ble_eq_true rfl) hly_13_3 rfl hin2 rfl hlk_32 (ty := (.object "ProofServer$Bytes")) (v := .ref H_68.size) (by decide +kernel) rfl rfl dX11_init_51 (fun H_90 locs_90 hraw_90 hr_90 hh_90 => ?_)
  have hraw_90 : va_at (dC, dI) vwCl (r0, .inr (13, [.ref s.heap.size, .ref H_20.size, .ref H_44.size, .ref H_68.size, .null, .null, .null, .null, .null, .null, .null, .int 0, .int 0, .int 0, .int 0, .null, .null, .null, .int 0])) H_90 := hraw_90
  have hkp_91 := hkp_88.put hr_90
  clear hh_87
  refine lv_aload_n hx hb dX11_init_54 rfl (lv_at hl 0 rfl) ?_
  clear hsz_75 htt_75 hrc_75 hrs_75
  (try clear hb_754); (try clear hb_755); (try clear hz_75)
  have hsz_92 := hh_90.2.2.2.2.2.1
  have htt_92 := hh_90.2.2.2.2.2.2.1
  refine j7_newo (k := 2) (C := RX0) (T := TX0) (N := 2) (fs := [.null, .int 0]) hx hb htw jWc_wsX00 (fun k => ([(.array .byte), .int] : List FieldType).getD k .int) (by decide +kernel) hown (htw (.classLink RX11 7 RX0) (jWr_1 _ (List.mem_of_getElem? (i := 12) rfl))) (htw (.instantiable RX0 2) (jWr_1 _ (List.mem_of_getElem? (i := 13) rfl))) (htw (.initialized RX0) (jWr_1 _ (List.mem_of_getElem? (i := 14) rfl))) hK rfl (fun j hj => by rcases (by omega : j = 0 ∨ j = 1) with rfl | rfl <;> rfl) hh_90 hB (by rw [hRc]; omega) (by rw [hRs]; omega) dX11_init_55 (fun H_92 hraw_92 hfr_92 hnr_92 hh_92 => ?_)
  have hlt_93 := hraw_90.lt
  have hke_92 : jKe G_75 G_75 H_90 H_92 := jKe.raw hfr_92
  have hbr_92 : base ≤ H_90.size := Nat.le_trans hbs hh_90.1.1
  have hsy_92 : s.heap.size ≤ H_90.size := hh_90.1.1
  clear hh_90
  have hkp_94 := hkp_91.tr hke_92
  have hraw_95n := hke_92.nr hraw_90.lt hraw_89x.2
  have hraw_95 := hraw_90.kept (hke_92.1 _ hraw_90.lt)
  have hne_96 : r0 ≠ H_90.size := Nat.ne_of_lt hlt_93
  refine lv_dup hx hb dX11_init_58 rfl ?_
  refine lv_sipush (v := 1024) hx hb dX11_init_59 (by decide) ?_
  clear hsz_92 htt_92
  have hsz_97 := hh_92.2.2.2.2.2.1
  have htt_97 := hh_92.2.2.2.2.2.2.1
  refine W.room (fun hrc_97 hrs_97 => ?_)
  refine va_callv (A0 := jA base) (H0 := s.heap) (va_runI (As := [.int 1024]) (rest := [.ref H_90.size, .ref r0]) ⟨hx, hb, hml, hown, hts⟩ (uX0_initY l dC dI ca base B hB hAp hB2 hB196 G_75 H_92 H_90.size 1024 0 LC LS) (cwI 1 hts (jgW (jWr_3 _ (List.mem_of_getElem? (i := 3) rfl))) rfl rfl rfl (htw (.initialized RX0) (jWr_1 _ (List.mem_of_getElem? (i := 14) rfl))) (htw (.methodLink RX11 11 yX0_init) (jWr_3 _ (List.mem_of_getElem? (i := 1) rfl))) (htw (.instanceMethod yX0_init) (jWr_3 _ (List.mem_of_getElem? (i := 2) rfl))) rfl (by decide +kernel) ⟨by rw [← hR]; exact Nat.le_of_ble_eq_true rfl, by rw [← hR]; exact Nat.le_of_ble_eq_true rfl⟩) ⟨fun a U g mk q => by obtain ⟨q0, q1, q2, qK, q10, q11, q12, q13, q14, q15⟩ := q; exact ⟨q0, q1, q2, jG.calling g mk a qK, q10, q11, q12, q13, q14, q15⟩, fun U hU hW => ⟨rfl, hU, hh_92.2.1, hG.step hW hU hh_92.1, hraw_92, hnr_92, hbr_92, jP.nil, (hh_92.2.2.2.2.2.2.2.2.sub (L1 := [(jFy, jYb dC dI G_75)]) [0] rfl), (by omega), (by omega), ⟨(by first | omega | rfl | assumption | exact fun _ => ⟨6, by decide, by decide⟩), (by first | omega | rfl | assumption | exact fun _ => ⟨6, by decide, by decide⟩), (by first | omega | rfl | assumption | exact fun _ => ⟨6, by decide, by decide⟩), (by first | assumption | exact fun _ => ⟨6, by decide, by decide⟩ | omega), (by first | omega | rfl | assumption | exact fun _ => ⟨6, by decide, by decide⟩)⟩⟩⟩ rfl rfl hl.1 rfl (lv_room (Nat.le_of_ble_eq_true rfl)) dX11_init_62 ⟨by rw [hRc]; omega, by rw [hRs]; omega⟩) hh_92.1 (fun q _ h => h) (fun q h => h) (fun u_97 t_97 H_97 locs_97 ht_97 hvm_97 hr_98 hb_97 hz_97 hk_97 hS_97 => ?_)
  obtain ⟨qc_97, qa_97, m_qa_97, G_97⟩ := u_97
  rw [ht_97] at hb_97
  simp only at hb_97
  obtain ⟨⟨hb_971, hb_972, hb_973, hb_974, hb_975, hb_976⟩, hgq_97_0, hN_97, hgc_97, hbX_97, hbE_97⟩ := hb_97
  have hE9_97 := hN_97
  have hn3_97 : jNk [3] G0 G_97 := (hn3_75).tr (hE9_97.sub (ks1 := [3]) (by decide))
  have hL_97 := hN_97
  have hM_97 := hN_97
  have hN_97 : (jNk [0, 5, 10, 14, 15, 16]) G_75 G_97 := hN_97.sub (by decide)
  have hh_97 : jSt (dC, dI) B base G0 G_97 EX11_init s.heap ((((((((((0 + 1) + (1)) + 1) + (1)) + 1) + (8)) + 1) + (1)) + 1) + (1)) ((((((((((0 + 2) + (4000)) + 12) + (3000)) + 12) + (12012)) + 2) + (20000)) + 2) + (1024)) [(H_90.size, 2, 1, .int qc_97), (H_90.size, 2, 0, .ref qa_97), (H_68.size, 2, 1, .int qc_75), (H_68.size, 2, 0, .ref qa_75), (H_20.size, 4, 9, .int ql_27), (H_20.size, 4, 8, .int qg_27), (H_20.size, 4, 11, .int qv_27), (H_20.size, 4, 4, .int qb_27), (H_20.size, 4, 7, .int qf_27), (H_20.size, 4, 2, .int qk_27), (H_20.size, 4, 5, .int qp_27), (H_20.size, 4, 6, .int qo_27), (s.heap.size, 2, 1, .int qc_6), (s.heap.size, 2, 0, .ref qa_6)] [] [(jFs11, jSef dC dI G_75), (jFl, jLs dC dI ca G_75 0 none), (jFdo, jDcc dC dI ca G_75 none ph)] H_97 locs_97 := (hh_92.callG hb_971 hb_972 hb_973 hb_974 hb_975 hS_97 rfl (L1 := [(H_68.size, 2, 1, .int qc_75), (H_68.size, 2, 0, .ref qa_75), (H_20.size, 4, 9, .int ql_27), (H_20.size, 4, 8, .int qg_27), (H_20.size, 4, 11, .int qv_27), (H_20.size, 4, 4, .int qb_27), (H_20.size, 4, 7, .int qf_27), (H_20.size, 4, 2, .int qk_27), (H_20.size, 4, 5, .int qp_27), (H_20.size, 4, 6, .int qo_27), (s.heap.size, 2, 1, .int qc_6), (s.heap.size, 2, 0, .ref qa_6)]) [0, 1, 2, 3, 4, 5, 6, 7, 8, 9, 10, 11] rfl rfl (M1 := []) [] rfl rfl (I1 := [(jFs11, jSef dC dI G_75), (jFl, jLs dC dI ca G_75 0 none), (jFdo, jDcc dC dI ca G_75 none ph)]) [1, 2, 3] rfl rfl).more hb_976
  have hNn_97 : (jNk [0, 5, 10, 14, 15, 16]) G0 G_97 := (hNn_75).tr hN_97
  have hg_99 := hb_972 _ _ hgq_75_0
  have hg_100 := hb_972 _ _ hg_77
  have hd_101 := jSef.grow (hh_97.iv 0 rfl) hb_972 hM_97 (by decide)
  have hh_102 := hh_97.sub (L1 := [(H_90.size, 2, 1, .int qc_97), (H_90.size, 2, 0, .ref qa_97), (H_68.size, 2, 1, .int qc_75), (H_68.size, 2, 0, .ref qa_75), (H_20.size, 4, 9, .int ql_27), (H_20.size, 4, 8, .int qg_27), (H_20.size, 4, 11, .int qv_27), (H_20.size, 4, 4, .int qb_27), (H_20.size, 4, 7, .int qf_27), (H_20.size, 4, 2, .int qk_27), (H_20.size, 4, 5, .int qp_27), (H_20.size, 4, 6, .int qo_27), (s.heap.size, 2, 1, .int qc_6), (s.heap.size, 2, 0, .ref qa_6)]) [0, 1, 2, 3, 4, 5, 6, 7, 8, 9, 10, 11, 12, 13] rfl (M1 := []) [] rfl (I1 := [(jFl, jLs dC dI ca G_75 0 none), (jFdo, jDcc dC dI ca G_75 none ph)]) [1, 2] rfl
  clear hh_97
  have hh_103 := hh_102.addI (jSef.ie hd_101)
  clear hh_102
  have hd_104 := jLs.grow (hh_103.iv 1 rfl) hb_972 hL_97 (by decide)
  have hh_105 := hh_103.sub (L1 := [(H_90.size, 2, 1, .int qc_97), (H_90.size, 2, 0, .ref qa_97), (H_68.size, 2, 1, .int qc_75), (H_68.size, 2, 0, .ref qa_75), (H_20.size, 4, 9, .int ql_27), (H_20.size, 4, 8, .int qg_27), (H_20.size, 4, 11, .int qv_27), (H_20.size, 4, 4, .int qb_27), (H_20.size, 4, 7, .int qf_27), (H_20.size, 4, 2, .int qk_27), (H_20.size, 4, 5, .int qp_27), (H_20.size, 4, 6, .int qo_27), (s.heap.size, 2, 1, .int qc_6), (s.heap.size, 2, 0, .ref qa_6)]) [0, 1, 2, 3, 4, 5, 6, 7, 8, 9, 10, 11, 12, 13] rfl (M1 := []) [] rfl (I1 := [(jFs11, jSef dC dI G_97), (jFdo, jDcc dC dI ca G_75 none ph)]) [0, 2] rfl
  clear hh_103
  have hh_106 := hh_105.addI (jLs.ie hd_104)
  clear hh_105
  have hd_107 := jDcc.grow (hh_106.iv 2 rfl) hb_972 hE9_97 (by decide)
  have hh_108 := hh_106.sub (L1 := [(H_90.size, 2, 1, .int qc_97), (H_90.size, 2, 0, .ref qa_97), (H_68.size, 2, 1, .int qc_75), (H_68.size, 2, 0, .ref qa_75), (H_20.size, 4, 9, .int ql_27), (H_20.size, 4, 8, .int qg_27), (H_20.size, 4, 11, .int qv_27), (H_20.size, 4, 4, .int qb_27), (H_20.size, 4, 7, .int qf_27), (H_20.size, 4, 2, .int qk_27), (H_20.size, 4, 5, .int qp_27), (H_20.size, 4, 6, .int qo_27), (s.heap.size, 2, 1, .int qc_6), (s.heap.size, 2, 0, .ref qa_6)]) [0, 1, 2, 3, 4, 5, 6, 7, 8, 9, 10, 11, 12, 13] rfl (M1 := []) [] rfl (I1 := [(jFl, jLs dC dI ca G_97 0 none), (jFs11, jSef dC dI G_97)]) [0, 1] rfl
  clear hh_106
  have hh_109 := hh_108.addI (jDcc.ie hd_107)
  clear hh_108
  have hh_110 := hh_109.addIs hbE_97
  try simp only at hr_98
  obtain ⟨hr_98_0, hr_98_1⟩ := hr_98
  have hkp_111 := hkp_94.in hbX_97 hsy_92
  have hraw_112x := hbX_97.ke hraw_95.lt hne_96 hraw_95n
  clear hne_96
  have hraw_112 := hraw_95.kept hraw_112x.1
  refine j7_putRF hx hb hown hK hh_110 hB hAp hraw_112 hraw_112x.2 hbr0 (C := RX11) (T := TX11) (N := 19) rfl (i := 4) (by decide) (Nat.le_of_ble_eq_true rfl) hly_13_4 rfl hin2 rfl hlk_35 (ty := (.object "ProofServer$Bytes")) (v := .ref H_90.size) (by decide +kernel) rfl rfl dX11_init_65 (fun H_113 locs_113 hraw_113 hr_113 hh_113 => ?_)
  have hraw_113 : va_at (dC, dI) vwCl (r0, .inr (13, [.ref s.heap.size, .ref H_20.size, .ref H_44.size, .ref H_68.size, .ref H_90.size, .null, .null, .null, .null, .null, .null, .int 0, .int 0, .int 0, .int 0, .null, .null, .null, .int 0])) H_113 := hraw_113
  have hkp_114 := hkp_111.put hr_113
  clear hh_110
  refine lv_aload_n hx hb dX11_init_68 rfl (lv_at hl 0 rfl) ?_
  clear hsz_97 htt_97 hrc_97 hrs_97
  (try clear hb_974); (try clear hb_975); (try clear hz_97)
  have hsz_115 := hh_113.2.2.2.2.2.1
  have htt_115 := hh_113.2.2.2.2.2.2.1
  refine j7_newo (k := 7) (C := RX5) (T := TX5) (N := 11) (fs := [.null, .null, .null, .null, .null, .null, .null, .null, .null, .null, .int 0]) hx hb htw jWc_wsX50 (fun k => ([(.object "ProofServer$Names"), (.object "ProofServer$Syntax"), (.object "ProofServer$State"), (.array .int), (.array .int), (.array .int), (.array .int), (.array .int), (.array .int), (.array (.object "ProofServer$Goal")), .int] : List FieldType).getD k .int) (by decide +kernel) hown (htw (.classLink RX11 38 RX5) (jWr_2 _ (List.mem_of_getElem? (i := 2) rfl))) (htw (.instantiable RX5 11) (jWr_2 _ (List.mem_of_getElem? (i := 3) rfl))) (htw (.initialized RX5) (jWr_2 _ (List.mem_of_getElem? (i := 4) rfl))) hK rfl (fun j hj => by rcases (by omega : j = 0 ∨ j = 1 ∨ j = 2 ∨ j = 3 ∨ j = 4 ∨ j = 5 ∨ j = 6 ∨ j = 7 ∨ j = 8 ∨ j = 9 ∨ j = 10) with rfl | rfl | rfl | rfl | rfl | rfl | rfl | rfl | rfl | rfl | rfl <;> rfl) hh_113 hB (by rw [hRc]; omega) (by rw [hRs]; omega) dX11_init_69 (fun H_115 hraw_115 hfr_115 hnr_115 hh_115 => ?_)
  have hlt_116 := hraw_113.lt
  have hke_115 : jKe G_97 G_97 H_113 H_115 := jKe.raw hfr_115
  have hbr_115 : base ≤ H_113.size := Nat.le_trans hbs hh_113.1.1
  have hsy_115 : s.heap.size ≤ H_113.size := hh_113.1.1
  clear hh_113
  have hkp_117 := hkp_114.tr hke_115
  have hraw_118n := hke_115.nr hraw_113.lt hraw_112x.2
  have hraw_118 := hraw_113.kept (hke_115.1 _ hraw_113.lt)
  have hne_119 : r0 ≠ H_113.size := Nat.ne_of_lt hlt_116
  refine lv_dup hx hb dX11_init_72 rfl ?_
  clear hsz_115 htt_115
  have hsz_120 := hh_115.2.2.2.2.2.1
  have htt_120 := hh_115.2.2.2.2.2.2.1
  refine W.room (fun hrc_120 hrs_120 => ?_)
  refine va_callv (A0 := jA base) (H0 := s.heap) (va_runIN (As := []) (rest := [.ref H_113.size, .ref r0]) ⟨hx, hb, hml, hown, hts⟩ (uX5_init l dC dI ca base B hB hAp hB5 hB7 hB8 hB11 hB12 hB101 hB102 hB132 hB133 hB211 hB214 hB280 hB290 hB291 hB292 hB293 hB313 G_97 H_115 H_113.size LC LS) ⟨va_cnB 0 hts (jgW (jWr_4 _ (List.mem_of_getElem? (i := 6) rfl))) rfl rfl rfl (hG.2.2.1 RX11 40 yX5_init "ProofServer" (List.mem_of_getElem? (i := 154) (by decide +kernel))) (htw (.initialized RX5) (jWr_2 _ (List.mem_of_getElem? (i := 4) rfl))) (by decide +kernel) ⟨by rw [← hR]; exact Nat.le_of_ble_eq_true rfl, by rw [← hR]; exact Nat.le_of_ble_eq_true rfl⟩, rfl, htw (.instanceMethod yX5_init) (jWr_4 _ (List.mem_of_getElem? (i := 5) rfl))⟩ ⟨fun a U g mk q => by obtain ⟨q0, q1, q2, qK, q10, q11, q12, q13, q14, q15, q16, q17, q18⟩ := q; exact ⟨q0, q1, q2, jG.calling g mk a qK, (va_K.moved (Vm.Alike.refl U.vm) q10), (jK5.moved (Vm.Alike.refl U.vm) q11), (jK6.moved (Vm.Alike.refl U.vm) q12), q13, q14, q15, q16, q17, q18⟩, fun U hU hW => ⟨rfl, hU, hh_115.2.1, hG.step hW hU hh_115.1, va_K.moved hW.alike hK2, jK5.moved hW.alike hK5, jK6.moved hW.alike hK6, hraw_115, hnr_115, hbr_115, jP.nil, (hh_115.2.2.2.2.2.2.2.2.sub (L1 := [(jFs11, jSef dC dI G_97)]) [3] rfl), (by omega), (by omega), trivial⟩⟩ rfl rfl hl.1 rfl (lv_room (Nat.le_of_ble_eq_true rfl)) dX11_init_73 ⟨by rw [hRc]; omega, by rw [hRs]; omega⟩) hh_115.1 (fun q _ h => h) (fun q h => h) (fun u_120 t_120 H_120 locs_120 ht_120 hvm_120 hr_121 hb_120 hz_120 hk_120 hS_120 => ?_)
  rw [ht_120] at hb_120
  obtain ⟨G_120, rfl⟩ : ∃ z, z = u_120 := ⟨_, rfl⟩
  try simp only at hb_120
  obtain ⟨⟨hb_1201, hb_1202, hb_1203, hb_1204, hb_1205, hb_1206⟩, hN_120, hgc_120, hbX_120, hbE_120⟩ := hb_120
  have hE9_120 := hN_120
  have hn3_120 : jNk [3] G0 G_120 := (hn3_97).tr (hE9_120.sub (ks1 := [3]) (by decide))
  have hL_120 := hN_120
  have hY_120 := hN_120
  have hN_120 : (jNk [0, 5, 10, 14, 15, 16]) G_97 G_120 := hN_120.sub (by decide)
  have hh_120 : jSt (dC, dI) B base G0 G_120 EX11_init s.heap ((((((((((((0 + 1) + (1)) + 1) + (1)) + 1) + (8)) + 1) + (1)) + 1) + (1)) + 1) + (24)) ((((((((((((0 + 2) + (4000)) + 12) + (3000)) + 12) + (12012)) + 2) + (20000)) + 2) + (1024)) + 11) + (38990)) [(H_90.size, 2, 1, .int qc_97), (H_90.size, 2, 0, .ref qa_97), (H_68.size, 2, 1, .int qc_75), (H_68.size, 2, 0, .ref qa_75), (H_20.size, 4, 9, .int ql_27), (H_20.size, 4, 8, .int qg_27), (H_20.size, 4, 11, .int qv_27), (H_20.size, 4, 4, .int qb_27), (H_20.size, 4, 7, .int qf_27), (H_20.size, 4, 2, .int qk_27), (H_20.size, 4, 5, .int qp_27), (H_20.size, 4, 6, .int qo_27), (s.heap.size, 2, 1, .int qc_6), (s.heap.size, 2, 0, .ref qa_6)] [] [(jFy, jYb dC dI G_97), (jFdo, jDcc dC dI ca G_97 none ph), (jFl, jLs dC dI ca G_97 0 none)] H_120 locs_120 := (hh_115.callG hb_1201 hb_1202 hb_1203 hb_1204 hb_1205 hS_120 rfl (L1 := [(H_90.size, 2, 1, .int qc_97), (H_90.size, 2, 0, .ref qa_97), (H_68.size, 2, 1, .int qc_75), (H_68.size, 2, 0, .ref qa_75), (H_20.size, 4, 9, .int ql_27), (H_20.size, 4, 8, .int qg_27), (H_20.size, 4, 11, .int qv_27), (H_20.size, 4, 4, .int qb_27), (H_20.size, 4, 7, .int qf_27), (H_20.size, 4, 2, .int qk_27), (H_20.size, 4, 5, .int qp_27), (H_20.size, 4, 6, .int qo_27), (s.heap.size, 2, 1, .int qc_6), (s.heap.size, 2, 0, .ref qa_6)]) [0, 1, 2, 3, 4, 5, 6, 7, 8, 9, 10, 11, 12, 13] rfl rfl (M1 := []) [] rfl rfl (I1 := [(jFy, jYb dC dI G_97), (jFdo, jDcc dC dI ca G_97 none ph), (jFl, jLs dC dI ca G_97 0 none)]) [0, 1, 2] rfl rfl).more hb_1206
  have hNn_120 : (jNk [0, 5, 10, 14, 15, 16]) G0 G_120 := (hNn_97).tr hN_120
  have hg_122 := hb_1202 _ _ hgq_97_0
  have hg_123 := hb_1202 _ _ hg_99
  have hg_124 := hb_1202 _ _ hg_100
  have hd_125 := jYb.grow (hh_120.iv 0 rfl) hb_1202 hY_120 (by decide)
  have hh_126 := hh_120.sub (L1 := [(H_90.size, 2, 1, .int qc_97), (H_90.size, 2, 0, .ref qa_97), (H_68.size, 2, 1, .int qc_75), (H_68.size, 2, 0, .ref qa_75), (H_20.size, 4, 9, .int ql_27), (H_20.size, 4, 8, .int qg_27), (H_20.size, 4, 11, .int qv_27), (H_20.size, 4, 4, .int qb_27), (H_20.size, 4, 7, .int qf_27), (H_20.size, 4, 2, .int qk_27), (H_20.size, 4, 5, .int qp_27), (H_20.size, 4, 6, .int qo_27), (s.heap.size, 2, 1, .int qc_6), (s.heap.size, 2, 0, .ref qa_6)]) [0, 1, 2, 3, 4, 5, 6, 7, 8, 9, 10, 11, 12, 13] rfl (M1 := []) [] rfl (I1 := [(jFdo, jDcc dC dI ca G_97 none ph), (jFl, jLs dC dI ca G_97 0 none)]) [1, 2] rfl
  clear hh_120
  have hh_127 := hh_126.addI (jYb.ie hd_125)
  clear hh_126
  have hd_128 := jDcc.grow (hh_127.iv 1 rfl) hb_1202 hE9_120 (by decide)
  have hh_129 := hh_127.sub (L1 := [(H_90.size, 2, 1, .int qc_97), (H_90.size, 2, 0, .ref qa_97), (H_68.size, 2, 1, .int qc_75), (H_68.size, 2, 0, .ref qa_75), (H_20.size, 4, 9, .int ql_27), (H_20.size, 4, 8, .int qg_27), (H_20.size, 4, 11, .int qv_27), (H_20.size, 4, 4, .int qb_27), (H_20.size, 4, 7, .int qf_27), (H_20.size, 4, 2, .int qk_27), (H_20.size, 4, 5, .int qp_27), (H_20.size, 4, 6, .int qo_27), (s.heap.size, 2, 1, .int qc_6), (s.heap.size, 2, 0, .ref qa_6)]) [0, 1, 2, 3, 4, 5, 6, 7, 8, 9, 10, 11, 12, 13] rfl (M1 := []) [] rfl (I1 := [(jFy, jYb dC dI G_120), (jFl, jLs dC dI ca G_97 0 none)]) [0, 2] rfl
  clear hh_127
  have hh_130 := hh_129.addI (jDcc.ie hd_128)
  clear hh_129
  have hd_131 := jLs.grow (hh_130.iv 2 rfl) hb_1202 hL_120 (by decide)
  have hh_132 := hh_130.sub (L1 := [(H_90.size, 2, 1, .int qc_97), (H_90.size, 2, 0, .ref qa_97), (H_68.size, 2, 1, .int qc_75), (H_68.size, 2, 0, .ref qa_75), (H_20.size, 4, 9, .int ql_27), (H_20.size, 4, 8, .int qg_27), (H_20.size, 4, 11, .int qv_27), (H_20.size, 4, 4, .int qb_27), (H_20.size, 4, 7, .int qf_27), (H_20.size, 4, 2, .int qk_27), (H_20.size, 4, 5, .int qp_27), (H_20.size, 4, 6, .int qo_27), (s.heap.size, 2, 1, .int qc_6), (s.heap.size, 2, 0, .ref qa_6)]) [0, 1, 2, 3, 4, 5, 6, 7, 8, 9, 10, 11, 12, 13] rfl (M1 := []) [] rfl (I1 := [(jFdo, jDcc dC dI ca G_120 none ph), (jFy, jYb dC dI G_120)]) [0, 1] rfl
  clear hh_130
  have hh_133 := hh_132.addI (jLs.ie hd_131)
  clear hh_132
  have hh_134 := hh_133.addIs hbE_120
  try simp only at hr_121
  have hkp_135 := hkp_117.in hbX_120 hsy_115
  have hraw_136x := hbX_120.ke hraw_118.lt hne_119 hraw_118n
  clear hne_119
  have hraw_136 := hraw_118.kept hraw_136x.1
  refine j7_putRF hx hb hown hK hh_134 hB hAp hraw_136 hraw_136x.2 hbr0 (C := RX11) (T := TX11) (N := 19) rfl (i := 5) (by decide) (Nat.le_of_ble_eq_true rfl) hly_13_5 rfl hin2 rfl hlk_41 (ty := (.object "ProofServer$Kernel")) (v := .ref H_113.size) (by decide +kernel) rfl rfl dX11_init_76 (fun H_137 locs_137 hraw_137 hr_137 hh_137 => ?_)
  have hraw_137 : va_at (dC, dI) vwCl (r0, .inr (13, [.ref s.heap.size, .ref H_20.size, .ref H_44.size, .ref H_68.size, .ref H_90.size, .ref H_113.size, .null, .null, .null, .null, .null, .int 0, .int 0, .int 0, .int 0, .null, .null, .null, .int 0])) H_137 := hraw_137
  have hkp_138 := hkp_135.put hr_137
  clear hh_134
  refine lv_aload_n hx hb dX11_init_79 rfl (lv_at hl 0 rfl) ?_
  clear hsz_120 htt_120 hrc_120 hrs_120
  (try clear hb_1204); (try clear hb_1205); (try clear hz_120)
  have hsz_139 := hh_137.2.2.2.2.2.1
  have htt_139 := hh_137.2.2.2.2.2.2.1
  refine j7_newo (k := 9) (C := RX7) (T := TX7) (N := 5) (fs := [.null, .null, .int 0, .null, .null]) hx hb htw jWc_wsX70 (fun k => ([(.object "ProofServer$Names"), (.array .int), .int, (.array .int), (.array .int)] : List FieldType).getD k .int) (by decide +kernel) hown (htw (.classLink RX11 45 RX7) (jWr_2 _ (List.mem_of_getElem? (i := 6) rfl))) (htw (.instantiable RX7 5) (jWr_2 _ (List.mem_of_getElem? (i := 7) rfl))) (htw (.initialized RX7) (jWr_2 _ (List.mem_of_getElem? (i := 8) rfl))) hK rfl (fun j hj => by rcases (by omega : j = 0 ∨ j = 1 ∨ j = 2 ∨ j = 3 ∨ j = 4) with rfl | rfl | rfl | rfl | rfl <;> rfl) hh_137 hB (by rw [hRc]; omega) (by rw [hRs]; omega) dX11_init_80 (fun H_139 hraw_139 hfr_139 hnr_139 hh_139 => ?_)
  have hlt_140 := hraw_137.lt
  have hke_139 : jKe G_120 G_120 H_137 H_139 := jKe.raw hfr_139
  have hbr_139 : base ≤ H_137.size := Nat.le_trans hbs hh_137.1.1
  have hsy_139 : s.heap.size ≤ H_137.size := hh_137.1.1
  clear hh_137
  have hkp_141 := hkp_138.tr hke_139
  have hraw_142n := hke_139.nr hraw_137.lt hraw_136x.2
  have hraw_142 := hraw_137.kept (hke_139.1 _ hraw_137.lt)
  have hne_143 : r0 ≠ H_137.size := Nat.ne_of_lt hlt_140
  refine lv_dup hx hb dX11_init_83 rfl ?_
  refine lv_aload_n hx hb dX11_init_84 rfl (lv_at hl 0 rfl) ?_
  refine j7_read hx hb hown hK (C := RX11) (T := TX11) (N := 19) rfl hly_13_5 hlk_41 (jf.raw (C := RX11) (T := TX11) (N := 19) rfl hraw_142 (i := 5) (by decide)) dX11_init_85 ?_
  have hg_144 := (jLe.rf) _ _ hgc_120
  obtain ⟨v_145, hv_145, hh_146⟩ := hh_139.pin (C := RX5) (T := TX5) (N := 11) hB7 rfl (by decide) hg_144 (i := 0) (by decide) rfl
  clear hh_139
  obtain ⟨names_147, rfl, hg_names_147⟩ := hv_145
  refine j7_read hx hb hown hK (C := RX5) (T := TX5) (N := 11) rfl hly_7_0 hlk_47 (hh_146.at 0 rfl) dX11_init_88 ?_
  clear hsz_139 htt_139
  have hsz_148 := hh_146.2.2.2.2.2.1
  have htt_148 := hh_146.2.2.2.2.2.2.1
  refine W.room (fun hrc_148 hrs_148 => ?_)
  refine va_callv (A0 := jA base) (H0 := s.heap) (va_runI (As := [.ref names_147]) (rest := [.ref H_137.size, .ref r0]) ⟨hx, hb, hml, hown, hts⟩ (uX7_init l dC dI ca base B hB hAp hB8 hB9 hB286 hB287 hB288 G_120 H_139 H_137.size names_147 LC LS) (cwI 1 hts (jgW (jWr_9 _ (List.mem_of_getElem? (i := 5) rfl))) rfl rfl rfl (htw (.initialized RX7) (jWr_2 _ (List.mem_of_getElem? (i := 8) rfl))) (htw (.methodLink RX11 51 yX7_init) (jWr_9 _ (List.mem_of_getElem? (i := 3) rfl))) (htw (.instanceMethod yX7_init) (jWr_9 _ (List.mem_of_getElem? (i := 4) rfl))) rfl (by decide +kernel) ⟨by rw [← hR]; exact Nat.le_of_ble_eq_true rfl, by rw [← hR]; exact Nat.le_of_ble_eq_true rfl⟩) ⟨fun a U g mk q => by obtain ⟨q0, q1, q2, qK, q10, q11, q12, q13, q14, q15⟩ := q; exact ⟨q0, q1, q2, jG.calling g mk a qK, q10, q11, q12, q13, q14, q15⟩, fun U hU hW => ⟨rfl, hU, hh_146.2.1, hG.step hW hU hh_146.1, hg_names_147, hraw_139, hnr_139, hbr_139, jP.nil, (by omega), (by omega), trivial⟩⟩ rfl rfl hl.1 rfl (lv_room (Nat.le_of_ble_eq_true rfl)) dX11_init_91 ⟨by rw [hRc]; omega, by rw [hRs]; omega⟩) hh_146.1 (fun q _ h => h) (fun q h => h) (fun u_148 t_148 H_148 locs_148 ht_148 hvm_148 hr_149 hb_148 hz_148 hk_148 hS_148 => ?_)
  rw [ht_148] at hb_148
  obtain ⟨G_148, rfl⟩ : ∃ z, z = u_148 := ⟨_, rfl⟩
  try simp only at hb_148
  obtain ⟨⟨hb_1481, hb_1482, hb_1483, hb_1484, hb_1485, hb_1486⟩, hN_148, hgc_148, hbX_148⟩ := hb_148
  have hE9_148 := hN_148
  have hn3_148 : jNk [3] G0 G_148 := (hn3_120).tr (hE9_148.sub (ks1 := [3]) (by decide))
  have hL_148 := hN_148
  have hY_148 := hN_148
  have hM_148 := hN_148
  have hN_148 : (jNk [0, 5, 10, 14, 15, 16]) G_120 G_148 := hN_148.sub (by decide)
  have hh_148 : jSt (dC, dI) B base G0 G_148 EX11_init s.heap ((((((((((((((0 + 1) + (1)) + 1) + (1)) + 1) + (8)) + 1) + (1)) + 1) + (1)) + 1) + (24)) + 1) + (3)) ((((((((((((((0 + 2) + (4000)) + 12) + (3000)) + 12) + (12012)) + 2) + (20000)) + 2) + (1024)) + 11) + (38990)) + 5) + (826)) [(H_113.size, 7, 0, .ref names_147), (H_90.size, 2, 1, .int qc_97), (H_90.size, 2, 0, .ref qa_97), (H_68.size, 2, 1, .int qc_75), (H_68.size, 2, 0, .ref qa_75), (H_20.size, 4, 9, .int ql_27), (H_20.size, 4, 8, .int qg_27), (H_20.size, 4, 11, .int qv_27), (H_20.size, 4, 4, .int qb_27), (H_20.size, 4, 7, .int qf_27), (H_20.size, 4, 2, .int qk_27), (H_20.size, 4, 5, .int qp_27), (H_20.size, 4, 6, .int qo_27), (s.heap.size, 2, 1, .int qc_6), (s.heap.size, 2, 0, .ref qa_6)] [] [(jFs11, jSef dC dI G_120), (jFl, jLs dC dI ca G_120 0 none), (jFdo, jDcc dC dI ca G_120 none ph), (jFy, jYb dC dI G_120)] H_148 locs_148 := (hh_146.callG hb_1481 hb_1482 hb_1483 hb_1484 hb_1485 hS_148 rfl (L1 := [(H_113.size, 7, 0, .ref names_147), (H_90.size, 2, 1, .int qc_97), (H_90.size, 2, 0, .ref qa_97), (H_68.size, 2, 1, .int qc_75), (H_68.size, 2, 0, .ref qa_75), (H_20.size, 4, 9, .int ql_27), (H_20.size, 4, 8, .int qg_27), (H_20.size, 4, 11, .int qv_27), (H_20.size, 4, 4, .int qb_27), (H_20.size, 4, 7, .int qf_27), (H_20.size, 4, 2, .int qk_27), (H_20.size, 4, 5, .int qp_27), (H_20.size, 4, 6, .int qo_27), (s.heap.size, 2, 1, .int qc_6), (s.heap.size, 2, 0, .ref qa_6)]) [0, 1, 2, 3, 4, 5, 6, 7, 8, 9, 10, 11, 12, 13, 14] rfl rfl (M1 := []) [] rfl rfl (I1 := [(jFs11, jSef dC dI G_120), (jFl, jLs dC dI ca G_120 0 none), (jFdo, jDcc dC dI ca G_120 none ph), (jFy, jYb dC dI G_120)]) [0, 1, 2, 3] rfl rfl).more hb_1486
  have hNn_148 : (jNk [0, 5, 10, 14, 15, 16]) G0 G_148 := (hNn_120).tr hN_148
  have hg_150 := hb_1482 _ _ hg_names_147
  have hg_151 := hb_1482 _ _ hg_122
  have hg_152 := hb_1482 _ _ hg_123
  have hg_153 := hb_1482 _ _ hg_124
  have hd_154 := jSef.grow (hh_148.iv 0 rfl) hb_1482 hM_148 (by decide)
  have hh_155 := hh_148.sub (L1 := [(H_113.size, 7, 0, .ref names_147), (H_90.size, 2, 1, .int qc_97), (H_90.size, 2, 0, .ref qa_97), (H_68.size, 2, 1, .int qc_75), (H_68.size, 2, 0, .ref qa_75), (H_20.size, 4, 9, .int ql_27), (H_20.size, 4, 8, .int qg_27), (H_20.size, 4, 11, .int qv_27), (H_20.size, 4, 4, .int qb_27), (H_20.size, 4, 7, .int qf_27), (H_20.size, 4, 2, .int qk_27), (H_20.size, 4, 5, .int qp_27), (H_20.size, 4, 6, .int qo_27), (s.heap.size, 2, 1, .int qc_6), (s.heap.size, 2, 0, .ref qa_6)]) [0, 1, 2, 3, 4, 5, 6, 7, 8, 9, 10, 11, 12, 13, 14] rfl (M1 := []) [] rfl (I1 := [(jFl, jLs dC dI ca G_120 0 none), (jFdo, jDcc dC dI ca G_120 none ph), (jFy, jYb dC dI G_120)]) [1, 2, 3] rfl
  clear hh_148
  have hh_156 := hh_155.addI (jSef.ie hd_154)
  clear hh_155
  have hd_157 := jLs.grow (hh_156.iv 1 rfl) hb_1482 hL_148 (by decide)
  have hh_158 := hh_156.sub (L1 := [(H_113.size, 7, 0, .ref names_147), (H_90.size, 2, 1, .int qc_97), (H_90.size, 2, 0, .ref qa_97), (H_68.size, 2, 1, .int qc_75), (H_68.size, 2, 0, .ref qa_75), (H_20.size, 4, 9, .int ql_27), (H_20.size, 4, 8, .int qg_27), (H_20.size, 4, 11, .int qv_27), (H_20.size, 4, 4, .int qb_27), (H_20.size, 4, 7, .int qf_27), (H_20.size, 4, 2, .int qk_27), (H_20.size, 4, 5, .int qp_27), (H_20.size, 4, 6, .int qo_27), (s.heap.size, 2, 1, .int qc_6), (s.heap.size, 2, 0, .ref qa_6)]) [0, 1, 2, 3, 4, 5, 6, 7, 8, 9, 10, 11, 12, 13, 14] rfl (M1 := []) [] rfl (I1 := [(jFs11, jSef dC dI G_148), (jFdo, jDcc dC dI ca G_120 none ph), (jFy, jYb dC dI G_120)]) [0, 2, 3] rfl
  clear hh_156
  have hh_159 := hh_158.addI (jLs.ie hd_157)
  clear hh_158
  have hd_160 := jDcc.grow (hh_159.iv 2 rfl) hb_1482 hE9_148 (by decide)
  have hh_161 := hh_159.sub (L1 := [(H_113.size, 7, 0, .ref names_147), (H_90.size, 2, 1, .int qc_97), (H_90.size, 2, 0, .ref qa_97), (H_68.size, 2, 1, .int qc_75), (H_68.size, 2, 0, .ref qa_75), (H_20.size, 4, 9, .int ql_27), (H_20.size, 4, 8, .int qg_27), (H_20.size, 4, 11, .int qv_27), (H_20.size, 4, 4, .int qb_27), (H_20.size, 4, 7, .int qf_27), (H_20.size, 4, 2, .int qk_27), (H_20.size, 4, 5, .int qp_27), (H_20.size, 4, 6, .int qo_27), (s.heap.size, 2, 1, .int qc_6), (s.heap.size, 2, 0, .ref qa_6)]) [0, 1, 2, 3, 4, 5, 6, 7, 8, 9, 10, 11, 12, 13, 14] rfl (M1 := []) [] rfl (I1 := [(jFl, jLs dC dI ca G_148 0 none), (jFs11, jSef dC dI G_148), (jFy, jYb dC dI G_120)]) [0, 1, 3] rfl
  clear hh_159
  have hh_162 := hh_161.addI (jDcc.ie hd_160)
  clear hh_161
  have hd_163 := jYb.grow (hh_162.iv 3 rfl) hb_1482 hY_148 (by decide)
  have hh_164 := hh_162.sub (L1 := [(H_113.size, 7, 0, .ref names_147), (H_90.size, 2, 1, .int qc_97), (H_90.size, 2, 0, .ref qa_97), (H_68.size, 2, 1, .int qc_75), (H_68.size, 2, 0, .ref qa_75), (H_20.size, 4, 9, .int ql_27), (H_20.size, 4, 8, .int qg_27), (H_20.size, 4, 11, .int qv_27), (H_20.size, 4, 4, .int qb_27), (H_20.size, 4, 7, .int qf_27), (H_20.size, 4, 2, .int qk_27), (H_20.size, 4, 5, .int qp_27), (H_20.size, 4, 6, .int qo_27), (s.heap.size, 2, 1, .int qc_6), (s.heap.size, 2, 0, .ref qa_6)]) [0, 1, 2, 3, 4, 5, 6, 7, 8, 9, 10, 11, 12, 13, 14] rfl (M1 := []) [] rfl (I1 := [(jFdo, jDcc dC dI ca G_148 none ph), (jFl, jLs dC dI ca G_148 0 none), (jFs11, jSef dC dI G_148)]) [0, 1, 2] rfl
  clear hh_162
  have hh_165 := hh_164.addI (jYb.ie hd_163)
  clear hh_164
  try simp only at hr_149
  have hkp_166 := hkp_141.in hbX_148 hsy_139
  have hraw_167x := hbX_148.ke hraw_142.lt hne_143 hraw_142n
  clear hne_143
  have hraw_167 := hraw_142.kept hraw_167x.1
  refine j7_putRF hx hb hown hK hh_165 hB hAp hraw_167 hraw_167x.2 hbr0 (C := RX11) (T := TX11) (N := 19) rfl (i := 6) (by decide) (Nat.le_of_ble_eq_true rfl) hly_13_6 rfl hin2 rfl hlk_54 (ty := (.object "ProofServer$Printer")) (v := .ref H_137.size) (by decide +kernel) rfl rfl dX11_init_94 (fun H_168 locs_168 hraw_168 hr_168 hh_168 => ?_)
  have hraw_168 : va_at (dC, dI) vwCl (r0, .inr (13, [.ref s.heap.size, .ref H_20.size, .ref H_44.size, .ref H_68.size, .ref H_90.size, .ref H_113.size, .ref H_137.size, .null, .null, .null, .null, .int 0, .int 0, .int 0, .int 0, .null, .null, .null, .int 0])) H_168 := hraw_168
  have hkp_169 := hkp_166.put hr_168
  clear hh_165
  refine lv_aload_n hx hb dX11_init_97 rfl (lv_at hl 0 rfl) ?_
  clear hsz_148 htt_148 hrc_148 hrs_148
  (try clear hb_1484); (try clear hb_1485); (try clear hz_148)
  have hsz_170 := hh_168.2.2.2.2.2.1
  have htt_170 := hh_168.2.2.2.2.2.2.1
  refine j7_newo (k := 1) (C := RJx4a65c) (T := TJx4a65c) (N := 3) (fs := [.int 0, .null, .int 0]) hx hb htw jWc_wsJx4a65c0 (fun k => ([.int, (.array (.object "java/lang/Object")), .int] : List FieldType).getD k .int) (by decide +kernel) hown (htw (.classLink RX11 58 RJx4a65c) (jWr_2 _ (List.mem_of_getElem? (i := 11) rfl))) (htw (.instantiable RJx4a65c 3) (jWr_2 _ (List.mem_of_getElem? (i := 12) rfl))) (htw (.initialized RJx4a65c) (jWr_2 _ (List.mem_of_getElem? (i := 13) rfl))) hK rfl (fun j hj => by rcases (by omega : j = 0 ∨ j = 1 ∨ j = 2) with rfl | rfl | rfl <;> rfl) hh_168 hB (by rw [hRc]; omega) (by rw [hRs]; omega) dX11_init_98 (fun H_170 hraw_170 hfr_170 hnr_170 hh_170 => ?_)
  have hlt_171 := hraw_168.lt
  have hke_170 : jKe G_148 G_148 H_168 H_170 := jKe.raw hfr_170
  have hbr_170 : base ≤ H_168.size := Nat.le_trans hbs hh_168.1.1
  have hsy_170 : s.heap.size ≤ H_168.size := hh_168.1.1
  clear hh_168
  have hkp_172 := hkp_169.tr hke_170
  have hraw_173n := hke_170.nr hraw_168.lt hraw_167x.2
  have hraw_173 := hraw_168.kept (hke_170.1 _ hraw_168.lt)
  have hne_174 : r0 ≠ H_168.size := Nat.ne_of_lt hlt_171
  refine lv_dup hx hb dX11_init_101 rfl ?_
  clear hsz_170 htt_170
  have hsz_175 := hh_170.2.2.2.2.2.1
  have htt_175 := hh_170.2.2.2.2.2.2.1
  refine W.room (fun hrc_175 hrs_175 => ?_)
  refine va_callv (A0 := jA base) (H0 := s.heap) (va_runI (As := []) (rest := [.ref H_168.size, .ref r0]) ⟨hx, hb, hml, hown, hts⟩ (uJx4a65c_init_da8c8C1 l dC dI ca base B hB hAp hB1 G_148 H_170 H_168.size LC LS) (cwI 0 hts (jgW (jWr_9 _ (List.mem_of_getElem? (i := 13) rfl))) rfl rfl rfl (htw (.initialized RJx4a65c) (jWr_2 _ (List.mem_of_getElem? (i := 13) rfl))) (htw (.methodLink RX11 60 yJx4a65c_init_da8c8) (jWr_9 _ (List.mem_of_getElem? (i := 11) rfl))) (htw (.instanceMethod yJx4a65c_init_da8c8) (jWr_9 _ (List.mem_of_getElem? (i := 12) rfl))) rfl (by decide +kernel) ⟨by rw [← hR]; exact Nat.le_of_ble_eq_true rfl, by rw [← hR]; exact Nat.le_of_ble_eq_true rfl⟩) ⟨fun a U g mk q => by obtain ⟨q0, q1, q2, qK, q10, q11, q12, q13, q14, q15, q16⟩ := q; exact ⟨q0, q1, q2, jG.calling g mk a qK, (jK7.calling g mk a q10), q11, q12, q13, q14, q15, q16⟩, fun U hU hW => ⟨rfl, hU, hh_170.2.1, hG.step hW hU hh_170.1, (hK7.step hW hU hh_170.1), hraw_170, hnr_170, hbr_170, jP.nil, (hh_170.2.2.2.2.2.2.2.2.sub (L1 := [(jFl, jLs dC dI ca G_148 0 none)]) [2] rfl), (by omega), (by omega), trivial⟩⟩ rfl rfl hl.1 rfl (lv_room (Nat.le_of_ble_eq_true rfl)) dX11_init_102 ⟨by rw [hRc]; omega, by rw [hRs]; omega⟩) hh_170.1 (fun q _ h => h) (fun q h => h) (fun u_175 t_175 H_175 locs_175 ht_175 hvm_175 hr_176 hb_175 hz_175 hk_175 hS_175 => ?_)
  rw [ht_175] at hb_175
  obtain ⟨G_175, rfl⟩ : ∃ z, z = u_175 := ⟨_, rfl⟩
  try simp only at hb_175
  obtain ⟨⟨hb_1751, hb_1752, hb_1753, hb_1754, hb_1755, hb_1756⟩, hN_175, hgc_175, hbX_175, hbE_175⟩ := hb_175
  have hE9_175 := hN_175
  have hn3_175 : jNk [3] G0 G_175 := (hn3_148).tr (hE9_175.sub (ks1 := [3]) (by decide))
  have hY_175 := hN_175
  have hM_175 := hN_175
  have hN_175 : (jNk [0, 5, 10, 14, 15, 16]) G_148 G_175 := hN_175.sub (by decide)
  have hh_175 : jSt (dC, dI) B base G0 G_175 EX11_init s.heap ((((((((((((((((0 + 1) + (1)) + 1) + (1)) + 1) + (8)) + 1) + (1)) + 1) + (1)) + 1) + (24)) + 1) + (3)) + 1) + (0)) ((((((((((((((((0 + 2) + (4000)) + 12) + (3000)) + 12) + (12012)) + 2) + (20000)) + 2) + (1024)) + 11) + (38990)) + 5) + (826)) + 3) + (0)) [(H_113.size, 7, 0, .ref names_147), (H_90.size, 2, 1, .int qc_97), (H_90.size, 2, 0, .ref qa_97), (H_68.size, 2, 1, .int qc_75), (H_68.size, 2, 0, .ref qa_75), (H_20.size, 4, 9, .int ql_27), (H_20.size, 4, 8, .int qg_27), (H_20.size, 4, 11, .int qv_27), (H_20.size, 4, 4, .int qb_27), (H_20.size, 4, 7, .int qf_27), (H_20.size, 4, 2, .int qk_27), (H_20.size, 4, 5, .int qp_27), (H_20.size, 4, 6, .int qo_27), (s.heap.size, 2, 1, .int qc_6), (s.heap.size, 2, 0, .ref qa_6)] [] [(jFy, jYb dC dI G_148), (jFdo, jDcc dC dI ca G_148 none ph), (jFs11, jSef dC dI G_148)] H_175 locs_175 := (hh_170.callG hb_1751 hb_1752 hb_1753 hb_1754 hb_1755 hS_175 rfl (L1 := [(H_113.size, 7, 0, .ref names_147), (H_90.size, 2, 1, .int qc_97), (H_90.size, 2, 0, .ref qa_97), (H_68.size, 2, 1, .int qc_75), (H_68.size, 2, 0, .ref qa_75), (H_20.size, 4, 9, .int ql_27), (H_20.size, 4, 8, .int qg_27), (H_20.size, 4, 11, .int qv_27), (H_20.size, 4, 4, .int qb_27), (H_20.size, 4, 7, .int qf_27), (H_20.size, 4, 2, .int qk_27), (H_20.size, 4, 5, .int qp_27), (H_20.size, 4, 6, .int qo_27), (s.heap.size, 2, 1, .int qc_6), (s.heap.size, 2, 0, .ref qa_6)]) [0, 1, 2, 3, 4, 5, 6, 7, 8, 9, 10, 11, 12, 13, 14] rfl rfl (M1 := []) [] rfl rfl (I1 := [(jFy, jYb dC dI G_148), (jFdo, jDcc dC dI ca G_148 none ph), (jFs11, jSef dC dI G_148)]) [0, 1, 3] rfl rfl).more hb_1756
  have hNn_175 : (jNk [0, 5, 10, 14, 15, 16]) G0 G_175 := (hNn_148).tr hN_175
  have hg_177 := hb_1752 _ _ hg_150
  have hg_178 := hb_1752 _ _ hg_151
  have hg_179 := hb_1752 _ _ hg_152
  have hg_180 := hb_1752 _ _ hg_153
  have hd_181 := jYb.grow (hh_175.iv 0 rfl) hb_1752 hY_175 (by decide)
  have hh_182 := hh_175.sub (L1 := [(H_113.size, 7, 0, .ref names_147), (H_90.size, 2, 1, .int qc_97), (H_90.size, 2, 0, .ref qa_97), (H_68.size, 2, 1, .int qc_75), (H_68.size, 2, 0, .ref qa_75), (H_20.size, 4, 9, .int ql_27), (H_20.size, 4, 8, .int qg_27), (H_20.size, 4, 11, .int qv_27), (H_20.size, 4, 4, .int qb_27), (H_20.size, 4, 7, .int qf_27), (H_20.size, 4, 2, .int qk_27), (H_20.size, 4, 5, .int qp_27), (H_20.size, 4, 6, .int qo_27), (s.heap.size, 2, 1, .int qc_6), (s.heap.size, 2, 0, .ref qa_6)]) [0, 1, 2, 3, 4, 5, 6, 7, 8, 9, 10, 11, 12, 13, 14] rfl (M1 := []) [] rfl (I1 := [(jFdo, jDcc dC dI ca G_148 none ph), (jFs11, jSef dC dI G_148)]) [1, 2] rfl
  clear hh_175
  have hh_183 := hh_182.addI (jYb.ie hd_181)
  clear hh_182
  have hd_184 := jDcc.grow (hh_183.iv 1 rfl) hb_1752 hE9_175 (by decide)
  have hh_185 := hh_183.sub (L1 := [(H_113.size, 7, 0, .ref names_147), (H_90.size, 2, 1, .int qc_97), (H_90.size, 2, 0, .ref qa_97), (H_68.size, 2, 1, .int qc_75), (H_68.size, 2, 0, .ref qa_75), (H_20.size, 4, 9, .int ql_27), (H_20.size, 4, 8, .int qg_27), (H_20.size, 4, 11, .int qv_27), (H_20.size, 4, 4, .int qb_27), (H_20.size, 4, 7, .int qf_27), (H_20.size, 4, 2, .int qk_27), (H_20.size, 4, 5, .int qp_27), (H_20.size, 4, 6, .int qo_27), (s.heap.size, 2, 1, .int qc_6), (s.heap.size, 2, 0, .ref qa_6)]) [0, 1, 2, 3, 4, 5, 6, 7, 8, 9, 10, 11, 12, 13, 14] rfl (M1 := []) [] rfl (I1 := [(jFy, jYb dC dI G_175), (jFs11, jSef dC dI G_148)]) [0, 2] rfl
  clear hh_183
  have hh_186 := hh_185.addI (jDcc.ie hd_184)
  clear hh_185
  have hd_187 := jSef.grow (hh_186.iv 2 rfl) hb_1752 hM_175 (by decide)
  have hh_188 := hh_186.sub (L1 := [(H_113.size, 7, 0, .ref names_147), (H_90.size, 2, 1, .int qc_97), (H_90.size, 2, 0, .ref qa_97), (H_68.size, 2, 1, .int qc_75), (H_68.size, 2, 0, .ref qa_75), (H_20.size, 4, 9, .int ql_27), (H_20.size, 4, 8, .int qg_27), (H_20.size, 4, 11, .int qv_27), (H_20.size, 4, 4, .int qb_27), (H_20.size, 4, 7, .int qf_27), (H_20.size, 4, 2, .int qk_27), (H_20.size, 4, 5, .int qp_27), (H_20.size, 4, 6, .int qo_27), (s.heap.size, 2, 1, .int qc_6), (s.heap.size, 2, 0, .ref qa_6)]) [0, 1, 2, 3, 4, 5, 6, 7, 8, 9, 10, 11, 12, 13, 14] rfl (M1 := []) [] rfl (I1 := [(jFdo, jDcc dC dI ca G_175 none ph), (jFy, jYb dC dI G_175)]) [0, 1] rfl
  clear hh_186
  have hh_189 := hh_188.addI (jSef.ie hd_187)
  clear hh_188
  have hh_190 := hh_189.addIs hbE_175
  try simp only at hr_176
  have hkp_191 := hkp_172.in hbX_175 hsy_170
  have hraw_192x := hbX_175.ke hraw_173.lt hne_174 hraw_173n
  clear hne_174
  have hraw_192 := hraw_173.kept hraw_192x.1
  refine j7_putRF hx hb hown hK hh_190 hB hAp hraw_192 hraw_192x.2 hbr0 (C := RX11) (T := TX11) (N := 19) rfl (i := 7) (by decide) (Nat.le_of_ble_eq_true rfl) hly_13_7 rfl hin2 rfl hlk_61 (ty := (.object "java/util/List")) (v := .ref H_168.size) (by decide +kernel) rfl rfl dX11_init_105 (fun H_193 locs_193 hraw_193 hr_193 hh_193 => ?_)
  have hraw_193 : va_at (dC, dI) vwCl (r0, .inr (13, [.ref s.heap.size, .ref H_20.size, .ref H_44.size, .ref H_68.size, .ref H_90.size, .ref H_113.size, .ref H_137.size, .ref H_168.size, .null, .null, .null, .int 0, .int 0, .int 0, .int 0, .null, .null, .null, .int 0])) H_193 := hraw_193
  have hkp_194 := hkp_191.put hr_193
  clear hh_190
  refine lv_aload_n hx hb dX11_init_108 rfl (lv_at hl 0 rfl) ?_
  clear hsz_175 htt_175 hrc_175 hrs_175
  (try clear hb_1754); (try clear hb_1755); (try clear hz_175)
  have hsz_195 := hh_193.2.2.2.2.2.1
  have htt_195 := hh_193.2.2.2.2.2.2.1
  refine j7_newo (k := 1) (C := RJx4a65c) (T := TJx4a65c) (N := 3) (fs := [.int 0, .null, .int 0]) hx hb htw jWc_wsJx4a65c0 (fun k => ([.int, (.array (.object "java/lang/Object")), .int] : List FieldType).getD k .int) (by decide +kernel) hown (htw (.classLink RX11 58 RJx4a65c) (jWr_2 _ (List.mem_of_getElem? (i := 11) rfl))) (htw (.instantiable RJx4a65c 3) (jWr_2 _ (List.mem_of_getElem? (i := 12) rfl))) (htw (.initialized RJx4a65c) (jWr_2 _ (List.mem_of_getElem? (i := 13) rfl))) hK rfl (fun j hj => by rcases (by omega : j = 0 ∨ j = 1 ∨ j = 2) with rfl | rfl | rfl <;> rfl) hh_193 hB (by rw [hRc]; omega) (by rw [hRs]; omega) dX11_init_109 (fun H_195 hraw_195 hfr_195 hnr_195 hh_195 => ?_)
  have hlt_196 := hraw_193.lt
  have hke_195 : jKe G_175 G_175 H_193 H_195 := jKe.raw hfr_195
  have hbr_195 : base ≤ H_193.size := Nat.le_trans hbs hh_193.1.1
  have hsy_195 : s.heap.size ≤ H_193.size := hh_193.1.1
  clear hh_193
  have hkp_197 := hkp_194.tr hke_195
  have hraw_198n := hke_195.nr hraw_193.lt hraw_192x.2
  have hraw_198 := hraw_193.kept (hke_195.1 _ hraw_193.lt)
  have hne_199 : r0 ≠ H_193.size := Nat.ne_of_lt hlt_196
  refine lv_dup hx hb dX11_init_112 rfl ?_
  clear hsz_195 htt_195
  have hsz_200 := hh_195.2.2.2.2.2.1
  have htt_200 := hh_195.2.2.2.2.2.2.1
  refine W.room (fun hrc_200 hrs_200 => ?_)
  refine va_callv (A0 := jA base) (H0 := s.heap) (va_runI (As := []) (rest := [.ref H_193.size, .ref r0]) ⟨hx, hb, hml, hown, hts⟩ (uJx4a65c_init_da8c8C2 l dC dI ca base B hB hAp hB1 G_175 H_195 H_193.size LC LS) (cwI 0 hts (jgW (jWr_9 _ (List.mem_of_getElem? (i := 13) rfl))) rfl rfl rfl (htw (.initialized RJx4a65c) (jWr_2 _ (List.mem_of_getElem? (i := 13) rfl))) (htw (.methodLink RX11 60 yJx4a65c_init_da8c8) (jWr_9 _ (List.mem_of_getElem? (i := 11) rfl))) (htw (.instanceMethod yJx4a65c_init_da8c8) (jWr_9 _ (List.mem_of_getElem? (i := 12) rfl))) rfl (by decide +kernel) ⟨by rw [← hR]; exact Nat.le_of_ble_eq_true rfl, by rw [← hR]; exact Nat.le_of_ble_eq_true rfl⟩) ⟨fun a U g mk q => by obtain ⟨q0, q1, q2, qK, q10, q11, q12, q13, q14, q15, q16⟩ := q; exact ⟨q0, q1, q2, jG.calling g mk a qK, (jK7.calling g mk a q10), q11, q12, q13, q14, q15, q16⟩, fun U hU hW => ⟨rfl, hU, hh_195.2.1, hG.step hW hU hh_195.1, (hK7.step hW hU hh_195.1), hraw_195, hnr_195, hbr_195, jP.nil, (hh_195.2.2.2.2.2.2.2.2.sub (L1 := [(jFl, jLs dC dI ca G_175 1 none)]) [0] rfl), (by omega), (by omega), trivial⟩⟩ rfl rfl hl.1 rfl (lv_room (Nat.le_of_ble_eq_true rfl)) dX11_init_113 ⟨by rw [hRc]; omega, by rw [hRs]; omega⟩) hh_195.1 (fun q _ h => h) (fun q h => h) (fun u_200 t_200 H_200 locs_200 ht_200 hvm_200 hr_201 hb_200 hz_200 hk_200 hS_200 => ?_)
  rw [ht_200] at hb_200
  obtain ⟨G_200, rfl⟩ : ∃ z, z = u_200 := ⟨_, rfl⟩
  try simp only at hb_200
  obtain ⟨⟨hb_2001, hb_2002, hb_2003, hb_2004, hb_2005, hb_2006⟩, hN_200, hgc_200, hbX_200, hbE_200⟩ := hb_200
  have hE9_200 := hN_200
  have hn3_200 : jNk [3] G0 G_200 := (hn3_175).tr (hE9_200.sub (ks1 := [3]) (by decide))
  have hY_200 := hN_200
  have hM_200 := hN_200
  have hN_200 : (jNk [0, 5, 10, 14, 15, 16]) G_175 G_200 := hN_200.sub (by decide)
  have hh_200 : jSt (dC, dI) B base G0 G_200 EX11_init s.heap ((((((((((((((((((0 + 1) + (1)) + 1) + (1)) + 1) + (8)) + 1) + (1)) + 1) + (1)) + 1) + (24)) + 1) + (3)) + 1) + (0)) + 1) + (0)) ((((((((((((((((((0 + 2) + (4000)) + 12) + (3000)) + 12) + (12012)) + 2) + (20000)) + 2) + (1024)) + 11) + (38990)) + 5) + (826)) + 3) + (0)) + 3) + (0)) [(H_113.size, 7, 0, .ref names_147), (H_90.size, 2, 1, .int qc_97), (H_90.size, 2, 0, .ref qa_97), (H_68.size, 2, 1, .int qc_75), (H_68.size, 2, 0, .ref qa_75), (H_20.size, 4, 9, .int ql_27), (H_20.size, 4, 8, .int qg_27), (H_20.size, 4, 11, .int qv_27), (H_20.size, 4, 4, .int qb_27), (H_20.size, 4, 7, .int qf_27), (H_20.size, 4, 2, .int qk_27), (H_20.size, 4, 5, .int qp_27), (H_20.size, 4, 6, .int qo_27), (s.heap.size, 2, 1, .int qc_6), (s.heap.size, 2, 0, .ref qa_6)] [] [(jFs11, jSef dC dI G_175), (jFdo, jDcc dC dI ca G_175 none ph), (jFy, jYb dC dI G_175)] H_200 locs_200 := (hh_195.callG hb_2001 hb_2002 hb_2003 hb_2004 hb_2005 hS_200 rfl (L1 := [(H_113.size, 7, 0, .ref names_147), (H_90.size, 2, 1, .int qc_97), (H_90.size, 2, 0, .ref qa_97), (H_68.size, 2, 1, .int qc_75), (H_68.size, 2, 0, .ref qa_75), (H_20.size, 4, 9, .int ql_27), (H_20.size, 4, 8, .int qg_27), (H_20.size, 4, 11, .int qv_27), (H_20.size, 4, 4, .int qb_27), (H_20.size, 4, 7, .int qf_27), (H_20.size, 4, 2, .int qk_27), (H_20.size, 4, 5, .int qp_27), (H_20.size, 4, 6, .int qo_27), (s.heap.size, 2, 1, .int qc_6), (s.heap.size, 2, 0, .ref qa_6)]) [0, 1, 2, 3, 4, 5, 6, 7, 8, 9, 10, 11, 12, 13, 14] rfl rfl (M1 := []) [] rfl rfl (I1 := [(jFs11, jSef dC dI G_175), (jFdo, jDcc dC dI ca G_175 none ph), (jFy, jYb dC dI G_175)]) [1, 2, 3] rfl rfl).more hb_2006
  have hNn_200 : (jNk [0, 5, 10, 14, 15, 16]) G0 G_200 := (hNn_175).tr hN_200
  have hg_202 := hb_2002 _ _ hg_177
  have hg_203 := hb_2002 _ _ hg_178
  have hg_204 := hb_2002 _ _ hg_179
  have hg_205 := hb_2002 _ _ hg_180
  have hd_206 := jSef.grow (hh_200.iv 0 rfl) hb_2002 hM_200 (by decide)
  have hh_207 := hh_200.sub (L1 := [(H_113.size, 7, 0, .ref names_147), (H_90.size, 2, 1, .int qc_97), (H_90.size, 2, 0, .ref qa_97), (H_68.size, 2, 1, .int qc_75), (H_68.size, 2, 0, .ref qa_75), (H_20.size, 4, 9, .int ql_27), (H_20.size, 4, 8, .int qg_27), (H_20.size, 4, 11, .int qv_27), (H_20.size, 4, 4, .int qb_27), (H_20.size, 4, 7, .int qf_27), (H_20.size, 4, 2, .int qk_27), (H_20.size, 4, 5, .int qp_27), (H_20.size, 4, 6, .int qo_27), (s.heap.size, 2, 1, .int qc_6), (s.heap.size, 2, 0, .ref qa_6)]) [0, 1, 2, 3, 4, 5, 6, 7, 8, 9, 10, 11, 12, 13, 14] rfl (M1 := []) [] rfl (I1 := [(jFdo, jDcc dC dI ca G_175 none ph), (jFy, jYb dC dI G_175)]) [1, 2] rfl
  clear hh_200
  have hh_208 := hh_207.addI (jSef.ie hd_206)
  clear hh_207
  have hd_209 := jDcc.grow (hh_208.iv 1 rfl) hb_2002 hE9_200 (by decide)
  have hh_210 := hh_208.sub (L1 := [(H_113.size, 7, 0, .ref names_147), (H_90.size, 2, 1, .int qc_97), (H_90.size, 2, 0, .ref qa_97), (H_68.size, 2, 1, .int qc_75), (H_68.size, 2, 0, .ref qa_75), (H_20.size, 4, 9, .int ql_27), (H_20.size, 4, 8, .int qg_27), (H_20.size, 4, 11, .int qv_27), (H_20.size, 4, 4, .int qb_27), (H_20.size, 4, 7, .int qf_27), (H_20.size, 4, 2, .int qk_27), (H_20.size, 4, 5, .int qp_27), (H_20.size, 4, 6, .int qo_27), (s.heap.size, 2, 1, .int qc_6), (s.heap.size, 2, 0, .ref qa_6)]) [0, 1, 2, 3, 4, 5, 6, 7, 8, 9, 10, 11, 12, 13, 14] rfl (M1 := []) [] rfl (I1 := [(jFs11, jSef dC dI G_200), (jFy, jYb dC dI G_175)]) [0, 2] rfl
  clear hh_208
  have hh_211 := hh_210.addI (jDcc.ie hd_209)
  clear hh_210
  have hd_212 := jYb.grow (hh_211.iv 2 rfl) hb_2002 hY_200 (by decide)
  have hh_213 := hh_211.sub (L1 := [(H_113.size, 7, 0, .ref names_147), (H_90.size, 2, 1, .int qc_97), (H_90.size, 2, 0, .ref qa_97), (H_68.size, 2, 1, .int qc_75), (H_68.size, 2, 0, .ref qa_75), (H_20.size, 4, 9, .int ql_27), (H_20.size, 4, 8, .int qg_27), (H_20.size, 4, 11, .int qv_27), (H_20.size, 4, 4, .int qb_27), (H_20.size, 4, 7, .int qf_27), (H_20.size, 4, 2, .int qk_27), (H_20.size, 4, 5, .int qp_27), (H_20.size, 4, 6, .int qo_27), (s.heap.size, 2, 1, .int qc_6), (s.heap.size, 2, 0, .ref qa_6)]) [0, 1, 2, 3, 4, 5, 6, 7, 8, 9, 10, 11, 12, 13, 14] rfl (M1 := []) [] rfl (I1 := [(jFdo, jDcc dC dI ca G_200 none ph), (jFs11, jSef dC dI G_200)]) [0, 1] rfl
  clear hh_211
  have hh_214 := hh_213.addI (jYb.ie hd_212)
  clear hh_213
  have hh_215 := hh_214.addIs hbE_200
  try simp only at hr_201
  have hkp_216 := hkp_197.in hbX_200 hsy_195
  have hraw_217x := hbX_200.ke hraw_198.lt hne_199 hraw_198n
  clear hne_199
  have hraw_217 := hraw_198.kept hraw_217x.1
  refine j7_putRF hx hb hown hK hh_215 hB hAp hraw_217 hraw_217x.2 hbr0 (C := RX11) (T := TX11) (N := 19) rfl (i := 8) (by decide) (Nat.le_of_ble_eq_true rfl) hly_13_8 rfl hin2 rfl hlk_65 (ty := (.object "java/util/List")) (v := .ref H_193.size) (by decide +kernel) rfl rfl dX11_init_116 (fun H_218 locs_218 hraw_218 hr_218 hh_218 => ?_)
  have hraw_218 : va_at (dC, dI) vwCl (r0, .inr (13, [.ref s.heap.size, .ref H_20.size, .ref H_44.size, .ref H_68.size, .ref H_90.size, .ref H_113.size, .ref H_137.size, .ref H_168.size, .ref H_193.size, .null, .null, .int 0, .int 0, .int 0, .int 0, .null, .null, .null, .int 0])) H_218 := hraw_218
  have hkp_219 := hkp_216.put hr_218
  clear hh_215
  refine lv_aload_n hx hb dX11_init_119 rfl (lv_at hl 0 rfl) ?_
  clear hsz_200 htt_200 hrc_200 hrs_200
  (try clear hb_2004); (try clear hb_2005); (try clear hz_200)
  have hsz_220 := hh_218.2.2.2.2.2.1
  have htt_220 := hh_218.2.2.2.2.2.2.1
  refine j7_newo (k := 1) (C := RJx4a65c) (T := TJx4a65c) (N := 3) (fs := [.int 0, .null, .int 0]) hx hb htw jWc_wsJx4a65c0 (fun k => ([.int, (.array (.object "java/lang/Object")), .int] : List FieldType).getD k .int) (by decide +kernel) hown (htw (.classLink RX11 58 RJx4a65c) (jWr_2 _ (List.mem_of_getElem? (i := 11) rfl))) (htw (.instantiable RJx4a65c 3) (jWr_2 _ (List.mem_of_getElem? (i := 12) rfl))) (htw (.initialized RJx4a65c) (jWr_2 _ (List.mem_of_getElem? (i := 13) rfl))) hK rfl (fun j hj => by rcases (by omega : j = 0 ∨ j = 1 ∨ j = 2) with rfl | rfl | rfl <;> rfl) hh_218 hB (by rw [hRc]; omega) (by rw [hRs]; omega) dX11_init_120 (fun H_220 hraw_220 hfr_220 hnr_220 hh_220 => ?_)
  have hlt_221 := hraw_218.lt
  have hke_220 : jKe G_200 G_200 H_218 H_220 := jKe.raw hfr_220
  have hbr_220 : base ≤ H_218.size := Nat.le_trans hbs hh_218.1.1
  have hsy_220 : s.heap.size ≤ H_218.size := hh_218.1.1
  clear hh_218
  have hkp_222 := hkp_219.tr hke_220
  have hraw_223n := hke_220.nr hraw_218.lt hraw_217x.2
  have hraw_223 := hraw_218.kept (hke_220.1 _ hraw_218.lt)
  have hne_224 : r0 ≠ H_218.size := Nat.ne_of_lt hlt_221
  refine lv_dup hx hb dX11_init_123 rfl ?_
  clear hsz_220 htt_220
  have hsz_225 := hh_220.2.2.2.2.2.1
  have htt_225 := hh_220.2.2.2.2.2.2.1
  refine W.room (fun hrc_225 hrs_225 => ?_)
  refine va_callv (A0 := jA base) (H0 := s.heap) (va_runI (As := []) (rest := [.ref H_218.size, .ref r0]) ⟨hx, hb, hml, hown, hts⟩ (uJx4a65c_init_da8c8C3 l dC dI ca base B hB hAp hB1 G_200 H_220 H_218.size LC LS) (cwI 0 hts (jgW (jWr_9 _ (List.mem_of_getElem? (i := 13) rfl))) rfl rfl rfl (htw (.initialized RJx4a65c) (jWr_2 _ (List.mem_of_getElem? (i := 13) rfl))) (htw (.methodLink RX11 60 yJx4a65c_init_da8c8) (jWr_9 _ (List.mem_of_getElem? (i := 11) rfl))) (htw (.instanceMethod yJx4a65c_init_da8c8) (jWr_9 _ (List.mem_of_getElem? (i := 12) rfl))) rfl (by decide +kernel) ⟨by rw [← hR]; exact Nat.le_of_ble_eq_true rfl, by rw [← hR]; exact Nat.le_of_ble_eq_true rfl⟩) ⟨fun a U g mk q => by obtain ⟨q0, q1, q2, qK, q10, q11, q12, q13, q14, q15, q16⟩ := q; exact ⟨q0, q1, q2, jG.calling g mk a qK, (jK7.calling g mk a q10), q11, q12, q13, q14, q15, q16⟩, fun U hU hW => ⟨rfl, hU, hh_220.2.1, hG.step hW hU hh_220.1, (hK7.step hW hU hh_220.1), hraw_220, hnr_220, hbr_220, jP.nil, (hh_220.2.2.2.2.2.2.2.2.sub (L1 := [(jFl, jLs dC dI ca G_200 2 none)]) [0] rfl), (by omega), (by omega), trivial⟩⟩ rfl rfl hl.1 rfl (lv_room (Nat.le_of_ble_eq_true rfl)) dX11_init_124 ⟨by rw [hRc]; omega, by rw [hRs]; omega⟩) hh_220.1 (fun q _ h => h) (fun q h => h) (fun u_225 t_225 H_225 locs_225 ht_225 hvm_225 hr_226 hb_225 hz_225 hk_225 hS_225 => ?_)
  rw [ht_225] at hb_225
  obtain ⟨G_225, rfl⟩ : ∃ z, z = u_225 := ⟨_, rfl⟩
  try simp only at hb_225
  obtain ⟨⟨hb_2251, hb_2252, hb_2253, hb_2254, hb_2255, hb_2256⟩, hN_225, hgc_225, hbX_225, hbE_225⟩ := hb_225
  have hE9_225 := hN_225
  have hn3_225 : jNk [3] G0 G_225 := (hn3_200).tr (hE9_225.sub (ks1 := [3]) (by decide))
  have hY_225 := hN_225
  have hM_225 := hN_225
  have hN_225 : (jNk [0, 5, 10, 14, 15, 16]) G_200 G_225 := hN_225.sub (by decide)
  have hh_225 : jSt (dC, dI) B base G0 G_225 EX11_init s.heap ((((((((((((((((((((0 + 1) + (1)) + 1) + (1)) + 1) + (8)) + 1) + (1)) + 1) + (1)) + 1) + (24)) + 1) + (3)) + 1) + (0)) + 1) + (0)) + 1) + (0)) ((((((((((((((((((((0 + 2) + (4000)) + 12) + (3000)) + 12) + (12012)) + 2) + (20000)) + 2) + (1024)) + 11) + (38990)) + 5) + (826)) + 3) + (0)) + 3) + (0)) + 3) + (0)) [(H_113.size, 7, 0, .ref names_147), (H_90.size, 2, 1, .int qc_97), (H_90.size, 2, 0, .ref qa_97), (H_68.size, 2, 1, .int qc_75), (H_68.size, 2, 0, .ref qa_75), (H_20.size, 4, 9, .int ql_27), (H_20.size, 4, 8, .int qg_27), (H_20.size, 4, 11, .int qv_27), (H_20.size, 4, 4, .int qb_27), (H_20.size, 4, 7, .int qf_27), (H_20.size, 4, 2, .int qk_27), (H_20.size, 4, 5, .int qp_27), (H_20.size, 4, 6, .int qo_27), (s.heap.size, 2, 1, .int qc_6), (s.heap.size, 2, 0, .ref qa_6)] [] [(jFy, jYb dC dI G_200), (jFdo, jDcc dC dI ca G_200 none ph), (jFs11, jSef dC dI G_200)] H_225 locs_225 := (hh_220.callG hb_2251 hb_2252 hb_2253 hb_2254 hb_2255 hS_225 rfl (L1 := [(H_113.size, 7, 0, .ref names_147), (H_90.size, 2, 1, .int qc_97), (H_90.size, 2, 0, .ref qa_97), (H_68.size, 2, 1, .int qc_75), (H_68.size, 2, 0, .ref qa_75), (H_20.size, 4, 9, .int ql_27), (H_20.size, 4, 8, .int qg_27), (H_20.size, 4, 11, .int qv_27), (H_20.size, 4, 4, .int qb_27), (H_20.size, 4, 7, .int qf_27), (H_20.size, 4, 2, .int qk_27), (H_20.size, 4, 5, .int qp_27), (H_20.size, 4, 6, .int qo_27), (s.heap.size, 2, 1, .int qc_6), (s.heap.size, 2, 0, .ref qa_6)]) [0, 1, 2, 3, 4, 5, 6, 7, 8, 9, 10, 11, 12, 13, 14] rfl rfl (M1 := []) [] rfl rfl (I1 := [(jFy, jYb dC dI G_200), (jFdo, jDcc dC dI ca G_200 none ph), (jFs11, jSef dC dI G_200)]) [1, 2, 3] rfl rfl).more hb_2256
  have hNn_225 : (jNk [0, 5, 10, 14, 15, 16]) G0 G_225 := (hNn_200).tr hN_225
  have hg_227 := hb_2252 _ _ hg_202
  have hg_228 := hb_2252 _ _ hg_203
  have hg_229 := hb_2252 _ _ hg_204
  have hg_230 := hb_2252 _ _ hg_205
  have hd_231 := jYb.grow (hh_225.iv 0 rfl) hb_2252 hY_225 (by decide)
  have hh_232 := hh_225.sub (L1 := [(H_113.size, 7, 0, .ref names_147), (H_90.size, 2, 1, .int qc_97), (H_90.size, 2, 0, .ref qa_97), (H_68.size, 2, 1, .int qc_75), (H_68.size, 2, 0, .ref qa_75), (H_20.size, 4, 9, .int ql_27), (H_20.size, 4, 8, .int qg_27), (H_20.size, 4, 11, .int qv_27), (H_20.size, 4, 4, .int qb_27), (H_20.size, 4, 7, .int qf_27), (H_20.size, 4, 2, .int qk_27), (H_20.size, 4, 5, .int qp_27), (H_20.size, 4, 6, .int qo_27), (s.heap.size, 2, 1, .int qc_6), (s.heap.size, 2, 0, .ref qa_6)]) [0, 1, 2, 3, 4, 5, 6, 7, 8, 9, 10, 11, 12, 13, 14] rfl (M1 := []) [] rfl (I1 := [(jFdo, jDcc dC dI ca G_200 none ph), (jFs11, jSef dC dI G_200)]) [1, 2] rfl
  clear hh_225
  have hh_233 := hh_232.addI (jYb.ie hd_231)
  clear hh_232
  have hd_234 := jDcc.grow (hh_233.iv 1 rfl) hb_2252 hE9_225 (by decide)
  have hh_235 := hh_233.sub (L1 := [(H_113.size, 7, 0, .ref names_147), (H_90.size, 2, 1, .int qc_97), (H_90.size, 2, 0, .ref qa_97), (H_68.size, 2, 1, .int qc_75), (H_68.size, 2, 0, .ref qa_75), (H_20.size, 4, 9, .int ql_27), (H_20.size, 4, 8, .int qg_27), (H_20.size, 4, 11, .int qv_27), (H_20.size, 4, 4, .int qb_27), (H_20.size, 4, 7, .int qf_27), (H_20.size, 4, 2, .int qk_27), (H_20.size, 4, 5, .int qp_27), (H_20.size, 4, 6, .int qo_27), (s.heap.size, 2, 1, .int qc_6), (s.heap.size, 2, 0, .ref qa_6)]) [0, 1, 2, 3, 4, 5, 6, 7, 8, 9, 10, 11, 12, 13, 14] rfl (M1 := []) [] rfl (I1 := [(jFy, jYb dC dI G_225), (jFs11, jSef dC dI G_200)]) [0, 2] rfl
  clear hh_233
  have hh_236 := hh_235.addI (jDcc.ie hd_234)
  clear hh_235
  have hd_237 := jSef.grow (hh_236.iv 2 rfl) hb_2252 hM_225 (by decide)
  have hh_238 := hh_236.sub (L1 := [(H_113.size, 7, 0, .ref names_147), (H_90.size, 2, 1, .int qc_97), (H_90.size, 2, 0, .ref qa_97), (H_68.size, 2, 1, .int qc_75), (H_68.size, 2, 0, .ref qa_75), (H_20.size, 4, 9, .int ql_27), (H_20.size, 4, 8, .int qg_27), (H_20.size, 4, 11, .int qv_27), (H_20.size, 4, 4, .int qb_27), (H_20.size, 4, 7, .int qf_27), (H_20.size, 4, 2, .int qk_27), (H_20.size, 4, 5, .int qp_27), (H_20.size, 4, 6, .int qo_27), (s.heap.size, 2, 1, .int qc_6), (s.heap.size, 2, 0, .ref qa_6)]) [0, 1, 2, 3, 4, 5, 6, 7, 8, 9, 10, 11, 12, 13, 14] rfl (M1 := []) [] rfl (I1 := [(jFdo, jDcc dC dI ca G_225 none ph), (jFy, jYb dC dI G_225)]) [0, 1] rfl
  clear hh_236
  have hh_239 := hh_238.addI (jSef.ie hd_237)
  clear hh_238
  have hh_240 := hh_239.addIs hbE_225
  try simp only at hr_226
  have hkp_241 := hkp_222.in hbX_225 hsy_220
  have hraw_242x := hbX_225.ke hraw_223.lt hne_224 hraw_223n
  clear hne_224
  have hraw_242 := hraw_223.kept hraw_242x.1
  refine j7_putRF hx hb hown hK hh_240 hB hAp hraw_242 hraw_242x.2 hbr0 (C := RX11) (T := TX11) (N := 19) rfl (i := 9) (by decide) (Nat.le_of_ble_eq_true rfl) hly_13_9 rfl hin2 rfl hlk_68 (ty := (.object "java/util/List")) (v := .ref H_218.size) (by decide +kernel) rfl rfl dX11_init_127 (fun H_243 locs_243 hraw_243 hr_243 hh_243 => ?_)
  have hraw_243 : va_at (dC, dI) vwCl (r0, .inr (13, [.ref s.heap.size, .ref H_20.size, .ref H_44.size, .ref H_68.size, .ref H_90.size, .ref H_113.size, .ref H_137.size, .ref H_168.size, .ref H_193.size, .ref H_218.size, .null, .int 0, .int 0, .int 0, .int 0, .null, .null, .null, .int 0])) H_243 := hraw_243
  have hkp_244 := hkp_241.put hr_243
  clear hh_240
  refine lv_aload_n hx hb dX11_init_130 rfl (lv_at hl 0 rfl) ?_
  refine lv_iconst (v := 2) hx hb dX11_init_131 (by decide) ?_
  clear hsz_225 htt_225 hrc_225 hrs_225
  (try clear hb_2254); (try clear hb_2255); (try clear hz_225)
  have hsz_245 := hh_243.2.2.2.2.2.1
  have htt_245 := hh_243.2.2.2.2.2.2.1
  have hsy_245 : s.heap.size ≤ H_243.size := hh_243.1.1
  refine j7_newqK hx hb hown (htw (.classLink RX11 71 RX1) (jWr_2 _ (List.mem_of_getElem? (i := 17) rfl))) hK6.2.1 hK2 hh_243 hB hB212 1 rfl (by decide) hbs (x := 2) (by decide) (by omega) (fun _ => Or.inl rfl) (by rw [hRc]; omega) (by rw [hRs]; omega) dX11_init_132 (fun H_245 hfr_245 hh_245 hqn_245 => ?_)
  have hh_245 : jSt (dC, dI) B base G0 (va_up G_225 H_243.size (some (212, 2))) EX11_init s.heap (((((((((((((((((((((0 + 1) + (1)) + 1) + (1)) + 1) + (8)) + 1) + (1)) + 1) + (1)) + 1) + (24)) + 1) + (3)) + 1) + (0)) + 1) + (0)) + 1) + (0)) + 1) (((((((((((((((((((((0 + 2) + (4000)) + 12) + (3000)) + 12) + (12012)) + 2) + (20000)) + 2) + (1024)) + 11) + (38990)) + 5) + (826)) + 3) + (0)) + 3) + (0)) + 3) + (0)) + 2) [(H_113.size, 7, 0, .ref names_147), (H_90.size, 2, 1, .int qc_97), (H_90.size, 2, 0, .ref qa_97), (H_68.size, 2, 1, .int qc_75), (H_68.size, 2, 0, .ref qa_75), (H_20.size, 4, 9, .int ql_27), (H_20.size, 4, 8, .int qg_27), (H_20.size, 4, 11, .int qv_27), (H_20.size, 4, 4, .int qb_27), (H_20.size, 4, 7, .int qf_27), (H_20.size, 4, 2, .int qk_27), (H_20.size, 4, 5, .int qp_27), (H_20.size, 4, 6, .int qo_27), (s.heap.size, 2, 1, .int qc_6), (s.heap.size, 2, 0, .ref qa_6)] [] [(jFl, jLs dC dI ca G_225 3 none), (jFs11, jSef dC dI G_225), (jFdo, jDcc dC dI ca G_225 none ph), (jFy, jYb dC dI G_225)] H_245 locs_243 := hh_245
  have hM_245 : jNk [1, 2, 3, 11] G_225 (va_up G_225 H_243.size (some (212, 2))) := jNk.new (by decide)
  have hN_245 : (jNk [0, 5, 10, 14, 15, 16]) G_225 (va_up G_225 H_243.size (some (212, 2))) := jNk.new (by decide)
  have hgn_245 : (va_up G_225 H_243.size (some (212, 2))) H_243.size = some (212, 2) := jUp_self
  have hle_245 : jLe G_225 (va_up G_225 H_243.size (some (212, 2))) := jLe.new hh_243.2.1.fresh
  have hke_245 : jKe G_225 (va_up G_225 H_243.size (some (212, 2))) H_243 H_245 := jKe.new hfr_245
  have hsy_245 : s.heap.size ≤ H_243.size := hh_243.1.1
  generalize (va_up G_225 H_243.size (some (212, 2))) = G_245 at hN_245 hgn_245 hle_245 hke_245 hh_245 hM_245
  clear hh_243
  have hNn_245 : (jNk [0, 5, 10, 14, 15, 16]) G0 G_245 := (hNn_225).tr hN_245
  have hg_246 := hle_245 _ _ hg_227
  have hg_247 := hle_245 _ _ hg_228
  have hg_248 := hle_245 _ _ hg_229
  have hg_249 := hle_245 _ _ hg_230
  have hkp_250 := hkp_244.tr hke_245
  have hraw_251n := hke_245.nr hraw_243.lt hraw_242x.2
  have hraw_251 := hraw_243.kept (hke_245.1 _ hraw_243.lt)
  have hn3_245 : jNk [3] G0 G_245 := (hn3_225).tr (hM_245.sub (ks1 := [3]) (by decide))
  have hd_252 := jLs.grow (hh_245.iv 0 rfl) hle_245 hM_245 (by decide)
  have hh_253 := hh_245.sub (L1 := [(H_113.size, 7, 0, .ref names_147), (H_90.size, 2, 1, .int qc_97), (H_90.size, 2, 0, .ref qa_97), (H_68.size, 2, 1, .int qc_75), (H_68.size, 2, 0, .ref qa_75), (H_20.size, 4, 9, .int ql_27), (H_20.size, 4, 8, .int qg_27), (H_20.size, 4, 11, .int qv_27), (H_20.size, 4, 4, .int qb_27), (H_20.size, 4, 7, .int qf_27), (H_20.size, 4, 2, .int qk_27), (H_20.size, 4, 5, .int qp_27), (H_20.size, 4, 6, .int qo_27), (s.heap.size, 2, 1, .int qc_6), (s.heap.size, 2, 0, .ref qa_6)]) [0, 1, 2, 3, 4, 5, 6, 7, 8, 9, 10, 11, 12, 13, 14] rfl (M1 := []) [] rfl (I1 := [(jFs11, jSef dC dI G_225), (jFdo, jDcc dC dI ca G_225 none ph), (jFy, jYb dC dI G_225)]) [1, 2, 3] rfl
  clear hh_245
  have hh_254 := hh_253.addI (jLs.ie hd_252)
  clear hh_253
  have hd_255 := jSef.grow (hh_254.iv 1 rfl) hle_245 hM_245 (by decide)
  have hh_256 := hh_254.sub (L1 := [(H_113.size, 7, 0, .ref names_147), (H_90.size, 2, 1, .int qc_97), (H_90.size, 2, 0, .ref qa_97), (H_68.size, 2, 1, .int qc_75), (H_68.size, 2, 0, .ref qa_75), (H_20.size, 4, 9, .int ql_27), (H_20.size, 4, 8, .int qg_27), (H_20.size, 4, 11, .int qv_27), (H_20.size, 4, 4, .int qb_27), (H_20.size, 4, 7, .int qf_27), (H_20.size, 4, 2, .int qk_27), (H_20.size, 4, 5, .int qp_27), (H_20.size, 4, 6, .int qo_27), (s.heap.size, 2, 1, .int qc_6), (s.heap.size, 2, 0, .ref qa_6)]) [0, 1, 2, 3, 4, 5, 6, 7, 8, 9, 10, 11, 12, 13, 14] rfl (M1 := []) [] rfl (I1 := [(jFl, jLs dC dI ca G_245 3 none), (jFdo, jDcc dC dI ca G_225 none ph), (jFy, jYb dC dI G_225)]) [0, 2, 3] rfl
  clear hh_254
  have hh_257 := hh_256.addI (jSef.ie hd_255)
  clear hh_256
  have hd_258 := jDcc.grow (hh_257.iv 2 rfl) hle_245 hM_245 (by decide)
  have hh_259 := hh_257.sub (L1 := [(H_113.size, 7, 0, .ref names_147), (H_90.size, 2, 1, .int qc_97), (H_90.size, 2, 0, .ref qa_97), (H_68.size, 2, 1, .int qc_75), (H_68.size, 2, 0, .ref qa_75), (H_20.size, 4, 9, .int ql_27), (H_20.size, 4, 8, .int qg_27), (H_20.size, 4, 11, .int qv_27), (H_20.size, 4, 4, .int qb_27), (H_20.size, 4, 7, .int qf_27), (H_20.size, 4, 2, .int qk_27), (H_20.size, 4, 5, .int qp_27), (H_20.size, 4, 6, .int qo_27), (s.heap.size, 2, 1, .int qc_6), (s.heap.size, 2, 0, .ref qa_6)]) [0, 1, 2, 3, 4, 5, 6, 7, 8, 9, 10, 11, 12, 13, 14] rfl (M1 := []) [] rfl (I1 := [(jFs11, jSef dC dI G_245), (jFl, jLs dC dI ca G_245 3 none), (jFy, jYb dC dI G_225)]) [0, 1, 3] rfl
  clear hh_257
  have hh_260 := hh_259.addI (jDcc.ie hd_258)
  clear hh_259
  have hd_261 := jYb.grow (hh_260.iv 3 rfl) hle_245 hM_245 (by decide)
  have hh_262 := hh_260.sub (L1 := [(H_113.size, 7, 0, .ref names_147), (H_90.size, 2, 1, .int qc_97), (H_90.size, 2, 0, .ref qa_97), (H_68.size, 2, 1, .int qc_75), (H_68.size, 2, 0, .ref qa_75), (H_20.size, 4, 9, .int ql_27), (H_20.size, 4, 8, .int qg_27), (H_20.size, 4, 11, .int qv_27), (H_20.size, 4, 4, .int qb_27), (H_20.size, 4, 7, .int qf_27), (H_20.size, 4, 2, .int qk_27), (H_20.size, 4, 5, .int qp_27), (H_20.size, 4, 6, .int qo_27), (s.heap.size, 2, 1, .int qc_6), (s.heap.size, 2, 0, .ref qa_6)]) [0, 1, 2, 3, 4, 5, 6, 7, 8, 9, 10, 11, 12, 13, 14] rfl (M1 := []) [] rfl (I1 := [(jFdo, jDcc dC dI ca G_245 none ph), (jFs11, jSef dC dI G_245), (jFl, jLs dC dI ca G_245 3 none)]) [0, 1, 2] rfl
  clear hh_260
  have hh_263 := hh_262.addI (jYb.ie hd_261)
  clear hh_262
  refine j7_putRF hx hb hown hK hh_263 hB hAp hraw_251 hraw_251n hbr0 (C := RX11) (T := TX11) (N := 19) rfl (i := 10) (by decide) (Nat.le_of_ble_eq_true rfl) hly_13_10 rfl hin2 rfl hlk_73 (ty := (.array (.object "ProofServer$Document"))) (v := .ref H_243.size) (by decide +kernel) rfl rfl dX11_init_135 (fun H_264 locs_264 hraw_264 hr_264 hh_264 => ?_)
  have hraw_264 : va_at (dC, dI) vwCl (r0, .inr (13, [.ref s.heap.size, .ref H_20.size, .ref H_44.size, .ref H_68.size, .ref H_90.size, .ref H_113.size, .ref H_137.size, .ref H_168.size, .ref H_193.size, .ref H_218.size, .ref H_243.size, .int 0, .int 0, .int 0, .int 0, .null, .null, .null, .int 0])) H_264 := hraw_264
  have hkp_265 := hkp_250.put hr_264
  clear hh_263
  refine lv_aload_n hx hb dX11_init_138 rfl (lv_at hl 0 rfl) ?_
  refine lv_iconst (v := 0) hx hb dX11_init_139 (by decide) ?_
  refine j7_putR hx hb hown hK hh_264 hB hAp hraw_264 hraw_251n hbr0 (C := RX11) (T := TX11) (N := 19) rfl (i := 11) (by decide) (Nat.le_of_ble_eq_true rfl) hly_13_11 rfl hlk_77 (ty := .int) (v := .int 0) (by decide +kernel) rfl rfl dX11_init_140 (fun H_266 locs_266 hraw_266 hr_266 hh_266 => ?_)
  have hraw_266 : va_at (dC, dI) vwCl (r0, .inr (13, [.ref s.heap.size, .ref H_20.size, .ref H_44.size, .ref H_68.size, .ref H_90.size, .ref H_113.size, .ref H_137.size, .ref H_168.size, .ref H_193.size, .ref H_218.size, .ref H_243.size, .int 0, .int 0, .int 0, .int 0, .null, .null, .null, .int 0])) H_266 := hraw_266
  have hkp_267 := hkp_265.put hr_266
  clear hh_264
  refine lv_aload_n hx hb dX11_init_143 rfl (lv_at hl 0 rfl) ?_
  clear hsz_245 htt_245
  have hsz_268 := hh_266.2.2.2.2.2.1
  have htt_268 := hh_266.2.2.2.2.2.2.1
  refine j7_newo (k := 3) (C := RX1) (T := TX1) (N := 17) (fs := [.null, .int 0, .null, .int 0, .int 0, .null, .null, .null, .null, .null, .int 0, .null, .null, .int 0, .int 0, .int 0, .int 0]) hx hb htw jWc_wsX10 (fun k => ([(.array .int), .int, (.array .int), .int, .int, (.array .int), (.array .int), (.array .int), (.array .int), (.array (.object "ProofServer$State")), .int, (.array .int), (.object "ProofServer$State"), .int, .int, .int, .int] : List FieldType).getD k .int) (by decide +kernel) hown (htw (.classLink RX11 71 RX1) (jWr_2 _ (List.mem_of_getElem? (i := 17) rfl))) (htw (.instantiable RX1 17) (jWr_2 _ (List.mem_of_getElem? (i := 20) rfl))) (htw (.initialized RX1) (jWr_2 _ (List.mem_of_getElem? (i := 21) rfl))) hK rfl (fun j hj => by rcases (by omega : j = 0 ∨ j = 1 ∨ j = 2 ∨ j = 3 ∨ j = 4 ∨ j = 5 ∨ j = 6 ∨ j = 7 ∨ j = 8 ∨ j = 9 ∨ j = 10 ∨ j = 11 ∨ j = 12 ∨ j = 13 ∨ j = 14 ∨ j = 15 ∨ j = 16) with rfl | rfl | rfl | rfl | rfl | rfl | rfl | rfl | rfl | rfl | rfl | rfl | rfl | rfl | rfl | rfl | rfl <;> rfl) hh_266 hB (by rw [hRc]; omega) (by rw [hRs]; omega) dX11_init_144 (fun H_268 hraw_268 hfr_268 hnr_268 hh_268 => ?_)
  have hlt_269 := hraw_266.lt
  have hke_268 : jKe G_245 G_245 H_266 H_268 := jKe.raw hfr_268
  have hbr_268 : base ≤ H_266.size := Nat.le_trans hbs hh_266.1.1
  have hsy_268 : s.heap.size ≤ H_266.size := hh_266.1.1
  clear hh_266
  have hkp_270 := hkp_267.tr hke_268
  have hraw_271n := hke_268.nr hraw_266.lt hraw_251n
  have hraw_271 := hraw_266.kept (hke_268.1 _ hraw_266.lt)
  have hne_272 : r0 ≠ H_266.size := Nat.ne_of_lt hlt_269
  refine lv_dup hx hb dX11_init_147 rfl ?_
  clear hsz_268 htt_268
  have hsz_273 := hh_268.2.2.2.2.2.1
  have htt_273 := hh_268.2.2.2.2.2.2.1
  refine W.room (fun hrc_273 hrs_273 => ?_)
  refine va_callv (A0 := jA base) (H0 := s.heap) (va_runIN (As := []) (rest := [.ref H_266.size, .ref r0]) ⟨hx, hb, hml, hown, hts⟩ (uX1_initE l dC dI ca base B hB hAp hB3 hB11 hB101 hB171 hB172 hB210 G_245 H_268 H_266.size 1 (ph) LC LS) ⟨va_cnB 0 hts (jgW (jWr_10 _ (List.mem_of_getElem? (i := 3) rfl))) rfl rfl rfl (hG.2.2.1 RX11 81 yX1_init "ProofServer" (List.mem_of_getElem? (i := 434) (by decide +kernel))) (htw (.initialized RX1) (jWr_2 _ (List.mem_of_getElem? (i := 21) rfl))) (by decide +kernel) ⟨by rw [← hR]; exact Nat.le_of_ble_eq_true rfl, by rw [← hR]; exact Nat.le_of_ble_eq_true rfl⟩, rfl, htw (.instanceMethod yX1_init) (jWr_10 _ (List.mem_of_getElem? (i := 2) rfl))⟩ ⟨fun a U g mk q => by obtain ⟨q0, q1, q2, qK, q10, q11, q12, q13, q14, q15, q16, q17⟩ := q; exact ⟨q0, q1, q2, jG.calling g mk a qK, (va_K.moved (Vm.Alike.refl U.vm) q10), (jK6.moved (Vm.Alike.refl U.vm) q11), q12, q13, q14, q15, q16, q17⟩, fun U hU hW => ⟨rfl, hU, hh_268.2.1, hG.step hW hU hh_268.1, va_K.moved hW.alike hK2, jK6.moved hW.alike hK6, hraw_268, hnr_268, hbr_268, jP.nil, (hh_268.2.2.2.2.2.2.2.2.sub (L1 := [(jFdo, jDcc dC dI ca G_245 none ph)]) [1] rfl), (by omega), (by omega), trivial⟩⟩ rfl rfl hl.1 rfl (lv_room (Nat.le_of_ble_eq_true rfl)) dX11_init_148 ⟨by rw [hRc]; omega, by rw [hRs]; omega⟩) hh_268.1 (fun q _ h => h) (fun q h => h) (fun u_273 t_273 H_273 locs_273 ht_273 hvm_273 hr_274 hb_273 hz_273 hk_273 hS_273 => ?_)
  obtain ⟨qk_273, qs_273, ql_273, G_273⟩ := u_273
  rw [ht_273] at hb_273
  simp only at hb_273
  obtain ⟨⟨hb_2731, hb_2732, hb_2733, hb_2734, hb_2735, hb_2736⟩, hN_273, hgc_273, hbX_273, hbE_273⟩ := hb_273
  have hL_273 := hN_273
  have hY_273 := hN_273
  have hM_273 := hN_273
  have hN_273 : (jNk [0, 5, 10, 14, 15, 16]) G_245 G_273 := hN_273.sub (by decide)
  have hh_273 : jSt (dC, dI) B base G0 G_273 EX11_init s.heap (((((((((((((((((((((((0 + 1) + (1)) + 1) + (1)) + 1) + (8)) + 1) + (1)) + 1) + (1)) + 1) + (24)) + 1) + (3)) + 1) + (0)) + 1) + (0)) + 1) + (0)) + 1) + 1) + (7)) (((((((((((((((((((((((0 + 2) + (4000)) + 12) + (3000)) + 12) + (12012)) + 2) + (20000)) + 2) + (1024)) + 11) + (38990)) + 5) + (826)) + 3) + (0)) + 3) + (0)) + 3) + (0)) + 2) + 17) + (1700)) [(H_266.size, 3, 10, .int qk_273), (H_266.size, 3, 4, .int qs_273), (H_266.size, 3, 3, .int ql_273), (H_113.size, 7, 0, .ref names_147), (H_90.size, 2, 1, .int qc_97), (H_90.size, 2, 0, .ref qa_97), (H_68.size, 2, 1, .int qc_75), (H_68.size, 2, 0, .ref qa_75), (H_20.size, 4, 9, .int ql_27), (H_20.size, 4, 8, .int qg_27), (H_20.size, 4, 11, .int qv_27), (H_20.size, 4, 4, .int qb_27), (H_20.size, 4, 7, .int qf_27), (H_20.size, 4, 2, .int qk_27), (H_20.size, 4, 5, .int qp_27), (H_20.size, 4, 6, .int qo_27), (s.heap.size, 2, 1, .int qc_6), (s.heap.size, 2, 0, .ref qa_6)] [] [(jFy, jYb dC dI G_245), (jFs11, jSef dC dI G_245), (jFl, jLs dC dI ca G_245 3 none)] H_273 locs_273 := (hh_268.callG hb_2731 hb_2732 hb_2733 hb_2734 hb_2735 hS_273 rfl (L1 := [(H_113.size, 7, 0, .ref names_147), (H_90.size, 2, 1, .int qc_97), (H_90.size, 2, 0, .ref qa_97), (H_68.size, 2, 1, .int qc_75), (H_68.size, 2, 0, .ref qa_75), (H_20.size, 4, 9, .int ql_27), (H_20.size, 4, 8, .int qg_27), (H_20.size, 4, 11, .int qv_27), (H_20.size, 4, 4, .int qb_27), (H_20.size, 4, 7, .int qf_27), (H_20.size, 4, 2, .int qk_27), (H_20.size, 4, 5, .int qp_27), (H_20.size, 4, 6, .int qo_27), (s.heap.size, 2, 1, .int qc_6), (s.heap.size, 2, 0, .ref qa_6)]) [0, 1, 2, 3, 4, 5, 6, 7, 8, 9, 10, 11, 12, 13, 14] rfl rfl (M1 := []) [] rfl rfl (I1 := [(jFy, jYb dC dI G_245), (jFs11, jSef dC dI G_245), (jFl, jLs dC dI ca G_245 3 none)]) [0, 2, 3] rfl rfl).more hb_2736
  have hNn_273 : (jNk [0, 5, 10, 14, 15, 16]) G0 G_273 := (hNn_245).tr hN_273
  have hg_275 := hb_2732 _ _ hg_246
  have hg_276 := hb_2732 _ _ hg_247
  have hg_277 := hb_2732 _ _ hg_248
  have hg_278 := hb_2732 _ _ hg_249
  have hd_279 := jYb.grow (hh_273.iv 0 rfl) hb_2732 hY_273 (by decide)
  have hh_280 := hh_273.sub (L1 := [(H_266.size, 3, 10, .int qk_273), (H_266.size, 3, 4, .int qs_273), (H_266.size, 3, 3, .int ql_273), (H_113.size, 7, 0, .ref names_147), (H_90.size, 2, 1, .int qc_97), (H_90.size, 2, 0, .ref qa_97), (H_68.size, 2, 1, .int qc_75), (H_68.size, 2, 0, .ref qa_75), (H_20.size, 4, 9, .int ql_27), (H_20.size, 4, 8, .int qg_27), (H_20.size, 4, 11, .int qv_27), (H_20.size, 4, 4, .int qb_27), (H_20.size, 4, 7, .int qf_27), (H_20.size, 4, 2, .int qk_27), (H_20.size, 4, 5, .int qp_27), (H_20.size, 4, 6, .int qo_27), (s.heap.size, 2, 1, .int qc_6), (s.heap.size, 2, 0, .ref qa_6)]) [0, 1, 2, 3, 4, 5, 6, 7, 8, 9, 10, 11, 12, 13, 14, 15, 16, 17] rfl (M1 := []) [] rfl (I1 := [(jFs11, jSef dC dI G_245), (jFl, jLs dC dI ca G_245 3 none)]) [1, 2] rfl
  clear hh_273
  have hh_281 := hh_280.addI (jYb.ie hd_279)
  clear hh_280
  have hd_282 := jSef.grow (hh_281.iv 1 rfl) hb_2732 hM_273 (by decide)
  have hh_283 := hh_281.sub (L1 := [(H_266.size, 3, 10, .int qk_273), (H_266.size, 3, 4, .int qs_273), (H_266.size, 3, 3, .int ql_273), (H_113.size, 7, 0, .ref names_147), (H_90.size, 2, 1, .int qc_97), (H_90.size, 2, 0, .ref qa_97), (H_68.size, 2, 1, .int qc_75), (H_68.size, 2, 0, .ref qa_75), (H_20.size, 4, 9, .int ql_27), (H_20.size, 4, 8, .int qg_27), (H_20.size, 4, 11, .int qv_27), (H_20.size, 4, 4, .int qb_27), (H_20.size, 4, 7, .int qf_27), (H_20.size, 4, 2, .int qk_27), (H_20.size, 4, 5, .int qp_27), (H_20.size, 4, 6, .int qo_27), (s.heap.size, 2, 1, .int qc_6), (s.heap.size, 2, 0, .ref qa_6)]) [0, 1, 2, 3, 4, 5, 6, 7, 8, 9, 10, 11, 12, 13, 14, 15, 16, 17] rfl (M1 := []) [] rfl (I1 := [(jFy, jYb dC dI G_273), (jFl, jLs dC dI ca G_245 3 none)]) [0, 2] rfl
  clear hh_281
  have hh_284 := hh_283.addI (jSef.ie hd_282)
  clear hh_283
  have hd_285 := jLs.grow (hh_284.iv 2 rfl) hb_2732 hL_273 (by decide)
  have hh_286 := hh_284.sub (L1 := [(H_266.size, 3, 10, .int qk_273), (H_266.size, 3, 4, .int qs_273), (H_266.size, 3, 3, .int ql_273), (H_113.size, 7, 0, .ref names_147), (H_90.size, 2, 1, .int qc_97), (H_90.size, 2, 0, .ref qa_97), (H_68.size, 2, 1, .int qc_75), (H_68.size, 2, 0, .ref qa_75), (H_20.size, 4, 9, .int ql_27), (H_20.size, 4, 8, .int qg_27), (H_20.size, 4, 11, .int qv_27), (H_20.size, 4, 4, .int qb_27), (H_20.size, 4, 7, .int qf_27), (H_20.size, 4, 2, .int qk_27), (H_20.size, 4, 5, .int qp_27), (H_20.size, 4, 6, .int qo_27), (s.heap.size, 2, 1, .int qc_6), (s.heap.size, 2, 0, .ref qa_6)]) [0, 1, 2, 3, 4, 5, 6, 7, 8, 9, 10, 11, 12, 13, 14, 15, 16, 17] rfl (M1 := []) [] rfl (I1 := [(jFs11, jSef dC dI G_273), (jFy, jYb dC dI G_273)]) [0, 1] rfl
  clear hh_284
  have hh_287 := hh_286.addI (jLs.ie hd_285)
  clear hh_286
  have hh_288 := hh_287.addIs hbE_273
  try simp only at hr_274
  obtain ⟨hr_274_0, hr_274_1, hr_274_2⟩ := hr_274
  have hkp_289 := hkp_270.in hbX_273 hsy_268
  have hraw_290x := hbX_273.ke hraw_271.lt hne_272 hraw_271n
  clear hne_272
  have hraw_290 := hraw_271.kept hraw_290x.1
  refine j7_putR hx hb hown hK hh_288 hB hAp hraw_290 hraw_290x.2 hbr0 (C := RX11) (T := TX11) (N := 19) rfl (i := 15) (by decide) (Nat.le_of_ble_eq_true rfl) hly_13_15 rfl hlk_82 (ty := (.object "ProofServer$Document")) (v := .ref H_266.size) (by decide +kernel) rfl rfl dX11_init_151 (fun H_291 locs_291 hraw_291 hr_291 hh_291 => ?_)
  have hraw_291 : va_at (dC, dI) vwCl (r0, .inr (13, [.ref s.heap.size, .ref H_20.size, .ref H_44.size, .ref H_68.size, .ref H_90.size, .ref H_113.size, .ref H_137.size, .ref H_168.size, .ref H_193.size, .ref H_218.size, .ref H_243.size, .int 0, .int 0, .int 0, .int 0, .ref H_266.size, .null, .null, .int 0])) H_291 := hraw_291
  have hkp_292 := hkp_289.put hr_291
  clear hh_288
  refine lv_aload_n hx hb dX11_init_154 rfl (lv_at hl 0 rfl) ?_
  have hne : H_90.size ≠ H_291.size := Nat.ne_of_lt (hh_291.ab ((((((((hb_1202).tr hb_1482).tr hb_1752).tr hb_2002).tr hb_2252).tr hle_245).tr hb_2732) _ _ hgc_97)).2
  clear hsz_273 htt_273 hrc_273 hrs_273
  (try clear hb_2734); (try clear hb_2735); (try clear hz_273)
  have hsz_293 := hh_291.2.2.2.2.2.1
  have htt_293 := hh_291.2.2.2.2.2.2.1
  refine j7_newo (k := 2) (C := RX0) (T := TX0) (N := 2) (fs := [.null, .int 0]) hx hb htw jWc_wsX00 (fun k => ([(.array .byte), .int] : List FieldType).getD k .int) (by decide +kernel) hown (htw (.classLink RX11 7 RX0) (jWr_1 _ (List.mem_of_getElem? (i := 12) rfl))) (htw (.instantiable RX0 2) (jWr_1 _ (List.mem_of_getElem? (i := 13) rfl))) (htw (.initialized RX0) (jWr_1 _ (List.mem_of_getElem? (i := 14) rfl))) hK rfl (fun j hj => by rcases (by omega : j = 0 ∨ j = 1) with rfl | rfl <;> rfl) hh_291 hB (by rw [hRc]; omega) (by rw [hRs]; omega) dX11_init_155 (fun H_293 hraw_293 hfr_293 hnr_293 hh_293 => ?_)
  have hlt_294 := hraw_291.lt
  have hke_293 : jKe G_273 G_273 H_291 H_293 := jKe.raw hfr_293
  have hbr_293 : base ≤ H_291.size := Nat.le_trans hbs hh_291.1.1
  have hsy_293 : s.heap.size ≤ H_291.size := hh_291.1.1
  clear hh_291
  have hkp_295 := hkp_292.tr hke_293
  have hraw_296n := hke_293.nr hraw_291.lt hraw_290x.2
  have hraw_296 := hraw_291.kept (hke_293.1 _ hraw_291.lt)
  have hne_297 : r0 ≠ H_291.size := Nat.ne_of_lt hlt_294
  refine lv_dup hx hb dX11_init_158 rfl ?_
  refine lv_sipush (v := 256) hx hb dX11_init_159 (by decide) ?_
  clear hsz_293 htt_293
  have hsz_298 := hh_293.2.2.2.2.2.1
  have htt_298 := hh_293.2.2.2.2.2.2.1
  refine W.room (fun hrc_298 hrs_298 => ?_)
  refine va_callv (A0 := jA base) (H0 := s.heap) (va_runI (As := [.int 256]) (rest := [.ref H_291.size, .ref r0]) ⟨hx, hb, hml, hown, hts⟩ (uX0_initY l dC dI ca base B hB hAp hB2 hB196 G_273 H_293 H_291.size 256 0 LC LS) (cwI 1 hts (jgW (jWr_3 _ (List.mem_of_getElem? (i := 3) rfl))) rfl rfl rfl (htw (.initialized RX0) (jWr_1 _ (List.mem_of_getElem? (i := 14) rfl))) (htw (.methodLink RX11 11 yX0_init) (jWr_3 _ (List.mem_of_getElem? (i := 1) rfl))) (htw (.instanceMethod yX0_init) (jWr_3 _ (List.mem_of_getElem? (i := 2) rfl))) rfl (by decide +kernel) ⟨by rw [← hR]; exact Nat.le_of_ble_eq_true rfl, by rw [← hR]; exact Nat.le_of_ble_eq_true rfl⟩) ⟨fun a U g mk q => by obtain ⟨q0, q1, q2, qK, q10, q11, q12, q13, q14, q15⟩ := q; exact ⟨q0, q1, q2, jG.calling g mk a qK, q10, q11, q12, q13, q14, q15⟩, fun U hU hW => ⟨rfl, hU, hh_293.2.1, hG.step hW hU hh_293.1, hraw_293, hnr_293, hbr_293, jP.nil, (hh_293.2.2.2.2.2.2.2.2.sub (L1 := [(jFy, jYb dC dI G_273)]) [3] rfl), (by omega), (by omega), ⟨(by first | omega | rfl | assumption | exact fun _ => ⟨4, by decide, by decide⟩), (by first | omega | rfl | assumption | exact fun _ => ⟨4, by decide, by decide⟩), (by first | omega | rfl | assumption | exact fun _ => ⟨4, by decide, by decide⟩), (by first | assumption | exact fun _ => ⟨4, by decide, by decide⟩ | omega), (by first | omega | rfl | assumption | exact fun _ => ⟨4, by decide, by decide⟩)⟩⟩⟩ rfl rfl hl.1 rfl (lv_room (Nat.le_of_ble_eq_true rfl)) dX11_init_162 ⟨by rw [hRc]; omega, by rw [hRs]; omega⟩) hh_293.1 (fun q _ h => h) (fun q h => h) (fun u_298 t_298 H_298 locs_298 ht_298 hvm_298 hr_299 hb_298 hz_298 hk_298 hS_298 => ?_)
  obtain ⟨qc_298, qa_298, m_qa_298, G_298⟩ := u_298
  rw [ht_298] at hb_298
  simp only at hb_298
  obtain ⟨⟨hb_2981, hb_2982, hb_2983, hb_2984, hb_2985, hb_2986⟩, hgq_298_0, hN_298, hgc_298, hbX_298, hbE_298⟩ := hb_298
  have hE9_298 := hN_298
  try have hn3_298 : jNk [3] G0 G_298 := (hn3_245).tr (hE9_298.sub (ks1 := [3]) (by decide))
  have hL_298 := hN_298
  have hM_298 := hN_298
  have hN_298 : (jNk [0, 5, 10, 14, 15, 16]) G_273 G_298 := hN_298.sub (by decide)
  have hh_298 : jSt (dC, dI) B base G0 G_298 EX11_init s.heap (((((((((((((((((((((((((0 + 1) + (1)) + 1) + (1)) + 1) + (8)) + 1) + (1)) + 1) + (1)) + 1) + (24)) + 1) + (3)) + 1) + (0)) + 1) + (0)) + 1) + (0)) + 1) + 1) + (7)) + 1) + (1)) (((((((((((((((((((((((((0 + 2) + (4000)) + 12) + (3000)) + 12) + (12012)) + 2) + (20000)) + 2) + (1024)) + 11) + (38990)) + 5) + (826)) + 3) + (0)) + 3) + (0)) + 3) + (0)) + 2) + 17) + (1700)) + 2) + (256)) [(H_291.size, 2, 1, .int qc_298), (H_291.size, 2, 0, .ref qa_298), (H_266.size, 3, 10, .int qk_273), (H_266.size, 3, 4, .int qs_273), (H_266.size, 3, 3, .int ql_273), (H_113.size, 7, 0, .ref names_147), (H_90.size, 2, 1, .int qc_97), (H_90.size, 2, 0, .ref qa_97), (H_68.size, 2, 1, .int qc_75), (H_68.size, 2, 0, .ref qa_75), (H_20.size, 4, 9, .int ql_27), (H_20.size, 4, 8, .int qg_27), (H_20.size, 4, 11, .int qv_27), (H_20.size, 4, 4, .int qb_27), (H_20.size, 4, 7, .int qf_27), (H_20.size, 4, 2, .int qk_27), (H_20.size, 4, 5, .int qp_27), (H_20.size, 4, 6, .int qo_27), (s.heap.size, 2, 1, .int qc_6), (s.heap.size, 2, 0, .ref qa_6)] [] [(jFdo, jDcc dC dI ca G_273 none (ph + 1500)), (jFl, jLs dC dI ca G_273 3 none), (jFs11, jSef dC dI G_273)] H_298 locs_298 := (hh_293.callG hb_2981 hb_2982 hb_2983 hb_2984 hb_2985 hS_298 rfl (L1 := [(H_266.size, 3, 10, .int qk_273), (H_266.size, 3, 4, .int qs_273), (H_266.size, 3, 3, .int ql_273), (H_113.size, 7, 0, .ref names_147), (H_90.size, 2, 1, .int qc_97), (H_90.size, 2, 0, .ref qa_97), (H_68.size, 2, 1, .int qc_75), (H_68.size, 2, 0, .ref qa_75), (H_20.size, 4, 9, .int ql_27), (H_20.size, 4, 8, .int qg_27), (H_20.size, 4, 11, .int qv_27), (H_20.size, 4, 4, .int qb_27), (H_20.size, 4, 7, .int qf_27), (H_20.size, 4, 2, .int qk_27), (H_20.size, 4, 5, .int qp_27), (H_20.size, 4, 6, .int qo_27), (s.heap.size, 2, 1, .int qc_6), (s.heap.size, 2, 0, .ref qa_6)]) [0, 1, 2, 3, 4, 5, 6, 7, 8, 9, 10, 11, 12, 13, 14, 15, 16, 17] rfl rfl (M1 := []) [] rfl rfl (I1 := [(jFdo, jDcc dC dI ca G_273 none (ph + 1500)), (jFl, jLs dC dI ca G_273 3 none), (jFs11, jSef dC dI G_273)]) [0, 1, 2] rfl rfl).more hb_2986
  have hNn_298 : (jNk [0, 5, 10, 14, 15, 16]) G0 G_298 := (hNn_273).tr hN_298
  have hg_300 := hb_2982 _ _ hg_275
  have hg_301 := hb_2982 _ _ hg_276
  have hg_302 := hb_2982 _ _ hg_277
  have hg_303 := hb_2982 _ _ hg_278
  have hd_304 := jDcc.grow (hh_298.iv 0 rfl) hb_2982 hE9_298 (by decide)
  have hh_305 := hh_298.sub (L1 := [(H_291.size, 2, 1, .int qc_298), (H_291.size, 2, 0, .ref qa_298), (H_266.size, 3, 10, .int qk_273), (H_266.size, 3, 4, .int qs_273), (H_266.size, 3, 3, .int ql_273), (H_113.size, 7, 0, .ref names_147), (H_90.size, 2, 1, .int qc_97), (H_90.size, 2, 0, .ref qa_97), (H_68.size, 2, 1, .int qc_75), (H_68.size, 2, 0, .ref qa_75), (H_20.size, 4, 9, .int ql_27), (H_20.size, 4, 8, .int qg_27), (H_20.size, 4, 11, .int qv_27), (H_20.size, 4, 4, .int qb_27), (H_20.size, 4, 7, .int qf_27), (H_20.size, 4, 2, .int qk_27), (H_20.size, 4, 5, .int qp_27), (H_20.size, 4, 6, .int qo_27), (s.heap.size, 2, 1, .int qc_6), (s.heap.size, 2, 0, .ref qa_6)]) [0, 1, 2, 3, 4, 5, 6, 7, 8, 9, 10, 11, 12, 13, 14, 15, 16, 17, 18, 19] rfl (M1 := []) [] rfl (I1 := [(jFl, jLs dC dI ca G_273 3 none), (jFs11, jSef dC dI G_273)]) [1, 2] rfl
  clear hh_298
  have hh_306 := hh_305.addI (jDcc.ie hd_304)
  clear hh_305
  have hd_307 := jLs.grow (hh_306.iv 1 rfl) hb_2982 hL_298 (by decide)
  have hh_308 := hh_306.sub (L1 := [(H_291.size, 2, 1, .int qc_298), (H_291.size, 2, 0, .ref qa_298), (H_266.size, 3, 10, .int qk_273), (H_266.size, 3, 4, .int qs_273), (H_266.size, 3, 3, .int ql_273), (H_113.size, 7, 0, .ref names_147), (H_90.size, 2, 1, .int qc_97), (H_90.size, 2, 0, .ref qa_97), (H_68.size, 2, 1, .int qc_75), (H_68.size, 2, 0, .ref qa_75), (H_20.size, 4, 9, .int ql_27), (H_20.size, 4, 8, .int qg_27), (H_20.size, 4, 11, .int qv_27), (H_20.size, 4, 4, .int qb_27), (H_20.size, 4, 7, .int qf_27), (H_20.size, 4, 2, .int qk_27), (H_20.size, 4, 5, .int qp_27), (H_20.size, 4, 6, .int qo_27), (s.heap.size, 2, 1, .int qc_6), (s.heap.size, 2, 0, .ref qa_6)]) [0, 1, 2, 3, 4, 5, 6, 7, 8, 9, 10, 11, 12, 13, 14, 15, 16, 17, 18, 19] rfl (M1 := []) [] rfl (I1 := [(jFdo, jDcc dC dI ca G_298 none (ph + 1500)), (jFs11, jSef dC dI G_273)]) [0, 2] rfl
  clear hh_306
  have hh_309 := hh_308.addI (jLs.ie hd_307)
  clear hh_308
  have hd_310 := jSef.grow (hh_309.iv 2 rfl) hb_2982 hM_298 (by decide)
  have hh_311 := hh_309.sub (L1 := [(H_291.size, 2, 1, .int qc_298), (H_291.size, 2, 0, .ref qa_298), (H_266.size, 3, 10, .int qk_273), (H_266.size, 3, 4, .int qs_273), (H_266.size, 3, 3, .int ql_273), (H_113.size, 7, 0, .ref names_147), (H_90.size, 2, 1, .int qc_97), (H_90.size, 2, 0, .ref qa_97), (H_68.size, 2, 1, .int qc_75), (H_68.size, 2, 0, .ref qa_75), (H_20.size, 4, 9, .int ql_27), (H_20.size, 4, 8, .int qg_27), (H_20.size, 4, 11, .int qv_27), (H_20.size, 4, 4, .int qb_27), (H_20.size, 4, 7, .int qf_27), (H_20.size, 4, 2, .int qk_27), (H_20.size, 4, 5, .int qp_27), (H_20.size, 4, 6, .int qo_27), (s.heap.size, 2, 1, .int qc_6), (s.heap.size, 2, 0, .ref qa_6)]) [0, 1, 2, 3, 4, 5, 6, 7, 8, 9, 10, 11, 12, 13, 14, 15, 16, 17, 18, 19] rfl (M1 := []) [] rfl (I1 := [(jFl, jLs dC dI ca G_298 3 none), (jFdo, jDcc dC dI ca G_298 none (ph + 1500))]) [0, 1] rfl
  clear hh_309
  have hh_312 := hh_311.addI (jSef.ie hd_310)
  clear hh_311
  have hh_313 := hh_312.addIs hbE_298
  try simp only at hr_299
  obtain ⟨hr_299_0, hr_299_1⟩ := hr_299
  have hkp_314 := hkp_295.in hbX_298 hsy_293
  have hraw_315x := hbX_298.ke hraw_296.lt hne_297 hraw_296n
  clear hne_297
  have hraw_315 := hraw_296.kept hraw_315x.1
  refine j7_putRF hx hb hown hK hh_313 hB hAp hraw_315 hraw_315x.2 hbr0 (C := RX11) (T := TX11) (N := 19) rfl (i := 17) (by decide) (Nat.le_of_ble_eq_true rfl) hly_13_17 rfl hin2 rfl hlk_86 (ty := (.object "ProofServer$Bytes")) (v := .ref H_291.size) (by decide +kernel) rfl rfl dX11_init_165 (fun H_316 locs_316 hraw_316 hr_316 hh_316 => ?_)
  have hraw_316 : va_at (dC, dI) vwCl (r0, .inr (13, [.ref s.heap.size, .ref H_20.size, .ref H_44.size, .ref H_68.size, .ref H_90.size, .ref H_113.size, .ref H_137.size, .ref H_168.size, .ref H_193.size, .ref H_218.size, .ref H_243.size, .int 0, .int 0, .int 0, .int 0, .ref H_266.size, .null, .ref H_291.size, .int 0])) H_316 := hraw_316
  have hkp_317 := hkp_314.put hr_316
  clear hh_313
  refine lv_aload_n hx hb dX11_init_168 rfl (lv_at hl 0 rfl) ?_
  refine lv_bipush (v := (-2)) hx hb dX11_init_169 (by decide) ?_
  refine j7_putR hx hb hown hK hh_316 hB hAp hraw_316 hraw_315x.2 hbr0 (C := RX11) (T := TX11) (N := 19) rfl (i := 18) (by decide) (Nat.le_of_ble_eq_true rfl) hly_13_18 rfl hlk_89 (ty := .int) (v := .int (-2)) (by decide +kernel) rfl rfl dX11_init_171 (fun H_318 locs_318 hraw_318 hr_318 hh_318 => ?_)
  have hraw_318 : va_at (dC, dI) vwCl (r0, .inr (13, [.ref s.heap.size, .ref H_20.size, .ref H_44.size, .ref H_68.size, .ref H_90.size, .ref H_113.size, .ref H_137.size, .ref H_168.size, .ref H_193.size, .ref H_218.size, .ref H_243.size, .int 0, .int 0, .int 0, .int 0, .ref H_266.size, .null, .ref H_291.size, .int (-2)])) H_318 := hraw_318
  have hkp_319 := hkp_317.put hr_318
  clear hh_316
  clear hsz_298 htt_298 hrc_298 hrs_298
  (try clear hb_2984); (try clear hb_2985); (try clear hz_298)
  have hsz_320 := hh_318.2.2.2.2.2.1
  have htt_320 := hh_318.2.2.2.2.2.2.1
  refine W.room (fun hrc_320 hrs_320 => ?_)
  refine W.widen (k := LC - s.heap.size) (n := LS - jTot s.heap) (by omega) (by omega) ?_
  rw [hQ]
  have hle_321 : jLe G_298 (va_up G_298 r0 (some (13, 0))) := jLe.typ hraw_315x.2
  have hg_322 := hle_321 _ _ hgq_298_0
  have hg_323 := hle_321 _ _ hg_300
  have hg_324 := hle_321 _ _ hg_301
  have hg_325 := hle_321 _ _ hg_302
  have hg_326 := hle_321 _ _ hg_303
  have hg_327 := ((((((((((((hb_272).tr hb_512).tr hb_752).tr hb_972).tr hb_1202).tr hb_1482).tr hb_1752).tr hb_2002).tr hb_2252).tr hle_245).tr hb_2732).tr hb_2982).tr hle_321 _ _ hgc_6
  have hg_328 := (((((((((((hb_512).tr hb_752).tr hb_972).tr hb_1202).tr hb_1482).tr hb_1752).tr hb_2002).tr hb_2252).tr hle_245).tr hb_2732).tr hb_2982).tr hle_321 _ _ hgc_27
  have hg_329 := ((((((((((hb_752).tr hb_972).tr hb_1202).tr hb_1482).tr hb_1752).tr hb_2002).tr hb_2252).tr hle_245).tr hb_2732).tr hb_2982).tr hle_321 _ _ hgc_51
  have hg_330 := (((((((((hb_972).tr hb_1202).tr hb_1482).tr hb_1752).tr hb_2002).tr hb_2252).tr hle_245).tr hb_2732).tr hb_2982).tr hle_321 _ _ hgc_75
  have hg_331 := ((((((((hb_1202).tr hb_1482).tr hb_1752).tr hb_2002).tr hb_2252).tr hle_245).tr hb_2732).tr hb_2982).tr hle_321 _ _ hgc_97
  have hg_332 := (((((((hb_1482).tr hb_1752).tr hb_2002).tr hb_2252).tr hle_245).tr hb_2732).tr hb_2982).tr hle_321 _ _ hgc_120
  have hg_333 := ((((((hb_1752).tr hb_2002).tr hb_2252).tr hle_245).tr hb_2732).tr hb_2982).tr hle_321 _ _ hgc_148
  have hg_334 := (((((hb_2002).tr hb_2252).tr hle_245).tr hb_2732).tr hb_2982).tr hle_321 _ _ hgc_175
  have hg_335 := ((((hb_2252).tr hle_245).tr hb_2732).tr hb_2982).tr hle_321 _ _ hgc_200
  have hg_336 := (((hle_245).tr hb_2732).tr hb_2982).tr hle_321 _ _ hgc_225
  have hg_337 := ((hb_2732).tr hb_2982).tr hle_321 _ _ hgn_245
  have hg_338 := (hb_2982).tr hle_321 _ _ hgc_273
  have hg_339 := (jLe.rf).tr hle_321 _ _ hgc_298
  have hfa_321 : jRf (va_up G_298 r0 (some (13, 0))) 2 4000 (.ref s.heap.size) ∧ jRf (va_up G_298 r0 (some (13, 0))) 4 0 (.ref H_20.size) ∧ jRf (va_up G_298 r0 (some (13, 0))) 6 0 (.ref H_44.size) ∧ jRf (va_up G_298 r0 (some (13, 0))) 2 20000 (.ref H_68.size) ∧ jRf (va_up G_298 r0 (some (13, 0))) 2 0 (.ref H_90.size) ∧ jRf (va_up G_298 r0 (some (13, 0))) 7 0 (.ref H_113.size) ∧ jRf (va_up G_298 r0 (some (13, 0))) 9 0 (.ref H_137.size) ∧ jRf (va_up G_298 r0 (some (13, 0))) 1 1 (.ref H_168.size) ∧ jRf (va_up G_298 r0 (some (13, 0))) 1 2 (.ref H_193.size) ∧ jRf (va_up G_298 r0 (some (13, 0))) 1 3 (.ref H_218.size) ∧ jRf (va_up G_298 r0 (some (13, 0))) 212 2 (.ref H_243.size) ∧ jI 0 2 (.int 0) ∧ jIa (.int 0) ∧ jIa (.int 0) ∧ jIa (.int 0) ∧ jRf (va_up G_298 r0 (some (13, 0))) 3 1 (.ref H_266.size) ∧ jRn (va_up G_298 r0 (some (13, 0))) 3 1 (.null) ∧ jRf (va_up G_298 r0 (some (13, 0))) 2 0 (.ref H_291.size) ∧ jIa (.int (-2)) ∧ True := ⟨⟨_, rfl, hg_327⟩, ⟨_, rfl, hg_328⟩, ⟨_, rfl, hg_329⟩, ⟨_, rfl, hg_330⟩, ⟨_, rfl, hg_331⟩, ⟨_, rfl, hg_332⟩, ⟨_, rfl, hg_333⟩, ⟨_, rfl, hg_334⟩, ⟨_, rfl, hg_335⟩, ⟨_, rfl, hg_336⟩, ⟨_, rfl, hg_337⟩, ⟨_, rfl, by omega, by omega⟩, ⟨_, rfl⟩, ⟨_, rfl⟩, ⟨_, rfl⟩, ⟨_, rfl, hg_338⟩, Or.inl rfl, ⟨_, rfl, hg_339⟩, ⟨_, rfl⟩, trivial⟩
  have hh_321 := hh_318.typ (k := 13) (n := 0) hB hraw_315x.2 hbr0 hraw_318.lt (jOb.of (C := RX11) (T := TX11) (N := 19) (F := F13) hB13 rfl hraw_318 (show jFx (F13 0 (va_up G_298 r0 (some (13, 0)))) [.ref s.heap.size, .ref H_20.size, .ref H_44.size, .ref H_68.size, .ref H_90.size, .ref H_113.size, .ref H_137.size, .ref H_168.size, .ref H_193.size, .ref H_218.size, .ref H_243.size, .int 0, .int 0, .int 0, .int 0, .ref H_266.size, .null, .ref H_291.size, .int (-2)] from hfa_321))
  have hgn_321 : (va_up G_298 r0 (some (13, 0))) r0 = some (13, 0) := jUp_self
  have hN_321 : (jNk [0, 5, 10, 14, 15, 16]) G_298 (va_up G_298 r0 (some (13, 0))) := jNk.new (by decide)
  have hNn_321 : (jNk [0, 5, 10, 14, 15, 16]) G0 (va_up G_298 r0 (some (13, 0))) := (hNn_298).tr hN_321
  have hkp_340 := hkp_319.typ (t := some (13, 0))
  have hg_341 := (((((((((((((hb_272).tr hb_512).tr hb_752).tr hb_972).tr hb_1202).tr hb_1482).tr hb_1752).tr hb_2002).tr hb_2252).tr hle_245).tr hb_2732).tr hb_2982).tr hle_321) _ _ hgc_6
  have hg_342 := ((((((((((((hb_512).tr hb_752).tr hb_972).tr hb_1202).tr hb_1482).tr hb_1752).tr hb_2002).tr hb_2252).tr hle_245).tr hb_2732).tr hb_2982).tr hle_321) _ _ hgc_27
  have hg_343 := (((((((((hb_1202).tr hb_1482).tr hb_1752).tr hb_2002).tr hb_2252).tr hle_245).tr hb_2732).tr hb_2982).tr hle_321) _ _ hgc_97
  have hg_344 := (hle_321) _ _ hgc_298
  have hh_345 := hh_321.more (P1 := [(r0, 13, 0, .ref s.heap.size), (r0, 13, 1, .ref H_20.size), (r0, 13, 4, .ref H_90.size), (r0, 13, 17, .ref H_291.size)]) (jP.cons hgn_321 (jf.raw (C := RX11) (T := TX11) (N := 19) rfl hraw_318 (i := 0) (by decide)) (jP.cons hgn_321 (jf.raw (C := RX11) (T := TX11) (N := 19) rfl hraw_318 (i := 1) (by decide)) (jP.cons hgn_321 (jf.raw (C := RX11) (T := TX11) (N := 19) rfl hraw_318 (i := 4) (by decide)) (jP.cons hgn_321 (jf.raw (C := RX11) (T := TX11) (N := 19) rfl hraw_318 (i := 17) (by decide)) jP.nil))))
  have hM_321 : jNk [1, 2, 3, 11] G_298 (va_up G_298 r0 (some (13, 0))) := jNk.new (by decide)
  have hd_346 := jYb.grow (hh_345.iv 0 rfl) hle_321 hM_321 (by decide)
  have hh_347 := hh_345.sub (L1 := [(r0, 13, 0, .ref s.heap.size), (r0, 13, 1, .ref H_20.size), (r0, 13, 4, .ref H_90.size), (r0, 13, 17, .ref H_291.size), (H_291.size, 2, 1, .int qc_298), (H_291.size, 2, 0, .ref qa_298), (H_266.size, 3, 10, .int qk_273), (H_266.size, 3, 4, .int qs_273), (H_266.size, 3, 3, .int ql_273), (H_113.size, 7, 0, .ref names_147), (H_90.size, 2, 1, .int qc_97), (H_90.size, 2, 0, .ref qa_97), (H_68.size, 2, 1, .int qc_75), (H_68.size, 2, 0, .ref qa_75), (H_20.size, 4, 9, .int ql_27), (H_20.size, 4, 8, .int qg_27), (H_20.size, 4, 11, .int qv_27), (H_20.size, 4, 4, .int qb_27), (H_20.size, 4, 7, .int qf_27), (H_20.size, 4, 2, .int qk_27), (H_20.size, 4, 5, .int qp_27), (H_20.size, 4, 6, .int qo_27), (s.heap.size, 2, 1, .int qc_6), (s.heap.size, 2, 0, .ref qa_6)]) [0, 1, 2, 3, 4, 5, 6, 7, 8, 9, 10, 11, 12, 13, 14, 15, 16, 17, 18, 19, 20, 21, 22, 23] rfl (M1 := []) [] rfl (I1 := [(jFs11, jSef dC dI G_298), (jFl, jLs dC dI ca G_298 3 none), (jFdo, jDcc dC dI ca G_298 none (ph + 1500))]) [1, 2, 3] rfl
  clear hh_345
  have hh_348 := hh_347.addI (jYb.ie hd_346)
  clear hh_347
  have hd_349 := jSef.grow (hh_348.iv 1 rfl) hle_321 hM_321 (by decide)
  have hh_350 := hh_348.sub (L1 := [(r0, 13, 0, .ref s.heap.size), (r0, 13, 1, .ref H_20.size), (r0, 13, 4, .ref H_90.size), (r0, 13, 17, .ref H_291.size), (H_291.size, 2, 1, .int qc_298), (H_291.size, 2, 0, .ref qa_298), (H_266.size, 3, 10, .int qk_273), (H_266.size, 3, 4, .int qs_273), (H_266.size, 3, 3, .int ql_273), (H_113.size, 7, 0, .ref names_147), (H_90.size, 2, 1, .int qc_97), (H_90.size, 2, 0, .ref qa_97), (H_68.size, 2, 1, .int qc_75), (H_68.size, 2, 0, .ref qa_75), (H_20.size, 4, 9, .int ql_27), (H_20.size, 4, 8, .int qg_27), (H_20.size, 4, 11, .int qv_27), (H_20.size, 4, 4, .int qb_27), (H_20.size, 4, 7, .int qf_27), (H_20.size, 4, 2, .int qk_27), (H_20.size, 4, 5, .int qp_27), (H_20.size, 4, 6, .int qo_27), (s.heap.size, 2, 1, .int qc_6), (s.heap.size, 2, 0, .ref qa_6)]) [0, 1, 2, 3, 4, 5, 6, 7, 8, 9, 10, 11, 12, 13, 14, 15, 16, 17, 18, 19, 20, 21, 22, 23] rfl (M1 := []) [] rfl (I1 := [(jFy, jYb dC dI (va_up G_298 r0 (some (13, 0)))), (jFl, jLs dC dI ca G_298 3 none), (jFdo, jDcc dC dI ca G_298 none (ph + 1500))]) [0, 2, 3] rfl
  clear hh_348
  have hh_351 := hh_350.addI (jSef.ie hd_349)
  clear hh_350
  have hd_352 := jLs.grow (hh_351.iv 2 rfl) hle_321 hM_321 (by decide)
  have hh_353 := hh_351.sub (L1 := [(r0, 13, 0, .ref s.heap.size), (r0, 13, 1, .ref H_20.size), (r0, 13, 4, .ref H_90.size), (r0, 13, 17, .ref H_291.size), (H_291.size, 2, 1, .int qc_298), (H_291.size, 2, 0, .ref qa_298), (H_266.size, 3, 10, .int qk_273), (H_266.size, 3, 4, .int qs_273), (H_266.size, 3, 3, .int ql_273), (H_113.size, 7, 0, .ref names_147), (H_90.size, 2, 1, .int qc_97), (H_90.size, 2, 0, .ref qa_97), (H_68.size, 2, 1, .int qc_75), (H_68.size, 2, 0, .ref qa_75), (H_20.size, 4, 9, .int ql_27), (H_20.size, 4, 8, .int qg_27), (H_20.size, 4, 11, .int qv_27), (H_20.size, 4, 4, .int qb_27), (H_20.size, 4, 7, .int qf_27), (H_20.size, 4, 2, .int qk_27), (H_20.size, 4, 5, .int qp_27), (H_20.size, 4, 6, .int qo_27), (s.heap.size, 2, 1, .int qc_6), (s.heap.size, 2, 0, .ref qa_6)]) [0, 1, 2, 3, 4, 5, 6, 7, 8, 9, 10, 11, 12, 13, 14, 15, 16, 17, 18, 19, 20, 21, 22, 23] rfl (M1 := []) [] rfl (I1 := [(jFs11, jSef dC dI (va_up G_298 r0 (some (13, 0)))), (jFy, jYb dC dI (va_up G_298 r0 (some (13, 0)))), (jFdo, jDcc dC dI ca G_298 none (ph + 1500))]) [0, 1, 3] rfl
  clear hh_351
  have hh_354 := hh_353.addI (jLs.ie hd_352)
  clear hh_353
  have hd_355 := jDcc.grow (hh_354.iv 3 rfl) hle_321 hM_321 (by decide)
  have hh_356 := hh_354.sub (L1 := [(r0, 13, 0, .ref s.heap.size), (r0, 13, 1, .ref H_20.size), (r0, 13, 4, .ref H_90.size), (r0, 13, 17, .ref H_291.size), (H_291.size, 2, 1, .int qc_298), (H_291.size, 2, 0, .ref qa_298), (H_266.size, 3, 10, .int qk_273), (H_266.size, 3, 4, .int qs_273), (H_266.size, 3, 3, .int ql_273), (H_113.size, 7, 0, .ref names_147), (H_90.size, 2, 1, .int qc_97), (H_90.size, 2, 0, .ref qa_97), (H_68.size, 2, 1, .int qc_75), (H_68.size, 2, 0, .ref qa_75), (H_20.size, 4, 9, .int ql_27), (H_20.size, 4, 8, .int qg_27), (H_20.size, 4, 11, .int qv_27), (H_20.size, 4, 4, .int qb_27), (H_20.size, 4, 7, .int qf_27), (H_20.size, 4, 2, .int qk_27), (H_20.size, 4, 5, .int qp_27), (H_20.size, 4, 6, .int qo_27), (s.heap.size, 2, 1, .int qc_6), (s.heap.size, 2, 0, .ref qa_6)]) [0, 1, 2, 3, 4, 5, 6, 7, 8, 9, 10, 11, 12, 13, 14, 15, 16, 17, 18, 19, 20, 21, 22, 23] rfl (M1 := []) [] rfl (I1 := [(jFl, jLs dC dI ca (va_up G_298 r0 (some (13, 0))) 3 none), (jFs11, jSef dC dI (va_up G_298 r0 (some (13, 0)))), (jFy, jYb dC dI (va_up G_298 r0 (some (13, 0))))]) [0, 1, 2] rfl
  clear hh_354
  have hh_357 := hh_356.addI (jDcc.ie hd_355)
  clear hh_356
  exact W.vret hx hb hr (fun t ht hW => ⟨⟨(qc_6, ql_27, qg_27, qv_27, qb_27, qf_27, qk_27, qp_27, qo_27, s.heap.size, 4000, H_20.size, 0, H_90.size, 0, H_291.size, 0, (va_up G_298 r0 (some (13, 0)))), rfl, by (try dsimp only); exact ⟨(by first | omega | rfl | assumption | fail), (by first | omega | rfl | assumption | fail), (by first | omega | rfl | assumption | fail), (by first | omega | rfl | assumption | fail), (by first | omega | rfl | assumption | fail), (by first | omega | rfl | assumption | fail), (by first | omega | rfl | assumption | fail), (by first | omega | rfl | assumption | fail), (by first | omega | rfl | assumption | fail), (by first | omega | rfl | assumption | fail), (by first | omega | rfl | assumption | fail), (by first | omega | rfl | assumption | fail), (by first | omega | rfl | assumption | fail)⟩, ⟨hh_357.ra (by first | (simp only; omega) | omega) (by first | (simp only; omega) | omega) (M1 := [(s.heap.size, 2, 1, .int qc_6), (H_20.size, 4, 9, .int ql_27), (H_20.size, 4, 8, .int qg_27), (H_20.size, 4, 11, .int qv_27), (H_20.size, 4, 4, .int qb_27), (H_20.size, 4, 7, .int qf_27), (H_20.size, 4, 2, .int qk_27), (H_20.size, 4, 5, .int qp_27), (H_20.size, 4, 6, .int qo_27), (r0, 13, 0, .ref s.heap.size), (r0, 13, 1, .ref H_20.size), (r0, 13, 4, .ref H_90.size), (r0, 13, 17, .ref H_291.size)]) [22, 14, 15, 16, 17, 18, 19, 20, 21, 0, 1, 2, 3] rfl ht, hg_341, hg_342, hg_343, hg_344, hNn_321, hgn_321, by rw [ht]; exact hkp_340, by rw [ht]; exact hh_357.2.2.2.2.2.2.2.2.sub (L1 := [(jFy, jYb dC dI (va_up G_298 r0 (some (13, 0)))), (jFs11, jSef dC dI (va_up G_298 r0 (some (13, 0)))), (jFl, jLs dC dI ca (va_up G_298 r0 (some (13, 0))) 3 none), (jFdo, jDcc dC dI ca (va_up G_298 r0 (some (13, 0))) none (ph + 1500))]) [3, 2, 1, 0] rfl⟩⟩, by rw [ht]; try exact hh_357.1.1, fun q h9 hq => by rw [ht]; try exact hh_357.1.2.1 q h9 hq⟩) hh_357.1.2.2 dX11_init_174
end
