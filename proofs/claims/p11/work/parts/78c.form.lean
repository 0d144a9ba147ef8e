theorem dX13_sizeWith_0 : decode cX13_sizeWith 0 = .ok (.aload_n 0, 1) := by decide +kernel
theorem dX13_sizeWith_1 : decode cX13_sizeWith 1 = .ok (.getfield 12, 3) := by decide +kernel
theorem dX13_sizeWith_4 : decode cX13_sizeWith 4 = .ok (.iload_n 1, 1) := by decide +kernel
theorem dX13_sizeWith_5 : decode cX13_sizeWith 5 = .ok (.iaload, 1) := by decide +kernel
theorem dX13_sizeWith_6 : decode cX13_sizeWith 6 = .ok (.bipush 10, 2) := by decide +kernel
theorem dX13_sizeWith_8 : decode cX13_sizeWith 8 = .ok (.if_icmp .ne 46, 3) := by decide +kernel
theorem dX13_sizeWith_11 : decode cX13_sizeWith 11 = .ok (.aload_n 0, 1) := by decide +kernel
theorem dX13_sizeWith_12 : decode cX13_sizeWith 12 = .ok (.getfield 16, 3) := by decide +kernel
theorem dX13_sizeWith_15 : decode cX13_sizeWith 15 = .ok (.iload_n 1, 1) := by decide +kernel
theorem dX13_sizeWith_16 : decode cX13_sizeWith 16 = .ok (.iaload, 1) := by decide +kernel
theorem dX13_sizeWith_17 : decode cX13_sizeWith 17 = .ok (.iload_n 2, 1) := by decide +kernel
theorem dX13_sizeWith_18 : decode cX13_sizeWith 18 = .ok (.if_icmp .lt 36, 3) := by decide +kernel
theorem dX13_sizeWith_21 : decode cX13_sizeWith 21 = .ok (.aload_n 0, 1) := by decide +kernel
theorem dX13_sizeWith_22 : decode cX13_sizeWith 22 = .ok (.getfield 16, 3) := by decide +kernel
theorem dX13_sizeWith_25 : decode cX13_sizeWith 25 = .ok (.iload_n 1, 1) := by decide +kernel
theorem dX13_sizeWith_26 : decode cX13_sizeWith 26 = .ok (.iaload, 1) := by decide +kernel
theorem dX13_sizeWith_27 : decode cX13_sizeWith 27 = .ok (.iload_n 2, 1) := by decide +kernel
theorem dX13_sizeWith_28 : decode cX13_sizeWith 28 = .ok (.iload 4, 2) := by decide +kernel
theorem dX13_sizeWith_30 : decode cX13_sizeWith 30 = .ok (.iadd, 1) := by decide +kernel
theorem dX13_sizeWith_31 : decode cX13_sizeWith 31 = .ok (.if_icmp .ge 23, 3) := by decide +kernel
theorem dX13_sizeWith_34 : decode cX13_sizeWith 34 = .ok (.aload_n 0, 1) := by decide +kernel
theorem dX13_sizeWith_35 : decode cX13_sizeWith 35 = .ok (.aload_n 3, 1) := by decide +kernel
theorem dX13_sizeWith_36 : decode cX13_sizeWith 36 = .ok (.iload 4, 2) := by decide +kernel
theorem dX13_sizeWith_38 : decode cX13_sizeWith 38 = .ok (.iconst 1, 1) := by decide +kernel
theorem dX13_sizeWith_39 : decode cX13_sizeWith 39 = .ok (.isub, 1) := by decide +kernel
theorem dX13_sizeWith_40 : decode cX13_sizeWith 40 = .ok (.aload_n 0, 1) := by decide +kernel
theorem dX13_sizeWith_41 : decode cX13_sizeWith 41 = .ok (.getfield 16, 3) := by decide +kernel
theorem dX13_sizeWith_44 : decode cX13_sizeWith 44 = .ok (.iload_n 1, 1) := by decide +kernel
theorem dX13_sizeWith_45 : decode cX13_sizeWith 45 = .ok (.iaload, 1) := by decide +kernel
theorem dX13_sizeWith_46 : decode cX13_sizeWith 46 = .ok (.isub, 1) := by decide +kernel
theorem dX13_sizeWith_47 : decode cX13_sizeWith 47 = .ok (.iload_n 2, 1) := by decide +kernel
theorem dX13_sizeWith_48 : decode cX13_sizeWith 48 = .ok (.iadd, 1) := by decide +kernel
theorem dX13_sizeWith_49 : decode cX13_sizeWith 49 = .ok (.iaload, 1) := by decide +kernel
theorem dX13_sizeWith_50 : decode cX13_sizeWith 50 = .ok (.invokevirtual 259, 3) := by decide +kernel
theorem dX13_sizeWith_53 : decode cX13_sizeWith 53 = .ok (.ireturn, 1) := by decide +kernel
theorem dX13_sizeWith_54 : decode cX13_sizeWith 54 = .ok (.iconst 1, 1) := by decide +kernel
theorem dX13_sizeWith_55 : decode cX13_sizeWith 55 = .ok (.istore 5, 2) := by decide +kernel
theorem dX13_sizeWith_57 : decode cX13_sizeWith 57 = .ok (.aload_n 0, 1) := by decide +kernel
theorem dX13_sizeWith_58 : decode cX13_sizeWith 58 = .ok (.getfield 12, 3) := by decide +kernel
theorem dX13_sizeWith_61 : decode cX13_sizeWith 61 = .ok (.iload_n 1, 1) := by decide +kernel
theorem dX13_sizeWith_62 : decode cX13_sizeWith 62 = .ok (.iaload, 1) := by decide +kernel
theorem dX13_sizeWith_63 : decode cX13_sizeWith 63 = .ok (.iconst 4, 1) := by decide +kernel
theorem dX13_sizeWith_64 : decode cX13_sizeWith 64 = .ok (.if_icmp .eq 13, 3) := by decide +kernel
theorem dX13_sizeWith_67 : decode cX13_sizeWith 67 = .ok (.aload_n 0, 1) := by decide +kernel
theorem dX13_sizeWith_68 : decode cX13_sizeWith 68 = .ok (.getfield 12, 3) := by decide +kernel
theorem dX13_sizeWith_71 : decode cX13_sizeWith 71 = .ok (.iload_n 1, 1) := by decide +kernel
theorem dX13_sizeWith_72 : decode cX13_sizeWith 72 = .ok (.iaload, 1) := by decide +kernel
theorem dX13_sizeWith_73 : decode cX13_sizeWith 73 = .ok (.iconst 5, 1) := by decide +kernel
theorem dX13_sizeWith_74 : decode cX13_sizeWith 74 = .ok (.if_icmp .ne 9, 3) := by decide +kernel
theorem dX13_sizeWith_77 : decode cX13_sizeWith 77 = .ok (.iload_n 2, 1) := by decide +kernel
theorem dX13_sizeWith_78 : decode cX13_sizeWith 78 = .ok (.iconst 1, 1) := by decide +kernel
theorem dX13_sizeWith_79 : decode cX13_sizeWith 79 = .ok (.iadd, 1) := by decide +kernel
theorem dX13_sizeWith_80 : decode cX13_sizeWith 80 = .ok (.goto 4, 3) := by decide +kernel
theorem dX13_sizeWith_83 : decode cX13_sizeWith 83 = .ok (.iload_n 2, 1) := by decide +kernel
theorem dX13_sizeWith_84 : decode cX13_sizeWith 84 = .ok (.istore 6, 2) := by decide +kernel
theorem dX13_sizeWith_86 : decode cX13_sizeWith 86 = .ok (.iconst 0, 1) := by decide +kernel
theorem dX13_sizeWith_87 : decode cX13_sizeWith 87 = .ok (.istore 7, 2) := by decide +kernel
theorem dX13_sizeWith_89 : decode cX13_sizeWith 89 = .ok (.iload 7, 2) := by decide +kernel
theorem dX13_sizeWith_91 : decode cX13_sizeWith 91 = .ok (.aload_n 0, 1) := by decide +kernel
theorem dX13_sizeWith_92 : decode cX13_sizeWith 92 = .ok (.iload_n 1, 1) := by decide +kernel
theorem dX13_sizeWith_93 : decode cX13_sizeWith 93 = .ok (.invokevirtual 252, 3) := by decide +kernel
theorem dX13_sizeWith_96 : decode cX13_sizeWith 96 = .ok (.if_icmp .ge 30, 3) := by decide +kernel
theorem dX13_sizeWith_99 : decode cX13_sizeWith 99 = .ok (.iload 5, 2) := by decide +kernel
theorem dX13_sizeWith_101 : decode cX13_sizeWith 101 = .ok (.aload_n 0, 1) := by decide +kernel
theorem dX13_sizeWith_102 : decode cX13_sizeWith 102 = .ok (.aload_n 0, 1) := by decide +kernel
theorem dX13_sizeWith_103 : decode cX13_sizeWith 103 = .ok (.iload_n 1, 1) := by decide +kernel
theorem dX13_sizeWith_104 : decode cX13_sizeWith 104 = .ok (.iload 7, 2) := by decide +kernel
theorem dX13_sizeWith_106 : decode cX13_sizeWith 106 = .ok (.invokevirtual 255, 3) := by decide +kernel
theorem dX13_sizeWith_109 : decode cX13_sizeWith 109 = .ok (.iload 6, 2) := by decide +kernel
theorem dX13_sizeWith_111 : decode cX13_sizeWith 111 = .ok (.aload_n 3, 1) := by decide +kernel
theorem dX13_sizeWith_112 : decode cX13_sizeWith 112 = .ok (.iload 4, 2) := by decide +kernel
theorem dX13_sizeWith_114 : decode cX13_sizeWith 114 = .ok (.invokevirtual 266, 3) := by decide +kernel
theorem dX13_sizeWith_117 : decode cX13_sizeWith 117 = .ok (.iadd, 1) := by decide +kernel
theorem dX13_sizeWith_118 : decode cX13_sizeWith 118 = .ok (.istore 5, 2) := by decide +kernel
theorem dX13_sizeWith_120 : decode cX13_sizeWith 120 = .ok (.iinc 7 1, 3) := by decide +kernel
theorem dX13_sizeWith_123 : decode cX13_sizeWith 123 = .ok (.goto (-34), 3) := by decide +kernel
theorem dX13_sizeWith_126 : decode cX13_sizeWith 126 = .ok (.iload 5, 2) := by decide +kernel
theorem dX13_sizeWith_128 : decode cX13_sizeWith 128 = .ok (.ireturn, 1) := by decide +kernel
def EX13_sizeWith : List (Nat × Nat) := []
def qX13_sizeWith (l : Launch) (dC : Nat → ClassId) (dI : Nat → Nat → Nat) (ca : Nat → ClassId) (base : Nat) (B : jF) (d : Nat) : Prop := ∀ (G0 : jT) (H0 : Heap) (r0 : Nat) (a1 : Int32) (a2 : Int32) (r3 : Nat) (a4 : Int32) (n3 : Nat) (zs : Nat) (zn : Nat) (za : Nat) (zb : Nat) (zc : Nat) (zy : Nat) (T : Nat → Int32) (C : jK), Met l yX13_sizeWith (jw yX13_sizeWith cX13_sizeWith 8 (some .int)) ({ frames := d + 1610, cells := 0, slots := 0, locals := 60 * d + 66000 }) (va_Pc [.ref r0, .int a1, .int a2, .ref r3, .int a4] (fun U => U.heap = H0 ∧ jX B base G0 [] H0 ∧ jG dC dI ca base U ∧ G0 r3 = some (169, n3) ∧ G0 r0 = some (15, 0) ∧ G0 zs = some (150, 120000) ∧ G0 zn = some (151, 120000) ∧ G0 za = some (152, 120000) ∧ G0 zb = some (153, 120000) ∧ G0 zc = some (154, 120000) ∧ G0 zy = some (165, 16) ∧ jP (dC, dI) G0 H0 [(r0, 15, 0, .ref zs), (r0, 15, 1, .ref zn), (r0, 15, 2, .ref za), (r0, 15, 3, .ref zb), (r0, 15, 4, .ref zc), (r0, 15, 14, .ref zy)] ∧ jMc (dC, dI) G0 H0 [(r3, 169, n3, ca 1, T), (zs, 150, 120000, ca 1, C.s), (zn, 151, 120000, ca 1, C.n), (za, 152, 120000, ca 1, C.a), (zb, 153, 120000, ca 1, C.b), (zc, 154, 120000, ca 1, C.c), (zy, 165, 16, ca 1, C.y)] ∧ jFm C 120000 16 d (a2.toInt + a4.toInt) a1.toInt ∧ jTs C 120000 16 1600 T a4.toInt ∧ d ≤ 100 ∧ 0 ≤ a2.toInt ∧ a2.toInt + d ≤ 2000 ∧ 0 ≤ a4.toInt ∧ a4.toInt ≤ n3 ∧ n3 ≤ 100 ∧ jsz C a1.toInt ≤ 1600)) (va_Qi (S := Unit) (fun r u => (r.toInt = jSw C T a4.toInt a2.toInt a1.toInt)) (fun u t => jRt (dC, dI) B base G0 EX13_sizeWith H0 [] t.heap) (jA base)) 0 0 (jA base)
set_option maxHeartbeats 4000000 in
set_option maxRecDepth 20000 in
theorem uX13_sizeWith (l : Launch) (dC : Nat → ClassId) (dI : Nat → Nat → Nat) (ca : Nat → ClassId) (base : Nat) (B : jF) (hB : jBok B) (hAp : jAp (dC, dI)) (hB15 : ∀ n G a H, B 15 n G a H ↔ jOb (dC, dI) 15 50 (F15 n G) a H) (hB150 : ∀ n G a H, B 150 n G a H ↔ jAr (dC, dI) (ca 1) (fun j z => True) n a H) (hB151 : ∀ n G a H, B 151 n G a H ↔ jAr (dC, dI) (ca 1) (fun j z => True) n a H) (hB152 : ∀ n G a H, B 152 n G a H ↔ jAr (dC, dI) (ca 1) (fun j z => True) n a H) (hB153 : ∀ n G a H, B 153 n G a H ↔ jAr (dC, dI) (ca 1) (fun j z => True) n a H) (hB154 : ∀ n G a H, B 154 n G a H ↔ jAr (dC, dI) (ca 1) (fun j z => True) n a H) (hB165 : ∀ n G a H, B 165 n G a H ↔ jAr (dC, dI) (ca 1) (fun j z => 0 ≤ z.toInt ∧ z.toInt ≤ 3) n a H) (hB169 : ∀ n G a H, B 169 n G a H ↔ jAr (dC, dI) (ca 1) (fun j z => True) n a H) (d : Nat) (ih : ∀ d1, d1 < d → qX13_sizeWith l dC dI ca base B d1) (G0 : jT) (H0 : Heap) (r0 : Nat) (a1 : Int32) (a2 : Int32) (r3 : Nat) (a4 : Int32) (n3 : Nat) (zs : Nat) (zn : Nat) (za : Nat) (zb : Nat) (zc : Nat) (zy : Nat) (T : Nat → Int32) (C : jK) : Met l yX13_sizeWith (jw yX13_sizeWith cX13_sizeWith 8 (some .int)) ({ frames := d + 1610, cells := 0, slots := 0, locals := 60 * d + 66000 }) (va_Pc [.ref r0, .int a1, .int a2, .ref r3, .int a4] (fun U => U.heap = H0 ∧ jX B base G0 [] H0 ∧ jG dC dI ca base U ∧ G0 r3 = some (169, n3) ∧ G0 r0 = some (15, 0) ∧ G0 zs = some (150, 120000) ∧ G0 zn = some (151, 120000) ∧ G0 za = some (152, 120000) ∧ G0 zb = some (153, 120000) ∧ G0 zc = some (154, 120000) ∧ G0 zy = some (165, 16) ∧ jP (dC, dI) G0 H0 [(r0, 15, 0, .ref zs), (r0, 15, 1, .ref zn), (r0, 15, 2, .ref za), (r0, 15, 3, .ref zb), (r0, 15, 4, .ref zc), (r0, 15, 14, .ref zy)] ∧ jMc (dC, dI) G0 H0 [(r3, 169, n3, ca 1, T), (zs, 150, 120000, ca 1, C.s), (zn, 151, 120000, ca 1, C.n), (za, 152, 120000, ca 1, C.a), (zb, 153, 120000, ca 1, C.b), (zc, 154, 120000, ca 1, C.c), (zy, 165, 16, ca 1, C.y)] ∧ jFm C 120000 16 d (a2.toInt + a4.toInt) a1.toInt ∧ jTs C 120000 16 1600 T a4.toInt ∧ d ≤ 100 ∧ 0 ≤ a2.toInt ∧ a2.toInt + d ≤ 2000 ∧ 0 ≤ a4.toInt ∧ a4.toInt ≤ n3 ∧ n3 ≤ 100 ∧ jsz C a1.toInt ≤ 1600)) (va_Qi (S := Unit) (fun r u => (r.toInt = jSw C T a4.toInt a2.toInt a1.toInt)) (fun u t => jRt (dC, dI) B base G0 EX13_sizeWith H0 [] t.heap) (jA base)) 0 0 (jA base) := by
  refine Met.ofW (cc := cX13_sizeWith) (maxL := 8) (ret := (some .int)) (by decide) rfl ?_
  intro p e s m args below meth c s₁ Bd hml hv
  obtain ⟨rfl, hH0, hX, hG, hg_r3, hg_r0, hg_zs, hg_zn, hg_za, hg_zb, hg_zc, hg_zy, hP0, hM0, hp0, hp1, hp2, hp3, hp4, hp5, hp6, hp7, hp8⟩ := hv
  have hK := hG.1
  have hx := Bd.exec
  have hb := Bd.bytes
  have hr := Bd.returns
  have hts := atoms_spec (ws := (jw yX13_sizeWith cX13_sizeWith 8 (some .int))) Bd.pre
  have htw : ∀ w ∈ jWl, w.before _ s = true := fun w h => hts w (List.mem_cons_of_mem _ h)
  have hown : s.vm.findClass RX13 = some m.cls := findClass_of_methodNamed Bd.named
  have hlocks := Bd.notSynchronized
  obtain ⟨Q, hQ⟩ : ∃ Q, Q = MQ below (va_Qi (S := Unit) (fun r u => (r.toInt = jSw C T a4.toInt a2.toInt a1.toInt)) (fun u t => jRt (dC, dI) B base G0 EX13_sizeWith H0 [] t.heap) (jA base)) ([.ref r0, .int a1, .int a2, .ref r3, .int a4] : List Value).toArray s 0 0 (jA base) := ⟨_, rfl⟩
  rw [← hQ]
  have hl := lv_entry ([.ref r0, .int a1, .int a2, .ref r3, .int a4]) (n := 8) (Nat.le_of_ble_eq_true rfl)
  rw [lg_entry_eq]
  generalize (lg_sl ([.ref r0, .int a1, .int a2, .ref r3, .int a4]) ++ List.replicate (8 - (lg_sl ([.ref r0, .int a1, .int a2, .ref r3, .int a4])).length) Slot.unset).toArray = ls at hl ⊢
  have hl : lv_has ls 8 [(0, .ref r0), (1, .int a1), (2, .int a2), (3, .ref r3), (4, .int a4)] := hl
  generalize hR : (headSpec (jw yX13_sizeWith cX13_sizeWith 8 (some .int)) ({ frames := d + 1610, cells := 0, slots := 0, locals := 60 * d + 66000 })).room = R
  subst hH0
  have hh : jSt (dC, dI) B base G0 G0 EX13_sizeWith s.heap 0 0 [(r0, 15, 0, .ref zs), (r0, 15, 1, .ref zn), (r0, 15, 2, .ref za), (r0, 15, 3, .ref zb), (r0, 15, 4, .ref zc), (r0, 15, 14, .ref zy)] [(r3, 169, n3, ca 1, T), (zs, 150, 120000, ca 1, C.s), (zn, 151, 120000, ca 1, C.n), (za, 152, 120000, ca 1, C.a), (zb, 153, 120000, ca 1, C.b), (zc, 154, 120000, ca 1, C.c), (zy, 165, 16, ca 1, C.y)] [] s.heap [] := jSt.start hX hP0 hM0 jIs.nil
  clear hX hP0
  have hk0 : (0 : Int32).toInt = 0 := by decide
  have hk1 : (1 : Int32).toInt = 1 := by decide
  have hk4 : (4 : Int32).toInt = 4 := by decide
  have hk5 : (5 : Int32).toInt = 5 := by decide
  have hk10 : (10 : Int32).toInt = 10 := by decide
  have hly_15_0 := htw (u_lay RX13 TX13 0) (jWc_wsX130 _ (u_in_lay (by decide)))
  have hly_15_1 := htw (u_lay RX13 TX13 1) (jWc_wsX130 _ (u_in_lay (by decide)))
  have hlk_12 := (htw (.fieldLink RX13 12 "ProofServerModel$Kernel" "sort" "[I") (jWr_14 _ (List.mem_of_getElem? (i := 9) rfl)))
  have hlk_16 := (htw (.fieldLink RX13 16 "ProofServerModel$Kernel" "name" "[I") (jWr_14 _ (List.mem_of_getElem? (i := 10) rfl)))
  have hrg_a1 := jb_rng a1
  have hrg_a2 := jb_rng a2
  have hrg_a4 := jb_rng a4
  obtain ⟨g1, g2, g3, g4, -, -, -, g8, g9⟩ := hp0.nd
  have hpos := hp0.pos
  have hle := jSw_le hp1 (by omega : d ≤ 4000) a2.toInt hp0
  refine lv_aload_n hx hb dX13_sizeWith_0 rfl (lv_at hl 0 rfl) ?_
  refine j7_read hx hb hown hK (C := RX13) (T := TX13) (N := 50) rfl hly_15_0 hlk_12 (hh.at 0 rfl) dX13_sizeWith_1 ?_
  refine lv_iload_n hx hb dX13_sizeWith_4 rfl (lv_at hl 1 rfl) ?_
  refine j7_ialdM hx hb hK hh hB150 1 rfl (by decide) hg_zs (x := a1.toInt) (rfl) (by omega) (j := 1) rfl dX13_sizeWith_5 (fun z_1 ez_1 (hz_1 : True) => ?_)
  have hqz_1 : z_1.toInt = jSo C.s (a1.toInt) := by unfold jSo; rw [ez_1]
  refine lv_bipush (v := 10) hx hb dX13_sizeWith_6 (by decide) ?_
  have C54 : ∀ (H_2 : Heap) (locs_2 : List Loc), jSt (dC, dI) B base G0 G0 EX13_sizeWith s.heap 0 0 [(r0, 15, 0, .ref zs), (r0, 15, 1, .ref zn), (r0, 15, 2, .ref za), (r0, 15, 3, .ref zb), (r0, 15, 4, .ref zc), (r0, 15, 14, .ref zy)] [(r3, 169, n3, ca 1, T), (zs, 150, 120000, ca 1, C.s), (zn, 151, 120000, ca 1, C.n), (za, 152, 120000, ca 1, C.a), (zb, 153, 120000, ca 1, C.b), (zc, 154, 120000, ca 1, C.c), (zy, 165, 16, ca 1, C.y)] [] H_2 locs_2 → ((jSo C.s a1.toInt = 10 → jSo C.n a1.toInt < a2.toInt)) → ∀ ls : Array Slot, lv_has ls 8 [(0, .ref r0), (1, .int a1), (2, .int a2), (3, .ref r3), (4, .int a4)] → W p l e R s m ([.ref r0, .int a1, .int a2, .ref r3, .int a4] : List Value).toArray below meth c H_2 locs_2 0 0 Q (F0 m 54 ls []) := by
    intro  H_2 locs_2 hh_2  hi_2 ls hl
    have hst := jSw_step (T := T) (m := a4.toInt) hp0 (by omega) a2.toInt
    rw [if_neg (by omega)] at hst
    refine lv_iconst (v := 1) hx hb dX13_sizeWith_54 (by decide) ?_
    refine lv_istore (lv' := [(5, .int 1), (0, .ref r0), (1, .int a1), (2, .int a2), (3, .ref r3), (4, .int a4)]) hx hb dX13_sizeWith_55 hl (by decide) rfl (fun ls hl => ?_)
    refine lv_aload_n hx hb dX13_sizeWith_57 rfl (lv_at hl 1 rfl) ?_
    refine j7_read hx hb hown hK (C := RX13) (T := TX13) (N := 50) rfl hly_15_0 hlk_12 (hh_2.at 0 rfl) dX13_sizeWith_58 ?_
    refine lv_iload_n hx hb dX13_sizeWith_61 rfl (lv_at hl 2 rfl) ?_
    refine j7_ialdM hx hb hK hh_2 hB150 1 rfl (by decide) hg_zs (x := a1.toInt) (rfl) (by omega) (j := 1) rfl dX13_sizeWith_62 (fun z_3 ez_3 (hz_3 : True) => ?_)
    have hqz_3 : z_3.toInt = jSo C.s (a1.toInt) := by unfold jSo; rw [ez_3]
    refine lv_iconst (v := 4) hx hb dX13_sizeWith_63 (by decide) ?_
    have C84 : ∀ (w0_4 : Int32) (H_4 : Heap) (locs_4 : List Loc), jSt (dC, dI) B base G0 G0 EX13_sizeWith s.heap 0 0 [(r0, 15, 0, .ref zs), (r0, 15, 1, .ref zn), (r0, 15, 2, .ref za), (r0, 15, 3, .ref zb), (r0, 15, 4, .ref zc), (r0, 15, 14, .ref zy)] [(r3, 169, n3, ca 1, T), (zs, 150, 120000, ca 1, C.s), (zn, 151, 120000, ca 1, C.n), (za, 152, 120000, ca 1, C.a), (zb, 153, 120000, ca 1, C.b), (zc, 154, 120000, ca 1, C.c), (zy, 165, 16, ca 1, C.y)] [] H_4 locs_4 → (w0_4.toInt = a2.toInt + jQf C a1.toInt) → ∀ ls : Array Slot, lv_has ls 8 [(0, .ref r0), (1, .int a1), (2, .int a2), (3, .ref r3), (4, .int a4), (5, .int 1)] → W p l e R s m ([.ref r0, .int a1, .int a2, .ref r3, .int a4] : List Value).toArray below meth c H_4 locs_4 0 0 Q (F0 m 84 ls [.int w0_4]) := by
      intro w0_4 H_4 locs_4 hh_4  hi_4 ls hl
      have hq01 := (jQf_ok C a1.toInt).2.2
      refine lv_istore (lv' := [(6, .int w0_4), (0, .ref r0), (1, .int a1), (2, .int a2), (3, .ref r3), (4, .int a4), (5, .int 1)]) hx hb dX13_sizeWith_84 hl (by decide) rfl (fun ls hl => ?_)
      refine lv_iconst (v := 0) hx hb dX13_sizeWith_86 (by decide) ?_
      refine lv_istore (lv' := [(7, .int 0), (6, .int w0_4), (0, .ref r0), (1, .int a1), (2, .int a2), (3, .ref r3), (4, .int a4), (5, .int 1)]) hx hb dX13_sizeWith_87 hl (by decide) rfl (fun ls hl => ?_)
      have L89 : ∀ (N : Nat) (v5_5 : Int32) (v7_5 : Int32) (H_5 : Heap) (locs_5 : List Loc), jSt (dC, dI) B base G0 G0 EX13_sizeWith s.heap 0 0 [(r0, 15, 0, .ref zs), (r0, 15, 1, .ref zn), (r0, 15, 2, .ref za), (r0, 15, 3, .ref zb), (r0, 15, 4, .ref zc), (r0, 15, 14, .ref zy)] [(r3, 169, n3, ca 1, T), (zs, 150, 120000, ca 1, C.s), (zn, 151, 120000, ca 1, C.n), (za, 152, 120000, ca 1, C.a), (zb, 153, 120000, ca 1, C.b), (zc, 154, 120000, ca 1, C.c), (zy, 165, 16, ca 1, C.y)] [] H_5 locs_5 → (0 ≤ v7_5.toInt ∧ v7_5.toInt ≤ jPts C a1.toInt ∧ v5_5.toInt = jSwK C T a4.toInt a2.toInt a1.toInt v7_5.toInt) → (3 - v7_5.toInt : Int) < N → ∀ ls : Array Slot, lv_has ls 8 [(0, .ref r0), (1, .int a1), (2, .int a2), (3, .ref r3), (4, .int a4), (5, .int v5_5), (6, .int w0_4), (7, .int v7_5)] → W p l e R s m ([.ref r0, .int a1, .int a2, .ref r3, .int a4] : List Value).toArray below meth c H_5 locs_5 0 0 Q (F0 m 89 ls []) := by
        intro N
        induction N with
        | zero => intro v5_5 v7_5 H_5 locs_5 hh_5  hi_5 hm; exact absurd hm (by omega)
        | succ N L89 =>
          intro v5_5 v7_5 H_5 locs_5 hh_5  hi_5 hm_5 ls hl
          obtain ⟨hi_5_0, hi_5_1, hi_5_2⟩ := hi_5
          refine lv_iload hx hb dX13_sizeWith_89 (lv_at hl 7 rfl) ?_
          refine lv_aload_n hx hb dX13_sizeWith_91 rfl (lv_at hl 0 rfl) ?_
          refine lv_iload_n hx hb dX13_sizeWith_92 rfl (lv_at hl 1 rfl) ?_
          refine va_calli (A0 := jA base) (H0 := s.heap) (va_runV (As := [.int a1]) (rest := [.int v7_5]) ⟨hx, hb, hml, hown, hts⟩ (uX13_parts l dC dI ca base B hB hAp hB15 hB150 hB151 hB152 hB153 hB154 hB165 G0 H_5 r0 a1 zs zn za zb zc zy C) (cwV 1 hts (jgV (jWr_65 _ (List.mem_of_getElem? (i := 15) rfl)) (jWr_65 _ (List.mem_of_getElem? (i := 16) rfl)) (jWr_65 _ (List.mem_of_getElem? (i := 17) rfl)) (jWr_12 _ (List.mem_of_getElem? (i := 12) rfl)) (jWr_65 _ (List.mem_of_getElem? (i := 18) rfl))) rfl rfl rfl (by decide +kernel) ⟨by rw [← hR]; show (0) + 1 ≤ d + 1610; omega, by rw [← hR]; show 8 + (3 + 11) + (0) ≤ 60 * d + 66000; omega⟩) ⟨fun a U g mk q => by obtain ⟨q0, q1, q2, qK, q10, q11, q12, q13, q14, q15, q16, q17, q18, q19⟩ := q; exact ⟨q0, q1, q2, jG.calling g mk a qK, q10, q11, q12, q13, q14, q15, q16, q17, q18, q19⟩, hh_5.recv (C := RX13) (T := TX13) (N := 50) hB15 rfl (by decide) hg_r0 hK, fun U hU hW => ⟨rfl, hU, hh_5.2.1, hG.step hW hU hh_5.1, hg_r0, hg_zs, hg_zn, hg_za, hg_zb, hg_zc, hg_zy, (hh_5.2.2.1.sub (L1 := [(r0, 15, 0, .ref zs), (r0, 15, 1, .ref zn), (r0, 15, 2, .ref za), (r0, 15, 3, .ref zb), (r0, 15, 4, .ref zc), (r0, 15, 14, .ref zy)]) [0, 1, 2, 3, 4, 5] rfl), (hh_5.2.2.2.2.2.2.2.1.sub (L1 := [(zs, 150, 120000, ca 1, C.s), (zn, 151, 120000, ca 1, C.n), (za, 152, 120000, ca 1, C.a), (zb, 153, 120000, ca 1, C.b), (zc, 154, 120000, ca 1, C.c), (zy, 165, 16, ca 1, C.y)]) [1, 2, 3, 4, 5, 6] rfl), ⟨(by first | omega | rfl | assumption | exact hp0.sym (by omega)), (by first | omega | rfl | assumption | exact hp0.sym (by omega)), (by first | assumption | exact hp0.sym (by omega) | omega)⟩⟩⟩ rfl rfl hl.1 rfl (lv_room (Nat.le_of_ble_eq_true rfl)) dX13_sizeWith_93 ⟨Nat.zero_le _, Nat.zero_le _⟩) hh_5.1 (fun q _ h => h) (fun q h => h) (fun r_7 u_6 t_6 H_6 locs_6 ht_6 hvm_6 hr_7 hb_6 hz_6 hk_6 hS_6 => ?_)
          rw [ht_6] at hb_6
          obtain ⟨hb_61, hb_62, hb_63, hb_64, hb_65⟩ := hb_6
          have hh_6 : jSt (dC, dI) B base G0 G0 EX13_sizeWith s.heap 0 0 [(r0, 15, 0, .ref zs), (r0, 15, 1, .ref zn), (r0, 15, 2, .ref za), (r0, 15, 3, .ref zb), (r0, 15, 4, .ref zc), (r0, 15, 14, .ref zy)] [(r3, 169, n3, ca 1, T), (zs, 150, 120000, ca 1, C.s), (zn, 151, 120000, ca 1, C.n), (za, 152, 120000, ca 1, C.a), (zb, 153, 120000, ca 1, C.b), (zc, 154, 120000, ca 1, C.c), (zy, 165, 16, ca 1, C.y)] [] H_6 locs_6 := ((hh_5.call hb_61 hb_62 hb_63 hb_64 hS_6 rfl (L1 := [(r0, 15, 0, .ref zs), (r0, 15, 1, .ref zn), (r0, 15, 2, .ref za), (r0, 15, 3, .ref zb), (r0, 15, 4, .ref zc), (r0, 15, 14, .ref zy)]) [0, 1, 2, 3, 4, 5] rfl rfl (M1 := [(r3, 169, n3, ca 1, T), (zs, 150, 120000, ca 1, C.s), (zn, 151, 120000, ca 1, C.n), (za, 152, 120000, ca 1, C.a), (zb, 153, 120000, ca 1, C.b), (zc, 154, 120000, ca 1, C.c), (zy, 165, 16, ca 1, C.y)]) [0, 1, 2, 3, 4, 5, 6] rfl rfl (I1 := []) [] rfl rfl).more hb_65)
          clear hh_5 ht_6 hvm_6 hz_6 hk_6 hS_6 hb_61 hb_62 hb_63 hb_64 hb_65
          obtain ⟨hr_7_0, hr_7_1, hr_7_2⟩ := hr_7
          refine lv_icmp_ge (tgt := 126) hx hb dX13_sizeWith_96 (by decide) (fun c_8 => ?_) (fun c_8 => ?_)
          · skip
            have c_8' : v7_5.toInt ≥ r_7.toInt := jb_ge (rfl) (rfl) c_8
            refine lv_iload hx hb dX13_sizeWith_126 (lv_at hl 5 rfl) ?_
            rw [hQ]
            exact W.iret (v := v5_5) hx hb hr (fun t ht hW => ⟨⟨v5_5, (), rfl, by show (v5_5).toInt = _; first | (rw [jSw_step (T := T) (m := a4.toInt) hp0 (by omega) a2.toInt, if_pos (by omega), (zz_none), (zz_none), (zz_none)]) | (rw [hst, show jPts C a1.toInt = v7_5.toInt by omega]; omega), hh_6.rt (M1 := []) [] rfl ht⟩, by rw [ht]; try exact hh_6.1.1, fun q h9 hq => by rw [ht]; try exact hh_6.1.2.1 q h9 hq⟩) hh_6.1.2.2 dX13_sizeWith_128
          · skip
            have c_8' : v7_5.toInt < r_7.toInt := jb_ge_n (rfl) (rfl) c_8
            refine lv_iload hx hb dX13_sizeWith_99 (lv_at hl 5 rfl) ?_
            refine lv_aload_n hx hb dX13_sizeWith_101 rfl (lv_at hl 0 rfl) ?_
            refine lv_aload_n hx hb dX13_sizeWith_102 rfl (lv_at hl 0 rfl) ?_
            refine lv_iload_n hx hb dX13_sizeWith_103 rfl (lv_at hl 1 rfl) ?_
            refine lv_iload hx hb dX13_sizeWith_104 (lv_at hl 7 rfl) ?_
            refine va_calli (A0 := jA base) (H0 := s.heap) (va_runV (As := [.int a1, .int v7_5]) (rest := [.ref r0, .int v5_5]) ⟨hx, hb, hml, hown, hts⟩ (uX13_partK l dC dI ca base B hB hAp hB15 hB150 hB151 hB152 hB153 hB154 hB165 G0 H_6 r0 a1 v7_5 zs zn za zb zc zy C) (cwV 2 hts (jgV (jWr_65 _ (List.mem_of_getElem? (i := 19) rfl)) (jWr_65 _ (List.mem_of_getElem? (i := 20) rfl)) (jWr_65 _ (List.mem_of_getElem? (i := 21) rfl)) (jWr_12 _ (List.mem_of_getElem? (i := 12) rfl)) (jWr_65 _ (List.mem_of_getElem? (i := 22) rfl))) rfl rfl rfl (by decide +kernel) ⟨by rw [← hR]; show (0) + 1 ≤ d + 1610; omega, by rw [← hR]; show 8 + (3 + 11) + (0) ≤ 60 * d + 66000; omega⟩) ⟨fun a U g mk q => by obtain ⟨q0, q1, q2, qK, q10, q11, q12, q13, q14, q15, q16, q17, q18, q19⟩ := q; exact ⟨q0, q1, q2, jG.calling g mk a qK, q10, q11, q12, q13, q14, q15, q16, q17, q18, q19⟩, hh_6.recv (C := RX13) (T := TX13) (N := 50) hB15 rfl (by decide) hg_r0 hK, fun U hU hW => ⟨rfl, hU, hh_6.2.1, hG.step hW hU hh_6.1, hg_r0, hg_zs, hg_zn, hg_za, hg_zb, hg_zc, hg_zy, (hh_6.2.2.1.sub (L1 := [(r0, 15, 0, .ref zs), (r0, 15, 1, .ref zn), (r0, 15, 2, .ref za), (r0, 15, 3, .ref zb), (r0, 15, 4, .ref zc), (r0, 15, 14, .ref zy)]) [0, 1, 2, 3, 4, 5] rfl), (hh_6.2.2.2.2.2.2.2.1.sub (L1 := [(zs, 150, 120000, ca 1, C.s), (zn, 151, 120000, ca 1, C.n), (za, 152, 120000, ca 1, C.a), (zb, 153, 120000, ca 1, C.b), (zc, 154, 120000, ca 1, C.c), (zy, 165, 16, ca 1, C.y)]) [1, 2, 3, 4, 5, 6] rfl), by first | omega | (refine ⟨?_, ?_⟩ <;> (first | omega | rfl | assumption | decide | exact Or.inl rfl | exact Or.inr rfl | (simp only; omega)))⟩⟩ rfl rfl hl.1 rfl (lv_room (Nat.le_of_ble_eq_true rfl)) dX13_sizeWith_106 ⟨Nat.zero_le _, Nat.zero_le _⟩) hh_6.1 (fun q _ h => h) (fun q h => h) (fun r_10 u_9 t_9 H_9 locs_9 ht_9 hvm_9 hr_10 hb_9 hz_9 hk_9 hS_9 => ?_)
            rw [ht_9] at hb_9
            obtain ⟨hb_91, hb_92, hb_93, hb_94, hb_95⟩ := hb_9
            have hh_9 : jSt (dC, dI) B base G0 G0 EX13_sizeWith s.heap 0 0 [(r0, 15, 0, .ref zs), (r0, 15, 1, .ref zn), (r0, 15, 2, .ref za), (r0, 15, 3, .ref zb), (r0, 15, 4, .ref zc), (r0, 15, 14, .ref zy)] [(r3, 169, n3, ca 1, T), (zs, 150, 120000, ca 1, C.s), (zn, 151, 120000, ca 1, C.n), (za, 152, 120000, ca 1, C.a), (zb, 153, 120000, ca 1, C.b), (zc, 154, 120000, ca 1, C.c), (zy, 165, 16, ca 1, C.y)] [] H_9 locs_9 := ((hh_6.call hb_91 hb_92 hb_93 hb_94 hS_9 rfl (L1 := [(r0, 15, 0, .ref zs), (r0, 15, 1, .ref zn), (r0, 15, 2, .ref za), (r0, 15, 3, .ref zb), (r0, 15, 4, .ref zc), (r0, 15, 14, .ref zy)]) [0, 1, 2, 3, 4, 5] rfl rfl (M1 := [(r3, 169, n3, ca 1, T), (zs, 150, 120000, ca 1, C.s), (zn, 151, 120000, ca 1, C.n), (za, 152, 120000, ca 1, C.a), (zb, 153, 120000, ca 1, C.b), (zc, 154, 120000, ca 1, C.c), (zy, 165, 16, ca 1, C.y)]) [0, 1, 2, 3, 4, 5, 6] rfl rfl (I1 := []) [] rfl rfl).more hb_95)
            clear hh_6 ht_9 hvm_9 hz_9 hk_9 hS_9 hb_91 hb_92 hb_93 hb_94 hb_95
            refine lv_iload hx hb dX13_sizeWith_109 (lv_at hl 6 rfl) ?_
            refine lv_aload_n hx hb dX13_sizeWith_111 rfl (lv_at hl 3 rfl) ?_
            refine lv_iload hx hb dX13_sizeWith_112 (lv_at hl 4 rfl) ?_
            refine va_calli (A0 := jA base) (H0 := s.heap) (va_runV (As := [.int r_10, .int w0_4, .ref r3, .int a4]) (rest := [.int v5_5]) ⟨hx, hb, hml, hown, hts⟩ (ih (d - 1) (by omega) G0 H_9 r0 r_10 w0_4 r3 a4 n3 zs zn za zb zc zy T C) (cwV 4 hts (jgV (jWr_67 _ (List.mem_of_getElem? (i := 3) rfl)) (jWr_67 _ (List.mem_of_getElem? (i := 4) rfl)) (jWr_67 _ (List.mem_of_getElem? (i := 5) rfl)) (jWr_12 _ (List.mem_of_getElem? (i := 12) rfl)) (jWr_67 _ (List.mem_of_getElem? (i := 6) rfl))) rfl rfl rfl (by decide +kernel) ⟨by rw [← hR]; show (d - 1 + 1610) + 1 ≤ d + 1610; omega, by rw [← hR]; show 8 + (8 + 11) + (60 * (d - 1) + 66000) ≤ 60 * d + 66000; omega⟩) ⟨fun a U g mk q => by obtain ⟨q0, q1, q2, qK, q10, q11, q12, q13, q14, q15, q16, q17, q18, q19, q20⟩ := q; exact ⟨q0, q1, q2, jG.calling g mk a qK, q10, q11, q12, q13, q14, q15, q16, q17, q18, q19, q20⟩, hh_9.recv (C := RX13) (T := TX13) (N := 50) hB15 rfl (by decide) hg_r0 hK, fun U hU hW => ⟨rfl, hU, hh_9.2.1, hG.step hW hU hh_9.1, hg_r3, hg_r0, hg_zs, hg_zn, hg_za, hg_zb, hg_zc, hg_zy, (hh_9.2.2.1.sub (L1 := [(r0, 15, 0, .ref zs), (r0, 15, 1, .ref zn), (r0, 15, 2, .ref za), (r0, 15, 3, .ref zb), (r0, 15, 4, .ref zc), (r0, 15, 14, .ref zy)]) [0, 1, 2, 3, 4, 5] rfl), (hh_9.2.2.2.2.2.2.2.1.sub (L1 := [(r3, 169, n3, ca 1, T), (zs, 150, 120000, ca 1, C.s), (zn, 151, 120000, ca 1, C.n), (za, 152, 120000, ca 1, C.a), (zb, 153, 120000, ca 1, C.b), (zc, 154, 120000, ca 1, C.c), (zy, 165, 16, ca 1, C.y)]) [0, 1, 2, 3, 4, 5, 6] rfl), ⟨(by first | assumption | (rw [hr_10]; exact (hp0.part (by omega) (by omega)).mono (Nat.le_refl _) (by omega)) | (rw [hr_10]; have h9 := jsz_part hp0 (by omega) (k := v7_5.toInt) (by omega) (by omega); omega) | omega), (by first | assumption | (rw [hr_10]; exact (hp0.part (by omega) (by omega)).mono (Nat.le_refl _) (by omega)) | (rw [hr_10]; have h9 := jsz_part hp0 (by omega) (k := v7_5.toInt) (by omega) (by omega); omega) | omega), (by first | omega | rfl | assumption | (rw [hr_10]; exact (hp0.part (by omega) (by omega)).mono (Nat.le_refl _) (by omega)) | (rw [hr_10]; have h9 := jsz_part hp0 (by omega) (k := v7_5.toInt) (by omega) (by omega); omega)), (by first | omega | rfl | assumption | (rw [hr_10]; exact (hp0.part (by omega) (by omega)).mono (Nat.le_refl _) (by omega)) | (rw [hr_10]; have h9 := jsz_part hp0 (by omega) (k := v7_5.toInt) (by omega) (by omega); omega)), (by first | omega | rfl | assumption | (rw [hr_10]; exact (hp0.part (by omega) (by omega)).mono (Nat.le_refl _) (by omega)) | (rw [hr_10]; have h9 := jsz_part hp0 (by omega) (k := v7_5.toInt) (by omega) (by omega); omega)), (by first | omega | rfl | assumption | (rw [hr_10]; exact (hp0.part (by omega) (by omega)).mono (Nat.le_refl _) (by omega)) | (rw [hr_10]; have h9 := jsz_part hp0 (by omega) (k := v7_5.toInt) (by omega) (by omega); omega)), (by first | omega | rfl | assumption | (rw [hr_10]; exact (hp0.part (by omega) (by omega)).mono (Nat.le_refl _) (by omega)) | (rw [hr_10]; have h9 := jsz_part hp0 (by omega) (k := v7_5.toInt) (by omega) (by omega); omega)), (by first | omega | rfl | assumption | (rw [hr_10]; exact (hp0.part (by omega) (by omega)).mono (Nat.le_refl _) (by omega)) | (rw [hr_10]; have h9 := jsz_part hp0 (by omega) (k := v7_5.toInt) (by omega) (by omega); omega)), (by first | omega | rfl | assumption | (rw [hr_10]; exact (hp0.part (by omega) (by omega)).mono (Nat.le_refl _) (by omega)) | (rw [hr_10]; have h9 := jsz_part hp0 (by omega) (k := v7_5.toInt) (by omega) (by omega); omega))⟩⟩⟩ rfl rfl hl.1 rfl (lv_room (Nat.le_of_ble_eq_true rfl)) dX13_sizeWith_114 ⟨Nat.zero_le _, Nat.zero_le _⟩) hh_9.1 (fun q _ h => h) (fun q h => h) (fun r_12 u_11 t_11 H_11 locs_11 ht_11 hvm_11 hr_12 hb_11 hz_11 hk_11 hS_11 => ?_)
            rw [ht_11] at hb_11
            obtain ⟨hb_111, hb_112, hb_113, hb_114, hb_115⟩ := hb_11
            have hh_11 : jSt (dC, dI) B base G0 G0 EX13_sizeWith s.heap 0 0 [(r0, 15, 0, .ref zs), (r0, 15, 1, .ref zn), (r0, 15, 2, .ref za), (r0, 15, 3, .ref zb), (r0, 15, 4, .ref zc), (r0, 15, 14, .ref zy)] [(r3, 169, n3, ca 1, T), (zs, 150, 120000, ca 1, C.s), (zn, 151, 120000, ca 1, C.n), (za, 152, 120000, ca 1, C.a), (zb, 153, 120000, ca 1, C.b), (zc, 154, 120000, ca 1, C.c), (zy, 165, 16, ca 1, C.y)] [] H_11 locs_11 := ((hh_9.call hb_111 hb_112 hb_113 hb_114 hS_11 rfl (L1 := [(r0, 15, 0, .ref zs), (r0, 15, 1, .ref zn), (r0, 15, 2, .ref za), (r0, 15, 3, .ref zb), (r0, 15, 4, .ref zc), (r0, 15, 14, .ref zy)]) [0, 1, 2, 3, 4, 5] rfl rfl (M1 := [(r3, 169, n3, ca 1, T), (zs, 150, 120000, ca 1, C.s), (zn, 151, 120000, ca 1, C.n), (za, 152, 120000, ca 1, C.a), (zb, 153, 120000, ca 1, C.b), (zc, 154, 120000, ca 1, C.c), (zy, 165, 16, ca 1, C.y)]) [0, 1, 2, 3, 4, 5, 6] rfl rfl (I1 := []) [] rfl rfl).more hb_115)
            clear hh_9 ht_11 hvm_11 hz_11 hk_11 hS_11 hb_111 hb_112 hb_113 hb_114 hb_115
            rw [hr_10, show w0_4.toInt = a2.toInt + jQf C a1.toInt by omega] at hr_12
            have hs1 := jSwK_s C T a4.toInt a2.toInt a1.toInt (k := v7_5.toInt) (by omega) (by omega)
            have hs2 := jSwK_le C T a4.toInt a2.toInt a1.toInt (k := v7_5.toInt + 1) (p := jPts C a1.toInt) (by omega)
            have hs3 := jSw_nn C T a4.toInt (a2.toInt + jQf C a1.toInt) (jPr C a1.toInt v7_5.toInt)
            have hs4 := jSwK_le C T a4.toInt a2.toInt a1.toInt (k := 0) (p := v7_5.toInt) (by omega)
            rw [jSwK_0] at hs4
            refine lv_iadd hx hb dX13_sizeWith_117 ?_
            refine lv_topi (fun z_13 ez_13 => ?_)
            have hz_13 : z_13.toInt = v5_5.toInt + r_12.toInt := by rw [ez_13]; exact jb_iadd2 (rfl) (rfl) (by omega)
            refine lv_istore (lv' := [(5, .int z_13), (0, .ref r0), (1, .int a1), (2, .int a2), (3, .ref r3), (4, .int a4), (6, .int w0_4), (7, .int v7_5)]) hx hb dX13_sizeWith_118 hl (by decide) rfl (fun ls hl => ?_)
            obtain ⟨z_14, ez_14⟩ : ∃ y : Int32, y = v7_5 + 1 := ⟨_, rfl⟩
            refine lv_iinc (v := z_14) (lv' := [(7, .int z_14), (5, .int z_13), (0, .ref r0), (1, .int a1), (2, .int a2), (3, .ref r3), (4, .int a4), (6, .int w0_4)]) hx hb dX13_sizeWith_120 hl (k := 7) rfl (by rw [ez_14]; rfl) (by decide) rfl (fun ls hl => ?_)
            have hz_14 : z_14.toInt = v7_5.toInt + 1 := by rw [ez_14]; exact jb_iadd2 (rfl) (by decide) (by omega)
            refine lv_goto (tgt := 89) hx hb dX13_sizeWith_123 (by decide) ?_
            exact L89 z_13 z_14 _ _ hh_11 (⟨(by first | omega | rfl | assumption | (rw [hk0, jSwK_0]; exact hk1) | (rw [show (z_14).toInt = v7_5.toInt + 1 by omega]; omega)), (by first | omega | rfl | assumption | (rw [hk0, jSwK_0]; exact hk1) | (rw [show (z_14).toInt = v7_5.toInt + 1 by omega]; omega)), (by first | omega | rfl | assumption | (rw [hk0, jSwK_0]; exact hk1) | (rw [show (z_14).toInt = v7_5.toInt + 1 by omega]; omega))⟩) (by omega) _ (lv_sub hl [2, 3, 4, 5, 6, 1, 7, 0] rfl)
      exact L89 (3 - (0 : Int32).toInt : Int).toNat.succ 1 0 _ _ hh_4 (⟨(by first | omega | rfl | assumption | (rw [hk0, jSwK_0]; exact hk1) | (rw [show (0).toInt = (zz_none).toInt + 1 by omega]; omega)), (by first | omega | rfl | assumption | (rw [hk0, jSwK_0]; exact hk1) | (rw [show (0).toInt = (zz_none).toInt + 1 by omega]; omega)), (by first | omega | rfl | assumption | (rw [hk0, jSwK_0]; exact hk1) | (rw [show (0).toInt = (zz_none).toInt + 1 by omega]; omega))⟩) (by omega) _ (lv_sub hl [2, 3, 4, 5, 6, 7, 1, 0] rfl)
    refine lv_icmp_eq (tgt := 77) hx hb dX13_sizeWith_64 (by decide) (fun c_15 => ?_) (fun c_15 => ?_)
    · skip
      have c_15' : z_3.toInt = 4 := jb_eq (rfl) ((by decide)) c_15
      have hqf := (jQf_ok C a1.toInt).1 (by omega)
      refine lv_iload_n hx hb dX13_sizeWith_77 rfl (lv_at hl 3 rfl) ?_
      refine lv_iconst (v := 1) hx hb dX13_sizeWith_78 (by decide) ?_
      refine lv_iadd hx hb dX13_sizeWith_79 ?_
      refine lv_topi (fun z_16 ez_16 => ?_)
      have hz_16 : z_16.toInt = a2.toInt + 1 := by rw [ez_16]; exact jb_iadd2 (rfl) ((by decide)) (by omega)
      refine lv_goto (tgt := 84) hx hb dX13_sizeWith_80 (by decide) ?_
      exact C84 z_16 _ _ hh_2 (by first | omega | rfl | assumption | decide | exact Or.inl rfl | exact Or.inr rfl | (simp only; omega)) _ (lv_sub hl [1, 2, 3, 4, 5, 0] rfl)
    · skip
      have c_15' : z_3.toInt ≠ 4 := jb_eq_n (rfl) ((by decide)) c_15
      refine lv_aload_n hx hb dX13_sizeWith_67 rfl (lv_at hl 1 rfl) ?_
      refine j7_read hx hb hown hK (C := RX13) (T := TX13) (N := 50) rfl hly_15_0 hlk_12 (hh_2.at 0 rfl) dX13_sizeWith_68 ?_
      refine lv_iload_n hx hb dX13_sizeWith_71 rfl (lv_at hl 2 rfl) ?_
      refine j7_ialdM hx hb hK hh_2 hB150 1 rfl (by decide) hg_zs (x := a1.toInt) (rfl) (by omega) (j := 1) rfl dX13_sizeWith_72 (fun z_17 ez_17 (hz_17 : True) => ?_)
      have hqz_17 : z_17.toInt = jSo C.s (a1.toInt) := by unfold jSo; rw [ez_17]
      refine lv_iconst (v := 5) hx hb dX13_sizeWith_73 (by decide) ?_
      refine lv_icmp_ne (tgt := 83) hx hb dX13_sizeWith_74 (by decide) (fun c_18 => ?_) (fun c_18 => ?_)
      · skip
        have c_18' : z_17.toInt ≠ 5 := jb_ne (rfl) ((by decide)) c_18
        have hqf := (jQf_ok C a1.toInt).2.1 (by omega)
        refine lv_iload_n hx hb dX13_sizeWith_83 rfl (lv_at hl 3 rfl) ?_
        exact C84 a2 _ _ hh_2 (by first | omega | rfl | assumption | decide | exact Or.inl rfl | exact Or.inr rfl | (simp only; omega)) _ (lv_sub hl [1, 2, 3, 4, 5, 0] rfl)
      · skip
        have c_18' : z_17.toInt = 5 := jb_ne_n (rfl) ((by decide)) c_18
        have hqf := (jQf_ok C a1.toInt).1 (by omega)
        refine lv_iload_n hx hb dX13_sizeWith_77 rfl (lv_at hl 3 rfl) ?_
        refine lv_iconst (v := 1) hx hb dX13_sizeWith_78 (by decide) ?_
        refine lv_iadd hx hb dX13_sizeWith_79 ?_
        refine lv_topi (fun z_19 ez_19 => ?_)
        have hz_19 : z_19.toInt = a2.toInt + 1 := by rw [ez_19]; exact jb_iadd2 (rfl) ((by decide)) (by omega)
        refine lv_goto (tgt := 84) hx hb dX13_sizeWith_80 (by decide) ?_
        exact C84 z_19 _ _ hh_2 (by first | omega | rfl | assumption | decide | exact Or.inl rfl | exact Or.inr rfl | (simp only; omega)) _ (lv_sub hl [1, 2, 3, 4, 5, 0] rfl)
  refine lv_icmp_ne (tgt := 54) hx hb dX13_sizeWith_8 (by decide) (fun c_20 => ?_) (fun c_20 => ?_)
  · skip
    have c_20' : z_1.toInt ≠ 10 := jb_ne (rfl) ((by decide)) c_20
    exact C54  _ _ hh (by first | omega | rfl | assumption | decide | exact Or.inl rfl | exact Or.inr rfl | (simp only; omega)) _ (lv_sub hl [0, 1, 2, 3, 4] rfl)
  · skip
    have c_20' : z_1.toInt = 10 := jb_ne_n (rfl) ((by decide)) c_20
    refine lv_aload_n hx hb dX13_sizeWith_11 rfl (lv_at hl 0 rfl) ?_
    refine j7_read hx hb hown hK (C := RX13) (T := TX13) (N := 50) rfl hly_15_1 hlk_16 (hh.at 1 rfl) dX13_sizeWith_12 ?_
    refine lv_iload_n hx hb dX13_sizeWith_15 rfl (lv_at hl 1 rfl) ?_
    refine j7_ialdM hx hb hK hh hB151 1 rfl (by decide) hg_zn (x := a1.toInt) (rfl) (by omega) (j := 2) rfl dX13_sizeWith_16 (fun z_21 ez_21 (hz_21 : True) => ?_)
    have hqz_21 : z_21.toInt = jSo C.n (a1.toInt) := by unfold jSo; rw [ez_21]
    refine lv_iload_n hx hb dX13_sizeWith_17 rfl (lv_at hl 2 rfl) ?_
    refine lv_icmp_lt (tgt := 54) hx hb dX13_sizeWith_18 (by decide) (fun c_22 => ?_) (fun c_22 => ?_)
    · skip
      have c_22' : z_21.toInt < a2.toInt := jb_lt (rfl) (rfl) c_22
      exact C54  _ _ hh (by first | omega | rfl | assumption | decide | exact Or.inl rfl | exact Or.inr rfl | (simp only; omega)) _ (lv_sub hl [0, 1, 2, 3, 4] rfl)
    · skip
      have c_22' : z_21.toInt ≥ a2.toInt := jb_lt_n (rfl) (rfl) c_22
      have hb10 := hp0.bnd (by omega)
      refine lv_aload_n hx hb dX13_sizeWith_21 rfl (lv_at hl 0 rfl) ?_
      refine j7_read hx hb hown hK (C := RX13) (T := TX13) (N := 50) rfl hly_15_1 hlk_16 (hh.at 1 rfl) dX13_sizeWith_22 ?_
      refine lv_iload_n hx hb dX13_sizeWith_25 rfl (lv_at hl 1 rfl) ?_
      refine j7_ialdM hx hb hK hh hB151 1 rfl (by decide) hg_zn (x := a1.toInt) (rfl) (by omega) (j := 2) rfl dX13_sizeWith_26 (fun z_23 ez_23 (hz_23 : True) => ?_)
      have hqz_23 : z_23.toInt = jSo C.n (a1.toInt) := by unfold jSo; rw [ez_23]
      refine lv_iload_n hx hb dX13_sizeWith_27 rfl (lv_at hl 2 rfl) ?_
      refine lv_iload hx hb dX13_sizeWith_28 (lv_at hl 4 rfl) ?_
      refine lv_iadd hx hb dX13_sizeWith_30 ?_
      refine lv_topi (fun z_24 ez_24 => ?_)
      have hz_24 : z_24.toInt = a2.toInt + a4.toInt := by rw [ez_24]; exact jb_iadd2 (rfl) (rfl) (by omega)
      refine lv_icmp_ge (tgt := 54) hx hb dX13_sizeWith_31 (by decide) (fun c_25 => ?_) (fun c_25 => ?_)
      · skip
        have c_25' : z_23.toInt ≥ z_24.toInt := jb_ge (rfl) (rfl) c_25
        exact C54  _ _ hh (by first | omega | rfl | assumption | decide | exact Or.inl rfl | exact Or.inr rfl | (simp only; omega)) _ (lv_sub hl [0, 1, 2, 3, 4] rfl)
      · skip
        have c_25' : z_23.toInt < z_24.toInt := jb_ge_n (rfl) (rfl) c_25
        refine lv_aload_n hx hb dX13_sizeWith_34 rfl (lv_at hl 0 rfl) ?_
        refine lv_aload_n hx hb dX13_sizeWith_35 rfl (lv_at hl 3 rfl) ?_
        refine lv_iload hx hb dX13_sizeWith_36 (lv_at hl 4 rfl) ?_
        refine lv_iconst (v := 1) hx hb dX13_sizeWith_38 (by decide) ?_
        refine lv_isub hx hb dX13_sizeWith_39 ?_
        refine lv_topi (fun z_26 ez_26 => ?_)
        have hz_26 : z_26.toInt = a4.toInt - 1 := by rw [ez_26]; exact jb_isub2 (rfl) ((by decide)) (by omega)
        refine lv_aload_n hx hb dX13_sizeWith_40 rfl (lv_at hl 0 rfl) ?_
        refine j7_read hx hb hown hK (C := RX13) (T := TX13) (N := 50) rfl hly_15_1 hlk_16 (hh.at 1 rfl) dX13_sizeWith_41 ?_
        refine lv_iload_n hx hb dX13_sizeWith_44 rfl (lv_at hl 1 rfl) ?_
        refine j7_ialdM hx hb hK hh hB151 1 rfl (by decide) hg_zn (x := a1.toInt) (rfl) (by omega) (j := 2) rfl dX13_sizeWith_45 (fun z_27 ez_27 (hz_27 : True) => ?_)
        have hqz_27 : z_27.toInt = jSo C.n (a1.toInt) := by unfold jSo; rw [ez_27]
        refine lv_isub hx hb dX13_sizeWith_46 ?_
        refine lv_topi (fun z_28 ez_28 => ?_)
        have hz_28 : z_28.toInt = z_26.toInt - z_27.toInt := by rw [ez_28]; exact jb_isub2 (rfl) (rfl) (by omega)
        refine lv_iload_n hx hb dX13_sizeWith_47 rfl (lv_at hl 2 rfl) ?_
        refine lv_iadd hx hb dX13_sizeWith_48 ?_
        refine lv_topi (fun z_29 ez_29 => ?_)
        have hz_29 : z_29.toInt = z_28.toInt + a2.toInt := by rw [ez_29]; exact jb_iadd2 (rfl) (rfl) (by omega)
        refine j7_ialdM hx hb hK hh hB169 1 rfl (by decide) hg_r3 (x := z_29.toInt) (rfl) (by omega) (j := 0) rfl dX13_sizeWith_49 (fun z_30 ez_30 (hz_30 : True) => ?_)
        have hqz_30 : z_30.toInt = jSo T ((((a4.toInt - 1) - z_27.toInt) + a2.toInt)) := by unfold jSo; rw [ez_30, show z_29.toInt = (((a4.toInt - 1) - z_27.toInt) + a2.toInt) by omega]
        refine va_calli (A0 := jA base) (H0 := s.heap) (va_runV (As := [.int z_30]) (rest := []) ⟨hx, hb, hml, hown, hts⟩ (aX13_size l dC dI ca base B hB hAp hB15 hB150 hB151 hB152 hB153 hB154 hB165 1600 G0 s.heap r0 z_30 zs zn za zb zc zy C) (cwV 1 hts (jgV (jWr_65 _ (List.mem_of_getElem? (i := 11) rfl)) (jWr_65 _ (List.mem_of_getElem? (i := 12) rfl)) (jWr_65 _ (List.mem_of_getElem? (i := 13) rfl)) (jWr_12 _ (List.mem_of_getElem? (i := 12) rfl)) (jWr_65 _ (List.mem_of_getElem? (i := 14) rfl))) rfl rfl rfl (by decide +kernel) ⟨by rw [← hR]; show (1603) + 1 ≤ d + 1610; omega, by rw [← hR]; show 8 + (4 + 11) + (64200) ≤ 60 * d + 66000; omega⟩) ⟨fun a U g mk q => by obtain ⟨q0, q1, q2, qK, q10, q11, q12, q13, q14, q15, q16, q17, q18, q19⟩ := q; exact ⟨q0, q1, q2, jG.calling g mk a qK, q10, q11, q12, q13, q14, q15, q16, q17, q18, q19⟩, hh.recv (C := RX13) (T := TX13) (N := 50) hB15 rfl (by decide) hg_r0 hK, fun U hU hW => ⟨rfl, hU, hh.2.1, hG.step hW hU hh.1, hg_r0, hg_zs, hg_zn, hg_za, hg_zb, hg_zc, hg_zy, (hh.2.2.1.sub (L1 := [(r0, 15, 0, .ref zs), (r0, 15, 1, .ref zn), (r0, 15, 2, .ref za), (r0, 15, 3, .ref zb), (r0, 15, 4, .ref zc), (r0, 15, 14, .ref zy)]) [0, 1, 2, 3, 4, 5] rfl), (hh.2.2.2.2.2.2.2.1.sub (L1 := [(zs, 150, 120000, ca 1, C.s), (zn, 151, 120000, ca 1, C.n), (za, 152, 120000, ca 1, C.a), (zb, 153, 120000, ca 1, C.b), (zc, 154, 120000, ca 1, C.c), (zy, 165, 16, ca 1, C.y)]) [1, 2, 3, 4, 5, 6] rfl), ⟨(by first | assumption | (rw [hqz_30]; exact ((hp1 _ (by omega) (by omega)).1.tr (by omega) (by omega))) | (rw [hqz_30]; exact Int.le_trans (hp1 _ (by omega) (by omega)).2 (by omega)) | omega), (by first | omega | rfl | assumption | (rw [hqz_30]; exact ((hp1 _ (by omega) (by omega)).1.tr (by omega) (by omega))) | (rw [hqz_30]; exact Int.le_trans (hp1 _ (by omega) (by omega)).2 (by omega))), (by first | omega | rfl | assumption | (rw [hqz_30]; exact ((hp1 _ (by omega) (by omega)).1.tr (by omega) (by omega))) | (rw [hqz_30]; exact Int.le_trans (hp1 _ (by omega) (by omega)).2 (by omega)))⟩⟩⟩ rfl rfl hl.1 rfl (lv_room (Nat.le_of_ble_eq_true rfl)) dX13_sizeWith_50 ⟨Nat.zero_le _, Nat.zero_le _⟩) hh.1 (fun q _ h => h) (fun q h => h) (fun r_32 u_31 t_31 H_31 locs_31 ht_31 hvm_31 hr_32 hb_31 hz_31 hk_31 hS_31 => ?_)
        rw [ht_31] at hb_31
        obtain ⟨hb_311, hb_312, hb_313, hb_314, hb_315⟩ := hb_31
        have hh_31 : jSt (dC, dI) B base G0 G0 EX13_sizeWith s.heap 0 0 [(r0, 15, 0, .ref zs), (r0, 15, 1, .ref zn), (r0, 15, 2, .ref za), (r0, 15, 3, .ref zb), (r0, 15, 4, .ref zc), (r0, 15, 14, .ref zy)] [(r3, 169, n3, ca 1, T), (zs, 150, 120000, ca 1, C.s), (zn, 151, 120000, ca 1, C.n), (za, 152, 120000, ca 1, C.a), (zb, 153, 120000, ca 1, C.b), (zc, 154, 120000, ca 1, C.c), (zy, 165, 16, ca 1, C.y)] [] H_31 locs_31 := ((hh.call hb_311 hb_312 hb_313 hb_314 hS_31 rfl (L1 := [(r0, 15, 0, .ref zs), (r0, 15, 1, .ref zn), (r0, 15, 2, .ref za), (r0, 15, 3, .ref zb), (r0, 15, 4, .ref zc), (r0, 15, 14, .ref zy)]) [0, 1, 2, 3, 4, 5] rfl rfl (M1 := [(r3, 169, n3, ca 1, T), (zs, 150, 120000, ca 1, C.s), (zn, 151, 120000, ca 1, C.n), (za, 152, 120000, ca 1, C.a), (zb, 153, 120000, ca 1, C.b), (zc, 154, 120000, ca 1, C.c), (zy, 165, 16, ca 1, C.y)]) [0, 1, 2, 3, 4, 5, 6] rfl rfl (I1 := []) [] rfl rfl).more hb_315)
        clear hh ht_31 hvm_31 hz_31 hk_31 hS_31 hb_311 hb_312 hb_313 hb_314 hb_315
        rw [hQ]
        exact W.iret (v := r_32) hx hb hr (fun t ht hW => ⟨⟨r_32, (), rfl, by show (r_32).toInt = _; first | (rw [jSw_step (T := T) (m := a4.toInt) hp0 (by omega) a2.toInt, if_pos (by omega), hr_32, hqz_30, hqz_27]) | (rw [hst, show jPts C a1.toInt = (zz_none).toInt by omega]; omega), hh_31.rt (M1 := []) [] rfl ht⟩, by rw [ht]; try exact hh_31.1.1, fun q h9 hq => by rw [ht]; try exact hh_31.1.2.1 q h9 hq⟩) hh_31.1.2.2 dX13_sizeWith_53
theorem aX13_sizeWith (l : Launch) (dC : Nat → ClassId) (dI : Nat → Nat → Nat) (ca : Nat → ClassId) (base : Nat) (B : jF) (hB : jBok B) (hAp : jAp (dC, dI)) (hB15 : ∀ n G a H, B 15 n G a H ↔ jOb (dC, dI) 15 50 (F15 n G) a H) (hB150 : ∀ n G a H, B 150 n G a H ↔ jAr (dC, dI) (ca 1) (fun j z => True) n a H) (hB151 : ∀ n G a H, B 151 n G a H ↔ jAr (dC, dI) (ca 1) (fun j z => True) n a H) (hB152 : ∀ n G a H, B 152 n G a H ↔ jAr (dC, dI) (ca 1) (fun j z => True) n a H) (hB153 : ∀ n G a H, B 153 n G a H ↔ jAr (dC, dI) (ca 1) (fun j z => True) n a H) (hB154 : ∀ n G a H, B 154 n G a H ↔ jAr (dC, dI) (ca 1) (fun j z => True) n a H) (hB165 : ∀ n G a H, B 165 n G a H ↔ jAr (dC, dI) (ca 1) (fun j z => 0 ≤ z.toInt ∧ z.toInt ≤ 3) n a H) (hB169 : ∀ n G a H, B 169 n G a H ↔ jAr (dC, dI) (ca 1) (fun j z => True) n a H) : ∀ ef, qX13_sizeWith l dC dI ca base B ef := fun ef => Nat.strongRecOn ef (fun e ih => fun G0 H0 r0 a1 a2 r3 a4 n3 zs zn za zb zc zy T C => uX13_sizeWith l dC dI ca base B hB hAp hB15 hB150 hB151 hB152 hB153 hB154 hB165 hB169 e ih G0 H0 r0 a1 a2 r3 a4 n3 zs zn za zb zc zy T C)
