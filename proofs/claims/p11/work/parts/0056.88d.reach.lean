section
theorem dX14_goalsOf_0 : decode cX14_goalsOf 0 = .ok (.aload_n 0, 1) := by decide +kernel
theorem dX14_goalsOf_1 : decode cX14_goalsOf 1 = .ok (.getfield 122, 3) := by decide +kernel
theorem dX14_goalsOf_4 : decode cX14_goalsOf 4 = .ok (.getfield 637, 3) := by decide +kernel
theorem dX14_goalsOf_7 : decode cX14_goalsOf 7 = .ok (.ifCond .ne 11, 3) := by decide +kernel
theorem dX14_goalsOf_10 : decode cX14_goalsOf 10 = .ok (.aload_n 0, 1) := by decide +kernel
theorem dX14_goalsOf_11 : decode cX14_goalsOf 11 = .ok (.ldc_w 307, 3) := by decide +kernel
theorem dX14_goalsOf_14 : decode cX14_goalsOf 14 = .ok (.invokevirtual 189, 3) := by decide +kernel
theorem dX14_goalsOf_17 : decode cX14_goalsOf 17 = .ok (.return_, 1) := by decide +kernel
theorem dX14_goalsOf_18 : decode cX14_goalsOf 18 = .ok (.aload_n 0, 1) := by decide +kernel
theorem dX14_goalsOf_19 : decode cX14_goalsOf 19 = .ok (.ldc_w 640, 3) := by decide +kernel
theorem dX14_goalsOf_22 : decode cX14_goalsOf 22 = .ok (.invokevirtual 189, 3) := by decide +kernel
theorem dX14_goalsOf_25 : decode cX14_goalsOf 25 = .ok (.aload_n 0, 1) := by decide +kernel
theorem dX14_goalsOf_26 : decode cX14_goalsOf 26 = .ok (.getfield 122, 3) := by decide +kernel
theorem dX14_goalsOf_29 : decode cX14_goalsOf 29 = .ok (.iconst 0, 1) := by decide +kernel
theorem dX14_goalsOf_30 : decode cX14_goalsOf 30 = .ok (.putfield 634, 3) := by decide +kernel
theorem dX14_goalsOf_33 : decode cX14_goalsOf 33 = .ok (.aload_n 0, 1) := by decide +kernel
theorem dX14_goalsOf_34 : decode cX14_goalsOf 34 = .ok (.getfield 122, 3) := by decide +kernel
theorem dX14_goalsOf_37 : decode cX14_goalsOf 37 = .ok (.aload_n 0, 1) := by decide +kernel
theorem dX14_goalsOf_38 : decode cX14_goalsOf 38 = .ok (.getfield 122, 3) := by decide +kernel
theorem dX14_goalsOf_41 : decode cX14_goalsOf 41 = .ok (.getfield 642, 3) := by decide +kernel
theorem dX14_goalsOf_44 : decode cX14_goalsOf 44 = .ok (.invokevirtual 645, 3) := by decide +kernel
theorem dX14_goalsOf_47 : decode cX14_goalsOf 47 = .ok (.aload_n 0, 1) := by decide +kernel
theorem dX14_goalsOf_48 : decode cX14_goalsOf 48 = .ok (.iconst 0, 1) := by decide +kernel
theorem dX14_goalsOf_49 : decode cX14_goalsOf 49 = .ok (.invokevirtual 648, 3) := by decide +kernel
theorem dX14_goalsOf_52 : decode cX14_goalsOf 52 = .ok (.aload_n 0, 1) := by decide +kernel
theorem dX14_goalsOf_53 : decode cX14_goalsOf 53 = .ok (.ldc_w 651, 3) := by decide +kernel
theorem dX14_goalsOf_56 : decode cX14_goalsOf 56 = .ok (.invokevirtual 189, 3) := by decide +kernel
theorem dX14_goalsOf_59 : decode cX14_goalsOf 59 = .ok (.iconst 0, 1) := by decide +kernel
theorem dX14_goalsOf_60 : decode cX14_goalsOf 60 = .ok (.istore_n 1, 1) := by decide +kernel
theorem dX14_goalsOf_61 : decode cX14_goalsOf 61 = .ok (.iload_n 1, 1) := by decide +kernel
theorem dX14_goalsOf_62 : decode cX14_goalsOf 62 = .ok (.aload_n 0, 1) := by decide +kernel
theorem dX14_goalsOf_63 : decode cX14_goalsOf 63 = .ok (.getfield 122, 3) := by decide +kernel
theorem dX14_goalsOf_66 : decode cX14_goalsOf 66 = .ok (.getfield 653, 3) := by decide +kernel
theorem dX14_goalsOf_69 : decode cX14_goalsOf 69 = .ok (.if_icmp .ge 32, 3) := by decide +kernel
theorem dX14_goalsOf_72 : decode cX14_goalsOf 72 = .ok (.iload_n 1, 1) := by decide +kernel
theorem dX14_goalsOf_73 : decode cX14_goalsOf 73 = .ok (.ifCond .le 9, 3) := by decide +kernel
theorem dX14_goalsOf_76 : decode cX14_goalsOf 76 = .ok (.aload_n 0, 1) := by decide +kernel
theorem dX14_goalsOf_77 : decode cX14_goalsOf 77 = .ok (.bipush 44, 2) := by decide +kernel
theorem dX14_goalsOf_79 : decode cX14_goalsOf 79 = .ok (.invokevirtual 172, 3) := by decide +kernel
theorem dX14_goalsOf_82 : decode cX14_goalsOf 82 = .ok (.aload_n 0, 1) := by decide +kernel
theorem dX14_goalsOf_83 : decode cX14_goalsOf 83 = .ok (.getfield 122, 3) := by decide +kernel
theorem dX14_goalsOf_86 : decode cX14_goalsOf 86 = .ok (.iload_n 1, 1) := by decide +kernel
theorem dX14_goalsOf_87 : decode cX14_goalsOf 87 = .ok (.invokevirtual 656, 3) := by decide +kernel
theorem dX14_goalsOf_90 : decode cX14_goalsOf 90 = .ok (.aload_n 0, 1) := by decide +kernel
theorem dX14_goalsOf_91 : decode cX14_goalsOf 91 = .ok (.iconst 0, 1) := by decide +kernel
theorem dX14_goalsOf_92 : decode cX14_goalsOf 92 = .ok (.invokevirtual 648, 3) := by decide +kernel
theorem dX14_goalsOf_95 : decode cX14_goalsOf 95 = .ok (.iinc 1 1, 3) := by decide +kernel
theorem dX14_goalsOf_98 : decode cX14_goalsOf 98 = .ok (.goto (-37), 3) := by decide +kernel
theorem dX14_goalsOf_101 : decode cX14_goalsOf 101 = .ok (.aload_n 0, 1) := by decide +kernel
theorem dX14_goalsOf_102 : decode cX14_goalsOf 102 = .ok (.ldc_w 659, 3) := by decide +kernel
theorem dX14_goalsOf_105 : decode cX14_goalsOf 105 = .ok (.invokevirtual 189, 3) := by decide +kernel
theorem dX14_goalsOf_108 : decode cX14_goalsOf 108 = .ok (.return_, 1) := by decide +kernel
theorem dX14_statementOf_0 : decode cX14_statementOf 0 = .ok (.iconst (-1), 1) := by decide +kernel
theorem dX14_statementOf_1 : decode cX14_statementOf 1 = .ok (.istore 4, 2) := by decide +kernel
theorem dX14_statementOf_3 : decode cX14_statementOf 3 = .ok (.iconst (-1), 1) := by decide +kernel
theorem dX14_statementOf_4 : decode cX14_statementOf 4 = .ok (.istore 5, 2) := by decide +kernel
theorem dX14_statementOf_6 : decode cX14_statementOf 6 = .ok (.iconst 0, 1) := by decide +kernel
theorem dX14_statementOf_7 : decode cX14_statementOf 7 = .ok (.istore 6, 2) := by decide +kernel
theorem dX14_statementOf_9 : decode cX14_statementOf 9 = .ok (.iload 6, 2) := by decide +kernel
theorem dX14_statementOf_11 : decode cX14_statementOf 11 = .ok (.aload_n 0, 1) := by decide +kernel
theorem dX14_statementOf_12 : decode cX14_statementOf 12 = .ok (.getfield 122, 3) := by decide +kernel
theorem dX14_statementOf_15 : decode cX14_statementOf 15 = .ok (.getfield 661, 3) := by decide +kernel
theorem dX14_statementOf_18 : decode cX14_statementOf 18 = .ok (.if_icmp .ge 33, 3) := by decide +kernel
theorem dX14_statementOf_21 : decode cX14_statementOf 21 = .ok (.aload_n 0, 1) := by decide +kernel
theorem dX14_statementOf_22 : decode cX14_statementOf 22 = .ok (.aload_n 0, 1) := by decide +kernel
theorem dX14_statementOf_23 : decode cX14_statementOf 23 = .ok (.getfield 122, 3) := by decide +kernel
theorem dX14_statementOf_26 : decode cX14_statementOf 26 = .ok (.getfield 664, 3) := by decide +kernel
theorem dX14_statementOf_29 : decode cX14_statementOf 29 = .ok (.iload 6, 2) := by decide +kernel
theorem dX14_statementOf_31 : decode cX14_statementOf 31 = .ok (.iaload, 1) := by decide +kernel
theorem dX14_statementOf_32 : decode cX14_statementOf 32 = .ok (.aload_n 1, 1) := by decide +kernel
theorem dX14_statementOf_33 : decode cX14_statementOf 33 = .ok (.iload_n 2, 1) := by decide +kernel
theorem dX14_statementOf_34 : decode cX14_statementOf 34 = .ok (.iload_n 3, 1) := by decide +kernel
theorem dX14_statementOf_35 : decode cX14_statementOf 35 = .ok (.invokevirtual 667, 3) := by decide +kernel
theorem dX14_statementOf_38 : decode cX14_statementOf 38 = .ok (.ifCond .eq 7, 3) := by decide +kernel
theorem dX14_statementOf_41 : decode cX14_statementOf 41 = .ok (.iload 6, 2) := by decide +kernel
theorem dX14_statementOf_43 : decode cX14_statementOf 43 = .ok (.istore 4, 2) := by decide +kernel
theorem dX14_statementOf_45 : decode cX14_statementOf 45 = .ok (.iinc 6 1, 3) := by decide +kernel
theorem dX14_statementOf_48 : decode cX14_statementOf 48 = .ok (.goto (-39), 3) := by decide +kernel
theorem dX14_statementOf_51 : decode cX14_statementOf 51 = .ok (.iconst 0, 1) := by decide +kernel
theorem dX14_statementOf_52 : decode cX14_statementOf 52 = .ok (.istore 6, 2) := by decide +kernel
theorem dX14_statementOf_54 : decode cX14_statementOf 54 = .ok (.iload 6, 2) := by decide +kernel
theorem dX14_statementOf_56 : decode cX14_statementOf 56 = .ok (.aload_n 0, 1) := by decide +kernel
theorem dX14_statementOf_57 : decode cX14_statementOf 57 = .ok (.getfield 122, 3) := by decide +kernel
theorem dX14_statementOf_60 : decode cX14_statementOf 60 = .ok (.getfield 671, 3) := by decide +kernel
theorem dX14_statementOf_63 : decode cX14_statementOf 63 = .ok (.if_icmp .ge 33, 3) := by decide +kernel
theorem dX14_statementOf_66 : decode cX14_statementOf 66 = .ok (.aload_n 0, 1) := by decide +kernel
theorem dX14_statementOf_67 : decode cX14_statementOf 67 = .ok (.aload_n 0, 1) := by decide +kernel
theorem dX14_statementOf_68 : decode cX14_statementOf 68 = .ok (.getfield 122, 3) := by decide +kernel
theorem dX14_statementOf_71 : decode cX14_statementOf 71 = .ok (.getfield 674, 3) := by decide +kernel
theorem dX14_statementOf_74 : decode cX14_statementOf 74 = .ok (.iload 6, 2) := by decide +kernel
theorem dX14_statementOf_76 : decode cX14_statementOf 76 = .ok (.iaload, 1) := by decide +kernel
theorem dX14_statementOf_77 : decode cX14_statementOf 77 = .ok (.aload_n 1, 1) := by decide +kernel
theorem dX14_statementOf_78 : decode cX14_statementOf 78 = .ok (.iload_n 2, 1) := by decide +kernel
theorem dX14_statementOf_79 : decode cX14_statementOf 79 = .ok (.iload_n 3, 1) := by decide +kernel
theorem dX14_statementOf_80 : decode cX14_statementOf 80 = .ok (.invokevirtual 667, 3) := by decide +kernel
theorem dX14_statementOf_83 : decode cX14_statementOf 83 = .ok (.ifCond .eq 7, 3) := by decide +kernel
theorem dX14_statementOf_86 : decode cX14_statementOf 86 = .ok (.iload 6, 2) := by decide +kernel
theorem dX14_statementOf_88 : decode cX14_statementOf 88 = .ok (.istore 5, 2) := by decide +kernel
theorem dX14_statementOf_90 : decode cX14_statementOf 90 = .ok (.iinc 6 1, 3) := by decide +kernel
theorem dX14_statementOf_93 : decode cX14_statementOf 93 = .ok (.goto (-39), 3) := by decide +kernel
theorem dX14_statementOf_96 : decode cX14_statementOf 96 = .ok (.iload 4, 2) := by decide +kernel
theorem dX14_statementOf_98 : decode cX14_statementOf 98 = .ok (.ifCond .lt 36, 3) := by decide +kernel
theorem dX14_statementOf_101 : decode cX14_statementOf 101 = .ok (.aload_n 0, 1) := by decide +kernel
theorem dX14_statementOf_102 : decode cX14_statementOf 102 = .ok (.getfield 122, 3) := by decide +kernel
theorem dX14_statementOf_105 : decode cX14_statementOf 105 = .ok (.iconst 0, 1) := by decide +kernel
theorem dX14_statementOf_106 : decode cX14_statementOf 106 = .ok (.putfield 634, 3) := by decide +kernel
theorem dX14_statementOf_109 : decode cX14_statementOf 109 = .ok (.aload_n 0, 1) := by decide +kernel
theorem dX14_statementOf_110 : decode cX14_statementOf 110 = .ok (.getfield 122, 3) := by decide +kernel
theorem dX14_statementOf_113 : decode cX14_statementOf 113 = .ok (.aload_n 0, 1) := by decide +kernel
theorem dX14_statementOf_114 : decode cX14_statementOf 114 = .ok (.getfield 122, 3) := by decide +kernel
theorem dX14_statementOf_117 : decode cX14_statementOf 117 = .ok (.getfield 677, 3) := by decide +kernel
theorem dX14_statementOf_120 : decode cX14_statementOf 120 = .ok (.iload 4, 2) := by decide +kernel
theorem dX14_statementOf_122 : decode cX14_statementOf 122 = .ok (.iaload, 1) := by decide +kernel
theorem dX14_statementOf_123 : decode cX14_statementOf 123 = .ok (.invokevirtual 680, 3) := by decide +kernel
theorem dX14_statementOf_126 : decode cX14_statementOf 126 = .ok (.aload_n 0, 1) := by decide +kernel
theorem dX14_statementOf_127 : decode cX14_statementOf 127 = .ok (.iconst 0, 1) := by decide +kernel
theorem dX14_statementOf_128 : decode cX14_statementOf 128 = .ok (.invokevirtual 648, 3) := by decide +kernel
theorem dX14_statementOf_131 : decode cX14_statementOf 131 = .ok (.goto 32, 3) := by decide +kernel
theorem dX14_statementOf_134 : decode cX14_statementOf 134 = .ok (.iload 5, 2) := by decide +kernel
theorem dX14_statementOf_136 : decode cX14_statementOf 136 = .ok (.ifCond .lt 20, 3) := by decide +kernel
theorem dX14_statementOf_139 : decode cX14_statementOf 139 = .ok (.aload_n 0, 1) := by decide +kernel
theorem dX14_statementOf_140 : decode cX14_statementOf 140 = .ok (.aload_n 0, 1) := by decide +kernel
theorem dX14_statementOf_141 : decode cX14_statementOf 141 = .ok (.getfield 122, 3) := by decide +kernel
theorem dX14_statementOf_144 : decode cX14_statementOf 144 = .ok (.getfield 683, 3) := by decide +kernel
theorem dX14_statementOf_147 : decode cX14_statementOf 147 = .ok (.iload 5, 2) := by decide +kernel
theorem dX14_statementOf_149 : decode cX14_statementOf 149 = .ok (.iaload, 1) := by decide +kernel
theorem dX14_statementOf_150 : decode cX14_statementOf 150 = .ok (.invokevirtual 208, 3) := by decide +kernel
theorem dX14_statementOf_153 : decode cX14_statementOf 153 = .ok (.goto 10, 3) := by decide +kernel
theorem dX14_statementOf_156 : decode cX14_statementOf 156 = .ok (.aload_n 0, 1) := by decide +kernel
theorem dX14_statementOf_157 : decode cX14_statementOf 157 = .ok (.ldc_w 307, 3) := by decide +kernel
theorem dX14_statementOf_160 : decode cX14_statementOf 160 = .ok (.invokevirtual 189, 3) := by decide +kernel
theorem dX14_statementOf_163 : decode cX14_statementOf 163 = .ok (.return_, 1) := by decide +kernel
def EX14_goalsOf : List (Nat × Nat) := [(15, 46), (15, 49), (16, 6), (101, 0), (163, 0), (164, 0)]
def EX14_statementOf : List (Nat × Nat) := [(15, 46), (15, 49), (16, 6), (101, 0), (163, 0), (164, 0)]
set_option maxHeartbeats 4000000 in
set_option maxRecDepth 20000 in
theorem uX14_goalsOf (l : Launch) (dC : Nat → ClassId) (dI : Nat → Nat → Nat) (ca : Nat → ClassId) (base : Nat) (B : jF) (hB : jBok B) (hAp : jAp (dC, dI)) (hB15 : ∀ n G a H, B 15 n G a H ↔ jOb (dC, dI) 15 50 (F15 n G) a H) (hB16 : ∀ n G a H, B 16 n G a H ↔ jOb (dC, dI) 16 74 (F16 n G) a H) (hB101 : ∀ n G a H, B 101 n G a H ↔ jAr (dC, dI) (ca 1) (fun j z => True) n a H) (hB150 : ∀ n G a H, B 150 n G a H ↔ jAr (dC, dI) (ca 1) (fun j z => True) n a H) (hB151 : ∀ n G a H, B 151 n G a H ↔ jAr (dC, dI) (ca 1) (fun j z => True) n a H) (hB152 : ∀ n G a H, B 152 n G a H ↔ jAr (dC, dI) (ca 1) (fun j z => True) n a H) (hB153 : ∀ n G a H, B 153 n G a H ↔ jAr (dC, dI) (ca 1) (fun j z => True) n a H) (hB154 : ∀ n G a H, B 154 n G a H ↔ jAr (dC, dI) (ca 1) (fun j z => True) n a H) (hB155 : ∀ n G a H, B 155 n G a H ↔ jAr (dC, dI) (ca 1) (fun j z => 0 ≤ z.toInt ∧ z.toInt ≤ 11990) n a H) (hB156 : ∀ n G a H, B 156 n G a H ↔ jAr (dC, dI) (ca 1) (fun j z => 0 ≤ z.toInt ∧ z.toInt ≤ 10) n a H) (hB158 : ∀ n G a H, B 158 n G a H ↔ jAr (dC, dI) (ca 1) (fun j z => 0 ≤ z.toInt ∧ z.toInt ≤ 6) n a H) (hB159 : ∀ n G a H, B 159 n G a H ↔ jAr (dC, dI) (ca 1) (fun j z => 0 ≤ z.toInt ∧ z.toInt ≤ 8) n a H) (hB161 : ∀ n G a H, B 161 n G a H ↔ jAr (dC, dI) (ca 1) (fun j z => 0 ≤ z.toInt ∧ z.toInt ≤ 119999) n a H) (hB162 : ∀ n G a H, B 162 n G a H ↔ jAr (dC, dI) (ca 1) (fun j z => 0 ≤ z.toInt ∧ z.toInt ≤ 119999) n a H) (hB163 : ∀ n G a H, B 163 n G a H ↔ jAr (dC, dI) (ca 1) (fun j z => 0 ≤ z.toInt ∧ z.toInt ≤ 1599) n a H) (hB164 : ∀ n G a H, B 164 n G a H ↔ jAr (dC, dI) (ca 1) (fun j z => 0 ≤ z.toInt ∧ z.toInt ≤ 100000) n a H) (hB165 : ∀ n G a H, B 165 n G a H ↔ jAr (dC, dI) (ca 1) (fun j z => 0 ≤ z.toInt ∧ z.toInt ≤ 3) n a H) (hB166 : ∀ n G a H, B 166 n G a H ↔ jAr (dC, dI) (ca 1) (fun j z => True) n a H) (G0 : jT) (H0 : Heap) (r0 : Nat) (kr : Nat) (pg : Int32) (zg : Nat) (zh : Nat) (zp : Nat) (zs : Nat) (zn : Nat) (za : Nat) (zb : Nat) (zc : Nat) (zy : Nat) (gN : Int) (gY : Int) (fg : Nat → Int32) (fh : Nat → Int32) (fp : Nat → Int32) (C : jK) : Met l yX14_goalsOf (jw yX14_goalsOf cX14_goalsOf 2 none) ({ frames := 253, cells := 0, slots := 0, locals := 8266 }) (va_Pc [.ref r0] (fun U => U.heap = H0 ∧ jX B base G0 [] H0 ∧ jG dC dI ca base U ∧ G0 r0 = some (16, 0) ∧ G0 kr = some (15, 0) ∧ G0 zg = some (161, 46) ∧ G0 zh = some (159, 46) ∧ G0 zp = some (162, 368) ∧ G0 zs = some (150, 120000) ∧ G0 zn = some (151, 120000) ∧ G0 za = some (152, 120000) ∧ G0 zb = some (153, 120000) ∧ G0 zc = some (154, 120000) ∧ G0 zy = some (165, 16) ∧ jP (dC, dI) G0 H0 [(r0, 16, 58, .ref kr), (kr, 15, 21, .int pg), (kr, 15, 22, .ref zg), (kr, 15, 25, .ref zh), (kr, 15, 27, .ref zp), (kr, 15, 0, .ref zs), (kr, 15, 1, .ref zn), (kr, 15, 2, .ref za), (kr, 15, 3, .ref zb), (kr, 15, 4, .ref zc), (kr, 15, 14, .ref zy)] ∧ jMc (dC, dI) G0 H0 [(zg, 161, 46, ca 1, fg), (zh, 159, 46, ca 1, fh), (zp, 162, 368, ca 1, fp), (zs, 150, 120000, ca 1, C.s), (zn, 151, 120000, ca 1, C.n), (za, 152, 120000, ca 1, C.a), (zb, 153, 120000, ca 1, C.b), (zc, 154, 120000, ca 1, C.c), (zy, 165, 16, ca 1, C.y)] ∧ jGl (jG1 C gN gY) fg fh fp pg.toInt ∧ 0 ≤ pg.toInt ∧ pg.toInt ≤ 6 ∧ gN ≤ 120000 ∧ gY ≤ 16)) (va_Qv (S := Unit) (fun u => True) (fun u t => jRt (dC, dI) B base G0 EX14_goalsOf H0 [] t.heap) (jA base)) 0 0 (jA base) := by
  refine Met.ofW (cc := cX14_goalsOf) (maxL := 2) (ret := none) (by decide) rfl ?_
  intro p e s m args below meth c s₁ Bd hml hv
  obtain ⟨rfl, hH0, hX, hG, hg_r0, hg_kr, hg_zg, hg_zh, hg_zp, hg_zs, hg_zn, hg_za, hg_zb, hg_zc, hg_zy, hP0, hM0, hp0, hp1, hp2, hp3, hp4⟩ := hv
  have hK := hG.1
  have hx := Bd.exec
  have hb := Bd.bytes
  have hr := Bd.returns
  have hts := atoms_spec (ws := (jw yX14_goalsOf cX14_goalsOf 2 none)) Bd.pre
  have htw : ∀ w ∈ jWl, w.before _ s = true := fun w h => hts w (List.mem_cons_of_mem _ h)
  have hown : s.vm.findClass RX14 = some m.cls := findClass_of_methodNamed Bd.named
  have hlocks := Bd.notSynchronized
  obtain ⟨Q, hQ⟩ : ∃ Q, Q = MQ below (va_Qv (S := Unit) (fun u => True) (fun u t => jRt (dC, dI) B base G0 EX14_goalsOf H0 [] t.heap) (jA base)) ([.ref r0] : List Value).toArray s 0 0 (jA base) := ⟨_, rfl⟩
  rw [← hQ]
  have hl := lv_entry ([.ref r0]) (n := 2) (Nat.le_of_ble_eq_true rfl)
  rw [lg_entry_eq]
  generalize (lg_sl ([.ref r0]) ++ List.replicate (2 - (lg_sl ([.ref r0])).length) Slot.unset).toArray = ls at hl ⊢
  have hl : lv_has ls 2 [(0, .ref r0)] := hl
  generalize hR : (headSpec (jw yX14_goalsOf cX14_goalsOf 2 none) ({ frames := 253, cells := 0, slots := 0, locals := 8266 })).room = R
  subst hH0
  have hh : jSt (dC, dI) B base G0 G0 EX14_goalsOf s.heap 0 0 [(r0, 16, 58, .ref kr), (kr, 15, 21, .int pg), (kr, 15, 22, .ref zg), (kr, 15, 25, .ref zh), (kr, 15, 27, .ref zp), (kr, 15, 0, .ref zs), (kr, 15, 1, .ref zn), (kr, 15, 2, .ref za), (kr, 15, 3, .ref zb), (kr, 15, 4, .ref zc), (kr, 15, 14, .ref zy)] [(zg, 161, 46, ca 1, fg), (zh, 159, 46, ca 1, fh), (zp, 162, 368, ca 1, fp), (zs, 150, 120000, ca 1, C.s), (zn, 151, 120000, ca 1, C.n), (za, 152, 120000, ca 1, C.a), (zb, 153, 120000, ca 1, C.b), (zc, 154, 120000, ca 1, C.c), (zy, 165, 16, ca 1, C.y)] [] s.heap [] := jSt.start hX hP0 hM0 jIs.nil
  clear hX hP0
  have hk0 : (0 : Int32).toInt = 0 := by decide
  have hk1 : (1 : Int32).toInt = 1 := by decide
  have hk44 : (44 : Int32).toInt = 44 := by decide
  have hly_15_18 := htw (u_lay RX13 TX13 18) (jWc_wsX130 _ (u_in_lay (by decide)))
  have hly_15_19 := htw (u_lay RX13 TX13 19) (jWc_wsX130 _ (u_in_lay (by decide)))
  have hly_15_21 := htw (u_lay RX13 TX13 21) (jWc_wsX130 _ (u_in_lay (by decide)))
  have hly_15_46 := htw (u_lay RX13 TX13 46) (jWc_wsX130 _ (u_in_lay (by decide)))
  have hly_16_58 := htw (u_lay RX14 TX14 58) (jWc_wsX140 _ (u_in_lay (by decide)))
  have hlk_122 := (htw (.fieldLink RX14 122 "ProofServerModel" "kernel" "LProofServerModel$Kernel;") (jWr_12 _ (List.mem_of_getElem? (i := 13) rfl)))
  have hlk_637 := (va_Nw.use (A := ([.ref r0] : List Value).toArray) rfl (hG.2.1 RX14 637 "ProofServerModel$Kernel" "proof" "Z" "ProofServerModel" (List.mem_of_getElem? (i := 1808) (by decide +kernel))))
  obtain ⟨str307, rstr307, hstr3070⟩ := hG.str (o := RX14) (k := 307) (tx := "null") (List.mem_of_getElem? (i := 2366) (by decide +kernel))
  have hstr307 : jStr base str307 4 s s.heap := hstr3070
  obtain ⟨str640, rstr640, hstr6400⟩ := hG.str (o := RX14) (k := 640) (tx := "{\"proof\":") (List.mem_of_getElem? (i := 2805) (by decide +kernel))
  have hstr640 : jStr base str640 9 s s.heap := hstr6400
  have hlk_634 := (va_Nw.use (A := ([.ref r0] : List Value).toArray) rfl (hG.2.1 RX14 634 "ProofServerModel$Kernel" "lines" "I" "ProofServerModel" (List.mem_of_getElem? (i := 1840) (by decide +kernel))))
  have hlk_642 := (va_Nw.use (A := ([.ref r0] : List Value).toArray) rfl (hG.2.1 RX14 642 "ProofServerModel$Kernel" "lemmaName" "I" "ProofServerModel" (List.mem_of_getElem? (i := 1810) (by decide +kernel))))
  obtain ⟨str651, rstr651, hstr6510⟩ := hG.str (o := RX14) (k := 651) (tx := ",\"goals\":[") (List.mem_of_getElem? (i := 2818) (by decide +kernel))
  have hstr651 : jStr base str651 10 s s.heap := hstr6510
  have hlk_653 := (va_Nw.use (A := ([.ref r0] : List Value).toArray) rfl (hG.2.1 RX14 653 "ProofServerModel$Kernel" "goals" "I" "ProofServerModel" (List.mem_of_getElem? (i := 1813) (by decide +kernel))))
  obtain ⟨str659, rstr659, hstr6590⟩ := hG.str (o := RX14) (k := 659) (tx := "]}") (List.mem_of_getElem? (i := 2869) (by decide +kernel))
  have hstr659 : jStr base str659 2 s s.heap := hstr6590
  refine lv_aload_n hx hb dX14_goalsOf_0 rfl (lv_at hl 0 rfl) ?_
  refine j7_read hx hb hown hK (C := RX14) (T := TX14) (N := 74) rfl hly_16_58 hlk_122 (hh.at 0 rfl) dX14_goalsOf_1 ?_
  obtain ⟨v_1, hv_1, hh_2⟩ := hh.pin (C := RX13) (T := TX13) (N := 50) hB15 rfl (by decide) hg_kr (i := 18) (by decide) rfl
  clear hh
  obtain ⟨proof_3, rfl, hzproof_3⟩ := hv_1
  have hzproof_3' := jb_01 hzproof_3
  refine j7_readN hx hb hown hK (C := RX13) (T := TX13) (N := 50) rfl hly_15_18 hlk_637 (hh_2.at 0 rfl) dX14_goalsOf_4 ?_
  refine lv_if_ne (tgt := 18) hx hb dX14_goalsOf_7 (by decide) (fun c_4 => ?_) (fun c_4 => ?_)
  · skip
    have c_4' : proof_3.toInt ≠ 0 := jb_ne (rfl) ((by decide)) c_4
    refine lv_aload_n hx hb dX14_goalsOf_18 rfl (lv_at hl 0 rfl) ?_
    refine j_ldcSw hx hb hown rstr640 dX14_goalsOf_19 ?_
    obtain ⟨v_7, hv_7, hh_8⟩ := hh_2.pin (C := RX14) (T := TX14) (N := 74) hB16 rfl (by decide) hg_r0 (i := 6) (by decide) rfl
    obtain ⟨framed_9, rfl, hloframed_9, hhiframed_9⟩ := hv_7
    refine va_callv (A0 := jA base) (H0 := s.heap) (va_runV (As := [.ref str640]) (rest := []) ⟨hx, hb, hml, hown, hts⟩ (uX14_word l dC dI ca base B hB hAp hB16 hB101 G0 s.heap r0 str640 9 framed_9) (cwV 1 hts (jgV (jWr_53 _ (List.mem_of_getElem? (i := 22) rfl)) (jWr_53 _ (List.mem_of_getElem? (i := 23) rfl)) (jWr_54 _ (List.mem_of_getElem? (i := 0) rfl)) (jWr_1 _ (List.mem_of_getElem? (i := 5) rfl)) (jWr_54 _ (List.mem_of_getElem? (i := 1) rfl))) rfl rfl rfl (by decide +kernel) ⟨by rw [← hR]; exact Nat.le_of_ble_eq_true rfl, by rw [← hR]; exact Nat.le_of_ble_eq_true rfl⟩) ⟨fun a U g mk q => by obtain ⟨q0, q1, q2, qK, q10, q11, q12, q13⟩ := q; exact ⟨q0, q1, q2, jG.calling g mk a qK, (q10.moved (Vm.Alike.refl U.vm)), q11, q12, q13⟩, hh_8.recv (C := RX14) (T := TX14) (N := 74) hB16 rfl (by decide) hg_r0 hK, fun U hU hW => ⟨rfl, hU, hh_8.2.1, hG.step hW hU hh_8.1, (hstr640.moved hW.alike).kept hh_8.1.2.1, hg_r0, (hh_8.2.2.1.sub (L1 := [(r0, 16, 6, .int framed_9)]) [0] rfl), by first | omega | (refine ⟨?_, ?_, ?_⟩ <;> (first | omega | rfl | assumption | decide | exact Or.inl rfl | exact Or.inr rfl | (simp only; omega)))⟩⟩ rfl rfl hl.1 rfl (lv_room (Nat.le_of_ble_eq_true rfl)) dX14_goalsOf_22 ⟨Nat.zero_le _, Nat.zero_le _⟩) hh_8.1 (fun q _ h => h) (fun q h => h) (fun u_5 t_5 H_5 locs_5 ht_5 hvm_5 hr_6 hb_5 hz_5 hk_5 hS_5 => ?_)
    obtain ⟨qf_5, rfl⟩ : ∃ z, z = u_5 := ⟨_, rfl⟩
    rw [ht_5] at hb_5
    obtain ⟨hb_51, hb_52, hb_53, hb_54, hb_55⟩ := hb_5
    have hh_5 : jSt (dC, dI) B base G0 G0 EX14_goalsOf s.heap 0 0 [(r0, 16, 6, .int qf_5), (kr, 15, 18, .int proof_3), (r0, 16, 58, .ref kr), (kr, 15, 21, .int pg), (kr, 15, 22, .ref zg), (kr, 15, 25, .ref zh), (kr, 15, 27, .ref zp), (kr, 15, 0, .ref zs), (kr, 15, 1, .ref zn), (kr, 15, 2, .ref za), (kr, 15, 3, .ref zb), (kr, 15, 4, .ref zc), (kr, 15, 14, .ref zy)] [(zg, 161, 46, ca 1, fg), (zh, 159, 46, ca 1, fh), (zp, 162, 368, ca 1, fp), (zs, 150, 120000, ca 1, C.s), (zn, 151, 120000, ca 1, C.n), (za, 152, 120000, ca 1, C.a), (zb, 153, 120000, ca 1, C.b), (zc, 154, 120000, ca 1, C.c), (zy, 165, 16, ca 1, C.y)] [] H_5 locs_5 := ((hh_8.call hb_51 hb_52 hb_53 hb_54 hS_5 rfl (L1 := [(kr, 15, 18, .int proof_3), (r0, 16, 58, .ref kr), (kr, 15, 21, .int pg), (kr, 15, 22, .ref zg), (kr, 15, 25, .ref zh), (kr, 15, 27, .ref zp), (kr, 15, 0, .ref zs), (kr, 15, 1, .ref zn), (kr, 15, 2, .ref za), (kr, 15, 3, .ref zb), (kr, 15, 4, .ref zc), (kr, 15, 14, .ref zy)]) [1, 2, 3, 4, 5, 6, 7, 8, 9, 10, 11, 12] rfl rfl (M1 := [(zg, 161, 46, ca 1, fg), (zh, 159, 46, ca 1, fh), (zp, 162, 368, ca 1, fp), (zs, 150, 120000, ca 1, C.s), (zn, 151, 120000, ca 1, C.n), (za, 152, 120000, ca 1, C.a), (zb, 153, 120000, ca 1, C.b), (zc, 154, 120000, ca 1, C.c), (zy, 165, 16, ca 1, C.y)]) [0, 1, 2, 3, 4, 5, 6, 7, 8] rfl rfl (I1 := []) [] rfl rfl).more hb_55)
    clear hh_8 ht_5 hvm_5 hz_5 hk_5 hS_5 hb_51 hb_52 hb_53 hb_54 hb_55
    obtain ⟨hr_6_0, hr_6_1⟩ := hr_6
    refine lv_aload_n hx hb dX14_goalsOf_25 rfl (lv_at hl 0 rfl) ?_
    refine j7_read hx hb hown hK (C := RX14) (T := TX14) (N := 74) rfl hly_16_58 hlk_122 (hh_5.at 2 rfl) dX14_goalsOf_26 ?_
    refine lv_iconst (v := 0) hx hb dX14_goalsOf_29 (by decide) ?_
    refine j7_putN hx hb hown hK hh_5 hB hAp hB15 (C := RX13) (T := TX13) (N := 50) rfl (by decide) hg_kr (i := 46) (by decide) hly_15_46 rfl hlk_634 rfl (ty := .int) (v := .int 0) (by decide +kernel) rfl rfl (⟨_, rfl, by omega, by omega⟩) rfl (L1 := [(r0, 16, 6, .int qf_5), (kr, 15, 18, .int proof_3), (r0, 16, 58, .ref kr), (kr, 15, 21, .int pg), (kr, 15, 22, .ref zg), (kr, 15, 25, .ref zh), (kr, 15, 27, .ref zp), (kr, 15, 0, .ref zs), (kr, 15, 1, .ref zn), (kr, 15, 2, .ref za), (kr, 15, 3, .ref zb), (kr, 15, 4, .ref zc), (kr, 15, 14, .ref zy)]) [0, 1, 2, 3, 4, 5, 6, 7, 8, 9, 10, 11, 12] rfl rfl rfl dX14_goalsOf_30 (fun H_10 locs_10 hh_10 => ?_)
    clear hh_5
    refine lv_aload_n hx hb dX14_goalsOf_33 rfl (lv_at hl 0 rfl) ?_
    refine j7_read hx hb hown hK (C := RX14) (T := TX14) (N := 74) rfl hly_16_58 hlk_122 (hh_10.at 3 rfl) dX14_goalsOf_34 ?_
    refine lv_aload_n hx hb dX14_goalsOf_37 rfl (lv_at hl 0 rfl) ?_
    refine j7_read hx hb hown hK (C := RX14) (T := TX14) (N := 74) rfl hly_16_58 hlk_122 (hh_10.at 3 rfl) dX14_goalsOf_38 ?_
    obtain ⟨v_11, hv_11, hh_12⟩ := hh_10.pin (C := RX13) (T := TX13) (N := 50) hB15 rfl (by decide) hg_kr (i := 19) (by decide) rfl
    clear hh_10
    obtain ⟨lemmaName_13, rfl, hlolemmaName_13, hhilemmaName_13⟩ := hv_11
    refine j7_readN hx hb hown hK (C := RX13) (T := TX13) (N := 50) rfl hly_15_19 hlk_642 (hh_12.at 0 rfl) dX14_goalsOf_41 ?_
    refine va_callv (A0 := jA base) (H0 := s.heap) (va_runVN (As := [.int lemmaName_13]) (rest := []) ⟨hx, hb, hml, hown, hts⟩ (uX13_putName l dC dI ca base B hB hAp hB15 hB101 hB155 hB156 hB166 G0 H_10 kr lemmaName_13) ⟨va_cnB 1 hts (jgW (jWr_70 _ (List.mem_of_getElem? (i := 5) rfl))) rfl rfl rfl (hG.2.2.1 RX14 645 yX13_putName "ProofServerModel" (List.mem_of_getElem? (i := 2806) (by decide +kernel))) (htw (.initialized RX13) (jWr_12 _ (List.mem_of_getElem? (i := 12) rfl))) (by decide +kernel) ⟨by rw [← hR]; exact Nat.le_of_ble_eq_true rfl, by rw [← hR]; exact Nat.le_of_ble_eq_true rfl⟩, htw (.instanceMethod yX13_putName) (jWr_70 _ (List.mem_of_getElem? (i := 3) rfl)), htw (.selects RX13 yX13_putName yX13_putName) (jWr_70 _ (List.mem_of_getElem? (i := 4) rfl))⟩ ⟨fun a U g mk q => by obtain ⟨q0, q1, q2, qK, q10, q11, q12⟩ := q; exact ⟨q0, q1, q2, jG.calling g mk a qK, q10, q11, q12⟩, hh_12.recv (C := RX13) (T := TX13) (N := 50) hB15 rfl (by decide) hg_kr hK, fun U hU hW => ⟨rfl, hU, hh_12.2.1, hG.step hW hU hh_12.1, hg_kr, jP.nil, by first | omega | (refine ⟨?_, ?_⟩ <;> (first | omega | rfl | assumption | decide | exact Or.inl rfl | exact Or.inr rfl | (simp only; omega)))⟩⟩ rfl rfl hl.1 rfl (lv_room (Nat.le_of_ble_eq_true rfl)) dX14_goalsOf_44 ⟨Nat.zero_le _, Nat.zero_le _⟩) hh_12.1 (fun q _ h => h) (fun q h => h) (fun u_14 t_14 H_14 locs_14 ht_14 hvm_14 hr_15 hb_14 hz_14 hk_14 hS_14 => ?_)
    rw [ht_14] at hb_14
    obtain ⟨hb_141, hb_142, hb_143, hb_144, hb_145⟩ := hb_14
    have hh_14 : jSt (dC, dI) B base G0 G0 EX14_goalsOf s.heap 0 0 [(kr, 15, 19, .int lemmaName_13), (r0, 16, 6, .int qf_5), (kr, 15, 18, .int proof_3), (r0, 16, 58, .ref kr), (kr, 15, 21, .int pg), (kr, 15, 22, .ref zg), (kr, 15, 25, .ref zh), (kr, 15, 27, .ref zp), (kr, 15, 0, .ref zs), (kr, 15, 1, .ref zn), (kr, 15, 2, .ref za), (kr, 15, 3, .ref zb), (kr, 15, 4, .ref zc), (kr, 15, 14, .ref zy)] [(zg, 161, 46, ca 1, fg), (zh, 159, 46, ca 1, fh), (zp, 162, 368, ca 1, fp), (zs, 150, 120000, ca 1, C.s), (zn, 151, 120000, ca 1, C.n), (za, 152, 120000, ca 1, C.a), (zb, 153, 120000, ca 1, C.b), (zc, 154, 120000, ca 1, C.c), (zy, 165, 16, ca 1, C.y)] [] H_14 locs_14 := ((hh_12.call hb_141 hb_142 hb_143 hb_144 hS_14 rfl (L1 := [(kr, 15, 19, .int lemmaName_13), (r0, 16, 6, .int qf_5), (kr, 15, 18, .int proof_3), (r0, 16, 58, .ref kr), (kr, 15, 21, .int pg), (kr, 15, 22, .ref zg), (kr, 15, 25, .ref zh), (kr, 15, 27, .ref zp), (kr, 15, 0, .ref zs), (kr, 15, 1, .ref zn), (kr, 15, 2, .ref za), (kr, 15, 3, .ref zb), (kr, 15, 4, .ref zc), (kr, 15, 14, .ref zy)]) [0, 2, 3, 4, 5, 6, 7, 8, 9, 10, 11, 12, 13, 14] rfl rfl (M1 := [(zg, 161, 46, ca 1, fg), (zh, 159, 46, ca 1, fh), (zp, 162, 368, ca 1, fp), (zs, 150, 120000, ca 1, C.s), (zn, 151, 120000, ca 1, C.n), (za, 152, 120000, ca 1, C.a), (zb, 153, 120000, ca 1, C.b), (zc, 154, 120000, ca 1, C.c), (zy, 165, 16, ca 1, C.y)]) [0, 1, 2, 3, 4, 5, 6, 7, 8] rfl rfl (I1 := []) [] rfl rfl).more hb_145)
    clear hh_12 ht_14 hvm_14 hz_14 hk_14 hS_14 hb_141 hb_142 hb_143 hb_144 hb_145
    refine lv_aload_n hx hb dX14_goalsOf_47 rfl (lv_at hl 0 rfl) ?_
    refine lv_iconst (v := 0) hx hb dX14_goalsOf_48 (by decide) ?_
    refine va_callv (A0 := jA base) (H0 := s.heap) (va_runV (As := [.int 0]) (rest := []) ⟨hx, hb, hml, hown, hts⟩ (uX14_putLine l dC dI ca base B hB hAp hB15 hB16 hB101 G0 H_14 r0 0) (cwV 1 hts (jgV (jWr_70 _ (List.mem_of_getElem? (i := 11) rfl)) (jWr_70 _ (List.mem_of_getElem? (i := 12) rfl)) (jWr_70 _ (List.mem_of_getElem? (i := 13) rfl)) (jWr_1 _ (List.mem_of_getElem? (i := 5) rfl)) (jWr_70 _ (List.mem_of_getElem? (i := 14) rfl))) rfl rfl rfl (by decide +kernel) ⟨by rw [← hR]; exact Nat.le_of_ble_eq_true rfl, by rw [← hR]; exact Nat.le_of_ble_eq_true rfl⟩) ⟨fun a U g mk q => by obtain ⟨q0, q1, q2, qK, q10, q11, q12⟩ := q; exact ⟨q0, q1, q2, jG.calling g mk a qK, q10, q11, q12⟩, hh_14.recv (C := RX14) (T := TX14) (N := 74) hB16 rfl (by decide) hg_r0 hK, fun U hU hW => ⟨rfl, hU, hh_14.2.1, hG.step hW hU hh_14.1, hg_r0, jP.nil, by first | omega | (refine ⟨?_, ?_⟩ <;> (first | omega | rfl | assumption | decide | exact Or.inl rfl | exact Or.inr rfl | (simp only; omega)))⟩⟩ rfl rfl hl.1 rfl (lv_room (Nat.le_of_ble_eq_true rfl)) dX14_goalsOf_49 ⟨Nat.zero_le _, Nat.zero_le _⟩) hh_14.1 (fun q _ h => h) (fun q h => h) (fun u_16 t_16 H_16 locs_16 ht_16 hvm_16 hr_17 hb_16 hz_16 hk_16 hS_16 => ?_)
    rw [ht_16] at hb_16
    obtain ⟨hb_161, hb_162, hb_163, hb_164, hb_165⟩ := hb_16
    have hh_16 : jSt (dC, dI) B base G0 G0 EX14_goalsOf s.heap 0 0 [(kr, 15, 19, .int lemmaName_13), (kr, 15, 18, .int proof_3), (r0, 16, 58, .ref kr), (kr, 15, 21, .int pg), (kr, 15, 22, .ref zg), (kr, 15, 25, .ref zh), (kr, 15, 27, .ref zp), (kr, 15, 0, .ref zs), (kr, 15, 1, .ref zn), (kr, 15, 2, .ref za), (kr, 15, 3, .ref zb), (kr, 15, 4, .ref zc), (kr, 15, 14, .ref zy)] [(zg, 161, 46, ca 1, fg), (zh, 159, 46, ca 1, fh), (zp, 162, 368, ca 1, fp), (zs, 150, 120000, ca 1, C.s), (zn, 151, 120000, ca 1, C.n), (za, 152, 120000, ca 1, C.a), (zb, 153, 120000, ca 1, C.b), (zc, 154, 120000, ca 1, C.c), (zy, 165, 16, ca 1, C.y)] [] H_16 locs_16 := ((hh_14.call hb_161 hb_162 hb_163 hb_164 hS_16 rfl (L1 := [(kr, 15, 19, .int lemmaName_13), (kr, 15, 18, .int proof_3), (r0, 16, 58, .ref kr), (kr, 15, 21, .int pg), (kr, 15, 22, .ref zg), (kr, 15, 25, .ref zh), (kr, 15, 27, .ref zp), (kr, 15, 0, .ref zs), (kr, 15, 1, .ref zn), (kr, 15, 2, .ref za), (kr, 15, 3, .ref zb), (kr, 15, 4, .ref zc), (kr, 15, 14, .ref zy)]) [0, 2, 3, 4, 5, 6, 7, 8, 9, 10, 11, 12, 13] rfl rfl (M1 := [(zg, 161, 46, ca 1, fg), (zh, 159, 46, ca 1, fh), (zp, 162, 368, ca 1, fp), (zs, 150, 120000, ca 1, C.s), (zn, 151, 120000, ca 1, C.n), (za, 152, 120000, ca 1, C.a), (zb, 153, 120000, ca 1, C.b), (zc, 154, 120000, ca 1, C.c), (zy, 165, 16, ca 1, C.y)]) [0, 1, 2, 3, 4, 5, 6, 7, 8] rfl rfl (I1 := []) [] rfl rfl).more hb_165)
    clear hh_14 ht_16 hvm_16 hz_16 hk_16 hS_16 hb_161 hb_162 hb_163 hb_164 hb_165
    refine lv_aload_n hx hb dX14_goalsOf_52 rfl (lv_at hl 0 rfl) ?_
    refine j_ldcSw hx hb hown rstr651 dX14_goalsOf_53 ?_
    obtain ⟨v_20, hv_20, hh_21⟩ := hh_16.pin (C := RX14) (T := TX14) (N := 74) hB16 rfl (by decide) hg_r0 (i := 6) (by decide) rfl
    obtain ⟨framed_22, rfl, hloframed_22, hhiframed_22⟩ := hv_20
    refine va_callv (A0 := jA base) (H0 := s.heap) (va_runV (As := [.ref str651]) (rest := []) ⟨hx, hb, hml, hown, hts⟩ (uX14_word l dC dI ca base B hB hAp hB16 hB101 G0 H_16 r0 str651 10 framed_22) (cwV 1 hts (jgV (jWr_53 _ (List.mem_of_getElem? (i := 22) rfl)) (jWr_53 _ (List.mem_of_getElem? (i := 23) rfl)) (jWr_54 _ (List.mem_of_getElem? (i := 0) rfl)) (jWr_1 _ (List.mem_of_getElem? (i := 5) rfl)) (jWr_54 _ (List.mem_of_getElem? (i := 1) rfl))) rfl rfl rfl (by decide +kernel) ⟨by rw [← hR]; exact Nat.le_of_ble_eq_true rfl, by rw [← hR]; exact Nat.le_of_ble_eq_true rfl⟩) ⟨fun a U g mk q => by obtain ⟨q0, q1, q2, qK, q10, q11, q12, q13⟩ := q; exact ⟨q0, q1, q2, jG.calling g mk a qK, (q10.moved (Vm.Alike.refl U.vm)), q11, q12, q13⟩, hh_21.recv (C := RX14) (T := TX14) (N := 74) hB16 rfl (by decide) hg_r0 hK, fun U hU hW => ⟨rfl, hU, hh_21.2.1, hG.step hW hU hh_21.1, (hstr651.moved hW.alike).kept hh_21.1.2.1, hg_r0, (hh_21.2.2.1.sub (L1 := [(r0, 16, 6, .int framed_22)]) [0] rfl), by first | omega | (refine ⟨?_, ?_, ?_⟩ <;> (first | omega | rfl | assumption | decide | exact Or.inl rfl | exact Or.inr rfl | (simp only; omega)))⟩⟩ rfl rfl hl.1 rfl (lv_room (Nat.le_of_ble_eq_true rfl)) dX14_goalsOf_56 ⟨Nat.zero_le _, Nat.zero_le _⟩) hh_21.1 (fun q _ h => h) (fun q h => h) (fun u_18 t_18 H_18 locs_18 ht_18 hvm_18 hr_19 hb_18 hz_18 hk_18 hS_18 => ?_)
    obtain ⟨qf_18, rfl⟩ : ∃ z, z = u_18 := ⟨_, rfl⟩
    rw [ht_18] at hb_18
    obtain ⟨hb_181, hb_182, hb_183, hb_184, hb_185⟩ := hb_18
    have hh_18 : jSt (dC, dI) B base G0 G0 EX14_goalsOf s.heap 0 0 [(r0, 16, 6, .int qf_18), (kr, 15, 19, .int lemmaName_13), (kr, 15, 18, .int proof_3), (r0, 16, 58, .ref kr), (kr, 15, 21, .int pg), (kr, 15, 22, .ref zg), (kr, 15, 25, .ref zh), (kr, 15, 27, .ref zp), (kr, 15, 0, .ref zs), (kr, 15, 1, .ref zn), (kr, 15, 2, .ref za), (kr, 15, 3, .ref zb), (kr, 15, 4, .ref zc), (kr, 15, 14, .ref zy)] [(zg, 161, 46, ca 1, fg), (zh, 159, 46, ca 1, fh), (zp, 162, 368, ca 1, fp), (zs, 150, 120000, ca 1, C.s), (zn, 151, 120000, ca 1, C.n), (za, 152, 120000, ca 1, C.a), (zb, 153, 120000, ca 1, C.b), (zc, 154, 120000, ca 1, C.c), (zy, 165, 16, ca 1, C.y)] [] H_18 locs_18 := ((hh_21.call hb_181 hb_182 hb_183 hb_184 hS_18 rfl (L1 := [(kr, 15, 19, .int lemmaName_13), (kr, 15, 18, .int proof_3), (r0, 16, 58, .ref kr), (kr, 15, 21, .int pg), (kr, 15, 22, .ref zg), (kr, 15, 25, .ref zh), (kr, 15, 27, .ref zp), (kr, 15, 0, .ref zs), (kr, 15, 1, .ref zn), (kr, 15, 2, .ref za), (kr, 15, 3, .ref zb), (kr, 15, 4, .ref zc), (kr, 15, 14, .ref zy)]) [1, 2, 3, 4, 5, 6, 7, 8, 9, 10, 11, 12, 13] rfl rfl (M1 := [(zg, 161, 46, ca 1, fg), (zh, 159, 46, ca 1, fh), (zp, 162, 368, ca 1, fp), (zs, 150, 120000, ca 1, C.s), (zn, 151, 120000, ca 1, C.n), (za, 152, 120000, ca 1, C.a), (zb, 153, 120000, ca 1, C.b), (zc, 154, 120000, ca 1, C.c), (zy, 165, 16, ca 1, C.y)]) [0, 1, 2, 3, 4, 5, 6, 7, 8] rfl rfl (I1 := []) [] rfl rfl).more hb_185)
    clear hh_21 ht_18 hvm_18 hz_18 hk_18 hS_18 hb_181 hb_182 hb_183 hb_184 hb_185
    obtain ⟨hr_19_0, hr_19_1⟩ := hr_19
    refine lv_iconst (v := 0) hx hb dX14_goalsOf_59 (by decide) ?_
    refine lv_istore_n (lv' := [(1, .int 0), (0, .ref r0)]) hx hb dX14_goalsOf_60 rfl hl (by decide) rfl (fun ls hl => ?_)
    have L61 : ∀ (N : Nat) (v1_23 : Int32) (H_23 : Heap) (locs_23 : List Loc), jSt (dC, dI) B base G0 G0 EX14_goalsOf s.heap 0 0 [(kr, 15, 19, .int lemmaName_13), (kr, 15, 18, .int proof_3), (r0, 16, 58, .ref kr), (kr, 15, 21, .int pg), (kr, 15, 22, .ref zg), (kr, 15, 25, .ref zh), (kr, 15, 27, .ref zp), (kr, 15, 0, .ref zs), (kr, 15, 1, .ref zn), (kr, 15, 2, .ref za), (kr, 15, 3, .ref zb), (kr, 15, 4, .ref zc), (kr, 15, 14, .ref zy)] [(zg, 161, 46, ca 1, fg), (zh, 159, 46, ca 1, fh), (zp, 162, 368, ca 1, fp), (zs, 150, 120000, ca 1, C.s), (zn, 151, 120000, ca 1, C.n), (za, 152, 120000, ca 1, C.a), (zb, 153, 120000, ca 1, C.b), (zc, 154, 120000, ca 1, C.c), (zy, 165, 16, ca 1, C.y)] [] H_23 locs_23 → (0 ≤ v1_23.toInt ∧ v1_23.toInt ≤ pg.toInt) → (pg.toInt - v1_23.toInt : Int) < N → ∀ ls : Array Slot, lv_has ls 2 [(0, .ref r0), (1, .int v1_23)] → W p l e R s m ([.ref r0] : List Value).toArray below meth c H_23 locs_23 0 0 Q (F0 m 61 ls []) := by
      intro N
      induction N with
      | zero => intro v1_23 H_23 locs_23 hh_23  hi_23 hm; exact absurd hm (by omega)
      | succ N L61 =>
        intro v1_23 H_23 locs_23 hh_23  hi_23 hm_23 ls hl
        obtain ⟨hi_23_0, hi_23_1⟩ := hi_23
        refine lv_iload_n hx hb dX14_goalsOf_61 rfl (lv_at hl 1 rfl) ?_
        refine lv_aload_n hx hb dX14_goalsOf_62 rfl (lv_at hl 0 rfl) ?_
        refine j7_read hx hb hown hK (C := RX14) (T := TX14) (N := 74) rfl hly_16_58 hlk_122 (hh_23.at 2 rfl) dX14_goalsOf_63 ?_
        refine j7_readN hx hb hown hK (C := RX13) (T := TX13) (N := 50) rfl hly_15_21 hlk_653 (hh_23.at 3 rfl) dX14_goalsOf_66 ?_
        refine lv_icmp_ge (tgt := 101) hx hb dX14_goalsOf_69 (by decide) (fun c_24 => ?_) (fun c_24 => ?_)
        · skip
          have c_24' : v1_23.toInt ≥ pg.toInt := jb_ge (rfl) (rfl) c_24
          refine lv_aload_n hx hb dX14_goalsOf_101 rfl (lv_at hl 0 rfl) ?_
          refine j_ldcSw hx hb hown rstr659 dX14_goalsOf_102 ?_
          obtain ⟨v_27, hv_27, hh_28⟩ := hh_23.pin (C := RX14) (T := TX14) (N := 74) hB16 rfl (by decide) hg_r0 (i := 6) (by decide) rfl
          obtain ⟨framed_29, rfl, hloframed_29, hhiframed_29⟩ := hv_27
          refine va_callv (A0 := jA base) (H0 := s.heap) (va_runV (As := [.ref str659]) (rest := []) ⟨hx, hb, hml, hown, hts⟩ (uX14_word l dC dI ca base B hB hAp hB16 hB101 G0 H_23 r0 str659 2 framed_29) (cwV 1 hts (jgV (jWr_53 _ (List.mem_of_getElem? (i := 22) rfl)) (jWr_53 _ (List.mem_of_getElem? (i := 23) rfl)) (jWr_54 _ (List.mem_of_getElem? (i := 0) rfl)) (jWr_1 _ (List.mem_of_getElem? (i := 5) rfl)) (jWr_54 _ (List.mem_of_getElem? (i := 1) rfl))) rfl rfl rfl (by decide +kernel) ⟨by rw [← hR]; exact Nat.le_of_ble_eq_true rfl, by rw [← hR]; exact Nat.le_of_ble_eq_true rfl⟩) ⟨fun a U g mk q => by obtain ⟨q0, q1, q2, qK, q10, q11, q12, q13⟩ := q; exact ⟨q0, q1, q2, jG.calling g mk a qK, (q10.moved (Vm.Alike.refl U.vm)), q11, q12, q13⟩, hh_28.recv (C := RX14) (T := TX14) (N := 74) hB16 rfl (by decide) hg_r0 hK, fun U hU hW => ⟨rfl, hU, hh_28.2.1, hG.step hW hU hh_28.1, (hstr659.moved hW.alike).kept hh_28.1.2.1, hg_r0, (hh_28.2.2.1.sub (L1 := [(r0, 16, 6, .int framed_29)]) [0] rfl), by first | omega | (refine ⟨?_, ?_, ?_⟩ <;> (first | omega | rfl | assumption | decide | exact Or.inl rfl | exact Or.inr rfl | (simp only; omega)))⟩⟩ rfl rfl hl.1 rfl (lv_room (Nat.le_of_ble_eq_true rfl)) dX14_goalsOf_105 ⟨Nat.zero_le _, Nat.zero_le _⟩) hh_28.1 (fun q _ h => h) (fun q h => h) (fun u_25 t_25 H_25 locs_25 ht_25 hvm_25 hr_26 hb_25 hz_25 hk_25 hS_25 => ?_)
          obtain ⟨qf_25, rfl⟩ : ∃ z, z = u_25 := ⟨_, rfl⟩
          rw [ht_25] at hb_25
          obtain ⟨hb_251, hb_252, hb_253, hb_254, hb_255⟩ := hb_25
          have hh_25 : jSt (dC, dI) B base G0 G0 EX14_goalsOf s.heap 0 0 [(r0, 16, 6, .int qf_25), (kr, 15, 19, .int lemmaName_13), (kr, 15, 18, .int proof_3), (r0, 16, 58, .ref kr), (kr, 15, 21, .int pg), (kr, 15, 22, .ref zg), (kr, 15, 25, .ref zh), (kr, 15, 27, .ref zp), (kr, 15, 0, .ref zs), (kr, 15, 1, .ref zn), (kr, 15, 2, .ref za), (kr, 15, 3, .ref zb), (kr, 15, 4, .ref zc), (kr, 15, 14, .ref zy)] [(zg, 161, 46, ca 1, fg), (zh, 159, 46, ca 1, fh), (zp, 162, 368, ca 1, fp), (zs, 150, 120000, ca 1, C.s), (zn, 151, 120000, ca 1, C.n), (za, 152, 120000, ca 1, C.a), (zb, 153, 120000, ca 1, C.b), (zc, 154, 120000, ca 1, C.c), (zy, 165, 16, ca 1, C.y)] [] H_25 locs_25 := ((hh_28.call hb_251 hb_252 hb_253 hb_254 hS_25 rfl (L1 := [(kr, 15, 19, .int lemmaName_13), (kr, 15, 18, .int proof_3), (r0, 16, 58, .ref kr), (kr, 15, 21, .int pg), (kr, 15, 22, .ref zg), (kr, 15, 25, .ref zh), (kr, 15, 27, .ref zp), (kr, 15, 0, .ref zs), (kr, 15, 1, .ref zn), (kr, 15, 2, .ref za), (kr, 15, 3, .ref zb), (kr, 15, 4, .ref zc), (kr, 15, 14, .ref zy)]) [1, 2, 3, 4, 5, 6, 7, 8, 9, 10, 11, 12, 13] rfl rfl (M1 := [(zg, 161, 46, ca 1, fg), (zh, 159, 46, ca 1, fh), (zp, 162, 368, ca 1, fp), (zs, 150, 120000, ca 1, C.s), (zn, 151, 120000, ca 1, C.n), (za, 152, 120000, ca 1, C.a), (zb, 153, 120000, ca 1, C.b), (zc, 154, 120000, ca 1, C.c), (zy, 165, 16, ca 1, C.y)]) [0, 1, 2, 3, 4, 5, 6, 7, 8] rfl rfl (I1 := []) [] rfl rfl).more hb_255)
          clear hh_28 ht_25 hvm_25 hz_25 hk_25 hS_25 hb_251 hb_252 hb_253 hb_254 hb_255
          obtain ⟨hr_26_0, hr_26_1⟩ := hr_26
          rw [hQ]
          exact W.vret hx hb hr (fun t ht hW => ⟨⟨(), rfl, trivial, hh_25.rt (M1 := []) [] rfl ht⟩, by rw [ht]; try exact hh_25.1.1, fun q h9 hq => by rw [ht]; try exact hh_25.1.2.1 q h9 hq⟩) hh_25.1.2.2 dX14_goalsOf_108
        · skip
          have c_24' : v1_23.toInt < pg.toInt := jb_ge_n (rfl) (rfl) c_24
          refine lv_iload_n hx hb dX14_goalsOf_72 rfl (lv_at hl 1 rfl) ?_
          refine lv_if_le (tgt := 82) hx hb dX14_goalsOf_73 (by decide) (fun c_30 => ?_) (fun c_30 => ?_)
          · skip
            have c_30' : v1_23.toInt ≤ 0 := jb_le (rfl) ((by decide)) c_30
            refine lv_aload_n hx hb dX14_goalsOf_82 rfl (lv_at hl 0 rfl) ?_
            refine j7_read hx hb hown hK (C := RX14) (T := TX14) (N := 74) rfl hly_16_58 hlk_122 (hh_23.at 2 rfl) dX14_goalsOf_83 ?_
            refine lv_iload_n hx hb dX14_goalsOf_86 rfl (lv_at hl 1 rfl) ?_
            refine va_callv (A0 := jA base) (H0 := s.heap) (va_runV (As := [.int v1_23]) (rest := []) ⟨hx, hb, hml, hown, hts⟩ (uX13_printGoal l dC dI ca base B hB hAp hB15 hB101 hB150 hB151 hB152 hB153 hB154 hB155 hB156 hB158 hB159 hB161 hB162 hB163 hB164 hB165 hB166 G0 H_23 kr v1_23 zg zh zp zs zn za zb zc zy gN gY fg fh fp C) (cwV 1 hts (jgV (jWr_70 _ (List.mem_of_getElem? (i := 15) rfl)) (jWr_70 _ (List.mem_of_getElem? (i := 16) rfl)) (jWr_70 _ (List.mem_of_getElem? (i := 17) rfl)) (jWr_12 _ (List.mem_of_getElem? (i := 12) rfl)) (jWr_70 _ (List.mem_of_getElem? (i := 18) rfl))) rfl rfl rfl (by decide +kernel) ⟨by rw [← hR]; exact Nat.le_of_ble_eq_true rfl, by rw [← hR]; exact Nat.le_of_ble_eq_true rfl⟩) ⟨fun a U g mk q => by obtain ⟨q0, q1, q2, qK, q10, q11, q12, q13, q14, q15, q16, q17, q18, q19, q20, q21, q22⟩ := q; exact ⟨q0, q1, q2, jG.calling g mk a qK, q10, q11, q12, q13, q14, q15, q16, q17, q18, q19, q20, q21, q22⟩, hh_23.recv (C := RX13) (T := TX13) (N := 50) hB15 rfl (by decide) hg_kr hK, fun U hU hW => ⟨rfl, hU, hh_23.2.1, hG.step hW hU hh_23.1, hg_kr, hg_zg, hg_zh, hg_zp, hg_zs, hg_zn, hg_za, hg_zb, hg_zc, hg_zy, (hh_23.2.2.1.sub (L1 := [(kr, 15, 22, .ref zg), (kr, 15, 25, .ref zh), (kr, 15, 27, .ref zp), (kr, 15, 0, .ref zs), (kr, 15, 1, .ref zn), (kr, 15, 2, .ref za), (kr, 15, 3, .ref zb), (kr, 15, 4, .ref zc), (kr, 15, 14, .ref zy)]) [4, 5, 6, 7, 8, 9, 10, 11, 12] rfl), (hh_23.2.2.2.2.2.2.2.1.sub (L1 := [(zg, 161, 46, ca 1, fg), (zh, 159, 46, ca 1, fh), (zp, 162, 368, ca 1, fp), (zs, 150, 120000, ca 1, C.s), (zn, 151, 120000, ca 1, C.n), (za, 152, 120000, ca 1, C.a), (zb, 153, 120000, ca 1, C.b), (zc, 154, 120000, ca 1, C.c), (zy, 165, 16, ca 1, C.y)]) [0, 1, 2, 3, 4, 5, 6, 7, 8] rfl), ⟨(by first | assumption | exact hp0 _ (by omega) (by omega) | omega), (by first | omega | rfl | assumption | exact hp0 _ (by omega) (by omega)), (by first | omega | rfl | assumption | exact hp0 _ (by omega) (by omega)), (by first | omega | rfl | assumption | exact hp0 _ (by omega) (by omega)), (by first | omega | rfl | assumption | exact hp0 _ (by omega) (by omega))⟩⟩⟩ rfl rfl hl.1 rfl (lv_room (Nat.le_of_ble_eq_true rfl)) dX14_goalsOf_87 ⟨Nat.zero_le _, Nat.zero_le _⟩) hh_23.1 (fun q _ h => h) (fun q h => h) (fun u_31 t_31 H_31 locs_31 ht_31 hvm_31 hr_32 hb_31 hz_31 hk_31 hS_31 => ?_)
            rw [ht_31] at hb_31
            obtain ⟨hb_311, hb_312, hb_313, hb_314, hb_315⟩ := hb_31
            have hh_31 : jSt (dC, dI) B base G0 G0 EX14_goalsOf s.heap 0 0 [(kr, 15, 19, .int lemmaName_13), (kr, 15, 18, .int proof_3), (r0, 16, 58, .ref kr), (kr, 15, 21, .int pg), (kr, 15, 22, .ref zg), (kr, 15, 25, .ref zh), (kr, 15, 27, .ref zp), (kr, 15, 0, .ref zs), (kr, 15, 1, .ref zn), (kr, 15, 2, .ref za), (kr, 15, 3, .ref zb), (kr, 15, 4, .ref zc), (kr, 15, 14, .ref zy)] [(zg, 161, 46, ca 1, fg), (zh, 159, 46, ca 1, fh), (zp, 162, 368, ca 1, fp), (zs, 150, 120000, ca 1, C.s), (zn, 151, 120000, ca 1, C.n), (za, 152, 120000, ca 1, C.a), (zb, 153, 120000, ca 1, C.b), (zc, 154, 120000, ca 1, C.c), (zy, 165, 16, ca 1, C.y)] [] H_31 locs_31 := ((hh_23.call hb_311 hb_312 hb_313 hb_314 hS_31 rfl (L1 := [(kr, 15, 19, .int lemmaName_13), (kr, 15, 18, .int proof_3), (r0, 16, 58, .ref kr), (kr, 15, 21, .int pg), (kr, 15, 22, .ref zg), (kr, 15, 25, .ref zh), (kr, 15, 27, .ref zp), (kr, 15, 0, .ref zs), (kr, 15, 1, .ref zn), (kr, 15, 2, .ref za), (kr, 15, 3, .ref zb), (kr, 15, 4, .ref zc), (kr, 15, 14, .ref zy)]) [0, 1, 2, 3, 4, 5, 6, 7, 8, 9, 10, 11, 12] rfl rfl (M1 := [(zg, 161, 46, ca 1, fg), (zh, 159, 46, ca 1, fh), (zp, 162, 368, ca 1, fp), (zs, 150, 120000, ca 1, C.s), (zn, 151, 120000, ca 1, C.n), (za, 152, 120000, ca 1, C.a), (zb, 153, 120000, ca 1, C.b), (zc, 154, 120000, ca 1, C.c), (zy, 165, 16, ca 1, C.y)]) [0, 1, 2, 3, 4, 5, 6, 7, 8] rfl rfl (I1 := []) [] rfl rfl).more hb_315)
            clear hh_23 ht_31 hvm_31 hz_31 hk_31 hS_31 hb_311 hb_312 hb_313 hb_314 hb_315
            refine lv_aload_n hx hb dX14_goalsOf_90 rfl (lv_at hl 0 rfl) ?_
            refine lv_iconst (v := 0) hx hb dX14_goalsOf_91 (by decide) ?_
            refine va_callv (A0 := jA base) (H0 := s.heap) (va_runV (As := [.int 0]) (rest := []) ⟨hx, hb, hml, hown, hts⟩ (uX14_putLine l dC dI ca base B hB hAp hB15 hB16 hB101 G0 H_31 r0 0) (cwV 1 hts (jgV (jWr_70 _ (List.mem_of_getElem? (i := 11) rfl)) (jWr_70 _ (List.mem_of_getElem? (i := 12) rfl)) (jWr_70 _ (List.mem_of_getElem? (i := 13) rfl)) (jWr_1 _ (List.mem_of_getElem? (i := 5) rfl)) (jWr_70 _ (List.mem_of_getElem? (i := 14) rfl))) rfl rfl rfl (by decide +kernel) ⟨by rw [← hR]; exact Nat.le_of_ble_eq_true rfl, by rw [← hR]; exact Nat.le_of_ble_eq_true rfl⟩) ⟨fun a U g mk q => by obtain ⟨q0, q1, q2, qK, q10, q11, q12⟩ := q; exact ⟨q0, q1, q2, jG.calling g mk a qK, q10, q11, q12⟩, hh_31.recv (C := RX14) (T := TX14) (N := 74) hB16 rfl (by decide) hg_r0 hK, fun U hU hW => ⟨rfl, hU, hh_31.2.1, hG.step hW hU hh_31.1, hg_r0, jP.nil, by first | omega | (refine ⟨?_, ?_⟩ <;> (first | omega | rfl | assumption | decide | exact Or.inl rfl | exact Or.inr rfl | (simp only; omega)))⟩⟩ rfl rfl hl.1 rfl (lv_room (Nat.le_of_ble_eq_true rfl)) dX14_goalsOf_92 ⟨Nat.zero_le _, Nat.zero_le _⟩) hh_31.1 (fun q _ h => h) (fun q h => h) (fun u_33 t_33 H_33 locs_33 ht_33 hvm_33 hr_34 hb_33 hz_33 hk_33 hS_33 => ?_)
            rw [ht_33] at hb_33
            obtain ⟨hb_331, hb_332, hb_333, hb_334, hb_335⟩ := hb_33
            have hh_33 : jSt (dC, dI) B base G0 G0 EX14_goalsOf s.heap 0 0 [(kr, 15, 19, .int lemmaName_13), (kr, 15, 18, .int proof_3), (r0, 16, 58, .ref kr), (kr, 15, 21, .int pg), (kr, 15, 22, .ref zg), (kr, 15, 25, .ref zh), (kr, 15, 27, .ref zp), (kr, 15, 0, .ref zs), (kr, 15, 1, .ref zn), (kr, 15, 2, .ref za), (kr, 15, 3, .ref zb), (kr, 15, 4, .ref zc), (kr, 15, 14, .ref zy)] [(zg, 161, 46, ca 1, fg), (zh, 159, 46, ca 1, fh), (zp, 162, 368, ca 1, fp), (zs, 150, 120000, ca 1, C.s), (zn, 151, 120000, ca 1, C.n), (za, 152, 120000, ca 1, C.a), (zb, 153, 120000, ca 1, C.b), (zc, 154, 120000, ca 1, C.c), (zy, 165, 16, ca 1, C.y)] [] H_33 locs_33 := ((hh_31.call hb_331 hb_332 hb_333 hb_334 hS_33 rfl (L1 := [(kr, 15, 19, .int lemmaName_13), (kr, 15, 18, .int proof_3), (r0, 16, 58, .ref kr), (kr, 15, 21, .int pg), (kr, 15, 22, .ref zg), (kr, 15, 25, .ref zh), (kr, 15, 27, .ref zp), (kr, 15, 0, .ref zs), (kr, 15, 1, .ref zn), (kr, 15, 2, .ref za), (kr, 15, 3, .ref zb), (kr, 15, 4, .ref zc), (kr, 15, 14, .ref zy)]) [0, 1, 2, 3, 4, 5, 6, 7, 8, 9, 10, 11, 12] rfl rfl (M1 := [(zg, 161, 46, ca 1, fg), (zh, 159, 46, ca 1, fh), (zp, 162, 368, ca 1, fp), (zs, 150, 120000, ca 1, C.s), (zn, 151, 120000, ca 1, C.n), (za, 152, 120000, ca 1, C.a), (zb, 153, 120000, ca 1, C.b), (zc, 154, 120000, ca 1, C.c), (zy, 165, 16, ca 1, C.y)]) [0, 1, 2, 3, 4, 5, 6, 7, 8] rfl rfl (I1 := []) [] rfl rfl).more hb_335)
            clear hh_31 ht_33 hvm_33 hz_33 hk_33 hS_33 hb_331 hb_332 hb_333 hb_334 hb_335
            obtain ⟨z_35, ez_35⟩ : ∃ y : Int32, y = v1_23 + 1 := ⟨_, rfl⟩
            refine lv_iinc (v := z_35) (lv' := [(1, .int z_35), (0, .ref r0)]) hx hb dX14_goalsOf_95 hl (k := 1) rfl (by rw [ez_35]; rfl) (by decide) rfl (fun ls hl => ?_)
            have hz_35 : z_35.toInt = v1_23.toInt + 1 := by rw [ez_35]; exact jb_iadd2 (rfl) (by decide) (by omega)
            refine lv_goto (tgt := 61) hx hb dX14_goalsOf_98 (by decide) ?_
            exact L61 z_35 _ _ hh_33 (by first | omega | (refine ⟨?_, ?_⟩ <;> (first | omega | rfl | assumption | decide | exact Or.inl rfl | exact Or.inr rfl | (simp only; omega)))) (by omega) _ (lv_sub hl [1, 0] rfl)
          · skip
            have c_30' : v1_23.toInt > 0 := jb_le_n (rfl) ((by decide)) c_30
            refine lv_aload_n hx hb dX14_goalsOf_76 rfl (lv_at hl 0 rfl) ?_
            refine lv_bipush (v := 44) hx hb dX14_goalsOf_77 (by decide) ?_
            obtain ⟨v_38, hv_38, hh_39⟩ := hh_23.pin (C := RX14) (T := TX14) (N := 74) hB16 rfl (by decide) hg_r0 (i := 6) (by decide) rfl
            obtain ⟨framed_40, rfl, hloframed_40, hhiframed_40⟩ := hv_38
            refine va_callv (A0 := jA base) (H0 := s.heap) (va_runV (As := [.int 44]) (rest := []) ⟨hx, hb, hml, hown, hts⟩ (uX14_put l dC dI ca base B hB hAp hB16 hB101 G0 H_23 r0 44 framed_40) (cwV 1 hts (jgV (jWr_54 _ (List.mem_of_getElem? (i := 2) rfl)) (jWr_54 _ (List.mem_of_getElem? (i := 3) rfl)) (jWr_54 _ (List.mem_of_getElem? (i := 4) rfl)) (jWr_1 _ (List.mem_of_getElem? (i := 5) rfl)) (jWr_54 _ (List.mem_of_getElem? (i := 5) rfl))) rfl rfl rfl (by decide +kernel) ⟨by rw [← hR]; exact Nat.le_of_ble_eq_true rfl, by rw [← hR]; exact Nat.le_of_ble_eq_true rfl⟩) ⟨fun a U g mk q => by obtain ⟨q0, q1, q2, qK, q10, q11, q12⟩ := q; exact ⟨q0, q1, q2, jG.calling g mk a qK, q10, q11, q12⟩, hh_39.recv (C := RX14) (T := TX14) (N := 74) hB16 rfl (by decide) hg_r0 hK, fun U hU hW => ⟨rfl, hU, hh_39.2.1, hG.step hW hU hh_39.1, hg_r0, (hh_39.2.2.1.sub (L1 := [(r0, 16, 6, .int framed_40)]) [0] rfl), by first | omega | (refine ⟨?_, ?_⟩ <;> (first | omega | rfl | assumption | decide | exact Or.inl rfl | exact Or.inr rfl | (simp only; omega)))⟩⟩ rfl rfl hl.1 rfl (lv_room (Nat.le_of_ble_eq_true rfl)) dX14_goalsOf_79 ⟨Nat.zero_le _, Nat.zero_le _⟩) hh_39.1 (fun q _ h => h) (fun q h => h) (fun u_36 t_36 H_36 locs_36 ht_36 hvm_36 hr_37 hb_36 hz_36 hk_36 hS_36 => ?_)
            obtain ⟨qf_36, rfl⟩ : ∃ z, z = u_36 := ⟨_, rfl⟩
            rw [ht_36] at hb_36
            obtain ⟨hb_361, hb_362, hb_363, hb_364, hb_365⟩ := hb_36
            have hh_36 : jSt (dC, dI) B base G0 G0 EX14_goalsOf s.heap 0 0 [(r0, 16, 6, .int qf_36), (kr, 15, 19, .int lemmaName_13), (kr, 15, 18, .int proof_3), (r0, 16, 58, .ref kr), (kr, 15, 21, .int pg), (kr, 15, 22, .ref zg), (kr, 15, 25, .ref zh), (kr, 15, 27, .ref zp), (kr, 15, 0, .ref zs), (kr, 15, 1, .ref zn), (kr, 15, 2, .ref za), (kr, 15, 3, .ref zb), (kr, 15, 4, .ref zc), (kr, 15, 14, .ref zy)] [(zg, 161, 46, ca 1, fg), (zh, 159, 46, ca 1, fh), (zp, 162, 368, ca 1, fp), (zs, 150, 120000, ca 1, C.s), (zn, 151, 120000, ca 1, C.n), (za, 152, 120000, ca 1, C.a), (zb, 153, 120000, ca 1, C.b), (zc, 154, 120000, ca 1, C.c), (zy, 165, 16, ca 1, C.y)] [] H_36 locs_36 := ((hh_39.call hb_361 hb_362 hb_363 hb_364 hS_36 rfl (L1 := [(kr, 15, 19, .int lemmaName_13), (kr, 15, 18, .int proof_3), (r0, 16, 58, .ref kr), (kr, 15, 21, .int pg), (kr, 15, 22, .ref zg), (kr, 15, 25, .ref zh), (kr, 15, 27, .ref zp), (kr, 15, 0, .ref zs), (kr, 15, 1, .ref zn), (kr, 15, 2, .ref za), (kr, 15, 3, .ref zb), (kr, 15, 4, .ref zc), (kr, 15, 14, .ref zy)]) [1, 2, 3, 4, 5, 6, 7, 8, 9, 10, 11, 12, 13] rfl rfl (M1 := [(zg, 161, 46, ca 1, fg), (zh, 159, 46, ca 1, fh), (zp, 162, 368, ca 1, fp), (zs, 150, 120000, ca 1, C.s), (zn, 151, 120000, ca 1, C.n), (za, 152, 120000, ca 1, C.a), (zb, 153, 120000, ca 1, C.b), (zc, 154, 120000, ca 1, C.c), (zy, 165, 16, ca 1, C.y)]) [0, 1, 2, 3, 4, 5, 6, 7, 8] rfl rfl (I1 := []) [] rfl rfl).more hb_365)
            clear hh_39 ht_36 hvm_36 hz_36 hk_36 hS_36 hb_361 hb_362 hb_363 hb_364 hb_365
            obtain ⟨hr_37_0, hr_37_1⟩ := hr_37
            refine lv_aload_n hx hb dX14_goalsOf_82 rfl (lv_at hl 0 rfl) ?_
            refine j7_read hx hb hown hK (C := RX14) (T := TX14) (N := 74) rfl hly_16_58 hlk_122 (hh_36.at 3 rfl) dX14_goalsOf_83 ?_
            refine lv_iload_n hx hb dX14_goalsOf_86 rfl (lv_at hl 1 rfl) ?_
            refine va_callv (A0 := jA base) (H0 := s.heap) (va_runV (As := [.int v1_23]) (rest := []) ⟨hx, hb, hml, hown, hts⟩ (uX13_printGoal l dC dI ca base B hB hAp hB15 hB101 hB150 hB151 hB152 hB153 hB154 hB155 hB156 hB158 hB159 hB161 hB162 hB163 hB164 hB165 hB166 G0 H_36 kr v1_23 zg zh zp zs zn za zb zc zy gN gY fg fh fp C) (cwV 1 hts (jgV (jWr_70 _ (List.mem_of_getElem? (i := 15) rfl)) (jWr_70 _ (List.mem_of_getElem? (i := 16) rfl)) (jWr_70 _ (List.mem_of_getElem? (i := 17) rfl)) (jWr_12 _ (List.mem_of_getElem? (i := 12) rfl)) (jWr_70 _ (List.mem_of_getElem? (i := 18) rfl))) rfl rfl rfl (by decide +kernel) ⟨by rw [← hR]; exact Nat.le_of_ble_eq_true rfl, by rw [← hR]; exact Nat.le_of_ble_eq_true rfl⟩) ⟨fun a U g mk q => by obtain ⟨q0, q1, q2, qK, q10, q11, q12, q13, q14, q15, q16, q17, q18, q19, q20, q21, q22⟩ := q; exact ⟨q0, q1, q2, jG.calling g mk a qK, q10, q11, q12, q13, q14, q15, q16, q17, q18, q19, q20, q21, q22⟩, hh_36.recv (C := RX13) (T := TX13) (N := 50) hB15 rfl (by decide) hg_kr hK, fun U hU hW => ⟨rfl, hU, hh_36.2.1, hG.step hW hU hh_36.1, hg_kr, hg_zg, hg_zh, hg_zp, hg_zs, hg_zn, hg_za, hg_zb, hg_zc, hg_zy, (hh_36.2.2.1.sub (L1 := [(kr, 15, 22, .ref zg), (kr, 15, 25, .ref zh), (kr, 15, 27, .ref zp), (kr, 15, 0, .ref zs), (kr, 15, 1, .ref zn), (kr, 15, 2, .ref za), (kr, 15, 3, .ref zb), (kr, 15, 4, .ref zc), (kr, 15, 14, .ref zy)]) [5, 6, 7, 8, 9, 10, 11, 12, 13] rfl), (hh_36.2.2.2.2.2.2.2.1.sub (L1 := [(zg, 161, 46, ca 1, fg), (zh, 159, 46, ca 1, fh), (zp, 162, 368, ca 1, fp), (zs, 150, 120000, ca 1, C.s), (zn, 151, 120000, ca 1, C.n), (za, 152, 120000, ca 1, C.a), (zb, 153, 120000, ca 1, C.b), (zc, 154, 120000, ca 1, C.c), (zy, 165, 16, ca 1, C.y)]) [0, 1, 2, 3, 4, 5, 6, 7, 8] rfl), ⟨(by first | assumption | exact hp0 _ (by omega) (by omega) | omega), (by first | omega | rfl | assumption | exact hp0 _ (by omega) (by omega)), (by first | omega | rfl | assumption | exact hp0 _ (by omega) (by omega)), (by first | omega | rfl | assumption | exact hp0 _ (by omega) (by omega)), (by first | omega | rfl | assumption | exact hp0 _ (by omega) (by omega))⟩⟩⟩ rfl rfl hl.1 rfl (lv_room (Nat.le_of_ble_eq_true rfl)) dX14_goalsOf_87 ⟨Nat.zero_le _, Nat.zero_le _⟩) hh_36.1 (fun q _ h => h) (fun q h => h) (fun u_41 t_41 H_41 locs_41 ht_41 hvm_41 hr_42 hb_41 hz_41 hk_41 hS_41 => ?_)
            rw [ht_41] at hb_41
            obtain ⟨hb_411, hb_412, hb_413, hb_414, hb_415⟩ := hb_41
            have hh_41 : jSt (dC, dI) B base G0 G0 EX14_goalsOf s.heap 0 0 [(r0, 16, 6, .int qf_36), (kr, 15, 19, .int lemmaName_13), (kr, 15, 18, .int proof_3), (r0, 16, 58, .ref kr), (kr, 15, 21, .int pg), (kr, 15, 22, .ref zg), (kr, 15, 25, .ref zh), (kr, 15, 27, .ref zp), (kr, 15, 0, .ref zs), (kr, 15, 1, .ref zn), (kr, 15, 2, .ref za), (kr, 15, 3, .ref zb), (kr, 15, 4, .ref zc), (kr, 15, 14, .ref zy)] [(zg, 161, 46, ca 1, fg), (zh, 159, 46, ca 1, fh), (zp, 162, 368, ca 1, fp), (zs, 150, 120000, ca 1, C.s), (zn, 151, 120000, ca 1, C.n), (za, 152, 120000, ca 1, C.a), (zb, 153, 120000, ca 1, C.b), (zc, 154, 120000, ca 1, C.c), (zy, 165, 16, ca 1, C.y)] [] H_41 locs_41 := ((hh_36.call hb_411 hb_412 hb_413 hb_414 hS_41 rfl (L1 := [(r0, 16, 6, .int qf_36), (kr, 15, 19, .int lemmaName_13), (kr, 15, 18, .int proof_3), (r0, 16, 58, .ref kr), (kr, 15, 21, .int pg), (kr, 15, 22, .ref zg), (kr, 15, 25, .ref zh), (kr, 15, 27, .ref zp), (kr, 15, 0, .ref zs), (kr, 15, 1, .ref zn), (kr, 15, 2, .ref za), (kr, 15, 3, .ref zb), (kr, 15, 4, .ref zc), (kr, 15, 14, .ref zy)]) [0, 1, 2, 3, 4, 5, 6, 7, 8, 9, 10, 11, 12, 13] rfl rfl (M1 := [(zg, 161, 46, ca 1, fg), (zh, 159, 46, ca 1, fh), (zp, 162, 368, ca 1, fp), (zs, 150, 120000, ca 1, C.s), (zn, 151, 120000, ca 1, C.n), (za, 152, 120000, ca 1, C.a), (zb, 153, 120000, ca 1, C.b), (zc, 154, 120000, ca 1, C.c), (zy, 165, 16, ca 1, C.y)]) [0, 1, 2, 3, 4, 5, 6, 7, 8] rfl rfl (I1 := []) [] rfl rfl).more hb_415)
            clear hh_36 ht_41 hvm_41 hz_41 hk_41 hS_41 hb_411 hb_412 hb_413 hb_414 hb_415
            refine lv_aload_n hx hb dX14_goalsOf_90 rfl (lv_at hl 0 rfl) ?_
            refine lv_iconst (v := 0) hx hb dX14_goalsOf_91 (by decide) ?_
            refine va_callv (A0 := jA base) (H0 := s.heap) (va_runV (As := [.int 0]) (rest := []) ⟨hx, hb, hml, hown, hts⟩ (uX14_putLine l dC dI ca base B hB hAp hB15 hB16 hB101 G0 H_41 r0 0) (cwV 1 hts (jgV (jWr_70 _ (List.mem_of_getElem? (i := 11) rfl)) (jWr_70 _ (List.mem_of_getElem? (i := 12) rfl)) (jWr_70 _ (List.mem_of_getElem? (i := 13) rfl)) (jWr_1 _ (List.mem_of_getElem? (i := 5) rfl)) (jWr_70 _ (List.mem_of_getElem? (i := 14) rfl))) rfl rfl rfl (by decide +kernel) ⟨by rw [← hR]; exact Nat.le_of_ble_eq_true rfl, by rw [← hR]; exact Nat.le_of_ble_eq_true rfl⟩) ⟨fun a U g mk q => by obtain ⟨q0, q1, q2, qK, q10, q11, q12⟩ := q; exact ⟨q0, q1, q2, jG.calling g mk a qK, q10, q11, q12⟩, hh_41.recv (C := RX14) (T := TX14) (N := 74) hB16 rfl (by decide) hg_r0 hK, fun U hU hW => ⟨rfl, hU, hh_41.2.1, hG.step hW hU hh_41.1, hg_r0, jP.nil, by first | omega | (refine ⟨?_, ?_⟩ <;> (first | omega | rfl | assumption | decide | exact Or.inl rfl | exact Or.inr rfl | (simp only; omega)))⟩⟩ rfl rfl hl.1 rfl (lv_room (Nat.le_of_ble_eq_true rfl)) dX14_goalsOf_92 ⟨Nat.zero_le _, Nat.zero_le _⟩) hh_41.1 (fun q _ h => h) (fun q h => h) (fun u_43 t_43 H_43 locs_43 ht_43 hvm_43 hr_44 hb_43 hz_43 hk_43 hS_43 => ?_)
            rw [ht_43] at hb_43
            obtain ⟨hb_431, hb_432, hb_433, hb_434, hb_435⟩ := hb_43
            have hh_43 : jSt (dC, dI) B base G0 G0 EX14_goalsOf s.heap 0 0 [(kr, 15, 19, .int lemmaName_13), (kr, 15, 18, .int proof_3), (r0, 16, 58, .ref kr), (kr, 15, 21, .int pg), (kr, 15, 22, .ref zg), (kr, 15, 25, .ref zh), (kr, 15, 27, .ref zp), (kr, 15, 0, .ref zs), (kr, 15, 1, .ref zn), (kr, 15, 2, .ref za), (kr, 15, 3, .ref zb), (kr, 15, 4, .ref zc), (kr, 15, 14, .ref zy)] [(zg, 161, 46, ca 1, fg), (zh, 159, 46, ca 1, fh), (zp, 162, 368, ca 1, fp), (zs, 150, 120000, ca 1, C.s), (zn, 151, 120000, ca 1, C.n), (za, 152, 120000, ca 1, C.a), (zb, 153, 120000, ca 1, C.b), (zc, 154, 120000, ca 1, C.c), (zy, 165, 16, ca 1, C.y)] [] H_43 locs_43 := ((hh_41.call hb_431 hb_432 hb_433 hb_434 hS_43 rfl (L1 := [(kr, 15, 19, .int lemmaName_13), (kr, 15, 18, .int proof_3), (r0, 16, 58, .ref kr), (kr, 15, 21, .int pg), (kr, 15, 22, .ref zg), (kr, 15, 25, .ref zh), (kr, 15, 27, .ref zp), (kr, 15, 0, .ref zs), (kr, 15, 1, .ref zn), (kr, 15, 2, .ref za), (kr, 15, 3, .ref zb), (kr, 15, 4, .ref zc), (kr, 15, 14, .ref zy)]) [1, 2, 3, 4, 5, 6, 7, 8, 9, 10, 11, 12, 13] rfl rfl (M1 := [(zg, 161, 46, ca 1, fg), (zh, 159, 46, ca 1, fh), (zp, 162, 368, ca 1, fp), (zs, 150, 120000, ca 1, C.s), (zn, 151, 120000, ca 1, C.n), (za, 152, 120000, ca 1, C.a), (zb, 153, 120000, ca 1, C.b), (zc, 154, 120000, ca 1, C.c), (zy, 165, 16, ca 1, C.y)]) [0, 1, 2, 3, 4, 5, 6, 7, 8] rfl rfl (I1 := []) [] rfl rfl).more hb_435)
            clear hh_41 ht_43 hvm_43 hz_43 hk_43 hS_43 hb_431 hb_432 hb_433 hb_434 hb_435
            obtain ⟨z_45, ez_45⟩ : ∃ y : Int32, y = v1_23 + 1 := ⟨_, rfl⟩
            refine lv_iinc (v := z_45) (lv' := [(1, .int z_45), (0, .ref r0)]) hx hb dX14_goalsOf_95 hl (k := 1) rfl (by rw [ez_45]; rfl) (by decide) rfl (fun ls hl => ?_)
            have hz_45 : z_45.toInt = v1_23.toInt + 1 := by rw [ez_45]; exact jb_iadd2 (rfl) (by decide) (by omega)
            refine lv_goto (tgt := 61) hx hb dX14_goalsOf_98 (by decide) ?_
            exact L61 z_45 _ _ hh_43 (by first | omega | (refine ⟨?_, ?_⟩ <;> (first | omega | rfl | assumption | decide | exact Or.inl rfl | exact Or.inr rfl | (simp only; omega)))) (by omega) _ (lv_sub hl [1, 0] rfl)
    exact L61 (pg.toInt - (0 : Int32).toInt : Int).toNat.succ 0 _ _ (hh_18.sub (L1 := [(kr, 15, 19, .int lemmaName_13), (kr, 15, 18, .int proof_3), (r0, 16, 58, .ref kr), (kr, 15, 21, .int pg), (kr, 15, 22, .ref zg), (kr, 15, 25, .ref zh), (kr, 15, 27, .ref zp), (kr, 15, 0, .ref zs), (kr, 15, 1, .ref zn), (kr, 15, 2, .ref za), (kr, 15, 3, .ref zb), (kr, 15, 4, .ref zc), (kr, 15, 14, .ref zy)]) [1, 2, 3, 4, 5, 6, 7, 8, 9, 10, 11, 12, 13] rfl (M1 := [(zg, 161, 46, ca 1, fg), (zh, 159, 46, ca 1, fh), (zp, 162, 368, ca 1, fp), (zs, 150, 120000, ca 1, C.s), (zn, 151, 120000, ca 1, C.n), (za, 152, 120000, ca 1, C.a), (zb, 153, 120000, ca 1, C.b), (zc, 154, 120000, ca 1, C.c), (zy, 165, 16, ca 1, C.y)]) [0, 1, 2, 3, 4, 5, 6, 7, 8] rfl (I1 := []) [] rfl) (by first | omega | (refine ⟨?_, ?_⟩ <;> (first | omega | rfl | assumption | decide | exact Or.inl rfl | exact Or.inr rfl | (simp only; omega)))) (by omega) _ (lv_sub hl [1, 0] rfl)
  · skip
    have c_4' : proof_3.toInt = 0 := jb_ne_n (rfl) ((by decide)) c_4
    refine lv_aload_n hx hb dX14_goalsOf_10 rfl (lv_at hl 0 rfl) ?_
    refine j_ldcSw hx hb hown rstr307 dX14_goalsOf_11 ?_
    obtain ⟨v_48, hv_48, hh_49⟩ := hh_2.pin (C := RX14) (T := TX14) (N := 74) hB16 rfl (by decide) hg_r0 (i := 6) (by decide) rfl
    obtain ⟨framed_50, rfl, hloframed_50, hhiframed_50⟩ := hv_48
    refine va_callv (A0 := jA base) (H0 := s.heap) (va_runV (As := [.ref str307]) (rest := []) ⟨hx, hb, hml, hown, hts⟩ (uX14_word l dC dI ca base B hB hAp hB16 hB101 G0 s.heap r0 str307 4 framed_50) (cwV 1 hts (jgV (jWr_53 _ (List.mem_of_getElem? (i := 22) rfl)) (jWr_53 _ (List.mem_of_getElem? (i := 23) rfl)) (jWr_54 _ (List.mem_of_getElem? (i := 0) rfl)) (jWr_1 _ (List.mem_of_getElem? (i := 5) rfl)) (jWr_54 _ (List.mem_of_getElem? (i := 1) rfl))) rfl rfl rfl (by decide +kernel) ⟨by rw [← hR]; exact Nat.le_of_ble_eq_true rfl, by rw [← hR]; exact Nat.le_of_ble_eq_true rfl⟩) ⟨fun a U g mk q => by obtain ⟨q0, q1, q2, qK, q10, q11, q12, q13⟩ := q; exact ⟨q0, q1, q2, jG.calling g mk a qK, (q10.moved (Vm.Alike.refl U.vm)), q11, q12, q13⟩, hh_49.recv (C := RX14) (T := TX14) (N := 74) hB16 rfl (by decide) hg_r0 hK, fun U hU hW => ⟨rfl, hU, hh_49.2.1, hG.step hW hU hh_49.1, (hstr307.moved hW.alike).kept hh_49.1.2.1, hg_r0, (hh_49.2.2.1.sub (L1 := [(r0, 16, 6, .int framed_50)]) [0] rfl), by first | omega | (refine ⟨?_, ?_, ?_⟩ <;> (first | omega | rfl | assumption | decide | exact Or.inl rfl | exact Or.inr rfl | (simp only; omega)))⟩⟩ rfl rfl hl.1 rfl (lv_room (Nat.le_of_ble_eq_true rfl)) dX14_goalsOf_14 ⟨Nat.zero_le _, Nat.zero_le _⟩) hh_49.1 (fun q _ h => h) (fun q h => h) (fun u_46 t_46 H_46 locs_46 ht_46 hvm_46 hr_47 hb_46 hz_46 hk_46 hS_46 => ?_)
    obtain ⟨qf_46, rfl⟩ : ∃ z, z = u_46 := ⟨_, rfl⟩
    rw [ht_46] at hb_46
    obtain ⟨hb_461, hb_462, hb_463, hb_464, hb_465⟩ := hb_46
    have hh_46 : jSt (dC, dI) B base G0 G0 EX14_goalsOf s.heap 0 0 [(r0, 16, 6, .int qf_46), (kr, 15, 18, .int proof_3), (r0, 16, 58, .ref kr), (kr, 15, 21, .int pg), (kr, 15, 22, .ref zg), (kr, 15, 25, .ref zh), (kr, 15, 27, .ref zp), (kr, 15, 0, .ref zs), (kr, 15, 1, .ref zn), (kr, 15, 2, .ref za), (kr, 15, 3, .ref zb), (kr, 15, 4, .ref zc), (kr, 15, 14, .ref zy)] [(zg, 161, 46, ca 1, fg), (zh, 159, 46, ca 1, fh), (zp, 162, 368, ca 1, fp), (zs, 150, 120000, ca 1, C.s), (zn, 151, 120000, ca 1, C.n), (za, 152, 120000, ca 1, C.a), (zb, 153, 120000, ca 1, C.b), (zc, 154, 120000, ca 1, C.c), (zy, 165, 16, ca 1, C.y)] [] H_46 locs_46 := ((hh_49.call hb_461 hb_462 hb_463 hb_464 hS_46 rfl (L1 := [(kr, 15, 18, .int proof_3), (r0, 16, 58, .ref kr), (kr, 15, 21, .int pg), (kr, 15, 22, .ref zg), (kr, 15, 25, .ref zh), (kr, 15, 27, .ref zp), (kr, 15, 0, .ref zs), (kr, 15, 1, .ref zn), (kr, 15, 2, .ref za), (kr, 15, 3, .ref zb), (kr, 15, 4, .ref zc), (kr, 15, 14, .ref zy)]) [1, 2, 3, 4, 5, 6, 7, 8, 9, 10, 11, 12] rfl rfl (M1 := [(zg, 161, 46, ca 1, fg), (zh, 159, 46, ca 1, fh), (zp, 162, 368, ca 1, fp), (zs, 150, 120000, ca 1, C.s), (zn, 151, 120000, ca 1, C.n), (za, 152, 120000, ca 1, C.a), (zb, 153, 120000, ca 1, C.b), (zc, 154, 120000, ca 1, C.c), (zy, 165, 16, ca 1, C.y)]) [0, 1, 2, 3, 4, 5, 6, 7, 8] rfl rfl (I1 := []) [] rfl rfl).more hb_465)
    clear hh_49 ht_46 hvm_46 hz_46 hk_46 hS_46 hb_461 hb_462 hb_463 hb_464 hb_465
    obtain ⟨hr_47_0, hr_47_1⟩ := hr_47
    rw [hQ]
    exact W.vret hx hb hr (fun t ht hW => ⟨⟨(), rfl, trivial, hh_46.rt (M1 := []) [] rfl ht⟩, by rw [ht]; try exact hh_46.1.1, fun q h9 hq => by rw [ht]; try exact hh_46.1.2.1 q h9 hq⟩) hh_46.1.2.2 dX14_goalsOf_17
set_option maxHeartbeats 4000000 in
set_option maxRecDepth 20000 in
theorem uX14_statementOf (l : Launch) (dC : Nat → ClassId) (dI : Nat → Nat → Nat) (ca : Nat → ClassId) (base : Nat) (B : jF) (hB : jBok B) (hAp : jAp (dC, dI)) (hB15 : ∀ n G a H, B 15 n G a H ↔ jOb (dC, dI) 15 50 (F15 n G) a H) (hB16 : ∀ n G a H, B 16 n G a H ↔ jOb (dC, dI) 16 74 (F16 n G) a H) (hB101 : ∀ n G a H, B 101 n G a H ↔ jAr (dC, dI) (ca 1) (fun j z => True) n a H) (hB150 : ∀ n G a H, B 150 n G a H ↔ jAr (dC, dI) (ca 1) (fun j z => True) n a H) (hB151 : ∀ n G a H, B 151 n G a H ↔ jAr (dC, dI) (ca 1) (fun j z => True) n a H) (hB152 : ∀ n G a H, B 152 n G a H ↔ jAr (dC, dI) (ca 1) (fun j z => True) n a H) (hB153 : ∀ n G a H, B 153 n G a H ↔ jAr (dC, dI) (ca 1) (fun j z => True) n a H) (hB154 : ∀ n G a H, B 154 n G a H ↔ jAr (dC, dI) (ca 1) (fun j z => True) n a H) (hB155 : ∀ n G a H, B 155 n G a H ↔ jAr (dC, dI) (ca 1) (fun j z => 0 ≤ z.toInt ∧ z.toInt ≤ 11990) n a H) (hB156 : ∀ n G a H, B 156 n G a H ↔ jAr (dC, dI) (ca 1) (fun j z => 0 ≤ z.toInt ∧ z.toInt ≤ 10) n a H) (hB160 : ∀ n G a H, B 160 n G a H ↔ jAr (dC, dI) (ca 1) (fun j z => 0 ≤ z.toInt ∧ z.toInt ≤ 119999) n a H) (hB163 : ∀ n G a H, B 163 n G a H ↔ jAr (dC, dI) (ca 1) (fun j z => 0 ≤ z.toInt ∧ z.toInt ≤ 1599) n a H) (hB164 : ∀ n G a H, B 164 n G a H ↔ jAr (dC, dI) (ca 1) (fun j z => 0 ≤ z.toInt ∧ z.toInt ≤ 100000) n a H) (hB165 : ∀ n G a H, B 165 n G a H ↔ jAr (dC, dI) (ca 1) (fun j z => 0 ≤ z.toInt ∧ z.toInt ≤ 3) n a H) (hB166 : ∀ n G a H, B 166 n G a H ↔ jAr (dC, dI) (ca 1) (fun j z => True) n a H) (G0 : jT) (H0 : Heap) (r0 : Nat) (r1 : Nat) (a2 : Int32) (a3 : Int32) (n1 : Nat) (kr : Nat) (pf : Int32) (py : Int32) (zf : Nat) (zs : Nat) (zn : Nat) (za : Nat) (zb : Nat) (zc : Nat) (zy : Nat) (gN : Int) (gY : Int) (ff : Nat → Int32) (C : jK) : Met l yX14_statementOf (jw yX14_statementOf cX14_statementOf 7 none) ({ frames := 252, cells := 0, slots := 0, locals := 8244 }) (va_Pc [.ref r0, .ref r1, .int a2, .int a3] (fun U => U.heap = H0 ∧ jX B base G0 [] H0 ∧ jG dC dI ca base U ∧ G0 r1 = some (101, n1) ∧ G0 r0 = some (16, 0) ∧ G0 kr = some (15, 0) ∧ G0 zf = some (160, 16) ∧ G0 zs = some (150, 120000) ∧ G0 zn = some (151, 120000) ∧ G0 za = some (152, 120000) ∧ G0 zb = some (153, 120000) ∧ G0 zc = some (154, 120000) ∧ G0 zy = some (165, 16) ∧ jP (dC, dI) G0 H0 [(r0, 16, 58, .ref kr), (kr, 15, 15, .int pf), (kr, 15, 11, .int py), (kr, 15, 17, .ref zf), (kr, 15, 0, .ref zs), (kr, 15, 1, .ref zn), (kr, 15, 2, .ref za), (kr, 15, 3, .ref zb), (kr, 15, 4, .ref zc), (kr, 15, 14, .ref zy)] ∧ jMc (dC, dI) G0 H0 [(zf, 160, 16, ca 1, ff), (zs, 150, 120000, ca 1, C.s), (zn, 151, 120000, ca 1, C.n), (za, 152, 120000, ca 1, C.a), (zb, 153, 120000, ca 1, C.b), (zc, 154, 120000, ca 1, C.c), (zy, 165, 16, ca 1, C.y)] ∧ jFa (jG1 C gN gY) ff pf.toInt ∧ 0 ≤ pf.toInt ∧ pf.toInt ≤ 16 ∧ 0 ≤ py.toInt ∧ py.toInt ≤ 16 ∧ gN ≤ 120000 ∧ gY ≤ 16 ∧ 0 ≤ a2.toInt ∧ a2.toInt + a3.toInt ≤ n1 ∧ n1 ≤ 200000)) (va_Qv (S := Unit) (fun u => True) (fun u t => jRt (dC, dI) B base G0 EX14_statementOf H0 [] t.heap) (jA base)) 0 0 (jA base) := by
  refine Met.ofW (cc := cX14_statementOf) (maxL := 7) (ret := none) (by decide) rfl ?_
  intro p e s m args below meth c s₁ Bd hml hv
  obtain ⟨rfl, hH0, hX, hG, hg_r1, hg_r0, hg_kr, hg_zf, hg_zs, hg_zn, hg_za, hg_zb, hg_zc, hg_zy, hP0, hM0, hp0, hp1, hp2, hp3, hp4, hp5, hp6, hp7, hp8, hp9⟩ := hv
  have hK := hG.1
  have hx := Bd.exec
  have hb := Bd.bytes
  have hr := Bd.returns
  have hts := atoms_spec (ws := (jw yX14_statementOf cX14_statementOf 7 none)) Bd.pre
  have htw : ∀ w ∈ jWl, w.before _ s = true := fun w h => hts w (List.mem_cons_of_mem _ h)
  have hown : s.vm.findClass RX14 = some m.cls := findClass_of_methodNamed Bd.named
  have hlocks := Bd.notSynchronized
  obtain ⟨Q, hQ⟩ : ∃ Q, Q = MQ below (va_Qv (S := Unit) (fun u => True) (fun u t => jRt (dC, dI) B base G0 EX14_statementOf H0 [] t.heap) (jA base)) ([.ref r0, .ref r1, .int a2, .int a3] : List Value).toArray s 0 0 (jA base) := ⟨_, rfl⟩
  rw [← hQ]
  have hl := lv_entry ([.ref r0, .ref r1, .int a2, .int a3]) (n := 7) (Nat.le_of_ble_eq_true rfl)
  rw [lg_entry_eq]
  generalize (lg_sl ([.ref r0, .ref r1, .int a2, .int a3]) ++ List.replicate (7 - (lg_sl ([.ref r0, .ref r1, .int a2, .int a3])).length) Slot.unset).toArray = ls at hl ⊢
  have hl : lv_has ls 7 [(0, .ref r0), (1, .ref r1), (2, .int a2), (3, .int a3)] := hl
  generalize hR : (headSpec (jw yX14_statementOf cX14_statementOf 7 none) ({ frames := 252, cells := 0, slots := 0, locals := 8244 })).room = R
  subst hH0
  have hh : jSt (dC, dI) B base G0 G0 EX14_statementOf s.heap 0 0 [(r0, 16, 58, .ref kr), (kr, 15, 15, .int pf), (kr, 15, 11, .int py), (kr, 15, 17, .ref zf), (kr, 15, 0, .ref zs), (kr, 15, 1, .ref zn), (kr, 15, 2, .ref za), (kr, 15, 3, .ref zb), (kr, 15, 4, .ref zc), (kr, 15, 14, .ref zy)] [(zf, 160, 16, ca 1, ff), (zs, 150, 120000, ca 1, C.s), (zn, 151, 120000, ca 1, C.n), (za, 152, 120000, ca 1, C.a), (zb, 153, 120000, ca 1, C.b), (zc, 154, 120000, ca 1, C.c), (zy, 165, 16, ca 1, C.y)] [] s.heap [] := jSt.start hX hP0 hM0 jIs.nil
  clear hX hP0
  have hkm1 : ((-1) : Int32).toInt = (-1) := by decide
  have hk0 : (0 : Int32).toInt = 0 := by decide
  have hk1 : (1 : Int32).toInt = 1 := by decide
  have hly_15_11 := htw (u_lay RX13 TX13 11) (jWc_wsX130 _ (u_in_lay (by decide)))
  have hly_15_12 := htw (u_lay RX13 TX13 12) (jWc_wsX130 _ (u_in_lay (by decide)))
  have hly_15_14 := htw (u_lay RX13 TX13 14) (jWc_wsX130 _ (u_in_lay (by decide)))
  have hly_15_15 := htw (u_lay RX13 TX13 15) (jWc_wsX130 _ (u_in_lay (by decide)))
  have hly_15_16 := htw (u_lay RX13 TX13 16) (jWc_wsX130 _ (u_in_lay (by decide)))
  have hly_15_17 := htw (u_lay RX13 TX13 17) (jWc_wsX130 _ (u_in_lay (by decide)))
  have hly_15_46 := htw (u_lay RX13 TX13 46) (jWc_wsX130 _ (u_in_lay (by decide)))
  have hly_16_58 := htw (u_lay RX14 TX14 58) (jWc_wsX140 _ (u_in_lay (by decide)))
  have hlk_122 := (htw (.fieldLink RX14 122 "ProofServerModel" "kernel" "LProofServerModel$Kernel;") (jWr_12 _ (List.mem_of_getElem? (i := 13) rfl)))
  have hlk_661 := (va_Nw.use (A := ([.ref r0, .ref r1, .int a2, .int a3] : List Value).toArray) rfl (hG.2.1 RX14 661 "ProofServerModel$Kernel" "facts" "I" "ProofServerModel" (List.mem_of_getElem? (i := 1802) (by decide +kernel))))
  have hlk_664 := (va_Nw.use (A := ([.ref r0, .ref r1, .int a2, .int a3] : List Value).toArray) rfl (hG.2.1 RX14 664 "ProofServerModel$Kernel" "factName" "[I" "ProofServerModel" (List.mem_of_getElem? (i := 1804) (by decide +kernel))))
  have hlk_671 := (va_Nw.use (A := ([.ref r0, .ref r1, .int a2, .int a3] : List Value).toArray) rfl (hG.2.1 RX14 671 "ProofServerModel$Kernel" "symbols" "I" "ProofServerModel" (List.mem_of_getElem? (i := 1795) (by decide +kernel))))
  have hlk_674 := (va_Nw.use (A := ([.ref r0, .ref r1, .int a2, .int a3] : List Value).toArray) rfl (hG.2.1 RX14 674 "ProofServerModel$Kernel" "symbol" "[I" "ProofServerModel" (List.mem_of_getElem? (i := 1797) (by decide +kernel))))
  have hlk_634 := (va_Nw.use (A := ([.ref r0, .ref r1, .int a2, .int a3] : List Value).toArray) rfl (hG.2.1 RX14 634 "ProofServerModel$Kernel" "lines" "I" "ProofServerModel" (List.mem_of_getElem? (i := 1840) (by decide +kernel))))
  have hlk_677 := (va_Nw.use (A := ([.ref r0, .ref r1, .int a2, .int a3] : List Value).toArray) rfl (hG.2.1 RX14 677 "ProofServerModel$Kernel" "fact" "[I" "ProofServerModel" (List.mem_of_getElem? (i := 1806) (by decide +kernel))))
  have hlk_683 := (va_Nw.use (A := ([.ref r0, .ref r1, .int a2, .int a3] : List Value).toArray) rfl (hG.2.1 RX14 683 "ProofServerModel$Kernel" "arity" "[I" "ProofServerModel" (List.mem_of_getElem? (i := 1800) (by decide +kernel))))
  obtain ⟨str307, rstr307, hstr3070⟩ := hG.str (o := RX14) (k := 307) (tx := "null") (List.mem_of_getElem? (i := 2366) (by decide +kernel))
  have hstr307 : jStr base str307 4 s s.heap := hstr3070
  have hrg_a2 := jb_rng a2
  have hrg_a3 := jb_rng a3
  refine lv_iconst (v := (-1)) hx hb dX14_statementOf_0 (by decide) ?_
  refine lv_istore (lv' := [(4, .int (-1)), (0, .ref r0), (1, .ref r1), (2, .int a2), (3, .int a3)]) hx hb dX14_statementOf_1 hl (by decide) rfl (fun ls hl => ?_)
  refine lv_iconst (v := (-1)) hx hb dX14_statementOf_3 (by decide) ?_
  refine lv_istore (lv' := [(5, .int (-1)), (4, .int (-1)), (0, .ref r0), (1, .ref r1), (2, .int a2), (3, .int a3)]) hx hb dX14_statementOf_4 hl (by decide) rfl (fun ls hl => ?_)
  refine lv_iconst (v := 0) hx hb dX14_statementOf_6 (by decide) ?_
  refine lv_istore (lv' := [(6, .int 0), (5, .int (-1)), (4, .int (-1)), (0, .ref r0), (1, .ref r1), (2, .int a2), (3, .int a3)]) hx hb dX14_statementOf_7 hl (by decide) rfl (fun ls hl => ?_)
  have L9 : ∀ (N : Nat) (v4_1 : Int32) (v6_1 : Int32) (H_1 : Heap) (locs_1 : List Loc), jSt (dC, dI) B base G0 G0 EX14_statementOf s.heap 0 0 [(r0, 16, 58, .ref kr), (kr, 15, 15, .int pf), (kr, 15, 11, .int py), (kr, 15, 17, .ref zf), (kr, 15, 0, .ref zs), (kr, 15, 1, .ref zn), (kr, 15, 2, .ref za), (kr, 15, 3, .ref zb), (kr, 15, 4, .ref zc), (kr, 15, 14, .ref zy)] [(zf, 160, 16, ca 1, ff), (zs, 150, 120000, ca 1, C.s), (zn, 151, 120000, ca 1, C.n), (za, 152, 120000, ca 1, C.a), (zb, 153, 120000, ca 1, C.b), (zc, 154, 120000, ca 1, C.c), (zy, 165, 16, ca 1, C.y)] [] H_1 locs_1 → (0 ≤ v6_1.toInt ∧ v6_1.toInt ≤ pf.toInt ∧ -1 ≤ v4_1.toInt ∧ v4_1.toInt < pf.toInt) → (pf.toInt - v6_1.toInt : Int) < N → ∀ ls : Array Slot, lv_has ls 7 [(0, .ref r0), (1, .ref r1), (2, .int a2), (3, .int a3), (4, .int v4_1), (5, .int (-1)), (6, .int v6_1)] → W p l e R s m ([.ref r0, .ref r1, .int a2, .int a3] : List Value).toArray below meth c H_1 locs_1 0 0 Q (F0 m 9 ls []) := by
    intro N
    induction N with
    | zero => intro v4_1 v6_1 H_1 locs_1 hh_1  hi_1 hm; exact absurd hm (by omega)
    | succ N L9 =>
      intro v4_1 v6_1 H_1 locs_1 hh_1  hi_1 hm_1 ls hl
      obtain ⟨hi_1_0, hi_1_1, hi_1_2, hi_1_3⟩ := hi_1
      refine lv_iload hx hb dX14_statementOf_9 (lv_at hl 6 rfl) ?_
      refine lv_aload_n hx hb dX14_statementOf_11 rfl (lv_at hl 0 rfl) ?_
      refine j7_read hx hb hown hK (C := RX14) (T := TX14) (N := 74) rfl hly_16_58 hlk_122 (hh_1.at 0 rfl) dX14_statementOf_12 ?_
      refine j7_readN hx hb hown hK (C := RX13) (T := TX13) (N := 50) rfl hly_15_15 hlk_661 (hh_1.at 1 rfl) dX14_statementOf_15 ?_
      refine lv_icmp_ge (tgt := 51) hx hb dX14_statementOf_18 (by decide) (fun c_2 => ?_) (fun c_2 => ?_)
      · skip
        have c_2' : v6_1.toInt ≥ pf.toInt := jb_ge (rfl) (rfl) c_2
        refine lv_iconst (v := 0) hx hb dX14_statementOf_51 (by decide) ?_
        refine lv_istore (lv' := [(6, .int 0), (0, .ref r0), (1, .ref r1), (2, .int a2), (3, .int a3), (4, .int v4_1), (5, .int (-1))]) hx hb dX14_statementOf_52 hl (by decide) rfl (fun ls hl => ?_)
        have L54 : ∀ (N : Nat) (v5_3 : Int32) (v6_3 : Int32) (H_3 : Heap) (locs_3 : List Loc), jSt (dC, dI) B base G0 G0 EX14_statementOf s.heap 0 0 [(r0, 16, 58, .ref kr), (kr, 15, 15, .int pf), (kr, 15, 11, .int py), (kr, 15, 17, .ref zf), (kr, 15, 0, .ref zs), (kr, 15, 1, .ref zn), (kr, 15, 2, .ref za), (kr, 15, 3, .ref zb), (kr, 15, 4, .ref zc), (kr, 15, 14, .ref zy)] [(zf, 160, 16, ca 1, ff), (zs, 150, 120000, ca 1, C.s), (zn, 151, 120000, ca 1, C.n), (za, 152, 120000, ca 1, C.a), (zb, 153, 120000, ca 1, C.b), (zc, 154, 120000, ca 1, C.c), (zy, 165, 16, ca 1, C.y)] [] H_3 locs_3 → (0 ≤ v6_3.toInt ∧ v6_3.toInt ≤ py.toInt ∧ -1 ≤ v5_3.toInt ∧ v5_3.toInt < py.toInt) → (py.toInt - v6_3.toInt : Int) < N → ∀ ls : Array Slot, lv_has ls 7 [(0, .ref r0), (1, .ref r1), (2, .int a2), (3, .int a3), (4, .int v4_1), (5, .int v5_3), (6, .int v6_3)] → W p l e R s m ([.ref r0, .ref r1, .int a2, .int a3] : List Value).toArray below meth c H_3 locs_3 0 0 Q (F0 m 54 ls []) := by
          intro N
          induction N with
          | zero => intro v5_3 v6_3 H_3 locs_3 hh_3  hi_3 hm; exact absurd hm (by omega)
          | succ N L54 =>
            intro v5_3 v6_3 H_3 locs_3 hh_3  hi_3 hm_3 ls hl
            obtain ⟨hi_3_0, hi_3_1, hi_3_2, hi_3_3⟩ := hi_3
            refine lv_iload hx hb dX14_statementOf_54 (lv_at hl 6 rfl) ?_
            refine lv_aload_n hx hb dX14_statementOf_56 rfl (lv_at hl 0 rfl) ?_
            refine j7_read hx hb hown hK (C := RX14) (T := TX14) (N := 74) rfl hly_16_58 hlk_122 (hh_3.at 0 rfl) dX14_statementOf_57 ?_
            refine j7_readN hx hb hown hK (C := RX13) (T := TX13) (N := 50) rfl hly_15_11 hlk_671 (hh_3.at 2 rfl) dX14_statementOf_60 ?_
            refine lv_icmp_ge (tgt := 96) hx hb dX14_statementOf_63 (by decide) (fun c_4 => ?_) (fun c_4 => ?_)
            · skip
              have c_4' : v6_3.toInt ≥ py.toInt := jb_ge (rfl) (rfl) c_4
              refine lv_iload hx hb dX14_statementOf_96 (lv_at hl 4 rfl) ?_
              refine lv_if_lt (tgt := 134) hx hb dX14_statementOf_98 (by decide) (fun c_5 => ?_) (fun c_5 => ?_)
              · skip
                have c_5' : v4_1.toInt < 0 := jb_lt (rfl) ((by decide)) c_5
                refine lv_iload hx hb dX14_statementOf_134 (lv_at hl 5 rfl) ?_
                refine lv_if_lt (tgt := 156) hx hb dX14_statementOf_136 (by decide) (fun c_6 => ?_) (fun c_6 => ?_)
                · skip
                  have c_6' : v5_3.toInt < 0 := jb_lt (rfl) ((by decide)) c_6
                  refine lv_aload_n hx hb dX14_statementOf_156 rfl (lv_at hl 0 rfl) ?_
                  refine j_ldcSw hx hb hown rstr307 dX14_statementOf_157 ?_
                  obtain ⟨v_9, hv_9, hh_10⟩ := hh_3.pin (C := RX14) (T := TX14) (N := 74) hB16 rfl (by decide) hg_r0 (i := 6) (by decide) rfl
                  obtain ⟨framed_11, rfl, hloframed_11, hhiframed_11⟩ := hv_9
                  refine va_callv (A0 := jA base) (H0 := s.heap) (va_runV (As := [.ref str307]) (rest := []) ⟨hx, hb, hml, hown, hts⟩ (uX14_word l dC dI ca base B hB hAp hB16 hB101 G0 H_3 r0 str307 4 framed_11) (cwV 1 hts (jgV (jWr_53 _ (List.mem_of_getElem? (i := 22) rfl)) (jWr_53 _ (List.mem_of_getElem? (i := 23) rfl)) (jWr_54 _ (List.mem_of_getElem? (i := 0) rfl)) (jWr_1 _ (List.mem_of_getElem? (i := 5) rfl)) (jWr_54 _ (List.mem_of_getElem? (i := 1) rfl))) rfl rfl rfl (by decide +kernel) ⟨by rw [← hR]; exact Nat.le_of_ble_eq_true rfl, by rw [← hR]; exact Nat.le_of_ble_eq_true rfl⟩) ⟨fun a U g mk q => by obtain ⟨q0, q1, q2, qK, q10, q11, q12, q13⟩ := q; exact ⟨q0, q1, q2, jG.calling g mk a qK, (q10.moved (Vm.Alike.refl U.vm)), q11, q12, q13⟩, hh_10.recv (C := RX14) (T := TX14) (N := 74) hB16 rfl (by decide) hg_r0 hK, fun U hU hW => ⟨rfl, hU, hh_10.2.1, hG.step hW hU hh_10.1, (hstr307.moved hW.alike).kept hh_10.1.2.1, hg_r0, (hh_10.2.2.1.sub (L1 := [(r0, 16, 6, .int framed_11)]) [0] rfl), by first | omega | (refine ⟨?_, ?_, ?_⟩ <;> (first | omega | rfl | assumption | decide | exact Or.inl rfl | exact Or.inr rfl | (simp only; omega)))⟩⟩ rfl rfl hl.1 rfl (lv_room (Nat.le_of_ble_eq_true rfl)) dX14_statementOf_160 ⟨Nat.zero_le _, Nat.zero_le _⟩) hh_10.1 (fun q _ h => h) (fun q h => h) (fun u_7 t_7 H_7 locs_7 ht_7 hvm_7 hr_8 hb_7 hz_7 hk_7 hS_7 => ?_)
                  obtain ⟨qf_7, rfl⟩ : ∃ z, z = u_7 := ⟨_, rfl⟩
                  rw [ht_7] at hb_7
                  obtain ⟨hb_71, hb_72, hb_73, hb_74, hb_75⟩ := hb_7
                  have hh_7 : jSt (dC, dI) B base G0 G0 EX14_statementOf s.heap 0 0 [(r0, 16, 6, .int qf_7), (r0, 16, 58, .ref kr), (kr, 15, 15, .int pf), (kr, 15, 11, .int py), (kr, 15, 17, .ref zf), (kr, 15, 0, .ref zs), (kr, 15, 1, .ref zn), (kr, 15, 2, .ref za), (kr, 15, 3, .ref zb), (kr, 15, 4, .ref zc), (kr, 15, 14, .ref zy)] [(zf, 160, 16, ca 1, ff), (zs, 150, 120000, ca 1, C.s), (zn, 151, 120000, ca 1, C.n), (za, 152, 120000, ca 1, C.a), (zb, 153, 120000, ca 1, C.b), (zc, 154, 120000, ca 1, C.c), (zy, 165, 16, ca 1, C.y)] [] H_7 locs_7 := ((hh_10.call hb_71 hb_72 hb_73 hb_74 hS_7 rfl (L1 := [(r0, 16, 58, .ref kr), (kr, 15, 15, .int pf), (kr, 15, 11, .int py), (kr, 15, 17, .ref zf), (kr, 15, 0, .ref zs), (kr, 15, 1, .ref zn), (kr, 15, 2, .ref za), (kr, 15, 3, .ref zb), (kr, 15, 4, .ref zc), (kr, 15, 14, .ref zy)]) [1, 2, 3, 4, 5, 6, 7, 8, 9, 10] rfl rfl (M1 := [(zf, 160, 16, ca 1, ff), (zs, 150, 120000, ca 1, C.s), (zn, 151, 120000, ca 1, C.n), (za, 152, 120000, ca 1, C.a), (zb, 153, 120000, ca 1, C.b), (zc, 154, 120000, ca 1, C.c), (zy, 165, 16, ca 1, C.y)]) [0, 1, 2, 3, 4, 5, 6] rfl rfl (I1 := []) [] rfl rfl).more hb_75)
                  clear hh_10 ht_7 hvm_7 hz_7 hk_7 hS_7 hb_71 hb_72 hb_73 hb_74 hb_75
                  obtain ⟨hr_8_0, hr_8_1⟩ := hr_8
                  rw [hQ]
                  exact W.vret hx hb hr (fun t ht hW => ⟨⟨(), rfl, trivial, hh_7.rt (M1 := []) [] rfl ht⟩, by rw [ht]; try exact hh_7.1.1, fun q h9 hq => by rw [ht]; try exact hh_7.1.2.1 q h9 hq⟩) hh_7.1.2.2 dX14_statementOf_163
                · skip
                  have c_6' : v5_3.toInt ≥ 0 := jb_lt_n (rfl) ((by decide)) c_6
                  refine lv_aload_n hx hb dX14_statementOf_139 rfl (lv_at hl 0 rfl) ?_
                  refine lv_aload_n hx hb dX14_statementOf_140 rfl (lv_at hl 0 rfl) ?_
                  refine j7_read hx hb hown hK (C := RX14) (T := TX14) (N := 74) rfl hly_16_58 hlk_122 (hh_3.at 0 rfl) dX14_statementOf_141 ?_
                  refine j7_readN hx hb hown hK (C := RX13) (T := TX13) (N := 50) rfl hly_15_14 hlk_683 (hh_3.at 9 rfl) dX14_statementOf_144 ?_
                  refine lv_iload hx hb dX14_statementOf_147 (lv_at hl 5 rfl) ?_
                  refine j7_ialdM hx hb hK hh_3 hB165 1 rfl (by decide) hg_zy (x := v5_3.toInt) (rfl) (by omega) (j := 6) rfl dX14_statementOf_149 (fun z_12 ez_12 (hz_12 : 0 ≤ z_12.toInt ∧ z_12.toInt ≤ 3) => ?_)
                  have hqz_12 : z_12.toInt = jSo C.y (v5_3.toInt) := by unfold jSo; rw [ez_12]
                  obtain ⟨v_15, hv_15, hh_16⟩ := hh_3.pin (C := RX14) (T := TX14) (N := 74) hB16 rfl (by decide) hg_r0 (i := 6) (by decide) rfl
                  obtain ⟨framed_17, rfl, hloframed_17, hhiframed_17⟩ := hv_15
                  refine va_callv (A0 := jA base) (H0 := s.heap) (va_runV (As := [.int z_12]) (rest := []) ⟨hx, hb, hml, hown, hts⟩ (uX14_number l dC dI ca base B hB hAp hB16 hB101 G0 H_3 r0 z_12 framed_17) (cwV 1 hts (jgV (jWr_54 _ (List.mem_of_getElem? (i := 18) rfl)) (jWr_54 _ (List.mem_of_getElem? (i := 19) rfl)) (jWr_54 _ (List.mem_of_getElem? (i := 20) rfl)) (jWr_1 _ (List.mem_of_getElem? (i := 5) rfl)) (jWr_54 _ (List.mem_of_getElem? (i := 21) rfl))) rfl rfl rfl (by decide +kernel) ⟨by rw [← hR]; exact Nat.le_of_ble_eq_true rfl, by rw [← hR]; exact Nat.le_of_ble_eq_true rfl⟩) ⟨fun a U g mk q => by obtain ⟨q0, q1, q2, qK, q10, q11, q12⟩ := q; exact ⟨q0, q1, q2, jG.calling g mk a qK, q10, q11, q12⟩, hh_16.recv (C := RX14) (T := TX14) (N := 74) hB16 rfl (by decide) hg_r0 hK, fun U hU hW => ⟨rfl, hU, hh_16.2.1, hG.step hW hU hh_16.1, hg_r0, (hh_16.2.2.1.sub (L1 := [(r0, 16, 6, .int framed_17)]) [0] rfl), by first | omega | (refine ⟨?_, ?_⟩ <;> (first | omega | rfl | assumption | decide | exact Or.inl rfl | exact Or.inr rfl | (simp only; omega)))⟩⟩ rfl rfl hl.1 rfl (lv_room (Nat.le_of_ble_eq_true rfl)) dX14_statementOf_150 ⟨Nat.zero_le _, Nat.zero_le _⟩) hh_16.1 (fun q _ h => h) (fun q h => h) (fun u_13 t_13 H_13 locs_13 ht_13 hvm_13 hr_14 hb_13 hz_13 hk_13 hS_13 => ?_)
                  obtain ⟨qf_13, rfl⟩ : ∃ z, z = u_13 := ⟨_, rfl⟩
                  rw [ht_13] at hb_13
                  obtain ⟨hb_131, hb_132, hb_133, hb_134, hb_135⟩ := hb_13
                  have hh_13 : jSt (dC, dI) B base G0 G0 EX14_statementOf s.heap 0 0 [(r0, 16, 6, .int qf_13), (r0, 16, 58, .ref kr), (kr, 15, 15, .int pf), (kr, 15, 11, .int py), (kr, 15, 17, .ref zf), (kr, 15, 0, .ref zs), (kr, 15, 1, .ref zn), (kr, 15, 2, .ref za), (kr, 15, 3, .ref zb), (kr, 15, 4, .ref zc), (kr, 15, 14, .ref zy)] [(zf, 160, 16, ca 1, ff), (zs, 150, 120000, ca 1, C.s), (zn, 151, 120000, ca 1, C.n), (za, 152, 120000, ca 1, C.a), (zb, 153, 120000, ca 1, C.b), (zc, 154, 120000, ca 1, C.c), (zy, 165, 16, ca 1, C.y)] [] H_13 locs_13 := ((hh_16.call hb_131 hb_132 hb_133 hb_134 hS_13 rfl (L1 := [(r0, 16, 58, .ref kr), (kr, 15, 15, .int pf), (kr, 15, 11, .int py), (kr, 15, 17, .ref zf), (kr, 15, 0, .ref zs), (kr, 15, 1, .ref zn), (kr, 15, 2, .ref za), (kr, 15, 3, .ref zb), (kr, 15, 4, .ref zc), (kr, 15, 14, .ref zy)]) [1, 2, 3, 4, 5, 6, 7, 8, 9, 10] rfl rfl (M1 := [(zf, 160, 16, ca 1, ff), (zs, 150, 120000, ca 1, C.s), (zn, 151, 120000, ca 1, C.n), (za, 152, 120000, ca 1, C.a), (zb, 153, 120000, ca 1, C.b), (zc, 154, 120000, ca 1, C.c), (zy, 165, 16, ca 1, C.y)]) [0, 1, 2, 3, 4, 5, 6] rfl rfl (I1 := []) [] rfl rfl).more hb_135)
                  clear hh_16 ht_13 hvm_13 hz_13 hk_13 hS_13 hb_131 hb_132 hb_133 hb_134 hb_135
                  obtain ⟨hr_14_0, hr_14_1⟩ := hr_14
                  refine lv_goto (tgt := 163) hx hb dX14_statementOf_153 (by decide) ?_
                  rw [hQ]
                  exact W.vret hx hb hr (fun t ht hW => ⟨⟨(), rfl, trivial, hh_13.rt (M1 := []) [] rfl ht⟩, by rw [ht]; try exact hh_13.1.1, fun q h9 hq => by rw [ht]; try exact hh_13.1.2.1 q h9 hq⟩) hh_13.1.2.2 dX14_statementOf_163
              · skip
                have c_5' : v4_1.toInt ≥ 0 := jb_lt_n (rfl) ((by decide)) c_5
                refine lv_aload_n hx hb dX14_statementOf_101 rfl (lv_at hl 0 rfl) ?_
                refine j7_read hx hb hown hK (C := RX14) (T := TX14) (N := 74) rfl hly_16_58 hlk_122 (hh_3.at 0 rfl) dX14_statementOf_102 ?_
                refine lv_iconst (v := 0) hx hb dX14_statementOf_105 (by decide) ?_
                refine j7_putN hx hb hown hK hh_3 hB hAp hB15 (C := RX13) (T := TX13) (N := 50) rfl (by decide) hg_kr (i := 46) (by decide) hly_15_46 rfl hlk_634 rfl (ty := .int) (v := .int 0) (by decide +kernel) rfl rfl (⟨_, rfl, by omega, by omega⟩) rfl (L1 := [(r0, 16, 58, .ref kr), (kr, 15, 15, .int pf), (kr, 15, 11, .int py), (kr, 15, 17, .ref zf), (kr, 15, 0, .ref zs), (kr, 15, 1, .ref zn), (kr, 15, 2, .ref za), (kr, 15, 3, .ref zb), (kr, 15, 4, .ref zc), (kr, 15, 14, .ref zy)]) [0, 1, 2, 3, 4, 5, 6, 7, 8, 9] rfl rfl rfl dX14_statementOf_106 (fun H_18 locs_18 hh_18 => ?_)
                clear hh_3
                refine lv_aload_n hx hb dX14_statementOf_109 rfl (lv_at hl 0 rfl) ?_
                refine j7_read hx hb hown hK (C := RX14) (T := TX14) (N := 74) rfl hly_16_58 hlk_122 (hh_18.at 1 rfl) dX14_statementOf_110 ?_
                refine lv_aload_n hx hb dX14_statementOf_113 rfl (lv_at hl 0 rfl) ?_
                refine j7_read hx hb hown hK (C := RX14) (T := TX14) (N := 74) rfl hly_16_58 hlk_122 (hh_18.at 1 rfl) dX14_statementOf_114 ?_
                refine j7_readN hx hb hown hK (C := RX13) (T := TX13) (N := 50) rfl hly_15_17 hlk_677 (hh_18.at 4 rfl) dX14_statementOf_117 ?_
                refine lv_iload hx hb dX14_statementOf_120 (lv_at hl 4 rfl) ?_
                refine j7_ialdM hx hb hK hh_18 hB160 1 rfl (by decide) hg_zf (x := v4_1.toInt) (rfl) (by omega) (j := 0) rfl dX14_statementOf_122 (fun z_19 ez_19 (hz_19 : 0 ≤ z_19.toInt ∧ z_19.toInt ≤ 119999) => ?_)
                have hqz_19 : z_19.toInt = jSo ff (v4_1.toInt) := by unfold jSo; rw [ez_19]
                refine va_callv (A0 := jA base) (H0 := s.heap) (va_runV (As := [.int z_19]) (rest := []) ⟨hx, hb, hml, hown, hts⟩ (uX13_printFormula l dC dI ca base B hB hAp hB15 hB101 hB150 hB151 hB152 hB153 hB154 hB155 hB156 hB163 hB164 hB165 hB166 G0 H_18 kr z_19 zs zn za zb zc zy C) (cwV 1 hts (jgV (jWr_72 _ (List.mem_of_getElem? (i := 17) rfl)) (jWr_71 _ (List.mem_of_getElem? (i := 1) rfl)) (jWr_71 _ (List.mem_of_getElem? (i := 2) rfl)) (jWr_12 _ (List.mem_of_getElem? (i := 12) rfl)) (jWr_71 _ (List.mem_of_getElem? (i := 3) rfl))) rfl rfl rfl (by decide +kernel) ⟨by rw [← hR]; exact Nat.le_of_ble_eq_true rfl, by rw [← hR]; exact Nat.le_of_ble_eq_true rfl⟩) ⟨fun a U g mk q => by obtain ⟨q0, q1, q2, qK, q10, q11, q12, q13, q14, q15, q16, q17, q18, q19⟩ := q; exact ⟨q0, q1, q2, jG.calling g mk a qK, q10, q11, q12, q13, q14, q15, q16, q17, q18, q19⟩, hh_18.recv (C := RX13) (T := TX13) (N := 50) hB15 rfl (by decide) hg_kr hK, fun U hU hW => ⟨rfl, hU, hh_18.2.1, hG.step hW hU hh_18.1, hg_kr, hg_zs, hg_zn, hg_za, hg_zb, hg_zc, hg_zy, (hh_18.2.2.1.sub (L1 := [(kr, 15, 0, .ref zs), (kr, 15, 1, .ref zn), (kr, 15, 2, .ref za), (kr, 15, 3, .ref zb), (kr, 15, 4, .ref zc), (kr, 15, 14, .ref zy)]) [5, 6, 7, 8, 9, 10] rfl), (hh_18.2.2.2.2.2.2.2.1.sub (L1 := [(zs, 150, 120000, ca 1, C.s), (zn, 151, 120000, ca 1, C.n), (za, 152, 120000, ca 1, C.a), (zb, 153, 120000, ca 1, C.b), (zc, 154, 120000, ca 1, C.c), (zy, 165, 16, ca 1, C.y)]) [1, 2, 3, 4, 5, 6] rfl), by first | assumption | (rw [hqz_19]; exact (hp0 _ (by omega) (by omega)).1.wide (by omega) (by omega)) | omega⟩⟩ rfl rfl hl.1 rfl (lv_room (Nat.le_of_ble_eq_true rfl)) dX14_statementOf_123 ⟨Nat.zero_le _, Nat.zero_le _⟩) hh_18.1 (fun q _ h => h) (fun q h => h) (fun u_20 t_20 H_20 locs_20 ht_20 hvm_20 hr_21 hb_20 hz_20 hk_20 hS_20 => ?_)
                rw [ht_20] at hb_20
                obtain ⟨hb_201, hb_202, hb_203, hb_204, hb_205⟩ := hb_20
                have hh_20 : jSt (dC, dI) B base G0 G0 EX14_statementOf s.heap 0 0 [(r0, 16, 58, .ref kr), (kr, 15, 15, .int pf), (kr, 15, 11, .int py), (kr, 15, 17, .ref zf), (kr, 15, 0, .ref zs), (kr, 15, 1, .ref zn), (kr, 15, 2, .ref za), (kr, 15, 3, .ref zb), (kr, 15, 4, .ref zc), (kr, 15, 14, .ref zy)] [(zf, 160, 16, ca 1, ff), (zs, 150, 120000, ca 1, C.s), (zn, 151, 120000, ca 1, C.n), (za, 152, 120000, ca 1, C.a), (zb, 153, 120000, ca 1, C.b), (zc, 154, 120000, ca 1, C.c), (zy, 165, 16, ca 1, C.y)] [] H_20 locs_20 := ((hh_18.call hb_201 hb_202 hb_203 hb_204 hS_20 rfl (L1 := [(r0, 16, 58, .ref kr), (kr, 15, 15, .int pf), (kr, 15, 11, .int py), (kr, 15, 17, .ref zf), (kr, 15, 0, .ref zs), (kr, 15, 1, .ref zn), (kr, 15, 2, .ref za), (kr, 15, 3, .ref zb), (kr, 15, 4, .ref zc), (kr, 15, 14, .ref zy)]) [1, 2, 3, 4, 5, 6, 7, 8, 9, 10] rfl rfl (M1 := [(zf, 160, 16, ca 1, ff), (zs, 150, 120000, ca 1, C.s), (zn, 151, 120000, ca 1, C.n), (za, 152, 120000, ca 1, C.a), (zb, 153, 120000, ca 1, C.b), (zc, 154, 120000, ca 1, C.c), (zy, 165, 16, ca 1, C.y)]) [0, 1, 2, 3, 4, 5, 6] rfl rfl (I1 := []) [] rfl rfl).more hb_205)
                clear hh_18 ht_20 hvm_20 hz_20 hk_20 hS_20 hb_201 hb_202 hb_203 hb_204 hb_205
                refine lv_aload_n hx hb dX14_statementOf_126 rfl (lv_at hl 0 rfl) ?_
                refine lv_iconst (v := 0) hx hb dX14_statementOf_127 (by decide) ?_
                refine va_callv (A0 := jA base) (H0 := s.heap) (va_runV (As := [.int 0]) (rest := []) ⟨hx, hb, hml, hown, hts⟩ (uX14_putLine l dC dI ca base B hB hAp hB15 hB16 hB101 G0 H_20 r0 0) (cwV 1 hts (jgV (jWr_70 _ (List.mem_of_getElem? (i := 11) rfl)) (jWr_70 _ (List.mem_of_getElem? (i := 12) rfl)) (jWr_70 _ (List.mem_of_getElem? (i := 13) rfl)) (jWr_1 _ (List.mem_of_getElem? (i := 5) rfl)) (jWr_70 _ (List.mem_of_getElem? (i := 14) rfl))) rfl rfl rfl (by decide +kernel) ⟨by rw [← hR]; exact Nat.le_of_ble_eq_true rfl, by rw [← hR]; exact Nat.le_of_ble_eq_true rfl⟩) ⟨fun a U g mk q => by obtain ⟨q0, q1, q2, qK, q10, q11, q12⟩ := q; exact ⟨q0, q1, q2, jG.calling g mk a qK, q10, q11, q12⟩, hh_20.recv (C := RX14) (T := TX14) (N := 74) hB16 rfl (by decide) hg_r0 hK, fun U hU hW => ⟨rfl, hU, hh_20.2.1, hG.step hW hU hh_20.1, hg_r0, jP.nil, by first | omega | (refine ⟨?_, ?_⟩ <;> (first | omega | rfl | assumption | decide | exact Or.inl rfl | exact Or.inr rfl | (simp only; omega)))⟩⟩ rfl rfl hl.1 rfl (lv_room (Nat.le_of_ble_eq_true rfl)) dX14_statementOf_128 ⟨Nat.zero_le _, Nat.zero_le _⟩) hh_20.1 (fun q _ h => h) (fun q h => h) (fun u_22 t_22 H_22 locs_22 ht_22 hvm_22 hr_23 hb_22 hz_22 hk_22 hS_22 => ?_)
                rw [ht_22] at hb_22
                obtain ⟨hb_221, hb_222, hb_223, hb_224, hb_225⟩ := hb_22
                have hh_22 : jSt (dC, dI) B base G0 G0 EX14_statementOf s.heap 0 0 [(r0, 16, 58, .ref kr), (kr, 15, 15, .int pf), (kr, 15, 11, .int py), (kr, 15, 17, .ref zf), (kr, 15, 0, .ref zs), (kr, 15, 1, .ref zn), (kr, 15, 2, .ref za), (kr, 15, 3, .ref zb), (kr, 15, 4, .ref zc), (kr, 15, 14, .ref zy)] [(zf, 160, 16, ca 1, ff), (zs, 150, 120000, ca 1, C.s), (zn, 151, 120000, ca 1, C.n), (za, 152, 120000, ca 1, C.a), (zb, 153, 120000, ca 1, C.b), (zc, 154, 120000, ca 1, C.c), (zy, 165, 16, ca 1, C.y)] [] H_22 locs_22 := ((hh_20.call hb_221 hb_222 hb_223 hb_224 hS_22 rfl (L1 := [(r0, 16, 58, .ref kr), (kr, 15, 15, .int pf), (kr, 15, 11, .int py), (kr, 15, 17, .ref zf), (kr, 15, 0, .ref zs), (kr, 15, 1, .ref zn), (kr, 15, 2, .ref za), (kr, 15, 3, .ref zb), (kr, 15, 4, .ref zc), (kr, 15, 14, .ref zy)]) [0, 1, 2, 3, 4, 5, 6, 7, 8, 9] rfl rfl (M1 := [(zf, 160, 16, ca 1, ff), (zs, 150, 120000, ca 1, C.s), (zn, 151, 120000, ca 1, C.n), (za, 152, 120000, ca 1, C.a), (zb, 153, 120000, ca 1, C.b), (zc, 154, 120000, ca 1, C.c), (zy, 165, 16, ca 1, C.y)]) [0, 1, 2, 3, 4, 5, 6] rfl rfl (I1 := []) [] rfl rfl).more hb_225)
                clear hh_20 ht_22 hvm_22 hz_22 hk_22 hS_22 hb_221 hb_222 hb_223 hb_224 hb_225
                refine lv_goto (tgt := 163) hx hb dX14_statementOf_131 (by decide) ?_
                rw [hQ]
                exact W.vret hx hb hr (fun t ht hW => ⟨⟨(), rfl, trivial, hh_22.rt (M1 := []) [] rfl ht⟩, by rw [ht]; try exact hh_22.1.1, fun q h9 hq => by rw [ht]; try exact hh_22.1.2.1 q h9 hq⟩) hh_22.1.2.2 dX14_statementOf_163
            · skip
              have c_4' : v6_3.toInt < py.toInt := jb_ge_n (rfl) (rfl) c_4
              refine lv_aload_n hx hb dX14_statementOf_66 rfl (lv_at hl 0 rfl) ?_
              refine lv_aload_n hx hb dX14_statementOf_67 rfl (lv_at hl 0 rfl) ?_
              refine j7_read hx hb hown hK (C := RX14) (T := TX14) (N := 74) rfl hly_16_58 hlk_122 (hh_3.at 0 rfl) dX14_statementOf_68 ?_
              obtain ⟨v_24, hv_24, hh_25⟩ := hh_3.pin (C := RX13) (T := TX13) (N := 50) hB15 rfl (by decide) hg_kr (i := 12) (by decide) rfl
              clear hh_3
              obtain ⟨symbol_26, rfl, hg_symbol_26⟩ := hv_24
              refine j7_readN hx hb hown hK (C := RX13) (T := TX13) (N := 50) rfl hly_15_12 hlk_674 (hh_25.at 0 rfl) dX14_statementOf_71 ?_
              refine lv_iload hx hb dX14_statementOf_74 (lv_at hl 6 rfl) ?_
              refine j7_iald hx hb hK hh_25 hB163 1 rfl (by decide) hg_symbol_26 (x := v6_3.toInt) (rfl) (by omega) dX14_statementOf_76 (fun z_27 (hz_27 : 0 ≤ z_27.toInt ∧ z_27.toInt ≤ 1599) => ?_)
              refine lv_aload_n hx hb dX14_statementOf_77 rfl (lv_at hl 1 rfl) ?_
              refine lv_iload_n hx hb dX14_statementOf_78 rfl (lv_at hl 2 rfl) ?_
              refine lv_iload_n hx hb dX14_statementOf_79 rfl (lv_at hl 3 rfl) ?_
              refine va_calli (A0 := jA base) (H0 := s.heap) (va_runV (As := [.int z_27, .ref r1, .int a2, .int a3]) (rest := []) ⟨hx, hb, hml, hown, hts⟩ (uX14_isNamed l dC dI ca base B hB hAp hB15 hB16 hB101 hB155 hB156 hB166 G0 H_3 r0 z_27 r1 a2 a3 n1) (cwV 4 hts (jgV (jWr_72 _ (List.mem_of_getElem? (i := 13) rfl)) (jWr_72 _ (List.mem_of_getElem? (i := 14) rfl)) (jWr_72 _ (List.mem_of_getElem? (i := 15) rfl)) (jWr_1 _ (List.mem_of_getElem? (i := 5) rfl)) (jWr_72 _ (List.mem_of_getElem? (i := 16) rfl))) rfl rfl rfl (by decide +kernel) ⟨by rw [← hR]; exact Nat.le_of_ble_eq_true rfl, by rw [← hR]; exact Nat.le_of_ble_eq_true rfl⟩) ⟨fun a U g mk q => by obtain ⟨q0, q1, q2, qK, q10, q11, q12, q13⟩ := q; exact ⟨q0, q1, q2, jG.calling g mk a qK, q10, q11, q12, q13⟩, hh_25.recv (C := RX14) (T := TX14) (N := 74) hB16 rfl (by decide) hg_r0 hK, fun U hU hW => ⟨rfl, hU, hh_25.2.1, hG.step hW hU hh_25.1, hg_r1, hg_r0, jP.nil, by first | omega | (refine ⟨?_, ?_, ?_, ?_, ?_⟩ <;> (first | omega | rfl | assumption | decide | exact Or.inl rfl | exact Or.inr rfl | (simp only; omega)))⟩⟩ rfl rfl hl.1 rfl (lv_room (Nat.le_of_ble_eq_true rfl)) dX14_statementOf_80 ⟨Nat.zero_le _, Nat.zero_le _⟩) hh_25.1 (fun q _ h => h) (fun q h => h) (fun r_29 u_28 t_28 H_28 locs_28 ht_28 hvm_28 hr_29 hb_28 hz_28 hk_28 hS_28 => ?_)
              rw [ht_28] at hb_28
              obtain ⟨hb_281, hb_282, hb_283, hb_284, hb_285⟩ := hb_28
              have hh_28 : jSt (dC, dI) B base G0 G0 EX14_statementOf s.heap 0 0 [(kr, 15, 12, .ref symbol_26), (r0, 16, 58, .ref kr), (kr, 15, 15, .int pf), (kr, 15, 11, .int py), (kr, 15, 17, .ref zf), (kr, 15, 0, .ref zs), (kr, 15, 1, .ref zn), (kr, 15, 2, .ref za), (kr, 15, 3, .ref zb), (kr, 15, 4, .ref zc), (kr, 15, 14, .ref zy)] [(zf, 160, 16, ca 1, ff), (zs, 150, 120000, ca 1, C.s), (zn, 151, 120000, ca 1, C.n), (za, 152, 120000, ca 1, C.a), (zb, 153, 120000, ca 1, C.b), (zc, 154, 120000, ca 1, C.c), (zy, 165, 16, ca 1, C.y)] [] H_28 locs_28 := ((hh_25.call hb_281 hb_282 hb_283 hb_284 hS_28 rfl (L1 := [(kr, 15, 12, .ref symbol_26), (r0, 16, 58, .ref kr), (kr, 15, 15, .int pf), (kr, 15, 11, .int py), (kr, 15, 17, .ref zf), (kr, 15, 0, .ref zs), (kr, 15, 1, .ref zn), (kr, 15, 2, .ref za), (kr, 15, 3, .ref zb), (kr, 15, 4, .ref zc), (kr, 15, 14, .ref zy)]) [0, 1, 2, 3, 4, 5, 6, 7, 8, 9, 10] rfl rfl (M1 := [(zf, 160, 16, ca 1, ff), (zs, 150, 120000, ca 1, C.s), (zn, 151, 120000, ca 1, C.n), (za, 152, 120000, ca 1, C.a), (zb, 153, 120000, ca 1, C.b), (zc, 154, 120000, ca 1, C.c), (zy, 165, 16, ca 1, C.y)]) [0, 1, 2, 3, 4, 5, 6] rfl rfl (I1 := []) [] rfl rfl).more hb_285)
              clear hh_25 ht_28 hvm_28 hz_28 hk_28 hS_28 hb_281 hb_282 hb_283 hb_284 hb_285
              obtain ⟨hr_29b, hr_29p⟩ := hr_29
              have hr_29' := jb_01 hr_29b
              refine lv_if_eq (tgt := 90) hx hb dX14_statementOf_83 (by decide) (fun c_30 => ?_) (fun c_30 => ?_)
              · skip
                have c_30' : r_29.toInt = 0 := jb_eq (rfl) ((by decide)) c_30
                obtain ⟨z_31, ez_31⟩ : ∃ y : Int32, y = v6_3 + 1 := ⟨_, rfl⟩
                refine lv_iinc (v := z_31) (lv' := [(6, .int z_31), (0, .ref r0), (1, .ref r1), (2, .int a2), (3, .int a3), (4, .int v4_1), (5, .int v5_3)]) hx hb dX14_statementOf_90 hl (k := 6) rfl (by rw [ez_31]; rfl) (by decide) rfl (fun ls hl => ?_)
                have hz_31 : z_31.toInt = v6_3.toInt + 1 := by rw [ez_31]; exact jb_iadd2 (rfl) (by decide) (by omega)
                refine lv_goto (tgt := 54) hx hb dX14_statementOf_93 (by decide) ?_
                exact L54 v5_3 z_31 _ _ (hh_28.sub (L1 := [(r0, 16, 58, .ref kr), (kr, 15, 15, .int pf), (kr, 15, 11, .int py), (kr, 15, 17, .ref zf), (kr, 15, 0, .ref zs), (kr, 15, 1, .ref zn), (kr, 15, 2, .ref za), (kr, 15, 3, .ref zb), (kr, 15, 4, .ref zc), (kr, 15, 14, .ref zy)]) [1, 2, 3, 4, 5, 6, 7, 8, 9, 10] rfl (M1 := [(zf, 160, 16, ca 1, ff), (zs, 150, 120000, ca 1, C.s), (zn, 151, 120000, ca 1, C.n), (za, 152, 120000, ca 1, C.a), (zb, 153, 120000, ca 1, C.b), (zc, 154, 120000, ca 1, C.c), (zy, 165, 16, ca 1, C.y)]) [0, 1, 2, 3, 4, 5, 6] rfl (I1 := []) [] rfl) (by first | omega | (refine ⟨?_, ?_, ?_, ?_⟩ <;> (first | omega | rfl | assumption | decide | exact Or.inl rfl | exact Or.inr rfl | (simp only; omega)))) (by omega) _ (lv_sub hl [1, 2, 3, 4, 5, 6, 0] rfl)
              · skip
                have c_30' : r_29.toInt ≠ 0 := jb_eq_n (rfl) ((by decide)) c_30
                refine lv_iload hx hb dX14_statementOf_86 (lv_at hl 6 rfl) ?_
                refine lv_istore (lv' := [(5, .int v6_3), (0, .ref r0), (1, .ref r1), (2, .int a2), (3, .int a3), (4, .int v4_1), (6, .int v6_3)]) hx hb dX14_statementOf_88 hl (by decide) rfl (fun ls hl => ?_)
                obtain ⟨z_32, ez_32⟩ : ∃ y : Int32, y = v6_3 + 1 := ⟨_, rfl⟩
                refine lv_iinc (v := z_32) (lv' := [(6, .int z_32), (5, .int v6_3), (0, .ref r0), (1, .ref r1), (2, .int a2), (3, .int a3), (4, .int v4_1)]) hx hb dX14_statementOf_90 hl (k := 6) rfl (by rw [ez_32]; rfl) (by decide) rfl (fun ls hl => ?_)
                have hz_32 : z_32.toInt = v6_3.toInt + 1 := by rw [ez_32]; exact jb_iadd2 (rfl) (by decide) (by omega)
                refine lv_goto (tgt := 54) hx hb dX14_statementOf_93 (by decide) ?_
                exact L54 v6_3 z_32 _ _ (hh_28.sub (L1 := [(r0, 16, 58, .ref kr), (kr, 15, 15, .int pf), (kr, 15, 11, .int py), (kr, 15, 17, .ref zf), (kr, 15, 0, .ref zs), (kr, 15, 1, .ref zn), (kr, 15, 2, .ref za), (kr, 15, 3, .ref zb), (kr, 15, 4, .ref zc), (kr, 15, 14, .ref zy)]) [1, 2, 3, 4, 5, 6, 7, 8, 9, 10] rfl (M1 := [(zf, 160, 16, ca 1, ff), (zs, 150, 120000, ca 1, C.s), (zn, 151, 120000, ca 1, C.n), (za, 152, 120000, ca 1, C.a), (zb, 153, 120000, ca 1, C.b), (zc, 154, 120000, ca 1, C.c), (zy, 165, 16, ca 1, C.y)]) [0, 1, 2, 3, 4, 5, 6] rfl (I1 := []) [] rfl) (by first | omega | (refine ⟨?_, ?_, ?_, ?_⟩ <;> (first | omega | rfl | assumption | decide | exact Or.inl rfl | exact Or.inr rfl | (simp only; omega)))) (by omega) _ (lv_sub hl [2, 3, 4, 5, 6, 1, 0] rfl)
        exact L54 (py.toInt - (0 : Int32).toInt : Int).toNat.succ (-1) 0 _ _ hh_1 (by first | omega | (refine ⟨?_, ?_, ?_, ?_⟩ <;> (first | omega | rfl | assumption | decide | exact Or.inl rfl | exact Or.inr rfl | (simp only; omega)))) (by omega) _ (lv_sub hl [1, 2, 3, 4, 5, 6, 0] rfl)
      · skip
        have c_2' : v6_1.toInt < pf.toInt := jb_ge_n (rfl) (rfl) c_2
        refine lv_aload_n hx hb dX14_statementOf_21 rfl (lv_at hl 0 rfl) ?_
        refine lv_aload_n hx hb dX14_statementOf_22 rfl (lv_at hl 0 rfl) ?_
        refine j7_read hx hb hown hK (C := RX14) (T := TX14) (N := 74) rfl hly_16_58 hlk_122 (hh_1.at 0 rfl) dX14_statementOf_23 ?_
        obtain ⟨v_33, hv_33, hh_34⟩ := hh_1.pin (C := RX13) (T := TX13) (N := 50) hB15 rfl (by decide) hg_kr (i := 16) (by decide) rfl
        clear hh_1
        obtain ⟨factName_35, rfl, hg_factName_35⟩ := hv_33
        refine j7_readN hx hb hown hK (C := RX13) (T := TX13) (N := 50) rfl hly_15_16 hlk_664 (hh_34.at 0 rfl) dX14_statementOf_26 ?_
        refine lv_iload hx hb dX14_statementOf_29 (lv_at hl 6 rfl) ?_
        refine j7_iald hx hb hK hh_34 hB163 1 rfl (by decide) hg_factName_35 (x := v6_1.toInt) (rfl) (by omega) dX14_statementOf_31 (fun z_36 (hz_36 : 0 ≤ z_36.toInt ∧ z_36.toInt ≤ 1599) => ?_)
        refine lv_aload_n hx hb dX14_statementOf_32 rfl (lv_at hl 1 rfl) ?_
        refine lv_iload_n hx hb dX14_statementOf_33 rfl (lv_at hl 2 rfl) ?_
        refine lv_iload_n hx hb dX14_statementOf_34 rfl (lv_at hl 3 rfl) ?_
        refine va_calli (A0 := jA base) (H0 := s.heap) (va_runV (As := [.int z_36, .ref r1, .int a2, .int a3]) (rest := []) ⟨hx, hb, hml, hown, hts⟩ (uX14_isNamed l dC dI ca base B hB hAp hB15 hB16 hB101 hB155 hB156 hB166 G0 H_1 r0 z_36 r1 a2 a3 n1) (cwV 4 hts (jgV (jWr_72 _ (List.mem_of_getElem? (i := 13) rfl)) (jWr_72 _ (List.mem_of_getElem? (i := 14) rfl)) (jWr_72 _ (List.mem_of_getElem? (i := 15) rfl)) (jWr_1 _ (List.mem_of_getElem? (i := 5) rfl)) (jWr_72 _ (List.mem_of_getElem? (i := 16) rfl))) rfl rfl rfl (by decide +kernel) ⟨by rw [← hR]; exact Nat.le_of_ble_eq_true rfl, by rw [← hR]; exact Nat.le_of_ble_eq_true rfl⟩) ⟨fun a U g mk q => by obtain ⟨q0, q1, q2, qK, q10, q11, q12, q13⟩ := q; exact ⟨q0, q1, q2, jG.calling g mk a qK, q10, q11, q12, q13⟩, hh_34.recv (C := RX14) (T := TX14) (N := 74) hB16 rfl (by decide) hg_r0 hK, fun U hU hW => ⟨rfl, hU, hh_34.2.1, hG.step hW hU hh_34.1, hg_r1, hg_r0, jP.nil, by first | omega | (refine ⟨?_, ?_, ?_, ?_, ?_⟩ <;> (first | omega | rfl | assumption | decide | exact Or.inl rfl | exact Or.inr rfl | (simp only; omega)))⟩⟩ rfl rfl hl.1 rfl (lv_room (Nat.le_of_ble_eq_true rfl)) dX14_statementOf_35 ⟨Nat.zero_le _, Nat.zero_le _⟩) hh_34.1 (fun q _ h => h) (fun q h => h) (fun r_38 u_37 t_37 H_37 locs_37 ht_37 hvm_37 hr_38 hb_37 hz_37 hk_37 hS_37 => ?_)
        rw [ht_37] at hb_37
        obtain ⟨hb_371, hb_372, hb_373, hb_374, hb_375⟩ := hb_37
        have hh_37 : jSt (dC, dI) B base G0 G0 EX14_statementOf s.heap 0 0 [(kr, 15, 16, .ref factName_35), (r0, 16, 58, .ref kr), (kr, 15, 15, .int pf), (kr, 15, 11, .int py), (kr, 15, 17, .ref zf), (kr, 15, 0, .ref zs), (kr, 15, 1, .ref zn), (kr, 15, 2, .ref za), (kr, 15, 3, .ref zb), (kr, 15, 4, .ref zc), (kr, 15, 14, .ref zy)] [(zf, 160, 16, ca 1, ff), (zs, 150, 120000, ca 1, C.s), (zn, 151, 120000, ca 1, C.n), (za, 152, 120000, ca 1, C.a), (zb, 153, 120000, ca 1, C.b), (zc, 154, 120000, ca 1, C.c), (zy, 165, 16, ca 1, C.y)] [] H_37 locs_37 := ((hh_34.call hb_371 hb_372 hb_373 hb_374 hS_37 rfl (L1 := [(kr, 15, 16, .ref factName_35), (r0, 16, 58, .ref kr), (kr, 15, 15, .int pf), (kr, 15, 11, .int py), (kr, 15, 17, .ref zf), (kr, 15, 0, .ref zs), (kr, 15, 1, .ref zn), (kr, 15, 2, .ref za), (kr, 15, 3, .ref zb), (kr, 15, 4, .ref zc), (kr, 15, 14, .ref zy)]) [0, 1, 2, 3, 4, 5, 6, 7, 8, 9, 10] rfl rfl (M1 := [(zf, 160, 16, ca 1, ff), (zs, 150, 120000, ca 1, C.s), (zn, 151, 120000, ca 1, C.n), (za, 152, 120000, ca 1, C.a), (zb, 153, 120000, ca 1, C.b), (zc, 154, 120000, ca 1, C.c), (zy, 165, 16, ca 1, C.y)]) [0, 1, 2, 3, 4, 5, 6] rfl rfl (I1 := []) [] rfl rfl).more hb_375)
        clear hh_34 ht_37 hvm_37 hz_37 hk_37 hS_37 hb_371 hb_372 hb_373 hb_374 hb_375
        obtain ⟨hr_38b, hr_38p⟩ := hr_38
        have hr_38' := jb_01 hr_38b
        refine lv_if_eq (tgt := 45) hx hb dX14_statementOf_38 (by decide) (fun c_39 => ?_) (fun c_39 => ?_)
        · skip
          have c_39' : r_38.toInt = 0 := jb_eq (rfl) ((by decide)) c_39
          obtain ⟨z_40, ez_40⟩ : ∃ y : Int32, y = v6_1 + 1 := ⟨_, rfl⟩
          refine lv_iinc (v := z_40) (lv' := [(6, .int z_40), (0, .ref r0), (1, .ref r1), (2, .int a2), (3, .int a3), (4, .int v4_1), (5, .int (-1))]) hx hb dX14_statementOf_45 hl (k := 6) rfl (by rw [ez_40]; rfl) (by decide) rfl (fun ls hl => ?_)
          have hz_40 : z_40.toInt = v6_1.toInt + 1 := by rw [ez_40]; exact jb_iadd2 (rfl) (by decide) (by omega)
          refine lv_goto (tgt := 9) hx hb dX14_statementOf_48 (by decide) ?_
          exact L9 v4_1 z_40 _ _ (hh_37.sub (L1 := [(r0, 16, 58, .ref kr), (kr, 15, 15, .int pf), (kr, 15, 11, .int py), (kr, 15, 17, .ref zf), (kr, 15, 0, .ref zs), (kr, 15, 1, .ref zn), (kr, 15, 2, .ref za), (kr, 15, 3, .ref zb), (kr, 15, 4, .ref zc), (kr, 15, 14, .ref zy)]) [1, 2, 3, 4, 5, 6, 7, 8, 9, 10] rfl (M1 := [(zf, 160, 16, ca 1, ff), (zs, 150, 120000, ca 1, C.s), (zn, 151, 120000, ca 1, C.n), (za, 152, 120000, ca 1, C.a), (zb, 153, 120000, ca 1, C.b), (zc, 154, 120000, ca 1, C.c), (zy, 165, 16, ca 1, C.y)]) [0, 1, 2, 3, 4, 5, 6] rfl (I1 := []) [] rfl) (by first | omega | (refine ⟨?_, ?_, ?_, ?_⟩ <;> (first | omega | rfl | assumption | decide | exact Or.inl rfl | exact Or.inr rfl | (simp only; omega)))) (by omega) _ (lv_sub hl [1, 2, 3, 4, 5, 6, 0] rfl)
        · skip
          have c_39' : r_38.toInt ≠ 0 := jb_eq_n (rfl) ((by decide)) c_39
          refine lv_iload hx hb dX14_statementOf_41 (lv_at hl 6 rfl) ?_
          refine lv_istore (lv' := [(4, .int v6_1), (0, .ref r0), (1, .ref r1), (2, .int a2), (3, .int a3), (5, .int (-1)), (6, .int v6_1)]) hx hb dX14_statementOf_43 hl (by decide) rfl (fun ls hl => ?_)
          obtain ⟨z_41, ez_41⟩ : ∃ y : Int32, y = v6_1 + 1 := ⟨_, rfl⟩
          refine lv_iinc (v := z_41) (lv' := [(6, .int z_41), (4, .int v6_1), (0, .ref r0), (1, .ref r1), (2, .int a2), (3, .int a3), (5, .int (-1))]) hx hb dX14_statementOf_45 hl (k := 6) rfl (by rw [ez_41]; rfl) (by decide) rfl (fun ls hl => ?_)
          have hz_41 : z_41.toInt = v6_1.toInt + 1 := by rw [ez_41]; exact jb_iadd2 (rfl) (by decide) (by omega)
          refine lv_goto (tgt := 9) hx hb dX14_statementOf_48 (by decide) ?_
          exact L9 v6_1 z_41 _ _ (hh_37.sub (L1 := [(r0, 16, 58, .ref kr), (kr, 15, 15, .int pf), (kr, 15, 11, .int py), (kr, 15, 17, .ref zf), (kr, 15, 0, .ref zs), (kr, 15, 1, .ref zn), (kr, 15, 2, .ref za), (kr, 15, 3, .ref zb), (kr, 15, 4, .ref zc), (kr, 15, 14, .ref zy)]) [1, 2, 3, 4, 5, 6, 7, 8, 9, 10] rfl (M1 := [(zf, 160, 16, ca 1, ff), (zs, 150, 120000, ca 1, C.s), (zn, 151, 120000, ca 1, C.n), (za, 152, 120000, ca 1, C.a), (zb, 153, 120000, ca 1, C.b), (zc, 154, 120000, ca 1, C.c), (zy, 165, 16, ca 1, C.y)]) [0, 1, 2, 3, 4, 5, 6] rfl (I1 := []) [] rfl) (by first | omega | (refine ⟨?_, ?_, ?_, ?_⟩ <;> (first | omega | rfl | assumption | decide | exact Or.inl rfl | exact Or.inr rfl | (simp only; omega)))) (by omega) _ (lv_sub hl [2, 3, 4, 5, 1, 6, 0] rfl)
  exact L9 (pf.toInt - (0 : Int32).toInt : Int).toNat.succ (-1) 0 _ _ hh (by first | omega | (refine ⟨?_, ?_, ?_, ?_⟩ <;> (first | omega | rfl | assumption | decide | exact Or.inl rfl | exact Or.inr rfl | (simp only; omega)))) (by omega) _ (lv_sub hl [3, 4, 5, 6, 2, 1, 0] rfl)
end
section
theorem dX14_isIdOf_0 : decode cX14_isIdOf 0 = .ok (.aload_n 0, 1) := by decide +kernel
theorem dX14_isIdOf_1 : decode cX14_isIdOf 1 = .ok (.getfield 100, 3) := by decide +kernel
theorem dX14_isIdOf_4 : decode cX14_isIdOf 4 = .ok (.iload_n 1, 1) := by decide +kernel
theorem dX14_isIdOf_5 : decode cX14_isIdOf 5 = .ok (.baload, 1) := by decide +kernel
theorem dX14_isIdOf_6 : decode cX14_isIdOf 6 = .ok (.aload_n 0, 1) := by decide +kernel
theorem dX14_isIdOf_7 : decode cX14_isIdOf 7 = .ok (.getfield 37, 3) := by decide +kernel
theorem dX14_isIdOf_10 : decode cX14_isIdOf 10 = .ok (.iload_n 2, 1) := by decide +kernel
theorem dX14_isIdOf_11 : decode cX14_isIdOf 11 = .ok (.iaload, 1) := by decide +kernel
theorem dX14_isIdOf_12 : decode cX14_isIdOf 12 = .ok (.iconst 4, 1) := by decide +kernel
theorem dX14_isIdOf_13 : decode cX14_isIdOf 13 = .ok (.if_icmp .ne 7, 3) := by decide +kernel
theorem dX14_isIdOf_16 : decode cX14_isIdOf 16 = .ok (.iconst 1, 1) := by decide +kernel
theorem dX14_isIdOf_17 : decode cX14_isIdOf 17 = .ok (.goto 4, 3) := by decide +kernel
theorem dX14_isIdOf_20 : decode cX14_isIdOf 20 = .ok (.iconst 0, 1) := by decide +kernel
theorem dX14_isIdOf_21 : decode cX14_isIdOf 21 = .ok (.if_icmp .eq 5, 3) := by decide +kernel
theorem dX14_isIdOf_24 : decode cX14_isIdOf 24 = .ok (.iconst 0, 1) := by decide +kernel
theorem dX14_isIdOf_25 : decode cX14_isIdOf 25 = .ok (.ireturn, 1) := by decide +kernel
theorem dX14_isIdOf_26 : decode cX14_isIdOf 26 = .ok (.aload_n 0, 1) := by decide +kernel
theorem dX14_isIdOf_27 : decode cX14_isIdOf 27 = .ok (.getfield 100, 3) := by decide +kernel
theorem dX14_isIdOf_30 : decode cX14_isIdOf 30 = .ok (.iload_n 1, 1) := by decide +kernel
theorem dX14_isIdOf_31 : decode cX14_isIdOf 31 = .ok (.baload, 1) := by decide +kernel
theorem dX14_isIdOf_32 : decode cX14_isIdOf 32 = .ok (.ifCond .ne 24, 3) := by decide +kernel
theorem dX14_isIdOf_35 : decode cX14_isIdOf 35 = .ok (.aload_n 0, 1) := by decide +kernel
theorem dX14_isIdOf_36 : decode cX14_isIdOf 36 = .ok (.getfield 103, 3) := by decide +kernel
theorem dX14_isIdOf_39 : decode cX14_isIdOf 39 = .ok (.iload_n 1, 1) := by decide +kernel
theorem dX14_isIdOf_40 : decode cX14_isIdOf 40 = .ok (.iaload, 1) := by decide +kernel
theorem dX14_isIdOf_41 : decode cX14_isIdOf 41 = .ok (.aload_n 0, 1) := by decide +kernel
theorem dX14_isIdOf_42 : decode cX14_isIdOf 42 = .ok (.getfield 62, 3) := by decide +kernel
theorem dX14_isIdOf_45 : decode cX14_isIdOf 45 = .ok (.iload_n 2, 1) := by decide +kernel
theorem dX14_isIdOf_46 : decode cX14_isIdOf 46 = .ok (.iaload, 1) := by decide +kernel
theorem dX14_isIdOf_47 : decode cX14_isIdOf 47 = .ok (.if_icmp .ne 7, 3) := by decide +kernel
theorem dX14_isIdOf_50 : decode cX14_isIdOf 50 = .ok (.iconst 1, 1) := by decide +kernel
theorem dX14_isIdOf_51 : decode cX14_isIdOf 51 = .ok (.goto 4, 3) := by decide +kernel
theorem dX14_isIdOf_54 : decode cX14_isIdOf 54 = .ok (.iconst 0, 1) := by decide +kernel
theorem dX14_isIdOf_55 : decode cX14_isIdOf 55 = .ok (.ireturn, 1) := by decide +kernel
theorem dX14_isIdOf_56 : decode cX14_isIdOf 56 = .ok (.aload_n 0, 1) := by decide +kernel
theorem dX14_isIdOf_57 : decode cX14_isIdOf 57 = .ok (.getfield 109, 3) := by decide +kernel
theorem dX14_isIdOf_60 : decode cX14_isIdOf 60 = .ok (.iload_n 1, 1) := by decide +kernel
theorem dX14_isIdOf_61 : decode cX14_isIdOf 61 = .ok (.iaload, 1) := by decide +kernel
theorem dX14_isIdOf_62 : decode cX14_isIdOf 62 = .ok (.aload_n 0, 1) := by decide +kernel
theorem dX14_isIdOf_63 : decode cX14_isIdOf 63 = .ok (.getfield 55, 3) := by decide +kernel
theorem dX14_isIdOf_66 : decode cX14_isIdOf 66 = .ok (.iload_n 2, 1) := by decide +kernel
theorem dX14_isIdOf_67 : decode cX14_isIdOf 67 = .ok (.iaload, 1) := by decide +kernel
theorem dX14_isIdOf_68 : decode cX14_isIdOf 68 = .ok (.aload_n 0, 1) := by decide +kernel
theorem dX14_isIdOf_69 : decode cX14_isIdOf 69 = .ok (.getfield 52, 3) := by decide +kernel
theorem dX14_isIdOf_72 : decode cX14_isIdOf 72 = .ok (.iload_n 2, 1) := by decide +kernel
theorem dX14_isIdOf_73 : decode cX14_isIdOf 73 = .ok (.iaload, 1) := by decide +kernel
theorem dX14_isIdOf_74 : decode cX14_isIdOf 74 = .ok (.isub, 1) := by decide +kernel
theorem dX14_isIdOf_75 : decode cX14_isIdOf 75 = .ok (.if_icmp .ne 7, 3) := by decide +kernel
theorem dX14_isIdOf_78 : decode cX14_isIdOf 78 = .ok (.iconst 1, 1) := by decide +kernel
theorem dX14_isIdOf_79 : decode cX14_isIdOf 79 = .ok (.goto 4, 3) := by decide +kernel
theorem dX14_isIdOf_82 : decode cX14_isIdOf 82 = .ok (.iconst 0, 1) := by decide +kernel
theorem dX14_isIdOf_83 : decode cX14_isIdOf 83 = .ok (.istore_n 3, 1) := by decide +kernel
theorem dX14_isIdOf_84 : decode cX14_isIdOf 84 = .ok (.iconst 0, 1) := by decide +kernel
theorem dX14_isIdOf_85 : decode cX14_isIdOf 85 = .ok (.istore 4, 2) := by decide +kernel
theorem dX14_isIdOf_87 : decode cX14_isIdOf 87 = .ok (.iload 4, 2) := by decide +kernel
theorem dX14_isIdOf_89 : decode cX14_isIdOf 89 = .ok (.aload_n 0, 1) := by decide +kernel
theorem dX14_isIdOf_90 : decode cX14_isIdOf 90 = .ok (.getfield 109, 3) := by decide +kernel
theorem dX14_isIdOf_93 : decode cX14_isIdOf 93 = .ok (.iload_n 1, 1) := by decide +kernel
theorem dX14_isIdOf_94 : decode cX14_isIdOf 94 = .ok (.iaload, 1) := by decide +kernel
theorem dX14_isIdOf_95 : decode cX14_isIdOf 95 = .ok (.if_icmp .ge 48, 3) := by decide +kernel
theorem dX14_isIdOf_98 : decode cX14_isIdOf 98 = .ok (.iload_n 3, 1) := by decide +kernel
theorem dX14_isIdOf_99 : decode cX14_isIdOf 99 = .ok (.ifCond .eq 44, 3) := by decide +kernel
theorem dX14_isIdOf_102 : decode cX14_isIdOf 102 = .ok (.aload_n 0, 1) := by decide +kernel
theorem dX14_isIdOf_103 : decode cX14_isIdOf 103 = .ok (.getfield 106, 3) := by decide +kernel
theorem dX14_isIdOf_106 : decode cX14_isIdOf 106 = .ok (.bipush 20, 2) := by decide +kernel
theorem dX14_isIdOf_108 : decode cX14_isIdOf 108 = .ok (.iload_n 1, 1) := by decide +kernel
theorem dX14_isIdOf_109 : decode cX14_isIdOf 109 = .ok (.imul, 1) := by decide +kernel
theorem dX14_isIdOf_110 : decode cX14_isIdOf 110 = .ok (.iload 4, 2) := by decide +kernel
theorem dX14_isIdOf_112 : decode cX14_isIdOf 112 = .ok (.iadd, 1) := by decide +kernel
theorem dX14_isIdOf_113 : decode cX14_isIdOf 113 = .ok (.iaload, 1) := by decide +kernel
theorem dX14_isIdOf_114 : decode cX14_isIdOf 114 = .ok (.aload_n 0, 1) := by decide +kernel
theorem dX14_isIdOf_115 : decode cX14_isIdOf 115 = .ok (.getfield 65, 3) := by decide +kernel
theorem dX14_isIdOf_118 : decode cX14_isIdOf 118 = .ok (.aload_n 0, 1) := by decide +kernel
theorem dX14_isIdOf_119 : decode cX14_isIdOf 119 = .ok (.getfield 52, 3) := by decide +kernel
theorem dX14_isIdOf_122 : decode cX14_isIdOf 122 = .ok (.iload_n 2, 1) := by decide +kernel
theorem dX14_isIdOf_123 : decode cX14_isIdOf 123 = .ok (.iaload, 1) := by decide +kernel
theorem dX14_isIdOf_124 : decode cX14_isIdOf 124 = .ok (.iload 4, 2) := by decide +kernel
theorem dX14_isIdOf_126 : decode cX14_isIdOf 126 = .ok (.iadd, 1) := by decide +kernel
theorem dX14_isIdOf_127 : decode cX14_isIdOf 127 = .ok (.iaload, 1) := by decide +kernel
theorem dX14_isIdOf_128 : decode cX14_isIdOf 128 = .ok (.if_icmp .ne 7, 3) := by decide +kernel
theorem dX14_isIdOf_131 : decode cX14_isIdOf 131 = .ok (.iconst 1, 1) := by decide +kernel
theorem dX14_isIdOf_132 : decode cX14_isIdOf 132 = .ok (.goto 4, 3) := by decide +kernel
theorem dX14_isIdOf_135 : decode cX14_isIdOf 135 = .ok (.iconst 0, 1) := by decide +kernel
theorem dX14_isIdOf_136 : decode cX14_isIdOf 136 = .ok (.istore_n 3, 1) := by decide +kernel
theorem dX14_isIdOf_137 : decode cX14_isIdOf 137 = .ok (.iinc 4 1, 3) := by decide +kernel
theorem dX14_isIdOf_140 : decode cX14_isIdOf 140 = .ok (.goto (-53), 3) := by decide +kernel
theorem dX14_isIdOf_143 : decode cX14_isIdOf 143 = .ok (.iload_n 3, 1) := by decide +kernel
theorem dX14_isIdOf_144 : decode cX14_isIdOf 144 = .ok (.ireturn, 1) := by decide +kernel
theorem dJ1_canEncode_fc78d_0 : decode cJ1_canEncode_fc78d 0 = .ok (.iload_n 0, 1) := by decide +kernel
theorem dJ1_canEncode_fc78d_1 : decode cJ1_canEncode_fc78d 1 = .ok (.sipush 255, 3) := by decide +kernel
theorem dJ1_canEncode_fc78d_4 : decode cJ1_canEncode_fc78d 4 = .ok (.if_icmp .gt 7, 3) := by decide +kernel
theorem dJ1_canEncode_fc78d_7 : decode cJ1_canEncode_fc78d 7 = .ok (.iconst 1, 1) := by decide +kernel
theorem dJ1_canEncode_fc78d_8 : decode cJ1_canEncode_fc78d 8 = .ok (.goto 4, 3) := by decide +kernel
theorem dJ1_canEncode_fc78d_11 : decode cJ1_canEncode_fc78d 11 = .ok (.iconst 0, 1) := by decide +kernel
theorem dJ1_canEncode_fc78d_12 : decode cJ1_canEncode_fc78d 12 = .ok (.ireturn, 1) := by decide +kernel
def EX14_isIdOf : List (Nat × Nat) := []
set_option maxHeartbeats 4000000 in
set_option maxRecDepth 20000 in
theorem uX14_isIdOf (l : Launch) (dC : Nat → ClassId) (dI : Nat → Nat → Nat) (ca : Nat → ClassId) (base : Nat) (B : jF) (hB : jBok B) (hAp : jAp (dC, dI)) (hB16 : ∀ n G a H, B 16 n G a H ↔ jOb (dC, dI) 16 74 (F16 n G) a H) (hB101 : ∀ n G a H, B 101 n G a H ↔ jAr (dC, dI) (ca 1) (fun j z => True) n a H) (hB103 : ∀ n G a H, B 103 n G a H ↔ jAr (dC, dI) (ca 3) (fun j z => (z = 0 ∨ z = 1)) n a H) (hB117 : ∀ n G a H, B 117 n G a H ↔ jAr (dC, dI) (ca 1) (fun j z => True) n a H) (hB122 : ∀ n G a H, B 122 n G a H ↔ jAr (dC, dI) (ca 1) (fun j z => 0 ≤ z.toInt ∧ z.toInt ≤ 3100) n a H) (hB123 : ∀ n G a H, B 123 n G a H ↔ jAr (dC, dI) (ca 1) (fun j z => 0 ≤ z.toInt ∧ z.toInt ≤ 3100) n a H) (hB125 : ∀ n G a H, B 125 n G a H ↔ jAr (dC, dI) (ca 1) (fun j z => True) n a H) (hB127 : ∀ n G a H, B 127 n G a H ↔ jAr (dC, dI) (ca 1) (fun j z => True) n a H) (hB203 : ∀ n G a H, B 203 n G a H ↔ jAr (dC, dI) (ca 1) (fun j z => -3300 ≤ z.toInt ∧ z.toInt ≤ 20) n a H) (G0 : jT) (H0 : Heap) (r0 : Nat) (a1 : Int32) (a2 : Int32) (xb : Nat) (xe : Nat) (zw : Nat) (fb : Nat → Int32) (fe : Nat → Int32) (fl : Nat → Int32) : Met l yX14_isIdOf (jw yX14_isIdOf cX14_isIdOf 5 (some .boolean)) ({ frames := 0, cells := 0, slots := 0, locals := 0 }) (va_Pc [.ref r0, .int a1, .int a2] (fun U => U.heap = H0 ∧ jX B base G0 [] H0 ∧ jG dC dI ca base U ∧ G0 r0 = some (16, 0) ∧ G0 xb = some (122, 3100) ∧ G0 xe = some (123, 3100) ∧ G0 zw = some (203, 12) ∧ jP (dC, dI) G0 H0 [(r0, 16, 22, .ref xb), (r0, 16, 23, .ref xe), (r0, 16, 55, .ref zw)] ∧ jMc (dC, dI) G0 H0 [(xb, 122, 3100, ca 1, fb), (xe, 123, 3100, ca 1, fe), (zw, 203, 12, ca 1, fl)] ∧ 0 ≤ a1.toInt ∧ a1.toInt ≤ 11 ∧ 0 ≤ a2.toInt ∧ a2.toInt ≤ 3099)) (va_Qi (S := Unit) (fun r u => (r = 0 ∨ r = 1) ∧ (0 ≤ r.toInt ∧ r.toInt ≤ 1)) (fun u t => jRt (dC, dI) B base G0 EX14_isIdOf H0 [] t.heap) (jA base)) 0 0 (jA base) := by
  refine Met.ofW (cc := cX14_isIdOf) (maxL := 5) (ret := (some .boolean)) (by decide) rfl ?_
  intro p e s m args below meth c s₁ Bd hml hv
  obtain ⟨rfl, hH0, hX, hG, hg_r0, hg_xb, hg_xe, hg_zw, hP0, hM0, hp0, hp1, hp2, hp3⟩ := hv
  have hK := hG.1
  have hx := Bd.exec
  have hb := Bd.bytes
  have hr := Bd.returns
  have hts := atoms_spec (ws := (jw yX14_isIdOf cX14_isIdOf 5 (some .boolean))) Bd.pre
  have htw : ∀ w ∈ jWl, w.before _ s = true := fun w h => hts w (List.mem_cons_of_mem _ h)
  have hown : s.vm.findClass RX14 = some m.cls := findClass_of_methodNamed Bd.named
  have hlocks := Bd.notSynchronized
  obtain ⟨Q, hQ⟩ : ∃ Q, Q = MQ below (va_Qi (S := Unit) (fun r u => (r = 0 ∨ r = 1) ∧ (0 ≤ r.toInt ∧ r.toInt ≤ 1)) (fun u t => jRt (dC, dI) B base G0 EX14_isIdOf H0 [] t.heap) (jA base)) ([.ref r0, .int a1, .int a2] : List Value).toArray s 0 0 (jA base) := ⟨_, rfl⟩
  rw [← hQ]
  have hl := lv_entry ([.ref r0, .int a1, .int a2]) (n := 5) (Nat.le_of_ble_eq_true rfl)
  rw [lg_entry_eq]
  generalize (lg_sl ([.ref r0, .int a1, .int a2]) ++ List.replicate (5 - (lg_sl ([.ref r0, .int a1, .int a2])).length) Slot.unset).toArray = ls at hl ⊢
  have hl : lv_has ls 5 [(0, .ref r0), (1, .int a1), (2, .int a2)] := hl
  generalize hR : (headSpec (jw yX14_isIdOf cX14_isIdOf 5 (some .boolean)) ({ frames := 0, cells := 0, slots := 0, locals := 0 })).room = R
  subst hH0
  have hh : jSt (dC, dI) B base G0 G0 EX14_isIdOf s.heap 0 0 [(r0, 16, 22, .ref xb), (r0, 16, 23, .ref xe), (r0, 16, 55, .ref zw)] [(xb, 122, 3100, ca 1, fb), (xe, 123, 3100, ca 1, fe), (zw, 203, 12, ca 1, fl)] [] s.heap [] := jSt.start hX hP0 hM0 jIs.nil
  clear hX hP0
  have hk0 : (0 : Int32).toInt = 0 := by decide
  have hk1 : (1 : Int32).toInt = 1 := by decide
  have hk4 : (4 : Int32).toInt = 4 := by decide
  have hk20 : (20 : Int32).toInt = 20 := by decide
  have hly_16_17 := htw (u_lay RX14 TX14 17) (jWc_wsX140 _ (u_in_lay (by decide)))
  have hly_16_22 := htw (u_lay RX14 TX14 22) (jWc_wsX140 _ (u_in_lay (by decide)))
  have hly_16_23 := htw (u_lay RX14 TX14 23) (jWc_wsX140 _ (u_in_lay (by decide)))
  have hly_16_25 := htw (u_lay RX14 TX14 25) (jWc_wsX140 _ (u_in_lay (by decide)))
  have hly_16_27 := htw (u_lay RX14 TX14 27) (jWc_wsX140 _ (u_in_lay (by decide)))
  have hly_16_52 := htw (u_lay RX14 TX14 52) (jWc_wsX140 _ (u_in_lay (by decide)))
  have hly_16_53 := htw (u_lay RX14 TX14 53) (jWc_wsX140 _ (u_in_lay (by decide)))
  have hly_16_54 := htw (u_lay RX14 TX14 54) (jWc_wsX140 _ (u_in_lay (by decide)))
  have hly_16_55 := htw (u_lay RX14 TX14 55) (jWc_wsX140 _ (u_in_lay (by decide)))
  have hlk_100 := (htw (.fieldLink RX14 100 "ProofServerModel" "waitString" "[Z") (jWr_12 _ (List.mem_of_getElem? (i := 3) rfl)))
  have hlk_37 := (htw (.fieldLink RX14 37 "ProofServerModel" "sort" "[I") (jWr_11 _ (List.mem_of_getElem? (i := 4) rfl)))
  have hlk_103 := (htw (.fieldLink RX14 103 "ProofServerModel" "waitInt" "[I") (jWr_12 _ (List.mem_of_getElem? (i := 4) rfl)))
  have hlk_62 := (htw (.fieldLink RX14 62 "ProofServerModel" "ints" "[I") (jWr_11 _ (List.mem_of_getElem? (i := 13) rfl)))
  have hlk_109 := (htw (.fieldLink RX14 109 "ProofServerModel" "waitLength" "[I") (jWr_12 _ (List.mem_of_getElem? (i := 6) rfl)))
  have hlk_55 := (htw (.fieldLink RX14 55 "ProofServerModel" "to" "[I") (jWr_11 _ (List.mem_of_getElem? (i := 10) rfl)))
  have hlk_52 := (htw (.fieldLink RX14 52 "ProofServerModel" "from" "[I") (jWr_11 _ (List.mem_of_getElem? (i := 9) rfl)))
  have hlk_106 := (htw (.fieldLink RX14 106 "ProofServerModel" "waitUnits" "[I") (jWr_12 _ (List.mem_of_getElem? (i := 5) rfl)))
  have hlk_65 := (htw (.fieldLink RX14 65 "ProofServerModel" "pool" "[I") (jWr_11 _ (List.mem_of_getElem? (i := 14) rfl)))
  have hrg_a1 := jb_rng a1
  have hrg_a2 := jb_rng a2
  refine lv_aload_n hx hb dX14_isIdOf_0 rfl (lv_at hl 0 rfl) ?_
  obtain ⟨v_1, hv_1, hh_2⟩ := hh.pin (C := RX14) (T := TX14) (N := 74) hB16 rfl (by decide) hg_r0 (i := 52) (by decide) rfl
  clear hh
  obtain ⟨waitString_3, rfl, hg_waitString_3⟩ := hv_1
  refine j7_read hx hb hown hK (C := RX14) (T := TX14) (N := 74) rfl hly_16_52 hlk_100 (hh_2.at 0 rfl) dX14_isIdOf_1 ?_
  refine lv_iload_n hx hb dX14_isIdOf_4 rfl (lv_at hl 1 rfl) ?_
  refine j7_zald hx hb hK hh_2 hB103 3 rfl (by decide) hg_waitString_3 (x := a1.toInt) (rfl) (by omega) dX14_isIdOf_5 (fun z_4 (hz_4 : (z_4 = 0 ∨ z_4 = 1)) => ?_)
  have hz_4' := jb_01 hz_4
  refine lv_aload_n hx hb dX14_isIdOf_6 rfl (lv_at hl 0 rfl) ?_
  obtain ⟨v_5, hv_5, hh_6⟩ := hh_2.pin (C := RX14) (T := TX14) (N := 74) hB16 rfl (by decide) hg_r0 (i := 17) (by decide) rfl
  clear hh_2
  obtain ⟨sort_7, rfl, hg_sort_7⟩ := hv_5
  refine j7_read hx hb hown hK (C := RX14) (T := TX14) (N := 74) rfl hly_16_17 hlk_37 (hh_6.at 0 rfl) dX14_isIdOf_7 ?_
  refine lv_iload_n hx hb dX14_isIdOf_10 rfl (lv_at hl 2 rfl) ?_
  refine j7_iald hx hb hK hh_6 hB117 1 rfl (by decide) hg_sort_7 (x := a2.toInt) (rfl) (by omega) dX14_isIdOf_11 (fun z_8 (hz_8 : True) => ?_)
  refine lv_iconst (v := 4) hx hb dX14_isIdOf_12 (by decide) ?_
  refine lv_icmp_ne (tgt := 20) hx hb dX14_isIdOf_13 (by decide) (fun c_9 => ?_) (fun c_9 => ?_)
  · skip
    have c_9' : z_8.toInt ≠ 4 := jb_ne (rfl) ((by decide)) c_9
    refine lv_iconst (v := 0) hx hb dX14_isIdOf_20 (by decide) ?_
    refine lv_icmp_eq (tgt := 26) hx hb dX14_isIdOf_21 (by decide) (fun c_10 => ?_) (fun c_10 => ?_)
    · skip
      have c_10' : z_4.toInt = 0 := jb_eq (rfl) ((by decide)) c_10
      refine lv_aload_n hx hb dX14_isIdOf_26 rfl (lv_at hl 0 rfl) ?_
      refine j7_read hx hb hown hK (C := RX14) (T := TX14) (N := 74) rfl hly_16_52 hlk_100 (hh_6.at 1 rfl) dX14_isIdOf_27 ?_
      refine lv_iload_n hx hb dX14_isIdOf_30 rfl (lv_at hl 1 rfl) ?_
      refine j7_zald hx hb hK hh_6 hB103 3 rfl (by decide) hg_waitString_3 (x := a1.toInt) (rfl) (by omega) dX14_isIdOf_31 (fun z_11 (hz_11 : (z_11 = 0 ∨ z_11 = 1)) => ?_)
      have hz_11' := jb_01 hz_11
      refine lv_if_ne (tgt := 56) hx hb dX14_isIdOf_32 (by decide) (fun c_12 => ?_) (fun c_12 => ?_)
      · skip
        have c_12' : z_11.toInt ≠ 0 := jb_ne (rfl) ((by decide)) c_12
        refine lv_aload_n hx hb dX14_isIdOf_56 rfl (lv_at hl 0 rfl) ?_
        refine j7_read hx hb hown hK (C := RX14) (T := TX14) (N := 74) rfl hly_16_55 hlk_109 (hh_6.at 4 rfl) dX14_isIdOf_57 ?_
        refine lv_iload_n hx hb dX14_isIdOf_60 rfl (lv_at hl 1 rfl) ?_
        refine j7_ialdM hx hb hK hh_6 hB203 1 rfl (by decide) hg_zw (x := a1.toInt) (rfl) (by omega) (j := 2) rfl dX14_isIdOf_61 (fun z_13 ez_13 (hz_13 : -3300 ≤ z_13.toInt ∧ z_13.toInt ≤ 20) => ?_)
        have hqz_13 : z_13.toInt = jSo fl (a1.toInt) := by unfold jSo; rw [ez_13]
        refine lv_aload_n hx hb dX14_isIdOf_62 rfl (lv_at hl 0 rfl) ?_
        refine j7_read hx hb hown hK (C := RX14) (T := TX14) (N := 74) rfl hly_16_23 hlk_55 (hh_6.at 3 rfl) dX14_isIdOf_63 ?_
        refine lv_iload_n hx hb dX14_isIdOf_66 rfl (lv_at hl 2 rfl) ?_
        refine j7_ialdM hx hb hK hh_6 hB123 1 rfl (by decide) hg_xe (x := a2.toInt) (rfl) (by omega) (j := 1) rfl dX14_isIdOf_67 (fun z_14 ez_14 (hz_14 : 0 ≤ z_14.toInt ∧ z_14.toInt ≤ 3100) => ?_)
        have hqz_14 : z_14.toInt = jSo fe (a2.toInt) := by unfold jSo; rw [ez_14]
        refine lv_aload_n hx hb dX14_isIdOf_68 rfl (lv_at hl 0 rfl) ?_
        refine j7_read hx hb hown hK (C := RX14) (T := TX14) (N := 74) rfl hly_16_22 hlk_52 (hh_6.at 2 rfl) dX14_isIdOf_69 ?_
        refine lv_iload_n hx hb dX14_isIdOf_72 rfl (lv_at hl 2 rfl) ?_
        refine j7_ialdM hx hb hK hh_6 hB122 1 rfl (by decide) hg_xb (x := a2.toInt) (rfl) (by omega) (j := 0) rfl dX14_isIdOf_73 (fun z_15 ez_15 (hz_15 : 0 ≤ z_15.toInt ∧ z_15.toInt ≤ 3100) => ?_)
        have hqz_15 : z_15.toInt = jSo fb (a2.toInt) := by unfold jSo; rw [ez_15]
        refine lv_isub hx hb dX14_isIdOf_74 ?_
        refine lv_topi (fun z_16 ez_16 => ?_)
        have hz_16 : z_16.toInt = z_14.toInt - z_15.toInt := by rw [ez_16]; exact jb_isub2 (rfl) (rfl) (by omega)
        have C83 : ∀ (w0_17 : Int32) (H_17 : Heap) (locs_17 : List Loc), jSt (dC, dI) B base G0 G0 EX14_isIdOf s.heap 0 0 [(r0, 16, 17, .ref sort_7), (r0, 16, 52, .ref waitString_3), (r0, 16, 22, .ref xb), (r0, 16, 23, .ref xe), (r0, 16, 55, .ref zw)] [(xb, 122, 3100, ca 1, fb), (xe, 123, 3100, ca 1, fe), (zw, 203, 12, ca 1, fl)] [] H_17 locs_17 → (w0_17 = 0 ∨ w0_17 = 1) → (0 ≤ w0_17.toInt ∧ w0_17.toInt ≤ 1 ∧ (w0_17.toInt = 1 → jSo fe a2.toInt - jSo fb a2.toInt = jSo fl a1.toInt)) → ∀ ls : Array Slot, lv_has ls 5 [(0, .ref r0), (1, .int a1), (2, .int a2)] → W p l e R s m ([.ref r0, .int a1, .int a2] : List Value).toArray below meth c H_17 locs_17 0 0 Q (F0 m 83 ls [.int w0_17]) := by
          intro w0_17 H_17 locs_17 hh_17 hb_w0_17 hi_17 ls hl
          obtain ⟨hi_17_0, hi_17_1, hi_17_2⟩ := hi_17
          have hb_w0_17' := jb_01 hb_w0_17
          refine lv_istore_n (lv' := [(3, .int w0_17), (0, .ref r0), (1, .int a1), (2, .int a2)]) hx hb dX14_isIdOf_83 rfl hl (by decide) rfl (fun ls hl => ?_)
          refine lv_iconst (v := 0) hx hb dX14_isIdOf_84 (by decide) ?_
          refine lv_istore (lv' := [(4, .int 0), (3, .int w0_17), (0, .ref r0), (1, .int a1), (2, .int a2)]) hx hb dX14_isIdOf_85 hl (by decide) rfl (fun ls hl => ?_)
          have L87 : ∀ (N : Nat) (v3_18 : Int32) (v4_18 : Int32) (H_18 : Heap) (locs_18 : List Loc), jSt (dC, dI) B base G0 G0 EX14_isIdOf s.heap 0 0 [(r0, 16, 17, .ref sort_7), (r0, 16, 52, .ref waitString_3), (r0, 16, 22, .ref xb), (r0, 16, 23, .ref xe), (r0, 16, 55, .ref zw)] [(xb, 122, 3100, ca 1, fb), (xe, 123, 3100, ca 1, fe), (zw, 203, 12, ca 1, fl)] [] H_18 locs_18 → (v3_18 = 0 ∨ v3_18 = 1) → (0 ≤ v4_18.toInt ∧ v4_18.toInt ≤ 20 ∧ 0 ≤ v3_18.toInt ∧ v3_18.toInt ≤ 1 ∧ (v3_18.toInt = 1 → jSo fe a2.toInt - jSo fb a2.toInt = jSo fl a1.toInt)) → (20 - v4_18.toInt : Int) < N → ∀ ls : Array Slot, lv_has ls 5 [(0, .ref r0), (1, .int a1), (2, .int a2), (3, .int v3_18), (4, .int v4_18)] → W p l e R s m ([.ref r0, .int a1, .int a2] : List Value).toArray below meth c H_18 locs_18 0 0 Q (F0 m 87 ls []) := by
            intro N
            induction N with
            | zero => intro v3_18 v4_18 H_18 locs_18 hh_18 hb_v3_18 hi_18 hm; exact absurd hm (by omega)
            | succ N L87 =>
              intro v3_18 v4_18 H_18 locs_18 hh_18 hb_v3_18 hi_18 hm_18 ls hl
              obtain ⟨hi_18_0, hi_18_1, hi_18_2, hi_18_3, hi_18_4⟩ := hi_18
              have hb_v3_18' := jb_01 hb_v3_18
              refine lv_iload hx hb dX14_isIdOf_87 (lv_at hl 4 rfl) ?_
              refine lv_aload_n hx hb dX14_isIdOf_89 rfl (lv_at hl 0 rfl) ?_
              refine j7_read hx hb hown hK (C := RX14) (T := TX14) (N := 74) rfl hly_16_55 hlk_109 (hh_18.at 4 rfl) dX14_isIdOf_90 ?_
              refine lv_iload_n hx hb dX14_isIdOf_93 rfl (lv_at hl 1 rfl) ?_
              refine j7_ialdM hx hb hK hh_18 hB203 1 rfl (by decide) hg_zw (x := a1.toInt) (rfl) (by omega) (j := 2) rfl dX14_isIdOf_94 (fun z_19 ez_19 (hz_19 : -3300 ≤ z_19.toInt ∧ z_19.toInt ≤ 20) => ?_)
              have hqz_19 : z_19.toInt = jSo fl (a1.toInt) := by unfold jSo; rw [ez_19]
              refine lv_icmp_ge (tgt := 143) hx hb dX14_isIdOf_95 (by decide) (fun c_20 => ?_) (fun c_20 => ?_)
              · skip
                have c_20' : v4_18.toInt ≥ z_19.toInt := jb_ge (rfl) (rfl) c_20
                refine lv_iload_n hx hb dX14_isIdOf_143 rfl (lv_at hl 3 rfl) ?_
                rw [hQ]
                exact W.zret (v := v3_18) hx hb hr (jb_nz (hb_v3_18)) (fun t ht hW => ⟨⟨v3_18, (), rfl, ⟨(hb_v3_18), by first | omega | (refine ⟨?_, ?_⟩ <;> (first | omega | rfl | assumption | decide | exact Or.inl rfl | exact Or.inr rfl | (simp only; omega)))⟩, hh_18.rt (M1 := []) [] rfl ht⟩, by rw [ht]; try exact hh_18.1.1, fun q h9 hq => by rw [ht]; try exact hh_18.1.2.1 q h9 hq⟩) hh_18.1.2.2 dX14_isIdOf_144
              · skip
                have c_20' : v4_18.toInt < z_19.toInt := jb_ge_n (rfl) (rfl) c_20
                refine lv_iload_n hx hb dX14_isIdOf_98 rfl (lv_at hl 3 rfl) ?_
                refine lv_if_eq (tgt := 143) hx hb dX14_isIdOf_99 (by decide) (fun c_21 => ?_) (fun c_21 => ?_)
                · skip
                  have c_21' : v3_18.toInt = 0 := jb_eq (rfl) ((by decide)) c_21
                  refine lv_iload_n hx hb dX14_isIdOf_143 rfl (lv_at hl 3 rfl) ?_
                  rw [hQ]
                  exact W.zret (v := v3_18) hx hb hr (jb_nz (hb_v3_18)) (fun t ht hW => ⟨⟨v3_18, (), rfl, ⟨(hb_v3_18), by first | omega | (refine ⟨?_, ?_⟩ <;> (first | omega | rfl | assumption | decide | exact Or.inl rfl | exact Or.inr rfl | (simp only; omega)))⟩, hh_18.rt (M1 := []) [] rfl ht⟩, by rw [ht]; try exact hh_18.1.1, fun q h9 hq => by rw [ht]; try exact hh_18.1.2.1 q h9 hq⟩) hh_18.1.2.2 dX14_isIdOf_144
                · skip
                  have c_21' : v3_18.toInt ≠ 0 := jb_eq_n (rfl) ((by decide)) c_21
                  refine lv_aload_n hx hb dX14_isIdOf_102 rfl (lv_at hl 0 rfl) ?_
                  obtain ⟨v_22, hv_22, hh_23⟩ := hh_18.pin (C := RX14) (T := TX14) (N := 74) hB16 rfl (by decide) hg_r0 (i := 54) (by decide) rfl
                  clear hh_18
                  obtain ⟨waitUnits_24, rfl, hg_waitUnits_24⟩ := hv_22
                  refine j7_read hx hb hown hK (C := RX14) (T := TX14) (N := 74) rfl hly_16_54 hlk_106 (hh_23.at 0 rfl) dX14_isIdOf_103 ?_
                  refine lv_bipush (v := 20) hx hb dX14_isIdOf_106 (by decide) ?_
                  refine lv_iload_n hx hb dX14_isIdOf_108 rfl (lv_at hl 1 rfl) ?_
                  refine lv_imul hx hb dX14_isIdOf_109 ?_
                  refine lv_topi (fun z_25 ez_25 => ?_)
                  have hz_25 : z_25.toInt = 20 * a1.toInt := by rw [ez_25]; exact jb_imul2 ((by decide)) (rfl) (by omega)
                  refine lv_iload hx hb dX14_isIdOf_110 (lv_at hl 4 rfl) ?_
                  refine lv_iadd hx hb dX14_isIdOf_112 ?_
                  refine lv_topi (fun z_26 ez_26 => ?_)
                  have hz_26 : z_26.toInt = z_25.toInt + v4_18.toInt := by rw [ez_26]; exact jb_iadd2 (rfl) (rfl) (by omega)
                  refine j7_iald hx hb hK hh_23 hB101 1 rfl (by decide) hg_waitUnits_24 (x := z_26.toInt) (rfl) (by omega) dX14_isIdOf_113 (fun z_27 (hz_27 : True) => ?_)
                  refine lv_aload_n hx hb dX14_isIdOf_114 rfl (lv_at hl 0 rfl) ?_
                  obtain ⟨v_28, hv_28, hh_29⟩ := hh_23.pin (C := RX14) (T := TX14) (N := 74) hB16 rfl (by decide) hg_r0 (i := 27) (by decide) rfl
                  clear hh_23
                  obtain ⟨pool_30, rfl, hg_pool_30⟩ := hv_28
                  refine j7_read hx hb hown hK (C := RX14) (T := TX14) (N := 74) rfl hly_16_27 hlk_65 (hh_29.at 0 rfl) dX14_isIdOf_115 ?_
                  refine lv_aload_n hx hb dX14_isIdOf_118 rfl (lv_at hl 0 rfl) ?_
                  refine j7_read hx hb hown hK (C := RX14) (T := TX14) (N := 74) rfl hly_16_22 hlk_52 (hh_29.at 4 rfl) dX14_isIdOf_119 ?_
                  refine lv_iload_n hx hb dX14_isIdOf_122 rfl (lv_at hl 2 rfl) ?_
                  refine j7_ialdM hx hb hK hh_29 hB122 1 rfl (by decide) hg_xb (x := a2.toInt) (rfl) (by omega) (j := 0) rfl dX14_isIdOf_123 (fun z_31 ez_31 (hz_31 : 0 ≤ z_31.toInt ∧ z_31.toInt ≤ 3100) => ?_)
                  have hqz_31 : z_31.toInt = jSo fb (a2.toInt) := by unfold jSo; rw [ez_31]
                  refine lv_iload hx hb dX14_isIdOf_124 (lv_at hl 4 rfl) ?_
                  refine lv_iadd hx hb dX14_isIdOf_126 ?_
                  refine lv_topi (fun z_32 ez_32 => ?_)
                  have hz_32 : z_32.toInt = z_31.toInt + v4_18.toInt := by rw [ez_32]; exact jb_iadd2 (rfl) (rfl) (by omega)
                  refine j7_iald hx hb hK hh_29 hB127 1 rfl (by decide) hg_pool_30 (x := z_32.toInt) (rfl) (by omega) dX14_isIdOf_127 (fun z_33 (hz_33 : True) => ?_)
                  refine lv_icmp_ne (tgt := 135) hx hb dX14_isIdOf_128 (by decide) (fun c_34 => ?_) (fun c_34 => ?_)
                  · skip
                    have c_34' : z_27.toInt ≠ z_33.toInt := jb_ne (rfl) (rfl) c_34
                    refine lv_iconst (v := 0) hx hb dX14_isIdOf_135 (by decide) ?_
                    refine lv_istore_n (lv' := [(3, .int 0), (0, .ref r0), (1, .int a1), (2, .int a2), (4, .int v4_18)]) hx hb dX14_isIdOf_136 rfl hl (by decide) rfl (fun ls hl => ?_)
                    obtain ⟨z_35, ez_35⟩ : ∃ y : Int32, y = v4_18 + 1 := ⟨_, rfl⟩
                    refine lv_iinc (v := z_35) (lv' := [(4, .int z_35), (3, .int 0), (0, .ref r0), (1, .int a1), (2, .int a2)]) hx hb dX14_isIdOf_137 hl (k := 4) rfl (by rw [ez_35]; rfl) (by decide) rfl (fun ls hl => ?_)
                    have hz_35 : z_35.toInt = v4_18.toInt + 1 := by rw [ez_35]; exact jb_iadd2 (rfl) (by decide) (by omega)
                    refine lv_goto (tgt := 87) hx hb dX14_isIdOf_140 (by decide) ?_
                    exact L87 0 z_35 _ _ (hh_29.sub (L1 := [(r0, 16, 17, .ref sort_7), (r0, 16, 52, .ref waitString_3), (r0, 16, 22, .ref xb), (r0, 16, 23, .ref xe), (r0, 16, 55, .ref zw)]) [2, 3, 4, 5, 6] rfl (M1 := [(xb, 122, 3100, ca 1, fb), (xe, 123, 3100, ca 1, fe), (zw, 203, 12, ca 1, fl)]) [0, 1, 2] rfl (I1 := []) [] rfl) (Or.inl rfl) (by first | omega | (refine ⟨?_, ?_, ?_, ?_, ?_⟩ <;> (first | omega | rfl | assumption | decide | exact Or.inl rfl | exact Or.inr rfl | (simp only; omega)))) (by omega) _ (lv_sub hl [2, 3, 4, 1, 0] rfl)
                  · skip
                    have c_34' : z_27.toInt = z_33.toInt := jb_ne_n (rfl) (rfl) c_34
                    refine lv_iconst (v := 1) hx hb dX14_isIdOf_131 (by decide) ?_
                    refine lv_goto (tgt := 136) hx hb dX14_isIdOf_132 (by decide) ?_
                    refine lv_istore_n (lv' := [(3, .int 1), (0, .ref r0), (1, .int a1), (2, .int a2), (4, .int v4_18)]) hx hb dX14_isIdOf_136 rfl hl (by decide) rfl (fun ls hl => ?_)
                    obtain ⟨z_36, ez_36⟩ : ∃ y : Int32, y = v4_18 + 1 := ⟨_, rfl⟩
                    refine lv_iinc (v := z_36) (lv' := [(4, .int z_36), (3, .int 1), (0, .ref r0), (1, .int a1), (2, .int a2)]) hx hb dX14_isIdOf_137 hl (k := 4) rfl (by rw [ez_36]; rfl) (by decide) rfl (fun ls hl => ?_)
                    have hz_36 : z_36.toInt = v4_18.toInt + 1 := by rw [ez_36]; exact jb_iadd2 (rfl) (by decide) (by omega)
                    refine lv_goto (tgt := 87) hx hb dX14_isIdOf_140 (by decide) ?_
                    exact L87 1 z_36 _ _ (hh_29.sub (L1 := [(r0, 16, 17, .ref sort_7), (r0, 16, 52, .ref waitString_3), (r0, 16, 22, .ref xb), (r0, 16, 23, .ref xe), (r0, 16, 55, .ref zw)]) [2, 3, 4, 5, 6] rfl (M1 := [(xb, 122, 3100, ca 1, fb), (xe, 123, 3100, ca 1, fe), (zw, 203, 12, ca 1, fl)]) [0, 1, 2] rfl (I1 := []) [] rfl) (Or.inr rfl) (by first | omega | (refine ⟨?_, ?_, ?_, ?_, ?_⟩ <;> (first | omega | rfl | assumption | decide | exact Or.inl rfl | exact Or.inr rfl | (simp only; omega)))) (by omega) _ (lv_sub hl [2, 3, 4, 1, 0] rfl)
          exact L87 (20 - (0 : Int32).toInt : Int).toNat.succ w0_17 0 _ _ hh_17 (hb_w0_17) (by first | omega | (refine ⟨?_, ?_, ?_, ?_, ?_⟩ <;> (first | omega | rfl | assumption | decide | exact Or.inl rfl | exact Or.inr rfl | (simp only; omega)))) (by omega) _ (lv_sub hl [2, 3, 4, 1, 0] rfl)
        refine lv_icmp_ne (tgt := 82) hx hb dX14_isIdOf_75 (by decide) (fun c_37 => ?_) (fun c_37 => ?_)
        · skip
          have c_37' : z_13.toInt ≠ z_16.toInt := jb_ne (rfl) (rfl) c_37
          refine lv_iconst (v := 0) hx hb dX14_isIdOf_82 (by decide) ?_
          exact C83 0 _ _ hh_6 (Or.inl rfl) (by first | omega | (refine ⟨?_, ?_, ?_⟩ <;> (first | omega | rfl | assumption | decide | exact Or.inl rfl | exact Or.inr rfl | (simp only; omega)))) _ (lv_sub hl [0, 1, 2] rfl)
        · skip
          have c_37' : z_13.toInt = z_16.toInt := jb_ne_n (rfl) (rfl) c_37
          refine lv_iconst (v := 1) hx hb dX14_isIdOf_78 (by decide) ?_
          refine lv_goto (tgt := 83) hx hb dX14_isIdOf_79 (by decide) ?_
          exact C83 1 _ _ hh_6 (Or.inr rfl) (by first | omega | (refine ⟨?_, ?_, ?_⟩ <;> (first | omega | rfl | assumption | decide | exact Or.inl rfl | exact Or.inr rfl | (simp only; omega)))) _ (lv_sub hl [0, 1, 2] rfl)
      · skip
        have c_12' : z_11.toInt = 0 := jb_ne_n (rfl) ((by decide)) c_12
        refine lv_aload_n hx hb dX14_isIdOf_35 rfl (lv_at hl 0 rfl) ?_
        obtain ⟨v_38, hv_38, hh_39⟩ := hh_6.pin (C := RX14) (T := TX14) (N := 74) hB16 rfl (by decide) hg_r0 (i := 53) (by decide) rfl
        clear hh_6
        obtain ⟨waitInt_40, rfl, hg_waitInt_40⟩ := hv_38
        refine j7_read hx hb hown hK (C := RX14) (T := TX14) (N := 74) rfl hly_16_53 hlk_103 (hh_39.at 0 rfl) dX14_isIdOf_36 ?_
        refine lv_iload_n hx hb dX14_isIdOf_39 rfl (lv_at hl 1 rfl) ?_
        refine j7_iald hx hb hK hh_39 hB101 1 rfl (by decide) hg_waitInt_40 (x := a1.toInt) (rfl) (by omega) dX14_isIdOf_40 (fun z_41 (hz_41 : True) => ?_)
        refine lv_aload_n hx hb dX14_isIdOf_41 rfl (lv_at hl 0 rfl) ?_
        obtain ⟨v_42, hv_42, hh_43⟩ := hh_39.pin (C := RX14) (T := TX14) (N := 74) hB16 rfl (by decide) hg_r0 (i := 25) (by decide) rfl
        clear hh_39
        obtain ⟨ints_44, rfl, hg_ints_44⟩ := hv_42
        refine j7_read hx hb hown hK (C := RX14) (T := TX14) (N := 74) rfl hly_16_25 hlk_62 (hh_43.at 0 rfl) dX14_isIdOf_42 ?_
        refine lv_iload_n hx hb dX14_isIdOf_45 rfl (lv_at hl 2 rfl) ?_
        refine j7_iald hx hb hK hh_43 hB125 1 rfl (by decide) hg_ints_44 (x := a2.toInt) (rfl) (by omega) dX14_isIdOf_46 (fun z_45 (hz_45 : True) => ?_)
        refine lv_icmp_ne (tgt := 54) hx hb dX14_isIdOf_47 (by decide) (fun c_46 => ?_) (fun c_46 => ?_)
        · skip
          have c_46' : z_41.toInt ≠ z_45.toInt := jb_ne (rfl) (rfl) c_46
          refine lv_iconst (v := 0) hx hb dX14_isIdOf_54 (by decide) ?_
          rw [hQ]
          exact W.zret (v := 0) hx hb hr (jb_nz (Or.inl rfl)) (fun t ht hW => ⟨⟨0, (), rfl, ⟨(Or.inl rfl), by first | omega | (refine ⟨?_, ?_⟩ <;> (first | omega | rfl | assumption | decide | exact Or.inl rfl | exact Or.inr rfl | (simp only; omega)))⟩, hh_43.rt (M1 := []) [] rfl ht⟩, by rw [ht]; try exact hh_43.1.1, fun q h9 hq => by rw [ht]; try exact hh_43.1.2.1 q h9 hq⟩) hh_43.1.2.2 dX14_isIdOf_55
        · skip
          have c_46' : z_41.toInt = z_45.toInt := jb_ne_n (rfl) (rfl) c_46
          refine lv_iconst (v := 1) hx hb dX14_isIdOf_50 (by decide) ?_
          refine lv_goto (tgt := 55) hx hb dX14_isIdOf_51 (by decide) ?_
          rw [hQ]
          exact W.zret (v := 1) hx hb hr (jb_nz (Or.inr rfl)) (fun t ht hW => ⟨⟨1, (), rfl, ⟨(Or.inr rfl), by first | omega | (refine ⟨?_, ?_⟩ <;> (first | omega | rfl | assumption | decide | exact Or.inl rfl | exact Or.inr rfl | (simp only; omega)))⟩, hh_43.rt (M1 := []) [] rfl ht⟩, by rw [ht]; try exact hh_43.1.1, fun q h9 hq => by rw [ht]; try exact hh_43.1.2.1 q h9 hq⟩) hh_43.1.2.2 dX14_isIdOf_55
    · skip
      have c_10' : z_4.toInt ≠ 0 := jb_eq_n (rfl) ((by decide)) c_10
      refine lv_iconst (v := 0) hx hb dX14_isIdOf_24 (by decide) ?_
      rw [hQ]
      exact W.zret (v := 0) hx hb hr (jb_nz (Or.inl rfl)) (fun t ht hW => ⟨⟨0, (), rfl, ⟨(Or.inl rfl), by first | omega | (refine ⟨?_, ?_⟩ <;> (first | omega | rfl | assumption | decide | exact Or.inl rfl | exact Or.inr rfl | (simp only; omega)))⟩, hh_6.rt (M1 := []) [] rfl ht⟩, by rw [ht]; try exact hh_6.1.1, fun q h9 hq => by rw [ht]; try exact hh_6.1.2.1 q h9 hq⟩) hh_6.1.2.2 dX14_isIdOf_25
  · skip
    have c_9' : z_8.toInt = 4 := jb_ne_n (rfl) ((by decide)) c_9
    refine lv_iconst (v := 1) hx hb dX14_isIdOf_16 (by decide) ?_
    refine lv_goto (tgt := 21) hx hb dX14_isIdOf_17 (by decide) ?_
    refine lv_icmp_eq (tgt := 26) hx hb dX14_isIdOf_21 (by decide) (fun c_47 => ?_) (fun c_47 => ?_)
    · skip
      have c_47' : z_4.toInt = 1 := jb_eq (rfl) ((by decide)) c_47
      refine lv_aload_n hx hb dX14_isIdOf_26 rfl (lv_at hl 0 rfl) ?_
      refine j7_read hx hb hown hK (C := RX14) (T := TX14) (N := 74) rfl hly_16_52 hlk_100 (hh_6.at 1 rfl) dX14_isIdOf_27 ?_
      refine lv_iload_n hx hb dX14_isIdOf_30 rfl (lv_at hl 1 rfl) ?_
      refine j7_zald hx hb hK hh_6 hB103 3 rfl (by decide) hg_waitString_3 (x := a1.toInt) (rfl) (by omega) dX14_isIdOf_31 (fun z_48 (hz_48 : (z_48 = 0 ∨ z_48 = 1)) => ?_)
      have hz_48' := jb_01 hz_48
      refine lv_if_ne (tgt := 56) hx hb dX14_isIdOf_32 (by decide) (fun c_49 => ?_) (fun c_49 => ?_)
      · skip
        have c_49' : z_48.toInt ≠ 0 := jb_ne (rfl) ((by decide)) c_49
        refine lv_aload_n hx hb dX14_isIdOf_56 rfl (lv_at hl 0 rfl) ?_
        refine j7_read hx hb hown hK (C := RX14) (T := TX14) (N := 74) rfl hly_16_55 hlk_109 (hh_6.at 4 rfl) dX14_isIdOf_57 ?_
        refine lv_iload_n hx hb dX14_isIdOf_60 rfl (lv_at hl 1 rfl) ?_
        refine j7_ialdM hx hb hK hh_6 hB203 1 rfl (by decide) hg_zw (x := a1.toInt) (rfl) (by omega) (j := 2) rfl dX14_isIdOf_61 (fun z_50 ez_50 (hz_50 : -3300 ≤ z_50.toInt ∧ z_50.toInt ≤ 20) => ?_)
        have hqz_50 : z_50.toInt = jSo fl (a1.toInt) := by unfold jSo; rw [ez_50]
        refine lv_aload_n hx hb dX14_isIdOf_62 rfl (lv_at hl 0 rfl) ?_
        refine j7_read hx hb hown hK (C := RX14) (T := TX14) (N := 74) rfl hly_16_23 hlk_55 (hh_6.at 3 rfl) dX14_isIdOf_63 ?_
        refine lv_iload_n hx hb dX14_isIdOf_66 rfl (lv_at hl 2 rfl) ?_
        refine j7_ialdM hx hb hK hh_6 hB123 1 rfl (by decide) hg_xe (x := a2.toInt) (rfl) (by omega) (j := 1) rfl dX14_isIdOf_67 (fun z_51 ez_51 (hz_51 : 0 ≤ z_51.toInt ∧ z_51.toInt ≤ 3100) => ?_)
        have hqz_51 : z_51.toInt = jSo fe (a2.toInt) := by unfold jSo; rw [ez_51]
        refine lv_aload_n hx hb dX14_isIdOf_68 rfl (lv_at hl 0 rfl) ?_
        refine j7_read hx hb hown hK (C := RX14) (T := TX14) (N := 74) rfl hly_16_22 hlk_52 (hh_6.at 2 rfl) dX14_isIdOf_69 ?_
        refine lv_iload_n hx hb dX14_isIdOf_72 rfl (lv_at hl 2 rfl) ?_
        refine j7_ialdM hx hb hK hh_6 hB122 1 rfl (by decide) hg_xb (x := a2.toInt) (rfl) (by omega) (j := 0) rfl dX14_isIdOf_73 (fun z_52 ez_52 (hz_52 : 0 ≤ z_52.toInt ∧ z_52.toInt ≤ 3100) => ?_)
        have hqz_52 : z_52.toInt = jSo fb (a2.toInt) := by unfold jSo; rw [ez_52]
        refine lv_isub hx hb dX14_isIdOf_74 ?_
        refine lv_topi (fun z_53 ez_53 => ?_)
        have hz_53 : z_53.toInt = z_51.toInt - z_52.toInt := by rw [ez_53]; exact jb_isub2 (rfl) (rfl) (by omega)
        have C83 : ∀ (w0_54 : Int32) (H_54 : Heap) (locs_54 : List Loc), jSt (dC, dI) B base G0 G0 EX14_isIdOf s.heap 0 0 [(r0, 16, 17, .ref sort_7), (r0, 16, 52, .ref waitString_3), (r0, 16, 22, .ref xb), (r0, 16, 23, .ref xe), (r0, 16, 55, .ref zw)] [(xb, 122, 3100, ca 1, fb), (xe, 123, 3100, ca 1, fe), (zw, 203, 12, ca 1, fl)] [] H_54 locs_54 → (w0_54 = 0 ∨ w0_54 = 1) → (0 ≤ w0_54.toInt ∧ w0_54.toInt ≤ 1 ∧ (w0_54.toInt = 1 → jSo fe a2.toInt - jSo fb a2.toInt = jSo fl a1.toInt)) → ∀ ls : Array Slot, lv_has ls 5 [(0, .ref r0), (1, .int a1), (2, .int a2)] → W p l e R s m ([.ref r0, .int a1, .int a2] : List Value).toArray below meth c H_54 locs_54 0 0 Q (F0 m 83 ls [.int w0_54]) := by
          intro w0_54 H_54 locs_54 hh_54 hb_w0_54 hi_54 ls hl
          obtain ⟨hi_54_0, hi_54_1, hi_54_2⟩ := hi_54
          have hb_w0_54' := jb_01 hb_w0_54
          refine lv_istore_n (lv' := [(3, .int w0_54), (0, .ref r0), (1, .int a1), (2, .int a2)]) hx hb dX14_isIdOf_83 rfl hl (by decide) rfl (fun ls hl => ?_)
          refine lv_iconst (v := 0) hx hb dX14_isIdOf_84 (by decide) ?_
          refine lv_istore (lv' := [(4, .int 0), (3, .int w0_54), (0, .ref r0), (1, .int a1), (2, .int a2)]) hx hb dX14_isIdOf_85 hl (by decide) rfl (fun ls hl => ?_)
          have L87 : ∀ (N : Nat) (v3_55 : Int32) (v4_55 : Int32) (H_55 : Heap) (locs_55 : List Loc), jSt (dC, dI) B base G0 G0 EX14_isIdOf s.heap 0 0 [(r0, 16, 17, .ref sort_7), (r0, 16, 52, .ref waitString_3), (r0, 16, 22, .ref xb), (r0, 16, 23, .ref xe), (r0, 16, 55, .ref zw)] [(xb, 122, 3100, ca 1, fb), (xe, 123, 3100, ca 1, fe), (zw, 203, 12, ca 1, fl)] [] H_55 locs_55 → (v3_55 = 0 ∨ v3_55 = 1) → (0 ≤ v4_55.toInt ∧ v4_55.toInt ≤ 20 ∧ 0 ≤ v3_55.toInt ∧ v3_55.toInt ≤ 1 ∧ (v3_55.toInt = 1 → jSo fe a2.toInt - jSo fb a2.toInt = jSo fl a1.toInt)) → (20 - v4_55.toInt : Int) < N → ∀ ls : Array Slot, lv_has ls 5 [(0, .ref r0), (1, .int a1), (2, .int a2), (3, .int v3_55), (4, .int v4_55)] → W p l e R s m ([.ref r0, .int a1, .int a2] : List Value).toArray below meth c H_55 locs_55 0 0 Q (F0 m 87 ls []) := by
            intro N
            induction N with
            | zero => intro v3_55 v4_55 H_55 locs_55 hh_55 hb_v3_55 hi_55 hm; exact absurd hm (by omega)
            | succ N L87 =>
              intro v3_55 v4_55 H_55 locs_55 hh_55 hb_v3_55 hi_55 hm_55 ls hl
              obtain ⟨hi_55_0, hi_55_1, hi_55_2, hi_55_3, hi_55_4⟩ := hi_55
              have hb_v3_55' := jb_01 hb_v3_55
              refine lv_iload hx hb dX14_isIdOf_87 (lv_at hl 4 rfl) ?_
              refine lv_aload_n hx hb dX14_isIdOf_89 rfl (lv_at hl 0 rfl) ?_
              refine j7_read hx hb hown hK (C := RX14) (T := TX14) (N := 74) rfl hly_16_55 hlk_109 (hh_55.at 4 rfl) dX14_isIdOf_90 ?_
              refine lv_iload_n hx hb dX14_isIdOf_93 rfl (lv_at hl 1 rfl) ?_
              refine j7_ialdM hx hb hK hh_55 hB203 1 rfl (by decide) hg_zw (x := a1.toInt) (rfl) (by omega) (j := 2) rfl dX14_isIdOf_94 (fun z_56 ez_56 (hz_56 : -3300 ≤ z_56.toInt ∧ z_56.toInt ≤ 20) => ?_)
              have hqz_56 : z_56.toInt = jSo fl (a1.toInt) := by unfold jSo; rw [ez_56]
              refine lv_icmp_ge (tgt := 143) hx hb dX14_isIdOf_95 (by decide) (fun c_57 => ?_) (fun c_57 => ?_)
              · skip
                have c_57' : v4_55.toInt ≥ z_56.toInt := jb_ge (rfl) (rfl) c_57
                refine lv_iload_n hx hb dX14_isIdOf_143 rfl (lv_at hl 3 rfl) ?_
                rw [hQ]
                exact W.zret (v := v3_55) hx hb hr (jb_nz (hb_v3_55)) (fun t ht hW => ⟨⟨v3_55, (), rfl, ⟨(hb_v3_55), by first | omega | (refine ⟨?_, ?_⟩ <;> (first | omega | rfl | assumption | decide | exact Or.inl rfl | exact Or.inr rfl | (simp only; omega)))⟩, hh_55.rt (M1 := []) [] rfl ht⟩, by rw [ht]; try exact hh_55.1.1, fun q h9 hq => by rw [ht]; try exact hh_55.1.2.1 q h9 hq⟩) hh_55.1.2.2 dX14_isIdOf_144
              · skip
                have c_57' : v4_55.toInt < z_56.toInt := jb_ge_n (rfl) (rfl) c_57
                refine lv_iload_n hx hb dX14_isIdOf_98 rfl (lv_at hl 3 rfl) ?_
                refine lv_if_eq (tgt := 143) hx hb dX14_isIdOf_99 (by decide) (fun c_58 => ?_) (fun c_58 => ?_)
                · skip
                  have c_58' : v3_55.toInt = 0 := jb_eq (rfl) ((by decide)) c_58
                  refine lv_iload_n hx hb dX14_isIdOf_143 rfl (lv_at hl 3 rfl) ?_
                  rw [hQ]
                  exact W.zret (v := v3_55) hx hb hr (jb_nz (hb_v3_55)) (fun t ht hW => ⟨⟨v3_55, (), rfl, ⟨(hb_v3_55), by first | omega | (refine ⟨?_, ?_⟩ <;> (first | omega | rfl | assumption | decide | exact Or.inl rfl | exact Or.inr rfl | (simp only; omega)))⟩, hh_55.rt (M1 := []) [] rfl ht⟩, by rw [ht]; try exact hh_55.1.1, fun q h9 hq => by rw [ht]; try exact hh_55.1.2.1 q h9 hq⟩) hh_55.1.2.2 dX14_isIdOf_144
                · skip
                  have c_58' : v3_55.toInt ≠ 0 := jb_eq_n (rfl) ((by decide)) c_58
                  refine lv_aload_n hx hb dX14_isIdOf_102 rfl (lv_at hl 0 rfl) ?_
                  obtain ⟨v_59, hv_59, hh_60⟩ := hh_55.pin (C := RX14) (T := TX14) (N := 74) hB16 rfl (by decide) hg_r0 (i := 54) (by decide) rfl
                  clear hh_55
                  obtain ⟨waitUnits_61, rfl, hg_waitUnits_61⟩ := hv_59
                  refine j7_read hx hb hown hK (C := RX14) (T := TX14) (N := 74) rfl hly_16_54 hlk_106 (hh_60.at 0 rfl) dX14_isIdOf_103 ?_
                  refine lv_bipush (v := 20) hx hb dX14_isIdOf_106 (by decide) ?_
                  refine lv_iload_n hx hb dX14_isIdOf_108 rfl (lv_at hl 1 rfl) ?_
                  refine lv_imul hx hb dX14_isIdOf_109 ?_
                  refine lv_topi (fun z_62 ez_62 => ?_)
                  have hz_62 : z_62.toInt = 20 * a1.toInt := by rw [ez_62]; exact jb_imul2 ((by decide)) (rfl) (by omega)
                  refine lv_iload hx hb dX14_isIdOf_110 (lv_at hl 4 rfl) ?_
                  refine lv_iadd hx hb dX14_isIdOf_112 ?_
                  refine lv_topi (fun z_63 ez_63 => ?_)
                  have hz_63 : z_63.toInt = z_62.toInt + v4_55.toInt := by rw [ez_63]; exact jb_iadd2 (rfl) (rfl) (by omega)
                  refine j7_iald hx hb hK hh_60 hB101 1 rfl (by decide) hg_waitUnits_61 (x := z_63.toInt) (rfl) (by omega) dX14_isIdOf_113 (fun z_64 (hz_64 : True) => ?_)
                  refine lv_aload_n hx hb dX14_isIdOf_114 rfl (lv_at hl 0 rfl) ?_
                  obtain ⟨v_65, hv_65, hh_66⟩ := hh_60.pin (C := RX14) (T := TX14) (N := 74) hB16 rfl (by decide) hg_r0 (i := 27) (by decide) rfl
                  clear hh_60
                  obtain ⟨pool_67, rfl, hg_pool_67⟩ := hv_65
                  refine j7_read hx hb hown hK (C := RX14) (T := TX14) (N := 74) rfl hly_16_27 hlk_65 (hh_66.at 0 rfl) dX14_isIdOf_115 ?_
                  refine lv_aload_n hx hb dX14_isIdOf_118 rfl (lv_at hl 0 rfl) ?_
                  refine j7_read hx hb hown hK (C := RX14) (T := TX14) (N := 74) rfl hly_16_22 hlk_52 (hh_66.at 4 rfl) dX14_isIdOf_119 ?_
                  refine lv_iload_n hx hb dX14_isIdOf_122 rfl (lv_at hl 2 rfl) ?_
                  refine j7_ialdM hx hb hK hh_66 hB122 1 rfl (by decide) hg_xb (x := a2.toInt) (rfl) (by omega) (j := 0) rfl dX14_isIdOf_123 (fun z_68 ez_68 (hz_68 : 0 ≤ z_68.toInt ∧ z_68.toInt ≤ 3100) => ?_)
                  have hqz_68 : z_68.toInt = jSo fb (a2.toInt) := by unfold jSo; rw [ez_68]
                  refine lv_iload hx hb dX14_isIdOf_124 (lv_at hl 4 rfl) ?_
                  refine lv_iadd hx hb dX14_isIdOf_126 ?_
                  refine lv_topi (fun z_69 ez_69 => ?_)
                  have hz_69 : z_69.toInt = z_68.toInt + v4_55.toInt := by rw [ez_69]; exact jb_iadd2 (rfl) (rfl) (by omega)
                  refine j7_iald hx hb hK hh_66 hB127 1 rfl (by decide) hg_pool_67 (x := z_69.toInt) (rfl) (by omega) dX14_isIdOf_127 (fun z_70 (hz_70 : True) => ?_)
                  refine lv_icmp_ne (tgt := 135) hx hb dX14_isIdOf_128 (by decide) (fun c_71 => ?_) (fun c_71 => ?_)
                  · skip
                    have c_71' : z_64.toInt ≠ z_70.toInt := jb_ne (rfl) (rfl) c_71
                    refine lv_iconst (v := 0) hx hb dX14_isIdOf_135 (by decide) ?_
                    refine lv_istore_n (lv' := [(3, .int 0), (0, .ref r0), (1, .int a1), (2, .int a2), (4, .int v4_55)]) hx hb dX14_isIdOf_136 rfl hl (by decide) rfl (fun ls hl => ?_)
                    obtain ⟨z_72, ez_72⟩ : ∃ y : Int32, y = v4_55 + 1 := ⟨_, rfl⟩
                    refine lv_iinc (v := z_72) (lv' := [(4, .int z_72), (3, .int 0), (0, .ref r0), (1, .int a1), (2, .int a2)]) hx hb dX14_isIdOf_137 hl (k := 4) rfl (by rw [ez_72]; rfl) (by decide) rfl (fun ls hl => ?_)
                    have hz_72 : z_72.toInt = v4_55.toInt + 1 := by rw [ez_72]; exact jb_iadd2 (rfl) (by decide) (by omega)
                    refine lv_goto (tgt := 87) hx hb dX14_isIdOf_140 (by decide) ?_
                    exact L87 0 z_72 _ _ (hh_66.sub (L1 := [(r0, 16, 17, .ref sort_7), (r0, 16, 52, .ref waitString_3), (r0, 16, 22, .ref xb), (r0, 16, 23, .ref xe), (r0, 16, 55, .ref zw)]) [2, 3, 4, 5, 6] rfl (M1 := [(xb, 122, 3100, ca 1, fb), (xe, 123, 3100, ca 1, fe), (zw, 203, 12, ca 1, fl)]) [0, 1, 2] rfl (I1 := []) [] rfl) (Or.inl rfl) (by first | omega | (refine ⟨?_, ?_, ?_, ?_, ?_⟩ <;> (first | omega | rfl | assumption | decide | exact Or.inl rfl | exact Or.inr rfl | (simp only; omega)))) (by omega) _ (lv_sub hl [2, 3, 4, 1, 0] rfl)
                  · skip
                    have c_71' : z_64.toInt = z_70.toInt := jb_ne_n (rfl) (rfl) c_71
                    refine lv_iconst (v := 1) hx hb dX14_isIdOf_131 (by decide) ?_
                    refine lv_goto (tgt := 136) hx hb dX14_isIdOf_132 (by decide) ?_
                    refine lv_istore_n (lv' := [(3, .int 1), (0, .ref r0), (1, .int a1), (2, .int a2), (4, .int v4_55)]) hx hb dX14_isIdOf_136 rfl hl (by decide) rfl (fun ls hl => ?_)
                    obtain ⟨z_73, ez_73⟩ : ∃ y : Int32, y = v4_55 + 1 := ⟨_, rfl⟩
                    refine lv_iinc (v := z_73) (lv' := [(4, .int z_73), (3, .int 1), (0, .ref r0), (1, .int a1), (2, .int a2)]) hx hb dX14_isIdOf_137 hl (k := 4) rfl (by rw [ez_73]; rfl) (by decide) rfl (fun ls hl => ?_)
                    have hz_73 : z_73.toInt = v4_55.toInt + 1 := by rw [ez_73]; exact jb_iadd2 (rfl) (by decide) (by omega)
                    refine lv_goto (tgt := 87) hx hb dX14_isIdOf_140 (by decide) ?_
                    exact L87 1 z_73 _ _ (hh_66.sub (L1 := [(r0, 16, 17, .ref sort_7), (r0, 16, 52, .ref waitString_3), (r0, 16, 22, .ref xb), (r0, 16, 23, .ref xe), (r0, 16, 55, .ref zw)]) [2, 3, 4, 5, 6] rfl (M1 := [(xb, 122, 3100, ca 1, fb), (xe, 123, 3100, ca 1, fe), (zw, 203, 12, ca 1, fl)]) [0, 1, 2] rfl (I1 := []) [] rfl) (Or.inr rfl) (by first | omega | (refine ⟨?_, ?_, ?_, ?_, ?_⟩ <;> (first | omega | rfl | assumption | decide | exact Or.inl rfl | exact Or.inr rfl | (simp only; omega)))) (by omega) _ (lv_sub hl [2, 3, 4, 1, 0] rfl)
          exact L87 (20 - (0 : Int32).toInt : Int).toNat.succ w0_54 0 _ _ hh_54 (hb_w0_54) (by first | omega | (refine ⟨?_, ?_, ?_, ?_, ?_⟩ <;> (first | omega | rfl | assumption | decide | exact Or.inl rfl | exact Or.inr rfl | (simp only; omega)))) (by omega) _ (lv_sub hl [2, 3, 4, 1, 0] rfl)
        refine lv_icmp_ne (tgt := 82) hx hb dX14_isIdOf_75 (by decide) (fun c_74 => ?_) (fun c_74 => ?_)
        · skip
          have c_74' : z_50.toInt ≠ z_53.toInt := jb_ne (rfl) (rfl) c_74
          refine lv_iconst (v := 0) hx hb dX14_isIdOf_82 (by decide) ?_
          exact C83 0 _ _ hh_6 (Or.inl rfl) (by first | omega | (refine ⟨?_, ?_, ?_⟩ <;> (first | omega | rfl | assumption | decide | exact Or.inl rfl | exact Or.inr rfl | (simp only; omega)))) _ (lv_sub hl [0, 1, 2] rfl)
        · skip
          have c_74' : z_50.toInt = z_53.toInt := jb_ne_n (rfl) (rfl) c_74
          refine lv_iconst (v := 1) hx hb dX14_isIdOf_78 (by decide) ?_
          refine lv_goto (tgt := 83) hx hb dX14_isIdOf_79 (by decide) ?_
          exact C83 1 _ _ hh_6 (Or.inr rfl) (by first | omega | (refine ⟨?_, ?_, ?_⟩ <;> (first | omega | rfl | assumption | decide | exact Or.inl rfl | exact Or.inr rfl | (simp only; omega)))) _ (lv_sub hl [0, 1, 2] rfl)
      · skip
        have c_49' : z_48.toInt = 0 := jb_ne_n (rfl) ((by decide)) c_49
        refine lv_aload_n hx hb dX14_isIdOf_35 rfl (lv_at hl 0 rfl) ?_
        obtain ⟨v_75, hv_75, hh_76⟩ := hh_6.pin (C := RX14) (T := TX14) (N := 74) hB16 rfl (by decide) hg_r0 (i := 53) (by decide) rfl
        clear hh_6
        obtain ⟨waitInt_77, rfl, hg_waitInt_77⟩ := hv_75
        refine j7_read hx hb hown hK (C := RX14) (T := TX14) (N := 74) rfl hly_16_53 hlk_103 (hh_76.at 0 rfl) dX14_isIdOf_36 ?_
        refine lv_iload_n hx hb dX14_isIdOf_39 rfl (lv_at hl 1 rfl) ?_
        refine j7_iald hx hb hK hh_76 hB101 1 rfl (by decide) hg_waitInt_77 (x := a1.toInt) (rfl) (by omega) dX14_isIdOf_40 (fun z_78 (hz_78 : True) => ?_)
        refine lv_aload_n hx hb dX14_isIdOf_41 rfl (lv_at hl 0 rfl) ?_
        obtain ⟨v_79, hv_79, hh_80⟩ := hh_76.pin (C := RX14) (T := TX14) (N := 74) hB16 rfl (by decide) hg_r0 (i := 25) (by decide) rfl
        clear hh_76
        obtain ⟨ints_81, rfl, hg_ints_81⟩ := hv_79
        refine j7_read hx hb hown hK (C := RX14) (T := TX14) (N := 74) rfl hly_16_25 hlk_62 (hh_80.at 0 rfl) dX14_isIdOf_42 ?_
        refine lv_iload_n hx hb dX14_isIdOf_45 rfl (lv_at hl 2 rfl) ?_
        refine j7_iald hx hb hK hh_80 hB125 1 rfl (by decide) hg_ints_81 (x := a2.toInt) (rfl) (by omega) dX14_isIdOf_46 (fun z_82 (hz_82 : True) => ?_)
        refine lv_icmp_ne (tgt := 54) hx hb dX14_isIdOf_47 (by decide) (fun c_83 => ?_) (fun c_83 => ?_)
        · skip
          have c_83' : z_78.toInt ≠ z_82.toInt := jb_ne (rfl) (rfl) c_83
          refine lv_iconst (v := 0) hx hb dX14_isIdOf_54 (by decide) ?_
          rw [hQ]
          exact W.zret (v := 0) hx hb hr (jb_nz (Or.inl rfl)) (fun t ht hW => ⟨⟨0, (), rfl, ⟨(Or.inl rfl), by first | omega | (refine ⟨?_, ?_⟩ <;> (first | omega | rfl | assumption | decide | exact Or.inl rfl | exact Or.inr rfl | (simp only; omega)))⟩, hh_80.rt (M1 := []) [] rfl ht⟩, by rw [ht]; try exact hh_80.1.1, fun q h9 hq => by rw [ht]; try exact hh_80.1.2.1 q h9 hq⟩) hh_80.1.2.2 dX14_isIdOf_55
        · skip
          have c_83' : z_78.toInt = z_82.toInt := jb_ne_n (rfl) (rfl) c_83
          refine lv_iconst (v := 1) hx hb dX14_isIdOf_50 (by decide) ?_
          refine lv_goto (tgt := 55) hx hb dX14_isIdOf_51 (by decide) ?_
          rw [hQ]
          exact W.zret (v := 1) hx hb hr (jb_nz (Or.inr rfl)) (fun t ht hW => ⟨⟨1, (), rfl, ⟨(Or.inr rfl), by first | omega | (refine ⟨?_, ?_⟩ <;> (first | omega | rfl | assumption | decide | exact Or.inl rfl | exact Or.inr rfl | (simp only; omega)))⟩, hh_80.rt (M1 := []) [] rfl ht⟩, by rw [ht]; try exact hh_80.1.1, fun q h9 hq => by rw [ht]; try exact hh_80.1.2.1 q h9 hq⟩) hh_80.1.2.2 dX14_isIdOf_55
    · skip
      have c_47' : z_4.toInt ≠ 1 := jb_eq_n (rfl) ((by decide)) c_47
      refine lv_iconst (v := 0) hx hb dX14_isIdOf_24 (by decide) ?_
      rw [hQ]
      exact W.zret (v := 0) hx hb hr (jb_nz (Or.inl rfl)) (fun t ht hW => ⟨⟨0, (), rfl, ⟨(Or.inl rfl), by first | omega | (refine ⟨?_, ?_⟩ <;> (first | omega | rfl | assumption | decide | exact Or.inl rfl | exact Or.inr rfl | (simp only; omega)))⟩, hh_6.rt (M1 := []) [] rfl ht⟩, by rw [ht]; try exact hh_6.1.1, fun q h9 hq => by rw [ht]; try exact hh_6.1.2.1 q h9 hq⟩) hh_6.1.2.2 dX14_isIdOf_25
end
section
theorem dX14_takeId_0 : decode cX14_takeId 0 = .ok (.aload_n 0, 1) := by decide +kernel
theorem dX14_takeId_1 : decode cX14_takeId 1 = .ok (.iload_n 1, 1) := by decide +kernel
theorem dX14_takeId_2 : decode cX14_takeId 2 = .ok (.ifCond .ge 7, 3) := by decide +kernel
theorem dX14_takeId_5 : decode cX14_takeId 5 = .ok (.iconst 1, 1) := by decide +kernel
theorem dX14_takeId_6 : decode cX14_takeId 6 = .ok (.goto 4, 3) := by decide +kernel
theorem dX14_takeId_9 : decode cX14_takeId 9 = .ok (.iconst 0, 1) := by decide +kernel
theorem dX14_takeId_10 : decode cX14_takeId 10 = .ok (.putfield 374, 3) := by decide +kernel
theorem dX14_takeId_13 : decode cX14_takeId 13 = .ok (.iload_n 1, 1) := by decide +kernel
theorem dX14_takeId_14 : decode cX14_takeId 14 = .ok (.ifCond .ge 4, 3) := by decide +kernel
theorem dX14_takeId_17 : decode cX14_takeId 17 = .ok (.return_, 1) := by decide +kernel
theorem dX14_takeId_18 : decode cX14_takeId 18 = .ok (.aload_n 0, 1) := by decide +kernel
theorem dX14_takeId_19 : decode cX14_takeId 19 = .ok (.aload_n 0, 1) := by decide +kernel
theorem dX14_takeId_20 : decode cX14_takeId 20 = .ok (.getfield 37, 3) := by decide +kernel
theorem dX14_takeId_23 : decode cX14_takeId 23 = .ok (.iload_n 1, 1) := by decide +kernel
theorem dX14_takeId_24 : decode cX14_takeId 24 = .ok (.iaload, 1) := by decide +kernel
theorem dX14_takeId_25 : decode cX14_takeId 25 = .ok (.iconst 4, 1) := by decide +kernel
theorem dX14_takeId_26 : decode cX14_takeId 26 = .ok (.if_icmp .ne 7, 3) := by decide +kernel
theorem dX14_takeId_29 : decode cX14_takeId 29 = .ok (.iconst 1, 1) := by decide +kernel
theorem dX14_takeId_30 : decode cX14_takeId 30 = .ok (.goto 4, 3) := by decide +kernel
theorem dX14_takeId_33 : decode cX14_takeId 33 = .ok (.iconst 0, 1) := by decide +kernel
theorem dX14_takeId_34 : decode cX14_takeId 34 = .ok (.putfield 377, 3) := by decide +kernel
theorem dX14_takeId_37 : decode cX14_takeId 37 = .ok (.aload_n 0, 1) := by decide +kernel
theorem dX14_takeId_38 : decode cX14_takeId 38 = .ok (.aload_n 0, 1) := by decide +kernel
theorem dX14_takeId_39 : decode cX14_takeId 39 = .ok (.getfield 377, 3) := by decide +kernel
theorem dX14_takeId_42 : decode cX14_takeId 42 = .ok (.ifCond .eq 7, 3) := by decide +kernel
theorem dX14_takeId_45 : decode cX14_takeId 45 = .ok (.iconst 0, 1) := by decide +kernel
theorem dX14_takeId_46 : decode cX14_takeId 46 = .ok (.goto 9, 3) := by decide +kernel
theorem dX14_takeId_49 : decode cX14_takeId 49 = .ok (.aload_n 0, 1) := by decide +kernel
theorem dX14_takeId_50 : decode cX14_takeId 50 = .ok (.getfield 62, 3) := by decide +kernel
theorem dX14_takeId_53 : decode cX14_takeId 53 = .ok (.iload_n 1, 1) := by decide +kernel
theorem dX14_takeId_54 : decode cX14_takeId 54 = .ok (.iaload, 1) := by decide +kernel
theorem dX14_takeId_55 : decode cX14_takeId 55 = .ok (.putfield 380, 3) := by decide +kernel
theorem dX14_takeId_58 : decode cX14_takeId 58 = .ok (.aload_n 0, 1) := by decide +kernel
theorem dX14_takeId_59 : decode cX14_takeId 59 = .ok (.aload_n 0, 1) := by decide +kernel
theorem dX14_takeId_60 : decode cX14_takeId 60 = .ok (.getfield 377, 3) := by decide +kernel
theorem dX14_takeId_63 : decode cX14_takeId 63 = .ok (.ifCond .eq 19, 3) := by decide +kernel
theorem dX14_takeId_66 : decode cX14_takeId 66 = .ok (.aload_n 0, 1) := by decide +kernel
theorem dX14_takeId_67 : decode cX14_takeId 67 = .ok (.getfield 55, 3) := by decide +kernel
theorem dX14_takeId_70 : decode cX14_takeId 70 = .ok (.iload_n 1, 1) := by decide +kernel
theorem dX14_takeId_71 : decode cX14_takeId 71 = .ok (.iaload, 1) := by decide +kernel
theorem dX14_takeId_72 : decode cX14_takeId 72 = .ok (.aload_n 0, 1) := by decide +kernel
theorem dX14_takeId_73 : decode cX14_takeId 73 = .ok (.getfield 52, 3) := by decide +kernel
theorem dX14_takeId_76 : decode cX14_takeId 76 = .ok (.iload_n 1, 1) := by decide +kernel
theorem dX14_takeId_77 : decode cX14_takeId 77 = .ok (.iaload, 1) := by decide +kernel
theorem dX14_takeId_78 : decode cX14_takeId 78 = .ok (.isub, 1) := by decide +kernel
theorem dX14_takeId_79 : decode cX14_takeId 79 = .ok (.goto 4, 3) := by decide +kernel
theorem dX14_takeId_82 : decode cX14_takeId 82 = .ok (.iconst 0, 1) := by decide +kernel
theorem dX14_takeId_83 : decode cX14_takeId 83 = .ok (.putfield 383, 3) := by decide +kernel
theorem dX14_takeId_86 : decode cX14_takeId 86 = .ok (.iconst 0, 1) := by decide +kernel
theorem dX14_takeId_87 : decode cX14_takeId 87 = .ok (.istore_n 2, 1) := by decide +kernel
theorem dX14_takeId_88 : decode cX14_takeId 88 = .ok (.iload_n 2, 1) := by decide +kernel
theorem dX14_takeId_89 : decode cX14_takeId 89 = .ok (.aload_n 0, 1) := by decide +kernel
theorem dX14_takeId_90 : decode cX14_takeId 90 = .ok (.getfield 383, 3) := by decide +kernel
theorem dX14_takeId_93 : decode cX14_takeId 93 = .ok (.if_icmp .ge 28, 3) := by decide +kernel
theorem dX14_takeId_96 : decode cX14_takeId 96 = .ok (.aload_n 0, 1) := by decide +kernel
theorem dX14_takeId_97 : decode cX14_takeId 97 = .ok (.getfield 68, 3) := by decide +kernel
theorem dX14_takeId_100 : decode cX14_takeId 100 = .ok (.iload_n 2, 1) := by decide +kernel
theorem dX14_takeId_101 : decode cX14_takeId 101 = .ok (.aload_n 0, 1) := by decide +kernel
theorem dX14_takeId_102 : decode cX14_takeId 102 = .ok (.getfield 65, 3) := by decide +kernel
theorem dX14_takeId_105 : decode cX14_takeId 105 = .ok (.aload_n 0, 1) := by decide +kernel
theorem dX14_takeId_106 : decode cX14_takeId 106 = .ok (.getfield 52, 3) := by decide +kernel
theorem dX14_takeId_109 : decode cX14_takeId 109 = .ok (.iload_n 1, 1) := by decide +kernel
theorem dX14_takeId_110 : decode cX14_takeId 110 = .ok (.iaload, 1) := by decide +kernel
theorem dX14_takeId_111 : decode cX14_takeId 111 = .ok (.iload_n 2, 1) := by decide +kernel
theorem dX14_takeId_112 : decode cX14_takeId 112 = .ok (.iadd, 1) := by decide +kernel
theorem dX14_takeId_113 : decode cX14_takeId 113 = .ok (.iaload, 1) := by decide +kernel
theorem dX14_takeId_114 : decode cX14_takeId 114 = .ok (.iastore, 1) := by decide +kernel
theorem dX14_takeId_115 : decode cX14_takeId 115 = .ok (.iinc 2 1, 3) := by decide +kernel
theorem dX14_takeId_118 : decode cX14_takeId 118 = .ok (.goto (-30), 3) := by decide +kernel
theorem dX14_takeId_121 : decode cX14_takeId 121 = .ok (.return_, 1) := by decide +kernel
def EX14_takeId : List (Nat × Nat) := [(16, 36), (16, 37), (16, 39), (16, 40), (101, 0)]
set_option maxHeartbeats 4000000 in
set_option maxRecDepth 20000 in
theorem uX14_takeId (l : Launch) (dC : Nat → ClassId) (dI : Nat → Nat → Nat) (ca : Nat → ClassId) (base : Nat) (B : jF) (hB : jBok B) (hAp : jAp (dC, dI)) (hB16 : ∀ n G a H, B 16 n G a H ↔ jOb (dC, dI) 16 74 (F16 n G) a H) (hB101 : ∀ n G a H, B 101 n G a H ↔ jAr (dC, dI) (ca 1) (fun j z => True) n a H) (hB117 : ∀ n G a H, B 117 n G a H ↔ jAr (dC, dI) (ca 1) (fun j z => True) n a H) (hB122 : ∀ n G a H, B 122 n G a H ↔ jAr (dC, dI) (ca 1) (fun j z => 0 ≤ z.toInt ∧ z.toInt ≤ 3100) n a H) (hB123 : ∀ n G a H, B 123 n G a H ↔ jAr (dC, dI) (ca 1) (fun j z => 0 ≤ z.toInt ∧ z.toInt ≤ 3100) n a H) (hB125 : ∀ n G a H, B 125 n G a H ↔ jAr (dC, dI) (ca 1) (fun j z => True) n a H) (hB127 : ∀ n G a H, B 127 n G a H ↔ jAr (dC, dI) (ca 1) (fun j z => True) n a H) (G0 : jT) (H0 : Heap) (r0 : Nat) (a1 : Int32) (zm : Nat) (xb : Nat) (xe : Nat) (fs : Nat → Int32) (fb : Nat → Int32) (fe : Nat → Int32) : Met l yX14_takeId (jw yX14_takeId cX14_takeId 3 none) ({ frames := 0, cells := 0, slots := 0, locals := 0 }) (va_Pc [.ref r0, .int a1] (fun U => U.heap = H0 ∧ jX B base G0 [] H0 ∧ jG dC dI ca base U ∧ G0 r0 = some (16, 0) ∧ G0 zm = some (117, 3100) ∧ G0 xb = some (122, 3100) ∧ G0 xe = some (123, 3100) ∧ jP (dC, dI) G0 H0 [(r0, 16, 17, .ref zm), (r0, 16, 22, .ref xb), (r0, 16, 23, .ref xe)] ∧ jMc (dC, dI) G0 H0 [(zm, 117, 3100, ca 1, fs), (xb, 122, 3100, ca 1, fb), (xe, 123, 3100, ca 1, fe)] ∧ a1.toInt ≤ 3099 ∧ (0 ≤ a1.toInt → jSo fs a1.toInt = 4 → jSo fe a1.toInt - jSo fb a1.toInt ≤ 20))) (va_Qv (S := Unit) (fun u => True) (fun u t => jRt (dC, dI) B base G0 EX14_takeId H0 [] t.heap) (jA base)) 0 0 (jA base) := by
  refine Met.ofW (cc := cX14_takeId) (maxL := 3) (ret := none) (by decide) rfl ?_
  intro p e s m args below meth c s₁ Bd hml hv
  obtain ⟨rfl, hH0, hX, hG, hg_r0, hg_zm, hg_xb, hg_xe, hP0, hM0, hp0, hp1⟩ := hv
  have hK := hG.1
  have hx := Bd.exec
  have hb := Bd.bytes
  have hr := Bd.returns
  have hts := atoms_spec (ws := (jw yX14_takeId cX14_takeId 3 none)) Bd.pre
  have htw : ∀ w ∈ jWl, w.before _ s = true := fun w h => hts w (List.mem_cons_of_mem _ h)
  have hown : s.vm.findClass RX14 = some m.cls := findClass_of_methodNamed Bd.named
  have hlocks := Bd.notSynchronized
  obtain ⟨Q, hQ⟩ : ∃ Q, Q = MQ below (va_Qv (S := Unit) (fun u => True) (fun u t => jRt (dC, dI) B base G0 EX14_takeId H0 [] t.heap) (jA base)) ([.ref r0, .int a1] : List Value).toArray s 0 0 (jA base) := ⟨_, rfl⟩
  rw [← hQ]
  have hl := lv_entry ([.ref r0, .int a1]) (n := 3) (Nat.le_of_ble_eq_true rfl)
  rw [lg_entry_eq]
  generalize (lg_sl ([.ref r0, .int a1]) ++ List.replicate (3 - (lg_sl ([.ref r0, .int a1])).length) Slot.unset).toArray = ls at hl ⊢
  have hl : lv_has ls 3 [(0, .ref r0), (1, .int a1)] := hl
  generalize hR : (headSpec (jw yX14_takeId cX14_takeId 3 none) ({ frames := 0, cells := 0, slots := 0, locals := 0 })).room = R
  subst hH0
  have hh : jSt (dC, dI) B base G0 G0 EX14_takeId s.heap 0 0 [(r0, 16, 17, .ref zm), (r0, 16, 22, .ref xb), (r0, 16, 23, .ref xe)] [(zm, 117, 3100, ca 1, fs), (xb, 122, 3100, ca 1, fb), (xe, 123, 3100, ca 1, fe)] [] s.heap [] := jSt.start hX hP0 hM0 jIs.nil
  clear hX hP0
  have hk0 : (0 : Int32).toInt = 0 := by decide
  have hk1 : (1 : Int32).toInt = 1 := by decide
  have hk4 : (4 : Int32).toInt = 4 := by decide
  have hly_16_17 := htw (u_lay RX14 TX14 17) (jWc_wsX140 _ (u_in_lay (by decide)))
  have hly_16_22 := htw (u_lay RX14 TX14 22) (jWc_wsX140 _ (u_in_lay (by decide)))
  have hly_16_23 := htw (u_lay RX14 TX14 23) (jWc_wsX140 _ (u_in_lay (by decide)))
  have hly_16_25 := htw (u_lay RX14 TX14 25) (jWc_wsX140 _ (u_in_lay (by decide)))
  have hly_16_27 := htw (u_lay RX14 TX14 27) (jWc_wsX140 _ (u_in_lay (by decide)))
  have hly_16_36 := htw (u_lay RX14 TX14 36) (jWc_wsX140 _ (u_in_lay (by decide)))
  have hly_16_37 := htw (u_lay RX14 TX14 37) (jWc_wsX140 _ (u_in_lay (by decide)))
  have hly_16_38 := htw (u_lay RX14 TX14 38) (jWc_wsX140 _ (u_in_lay (by decide)))
  have hly_16_39 := htw (u_lay RX14 TX14 39) (jWc_wsX140 _ (u_in_lay (by decide)))
  have hly_16_40 := htw (u_lay RX14 TX14 40) (jWc_wsX140 _ (u_in_lay (by decide)))
  have hlk_374 := (htw (.fieldLink RX14 374 "ProofServerModel" "idNull" "Z") (jWr_50 _ (List.mem_of_getElem? (i := 10) rfl)))
  have hlk_37 := (htw (.fieldLink RX14 37 "ProofServerModel" "sort" "[I") (jWr_11 _ (List.mem_of_getElem? (i := 4) rfl)))
  have hlk_377 := (htw (.fieldLink RX14 377 "ProofServerModel" "idString" "Z") (jWr_53 _ (List.mem_of_getElem? (i := 19) rfl)))
  have hlk_62 := (htw (.fieldLink RX14 62 "ProofServerModel" "ints" "[I") (jWr_11 _ (List.mem_of_getElem? (i := 13) rfl)))
  have hlk_380 := (htw (.fieldLink RX14 380 "ProofServerModel" "idInt" "I") (jWr_53 _ (List.mem_of_getElem? (i := 21) rfl)))
  have hlk_55 := (htw (.fieldLink RX14 55 "ProofServerModel" "to" "[I") (jWr_11 _ (List.mem_of_getElem? (i := 10) rfl)))
  have hlk_52 := (htw (.fieldLink RX14 52 "ProofServerModel" "from" "[I") (jWr_11 _ (List.mem_of_getElem? (i := 9) rfl)))
  have hlk_383 := (htw (.fieldLink RX14 383 "ProofServerModel" "idLength" "I") (jWr_53 _ (List.mem_of_getElem? (i := 20) rfl)))
  have hlk_68 := (htw (.fieldLink RX14 68 "ProofServerModel" "idUnits" "[I") (jWr_11 _ (List.mem_of_getElem? (i := 15) rfl)))
  have hlk_65 := (htw (.fieldLink RX14 65 "ProofServerModel" "pool" "[I") (jWr_11 _ (List.mem_of_getElem? (i := 14) rfl)))
  have hrg_a1 := jb_rng a1
  refine lv_aload_n hx hb dX14_takeId_0 rfl (lv_at hl 0 rfl) ?_
  refine lv_iload_n hx hb dX14_takeId_1 rfl (lv_at hl 1 rfl) ?_
  have C10 : ∀ (w0_1 : Int32) (H_1 : Heap) (locs_1 : List Loc), jSt (dC, dI) B base G0 G0 EX14_takeId s.heap 0 0 [(r0, 16, 17, .ref zm), (r0, 16, 22, .ref xb), (r0, 16, 23, .ref xe)] [(zm, 117, 3100, ca 1, fs), (xb, 122, 3100, ca 1, fb), (xe, 123, 3100, ca 1, fe)] [] H_1 locs_1 → (w0_1 = 0 ∨ w0_1 = 1) → (0 ≤ w0_1.toInt ∧ w0_1.toInt ≤ 1) → ∀ ls : Array Slot, lv_has ls 3 [(0, .ref r0), (1, .int a1)] → W p l e R s m ([.ref r0, .int a1] : List Value).toArray below meth c H_1 locs_1 0 0 Q (F0 m 10 ls [.int w0_1, .ref r0]) := by
    intro w0_1 H_1 locs_1 hh_1 hb_w0_1 hi_1 ls hl
    obtain ⟨hi_1_0, hi_1_1⟩ := hi_1
    have hb_w0_1' := jb_01 hb_w0_1
    refine j7_put hx hb hown hK hh_1 hB hAp hB16 (C := RX14) (T := TX14) (N := 74) rfl (by decide) hg_r0 (i := 40) (by decide) hly_16_40 rfl hlk_374 rfl (ty := .boolean) (v := .int w0_1) (by decide +kernel) (jb_nz (hb_w0_1)) (jb_fz (hb_w0_1)) (⟨_, rfl, (hb_w0_1)⟩) rfl (L1 := [(r0, 16, 17, .ref zm), (r0, 16, 22, .ref xb), (r0, 16, 23, .ref xe)]) [0, 1, 2] rfl rfl rfl dX14_takeId_10 (fun H_2 locs_2 hh_2 => ?_)
    clear hh_1
    refine lv_iload_n hx hb dX14_takeId_13 rfl (lv_at hl 1 rfl) ?_
    refine lv_if_ge (tgt := 18) hx hb dX14_takeId_14 (by decide) (fun c_3 => ?_) (fun c_3 => ?_)
    · skip
      have c_3' : a1.toInt ≥ 0 := jb_ge (rfl) ((by decide)) c_3
      refine lv_aload_n hx hb dX14_takeId_18 rfl (lv_at hl 0 rfl) ?_
      refine lv_aload_n hx hb dX14_takeId_19 rfl (lv_at hl 0 rfl) ?_
      refine j7_read hx hb hown hK (C := RX14) (T := TX14) (N := 74) rfl hly_16_17 hlk_37 (hh_2.at 1 rfl) dX14_takeId_20 ?_
      refine lv_iload_n hx hb dX14_takeId_23 rfl (lv_at hl 1 rfl) ?_
      refine j7_ialdM hx hb hK hh_2 hB117 1 rfl (by decide) hg_zm (x := a1.toInt) (rfl) (by omega) (j := 0) rfl dX14_takeId_24 (fun z_4 ez_4 (hz_4 : True) => ?_)
      have hqz_4 : z_4.toInt = jSo fs (a1.toInt) := by unfold jSo; rw [ez_4]
      refine lv_iconst (v := 4) hx hb dX14_takeId_25 (by decide) ?_
      have C34 : ∀ (w0_5 : Int32) (H_5 : Heap) (locs_5 : List Loc), jSt (dC, dI) B base G0 G0 EX14_takeId s.heap 0 0 [(r0, 16, 40, .int w0_1), (r0, 16, 17, .ref zm), (r0, 16, 22, .ref xb), (r0, 16, 23, .ref xe)] [(zm, 117, 3100, ca 1, fs), (xb, 122, 3100, ca 1, fb), (xe, 123, 3100, ca 1, fe)] [] H_5 locs_5 → (w0_5 = 0 ∨ w0_5 = 1) → (0 ≤ w0_5.toInt ∧ w0_5.toInt ≤ 1 ∧ 0 ≤ a1.toInt ∧ (w0_5.toInt = 1 → jSo fs a1.toInt = 4)) → ∀ ls : Array Slot, lv_has ls 3 [(0, .ref r0), (1, .int a1)] → W p l e R s m ([.ref r0, .int a1] : List Value).toArray below meth c H_5 locs_5 0 0 Q (F0 m 34 ls [.int w0_5, .ref r0]) := by
        intro w0_5 H_5 locs_5 hh_5 hb_w0_5 hi_5 ls hl
        obtain ⟨hi_5_0, hi_5_1, hi_5_2, hi_5_3⟩ := hi_5
        have hb_w0_5' := jb_01 hb_w0_5
        refine j7_put hx hb hown hK hh_5 hB hAp hB16 (C := RX14) (T := TX14) (N := 74) rfl (by decide) hg_r0 (i := 36) (by decide) hly_16_36 rfl hlk_377 rfl (ty := .boolean) (v := .int w0_5) (by decide +kernel) (jb_nz (hb_w0_5)) (jb_fz (hb_w0_5)) (⟨_, rfl, (hb_w0_5)⟩) rfl (L1 := [(r0, 16, 40, .int w0_1), (r0, 16, 17, .ref zm), (r0, 16, 22, .ref xb), (r0, 16, 23, .ref xe)]) [0, 1, 2, 3] rfl rfl rfl dX14_takeId_34 (fun H_6 locs_6 hh_6 => ?_)
        clear hh_5
        refine lv_aload_n hx hb dX14_takeId_37 rfl (lv_at hl 0 rfl) ?_
        refine lv_aload_n hx hb dX14_takeId_38 rfl (lv_at hl 0 rfl) ?_
        refine j7_read hx hb hown hK (C := RX14) (T := TX14) (N := 74) rfl hly_16_36 hlk_377 (hh_6.at 0 rfl) dX14_takeId_39 ?_
        refine lv_if_eq (tgt := 49) hx hb dX14_takeId_42 (by decide) (fun c_7 => ?_) (fun c_7 => ?_)
        · skip
          have c_7' : w0_5.toInt = 0 := jb_eq (rfl) ((by decide)) c_7
          refine lv_aload_n hx hb dX14_takeId_49 rfl (lv_at hl 0 rfl) ?_
          obtain ⟨v_8, hv_8, hh_9⟩ := hh_6.pin (C := RX14) (T := TX14) (N := 74) hB16 rfl (by decide) hg_r0 (i := 25) (by decide) rfl
          clear hh_6
          obtain ⟨ints_10, rfl, hg_ints_10⟩ := hv_8
          refine j7_read hx hb hown hK (C := RX14) (T := TX14) (N := 74) rfl hly_16_25 hlk_62 (hh_9.at 0 rfl) dX14_takeId_50 ?_
          refine lv_iload_n hx hb dX14_takeId_53 rfl (lv_at hl 1 rfl) ?_
          refine j7_iald hx hb hK hh_9 hB125 1 rfl (by decide) hg_ints_10 (x := a1.toInt) (rfl) (by omega) dX14_takeId_54 (fun z_11 (hz_11 : True) => ?_)
          refine j7_put hx hb hown hK hh_9 hB hAp hB16 (C := RX14) (T := TX14) (N := 74) rfl (by decide) hg_r0 (i := 37) (by decide) hly_16_37 rfl hlk_380 rfl (ty := .int) (v := .int z_11) (by decide +kernel) rfl rfl (⟨_, rfl⟩) rfl (L1 := [(r0, 16, 25, .ref ints_10), (r0, 16, 36, .int w0_5), (r0, 16, 40, .int w0_1), (r0, 16, 17, .ref zm), (r0, 16, 22, .ref xb), (r0, 16, 23, .ref xe)]) [0, 1, 2, 3, 4, 5] rfl rfl rfl dX14_takeId_55 (fun H_12 locs_12 hh_12 => ?_)
          clear hh_9
          refine lv_aload_n hx hb dX14_takeId_58 rfl (lv_at hl 0 rfl) ?_
          refine lv_aload_n hx hb dX14_takeId_59 rfl (lv_at hl 0 rfl) ?_
          refine j7_read hx hb hown hK (C := RX14) (T := TX14) (N := 74) rfl hly_16_36 hlk_377 (hh_12.at 2 rfl) dX14_takeId_60 ?_
          refine lv_if_eq (tgt := 82) hx hb dX14_takeId_63 (by decide) (fun c_13 => ?_) (fun c_13 => ?_)
          · skip
            have c_13' : w0_5.toInt = 0 := jb_eq (rfl) ((by decide)) c_13
            refine lv_iconst (v := 0) hx hb dX14_takeId_82 (by decide) ?_
            refine j7_put hx hb hown hK hh_12 hB hAp hB16 (C := RX14) (T := TX14) (N := 74) rfl (by decide) hg_r0 (i := 39) (by decide) hly_16_39 rfl hlk_383 rfl (ty := .int) (v := .int 0) (by decide +kernel) rfl rfl (⟨_, rfl, by omega, by omega⟩) rfl (L1 := [(r0, 16, 37, .int z_11), (r0, 16, 25, .ref ints_10), (r0, 16, 36, .int w0_5), (r0, 16, 40, .int w0_1), (r0, 16, 17, .ref zm), (r0, 16, 22, .ref xb), (r0, 16, 23, .ref xe)]) [0, 1, 2, 3, 4, 5, 6] rfl rfl rfl dX14_takeId_83 (fun H_14 locs_14 hh_14 => ?_)
            clear hh_12
            refine lv_iconst (v := 0) hx hb dX14_takeId_86 (by decide) ?_
            refine lv_istore_n (lv' := [(2, .int 0), (0, .ref r0), (1, .int a1)]) hx hb dX14_takeId_87 rfl hl (by decide) rfl (fun ls hl => ?_)
            have L88 : ∀ (N : Nat) (v2_15 : Int32) (H_15 : Heap) (locs_15 : List Loc), jSt (dC, dI) B base G0 G0 EX14_takeId s.heap 0 0 [(r0, 16, 39, .int 0), (r0, 16, 37, .int z_11), (r0, 16, 25, .ref ints_10), (r0, 16, 36, .int w0_5), (r0, 16, 40, .int w0_1), (r0, 16, 17, .ref zm), (r0, 16, 22, .ref xb), (r0, 16, 23, .ref xe)] [(zm, 117, 3100, ca 1, fs), (xb, 122, 3100, ca 1, fb), (xe, 123, 3100, ca 1, fe)] [] H_15 locs_15 → (0 ≤ v2_15.toInt ∧ v2_15.toInt ≤ 20) → (20 - v2_15.toInt : Int) < N → ∀ ls : Array Slot, lv_has ls 3 [(0, .ref r0), (1, .int a1), (2, .int v2_15)] → W p l e R s m ([.ref r0, .int a1] : List Value).toArray below meth c H_15 locs_15 0 0 Q (F0 m 88 ls []) := by
              intro N
              induction N with
              | zero => intro v2_15 H_15 locs_15 hh_15  hi_15 hm; exact absurd hm (by omega)
              | succ N L88 =>
                intro v2_15 H_15 locs_15 hh_15  hi_15 hm_15 ls hl
                obtain ⟨hi_15_0, hi_15_1⟩ := hi_15
                refine lv_iload_n hx hb dX14_takeId_88 rfl (lv_at hl 2 rfl) ?_
                refine lv_aload_n hx hb dX14_takeId_89 rfl (lv_at hl 0 rfl) ?_
                refine j7_read hx hb hown hK (C := RX14) (T := TX14) (N := 74) rfl hly_16_39 hlk_383 (hh_15.at 0 rfl) dX14_takeId_90 ?_
                refine lv_icmp_ge (tgt := 121) hx hb dX14_takeId_93 (by decide) (fun c_16 => ?_) (fun c_16 => ?_)
                · skip
                  have c_16' : v2_15.toInt ≥ 0 := jb_ge (rfl) ((by decide)) c_16
                  rw [hQ]
                  exact W.vret hx hb hr (fun t ht hW => ⟨⟨(), rfl, trivial, hh_15.rt (M1 := []) [] rfl ht⟩, by rw [ht]; try exact hh_15.1.1, fun q h9 hq => by rw [ht]; try exact hh_15.1.2.1 q h9 hq⟩) hh_15.1.2.2 dX14_takeId_121
                · skip
                  have c_16' : v2_15.toInt < 0 := jb_ge_n (rfl) ((by decide)) c_16
                  refine lv_aload_n hx hb dX14_takeId_96 rfl (lv_at hl 0 rfl) ?_
                  obtain ⟨v_17, hv_17, hh_18⟩ := hh_15.pin (C := RX14) (T := TX14) (N := 74) hB16 rfl (by decide) hg_r0 (i := 38) (by decide) rfl
                  clear hh_15
                  obtain ⟨idUnits_19, rfl, hg_idUnits_19⟩ := hv_17
                  refine j7_read hx hb hown hK (C := RX14) (T := TX14) (N := 74) rfl hly_16_38 hlk_68 (hh_18.at 0 rfl) dX14_takeId_97 ?_
                  refine lv_iload_n hx hb dX14_takeId_100 rfl (lv_at hl 2 rfl) ?_
                  refine lv_aload_n hx hb dX14_takeId_101 rfl (lv_at hl 0 rfl) ?_
                  obtain ⟨v_20, hv_20, hh_21⟩ := hh_18.pin (C := RX14) (T := TX14) (N := 74) hB16 rfl (by decide) hg_r0 (i := 27) (by decide) rfl
                  clear hh_18
                  obtain ⟨pool_22, rfl, hg_pool_22⟩ := hv_20
                  refine j7_read hx hb hown hK (C := RX14) (T := TX14) (N := 74) rfl hly_16_27 hlk_65 (hh_21.at 0 rfl) dX14_takeId_102 ?_
                  refine lv_aload_n hx hb dX14_takeId_105 rfl (lv_at hl 0 rfl) ?_
                  refine j7_read hx hb hown hK (C := RX14) (T := TX14) (N := 74) rfl hly_16_22 hlk_52 (hh_21.at 8 rfl) dX14_takeId_106 ?_
                  refine lv_iload_n hx hb dX14_takeId_109 rfl (lv_at hl 1 rfl) ?_
                  refine j7_ialdM hx hb hK hh_21 hB122 1 rfl (by decide) hg_xb (x := a1.toInt) (rfl) (by omega) (j := 1) rfl dX14_takeId_110 (fun z_23 ez_23 (hz_23 : 0 ≤ z_23.toInt ∧ z_23.toInt ≤ 3100) => ?_)
                  have hqz_23 : z_23.toInt = jSo fb (a1.toInt) := by unfold jSo; rw [ez_23]
                  refine lv_iload_n hx hb dX14_takeId_111 rfl (lv_at hl 2 rfl) ?_
                  refine lv_iadd hx hb dX14_takeId_112 ?_
                  refine lv_topi (fun z_24 ez_24 => ?_)
                  have hz_24 : z_24.toInt = z_23.toInt + v2_15.toInt := by rw [ez_24]; exact jb_iadd2 (rfl) (rfl) (by omega)
                  refine j7_iald hx hb hK hh_21 hB127 1 rfl (by decide) hg_pool_22 (x := z_24.toInt) (rfl) (by omega) dX14_takeId_113 (fun z_25 (hz_25 : True) => ?_)
                  refine j7_iast hx hb hK hh_21 hB hB101 1 rfl (by decide) (by decide) rfl rfl rfl hg_idUnits_19 (x := v2_15.toInt) (rfl) (by omega) (trivial) dX14_takeId_114 (fun H_26 locs_26 hh_26 => ?_)
                  clear hh_21
                  obtain ⟨z_27, ez_27⟩ : ∃ y : Int32, y = v2_15 + 1 := ⟨_, rfl⟩
                  refine lv_iinc (v := z_27) (lv' := [(2, .int z_27), (0, .ref r0), (1, .int a1)]) hx hb dX14_takeId_115 hl (k := 2) rfl (by rw [ez_27]; rfl) (by decide) rfl (fun ls hl => ?_)
                  have hz_27 : z_27.toInt = v2_15.toInt + 1 := by rw [ez_27]; exact jb_iadd2 (rfl) (by decide) (by omega)
                  refine lv_goto (tgt := 88) hx hb dX14_takeId_118 (by decide) ?_
                  exact L88 z_27 _ _ (hh_26.sub (L1 := [(r0, 16, 39, .int 0), (r0, 16, 37, .int z_11), (r0, 16, 25, .ref ints_10), (r0, 16, 36, .int w0_5), (r0, 16, 40, .int w0_1), (r0, 16, 17, .ref zm), (r0, 16, 22, .ref xb), (r0, 16, 23, .ref xe)]) [2, 3, 4, 5, 6, 7, 8, 9] rfl (M1 := [(zm, 117, 3100, ca 1, fs), (xb, 122, 3100, ca 1, fb), (xe, 123, 3100, ca 1, fe)]) [0, 1, 2] rfl (I1 := []) [] rfl) (by first | omega | (refine ⟨?_, ?_⟩ <;> (first | omega | rfl | assumption | decide | exact Or.inl rfl | exact Or.inr rfl | (simp only; omega)))) (by omega) _ (lv_sub hl [1, 2, 0] rfl)
            exact L88 (20 - (0 : Int32).toInt : Int).toNat.succ 0 _ _ hh_14 (by first | omega | (refine ⟨?_, ?_⟩ <;> (first | omega | rfl | assumption | decide | exact Or.inl rfl | exact Or.inr rfl | (simp only; omega)))) (by omega) _ (lv_sub hl [1, 2, 0] rfl)
          · skip
            have c_13' : w0_5.toInt ≠ 0 := jb_eq_n (rfl) ((by decide)) c_13
            exact (by omega : False).elim
        · skip
          have c_7' : w0_5.toInt ≠ 0 := jb_eq_n (rfl) ((by decide)) c_7
          refine lv_iconst (v := 0) hx hb dX14_takeId_45 (by decide) ?_
          refine lv_goto (tgt := 55) hx hb dX14_takeId_46 (by decide) ?_
          refine j7_put hx hb hown hK hh_6 hB hAp hB16 (C := RX14) (T := TX14) (N := 74) rfl (by decide) hg_r0 (i := 37) (by decide) hly_16_37 rfl hlk_380 rfl (ty := .int) (v := .int 0) (by decide +kernel) rfl rfl (⟨_, rfl⟩) rfl (L1 := [(r0, 16, 36, .int w0_5), (r0, 16, 40, .int w0_1), (r0, 16, 17, .ref zm), (r0, 16, 22, .ref xb), (r0, 16, 23, .ref xe)]) [0, 1, 2, 3, 4] rfl rfl rfl dX14_takeId_55 (fun H_28 locs_28 hh_28 => ?_)
          clear hh_6
          refine lv_aload_n hx hb dX14_takeId_58 rfl (lv_at hl 0 rfl) ?_
          refine lv_aload_n hx hb dX14_takeId_59 rfl (lv_at hl 0 rfl) ?_
          refine j7_read hx hb hown hK (C := RX14) (T := TX14) (N := 74) rfl hly_16_36 hlk_377 (hh_28.at 1 rfl) dX14_takeId_60 ?_
          refine lv_if_eq (tgt := 82) hx hb dX14_takeId_63 (by decide) (fun c_29 => ?_) (fun c_29 => ?_)
          · skip
            have c_29' : w0_5.toInt = 0 := jb_eq (rfl) ((by decide)) c_29
            exact (by omega : False).elim
          · skip
            have c_29' : w0_5.toInt ≠ 0 := jb_eq_n (rfl) ((by decide)) c_29
            refine lv_aload_n hx hb dX14_takeId_66 rfl (lv_at hl 0 rfl) ?_
            refine j7_read hx hb hown hK (C := RX14) (T := TX14) (N := 74) rfl hly_16_23 hlk_55 (hh_28.at 5 rfl) dX14_takeId_67 ?_
            refine lv_iload_n hx hb dX14_takeId_70 rfl (lv_at hl 1 rfl) ?_
            refine j7_ialdM hx hb hK hh_28 hB123 1 rfl (by decide) hg_xe (x := a1.toInt) (rfl) (by omega) (j := 2) rfl dX14_takeId_71 (fun z_30 ez_30 (hz_30 : 0 ≤ z_30.toInt ∧ z_30.toInt ≤ 3100) => ?_)
            have hqz_30 : z_30.toInt = jSo fe (a1.toInt) := by unfold jSo; rw [ez_30]
            refine lv_aload_n hx hb dX14_takeId_72 rfl (lv_at hl 0 rfl) ?_
            refine j7_read hx hb hown hK (C := RX14) (T := TX14) (N := 74) rfl hly_16_22 hlk_52 (hh_28.at 4 rfl) dX14_takeId_73 ?_
            refine lv_iload_n hx hb dX14_takeId_76 rfl (lv_at hl 1 rfl) ?_
            refine j7_ialdM hx hb hK hh_28 hB122 1 rfl (by decide) hg_xb (x := a1.toInt) (rfl) (by omega) (j := 1) rfl dX14_takeId_77 (fun z_31 ez_31 (hz_31 : 0 ≤ z_31.toInt ∧ z_31.toInt ≤ 3100) => ?_)
            have hqz_31 : z_31.toInt = jSo fb (a1.toInt) := by unfold jSo; rw [ez_31]
            refine lv_isub hx hb dX14_takeId_78 ?_
            refine lv_topi (fun z_32 ez_32 => ?_)
            have hz_32 : z_32.toInt = z_30.toInt - z_31.toInt := by rw [ez_32]; exact jb_isub2 (rfl) (rfl) (by omega)
            refine lv_goto (tgt := 83) hx hb dX14_takeId_79 (by decide) ?_
            refine j7_put hx hb hown hK hh_28 hB hAp hB16 (C := RX14) (T := TX14) (N := 74) rfl (by decide) hg_r0 (i := 39) (by decide) hly_16_39 rfl hlk_383 rfl (ty := .int) (v := .int z_32) (by decide +kernel) rfl rfl (⟨_, rfl, by omega, by omega⟩) rfl (L1 := [(r0, 16, 37, .int 0), (r0, 16, 36, .int w0_5), (r0, 16, 40, .int w0_1), (r0, 16, 17, .ref zm), (r0, 16, 22, .ref xb), (r0, 16, 23, .ref xe)]) [0, 1, 2, 3, 4, 5] rfl rfl rfl dX14_takeId_83 (fun H_33 locs_33 hh_33 => ?_)
            clear hh_28
            refine lv_iconst (v := 0) hx hb dX14_takeId_86 (by decide) ?_
            refine lv_istore_n (lv' := [(2, .int 0), (0, .ref r0), (1, .int a1)]) hx hb dX14_takeId_87 rfl hl (by decide) rfl (fun ls hl => ?_)
            have L88 : ∀ (N : Nat) (v2_34 : Int32) (H_34 : Heap) (locs_34 : List Loc), jSt (dC, dI) B base G0 G0 EX14_takeId s.heap 0 0 [(r0, 16, 39, .int z_32), (r0, 16, 37, .int 0), (r0, 16, 36, .int w0_5), (r0, 16, 40, .int w0_1), (r0, 16, 17, .ref zm), (r0, 16, 22, .ref xb), (r0, 16, 23, .ref xe)] [(zm, 117, 3100, ca 1, fs), (xb, 122, 3100, ca 1, fb), (xe, 123, 3100, ca 1, fe)] [] H_34 locs_34 → (0 ≤ v2_34.toInt ∧ v2_34.toInt ≤ 20) → (20 - v2_34.toInt : Int) < N → ∀ ls : Array Slot, lv_has ls 3 [(0, .ref r0), (1, .int a1), (2, .int v2_34)] → W p l e R s m ([.ref r0, .int a1] : List Value).toArray below meth c H_34 locs_34 0 0 Q (F0 m 88 ls []) := by
              intro N
              induction N with
              | zero => intro v2_34 H_34 locs_34 hh_34  hi_34 hm; exact absurd hm (by omega)
              | succ N L88 =>
                intro v2_34 H_34 locs_34 hh_34  hi_34 hm_34 ls hl
                obtain ⟨hi_34_0, hi_34_1⟩ := hi_34
                refine lv_iload_n hx hb dX14_takeId_88 rfl (lv_at hl 2 rfl) ?_
                refine lv_aload_n hx hb dX14_takeId_89 rfl (lv_at hl 0 rfl) ?_
                refine j7_read hx hb hown hK (C := RX14) (T := TX14) (N := 74) rfl hly_16_39 hlk_383 (hh_34.at 0 rfl) dX14_takeId_90 ?_
                refine lv_icmp_ge (tgt := 121) hx hb dX14_takeId_93 (by decide) (fun c_35 => ?_) (fun c_35 => ?_)
                · skip
                  have c_35' : v2_34.toInt ≥ z_32.toInt := jb_ge (rfl) (rfl) c_35
                  rw [hQ]
                  exact W.vret hx hb hr (fun t ht hW => ⟨⟨(), rfl, trivial, hh_34.rt (M1 := []) [] rfl ht⟩, by rw [ht]; try exact hh_34.1.1, fun q h9 hq => by rw [ht]; try exact hh_34.1.2.1 q h9 hq⟩) hh_34.1.2.2 dX14_takeId_121
                · skip
                  have c_35' : v2_34.toInt < z_32.toInt := jb_ge_n (rfl) (rfl) c_35
                  refine lv_aload_n hx hb dX14_takeId_96 rfl (lv_at hl 0 rfl) ?_
                  obtain ⟨v_36, hv_36, hh_37⟩ := hh_34.pin (C := RX14) (T := TX14) (N := 74) hB16 rfl (by decide) hg_r0 (i := 38) (by decide) rfl
                  clear hh_34
                  obtain ⟨idUnits_38, rfl, hg_idUnits_38⟩ := hv_36
                  refine j7_read hx hb hown hK (C := RX14) (T := TX14) (N := 74) rfl hly_16_38 hlk_68 (hh_37.at 0 rfl) dX14_takeId_97 ?_
                  refine lv_iload_n hx hb dX14_takeId_100 rfl (lv_at hl 2 rfl) ?_
                  refine lv_aload_n hx hb dX14_takeId_101 rfl (lv_at hl 0 rfl) ?_
                  obtain ⟨v_39, hv_39, hh_40⟩ := hh_37.pin (C := RX14) (T := TX14) (N := 74) hB16 rfl (by decide) hg_r0 (i := 27) (by decide) rfl
                  clear hh_37
                  obtain ⟨pool_41, rfl, hg_pool_41⟩ := hv_39
                  refine j7_read hx hb hown hK (C := RX14) (T := TX14) (N := 74) rfl hly_16_27 hlk_65 (hh_40.at 0 rfl) dX14_takeId_102 ?_
                  refine lv_aload_n hx hb dX14_takeId_105 rfl (lv_at hl 0 rfl) ?_
                  refine j7_read hx hb hown hK (C := RX14) (T := TX14) (N := 74) rfl hly_16_22 hlk_52 (hh_40.at 7 rfl) dX14_takeId_106 ?_
                  refine lv_iload_n hx hb dX14_takeId_109 rfl (lv_at hl 1 rfl) ?_
                  refine j7_ialdM hx hb hK hh_40 hB122 1 rfl (by decide) hg_xb (x := a1.toInt) (rfl) (by omega) (j := 1) rfl dX14_takeId_110 (fun z_42 ez_42 (hz_42 : 0 ≤ z_42.toInt ∧ z_42.toInt ≤ 3100) => ?_)
                  have hqz_42 : z_42.toInt = jSo fb (a1.toInt) := by unfold jSo; rw [ez_42]
                  refine lv_iload_n hx hb dX14_takeId_111 rfl (lv_at hl 2 rfl) ?_
                  refine lv_iadd hx hb dX14_takeId_112 ?_
                  refine lv_topi (fun z_43 ez_43 => ?_)
                  have hz_43 : z_43.toInt = z_42.toInt + v2_34.toInt := by rw [ez_43]; exact jb_iadd2 (rfl) (rfl) (by omega)
                  refine j7_iald hx hb hK hh_40 hB127 1 rfl (by decide) hg_pool_41 (x := z_43.toInt) (rfl) (by omega) dX14_takeId_113 (fun z_44 (hz_44 : True) => ?_)
                  refine j7_iast hx hb hK hh_40 hB hB101 1 rfl (by decide) (by decide) rfl rfl rfl hg_idUnits_38 (x := v2_34.toInt) (rfl) (by omega) (trivial) dX14_takeId_114 (fun H_45 locs_45 hh_45 => ?_)
                  clear hh_40
                  obtain ⟨z_46, ez_46⟩ : ∃ y : Int32, y = v2_34 + 1 := ⟨_, rfl⟩
                  refine lv_iinc (v := z_46) (lv' := [(2, .int z_46), (0, .ref r0), (1, .int a1)]) hx hb dX14_takeId_115 hl (k := 2) rfl (by rw [ez_46]; rfl) (by decide) rfl (fun ls hl => ?_)
                  have hz_46 : z_46.toInt = v2_34.toInt + 1 := by rw [ez_46]; exact jb_iadd2 (rfl) (by decide) (by omega)
                  refine lv_goto (tgt := 88) hx hb dX14_takeId_118 (by decide) ?_
                  exact L88 z_46 _ _ (hh_45.sub (L1 := [(r0, 16, 39, .int z_32), (r0, 16, 37, .int 0), (r0, 16, 36, .int w0_5), (r0, 16, 40, .int w0_1), (r0, 16, 17, .ref zm), (r0, 16, 22, .ref xb), (r0, 16, 23, .ref xe)]) [2, 3, 4, 5, 6, 7, 8] rfl (M1 := [(zm, 117, 3100, ca 1, fs), (xb, 122, 3100, ca 1, fb), (xe, 123, 3100, ca 1, fe)]) [0, 1, 2] rfl (I1 := []) [] rfl) (by first | omega | (refine ⟨?_, ?_⟩ <;> (first | omega | rfl | assumption | decide | exact Or.inl rfl | exact Or.inr rfl | (simp only; omega)))) (by omega) _ (lv_sub hl [1, 2, 0] rfl)
            exact L88 (20 - (0 : Int32).toInt : Int).toNat.succ 0 _ _ hh_33 (by first | omega | (refine ⟨?_, ?_⟩ <;> (first | omega | rfl | assumption | decide | exact Or.inl rfl | exact Or.inr rfl | (simp only; omega)))) (by omega) _ (lv_sub hl [1, 2, 0] rfl)
      refine lv_icmp_ne (tgt := 33) hx hb dX14_takeId_26 (by decide) (fun c_47 => ?_) (fun c_47 => ?_)
      · skip
        have c_47' : z_4.toInt ≠ 4 := jb_ne (rfl) ((by decide)) c_47
        refine lv_iconst (v := 0) hx hb dX14_takeId_33 (by decide) ?_
        exact C34 0 _ _ hh_2 (Or.inl rfl) (by first | omega | (refine ⟨?_, ?_, ?_, ?_⟩ <;> (first | omega | rfl | assumption | decide | exact Or.inl rfl | exact Or.inr rfl | (simp only; omega)))) _ (lv_sub hl [0, 1] rfl)
      · skip
        have c_47' : z_4.toInt = 4 := jb_ne_n (rfl) ((by decide)) c_47
        refine lv_iconst (v := 1) hx hb dX14_takeId_29 (by decide) ?_
        refine lv_goto (tgt := 34) hx hb dX14_takeId_30 (by decide) ?_
        exact C34 1 _ _ hh_2 (Or.inr rfl) (by first | omega | (refine ⟨?_, ?_, ?_, ?_⟩ <;> (first | omega | rfl | assumption | decide | exact Or.inl rfl | exact Or.inr rfl | (simp only; omega)))) _ (lv_sub hl [0, 1] rfl)
    · skip
      have c_3' : a1.toInt < 0 := jb_ge_n (rfl) ((by decide)) c_3
      rw [hQ]
      exact W.vret hx hb hr (fun t ht hW => ⟨⟨(), rfl, trivial, hh_2.rt (M1 := []) [] rfl ht⟩, by rw [ht]; try exact hh_2.1.1, fun q h9 hq => by rw [ht]; try exact hh_2.1.2.1 q h9 hq⟩) hh_2.1.2.2 dX14_takeId_17
  refine lv_if_ge (tgt := 9) hx hb dX14_takeId_2 (by decide) (fun c_48 => ?_) (fun c_48 => ?_)
  · skip
    have c_48' : a1.toInt ≥ 0 := jb_ge (rfl) ((by decide)) c_48
    refine lv_iconst (v := 0) hx hb dX14_takeId_9 (by decide) ?_
    exact C10 0 _ _ hh (Or.inl rfl) (by first | omega | (refine ⟨?_, ?_⟩ <;> (first | omega | rfl | assumption | decide | exact Or.inl rfl | exact Or.inr rfl | (simp only; omega)))) _ (lv_sub hl [0, 1] rfl)
  · skip
    have c_48' : a1.toInt < 0 := jb_ge_n (rfl) ((by decide)) c_48
    refine lv_iconst (v := 1) hx hb dX14_takeId_5 (by decide) ?_
    refine lv_goto (tgt := 10) hx hb dX14_takeId_6 (by decide) ?_
    exact C10 1 _ _ hh (Or.inr rfl) (by first | omega | (refine ⟨?_, ?_⟩ <;> (first | omega | rfl | assumption | decide | exact Or.inl rfl | exact Or.inr rfl | (simp only; omega)))) _ (lv_sub hl [0, 1] rfl)
end
