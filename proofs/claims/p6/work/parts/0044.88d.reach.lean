section
theorem dX14_goalsOf_0 : decode cX14_goalsOf 0 = .ok (.aload_n 0, 1) := by decide +kernel
theorem dX14_goalsOf_1 : decode cX14_goalsOf 1 = .ok (.getfield 122, 3) := by decide +kernel
theorem dX14_goalsOf_4 : decode cX14_goalsOf 4 = .ok (.getfield 637, 3) := by decide +kernel
theorem dX14_goalsOf_7 : decode cX14_goalsOf 7 = .ok (.ifCond .ne 11, 3) := by decide +kernel
theorem dX14_goalsOf_10 : decode cX14_goalsOf 10 = .ok (.aload_n 0, 1) := by decide +kernel
theorem dX14_goalsOf_11 : decode cX14_goalsOf 11 = .ok (.ldc_w 307, 3) := by decide +kernel
theorem dX14_goalsOf_14 : decode cX14_goalsOf 14 = .ok (.invokevirtual 189, 3) := by decide +kernel
theorem dX14_goalsOf_17 : decode cX14_goalsOf 17 = .ok (.return_, 1) := by decide +kernel
theorem dX14_goalsOf_18 : decode cX14_goalsOf 18 = .ok (.aload_n 0, 1) := by decide +kernel
theorem dX14_goalsOf_19 : decode cX14_goalsOf 19 = .ok (.ldc_w 640, 3) := by decide +kernel
theorem dX14_goalsOf_22 : decode cX14_goalsOf 22 = .ok (.invokevirtual 189, 3) := by decide +kernel
theorem dX14_goalsOf_25 : decode cX14_goalsOf 25 = .ok (.aload_n 0, 1) := by decide +kernel
theorem dX14_goalsOf_26 : decode cX14_goalsOf 26 = .ok (.getfield 122, 3) := by decide +kernel
theorem dX14_goalsOf_29 : decode cX14_goalsOf 29 = .ok (.iconst 0, 1) := by decide +kernel
theorem dX14_goalsOf_30 : decode cX14_goalsOf 30 = .ok (.putfield 634, 3) := by decide +kernel
theorem dX14_goalsOf_33 : decode cX14_goalsOf 33 = .ok (.aload_n 0, 1) := by decide +kernel
theorem dX14_goalsOf_34 : decode cX14_goalsOf 34 = .ok (.getfield 122, 3) := by decide +kernel
theorem dX14_goalsOf_37 : decode cX14_goalsOf 37 = .ok (.aload_n 0, 1) := by decide +kernel
theorem dX14_goalsOf_38 : decode cX14_goalsOf 38 = .ok (.getfield 122, 3) := by decide +kernel
theorem dX14_goalsOf_41 : decode cX14_goalsOf 41 = .ok (.getfield 642, 3) := by decide +kernel
theorem dX14_goalsOf_44 : decode cX14_goalsOf 44 = .ok (.invokevirtual 645, 3) := by decide +kernel
theorem dX14_goalsOf_47 : decode cX14_goalsOf 47 = .ok (.aload_n 0, 1) := by decide +kernel
theorem dX14_goalsOf_48 : decode cX14_goalsOf 48 = .ok (.iconst 0, 1) := by decide +kernel
theorem dX14_goalsOf_49 : decode cX14_goalsOf 49 = .ok (.invokevirtual 648, 3) := by decide +kernel
theorem dX14_goalsOf_52 : decode cX14_goalsOf 52 = .ok (.aload_n 0, 1) := by decide +kernel
theorem dX14_goalsOf_53 : decode cX14_goalsOf 53 = .ok (.ldc_w 651, 3) := by decide +kernel
theorem dX14_goalsOf_56 : decode cX14_goalsOf 56 = .ok (.invokevirtual 189, 3) := by decide +kernel
theorem dX14_goalsOf_59 : decode cX14_goalsOf 59 = .ok (.iconst 0, 1) := by decide +kernel
theorem dX14_goalsOf_60 : decode cX14_goalsOf 60 = .ok (.istore_n 1, 1) := by decide +kernel
theorem dX14_goalsOf_61 : decode cX14_goalsOf 61 = .ok (.iload_n 1, 1) := by decide +kernel
theorem dX14_goalsOf_62 : decode cX14_goalsOf 62 = .ok (.aload_n 0, 1) := by decide +kernel
theorem dX14_goalsOf_63 : decode cX14_goalsOf 63 = .ok (.getfield 122, 3) := by decide +kernel
theorem dX14_goalsOf_66 : decode cX14_goalsOf 66 = .ok (.getfield 653, 3) := by decide +kernel
theorem dX14_goalsOf_69 : decode cX14_goalsOf 69 = .ok (.if_icmp .ge 32, 3) := by decide +kernel
theorem dX14_goalsOf_72 : decode cX14_goalsOf 72 = .ok (.iload_n 1, 1) := by decide +kernel
theorem dX14_goalsOf_73 : decode cX14_goalsOf 73 = .ok (.ifCond .le 9, 3) := by decide +kernel
theorem dX14_goalsOf_76 : decode cX14_goalsOf 76 = .ok (.aload_n 0, 1) := by decide +kernel
theorem dX14_goalsOf_77 : decode cX14_goalsOf 77 = .ok (.bipush 44, 2) := by decide +kernel
theorem dX14_goalsOf_79 : decode cX14_goalsOf 79 = .ok (.invokevirtual 172, 3) := by decide +kernel
theorem dX14_goalsOf_82 : decode cX14_goalsOf 82 = .ok (.aload_n 0, 1) := by decide +kernel
theorem dX14_goalsOf_83 : decode cX14_goalsOf 83 = .ok (.getfield 122, 3) := by decide +kernel
theorem dX14_goalsOf_86 : decode cX14_goalsOf 86 = .ok (.iload_n 1, 1) := by decide +kernel
theorem dX14_goalsOf_87 : decode cX14_goalsOf 87 = .ok (.invokevirtual 656, 3) := by decide +kernel
theorem dX14_goalsOf_90 : decode cX14_goalsOf 90 = .ok (.aload_n 0, 1) := by decide +kernel
theorem dX14_goalsOf_91 : decode cX14_goalsOf 91 = .ok (.iconst 0, 1) := by decide +kernel
theorem dX14_goalsOf_92 : decode cX14_goalsOf 92 = .ok (.invokevirtual 648, 3) := by decide +kernel
theorem dX14_goalsOf_95 : decode cX14_goalsOf 95 = .ok (.iinc 1 1, 3) := by decide +kernel
theorem dX14_goalsOf_98 : decode cX14_goalsOf 98 = .ok (.goto (-37), 3) := by decide +kernel
theorem dX14_goalsOf_101 : decode cX14_goalsOf 101 = .ok (.aload_n 0, 1) := by decide +kernel
theorem dX14_goalsOf_102 : decode cX14_goalsOf 102 = .ok (.ldc_w 659, 3) := by decide +kernel
theorem dX14_goalsOf_105 : decode cX14_goalsOf 105 = .ok (.invokevirtual 189, 3) := by decide +kernel
theorem dX14_goalsOf_108 : decode cX14_goalsOf 108 = .ok (.return_, 1) := by decide +kernel
theorem dX14_statementOf_0 : decode cX14_statementOf 0 = .ok (.iconst (-1), 1) := by decide +kernel
theorem dX14_statementOf_1 : decode cX14_statementOf 1 = .ok (.istore 4, 2) := by decide +kernel
theorem dX14_statementOf_3 : decode cX14_statementOf 3 = .ok (.iconst (-1), 1) := by decide +kernel
theorem dX14_statementOf_4 : decode cX14_statementOf 4 = .ok (.istore 5, 2) := by decide +kernel
theorem dX14_statementOf_6 : decode cX14_statementOf 6 = .ok (.iconst 0, 1) := by decide +kernel
theorem dX14_statementOf_7 : decode cX14_statementOf 7 = .ok (.istore 6, 2) := by decide +kernel
theorem dX14_statementOf_9 : decode cX14_statementOf 9 = .ok (.iload 6, 2) := by decide +kernel
theorem dX14_statementOf_11 : decode cX14_statementOf 11 = .ok (.aload_n 0, 1) := by decide +kernel
theorem dX14_statementOf_12 : decode cX14_statementOf 12 = .ok (.getfield 122, 3) := by decide +kernel
theorem dX14_statementOf_15 : decode cX14_statementOf 15 = .ok (.getfield 661, 3) := by decide +kernel
theorem dX14_statementOf_18 : decode cX14_statementOf 18 = .ok (.if_icmp .ge 33, 3) := by decide +kernel
theorem dX14_statementOf_21 : decode cX14_statementOf 21 = .ok (.aload_n 0, 1) := by decide +kernel
theorem dX14_statementOf_22 : decode cX14_statementOf 22 = .ok (.aload_n 0, 1) := by decide +kernel
theorem dX14_statementOf_23 : decode cX14_statementOf 23 = .ok (.getfield 122, 3) := by decide +kernel
theorem dX14_statementOf_26 : decode cX14_statementOf 26 = .ok (.getfield 664, 3) := by decide +kernel
theorem dX14_statementOf_29 : decode cX14_statementOf 29 = .ok (.iload 6, 2) := by decide +kernel
theorem dX14_statementOf_31 : decode cX14_statementOf 31 = .ok (.iaload, 1) := by decide +kernel
theorem dX14_statementOf_32 : decode cX14_statementOf 32 = .ok (.aload_n 1, 1) := by decide +kernel
theorem dX14_statementOf_33 : decode cX14_statementOf 33 = .ok (.iload_n 2, 1) := by decide +kernel
theorem dX14_statementOf_34 : decode cX14_statementOf 34 = .ok (.iload_n 3, 1) := by decide +kernel
theorem dX14_statementOf_35 : decode cX14_statementOf 35 = .ok (.invokevirtual 667, 3) := by decide +kernel
theorem dX14_statementOf_38 : decode cX14_statementOf 38 = .ok (.ifCond .eq 7, 3) := by decide +kernel
theorem dX14_statementOf_41 : decode cX14_statementOf 41 = .ok (.iload 6, 2) := by decide +kernel
theorem dX14_statementOf_43 : decode cX14_statementOf 43 = .ok (.istore 4, 2) := by decide +kernel
theorem dX14_statementOf_45 : decode cX14_statementOf 45 = .ok (.iinc 6 1, 3) := by decide +kernel
theorem dX14_statementOf_48 : decode cX14_statementOf 48 = .ok (.goto (-39), 3) := by decide +kernel
theorem dX14_statementOf_51 : decode cX14_statementOf 51 = .ok (.iconst 0, 1) := by decide +kernel
theorem dX14_statementOf_52 : decode cX14_statementOf 52 = .ok (.istore 6, 2) := by decide +kernel
theorem dX14_statementOf_54 : decode cX14_statementOf 54 = .ok (.iload 6, 2) := by decide +kernel
theorem dX14_statementOf_56 : decode cX14_statementOf 56 = .ok (.aload_n 0, 1) := by decide +kernel
theorem dX14_statementOf_57 : decode cX14_statementOf 57 = .ok (.getfield 122, 3) := by decide +kernel
theorem dX14_statementOf_60 : decode cX14_statementOf 60 = .ok (.getfield 671, 3) := by decide +kernel
theorem dX14_statementOf_63 : decode cX14_statementOf 63 = .ok (.if_icmp .ge 33, 3) := by decide +kernel
theorem dX14_statementOf_66 : decode cX14_statementOf 66 = .ok (.aload_n 0, 1) := by decide +kernel
theorem dX14_statementOf_67 : decode cX14_statementOf 67 = .ok (.aload_n 0, 1) := by decide +kernel
theorem dX14_statementOf_68 : decode cX14_statementOf 68 = .ok (.getfield 122, 3) := by decide +kernel
theorem dX14_statementOf_71 : decode cX14_statementOf 71 = .ok (.getfield 674, 3) := by decide +kernel
theorem dX14_statementOf_74 : decode cX14_statementOf 74 = .ok (.iload 6, 2) := by decide +kernel
theorem dX14_statementOf_76 : decode cX14_statementOf 76 = .ok (.iaload, 1) := by decide +kernel
theorem dX14_statementOf_77 : decode cX14_statementOf 77 = .ok (.aload_n 1, 1) := by decide +kernel
theorem dX14_statementOf_78 : decode cX14_statementOf 78 = .ok (.iload_n 2, 1) := by decide +kernel
theorem dX14_statementOf_79 : decode cX14_statementOf 79 = .ok (.iload_n 3, 1) := by decide +kernel
theorem dX14_statementOf_80 : decode cX14_statementOf 80 = .ok (.invokevirtual 667, 3) := by decide +kernel
theorem dX14_statementOf_83 : decode cX14_statementOf 83 = .ok (.ifCond .eq 7, 3) := by decide +kernel
theorem dX14_statementOf_86 : decode cX14_statementOf 86 = .ok (.iload 6, 2) := by decide +kernel
theorem dX14_statementOf_88 : decode cX14_statementOf 88 = .ok (.istore 5, 2) := by decide +kernel
theorem dX14_statementOf_90 : decode cX14_statementOf 90 = .ok (.iinc 6 1, 3) := by decide +kernel
theorem dX14_statementOf_93 : decode cX14_statementOf 93 = .ok (.goto (-39), 3) := by decide +kernel
theorem dX14_statementOf_96 : decode cX14_statementOf 96 = .ok (.iload 4, 2) := by decide +kernel
theorem dX14_statementOf_98 : decode cX14_statementOf 98 = .ok (.ifCond .lt 36, 3) := by decide +kernel
theorem dX14_statementOf_101 : decode cX14_statementOf 101 = .ok (.aload_n 0, 1) := by decide +kernel
theorem dX14_statementOf_102 : decode cX14_statementOf 102 = .ok (.getfield 122, 3) := by decide +kernel
theorem dX14_statementOf_105 : decode cX14_statementOf 105 = .ok (.iconst 0, 1) := by decide +kernel
theorem dX14_statementOf_106 : decode cX14_statementOf 106 = .ok (.putfield 634, 3) := by decide +kernel
theorem dX14_statementOf_109 : decode cX14_statementOf 109 = .ok (.aload_n 0, 1) := by decide +kernel
theorem dX14_statementOf_110 : decode cX14_statementOf 110 = .ok (.getfield 122, 3) := by decide +kernel
theorem dX14_statementOf_113 : decode cX14_statementOf 113 = .ok (.aload_n 0, 1) := by decide +kernel
theorem dX14_statementOf_114 : decode cX14_statementOf 114 = .ok (.getfield 122, 3) := by decide +kernel
theorem dX14_statementOf_117 : decode cX14_statementOf 117 = .ok (.getfield 677, 3) := by decide +kernel
theorem dX14_statementOf_120 : decode cX14_statementOf 120 = .ok (.iload 4, 2) := by decide +kernel
theorem dX14_statementOf_122 : decode cX14_statementOf 122 = .ok (.iaload, 1) := by decide +kernel
theorem dX14_statementOf_123 : decode cX14_statementOf 123 = .ok (.invokevirtual 680, 3) := by decide +kernel
theorem dX14_statementOf_126 : decode cX14_statementOf 126 = .ok (.aload_n 0, 1) := by decide +kernel
theorem dX14_statementOf_127 : decode cX14_statementOf 127 = .ok (.iconst 0, 1) := by decide +kernel
theorem dX14_statementOf_128 : decode cX14_statementOf 128 = .ok (.invokevirtual 648, 3) := by decide +kernel
theorem dX14_statementOf_131 : decode cX14_statementOf 131 = .ok (.goto 32, 3) := by decide +kernel
theorem dX14_statementOf_134 : decode cX14_statementOf 134 = .ok (.iload 5, 2) := by decide +kernel
theorem dX14_statementOf_136 : decode cX14_statementOf 136 = .ok (.ifCond .lt 20, 3) := by decide +kernel
theorem dX14_statementOf_139 : decode cX14_statementOf 139 = .ok (.aload_n 0, 1) := by decide +kernel
theorem dX14_statementOf_140 : decode cX14_statementOf 140 = .ok (.aload_n 0, 1) := by decide +kernel
theorem dX14_statementOf_141 : decode cX14_statementOf 141 = .ok (.getfield 122, 3) := by decide +kernel
theorem dX14_statementOf_144 : decode cX14_statementOf 144 = .ok (.getfield 683, 3) := by decide +kernel
theorem dX14_statementOf_147 : decode cX14_statementOf 147 = .ok (.iload 5, 2) := by decide +kernel
theorem dX14_statementOf_149 : decode cX14_statementOf 149 = .ok (.iaload, 1) := by decide +kernel
theorem dX14_statementOf_150 : decode cX14_statementOf 150 = .ok (.invokevirtual 208, 3) := by decide +kernel
theorem dX14_statementOf_153 : decode cX14_statementOf 153 = .ok (.goto 10, 3) := by decide +kernel
theorem dX14_statementOf_156 : decode cX14_statementOf 156 = .ok (.aload_n 0, 1) := by decide +kernel
theorem dX14_statementOf_157 : decode cX14_statementOf 157 = .ok (.ldc_w 307, 3) := by decide +kernel
theorem dX14_statementOf_160 : decode cX14_statementOf 160 = .ok (.invokevirtual 189, 3) := by decide +kernel
theorem dX14_statementOf_163 : decode cX14_statementOf 163 = .ok (.return_, 1) := by decide +kernel
def EX14_goalsOf : List (Nat × Nat) := [(15, 46), (15, 49), (16, 6), (101, 0), (163, 0), (164, 0)]
def EX14_statementOf : List (Nat × Nat) := [(15, 46), (15, 49), (16, 6), (101, 0), (163, 0), (164, 0)]
set_option maxHeartbeats 4000000 in
set_option maxRecDepth 20000 in
theorem uX14_goalsOf (l : Launch) (dC : Nat → ClassId) (dI : Nat → Nat → Nat) (ca : Nat → ClassId) (base : Nat) (B : jF) (hB : jBok B) (hAp : jAp (dC, dI)) (hB15 : ∀ n G a H, B 15 n G a H ↔ jOb (dC, dI) 15 50 (F15 n G) a H) (hB16 : ∀ n G a H, B 16 n G a H ↔ jOb (dC, dI) 16 74 (F16 n G) a H) (hB101 : ∀ n G a H, B 101 n G a H ↔ jAr (dC, dI) (ca 1) (fun j z => True) n a H) (hB150 : ∀ n G a H, B 150 n G a H ↔ jAr (dC, dI) (ca 1) (fun j z => True) n a H) (hB151 : ∀ n G a H, B 151 n G a H ↔ jAr (dC, dI) (ca 1) (fun j z => True) n a H) (hB152 : ∀ n G a H, B 152 n G a H ↔ jAr (dC, dI) (ca 1) (fun j z => True) n a H) (hB153 : ∀ n G a H, B 153 n G a H ↔ jAr (dC, dI) (ca 1) (fun j z => True) n a H) (hB154 : ∀ n G a H, B 154 n G a H ↔ jAr (dC, dI) (ca 1) (fun j z => True) n a H) (hB155 : ∀ n G a H, B 155 n G a H ↔ jAr (dC, dI) (ca 1) (fun j z => 0 ≤ z.toInt ∧ z.toInt ≤ 11990) n a H) (hB156 : ∀ n G a H, B 156 n G a H ↔ jAr (dC, dI) (ca 1) (fun j z => 0 ≤ z.toInt ∧ z.toInt ≤ 10) n a H) (hB158 : ∀ n G a H, B 158 n G a H ↔ jAr (dC, dI) (ca 1) (fun j z => 0 ≤ z.toInt ∧ z.toInt ≤ 6) n a H) (hB159 : ∀ n G a H, B 159 n G a H ↔ jAr (dC, dI) (ca 1) (fun j z => 0 ≤ z.toInt ∧ z.toInt ≤ 8) n a H) (hB161 : ∀ n G a H, B 161 n G a H ↔ jAr (dC, dI) (ca 1) (fun j z => 0 ≤ z.toInt ∧ z.toInt ≤ 119999) n a H) (hB162 : ∀ n G a H, B 162 n G a H ↔ jAr (dC, dI) (ca 1) (fun j z => 0 ≤ z.toInt ∧ z.toInt ≤ 119999) n a H) (hB163 : ∀ n G a H, B 163 n G a H ↔ jAr (dC, dI) (ca 1) (fun j z => 0 ≤ z.toInt ∧ z.toInt ≤ 1599) n a H) (hB164 : ∀ n G a H, B 164 n G a H ↔ jAr (dC, dI) (ca 1) (fun j z => 0 ≤ z.toInt ∧ z.toInt ≤ 100000) n a H) (hB165 : ∀ n G a H, B 165 n G a H ↔ jAr (dC, dI) (ca 1) (fun j z => 0 ≤ z.toInt ∧ z.toInt ≤ 3) n a H) (hB166 : ∀ n G a H, B 166 n G a H ↔ jAr (dC, dI) (ca 1) (fun j z => True) n a H) (G0 : jT) (H0 : Heap) (r0 : Nat) (kr : Nat) (pg : Int32) (zg : Nat) (zh : Nat) (zp : Nat) (zs : Nat) (zn : Nat) (za : Nat) (zb : Nat) (zc : Nat) (zy : Nat) (gN : Int) (gY : Int) (fg : Nat → Int32) (fh : Nat → Int32) (fp : Nat → Int32) (C : jK) : Met l yX14_goalsOf (jw yX14_goalsOf cX14_goalsOf 2 none) ({ frames := 253, cells := 0, slots := 0, locals := 8266 }) (va_Pc [.ref r0] (fun U => U.heap = H0 ∧ jX B base G0 [] H0 ∧ jG dC dI ca base U ∧ G0 r0 = some (16, 0) ∧ G0 kr = some (15, 0) ∧ G0 zg = some (161, 46) ∧ G0 zh = some (159, 46) ∧ G0 zp = some (162, 368) ∧ G0 zs = some (150, 120000) ∧ G0 zn = some (151, 120000) ∧ G0 za = some (152, 120000) ∧ G0 zb = some (153, 120000) ∧ G0 zc = some (154, 120000) ∧ G0 zy = some (165, 16) ∧ jP (dC, dI) G0 H0 [(r0, 16, 58, .ref kr), (kr, 15, 21, .int pg), (kr, 15, 22, .ref zg), (kr, 15, 25, .ref zh), (kr, 15, 27, .ref zp), (kr, 15, 0, .ref zs), (kr, 15, 1, .ref zn), (kr, 15, 2, .ref za), (kr, 15, 3, .ref zb), (kr, 15, 4, .ref zc), (kr, 15, 14, .ref zy)] ∧ jMc (dC, dI) G0 H0 [(zg, 161, 46, ca 1, fg), (zh, 159, 46, ca 1, fh), (zp, 162, 368, ca 1, fp), (zs, 150, 120000, ca 1, C.s), (zn, 151, 120000, ca 1, C.n), (za, 152, 120000, ca 1, C.a), (zb, 153, 120000, ca 1, C.b), (zc, 154, 120000, ca 1, C.c), (zy, 165, 16, ca 1, C.y)] ∧ jGl (jG1 C gN gY) fg fh fp pg.toInt ∧ 0 ≤ pg.toInt ∧ pg.toInt ≤ 6 ∧ gN ≤ 120000 ∧ gY ≤ 16)) (va_Qv (S := Unit) (fun u => True) (fun u t => jRt (dC, dI) B base G0 EX14_goalsOf H0 [] t.heap) (jA base)) 0 0 (jA base) := by
  refine Met.ofW (cc := cX14_goalsOf) (maxL := 2) (ret := none) (by decide) rfl ?_
  intro p e s m args below meth c s₁ Bd hml hv
  obtain ⟨rfl, hH0, hX, hG, hg_r0, hg_kr, hg_zg, hg_zh, hg_zp, hg_zs, hg_zn, hg_za, hg_zb, hg_zc, hg_zy, hP0, hM0, hp0, hp1, hp2, hp3, hp4⟩ := hv
  have hK := hG.1
  have hx := Bd.exec
  have hb := Bd.bytes
  have hr := Bd.returns
  have hts := atoms_spec (ws := (jw yX14_goalsOf cX14_goalsOf 2 none)) Bd.pre
  have htw : ∀ w ∈ jWl, w.before _ s = true := fun w h => hts w (List.mem_cons_of_mem _ h)
  have hown : s.vm.findClass RX14 = some m.cls := findClass_of_methodNamed Bd.named
  have hlocks := Bd.notSynchronized
  obtain ⟨Q, hQ⟩ : ∃ Q, Q = MQ below (va_Qv (S := Unit) (fun u => True) (fun u t => jRt (dC, dI) B base G0 EX14_goalsOf H0 [] t.heap) (jA base)) ([.ref r0] : List Value).toArray s 0 0 (jA base) := ⟨_, rfl⟩
  rw [← hQ]
  have hl := lv_entry ([.ref r0]) (n := 2) (Nat.le_of_ble_eq_true rfl)
  rw [lg_entry_eq]
  generalize (lg_sl ([.ref r0]) ++ List.replicate (2 - (lg_sl ([.ref r0])).length) Slot.unset).toArray = ls at hl ⊢
  have hl : lv_has ls 2 [(0, .ref r0)] := hl
  generalize hR : (headSpec (jw yX14_goalsOf cX14_goalsOf 2 none) ({ frames := 253, cells := 0, slots := 0, locals := 8266 })).room = R
  subst hH0
  have hh : jSt (dC, dI) B base G0 G0 EX14_goalsOf s.heap 0 0 [(r0, 16, 58, .ref kr), (kr, 15, 21, .int pg), (kr, 15, 22, .ref zg), (kr, 15, 25, .ref zh), (kr, 15, 27, .ref zp), (kr, 15, 0, .ref zs), (kr, 15, 1, .ref zn), (kr, 15, 2, .ref za), (kr, 15, 3, .ref zb), (kr, 15, 4, .ref zc), (kr, 15, 14, .ref zy)] [(zg, 161, 46, ca 1, fg), (zh, 159, 46, ca 1, fh), (zp, 162, 368, ca 1, fp), (zs, 150, 120000, ca 1, C.s), (zn, 151, 120000, ca 1, C.n), (za, 152, 120000, ca 1, C.a), (zb, 153, 120000, ca 1, C.b), (zc, 154, 120000, ca 1, C.c), (zy, 165, 16, ca 1, C.y)] [] s.heap [] := jSt.start hX hP0 hM0 jIs.nil
  clear hX hP0
  have hk0 : (0 : Int32).toInt = 0 := by decide
  have hk1 : (1 : Int32).toInt = 1 := by decide
  have hk44 : (44 : Int32).toInt = 44 := by decide
  have hly_15_18 := htw (u_lay RX13 TX13 18) (jWc_wsX130 _ (u_in_lay (by decide)))
  have hly_15_19 := htw (u_lay RX13 TX13 19) (jWc_wsX130 _ (u_in_lay (by decide)))
  have hly_15_21 := htw (u_lay RX13 TX13 21) (jWc_wsX130 _ (u_in_lay (by decide)))
  have hly_15_46 := htw (u_lay RX13 TX13 46) (jWc_wsX130 _ (u_in_lay (by decide)))
  have hly_16_58 := htw (u_lay RX14 TX14 58) (jWc_wsX140 _ (u_in_lay (by decide)))
  have hlk_122 := (htw (.fieldLink RX14 122 "ProofServerModel" "kernel" "LProofServerModel$Kernel;") (jWr_12 _ (List.mem_of_getElem? (i := 13) rfl)))
  have hlk_637 := (va_Nw.use (A := ([.ref r0] : List Value).toArray) rfl (hG.2.1 RX14 637 "ProofServerModel$Kernel" "proof" "Z" "ProofServerModel" (List.mem_of_getElem? (i := 1808) (by decide +kernel))))
  obtain ⟨str307, rstr307, hstr3070⟩ := hG.str (o := RX14) (k := 307) (tx := "null") (List.mem_of_getElem? (i := 2366) (by decide +kernel))
  have hstr307 : jStr base str307 4 s s.heap := hstr3070
  obtain ⟨str640, rstr640, hstr6400⟩ := hG.str (o := RX14) (k := 640) (tx := "{\"proof\":") (List.mem_of_getElem? (i := 2805) (by decide +kernel))
  have hstr640 : jStr base str640 9 s s.heap := hstr6400
  have hlk_634 := (va_Nw.use (A := ([.ref r0] : List Value).toArray) rfl (hG.2.1 RX14 634 "ProofServerModel$Kernel" "lines" "I" "ProofServerModel" (List.mem_of_getElem? (i := 1840) (by decide +kernel))))
  have hlk_642 := (va_Nw.use (A := ([.ref r0] : List Value).toArray) rfl (hG.2.1 RX14 642 "ProofServerModel$Kernel" "lemmaName" "I" "ProofServerModel" (List.mem_of_getElem? (i := 1810) (by decide +kernel))))
  obtain ⟨str651, rstr651, hstr6510⟩ := hG.str (o := RX14) (k := 651) (tx := ",\"goals\":[") (List.mem_of_getElem? (i := 2818) (by decide +kernel))
  have hstr651 : jStr base str651 10 s s.heap := hstr6510
  have hlk_653 := (va_Nw.use (A := ([.ref r0] : List Value).toArray) rfl (hG.2.1 RX14 653 "ProofServerModel$Kernel" "goals" "I" "ProofServerModel" (List.mem_of_getElem? (i := 1813) (by decide +kernel))))
  obtain ⟨str659, rstr659, hstr6590⟩ := hG.str (o := RX14) (k := 659) (tx := "]}") (List.mem_of_getElem? (i := 2869) (by decide +kernel))
  have hstr659 : jStr base str659 2 s s.heap := hstr6590
  refine lv_aload_n hx hb dX14_goalsOf_0 rfl (lv_at hl 0 rfl) ?_
  refine j7_read hx hb hown hK (C := RX14) (T := TX14) (N := 74) rfl hly_16_58 hlk_122 (hh.at 0 rfl) dX14_goalsOf_1 ?_
  obtain ⟨v_1, hv_1, hh_2⟩ := hh.pin (C := RX13) (T := TX13) (N := 50) hB15 rfl (by decide) hg_kr (i := 18) (by decide) rfl
  clear hh
  obtain ⟨proof_3, rfl, hzproof_3⟩ := hv_1
  have hzproof_3' := jb_01 hzproof_3
  refine j7_readN hx hb hown hK (C := RX13) (T := TX13) (N := 50) rfl hly_15_18 hlk_637 (hh_2.at 0 rfl) dX14_goalsOf_4 ?_
  refine lv_if_ne (tgt := 18) hx hb dX14_goalsOf_7 (by decide) (fun c_4 => ?_) (fun c_4 => ?_)
  · skip
    have c_4' : proof_3.toInt ≠ 0 := jb_ne (rfl) ((by decide)) c_4
    refine lv_aload_n hx hb dX14_goalsOf_18 rfl (lv_at hl 0 rfl) ?_
    refine j_ldcSw hx hb hown rstr640 dX14_goalsOf_19 ?_
    obtain ⟨v_7, hv_7, hh_8⟩ := hh_2.pin (C := RX14) (T := TX14) (N := 74) hB16 rfl (by decide) hg_r0 (i := 6) (by decide) rfl
    obtain ⟨framed_9, rfl, hloframed_9, hhiframed_9⟩ := hv_7
    refine va_callv (A0 := jA base) (H0 := s.heap) (va_runV (As := [.ref str640]) (rest := []) ⟨hx, hb, hml, hown, hts⟩ (uX14_word l dC dI ca base B hB hAp hB16 hB101 G0 s.heap r0 str640 9 framed_9) (cwV 1 hts (jgV (jWr_53 _ (List.mem_of_getElem? (i := 22) rfl)) (jWr_53 _ (List.mem_of_getElem? (i := 23) rfl)) (jWr_54 _ (List.mem_of_getElem? (i := 0) rfl)) (jWr_1 _ (List.mem_of_getElem? (i := 5) rfl)) (jWr_54 _ (List.mem_of_getElem? (i := 1) rfl))) rfl rfl rfl (by decide +kernel) ⟨by rw [← hR]; exact Nat.le_of_ble_eq_true rfl, by rw [← hR]; exact Nat.le_of_ble_eq_true rfl⟩) ⟨fun a U g mk q => by obtain ⟨q0, q1, q2, qK, q10, q11, q12, q13⟩ := q; exact ⟨q0, q1, q2, jG.calling g mk a qK, (q10.moved (Vm.Alike.refl U.vm)), q11, q12, q13⟩, hh_8.recv (C := RX14) (T := TX14) (N := 74) hB16 rfl (by decide) hg_r0 hK, fun U hU hW => ⟨rfl, hU, hh_8.2.1, hG.step hW hU hh_8.1, (hstr640.moved hW.alike).kept hh_8.1.2.1, hg_r0, (hh_8.2.2.1.sub (L1 := [(r0, 16, 6, .int framed_9)]) [0] rfl), by first | omega | (refine ⟨?_, ?_, ?_⟩ <;> (first | omega | rfl | assumption | decide | exact Or.inl rfl | exact Or.inr rfl | (simp only; omega)))⟩⟩ rfl rfl hl.1 rfl (lv_room (Nat.le_of_ble_eq_true rfl)) dX14_goalsOf_22 ⟨Nat.zero_le _, Nat.zero_le _⟩) hh_8.1 (fun q _ h => h) (fun q h => h) (fun u_5 t_5 H_5 locs_5 ht_5 hvm_5 hr_6 hb_5 hz_5 hk_5 hS_5 => ?_)
    obtain ⟨qf_5, rfl⟩ : ∃ z, z = u_5 := ⟨_, rfl⟩
    rw [ht_5] at hb_5
    obtain ⟨hb_51, hb_52, hb_53, hb_54, hb_55⟩ := hb_5
    have hh_5 : jSt (dC, dI) B base G0 G0 EX14_goalsOf s.heap 0 0 [(r0, 16, 6, .int qf_5), (kr, 15, 18, .int proof_3), (r0, 16, 58, .ref kr), (kr, 15, 21, .int pg), (kr, 15, 22, .ref zg), (kr, 15, 25, .ref zh), (kr, 15, 27, .ref zp), (kr, 15, 0, .ref zs), (kr, 15, 1, .ref zn), (kr, 15, 2, .ref za), (kr, 15, 3, .ref zb), (kr, 15, 4, .ref zc), (kr, 15, 14, .ref zy)] [(zg, 161, 46, ca 1, fg), (zh, 159, 46, ca 1, fh), (zp, 162, 368, ca 1, fp), (zs, 150, 120000, ca 1, C.s), (zn, 151, 120000, ca 1, C.n), (za, 152, 120000, ca 1, C.a), (zb, 153, 120000, ca 1, C.b), (zc, 154, 120000, ca 1, C.c), (zy, 165, 16, ca 1, C.y)] [] H_5 locs_5 := ((hh_8.call hb_51 hb_52 hb_53 hb_54 hS_5 rfl (L1 := [(kr, 15, 18, .int proof_3), (r0, 16, 58, .ref kr), (kr, 15, 21, .int pg), (kr, 15, 22, .ref zg), (kr, 15, 25, .ref zh), (kr, 15, 27, .ref zp), (kr, 15, 0, .ref zs), (kr, 15, 1, .ref zn), (kr, 15, 2, .ref za), (kr, 15, 3, .ref zb), (kr, 15, 4, .ref zc), (kr, 15, 14, .ref zy)]) [1, 2, 3, 4, 5, 6, 7, 8, 9, 10, 11, 12] rfl rfl (M1 := [(zg, 161, 46, ca 1, fg), (zh, 159, 46, ca 1, fh), (zp, 162, 368, ca 1, fp), (zs, 150, 120000, ca 1, C.s), (zn, 151, 120000, ca 1, C.n), (za, 152, 120000, ca 1, C.a), (zb, 153, 120000, ca 1, C.b), (zc, 154, 120000, ca 1, C.c), (zy, 165, 16, ca 1, C.y)]) [0, 1, 2, 3, 4, 5, 6, 7, 8] rfl rfl (I1 := []) [] rfl rfl).more hb_55)
    clear hh_8 ht_5 hvm_5 hz_5 hk_5 hS_5 hb_51 hb_52 hb_53 hb_54 hb_55
    obtain ⟨hr_6_0, hr_6_1⟩ := hr_6
    refine lv_aload_n hx hb dX14_goalsOf_25 rfl (lv_at hl 0 rfl) ?_
    refine j7_read hx hb hown hK (C := RX14) (T := TX14) (N := 74) rfl hly_16_58 hlk_122 (hh_5.at 2 rfl) dX14_goalsOf_26 ?_
    refine lv_iconst (v := 0) hx hb dX14_goalsOf_29 (by decide) ?_
    refine j7_putN hx hb hown hK hh_5 hB hAp hB15 (C := RX13) (T := TX13) (N := 50) rfl (by decide) hg_kr (i := 46) (by decide) hly_15_46 rfl hlk_634 rfl (ty := .int) (v := .int 0) (by decide +kernel) rfl rfl (⟨_, rfl, by omega, by omega⟩) rfl (L1 := [(r0, 16, 6, .int qf_5), (kr, 15, 18, .int proof_3), (r0, 16, 58, .ref kr), (kr, 15, 21, .int pg), (kr, 15, 22, .ref zg), (kr, 15, 25, .ref zh), (kr, 15, 27, .ref zp), (kr, 15, 0, .ref zs), (kr, 15, 1, .ref zn), (kr, 15, 2, .ref za), (kr, 15, 3, .ref zb), (kr, 15, 4, .ref zc), (kr, 15, 14, .ref zy)]) [0, 1, 2, 3, 4, 5, 6, 7, 8, 9, 10, 11, 12] rfl rfl rfl dX14_goalsOf_30 (fun H_10 locs_10 hh_10 => ?_)
    clear hh_5
    refine lv_aload_n hx hb dX14_goalsOf_33 rfl (lv_at hl 0 rfl) ?_
    refine j7_read hx hb hown hK (C := RX14) (T := TX14) (N := 74) rfl hly_16_58 hlk_122 (hh_10.at 3 rfl) dX14_goalsOf_34 ?_
    refine lv_aload_n hx hb dX14_goalsOf_37 rfl (lv_at hl 0 rfl) ?_
    refine j7_read hx hb hown hK (C := RX14) (T := TX14) (N := 74) rfl hly_16_58 hlk_122 (hh_10.at 3 rfl) dX14_goalsOf_38 ?_
    obtain ⟨v_11, hv_11, hh_12⟩ := hh_10.pin (C := RX13) (T := TX13) (N := 50) hB15 rfl (by decide) hg_kr (i := 19) (by decide) rfl
    clear hh_10
    obtain ⟨lemmaName_13, rfl, hlolemmaName_13, hhilemmaName_13⟩ := hv_11
    refine j7_readN hx hb hown hK (C := RX13) (T := TX13) (N := 50) rfl hly_15_19 hlk_642 (hh_12.at 0 rfl) dX14_goalsOf_41 ?_
    refine va_callv (A0 := jA base) (H0 := s.heap) (va_runVN (As := [.int lemmaName_13]) (rest := []) ⟨hx, hb, hml, hown, hts⟩ (uX13_putName l dC dI ca base B hB hAp hB15 hB101 hB155 hB156 hB166 G0 H_10 kr lemmaName_13) ⟨va_cnB 1 hts (jgW (jWr_70 _ (List.mem_of_getElem? (i := 5) rfl))) rfl rfl rfl (hG.2.2.1 RX14 645 yX13_putName "ProofServerModel" (List.mem_of_getElem? (i := 2806) (by decide +kernel))) (htw (.initialized RX13) (jWr_12 _ (List.mem_of_getElem? (i := 12) rfl))) (by decide +kernel) ⟨by rw [← hR]; exact Nat.le_of_ble_eq_true rfl, by rw [← hR]; exact Nat.le_of_ble_eq_true rfl⟩, htw (.instanceMethod yX13_putName) (jWr_70 _ (List.mem_of_getElem? (i := 3) rfl)), htw (.selects RX13 yX13_putName yX13_putName) (jWr_70 _ (List.mem_of_getElem? (i := 4) rfl))⟩ ⟨fun a U g mk q => by obtain ⟨q0, q1, q2, qK, q10, q11, q12⟩ := q; exact ⟨q0, q1, q2, jG.calling g mk a qK, q10, q11, q12⟩, hh_12.recv (C := RX13) (T := TX13) (N := 50) hB15 rfl (by decide) hg_kr hK, fun U hU hW => ⟨rfl, hU, hh_12.2.1, hG.step hW hU hh_12.1, hg_kr, jP.nil, by first | omega | (refine ⟨?_, ?_⟩ <;> (first | omega | rfl | assumption | decide | exact Or.inl rfl | exact Or.inr rfl | (simp only; omega)))⟩⟩ rfl rfl hl.1 rfl (lv_room (Nat.le_of_ble_eq_true rfl)) dX14_goalsOf_44 ⟨Nat.zero_le _, Nat.zero_le _⟩) hh_12.1 (fun q _ h => h) (fun q h => h) (fun u_14 t_14 H_14 locs_14 ht_14 hvm_14 hr_15 hb_14 hz_14 hk_14 hS_14 => ?_)
    rw [ht_14] at hb_14
    obtain ⟨hb_141, hb_142, hb_143, hb_144, hb_145⟩ := hb_14
    have hh_14 : jSt (dC, dI) B base G0 G0 EX14_goalsOf s.heap 0 0 [(kr, 15, 19, .int lemmaName_13), (r0, 16, 6, .int qf_5), (kr, 15, 18, .int proof_3), (r0, 16, 58, .ref kr), (kr, 15, 21, .int pg), (kr, 15, 22, .ref zg), (kr, 15, 25, .ref zh), (kr, 15, 27, .ref zp), (kr, 15, 0, .ref zs), (kr, 15, 1, .ref zn), (kr, 15, 2, .ref za), (kr, 15, 3, .ref zb), (kr, 15, 4, .ref zc), (kr, 15, 14, .ref zy)] [(zg, 161, 46, ca 1, fg), (zh, 159, 46, ca 1, fh), (zp, 162, 368, ca 1, fp), (zs, 150, 120000, ca 1, C.s), (zn, 151, 120000, ca 1, C.n), (za, 152, 120000, ca 1, C.a), (zb, 153, 120000, ca 1, C.b), (zc, 154, 120000, ca 1, C.c), (zy, 165, 16, ca 1, C.y)] [] H_14 locs_14 := ((hh_12.call hb_141 hb_142 hb_143 hb_144 hS_14 rfl (L1 := [(kr, 15, 19, .int lemmaName_13), (r0, 16, 6, .int qf_5), (kr, 15, 18, .int proof_3), (r0, 16, 58, .ref kr), (kr, 15, 21, .int pg), (kr, 15, 22, .ref zg), (kr, 15, 25, .ref zh), (kr, 15, 27, .ref zp), (kr, 15, 0, .ref zs), (kr, 15, 1, .ref zn), (kr, 15, 2, .ref za), (kr, 15, 3, .ref zb), (kr, 15, 4, .ref zc), (kr, 15, 14, .ref zy)]) [0, 2, 3, 4, 5, 6, 7, 8, 9, 10, 11, 12, 13, 14] rfl rfl (M1 := [(zg, 161, 46, ca 1, fg), (zh, 159, 46, ca 1, fh), (zp, 162, 368, ca 1, fp), (zs, 150, 120000, ca 1, C.s), (zn, 151, 120000, ca 1, C.n), (za, 152, 120000, ca 1, C.a), (zb, 153, 120000, ca 1, C.b), (zc, 154, 120000, ca 1, C.c), (zy, 165, 16, ca 1, C.y)]) [0, 1, 2, 3, 4, 5, 6, 7, 8] rfl rfl (I1 := []) [] rfl rfl).more hb_145)
    clear hh_12 ht_14 hvm_14 hz_14 hk_14 hS_14 hb_141 hb_142 hb_143 hb_144 hb_145
    refine lv_aload_n hx hb dX14_goalsOf_47 rfl (lv_at hl 0 rfl) ?_
    refine lv_iconst (v := 0) hx hb dX14_goalsOf_48 (by decide) ?_
    refine va_callv (A0 := jA base) (H0 := s.heap) (va_runV (As := [.int 0]) (rest := []) ⟨hx, hb, hml, hown, hts⟩ (uX14_putLine l dC dI ca base B hB hAp hB15 hB16 hB101 G0 H_14 r0 0) (cwV 1 hts (jgV (jWr_70 _ (List.mem_of_getElem? (i := 11) rfl)) (jWr_70 _ (List.mem_of_getElem? (i := 12) rfl)) (jWr_70 _ (List.mem_of_getElem? (i := 13) rfl)) (jWr_1 _ (List.mem_of_getElem? (i := 5) rfl)) (jWr_70 _ (List.mem_of_getElem? (i := 14) rfl))) rfl rfl rfl (by decide +kernel) ⟨by rw [← hR]; exact Nat.le_of_ble_eq_true rfl, by rw [← hR]; exact Nat.le_of_ble_eq_true rfl⟩) ⟨fun a U g mk q => by obtain ⟨q0, q1, q2, qK, q10, q11, q12⟩ := q; exact ⟨q0, q1, q2, jG.calling g mk a qK, q10, q11, q12⟩, hh_14.recv (C := RX14) (T := TX14) (N := 74) hB16 rfl (by decide) hg_r0 hK, fun U hU hW => ⟨rfl, hU, hh_14.2.1, hG.step hW hU hh_14.1, hg_r0, jP.nil, by first | omega | (refine ⟨?_, ?_⟩ <;> (first | omega | rfl | assumption | decide | exact Or.inl rfl | exact Or.inr rfl | (simp only; omega)))⟩⟩ rfl rfl hl.1 rfl (lv_room (Nat.le_of_ble_eq_true rfl)) dX14_goalsOf_49 ⟨Nat.zero_le _, Nat.zero_le _⟩) hh_14.1 (fun q _ h => h) (fun q h => h) (fun u_16 t_16 H_16 locs_16 ht_16 hvm_16 hr_17 hb_16 hz_16 hk_16 hS_16 => ?_)
    rw [ht_16] at hb_16
    obtain ⟨hb_161, hb_162, hb_163, hb_164, hb_165⟩ := hb_16
    have hh_16 : jSt (dC, dI) B base G0 G0 EX14_goalsOf s.heap 0 0 [(kr, 15, 19, .int lemmaName_13), (kr, 15, 18, .int proof_3), (r0, 16, 58, .ref kr), (kr, 15, 21, .int pg), (kr, 15, 22, .ref zg), (kr, 15, 25, .ref zh), (kr, 15, 27, .ref zp), (kr, 15, 0, .ref zs), (kr, 15, 1, .ref zn), (kr, 15, 2, .ref za), (kr, 15, 3, .ref zb), (kr, 15, 4, .ref zc), (kr, 15, 14, .ref zy)] [(zg, 161, 46, ca 1, fg), (zh, 159, 46, ca 1, fh), (zp, 162, 368, ca 1, fp), (zs, 150, 120000, ca 1, C.s), (zn, 151, 120000, ca 1, C.n), (za, 152, 120000, ca 1, C.a), (zb, 153, 120000, ca 1, C.b), (zc, 154, 120000, ca 1, C.c), (zy, 165, 16, ca 1, C.y)] [] H_16 locs_16 := ((hh_14.call hb_161 hb_162 hb_163 hb_164 hS_16 rfl (L1 := [(kr, 15, 19, .int lemmaName_13), (kr, 15, 18, .int proof_3), (r0, 16, 58, .ref kr), (kr, 15, 21, .int pg), (kr, 15, 22, .ref zg), (kr, 15, 25, .ref zh), (kr, 15, 27, .ref zp), (kr, 15, 0, .ref zs), (kr, 15, 1, .ref zn), (kr, 15, 2, .ref za), (kr, 15, 3, .ref zb), (kr, 15, 4, .ref zc), (kr, 15, 14, .ref zy)]) [0, 2, 3, 4, 5, 6, 7, 8, 9, 10, 11, 12, 13] rfl rfl (M1 := [(zg, 161, 46, ca 1, fg), (zh, 159, 46, ca 1, fh), (zp, 162, 368, ca 1, fp), (zs, 150, 120000, ca 1, C.s), (zn, 151, 120000, ca 1, C.n), (za, 152, 120000, ca 1, C.a), (zb, 153, 120000, ca 1, C.b), (zc, 154, 120000, ca 1, C.c), (zy, 165, 16, ca 1, C.y)]) [0, 1, 2, 3, 4, 5, 6, 7, 8] rfl rfl (I1 := []) [] rfl rfl).more hb_165)
    clear hh_14 ht_16 hvm_16 hz_16 hk_16 hS_16 hb_161 hb_162 hb_163 hb_164 hb_165
    refine lv_aload_n hx hb dX14_goalsOf_52 rfl (lv_at hl 0 rfl) ?_
    refine j_ldcSw hx hb hown rstr651 dX14_goalsOf_53 ?_
    obtain ⟨v_20, hv_20, hh_21⟩ := hh_16.pin (C := RX14) (T := TX14) (N := 74) hB16 rfl (by decide) hg_r0 (i := 6) (by decide) rfl
    obtain ⟨framed_22, rfl, hloframed_22, hhiframed_22⟩ := hv_20
    refine va_callv (A0 := jA base) (H0 := s.heap) (va_runV (As := [.ref str651]) (rest := []) ⟨hx, hb, hml, hown, hts⟩ (uX14_word l dC dI ca base B hB hAp hB16 hB101 G0 H_16 r0 str651 10 framed_22) (cwV 1 hts (jgV (jWr_53 _ (List.mem_of_getElem? (i := 22) rfl)) (jWr_53 _ (List.mem_of_getElem? (i := 23) rfl)) (jWr_54 _ (List.mem_of_getElem? (i := 0) rfl)) (jWr_1 _ (List.mem_of_getElem? (i := 5) rfl)) (jWr_54 _ (List.mem_of_getElem? (i := 1) rfl))) rfl rfl rfl (by decide +kernel) ⟨by rw [← hR]; exact Nat.le_of_ble_eq_true rfl, by rw [← hR]; exact Nat.le_of_ble_eq_true rfl⟩) ⟨fun a U g mk q => by obtain ⟨q0, q1, q2, qK, q10, q11, q12, q13⟩ := q; exact ⟨q0, q1, q2, jG.calling g mk a qK, (q10.moved (Vm.Alike.refl U.vm)), q11, q12, q13⟩, hh_21.recv (C := RX14) (T := TX14) (N := 74) hB16 rfl (by decide) hg_r0 hK, fun U hU hW => ⟨rfl, hU, hh_21.2.1, hG.step hW hU hh_21.1, (hstr651.moved hW.alike).kept hh_21.1.2.1, hg_r0, (hh_21.2.2.1.sub (L1 := [(r0, 16, 6, .int framed_22)]) [0] rfl), by first | omega | (refine ⟨?_, ?_, ?_⟩ <;> (first | omega | rfl | assumption | decide | exact Or.inl rfl | exact Or.inr rfl | (simp only; omega)))⟩⟩ rfl rfl hl.1 rfl (lv_room (Nat.le_of_ble_eq_true rfl)) dX14_goalsOf_56 ⟨Nat.zero_le _, Nat.zero_le _⟩) hh_21.1 (fun q _ h => h) (fun q h => h) (fun u_18 t_18 H_18 locs_18 ht_18 hvm_18 hr_19 hb_18 hz_18 hk_18 hS_18 => ?_)
    obtain ⟨qf_18, rfl⟩ : ∃ z, z = u_18 := ⟨_, rfl⟩
    rw [ht_18] at hb_18
    obtain ⟨hb_181, hb_182, hb_183, hb_184, hb_185⟩ := hb_18
    have hh_18 : jSt (dC, dI) B base G0 G0 EX14_goalsOf s.heap 0 0 [(r0, 16, 6, .int qf_18), (kr, 15, 19, .int lemmaName_13), (kr, 15, 18, .int proof_3), (r0, 16, 58, .ref kr), (kr, 15, 21, .int pg), (kr, 15, 22, .ref zg), (kr, 15, 25, .ref zh), (kr, 15, 27, .ref zp), (kr, 15, 0, .ref zs), (kr, 15, 1, .ref zn), (kr, 15, 2, .ref za), (kr, 15, 3, .ref zb), (kr, 15, 4, .ref zc), (kr, 15, 14, .ref zy)] [(zg, 161, 46, ca 1, fg), (zh, 159, 46, ca 1, fh), (zp, 162, 368, ca 1, fp), (zs, 150, 120000, ca 1, C.s), (zn, 151, 120000, ca 1, C.n), (za, 152, 120000, ca 1, C.a), (zb, 153, 120000, ca 1, C.b), (zc, 154, 120000, ca 1, C.c), (zy, 165, 16, ca 1, C.y)] [] H_18 locs_18 := ((hh_21.call hb_181 hb_182 hb_183 hb_184 hS_18 rfl (L1 := [(kr, 15, 19, .int lemmaName_13), (kr, 15, 18, .int proof_3), (r0, 16, 58, .ref kr), (kr, 15, 21, .int pg), (kr, 15, 22, .ref zg), (kr, 15, 25, .ref zh), (kr, 15, 27, .ref zp), (kr, 15, 0, .ref zs), (kr, 15, 1, .ref zn), (kr, 15, 2, .ref za), (kr, 15, 3, .ref zb), (kr, 15, 4, .ref zc), (kr, 15, 14, .ref zy)]) [1, 2, 3, 4, 5, 6, 7, 8, 9, 10, 11, 12, 13] rfl rfl (M1 := [(zg, 161, 46, ca 1, fg), (zh, 159, 46, ca 1, fh), (zp, 162, 368, ca 1, fp), (zs, 150, 120000, ca 1, C.s), (zn, 151, 120000, ca 1, C.n), (za, 152, 120000, ca 1, C.a), (zb, 153, 120000, ca 1, C.b), (zc, 154, 120000, ca 1, C.c), (zy, 165, 16, ca 1, C.y)]) [0, 1, 2, 3, 4, 5, 6, 7, 8] rfl rfl (I1 := []) [] rfl rfl).more hb_185)
    clear hh_21 ht_18 hvm_18 hz_18 hk_18 hS_18 hb_181 hb_182 hb_183 hb_184 hb_185
    obtain ⟨hr_19_0, hr_19_1⟩ := hr_19
    refine lv_iconst (v := 0) hx hb dX14_goalsOf_59 (by decide) ?_
    refine lv_istore_n (lv' := [(1, .int 0), (0, .ref r0)]) hx hb dX14_goalsOf_60 rfl hl (by decide) rfl (fun ls hl => ?_)
    have L61 : ∀ (N : Nat) (v1_23 : Int32) (H_23 : Heap) (locs_23 : List Loc), jSt (dC, dI) B base G0 G0 EX14_goalsOf s.heap 0 0 [(kr, 15, 19, .int lemmaName_13), (kr, 15, 18, .int proof_3), (r0, 16, 58, .ref kr), (kr, 15, 21, .int pg), (kr, 15, 22, .ref zg), (kr, 15, 25, .ref zh), (kr, 15, 27, .ref zp), (kr, 15, 0, .ref zs), (kr, 15, 1, .ref zn), (kr, 15, 2, .ref za), (kr, 15, 3, .ref zb), (kr, 15, 4, .ref zc), (kr, 15, 14, .ref zy)] [(zg, 161, 46, ca 1, fg), (zh, 159, 46, ca 1, fh), (zp, 162, 368, ca 1, fp), (zs, 150, 120000, ca 1, C.s), (zn, 151, 120000, ca 1, C.n), (za, 152, 120000, ca 1, C.a), (zb, 153, 120000, ca 1, C.b), (zc, 154, 120000, ca 1, C.c), (zy, 165, 16, ca 1, C.y)] [] H_23 locs_23 → (0 ≤ v1_23.toInt ∧ v1_23.toInt ≤ pg.toInt) → (pg.toInt - v1_23.toInt : Int) < N → ∀ ls : Array Slot, lv_has ls 2 [(0, .ref r0), (1, .int v1_23)] → W p l e R s m ([.ref r0] : List Value).toArray below meth c H_23 locs_23 0 0 Q (F0 m 61 ls []) := by
      intro N
      induction N with
      | zero => intro v1_23 H_23 locs_23 hh_23  hi_23 hm; exact absurd hm (by omega)
      | succ N L61 =>
        intro v1_23 H_23 locs_23 hh_23  hi_23 hm_23 ls hl
        obtain ⟨hi_23_0, hi_23_1⟩ := hi_23
        refine lv_iload_n hx hb dX14_goalsOf_61 rfl (lv_at hl 1 rfl) ?_
        refine lv_aload_n hx hb dX14_goalsOf_62 rfl (lv_at hl 0 rfl) ?_
        refine j7_read hx hb hown hK (C := RX14) (T := TX14) (N := 74) rfl hly_16_58 hlk_122 (hh_23.at 2 rfl) dX14_goalsOf_63 ?_
        refine j7_readN hx hb hown hK (C := RX13) (T := TX13) (N := 50) rfl hly_15_21 hlk_653 (hh_23.at 3 rfl) dX14_goalsOf_66 ?_
        refine lv_icmp_ge (tgt := 101) hx hb dX14_goalsOf_69 (by decide) (fun c_24 => ?_) (fun c_24 => ?_)
        · skip
          have c_24' : v1_23.toInt ≥ pg.toInt := jb_ge (rfl) (rfl) c_24
          refine lv_aload_n hx hb dX14_goalsOf_101 rfl (lv_at hl 0 rfl) ?_
          refine j_ldcSw hx hb hown rstr659 dX14_goalsOf_102 ?_
          obtain ⟨v_27, hv_27, hh_28⟩ := hh_23.pin (C := RX14) (T := TX14) (N := 74) hB16 rfl (by decide) hg_r0 (i := 6) (by decide) rfl
          obtain ⟨framed_29, rfl, hloframed_29, hhiframed_29⟩ := hv_27
          refine va_callv (A0 := jA base) (H0 := s.heap) (va_runV (As := [.ref str659]) (rest := []) ⟨hx, hb, hml, hown, hts⟩ (uX14_word l dC dI ca base B hB hAp hB16 hB101 G0 H_23 r0 str659 2 framed_29) (cwV 1 hts (jgV (jWr_53 _ (List.mem_of_getElem? (i := 22) rfl)) (jWr_53 _ (List.mem_of_getElem? (i := 23) rfl)) (jWr_54 _ (List.mem_of_getElem? (i := 0) rfl)) (jWr_1 _ (List.mem_of_getElem? (i := 5) rfl)) (jWr_54 _ (List.mem_of_getElem? (i := 1) rfl))) rfl rfl rfl (by decide +kernel) ⟨by rw [← hR]; exact Nat.le_of_ble_eq_true rfl, by rw [← hR]; exact Nat.le_of_ble_eq_true rfl⟩) ⟨fun a U g mk q => by obtain ⟨q0, q1, q2, qK, q10, q11, q12, q13⟩ := q; exact ⟨q0, q1, q2, jG.calling g mk a qK, (q10.moved (Vm.Alike.refl U.vm)), q11, q12, q13⟩, hh_28.recv (C := RX14) (T := TX14) (N := 74) hB16 rfl (by decide) hg_r0 hK, fun U hU hW => ⟨rfl, hU, hh_28.2.1, hG.step hW hU hh_28.1, (hstr659.moved hW.alike).kept hh_28.1.2.1, hg_r0, (hh_28.2.2.1.sub (L1 := [(r0, 16, 6, .int framed_29)]) [0] rfl), by first | omega | (refine ⟨?_, ?_, ?_⟩ <;> (first | omega | rfl | assumption | decide | exact Or.inl rfl | exact Or.inr rfl | (simp only; omega)))⟩⟩ rfl rfl hl.1 rfl (lv_room (Nat.le_of_ble_eq_true rfl)) dX14_goalsOf_105 ⟨Nat.zero_le _, Nat.zero_le _⟩) hh_28.1 (fun q _ h => h) (fun q h => h) (fun u_25 t_25 H_25 locs_25 ht_25 hvm_25 hr_26 hb_25 hz_25 hk_25 hS_25 => ?_)
          obtain ⟨qf_25, rfl⟩ : ∃ z, z = u_25 := ⟨_, rfl⟩
          rw [ht_25] at hb_25
          obtain ⟨hb_251, hb_252, hb_253, hb_254, hb_255⟩ := hb_25
          have hh_25 : jSt (dC, dI) B base G0 G0 EX14_goalsOf s.heap 0 0 [(r0, 16, 6, .int qf_25), (kr, 15, 19, .int lemmaName_13), (kr, 15, 18, .int proof_3), (r0, 16, 58, .ref kr), (kr, 15, 21, .int pg), (kr, 15, 22, .ref zg), (kr, 15, 25, .ref zh), (kr, 15, 27, .ref zp), (kr, 15, 0, .ref zs), (kr, 15, 1, .ref zn), (kr, 15, 2, .ref za), (kr, 15, 3, .ref zb), (kr, 15, 4, .ref zc), (kr, 15, 14, .ref zy)] [(zg, 161, 46, ca 1, fg), (zh, 159, 46, ca 1, fh), (zp, 162, 368, ca 1, fp), (zs, 150, 120000, ca 1, C.s), (zn, 151, 120000, ca 1, C.n), (za, 152, 120000, ca 1, C.a), (zb, 153, 120000, ca 1, C.b), (zc, 154, 120000, ca 1, C.c), (zy, 165, 16, ca 1, C.y)] [] H_25 locs_25 := ((hh_28.call hb_251 hb_252 hb_253 hb_254 hS_25 rfl (L1 := [(kr, 15, 19, .int lemmaName_13), (kr, 15, 18, .int proof_3), (r0, 16, 58, .ref kr), (kr, 15, 21, .int pg), (kr, 15, 22, .ref zg), (kr, 15, 25, .ref zh), (kr, 15, 27, .ref zp), (kr, 15, 0, .ref zs), (kr, 15, 1, .ref zn), (kr, 15, 2, .ref za), (kr, 15, 3, .ref zb), (kr, 15, 4, .ref zc), (kr, 15, 14, .ref zy)]) [1, 2, 3, 4, 5, 6, 7, 8, 9, 10, 11, 12, 13] rfl rfl (M1 := [(zg, 161, 46, ca 1, fg), (zh, 159, 46, ca 1, fh), (zp, 162, 368, ca 1, fp), (zs, 150, 120000, ca 1, C.s), (zn, 151, 120000, ca 1, C.n), (za, 152, 120000, ca 1, C.a), (zb, 153, 120000, ca 1, C.b), (zc, 154, 120000, ca 1, C.c), (zy, 165, 16, ca 1, C.y)]) [0, 1, 2, 3, 4, 5, 6, 7, 8] rfl rfl (I1 := []) [] rfl rfl).more hb_255)
          clear hh_28 ht_25 hvm_25 hz_25 hk_25 hS_25 hb_251 hb_252 hb_253 hb_254 hb_255
          obtain ⟨hr_26_0, hr_26_1⟩ := hr_26
          rw [hQ]
          exact W.vret hx hb hr (fun t ht hW => ⟨⟨(), rfl, trivial, hh_25.rt (M1 := []) [] rfl ht⟩, by rw [ht]; try exact hh_25.1.1, fun q h9 hq => by rw [ht]; try exact hh_25.1.2.1 q h9 hq⟩) hh_25.1.2.2 dX14_goalsOf_108
        · skip
          have c_24' : v1_23.toInt < pg.toInt := jb_ge_n (rfl) (rfl) c_24
          refine lv_iload_n hx hb dX14_goalsOf_72 rfl (lv_at hl 1 rfl) ?_
          refine lv_if_le (tgt := 82) hx hb dX14_goalsOf_73 (by decide) (fun c_30 => ?_) (fun c_30 => ?_)
          · skip
            have c_30' : v1_23.toInt ≤ 0 := jb_le (rfl) ((by decide)) c_30
            refine lv_aload_n hx hb dX14_goalsOf_82 rfl (lv_at hl 0 rfl) ?_
            refine j7_read hx hb hown hK (C := RX14) (T := TX14) (N := 74) rfl hly_16_58 hlk_122 (hh_23.at 2 rfl) dX14_goalsOf_83 ?_
            refine lv_iload_n hx hb dX14_goalsOf_86 rfl (lv_at hl 1 rfl) ?_
            refine va_callv (A0 := jA base) (H0 := s.heap) (va_runV (As := [.int v1_23]) (rest := []) ⟨hx, hb, hml, hown, hts⟩ (uX13_printGoal l dC dI ca base B hB hAp hB15 hB101 hB150 hB151 hB152 hB153 hB154 hB155 hB156 hB158 hB159 hB161 hB162 hB163 hB164 hB165 hB166 G0 H_23 kr v1_23 zg zh zp zs zn za zb zc zy gN gY fg fh fp C) (cwV 1 hts (jgV (jWr_70 _ (List.mem_of_getElem? (i := 15) rfl)) (jWr_70 _ (List.mem_of_getElem? (i := 16) rfl)) (jWr_70 _ (List.mem_of_getElem? (i := 17) rfl)) (jWr_12 _ (List.mem_of_getElem? (i := 12) rfl)) (jWr_70 _ (List.mem_of_getElem? (i := 18) rfl))) rfl rfl rfl (by decide +kernel) ⟨by rw [← hR]; exact Nat.le_of_ble_eq_true rfl, by rw [← hR]; exact Nat.le_of_ble_eq_true rfl⟩) ⟨fun a U g mk q => by obtain ⟨q0, q1, q2, qK, q10, q11, q12, q13, q14, q15, q16, q17, q18, q19, q20, q21, q22⟩ := q; exact ⟨q0, q1, q2, jG.calling g mk a qK, q10, q11, q12, q13, q14, q15, q16, q17, q18, q19, q20, q21, q22⟩, hh_23.recv (C := RX13) (T := TX13) (N := 50) hB15 rfl (by decide) hg_kr hK, fun U hU hW => ⟨rfl, hU, hh_23.2.1, hG.step hW hU hh_23.1, hg_kr, hg_zg, hg_zh, hg_zp, hg_zs, hg_zn, hg_za, hg_zb, hg_zc, hg_zy, (hh_23.2.2.1.sub (L1 := [(kr, 15, 22, .ref zg), (kr, 15, 25, .ref zh), (kr, 15, 27, .ref zp), (kr, 15, 0, .ref zs), (kr, 15, 1, .ref zn), (kr, 15, 2, .ref za), (kr, 15, 3, .ref zb), (kr, 15, 4, .ref zc), (kr, 15, 14, .ref zy)]) [4, 5, 6, 7, 8, 9, 10, 11, 12] rfl), (hh_23.2.2.2.2.2.2.2.1.sub (L1 := [(zg, 161, 46, ca 1, fg), (zh, 159, 46, ca 1, fh), (zp, 162, 368, ca 1, fp), (zs, 150, 120000, ca 1, C.s), (zn, 151, 120000, ca 1, C.n), (za, 152, 120000, ca 1, C.a), (zb, 153, 120000, ca 1, C.b), (zc, 154, 120000, ca 1, C.c), (zy, 165, 16, ca 1, C.y)]) [0, 1, 2, 3, 4, 5, 6, 7, 8] rfl), ⟨(by first | assumption | exact hp0 _ (by omega) (by omega) | omega), (by first | omega | rfl | assumption | exact hp0 _ (by omega) (by omega)), (by first | omega | rfl | assumption | exact hp0 _ (by omega) (by omega)), (by first | omega | rfl | assumption | exact hp0 _ (by omega) (by omega)), (by first | omega | rfl | assumption | exact hp0 _ (by omega) (by omega))⟩⟩⟩ rfl rfl hl.1 rfl (lv_room (Nat.le_of_ble_eq_true rfl)) dX14_goalsOf_87 ⟨Nat.zero_le _, Nat.zero_le _⟩) hh_23.1 (fun q _ h => h) (fun q h => h) (fun u_31 t_31 H_31 locs_31 ht_31 hvm_31 hr_32 hb_31 hz_31 hk_31 hS_31 => ?_)
            rw [ht_31] at hb_31
            obtain ⟨hb_311, hb_312, hb_313, hb_314, hb_315⟩ := hb_31
            have hh_31 : jSt (dC, dI) B base G0 G0 EX14_goalsOf s.heap 0 0 [(kr, 15, 19, .int lemmaName_13), (kr, 15, 18, .int proof_3), (r0, 16, 58, .ref kr), (kr, 15, 21, .int pg), (kr, 15, 22, .ref zg), (kr, 15, 25, .ref zh), (kr, 15, 27, .ref zp), (kr, 15, 0, .ref zs), (kr, 15, 1, .ref zn), (kr, 15, 2, .ref za), (kr, 15, 3, .ref zb), (kr, 15, 4, .ref zc), (kr, 15, 14, .ref zy)] [(zg, 161, 46, ca 1, fg), (zh, 159, 46, ca 1, fh), (zp, 162, 368, ca 1, fp), (zs, 150, 120000, ca 1, C.s), (zn, 151, 120000, ca 1, C.n), (za, 152, 120000, ca 1, C.a), (zb, 153, 120000, ca 1, C.b), (zc, 154, 120000, ca 1, C.c), (zy, 165, 16, ca 1, C.y)] [] H_31 locs_31 := ((hh_23.call hb_311 hb_312 hb_313 hb_314 hS_31 rfl (L1 := [(kr, 15, 19, .int lemmaName_13), (kr, 15, 18, .int proof_3), (r0, 16, 58, .ref kr), (kr, 15, 21, .int pg), (kr, 15, 22, .ref zg), (kr, 15, 25, .ref zh), (kr, 15, 27, .ref zp), (kr, 15, 0, .ref zs), (kr, 15, 1, .ref zn), (kr, 15, 2, .ref za), (kr, 15, 3, .ref zb), (kr, 15, 4, .ref zc), (kr, 15, 14, .ref zy)]) [0, 1, 2, 3, 4, 5, 6, 7, 8, 9, 10, 11, 12] rfl rfl (M1 := [(zg, 161, 46, ca 1, fg), (zh, 159, 46, ca 1, fh), (zp, 162, 368, ca 1, fp), (zs, 150, 120000, ca 1, C.s), (zn, 151, 120000, ca 1, C.n), (za, 152, 120000, ca 1, C.a), (zb, 153, 120000, ca 1, C.b), (zc, 154, 120000, ca 1, C.c), (zy, 165, 16, ca 1, C.y)]) [0, 1, 2, 3, 4, 5, 6, 7, 8] rfl rfl (I1 := []) [] rfl rfl).more hb_315)
            clear hh_23 ht_31 hvm_31 hz_31 hk_31 hS_31 hb_311 hb_312 hb_313 hb_314 hb_315
            refine lv_aload_n hx hb dX14_goalsOf_90 rfl (lv_at hl 0 rfl) ?_
            refine lv_iconst (v := 0) hx hb dX14_goalsOf_91 (by decide) ?_
            refine va_callv (A0 := jA base) (H0 := s.heap) (va_runV (As := [.int 0]) (rest := []) ⟨hx, hb, hml, hown, hts⟩ (uX14_putLine l dC dI ca base B hB hAp hB15 hB16 hB101 G0 H_31 r0 0) (cwV 1 hts (jgV (jWr_70 _ (List.mem_of_getElem? (i := 11) rfl)) (jWr_70 _ (List.mem_of_getElem? (i := 12) rfl)) (jWr_70 _ (List.mem_of_getElem? (i := 13) rfl)) (jWr_1 _ (List.mem_of_getElem? (i := 5) rfl)) (jWr_70 _ (List.mem_of_getElem? (i := 14) rfl))) rfl rfl rfl (by decide +kernel) ⟨by rw [← hR]; exact Nat.le_of_ble_eq_true rfl, by rw [← hR]; exact Nat.le_of_ble_eq_true rfl⟩) ⟨fun a U g mk q => by obtain ⟨q0, q1, q2, qK, q10, q11, q12⟩ := q; exact ⟨q0, q1, q2, jG.calling g mk a qK, q10, q11, q12⟩, hh_31.recv (C := RX14) (T := TX14) (N := 74) hB16 rfl (by decide) hg_r0 hK, fun U hU hW => ⟨rfl, hU, hh_31.2.1, hG.step hW hU hh_31.1, hg_r0, jP.nil, by first | omega | (refine ⟨?_, ?_⟩ <;> (first | omega | rfl | assumption | decide | exact Or.inl rfl | exact Or.inr rfl | (simp only; omega)))⟩⟩ rfl rfl hl.1 rfl (lv_room (Nat.le_of_ble_eq_true rfl)) dX14_goalsOf_92 ⟨Nat.zero_le _, Nat.zero_le _⟩) hh_31.1 (fun q _ h => h) (fun q h => h) (fun u_33 t_33 H_33 locs_33 ht_33 hvm_33 hr_34 hb_33 hz_33 hk_33 hS_33 => ?_)
            rw [ht_33] at hb_33
            obtain ⟨hb_331, hb_332, hb_333, hb_334, hb_335⟩ := hb_33
            have hh_33 : jSt (dC, dI) B base G0 G0 EX14_goalsOf s.heap 0 0 [(kr, 15, 19, .int lemmaName_13), (kr, 15, 18, .int proof_3), (r0, 16, 58, .ref kr), (kr, 15, 21, .int pg), (kr, 15, 22, .ref zg), (kr, 15, 25, .ref zh), (kr, 15, 27, .ref zp), (kr, 15, 0, .ref zs), (kr, 15, 1, .ref zn), (kr, 15, 2, .ref za), (kr, 15, 3, .ref zb), (kr, 15, 4, .ref zc), (kr, 15, 14, .ref zy)] [(zg, 161, 46, ca 1, fg), (zh, 159, 46, ca 1, fh), (zp, 162, 368, ca 1, fp), (zs, 150, 120000, ca 1, C.s), (zn, 151, 120000, ca 1, C.n), (za, 152, 120000, ca 1, C.a), (zb, 153, 120000, ca 1, C.b), (zc, 154, 120000, ca 1, C.c), (zy, 165, 16, ca 1, C.y)] [] H_33 locs_33 := ((hh_31.call hb_331 hb_332 hb_333 hb_334 hS_33 rfl (L1 := [(kr, 15, 19, .int lemmaName_13), (kr, 15, 18, .int proof_3), (r0, 16, 58, .ref kr), (kr, 15, 21, .int pg), (kr, 15, 22, .ref zg), (kr, 15, 25, .ref zh), (kr, 15, 27, .ref zp), (kr, 15, 0, .ref zs), (kr, 15, 1, .ref zn), (kr, 15, 2, .ref za), (kr, 15, 3, .ref zb), (kr, 15, 4, .ref zc), (kr, 15, 14, .ref zy)]) [0, 1, 2, 3, 4, 5, 6, 7, 8, 9, 10, 11, 12] rfl rfl (M1 := [(zg, 161, 46, ca 1, fg), (zh, 159, 46, ca 1, fh), (zp, 162, 368, ca 1, fp), (zs, 150, 120000, ca 1, C.s), (zn, 151, 120000, ca 1, C.n), (za, 152, 120000, ca 1, C.a), (zb, 153, 120000, ca 1, C.b), (zc, 154, 120000, ca 1, C.c), (zy, 165, 16, ca 1, C.y)]) [0, 1, 2, 3, 4, 5, 6, 7, 8] rfl rfl (I1 := []) [] rfl rfl).more hb_335)
            clear hh_31 ht_33 hvm_33 hz_33 hk_33 hS_33 hb_331 hb_332 hb_333 hb_334 hb_335
            obtain ⟨z_35, ez_35⟩ : ∃ y : Int32, y = v1_23 + 1 := ⟨_, rfl⟩
            refine lv_iinc (v := z_35) (lv' := [(1, .int z_35), (0, .ref r0)]) hx hb dX14_goalsOf_95 hl (k := 1) rfl (by rw [ez_35]; rfl) (by decide) rfl (fun ls hl => ?_)
            have hz_35 : z_35.toInt = v1_23.toInt + 1 := by rw [ez_35]; exact jb_iadd2 (rfl) (by decide) (by omega)
            refine lv_goto (tgt := 61) hx hb dX14_goalsOf_98 (by decide) ?_
            exact L61 z_35 _ _ hh_33 (by first | omega | (refine ⟨?_, ?_⟩ <;> (first | omega | rfl | assumption | decide | exact Or.inl rfl | exact Or.inr rfl | (simp only; omega)))) (by omega) _ (lv_sub hl [1, 0] rfl)
          · skip
            have c_30' : v1_23.toInt > 0 := jb_le_n (rfl) ((by decide)) c_30
            refine lv_aload_n hx hb dX14_goalsOf_76 rfl (lv_at hl 0 rfl) ?_
            refine lv_bipush (v := 44) hx hb dX14_goalsOf_77 (by decide) ?_
            obtain ⟨v_38, hv_38, hh_39⟩ := hh_23.pin (C := RX14) (T := TX14) (N := 74) hB16 rfl (by decide) hg_r0 (i := 6) (by decide) rfl
            obtain ⟨framed_40, rfl, hloframed_40, hhiframed_40⟩ := hv_38
            refine va_callv (A0 := jA base) (H0 := s.heap) (va_runV (As := [.int 44]) (rest := []) ⟨hx, hb, hml, hown, hts⟩ (uX14_put l dC dI ca base B hB hAp hB16 hB101 G0 H_23 r0 44 framed_40) (cwV 1 hts (jgV (jWr_54 _ (List.mem_of_getElem? (i := 2) rfl)) (jWr_54 _ (List.mem_of_getElem? (i := 3) rfl)) (jWr_54 _ (List.mem_of_getElem? (i := 4) rfl)) (jWr_1 _ (List.mem_of_getElem? (i := 5) rfl)) (jWr_54 _ (List.mem_of_getElem? (i := 5) rfl))) rfl rfl rfl (by decide +kernel) ⟨by rw [← hR]; exact Nat.le_of_ble_eq_true rfl, by rw [← hR]; exact Nat.le_of_ble_eq_true rfl⟩) ⟨fun a U g mk q => by obtain ⟨q0, q1, q2, qK, q10, q11, q12⟩ := q; exact ⟨q0, q1, q2, jG.calling g mk a qK, q10, q11, q12⟩, hh_39.recv (C := RX14) (T := TX14) (N := 74) hB16 rfl (by decide) hg_r0 hK, fun U hU hW => ⟨rfl, hU, hh_39.2.1, hG.step hW hU hh_39.1, hg_r0, (hh_39.2.2.1.sub (L1 := [(r0, 16, 6, .int framed_40)]) [0] rfl), by first | omega | (refine ⟨?_, ?_⟩ <;> (first | omega | rfl | assumption | decide | exact Or.inl rfl | exact Or.inr rfl | (simp only; omega)))⟩⟩ rfl rfl hl.1 rfl (lv_room (Nat.le_of_ble_eq_true rfl)) dX14_goalsOf_79 ⟨Nat.zero_le _, Nat.zero_le _⟩) hh_39.1 (fun q _ h => h) (fun q h => h) (fun u_36 t_36 H_36 locs_36 ht_36 hvm_36 hr_37 hb_36 hz_36 hk_36 hS_36 => ?_)
            obtain ⟨qf_36, rfl⟩ : ∃ z, z = u_36 := ⟨_, rfl⟩
            rw [ht_36] at hb_36
            obtain ⟨hb_361, hb_362, hb_363, hb_364, hb_365⟩ := hb_36
            have hh_36 : jSt (dC, dI) B base G0 G0 EX14_goalsOf s.heap 0 0 [(r0, 16, 6, .int qf_36), (kr, 15, 19, .int lemmaName_13), (kr, 15, 18, .int proof_3), (r0, 16, 58, .ref kr), (kr, 15, 21, .int pg), (kr, 15, 22, .ref zg), (kr, 15, 25, .ref zh), (kr, 15, 27, .ref zp), (kr, 15, 0, .ref zs), (kr, 15, 1, .ref zn), (kr, 15, 2, .ref za), (kr, 15, 3, .ref zb), (kr, 15, 4, .ref zc), (kr, 15, 14, .ref zy)] [(zg, 161, 46, ca 1, fg), (zh, 159, 46, ca 1, fh), (zp, 162, 368, ca 1, fp), (zs, 150, 120000, ca 1, C.s), (zn, 151, 120000, ca 1, C.n), (za, 152, 120000, ca 1, C.a), (zb, 153, 120000, ca 1, C.b), (zc, 154, 120000, ca 1, C.c), (zy, 165, 16, ca 1, C.y)] [] H_36 locs_36 := ((hh_39.call hb_361 hb_362 hb_363 hb_364 hS_36 rfl (L1 := [(kr, 15, 19, .int lemmaName_13), (kr, 15, 18, .int proof_3), (r0, 16, 58, .ref kr), (kr, 15, 21, .int pg), (kr, 15, 22, .ref zg), (kr, 15, 25, .ref zh), (kr, 15, 27, .ref zp), (kr, 15, 0, .ref zs), (kr, 15, 1, .ref zn), (kr, 15, 2, .ref za), (kr, 15, 3, .ref zb), (kr, 15, 4, .ref zc), (kr, 15, 14, .ref zy)]) [1, 2, 3, 4, 5, 6, 7, 8, 9, 10, 11, 12, 13] rfl rfl (M1 := [(zg, 161, 46, ca 1, fg), (zh, 159, 46, ca 1, fh), (zp, 162, 368, ca 1, fp), (zs, 150, 120000, ca 1, C.s), (zn, 151, 120000, ca 1, C.n), (za, 152, 120000, ca 1, C.a), (zb, 153, 120000, ca 1, C.b), (zc, 154, 120000, ca 1, C.c), (zy, 165, 16, ca 1, C.y)]) [0, 1, 2, 3, 4, 5, 6, 7, 8] rfl rfl (I1 := []) [] rfl rfl).more hb_365)
            clear hh_39 ht_36 hvm_36 hz_36 hk_36 hS_36 hb_361 hb_362 hb_363 hb_364 hb_365
            obtain ⟨hr_37_0, hr_37_1⟩ := hr_37
            refine lv_aload_n hx hb dX14_goalsOf_82 rfl (lv_at hl 0 rfl) ?_
            refine j7_read hx hb hown hK (C := RX14) (T := TX14) (N := 74) rfl hly_16_58 hlk_122 (hh_36.at 3 rfl) dX14_goalsOf_83 ?_
            refine lv_iload_n hx hb dX14_goalsOf_86 rfl (lv_at hl 1 rfl) ?_
            refine va_callv (A0 := jA base) (H0 := s.heap) (va_runV (As := [.int v1_23]) (rest := []) ⟨hx, hb, hml, hown, hts⟩ (uX13_printGoal l dC dI ca base B hB hAp hB15 hB101 hB150 hB151 hB152 hB153 hB154 hB155 hB156 hB158 hB159 hB161 hB162 hB163 hB164 hB165 hB166 G0 H_36 kr v1_23 zg zh zp zs zn za zb zc zy gN gY fg fh fp C) (cwV 1 hts (jgV (jWr_70 _ (List.mem_of_getElem? (i := 15) rfl)) (jWr_70 _ (List.mem_of_getElem? (i := 16) rfl)) (jWr_70 _ (List.mem_of_getElem? (i := 17) rfl)) (jWr_12 _ (List.mem_of_getElem? (i := 12) rfl)) (jWr_70 _ (List.mem_of_getElem? (i := 18) rfl))) rfl rfl rfl (by decide +kernel) ⟨by rw [← hR]; exact Nat.le_of_ble_eq_true rfl, by rw [← hR]; exact Nat.le_of_ble_eq_true rfl⟩) ⟨fun a U g mk q => by obtain ⟨q0, q1, q2, qK, q10, q11, q12, q13, q14, q15, q16, q17, q18, q19, q20, q21, q22⟩ := q; exact ⟨q0, q1, q2, jG.calling g mk a qK, q10, q11, q12, q13, q14, q15, q16, q17, q18, q19, q20, q21, q22⟩, hh_36.recv (C := RX13) (T := TX13) (N := 50) hB15 rfl (by decide) hg_kr hK, fun U hU hW => ⟨rfl, hU, hh_36.2.1, hG.step hW hU hh_36.1, hg_kr, hg_zg, hg_zh, hg_zp, hg_zs, hg_zn, hg_za, hg_zb, hg_zc, hg_zy, (hh_36.2.2.1.sub (L1 := [(kr, 15, 22, .ref zg), (kr, 15, 25, .ref zh), (kr, 15, 27, .ref zp), (kr, 15, 0, .ref zs), (kr, 15, 1, .ref zn), (kr, 15, 2, .ref za), (kr, 15, 3, .ref zb), (kr, 15, 4, .ref zc), (kr, 15, 14, .ref zy)]) [5, 6, 7, 8, 9, 10, 11, 12, 13] rfl), (hh_36.2.2.2.2.2.2.2.1.sub (L1 := [(zg, 161, 46, ca 1, fg), (zh, 159, 46, ca 1, fh), (zp, 162, 368, ca 1, fp), (zs, 150, 120000, ca 1, C.s), (zn, 151, 120000, ca 1, C.n), (za, 152, 120000, ca 1, C.a), (zb, 153, 120000, ca 1, C.b), (zc, 154, 120000, ca 1, C.c), (zy, 165, 16, ca 1, C.y)]) [0, 1, 2, 3, 4, 5, 6, 7, 8] rfl), ⟨(by first | assumption | exact hp0 _ (by omega) (by omega) | omega), (by first | omega | rfl | assumption | exact hp0 _ (by omega) (by omega)), (by first | omega | rfl | assumption | exact hp0 _ (by omega) (by omega)), (by first | omega | rfl | assumption | exact hp0 _ (by omega) (by omega)), (by first | omega | rfl | assumption | exact hp0 _ (by omega) (by omega))⟩⟩⟩ rfl rfl hl.1 rfl (lv_room (Nat.le_of_ble_eq_true rfl)) dX14_goalsOf_87 ⟨Nat.zero_le _, Nat.zero_le _⟩) hh_36.1 (fun q _ h => h) (fun q h => h) (fun u_41 t_41 H_41 locs_41 ht_41 hvm_41 hr_42 hb_41 hz_41 hk_41 hS_41 => ?_)
            rw [ht_41] at hb_41
            obtain ⟨hb_411, hb_412, hb_413, hb_414, hb_415⟩ := hb_41
            have hh_41 : jSt (dC, dI) B base G0 G0 EX14_goalsOf s.heap 0 0 [(r0, 16, 6, .int qf_36), (kr, 15, 19, .int lemmaName_13), (kr, 15, 18, .int proof_3), (r0, 16, 58, .ref kr), (kr, 15, 21, .int pg), (kr, 15, 22, .ref zg), (kr, 15, 25, .ref zh), (kr, 15, 27, .ref zp), (kr, 15, 0, .ref zs), (kr, 15, 1, .ref zn), (kr, 15, 2, .ref za), (kr, 15, 3, .ref zb), (kr, 15, 4, .ref zc), (kr, 15, 14, .ref zy)] [(zg, 161, 46, ca 1, fg), (zh, 159, 46, ca 1, fh), (zp, 162, 368, ca 1, fp), (zs, 150, 120000, ca 1, C.s), (zn, 151, 120000, ca 1, C.n), (za, 152, 120000, ca 1, C.a), (zb, 153, 120000, ca 1, C.b), (zc, 154, 120000, ca 1, C.c), (zy, 165, 16, ca 1, C.y)] [] H_41 locs_41 := ((hh_36.call hb_411 hb_412 hb_413 hb_414 hS_41 rfl (L1 := [(r0, 16, 6, .int qf_36), (kr, 15, 19, .int lemmaName_13), (kr, 15, 18, .int proof_3), (r0, 16, 58, .ref kr), (kr, 15, 21, .int pg), (kr, 15, 22, .ref zg), (kr, 15, 25, .ref zh), (kr, 15, 27, .ref zp), (kr, 15, 0, .ref zs), (kr, 15, 1, .ref zn), (kr, 15, 2, .ref za), (kr, 15, 3, .ref zb), (kr, 15, 4, .ref zc), (kr, 15, 14, .ref zy)]) [0, 1, 2, 3, 4, 5, 6, 7, 8, 9, 10, 11, 12, 13] rfl rfl (M1 := [(zg, 161, 46, ca 1, fg), (zh, 159, 46, ca 1, fh), (zp, 162, 368, ca 1, fp), (zs, 150, 120000, ca 1, C.s), (zn, 151, 120000, ca 1, C.n), (za, 152, 120000, ca 1, C.a), (zb, 153, 120000, ca 1, C.b), (zc, 154, 120000, ca 1, C.c), (zy, 165, 16, ca 1, C.y)]) [0, 1, 2, 3, 4, 5, 6, 7, 8] rfl rfl (I1 := []) [] rfl rfl).more hb_415)
            clear hh_36 ht_41 hvm_41 hz_41 hk_41 hS_41 hb_411 hb_412 hb_413 hb_414 hb_415
            refine lv_aload_n hx hb dX14_goalsOf_90 rfl (lv_at hl 0 rfl) ?_
            refine lv_iconst (v := 0) hx hb dX14_goalsOf_91 (by decide) ?_
            refine va_callv (A0 := jA base) (H0 := s.heap) (va_runV (As := [.int 0]) (rest := []) ⟨hx, hb, hml, hown, hts⟩ (uX14_putLine l dC dI ca base B hB hAp hB15 hB16 hB101 G0 H_41 r0 0) (cwV 1 hts (jgV (jWr_70 _ (List.mem_of_getElem? (i := 11) rfl)) (jWr_70 _ (List.mem_of_getElem? (i := 12) rfl)) (jWr_70 _ (List.mem_of_getElem? (i := 13) rfl)) (jWr_1 _ (List.mem_of_getElem? (i := 5) rfl)) (jWr_70 _ (List.mem_of_getElem? (i := 14) rfl))) rfl rfl rfl (by decide +kernel) ⟨by rw [← hR]; exact Nat.le_of_ble_eq_true rfl, by rw [← hR]; exact Nat.le_of_ble_eq_true rfl⟩) ⟨fun a U g mk q => by obtain ⟨q0, q1, q2, qK, q10, q11, q12⟩ := q; exact ⟨q0, q1, q2, jG.calling g mk a qK, q10, q11, q12⟩, hh_41.recv (C := RX14) (T := TX14) (N := 74) hB16 rfl (by decide) hg_r0 hK, fun U hU hW => ⟨rfl, hU, hh_41.2.1, hG.step hW hU hh_41.1, hg_r0, jP.nil, by first | omega | (refine ⟨?_, ?_⟩ <;> (first | omega | rfl | assumption | decide | exact Or.inl rfl | exact Or.inr rfl | (simp only; omega)))⟩⟩ rfl rfl hl.1 rfl (lv_room (Nat.le_of_ble_eq_true rfl)) dX14_goalsOf_92 ⟨Nat.zero_le _, Nat.zero_le _⟩) hh_41.1 (fun q _ h => h) (fun q h => h) (fun u_43 t_43 H_43 locs_43 ht_43 hvm_43 hr_44 hb_43 hz_43 hk_43 hS_43 => ?_)
            rw [ht_43] at hb_43
            obtain ⟨hb_431, hb_432, hb_433, hb_434, hb_435⟩ := hb_43
            have hh_43 : jSt (dC, dI) B base G0 G0 EX14_goalsOf s.heap 0 0 [(kr, 15, 19, .int lemmaName_13), (kr, 15, 18, .int proof_3), (r0, 16, 58, .ref kr), (kr, 15, 21, .int pg), (kr, 15, 22, .ref zg), (kr, 15, 25, .ref zh), (kr, 15, 27, .ref zp), (kr, 15, 0, .ref zs), (kr, 15, 1, .ref zn), (kr, 15, 2, .ref za), (kr, 15, 3, .ref zb), (kr, 15, 4, .ref zc), (kr, 15, 14, .ref zy)] [(zg, 161, 46, ca 1, fg), (zh, 159, 46, ca 1, fh), (zp, 162, 368, ca 1, fp), (zs, 150, 120000, ca 1, C.s), (zn, 151, 120000, ca 1, C.n), (za, 152, 120000, ca 1, C.a), (zb, 153, 120000, ca 1, C.b), (zc, 154, 120000, ca 1, C.c), (zy, 165, 16, ca 1, C.y)] [] H_43 locs_43 := ((hh_41.call hb_431 hb_432 hb_433 hb_434 hS_43 rfl (L1 := [(kr, 15, 19, .int lemmaName_13), (kr, 15, 18, .int proof_3), (r0, 16, 58, .ref kr), (kr, 15, 21, .int pg), (kr, 15, 22, .ref zg), (kr, 15, 25, .ref zh), (kr, 15, 27, .ref zp), (kr, 15, 0, .ref zs), (kr, 15, 1, .ref zn), (kr, 15, 2, .ref za), (kr, 15, 3, .ref zb), (kr, 15, 4, .ref zc), (kr, 15, 14, .ref zy)]) [1, 2, 3, 4, 5, 6, 7, 8, 9, 10, 11, 12, 13] rfl rfl (M1 := [(zg, 161, 46, ca 1, fg), (zh, 159, 46, ca 1, fh), (zp, 162, 368, ca 1, fp), (zs, 150, 120000, ca 1, C.s), (zn, 151, 120000, ca 1, C.n), (za, 152, 120000, ca 1, C.a), (zb, 153, 120000, ca 1, C.b), (zc, 154, 120000, ca 1, C.c), (zy, 165, 16, ca 1, C.y)]) [0, 1, 2, 3, 4, 5, 6, 7, 8] rfl rfl (I1 := []) [] rfl rfl).more hb_435)
            clear hh_41 ht_43 hvm_43 hz_43 hk_43 hS_43 hb_431 hb_432 hb_433 hb_434 hb_435
            obtain ⟨z_45, ez_45⟩ : ∃ y : Int32, y = v1_23 + 1 := ⟨_, rfl⟩
            refine lv_iinc (v := z_45) (lv' := [(1, .int z_45), (0, .ref r0)]) hx hb dX14_goalsOf_95 hl (k := 1) rfl (by rw [ez_45]; rfl) (by decide) rfl (fun ls hl => ?_)
            have hz_45 : z_45.toInt = v1_23.toInt + 1 := by rw [ez_45]; exact jb_iadd2 (rfl) (by decide) (by omega)
            refine lv_goto (tgt := 61) hx hb dX14_goalsOf_98 (by decide) ?_
            exact L61 z_45 _ _ hh_43 (by first | omega | (refine ⟨?_, ?_⟩ <;> (first | omega | rfl | assumption | decide | exact Or.inl rfl | exact Or.inr rfl | (simp only; omega)))) (by omega) _ (lv_sub hl [1, 0] rfl)
    exact L61 (pg.toInt - (0 : Int32).toInt : Int).toNat.succ 0 _ _ (hh_18.sub (L1 := [(kr, 15, 19, .int lemmaName_13), (kr, 15, 18, .int proof_3), (r0, 16, 58, .ref kr), (kr, 15, 21, .int pg), (kr, 15, 22, .ref zg), (kr, 15, 25, .ref zh), (kr, 15, 27, .ref zp), (kr, 15, 0, .ref zs), (kr, 15, 1, .ref zn), (kr, 15, 2, .ref za), (kr, 15, 3, .ref zb), (kr, 15, 4, .ref zc), (kr, 15, 14, .ref zy)]) [1, 2, 3, 4, 5, 6, 7, 8, 9, 10, 11, 12, 13] rfl (M1 := [(zg, 161, 46, ca 1, fg), (zh, 159, 46, ca 1, fh), (zp, 162, 368, ca 1, fp), (zs, 150, 120000, ca 1, C.s), (zn, 151, 120000, ca 1, C.n), (za, 152, 120000, ca 1, C.a), (zb, 153, 120000, ca 1, C.b), (zc, 154, 120000, ca 1, C.c), (zy, 165, 16, ca 1, C.y)]) [0, 1, 2, 3, 4, 5, 6, 7, 8] rfl (I1 := []) [] rfl) (by first | omega | (refine ⟨?_, ?_⟩ <;> (first | omega | rfl | assumption | decide | exact Or.inl rfl | exact Or.inr rfl | (simp only; omega)))) (by omega) _ (lv_sub hl [1, 0] rfl)
  · skip
    have c_4' : proof_3.toInt = 0 := jb_ne_n (rfl) ((by decide)) c_4
    refine lv_aload_n hx hb dX14_goalsOf_10 rfl (lv_at hl 0 rfl) ?_
    refine j_ldcSw hx hb hown rstr307 dX14_goalsOf_11 ?_
    obtain ⟨v_48, hv_48, hh_49⟩ := hh_2.pin (C := RX14) (T := TX14) (N := 74) hB16 rfl (by decide) hg_r0 (i := 6) (by decide) rfl
    obtain ⟨framed_50, rfl, hloframed_50, hhiframed_50⟩ := hv_48
    refine va_callv (A0 := jA base) (H0 := s.heap) (va_runV (As := [.ref str307]) (rest := []) ⟨hx, hb, hml, hown, hts⟩ (uX14_word l dC dI ca base B hB hAp hB16 hB101 G0 s.heap r0 str307 4 framed_50) (cwV 1 hts (jgV (jWr_53 _ (List.mem_of_getElem? (i := 22) rfl)) (jWr_53 _ (List.mem_of_getElem? (i := 23) rfl)) (jWr_54 _ (List.mem_of_getElem? (i := 0) rfl)) (jWr_1 _ (List.mem_of_getElem? (i := 5) rfl)) (jWr_54 _ (List.mem_of_getElem? (i := 1) rfl))) rfl rfl rfl (by decide +kernel) ⟨by rw [← hR]; exact Nat.le_of_ble_eq_true rfl, by rw [← hR]; exact Nat.le_of_ble_eq_true rfl⟩) ⟨fun a U g mk q => by obtain ⟨q0, q1, q2, qK, q10, q11, q12, q13⟩ := q; exact ⟨q0, q1, q2, jG.calling g mk a qK, (q10.moved (Vm.Alike.refl U.vm)), q11, q12, q13⟩, hh_49.recv (C := RX14) (T := TX14) (N := 74) hB16 rfl (by decide) hg_r0 hK, fun U hU hW => ⟨rfl, hU, hh_49.2.1, hG.step hW hU hh_49.1, (hstr307.moved hW.alike).kept hh_49.1.2.1, hg_r0, (hh_49.2.2.1.sub (L1 := [(r0, 16, 6, .int framed_50)]) [0] rfl), by first | omega | (refine ⟨?_, ?_, ?_⟩ <;> (first | omega | rfl | assumption | decide | exact Or.inl rfl | exact Or.inr rfl | (simp only; omega)))⟩⟩ rfl rfl hl.1 rfl (lv_room (Nat.le_of_ble_eq_true rfl)) dX14_goalsOf_14 ⟨Nat.zero_le _, Nat.zero_le _⟩) hh_49.1 (fun q _ h => h) (fun q h => h) (fun u_46 t_46 H_46 locs_46 ht_46 hvm_46 hr_47 hb_46 hz_46 hk_46 hS_46 => ?_)
    obtain ⟨qf_46, rfl⟩ : ∃ z, z = u_46 := ⟨_, rfl⟩
    rw [ht_46] at hb_46
    obtain ⟨hb_461, hb_462, hb_463, hb_464, hb_465⟩ := hb_46
    have hh_46 : jSt (dC, dI) B base G0 G0 EX14_goalsOf s.heap 0 0 [(r0, 16, 6, .int qf_46), (kr, 15, 18, .int proof_3), (r0, 16, 58, .ref kr), (kr, 15, 21, .int pg), (kr, 15, 22, .ref zg), (kr, 15, 25, .ref zh), (kr, 15, 27, .ref zp), (kr, 15, 0, .ref zs), (kr, 15, 1, .ref zn), (kr, 15, 2, .ref za), (kr, 15, 3, .ref zb), (kr, 15, 4, .ref zc), (kr, 15, 14, .ref zy)] [(zg, 161, 46, ca 1, fg), (zh, 159, 46, ca 1, fh), (zp, 162, 368, ca 1, fp), (zs, 150, 120000, ca 1, C.s), (zn, 151, 120000, ca 1, C.n), (za, 152, 120000, ca 1, C.a), (zb, 153, 120000, ca 1, C.b), (zc, 154, 120000, ca 1, C.c), (zy, 165, 16, ca 1, C.y)] [] H_46 locs_46 := ((hh_49.call hb_461 hb_462 hb_463 hb_464 hS_46 rfl (L1 := [(kr, 15, 18, .int proof_3), (r0, 16, 58, .ref kr), (kr, 15, 21, .int pg), (kr, 15, 22, .ref zg), (kr, 15, 25, .ref zh), (kr, 15, 27, .ref zp), (kr, 15, 0, .ref zs), (kr, 15, 1, .ref zn), (kr, 15, 2, .ref za), (kr, 15, 3, .ref zb), (kr, 15, 4, .ref zc), (kr, 15, 14, .ref zy)]) [1, 2, 3, 4, 5, 6, 7, 8, 9, 10, 11, 12] rfl rfl (M1 := [(zg, 161, 46, ca 1, fg), (zh, 159, 46, ca 1, fh), (zp, 162, 368, ca 1, fp), (zs, 150, 120000, ca 1, C.s), (zn, 151, 120000, ca 1, C.n), (za, 152, 120000, ca 1, C.a), (zb, 153, 120000, ca 1, C.b), (zc, 154, 120000, ca 1, C.c), (zy, 165, 16, ca 1, C.y)]) [0, 1, 2, 3, 4, 5, 6, 7, 8] rfl rfl (I1 := []) [] rfl rfl).more hb_465)
    clear hh_49 ht_46 hvm_46 hz_46 hk_46 hS_46 hb_461 hb_462 hb_463 hb_464 hb_465
    obtain ⟨hr_47_0, hr_47_1⟩ := hr_47
    rw [hQ]
    exact W.vret hx hb hr (fun t ht hW => ⟨⟨(), rfl, trivial, hh_46.rt (M1 := []) [] rfl ht⟩, by rw [ht]; try exact hh_46.1.1, fun q h9 hq => by rw [ht]; try exact hh_46.1.2.1 q h9 hq⟩) hh_46.1.2.2 dX14_goalsOf_17
set_option maxHeartbeats 4000000 in
set_option maxRecDepth 20000 in
theorem uX14_statementOf (l : Launch) (dC : Nat → ClassId) (dI : Nat → Nat → Nat) (ca : Nat → ClassId) (base : Nat) (B : jF) (hB : jBok B) (hAp : jAp (dC, dI)) (hB15 : ∀ n G a H, B 15 n G a H ↔ jOb (dC, dI) 15 50 (F15 n G) a H) (hB16 : ∀ n G a H, B 16 n G a H ↔ jOb (dC, dI) 16 74 (F16 n G) a H) (hB101 : ∀ n G a H, B 101 n G a H ↔ jAr (dC, dI) (ca 1) (fun j z => True) n a H) (hB150 : ∀ n G a H, B 150 n G a H ↔ jAr (dC, dI) (ca 1) (fun j z => True) n a H) (hB151 : ∀ n G a H, B 151 n G a H ↔ jAr (dC, dI) (ca 1) (fun j z => True) n a H) (hB152 : ∀ n G a H, B 152 n G a H ↔ jAr (dC, dI) (ca 1) (fun j z => True) n a H) (hB153 : ∀ n G a H, B 153 n G a H ↔ jAr (dC, dI) (ca 1) (fun j z => True) n a H) (hB154 : ∀ n G a H, B 154 n G a H ↔ jAr (dC, dI) (ca 1) (fun j z => True) n a H) (hB155 : ∀ n G a H, B 155 n G a H ↔ jAr (dC, dI) (ca 1) (fun j z => 0 ≤ z.toInt ∧ z.toInt ≤ 11990) n a H) (hB156 : ∀ n G a H, B 156 n G a H ↔ jAr (dC, dI) (ca 1) (fun j z => 0 ≤ z.toInt ∧ z.toInt ≤ 10) n a H) (hB160 : ∀ n G a H, B 160 n G a H ↔ jAr (dC, dI) (ca 1) (fun j z => 0 ≤ z.toInt ∧ z.toInt ≤ 119999) n a H) (hB163 : ∀ n G a H, B 163 n G a H ↔ jAr (dC, dI) (ca 1) (fun j z => 0 ≤ z.toInt ∧ z.toInt ≤ 1599) n a H) (hB164 : ∀ n G a H, B 164 n G a H ↔ jAr (dC, dI) (ca 1) (fun j z => 0 ≤ z.toInt ∧ z.toInt ≤ 100000) n a H) (hB165 : ∀ n G a H, B 165 n G a H ↔ jAr (dC, dI) (ca 1) (fun j z => 0 ≤ z.toInt ∧ z.toInt ≤ 3) n a H) (hB166 : ∀ n G a H, B 166 n G a H ↔ jAr (dC, dI) (ca 1) (fun j z => True) n a H) (G0 : jT) (H0 : Heap) (r0 : Nat) (r1 : Nat) (a2 : Int32) (a3 : Int32) (n1 : Nat) (kr : Nat) (pf : Int32) (py : Int32) (zf : Nat) (zs : Nat) (zn : Nat) (za : Nat) (zb : Nat) (zc : Nat) (zy : Nat) (gN : Int) (gY : Int) (ff : Nat → Int32) (C : jK) : Met l yX14_statementOf (jw yX14_statementOf cX14_statementOf 7 none) ({ frames := 252, cells := 0, slots := 0, locals := 8244 }) (va_Pc [.ref r0, .ref r1, .int a2, .int a3] (fun U => U.heap = H0 ∧ jX B base G0 [] H0 ∧ jG dC dI ca base U ∧ G0 r1 = some (101, n1) ∧ G0 r0 = some (16, 0) ∧ G0 kr = some (15, 0) ∧ G0 zf = some (160, 16) ∧ G0 zs = some (150, 120000) ∧ G0 zn = some (151, 120000) ∧ G0 za = some (152, 120000) ∧ G0 zb = some (153, 120000) ∧ G0 zc = some (154, 120000) ∧ G0 zy = some (165, 16) ∧ jP (dC, dI) G0 H0 [(r0, 16, 58, .ref kr), (kr, 15, 15, .int pf), (kr, 15, 11, .int py), (kr, 15, 17, .ref zf), (kr, 15, 0, .ref zs), (kr, 15, 1, .ref zn), (kr, 15, 2, .ref za), (kr, 15, 3, .ref zb), (kr, 15, 4, .ref zc), (kr, 15, 14, .ref zy)] ∧ jMc (dC, dI) G0 H0 [(zf, 160, 16, ca 1, ff), (zs, 150, 120000, ca 1, C.s), (zn, 151, 120000, ca 1, C.n), (za, 152, 120000, ca 1, C.a), (zb, 153, 120000, ca 1, C.b), (zc, 154, 120000, ca 1, C.c), (zy, 165, 16, ca 1, C.y)] ∧ jFa (jG1 C gN gY) ff pf.toInt ∧ 0 ≤ pf.toInt ∧ pf.toInt ≤ 16 ∧ 0 ≤ py.toInt ∧ py.toInt ≤ 16 ∧ gN ≤ 120000 ∧ gY ≤ 16 ∧ 0 ≤ a2.toInt ∧ a2.toInt + a3.toInt ≤ n1 ∧ n1 ≤ 200000)) (va_Qv (S := Unit) (fun u => True) (fun u t => jRt (dC, dI) B base G0 EX14_statementOf H0 [] t.heap) (jA base)) 0 0 (jA base) := by
  refine Met.ofW (cc := cX14_statementOf) (maxL := 7) (ret := none) (by decide) rfl ?_
  intro p e s m args below meth c s₁ Bd hml hv
  obtain ⟨rfl, hH0, hX, hG, hg_r1, hg_r0, hg_kr, hg_zf, hg_zs, hg_zn, hg_za, hg_zb, hg_zc, hg_zy, hP0, hM0, hp0, hp1, hp2, hp3, hp4, hp5, hp6, hp7, hp8, hp9⟩ := hv
  have hK := hG.1
  have hx := Bd.exec
  have hb := Bd.bytes
  have hr := Bd.returns
  have hts := atoms_spec (ws := (jw yX14_statementOf cX14_statementOf 7 none)) Bd.pre
  have htw : ∀ w ∈ jWl, w.before _ s = true := fun w h => hts w (List.mem_cons_of_mem _ h)
  have hown : s.vm.findClass RX14 = some m.cls := findClass_of_methodNamed Bd.named
  have hlocks := Bd.notSynchronized
  obtain ⟨Q, hQ⟩ : ∃ Q, Q = MQ below (va_Qv (S := Unit) (fun u => True) (fun u t => jRt (dC, dI) B base G0 EX14_statementOf H0 [] t.heap) (jA base)) ([.ref r0, .ref r1, .int a2, .int a3] : List Value).toArray s 0 0 (jA base) := ⟨_, rfl⟩
  rw [← hQ]
  have hl := lv_entry ([.ref r0, .ref r1, .int a2, .int a3]) (n := 7) (Nat.le_of_ble_eq_true rfl)
  rw [lg_entry_eq]
  generalize (lg_sl ([.ref r0, .ref r1, .int a2, .int a3]) ++ List.replicate (7 - (lg_sl ([.ref r0, .ref r1, .int a2, .int a3])).length) Slot.unset).toArray = ls at hl ⊢
  have hl : lv_has ls 7 [(0, .ref r0), (1, .ref r1), (2, .int a2), (3, .int a3)] := hl
  generalize hR : (headSpec (jw yX14_statementOf cX14_statementOf 7 none) ({ frames := 252, cells := 0, slots := 0, locals := 8244 })).room = R
  subst hH0
  have hh : jSt (dC, dI) B base G0 G0 EX14_statementOf s.heap 0 0 [(r0, 16, 58, .ref kr), (kr, 15, 15, .int pf), (kr, 15, 11, .int py), (kr, 15, 17, .ref zf), (kr, 15, 0, .ref zs), (kr, 15, 1, .ref zn), (kr, 15, 2, .ref za), (kr, 15, 3, .ref zb), (kr, 15, 4, .ref zc), (kr, 15, 14, .ref zy)] [(zf, 160, 16, ca 1, ff), (zs, 150, 120000, ca 1, C.s), (zn, 151, 120000, ca 1, C.n), (za, 152, 120000, ca 1, C.a), (zb, 153, 120000, ca 1, C.b), (zc, 154, 120000, ca 1, C.c), (zy, 165, 16, ca 1, C.y)] [] s.heap [] := jSt.start hX hP0 hM0 jIs.nil
  clear hX hP0
  have hkm1 : ((-1) : Int32).toInt = (-1) := by decide
  have hk0 : (0 : Int32).toInt = 0 := by decide
  have hk1 : (1 : Int32).toInt = 1 := by decide
  have hly_15_11 := htw (u_lay RX13 TX13 11) (jWc_wsX130 _ (u_in_lay (by decide)))
  have hly_15_12 := htw (u_lay RX13 TX13 12) (jWc_wsX130 _ (u_in_lay (by decide)))
  have hly_15_14 := htw (u_lay RX13 TX13 14) (jWc_wsX130 _ (u_in_lay (by decide)))
  have hly_15_15 := htw (u_lay RX13 TX13 15) (jWc_wsX130 _ (u_in_lay (by decide)))
  have hly_15_16 := htw (u_lay RX13 TX13 16) (jWc_wsX130 _ (u_in_lay (by decide)))
  have hly_15_17 := htw (u_lay RX13 TX13 17) (jWc_wsX130 _ (u_in_lay (by decide)))
  have hly_15_46 := htw (u_lay RX13 TX13 46) (jWc_wsX130 _ (u_in_lay (by decide)))
  have hly_16_58 := htw (u_lay RX14 TX14 58) (jWc_wsX140 _ (u_in_lay (by decide)))
  have hlk_122 := (htw (.fieldLink RX14 122 "ProofServerModel" "kernel" "LProofServerModel$Kernel;") (jWr_12 _ (List.mem_of_getElem? (i := 13) rfl)))
  have hlk_661 := (va_Nw.use (A := ([.ref r0, .ref r1, .int a2, .int a3] : List Value).toArray) rfl (hG.2.1 RX14 661 "ProofServerModel$Kernel" "facts" "I" "ProofServerModel" (List.mem_of_getElem? (i := 1802) (by decide +kernel))))
  have hlk_664 := (va_Nw.use (A := ([.ref r0, .ref r1, .int a2, .int a3] : List Value).toArray) rfl (hG.2.1 RX14 664 "ProofServerModel$Kernel" "factName" "[I" "ProofServerModel" (List.mem_of_getElem? (i := 1804) (by decide +kernel))))
  have hlk_671 := (va_Nw.use (A := ([.ref r0, .ref r1, .int a2, .int a3] : List Value).toArray) rfl (hG.2.1 RX14 671 "ProofServerModel$Kernel" "symbols" "I" "ProofServerModel" (List.mem_of_getElem? (i := 1795) (by decide +kernel))))
  have hlk_674 := (va_Nw.use (A := ([.ref r0, .ref r1, .int a2, .int a3] : List Value).toArray) rfl (hG.2.1 RX14 674 "ProofServerModel$Kernel" "symbol" "[I" "ProofServerModel" (List.mem_of_getElem? (i := 1797) (by decide +kernel))))
  have hlk_634 := (va_Nw.use (A := ([.ref r0, .ref r1, .int a2, .int a3] : List Value).toArray) rfl (hG.2.1 RX14 634 "ProofServerModel$Kernel" "lines" "I" "ProofServerModel" (List.mem_of_getElem? (i := 1840) (by decide +kernel))))
  have hlk_677 := (va_Nw.use (A := ([.ref r0, .ref r1, .int a2, .int a3] : List Value).toArray) rfl (hG.2.1 RX14 677 "ProofServerModel$Kernel" "fact" "[I" "ProofServerModel" (List.mem_of_getElem? (i := 1806) (by decide +kernel))))
  have hlk_683 := (va_Nw.use (A := ([.ref r0, .ref r1, .int a2, .int a3] : List Value).toArray) rfl (hG.2.1 RX14 683 "ProofServerModel$Kernel" "arity" "[I" "ProofServerModel" (List.mem_of_getElem? (i := 1800) (by decide +kernel))))
  obtain ⟨str307, rstr307, hstr3070⟩ := hG.str (o := RX14) (k := 307) (tx := "null") (List.mem_of_getElem? (i := 2366) (by decide +kernel))
  have hstr307 : jStr base str307 4 s s.heap := hstr3070
  have hrg_a2 := jb_rng a2
  have hrg_a3 := jb_rng a3
  refine lv_iconst (v := (-1)) hx hb dX14_statementOf_0 (by decide) ?_
  refine lv_istore (lv' := [(4, .int (-1)), (0, .ref r0), (1, .ref r1), (2, .int a2), (3, .int a3)]) hx hb dX14_statementOf_1 hl (by decide) rfl (fun ls hl => ?_)
  refine lv_iconst (v := (-1)) hx hb dX14_statementOf_3 (by decide) ?_
  refine lv_istore (lv' := [(5, .int (-1)), (4, .int (-1)), (0, .ref r0), (1, .ref r1), (2, .int a2), (3, .int a3)]) hx hb dX14_statementOf_4 hl (by decide) rfl (fun ls hl => ?_)
  refine lv_iconst (v := 0) hx hb dX14_statementOf_6 (by decide) ?_
  refine lv_istore (lv' := [(6, .int 0), (5, .int (-1)), (4, .int (-1)), (0, .ref r0), (1, .ref r1), (2, .int a2), (3, .int a3)]) hx hb dX14_statementOf_7 hl (by decide) rfl (fun ls hl => ?_)
  have L9 : ∀ (N : Nat) (v4_1 : Int32) (v6_1 : Int32) (H_1 : Heap) (locs_1 : List Loc), jSt (dC, dI) B base G0 G0 EX14_statementOf s.heap 0 0 [(r0, 16, 58, .ref kr), (kr, 15, 15, .int pf), (kr, 15, 11, .int py), (kr, 15, 17, .ref zf), (kr, 15, 0, .ref zs), (kr, 15, 1, .ref zn), (kr, 15, 2, .ref za), (kr, 15, 3, .ref zb), (kr, 15, 4, .ref zc), (kr, 15, 14, .ref zy)] [(zf, 160, 16, ca 1, ff), (zs, 150, 120000, ca 1, C.s), (zn, 151, 120000, ca 1, C.n), (za, 152, 120000, ca 1, C.a), (zb, 153, 120000, ca 1, C.b), (zc, 154, 120000, ca 1, C.c), (zy, 165, 16, ca 1, C.y)] [] H_1 locs_1 → (0 ≤ v6_1.toInt ∧ v6_1.toInt ≤ pf.toInt ∧ -1 ≤ v4_1.toInt ∧ v4_1.toInt < pf.toInt) → (pf.toInt - v6_1.toInt : Int) < N → ∀ ls : Array Slot, lv_has ls 7 [(0, .ref r0), (1, .ref r1), (2, .int a2), (3, .int a3), (4, .int v4_1), (5, .int (-1)), (6, .int v6_1)] → W p l e R s m ([.ref r0, .ref r1, .int a2, .int a3] : List Value).toArray below meth c H_1 locs_1 0 0 Q (F0 m 9 ls []) := by
    intro N
    induction N with
    | zero => intro v4_1 v6_1 H_1 locs_1 hh_1  hi_1 hm; exact absurd hm (by omega)
    | succ N L9 =>
      intro v4_1 v6_1 H_1 locs_1 hh_1  hi_1 hm_1 ls hl
      obtain ⟨hi_1_0, hi_1_1, hi_1_2, hi_1_3⟩ := hi_1
      refine lv_iload hx hb dX14_statementOf_9 (lv_at hl 6 rfl) ?_
      refine lv_aload_n hx hb dX14_statementOf_11 rfl (lv_at hl 0 rfl) ?_
      refine j7_read hx hb hown hK (C := RX14) (T := TX14) (N := 74) rfl hly_16_58 hlk_122 (hh_1.at 0 rfl) dX14_statementOf_12 ?_
      refine j7_readN hx hb hown hK (C := RX13) (T := TX13) (N := 50) rfl hly_15_15 hlk_661 (hh_1.at 1 rfl) dX14_statementOf_15 ?_
      refine lv_icmp_ge (tgt := 51) hx hb dX14_statementOf_18 (by decide) (fun c_2 => ?_) (fun c_2 => ?_)
      · skip
        have c_2' : v6_1.toInt ≥ pf.toInt := jb_ge (rfl) (rfl) c_2
        refine lv_iconst (v := 0) hx hb dX14_statementOf_51 (by decide) ?_
        refine lv_istore (lv' := [(6, .int 0), (0, .ref r0), (1, .ref r1), (2, .int a2), (3, .int a3), (4, .int v4_1), (5, .int (-1))]) hx hb dX14_statementOf_52 hl (by decide) rfl (fun ls hl => ?_)
        have L54 : ∀ (N : Nat) (v5_3 : Int32) (v6_3 : Int32) (H_3 : Heap) (locs_3 : List Loc), jSt (dC, dI) B base G0 G0 EX14_statementOf s.heap 0 0 [(r0, 16, 58, .ref kr), (kr, 15, 15, .int pf), (kr, 15, 11, .int py), (kr, 15, 17, .ref zf), (kr, 15, 0, .ref zs), (kr, 15, 1, .ref zn), (kr, 15, 2, .ref za), (kr, 15, 3, .ref zb), (kr, 15, 4, .ref zc), (kr, 15, 14, .ref zy)] [(zf, 160, 16, ca 1, ff), (zs, 150, 120000, ca 1, C.s), (zn, 151, 120000, ca 1, C.n), (za, 152, 120000, ca 1, C.a), (zb, 153, 120000, ca 1, C.b), (zc, 154, 120000, ca 1, C.c), (zy, 165, 16, ca 1, C.y)] [] H_3 locs_3 → (0 ≤ v6_3.toInt ∧ v6_3.toInt ≤ py.toInt ∧ -1 ≤ v5_3.toInt ∧ v5_3.toInt < py.toInt) → (py.toInt - v6_3.toInt : Int) < N → ∀ ls : Array Slot, lv_has ls 7 [(0, .ref r0), (1, .ref r1), (2, .int a2), (3, .int a3), (4, .int v4_1), (5, .int v5_3), (6, .int v6_3)] → W p l e R s m ([.ref r0, .ref r1, .int a2, .int a3] : List Value).toArray below meth c H_3 locs_3 0 0 Q (F0 m 54 ls []) := by
          intro N
          induction N with
          | zero => intro v5_3 v6_3 H_3 locs_3 hh_3  hi_3 hm; exact absurd hm (by omega)
          | succ N L54 =>
            intro v5_3 v6_3 H_3 locs_3 hh_3  hi_3 hm_3 ls hl
            obtain ⟨hi_3_0, hi_3_1, hi_3_2, hi_3_3⟩ := hi_3
            refine lv_iload hx hb dX14_statementOf_54 (lv_at hl 6 rfl) ?_
            refine lv_aload_n hx hb dX14_statementOf_56 rfl (lv_at hl 0 rfl) ?_
            refine j7_read hx hb hown hK (C := RX14) (T := TX14) (N := 74) rfl hly_16_58 hlk_122 (hh_3.at 0 rfl) dX14_statementOf_57 ?_
            refine j7_readN hx hb hown hK (C := RX13) (T := TX13) (N := 50) rfl hly_15_11 hlk_671 (hh_3.at 2 rfl) dX14_statementOf_60 ?_
            refine lv_icmp_ge (tgt := 96) hx hb dX14_statementOf_63 (by decide) (fun c_4 => ?_) (fun c_4 => ?_)
            · skip
              have c_4' : v6_3.toInt ≥ py.toInt := jb_ge (rfl) (rfl) c_4
              refine lv_iload hx hb dX14_statementOf_96 (lv_at hl 4 rfl) ?_
              refine lv_if_lt (tgt := 134) hx hb dX14_statementOf_98 (by decide) (fun c_5 => ?_) (fun c_5 => ?_)
              · skip
                have c_5' : v4_1.toInt < 0 := jb_lt (rfl) ((by decide)) c_5
                refine lv_iload hx hb dX14_statementOf_134 (lv_at hl 5 rfl) ?_
                refine lv_if_lt (tgt := 156) hx hb dX14_statementOf_136 (by decide) (fun c_6 => ?_) (fun c_6 => ?_)
                · skip
                  have c_6' : v5_3.toInt < 0 := jb_lt (rfl) ((by decide)) c_6
                  refine lv_aload_n hx hb dX14_statementOf_156 rfl (lv_at hl 0 rfl) ?_
                  refine j_ldcSw hx hb hown rstr307 dX14_statementOf_157 ?_
                  obtain ⟨v_9, hv_9, hh_10⟩ := hh_3.pin (C := RX14) (T := TX14) (N := 74) hB16 rfl (by decide) hg_r0 (i := 6) (by decide) rfl
                  obtain ⟨framed_11, rfl, hloframed_11, hhiframed_11⟩ := hv_9
                  refine va_callv (A0 := jA base) (H0 := s.heap) (va_runV (As := [.ref str307]) (rest := []) ⟨hx, hb, hml, hown, hts⟩ (uX14_word l dC dI ca base B hB hAp hB16 hB101 G0 H_3 r0 str307 4 framed_11) (cwV 1 hts (jgV (jWr_53 _ (List.mem_of_getElem? (i := 22) rfl)) (jWr_53 _ (List.mem_of_getElem? (i := 23) rfl)) (jWr_54 _ (List.mem_of_getElem? (i := 0) rfl)) (jWr_1 _ (List.mem_of_getElem? (i := 5) rfl)) (jWr_54 _ (List.mem_of_getElem? (i := 1) rfl))) rfl rfl rfl (by decide +kernel) ⟨by rw [← hR]; exact Nat.le_of_ble_eq_true rfl, by rw [← hR]; exact Nat.le_of_ble_eq_true rfl⟩) ⟨fun a U g mk q => by obtain ⟨q0, q1, q2, qK, q10, q11, q12, q13⟩ := q; exact ⟨q0, q1, q2, jG.calling g mk a qK, (q10.moved (Vm.Alike.refl U.vm)), q11, q12, q13⟩, hh_10.recv (C := RX14) (T := TX14) (N := 74) hB16 rfl (by decide) hg_r0 hK, fun U hU hW => ⟨rfl, hU, hh_10.2.1, hG.step hW hU hh_10.1, (hstr307.moved hW.alike).kept hh_10.1.2.1, hg_r0, (hh_10.2.2.1.sub (L1 := [(r0, 16, 6, .int framed_11)]) [0] rfl), by first | omega | (refine ⟨?_, ?_, ?_⟩ <;> (first | omega | rfl | assumption | decide | exact Or.inl rfl | exact Or.inr rfl | (simp only; omega)))⟩⟩ rfl rfl hl.1 rfl (lv_room (Nat.le_of_ble_eq_true rfl)) dX14_statementOf_160 ⟨Nat.zero_le _, Nat.zero_le _⟩) hh_10.1 (fun q _ h => h) (fun q h => h) (fun u_7 t_7 H_7 locs_7 ht_7 hvm_7 hr_8 hb_7 hz_7 hk_7 hS_7 => ?_)
                  obtain ⟨qf_7, rfl⟩ : ∃ z, z = u_7 := ⟨_, rfl⟩
                  rw [ht_7] at hb_7
                  obtain ⟨hb_71, hb_72, hb_73, hb_74, hb_75⟩ := hb_7
                  have hh_7 : jSt (dC, dI) B base G0 G0 EX14_statementOf s.heap 0 0 [(r0, 16, 6, .int qf_7), (r0, 16, 58, .ref kr), (kr, 15, 15, .int pf), (kr, 15, 11, .int py), (kr, 15, 17, .ref zf), (kr, 15, 0, .ref zs), (kr, 15, 1, .ref zn), (kr, 15, 2, .ref za), (kr, 15, 3, .ref zb), (kr, 15, 4, .ref zc), (kr, 15, 14, .ref zy)] [(zf, 160, 16, ca 1, ff), (zs, 150, 120000, ca 1, C.s), (zn, 151, 120000, ca 1, C.n), (za, 152, 120000, ca 1, C.a), (zb, 153, 120000, ca 1, C.b), (zc, 154, 120000, ca 1, C.c), (zy, 165, 16, ca 1, C.y)] [] H_7 locs_7 := ((hh_10.call hb_71 hb_72 hb_73 hb_74 hS_7 rfl (L1 := [(r0, 16, 58, .ref kr), (kr, 15, 15, .int pf), (kr, 15, 11, .int py), (kr, 15, 17, .ref zf), (kr, 15, 0, .ref zs), (kr, 15, 1, .ref zn), (kr, 15, 2, .ref za), (kr, 15, 3, .ref zb), (kr, 15, 4, .ref zc), (kr, 15, 14, .ref zy)]) [1, 2, 3, 4, 5, 6, 7, 8, 9, 10] rfl rfl (M1 := [(zf, 160, 16, ca 1, ff), (zs, 150, 120000, ca 1, C.s), (zn, 151, 120000, ca 1, C.n), (za, 152, 120000, ca 1, C.a), (zb, 153, 120000, ca 1, C.b), (zc, 154, 120000, ca 1, C.c), (zy, 165, 16, ca 1, C.y)]) [0, 1, 2, 3, 4, 5, 6] rfl rfl (I1 := []) [] rfl rfl).more hb_75)
                  clear hh_10 ht_7 hvm_7 hz_7 hk_7 hS_7 hb_71 hb_72 hb_73 hb_74 hb_75
                  obtain ⟨hr_8_0, hr_8_1⟩ := hr_8
                  rw [hQ]
                  exact W.vret hx hb hr (fun t ht hW => ⟨⟨(), rfl, trivial, hh_7.rt (M1 := []) [] rfl ht⟩, by rw [ht]; try exact hh_7.1.1, fun q h9 hq => by rw [ht]; try exact hh_7.1.2.1 q h9 hq⟩) hh_7.1.2.2 dX14_statementOf_163
                · skip
                  have c_6' : v5_3.toInt ≥ 0 := jb_lt_n (rfl) ((by decide)) c_6
                  refine lv_aload_n hx hb dX14_statementOf_139 rfl (lv_at hl 0 rfl) ?_
                  refine lv_aload_n hx hb dX14_statementOf_140 rfl (lv_at hl 0 rfl) ?_
                  refine j7_read hx hb hown hK (C := RX14) (T := TX14) (N := 74) rfl hly_16_58 hlk_122 (hh_3.at 0 rfl) dX14_statementOf_141 ?_
                  refine j7_readN hx hb hown hK (C := RX13) (T := TX13) (N := 50) rfl hly_15_14 hlk_683 (hh_3.at 9 rfl) dX14_statementOf_144 ?_
                  refine lv_iload hx hb dX14_statementOf_147 (lv_at hl 5 rfl) ?_
                  refine j7_ialdM hx hb hK hh_3 hB165 1 rfl (by decide) hg_zy (x := v5_3.toInt) (rfl) (by omega) (j := 6) rfl dX14_statementOf_149 (fun z_12 ez_12 (hz_12 : 0 ≤ z_12.toInt ∧ z_12.toInt ≤ 3) => ?_)
                  have hqz_12 : z_12.toInt = jSo C.y (v5_3.toInt) := by unfold jSo; rw [ez_12]
                  obtain ⟨v_15, hv_15, hh_16⟩ := hh_3.pin (C := RX14) (T := TX14) (N := 74) hB16 rfl (by decide) hg_r0 (i := 6) (by decide) rfl
                  obtain ⟨framed_17, rfl, hloframed_17, hhiframed_17⟩ := hv_15
                  refine va_callv (A0 := jA base) (H0 := s.heap) (va_runV (As := [.int z_12]) (rest := []) ⟨hx, hb, hml, hown, hts⟩ (uX14_number l dC dI ca base B hB hAp hB16 hB101 G0 H_3 r0 z_12 framed_17) (cwV 1 hts (jgV (jWr_54 _ (List.mem_of_getElem? (i := 18) rfl)) (jWr_54 _ (List.mem_of_getElem? (i := 19) rfl)) (jWr_54 _ (List.mem_of_getElem? (i := 20) rfl)) (jWr_1 _ (List.mem_of_getElem? (i := 5) rfl)) (jWr_54 _ (List.mem_of_getElem? (i := 21) rfl))) rfl rfl rfl (by decide +kernel) ⟨by rw [← hR]; exact Nat.le_of_ble_eq_true rfl, by rw [← hR]; exact Nat.le_of_ble_eq_true rfl⟩) ⟨fun a U g mk q => by obtain ⟨q0, q1, q2, qK, q10, q11, q12⟩ := q; exact ⟨q0, q1, q2, jG.calling g mk a qK, q10, q11, q12⟩, hh_16.recv (C := RX14) (T := TX14) (N := 74) hB16 rfl (by decide) hg_r0 hK, fun U hU hW => ⟨rfl, hU, hh_16.2.1, hG.step hW hU hh_16.1, hg_r0, (hh_16.2.2.1.sub (L1 := [(r0, 16, 6, .int framed_17)]) [0] rfl), by first | omega | (refine ⟨?_, ?_⟩ <;> (first | omega | rfl | assumption | decide | exact Or.inl rfl | exact Or.inr rfl | (simp only; omega)))⟩⟩ rfl rfl hl.1 rfl (lv_room (Nat.le_of_ble_eq_true rfl)) dX14_statementOf_150 ⟨Nat.zero_le _, Nat.zero_le _⟩) hh_16.1 (fun q _ h => h) (fun q h => h) (fun u_13 t_13 H_13 locs_13 ht_13 hvm_13 hr_14 hb_13 hz_13 hk_13 hS_13 => ?_)
                  obtain ⟨qf_13, rfl⟩ : ∃ z, z = u_13 := ⟨_, rfl⟩
                  rw [ht_13] at hb_13
                  obtain ⟨hb_131, hb_132, hb_133, hb_134, hb_135⟩ := hb_13
                  have hh_13 : jSt (dC, dI) B base G0 G0 EX14_statementOf s.heap 0 0 [(r0, 16, 6, .int qf_13), (r0, 16, 58, .ref kr), (kr, 15, 15, .int pf), (kr, 15, 11, .int py), (kr, 15, 17, .ref zf), (kr, 15, 0, .ref zs), (kr, 15, 1, .ref zn), (kr, 15, 2, .ref za), (kr, 15, 3, .ref zb), (kr, 15, 4, .ref zc), (kr, 15, 14, .ref zy)] [(zf, 160, 16, ca 1, ff), (zs, 150, 120000, ca 1, C.s), (zn, 151, 120000, ca 1, C.n), (za, 152, 120000, ca 1, C.a), (zb, 153, 120000, ca 1, C.b), (zc, 154, 120000, ca 1, C.c), (zy, 165, 16, ca 1, C.y)] [] H_13 locs_13 := ((hh_16.call hb_131 hb_132 hb_133 hb_134 hS_13 rfl (L1 := [(r0, 16, 58, .ref kr), (kr, 15, 15, .int pf), (kr, 15, 11, .int py), (kr, 15, 17, .ref zf), (kr, 15, 0, .ref zs), (kr, 15, 1, .ref zn), (kr, 15, 2, .ref za), (kr, 15, 3, .ref zb), (kr, 15, 4, .ref zc), (kr, 15, 14, .ref zy)]) [1, 2, 3, 4, 5, 6, 7, 8, 9, 10] rfl rfl (M1 := [(zf, 160, 16, ca 1, ff), (zs, 150, 120000, ca 1, C.s), (zn, 151, 120000, ca 1, C.n), (za, 152, 120000, ca 1, C.a), (zb, 153, 120000, ca 1, C.b), (zc, 154, 120000, ca 1, C.c), (zy, 165, 16, ca 1, C.y)]) [0, 1, 2, 3, 4, 5, 6] rfl rfl (I1 := []) [] rfl rfl).more hb_135)
                  clear hh_16 ht_13 hvm_13 hz_13 hk_13 hS_13 hb_131 hb_132 hb_133 hb_134 hb_135
                  obtain ⟨hr_14_0, hr_14_1⟩ := hr_14
                  refine lv_goto (tgt := 163) hx hb dX14_statementOf_153 (by decide) ?_
                  rw [hQ]
                  exact W.vret hx hb hr (fun t ht hW => ⟨⟨(), rfl, trivial, hh_13.rt (M1 := []) [] rfl ht⟩, by rw [ht]; try exact hh_13.1.1, fun q h9 hq => by rw [ht]; try exact hh_13.1.2.1 q h9 hq⟩) hh_13.1.2.2 dX14_statementOf_163
              · skip
                have c_5' : v4_1.toInt ≥ 0 := jb_lt_n (rfl) ((by decide)) c_5
                refine lv_aload_n hx hb dX14_statementOf_101 rfl (lv_at hl 0 rfl) ?_
                refine j7_read hx hb hown hK (C := RX14) (T := TX14) (N := 74) rfl hly_16_58 hlk_122 (hh_3.at 0 rfl) dX14_statementOf_102 ?_
                refine lv_iconst (v := 0) hx hb dX14_statementOf_105 (by decide) ?_
                refine j7_putN hx hb hown hK hh_3 hB hAp hB15 (C := RX13) (T := TX13) (N := 50) rfl (by decide) hg_kr (i := 46) (by decide) hly_15_46 rfl hlk_634 rfl (ty := .int) (v := .int 0) (by decide +kernel) rfl rfl (⟨_, rfl, by omega, by omega⟩) rfl (L1 := [(r0, 16, 58, .ref kr), (kr, 15, 15, .int pf), (kr, 15, 11, .int py), (kr, 15, 17, .ref zf), (kr, 15, 0, .ref zs), (kr, 15, 1, .ref zn), (kr, 15, 2, .ref za), (kr, 15, 3, .ref zb), (kr, 15, 4, .ref zc), (kr, 15, 14, .ref zy)]) [0, 1, 2, 3, 4, 5, 6, 7, 8, 9] rfl rfl rfl dX14_statementOf_106 (fun H_18 locs_18 hh_18 => ?_)
                clear hh_3
                refine lv_aload_n hx hb dX14_statementOf_109 rfl (lv_at hl 0 rfl) ?_
                refine j7_read hx hb hown hK (C := RX14) (T := TX14) (N := 74) rfl hly_16_58 hlk_122 (hh_18.at 1 rfl) dX14_statementOf_110 ?_
                refine lv_aload_n hx hb dX14_statementOf_113 rfl (lv_at hl 0 rfl) ?_
                refine j7_read hx hb hown hK (C := RX14) (T := TX14) (N := 74) rfl hly_16_58 hlk_122 (hh_18.at 1 rfl) dX14_statementOf_114 ?_
                refine j7_readN hx hb hown hK (C := RX13) (T := TX13) (N := 50) rfl hly_15_17 hlk_677 (hh_18.at 4 rfl) dX14_statementOf_117 ?_
                refine lv_iload hx hb dX14_statementOf_120 (lv_at hl 4 rfl) ?_
                refine j7_ialdM hx hb hK hh_18 hB160 1 rfl (by decide) hg_zf (x := v4_1.toInt) (rfl) (by omega) (j := 0) rfl dX14_statementOf_122 (fun z_19 ez_19 (hz_19 : 0 ≤ z_19.toInt ∧ z_19.toInt ≤ 119999) => ?_)
                have hqz_19 : z_19.toInt = jSo ff (v4_1.toInt) := by unfold jSo; rw [ez_19]
                refine va_callv (A0 := jA base) (H0 := s.heap) (va_runV (As := [.int z_19]) (rest := []) ⟨hx, hb, hml, hown, hts⟩ (uX13_printFormula l dC dI ca base B hB hAp hB15 hB101 hB150 hB151 hB152 hB153 hB154 hB155 hB156 hB163 hB164 hB165 hB166 G0 H_18 kr z_19 zs zn za zb zc zy C) (cwV 1 hts (jgV (jWr_72 _ (List.mem_of_getElem? (i := 17) rfl)) (jWr_71 _ (List.mem_of_getElem? (i := 1) rfl)) (jWr_71 _ (List.mem_of_getElem? (i := 2) rfl)) (jWr_12 _ (List.mem_of_getElem? (i := 12) rfl)) (jWr_71 _ (List.mem_of_getElem? (i := 3) rfl))) rfl rfl rfl (by decide +kernel) ⟨by rw [← hR]; exact Nat.le_of_ble_eq_true rfl, by rw [← hR]; exact Nat.le_of_ble_eq_true rfl⟩) ⟨fun a U g mk q => by obtain ⟨q0, q1, q2, qK, q10, q11, q12, q13, q14, q15, q16, q17, q18, q19⟩ := q; exact ⟨q0, q1, q2, jG.calling g mk a qK, q10, q11, q12, q13, q14, q15, q16, q17, q18, q19⟩, hh_18.recv (C := RX13) (T := TX13) (N := 50) hB15 rfl (by decide) hg_kr hK, fun U hU hW => ⟨rfl, hU, hh_18.2.1, hG.step hW hU hh_18.1, hg_kr, hg_zs, hg_zn, hg_za, hg_zb, hg_zc, hg_zy, (hh_18.2.2.1.sub (L1 := [(kr, 15, 0, .ref zs), (kr, 15, 1, .ref zn), (kr, 15, 2, .ref za), (kr, 15, 3, .ref zb), (kr, 15, 4, .ref zc), (kr, 15, 14, .ref zy)]) [5, 6, 7, 8, 9, 10] rfl), (hh_18.2.2.2.2.2.2.2.1.sub (L1 := [(zs, 150, 120000, ca 1, C.s), (zn, 151, 120000, ca 1, C.n), (za, 152, 120000, ca 1, C.a), (zb, 153, 120000, ca 1, C.b), (zc, 154, 120000, ca 1, C.c), (zy, 165, 16, ca 1, C.y)]) [1, 2, 3, 4, 5, 6] rfl), by first | assumption | (rw [hqz_19]; exact (hp0 _ (by omega) (by omega)).1.wide (by omega) (by omega)) | omega⟩⟩ rfl rfl hl.1 rfl (lv_room (Nat.le_of_ble_eq_true rfl)) dX14_statementOf_123 ⟨Nat.zero_le _, Nat.zero_le _⟩) hh_18.1 (fun q _ h => h) (fun q h => h) (fun u_20 t_20 H_20 locs_20 ht_20 hvm_20 hr_21 hb_20 hz_20 hk_20 hS_20 => ?_)
                rw [ht_20] at hb_20
                obtain ⟨hb_201, hb_202, hb_203, hb_204, hb_205⟩ := hb_20
                have hh_20 : jSt (dC, dI) B base G0 G0 EX14_statementOf s.heap 0 0 [(r0, 16, 58, .ref kr), (kr, 15, 15, .int pf), (kr, 15, 11, .int py), (kr, 15, 17, .ref zf), (kr, 15, 0, .ref zs), (kr, 15, 1, .ref zn), (kr, 15, 2, .ref za), (kr, 15, 3, .ref zb), (kr, 15, 4, .ref zc), (kr, 15, 14, .ref zy)] [(zf, 160, 16, ca 1, ff), (zs, 150, 120000, ca 1, C.s), (zn, 151, 120000, ca 1, C.n), (za, 152, 120000, ca 1, C.a), (zb, 153, 120000, ca 1, C.b), (zc, 154, 120000, ca 1, C.c), (zy, 165, 16, ca 1, C.y)] [] H_20 locs_20 := ((hh_18.call hb_201 hb_202 hb_203 hb_204 hS_20 rfl (L1 := [(r0, 16, 58, .ref kr), (kr, 15, 15, .int pf), (kr, 15, 11, .int py), (kr, 15, 17, .ref zf), (kr, 15, 0, .ref zs), (kr, 15, 1, .ref zn), (kr, 15, 2, .ref za), (kr, 15, 3, .ref zb), (kr, 15, 4, .ref zc), (kr, 15, 14, .ref zy)]) [1, 2, 3, 4, 5, 6, 7, 8, 9, 10] rfl rfl (M1 := [(zf, 160, 16, ca 1, ff), (zs, 150, 120000, ca 1, C.s), (zn, 151, 120000, ca 1, C.n), (za, 152, 120000, ca 1, C.a), (zb, 153, 120000, ca 1, C.b), (zc, 154, 120000, ca 1, C.c), (zy, 165, 16, ca 1, C.y)]) [0, 1, 2, 3, 4, 5, 6] rfl rfl (I1 := []) [] rfl rfl).more hb_205)
                clear hh_18 ht_20 hvm_20 hz_20 hk_20 hS_20 hb_201 hb_202 hb_203 hb_204 hb_205
                refine lv_aload_n hx hb dX14_statementOf_126 rfl (lv_at hl 0 rfl) ?_
                refine lv_iconst (v := 0) hx hb dX14_statementOf_127 (by decide) ?_
                refine va_callv (A0 := jA base) (H0 := s.heap) (va_runV (As := [.int 0]) (rest := []) ⟨hx, hb, hml, hown, hts⟩ (uX14_putLine l dC dI ca base B hB hAp hB15 hB16 hB101 G0 H_20 r0 0) (cwV 1 hts (jgV (jWr_70 _ (List.mem_of_getElem? (i := 11) rfl)) (jWr_70 _ (List.mem_of_getElem? (i := 12) rfl)) (jWr_70 _ (List.mem_of_getElem? (i := 13) rfl)) (jWr_1 _ (List.mem_of_getElem? (i := 5) rfl)) (jWr_70 _ (List.mem_of_getElem? (i := 14) rfl))) rfl rfl rfl (by decide +kernel) ⟨by rw [← hR]; exact Nat.le_of_ble_eq_true rfl, by rw [← hR]; exact Nat.le_of_ble_eq_true rfl⟩) ⟨fun a U g mk q => by obtain ⟨q0, q1, q2, qK, q10, q11, q12⟩ := q; exact ⟨q0, q1, q2, jG.calling g mk a qK, q10, q11, q12⟩, hh_20.recv (C := RX14) (T := TX14) (N := 74) hB16 rfl (by decide) hg_r0 hK, fun U hU hW => ⟨rfl, hU, hh_20.2.1, hG.step hW hU hh_20.1, hg_r0, jP.nil, by first | omega | (refine ⟨?_, ?_⟩ <;> (first | omega | rfl | assumption | decide | exact Or.inl rfl | exact Or.inr rfl | (simp only; omega)))⟩⟩ rfl rfl hl.1 rfl (lv_room (Nat.le_of_ble_eq_true rfl)) dX14_statementOf_128 ⟨Nat.zero_le _, Nat.zero_le _⟩) hh_20.1 (fun q _ h => h) (fun q h => h) (fun u_22 t_22 H_22 locs_22 ht_22 hvm_22 hr_23 hb_22 hz_22 hk_22 hS_22 => ?_)
                rw [ht_22] at hb_22
                obtain ⟨hb_221, hb_222, hb_223, hb_224, hb_225⟩ := hb_22
                have hh_22 : jSt (dC, dI) B base G0 G0 EX14_statementOf s.heap 0 0 [(r0, 16, 58, .ref kr), (kr, 15, 15, .int pf), (kr, 15, 11, .int py), (kr, 15, 17, .ref zf), (kr, 15, 0, .ref zs), (kr, 15, 1, .ref zn), (kr, 15, 2, .ref za), (kr, 15, 3, .ref zb), (kr, 15, 4, .ref zc), (kr, 15, 14, .ref zy)] [(zf, 160, 16, ca 1, ff), (zs, 150, 120000, ca 1, C.s), (zn, 151, 120000, ca 1, C.n), (za, 152, 120000, ca 1, C.a), (zb, 153, 120000, ca 1, C.b), (zc, 154, 120000, ca 1, C.c), (zy, 165, 16, ca 1, C.y)] [] H_22 locs_22 := ((hh_20.call hb_221 hb_222 hb_223 hb_224 hS_22 rfl (L1 := [(r0, 16, 58, .ref kr), (kr, 15, 15, .int pf), (kr, 15, 11, .int py), (kr, 15, 17, .ref zf), (kr, 15, 0, .ref zs), (kr, 15, 1, .ref zn), (kr, 15, 2, .ref za), (kr, 15, 3, .ref zb), (kr, 15, 4, .ref zc), (kr, 15, 14, .ref zy)]) [0, 1, 2, 3, 4, 5, 6, 7, 8, 9] rfl rfl (M1 := [(zf, 160, 16, ca 1, ff), (zs, 150, 120000, ca 1, C.s), (zn, 151, 120000, ca 1, C.n), (za, 152, 120000, ca 1, C.a), (zb, 153, 120000, ca 1, C.b), (zc, 154, 120000, ca 1, C.c), (zy, 165, 16, ca 1, C.y)]) [0, 1, 2, 3, 4, 5, 6] rfl rfl (I1 := []) [] rfl rfl).more hb_225)
                clear hh_20 ht_22 hvm_22 hz_22 hk_22 hS_22 hb_221 hb_222 hb_223 hb_224 hb_225
                refine lv_goto (tgt := 163) hx hb dX14_statementOf_131 (by decide) ?_
                rw [hQ]
                exact W.vret hx hb hr (fun t ht hW => ⟨⟨(), rfl, trivial, hh_22.rt (M1 := []) [] rfl ht⟩, by rw [ht]; try exact hh_22.1.1, fun q h9 hq => by rw [ht]; try exact hh_22.1.2.1 q h9 hq⟩) hh_22.1.2.2 dX14_statementOf_163
            · skip
              have c_4' : v6_3.toInt < py.toInt := jb_ge_n (rfl) (rfl) c_4
              refine lv_aload_n hx hb dX14_statementOf_66 rfl (lv_at hl 0 rfl) ?_
              refine lv_aload_n hx hb dX14_statementOf_67 rfl (lv_at hl 0 rfl) ?_
              refine j7_read hx hb hown hK (C := RX14) (T := TX14) (N := 74) rfl hly_16_58 hlk_122 (hh_3.at 0 rfl) dX14_statementOf_68 ?_
              obtain ⟨v_24, hv_24, hh_25⟩ := hh_3.pin (C := RX13) (T := TX13) (N := 50) hB15 rfl (by decide) hg_kr (i := 12) (by decide) rfl
              clear hh_3
              obtain ⟨symbol_26, rfl, hg_symbol_26⟩ := hv_24
              refine j7_readN hx hb hown hK (C := RX13) (T := TX13) (N := 50) rfl hly_15_12 hlk_674 (hh_25.at 0 rfl) dX14_statementOf_71 ?_
              refine lv_iload hx hb dX14_statementOf_74 (lv_at hl 6 rfl) ?_
              refine j7_iald hx hb hK hh_25 hB163 1 rfl (by decide) hg_symbol_26 (x := v6_3.toInt) (rfl) (by omega) dX14_statementOf_76 (fun z_27 (hz_27 : 0 ≤ z_27.toInt ∧ z_27.toInt ≤ 1599) => ?_)
              refine lv_aload_n hx hb dX14_statementOf_77 rfl (lv_at hl 1 rfl) ?_
              refine lv_iload_n hx hb dX14_statementOf_78 rfl (lv_at hl 2 rfl) ?_
              refine lv_iload_n hx hb dX14_statementOf_79 rfl (lv_at hl 3 rfl) ?_
              refine va_calli (A0 := jA base) (H0 := s.heap) (va_runV (As := [.int z_27, .ref r1, .int a2, .int a3]) (rest := []) ⟨hx, hb, hml, hown, hts⟩ (uX14_isNamed l dC dI ca base B hB hAp hB15 hB16 hB101 hB155 hB156 hB166 G0 H_3 r0 z_27 r1 a2 a3 n1) (cwV 4 hts (jgV (jWr_72 _ (List.mem_of_getElem? (i := 13) rfl)) (jWr_72 _ (List.mem_of_getElem? (i := 14) rfl)) (jWr_72 _ (List.mem_of_getElem? (i := 15) rfl)) (jWr_1 _ (List.mem_of_getElem? (i := 5) rfl)) (jWr_72 _ (List.mem_of_getElem? (i := 16) rfl))) rfl rfl rfl (by decide +kernel) ⟨by rw [← hR]; exact Nat.le_of_ble_eq_true rfl, by rw [← hR]; exact Nat.le_of_ble_eq_true rfl⟩) ⟨fun a U g mk q => by obtain ⟨q0, q1, q2, qK, q10, q11, q12, q13⟩ := q; exact ⟨q0, q1, q2, jG.calling g mk a qK, q10, q11, q12, q13⟩, hh_25.recv (C := RX14) (T := TX14) (N := 74) hB16 rfl (by decide) hg_r0 hK, fun U hU hW => ⟨rfl, hU, hh_25.2.1, hG.step hW hU hh_25.1, hg_r1, hg_r0, jP.nil, by first | omega | (refine ⟨?_, ?_, ?_, ?_, ?_⟩ <;> (first | omega | rfl | assumption | decide | exact Or.inl rfl | exact Or.inr rfl | (simp only; omega)))⟩⟩ rfl rfl hl.1 rfl (lv_room (Nat.le_of_ble_eq_true rfl)) dX14_statementOf_80 ⟨Nat.zero_le _, Nat.zero_le _⟩) hh_25.1 (fun q _ h => h) (fun q h => h) (fun r_29 u_28 t_28 H_28 locs_28 ht_28 hvm_28 hr_29 hb_28 hz_28 hk_28 hS_28 => ?_)
              rw [ht_28] at hb_28
              obtain ⟨hb_281, hb_282, hb_283, hb_284, hb_285⟩ := hb_28
              have hh_28 : jSt (dC, dI) B base G0 G0 EX14_statementOf s.heap 0 0 [(kr, 15, 12, .ref symbol_26), (r0, 16, 58, .ref kr), (kr, 15, 15, .int pf), (kr, 15, 11, .int py), (kr, 15, 17, .ref zf), (kr, 15, 0, .ref zs), (kr, 15, 1, .ref zn), (kr, 15, 2, .ref za), (kr, 15, 3, .ref zb), (kr, 15, 4, .ref zc), (kr, 15, 14, .ref zy)] [(zf, 160, 16, ca 1, ff), (zs, 150, 120000, ca 1, C.s), (zn, 151, 120000, ca 1, C.n), (za, 152, 120000, ca 1, C.a), (zb, 153, 120000, ca 1, C.b), (zc, 154, 120000, ca 1, C.c), (zy, 165, 16, ca 1, C.y)] [] H_28 locs_28 := ((hh_25.call hb_281 hb_282 hb_283 hb_284 hS_28 rfl (L1 := [(kr, 15, 12, .ref symbol_26), (r0, 16, 58, .ref kr), (kr, 15, 15, .int pf), (kr, 15, 11, .int py), (kr, 15, 17, .ref zf), (kr, 15, 0, .ref zs), (kr, 15, 1, .ref zn), (kr, 15, 2, .ref za), (kr, 15, 3, .ref zb), (kr, 15, 4, .ref zc), (kr, 15, 14, .ref zy)]) [0, 1, 2, 3, 4, 5, 6, 7, 8, 9, 10] rfl rfl (M1 := [(zf, 160, 16, ca 1, ff), (zs, 150, 120000, ca 1, C.s), (zn, 151, 120000, ca 1, C.n), (za, 152, 120000, ca 1, C.a), (zb, 153, 120000, ca 1, C.b), (zc, 154, 120000, ca 1, C.c), (zy, 165, 16, ca 1, C.y)]) [0, 1, 2, 3, 4, 5, 6] rfl rfl (I1 := []) [] rfl rfl).more hb_285)
              clear hh_25 ht_28 hvm_28 hz_28 hk_28 hS_28 hb_281 hb_282 hb_283 hb_284 hb_285
              obtain ⟨hr_29b, hr_29p⟩ := hr_29
              have hr_29' := jb_01 hr_29b
              refine lv_if_eq (tgt := 90) hx hb dX14_statementOf_83 (by decide) (fun c_30 => ?_) (fun c_30 => ?_)
              · skip
                have c_30' : r_29.toInt = 0 := jb_eq (rfl) ((by decide)) c_30
                obtain ⟨z_31, ez_31⟩ : ∃ y : Int32, y = v6_3 + 1 := ⟨_, rfl⟩
                refine lv_iinc (v := z_31) (lv' := [(6, .int z_31), (0, .ref r0), (1, .ref r1), (2, .int a2), (3, .int a3), (4, .int v4_1), (5, .int v5_3)]) hx hb dX14_statementOf_90 hl (k := 6) rfl (by rw [ez_31]; rfl) (by decide) rfl (fun ls hl => ?_)
                have hz_31 : z_31.toInt = v6_3.toInt + 1 := by rw [ez_31]; exact jb_iadd2 (rfl) (by decide) (by omega)
                refine lv_goto (tgt := 54) hx hb dX14_statementOf_93 (by decide) ?_
                exact L54 v5_3 z_31 _ _ (hh_28.sub (L1 := [(r0, 16, 58, .ref kr), (kr, 15, 15, .int pf), (kr, 15, 11, .int py), (kr, 15, 17, .ref zf), (kr, 15, 0, .ref zs), (kr, 15, 1, .ref zn), (kr, 15, 2, .ref za), (kr, 15, 3, .ref zb), (kr, 15, 4, .ref zc), (kr, 15, 14, .ref zy)]) [1, 2, 3, 4, 5, 6, 7, 8, 9, 10] rfl (M1 := [(zf, 160, 16, ca 1, ff), (zs, 150, 120000, ca 1, C.s), (zn, 151, 120000, ca 1, C.n), (za, 152, 120000, ca 1, C.a), (zb, 153, 120000, ca 1, C.b), (zc, 154, 120000, ca 1, C.c), (zy, 165, 16, ca 1, C.y)]) [0, 1, 2, 3, 4, 5, 6] rfl (I1 := []) [] rfl) (by first | omega | (refine ⟨?_, ?_, ?_, ?_⟩ <;> (first | omega | rfl | assumption | decide | exact Or.inl rfl | exact Or.inr rfl | (simp only; omega)))) (by omega) _ (lv_sub hl [1, 2, 3, 4, 5, 6, 0] rfl)
              · skip
                have c_30' : r_29.toInt ≠ 0 := jb_eq_n (rfl) ((by decide)) c_30
                refine lv_iload hx hb dX14_statementOf_86 (lv_at hl 6 rfl) ?_
                refine lv_istore (lv' := [(5, .int v6_3), (0, .ref r0), (1, .ref r1), (2, .int a2), (3, .int a3), (4, .int v4_1), (6, .int v6_3)]) hx hb dX14_statementOf_88 hl (by decide) rfl (fun ls hl => ?_)
                obtain ⟨z_32, ez_32⟩ : ∃ y : Int32, y = v6_3 + 1 := ⟨_, rfl⟩
                refine lv_iinc (v := z_32) (lv' := [(6, .int z_32), (5, .int v6_3), (0, .ref r0), (1, .ref r1), (2, .int a2), (3, .int a3), (4, .int v4_1)]) hx hb dX14_statementOf_90 hl (k := 6) rfl (by rw [ez_32]; rfl) (by decide) rfl (fun ls hl => ?_)
                have hz_32 : z_32.toInt = v6_3.toInt + 1 := by rw [ez_32]; exact jb_iadd2 (rfl) (by decide) (by omega)
                refine lv_goto (tgt := 54) hx hb dX14_statementOf_93 (by decide) ?_
                exact L54 v6_3 z_32 _ _ (hh_28.sub (L1 := [(r0, 16, 58, .ref kr), (kr, 15, 15, .int pf), (kr, 15, 11, .int py), (kr, 15, 17, .ref zf), (kr, 15, 0, .ref zs), (kr, 15, 1, .ref zn), (kr, 15, 2, .ref za), (kr, 15, 3, .ref zb), (kr, 15, 4, .ref zc), (kr, 15, 14, .ref zy)]) [1, 2, 3, 4, 5, 6, 7, 8, 9, 10] rfl (M1 := [(zf, 160, 16, ca 1, ff), (zs, 150, 120000, ca 1, C.s), (zn, 151, 120000, ca 1, C.n), (za, 152, 120000, ca 1, C.a), (zb, 153, 120000, ca 1, C.b), (zc, 154, 120000, ca 1, C.c), (zy, 165, 16, ca 1, C.y)]) [0, 1, 2, 3, 4, 5, 6] rfl (I1 := []) [] rfl) (by first | omega | (refine ⟨?_, ?_, ?_, ?_⟩ <;> (first | omega | rfl | assumption | decide | exact Or.inl rfl | exact Or.inr rfl | (simp only; omega)))) (by omega) _ (lv_sub hl [2, 3, 4, 5, 6, 1, 0] rfl)
        exact L54 (py.toInt - (0 : Int32).toInt : Int).toNat.succ (-1) 0 _ _ hh_1 (by first | omega | (refine ⟨?_, ?_, ?_, ?_⟩ <;> (first | omega | rfl | assumption | decide | exact Or.inl rfl | exact Or.inr rfl | (simp only; omega)))) (by omega) _ (lv_sub hl [1, 2, 3, 4, 5, 6, 0] rfl)
      · skip
        have c_2' : v6_1.toInt < pf.toInt := jb_ge_n (rfl) (rfl) c_2
        refine lv_aload_n hx hb dX14_statementOf_21 rfl (lv_at hl 0 rfl) ?_
        refine lv_aload_n hx hb dX14_statementOf_22 rfl (lv_at hl 0 rfl) ?_
        refine j7_read hx hb hown hK (C := RX14) (T := TX14) (N := 74) rfl hly_16_58 hlk_122 (hh_1.at 0 rfl) dX14_statementOf_23 ?_
        obtain ⟨v_33, hv_33, hh_34⟩ := hh_1.pin (C := RX13) (T := TX13) (N := 50) hB15 rfl (by decide) hg_kr (i := 16) (by decide) rfl
        clear hh_1
        obtain ⟨factName_35, rfl, hg_factName_35⟩ := hv_33
        refine j7_readN hx hb hown hK (C := RX13) (T := TX13) (N := 50) rfl hly_15_16 hlk_664 (hh_34.at 0 rfl) dX14_statementOf_26 ?_
        refine lv_iload hx hb dX14_statementOf_29 (lv_at hl 6 rfl) ?_
        refine j7_iald hx hb hK hh_34 hB163 1 rfl (by decide) hg_factName_35 (x := v6_1.toInt) (rfl) (by omega) dX14_statementOf_31 (fun z_36 (hz_36 : 0 ≤ z_36.toInt ∧ z_36.toInt ≤ 1599) => ?_)
        refine lv_aload_n hx hb dX14_statementOf_32 rfl (lv_at hl 1 rfl) ?_
        refine lv_iload_n hx hb dX14_statementOf_33 rfl (lv_at hl 2 rfl) ?_
        refine lv_iload_n hx hb dX14_statementOf_34 rfl (lv_at hl 3 rfl) ?_
        refine va_calli (A0 := jA base) (H0 := s.heap) (va_runV (As := [.int z_36, .ref r1, .int a2, .int a3]) (rest := []) ⟨hx, hb, hml, hown, hts⟩ (uX14_isNamed l dC dI ca base B hB hAp hB15 hB16 hB101 hB155 hB156 hB166 G0 H_1 r0 z_36 r1 a2 a3 n1) (cwV 4 hts (jgV (jWr_72 _ (List.mem_of_getElem? (i := 13) rfl)) (jWr_72 _ (List.mem_of_getElem? (i := 14) rfl)) (jWr_72 _ (List.mem_of_getElem? (i := 15) rfl)) (jWr_1 _ (List.mem_of_getElem? (i := 5) rfl)) (jWr_72 _ (List.mem_of_getElem? (i := 16) rfl))) rfl rfl rfl (by decide +kernel) ⟨by rw [← hR]; exact Nat.le_of_ble_eq_true rfl, by rw [← hR]; exact Nat.le_of_ble_eq_true rfl⟩) ⟨fun a U g mk q => by obtain ⟨q0, q1, q2, qK, q10, q11, q12, q13⟩ := q; exact ⟨q0, q1, q2, jG.calling g mk a qK, q10, q11, q12, q13⟩, hh_34.recv (C := RX14) (T := TX14) (N := 74) hB16 rfl (by decide) hg_r0 hK, fun U hU hW => ⟨rfl, hU, hh_34.2.1, hG.step hW hU hh_34.1, hg_r1, hg_r0, jP.nil, by first | omega | (refine ⟨?_, ?_, ?_, ?_, ?_⟩ <;> (first | omega | rfl | assumption | decide | exact Or.inl rfl | exact Or.inr rfl | (simp only; omega)))⟩⟩ rfl rfl hl.1 rfl (lv_room (Nat.le_of_ble_eq_true rfl)) dX14_statementOf_35 ⟨Nat.zero_le _, Nat.zero_le _⟩) hh_34.1 (fun q _ h => h) (fun q h => h) (fun r_38 u_37 t_37 H_37 locs_37 ht_37 hvm_37 hr_38 hb_37 hz_37 hk_37 hS_37 => ?_)
        rw [ht_37] at hb_37
        obtain ⟨hb_371, hb_372, hb_373, hb_374, hb_375⟩ := hb_37
        have hh_37 : jSt (dC, dI) B base G0 G0 EX14_statementOf s.heap 0 0 [(kr, 15, 16, .ref factName_35), (r0, 16, 58, .ref kr), (kr, 15, 15, .int pf), (kr, 15, 11, .int py), (kr, 15, 17, .ref zf), (kr, 15, 0, .ref zs), (kr, 15, 1, .ref zn), (kr, 15, 2, .ref za), (kr, 15, 3, .ref zb), (kr, 15, 4, .ref zc), (kr, 15, 14, .ref zy)] [(zf, 160, 16, ca 1, ff), (zs, 150, 120000, ca 1, C.s), (zn, 151, 120000, ca 1, C.n), (za, 152, 120000, ca 1, C.a), (zb, 153, 120000, ca 1, C.b), (zc, 154, 120000, ca 1, C.c), (zy, 165, 16, ca 1, C.y)] [] H_37 locs_37 := ((hh_34.call hb_371 hb_372 hb_373 hb_374 hS_37 rfl (L1 := [(kr, 15, 16, .ref factName_35), (r0, 16, 58, .ref kr), (kr, 15, 15, .int pf), (kr, 15, 11, .int py), (kr, 15, 17, .ref zf), (kr, 15, 0, .ref zs), (kr, 15, 1, .ref zn), (kr, 15, 2, .ref za), (kr, 15, 3, .ref zb), (kr, 15, 4, .ref zc), (kr, 15, 14, .ref zy)]) [0, 1, 2, 3, 4, 5, 6, 7, 8, 9, 10] rfl rfl (M1 := [(zf, 160, 16, ca 1, ff), (zs, 150, 120000, ca 1, C.s), (zn, 151, 120000, ca 1, C.n), (za, 152, 120000, ca 1, C.a), (zb, 153, 120000, ca 1, C.b), (zc, 154, 120000, ca 1, C.c), (zy, 165, 16, ca 1, C.y)]) [0, 1, 2, 3, 4, 5, 6] rfl rfl (I1 := []) [] rfl rfl).more hb_375)
        clear hh_34 ht_37 hvm_37 hz_37 hk_37 hS_37 hb_371 hb_372 hb_373 hb_374 hb_375
        obtain ⟨hr_38b, hr_38p⟩ := hr_38
        have hr_38' := jb_01 hr_38b
        refine lv_if_eq (tgt := 45) hx hb dX14_statementOf_38 (by decide) (fun c_39 => ?_) (fun c_39 => ?_)
        · skip
          have c_39' : r_38.toInt = 0 := jb_eq (rfl) ((by decide)) c_39
          obtain ⟨z_40, ez_40⟩ : ∃ y : Int32, y = v6_1 + 1 := ⟨_, rfl⟩
          refine lv_iinc (v := z_40) (lv' := [(6, .int z_40), (0, .ref r0), (1, .ref r1), (2, .int a2), (3, .int a3), (4, .int v4_1), (5, .int (-1))]) hx hb dX14_statementOf_45 hl (k := 6) rfl (by rw [ez_40]; rfl) (by decide) rfl (fun ls hl => ?_)
          have hz_40 : z_40.toInt = v6_1.toInt + 1 := by rw [ez_40]; exact jb_iadd2 (rfl) (by decide) (by omega)
          refine lv_goto (tgt := 9) hx hb dX14_statementOf_48 (by decide) ?_
          exact L9 v4_1 z_40 _ _ (hh_37.sub (L1 := [(r0, 16, 58, .ref kr), (kr, 15, 15, .int pf), (kr, 15, 11, .int py), (kr, 15, 17, .ref zf), (kr, 15, 0, .ref zs), (kr, 15, 1, .ref zn), (kr, 15, 2, .ref za), (kr, 15, 3, .ref zb), (kr, 15, 4, .ref zc), (kr, 15, 14, .ref zy)]) [1, 2, 3, 4, 5, 6, 7, 8, 9, 10] rfl (M1 := [(zf, 160, 16, ca 1, ff), (zs, 150, 120000, ca 1, C.s), (zn, 151, 120000, ca 1, C.n), (za, 152, 120000, ca 1, C.a), (zb, 153, 120000, ca 1, C.b), (zc, 154, 120000, ca 1, C.c), (zy, 165, 16, ca 1, C.y)]) [0, 1, 2, 3, 4, 5, 6] rfl (I1 := []) [] rfl) (by first | omega | (refine ⟨?_, ?_, ?_, ?_⟩ <;> (first | omega | rfl | assumption | decide | exact Or.inl rfl | exact Or.inr rfl | (simp only; omega)))) (by omega) _ (lv_sub hl [1, 2, 3, 4, 5, 6, 0] rfl)
        · skip
          have c_39' : r_38.toInt ≠ 0 := jb_eq_n (rfl) ((by decide)) c_39
          refine lv_iload hx hb dX14_statementOf_41 (lv_at hl 6 rfl) ?_
          refine lv_istore (lv' := [(4, .int v6_1), (0, .ref r0), (1, .ref r1), (2, .int a2), (3, .int a3), (5, .int (-1)), (6, .int v6_1)]) hx hb dX14_statementOf_43 hl (by decide) rfl (fun ls hl => ?_)
          obtain ⟨z_41, ez_41⟩ : ∃ y : Int32, y = v6_1 + 1 := ⟨_, rfl⟩
          refine lv_iinc (v := z_41) (lv' := [(6, .int z_41), (4, .int v6_1), (0, .ref r0), (1, .ref r1), (2, .int a2), (3, .int a3), (5, .int (-1))]) hx hb dX14_statementOf_45 hl (k := 6) rfl (by rw [ez_41]; rfl) (by decide) rfl (fun ls hl => ?_)
          have hz_41 : z_41.toInt = v6_1.toInt + 1 := by rw [ez_41]; exact jb_iadd2 (rfl) (by decide) (by omega)
          refine lv_goto (tgt := 9) hx hb dX14_statementOf_48 (by decide) ?_
          exact L9 v6_1 z_41 _ _ (hh_37.sub (L1 := [(r0, 16, 58, .ref kr), (kr, 15, 15, .int pf), (kr, 15, 11, .int py), (kr, 15, 17, .ref zf), (kr, 15, 0, .ref zs), (kr, 15, 1, .ref zn), (kr, 15, 2, .ref za), (kr, 15, 3, .ref zb), (kr, 15, 4, .ref zc), (kr, 15, 14, .ref zy)]) [1, 2, 3, 4, 5, 6, 7, 8, 9, 10] rfl (M1 := [(zf, 160, 16, ca 1, ff), (zs, 150, 120000, ca 1, C.s), (zn, 151, 120000, ca 1, C.n), (za, 152, 120000, ca 1, C.a), (zb, 153, 120000, ca 1, C.b), (zc, 154, 120000, ca 1, C.c), (zy, 165, 16, ca 1, C.y)]) [0, 1, 2, 3, 4, 5, 6] rfl (I1 := []) [] rfl) (by first | omega | (refine ⟨?_, ?_, ?_, ?_⟩ <;> (first | omega | rfl | assumption | decide | exact Or.inl rfl | exact Or.inr rfl | (simp only; omega)))) (by omega) _ (lv_sub hl [2, 3, 4, 5, 1, 6, 0] rfl)
  exact L9 (pf.toInt - (0 : Int32).toInt : Int).toNat.succ (-1) 0 _ _ hh (by first | omega | (refine ⟨?_, ?_, ?_, ?_⟩ <;> (first | omega | rfl | assumption | decide | exact Or.inl rfl | exact Or.inr rfl | (simp only; omega)))) (by omega) _ (lv_sub hl [3, 4, 5, 6, 2, 1, 0] rfl)
end
section
-- the documents of the reference: their sentences are in order (an invariant with a footprint; x: the document that is being changed)
abbrev jFd : List (Nat × Nat) := [(14, 4), (14, 5), (14, 6), (14, 7), (14, 9), (190, 0), (191, 0)]
theorem jf.ag14 {D : va_G} {G : jT} {H H1 : Heap} {a i : Nat} {v : Value} (hA : jAg D G jFd H H1) (ha : G a = some (14, 0)) (hi : jFd.contains (14, i) = true) (h : jf D 14 a i v H) : jf D 14 a i v H1 := hA.1 a 14 0 i v ha hi h
theorem jD14.ag {dC : Nat → ClassId} {dI : Nat → Nat → Nat} {ca : Nat → ClassId} {G : jT} {a yb ye : Nat} {H H1 : Heap} (h : jD14 dC dI ca G a yb ye H) (ha : G a = some (14, 0)) (hA : jAg (dC, dI) G jFd H H1) : jD14 dC dI ca G a yb ye H1 := by
  obtain ⟨fb, fe, ps, pz, pc, g1, g2, g3, g4, g5⟩ := h
  refine ⟨fb, fe, ps, pz, pc, g1, g2, fun q hq => ?_, fun q hq => ?_, g5⟩
  · obtain ⟨q1, q2⟩ := g3 q hq
    refine ⟨q1, ?_⟩
    simp only [List.mem_cons, List.not_mem_nil, or_false] at hq
    rcases hq with rfl | rfl | rfl | rfl | rfl <;> exact jf.ag14 hA ha rfl q2
  · obtain ⟨q1, q2, q3, q4⟩ := g4 q hq
    refine ⟨q1, q2, q3, q4.kept ?_⟩
    simp only [List.mem_cons, List.not_mem_nil, or_false] at hq
    rcases hq with rfl | rfl
    · exact hA.2 _ _ _ q1 q2 q3 rfl
    · exact hA.2 _ _ _ q1 q2 q3 rfl
theorem jDX.ag {dC : Nat → ClassId} {dI : Nat → Nat → Nat} {ca : Nat → ClassId} {G : jT} {x : Option Nat} {H H1 : Heap} (hA : jAg (dC, dI) G jFd H H1) (h : jDX dC dI ca G x H) : jDX dC dI ca G x H1 := by
  obtain ⟨Yb, Ye, h1, h2, h3, h4⟩ := h
  exact ⟨Yb, Ye, fun a ha => ⟨jf.ag14 hA ha rfl (h1 a ha).1, jf.ag14 hA ha rfl (h1 a ha).2⟩, h2, h3, fun a ha hx => (h4 a ha hx).ag ha hA⟩
end
section
-- invariants with a footprint, as a walk carries them: contents of reference arrays, one field of all documents, the sentences of all documents
abbrev jF9 : List (Nat × Nat) := [(14, 9)]
abbrev jFs : List (Nat × Nat) := [(14, 5), (14, 6), (14, 7), (190, 0), (191, 0)]
theorem jQc.ie {dC : Nat → ClassId} {dI : Nat → Nat → Nat} {cA : ClassId} {a n k m : Nat} {G : jT} {f : Nat → Option Nat} {H : Heap} (h : jQc dC dI cA a n f H) (ha : G a = some (k, m)) (h1 : 18 ≤ k) (h2 : k < 1000) : (([(k, 0)], jQc dC dI cA a n f) : jIv).2 H ∧ ∀ H1 H2 : Heap, jAg (dC, dI) G (([(k, 0)], jQc dC dI cA a n f) : jIv).1 H1 H2 → (([(k, 0)], jQc dC dI cA a n f) : jIv).2 H1 → (([(k, 0)], jQc dC dI cA a n f) : jIv).2 H2 :=
  ⟨h, fun H1 H2 hA hq => by
    have hq1 : va_at (dC, dI) vwCl (a, .inl (cA, n, .inr (.inr (.inr (.inr f))))) H1 := hq
    exact va_at.kept hq1 (hA.2 a k m ha h1 h2 (by simp))⟩
theorem jVl.ie {dC : Nat → ClassId} {dI : Nat → Nat → Nat} {G : jT} {v : Nat → Int32} {H : Heap} (h : jVl dC dI G 9 v H) : ((jF9, jVl dC dI G 9 v) : jIv).2 H ∧ ∀ H1 H2 : Heap, jAg (dC, dI) G ((jF9, jVl dC dI G 9 v) : jIv).1 H1 H2 → ((jF9, jVl dC dI G 9 v) : jIv).2 H1 → ((jF9, jVl dC dI G 9 v) : jIv).2 H2 :=
  ⟨h, fun H1 H2 hA hq a ha => hA.1 a 14 0 9 _ ha rfl (hq a ha)⟩
theorem jDY.ie {dC : Nat → ClassId} {dI : Nat → Nat → Nat} {ca : Nat → ClassId} {G : jT} {x : Option Nat} {sn : Nat → Int32} {H : Heap} (h : jDY dC dI ca G x sn H) : ((jFs, jDY dC dI ca G x sn) : jIv).2 H ∧ ∀ H1 H2 : Heap, jAg (dC, dI) G ((jFs, jDY dC dI ca G x sn) : jIv).1 H1 H2 → ((jFs, jDY dC dI ca G x sn) : jIv).2 H1 → ((jFs, jDY dC dI ca G x sn) : jIv).2 H2 := by
  refine ⟨h, fun H1 H2 hA hq => ?_⟩
  obtain ⟨Yb, Ye, h1, h2, h3, h4⟩ := hq
  refine ⟨Yb, Ye, fun a ha => ?_, h2, h3, fun a ha hx => ?_⟩
  · obtain ⟨g1, g2, g3, g4⟩ := h1 a ha
    exact ⟨hA.1 a 14 0 6 _ ha rfl g1, hA.1 a 14 0 7 _ ha rfl g2, g3, g4⟩
  · obtain ⟨g1, g2, g3, g4⟩ := h1 a ha
    refine (h4 a ha hx).of (fun i v hi hf => ?_) (hA.2 _ _ _ g3 (by omega) (by omega) rfl) (hA.2 _ _ _ g4 (by omega) (by omega) rfl)
    rcases hi with rfl | rfl | rfl
    · exact hA.1 a 14 0 5 _ ha rfl hf
    · exact hA.1 a 14 0 6 _ ha rfl hf
    · exact hA.1 a 14 0 7 _ ha rfl hf
theorem jDY.full {dC : Nat → ClassId} {dI : Nat → Nat → Nat} {ca : Nat → ClassId} {G : jT} {sn : Nat → Int32} {H : Heap} {a yb ye : Nat} {ps : Int32} {fb fe : Nat → Int32} (h : jDY dC dI ca G (some a) sn H) (ha : G a = some (14, 0)) (hb : G yb = some (190, 40)) (he : G ye = some (191, 40)) (hP : jP (dC, dI) G H [(a, 14, 6, .ref yb), (a, 14, 7, .ref ye), (a, 14, 5, .int ps)]) (hM : jMc (dC, dI) G H [(yb, 190, 40, ca 1, fb), (ye, 191, 40, ca 1, fe)]) (hs : jSrt fb fe ps.toInt 1500) (h0 : 0 ≤ ps.toInt) (h40 : ps.toInt ≤ 40) : jDY dC dI ca G none (jUn sn a ps) H := by
  obtain ⟨Yb, Ye, h1, h2, h3, h4⟩ := h
  refine ⟨Yb, Ye, h1, h2, h3, fun b hb1 _ => ?_⟩
  by_cases e : b = a
  · subst e
    rw [jUn_e]
    have e1 : Yb b = yb := by have := jf.uniq (h1 b ha).1 (hP _ List.mem_cons_self).2; cases this; rfl
    have e2 : Ye b = ye := by have := jf.uniq (h1 b ha).2.1 (hP _ (List.mem_cons_of_mem _ List.mem_cons_self)).2; cases this; rfl
    rw [e1, e2]
    exact ⟨fb, fe, hb, he, hP, hM, hs, h0, h40⟩
  · rw [jUn_n _ _ e]
    exact h4 b hb1 (fun q => e (Option.some.inj q))
/-- a write to a field of x -/
theorem jDY.fld {dC : Nat → ClassId} {dI : Nat → Nat → Nat} {ca : Nat → ClassId} {G : jT} {sn : Nat → Int32} {H H1 : Heap} {a : Nat} (h : jDY dC dI ca G (some a) sn H) (ha : G a = some (14, 0)) (hfr : ∀ p, p ≠ a → H1[p]? = H[p]?) (hkf : ∀ ib w, ib ≠ 5 → jf (dC, dI) 14 a ib w H → jf (dC, dI) 14 a ib w H1) : jDY dC dI ca G (some a) sn H1 := by
  obtain ⟨Yb, Ye, h1, h2, h3, h4⟩ := h
  refine ⟨Yb, Ye, fun b hb => ?_, h2, h3, fun b hb hx => ?_⟩
  · obtain ⟨g1, g2, g3, g4⟩ := h1 b hb
    by_cases e : b = a
    · subst e; exact ⟨hkf _ _ (by decide) g1, hkf _ _ (by decide) g2, g3, g4⟩
    · exact ⟨g1.kept (hfr b e), g2.kept (hfr b e), g3, g4⟩
  · obtain ⟨g1, g2, g3, g4⟩ := h1 b hb
    have e : b ≠ a := fun q => hx (by rw [q])
    refine (h4 b hb hx).of (fun i v hi hf => hf.kept (hfr b e)) (hfr _ (fun q => ?_)) (hfr _ (fun q => ?_))
    · rw [q, ha] at g3; cases g3
    · rw [q, ha] at g4; cases g4
/-- a write to an array of x -/
theorem jDY.arr {dC : Nat → ClassId} {dI : Nat → Nat → Nat} {ca : Nat → ClassId} {G : jT} {sn : Nat → Int32} {H H1 : Heap} {a y k : Nat} (h : jDY dC dI ca G (some a) sn H) (ha : G a = some (14, 0)) (hy : G y = some (k, 40)) (hk : (k = 190 ∧ jf (dC, dI) 14 a 6 (.ref y) H) ∨ (k = 191 ∧ jf (dC, dI) 14 a 7 (.ref y) H)) (hfr : ∀ p, p ≠ y → H1[p]? = H[p]?) : jDY dC dI ca G (some a) sn H1 := by
  obtain ⟨Yb, Ye, h1, h2, h3, h4⟩ := h
  have hn : ∀ b, G b = some (14, 0) → b ≠ y := fun b hb q => by
    rw [q, hy] at hb
    have := (Prod.mk.inj (Option.some.inj hb)).1
    rcases hk with hk | hk <;> omega
  refine ⟨Yb, Ye, fun b hb => ?_, h2, h3, fun b hb hx => ?_⟩
  · obtain ⟨g1, g2, g3, g4⟩ := h1 b hb
    exact ⟨g1.kept (hfr b (hn b hb)), g2.kept (hfr b (hn b hb)), g3, g4⟩
  · obtain ⟨g1, g2, g3, g4⟩ := h1 b hb
    refine (h4 b hb hx).of (fun i v hi hf => hf.kept (hfr b (hn b hb))) (hfr _ (fun q => ?_)) (hfr _ (fun q => ?_))
    · rcases hk with ⟨k1, k2⟩ | ⟨k1, k2⟩
      · have e1 : Yb a = y := by have := jf.uniq (h1 a ha).1 k2; cases this; rfl
        exact hx (by rw [h2 b a hb ha (q.trans e1.symm)])
      · rw [q, hy] at g3
        have := (Prod.mk.inj (Option.some.inj g3)).1
        omega
    · rcases hk with ⟨k1, k2⟩ | ⟨k1, k2⟩
      · rw [q, hy] at g4
        have := (Prod.mk.inj (Option.some.inj g4)).1
        omega
      · have e1 : Ye a = y := by have := jf.uniq (h1 a ha).2.1 k2; cases this; rfl
        exact hx (by rw [h3 b a hb ha (q.trans e1.symm)])
theorem jStr.back {base a n : Nat} {s t : State} {H1 : Heap} (h : jStr base a n t H1) (hvm : s.vm.Alike t.vm) (hb : base ≤ s.heap.size) (hS : ∀ q : Nat, q < s.heap.size → ¬ jA base q → H1[q]? = s.heap[q]?) : jStr base a n s s.heap :=
  (h.moved hvm.symm).kept (fun q _ hq => (hS q (Nat.lt_of_lt_of_le (Nat.lt_of_not_le hq) hb) hq).symm)
section J15
variable {p : Program} {l : Launch} {e : Env} {R : Room} {s : State} {m : MethodId} {args : Array Value} {below : List Frame} {meth : Method} {c : Code} {H : Heap} {locs : List Loc} {cells slots : Nat} {Q : State → Prop}
variable {cc : ByteArray} {pc : Nat} {ls : Array Slot} {rest : List Value} {dC : Nat → ClassId} {dI : Nat → Nat → Nat} {ca : Nat → ClassId} {B : jF} {base : Nat} {G0 G : jT} {E : List (Nat × Nat)} {H0 : Heap} {zc zs : Nat} {L : List jPin} {M : List jCt} {I : List jIv} {a k n i N : Nat} {cA : ClassId} {tys : List (ClassId × FieldType)} {C own : String} {T : u_T} {index : Nat}
theorem jSt.addI (hh : jSt (dC, dI) B base G0 G E H0 zc zs L M I H locs) {q : jIv} (h : q.2 H ∧ ∀ H1 H2 : Heap, jAg (dC, dI) G q.1 H1 H2 → q.2 H1 → q.2 H2) : jSt (dC, dI) B base G0 G E H0 zc zs L M (q :: I) H locs := by
  obtain ⟨h1, h2, h3, h4, h5, h6, h7, h8, h9⟩ := hh
  exact ⟨h1, h2, h3, h4, h5, h6, h7, h8, jIs.cons h h9⟩
theorem jSt.addIs (hh : jSt (dC, dI) B base G0 G E H0 zc zs L M I H locs) {I1 : List jIv} (h : jIs (dC, dI) G H I1) : jSt (dC, dI) B base G0 G E H0 zc zs L M (I1 ++ I) H locs := by
  obtain ⟨h1, h2, h3, h4, h5, h6, h7, h8, h9⟩ := hh
  exact ⟨h1, h2, h3, h4, h5, h6, h7, h8, fun q hq => (List.mem_append.mp hq).elim (h q) (h9 q)⟩
/-- a write to a field, with all that stays -/
theorem j7_putNX (hexec : p.tables.exec = Jvm.exec) (hb : c.code = cc) (hown : s.vm.findClass own = some m.cls) (hK : va_K (dC, dI) vwCl tys s) (hh : jSt (dC, dI) B base G0 G E H0 zc zs L M I H locs) (hB : jBok B) (hAp : jAp (dC, dI)) {F : Nat → jT → List (Value → Prop)} (hBk : ∀ n G a H, B k n G a H ↔ jOb (dC, dI) k N (F n G) a H) (hc : vwCl[k]? = some (C, T, N)) (hk : k < 1000) (ha : G a = some (k, n)) (hi : i < N) (hlay : (u_lay C T i).before args s = true) (hfin : (T i).2.2.2 = false) {host : String} (hlink : (Cond.fieldLinkNest own index (T i).1 (T i).2.1 (T i).2.2.1 host).before args s = true) {P : Value → Prop} (hp : (F n G)[i]? = some P) {ty : FieldType} {v : Value} (hd : parseFieldDescriptor (T i).2.2.1 = some ty) (hnar : narrow ty v = v) (hfit : fits ty v = true) (hv : P v) (hE : E.contains (k, i) = true)
    {L1 : List jPin} (is : List Nat) (hs : is.map (fun i => L[i]?) = L1.map some) (hn : L1.all (fun q => !(q.2.1 == k && q.2.2.1 == i)) = true) (hI : I.all (fun q => !(q.1.contains (k, i))) = true) (hdg : decode cc pc = .ok (.putfield index, 3))
    (kk : ∀ (H1 : Heap) (locs1 : List Loc), (∀ q, q ≠ a → H1[q]? = H[q]?) → (∀ ib w, ib ≠ i → jf (dC, dI) k a ib w H → jf (dC, dI) k a ib w H1) → jSt (dC, dI) B base G0 G E H0 zc zs ((a, k, i, v) :: L1) M I H1 locs1 → W p l e R s m args below meth c H1 locs1 cells slots Q (F0 m (pc + 3) ls rest)) : W p l e R s m args below meth c H locs cells slots Q (F0 m pc ls (v :: .ref a :: rest)) := by
  obtain ⟨V, ⟨cell, q1, q2, q3, q4⟩, hV⟩ := (hBk _ _ _ _).mp (hh.2.1.1 a k n ha hk (fun h => by cases h))
  obtain ⟨hS, hfc, kC, hkC, hkind⟩ := hK.1 k _ hc
  obtain ⟨cf, kf, fi, f, hfi, hsl⟩ := hS i hi
  have hst := (u_facts hfc hkC (j7_lay hlay) hfi).1
  unfold u_lay at hlay
  rw [if_neg (by rw [hfin]; decide)] at hlay
  have h6 := u_store hfc hkC hkind hlay hfi hd hnar hfit
  refine va_WputK hexec hb (f := f) hown hlink hfi hst (by rw [q2]; exact h6) q1 q3 (by rw [hsl]; exact k2_hasslot (q4 i hi)) rfl rfl hdg fun H1 e1 e2 e3 => ?_
  rw [hsl] at e1 ⊢
  refine kk H1 _ e3 (fun ib w hne hf => ?_) (hh.fld hB hAp hBk hc hk ha hi hp hv hE is hs hn hI q1 e1 e2 e3 (jTot_set e2 q1 e1 (jSet_sz _ _ _) e3) (fun q hq => ?_))
  · obtain ⟨r, g1, g2, cell2, g3, g4, g5, g6⟩ := hf
    have hr : r = (C, T, N) := Option.some.inj (g1.symm.trans hc)
    subst hr
    cases q1.symm.trans g3
    have hap : ∀ x y, x < N → y < N → x ≠ y → dI k x ≠ dI k y := fun x y hx hy => hAp k _ hc x y hx hy
    have e4 : (cell.setSlot (dI k i) v).slots[dI k ib]? = some (updV V i v ib) := t_set q4 hap hi v ib g2
    have e5 : updV V i v ib = V ib := by simp [updV, hne]
    rw [e5] at e4
    have e6 : V ib = w := Option.some.inj ((q4 ib g2).symm.trans g6)
    exact ⟨_, hc, g2, _, e1, g4, g5, by rw [← e6]; exact e4⟩
  · rcases List.mem_append.mp hq with h | h
    · exact hh.1.2.2 q h
    · cases List.mem_singleton.mp h; exact (hh.ab ha).1
/-- reads and writes of a reference array whose contents are known -/
theorem j7_qaldI {P : jT → Option Nat → Prop} (hexec : p.tables.exec = Jvm.exec) (hb : c.code = cc) (hK : va_K (dC, dI) vwCl tys s) (hh : jSt (dC, dI) B base G0 G E H0 zc zs L M I H locs) (hBk : ∀ n G a H, B k n G a H ↔ jAq (dC, dI) cA P n G a H) (t0 : Nat) (ht : tys[t0]? = some (cA, .object C)) (hk : k < 1000) (ha : G a = some (k, n)) {i : Int32} {x : Int} (hi : i.toInt = x) (h12 : 0 ≤ x ∧ x < n) {f : Nat → Option Nat} {cB : ClassId} (hq : jQc dC dI cB a n f H) (hdg : decode cc pc = .ok (.aaload, 1))
    (kk : ∀ o : Option Nat, P G o → o = f x.toNat → W p l e R s m args below meth c H locs cells slots Q (F0 m (pc + 1) ls (va_rf o :: rest))) : W p l e R s m args below meth c H locs cells slots Q (F0 m pc ls (.int i :: .ref a :: rest)) := by
  obtain ⟨h1, h2⟩ := h12
  obtain ⟨f', g1, g2⟩ := hh.aq hBk hk ha
  have hlt := jb_cl_lt hi h1 h2
  exact va_aldq hexec hb hK (jp_one g1) 0 t0 rfl ht (jb_in hi h1 h2) hdg (kk _ (g2 _ hlt) (by rw [← jb_cl hi h1]; exact jQc_eq g1 hq hlt))
theorem j7_qastI {P : jT → Option Nat → Prop} (hexec : p.tables.exec = Jvm.exec) (hb : c.code = cc) (hK : va_K (dC, dI) vwCl tys s) (hh : jSt (dC, dI) B base G0 G E H0 zc zs L M I H locs) (hB : jBok B) (hBk : ∀ n G a H, B k n G a H ↔ jAq (dC, dI) cA P n G a H) (t0 : Nat) (ht : tys[t0]? = some (cA, .object C)) (hk : k < 1000) (hk2 : 18 ≤ k) (hE : E.contains (k, 0) = true) (hM : M.all (fun q => !(q.2.1 == k)) = true) (hI : I.all (fun q => !(q.1.contains (k, 0))) = true) (ha : G a = some (k, n)) {i : Int32} {x : Int} (hi : i.toInt = x) (h12 : 0 ≤ x ∧ x < n)
    {v kv nv N : Nat} {T : u_T} {F : Nat → jT → List (Value → Prop)} (hBv : ∀ n G a H, B kv n G a H ↔ jOb (dC, dI) kv N (F n G) a H) (hc : vwCl[kv]? = some (C, T, N)) (hkv : kv < 1000) (hv : G v = some (kv, nv)) (hP : P G (some v)) {f0 : Nat → Option Nat} {cB : ClassId} (hq0 : jQc dC dI cB a n f0 H) (hdg : decode cc pc = .ok (.aastore, 1))
    (kk : ∀ (H1 : Heap) (locs1 : List Loc) (g : Nat → Option Nat), g x.toNat = (some v) → (∀ j, j < n → j ≠ x.toNat → g j = f0 j) → jQc dC dI cA a n g H1 → jSt (dC, dI) B base G0 G E H0 zc zs L M I H1 locs1 → W p l e R s m args below meth c H1 locs1 cells slots Q (F0 m (pc + 1) ls rest)) : W p l e R s m args below meth c H locs cells slots Q (F0 m pc ls (.ref v :: .int i :: .ref a :: rest)) := by
  obtain ⟨h1, h2⟩ := h12
  obtain ⟨f, g1, g2⟩ := hh.aq hBk hk ha
  obtain ⟨V, ⟨cellV, q1, q2, q3, q4⟩, hV⟩ := (hBv _ _ _ _).mp (hh.2.1.1 v kv nv hv hkv (fun h => by cases h))
  have hlt := jb_cl_lt hi h1 h2
  have hcls := (hK.1 kv _ hc).2
  obtain ⟨kA, comp, k1, k2, k3, -⟩ := (hK.2 t0 _ ht).2
  have hcomp : comp = dC kv := Option.some.inj (k3.symm.trans hcls.1)
  subst hcomp
  obtain ⟨kC, hkC, -⟩ := hcls.2
  refine W.aast hexec hb g1 (fun q h => by cases h) (fun h => by cases h) k1 k2 rfl hkC ⟨jb_n0 hi h1, by show _ < (arrV _ _ _).slots.size; rw [arrV_size]; exact hlt⟩ q1 (fun q h => by rw [q3] at h; cases h) (by rw [q2]; exact hkC) (by rw [q2]; exact va_assign hcls) rfl rfl hdg fun H1 e1 z oq => ?_
  have hat : jQc dC dI cA a n (va_up f i.toNatClampNeg (some v)) H1 := by
    show H1[a]? = some (vp_cell _ _)
    rw [e1]
    rw [vp_cell_q, vp_cell_q, arrV_store]
    congr 2
    funext q
    by_cases hq : q = i.toNatClampNeg
    · subst hq
      simp [updV, va_up, va_rf]
    · simp [updV, va_up, hq]
  refine kk H1 _ (va_up f i.toNatClampNeg (some v)) (by rw [← jb_cl hi h1]; simp [va_up]) (fun j hj hne => ?_) hat (hh.arr hB ha hk hk2 hE hM hI z oq (jTot_set z g1 e1 (jSet_sz _ _ _) oq) (fun q hq => ?_) ((hBk _ _ _ _).mpr ⟨_, hat, jAq_up g2 hP⟩))
  · rw [va_up_ne _ _ (by rw [jb_cl hi h1]; exact hne)]; exact jQc_eq g1 hq0 hj
  · rcases List.mem_append.mp hq with h | h
    · exact hh.1.2.2 q h
    · cases List.mem_singleton.mp h; exact (hh.ab ha).1
theorem j7_qastNI {P : jT → Option Nat → Prop} (hexec : p.tables.exec = Jvm.exec) (hb : c.code = cc) (hK : va_K (dC, dI) vwCl tys s) (hh : jSt (dC, dI) B base G0 G E H0 zc zs L M I H locs) (hB : jBok B) (hBk : ∀ n G a H, B k n G a H ↔ jAq (dC, dI) cA P n G a H) (t0 : Nat) (ht : tys[t0]? = some (cA, .object C)) (hk : k < 1000) (hk2 : 18 ≤ k) (hE : E.contains (k, 0) = true) (hM : M.all (fun q => !(q.2.1 == k)) = true) (hI : I.all (fun q => !(q.1.contains (k, 0))) = true) (ha : G a = some (k, n)) {i : Int32} {x : Int} (hi : i.toInt = x) (h12 : 0 ≤ x ∧ x < n) (hP : P G none) {f0 : Nat → Option Nat} {cB : ClassId} (hq0 : jQc dC dI cB a n f0 H) (hdg : decode cc pc = .ok (.aastore, 1))
    (kk : ∀ (H1 : Heap) (locs1 : List Loc) (g : Nat → Option Nat), g x.toNat = none → (∀ j, j < n → j ≠ x.toNat → g j = f0 j) → jQc dC dI cA a n g H1 → jSt (dC, dI) B base G0 G E H0 zc zs L M I H1 locs1 → W p l e R s m args below meth c H1 locs1 cells slots Q (F0 m (pc + 1) ls rest)) : W p l e R s m args below meth c H locs cells slots Q (F0 m pc ls (.null :: .int i :: .ref a :: rest)) := by
  obtain ⟨h1, h2⟩ := h12
  obtain ⟨f, g1, g2⟩ := hh.aq hBk hk ha
  refine va_WaastN (C := C) hexec hb g1 ((hK.2 t0 _ ht).1 n (fun j => va_rf (f j))) (fun h => by cases h) (by show ¬ (i < 0 ∨ (arrV _ _ _).slots.size ≤ _); rw [arrV_size]; exact jb_in hi h1 h2) rfl rfl hdg fun H1 e1 z oq => ?_
  have hat : jQc dC dI cA a n (va_up f i.toNatClampNeg none) H1 := by
    show H1[a]? = some (vp_cell _ _)
    rw [e1]
    rw [vp_cell_q, vp_cell_q, arrV_store]
    congr 2
    funext q
    by_cases hq : q = i.toNatClampNeg
    · subst hq
      simp [updV, va_up, va_rf]
    · simp [updV, va_up, hq]
  refine kk H1 _ (va_up f i.toNatClampNeg none) (by rw [← jb_cl hi h1]; simp [va_up]) (fun j hj hne => ?_) hat (hh.arr hB ha hk hk2 hE hM hI z oq (jTot_set z g1 e1 (jSet_sz _ _ _) oq) (fun q hq => ?_) ((hBk _ _ _ _).mpr ⟨_, hat, jAq_up g2 hP⟩))
  · rw [va_up_ne _ _ (by rw [jb_cl hi h1]; exact hne)]; exact jQc_eq g1 hq0 hj
  · rcases List.mem_append.mp hq with h | h
    · exact hh.1.2.2 q h
    · cases List.mem_singleton.mp h; exact (hh.ab ha).1
end J15
end
section
theorem dX14_messageOf_0 : decode cX14_messageOf 0 = .ok (.iload_n 0, 1) := by decide +kernel
theorem dX14_messageOf_1 : decode cX14_messageOf 1 = .ok (.iconst 1, 1) := by decide +kernel
theorem dX14_messageOf_2 : decode cX14_messageOf 2 = .ok (.if_icmp .ne 9, 3) := by decide +kernel
theorem dX14_messageOf_5 : decode cX14_messageOf 5 = .ok (.ldc_w 734, 3) := by decide +kernel
theorem dX14_messageOf_8 : decode cX14_messageOf 8 = .ok (.goto 86, 3) := by decide +kernel
theorem dX14_messageOf_11 : decode cX14_messageOf 11 = .ok (.iload_n 0, 1) := by decide +kernel
theorem dX14_messageOf_12 : decode cX14_messageOf 12 = .ok (.iconst 2, 1) := by decide +kernel
theorem dX14_messageOf_13 : decode cX14_messageOf 13 = .ok (.if_icmp .ne 9, 3) := by decide +kernel
theorem dX14_messageOf_16 : decode cX14_messageOf 16 = .ok (.ldc_w 736, 3) := by decide +kernel
theorem dX14_messageOf_19 : decode cX14_messageOf 19 = .ok (.goto 75, 3) := by decide +kernel
theorem dX14_messageOf_22 : decode cX14_messageOf 22 = .ok (.iload_n 0, 1) := by decide +kernel
theorem dX14_messageOf_23 : decode cX14_messageOf 23 = .ok (.iconst 3, 1) := by decide +kernel
theorem dX14_messageOf_24 : decode cX14_messageOf 24 = .ok (.if_icmp .ne 9, 3) := by decide +kernel
theorem dX14_messageOf_27 : decode cX14_messageOf 27 = .ok (.ldc_w 738, 3) := by decide +kernel
theorem dX14_messageOf_30 : decode cX14_messageOf 30 = .ok (.goto 64, 3) := by decide +kernel
theorem dX14_messageOf_33 : decode cX14_messageOf 33 = .ok (.iload_n 0, 1) := by decide +kernel
theorem dX14_messageOf_34 : decode cX14_messageOf 34 = .ok (.iconst 4, 1) := by decide +kernel
theorem dX14_messageOf_35 : decode cX14_messageOf 35 = .ok (.if_icmp .ne 9, 3) := by decide +kernel
theorem dX14_messageOf_38 : decode cX14_messageOf 38 = .ok (.ldc_w 740, 3) := by decide +kernel
theorem dX14_messageOf_41 : decode cX14_messageOf 41 = .ok (.goto 53, 3) := by decide +kernel
theorem dX14_messageOf_44 : decode cX14_messageOf 44 = .ok (.iload_n 0, 1) := by decide +kernel
theorem dX14_messageOf_45 : decode cX14_messageOf 45 = .ok (.iconst 5, 1) := by decide +kernel
theorem dX14_messageOf_46 : decode cX14_messageOf 46 = .ok (.if_icmp .ne 9, 3) := by decide +kernel
theorem dX14_messageOf_49 : decode cX14_messageOf 49 = .ok (.ldc_w 742, 3) := by decide +kernel
theorem dX14_messageOf_52 : decode cX14_messageOf 52 = .ok (.goto 42, 3) := by decide +kernel
theorem dX14_messageOf_55 : decode cX14_messageOf 55 = .ok (.iload_n 0, 1) := by decide +kernel
theorem dX14_messageOf_56 : decode cX14_messageOf 56 = .ok (.bipush 6, 2) := by decide +kernel
theorem dX14_messageOf_58 : decode cX14_messageOf 58 = .ok (.if_icmp .ne 9, 3) := by decide +kernel
theorem dX14_messageOf_61 : decode cX14_messageOf 61 = .ok (.ldc_w 744, 3) := by decide +kernel
theorem dX14_messageOf_64 : decode cX14_messageOf 64 = .ok (.goto 30, 3) := by decide +kernel
theorem dX14_messageOf_67 : decode cX14_messageOf 67 = .ok (.iload_n 0, 1) := by decide +kernel
theorem dX14_messageOf_68 : decode cX14_messageOf 68 = .ok (.bipush 7, 2) := by decide +kernel
theorem dX14_messageOf_70 : decode cX14_messageOf 70 = .ok (.if_icmp .ne 9, 3) := by decide +kernel
theorem dX14_messageOf_73 : decode cX14_messageOf 73 = .ok (.ldc_w 745, 3) := by decide +kernel
theorem dX14_messageOf_76 : decode cX14_messageOf 76 = .ok (.goto 18, 3) := by decide +kernel
theorem dX14_messageOf_79 : decode cX14_messageOf 79 = .ok (.iload_n 0, 1) := by decide +kernel
theorem dX14_messageOf_80 : decode cX14_messageOf 80 = .ok (.bipush 8, 2) := by decide +kernel
theorem dX14_messageOf_82 : decode cX14_messageOf 82 = .ok (.if_icmp .ne 9, 3) := by decide +kernel
theorem dX14_messageOf_85 : decode cX14_messageOf 85 = .ok (.ldc_w 747, 3) := by decide +kernel
theorem dX14_messageOf_88 : decode cX14_messageOf 88 = .ok (.goto 6, 3) := by decide +kernel
theorem dX14_messageOf_91 : decode cX14_messageOf 91 = .ok (.ldc_w 749, 3) := by decide +kernel
theorem dX14_messageOf_94 : decode cX14_messageOf 94 = .ok (.areturn, 1) := by decide +kernel
theorem dX14_takeCheck_0 : decode cX14_takeCheck 0 = .ok (.aload_n 0, 1) := by decide +kernel
theorem dX14_takeCheck_1 : decode cX14_takeCheck 1 = .ok (.invokevirtual 782, 3) := by decide +kernel
theorem dX14_takeCheck_4 : decode cX14_takeCheck 4 = .ok (.astore_n 2, 1) := by decide +kernel
theorem dX14_takeCheck_5 : decode cX14_takeCheck 5 = .ok (.aload_n 2, 1) := by decide +kernel
theorem dX14_takeCheck_6 : decode cX14_takeCheck 6 = .ok (.ifnonnull 4, 3) := by decide +kernel
theorem dX14_takeCheck_9 : decode cX14_takeCheck 9 = .ok (.return_, 1) := by decide +kernel
theorem dX14_takeCheck_10 : decode cX14_takeCheck 10 = .ok (.aload_n 2, 1) := by decide +kernel
theorem dX14_takeCheck_11 : decode cX14_takeCheck 11 = .ok (.getfield 531, 3) := by decide +kernel
theorem dX14_takeCheck_14 : decode cX14_takeCheck 14 = .ok (.istore_n 3, 1) := by decide +kernel
theorem dX14_takeCheck_15 : decode cX14_takeCheck 15 = .ok (.aload_n 0, 1) := by decide +kernel
theorem dX14_takeCheck_16 : decode cX14_takeCheck 16 = .ok (.getfield 129, 3) := by decide +kernel
theorem dX14_takeCheck_19 : decode cX14_takeCheck 19 = .ok (.iload_n 1, 1) := by decide +kernel
theorem dX14_takeCheck_20 : decode cX14_takeCheck 20 = .ok (.aload_n 2, 1) := by decide +kernel
theorem dX14_takeCheck_21 : decode cX14_takeCheck 21 = .ok (.aastore, 1) := by decide +kernel
theorem dX14_takeCheck_22 : decode cX14_takeCheck 22 = .ok (.aload_n 0, 1) := by decide +kernel
theorem dX14_takeCheck_23 : decode cX14_takeCheck 23 = .ok (.getfield 132, 3) := by decide +kernel
theorem dX14_takeCheck_26 : decode cX14_takeCheck 26 = .ok (.iload_n 1, 1) := by decide +kernel
theorem dX14_takeCheck_27 : decode cX14_takeCheck 27 = .ok (.iload_n 3, 1) := by decide +kernel
theorem dX14_takeCheck_28 : decode cX14_takeCheck 28 = .ok (.iastore, 1) := by decide +kernel
theorem dX14_takeCheck_29 : decode cX14_takeCheck 29 = .ok (.aload_n 0, 1) := by decide +kernel
theorem dX14_takeCheck_30 : decode cX14_takeCheck 30 = .ok (.aload_n 2, 1) := by decide +kernel
theorem dX14_takeCheck_31 : decode cX14_takeCheck 31 = .ok (.iload_n 3, 1) := by decide +kernel
theorem dX14_takeCheck_32 : decode cX14_takeCheck 32 = .ok (.invokevirtual 786, 3) := by decide +kernel
theorem dX14_takeCheck_35 : decode cX14_takeCheck 35 = .ok (.aload_n 0, 1) := by decide +kernel
theorem dX14_takeCheck_36 : decode cX14_takeCheck 36 = .ok (.getfield 138, 3) := by decide +kernel
theorem dX14_takeCheck_39 : decode cX14_takeCheck 39 = .ok (.iload_n 1, 1) := by decide +kernel
theorem dX14_takeCheck_40 : decode cX14_takeCheck 40 = .ok (.aload_n 0, 1) := by decide +kernel
theorem dX14_takeCheck_41 : decode cX14_takeCheck 41 = .ok (.invokevirtual 772, 3) := by decide +kernel
theorem dX14_takeCheck_44 : decode cX14_takeCheck 44 = .ok (.ifCond .lt 7, 3) := by decide +kernel
theorem dX14_takeCheck_47 : decode cX14_takeCheck 47 = .ok (.iconst 1, 1) := by decide +kernel
theorem dX14_takeCheck_48 : decode cX14_takeCheck 48 = .ok (.goto 4, 3) := by decide +kernel
theorem dX14_takeCheck_51 : decode cX14_takeCheck 51 = .ok (.iconst 0, 1) := by decide +kernel
theorem dX14_takeCheck_52 : decode cX14_takeCheck 52 = .ok (.bastore, 1) := by decide +kernel
theorem dX14_takeCheck_53 : decode cX14_takeCheck 53 = .ok (.aload_n 0, 1) := by decide +kernel
theorem dX14_takeCheck_54 : decode cX14_takeCheck 54 = .ok (.getfield 135, 3) := by decide +kernel
theorem dX14_takeCheck_57 : decode cX14_takeCheck 57 = .ok (.iload_n 1, 1) := by decide +kernel
theorem dX14_takeCheck_58 : decode cX14_takeCheck 58 = .ok (.aload_n 0, 1) := by decide +kernel
theorem dX14_takeCheck_59 : decode cX14_takeCheck 59 = .ok (.getfield 138, 3) := by decide +kernel
theorem dX14_takeCheck_62 : decode cX14_takeCheck 62 = .ok (.iload_n 1, 1) := by decide +kernel
theorem dX14_takeCheck_63 : decode cX14_takeCheck 63 = .ok (.baload, 1) := by decide +kernel
theorem dX14_takeCheck_64 : decode cX14_takeCheck 64 = .ok (.ifCond .eq 7, 3) := by decide +kernel
theorem dX14_takeCheck_67 : decode cX14_takeCheck 67 = .ok (.iconst 1, 1) := by decide +kernel
theorem dX14_takeCheck_68 : decode cX14_takeCheck 68 = .ok (.goto 9, 3) := by decide +kernel
theorem dX14_takeCheck_71 : decode cX14_takeCheck 71 = .ok (.aload_n 0, 1) := by decide +kernel
theorem dX14_takeCheck_72 : decode cX14_takeCheck 72 = .ok (.aload_n 2, 1) := by decide +kernel
theorem dX14_takeCheck_73 : decode cX14_takeCheck 73 = .ok (.iload_n 3, 1) := by decide +kernel
theorem dX14_takeCheck_74 : decode cX14_takeCheck 74 = .ok (.invokevirtual 789, 3) := by decide +kernel
theorem dX14_takeCheck_77 : decode cX14_takeCheck 77 = .ok (.iastore, 1) := by decide +kernel
theorem dX14_takeCheck_78 : decode cX14_takeCheck 78 = .ok (.return_, 1) := by decide +kernel
def EX14_messageOf : List (Nat × Nat) := []
def qtx2547 : String := match tables_1[2547]? with | some (Jvm.Cond.stringRef _ _ t) => t | _ => ""
def qtx2543 : String := match tables_1[2543]? with | some (Jvm.Cond.stringRef _ _ t) => t | _ => ""
set_option maxHeartbeats 4000000 in
set_option maxRecDepth 20000 in
theorem uX14_messageOf (l : Launch) (dC : Nat → ClassId) (dI : Nat → Nat → Nat) (ca : Nat → ClassId) (base : Nat) (B : jF) (hB : jBok B) (hAp : jAp (dC, dI)) (G0 : jT) (H0 : Heap) (a0 : Int32) : Met l yX14_messageOf (jw yX14_messageOf cX14_messageOf 1 (some (.object "java/lang/String"))) ({ frames := 0, cells := 0, slots := 0, locals := 0 }) (va_Pc [.int a0] (fun U => U.heap = H0 ∧ jX B base G0 [] H0 ∧ jG dC dI ca base U ∧ jP (dC, dI) G0 H0 [] ∧ True)) (jQx (S := Nat × Nat) (fun v u => v = .ref u.1 ∧ u.2 < 2147483648) (fun u t => jRt (dC, dI) B base G0 EX14_messageOf H0 [] t.heap ∧ jStr base u.1 u.2 t t.heap) (jA base)) 0 0 (jA base) := by
  refine Met.ofW (cc := cX14_messageOf) (maxL := 1) (ret := (some (.object "java/lang/String"))) (by decide) rfl ?_
  intro p e s m args below meth c s₁ Bd hml hv
  obtain ⟨rfl, hH0, hX, hG, hP0, hp0⟩ := hv
  have hK := hG.1
  have hx := Bd.exec
  have hb := Bd.bytes
  have hr := Bd.returns
  have hts := atoms_spec (ws := (jw yX14_messageOf cX14_messageOf 1 (some (.object "java/lang/String")))) Bd.pre
  have htw : ∀ w ∈ jWl, w.before _ s = true := fun w h => hts w (List.mem_cons_of_mem _ h)
  have hown : s.vm.findClass RX14 = some m.cls := findClass_of_methodNamed Bd.named
  have hlocks := Bd.notSynchronized
  obtain ⟨Q, hQ⟩ : ∃ Q, Q = MQ below (jQx (S := Nat × Nat) (fun v u => v = .ref u.1 ∧ u.2 < 2147483648) (fun u t => jRt (dC, dI) B base G0 EX14_messageOf H0 [] t.heap ∧ jStr base u.1 u.2 t t.heap) (jA base)) ([.int a0] : List Value).toArray s 0 0 (jA base) := ⟨_, rfl⟩
  rw [← hQ]
  have hl := lv_entry ([.int a0]) (n := 1) (Nat.le_of_ble_eq_true rfl)
  rw [lg_entry_eq]
  generalize (lg_sl ([.int a0]) ++ List.replicate (1 - (lg_sl ([.int a0])).length) Slot.unset).toArray = ls at hl ⊢
  have hl : lv_has ls 1 [(0, .int a0)] := hl
  generalize hR : (headSpec (jw yX14_messageOf cX14_messageOf 1 (some (.object "java/lang/String"))) ({ frames := 0, cells := 0, slots := 0, locals := 0 })).room = R
  subst hH0
  have hh : jSt (dC, dI) B base G0 G0 EX14_messageOf s.heap 0 0 [] [] [] s.heap [] := jSt.start hX hP0 jMc.nil jIs.nil
  clear hX hP0
  have hk0 : (0 : Int32).toInt = 0 := by decide
  have hk1 : (1 : Int32).toInt = 1 := by decide
  have hk2 : (2 : Int32).toInt = 2 := by decide
  have hk3 : (3 : Int32).toInt = 3 := by decide
  have hk4 : (4 : Int32).toInt = 4 := by decide
  have hk5 : (5 : Int32).toInt = 5 := by decide
  have hk6 : (6 : Int32).toInt = 6 := by decide
  have hk7 : (7 : Int32).toInt = 7 := by decide
  have hk8 : (8 : Int32).toInt = 8 := by decide
  obtain ⟨str734, rstr734, hstr7340⟩ := hG.str (o := RX14) (k := 734) (tx := "unfinished") (List.mem_of_getElem? (i := 2541) (by decide +kernel))
  have hstr734 : jStr base str734 10 s s.heap := hstr7340
  obtain ⟨str736, rstr736, hstr7360⟩ := hG.str (o := RX14) (k := 736) (tx := "too much") (List.mem_of_getElem? (i := 2542) (by decide +kernel))
  have hstr736 : jStr base str736 8 s s.heap := hstr7360
  obtain ⟨str738, rstr738, hstr7380⟩ := hG.str (o := RX14) (k := 738) (tx := qtx2543) (List.mem_of_getElem? (i := 2543) (by decide +kernel))
  have h9str738 : qtx2543.length = 6 := by decide +kernel
  have hstr738 : jStr base str738 6 s s.heap := by rw [h9str738] at hstr7380; exact hstr7380
  obtain ⟨str740, rstr740, hstr7400⟩ := hG.str (o := RX14) (k := 740) (tx := "not here") (List.mem_of_getElem? (i := 2544) (by decide +kernel))
  have hstr740 : jStr base str740 8 s s.heap := hstr7400
  obtain ⟨str742, rstr742, hstr7420⟩ := hG.str (o := RX14) (k := 742) (tx := "unknown") (List.mem_of_getElem? (i := 2545) (by decide +kernel))
  have hstr742 : jStr base str742 7 s s.heap := hstr7420
  obtain ⟨str744, rstr744, hstr7440⟩ := hG.str (o := RX14) (k := 744) (tx := "taken") (List.mem_of_getElem? (i := 2546) (by decide +kernel))
  have hstr744 : jStr base str744 5 s s.heap := hstr7440
  obtain ⟨str745, rstr745, hstr7450⟩ := hG.str (o := RX14) (k := 745) (tx := qtx2547) (List.mem_of_getElem? (i := 2547) (by decide +kernel))
  have h9str745 : qtx2547.length = 10 := by decide +kernel
  have hstr745 : jStr base str745 10 s s.heap := by rw [h9str745] at hstr7450; exact hstr7450
  obtain ⟨str747, rstr747, hstr7470⟩ := hG.str (o := RX14) (k := 747) (tx := "no match") (List.mem_of_getElem? (i := 2548) (by decide +kernel))
  have hstr747 : jStr base str747 8 s s.heap := hstr7470
  obtain ⟨str749, rstr749, hstr7490⟩ := hG.str (o := RX14) (k := 749) (tx := "too large") (List.mem_of_getElem? (i := 2549) (by decide +kernel))
  have hstr749 : jStr base str749 9 s s.heap := hstr7490
  have hrg_a0 := jb_rng a0
  refine lv_iload_n hx hb dX14_messageOf_0 rfl (lv_at hl 0 rfl) ?_
  refine lv_iconst (v := 1) hx hb dX14_messageOf_1 (by decide) ?_
  refine lv_icmp_ne (tgt := 11) hx hb dX14_messageOf_2 (by decide) (fun c_1 => ?_) (fun c_1 => ?_)
  · skip
    have c_1' : a0.toInt ≠ 1 := jb_ne (rfl) ((by decide)) c_1
    refine lv_iload_n hx hb dX14_messageOf_11 rfl (lv_at hl 0 rfl) ?_
    refine lv_iconst (v := 2) hx hb dX14_messageOf_12 (by decide) ?_
    refine lv_icmp_ne (tgt := 22) hx hb dX14_messageOf_13 (by decide) (fun c_2 => ?_) (fun c_2 => ?_)
    · skip
      have c_2' : a0.toInt ≠ 2 := jb_ne (rfl) ((by decide)) c_2
      refine lv_iload_n hx hb dX14_messageOf_22 rfl (lv_at hl 0 rfl) ?_
      refine lv_iconst (v := 3) hx hb dX14_messageOf_23 (by decide) ?_
      refine lv_icmp_ne (tgt := 33) hx hb dX14_messageOf_24 (by decide) (fun c_3 => ?_) (fun c_3 => ?_)
      · skip
        have c_3' : a0.toInt ≠ 3 := jb_ne (rfl) ((by decide)) c_3
        refine lv_iload_n hx hb dX14_messageOf_33 rfl (lv_at hl 0 rfl) ?_
        refine lv_iconst (v := 4) hx hb dX14_messageOf_34 (by decide) ?_
        refine lv_icmp_ne (tgt := 44) hx hb dX14_messageOf_35 (by decide) (fun c_4 => ?_) (fun c_4 => ?_)
        · skip
          have c_4' : a0.toInt ≠ 4 := jb_ne (rfl) ((by decide)) c_4
          refine lv_iload_n hx hb dX14_messageOf_44 rfl (lv_at hl 0 rfl) ?_
          refine lv_iconst (v := 5) hx hb dX14_messageOf_45 (by decide) ?_
          refine lv_icmp_ne (tgt := 55) hx hb dX14_messageOf_46 (by decide) (fun c_5 => ?_) (fun c_5 => ?_)
          · skip
            have c_5' : a0.toInt ≠ 5 := jb_ne (rfl) ((by decide)) c_5
            refine lv_iload_n hx hb dX14_messageOf_55 rfl (lv_at hl 0 rfl) ?_
            refine lv_bipush (v := 6) hx hb dX14_messageOf_56 (by decide) ?_
            refine lv_icmp_ne (tgt := 67) hx hb dX14_messageOf_58 (by decide) (fun c_6 => ?_) (fun c_6 => ?_)
            · skip
              have c_6' : a0.toInt ≠ 6 := jb_ne (rfl) ((by decide)) c_6
              refine lv_iload_n hx hb dX14_messageOf_67 rfl (lv_at hl 0 rfl) ?_
              refine lv_bipush (v := 7) hx hb dX14_messageOf_68 (by decide) ?_
              refine lv_icmp_ne (tgt := 79) hx hb dX14_messageOf_70 (by decide) (fun c_7 => ?_) (fun c_7 => ?_)
              · skip
                have c_7' : a0.toInt ≠ 7 := jb_ne (rfl) ((by decide)) c_7
                refine lv_iload_n hx hb dX14_messageOf_79 rfl (lv_at hl 0 rfl) ?_
                refine lv_bipush (v := 8) hx hb dX14_messageOf_80 (by decide) ?_
                refine lv_icmp_ne (tgt := 91) hx hb dX14_messageOf_82 (by decide) (fun c_8 => ?_) (fun c_8 => ?_)
                · skip
                  have c_8' : a0.toInt ≠ 8 := jb_ne (rfl) ((by decide)) c_8
                  refine j_ldcSw hx hb hown rstr749 dX14_messageOf_91 ?_
                  rw [hQ]
                  exact W.aret (v := .ref str749) hx hb hr (Or.inl ⟨_, rfl⟩) (Or.inr ⟨_, rfl⟩) (fun t ht hW => ⟨⟨.ref str749, (str749, 9), rfl, ⟨rfl, by show (9 : Nat) < 2147483648; omega⟩, ⟨hh.rt (M1 := []) [] rfl ht, by rw [ht]; exact (hstr749.moved hW.alike).kept hh.1.2.1⟩⟩, by rw [ht]; try exact hh.1.1, fun q h9 hq => by rw [ht]; try exact hh.1.2.1 q h9 hq⟩) hh.1.2.2 dX14_messageOf_94
                · skip
                  have c_8' : a0.toInt = 8 := jb_ne_n (rfl) ((by decide)) c_8
                  refine j_ldcSw hx hb hown rstr747 dX14_messageOf_85 ?_
                  refine lv_goto (tgt := 94) hx hb dX14_messageOf_88 (by decide) ?_
                  rw [hQ]
                  exact W.aret (v := .ref str747) hx hb hr (Or.inl ⟨_, rfl⟩) (Or.inr ⟨_, rfl⟩) (fun t ht hW => ⟨⟨.ref str747, (str747, 8), rfl, ⟨rfl, by show (8 : Nat) < 2147483648; omega⟩, ⟨hh.rt (M1 := []) [] rfl ht, by rw [ht]; exact (hstr747.moved hW.alike).kept hh.1.2.1⟩⟩, by rw [ht]; try exact hh.1.1, fun q h9 hq => by rw [ht]; try exact hh.1.2.1 q h9 hq⟩) hh.1.2.2 dX14_messageOf_94
              · skip
                have c_7' : a0.toInt = 7 := jb_ne_n (rfl) ((by decide)) c_7
                refine j_ldcSw hx hb hown rstr745 dX14_messageOf_73 ?_
                refine lv_goto (tgt := 94) hx hb dX14_messageOf_76 (by decide) ?_
                rw [hQ]
                exact W.aret (v := .ref str745) hx hb hr (Or.inl ⟨_, rfl⟩) (Or.inr ⟨_, rfl⟩) (fun t ht hW => ⟨⟨.ref str745, (str745, 10), rfl, ⟨rfl, by show (10 : Nat) < 2147483648; omega⟩, ⟨hh.rt (M1 := []) [] rfl ht, by rw [ht]; exact (hstr745.moved hW.alike).kept hh.1.2.1⟩⟩, by rw [ht]; try exact hh.1.1, fun q h9 hq => by rw [ht]; try exact hh.1.2.1 q h9 hq⟩) hh.1.2.2 dX14_messageOf_94
            · skip
              have c_6' : a0.toInt = 6 := jb_ne_n (rfl) ((by decide)) c_6
              refine j_ldcSw hx hb hown rstr744 dX14_messageOf_61 ?_
              refine lv_goto (tgt := 94) hx hb dX14_messageOf_64 (by decide) ?_
              rw [hQ]
              exact W.aret (v := .ref str744) hx hb hr (Or.inl ⟨_, rfl⟩) (Or.inr ⟨_, rfl⟩) (fun t ht hW => ⟨⟨.ref str744, (str744, 5), rfl, ⟨rfl, by show (5 : Nat) < 2147483648; omega⟩, ⟨hh.rt (M1 := []) [] rfl ht, by rw [ht]; exact (hstr744.moved hW.alike).kept hh.1.2.1⟩⟩, by rw [ht]; try exact hh.1.1, fun q h9 hq => by rw [ht]; try exact hh.1.2.1 q h9 hq⟩) hh.1.2.2 dX14_messageOf_94
          · skip
            have c_5' : a0.toInt = 5 := jb_ne_n (rfl) ((by decide)) c_5
            refine j_ldcSw hx hb hown rstr742 dX14_messageOf_49 ?_
            refine lv_goto (tgt := 94) hx hb dX14_messageOf_52 (by decide) ?_
            rw [hQ]
            exact W.aret (v := .ref str742) hx hb hr (Or.inl ⟨_, rfl⟩) (Or.inr ⟨_, rfl⟩) (fun t ht hW => ⟨⟨.ref str742, (str742, 7), rfl, ⟨rfl, by show (7 : Nat) < 2147483648; omega⟩, ⟨hh.rt (M1 := []) [] rfl ht, by rw [ht]; exact (hstr742.moved hW.alike).kept hh.1.2.1⟩⟩, by rw [ht]; try exact hh.1.1, fun q h9 hq => by rw [ht]; try exact hh.1.2.1 q h9 hq⟩) hh.1.2.2 dX14_messageOf_94
        · skip
          have c_4' : a0.toInt = 4 := jb_ne_n (rfl) ((by decide)) c_4
          refine j_ldcSw hx hb hown rstr740 dX14_messageOf_38 ?_
          refine lv_goto (tgt := 94) hx hb dX14_messageOf_41 (by decide) ?_
          rw [hQ]
          exact W.aret (v := .ref str740) hx hb hr (Or.inl ⟨_, rfl⟩) (Or.inr ⟨_, rfl⟩) (fun t ht hW => ⟨⟨.ref str740, (str740, 8), rfl, ⟨rfl, by show (8 : Nat) < 2147483648; omega⟩, ⟨hh.rt (M1 := []) [] rfl ht, by rw [ht]; exact (hstr740.moved hW.alike).kept hh.1.2.1⟩⟩, by rw [ht]; try exact hh.1.1, fun q h9 hq => by rw [ht]; try exact hh.1.2.1 q h9 hq⟩) hh.1.2.2 dX14_messageOf_94
      · skip
        have c_3' : a0.toInt = 3 := jb_ne_n (rfl) ((by decide)) c_3
        refine j_ldcSw hx hb hown rstr738 dX14_messageOf_27 ?_
        refine lv_goto (tgt := 94) hx hb dX14_messageOf_30 (by decide) ?_
        rw [hQ]
        exact W.aret (v := .ref str738) hx hb hr (Or.inl ⟨_, rfl⟩) (Or.inr ⟨_, rfl⟩) (fun t ht hW => ⟨⟨.ref str738, (str738, 6), rfl, ⟨rfl, by show (6 : Nat) < 2147483648; omega⟩, ⟨hh.rt (M1 := []) [] rfl ht, by rw [ht]; exact (hstr738.moved hW.alike).kept hh.1.2.1⟩⟩, by rw [ht]; try exact hh.1.1, fun q h9 hq => by rw [ht]; try exact hh.1.2.1 q h9 hq⟩) hh.1.2.2 dX14_messageOf_94
    · skip
      have c_2' : a0.toInt = 2 := jb_ne_n (rfl) ((by decide)) c_2
      refine j_ldcSw hx hb hown rstr736 dX14_messageOf_16 ?_
      refine lv_goto (tgt := 94) hx hb dX14_messageOf_19 (by decide) ?_
      rw [hQ]
      exact W.aret (v := .ref str736) hx hb hr (Or.inl ⟨_, rfl⟩) (Or.inr ⟨_, rfl⟩) (fun t ht hW => ⟨⟨.ref str736, (str736, 8), rfl, ⟨rfl, by show (8 : Nat) < 2147483648; omega⟩, ⟨hh.rt (M1 := []) [] rfl ht, by rw [ht]; exact (hstr736.moved hW.alike).kept hh.1.2.1⟩⟩, by rw [ht]; try exact hh.1.1, fun q h9 hq => by rw [ht]; try exact hh.1.2.1 q h9 hq⟩) hh.1.2.2 dX14_messageOf_94
  · skip
    have c_1' : a0.toInt = 1 := jb_ne_n (rfl) ((by decide)) c_1
    refine j_ldcSw hx hb hown rstr734 dX14_messageOf_5 ?_
    refine lv_goto (tgt := 94) hx hb dX14_messageOf_8 (by decide) ?_
    rw [hQ]
    exact W.aret (v := .ref str734) hx hb hr (Or.inl ⟨_, rfl⟩) (Or.inr ⟨_, rfl⟩) (fun t ht hW => ⟨⟨.ref str734, (str734, 10), rfl, ⟨rfl, by show (10 : Nat) < 2147483648; omega⟩, ⟨hh.rt (M1 := []) [] rfl ht, by rw [ht]; exact (hstr734.moved hW.alike).kept hh.1.2.1⟩⟩, by rw [ht]; try exact hh.1.1, fun q h9 hq => by rw [ht]; try exact hh.1.2.1 q h9 hq⟩) hh.1.2.2 dX14_messageOf_94
end
section
theorem dX14_settled_0 : decode cX14_settled 0 = .ok (.aload_n 1, 1) := by decide +kernel
theorem dX14_settled_1 : decode cX14_settled 1 = .ok (.getfield 531, 3) := by decide +kernel
theorem dX14_settled_4 : decode cX14_settled 4 = .ok (.aload_n 1, 1) := by decide +kernel
theorem dX14_settled_5 : decode cX14_settled 5 = .ok (.getfield 587, 3) := by decide +kernel
theorem dX14_settled_8 : decode cX14_settled 8 = .ok (.if_icmp .ne 116, 3) := by decide +kernel
theorem dX14_settled_11 : decode cX14_settled 11 = .ok (.aload_n 0, 1) := by decide +kernel
theorem dX14_settled_12 : decode cX14_settled 12 = .ok (.aload_n 1, 1) := by decide +kernel
theorem dX14_settled_13 : decode cX14_settled 13 = .ok (.invokevirtual 602, 3) := by decide +kernel
theorem dX14_settled_16 : decode cX14_settled 16 = .ok (.iconst 0, 1) := by decide +kernel
theorem dX14_settled_17 : decode cX14_settled 17 = .ok (.istore_n 2, 1) := by decide +kernel
theorem dX14_settled_18 : decode cX14_settled 18 = .ok (.iconst 0, 1) := by decide +kernel
theorem dX14_settled_19 : decode cX14_settled 19 = .ok (.istore_n 3, 1) := by decide +kernel
theorem dX14_settled_20 : decode cX14_settled 20 = .ok (.iload_n 3, 1) := by decide +kernel
theorem dX14_settled_21 : decode cX14_settled 21 = .ok (.aload_n 1, 1) := by decide +kernel
theorem dX14_settled_22 : decode cX14_settled 22 = .ok (.getfield 587, 3) := by decide +kernel
theorem dX14_settled_25 : decode cX14_settled 25 = .ok (.if_icmp .ge 95, 3) := by decide +kernel
theorem dX14_settled_28 : decode cX14_settled 28 = .ok (.aload_n 1, 1) := by decide +kernel
theorem dX14_settled_29 : decode cX14_settled 29 = .ok (.getfield 751, 3) := by decide +kernel
theorem dX14_settled_32 : decode cX14_settled 32 = .ok (.iload_n 3, 1) := by decide +kernel
theorem dX14_settled_33 : decode cX14_settled 33 = .ok (.iaload, 1) := by decide +kernel
theorem dX14_settled_34 : decode cX14_settled 34 = .ok (.ifCond .ne 6, 3) := by decide +kernel
theorem dX14_settled_37 : decode cX14_settled 37 = .ok (.goto 77, 3) := by decide +kernel
theorem dX14_settled_40 : decode cX14_settled 40 = .ok (.iload_n 2, 1) := by decide +kernel
theorem dX14_settled_41 : decode cX14_settled 41 = .ok (.ifCond .eq 9, 3) := by decide +kernel
theorem dX14_settled_44 : decode cX14_settled 44 = .ok (.aload_n 0, 1) := by decide +kernel
theorem dX14_settled_45 : decode cX14_settled 45 = .ok (.bipush 44, 2) := by decide +kernel
theorem dX14_settled_47 : decode cX14_settled 47 = .ok (.invokevirtual 172, 3) := by decide +kernel
theorem dX14_settled_50 : decode cX14_settled 50 = .ok (.iconst 1, 1) := by decide +kernel
theorem dX14_settled_51 : decode cX14_settled 51 = .ok (.istore_n 2, 1) := by decide +kernel
theorem dX14_settled_52 : decode cX14_settled 52 = .ok (.aload_n 0, 1) := by decide +kernel
theorem dX14_settled_53 : decode cX14_settled 53 = .ok (.ldc_w 754, 3) := by decide +kernel
theorem dX14_settled_56 : decode cX14_settled 56 = .ok (.invokevirtual 189, 3) := by decide +kernel
theorem dX14_settled_59 : decode cX14_settled 59 = .ok (.aload_n 0, 1) := by decide +kernel
theorem dX14_settled_60 : decode cX14_settled 60 = .ok (.aload_n 1, 1) := by decide +kernel
theorem dX14_settled_61 : decode cX14_settled 61 = .ok (.aload_n 1, 1) := by decide +kernel
theorem dX14_settled_62 : decode cX14_settled 62 = .ok (.getfield 596, 3) := by decide +kernel
theorem dX14_settled_65 : decode cX14_settled 65 = .ok (.iload_n 3, 1) := by decide +kernel
theorem dX14_settled_66 : decode cX14_settled 66 = .ok (.iaload, 1) := by decide +kernel
theorem dX14_settled_67 : decode cX14_settled 67 = .ok (.invokevirtual 756, 3) := by decide +kernel
theorem dX14_settled_70 : decode cX14_settled 70 = .ok (.aload_n 0, 1) := by decide +kernel
theorem dX14_settled_71 : decode cX14_settled 71 = .ok (.ldc_w 758, 3) := by decide +kernel
theorem dX14_settled_74 : decode cX14_settled 74 = .ok (.invokevirtual 189, 3) := by decide +kernel
theorem dX14_settled_77 : decode cX14_settled 77 = .ok (.aload_n 0, 1) := by decide +kernel
theorem dX14_settled_78 : decode cX14_settled 78 = .ok (.aload_n 1, 1) := by decide +kernel
theorem dX14_settled_79 : decode cX14_settled 79 = .ok (.aload_n 1, 1) := by decide +kernel
theorem dX14_settled_80 : decode cX14_settled 80 = .ok (.getfield 594, 3) := by decide +kernel
theorem dX14_settled_83 : decode cX14_settled 83 = .ok (.iload_n 3, 1) := by decide +kernel
theorem dX14_settled_84 : decode cX14_settled 84 = .ok (.iaload, 1) := by decide +kernel
theorem dX14_settled_85 : decode cX14_settled 85 = .ok (.invokevirtual 756, 3) := by decide +kernel
theorem dX14_settled_88 : decode cX14_settled 88 = .ok (.aload_n 0, 1) := by decide +kernel
theorem dX14_settled_89 : decode cX14_settled 89 = .ok (.ldc_w 760, 3) := by decide +kernel
theorem dX14_settled_92 : decode cX14_settled 92 = .ok (.invokevirtual 189, 3) := by decide +kernel
theorem dX14_settled_95 : decode cX14_settled 95 = .ok (.aload_n 0, 1) := by decide +kernel
theorem dX14_settled_96 : decode cX14_settled 96 = .ok (.aload_n 1, 1) := by decide +kernel
theorem dX14_settled_97 : decode cX14_settled 97 = .ok (.getfield 751, 3) := by decide +kernel
theorem dX14_settled_100 : decode cX14_settled 100 = .ok (.iload_n 3, 1) := by decide +kernel
theorem dX14_settled_101 : decode cX14_settled 101 = .ok (.iaload, 1) := by decide +kernel
theorem dX14_settled_102 : decode cX14_settled 102 = .ok (.invokestatic 762, 3) := by decide +kernel
theorem dX14_settled_105 : decode cX14_settled 105 = .ok (.invokevirtual 419, 3) := by decide +kernel
theorem dX14_settled_108 : decode cX14_settled 108 = .ok (.aload_n 0, 1) := by decide +kernel
theorem dX14_settled_109 : decode cX14_settled 109 = .ok (.bipush 125, 2) := by decide +kernel
theorem dX14_settled_111 : decode cX14_settled 111 = .ok (.invokevirtual 172, 3) := by decide +kernel
theorem dX14_settled_114 : decode cX14_settled 114 = .ok (.iinc 3 1, 3) := by decide +kernel
theorem dX14_settled_117 : decode cX14_settled 117 = .ok (.goto (-97), 3) := by decide +kernel
theorem dX14_settled_120 : decode cX14_settled 120 = .ok (.aload_n 0, 1) := by decide +kernel
theorem dX14_settled_121 : decode cX14_settled 121 = .ok (.invokevirtual 605, 3) := by decide +kernel
theorem dX14_settled_124 : decode cX14_settled 124 = .ok (.iconst 0, 1) := by decide +kernel
theorem dX14_settled_125 : decode cX14_settled 125 = .ok (.istore_n 2, 1) := by decide +kernel
theorem dX14_settled_126 : decode cX14_settled 126 = .ok (.iload_n 2, 1) := by decide +kernel
theorem dX14_settled_127 : decode cX14_settled 127 = .ok (.aload_n 0, 1) := by decide +kernel
theorem dX14_settled_128 : decode cX14_settled 128 = .ok (.getfield 711, 3) := by decide +kernel
theorem dX14_settled_131 : decode cX14_settled 131 = .ok (.if_icmp .ge 140, 3) := by decide +kernel
theorem dX14_settled_134 : decode cX14_settled 134 = .ok (.aload_n 0, 1) := by decide +kernel
theorem dX14_settled_135 : decode cX14_settled 135 = .ok (.getfield 91, 3) := by decide +kernel
theorem dX14_settled_138 : decode cX14_settled 138 = .ok (.iload_n 2, 1) := by decide +kernel
theorem dX14_settled_139 : decode cX14_settled 139 = .ok (.aaload, 1) := by decide +kernel
theorem dX14_settled_140 : decode cX14_settled 140 = .ok (.aload_n 1, 1) := by decide +kernel
theorem dX14_settled_141 : decode cX14_settled 141 = .ok (.if_acmp .ne 16, 3) := by decide +kernel
theorem dX14_settled_144 : decode cX14_settled 144 = .ok (.aload_n 1, 1) := by decide +kernel
theorem dX14_settled_145 : decode cX14_settled 145 = .ok (.getfield 531, 3) := by decide +kernel
theorem dX14_settled_148 : decode cX14_settled 148 = .ok (.aload_n 0, 1) := by decide +kernel
theorem dX14_settled_149 : decode cX14_settled 149 = .ok (.getfield 97, 3) := by decide +kernel
theorem dX14_settled_152 : decode cX14_settled 152 = .ok (.iload_n 2, 1) := by decide +kernel
theorem dX14_settled_153 : decode cX14_settled 153 = .ok (.iaload, 1) := by decide +kernel
theorem dX14_settled_154 : decode cX14_settled 154 = .ok (.if_icmp .ge 9, 3) := by decide +kernel
theorem dX14_settled_157 : decode cX14_settled 157 = .ok (.iinc 2 1, 3) := by decide +kernel
theorem dX14_settled_160 : decode cX14_settled 160 = .ok (.goto (-34), 3) := by decide +kernel
theorem dX14_settled_163 : decode cX14_settled 163 = .ok (.aload_n 0, 1) := by decide +kernel
theorem dX14_settled_164 : decode cX14_settled 164 = .ok (.getfield 94, 3) := by decide +kernel
theorem dX14_settled_167 : decode cX14_settled 167 = .ok (.iload_n 2, 1) := by decide +kernel
theorem dX14_settled_168 : decode cX14_settled 168 = .ok (.baload, 1) := by decide +kernel
theorem dX14_settled_169 : decode cX14_settled 169 = .ok (.istore_n 3, 1) := by decide +kernel
theorem dX14_settled_170 : decode cX14_settled 170 = .ok (.aload_n 0, 1) := by decide +kernel
theorem dX14_settled_171 : decode cX14_settled 171 = .ok (.aload_n 1, 1) := by decide +kernel
theorem dX14_settled_172 : decode cX14_settled 172 = .ok (.aload_n 0, 1) := by decide +kernel
theorem dX14_settled_173 : decode cX14_settled 173 = .ok (.getfield 97, 3) := by decide +kernel
theorem dX14_settled_176 : decode cX14_settled 176 = .ok (.iload_n 2, 1) := by decide +kernel
theorem dX14_settled_177 : decode cX14_settled 177 = .ok (.iaload, 1) := by decide +kernel
theorem dX14_settled_178 : decode cX14_settled 178 = .ok (.invokevirtual 697, 3) := by decide +kernel
theorem dX14_settled_181 : decode cX14_settled 181 = .ok (.iconst 0, 1) := by decide +kernel
theorem dX14_settled_182 : decode cX14_settled 182 = .ok (.istore 4, 2) := by decide +kernel
theorem dX14_settled_184 : decode cX14_settled 184 = .ok (.iload 4, 2) := by decide +kernel
theorem dX14_settled_186 : decode cX14_settled 186 = .ok (.aload_n 0, 1) := by decide +kernel
theorem dX14_settled_187 : decode cX14_settled 187 = .ok (.getfield 116, 3) := by decide +kernel
theorem dX14_settled_190 : decode cX14_settled 190 = .ok (.iload_n 2, 1) := by decide +kernel
theorem dX14_settled_191 : decode cX14_settled 191 = .ok (.iaload, 1) := by decide +kernel
theorem dX14_settled_192 : decode cX14_settled 192 = .ok (.if_icmp .ge 33, 3) := by decide +kernel
theorem dX14_settled_195 : decode cX14_settled 195 = .ok (.iload_n 3, 1) := by decide +kernel
theorem dX14_settled_196 : decode cX14_settled 196 = .ok (.ifCond .ne 29, 3) := by decide +kernel
theorem dX14_settled_199 : decode cX14_settled 199 = .ok (.aload_n 0, 1) := by decide +kernel
theorem dX14_settled_200 : decode cX14_settled 200 = .ok (.getfield 126, 3) := by decide +kernel
theorem dX14_settled_203 : decode cX14_settled 203 = .ok (.iload 4, 2) := by decide +kernel
theorem dX14_settled_205 : decode cX14_settled 205 = .ok (.aload_n 0, 1) := by decide +kernel
theorem dX14_settled_206 : decode cX14_settled 206 = .ok (.getfield 113, 3) := by decide +kernel
theorem dX14_settled_209 : decode cX14_settled 209 = .ok (.sipush 3100, 3) := by decide +kernel
theorem dX14_settled_212 : decode cX14_settled 212 = .ok (.iload_n 2, 1) := by decide +kernel
theorem dX14_settled_213 : decode cX14_settled 213 = .ok (.imul, 1) := by decide +kernel
theorem dX14_settled_214 : decode cX14_settled 214 = .ok (.iload 4, 2) := by decide +kernel
theorem dX14_settled_216 : decode cX14_settled 216 = .ok (.iadd, 1) := by decide +kernel
theorem dX14_settled_217 : decode cX14_settled 217 = .ok (.iaload, 1) := by decide +kernel
theorem dX14_settled_218 : decode cX14_settled 218 = .ok (.iastore, 1) := by decide +kernel
theorem dX14_settled_219 : decode cX14_settled 219 = .ok (.iinc 4 1, 3) := by decide +kernel
theorem dX14_settled_222 : decode cX14_settled 222 = .ok (.goto (-38), 3) := by decide +kernel
theorem dX14_settled_225 : decode cX14_settled 225 = .ok (.aload_n 0, 1) := by decide +kernel
theorem dX14_settled_226 : decode cX14_settled 226 = .ok (.getfield 116, 3) := by decide +kernel
theorem dX14_settled_229 : decode cX14_settled 229 = .ok (.iload_n 2, 1) := by decide +kernel
theorem dX14_settled_230 : decode cX14_settled 230 = .ok (.iaload, 1) := by decide +kernel
theorem dX14_settled_231 : decode cX14_settled 231 = .ok (.istore 4, 2) := by decide +kernel
theorem dX14_settled_233 : decode cX14_settled 233 = .ok (.aload_n 0, 1) := by decide +kernel
theorem dX14_settled_234 : decode cX14_settled 234 = .ok (.iload_n 2, 1) := by decide +kernel
theorem dX14_settled_235 : decode cX14_settled 235 = .ok (.invokevirtual 718, 3) := by decide +kernel
theorem dX14_settled_238 : decode cX14_settled 238 = .ok (.aload_n 0, 1) := by decide +kernel
theorem dX14_settled_239 : decode cX14_settled 239 = .ok (.invokevirtual 466, 3) := by decide +kernel
theorem dX14_settled_242 : decode cX14_settled 242 = .ok (.iload_n 3, 1) := by decide +kernel
theorem dX14_settled_243 : decode cX14_settled 243 = .ok (.ifCond .eq 10, 3) := by decide +kernel
theorem dX14_settled_246 : decode cX14_settled 246 = .ok (.aload_n 0, 1) := by decide +kernel
theorem dX14_settled_247 : decode cX14_settled 247 = .ok (.invokevirtual 700, 3) := by decide +kernel
theorem dX14_settled_250 : decode cX14_settled 250 = .ok (.goto 14, 3) := by decide +kernel
theorem dX14_settled_253 : decode cX14_settled 253 = .ok (.aload_n 0, 1) := by decide +kernel
theorem dX14_settled_254 : decode cX14_settled 254 = .ok (.aload_n 0, 1) := by decide +kernel
theorem dX14_settled_255 : decode cX14_settled 255 = .ok (.getfield 126, 3) := by decide +kernel
theorem dX14_settled_258 : decode cX14_settled 258 = .ok (.iconst 0, 1) := by decide +kernel
theorem dX14_settled_259 : decode cX14_settled 259 = .ok (.iload 4, 2) := by decide +kernel
theorem dX14_settled_261 : decode cX14_settled 261 = .ok (.invokevirtual 708, 3) := by decide +kernel
theorem dX14_settled_264 : decode cX14_settled 264 = .ok (.aload_n 0, 1) := by decide +kernel
theorem dX14_settled_265 : decode cX14_settled 265 = .ok (.invokevirtual 422, 3) := by decide +kernel
theorem dX14_settled_268 : decode cX14_settled 268 = .ok (.goto (-142), 3) := by decide +kernel
theorem dX14_settled_271 : decode cX14_settled 271 = .ok (.return_, 1) := by decide +kernel
end
section
theorem dX14_finish_0 : decode cX14_finish 0 = .ok (.aload_n 0, 1) := by decide +kernel
theorem dX14_finish_1 : decode cX14_finish 1 = .ok (.getfield 129, 3) := by decide +kernel
theorem dX14_finish_4 : decode cX14_finish 4 = .ok (.iload_n 1, 1) := by decide +kernel
theorem dX14_finish_5 : decode cX14_finish 5 = .ok (.aaload, 1) := by decide +kernel
theorem dX14_finish_6 : decode cX14_finish 6 = .ok (.astore_n 2, 1) := by decide +kernel
theorem dX14_finish_7 : decode cX14_finish 7 = .ok (.aload_n 0, 1) := by decide +kernel
theorem dX14_finish_8 : decode cX14_finish 8 = .ok (.getfield 132, 3) := by decide +kernel
theorem dX14_finish_11 : decode cX14_finish 11 = .ok (.iload_n 1, 1) := by decide +kernel
theorem dX14_finish_12 : decode cX14_finish 12 = .ok (.iaload, 1) := by decide +kernel
theorem dX14_finish_13 : decode cX14_finish 13 = .ok (.istore_n 3, 1) := by decide +kernel
theorem dX14_finish_14 : decode cX14_finish 14 = .ok (.aload_n 0, 1) := by decide +kernel
theorem dX14_finish_15 : decode cX14_finish 15 = .ok (.getfield 129, 3) := by decide +kernel
theorem dX14_finish_18 : decode cX14_finish 18 = .ok (.iload_n 1, 1) := by decide +kernel
theorem dX14_finish_19 : decode cX14_finish 19 = .ok (.aconst_null, 1) := by decide +kernel
theorem dX14_finish_20 : decode cX14_finish 20 = .ok (.aastore, 1) := by decide +kernel
theorem dX14_finish_21 : decode cX14_finish 21 = .ok (.aload_n 0, 1) := by decide +kernel
theorem dX14_finish_22 : decode cX14_finish 22 = .ok (.aload_n 2, 1) := by decide +kernel
theorem dX14_finish_23 : decode cX14_finish 23 = .ok (.iload_n 3, 1) := by decide +kernel
theorem dX14_finish_24 : decode cX14_finish 24 = .ok (.invokevirtual 697, 3) := by decide +kernel
theorem dX14_finish_27 : decode cX14_finish 27 = .ok (.aload_n 2, 1) := by decide +kernel
theorem dX14_finish_28 : decode cX14_finish 28 = .ok (.getfield 751, 3) := by decide +kernel
theorem dX14_finish_31 : decode cX14_finish 31 = .ok (.iload_n 3, 1) := by decide +kernel
theorem dX14_finish_32 : decode cX14_finish 32 = .ok (.aload_n 0, 1) := by decide +kernel
theorem dX14_finish_33 : decode cX14_finish 33 = .ok (.getfield 122, 3) := by decide +kernel
theorem dX14_finish_36 : decode cX14_finish 36 = .ok (.aload_n 2, 1) := by decide +kernel
theorem dX14_finish_37 : decode cX14_finish 37 = .ok (.getfield 529, 3) := by decide +kernel
theorem dX14_finish_40 : decode cX14_finish 40 = .ok (.aload_n 2, 1) := by decide +kernel
theorem dX14_finish_41 : decode cX14_finish 41 = .ok (.getfield 596, 3) := by decide +kernel
theorem dX14_finish_44 : decode cX14_finish 44 = .ok (.iload_n 3, 1) := by decide +kernel
theorem dX14_finish_45 : decode cX14_finish 45 = .ok (.iaload, 1) := by decide +kernel
theorem dX14_finish_46 : decode cX14_finish 46 = .ok (.aload_n 2, 1) := by decide +kernel
theorem dX14_finish_47 : decode cX14_finish 47 = .ok (.getfield 594, 3) := by decide +kernel
theorem dX14_finish_50 : decode cX14_finish 50 = .ok (.iload_n 3, 1) := by decide +kernel
theorem dX14_finish_51 : decode cX14_finish 51 = .ok (.iaload, 1) := by decide +kernel
theorem dX14_finish_52 : decode cX14_finish 52 = .ok (.aload_n 2, 1) := by decide +kernel
theorem dX14_finish_53 : decode cX14_finish 53 = .ok (.getfield 599, 3) := by decide +kernel
theorem dX14_finish_56 : decode cX14_finish 56 = .ok (.iload_n 3, 1) := by decide +kernel
theorem dX14_finish_57 : decode cX14_finish 57 = .ok (.iaload, 1) := by decide +kernel
theorem dX14_finish_58 : decode cX14_finish 58 = .ok (.invokevirtual 629, 3) := by decide +kernel
theorem dX14_finish_61 : decode cX14_finish 61 = .ok (.iastore, 1) := by decide +kernel
theorem dX14_finish_62 : decode cX14_finish 62 = .ok (.aload_n 2, 1) := by decide +kernel
theorem dX14_finish_63 : decode cX14_finish 63 = .ok (.iload_n 3, 1) := by decide +kernel
theorem dX14_finish_64 : decode cX14_finish 64 = .ok (.iconst 1, 1) := by decide +kernel
theorem dX14_finish_65 : decode cX14_finish 65 = .ok (.iadd, 1) := by decide +kernel
theorem dX14_finish_66 : decode cX14_finish 66 = .ok (.putfield 531, 3) := by decide +kernel
theorem dX14_finish_69 : decode cX14_finish 69 = .ok (.aload_n 0, 1) := by decide +kernel
theorem dX14_finish_70 : decode cX14_finish 70 = .ok (.aload_n 2, 1) := by decide +kernel
theorem dX14_finish_71 : decode cX14_finish 71 = .ok (.iload_n 3, 1) := by decide +kernel
theorem dX14_finish_72 : decode cX14_finish 72 = .ok (.invokevirtual 786, 3) := by decide +kernel
theorem dX14_finish_75 : decode cX14_finish 75 = .ok (.aload_n 0, 1) := by decide +kernel
theorem dX14_finish_76 : decode cX14_finish 76 = .ok (.invokevirtual 793, 3) := by decide +kernel
theorem dX14_finish_79 : decode cX14_finish 79 = .ok (.aload_n 0, 1) := by decide +kernel
theorem dX14_finish_80 : decode cX14_finish 80 = .ok (.getfield 138, 3) := by decide +kernel
theorem dX14_finish_83 : decode cX14_finish 83 = .ok (.iload_n 1, 1) := by decide +kernel
theorem dX14_finish_84 : decode cX14_finish 84 = .ok (.baload, 1) := by decide +kernel
theorem dX14_finish_85 : decode cX14_finish 85 = .ok (.ifCond .eq 13, 3) := by decide +kernel
theorem dX14_finish_88 : decode cX14_finish 88 = .ok (.aload_n 0, 1) := by decide +kernel
theorem dX14_finish_89 : decode cX14_finish 89 = .ok (.dup, 1) := by decide +kernel
theorem dX14_finish_90 : decode cX14_finish 90 = .ok (.getfield 796, 3) := by decide +kernel
theorem dX14_finish_93 : decode cX14_finish 93 = .ok (.iconst 1, 1) := by decide +kernel
theorem dX14_finish_94 : decode cX14_finish 94 = .ok (.iadd, 1) := by decide +kernel
theorem dX14_finish_95 : decode cX14_finish 95 = .ok (.putfield 796, 3) := by decide +kernel
theorem dX14_finish_98 : decode cX14_finish 98 = .ok (.aload_n 0, 1) := by decide +kernel
theorem dX14_finish_99 : decode cX14_finish 99 = .ok (.aload_n 2, 1) := by decide +kernel
theorem dX14_finish_100 : decode cX14_finish 100 = .ok (.invokevirtual 538, 3) := by decide +kernel
theorem dX14_finish_103 : decode cX14_finish 103 = .ok (.return_, 1) := by decide +kernel
theorem dX14_step_0 : decode cX14_step 0 = .ok (.aload_n 0, 1) := by decide +kernel
theorem dX14_step_1 : decode cX14_step 1 = .ok (.dup, 1) := by decide +kernel
theorem dX14_step_2 : decode cX14_step 2 = .ok (.getfield 799, 3) := by decide +kernel
theorem dX14_step_5 : decode cX14_step 5 = .ok (.iconst 1, 1) := by decide +kernel
theorem dX14_step_6 : decode cX14_step 6 = .ok (.iadd, 1) := by decide +kernel
theorem dX14_step_7 : decode cX14_step 7 = .ok (.putfield 799, 3) := by decide +kernel
theorem dX14_step_10 : decode cX14_step 10 = .ok (.iconst 0, 1) := by decide +kernel
theorem dX14_step_11 : decode cX14_step 11 = .ok (.istore_n 1, 1) := by decide +kernel
theorem dX14_step_12 : decode cX14_step 12 = .ok (.iload_n 1, 1) := by decide +kernel
theorem dX14_step_13 : decode cX14_step 13 = .ok (.iconst 2, 1) := by decide +kernel
theorem dX14_step_14 : decode cX14_step 14 = .ok (.if_icmp .ge 59, 3) := by decide +kernel
theorem dX14_step_17 : decode cX14_step 17 = .ok (.aload_n 0, 1) := by decide +kernel
theorem dX14_step_18 : decode cX14_step 18 = .ok (.getfield 129, 3) := by decide +kernel
theorem dX14_step_21 : decode cX14_step 21 = .ok (.iload_n 1, 1) := by decide +kernel
theorem dX14_step_22 : decode cX14_step 22 = .ok (.aaload, 1) := by decide +kernel
theorem dX14_step_23 : decode cX14_step 23 = .ok (.ifnonnull 8, 3) := by decide +kernel
theorem dX14_step_26 : decode cX14_step 26 = .ok (.aload_n 0, 1) := by decide +kernel
theorem dX14_step_27 : decode cX14_step 27 = .ok (.iload_n 1, 1) := by decide +kernel
theorem dX14_step_28 : decode cX14_step 28 = .ok (.invokevirtual 802, 3) := by decide +kernel
theorem dX14_step_31 : decode cX14_step 31 = .ok (.aload_n 0, 1) := by decide +kernel
theorem dX14_step_32 : decode cX14_step 32 = .ok (.getfield 129, 3) := by decide +kernel
theorem dX14_step_35 : decode cX14_step 35 = .ok (.iload_n 1, 1) := by decide +kernel
theorem dX14_step_36 : decode cX14_step 36 = .ok (.aaload, 1) := by decide +kernel
theorem dX14_step_37 : decode cX14_step 37 = .ok (.ifnonnull 6, 3) := by decide +kernel
theorem dX14_step_40 : decode cX14_step 40 = .ok (.goto 27, 3) := by decide +kernel
theorem dX14_step_43 : decode cX14_step 43 = .ok (.aload_n 0, 1) := by decide +kernel
theorem dX14_step_44 : decode cX14_step 44 = .ok (.getfield 135, 3) := by decide +kernel
theorem dX14_step_47 : decode cX14_step 47 = .ok (.iload_n 1, 1) := by decide +kernel
theorem dX14_step_48 : decode cX14_step 48 = .ok (.dup2, 1) := by decide +kernel
theorem dX14_step_49 : decode cX14_step 49 = .ok (.iaload, 1) := by decide +kernel
theorem dX14_step_50 : decode cX14_step 50 = .ok (.iconst 1, 1) := by decide +kernel
theorem dX14_step_51 : decode cX14_step 51 = .ok (.isub, 1) := by decide +kernel
theorem dX14_step_52 : decode cX14_step 52 = .ok (.iastore, 1) := by decide +kernel
theorem dX14_step_53 : decode cX14_step 53 = .ok (.aload_n 0, 1) := by decide +kernel
theorem dX14_step_54 : decode cX14_step 54 = .ok (.getfield 135, 3) := by decide +kernel
theorem dX14_step_57 : decode cX14_step 57 = .ok (.iload_n 1, 1) := by decide +kernel
theorem dX14_step_58 : decode cX14_step 58 = .ok (.iaload, 1) := by decide +kernel
theorem dX14_step_59 : decode cX14_step 59 = .ok (.ifCond .ne 8, 3) := by decide +kernel
theorem dX14_step_62 : decode cX14_step 62 = .ok (.aload_n 0, 1) := by decide +kernel
theorem dX14_step_63 : decode cX14_step 63 = .ok (.iload_n 1, 1) := by decide +kernel
theorem dX14_step_64 : decode cX14_step 64 = .ok (.invokevirtual 805, 3) := by decide +kernel
theorem dX14_step_67 : decode cX14_step 67 = .ok (.iinc 1 1, 3) := by decide +kernel
theorem dX14_step_70 : decode cX14_step 70 = .ok (.goto (-58), 3) := by decide +kernel
theorem dX14_step_73 : decode cX14_step 73 = .ok (.return_, 1) := by decide +kernel
theorem dX14_work_0 : decode cX14_work 0 = .ok (.iload_n 1, 1) := by decide +kernel
theorem dX14_work_1 : decode cX14_work 1 = .ok (.iconst 0, 1) := by decide +kernel
theorem dX14_work_2 : decode cX14_work 2 = .ok (.sipush 10000, 3) := by decide +kernel
theorem dX14_work_5 : decode cX14_work 5 = .ok (.invokestatic 181, 3) := by decide +kernel
theorem dX14_work_8 : decode cX14_work 8 = .ok (.ifCond .ne 5, 3) := by decide +kernel
theorem dX14_work_11 : decode cX14_work 11 = .ok (.iconst (-1), 1) := by decide +kernel
theorem dX14_work_12 : decode cX14_work 12 = .ok (.ireturn, 1) := by decide +kernel
theorem dX14_work_13 : decode cX14_work 13 = .ok (.iconst 0, 1) := by decide +kernel
theorem dX14_work_14 : decode cX14_work 14 = .ok (.istore_n 2, 1) := by decide +kernel
theorem dX14_work_15 : decode cX14_work 15 = .ok (.iload_n 2, 1) := by decide +kernel
theorem dX14_work_16 : decode cX14_work 16 = .ok (.iload_n 1, 1) := by decide +kernel
theorem dX14_work_17 : decode cX14_work 17 = .ok (.if_icmp .ge 38, 3) := by decide +kernel
theorem dX14_work_20 : decode cX14_work 20 = .ok (.aload_n 0, 1) := by decide +kernel
theorem dX14_work_21 : decode cX14_work 21 = .ok (.getfield 129, 3) := by decide +kernel
theorem dX14_work_24 : decode cX14_work 24 = .ok (.iconst 0, 1) := by decide +kernel
theorem dX14_work_25 : decode cX14_work 25 = .ok (.aaload, 1) := by decide +kernel
theorem dX14_work_26 : decode cX14_work 26 = .ok (.ifnonnull 19, 3) := by decide +kernel
theorem dX14_work_29 : decode cX14_work 29 = .ok (.aload_n 0, 1) := by decide +kernel
theorem dX14_work_30 : decode cX14_work 30 = .ok (.getfield 129, 3) := by decide +kernel
theorem dX14_work_33 : decode cX14_work 33 = .ok (.iconst 1, 1) := by decide +kernel
theorem dX14_work_34 : decode cX14_work 34 = .ok (.aaload, 1) := by decide +kernel
theorem dX14_work_35 : decode cX14_work 35 = .ok (.ifnonnull 10, 3) := by decide +kernel
theorem dX14_work_38 : decode cX14_work 38 = .ok (.aload_n 0, 1) := by decide +kernel
theorem dX14_work_39 : decode cX14_work 39 = .ok (.invokevirtual 782, 3) := by decide +kernel
theorem dX14_work_42 : decode cX14_work 42 = .ok (.ifnull 13, 3) := by decide +kernel
theorem dX14_work_45 : decode cX14_work 45 = .ok (.aload_n 0, 1) := by decide +kernel
theorem dX14_work_46 : decode cX14_work 46 = .ok (.invokevirtual 808, 3) := by decide +kernel
theorem dX14_work_49 : decode cX14_work 49 = .ok (.iinc 2 1, 3) := by decide +kernel
theorem dX14_work_52 : decode cX14_work 52 = .ok (.goto (-37), 3) := by decide +kernel
theorem dX14_work_55 : decode cX14_work 55 = .ok (.iload_n 2, 1) := by decide +kernel
theorem dX14_work_56 : decode cX14_work 56 = .ok (.ireturn, 1) := by decide +kernel
end
section
def jLeA (f g : Nat → Int32) : Prop := ∀ i : Int, 0 ≤ i → i < 3100 → jSo f i ≤ jSo g i
end
section
-- the workers of a document that has changed; a document that is opened; closed
abbrev jFt : List (Nat × Nat) := [(122, 0), (123, 0)]
def jFT (dC : Nat → ClassId) (dI : Nat → Nat → Nat) (ca : Nat → ClassId) (G : jT) (xb xe : Nat) (H : Heap) : Prop := ∃ fb fe : Nat → Int32, jMc (dC, dI) G H [(xb, 122, 3100, ca 1, fb), (xe, 123, 3100, ca 1, fe)] ∧ jLeA fb fe
theorem jFT.ie {dC : Nat → ClassId} {dI : Nat → Nat → Nat} {ca : Nat → ClassId} {G : jT} {xb xe : Nat} {H : Heap} (h : jFT dC dI ca G xb xe H) (hb : G xb = some (122, 3100)) (he : G xe = some (123, 3100)) : ((jFt, jFT dC dI ca G xb xe) : jIv).2 H ∧ ∀ H1 H2 : Heap, jAg (dC, dI) G ((jFt, jFT dC dI ca G xb xe) : jIv).1 H1 H2 → ((jFt, jFT dC dI ca G xb xe) : jIv).2 H1 → ((jFt, jFT dC dI ca G xb xe) : jIv).2 H2 := by
  refine ⟨h, fun H1 H2 hA hq => ?_⟩
  obtain ⟨fb, fe, h1, h2⟩ := hq
  refine ⟨fb, fe, fun q hq => ?_, h2⟩
  obtain ⟨q1, q2, q3, q4⟩ := h1 q hq
  refine ⟨q1, q2, q3, q4.kept ?_⟩
  simp only [List.mem_cons, List.not_mem_nil, or_false] at hq
  rcases hq with rfl | rfl
  · exact hA.2 _ _ _ q1 q2 q3 rfl
  · exact hA.2 _ _ _ q1 q2 q3 rfl
section J16
variable {p : Program} {l : Launch} {e : Env} {R : Room} {s : State} {m : MethodId} {args : Array Value} {below : List Frame} {meth : Method} {c : Code} {H : Heap} {locs : List Loc} {cells slots : Nat} {Q : State → Prop}
variable {cc : ByteArray} {pc : Nat} {ls : Array Slot} {rest : List Value} {dC : Nat → ClassId} {dI : Nat → Nat → Nat} {ca : Nat → ClassId} {B : jF} {base : Nat} {G0 G : jT} {E : List (Nat × Nat)} {H0 : Heap} {zc zs : Nat} {L : List jPin} {M : List jCt} {I : List jIv} {a k n : Nat} {cA : ClassId} {tys : List (ClassId × FieldType)}
end J16
end
section
-- what a method writes of one object only: the others of its kind keep their fields
theorem jOw.ie {dC : Nat → ClassId} {dI : Nat → Nat → Nat} {G0 G : jT} {k r N : Nat} {C : String} {T : u_T} {F : List (Nat × Nat)} {H0 H : Heap} (hc : vwCl[k]? = some (C, T, N)) (hF : (List.range N).all (fun i => F.contains (k, i)) = true) (hle : jLe G0 G) (h : jOw (dC, dI) G0 k r H0 H) : ((F, jOw (dC, dI) G0 k r H0) : jIv).2 H ∧ ∀ H1 H2 : Heap, jAg (dC, dI) G ((F, jOw (dC, dI) G0 k r H0) : jIv).1 H1 H2 → ((F, jOw (dC, dI) G0 k r H0) : jIv).2 H1 → ((F, jOw (dC, dI) G0 k r H0) : jIv).2 H2 := by
  refine ⟨h, fun H1 H2 hA h1 a n i v hne ha hf => ?_⟩
  have g := h1 a n i v hne ha hf
  have g' := g
  obtain ⟨r9, g1, g2, -⟩ := g'
  have e : r9 = (C, T, N) := Option.some.inj (g1.symm.trans hc)
  subst e
  exact hA.1 a k n i v (hle _ _ ha) (List.all_eq_true.mp hF i (List.mem_range.mpr g2)) g
theorem jNk.sub {ks ks1 : List Nat} {G G1 : jT} (h : jNk ks G G1) (hs : ks1.all (fun k => ks.contains k) = true) : jNk ks1 G G1 := fun a k n ha hk => h a k n ha (List.all_eq_true.mp hs k (List.contains_iff_mem.mp hk))
theorem jNk.new {ks : List Nat} {G : jT} {x k n : Nat} (hk : ks.contains k = false) : jNk ks G (va_up G x (some (k, n))) := fun a k1 n1 ha h1 => by
  by_cases e : a = x
  · subst e
    simp only [va_up, if_pos] at ha
    have e1 := (Prod.mk.inj (Option.some.inj ha)).1
    rw [← e1, hk] at h1; cases h1
  · rw [va_up_ne _ _ e] at ha; exact ha
section J19
variable {p : Program} {l : Launch} {e : Env} {R : Room} {s : State} {m : MethodId} {args : Array Value} {below : List Frame} {meth : Method} {c : Code} {H : Heap} {locs : List Loc} {cells slots : Nat} {Q : State → Prop}
variable {cc : ByteArray} {pc : Nat} {ls : Array Slot} {rest : List Value} {dC : Nat → ClassId} {dI : Nat → Nat → Nat} {ca : Nat → ClassId} {B : jF} {base : Nat} {G0 G : jT} {E : List (Nat × Nat)} {H0 : Heap} {zc zs : Nat} {L : List jPin} {M : List jCt} {I : List jIv} {a k n i index N : Nat} {tys : List (ClassId × FieldType)} {own C : String} {T : u_T}
end J19
end
section
-- more cells: what is known stays known (a call that makes cells; none of them is a document of the reference)
theorem jN14.new {G : jT} {x k n : Nat} (hk : k ≠ 14) : jN14 G (va_up G x (some (k, n))) := fun a ha => by
  by_cases e : a = x
  · subst e
    simp only [va_up, if_pos] at ha
    exact absurd (Prod.mk.inj (Option.some.inj ha)).1 hk
  · rw [va_up_ne _ _ e] at ha; exact ha
end
section
-- new objects: raw while they are made, typed when they are whole
theorem jKe.new {G : jT} {H H1 : Heap} {t : Option (Nat × Nat)} (hfr : ∀ q, q < H.size → H1[q]? = H[q]?) : jKe G (va_up G H.size t) H H1 := ⟨hfr, fun q t hq hg => by rw [va_up_ne _ _ (Nat.ne_of_lt hq)] at hg; exact hg⟩
section J20
variable {p : Program} {l : Launch} {e : Env} {R : Room} {s : State} {m : MethodId} {args : Array Value} {below : List Frame} {meth : Method} {c : Code} {H : Heap} {locs : List Loc} {cells slots : Nat} {Q : State → Prop}
variable {cc : ByteArray} {pc : Nat} {ls : Array Slot} {rest : List Value} {dC : Nat → ClassId} {dI : Nat → Nat → Nat} {ca : Nat → ClassId} {B : jF} {base : Nat} {G0 G : jT} {E : List (Nat × Nat)} {H0 : Heap} {zc zs : Nat} {L : List jPin} {M : List jCt} {I : List jIv} {a k n i index N : Nat} {tys : List (ClassId × FieldType)} {own C : String} {T : u_T} {fs : List Value}
theorem jX.oth {B : jF} {base : Nat} {G : jT} {H H1 : Heap} (h : jX B base G [] H) (hB : jBok B) (hk : ∀ b t, G b = some t → H1[b]? = H[b]?) (hsz : H.size ≤ H1.size) : jX B base G [] H1 :=
  ⟨fun b k n hb h1 hx => hB.1 k n G b H H1 (fun q hq => by
    rcases hq with e | ⟨i, e⟩
    · rw [e]; exact hk b _ hb
    · exact hk q _ e) (h.1 b k n hb h1 hx), fun b t hb => ⟨(h.2 b t hb).1, Nat.lt_of_lt_of_le (h.2 b t hb).2 hsz⟩⟩
theorem jSt.oth (hh : jSt (dC, dI) B base G0 G E H0 zc zs L M I H locs) (hB : jBok B) {H1 : Heap} {locs1 : List Loc} {wc ws : Nat} (hk : ∀ b t, G b = some t → H1[b]? = H[b]?) (hS : va_S (jA base) H0 H1 locs1) (hsz : H.size ≤ H1.size) (hz : H1.size ≤ H.size + wc) (ht : jTot H1 ≤ jTot H + ws) : jSt (dC, dI) B base G0 G E H0 (zc + wc) (zs + ws) L M I H1 locs1 := by
  obtain ⟨h1, h2, h3, h4, h5, h6, h7, h8, h9⟩ := hh
  refine ⟨hS, h2.oth hB hk hsz, fun q hq => ?_, ⟨fun b kb nb ib v hb he hf => (h4.1 b kb nb ib v hb he hf).kept (hk b _ (h5 _ _ hb)), fun b kb nb hb g1 g2 he => (hk b _ (h5 _ _ hb)).trans (h4.2 b kb nb hb g1 g2 he)⟩, h5, by omega, by omega, fun q hq => ?_, h9.ag (fun q hq => ⟨fun b kb nb ib v hb _ hf => hf.kept (hk b _ hb), fun b kb nb hb _ _ _ => hk b _ hb⟩)⟩
  · obtain ⟨⟨nq, g1⟩, g2⟩ := h3 q hq
    exact ⟨⟨nq, g1⟩, g2.kept (hk _ _ g1)⟩
  · obtain ⟨g1, g2, g3, g4⟩ := h8 q hq
    exact ⟨g1, g2, g3, g4.kept (hk _ _ g1)⟩
end J20
-- all growing Bytes hold no more than they have room for
abbrev jFy : List (Nat × Nat) := [(2, 0), (2, 1)]
theorem jYb.ie {dC : Nat → ClassId} {dI : Nat → Nat → Nat} {G : jT} {H : Heap} (h : jYb dC dI G H) : ((jFy, jYb dC dI G) : jIv).2 H ∧ ∀ H1 H2 : Heap, jAg (dC, dI) G ((jFy, jYb dC dI G) : jIv).1 H1 H2 → ((jFy, jYb dC dI G) : jIv).2 H1 → ((jFy, jYb dC dI G) : jIv).2 H2 :=
  ⟨h, fun H1 H2 hA h1 a ha => by
    obtain ⟨c, x, m, g1, g2, g3, g4⟩ := h1 a ha
    exact ⟨c, x, m, hA.1 a 2 0 1 _ ha rfl g1, hA.1 a 2 0 0 _ ha rfl g2, g3, g4⟩⟩
end
section
-- what a method writes of some objects only
theorem jOl.ie {dC : Nat → ClassId} {dI : Nat → Nat → Nat} {G0 G : jT} {k N : Nat} {rs : List Nat} {C : String} {T : u_T} {F : List (Nat × Nat)} {H0 H : Heap} (hc : vwCl[k]? = some (C, T, N)) (hF : (List.range N).all (fun i => F.contains (k, i)) = true) (hle : jLe G0 G) (h : jOl (dC, dI) G0 k rs H0 H) : ((F, jOl (dC, dI) G0 k rs H0) : jIv).2 H ∧ ∀ H1 H2 : Heap, jAg (dC, dI) G ((F, jOl (dC, dI) G0 k rs H0) : jIv).1 H1 H2 → ((F, jOl (dC, dI) G0 k rs H0) : jIv).2 H1 → ((F, jOl (dC, dI) G0 k rs H0) : jIv).2 H2 := by
  refine ⟨h, fun H1 H2 hA h1 a n i v hne ha hf => ?_⟩
  have g := h1 a n i v hne ha hf
  have g' := g
  obtain ⟨r9, g1, g2, -⟩ := g'
  have e : r9 = (C, T, N) := Option.some.inj (g1.symm.trans hc)
  subst e
  exact hA.1 a k n i v (hle _ _ ha) (List.all_eq_true.mp hF i (List.mem_range.mpr g2)) g
end
section
-- what the kernel's walks need: raw arrays of ints, arrays whose last element is null, states, new goals
section J30
variable {p : Program} {l : Launch} {e : Env} {R : Room} {s : State} {m : MethodId} {args : Array Value} {below : List Frame} {meth : Method} {c : Code} {H : Heap} {locs : List Loc} {cells slots : Nat} {Q : State → Prop}
variable {cc : ByteArray} {pc : Nat} {ls : Array Slot} {rest : List Value} {dC : Nat → ClassId} {dI : Nat → Nat → Nat} {ca : Nat → ClassId} {B : jF} {base : Nat} {G0 G : jT} {E : List (Nat × Nat)} {H0 : Heap} {zc zs : Nat} {L : List jPin} {M : List jCt} {I : List jIv} {a a0 k k0 n n0 index : Nat} {tys : List (ClassId × FieldType)} {own C : String} {cA : ClassId}
end J30
abbrev jFs11 : List (Nat × Nat) := [(11, 4), (11, 5)]
theorem jSef.ie {dC : Nat → ClassId} {dI : Nat → Nat → Nat} {G : jT} {H : Heap} (h : jSef dC dI G H) : ((jFs11, jSef dC dI G) : jIv).2 H ∧ ∀ H1 H2 : Heap, jAg (dC, dI) G ((jFs11, jSef dC dI G) : jIv).1 H1 H2 → ((jFs11, jSef dC dI G) : jIv).2 H1 → ((jFs11, jSef dC dI G) : jIv).2 H2 :=
  ⟨h, fun H1 H2 hA h1 a ha => by
    obtain ⟨x, y, m, g1, g2, g3⟩ := h1 a ha
    exact ⟨x, y, m, hA.1 a 11 0 4 _ ha rfl g1, hA.1 a 11 0 5 _ ha rfl g2, g3⟩⟩
abbrev jFg : List (Nat × Nat) := [(7, 9), (7, 10), (211, 0)]
def jFr (dC : Nat → ClassId) (dI : Nat → Nat → Nat) (ca : Nat → ClassId) (G : jT) (a : Nat) (H : Heap) : Prop := ∃ (c : Int32) (b : Nat) (f : Nat → Option Nat), G a = some (7, 0) ∧ G b = some (211, 6) ∧ jf (dC, dI) 7 a 10 (.int c) H ∧ jf (dC, dI) 7 a 9 (.ref b) H ∧ jQc dC dI (ca 7) b 6 f H ∧ ∀ i : Nat, i < 6 → (i : Int) < c.toInt → f i ≠ none
theorem jFr.ie {dC : Nat → ClassId} {dI : Nat → Nat → Nat} {ca : Nat → ClassId} {G : jT} {a : Nat} {H : Heap} (h : jFr dC dI ca G a H) : ((jFg, jFr dC dI ca G a) : jIv).2 H ∧ ∀ H1 H2 : Heap, jAg (dC, dI) G ((jFg, jFr dC dI ca G a) : jIv).1 H1 H2 → ((jFg, jFr dC dI ca G a) : jIv).2 H1 → ((jFg, jFr dC dI ca G a) : jIv).2 H2 :=
  ⟨h, fun H1 H2 hA h1 => by
    obtain ⟨c, b, f, g1, g2, g3, g4, g5, g6⟩ := h1
    have hq1 : va_at (dC, dI) vwCl (b, .inl (ca 7, 6, .inr (.inr (.inr (.inr f))))) H1 := g5
    exact ⟨c, b, f, g1, g2, hA.1 a 7 0 10 _ g1 rfl g3, hA.1 a 7 0 9 _ g1 rfl g4, va_at.kept hq1 (hA.2 b 211 6 g2 (by decide) (by decide) rfl), g6⟩⟩
theorem jFrc.full {f : Nat → Option Nat} {c c1 : Int} (h : jFrc f c) (hc : 6 ≤ c) : jFrc f c1 := fun i h6 _ => h i h6 (by omega)
end
section
-- all cells but these stay
theorem jKx.fl {r : Nat} {rs : List Nat} {G0 G : jT} {H0 H H1 : Heap} (h : jKx r G0 G H0 H) (h1 : jKl rs H H1) (hs : ∀ q, q ∈ rs → q = r ∨ H0.size ≤ q) : jKx r G0 G H0 H1 :=
  ⟨fun q hq hn => (h1 q (fun e => by rcases hs q e with e1 | e1; exact hn e1; omega)).trans (h.1 q hq hn), h.2⟩
theorem jKe.fl {rs : List Nat} {G0 G : jT} {H0 H H1 : Heap} (h : jKe G0 G H0 H) (h1 : jKl rs H H1) (hs : ∀ q, q ∈ rs → H0.size ≤ q) : jKe G0 G H0 H1 :=
  ⟨fun q hq => (h1 q (fun e => by have := hs q e; omega)).trans (h.1 q hq), h.2⟩
section J31
variable {p : Program} {l : Launch} {e : Env} {R : Room} {s : State} {m : MethodId} {args : Array Value} {below : List Frame} {meth : Method} {c : Code} {H : Heap} {locs : List Loc} {cells slots : Nat} {Q : State → Prop}
variable {cc : ByteArray} {pc : Nat} {ls : Array Slot} {rest : List Value} {dC : Nat → ClassId} {dI : Nat → Nat → Nat} {ca : Nat → ClassId} {B : jF} {base : Nat} {G0 G : jT} {E : List (Nat × Nat)} {H0 : Heap} {zc zs : Nat} {L : List jPin} {M : List jCt} {I : List jIv} {a k n : Nat} {tys : List (ClassId × FieldType)} {cA : ClassId}
end J31
end
section
-- the places where a term stands, counted as the scan goes
theorem jSaB.yes {f g : Nat → Int32} {n m : Nat} {a b w : Int} (h0 : 0 ≤ a) (h1 : 0 ≤ b) (h2 : a + w ≤ n) (h3 : b + w ≤ m) (h : ∀ j : Int, 0 ≤ j → j < w → jSo f (a + j) = jSo g (b + j)) : jSaB f n g m a b w = true := by
  unfold jSaB
  rw [decide_eq_true h0, decide_eq_true h1, decide_eq_true h2, decide_eq_true h3, Bool.true_and, Bool.true_and, Bool.true_and, Bool.true_and]
  rw [List.all_eq_true]
  intro j hj
  have hj1 := List.mem_range.mp hj
  exact decide_eq_true (h (j : Int) (by omega) (by omega))
end
section
-- lists: arrays of Object, the interface's calls
theorem jLcs.same {C : String} {s U : State} (hv : s.vm = U.vm) (h : jLcs C s) : jLcs C U := ⟨va_Nw.same rfl hv h.1, va_Nw.same rfl hv h.2⟩
theorem jK7.calling {dC : Nat → ClassId} {dI : Nat → Nat → Nat} {ca : Nat → ClassId} {base : Nat} {U : State} (g : JFrame) (mk : MethodId) (a : Array Value) (h : jK7 dC dI ca base U) : jK7 dC dI ca base (U.calling g mk a) := by
  obtain ⟨h1, h2, h3, h4, h5, h8, h6, h7⟩ := h
  have hv : U.vm.Alike (U.calling g mk a).vm := Vm.Alike.refl U.vm
  exact ⟨va_K.moved hv h1, va_AO.moved hv h2, ⟨h3.1.same rfl, h3.2.1.same rfl, h3.2.2.same rfl⟩, h4.moved hv, h5.moved hv, ⟨h8.1.moved hv, h8.2.1.moved hv, h8.2.2.1.moved hv, h8.2.2.2.moved hv⟩, h6.moved hv, h7.moved hv⟩
section J32
variable {p : Program} {l : Launch} {e : Env} {R : Room} {s : State} {m : MethodId} {args : Array Value} {below : List Frame} {meth : Method} {c : Code} {H : Heap} {locs : List Loc} {cells slots : Nat} {Q : State → Prop}
variable {cc : ByteArray} {pc : Nat} {ls : Array Slot} {rest : List Value} {dC : Nat → ClassId} {dI : Nat → Nat → Nat} {ca : Nat → ClassId} {B : jF} {base : Nat} {G0 G : jT} {E : List (Nat × Nat)} {H0 : Heap} {zc zs : Nat} {L : List jPin} {M : List jCt} {I : List jIv} {a a0 k k0 n n0 index : Nat} {tys tys0 : List (ClassId × FieldType)} {own C CE : String} {cA : ClassId}
end J32
end
section
-- what is known of all lists (o: the one that is open); k: as many there are
abbrev jFl : List (Nat × Nat) := [(1, 1), (1, 2), (221, 0), (222, 0), (223, 0)]
section J33
variable {dC : Nat → ClassId} {dI : Nat → Nat → Nat} {ca : Nat → ClassId} {G G1 : jT} {H H1 : Heap} {a c k r x m n : Nat} {o : Option Nat} {ks : List Nat} {w wn : jWl9}
theorem jLo.agree (h : jLo dC dI ca G w a c H) (ha : G a = some (1, c)) (hc : 1 ≤ c ∧ c ≤ 3) (hA : jAg (dC, dI) G jFl H H1) : jLo dC dI ca G w a c H1 := by
  obtain ⟨z, x, h1, h2, h3, h4⟩ := h
  refine ⟨z, x, hA.1 a 1 c 2 _ ha rfl h1, hA.1 a 1 c 1 _ ha rfl h2, h3, ?_⟩
  rcases h4 with h4 | ⟨m, f, g1, g2, g3, g4, g5⟩
  · exact Or.inl h4
  · refine Or.inr ⟨m, f, g1, g2, g3, ?_, g5⟩
    have hq1 : va_at (dC, dI) vwCl (x, .inl (ca 9, m, .inr (.inr (.inr (.inr f))))) H := g4
    refine va_at.kept hq1 (hA.2 x (220 + c) m g1 (by omega) (by omega) ?_)
    obtain rfl | rfl | rfl : c = 1 ∨ c = 2 ∨ c = 3 := by omega
    · rfl
    · rfl
    · rfl
theorem jLs.ie (h : jLs dC dI ca G k o w H) : ((jFl, jLs dC dI ca G k o w) : jIv).2 H ∧ ∀ H1 H2 : Heap, jAg (dC, dI) G ((jFl, jLs dC dI ca G k o w) : jIv).1 H1 H2 → ((jFl, jLs dC dI ca G k o w) : jIv).2 H1 → ((jFl, jLs dC dI ca G k o w) : jIv).2 H2 :=
  ⟨h, fun H1 H2 hA h1 => ⟨h1.1, h1.2.1, fun a c ha hn => (h1.2.2 a c ha hn).agree ha ⟨(h1.2.1 a c ha).1, (h1.2.1 a c ha).2.2⟩ hA⟩⟩
theorem jLo.tell (h : jLo dC dI ca G w a c H) (hc : (c = 1 → wn.1 = w.1 ∧ wn.2.1 = w.2.1) ∧ (c ≠ 1 → jWls c wn = jWls c w)) : jLo dC dI ca G wn a c H := by
  obtain ⟨z, x, h1, h2, h3, h4⟩ := h
  refine ⟨z, x, h1, h2, h3, ?_⟩
  rcases h4 with ⟨g1, g2, g3, g4⟩ | ⟨m, f, g1, g2, g3, g4, g5, g6, g7⟩
  · exact Or.inl ⟨g1, g2, fun q => by rw [(hc.1 q).1]; exact g3 q, fun q => by rw [hc.2 q]; exact g4 q⟩
  · exact Or.inr ⟨m, f, g1, g2, g3, g4, g5, fun q => by rw [(hc.1 q).1, (hc.1 q).2]; exact g6 q, fun q => by rw [hc.2 q]; exact g7 q⟩
theorem jLs.full (h : jLs dC dI ca G k (some r) w H) (hr : G r = some (1, c)) (hl : jLo dC dI ca G wn r c H) (hw : jWo c w wn) : jLs dC dI ca G k none wn H :=
  ⟨h.1, h.2.1, fun a c' ha _ => by
    by_cases e : a = r
    · subst e
      have e1 := Option.some.inj (ha.symm.trans hr)
      cases e1
      exact hl
    · have h9 := h.2.2 a c' ha (fun q => e (Option.some.inj q).symm)
      have h8 := h.2.1 a c' ha
      refine h9.tell (hw.s (fun q => e ?_) h8.1 h8.2.2)
      subst q
      exact h.1 a r c' ha hr⟩
theorem jLo.cells (h : jLo dC dI ca G w a c H) (h1 : H1[a]? = H[a]?) (h2 : ∀ x m, G x = some (220 + c, m) → H1[x]? = H[x]?) : jLo dC dI ca G w a c H1 := by
  obtain ⟨z, x, q1, q2, q3, q4⟩ := h
  refine ⟨z, x, q1.kept h1, q2.kept h1, q3, ?_⟩
  rcases q4 with q4 | ⟨m, f, g1, g2, g3, g4, g5⟩
  · exact Or.inl q4
  · have hq1 : va_at (dC, dI) vwCl (x, .inl (ca 9, m, .inr (.inr (.inr (.inr f))))) H := g4
    exact Or.inr ⟨m, f, g1, g2, g3, va_at.kept hq1 (h2 x m g1), g5⟩
/-- a field of the open list is written -/
theorem jLs.fld (h : jLs dC dI ca G k (some r) w H) (hr : G r = some (1, c)) (hq : ∀ q : Nat, q ≠ r → H1[q]? = H[q]?) : jLs dC dI ca G k (some r) w H1 :=
  ⟨h.1, h.2.1, fun a c' ha hn => (h.2.2 a c' ha hn).cells (hq a (fun e => hn (by rw [e]))) (fun x m hx => hq x (fun e => by
    subst e
    have e1 := Option.some.inj (hx.symm.trans hr)
    have e2 := congrArg Prod.fst e1
    simp at e2
    omega))⟩
/-- the array of the open list is written -/
theorem jLs.arr (h : jLs dC dI ca G k (some r) w H) (hr : G r = some (1, c)) (hx : G x = some (220 + c, m)) (hq : ∀ q : Nat, q ≠ x → H1[q]? = H[q]?) : jLs dC dI ca G k (some r) w H1 :=
  ⟨h.1, h.2.1, fun a c' ha hn => (h.2.2 a c' ha hn).cells (hq a (fun e => by
    subst e
    have e1 := Option.some.inj (ha.symm.trans hx)
    have e2 := congrArg Prod.fst e1
    simp at e2
    omega)) (fun y m' hy => hq y (fun e => by
    subst e
    have e1 := Option.some.inj (hy.symm.trans hx)
    have e2 := congrArg Prod.fst e1
    have e3 : c' = c := by simp at e2; omega
    subst e3
    exact hn (by rw [h.1 a r c' ha hr])))⟩
end J33
end
section
-- Bytes that stay small; new Bytes
theorem jTen.z : jTen 1000000000 10 := ⟨by omega, by decide⟩
end
section
-- an array of ints is cloned
theorem jK8.calling {U : State} (g : JFrame) (mk : MethodId) (a : Array Value) (h : jK8 U) : jK8 (U.calling g mk a) := va_Nw.same rfl rfl h
section J40
variable {p : Program} {l : Launch} {e : Env} {R : Room} {s : State} {m : MethodId} {args : Array Value} {below : List Frame} {meth : Method} {c : Code} {H : Heap} {locs : List Loc} {cells slots : Nat} {Q : State → Prop}
variable {cc : ByteArray} {pc : Nat} {ls : Array Slot} {rest : List Value} {dC : Nat → ClassId} {dI : Nat → Nat → Nat} {B : jF} {base : Nat} {G0 G : jT} {E : List (Nat × Nat)} {H0 : Heap} {zc zs : Nat} {L : List jPin} {M : List jCt} {I : List jIv} {a k n index : Nat} {tys : List (ClassId × FieldType)} {own : String}
end J40
end
section
-- what reading JSON leaves: the strings and keys of the values stand apart among the units, and take bytes
/-- a value is made -/
theorem jJr.mk {C D : jC} {pv pu qu : Int} (h0 : 0 ≤ pv) (h1 : 0 ≤ pu) (hq : pu ≤ qu) (ho : ∀ i : Int, 0 ≤ i → i < pv → jE5 C D i) (hs : jSo D.1 pv = 3 → 0 ≤ jSo D.2.2.1 pv ∧ pu ≤ jSo D.2.1 pv ∧ jSo D.2.1 pv + jSo D.2.2.1 pv ≤ qu) (hk : jSo D.2.2.2.2 pv = 0) (hf : jSo D.2.2.2.1 pv = 0) : jJr C pv pu D (pv + 1) qu := by
  have e2 : ∀ e : Nat, 2 * pv ≤ e → (e : Int) < 2 * (pv + 1) → ((e / 2 : Nat) : Int) = pv := fun e a b => by omega
  have z1 : ∀ e : Nat, 2 * pv ≤ e → (e : Int) < 2 * (pv + 1) → e % 2 = 1 → jln D e = 0 := fun e a b c => by
    unfold jln
    rw [if_neg (by omega), e2 e a b, hk]
  have z2 : ∀ e : Nat, 2 * pv ≤ e → (e : Int) < 2 * (pv + 1) → e % 2 = 1 → jlo D e = 0 := fun e a b c => by
    unfold jlo
    rw [if_neg (by omega), e2 e a b, hf]
  refine ⟨by omega, ho, fun e a b => ?_, fun e e' a b c d ne => ?_⟩
  · by_cases q : e % 2 = 0
    · unfold jln jlo
      rw [if_pos q, if_pos q, e2 e a b]
      by_cases q3 : jSo D.1 pv = 3
      · rw [if_pos q3, if_pos q3]
        have := hs q3
        omega
      · rw [if_neg q3, if_neg q3]; omega
    · have := z1 e a b (by omega)
      have := z2 e a b (by omega)
      omega
  · by_cases q : e % 2 = 1
    · exact Or.inl (z1 e a b q)
    · exact Or.inr (Or.inl (z1 e' c d (by omega)))
def jMq (C D : jC) (n : Int) : Prop := ∀ i : Int, 0 ≤ i → i < n → jE5 C D i
def jMv (D : jC) (n k f s : Int) : Prop := jSo D.1 n = k ∧ jSo D.2.1 n = f ∧ jSo D.2.2.1 n = s ∧ jSo D.2.2.2.2 n = 0 ∧ jSo D.2.2.2.1 n = 0
theorem jSb.old {C D : jC} {n : Int} (h0 : 0 ≤ n) (h : jMq C D n) : jSb D.2.2.2.2 n.toNat = jSb C.2.2.2.2 n.toNat := jSb.cg _ (fun i hi => Or.inr (by
  have := (h i (by omega) (by omega)).2.2.2.2
  unfold jSo at this
  exact this))
theorem jVr.mk {C D : jC} {pv pu pt qv qu qt r k f s : Int} (hq : jMq C D pv) (hr : (r = -1 ∧ qv = pv) ∨ (r = pv ∧ qv = pv + 1)) (hm : r < 0 ∨ jMv D pv k f s) (h0 : 0 ≤ pv) (h1 : 0 ≤ pu) (hu : pu ≤ qu) (hs : k = 3 → f = pu ∧ s = qu - pu) (hb : qu - pu + 1 ≤ qt - pt) : jVr C pv pu pt D qv qu qt r := by
  rcases hr with ⟨e1, e2⟩ | ⟨e1, e2⟩
  · subst e2
    exact ⟨⟨⟨h0, by omega, h1, hu⟩, hq, fun e a b => by omega, fun e _ a b => by omega⟩, Or.inl (by omega)⟩
  · rcases hm with hm | ⟨m1, m2, m3, m4, m5⟩
    · omega
    · subst e2
      refine ⟨jJr.mk h0 h1 hu hq (fun h3 => ?_) m4 m5, Or.inr ⟨by omega, by omega, by rw [e1]; exact m4, ?_⟩⟩
      · have := hs (by omega)
        omega
      · rw [jSb.suc h0 rfl m4, jSb.old h0 hq]
        omega
theorem jHv.z {C D : jC} {pv pu pt qv r k f s t : Int} (hq : jMq C D pv) (hr : (r = -1 ∧ qv = pv) ∨ (r = pv ∧ qv = pv + 1)) (hm : r < 0 ∨ jMv D pv k f s) (h0 : 0 ≤ pv) (h1 : 0 ≤ pu) (hk : k ≠ 3) (ht : pt + 1 ≤ t) : jJr C pv pu D qv pu ∧ jHv C pv pu pt D qv pu t r 0 := by
  have hv := jVr.mk (pu := pu) (qu := pu) (pt := pt) (qt := t) hq hr hm h0 h1 (Int.le_refl _) (fun h => absurd h hk) (by omega)
  refine ⟨hv.1, ?_⟩
  rcases hr with ⟨e1, e2⟩ | ⟨e1, e2⟩
  · exact Or.inl (by omega)
  · rcases hm with hm | ⟨m1, m2, m3, m4, m5⟩
    · exact Or.inl hm
    · rcases hv.2 with h | ⟨-, -, -, h4⟩
      · exact Or.inl h
      · exact Or.inr ⟨e1, by omega, by rw [m1]; exact hk, m4, by omega⟩
end
