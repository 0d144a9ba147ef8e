section
theorem dX14_goalsOf_0 : decode cX14_goalsOf 0 = .ok (.aload_n 0, 1) := by decide +kernel
theorem dX14_goalsOf_1 : decode cX14_goalsOf 1 = .ok (.getfield 122, 3) := by decide +kernel
theorem dX14_goalsOf_4 : decode cX14_goalsOf 4 = .ok (.getfield 637, 3) := by decide +kernel
theorem dX14_goalsOf_7 : decode cX14_goalsOf 7 = .ok (.ifCond .ne 11, 3) := by decide +kernel
theorem dX14_goalsOf_10 : decode cX14_goalsOf 10 = .ok (.aload_n 0, 1) := by decide +kernel
theorem dX14_goalsOf_11 : decode cX14_goalsOf 11 = .ok (.ldc_w 307, 3) := by decide +kernel
theorem dX14_goalsOf_14 : decode cX14_goalsOf 14 = .ok (.invokevirtual 189, 3) := by decide +kernel
theorem dX14_goalsOf_17 : decode cX14_goalsOf 17 = .ok (.return_, 1) := by decide +kernel
theorem dX14_goalsOf_18 : decode cX14_goalsOf 18 = .ok (.aload_n 0, 1) := by decide +kernel
theorem dX14_goalsOf_19 : decode cX14_goalsOf 19 = .ok (.ldc_w 640, 3) := by decide +kernel
theorem dX14_goalsOf_22 : decode cX14_goalsOf 22 = .ok (.invokevirtual 189, 3) := by decide +kernel
theorem dX14_goalsOf_25 : decode cX14_goalsOf 25 = .ok (.aload_n 0, 1) := by decide +kernel
theorem dX14_goalsOf_26 : decode cX14_goalsOf 26 = .ok (.getfield 122, 3) := by decide +kernel
theorem dX14_goalsOf_29 : decode cX14_goalsOf 29 = .ok (.iconst 0, 1) := by decide +kernel
theorem dX14_goalsOf_30 : decode cX14_goalsOf 30 = .ok (.putfield 634, 3) := by decide +kernel
theorem dX14_goalsOf_33 : decode cX14_goalsOf 33 = .ok (.aload_n 0, 1) := by decide +kernel
theorem dX14_goalsOf_34 : decode cX14_goalsOf 34 = .ok (.getfield 122, 3) := by decide +kernel
theorem dX14_goalsOf_37 : decode cX14_goalsOf 37 = .ok (.aload_n 0, 1) := by decide +kernel
theorem dX14_goalsOf_38 : decode cX14_goalsOf 38 = .ok (.getfield 122, 3) := by decide +kernel
theorem dX14_goalsOf_41 : decode cX14_goalsOf 41 = .ok (.getfield 642, 3) := by decide +kernel
theorem dX14_goalsOf_44 : decode cX14_goalsOf 44 = .ok (.invokevirtual 645, 3) := by decide +kernel
theorem dX14_goalsOf_47 : decode cX14_goalsOf 47 = .ok (.aload_n 0, 1) := by decide +kernel
theorem dX14_goalsOf_48 : decode cX14_goalsOf 48 = .ok (.iconst 0, 1) := by decide +kernel
theorem dX14_goalsOf_49 : decode cX14_goalsOf 49 = .ok (.invokevirtual 648, 3) := by decide +kernel
theorem dX14_goalsOf_52 : decode cX14_goalsOf 52 = .ok (.aload_n 0, 1) := by decide +kernel
theorem dX14_goalsOf_53 : decode cX14_goalsOf 53 = .ok (.ldc_w 651, 3) := by decide +kernel
theorem dX14_goalsOf_56 : decode cX14_goalsOf 56 = .ok (.invokevirtual 189, 3) := by decide +kernel
theorem dX14_goalsOf_59 : decode cX14_goalsOf 59 = .ok (.iconst 0, 1) := by decide +kernel
theorem dX14_goalsOf_60 : decode cX14_goalsOf 60 = .ok (.istore_n 1, 1) := by decide +kernel
theorem dX14_goalsOf_61 : decode cX14_goalsOf 61 = .ok (.iload_n 1, 1) := by decide +kernel
theorem dX14_goalsOf_62 : decode cX14_goalsOf 62 = .ok (.aload_n 0, 1) := by decide +kernel
theorem dX14_goalsOf_63 : decode cX14_goalsOf 63 = .ok (.getfield 122, 3) := by decide +kernel
theorem dX14_goalsOf_66 : decode cX14_goalsOf 66 = .ok (.getfield 653, 3) := by decide +kernel
theorem dX14_goalsOf_69 : decode cX14_goalsOf 69 = .ok (.if_icmp .ge 32, 3) := by decide +kernel
theorem dX14_goalsOf_72 : decode cX14_goalsOf 72 = .ok (.iload_n 1, 1) := by decide +kernel
theorem dX14_goalsOf_73 : decode cX14_goalsOf 73 = .ok (.ifCond .le 9, 3) := by decide +kernel
theorem dX14_goalsOf_76 : decode cX14_goalsOf 76 = .ok (.aload_n 0, 1) := by decide +kernel
theorem dX14_goalsOf_77 : decode cX14_goalsOf 77 = .ok (.bipush 44, 2) := by decide +kernel
theorem dX14_goalsOf_79 : decode cX14_goalsOf 79 = .ok (.invokevirtual 172, 3) := by decide +kernel
theorem dX14_goalsOf_82 : decode cX14_goalsOf 82 = .ok (.aload_n 0, 1) := by decide +kernel
theorem dX14_goalsOf_83 : decode cX14_goalsOf 83 = .ok (.getfield 122, 3) := by decide +kernel
theorem dX14_goalsOf_86 : decode cX14_goalsOf 86 = .ok (.iload_n 1, 1) := by decide +kernel
theorem dX14_goalsOf_87 : decode cX14_goalsOf 87 = .ok (.invokevirtual 656, 3) := by decide +kernel
theorem dX14_goalsOf_90 : decode cX14_goalsOf 90 = .ok (.aload_n 0, 1) := by decide +kernel
theorem dX14_goalsOf_91 : decode cX14_goalsOf 91 = .ok (.iconst 0, 1) := by decide +kernel
theorem dX14_goalsOf_92 : decode cX14_goalsOf 92 = .ok (.invokevirtual 648, 3) := by decide +kernel
theorem dX14_goalsOf_95 : decode cX14_goalsOf 95 = .ok (.iinc 1 1, 3) := by decide +kernel
theorem dX14_goalsOf_98 : decode cX14_goalsOf 98 = .ok (.goto (-37), 3) := by decide +kernel
theorem dX14_goalsOf_101 : decode cX14_goalsOf 101 = .ok (.aload_n 0, 1) := by decide +kernel
theorem dX14_goalsOf_102 : decode cX14_goalsOf 102 = .ok (.ldc_w 659, 3) := by decide +kernel
theorem dX14_goalsOf_105 : decode cX14_goalsOf 105 = .ok (.invokevirtual 189, 3) := by decide +kernel
theorem dX14_goalsOf_108 : decode cX14_goalsOf 108 = .ok (.return_, 1) := by decide +kernel
theorem dX14_statementOf_0 : decode cX14_statementOf 0 = .ok (.iconst (-1), 1) := by decide +kernel
theorem dX14_statementOf_1 : decode cX14_statementOf 1 = .ok (.istore 4, 2) := by decide +kernel
theorem dX14_statementOf_3 : decode cX14_statementOf 3 = .ok (.iconst (-1), 1) := by decide +kernel
theorem dX14_statementOf_4 : decode cX14_statementOf 4 = .ok (.istore 5, 2) := by decide +kernel
theorem dX14_statementOf_6 : decode cX14_statementOf 6 = .ok (.iconst 0, 1) := by decide +kernel
theorem dX14_statementOf_7 : decode cX14_statementOf 7 = .ok (.istore 6, 2) := by decide +kernel
theorem dX14_statementOf_9 : decode cX14_statementOf 9 = .ok (.iload 6, 2) := by decide +kernel
theorem dX14_statementOf_11 : decode cX14_statementOf 11 = .ok (.aload_n 0, 1) := by decide +kernel
theorem dX14_statementOf_12 : decode cX14_statementOf 12 = .ok (.getfield 122, 3) := by decide +kernel
theorem dX14_statementOf_15 : decode cX14_statementOf 15 = .ok (.getfield 661, 3) := by decide +kernel
theorem dX14_statementOf_18 : decode cX14_statementOf 18 = .ok (.if_icmp .ge 33, 3) := by decide +kernel
theorem dX14_statementOf_21 : decode cX14_statementOf 21 = .ok (.aload_n 0, 1) := by decide +kernel
theorem dX14_statementOf_22 : decode cX14_statementOf 22 = .ok (.aload_n 0, 1) := by decide +kernel
theorem dX14_statementOf_23 : decode cX14_statementOf 23 = .ok (.getfield 122, 3) := by decide +kernel
theorem dX14_statementOf_26 : decode cX14_statementOf 26 = .ok (.getfield 664, 3) := by decide +kernel
theorem dX14_statementOf_29 : decode cX14_statementOf 29 = .ok (.iload 6, 2) := by decide +kernel
theorem dX14_statementOf_31 : decode cX14_statementOf 31 = .ok (.iaload, 1) := by decide +kernel
theorem dX14_statementOf_32 : decode cX14_statementOf 32 = .ok (.aload_n 1, 1) := by decide +kernel
theorem dX14_statementOf_33 : decode cX14_statementOf 33 = .ok (.iload_n 2, 1) := by decide +kernel
theorem dX14_statementOf_34 : decode cX14_statementOf 34 = .ok (.iload_n 3, 1) := by decide +kernel
theorem dX14_statementOf_35 : decode cX14_statementOf 35 = .ok (.invokevirtual 667, 3) := by decide +kernel
theorem dX14_statementOf_38 : decode cX14_statementOf 38 = .ok (.ifCond .eq 7, 3) := by decide +kernel
theorem dX14_statementOf_41 : decode cX14_statementOf 41 = .ok (.iload 6, 2) := by decide +kernel
theorem dX14_statementOf_43 : decode cX14_statementOf 43 = .ok (.istore 4, 2) := by decide +kernel
theorem dX14_statementOf_45 : decode cX14_statementOf 45 = .ok (.iinc 6 1, 3) := by decide +kernel
theorem dX14_statementOf_48 : decode cX14_statementOf 48 = .ok (.goto (-39), 3) := by decide +kernel
theorem dX14_statementOf_51 : decode cX14_statementOf 51 = .ok (.iconst 0, 1) := by decide +kernel
theorem dX14_statementOf_52 : decode cX14_statementOf 52 = .ok (.istore 6, 2) := by decide +kernel
theorem dX14_statementOf_54 : decode cX14_statementOf 54 = .ok (.iload 6, 2) := by decide +kernel
theorem dX14_statementOf_56 : decode cX14_statementOf 56 = .ok (.aload_n 0, 1) := by decide +kernel
theorem dX14_statementOf_57 : decode cX14_statementOf 57 = .ok (.getfield 122, 3) := by decide +kernel
theorem dX14_statementOf_60 : decode cX14_statementOf 60 = .ok (.getfield 671, 3) := by decide +kernel
theorem dX14_statementOf_63 : decode cX14_statementOf 63 = .ok (.if_icmp .ge 33, 3) := by decide +kernel
theorem dX14_statementOf_66 : decode cX14_statementOf 66 = .ok (.aload_n 0, 1) := by decide +kernel
theorem dX14_statementOf_67 : decode cX14_statementOf 67 = .ok (.aload_n 0, 1) := by decide +kernel
theorem dX14_statementOf_68 : decode cX14_statementOf 68 = .ok (.getfield 122, 3) := by decide +kernel
theorem dX14_statementOf_71 : decode cX14_statementOf 71 = .ok (.getfield 674, 3) := by decide +kernel
theorem dX14_statementOf_74 : decode cX14_statementOf 74 = .ok (.iload 6, 2) := by decide +kernel
theorem dX14_statementOf_76 : decode cX14_statementOf 76 = .ok (.iaload, 1) := by decide +kernel
theorem dX14_statementOf_77 : decode cX14_statementOf 77 = .ok (.aload_n 1, 1) := by decide +kernel
theorem dX14_statementOf_78 : decode cX14_statementOf 78 = .ok (.iload_n 2, 1) := by decide +kernel
theorem dX14_statementOf_79 : decode cX14_statementOf 79 = .ok (.iload_n 3, 1) := by decide +kernel
theorem dX14_statementOf_80 : decode cX14_statementOf 80 = .ok (.invokevirtual 667, 3) := by decide +kernel
theorem dX14_statementOf_83 : decode cX14_statementOf 83 = .ok (.ifCond .eq 7, 3) := by decide +kernel
theorem dX14_statementOf_86 : decode cX14_statementOf 86 = .ok (.iload 6, 2) := by decide +kernel
theorem dX14_statementOf_88 : decode cX14_statementOf 88 = .ok (.istore 5, 2) := by decide +kernel
theorem dX14_statementOf_90 : decode cX14_statementOf 90 = .ok (.iinc 6 1, 3) := by decide +kernel
theorem dX14_statementOf_93 : decode cX14_statementOf 93 = .ok (.goto (-39), 3) := by decide +kernel
theorem dX14_statementOf_96 : decode cX14_statementOf 96 = .ok (.iload 4, 2) := by decide +kernel
theorem dX14_statementOf_98 : decode cX14_statementOf 98 = .ok (.ifCond .lt 36, 3) := by decide +kernel
theorem dX14_statementOf_101 : decode cX14_statementOf 101 = .ok (.aload_n 0, 1) := by decide +kernel
theorem dX14_statementOf_102 : decode cX14_statementOf 102 = .ok (.getfield 122, 3) := by decide +kernel
theorem dX14_statementOf_105 : decode cX14_statementOf 105 = .ok (.iconst 0, 1) := by decide +kernel
theorem dX14_statementOf_106 : decode cX14_statementOf 106 = .ok (.putfield 634, 3) := by decide +kernel
theorem dX14_statementOf_109 : decode cX14_statementOf 109 = .ok (.aload_n 0, 1) := by decide +kernel
theorem dX14_statementOf_110 : decode cX14_statementOf 110 = .ok (.getfield 122, 3) := by decide +kernel
theorem dX14_statementOf_113 : decode cX14_statementOf 113 = .ok (.aload_n 0, 1) := by decide +kernel
theorem dX14_statementOf_114 : decode cX14_statementOf 114 = .ok (.getfield 122, 3) := by decide +kernel
theorem dX14_statementOf_117 : decode cX14_statementOf 117 = .ok (.getfield 677, 3) := by decide +kernel
theorem dX14_statementOf_120 : decode cX14_statementOf 120 = .ok (.iload 4, 2) := by decide +kernel
theorem dX14_statementOf_122 : decode cX14_statementOf 122 = .ok (.iaload, 1) := by decide +kernel
theorem dX14_statementOf_123 : decode cX14_statementOf 123 = .ok (.invokevirtual 680, 3) := by decide +kernel
theorem dX14_statementOf_126 : decode cX14_statementOf 126 = .ok (.aload_n 0, 1) := by decide +kernel
theorem dX14_statementOf_127 : decode cX14_statementOf 127 = .ok (.iconst 0, 1) := by decide +kernel
theorem dX14_statementOf_128 : decode cX14_statementOf 128 = .ok (.invokevirtual 648, 3) := by decide +kernel
theorem dX14_statementOf_131 : decode cX14_statementOf 131 = .ok (.goto 32, 3) := by decide +kernel
theorem dX14_statementOf_134 : decode cX14_statementOf 134 = .ok (.iload 5, 2) := by decide +kernel
theorem dX14_statementOf_136 : decode cX14_statementOf 136 = .ok (.ifCond .lt 20, 3) := by decide +kernel
theorem dX14_statementOf_139 : decode cX14_statementOf 139 = .ok (.aload_n 0, 1) := by decide +kernel
theorem dX14_statementOf_140 : decode cX14_statementOf 140 = .ok (.aload_n 0, 1) := by decide +kernel
theorem dX14_statementOf_141 : decode cX14_statementOf 141 = .ok (.getfield 122, 3) := by decide +kernel
theorem dX14_statementOf_144 : decode cX14_statementOf 144 = .ok (.getfield 683, 3) := by decide +kernel
theorem dX14_statementOf_147 : decode cX14_statementOf 147 = .ok (.iload 5, 2) := by decide +kernel
theorem dX14_statementOf_149 : decode cX14_statementOf 149 = .ok (.iaload, 1) := by decide +kernel
theorem dX14_statementOf_150 : decode cX14_statementOf 150 = .ok (.invokevirtual 208, 3) := by decide +kernel
theorem dX14_statementOf_153 : decode cX14_statementOf 153 = .ok (.goto 10, 3) := by decide +kernel
theorem dX14_statementOf_156 : decode cX14_statementOf 156 = .ok (.aload_n 0, 1) := by decide +kernel
theorem dX14_statementOf_157 : decode cX14_statementOf 157 = .ok (.ldc_w 307, 3) := by decide +kernel
theorem dX14_statementOf_160 : decode cX14_statementOf 160 = .ok (.invokevirtual 189, 3) := by decide +kernel
theorem dX14_statementOf_163 : decode cX14_statementOf 163 = .ok (.return_, 1) := by decide +kernel
def EX14_goalsOf : List (Nat × Nat) := [(15, 46), (15, 49), (16, 6), (101, 0), (163, 0), (164, 0)]
def EX14_statementOf : List (Nat × Nat) := [(15, 46), (15, 49), (16, 6), (101, 0), (163, 0), (164, 0)]
set_option maxHeartbeats 4000000 in
set_option maxRecDepth 20000 in
theorem uX14_goalsOf (l : Launch) (dC : Nat → ClassId) (dI : Nat → Nat → Nat) (ca : Nat → ClassId) (base : Nat) (B : jF) (hB : jBok B) (hAp : jAp (dC, dI)) (hB15 : ∀ n G a H, B 15 n G a H ↔ jOb (dC, dI) 15 50 (F15 n G) a H) (hB16 : ∀ n G a H, B 16 n G a H ↔ jOb (dC, dI) 16 74 (F16 n G) a H) (hB101 : ∀ n G a H, B 101 n G a H ↔ jAr (dC, dI) (ca 1) (fun j z => True) n a H) (hB150 : ∀ n G a H, B 150 n G a H ↔ jAr (dC, dI) (ca 1) (fun j z => True) n a H) (hB151 : ∀ n G a H, B 151 n G a H ↔ jAr (dC, dI) (ca 1) (fun j z => True) n a H) (hB152 : ∀ n G a H, B 152 n G a H ↔ jAr (dC, dI) (ca 1) (fun j z => True) n a H) (hB153 : ∀ n G a H, B 153 n G a H ↔ jAr (dC, dI) (ca 1) (fun j z => True) n a H) (hB154 : ∀ n G a H, B 154 n G a H ↔ jAr (dC, dI) (ca 1) (fun j z => True) n a H) (hB155 : ∀ n G a H, B 155 n G a H ↔ jAr (dC, dI) (ca 1) (fun j z => 0 ≤ z.toInt ∧ z.toInt ≤ 11990) n a H) (hB156 : ∀ n G a H, B 156 n G a H ↔ jAr (dC, dI) (ca 1) (fun j z => 0 ≤ z.toInt ∧ z.toInt ≤ 10) n a H) (hB158 : ∀ n G a H, B 158 n G a H ↔ jAr (dC, dI) (ca 1) (fun j z => 0 ≤ z.toInt ∧ z.toInt ≤ 6) n a H) (hB159 : ∀ n G a H, B 159 n G a H ↔ jAr (dC, dI) (ca 1) (fun j z => 0 ≤ z.toInt ∧ z.toInt ≤ 8) n a H) (hB161 : ∀ n G a H, B 161 n G a H ↔ jAr (dC, dI) (ca 1) (fun j z => 0 ≤ z.toInt ∧ z.toInt ≤ 119999) n a H) (hB162 : ∀ n G a H, B 162 n G a H ↔ jAr (dC, dI) (ca 1) (fun j z => 0 ≤ z.toInt ∧ z.toInt ≤ 119999) n a H) (hB163 : ∀ n G a H, B 163 n G a H ↔ jAr (dC, dI) (ca 1) (fun j z => 0 ≤ z.toInt ∧ z.toInt ≤ 1599) n a H) (hB164 : ∀ n G a H, B 164 n G a H ↔ jAr (dC, dI) (ca 1) (fun j z => 0 ≤ z.toInt ∧ z.toInt ≤ 100000) n a H) (hB165 : ∀ n G a H, B 165 n G a H ↔ jAr (dC, dI) (ca 1) (fun j z => 0 ≤ z.toInt ∧ z.toInt ≤ 3) n a H) (hB166 : ∀ n G a H, B 166 n G a H ↔ jAr (dC, dI) (ca 1) (fun j z => True) n a H) (G0 : jT) (H0 : Heap) (r0 : Nat) (kr : Nat) (pg : Int32) (zg : Nat) (zh : Nat) (zp : Nat) (zs : Nat) (zn : Nat) (za : Nat) (zb : Nat) (zc : Nat) (zy : Nat) (gN : Int) (gY : Int) (fg : Nat → Int32) (fh : Nat → Int32) (fp : Nat → Int32) (C : jK) : Met l yX14_goalsOf (jw yX14_goalsOf cX14_goalsOf 2 none) ({ frames := 253, cells := 0, slots := 0, locals := 8266 }) (va_Pc [.ref r0] (fun U => U.heap = H0 ∧ jX B base G0 [] H0 ∧ jG dC dI ca base U ∧ G0 r0 = some (16, 0) ∧ G0 kr = some (15, 0) ∧ G0 zg = some (161, 46) ∧ G0 zh = some (159, 46) ∧ G0 zp = some (162, 368) ∧ G0 zs = some (150, 120000) ∧ G0 zn = some (151, 120000) ∧ G0 za = some (152, 120000) ∧ G0 zb = some (153, 120000) ∧ G0 zc = some (154, 120000) ∧ G0 zy = some (165, 16) ∧ jP (dC, dI) G0 H0 [(r0, 16, 58, .ref kr), (kr, 15, 21, .int pg), (kr, 15, 22, .ref zg), (kr, 15, 25, .ref zh), (kr, 15, 27, .ref zp), (kr, 15, 0, .ref zs), (kr, 15, 1, .ref zn), (kr, 15, 2, .ref za), (kr, 15, 3, .ref zb), (kr, 15, 4, .ref zc), (kr, 15, 14, .ref zy)] ∧ jMc (dC, dI) G0 H0 [(zg, 161, 46, ca 1, fg), (zh, 159, 46, ca 1, fh), (zp, 162, 368, ca 1, fp), (zs, 150, 120000, ca 1, C.s), (zn, 151, 120000, ca 1, C.n), (za, 152, 120000, ca 1, C.a), (zb, 153, 120000, ca 1, C.b), (zc, 154, 120000, ca 1, C.c), (zy, 165, 16, ca 1, C.y)] ∧ jGl (jG1 C gN gY) fg fh fp pg.toInt ∧ 0 ≤ pg.toInt ∧ pg.toInt ≤ 6 ∧ gN ≤ 120000 ∧ gY ≤ 16)) (va_Qv (S := Unit) (fun u => True) (fun u t => jRt (dC, dI) B base G0 EX14_goalsOf H0 [] t.heap) (jA base)) 0 0 (jA base) := by
  refine Met.ofW (cc := cX14_goalsOf) (maxL := 2) (ret := none) (by decide) rfl ?_
  intro p e s m args below meth c s₁ Bd hml hv
  obtain ⟨rfl, hH0, hX, hG, hg_r0, hg_kr, hg_zg, hg_zh, hg_zp, hg_zs, hg_zn, hg_za, hg_zb, hg_zc, hg_zy, hP0, hM0, hp0, hp1, hp2, hp3, hp4⟩ := hv
  have hK := hG.1
  have hx := Bd.exec
  have hb := Bd.bytes
  have hr := Bd.returns
  have hts := atoms_spec (ws := (jw yX14_goalsOf cX14_goalsOf 2 none)) Bd.pre
  have htw : ∀ w ∈ jWl, w.before _ s = true := fun w h => hts w (List.mem_cons_of_mem _ h)
  have hown : s.vm.findClass RX14 = some m.cls := findClass_of_methodNamed Bd.named
  have hlocks := Bd.notSynchronized
  obtain ⟨Q, hQ⟩ : ∃ Q, Q = MQ below (va_Qv (S := Unit) (fun u => True) (fun u t => jRt (dC, dI) B base G0 EX14_goalsOf H0 [] t.heap) (jA base)) ([.ref r0] : List Value).toArray s 0 0 (jA base) := ⟨_, rfl⟩
  rw [← hQ]
  have hl := lv_entry ([.ref r0]) (n := 2) (Nat.le_of_ble_eq_true rfl)
  rw [lg_entry_eq]
  generalize (lg_sl ([.ref r0]) ++ List.replicate (2 - (lg_sl ([.ref r0])).length) Slot.unset).toArray = ls at hl ⊢
  have hl : lv_has ls 2 [(0, .ref r0)] := hl
  generalize hR : (headSpec (jw yX14_goalsOf cX14_goalsOf 2 none) ({ frames := 253, cells := 0, slots := 0, locals := 8266 })).room = R
  subst hH0
  have hh : jSt (dC, dI) B base G0 G0 EX14_goalsOf s.heap 0 0 [(r0, 16, 58, .ref kr), (kr, 15, 21, .int pg), (kr, 15, 22, .ref zg), (kr, 15, 25, .ref zh), (kr, 15, 27, .ref zp), (kr, 15, 0, .ref zs), (kr, 15, 1, .ref zn), (kr, 15, 2, .ref za), (kr, 15, 3, .ref zb), (kr, 15, 4, .ref zc), (kr, 15, 14, .ref zy)] [(zg, 161, 46, ca 1, fg), (zh, 159, 46, ca 1, fh), (zp, 162, 368, ca 1, fp), (zs, 150, 120000, ca 1, C.s), (zn, 151, 120000, ca 1, C.n), (za, 152, 120000, ca 1, C.a), (zb, 153, 120000, ca 1, C.b), (zc, 154, 120000, ca 1, C.c), (zy, 165, 16, ca 1, C.y)] [] s.heap [] := jSt.start hX hP0 hM0 jIs.nil
  clear hX hP0
  have hk0 : (0 : Int32).toInt = 0 := by decide
  have hk1 : (1 : Int32).toInt = 1 := by decide
  have hk44 : (44 : Int32).toInt = 44 := by decide
  have hly_15_18 := htw (u_lay RX13 TX13 18) (jWc_wsX130 _ (u_in_lay (by decide)))
  have hly_15_19 := htw (u_lay RX13 TX13 19) (jWc_wsX130 _ (u_in_lay (by decide)))
  have hly_15_21 := htw (u_lay RX13 TX13 21) (jWc_wsX130 _ (u_in_lay (by decide)))
  have hly_15_46 := htw (u_lay RX13 TX13 46) (jWc_wsX130 _ (u_in_lay (by decide)))
  have hly_16_58 := htw (u_lay RX14 TX14 58) (jWc_wsX140 _ (u_in_lay (by decide)))
  have hlk_122 := (htw (.fieldLink RX14 122 "ProofServerModel" "kernel" "LProofServerModel$Kernel;") (jWr_12 _ (List.mem_of_getElem? (i := 13) rfl)))
  have hlk_637 := (va_Nw.use (A := ([.ref r0] : List Value).toArray) rfl (hG.2.1 RX14 637 "ProofServerModel$Kernel" "proof" "Z" "ProofServerModel" (List.mem_of_getElem? (i := 1808) (by decide +kernel))))
  obtain ⟨str307, rstr307, hstr3070⟩ := hG.str (o := RX14) (k := 307) (tx := "null") (List.mem_of_getElem? (i := 2366) (by decide +kernel))
  have hstr307 : jStr base str307 4 s s.heap := hstr3070
  obtain ⟨str640, rstr640, hstr6400⟩ := hG.str (o := RX14) (k := 640) (tx := "{\"proof\":") (List.mem_of_getElem? (i := 2805) (by decide +kernel))
  have hstr640 : jStr base str640 9 s s.heap := hstr6400
  have hlk_634 := (va_Nw.use (A := ([.ref r0] : List Value).toArray) rfl (hG.2.1 RX14 634 "ProofServerModel$Kernel" "lines" "I" "ProofServerModel" (List.mem_of_getElem? (i := 1840) (by decide +kernel))))
  have hlk_642 := (va_Nw.use (A := ([.ref r0] : List Value).toArray) rfl (hG.2.1 RX14 642 "ProofServerModel$Kernel" "lemmaName" "I" "ProofServerModel" (List.mem_of_getElem? (i := 1810) (by decide +kernel))))
  obtain ⟨str651, rstr651, hstr6510⟩ := hG.str (o := RX14) (k := 651) (tx := ",\"goals\":[") (List.mem_of_getElem? (i := 2818) (by decide +kernel))
  have hstr651 : jStr base str651 10 s s.heap := hstr6510
  have hlk_653 := (va_Nw.use (A := ([.ref r0] : List Value).toArray) rfl (hG.2.1 RX14 653 "ProofServerModel$Kernel" "goals" "I" "ProofServerModel" (List.mem_of_getElem? (i := 1813) (by decide +kernel))))
  obtain ⟨str659, rstr659, hstr6590⟩ := hG.str (o := RX14) (k := 659) (tx := "]}") (List.mem_of_getElem? (i := 2869) (by decide +kernel))
  have hstr659 : jStr base str659 2 s s.heap := hstr6590
  refine lv_aload_n hx hb dX14_goalsOf_0 rfl (lv_at hl 0 rfl) ?_
  refine j7_read hx hb hown hK (C := RX14) (T := TX14) (N := 74) rfl hly_16_58 hlk_122 (hh.at 0 rfl) dX14_goalsOf_1 ?_
  obtain ⟨v_1, hv_1, hh_2⟩ := hh.pin (C := RX13) (T := TX13) (N := 50) hB15 rfl (by decide) hg_kr (i := 18) (by decide) rfl
  clear hh
  obtain ⟨proof_3, rfl, hzproof_3⟩ := hv_1
  have hzproof_3' := jb_01 hzproof_3
  refine j7_readN hx hb hown hK (C := RX13) (T := TX13) (N := 50) rfl hly_15_18 hlk_637 (hh_2.at 0 rfl) dX14_goalsOf_4 ?_
  refine lv_if_ne (tgt := 18) hx hb dX14_goalsOf_7 (by decide) (fun c_4 => ?_) (fun c_4 => ?_)
  · skip
    have c_4' : proof_3.toInt ≠ 0 := jb_ne (rfl) ((by decide)) c_4
    refine lv_aload_n hx hb dX14_goalsOf_18 rfl (lv_at hl 0 rfl) ?_
    refine j_ldcSw hx hb hown rstr640 dX14_goalsOf_19 ?_
    obtain ⟨v_7, hv_7, hh_8⟩ := hh_2.pin (C := RX14) (T := TX14) (N := 74) hB16 rfl (by decide) hg_r0 (i := 6) (by decide) rfl
    obtain ⟨framed_9, rfl, hloframed_9, hhiframed_9⟩ := hv_7
    refine va_callv (A0 := jA base) (H0 := s.heap) (va_runV (As := [.ref str640]) (rest := []) ⟨hx, hb, hml, hown, hts⟩ (uX14_word l dC dI ca base B hB hAp hB16 hB101 G0 s.heap r0 str640 9 framed_9) (cwV 1 hts (jgV (jWr_53 _ (List.mem_of_getElem? (i := 22) rfl)) (jWr_53 _ (List.mem_of_getElem? (i := 23) rfl)) (jWr_54 _ (List.mem_of_getElem? (i := 0) rfl)) (jWr_1 _ (List.mem_of_getElem? (i := 5) rfl)) (jWr_54 _ (List.mem_of_getElem? (i := 1) rfl))) rfl rfl rfl (by decide +kernel) ⟨by rw [← hR]; exact Nat.le_of_ble_eq_true rfl, by rw [← hR]; exact Nat.le_of_ble_eq_true rfl⟩) ⟨fun a U g mk q => by obtain ⟨q0, q1, q2, qK, q10, q11, q12, q13⟩ := q; exact ⟨q0, q1, q2, jG.calling g mk a qK, (q10.moved (Vm.Alike.refl U.vm)), q11, q12, q13⟩, hh_8.recv (C := RX14) (T := TX14) (N := 74) hB16 rfl (by decide) hg_r0 hK, fun U hU hW => ⟨rfl, hU, hh_8.2.1, hG.step hW hU hh_8.1, (hstr640.moved hW.alike).kept hh_8.1.2.1, hg_r0, (hh_8.2.2.1.sub (L1 := [(r0, 16, 6, .int framed_9)]) [0] rfl), by first | omega | (refine ⟨?_, ?_, ?_⟩ <;> (first | omega | rfl | assumption | decide | exact Or.inl rfl | exact Or.inr rfl | (simp only; omega)))⟩⟩ rfl rfl hl.1 rfl (lv_room (Nat.le_of_ble_eq_true rfl)) dX14_goalsOf_22 ⟨Nat.zero_le _, Nat.zero_le _⟩) hh_8.1 (fun q _ h => h) (fun q h => h) (fun u_5 t_5 H_5 locs_5 ht_5 hvm_5 hr_6 hb_5 hz_5 hk_5 hS_5 => ?_)
    obtain ⟨qf_5, rfl⟩ : ∃ z, z = u_5 := ⟨_, rfl⟩
    rw [ht_5] at hb_5
    obtain ⟨hb_51, hb_52, hb_53, hb_54, hb_55⟩ := hb_5
    have hh_5 : jSt (dC, dI) B base G0 G0 EX14_goalsOf s.heap 0 0 [(r0, 16, 6, .int qf_5), (kr, 15, 18, .int proof_3), (r0, 16, 58, .ref kr), (kr, 15, 21, .int pg), (kr, 15, 22, .ref zg), (kr, 15, 25, .ref zh), (kr, 15, 27, .ref zp), (kr, 15, 0, .ref zs), (kr, 15, 1, .ref zn), (kr, 15, 2, .ref za), (kr, 15, 3, .ref zb), (kr, 15, 4, .ref zc), (kr, 15, 14, .ref zy)] [(zg, 161, 46, ca 1, fg), (zh, 159, 46, ca 1, fh), (zp, 162, 368, ca 1, fp), (zs, 150, 120000, ca 1, C.s), (zn, 151, 120000, ca 1, C.n), (za, 152, 120000, ca 1, C.a), (zb, 153, 120000, ca 1, C.b), (zc, 154, 120000, ca 1, C.c), (zy, 165, 16, ca 1, C.y)] [] H_5 locs_5 := ((hh_8.call hb_51 hb_52 hb_53 hb_54 hS_5 rfl (L1 := [(kr, 15, 18, .int proof_3), (r0, 16, 58, .ref kr), (kr, 15, 21, .int pg), (kr, 15, 22, .ref zg), (kr, 15, 25, .ref zh), (kr, 15, 27, .ref zp), (kr, 15, 0, .ref zs), (kr, 15, 1, .ref zn), (kr, 15, 2, .ref za), (kr, 15, 3, .ref zb), (kr, 15, 4, .ref zc), (kr, 15, 14, .ref zy)]) [1, 2, 3, 4, 5, 6, 7, 8, 9, 10, 11, 12] rfl rfl (M1 := [(zg, 161, 46, ca 1, fg), (zh, 159, 46, ca 1, fh), (zp, 162, 368, ca 1, fp), (zs, 150, 120000, ca 1, C.s), (zn, 151, 120000, ca 1, C.n), (za, 152, 120000, ca 1, C.a), (zb, 153, 120000, ca 1, C.b), (zc, 154, 120000, ca 1, C.c), (zy, 165, 16, ca 1, C.y)]) [0, 1, 2, 3, 4, 5, 6, 7, 8] rfl rfl (I1 := []) [] rfl rfl).more hb_55)
    clear hh_8 ht_5 hvm_5 hz_5 hk_5 hS_5 hb_51 hb_52 hb_53 hb_54 hb_55
    obtain ⟨hr_6_0, hr_6_1⟩ := hr_6
    refine lv_aload_n hx hb dX14_goalsOf_25 rfl (lv_at hl 0 rfl) ?_
    refine j7_read hx hb hown hK (C := RX14) (T := TX14) (N := 74) rfl hly_16_58 hlk_122 (hh_5.at 2 rfl) dX14_goalsOf_26 ?_
    refine lv_iconst (v := 0) hx hb dX14_goalsOf_29 (by decide) ?_
    refine j7_putN hx hb hown hK hh_5 hB hAp hB15 (C := RX13) (T := TX13) (N := 50) rfl (by decide) hg_kr (i := 46) (by decide) hly_15_46 rfl hlk_634 rfl (ty := .int) (v := .int 0) (by decide +kernel) rfl rfl (⟨_, rfl, by omega, by omega⟩) rfl (L1 := [(r0, 16, 6, .int qf_5), (kr, 15, 18, .int proof_3), (r0, 16, 58, .ref kr), (kr, 15, 21, .int pg), (kr, 15, 22, .ref zg), (kr, 15, 25, .ref zh), (kr, 15, 27, .ref zp), (kr, 15, 0, .ref zs), (kr, 15, 1, .ref zn), (kr, 15, 2, .ref za), (kr, 15, 3, .ref zb), (kr, 15, 4, .ref zc), (kr, 15, 14, .ref zy)]) [0, 1, 2, 3, 4, 5, 6, 7, 8, 9, 10, 11, 12] rfl rfl rfl dX14_goalsOf_30 (fun H_10 locs_10 hh_10 => ?_)
    clear hh_5
    refine lv_aload_n hx hb dX14_goalsOf_33 rfl (lv_at hl 0 rfl) ?_
    refine j7_read hx hb hown hK (C := RX14) (T := TX14) (N := 74) rfl hly_16_58 hlk_122 (hh_10.at 3 rfl) dX14_goalsOf_34 ?_
    refine lv_aload_n hx hb dX14_goalsOf_37 rfl (lv_at hl 0 rfl) ?_
    refine j7_read hx hb hown hK (C := RX14) (T := TX14) (N := 74) rfl hly_16_58 hlk_122 (hh_10.at 3 rfl) dX14_goalsOf_38 ?_
    obtain ⟨v_11, hv_11, hh_12⟩ := hh_10.pin (C := RX13) (T := TX13) (N := 50) hB15 rfl (by decide) hg_kr (i := 19) (by decide) rfl
    clear hh_10
    obtain ⟨lemmaName_13, rfl, hlolemmaName_13, hhilemmaName_13⟩ := hv_11
    refine j7_readN hx hb hown hK (C := RX13) (T := TX13) (N := 50) rfl hly_15_19 hlk_642 (hh_12.at 0 rfl) dX14_goalsOf_41 ?_
    refine va_callv (A0 := jA base) (H0 := s.heap) (va_runVN (As := [.int lemmaName_13]) (rest := []) ⟨hx, hb, hml, hown, hts⟩ (uX13_putName l dC dI ca base B hB hAp hB15 hB101 hB155 hB156 hB166 G0 H_10 kr lemmaName_13) ⟨va_cnB 1 hts (jgW (jWr_70 _ (List.mem_of_getElem? (i := 5) rfl))) rfl rfl rfl (hG.2.2.1 RX14 645 yX13_putName "ProofServerModel" (List.mem_of_getElem? (i := 2806) (by decide +kernel))) (htw (.initialized RX13) (jWr_12 _ (List.mem_of_getElem? (i := 12) rfl))) (by decide +kernel) ⟨by rw [← hR]; exact Nat.le_of_ble_eq_true rfl, by rw [← hR]; exact Nat.le_of_ble_eq_true rfl⟩, htw (.instanceMethod yX13_putName) (jWr_70 _ (List.mem_of_getElem? (i := 3) rfl)), htw (.selects RX13 yX13_putName yX13_putName) (jWr_70 _ (List.mem_of_getElem? (i := 4) rfl))⟩ ⟨fun a U g mk q => by obtain ⟨q0, q1, q2, qK, q10, q11, q12⟩ := q; exact ⟨q0, q1, q2, jG.calling g mk a qK, q10, q11, q12⟩, hh_12.recv (C := RX13) (T := TX13) (N := 50) hB15 rfl (by decide) hg_kr hK, fun U hU hW => ⟨rfl, hU, hh_12.2.1, hG.step hW hU hh_12.1, hg_kr, jP.nil, by first | omega | (refine ⟨?_, ?_⟩ <;> (first | omega | rfl | assumption | decide | exact Or.inl rfl | exact Or.inr rfl | (simp only; omega)))⟩⟩ rfl rfl hl.1 rfl (lv_room (Nat.le_of_ble_eq_true rfl)) dX14_goalsOf_44 ⟨Nat.zero_le _, Nat.zero_le _⟩) hh_12.1 (fun q _ h => h) (fun q h => h) (fun u_14 t_14 H_14 locs_14 ht_14 hvm_14 hr_15 hb_14 hz_14 hk_14 hS_14 => ?_)
    rw [ht_14] at hb_14
    obtain ⟨hb_141, hb_142, hb_143, hb_144, hb_145⟩ := hb_14
    have hh_14 : jSt (dC, dI) B base G0 G0 EX14_goalsOf s.heap 0 0 [(kr, 15, 19, .int lemmaName_13), (r0, 16, 6, .int qf_5), (kr, 15, 18, .int proof_3), (r0, 16, 58, .ref kr), (kr, 15, 21, .int pg), (kr, 15, 22, .ref zg), (kr, 15, 25, .ref zh), (kr, 15, 27, .ref zp), (kr, 15, 0, .ref zs), (kr, 15, 1, .ref zn), (kr, 15, 2, .ref za), (kr, 15, 3, .ref zb), (kr, 15, 4, .ref zc), (kr, 15, 14, .ref zy)] [(zg, 161, 46, ca 1, fg), (zh, 159, 46, ca 1, fh), (zp, 162, 368, ca 1, fp), (zs, 150, 120000, ca 1, C.s), (zn, 151, 120000, ca 1, C.n), (za, 152, 120000, ca 1, C.a), (zb, 153, 120000, ca 1, C.b), (zc, 154, 120000, ca 1, C.c), (zy, 165, 16, ca 1, C.y)] [] H_14 locs_14 := ((hh_12.call hb_141 hb_142 hb_143 hb_144 hS_14 rfl (L1 := [(kr, 15, 19, .int lemmaName_13), (r0, 16, 6, .int qf_5), (kr, 15, 18, .int proof_3), (r0, 16, 58, .ref kr), (kr, 15, 21, .int pg), (kr, 15, 22, .ref zg), (kr, 15, 25, .ref zh), (kr, 15, 27, .ref zp), (kr, 15, 0, .ref zs), (kr, 15, 1, .ref zn), (kr, 15, 2, .ref za), (kr, 15, 3, .ref zb), (kr, 15, 4, .ref zc), (kr, 15, 14, .ref zy)]) [0, 2, 3, 4, 5, 6, 7, 8, 9, 10, 11, 12, 13, 14] rfl rfl (M1 := [(zg, 161, 46, ca 1, fg), (zh, 159, 46, ca 1, fh), (zp, 162, 368, ca 1, fp), (zs, 150, 120000, ca 1, C.s), (zn, 151, 120000, ca 1, C.n), (za, 152, 120000, ca 1, C.a), (zb, 153, 120000, ca 1, C.b), (zc, 154, 120000, ca 1, C.c), (zy, 165, 16, ca 1, C.y)]) [0, 1, 2, 3, 4, 5, 6, 7, 8] rfl rfl (I1 := []) [] rfl rfl).more hb_145)
    clear hh_12 ht_14 hvm_14 hz_14 hk_14 hS_14 hb_141 hb_142 hb_143 hb_144 hb_145
    refine lv_aload_n hx hb dX14_goalsOf_47 rfl (lv_at hl 0 rfl) ?_
    refine lv_iconst (v := 0) hx hb dX14_goalsOf_48 (by decide) ?_
    refine va_callv (A0 := jA base) (H0 := s.heap) (va_runV (As := [.int 0]) (rest := []) ⟨hx, hb, hml, hown, hts⟩ (uX14_putLine l dC dI ca base B hB hAp hB15 hB16 hB101 G0 H_14 r0 0) (cwV 1 hts (jgV (jWr_70 _ (List.mem_of_getElem? (i := 11) rfl)) (jWr_70 _ (List.mem_of_getElem? (i := 12) rfl)) (jWr_70 _ (List.mem_of_getElem? (i := 13) rfl)) (jWr_1 _ (List.mem_of_getElem? (i := 5) rfl)) (jWr_70 _ (List.mem_of_getElem? (i := 14) rfl))) rfl rfl rfl (by decide +kernel) ⟨by rw [← hR]; exact Nat.le_of_ble_eq_true rfl, by rw [← hR]; exact Nat.le_of_ble_eq_true rfl⟩) ⟨fun a U g mk q => by obtain ⟨q0, q1, q2, qK, q10, q11, q12⟩ := q; exact ⟨q0, q1, q2, jG.calling g mk a qK, q10, q11, q12⟩, hh_14.recv (C := RX14) (T := TX14) (N := 74) hB16 rfl (by decide) hg_r0 hK, fun U hU hW => ⟨rfl, hU, hh_14.2.1, hG.step hW hU hh_14.1, hg_r0, jP.nil, by first | omega | (refine ⟨?_, ?_⟩ <;> (first | omega | rfl | assumption | decide | exact Or.inl rfl | exact Or.inr rfl | (simp only; omega)))⟩⟩ rfl rfl hl.1 rfl (lv_room (Nat.le_of_ble_eq_true rfl)) dX14_goalsOf_49 ⟨Nat.zero_le _, Nat.zero_le _⟩) hh_14.1 (fun q _ h => h) (fun q h => h) (fun u_16 t_16 H_16 locs_16 ht_16 hvm_16 hr_17 hb_16 hz_16 hk_16 hS_16 => ?_)
    rw [ht_16] at hb_16
    obtain ⟨hb_161, hb_162, hb_163, hb_164, hb_165⟩ := hb_16
    have hh_16 : jSt (dC, dI) B base G0 G0 EX14_goalsOf s.heap 0 0 [(kr, 15, 19, .int lemmaName_13), (kr, 15, 18, .int proof_3), (r0, 16, 58, .ref kr), (kr, 15, 21, .int pg), (kr, 15, 22, .ref zg), (kr, 15, 25, .ref zh), (kr, 15, 27, .ref zp), (kr, 15, 0, .ref zs), (kr, 15, 1, .ref zn), (kr, 15, 2, .ref za), (kr, 15, 3, .ref zb), (kr, 15, 4, .ref zc), (kr, 15, 14, .ref zy)] [(zg, 161, 46, ca 1, fg), (zh, 159, 46, ca 1, fh), (zp, 162, 368, ca 1, fp), (zs, 150, 120000, ca 1, C.s), (zn, 151, 120000, ca 1, C.n), (za, 152, 120000, ca 1, C.a), (zb, 153, 120000, ca 1, C.b), (zc, 154, 120000, ca 1, C.c), (zy, 165, 16, ca 1, C.y)] [] H_16 locs_16 := ((hh_14.call hb_161 hb_162 hb_163 hb_164 hS_16 rfl (L1 := [(kr, 15, 19, .int lemmaName_13), (kr, 15, 18, .int proof_3), (r0, 16, 58, .ref kr), (kr, 15, 21, .int pg), (kr, 15, 22, .ref zg), (kr, 15, 25, .ref zh), (kr, 15, 27, .ref zp), (kr, 15, 0, .ref zs), (kr, 15, 1, .ref zn), (kr, 15, 2, .ref za), (kr, 15, 3, .ref zb), (kr, 15, 4, .ref zc), (kr, 15, 14, .ref zy)]) [0, 2, 3, 4, 5, 6, 7, 8, 9, 10, 11, 12, 13] rfl rfl (M1 := [(zg, 161, 46, ca 1, fg), (zh, 159, 46, ca 1, fh), (zp, 162, 368, ca 1, fp), (zs, 150, 120000, ca 1, C.s), (zn, 151, 120000, ca 1, C.n), (za, 152, 120000, ca 1, C.a), (zb, 153, 120000, ca 1, C.b), (zc, 154, 120000, ca 1, C.c), (zy, 165, 16, ca 1, C.y)]) [0, 1, 2, 3, 4, 5, 6, 7, 8] rfl rfl (I1 := []) [] rfl rfl).more hb_165)
    clear hh_14 ht_16 hvm_16 hz_16 hk_16 hS_16 hb_161 hb_162 hb_163 hb_164 hb_165
    refine lv_aload_n hx hb dX14_goalsOf_52 rfl (lv_at hl 0 rfl) ?_
    refine j_ldcSw hx hb hown rstr651 dX14_goalsOf_53 ?_
    obtain ⟨v_20, hv_20, hh_21⟩ := hh_16.pin (C := RX14) (T := TX14) (N := 74) hB16 rfl (by decide) hg_r0 (i := 6) (by decide) rfl
    obtain ⟨framed_22, rfl, hloframed_22, hhiframed_22⟩ := hv_20
    refine va_callv (A0 := jA base) (H0 := s.heap) (va_runV (As := [.ref str651]) (rest := []) ⟨hx, hb, hml, hown, hts⟩ (uX14_word l dC dI ca base B hB hAp hB16 hB101 G0 H_16 r0 str651 10 framed_22) (cwV 1 hts (jgV (jWr_53 _ (List.mem_of_getElem? (i := 22) rfl)) (jWr_53 _ (List.mem_of_getElem? (i := 23) rfl)) (jWr_54 _ (List.mem_of_getElem? (i := 0) rfl)) (jWr_1 _ (List.mem_of_getElem? (i := 5) rfl)) (jWr_54 _ (List.mem_of_getElem? (i := 1) rfl))) rfl rfl rfl (by decide +kernel) ⟨by rw [← hR]; exact Nat.le_of_ble_eq_true rfl, by rw [← hR]; exact Nat.le_of_ble_eq_true rfl⟩) ⟨fun a U g mk q => by obtain ⟨q0, q1, q2, qK, q10, q11, q12, q13⟩ := q; exact ⟨q0, q1, q2, jG.calling g mk a qK, (q10.moved (Vm.Alike.refl U.vm)), q11, q12, q13⟩, hh_21.recv (C := RX14) (T := TX14) (N := 74) hB16 rfl (by decide) hg_r0 hK, fun U hU hW => ⟨rfl, hU, hh_21.2.1, hG.step hW hU hh_21.1, (hstr651.moved hW.alike).kept hh_21.1.2.1, hg_r0, (hh_21.2.2.1.sub (L1 := [(r0, 16, 6, .int framed_22)]) [0] rfl), by first | omega | (refine ⟨?_, ?_, ?_⟩ <;> (first | omega | rfl | assumption | decide | exact Or.inl rfl | exact Or.inr rfl | (simp only; omega)))⟩⟩ rfl rfl hl.1 rfl (lv_room (Nat.le_of_ble_eq_true rfl)) dX14_goalsOf_56 ⟨Nat.zero_le _, Nat.zero_le _⟩) hh_21.1 (fun q _ h => h) (fun q h => h) (fun u_18 t_18 H_18 locs_18 ht_18 hvm_18 hr_19 hb_18 hz_18 hk_18 hS_18 => ?_)
    obtain ⟨qf_18, rfl⟩ : ∃ z, z = u_18 := ⟨_, rfl⟩
    rw [ht_18] at hb_18
    obtain ⟨hb_181, hb_182, hb_183, hb_184, hb_185⟩ := hb_18
    have hh_18 : jSt (dC, dI) B base G0 G0 EX14_goalsOf s.heap 0 0 [(r0, 16, 6, .int qf_18), (kr, 15, 19, .int lemmaName_13), (kr, 15, 18, .int proof_3), (r0, 16, 58, .ref kr), (kr, 15, 21, .int pg), (kr, 15, 22, .ref zg), (kr, 15, 25, .ref zh), (kr, 15, 27, .ref zp), (kr, 15, 0, .ref zs), (kr, 15, 1, .ref zn), (kr, 15, 2, .ref za), (kr, 15, 3, .ref zb), (kr, 15, 4, .ref zc), (kr, 15, 14, .ref zy)] [(zg, 161, 46, ca 1, fg), (zh, 159, 46, ca 1, fh), (zp, 162, 368, ca 1, fp), (zs, 150, 120000, ca 1, C.s), (zn, 151, 120000, ca 1, C.n), (za, 152, 120000, ca 1, C.a), (zb, 153, 120000, ca 1, C.b), (zc, 154, 120000, ca 1, C.c), (zy, 165, 16, ca 1, C.y)] [] H_18 locs_18 := ((hh_21.call hb_181 hb_182 hb_183 hb_184 hS_18 rfl (L1 := [(kr, 15, 19, .int lemmaName_13), (kr, 15, 18, .int proof_3), (r0, 16, 58, .ref kr), (kr, 15, 21, .int pg), (kr, 15, 22, .ref zg), (kr, 15, 25, .ref zh), (kr, 15, 27, .ref zp), (kr, 15, 0, .ref zs), (kr, 15, 1, .ref zn), (kr, 15, 2, .ref za), (kr, 15, 3, .ref zb), (kr, 15, 4, .ref zc), (kr, 15, 14, .ref zy)]) [1, 2, 3, 4, 5, 6, 7, 8, 9, 10, 11, 12, 13] rfl rfl (M1 := [(zg, 161, 46, ca 1, fg), (zh, 159, 46, ca 1, fh), (zp, 162, 368, ca 1, fp), (zs, 150, 120000, ca 1, C.s), (zn, 151, 120000, ca 1, C.n), (za, 152, 120000, ca 1, C.a), (zb, 153, 120000, ca 1, C.b), (zc, 154, 120000, ca 1, C.c), (zy, 165, 16, ca 1, C.y)]) [0, 1, 2, 3, 4, 5, 6, 7, 8] rfl rfl (I1 := []) [] rfl rfl).more hb_185)
    clear hh_21 ht_18 hvm_18 hz_18 hk_18 hS_18 hb_181 hb_182 hb_183 hb_184 hb_185
    obtain ⟨hr_19_0, hr_19_1⟩ := hr_19
    refine lv_iconst (v := 0) hx hb dX14_goalsOf_59 (by decide) ?_
    refine lv_istore_n (lv' := [(1, .int 0), (0, .ref r0)]) hx hb dX14_goalsOf_60 rfl hl (by decide) rfl (fun ls hl => ?_)
    have L61 : ∀ (N : Nat) (v1_23 : Int32) (H_23 : Heap) (locs_23 : List Loc), jSt (dC, dI) B base G0 G0 EX14_goalsOf s.heap 0 0 [(kr, 15, 19, .int lemmaName_13), (kr, 15, 18, .int proof_3), (r0, 16, 58, .ref kr), (kr, 15, 21, .int pg), (kr, 15, 22, .ref zg), (kr, 15, 25, .ref zh), (kr, 15, 27, .ref zp), (kr, 15, 0, .ref zs), (kr, 15, 1, .ref zn), (kr, 15, 2, .ref za), (kr, 15, 3, .ref zb), (kr, 15, 4, .ref zc), (kr, 15, 14, .ref zy)] [(zg, 161, 46, ca 1, fg), (zh, 159, 46, ca 1, fh), (zp, 162, 368, ca 1, fp), (zs, 150, 120000, ca 1, C.s), (zn, 151, 120000, ca 1, C.n), (za, 152, 120000, ca 1, C.a), (zb, 153, 120000, ca 1, C.b), (zc, 154, 120000, ca 1, C.c), (zy, 165, 16, ca 1, C.y)] [] H_23 locs_23 → (0 ≤ v1_23.toInt ∧ v1_23.toInt ≤ pg.toInt) → (pg.toInt - v1_23.toInt : Int) < N → ∀ ls : Array Slot, lv_has ls 2 [(0, .ref r0), (1, .int v1_23)] → W p l e R s m ([.ref r0] : List Value).toArray below meth c H_23 locs_23 0 0 Q (F0 m 61 ls []) := by
      intro N
      induction N with
      | zero => intro v1_23 H_23 locs_23 hh_23  hi_23 hm; exact absurd hm (by omega)
      | succ N L61 =>
        intro v1_23 H_23 locs_23 hh_23  hi_23 hm_23 ls hl
        obtain ⟨hi_23_0, hi_23_1⟩ := hi_23
        refine lv_iload_n hx hb dX14_goalsOf_61 rfl (lv_at hl 1 rfl) ?_
        refine lv_aload_n hx hb dX14_goalsOf_62 rfl (lv_at hl 0 rfl) ?_
        refine j7_read hx hb hown hK (C := RX14) (T := TX14) (N := 74) rfl hly_16_58 hlk_122 (hh_23.at 2 rfl) dX14_goalsOf_63 ?_
        refine j7_readN hx hb hown hK (C := RX13) (T := TX13) (N := 50) rfl hly_15_21 hlk_653 (hh_23.at 3 rfl) dX14_goalsOf_66 ?_
        refine lv_icmp_ge (tgt := 101) hx hb dX14_goalsOf_69 (by decide) (fun c_24 => ?_) (fun c_24 => ?_)
        · skip
          have c_24' : v1_23.toInt ≥ pg.toInt := jb_ge (rfl) (rfl) c_24
          refine lv_aload_n hx hb dX14_goalsOf_101 rfl (lv_at hl 0 rfl) ?_
          refine j_ldcSw hx hb hown rstr659 dX14_goalsOf_102 ?_
          obtain ⟨v_27, hv_27, hh_28⟩ := hh_23.pin (C := RX14) (T := TX14) (N := 74) hB16 rfl (by decide) hg_r0 (i := 6) (by decide) rfl
          obtain ⟨framed_29, rfl, hloframed_29, hhiframed_29⟩ := hv_27
          refine va_callv (A0 := jA base) (H0 := s.heap) (va_runV (As := [.ref str659]) (rest := []) ⟨hx, hb, hml, hown, hts⟩ (uX14_word l dC dI ca base B hB hAp hB16 hB101 G0 H_23 r0 str659 2 framed_29) (cwV 1 hts (jgV (jWr_53 _ (List.mem_of_getElem? (i := 22) rfl)) (jWr_53 _ (List.mem_of_getElem? (i := 23) rfl)) (jWr_54 _ (List.mem_of_getElem? (i := 0) rfl)) (jWr_1 _ (List.mem_of_getElem? (i := 5) rfl)) (jWr_54 _ (List.mem_of_getElem? (i := 1) rfl))) rfl rfl rfl (by decide +kernel) ⟨by rw [← hR]; exact Nat.le_of_ble_eq_true rfl, by rw [← hR]; exact Nat.le_of_ble_eq_true rfl⟩) ⟨fun a U g mk q => by obtain ⟨q0, q1, q2, qK, q10, q11, q12, q13⟩ := q; exact ⟨q0, q1, q2, jG.calling g mk a qK, (q10.moved (Vm.Alike.refl U.vm)), q11, q12, q13⟩, hh_28.recv (C := RX14) (T := TX14) (N := 74) hB16 rfl (by decide) hg_r0 hK, fun U hU hW => ⟨rfl, hU, hh_28.2.1, hG.step hW hU hh_28.1, (hstr659.moved hW.alike).kept hh_28.1.2.1, hg_r0, (hh_28.2.2.1.sub (L1 := [(r0, 16, 6, .int framed_29)]) [0] rfl), by first | omega | (refine ⟨?_, ?_, ?_⟩ <;> (first | omega | rfl | assumption | decide | exact Or.inl rfl | exact Or.inr rfl | (simp only; omega)))⟩⟩ rfl rfl hl.1 rfl (lv_room (Nat.le_of_ble_eq_true rfl)) dX14_goalsOf_105 ⟨Nat.zero_le _, Nat.zero_le _⟩) hh_28.1 (fun q _ h => h) (fun q h => h) (fun u_25 t_25 H_25 locs_25 ht_25 hvm_25 hr_26 hb_25 hz_25 hk_25 hS_25 => ?_)
          obtain ⟨qf_25, rfl⟩ : ∃ z, z = u_25 := ⟨_, rfl⟩
          rw [ht_25] at hb_25
          obtain ⟨hb_251, hb_252, hb_253, hb_254, hb_255⟩ := hb_25
          have hh_25 : jSt (dC, dI) B base G0 G0 EX14_goalsOf s.heap 0 0 [(r0, 16, 6, .int qf_25), (kr, 15, 19, .int lemmaName_13), (kr, 15, 18, .int proof_3), (r0, 16, 58, .ref kr), (kr, 15, 21, .int pg), (kr, 15, 22, .ref zg), (kr, 15, 25, .ref zh), (kr, 15, 27, .ref zp), (kr, 15, 0, .ref zs), (kr, 15, 1, .ref zn), (kr, 15, 2, .ref za), (kr, 15, 3, .ref zb), (kr, 15, 4, .ref zc), (kr, 15, 14, .ref zy)] [(zg, 161, 46, ca 1, fg), (zh, 159, 46, ca 1, fh), (zp, 162, 368, ca 1, fp), (zs, 150, 120000, ca 1, C.s), (zn, 151, 120000, ca 1, C.n), (za, 152, 120000, ca 1, C.a), (zb, 153, 120000, ca 1, C.b), (zc, 154, 120000, ca 1, C.c), (zy, 165, 16, ca 1, C.y)] [] H_25 locs_25 := ((hh_28.call hb_251 hb_252 hb_253 hb_254 hS_25 rfl (L1 := [(kr, 15, 19, .int lemmaName_13), (kr, 15, 18, .int proof_3), (r0, 16, 58, .ref kr), (kr, 15, 21, .int pg), (kr, 15, 22, .ref zg), (kr, 15, 25, .ref zh), (kr, 15, 27, .ref zp), (kr, 15, 0, .ref zs), (kr, 15, 1, .ref zn), (kr, 15, 2, .ref za), (kr, 15, 3, .ref zb), (kr, 15, 4, .ref zc), (kr, 15, 14, .ref zy)]) [1, 2, 3, 4, 5, 6, 7, 8, 9, 10, 11, 12, 13] rfl rfl (M1 := [(zg, 161, 46, ca 1, fg), (zh, 159, 46, ca 1, fh), (zp, 162, 368, ca 1, fp), (zs, 150, 120000, ca 1, C.s), (zn, 151, 120000, ca 1, C.n), (za, 152, 120000, ca 1, C.a), (zb, 153, 120000, ca 1, C.b), (zc, 154, 120000, ca 1, C.c), (zy, 165, 16, ca 1, C.y)]) [0, 1, 2, 3, 4, 5, 6, 7, 8] rfl rfl (I1 := []) [] rfl rfl).more hb_255)
          clear hh_28 ht_25 hvm_25 hz_25 hk_25 hS_25 hb_251 hb_252 hb_253 hb_254 hb_255
          obtain ⟨hr_26_0, hr_26_1⟩ := hr_26
          rw [hQ]
          exact W.vret hx hb hr (fun t ht hW => ⟨⟨(), rfl, trivial, hh_25.rt (M1 := []) [] rfl ht⟩, by rw [ht]; try exact hh_25.1.1, fun q h9 hq => by rw [ht]; try exact hh_25.1.2.1 q h9 hq⟩) hh_25.1.2.2 dX14_goalsOf_108
        · skip
          have c_24' : v1_23.toInt < pg.toInt := jb_ge_n (rfl) (rfl) c_24
          refine lv_iload_n hx hb dX14_goalsOf_72 rfl (lv_at hl 1 rfl) ?_
          refine lv_if_le (tgt := 82) hx hb dX14_goalsOf_73 (by decide) (fun c_30 => ?_) (fun c_30 => ?_)
          · skip
            have c_30' : v1_23.toInt ≤ 0 := jb_le (rfl) ((by decide)) c_30
            refine lv_aload_n hx hb dX14_goalsOf_82 rfl (lv_at hl 0 rfl) ?_
            refine j7_read hx hb hown hK (C := RX14) (T := TX14) (N := 74) rfl hly_16_58 hlk_122 (hh_23.at 2 rfl) dX14_goalsOf_83 ?_
            refine lv_iload_n hx hb dX14_goalsOf_86 rfl (lv_at hl 1 rfl) ?_
            refine va_callv (A0 := jA base) (H0 := s.heap) (va_runV (As := [.int v1_23]) (rest := []) ⟨hx, hb, hml, hown, hts⟩ (uX13_printGoal l dC dI ca base B hB hAp hB15 hB101 hB150 hB151 hB152 hB153 hB154 hB155 hB156 hB158 hB159 hB161 hB162 hB163 hB164 hB165 hB166 G0 H_23 kr v1_23 zg zh zp zs zn za zb zc zy gN gY fg fh fp C) (cwV 1 hts (jgV (jWr_70 _ (List.mem_of_getElem? (i := 15) rfl)) (jWr_70 _ (List.mem_of_getElem? (i := 16) rfl)) (jWr_70 _ (List.mem_of_getElem? (i := 17) rfl)) (jWr_12 _ (List.mem_of_getElem? (i := 12) rfl)) (jWr_70 _ (List.mem_of_getElem? (i := 18) rfl))) rfl rfl rfl (by decide +kernel) ⟨by rw [← hR]; exact Nat.le_of_ble_eq_true rfl, by rw [← hR]; exact Nat.le_of_ble_eq_true rfl⟩) ⟨fun a U g mk q => by obtain ⟨q0, q1, q2, qK, q10, q11, q12, q13, q14, q15, q16, q17, q18, q19, q20, q21, q22⟩ := q; exact ⟨q0, q1, q2, jG.calling g mk a qK, q10, q11, q12, q13, q14, q15, q16, q17, q18, q19, q20, q21, q22⟩, hh_23.recv (C := RX13) (T := TX13) (N := 50) hB15 rfl (by decide) hg_kr hK, fun U hU hW => ⟨rfl, hU, hh_23.2.1, hG.step hW hU hh_23.1, hg_kr, hg_zg, hg_zh, hg_zp, hg_zs, hg_zn, hg_za, hg_zb, hg_zc, hg_zy, (hh_23.2.2.1.sub (L1 := [(kr, 15, 22, .ref zg), (kr, 15, 25, .ref zh), (kr, 15, 27, .ref zp), (kr, 15, 0, .ref zs), (kr, 15, 1, .ref zn), (kr, 15, 2, .ref za), (kr, 15, 3, .ref zb), (kr, 15, 4, .ref zc), (kr, 15, 14, .ref zy)]) [4, 5, 6, 7, 8, 9, 10, 11, 12] rfl), (hh_23.2.2.2.2.2.2.2.1.sub (L1 := [(zg, 161, 46, ca 1, fg), (zh, 159, 46, ca 1, fh), (zp, 162, 368, ca 1, fp), (zs, 150, 120000, ca 1, C.s), (zn, 151, 120000, ca 1, C.n), (za, 152, 120000, ca 1, C.a), (zb, 153, 120000, ca 1, C.b), (zc, 154, 120000, ca 1, C.c), (zy, 165, 16, ca 1, C.y)]) [0, 1, 2, 3, 4, 5, 6, 7, 8] rfl), ⟨(by first | assumption | exact hp0 _ (by omega) (by omega) | omega), (by first | omega | rfl | assumption | exact hp0 _ (by omega) (by omega)), (by first | omega | rfl | assumption | exact hp0 _ (by omega) (by omega)), (by first | omega | rfl | assumption | exact hp0 _ (by omega) (by omega)), (by first | omega | rfl | assumption | exact hp0 _ (by omega) (by omega))⟩⟩⟩ rfl rfl hl.1 rfl (lv_room (Nat.le_of_ble_eq_true rfl)) dX14_goalsOf_87 ⟨Nat.zero_le _, Nat.zero_le _⟩) hh_23.1 (fun q _ h => h) (fun q h => h) (fun u_31 t_31 H_31 locs_31 ht_31 hvm_31 hr_32 hb_31 hz_31 hk_31 hS_31 => ?_)
            rw [ht_31] at hb_31
            obtain ⟨hb_311, hb_312, hb_313, hb_314, hb_315⟩ := hb_31
            have hh_31 : jSt (dC, dI) B base G0 G0 EX14_goalsOf s.heap 0 0 [(kr, 15, 19, .int lemmaName_13), (kr, 15, 18, .int proof_3), (r0, 16, 58, .ref kr), (kr, 15, 21, .int pg), (kr, 15, 22, .ref zg), (kr, 15, 25, .ref zh), (kr, 15, 27, .ref zp), (kr, 15, 0, .ref zs), (kr, 15, 1, .ref zn), (kr, 15, 2, .ref za), (kr, 15, 3, .ref zb), (kr, 15, 4, .ref zc), (kr, 15, 14, .ref zy)] [(zg, 161, 46, ca 1, fg), (zh, 159, 46, ca 1, fh), (zp, 162, 368, ca 1, fp), (zs, 150, 120000, ca 1, C.s), (zn, 151, 120000, ca 1, C.n), (za, 152, 120000, ca 1, C.a), (zb, 153, 120000, ca 1, C.b), (zc, 154, 120000, ca 1, C.c), (zy, 165, 16, ca 1, C.y)] [] H_31 locs_31 := ((hh_23.call hb_311 hb_312 hb_313 hb_314 hS_31 rfl (L1 := [(kr, 15, 19, .int lemmaName_13), (kr, 15, 18, .int proof_3), (r0, 16, 58, .ref kr), (kr, 15, 21, .int pg), (kr, 15, 22, .ref zg), (kr, 15, 25, .ref zh), (kr, 15, 27, .ref zp), (kr, 15, 0, .ref zs), (kr, 15, 1, .ref zn), (kr, 15, 2, .ref za), (kr, 15, 3, .ref zb), (kr, 15, 4, .ref zc), (kr, 15, 14, .ref zy)]) [0, 1, 2, 3, 4, 5, 6, 7, 8, 9, 10, 11, 12] rfl rfl (M1 := [(zg, 161, 46, ca 1, fg), (zh, 159, 46, ca 1, fh), (zp, 162, 368, ca 1, fp), (zs, 150, 120000, ca 1, C.s), (zn, 151, 120000, ca 1, C.n), (za, 152, 120000, ca 1, C.a), (zb, 153, 120000, ca 1, C.b), (zc, 154, 120000, ca 1, C.c), (zy, 165, 16, ca 1, C.y)]) [0, 1, 2, 3, 4, 5, 6, 7, 8] rfl rfl (I1 := []) [] rfl rfl).more hb_315)
            clear hh_23 ht_31 hvm_31 hz_31 hk_31 hS_31 hb_311 hb_312 hb_313 hb_314 hb_315
            refine lv_aload_n hx hb dX14_goalsOf_90 rfl (lv_at hl 0 rfl) ?_
            refine lv_iconst (v := 0) hx hb dX14_goalsOf_91 (by decide) ?_
            refine va_callv (A0 := jA base) (H0 := s.heap) (va_runV (As := [.int 0]) (rest := []) ⟨hx, hb, hml, hown, hts⟩ (uX14_putLine l dC dI ca base B hB hAp hB15 hB16 hB101 G0 H_31 r0 0) (cwV 1 hts (jgV (jWr_70 _ (List.mem_of_getElem? (i := 11) rfl)) (jWr_70 _ (List.mem_of_getElem? (i := 12) rfl)) (jWr_70 _ (List.mem_of_getElem? (i := 13) rfl)) (jWr_1 _ (List.mem_of_getElem? (i := 5) rfl)) (jWr_70 _ (List.mem_of_getElem? (i := 14) rfl))) rfl rfl rfl (by decide +kernel) ⟨by rw [← hR]; exact Nat.le_of_ble_eq_true rfl, by rw [← hR]; exact Nat.le_of_ble_eq_true rfl⟩) ⟨fun a U g mk q => by obtain ⟨q0, q1, q2, qK, q10, q11, q12⟩ := q; exact ⟨q0, q1, q2, jG.calling g mk a qK, q10, q11, q12⟩, hh_31.recv (C := RX14) (T := TX14) (N := 74) hB16 rfl (by decide) hg_r0 hK, fun U hU hW => ⟨rfl, hU, hh_31.2.1, hG.step hW hU hh_31.1, hg_r0, jP.nil, by first | omega | (refine ⟨?_, ?_⟩ <;> (first | omega | rfl | assumption | decide | exact Or.inl rfl | exact Or.inr rfl | (simp only; omega)))⟩⟩ rfl rfl hl.1 rfl (lv_room (Nat.le_of_ble_eq_true rfl)) dX14_goalsOf_92 ⟨Nat.zero_le _, Nat.zero_le _⟩) hh_31.1 (fun q _ h => h) (fun q h => h) (fun u_33 t_33 H_33 locs_33 ht_33 hvm_33 hr_34 hb_33 hz_33 hk_33 hS_33 => ?_)
            rw [ht_33] at hb_33
            obtain ⟨hb_331, hb_332, hb_333, hb_334, hb_335⟩ := hb_33
            have hh_33 : jSt (dC, dI) B base G0 G0 EX14_goalsOf s.heap 0 0 [(kr, 15, 19, .int lemmaName_13), (kr, 15, 18, .int proof_3), (r0, 16, 58, .ref kr), (kr, 15, 21, .int pg), (kr, 15, 22, .ref zg), (kr, 15, 25, .ref zh), (kr, 15, 27, .ref zp), (kr, 15, 0, .ref zs), (kr, 15, 1, .ref zn), (kr, 15, 2, .ref za), (kr, 15, 3, .ref zb), (kr, 15, 4, .ref zc), (kr, 15, 14, .ref zy)] [(zg, 161, 46, ca 1, fg), (zh, 159, 46, ca 1, fh), (zp, 162, 368, ca 1, fp), (zs, 150, 120000, ca 1, C.s), (zn, 151, 120000, ca 1, C.n), (za, 152, 120000, ca 1, C.a), (zb, 153, 120000, ca 1, C.b), (zc, 154, 120000, ca 1, C.c), (zy, 165, 16, ca 1, C.y)] [] H_33 locs_33 := ((hh_31.call hb_331 hb_332 hb_333 hb_334 hS_33 rfl (L1 := [(kr, 15, 19, .int lemmaName_13), (kr, 15, 18, .int proof_3), (r0, 16, 58, .ref kr), (kr, 15, 21, .int pg), (kr, 15, 22, .ref zg), (kr, 15, 25, .ref zh), (kr, 15, 27, .ref zp), (kr, 15, 0, .ref zs), (kr, 15, 1, .ref zn), (kr, 15, 2, .ref za), (kr, 15, 3, .ref zb), (kr, 15, 4, .ref zc), (kr, 15, 14, .ref zy)]) [0, 1, 2, 3, 4, 5, 6, 7, 8, 9, 10, 11, 12] rfl rfl (M1 := [(zg, 161, 46, ca 1, fg), (zh, 159, 46, ca 1, fh), (zp, 162, 368, ca 1, fp), (zs, 150, 120000, ca 1, C.s), (zn, 151, 120000, ca 1, C.n), (za, 152, 120000, ca 1, C.a), (zb, 153, 120000, ca 1, C.b), (zc, 154, 120000, ca 1, C.c), (zy, 165, 16, ca 1, C.y)]) [0, 1, 2, 3, 4, 5, 6, 7, 8] rfl rfl (I1 := []) [] rfl rfl).more hb_335)
            clear hh_31 ht_33 hvm_33 hz_33 hk_33 hS_33 hb_331 hb_332 hb_333 hb_334 hb_335
            obtain ⟨z_35, ez_35⟩ : ∃ y : Int32, y = v1_23 + 1 := ⟨_, rfl⟩
            refine lv_iinc (v := z_35) (lv' := [(1, .int z_35), (0, .ref r0)]) hx hb dX14_goalsOf_95 hl (k := 1) rfl (by rw [ez_35]; rfl) (by decide) rfl (fun ls hl => ?_)
            have hz_35 : z_35.toInt = v1_23.toInt + 1 := by rw [ez_35]; exact jb_iadd2 (rfl) (by decide) (by omega)
            refine lv_goto (tgt := 61) hx hb dX14_goalsOf_98 (by decide) ?_
            exact L61 z_35 _ _ hh_33 (by first | omega | (refine ⟨?_, ?_⟩ <;> (first | omega | rfl | assumption | decide | exact Or.inl rfl | exact Or.inr rfl | (simp only; omega)))) (by omega) _ (lv_sub hl [1, 0] rfl)
          · skip
            have c_30' : v1_23.toInt > 0 := jb_le_n (rfl) ((by decide)) c_30
            refine lv_aload_n hx hb dX14_goalsOf_76 rfl (lv_at hl 0 rfl) ?_
            refine lv_bipush (v := 44) hx hb dX14_goalsOf_77 (by decide) ?_
            obtain ⟨v_38, hv_38, hh_39⟩ := hh_23.pin (C := RX14) (T := TX14) (N := 74) hB16 rfl (by decide) hg_r0 (i := 6) (by decide) rfl
            obtain ⟨framed_40, rfl, hloframed_40, hhiframed_40⟩ := hv_38
            refine va_callv (A0 := jA base) (H0 := s.heap) (va_runV (As := [.int 44]) (rest := []) ⟨hx, hb, hml, hown, hts⟩ (uX14_put l dC dI ca base B hB hAp hB16 hB101 G0 H_23 r0 44 framed_40) (cwV 1 hts (jgV (jWr_54 _ (List.mem_of_getElem? (i := 2) rfl)) (jWr_54 _ (List.mem_of_getElem? (i := 3) rfl)) (jWr_54 _ (List.mem_of_getElem? (i := 4) rfl)) (jWr_1 _ (List.mem_of_getElem? (i := 5) rfl)) (jWr_54 _ (List.mem_of_getElem? (i := 5) rfl))) rfl rfl rfl (by decide +kernel) ⟨by rw [← hR]; exact Nat.le_of_ble_eq_true rfl, by rw [← hR]; exact Nat.le_of_ble_eq_true rfl⟩) ⟨fun a U g mk q => by obtain ⟨q0, q1, q2, qK, q10, q11, q12⟩ := q; exact ⟨q0, q1, q2, jG.calling g mk a qK, q10, q11, q12⟩, hh_39.recv (C := RX14) (T := TX14) (N := 74) hB16 rfl (by decide) hg_r0 hK, fun U hU hW => ⟨rfl, hU, hh_39.2.1, hG.step hW hU hh_39.1, hg_r0, (hh_39.2.2.1.sub (L1 := [(r0, 16, 6, .int framed_40)]) [0] rfl), by first | omega | (refine ⟨?_, ?_⟩ <;> (first | omega | rfl | assumption | decide | exact Or.inl rfl | exact Or.inr rfl | (simp only; omega)))⟩⟩ rfl rfl hl.1 rfl (lv_room (Nat.le_of_ble_eq_true rfl)) dX14_goalsOf_79 ⟨Nat.zero_le _, Nat.zero_le _⟩) hh_39.1 (fun q _ h => h) (fun q h => h) (fun u_36 t_36 H_36 locs_36 ht_36 hvm_36 hr_37 hb_36 hz_36 hk_36 hS_36 => ?_)
            obtain ⟨qf_36, rfl⟩ : ∃ z, z = u_36 := ⟨_, rfl⟩
            rw [ht_36] at hb_36
            obtain ⟨hb_361, hb_362, hb_363, hb_364, hb_365⟩ := hb_36
            have hh_36 : jSt (dC, dI) B base G0 G0 EX14_goalsOf s.heap 0 0 [(r0, 16, 6, .int qf_36), (kr, 15, 19, .int lemmaName_13), (kr, 15, 18, .int proof_3), (r0, 16, 58, .ref kr), (kr, 15, 21, .int pg), (kr, 15, 22, .ref zg), (kr, 15, 25, .ref zh), (kr, 15, 27, .ref zp), (kr, 15, 0, .ref zs), (kr, 15, 1, .ref zn), (kr, 15, 2, .ref za), (kr, 15, 3, .ref zb), (kr, 15, 4, .ref zc), (kr, 15, 14, .ref zy)] [(zg, 161, 46, ca 1, fg), (zh, 159, 46, ca 1, fh), (zp, 162, 368, ca 1, fp), (zs, 150, 120000, ca 1, C.s), (zn, 151, 120000, ca 1, C.n), (za, 152, 120000, ca 1, C.a), (zb, 153, 120000, ca 1, C.b), (zc, 154, 120000, ca 1, C.c), (zy, 165, 16, ca 1, C.y)] [] H_36 locs_36 := ((hh_39.call hb_361 hb_362 hb_363 hb_364 hS_36 rfl (L1 := [(kr, 15, 19, .int lemmaName_13), (kr, 15, 18, .int proof_3), (r0, 16, 58, .ref kr), (kr, 15, 21, .int pg), (kr, 15, 22, .ref zg), (kr, 15, 25, .ref zh), (kr, 15, 27, .ref zp), (kr, 15, 0, .ref zs), (kr, 15, 1, .ref zn), (kr, 15, 2, .ref za), (kr, 15, 3, .ref zb), (kr, 15, 4, .ref zc), (kr, 15, 14, .ref zy)]) [1, 2, 3, 4, 5, 6, 7, 8, 9, 10, 11, 12, 13] rfl rfl (M1 := [(zg, 161, 46, ca 1, fg), (zh, 159, 46, ca 1, fh), (zp, 162, 368, ca 1, fp), (zs, 150, 120000, ca 1, C.s), (zn, 151, 120000, ca 1, C.n), (za, 152, 120000, ca 1, C.a), (zb, 153, 120000, ca 1, C.b), (zc, 154, 120000, ca 1, C.c), (zy, 165, 16, ca 1, C.y)]) [0, 1, 2, 3, 4, 5, 6, 7, 8] rfl rfl (I1 := []) [] rfl rfl).more hb_365)
            clear hh_39 ht_36 hvm_36 hz_36 hk_36 hS_36 hb_361 hb_362 hb_363 hb_364 hb_365
            obtain ⟨hr_37_0, hr_37_1⟩ := hr_37
            refine lv_aload_n hx hb dX14_goalsOf_82 rfl (lv_at hl 0 rfl) ?_
            refine j7_read hx hb hown hK (C := RX14) (T := TX14) (N := 74) rfl hly_16_58 hlk_122 (hh_36.at 3 rfl) dX14_goalsOf_83 ?_
            refine lv_iload_n hx hb dX14_goalsOf_86 rfl (lv_at hl 1 rfl) ?_
            refine va_callv (A0 := jA base) (H0 := s.heap) (va_runV (As := [.int v1_23]) (rest := []) ⟨hx, hb, hml, hown, hts⟩ (uX13_printGoal l dC dI ca base B hB hAp hB15 hB101 hB150 hB151 hB152 hB153 hB154 hB155 hB156 hB158 hB159 hB161 hB162 hB163 hB164 hB165 hB166 G0 H_36 kr v1_23 zg zh zp zs zn za zb zc zy gN gY fg fh fp C) (cwV 1 hts (jgV (jWr_70 _ (List.mem_of_getElem? (i := 15) rfl)) (jWr_70 _ (List.mem_of_getElem? (i := 16) rfl)) (jWr_70 _ (List.mem_of_getElem? (i := 17) rfl)) (jWr_12 _ (List.mem_of_getElem? (i := 12) rfl)) (jWr_70 _ (List.mem_of_getElem? (i := 18) rfl))) rfl rfl rfl (by decide +kernel) ⟨by rw [← hR]; exact Nat.le_of_ble_eq_true rfl, by rw [← hR]; exact Nat.le_of_ble_eq_true rfl⟩) ⟨fun a U g mk q => by obtain ⟨q0, q1, q2, qK, q10, q11, q12, q13, q14, q15, q16, q17, q18, q19, q20, q21, q22⟩ := q; exact ⟨q0, q1, q2, jG.calling g mk a qK, q10, q11, q12, q13, q14, q15, q16, q17, q18, q19, q20, q21, q22⟩, hh_36.recv (C := RX13) (T := TX13) (N := 50) hB15 rfl (by decide) hg_kr hK, fun U hU hW => ⟨rfl, hU, hh_36.2.1, hG.step hW hU hh_36.1, hg_kr, hg_zg, hg_zh, hg_zp, hg_zs, hg_zn, hg_za, hg_zb, hg_zc, hg_zy, (hh_36.2.2.1.sub (L1 := [(kr, 15, 22, .ref zg), (kr, 15, 25, .ref zh), (kr, 15, 27, .ref zp), (kr, 15, 0, .ref zs), (kr, 15, 1, .ref zn), (kr, 15, 2, .ref za), (kr, 15, 3, .ref zb), (kr, 15, 4, .ref zc), (kr, 15, 14, .ref zy)]) [5, 6, 7, 8, 9, 10, 11, 12, 13] rfl), (hh_36.2.2.2.2.2.2.2.1.sub (L1 := [(zg, 161, 46, ca 1, fg), (zh, 159, 46, ca 1, fh), (zp, 162, 368, ca 1, fp), (zs, 150, 120000, ca 1, C.s), (zn, 151, 120000, ca 1, C.n), (za, 152, 120000, ca 1, C.a), (zb, 153, 120000, ca 1, C.b), (zc, 154, 120000, ca 1, C.c), (zy, 165, 16, ca 1, C.y)]) [0, 1, 2, 3, 4, 5, 6, 7, 8] rfl), ⟨(by first | assumption | exact hp0 _ (by omega) (by omega) | omega), (by first | omega | rfl | assumption | exact hp0 _ (by omega) (by omega)), (by first | omega | rfl | assumption | exact hp0 _ (by omega) (by omega)), (by first | omega | rfl | assumption | exact hp0 _ (by omega) (by omega)), (by first | omega | rfl | assumption | exact hp0 _ (by omega) (by omega))⟩⟩⟩ rfl rfl hl.1 rfl (lv_room (Nat.le_of_ble_eq_true rfl)) dX14_goalsOf_87 ⟨Nat.zero_le _, Nat.zero_le _⟩) hh_36.1 (fun q _ h => h) (fun q h => h) (fun u_41 t_41 H_41 locs_41 ht_41 hvm_41 hr_42 hb_41 hz_41 hk_41 hS_41 => ?_)
            rw [ht_41] at hb_41
            obtain ⟨hb_411, hb_412, hb_413, hb_414, hb_415⟩ := hb_41
            have hh_41 : jSt (dC, dI) B base G0 G0 EX14_goalsOf s.heap 0 0 [(r0, 16, 6, .int qf_36), (kr, 15, 19, .int lemmaName_13), (kr, 15, 18, .int proof_3), (r0, 16, 58, .ref kr), (kr, 15, 21, .int pg), (kr, 15, 22, .ref zg), (kr, 15, 25, .ref zh), (kr, 15, 27, .ref zp), (kr, 15, 0, .ref zs), (kr, 15, 1, .ref zn), (kr, 15, 2, .ref za), (kr, 15, 3, .ref zb), (kr, 15, 4, .ref zc), (kr, 15, 14, .ref zy)] [(zg, 161, 46, ca 1, fg), (zh, 159, 46, ca 1, fh), (zp, 162, 368, ca 1, fp), (zs, 150, 120000, ca 1, C.s), (zn, 151, 120000, ca 1, C.n), (za, 152, 120000, ca 1, C.a), (zb, 153, 120000, ca 1, C.b), (zc, 154, 120000, ca 1, C.c), (zy, 165, 16, ca 1, C.y)] [] H_41 locs_41 := ((hh_36.call hb_411 hb_412 hb_413 hb_414 hS_41 rfl (L1 := [(r0, 16, 6, .int qf_36), (kr, 15, 19, .int lemmaName_13), (kr, 15, 18, .int proof_3), (r0, 16, 58, .ref kr), (kr, 15, 21, .int pg), (kr, 15, 22, .ref zg), (kr, 15, 25, .ref zh), (kr, 15, 27, .ref zp), (kr, 15, 0, .ref zs), (kr, 15, 1, .ref zn), (kr, 15, 2, .ref za), (kr, 15, 3, .ref zb), (kr, 15, 4, .ref zc), (kr, 15, 14, .ref zy)]) [0, 1, 2, 3, 4, 5, 6, 7, 8, 9, 10, 11, 12, 13] rfl rfl (M1 := [(zg, 161, 46, ca 1, fg), (zh, 159, 46, ca 1, fh), (zp, 162, 368, ca 1, fp), (zs, 150, 120000, ca 1, C.s), (zn, 151, 120000, ca 1, C.n), (za, 152, 120000, ca 1, C.a), (zb, 153, 120000, ca 1, C.b), (zc, 154, 120000, ca 1, C.c), (zy, 165, 16, ca 1, C.y)]) [0, 1, 2, 3, 4, 5, 6, 7, 8] rfl rfl (I1 := []) [] rfl rfl).more hb_415)
            clear hh_36 ht_41 hvm_41 hz_41 hk_41 hS_41 hb_411 hb_412 hb_413 hb_414 hb_415
            refine lv_aload_n hx hb dX14_goalsOf_90 rfl (lv_at hl 0 rfl) ?_
            refine lv_iconst (v := 0) hx hb dX14_goalsOf_91 (by decide) ?_
            refine va_callv (A0 := jA base) (H0 := s.heap) (va_runV (As := [.int 0]) (rest := []) ⟨hx, hb, hml, hown, hts⟩ (uX14_putLine l dC dI ca base B hB hAp hB15 hB16 hB101 G0 H_41 r0 0) (cwV 1 hts (jgV (jWr_70 _ (List.mem_of_getElem? (i := 11) rfl)) (jWr_70 _ (List.mem_of_getElem? (i := 12) rfl)) (jWr_70 _ (List.mem_of_getElem? (i := 13) rfl)) (jWr_1 _ (List.mem_of_getElem? (i := 5) rfl)) (jWr_70 _ (List.mem_of_getElem? (i := 14) rfl))) rfl rfl rfl (by decide +kernel) ⟨by rw [← hR]; exact Nat.le_of_ble_eq_true rfl, by rw [← hR]; exact Nat.le_of_ble_eq_true rfl⟩) ⟨fun a U g mk q => by obtain ⟨q0, q1, q2, qK, q10, q11, q12⟩ := q; exact ⟨q0, q1, q2, jG.calling g mk a qK, q10, q11, q12⟩, hh_41.recv (C := RX14) (T := TX14) (N := 74) hB16 rfl (by decide) hg_r0 hK, fun U hU hW => ⟨rfl, hU, hh_41.2.1, hG.step hW hU hh_41.1, hg_r0, jP.nil, by first | omega | (refine ⟨?_, ?_⟩ <;> (first | omega | rfl | assumption | decide | exact Or.inl rfl | exact Or.inr rfl | (simp only; omega)))⟩⟩ rfl rfl hl.1 rfl (lv_room (Nat.le_of_ble_eq_true rfl)) dX14_goalsOf_92 ⟨Nat.zero_le _, Nat.zero_le _⟩) hh_41.1 (fun q _ h => h) (fun q h => h) (fun u_43 t_43 H_43 locs_43 ht_43 hvm_43 hr_44 hb_43 hz_43 hk_43 hS_43 => ?_)
            rw [ht_43] at hb_43
            obtain ⟨hb_431, hb_432, hb_433, hb_434, hb_435⟩ := hb_43
            have hh_43 : jSt (dC, dI) B base G0 G0 EX14_goalsOf s.heap 0 0 [(kr, 15, 19, .int lemmaName_13), (kr, 15, 18, .int proof_3), (r0, 16, 58, .ref kr), (kr, 15, 21, .int pg), (kr, 15, 22, .ref zg), (kr, 15, 25, .ref zh), (kr, 15, 27, .ref zp), (kr, 15, 0, .ref zs), (kr, 15, 1, .ref zn), (kr, 15, 2, .ref za), (kr, 15, 3, .ref zb), (kr, 15, 4, .ref zc), (kr, 15, 14, .ref zy)] [(zg, 161, 46, ca 1, fg), (zh, 159, 46, ca 1, fh), (zp, 162, 368, ca 1, fp), (zs, 150, 120000, ca 1, C.s), (zn, 151, 120000, ca 1, C.n), (za, 152, 120000, ca 1, C.a), (zb, 153, 120000, ca 1, C.b), (zc, 154, 120000, ca 1, C.c), (zy, 165, 16, ca 1, C.y)] [] H_43 locs_43 := ((hh_41.call hb_431 hb_432 hb_433 hb_434 hS_43 rfl (L1 := [(kr, 15, 19, .int lemmaName_13), (kr, 15, 18, .int proof_3), (r0, 16, 58, .ref kr), (kr, 15, 21, .int pg), (kr, 15, 22, .ref zg), (kr, 15, 25, .ref zh), (kr, 15, 27, .ref zp), (kr, 15, 0, .ref zs), (kr, 15, 1, .ref zn), (kr, 15, 2, .ref za), (kr, 15, 3, .ref zb), (kr, 15, 4, .ref zc), (kr, 15, 14, .ref zy)]) [1, 2, 3, 4, 5, 6, 7, 8, 9, 10, 11, 12, 13] rfl rfl (M1 := [(zg, 161, 46, ca 1, fg), (zh, 159, 46, ca 1, fh), (zp, 162, 368, ca 1, fp), (zs, 150, 120000, ca 1, C.s), (zn, 151, 120000, ca 1, C.n), (za, 152, 120000, ca 1, C.a), (zb, 153, 120000, ca 1, C.b), (zc, 154, 120000, ca 1, C.c), (zy, 165, 16, ca 1, C.y)]) [0, 1, 2, 3, 4, 5, 6, 7, 8] rfl rfl (I1 := []) [] rfl rfl).more hb_435)
            clear hh_41 ht_43 hvm_43 hz_43 hk_43 hS_43 hb_431 hb_432 hb_433 hb_434 hb_435
            obtain ⟨z_45, ez_45⟩ : ∃ y : Int32, y = v1_23 + 1 := ⟨_, rfl⟩
            refine lv_iinc (v := z_45) (lv' := [(1, .int z_45), (0, .ref r0)]) hx hb dX14_goalsOf_95 hl (k := 1) rfl (by rw [ez_45]; rfl) (by decide) rfl (fun ls hl => ?_)
            have hz_45 : z_45.toInt = v1_23.toInt + 1 := by rw [ez_45]; exact jb_iadd2 (rfl) (by decide) (by omega)
            refine lv_goto (tgt := 61) hx hb dX14_goalsOf_98 (by decide) ?_
            exact L61 z_45 _ _ hh_43 (by first | omega | (refine ⟨?_, ?_⟩ <;> (first | omega | rfl | assumption | decide | exact Or.inl rfl | exact Or.inr rfl | (simp only; omega)))) (by omega) _ (lv_sub hl [1, 0] rfl)
    exact L61 (pg.toInt - (0 : Int32).toInt : Int).toNat.succ 0 _ _ (hh_18.sub (L1 := [(kr, 15, 19, .int lemmaName_13), (kr, 15, 18, .int proof_3), (r0, 16, 58, .ref kr), (kr, 15, 21, .int pg), (kr, 15, 22, .ref zg), (kr, 15, 25, .ref zh), (kr, 15, 27, .ref zp), (kr, 15, 0, .ref zs), (kr, 15, 1, .ref zn), (kr, 15, 2, .ref za), (kr, 15, 3, .ref zb), (kr, 15, 4, .ref zc), (kr, 15, 14, .ref zy)]) [1, 2, 3, 4, 5, 6, 7, 8, 9, 10, 11, 12, 13] rfl (M1 := [(zg, 161, 46, ca 1, fg), (zh, 159, 46, ca 1, fh), (zp, 162, 368, ca 1, fp), (zs, 150, 120000, ca 1, C.s), (zn, 151, 120000, ca 1, C.n), (za, 152, 120000, ca 1, C.a), (zb, 153, 120000, ca 1, C.b), (zc, 154, 120000, ca 1, C.c), (zy, 165, 16, ca 1, C.y)]) [0, 1, 2, 3, 4, 5, 6, 7, 8] rfl (I1 := []) [] rfl) (by first | omega | (refine ⟨?_, ?_⟩ <;> (first | omega | rfl | assumption | decide | exact Or.inl rfl | exact Or.inr rfl | (simp only; omega)))) (by omega) _ (lv_sub hl [1, 0] rfl)
  · skip
    have c_4' : proof_3.toInt = 0 := jb_ne_n (rfl) ((by decide)) c_4
    refine lv_aload_n hx hb dX14_goalsOf_10 rfl (lv_at hl 0 rfl) ?_
    refine j_ldcSw hx hb hown rstr307 dX14_goalsOf_11 ?_
    obtain ⟨v_48, hv_48, hh_49⟩ := hh_2.pin (C := RX14) (T := TX14) (N := 74) hB16 rfl (by decide) hg_r0 (i := 6) (by decide) rfl
    obtain ⟨framed_50, rfl, hloframed_50, hhiframed_50⟩ := hv_48
    refine va_callv (A0 := jA base) (H0 := s.heap) (va_runV (As := [.ref str307]) (rest := []) ⟨hx, hb, hml, hown, hts⟩ (uX14_word l dC dI ca base B hB hAp hB16 hB101 G0 s.heap r0 str307 4 framed_50) (cwV 1 hts (jgV (jWr_53 _ (List.mem_of_getElem? (i := 22) rfl)) (jWr_53 _ (List.mem_of_getElem? (i := 23) rfl)) (jWr_54 _ (List.mem_of_getElem? (i := 0) rfl)) (jWr_1 _ (List.mem_of_getElem? (i := 5) rfl)) (jWr_54 _ (List.mem_of_getElem? (i := 1) rfl))) rfl rfl rfl (by decide +kernel) ⟨by rw [← hR]; exact Nat.le_of_ble_eq_true rfl, by rw [← hR]; exact Nat.le_of_ble_eq_true rfl⟩) ⟨fun a U g mk q => by obtain ⟨q0, q1, q2, qK, q10, q11, q12, q13⟩ := q; exact ⟨q0, q1, q2, jG.calling g mk a qK, (q10.moved (Vm.Alike.refl U.vm)), q11, q12, q13⟩, hh_49.recv (C := RX14) (T := TX14) (N := 74) hB16 rfl (by decide) hg_r0 hK, fun U hU hW => ⟨rfl, hU, hh_49.2.1, hG.step hW hU hh_49.1, (hstr307.moved hW.alike).kept hh_49.1.2.1, hg_r0, (hh_49.2.2.1.sub (L1 := [(r0, 16, 6, .int framed_50)]) [0] rfl), by first | omega | (refine ⟨?_, ?_, ?_⟩ <;> (first | omega | rfl | assumption | decide | exact Or.inl rfl | exact Or.inr rfl | (simp only; omega)))⟩⟩ rfl rfl hl.1 rfl (lv_room (Nat.le_of_ble_eq_true rfl)) dX14_goalsOf_14 ⟨Nat.zero_le _, Nat.zero_le _⟩) hh_49.1 (fun q _ h => h) (fun q h => h) (fun u_46 t_46 H_46 locs_46 ht_46 hvm_46 hr_47 hb_46 hz_46 hk_46 hS_46 => ?_)
    obtain ⟨qf_46, rfl⟩ : ∃ z, z = u_46 := ⟨_, rfl⟩
    rw [ht_46] at hb_46
    obtain ⟨hb_461, hb_462, hb_463, hb_464, hb_465⟩ := hb_46
    have hh_46 : jSt (dC, dI) B base G0 G0 EX14_goalsOf s.heap 0 0 [(r0, 16, 6, .int qf_46), (kr, 15, 18, .int proof_3), (r0, 16, 58, .ref kr), (kr, 15, 21, .int pg), (kr, 15, 22, .ref zg), (kr, 15, 25, .ref zh), (kr, 15, 27, .ref zp), (kr, 15, 0, .ref zs), (kr, 15, 1, .ref zn), (kr, 15, 2, .ref za), (kr, 15, 3, .ref zb), (kr, 15, 4, .ref zc), (kr, 15, 14, .ref zy)] [(zg, 161, 46, ca 1, fg), (zh, 159, 46, ca 1, fh), (zp, 162, 368, ca 1, fp), (zs, 150, 120000, ca 1, C.s), (zn, 151, 120000, ca 1, C.n), (za, 152, 120000, ca 1, C.a), (zb, 153, 120000, ca 1, C.b), (zc, 154, 120000, ca 1, C.c), (zy, 165, 16, ca 1, C.y)] [] H_46 locs_46 := ((hh_49.call hb_461 hb_462 hb_463 hb_464 hS_46 rfl (L1 := [(kr, 15, 18, .int proof_3), (r0, 16, 58, .ref kr), (kr, 15, 21, .int pg), (kr, 15, 22, .ref zg), (kr, 15, 25, .ref zh), (kr, 15, 27, .ref zp), (kr, 15, 0, .ref zs), (kr, 15, 1, .ref zn), (kr, 15, 2, .ref za), (kr, 15, 3, .ref zb), (kr, 15, 4, .ref zc), (kr, 15, 14, .ref zy)]) [1, 2, 3, 4, 5, 6, 7, 8, 9, 10, 11, 12] rfl rfl (M1 := [(zg, 161, 46, ca 1, fg), (zh, 159, 46, ca 1, fh), (zp, 162, 368, ca 1, fp), (zs, 150, 120000, ca 1, C.s), (zn, 151, 120000, ca 1, C.n), (za, 152, 120000, ca 1, C.a), (zb, 153, 120000, ca 1, C.b), (zc, 154, 120000, ca 1, C.c), (zy, 165, 16, ca 1, C.y)]) [0, 1, 2, 3, 4, 5, 6, 7, 8] rfl rfl (I1 := []) [] rfl rfl).more hb_465)
    clear hh_49 ht_46 hvm_46 hz_46 hk_46 hS_46 hb_461 hb_462 hb_463 hb_464 hb_465
    obtain ⟨hr_47_0, hr_47_1⟩ := hr_47
    rw [hQ]
    exact W.vret hx hb hr (fun t ht hW => ⟨⟨(), rfl, trivial, hh_46.rt (M1 := []) [] rfl ht⟩, by rw [ht]; try exact hh_46.1.1, fun q h9 hq => by rw [ht]; try exact hh_46.1.2.1 q h9 hq⟩) hh_46.1.2.2 dX14_goalsOf_17
set_option maxHeartbeats 4000000 in
set_option maxRecDepth 20000 in
theorem uX14_statementOf (l : Launch) (dC : Nat → ClassId) (dI : Nat → Nat → Nat) (ca : Nat → ClassId) (base : Nat) (B : jF) (hB : jBok B) (hAp : jAp (dC, dI)) (hB15 : ∀ n G a H, B 15 n G a H ↔ jOb (dC, dI) 15 50 (F15 n G) a H) (hB16 : ∀ n G a H, B 16 n G a H ↔ jOb (dC, dI) 16 74 (F16 n G) a H) (hB101 : ∀ n G a H, B 101 n G a H ↔ jAr (dC, dI) (ca 1) (fun j z => True) n a H) (hB150 : ∀ n G a H, B 150 n G a H ↔ jAr (dC, dI) (ca 1) (fun j z => True) n a H) (hB151 : ∀ n G a H, B 151 n G a H ↔ jAr (dC, dI) (ca 1) (fun j z => True) n a H) (hB152 : ∀ n G a H, B 152 n G a H ↔ jAr (dC, dI) (ca 1) (fun j z => True) n a H) (hB153 : ∀ n G a H, B 153 n G a H ↔ jAr (dC, dI) (ca 1) (fun j z => True) n a H) (hB154 : ∀ n G a H, B 154 n G a H ↔ jAr (dC, dI) (ca 1) (fun j z => True) n a H) (hB155 : ∀ n G a H, B 155 n G a H ↔ jAr (dC, dI) (ca 1) (fun j z => 0 ≤ z.toInt ∧ z.toInt ≤ 11990) n a H) (hB156 : ∀ n G a H, B 156 n G a H ↔ jAr (dC, dI) (ca 1) (fun j z => 0 ≤ z.toInt ∧ z.toInt ≤ 10) n a H) (hB160 : ∀ n G a H, B 160 n G a H ↔ jAr (dC, dI) (ca 1) (fun j z => 0 ≤ z.toInt ∧ z.toInt ≤ 119999) n a H) (hB163 : ∀ n G a H, B 163 n G a H ↔ jAr (dC, dI) (ca 1) (fun j z => 0 ≤ z.toInt ∧ z.toInt ≤ 1599) n a H) (hB164 : ∀ n G a H, B 164 n G a H ↔ jAr (dC, dI) (ca 1) (fun j z => 0 ≤ z.toInt ∧ z.toInt ≤ 100000) n a H) (hB165 : ∀ n G a H, B 165 n G a H ↔ jAr (dC, dI) (ca 1) (fun j z => 0 ≤ z.toInt ∧ z.toInt ≤ 3) n a H) (hB166 : ∀ n G a H, B 166 n G a H ↔ jAr (dC, dI) (ca 1) (fun j z => True) n a H) (G0 : jT) (H0 : Heap) (r0 : Nat) (r1 : Nat) (a2 : Int32) (a3 : Int32) (n1 : Nat) (kr : Nat) (pf : Int32) (py : Int32) (zf : Nat) (zs : Nat) (zn : Nat) (za : Nat) (zb : Nat) (zc : Nat) (zy : Nat) (gN : Int) (gY : Int) (ff : Nat → Int32) (C : jK) : Met l yX14_statementOf (jw yX14_statementOf cX14_statementOf 7 none) ({ frames := 252, cells := 0, slots := 0, locals := 8244 }) (va_Pc [.ref r0, .ref r1, .int a2, .int a3] (fun U => U.heap = H0 ∧ jX B base G0 [] H0 ∧ jG dC dI ca base U ∧ G0 r1 = some (101, n1) ∧ G0 r0 = some (16, 0) ∧ G0 kr = some (15, 0) ∧ G0 zf = some (160, 16) ∧ G0 zs = some (150, 120000) ∧ G0 zn = some (151, 120000) ∧ G0 za = some (152, 120000) ∧ G0 zb = some (153, 120000) ∧ G0 zc = some (154, 120000) ∧ G0 zy = some (165, 16) ∧ jP (dC, dI) G0 H0 [(r0, 16, 58, .ref kr), (kr, 15, 15, .int pf), (kr, 15, 11, .int py), (kr, 15, 17, .ref zf), (kr, 15, 0, .ref zs), (kr, 15, 1, .ref zn), (kr, 15, 2, .ref za), (kr, 15, 3, .ref zb), (kr, 15, 4, .ref zc), (kr, 15, 14, .ref zy)] ∧ jMc (dC, dI) G0 H0 [(zf, 160, 16, ca 1, ff), (zs, 150, 120000, ca 1, C.s), (zn, 151, 120000, ca 1, C.n), (za, 152, 120000, ca 1, C.a), (zb, 153, 120000, ca 1, C.b), (zc, 154, 120000, ca 1, C.c), (zy, 165, 16, ca 1, C.y)] ∧ jFa (jG1 C gN gY) ff pf.toInt ∧ 0 ≤ pf.toInt ∧ pf.toInt ≤ 16 ∧ 0 ≤ py.toInt ∧ py.toInt ≤ 16 ∧ gN ≤ 120000 ∧ gY ≤ 16 ∧ 0 ≤ a2.toInt ∧ a2.toInt + a3.toInt ≤ n1 ∧ n1 ≤ 200000)) (va_Qv (S := Unit) (fun u => True) (fun u t => jRt (dC, dI) B base G0 EX14_statementOf H0 [] t.heap) (jA base)) 0 0 (jA base) := by
  refine Met.ofW (cc := cX14_statementOf) (maxL := 7) (ret := none) (by decide) rfl ?_
  intro p e s m args below meth c s₁ Bd hml hv
  obtain ⟨rfl, hH0, hX, hG, hg_r1, hg_r0, hg_kr, hg_zf, hg_zs, hg_zn, hg_za, hg_zb, hg_zc, hg_zy, hP0, hM0, hp0, hp1, hp2, hp3, hp4, hp5, hp6, hp7, hp8, hp9⟩ := hv
  have hK := hG.1
  have hx := Bd.exec
  have hb := Bd.bytes
  have hr := Bd.returns
  have hts := atoms_spec (ws := (jw yX14_statementOf cX14_statementOf 7 none)) Bd.pre
  have htw : ∀ w ∈ jWl, w.before _ s = true := fun w h => hts w (List.mem_cons_of_mem _ h)
  have hown : s.vm.findClass RX14 = some m.cls := findClass_of_methodNamed Bd.named
  have hlocks := Bd.notSynchronized
  obtain ⟨Q, hQ⟩ : ∃ Q, Q = MQ below (va_Qv (S := Unit) (fun u => True) (fun u t => jRt (dC, dI) B base G0 EX14_statementOf H0 [] t.heap) (jA base)) ([.ref r0, .ref r1, .int a2, .int a3] : List Value).toArray s 0 0 (jA base) := ⟨_, rfl⟩
  rw [← hQ]
  have hl := lv_entry ([.ref r0, .ref r1, .int a2, .int a3]) (n := 7) (Nat.le_of_ble_eq_true rfl)
  rw [lg_entry_eq]
  generalize (lg_sl ([.ref r0, .ref r1, .int a2, .int a3]) ++ List.replicate (7 - (lg_sl ([.ref r0, .ref r1, .int a2, .int a3])).length) Slot.unset).toArray = ls at hl ⊢
  have hl : lv_has ls 7 [(0, .ref r0), (1, .ref r1), (2, .int a2), (3, .int a3)] := hl
  generalize hR : (headSpec (jw yX14_statementOf cX14_statementOf 7 none) ({ frames := 252, cells := 0, slots := 0, locals := 8244 })).room = R
  subst hH0
  have hh : jSt (dC, dI) B base G0 G0 EX14_statementOf s.heap 0 0 [(r0, 16, 58, .ref kr), (kr, 15, 15, .int pf), (kr, 15, 11, .int py), (kr, 15, 17, .ref zf), (kr, 15, 0, .ref zs), (kr, 15, 1, .ref zn), (kr, 15, 2, .ref za), (kr, 15, 3, .ref zb), (kr, 15, 4, .ref zc), (kr, 15, 14, .ref zy)] [(zf, 160, 16, ca 1, ff), (zs, 150, 120000, ca 1, C.s), (zn, 151, 120000, ca 1, C.n), (za, 152, 120000, ca 1, C.a), (zb, 153, 120000, ca 1, C.b), (zc, 154, 120000, ca 1, C.c), (zy, 165, 16, ca 1, C.y)] [] s.heap [] := jSt.start hX hP0 hM0 jIs.nil
  clear hX hP0
  have hkm1 : ((-1) : Int32).toInt = (-1) := by decide
  have hk0 : (0 : Int32).toInt = 0 := by decide
  have hk1 : (1 : Int32).toInt = 1 := by decide
  have hly_15_11 := htw (u_lay RX13 TX13 11) (jWc_wsX130 _ (u_in_lay (by decide)))
  have hly_15_12 := htw (u_lay RX13 TX13 12) (jWc_wsX130 _ (u_in_lay (by decide)))
  have hly_15_14 := htw (u_lay RX13 TX13 14) (jWc_wsX130 _ (u_in_lay (by decide)))
  have hly_15_15 := htw (u_lay RX13 TX13 15) (jWc_wsX130 _ (u_in_lay (by decide)))
  have hly_15_16 := htw (u_lay RX13 TX13 16) (jWc_wsX130 _ (u_in_lay (by decide)))
  have hly_15_17 := htw (u_lay RX13 TX13 17) (jWc_wsX130 _ (u_in_lay (by decide)))
  have hly_15_46 := htw (u_lay RX13 TX13 46) (jWc_wsX130 _ (u_in_lay (by decide)))
  have hly_16_58 := htw (u_lay RX14 TX14 58) (jWc_wsX140 _ (u_in_lay (by decide)))
  have hlk_122 := (htw (.fieldLink RX14 122 "ProofServerModel" "kernel" "LProofServerModel$Kernel;") (jWr_12 _ (List.mem_of_getElem? (i := 13) rfl)))
  have hlk_661 := (va_Nw.use (A := ([.ref r0, .ref r1, .int a2, .int a3] : List Value).toArray) rfl (hG.2.1 RX14 661 "ProofServerModel$Kernel" "facts" "I" "ProofServerModel" (List.mem_of_getElem? (i := 1802) (by decide +kernel))))
  have hlk_664 := (va_Nw.use (A := ([.ref r0, .ref r1, .int a2, .int a3] : List Value).toArray) rfl (hG.2.1 RX14 664 "ProofServerModel$Kernel" "factName" "[I" "ProofServerModel" (List.mem_of_getElem? (i := 1804) (by decide +kernel))))
  have hlk_671 := (va_Nw.use (A := ([.ref r0, .ref r1, .int a2, .int a3] : List Value).toArray) rfl (hG.2.1 RX14 671 "ProofServerModel$Kernel" "symbols" "I" "ProofServerModel" (List.mem_of_getElem? (i := 1795) (by decide +kernel))))
  have hlk_674 := (va_Nw.use (A := ([.ref r0, .ref r1, .int a2, .int a3] : List Value).toArray) rfl (hG.2.1 RX14 674 "ProofServerModel$Kernel" "symbol" "[I" "ProofServerModel" (List.mem_of_getElem? (i := 1797) (by decide +kernel))))
  have hlk_634 := (va_Nw.use (A := ([.ref r0, .ref r1, .int a2, .int a3] : List Value).toArray) rfl (hG.2.1 RX14 634 "ProofServerModel$Kernel" "lines" "I" "ProofServerModel" (List.mem_of_getElem? (i := 1840) (by decide +kernel))))
  have hlk_677 := (va_Nw.use (A := ([.ref r0, .ref r1, .int a2, .int a3] : List Value).toArray) rfl (hG.2.1 RX14 677 "ProofServerModel$Kernel" "fact" "[I" "ProofServerModel" (List.mem_of_getElem? (i := 1806) (by decide +kernel))))
  have hlk_683 := (va_Nw.use (A := ([.ref r0, .ref r1, .int a2, .int a3] : List Value).toArray) rfl (hG.2.1 RX14 683 "ProofServerModel$Kernel" "arity" "[I" "ProofServerModel" (List.mem_of_getElem? (i := 1800) (by decide +kernel))))
  obtain ⟨str307, rstr307, hstr3070⟩ := hG.str (o := RX14) (k := 307) (tx := "null") (List.mem_of_getElem? (i := 2366) (by decide +kernel))
  have hstr307 : jStr base str307 4 s s.heap := hstr3070
  have hrg_a2 := jb_rng a2
  have hrg_a3 := jb_rng a3
  refine lv_iconst (v := (-1)) hx hb dX14_statementOf_0 (by decide) ?_
  refine lv_istore (lv' := [(4, .int (-1)), (0, .ref r0), (1, .ref r1), (2, .int a2), (3, .int a3)]) hx hb dX14_statementOf_1 hl (by decide) rfl (fun ls hl => ?_)
  refine lv_iconst (v := (-1)) hx hb dX14_statementOf_3 (by decide) ?_
  refine lv_istore (lv' := [(5, .int (-1)), (4, .int (-1)), (0, .ref r0), (1, .ref r1), (2, .int a2), (3, .int a3)]) hx hb dX14_statementOf_4 hl (by decide) rfl (fun ls hl => ?_)
  refine lv_iconst (v := 0) hx hb dX14_statementOf_6 (by decide) ?_
  refine lv_istore (lv' := [(6, .int 0), (5, .int (-1)), (4, .int (-1)), (0, .ref r0), (1, .ref r1), (2, .int a2), (3, .int a3)]) hx hb dX14_statementOf_7 hl (by decide) rfl (fun ls hl => ?_)
  have L9 : ∀ (N : Nat) (v4_1 : Int32) (v6_1 : Int32) (H_1 : Heap) (locs_1 : List Loc), jSt (dC, dI) B base G0 G0 EX14_statementOf s.heap 0 0 [(r0, 16, 58, .ref kr), (kr, 15, 15, .int pf), (kr, 15, 11, .int py), (kr, 15, 17, .ref zf), (kr, 15, 0, .ref zs), (kr, 15, 1, .ref zn), (kr, 15, 2, .ref za), (kr, 15, 3, .ref zb), (kr, 15, 4, .ref zc), (kr, 15, 14, .ref zy)] [(zf, 160, 16, ca 1, ff), (zs, 150, 120000, ca 1, C.s), (zn, 151, 120000, ca 1, C.n), (za, 152, 120000, ca 1, C.a), (zb, 153, 120000, ca 1, C.b), (zc, 154, 120000, ca 1, C.c), (zy, 165, 16, ca 1, C.y)] [] H_1 locs_1 → (0 ≤ v6_1.toInt ∧ v6_1.toInt ≤ pf.toInt ∧ -1 ≤ v4_1.toInt ∧ v4_1.toInt < pf.toInt) → (pf.toInt - v6_1.toInt : Int) < N → ∀ ls : Array Slot, lv_has ls 7 [(0, .ref r0), (1, .ref r1), (2, .int a2), (3, .int a3), (4, .int v4_1), (5, .int (-1)), (6, .int v6_1)] → W p l e R s m ([.ref r0, .ref r1, .int a2, .int a3] : List Value).toArray below meth c H_1 locs_1 0 0 Q (F0 m 9 ls []) := by
    intro N
    induction N with
    | zero => intro v4_1 v6_1 H_1 locs_1 hh_1  hi_1 hm; exact absurd hm (by omega)
    | succ N L9 =>
      intro v4_1 v6_1 H_1 locs_1 hh_1  hi_1 hm_1 ls hl
      obtain ⟨hi_1_0, hi_1_1, hi_1_2, hi_1_3⟩ := hi_1
      refine lv_iload hx hb dX14_statementOf_9 (lv_at hl 6 rfl) ?_
      refine lv_aload_n hx hb dX14_statementOf_11 rfl (lv_at hl 0 rfl) ?_
      refine j7_read hx hb hown hK (C := RX14) (T := TX14) (N := 74) rfl hly_16_58 hlk_122 (hh_1.at 0 rfl) dX14_statementOf_12 ?_
      refine j7_readN hx hb hown hK (C := RX13) (T := TX13) (N := 50) rfl hly_15_15 hlk_661 (hh_1.at 1 rfl) dX14_statementOf_15 ?_
      refine lv_icmp_ge (tgt := 51) hx hb dX14_statementOf_18 (by decide) (fun c_2 => ?_) (fun c_2 => ?_)
      · skip
        have c_2' : v6_1.toInt ≥ pf.toInt := jb_ge (rfl) (rfl) c_2
        refine lv_iconst (v := 0) hx hb dX14_statementOf_51 (by decide) ?_
        refine lv_istore (lv' := [(6, .int 0), (0, .ref r0), (1, .ref r1), (2, .int a2), (3, .int a3), (4, .int v4_1), (5, .int (-1))]) hx hb dX14_statementOf_52 hl (by decide) rfl (fun ls hl => ?_)
        have L54 : ∀ (N : Nat) (v5_3 : Int32) (v6_3 : Int32) (H_3 : Heap) (locs_3 : List Loc), jSt (dC, dI) B base G0 G0 EX14_statementOf s.heap 0 0 [(r0, 16, 58, .ref kr), (kr, 15, 15, .int pf), (kr, 15, 11, .int py), (kr, 15, 17, .ref zf), (kr, 15, 0, .ref zs), (kr, 15, 1, .ref zn), (kr, 15, 2, .ref za), (kr, 15, 3, .ref zb), (kr, 15, 4, .ref zc), (kr, 15, 14, .ref zy)] [(zf, 160, 16, ca 1, ff), (zs, 150, 120000, ca 1, C.s), (zn, 151, 120000, ca 1, C.n), (za, 152, 120000, ca 1, C.a), (zb, 153, 120000, ca 1, C.b), (zc, 154, 120000, ca 1, C.c), (zy, 165, 16, ca 1, C.y)] [] H_3 locs_3 → (0 ≤ v6_3.toInt ∧ v6_3.toInt ≤ py.toInt ∧ -1 ≤ v5_3.toInt ∧ v5_3.toInt < py.toInt) → (py.toInt - v6_3.toInt : Int) < N → ∀ ls : Array Slot, lv_has ls 7 [(0, .ref r0), (1, .ref r1), (2, .int a2), (3, .int a3), (4, .int v4_1), (5, .int v5_3), (6, .int v6_3)] → W p l e R s m ([.ref r0, .ref r1, .int a2, .int a3] : List Value).toArray below meth c H_3 locs_3 0 0 Q (F0 m 54 ls []) := by
          intro N
          induction N with
          | zero => intro v5_3 v6_3 H_3 locs_3 hh_3  hi_3 hm; exact absurd hm (by omega)
          | succ N L54 =>
            intro v5_3 v6_3 H_3 locs_3 hh_3  hi_3 hm_3 ls hl
            obtain ⟨hi_3_0, hi_3_1, hi_3_2, hi_3_3⟩ := hi_3
            refine lv_iload hx hb dX14_statementOf_54 (lv_at hl 6 rfl) ?_
            refine lv_aload_n hx hb dX14_statementOf_56 rfl (lv_at hl 0 rfl) ?_
            refine j7_read hx hb hown hK (C := RX14) (T := TX14) (N := 74) rfl hly_16_58 hlk_122 (hh_3.at 0 rfl) dX14_statementOf_57 ?_
            refine j7_readN hx hb hown hK (C := RX13) (T := TX13) (N := 50) rfl hly_15_11 hlk_671 (hh_3.at 2 rfl) dX14_statementOf_60 ?_
            refine lv_icmp_ge (tgt := 96) hx hb dX14_statementOf_63 (by decide) (fun c_4 => ?_) (fun c_4 => ?_)
            · skip
              have c_4' : v6_3.toInt ≥ py.toInt := jb_ge (rfl) (rfl) c_4
              refine lv_iload hx hb dX14_statementOf_96 (lv_at hl 4 rfl) ?_
              refine lv_if_lt (tgt := 134) hx hb dX14_statementOf_98 (by decide) (fun c_5 => ?_) (fun c_5 => ?_)
              · skip
                have c_5' : v4_1.toInt < 0 := jb_lt (rfl) ((by decide)) c_5
                refine lv_iload hx hb dX14_statementOf_134 (lv_at hl 5 rfl) ?_
                refine lv_if_lt (tgt := 156) hx hb dX14_statementOf_136 (by decide) (fun c_6 => ?_) (fun c_6 => ?_)
                · skip
                  have c_6' : v5_3.toInt < 0 := jb_lt (rfl) ((by decide)) c_6
                  refine lv_aload_n hx hb dX14_statementOf_156 rfl (lv_at hl 0 rfl) ?_
                  refine j_ldcSw hx hb hown rstr307 dX14_statementOf_157 ?_
                  obtain ⟨v_9, hv_9, hh_10⟩ := hh_3.pin (C := RX14) (T := TX14) (N := 74) hB16 rfl (by decide) hg_r0 (i := 6) (by decide) rfl
                  obtain ⟨framed_11, rfl, hloframed_11, hhiframed_11⟩ := hv_9
                  refine va_callv (A0 := jA base) (H0 := s.heap) (va_runV (As := [.ref str307]) (rest := []) ⟨hx, hb, hml, hown, hts⟩ (uX14_word l dC dI ca base B hB hAp hB16 hB101 G0 H_3 r0 str307 4 framed_11) (cwV 1 hts (jgV (jWr_53 _ (List.mem_of_getElem? (i := 22) rfl)) (jWr_53 _ (List.mem_of_getElem? (i := 23) rfl)) (jWr_54 _ (List.mem_of_getElem? (i := 0) rfl)) (jWr_1 _ (List.mem_of_getElem? (i := 5) rfl)) (jWr_54 _ (List.mem_of_getElem? (i := 1) rfl))) rfl rfl rfl (by decide +kernel) ⟨by rw [← hR]; exact Nat.le_of_ble_eq_true rfl, by rw [← hR]; exact Nat.le_of_ble_eq_true rfl⟩) ⟨fun a U g mk q => by obtain ⟨q0, q1, q2, qK, q10, q11, q12, q13⟩ := q; exact ⟨q0, q1, q2, jG.calling g mk a qK, (q10.moved (Vm.Alike.refl U.vm)), q11, q12, q13⟩, hh_10.recv (C := RX14) (T := TX14) (N := 74) hB16 rfl (by decide) hg_r0 hK, fun U hU hW => ⟨rfl, hU, hh_10.2.1, hG.step hW hU hh_10.1, (hstr307.moved hW.alike).kept hh_10.1.2.1, hg_r0, (hh_10.2.2.1.sub (L1 := [(r0, 16, 6, .int framed_11)]) [0] rfl), by first | omega | (refine ⟨?_, ?_, ?_⟩ <;> (first | omega | rfl | assumption | decide | exact Or.inl rfl | exact Or.inr rfl | (simp only; omega)))⟩⟩ rfl rfl hl.1 rfl (lv_room (Nat.le_of_ble_eq_true rfl)) dX14_statementOf_160 ⟨Nat.zero_le _, Nat.zero_le _⟩) hh_10.1 (fun q _ h => h) (fun q h => h) (fun u_7 t_7 H_7 locs_7 ht_7 hvm_7 hr_8 hb_7 hz_7 hk_7 hS_7 => ?_)
                  obtain ⟨qf_7, rfl⟩ : ∃ z, z = u_7 := ⟨_, rfl⟩
                  rw [ht_7] at hb_7
                  obtain ⟨hb_71, hb_72, hb_73, hb_74, hb_75⟩ := hb_7
                  have hh_7 : jSt (dC, dI) B base G0 G0 EX14_statementOf s.heap 0 0 [(r0, 16, 6, .int qf_7), (r0, 16, 58, .ref kr), (kr, 15, 15, .int pf), (kr, 15, 11, .int py), (kr, 15, 17, .ref zf), (kr, 15, 0, .ref zs), (kr, 15, 1, .ref zn), (kr, 15, 2, .ref za), (kr, 15, 3, .ref zb), (kr, 15, 4, .ref zc), (kr, 15, 14, .ref zy)] [(zf, 160, 16, ca 1, ff), (zs, 150, 120000, ca 1, C.s), (zn, 151, 120000, ca 1, C.n), (za, 152, 120000, ca 1, C.a), (zb, 153, 120000, ca 1, C.b), (zc, 154, 120000, ca 1, C.c), (zy, 165, 16, ca 1, C.y)] [] H_7 locs_7 := ((hh_10.call hb_71 hb_72 hb_73 hb_74 hS_7 rfl (L1 := [(r0, 16, 58, .ref kr), (kr, 15, 15, .int pf), (kr, 15, 11, .int py), (kr, 15, 17, .ref zf), (kr, 15, 0, .ref zs), (kr, 15, 1, .ref zn), (kr, 15, 2, .ref za), (kr, 15, 3, .ref zb), (kr, 15, 4, .ref zc), (kr, 15, 14, .ref zy)]) [1, 2, 3, 4, 5, 6, 7, 8, 9, 10] rfl rfl (M1 := [(zf, 160, 16, ca 1, ff), (zs, 150, 120000, ca 1, C.s), (zn, 151, 120000, ca 1, C.n), (za, 152, 120000, ca 1, C.a), (zb, 153, 120000, ca 1, C.b), (zc, 154, 120000, ca 1, C.c), (zy, 165, 16, ca 1, C.y)]) [0, 1, 2, 3, 4, 5, 6] rfl rfl (I1 := []) [] rfl rfl).more hb_75)
                  clear hh_10 ht_7 hvm_7 hz_7 hk_7 hS_7 hb_71 hb_72 hb_73 hb_74 hb_75
                  obtain ⟨hr_8_0, hr_8_1⟩ := hr_8
                  rw [hQ]
                  exact W.vret hx hb hr (fun t ht hW => ⟨⟨(), rfl, trivial, hh_7.rt (M1 := []) [] rfl ht⟩, by rw [ht]; try exact hh_7.1.1, fun q h9 hq => by rw [ht]; try exact hh_7.1.2.1 q h9 hq⟩) hh_7.1.2.2 dX14_statementOf_163
                · skip
                  have c_6' : v5_3.toInt ≥ 0 := jb_lt_n (rfl) ((by decide)) c_6
                  refine lv_aload_n hx hb dX14_statementOf_139 rfl (lv_at hl 0 rfl) ?_
                  refine lv_aload_n hx hb dX14_statementOf_140 rfl (lv_at hl 0 rfl) ?_
                  refine j7_read hx hb hown hK (C := RX14) (T := TX14) (N := 74) rfl hly_16_58 hlk_122 (hh_3.at 0 rfl) dX14_statementOf_141 ?_
                  refine j7_readN hx hb hown hK (C := RX13) (T := TX13) (N := 50) rfl hly_15_14 hlk_683 (hh_3.at 9 rfl) dX14_statementOf_144 ?_
                  refine lv_iload hx hb dX14_statementOf_147 (lv_at hl 5 rfl) ?_
                  refine j7_ialdM hx hb hK hh_3 hB165 1 rfl (by decide) hg_zy (x := v5_3.toInt) (rfl) (by omega) (j := 6) rfl dX14_statementOf_149 (fun z_12 ez_12 (hz_12 : 0 ≤ z_12.toInt ∧ z_12.toInt ≤ 3) => ?_)
                  have hqz_12 : z_12.toInt = jSo C.y (v5_3.toInt) := by unfold jSo; rw [ez_12]
                  obtain ⟨v_15, hv_15, hh_16⟩ := hh_3.pin (C := RX14) (T := TX14) (N := 74) hB16 rfl (by decide) hg_r0 (i := 6) (by decide) rfl
                  obtain ⟨framed_17, rfl, hloframed_17, hhiframed_17⟩ := hv_15
                  refine va_callv (A0 := jA base) (H0 := s.heap) (va_runV (As := [.int z_12]) (rest := []) ⟨hx, hb, hml, hown, hts⟩ (uX14_number l dC dI ca base B hB hAp hB16 hB101 G0 H_3 r0 z_12 framed_17) (cwV 1 hts (jgV (jWr_54 _ (List.mem_of_getElem? (i := 18) rfl)) (jWr_54 _ (List.mem_of_getElem? (i := 19) rfl)) (jWr_54 _ (List.mem_of_getElem? (i := 20) rfl)) (jWr_1 _ (List.mem_of_getElem? (i := 5) rfl)) (jWr_54 _ (List.mem_of_getElem? (i := 21) rfl))) rfl rfl rfl (by decide +kernel) ⟨by rw [← hR]; exact Nat.le_of_ble_eq_true rfl, by rw [← hR]; exact Nat.le_of_ble_eq_true rfl⟩) ⟨fun a U g mk q => by obtain ⟨q0, q1, q2, qK, q10, q11, q12⟩ := q; exact ⟨q0, q1, q2, jG.calling g mk a qK, q10, q11, q12⟩, hh_16.recv (C := RX14) (T := TX14) (N := 74) hB16 rfl (by decide) hg_r0 hK, fun U hU hW => ⟨rfl, hU, hh_16.2.1, hG.step hW hU hh_16.1, hg_r0, (hh_16.2.2.1.sub (L1 := [(r0, 16, 6, .int framed_17)]) [0] rfl), by first | omega | (refine ⟨?_, ?_⟩ <;> (first | omega | rfl | assumption | decide | exact Or.inl rfl | exact Or.inr rfl | (simp only; omega)))⟩⟩ rfl rfl hl.1 rfl (lv_room (Nat.le_of_ble_eq_true rfl)) dX14_statementOf_150 ⟨Nat.zero_le _, Nat.zero_le _⟩) hh_16.1 (fun q _ h => h) (fun q h => h) (fun u_13 t_13 H_13 locs_13 ht_13 hvm_13 hr_14 hb_13 hz_13 hk_13 hS_13 => ?_)
                  obtain ⟨qf_13, rfl⟩ : ∃ z, z = u_13 := ⟨_, rfl⟩
                  rw [ht_13] at hb_13
                  obtain ⟨hb_131, hb_132, hb_133, hb_134, hb_135⟩ := hb_13
                  have hh_13 : jSt (dC, dI) B base G0 G0 EX14_statementOf s.heap 0 0 [(r0, 16, 6, .int qf_13), (r0, 16, 58, .ref kr), (kr, 15, 15, .int pf), (kr, 15, 11, .int py), (kr, 15, 17, .ref zf), (kr, 15, 0, .ref zs), (kr, 15, 1, .ref zn), (kr, 15, 2, .ref za), (kr, 15, 3, .ref zb), (kr, 15, 4, .ref zc), (kr, 15, 14, .ref zy)] [(zf, 160, 16, ca 1, ff), (zs, 150, 120000, ca 1, C.s), (zn, 151, 120000, ca 1, C.n), (za, 152, 120000, ca 1, C.a), (zb, 153, 120000, ca 1, C.b), (zc, 154, 120000, ca 1, C.c), (zy, 165, 16, ca 1, C.y)] [] H_13 locs_13 := ((hh_16.call hb_131 hb_132 hb_133 hb_134 hS_13 rfl (L1 := [(r0, 16, 58, .ref kr), (kr, 15, 15, .int pf), (kr, 15, 11, .int py), (kr, 15, 17, .ref zf), (kr, 15, 0, .ref zs), (kr, 15, 1, .ref zn), (kr, 15, 2, .ref za), (kr, 15, 3, .ref zb), (kr, 15, 4, .ref zc), (kr, 15, 14, .ref zy)]) [1, 2, 3, 4, 5, 6, 7, 8, 9, 10] rfl rfl (M1 := [(zf, 160, 16, ca 1, ff), (zs, 150, 120000, ca 1, C.s), (zn, 151, 120000, ca 1, C.n), (za, 152, 120000, ca 1, C.a), (zb, 153, 120000, ca 1, C.b), (zc, 154, 120000, ca 1, C.c), (zy, 165, 16, ca 1, C.y)]) [0, 1, 2, 3, 4, 5, 6] rfl rfl (I1 := []) [] rfl rfl).more hb_135)
                  clear hh_16 ht_13 hvm_13 hz_13 hk_13 hS_13 hb_131 hb_132 hb_133 hb_134 hb_135
                  obtain ⟨hr_14_0, hr_14_1⟩ := hr_14
                  refine lv_goto (tgt := 163) hx hb dX14_statementOf_153 (by decide) ?_
                  rw [hQ]
                  exact W.vret hx hb hr (fun t ht hW => ⟨⟨(), rfl, trivial, hh_13.rt (M1 := []) [] rfl ht⟩, by rw [ht]; try exact hh_13.1.1, fun q h9 hq => by rw [ht]; try exact hh_13.1.2.1 q h9 hq⟩) hh_13.1.2.2 dX14_statementOf_163
              · skip
                have c_5' : v4_1.toInt ≥ 0 := jb_lt_n (rfl) ((by decide)) c_5
                refine lv_aload_n hx hb dX14_statementOf_101 rfl (lv_at hl 0 rfl) ?_
                refine j7_read hx hb hown hK (C := RX14) (T := TX14) (N := 74) rfl hly_16_58 hlk_122 (hh_3.at 0 rfl) dX14_statementOf_102 ?_
                refine lv_iconst (v := 0) hx hb dX14_statementOf_105 (by decide) ?_
                refine j7_putN hx hb hown hK hh_3 hB hAp hB15 (C := RX13) (T := TX13) (N := 50) rfl (by decide) hg_kr (i := 46) (by decide) hly_15_46 rfl hlk_634 rfl (ty := .int) (v := .int 0) (by decide +kernel) rfl rfl (⟨_, rfl, by omega, by omega⟩) rfl (L1 := [(r0, 16, 58, .ref kr), (kr, 15, 15, .int pf), (kr, 15, 11, .int py), (kr, 15, 17, .ref zf), (kr, 15, 0, .ref zs), (kr, 15, 1, .ref zn), (kr, 15, 2, .ref za), (kr, 15, 3, .ref zb), (kr, 15, 4, .ref zc), (kr, 15, 14, .ref zy)]) [0, 1, 2, 3, 4, 5, 6, 7, 8, 9] rfl rfl rfl dX14_statementOf_106 (fun H_18 locs_18 hh_18 => ?_)
                clear hh_3
                refine lv_aload_n hx hb dX14_statementOf_109 rfl (lv_at hl 0 rfl) ?_
                refine j7_read hx hb hown hK (C := RX14) (T := TX14) (N := 74) rfl hly_16_58 hlk_122 (hh_18.at 1 rfl) dX14_statementOf_110 ?_
                refine lv_aload_n hx hb dX14_statementOf_113 rfl (lv_at hl 0 rfl) ?_
                refine j7_read hx hb hown hK (C := RX14) (T := TX14) (N := 74) rfl hly_16_58 hlk_122 (hh_18.at 1 rfl) dX14_statementOf_114 ?_
                refine j7_readN hx hb hown hK (C := RX13) (T := TX13) (N := 50) rfl hly_15_17 hlk_677 (hh_18.at 4 rfl) dX14_statementOf_117 ?_
                refine lv_iload hx hb dX14_statementOf_120 (lv_at hl 4 rfl) ?_
                refine j7_ialdM hx hb hK hh_18 hB160 1 rfl (by decide) hg_zf (x := v4_1.toInt) (rfl) (by omega) (j := 0) rfl dX14_statementOf_122 (fun z_19 ez_19 (hz_19 : 0 ≤ z_19.toInt ∧ z_19.toInt ≤ 119999) => ?_)
                have hqz_19 : z_19.toInt = jSo ff (v4_1.toInt) := by unfold jSo; rw [ez_19]
                refine va_callv (A0 := jA base) (H0 := s.heap) (va_runV (As := [.int z_19]) (rest := []) ⟨hx, hb, hml, hown, hts⟩ (uX13_printFormula l dC dI ca base B hB hAp hB15 hB101 hB150 hB151 hB152 hB153 hB154 hB155 hB156 hB163 hB164 hB165 hB166 G0 H_18 kr z_19 zs zn za zb zc zy C) (cwV 1 hts (jgV (jWr_72 _ (List.mem_of_getElem? (i := 17) rfl)) (jWr_71 _ (List.mem_of_getElem? (i := 1) rfl)) (jWr_71 _ (List.mem_of_getElem? (i := 2) rfl)) (jWr_12 _ (List.mem_of_getElem? (i := 12) rfl)) (jWr_71 _ (List.mem_of_getElem? (i := 3) rfl))) rfl rfl rfl (by decide +kernel) ⟨by rw [← hR]; exact Nat.le_of_ble_eq_true rfl, by rw [← hR]; exact Nat.le_of_ble_eq_true rfl⟩) ⟨fun a U g mk q => by obtain ⟨q0, q1, q2, qK, q10, q11, q12, q13, q14, q15, q16, q17, q18, q19⟩ := q; exact ⟨q0, q1, q2, jG.calling g mk a qK, q10, q11, q12, q13, q14, q15, q16, q17, q18, q19⟩, hh_18.recv (C := RX13) (T := TX13) (N := 50) hB15 rfl (by decide) hg_kr hK, fun U hU hW => ⟨rfl, hU, hh_18.2.1, hG.step hW hU hh_18.1, hg_kr, hg_zs, hg_zn, hg_za, hg_zb, hg_zc, hg_zy, (hh_18.2.2.1.sub (L1 := [(kr, 15, 0, .ref zs), (kr, 15, 1, .ref zn), (kr, 15, 2, .ref za), (kr, 15, 3, .ref zb), (kr, 15, 4, .ref zc), (kr, 15, 14, .ref zy)]) [5, 6, 7, 8, 9, 10] rfl), (hh_18.2.2.2.2.2.2.2.1.sub (L1 := [(zs, 150, 120000, ca 1, C.s), (zn, 151, 120000, ca 1, C.n), (za, 152, 120000, ca 1, C.a), (zb, 153, 120000, ca 1, C.b), (zc, 154, 120000, ca 1, C.c), (zy, 165, 16, ca 1, C.y)]) [1, 2, 3, 4, 5, 6] rfl), by first | assumption | (rw [hqz_19]; exact (hp0 _ (by omega) (by omega)).1.wide (by omega) (by omega)) | omega⟩⟩ rfl rfl hl.1 rfl (lv_room (Nat.le_of_ble_eq_true rfl)) dX14_statementOf_123 ⟨Nat.zero_le _, Nat.zero_le _⟩) hh_18.1 (fun q _ h => h) (fun q h => h) (fun u_20 t_20 H_20 locs_20 ht_20 hvm_20 hr_21 hb_20 hz_20 hk_20 hS_20 => ?_)
                rw [ht_20] at hb_20
                obtain ⟨hb_201, hb_202, hb_203, hb_204, hb_205⟩ := hb_20
                have hh_20 : jSt (dC, dI) B base G0 G0 EX14_statementOf s.heap 0 0 [(r0, 16, 58, .ref kr), (kr, 15, 15, .int pf), (kr, 15, 11, .int py), (kr, 15, 17, .ref zf), (kr, 15, 0, .ref zs), (kr, 15, 1, .ref zn), (kr, 15, 2, .ref za), (kr, 15, 3, .ref zb), (kr, 15, 4, .ref zc), (kr, 15, 14, .ref zy)] [(zf, 160, 16, ca 1, ff), (zs, 150, 120000, ca 1, C.s), (zn, 151, 120000, ca 1, C.n), (za, 152, 120000, ca 1, C.a), (zb, 153, 120000, ca 1, C.b), (zc, 154, 120000, ca 1, C.c), (zy, 165, 16, ca 1, C.y)] [] H_20 locs_20 := ((hh_18.call hb_201 hb_202 hb_203 hb_204 hS_20 rfl (L1 := [(r0, 16, 58, .ref kr), (kr, 15, 15, .int pf), (kr, 15, 11, .int py), (kr, 15, 17, .ref zf), (kr, 15, 0, .ref zs), (kr, 15, 1, .ref zn), (kr, 15, 2, .ref za), (kr, 15, 3, .ref zb), (kr, 15, 4, .ref zc), (kr, 15, 14, .ref zy)]) [1, 2, 3, 4, 5, 6, 7, 8, 9, 10] rfl rfl (M1 := [(zf, 160, 16, ca 1, ff), (zs, 150, 120000, ca 1, C.s), (zn, 151, 120000, ca 1, C.n), (za, 152, 120000, ca 1, C.a), (zb, 153, 120000, ca 1, C.b), (zc, 154, 120000, ca 1, C.c), (zy, 165, 16, ca 1, C.y)]) [0, 1, 2, 3, 4, 5, 6] rfl rfl (I1 := []) [] rfl rfl).more hb_205)
                clear hh_18 ht_20 hvm_20 hz_20 hk_20 hS_20 hb_201 hb_202 hb_203 hb_204 hb_205
                refine lv_aload_n hx hb dX14_statementOf_126 rfl (lv_at hl 0 rfl) ?_
                refine lv_iconst (v := 0) hx hb dX14_statementOf_127 (by decide) ?_
                refine va_callv (A0 := jA base) (H0 := s.heap) (va_runV (As := [.int 0]) (rest := []) ⟨hx, hb, hml, hown, hts⟩ (uX14_putLine l dC dI ca base B hB hAp hB15 hB16 hB101 G0 H_20 r0 0) (cwV 1 hts (jgV (jWr_70 _ (List.mem_of_getElem? (i := 11) rfl)) (jWr_70 _ (List.mem_of_getElem? (i := 12) rfl)) (jWr_70 _ (List.mem_of_getElem? (i := 13) rfl)) (jWr_1 _ (List.mem_of_getElem? (i := 5) rfl)) (jWr_70 _ (List.mem_of_getElem? (i := 14) rfl))) rfl rfl rfl (by decide +kernel) ⟨by rw [← hR]; exact Nat.le_of_ble_eq_true rfl, by rw [← hR]; exact Nat.le_of_ble_eq_true rfl⟩) ⟨fun a U g mk q => by obtain ⟨q0, q1, q2, qK, q10, q11, q12⟩ := q; exact ⟨q0, q1, q2, jG.calling g mk a qK, q10, q11, q12⟩, hh_20.recv (C := RX14) (T := TX14) (N := 74) hB16 rfl (by decide) hg_r0 hK, fun U hU hW => ⟨rfl, hU, hh_20.2.1, hG.step hW hU hh_20.1, hg_r0, jP.nil, by first | omega | (refine ⟨?_, ?_⟩ <;> (first | omega | rfl | assumption | decide | exact Or.inl rfl | exact Or.inr rfl | (simp only; omega)))⟩⟩ rfl rfl hl.1 rfl (lv_room (Nat.le_of_ble_eq_true rfl)) dX14_statementOf_128 ⟨Nat.zero_le _, Nat.zero_le _⟩) hh_20.1 (fun q _ h => h) (fun q h => h) (fun u_22 t_22 H_22 locs_22 ht_22 hvm_22 hr_23 hb_22 hz_22 hk_22 hS_22 => ?_)
                rw [ht_22] at hb_22
                obtain ⟨hb_221, hb_222, hb_223, hb_224, hb_225⟩ := hb_22
                have hh_22 : jSt (dC, dI) B base G0 G0 EX14_statementOf s.heap 0 0 [(r0, 16, 58, .ref kr), (kr, 15, 15, .int pf), (kr, 15, 11, .int py), (kr, 15, 17, .ref zf), (kr, 15, 0, .ref zs), (kr, 15, 1, .ref zn), (kr, 15, 2, .ref za), (kr, 15, 3, .ref zb), (kr, 15, 4, .ref zc), (kr, 15, 14, .ref zy)] [(zf, 160, 16, ca 1, ff), (zs, 150, 120000, ca 1, C.s), (zn, 151, 120000, ca 1, C.n), (za, 152, 120000, ca 1, C.a), (zb, 153, 120000, ca 1, C.b), (zc, 154, 120000, ca 1, C.c), (zy, 165, 16, ca 1, C.y)] [] H_22 locs_22 := ((hh_20.call hb_221 hb_222 hb_223 hb_224 hS_22 rfl (L1 := [(r0, 16, 58, .ref kr), (kr, 15, 15, .int pf), (kr, 15, 11, .int py), (kr, 15, 17, .ref zf), (kr, 15, 0, .ref zs), (kr, 15, 1, .ref zn), (kr, 15, 2, .ref za), (kr, 15, 3, .ref zb), (kr, 15, 4, .ref zc), (kr, 15, 14, .ref zy)]) [0, 1, 2, 3, 4, 5, 6, 7, 8, 9] rfl rfl (M1 := [(zf, 160, 16, ca 1, ff), (zs, 150, 120000, ca 1, C.s), (zn, 151, 120000, ca 1, C.n), (za, 152, 120000, ca 1, C.a), (zb, 153, 120000, ca 1, C.b), (zc, 154, 120000, ca 1, C.c), (zy, 165, 16, ca 1, C.y)]) [0, 1, 2, 3, 4, 5, 6] rfl rfl (I1 := []) [] rfl rfl).more hb_225)
                clear hh_20 ht_22 hvm_22 hz_22 hk_22 hS_22 hb_221 hb_222 hb_223 hb_224 hb_225
                refine lv_goto (tgt := 163) hx hb dX14_statementOf_131 (by decide) ?_
                rw [hQ]
                exact W.vret hx hb hr (fun t ht hW => ⟨⟨(), rfl, trivial, hh_22.rt (M1 := []) [] rfl ht⟩, by rw [ht]; try exact hh_22.1.1, fun q h9 hq => by rw [ht]; try exact hh_22.1.2.1 q h9 hq⟩) hh_22.1.2.2 dX14_statementOf_163
            · skip
              have c_4' : v6_3.toInt < py.toInt := jb_ge_n (rfl) (rfl) c_4
              refine lv_aload_n hx hb dX14_statementOf_66 rfl (lv_at hl 0 rfl) ?_
              refine lv_aload_n hx hb dX14_statementOf_67 rfl (lv_at hl 0 rfl) ?_
              refine j7_read hx hb hown hK (C := RX14) (T := TX14) (N := 74) rfl hly_16_58 hlk_122 (hh_3.at 0 rfl) dX14_statementOf_68 ?_
              obtain ⟨v_24, hv_24, hh_25⟩ := hh_3.pin (C := RX13) (T := TX13) (N := 50) hB15 rfl (by decide) hg_kr (i := 12) (by decide) rfl
              clear hh_3
              obtain ⟨symbol_26, rfl, hg_symbol_26⟩ := hv_24
              refine j7_readN hx hb hown hK (C := RX13) (T := TX13) (N := 50) rfl hly_15_12 hlk_674 (hh_25.at 0 rfl) dX14_statementOf_71 ?_
              refine lv_iload hx hb dX14_statementOf_74 (lv_at hl 6 rfl) ?_
              refine j7_iald hx hb hK hh_25 hB163 1 rfl (by decide) hg_symbol_26 (x := v6_3.toInt) (rfl) (by omega) dX14_statementOf_76 (fun z_27 (hz_27 : 0 ≤ z_27.toInt ∧ z_27.toInt ≤ 1599) => ?_)
              refine lv_aload_n hx hb dX14_statementOf_77 rfl (lv_at hl 1 rfl) ?_
              refine lv_iload_n hx hb dX14_statementOf_78 rfl (lv_at hl 2 rfl) ?_
              refine lv_iload_n hx hb dX14_statementOf_79 rfl (lv_at hl 3 rfl) ?_
              refine va_calli (A0 := jA base) (H0 := s.heap) (va_runV (As := [.int z_27, .ref r1, .int a2, .int a3]) (rest := []) ⟨hx, hb, hml, hown, hts⟩ (uX14_isNamed l dC dI ca base B hB hAp hB15 hB16 hB101 hB155 hB156 hB166 G0 H_3 r0 z_27 r1 a2 a3 n1) (cwV 4 hts (jgV (jWr_72 _ (List.mem_of_getElem? (i := 13) rfl)) (jWr_72 _ (List.mem_of_getElem? (i := 14) rfl)) (jWr_72 _ (List.mem_of_getElem? (i := 15) rfl)) (jWr_1 _ (List.mem_of_getElem? (i := 5) rfl)) (jWr_72 _ (List.mem_of_getElem? (i := 16) rfl))) rfl rfl rfl (by decide +kernel) ⟨by rw [← hR]; exact Nat.le_of_ble_eq_true rfl, by rw [← hR]; exact Nat.le_of_ble_eq_true rfl⟩) ⟨fun a U g mk q => by obtain ⟨q0, q1, q2, qK, q10, q11, q12, q13⟩ := q; exact ⟨q0, q1, q2, jG.calling g mk a qK, q10, q11, q12, q13⟩, hh_25.recv (C := RX14) (T := TX14) (N := 74) hB16 rfl (by decide) hg_r0 hK, fun U hU hW => ⟨rfl, hU, hh_25.2.1, hG.step hW hU hh_25.1, hg_r1, hg_r0, jP.nil, by first | omega | (refine ⟨?_, ?_, ?_, ?_, ?_⟩ <;> (first | omega | rfl | assumption | decide | exact Or.inl rfl | exact Or.inr rfl | (simp only; omega)))⟩⟩ rfl rfl hl.1 rfl (lv_room (Nat.le_of_ble_eq_true rfl)) dX14_statementOf_80 ⟨Nat.zero_le _, Nat.zero_le _⟩) hh_25.1 (fun q _ h => h) (fun q h => h) (fun r_29 u_28 t_28 H_28 locs_28 ht_28 hvm_28 hr_29 hb_28 hz_28 hk_28 hS_28 => ?_)
              rw [ht_28] at hb_28
              obtain ⟨hb_281, hb_282, hb_283, hb_284, hb_285⟩ := hb_28
              have hh_28 : jSt (dC, dI) B base G0 G0 EX14_statementOf s.heap 0 0 [(kr, 15, 12, .ref symbol_26), (r0, 16, 58, .ref kr), (kr, 15, 15, .int pf), (kr, 15, 11, .int py), (kr, 15, 17, .ref zf), (kr, 15, 0, .ref zs), (kr, 15, 1, .ref zn), (kr, 15, 2, .ref za), (kr, 15, 3, .ref zb), (kr, 15, 4, .ref zc), (kr, 15, 14, .ref zy)] [(zf, 160, 16, ca 1, ff), (zs, 150, 120000, ca 1, C.s), (zn, 151, 120000, ca 1, C.n), (za, 152, 120000, ca 1, C.a), (zb, 153, 120000, ca 1, C.b), (zc, 154, 120000, ca 1, C.c), (zy, 165, 16, ca 1, C.y)] [] H_28 locs_28 := ((hh_25.call hb_281 hb_282 hb_283 hb_284 hS_28 rfl (L1 := [(kr, 15, 12, .ref symbol_26), (r0, 16, 58, .ref kr), (kr, 15, 15, .int pf), (kr, 15, 11, .int py), (kr, 15, 17, .ref zf), (kr, 15, 0, .ref zs), (kr, 15, 1, .ref zn), (kr, 15, 2, .ref za), (kr, 15, 3, .ref zb), (kr, 15, 4, .ref zc), (kr, 15, 14, .ref zy)]) [0, 1, 2, 3, 4, 5, 6, 7, 8, 9, 10] rfl rfl (M1 := [(zf, 160, 16, ca 1, ff), (zs, 150, 120000, ca 1, C.s), (zn, 151, 120000, ca 1, C.n), (za, 152, 120000, ca 1, C.a), (zb, 153, 120000, ca 1, C.b), (zc, 154, 120000, ca 1, C.c), (zy, 165, 16, ca 1, C.y)]) [0, 1, 2, 3, 4, 5, 6] rfl rfl (I1 := []) [] rfl rfl).more hb_285)
              clear hh_25 ht_28 hvm_28 hz_28 hk_28 hS_28 hb_281 hb_282 hb_283 hb_284 hb_285
              obtain ⟨hr_29b, hr_29p⟩ := hr_29
              have hr_29' := jb_01 hr_29b
              refine lv_if_eq (tgt := 90) hx hb dX14_statementOf_83 (by decide) (fun c_30 => ?_) (fun c_30 => ?_)
              · skip
                have c_30' : r_29.toInt = 0 := jb_eq (rfl) ((by decide)) c_30
                obtain ⟨z_31, ez_31⟩ : ∃ y : Int32, y = v6_3 + 1 := ⟨_, rfl⟩
                refine lv_iinc (v := z_31) (lv' := [(6, .int z_31), (0, .ref r0), (1, .ref r1), (2, .int a2), (3, .int a3), (4, .int v4_1), (5, .int v5_3)]) hx hb dX14_statementOf_90 hl (k := 6) rfl (by rw [ez_31]; rfl) (by decide) rfl (fun ls hl => ?_)
                have hz_31 : z_31.toInt = v6_3.toInt + 1 := by rw [ez_31]; exact jb_iadd2 (rfl) (by decide) (by omega)
                refine lv_goto (tgt := 54) hx hb dX14_statementOf_93 (by decide) ?_
                exact L54 v5_3 z_31 _ _ (hh_28.sub (L1 := [(r0, 16, 58, .ref kr), (kr, 15, 15, .int pf), (kr, 15, 11, .int py), (kr, 15, 17, .ref zf), (kr, 15, 0, .ref zs), (kr, 15, 1, .ref zn), (kr, 15, 2, .ref za), (kr, 15, 3, .ref zb), (kr, 15, 4, .ref zc), (kr, 15, 14, .ref zy)]) [1, 2, 3, 4, 5, 6, 7, 8, 9, 10] rfl (M1 := [(zf, 160, 16, ca 1, ff), (zs, 150, 120000, ca 1, C.s), (zn, 151, 120000, ca 1, C.n), (za, 152, 120000, ca 1, C.a), (zb, 153, 120000, ca 1, C.b), (zc, 154, 120000, ca 1, C.c), (zy, 165, 16, ca 1, C.y)]) [0, 1, 2, 3, 4, 5, 6] rfl (I1 := []) [] rfl) (by first | omega | (refine ⟨?_, ?_, ?_, ?_⟩ <;> (first | omega | rfl | assumption | decide | exact Or.inl rfl | exact Or.inr rfl | (simp only; omega)))) (by omega) _ (lv_sub hl [1, 2, 3, 4, 5, 6, 0] rfl)
              · skip
                have c_30' : r_29.toInt ≠ 0 := jb_eq_n (rfl) ((by decide)) c_30
                refine lv_iload hx hb dX14_statementOf_86 (lv_at hl 6 rfl) ?_
                refine lv_istore (lv' := [(5, .int v6_3), (0, .ref r0), (1, .ref r1), (2, .int a2), (3, .int a3), (4, .int v4_1), (6, .int v6_3)]) hx hb dX14_statementOf_88 hl (by decide) rfl (fun ls hl => ?_)
                obtain ⟨z_32, ez_32⟩ : ∃ y : Int32, y = v6_3 + 1 := ⟨_, rfl⟩
                refine lv_iinc (v := z_32) (lv' := [(6, .int z_32), (5, .int v6_3), (0, .ref r0), (1, .ref r1), (2, .int a2), (3, .int a3), (4, .int v4_1)]) hx hb dX14_statementOf_90 hl (k := 6) rfl (by rw [ez_32]; rfl) (by decide) rfl (fun ls hl => ?_)
                have hz_32 : z_32.toInt = v6_3.toInt + 1 := by rw [ez_32]; exact jb_iadd2 (rfl) (by decide) (by omega)
                refine lv_goto (tgt := 54) hx hb dX14_statementOf_93 (by decide) ?_
                exact L54 v6_3 z_32 _ _ (hh_28.sub (L1 := [(r0, 16, 58, .ref kr), (kr, 15, 15, .int pf), (kr, 15, 11, .int py), (kr, 15, 17, .ref zf), (kr, 15, 0, .ref zs), (kr, 15, 1, .ref zn), (kr, 15, 2, .ref za), (kr, 15, 3, .ref zb), (kr, 15, 4, .ref zc), (kr, 15, 14, .ref zy)]) [1, 2, 3, 4, 5, 6, 7, 8, 9, 10] rfl (M1 := [(zf, 160, 16, ca 1, ff), (zs, 150, 120000, ca 1, C.s), (zn, 151, 120000, ca 1, C.n), (za, 152, 120000, ca 1, C.a), (zb, 153, 120000, ca 1, C.b), (zc, 154, 120000, ca 1, C.c), (zy, 165, 16, ca 1, C.y)]) [0, 1, 2, 3, 4, 5, 6] rfl (I1 := []) [] rfl) (by first | omega | (refine ⟨?_, ?_, ?_, ?_⟩ <;> (first | omega | rfl | assumption | decide | exact Or.inl rfl | exact Or.inr rfl | (simp only; omega)))) (by omega) _ (lv_sub hl [2, 3, 4, 5, 6, 1, 0] rfl)
        exact L54 (py.toInt - (0 : Int32).toInt : Int).toNat.succ (-1) 0 _ _ hh_1 (by first | omega | (refine ⟨?_, ?_, ?_, ?_⟩ <;> (first | omega | rfl | assumption | decide | exact Or.inl rfl | exact Or.inr rfl | (simp only; omega)))) (by omega) _ (lv_sub hl [1, 2, 3, 4, 5, 6, 0] rfl)
      · skip
        have c_2' : v6_1.toInt < pf.toInt := jb_ge_n (rfl) (rfl) c_2
        refine lv_aload_n hx hb dX14_statementOf_21 rfl (lv_at hl 0 rfl) ?_
        refine lv_aload_n hx hb dX14_statementOf_22 rfl (lv_at hl 0 rfl) ?_
        refine j7_read hx hb hown hK (C := RX14) (T := TX14) (N := 74) rfl hly_16_58 hlk_122 (hh_1.at 0 rfl) dX14_statementOf_23 ?_
        obtain ⟨v_33, hv_33, hh_34⟩ := hh_1.pin (C := RX13) (T := TX13) (N := 50) hB15 rfl (by decide) hg_kr (i := 16) (by decide) rfl
        clear hh_1
        obtain ⟨factName_35, rfl, hg_factName_35⟩ := hv_33
        refine j7_readN hx hb hown hK (C := RX13) (T := TX13) (N := 50) rfl hly_15_16 hlk_664 (hh_34.at 0 rfl) dX14_statementOf_26 ?_
        refine lv_iload hx hb dX14_statementOf_29 (lv_at hl 6 rfl) ?_
        refine j7_iald hx hb hK hh_34 hB163 1 rfl (by decide) hg_factName_35 (x := v6_1.toInt) (rfl) (by omega) dX14_statementOf_31 (fun z_36 (hz_36 : 0 ≤ z_36.toInt ∧ z_36.toInt ≤ 1599) => ?_)
        refine lv_aload_n hx hb dX14_statementOf_32 rfl (lv_at hl 1 rfl) ?_
        refine lv_iload_n hx hb dX14_statementOf_33 rfl (lv_at hl 2 rfl) ?_
        refine lv_iload_n hx hb dX14_statementOf_34 rfl (lv_at hl 3 rfl) ?_
        refine va_calli (A0 := jA base) (H0 := s.heap) (va_runV (As := [.int z_36, .ref r1, .int a2, .int a3]) (rest := []) ⟨hx, hb, hml, hown, hts⟩ (uX14_isNamed l dC dI ca base B hB hAp hB15 hB16 hB101 hB155 hB156 hB166 G0 H_1 r0 z_36 r1 a2 a3 n1) (cwV 4 hts (jgV (jWr_72 _ (List.mem_of_getElem? (i := 13) rfl)) (jWr_72 _ (List.mem_of_getElem? (i := 14) rfl)) (jWr_72 _ (List.mem_of_getElem? (i := 15) rfl)) (jWr_1 _ (List.mem_of_getElem? (i := 5) rfl)) (jWr_72 _ (List.mem_of_getElem? (i := 16) rfl))) rfl rfl rfl (by decide +kernel) ⟨by rw [← hR]; exact Nat.le_of_ble_eq_true rfl, by rw [← hR]; exact Nat.le_of_ble_eq_true rfl⟩) ⟨fun a U g mk q => by obtain ⟨q0, q1, q2, qK, q10, q11, q12, q13⟩ := q; exact ⟨q0, q1, q2, jG.calling g mk a qK, q10, q11, q12, q13⟩, hh_34.recv (C := RX14) (T := TX14) (N := 74) hB16 rfl (by decide) hg_r0 hK, fun U hU hW => ⟨rfl, hU, hh_34.2.1, hG.step hW hU hh_34.1, hg_r1, hg_r0, jP.nil, by first | omega | (refine ⟨?_, ?_, ?_, ?_, ?_⟩ <;> (first | omega | rfl | assumption | decide | exact Or.inl rfl | exact Or.inr rfl | (simp only; omega)))⟩⟩ rfl rfl hl.1 rfl (lv_room (Nat.le_of_ble_eq_true rfl)) dX14_statementOf_35 ⟨Nat.zero_le _, Nat.zero_le _⟩) hh_34.1 (fun q _ h => h) (fun q h => h) (fun r_38 u_37 t_37 H_37 locs_37 ht_37 hvm_37 hr_38 hb_37 hz_37 hk_37 hS_37 => ?_)
        rw [ht_37] at hb_37
        obtain ⟨hb_371, hb_372, hb_373, hb_374, hb_375⟩ := hb_37
        have hh_37 : jSt (dC, dI) B base G0 G0 EX14_statementOf s.heap 0 0 [(kr, 15, 16, .ref factName_35), (r0, 16, 58, .ref kr), (kr, 15, 15, .int pf), (kr, 15, 11, .int py), (kr, 15, 17, .ref zf), (kr, 15, 0, .ref zs), (kr, 15, 1, .ref zn), (kr, 15, 2, .ref za), (kr, 15, 3, .ref zb), (kr, 15, 4, .ref zc), (kr, 15, 14, .ref zy)] [(zf, 160, 16, ca 1, ff), (zs, 150, 120000, ca 1, C.s), (zn, 151, 120000, ca 1, C.n), (za, 152, 120000, ca 1, C.a), (zb, 153, 120000, ca 1, C.b), (zc, 154, 120000, ca 1, C.c), (zy, 165, 16, ca 1, C.y)] [] H_37 locs_37 := ((hh_34.call hb_371 hb_372 hb_373 hb_374 hS_37 rfl (L1 := [(kr, 15, 16, .ref factName_35), (r0, 16, 58, .ref kr), (kr, 15, 15, .int pf), (kr, 15, 11, .int py), (kr, 15, 17, .ref zf), (kr, 15, 0, .ref zs), (kr, 15, 1, .ref zn), (kr, 15, 2, .ref za), (kr, 15, 3, .ref zb), (kr, 15, 4, .ref zc), (kr, 15, 14, .ref zy)]) [0, 1, 2, 3, 4, 5, 6, 7, 8, 9, 10] rfl rfl (M1 := [(zf, 160, 16, ca 1, ff), (zs, 150, 120000, ca 1, C.s), (zn, 151, 120000, ca 1, C.n), (za, 152, 120000, ca 1, C.a), (zb, 153, 120000, ca 1, C.b), (zc, 154, 120000, ca 1, C.c), (zy, 165, 16, ca 1, C.y)]) [0, 1, 2, 3, 4, 5, 6] rfl rfl (I1 := []) [] rfl rfl).more hb_375)
        clear hh_34 ht_37 hvm_37 hz_37 hk_37 hS_37 hb_371 hb_372 hb_373 hb_374 hb_375
        obtain ⟨hr_38b, hr_38p⟩ := hr_38
        have hr_38' := jb_01 hr_38b
        refine lv_if_eq (tgt := 45) hx hb dX14_statementOf_38 (by decide) (fun c_39 => ?_) (fun c_39 => ?_)
        · skip
          have c_39' : r_38.toInt = 0 := jb_eq (rfl) ((by decide)) c_39
          obtain ⟨z_40, ez_40⟩ : ∃ y : Int32, y = v6_1 + 1 := ⟨_, rfl⟩
          refine lv_iinc (v := z_40) (lv' := [(6, .int z_40), (0, .ref r0), (1, .ref r1), (2, .int a2), (3, .int a3), (4, .int v4_1), (5, .int (-1))]) hx hb dX14_statementOf_45 hl (k := 6) rfl (by rw [ez_40]; rfl) (by decide) rfl (fun ls hl => ?_)
          have hz_40 : z_40.toInt = v6_1.toInt + 1 := by rw [ez_40]; exact jb_iadd2 (rfl) (by decide) (by omega)
          refine lv_goto (tgt := 9) hx hb dX14_statementOf_48 (by decide) ?_
          exact L9 v4_1 z_40 _ _ (hh_37.sub (L1 := [(r0, 16, 58, .ref kr), (kr, 15, 15, .int pf), (kr, 15, 11, .int py), (kr, 15, 17, .ref zf), (kr, 15, 0, .ref zs), (kr, 15, 1, .ref zn), (kr, 15, 2, .ref za), (kr, 15, 3, .ref zb), (kr, 15, 4, .ref zc), (kr, 15, 14, .ref zy)]) [1, 2, 3, 4, 5, 6, 7, 8, 9, 10] rfl (M1 := [(zf, 160, 16, ca 1, ff), (zs, 150, 120000, ca 1, C.s), (zn, 151, 120000, ca 1, C.n), (za, 152, 120000, ca 1, C.a), (zb, 153, 120000, ca 1, C.b), (zc, 154, 120000, ca 1, C.c), (zy, 165, 16, ca 1, C.y)]) [0, 1, 2, 3, 4, 5, 6] rfl (I1 := []) [] rfl) (by first | omega | (refine ⟨?_, ?_, ?_, ?_⟩ <;> (first | omega | rfl | assumption | decide | exact Or.inl rfl | exact Or.inr rfl | (simp only; omega)))) (by omega) _ (lv_sub hl [1, 2, 3, 4, 5, 6, 0] rfl)
        · skip
          have c_39' : r_38.toInt ≠ 0 := jb_eq_n (rfl) ((by decide)) c_39
          refine lv_iload hx hb dX14_statementOf_41 (lv_at hl 6 rfl) ?_
          refine lv_istore (lv' := [(4, .int v6_1), (0, .ref r0), (1, .ref r1), (2, .int a2), (3, .int a3), (5, .int (-1)), (6, .int v6_1)]) hx hb dX14_statementOf_43 hl (by decide) rfl (fun ls hl => ?_)
          obtain ⟨z_41, ez_41⟩ : ∃ y : Int32, y = v6_1 + 1 := ⟨_, rfl⟩
          refine lv_iinc (v := z_41) (lv' := [(6, .int z_41), (4, .int v6_1), (0, .ref r0), (1, .ref r1), (2, .int a2), (3, .int a3), (5, .int (-1))]) hx hb dX14_statementOf_45 hl (k := 6) rfl (by rw [ez_41]; rfl) (by decide) rfl (fun ls hl => ?_)
          have hz_41 : z_41.toInt = v6_1.toInt + 1 := by rw [ez_41]; exact jb_iadd2 (rfl) (by decide) (by omega)
          refine lv_goto (tgt := 9) hx hb dX14_statementOf_48 (by decide) ?_
          exact L9 v6_1 z_41 _ _ (hh_37.sub (L1 := [(r0, 16, 58, .ref kr), (kr, 15, 15, .int pf), (kr, 15, 11, .int py), (kr, 15, 17, .ref zf), (kr, 15, 0, .ref zs), (kr, 15, 1, .ref zn), (kr, 15, 2, .ref za), (kr, 15, 3, .ref zb), (kr, 15, 4, .ref zc), (kr, 15, 14, .ref zy)]) [1, 2, 3, 4, 5, 6, 7, 8, 9, 10] rfl (M1 := [(zf, 160, 16, ca 1, ff), (zs, 150, 120000, ca 1, C.s), (zn, 151, 120000, ca 1, C.n), (za, 152, 120000, ca 1, C.a), (zb, 153, 120000, ca 1, C.b), (zc, 154, 120000, ca 1, C.c), (zy, 165, 16, ca 1, C.y)]) [0, 1, 2, 3, 4, 5, 6] rfl (I1 := []) [] rfl) (by first | omega | (refine ⟨?_, ?_, ?_, ?_⟩ <;> (first | omega | rfl | assumption | decide | exact Or.inl rfl | exact Or.inr rfl | (simp only; omega)))) (by omega) _ (lv_sub hl [2, 3, 4, 5, 1, 6, 0] rfl)
  exact L9 (pf.toInt - (0 : Int32).toInt : Int).toNat.succ (-1) 0 _ _ hh (by first | omega | (refine ⟨?_, ?_, ?_, ?_⟩ <;> (first | omega | rfl | assumption | decide | exact Or.inl rfl | exact Or.inr rfl | (simp only; omega)))) (by omega) _ (lv_sub hl [3, 4, 5, 6, 2, 1, 0] rfl)
end
section
-- the documents of the reference: their sentences are in order (an invariant with a footprint; x: the document that is being changed)
def jD14 (dC : Nat → ClassId) (dI : Nat → Nat → Nat) (ca : Nat → ClassId) (G : jT) (a yb ye : Nat) (H : Heap) : Prop := ∃ (fb fe : Nat → Int32) (ps pz pc : Int32), G yb = some (190, 40) ∧ G ye = some (191, 40) ∧ jP (dC, dI) G H [(a, 14, 6, .ref yb), (a, 14, 7, .ref ye), (a, 14, 5, .int ps), (a, 14, 4, .int pz), (a, 14, 9, .int pc)] ∧ jMc (dC, dI) G H [(yb, 190, 40, ca 1, fb), (ye, 191, 40, ca 1, fe)] ∧ jSrt fb fe ps.toInt pz.toInt ∧ 0 ≤ pc.toInt ∧ pc.toInt ≤ ps.toInt ∧ ps.toInt ≤ 40 ∧ 0 ≤ pz.toInt ∧ pz.toInt ≤ 1500
def jDX (dC : Nat → ClassId) (dI : Nat → Nat → Nat) (ca : Nat → ClassId) (G : jT) (x : Option Nat) (H : Heap) : Prop := ∃ Yb Ye : Nat → Nat, (∀ a, G a = some (14, 0) → jf (dC, dI) 14 a 6 (.ref (Yb a)) H ∧ jf (dC, dI) 14 a 7 (.ref (Ye a)) H) ∧ (∀ a b, G a = some (14, 0) → G b = some (14, 0) → Yb a = Yb b → a = b) ∧ (∀ a b, G a = some (14, 0) → G b = some (14, 0) → Ye a = Ye b → a = b) ∧ ∀ a, G a = some (14, 0) → some a ≠ x → jD14 dC dI ca G a (Yb a) (Ye a) H
/-- what is known of one document -/
theorem jDX.at {dC : Nat → ClassId} {dI : Nat → Nat → Nat} {ca : Nat → ClassId} {G : jT} {x : Option Nat} {H : Heap} (h : jDX dC dI ca G x H) {a : Nat} (ha : G a = some (14, 0)) (hx : some a ≠ x) : ∃ yb ye, jD14 dC dI ca G a yb ye H := by
  obtain ⟨Yb, Ye, -, -, -, h4⟩ := h
  exact ⟨_, _, h4 a ha hx⟩
end
section
-- invariants with a footprint, as a walk carries them: contents of reference arrays, one field of all documents, the sentences of all documents
def jQc (dC : Nat → ClassId) (dI : Nat → Nat → Nat) (cA : ClassId) (a n : Nat) (f : Nat → Option Nat) (H : Heap) : Prop := va_at (dC, dI) vwCl (a, .inl (cA, n, .inr (.inr (.inr (.inr f))))) H
def jVl (dC : Nat → ClassId) (dI : Nat → Nat → Nat) (G : jT) (i : Nat) (v : Nat → Int32) (H : Heap) : Prop := ∀ a, G a = some (14, 0) → jf (dC, dI) 14 a i (.int (v a)) H
abbrev jF9 : List (Nat × Nat) := [(14, 9)]
abbrev jFs : List (Nat × Nat) := [(14, 5), (14, 6), (14, 7), (190, 0), (191, 0)]
/-- one document: ps sentences, in order -/
def jD2 (dC : Nat → ClassId) (dI : Nat → Nat → Nat) (ca : Nat → ClassId) (G : jT) (a yb ye : Nat) (ps : Int32) (H : Heap) : Prop := ∃ (fb fe : Nat → Int32), G yb = some (190, 40) ∧ G ye = some (191, 40) ∧ jP (dC, dI) G H [(a, 14, 6, .ref yb), (a, 14, 7, .ref ye), (a, 14, 5, .int ps)] ∧ jMc (dC, dI) G H [(yb, 190, 40, ca 1, fb), (ye, 191, 40, ca 1, fe)] ∧ jSrt fb fe ps.toInt 1500 ∧ 0 ≤ ps.toInt ∧ ps.toInt ≤ 40
/-- all documents but x -/
def jDY (dC : Nat → ClassId) (dI : Nat → Nat → Nat) (ca : Nat → ClassId) (G : jT) (x : Option Nat) (sn : Nat → Int32) (H : Heap) : Prop := ∃ Yb Ye : Nat → Nat, (∀ a, G a = some (14, 0) → jf (dC, dI) 14 a 6 (.ref (Yb a)) H ∧ jf (dC, dI) 14 a 7 (.ref (Ye a)) H ∧ G (Yb a) = some (190, 40) ∧ G (Ye a) = some (191, 40)) ∧ (∀ a b, G a = some (14, 0) → G b = some (14, 0) → Yb a = Yb b → a = b) ∧ (∀ a b, G a = some (14, 0) → G b = some (14, 0) → Ye a = Ye b → a = b) ∧ ∀ a, G a = some (14, 0) → some a ≠ x → jD2 dC dI ca G a (Yb a) (Ye a) (sn a) H
theorem jDY.at {dC : Nat → ClassId} {dI : Nat → Nat → Nat} {ca : Nat → ClassId} {G : jT} {x : Option Nat} {sn : Nat → Int32} {H : Heap} (h : jDY dC dI ca G x sn H) {a : Nat} (ha : G a = some (14, 0)) (hx : some a ≠ x) : ∃ (yb ye : Nat) (fb fe : Nat → Int32), G yb = some (190, 40) ∧ G ye = some (191, 40) ∧ jP (dC, dI) G H [(a, 14, 6, .ref yb), (a, 14, 7, .ref ye), (a, 14, 5, .int (sn a))] ∧ jMc (dC, dI) G H [(yb, 190, 40, ca 1, fb), (ye, 191, 40, ca 1, fe)] ∧ jSrt fb fe (sn a).toInt 1500 ∧ 0 ≤ (sn a).toInt ∧ (sn a).toInt ≤ 40 := by
  obtain ⟨Yb, Ye, -, -, -, h4⟩ := h
  obtain ⟨fb, fe, g⟩ := h4 a ha hx
  exact ⟨_, _, fb, fe, g⟩
/-- what is asked of the numbers: the open documents are apart, checked <= sentences, and what a worker holds is an open document's sentence -/
def jPu (sn ck : Nat → Int32) (fd fo : Nat → Option Nat) (fs : Nat → Int32) (dc : Int) (ol nw td : Nat) : Prop := (∀ i, i < 3 → fd i ≠ some ol ∧ fd i ≠ some nw ∧ fd i ≠ some td) ∧ (∀ i j, i < 3 → j < 3 → fd i = fd j → i = j) ∧ (∀ i a, i < 3 → fd i = some a → (ck a).toInt ≤ (sn a).toInt) ∧ ∀ w, w < 2 → fo w = none ∨ ∃ (d a : Nat), (d : Int) < dc ∧ d < 3 ∧ fd d = some a ∧ fo w = some a ∧ (fs w).toInt < (sn a).toInt
theorem jVl.at {dC : Nat → ClassId} {dI : Nat → Nat → Nat} {G : jT} {ck : Nat → Int32} {H : Heap} {a : Nat} (h : jVl dC dI G 9 ck H) (ha : G a = some (14, 0)) : jP (dC, dI) G H [(a, 14, 9, .int (ck a))] := fun q hq => by
  cases List.mem_singleton.mp hq
  exact ⟨⟨0, ha⟩, h a ha⟩
theorem jStr.back {base a n : Nat} {s t : State} {H1 : Heap} (h : jStr base a n t H1) (hvm : s.vm.Alike t.vm) (hb : base ≤ s.heap.size) (hS : ∀ q : Nat, q < s.heap.size → ¬ jA base q → H1[q]? = s.heap[q]?) : jStr base a n s s.heap :=
  (h.moved hvm.symm).kept (fun q _ hq => (hS q (Nat.lt_of_lt_of_le (Nat.lt_of_not_le hq) hb) hq).symm)
section J15
variable {p : Program} {l : Launch} {e : Env} {R : Room} {s : State} {m : MethodId} {args : Array Value} {below : List Frame} {meth : Method} {c : Code} {H : Heap} {locs : List Loc} {cells slots : Nat} {Q : State → Prop}
variable {cc : ByteArray} {pc : Nat} {ls : Array Slot} {rest : List Value} {dC : Nat → ClassId} {dI : Nat → Nat → Nat} {ca : Nat → ClassId} {B : jF} {base : Nat} {G0 G : jT} {E : List (Nat × Nat)} {H0 : Heap} {zc zs : Nat} {L : List jPin} {M : List jCt} {I : List jIv} {a k n i N : Nat} {cA : ClassId} {tys : List (ClassId × FieldType)} {C own : String} {T : u_T} {index : Nat}
theorem jSt.iv (hh : jSt (dC, dI) B base G0 G E H0 zc zs L M I H locs) (j : Nat) {q : jIv} (hj : I[j]? = some q) : q.2 H := (hh.2.2.2.2.2.2.2.2 q (List.mem_of_getElem? hj)).1
end J15
end
section
theorem dX14_messageOf_0 : decode cX14_messageOf 0 = .ok (.iload_n 0, 1) := by decide +kernel
theorem dX14_messageOf_1 : decode cX14_messageOf 1 = .ok (.iconst 1, 1) := by decide +kernel
theorem dX14_messageOf_2 : decode cX14_messageOf 2 = .ok (.if_icmp .ne 9, 3) := by decide +kernel
theorem dX14_messageOf_5 : decode cX14_messageOf 5 = .ok (.ldc_w 734, 3) := by decide +kernel
theorem dX14_messageOf_8 : decode cX14_messageOf 8 = .ok (.goto 86, 3) := by decide +kernel
theorem dX14_messageOf_11 : decode cX14_messageOf 11 = .ok (.iload_n 0, 1) := by decide +kernel
theorem dX14_messageOf_12 : decode cX14_messageOf 12 = .ok (.iconst 2, 1) := by decide +kernel
theorem dX14_messageOf_13 : decode cX14_messageOf 13 = .ok (.if_icmp .ne 9, 3) := by decide +kernel
theorem dX14_messageOf_16 : decode cX14_messageOf 16 = .ok (.ldc_w 736, 3) := by decide +kernel
theorem dX14_messageOf_19 : decode cX14_messageOf 19 = .ok (.goto 75, 3) := by decide +kernel
theorem dX14_messageOf_22 : decode cX14_messageOf 22 = .ok (.iload_n 0, 1) := by decide +kernel
theorem dX14_messageOf_23 : decode cX14_messageOf 23 = .ok (.iconst 3, 1) := by decide +kernel
theorem dX14_messageOf_24 : decode cX14_messageOf 24 = .ok (.if_icmp .ne 9, 3) := by decide +kernel
theorem dX14_messageOf_27 : decode cX14_messageOf 27 = .ok (.ldc_w 738, 3) := by decide +kernel
theorem dX14_messageOf_30 : decode cX14_messageOf 30 = .ok (.goto 64, 3) := by decide +kernel
theorem dX14_messageOf_33 : decode cX14_messageOf 33 = .ok (.iload_n 0, 1) := by decide +kernel
theorem dX14_messageOf_34 : decode cX14_messageOf 34 = .ok (.iconst 4, 1) := by decide +kernel
theorem dX14_messageOf_35 : decode cX14_messageOf 35 = .ok (.if_icmp .ne 9, 3) := by decide +kernel
theorem dX14_messageOf_38 : decode cX14_messageOf 38 = .ok (.ldc_w 740, 3) := by decide +kernel
theorem dX14_messageOf_41 : decode cX14_messageOf 41 = .ok (.goto 53, 3) := by decide +kernel
theorem dX14_messageOf_44 : decode cX14_messageOf 44 = .ok (.iload_n 0, 1) := by decide +kernel
theorem dX14_messageOf_45 : decode cX14_messageOf 45 = .ok (.iconst 5, 1) := by decide +kernel
theorem dX14_messageOf_46 : decode cX14_messageOf 46 = .ok (.if_icmp .ne 9, 3) := by decide +kernel
theorem dX14_messageOf_49 : decode cX14_messageOf 49 = .ok (.ldc_w 742, 3) := by decide +kernel
theorem dX14_messageOf_52 : decode cX14_messageOf 52 = .ok (.goto 42, 3) := by decide +kernel
theorem dX14_messageOf_55 : decode cX14_messageOf 55 = .ok (.iload_n 0, 1) := by decide +kernel
theorem dX14_messageOf_56 : decode cX14_messageOf 56 = .ok (.bipush 6, 2) := by decide +kernel
theorem dX14_messageOf_58 : decode cX14_messageOf 58 = .ok (.if_icmp .ne 9, 3) := by decide +kernel
theorem dX14_messageOf_61 : decode cX14_messageOf 61 = .ok (.ldc_w 744, 3) := by decide +kernel
theorem dX14_messageOf_64 : decode cX14_messageOf 64 = .ok (.goto 30, 3) := by decide +kernel
theorem dX14_messageOf_67 : decode cX14_messageOf 67 = .ok (.iload_n 0, 1) := by decide +kernel
theorem dX14_messageOf_68 : decode cX14_messageOf 68 = .ok (.bipush 7, 2) := by decide +kernel
theorem dX14_messageOf_70 : decode cX14_messageOf 70 = .ok (.if_icmp .ne 9, 3) := by decide +kernel
theorem dX14_messageOf_73 : decode cX14_messageOf 73 = .ok (.ldc_w 745, 3) := by decide +kernel
theorem dX14_messageOf_76 : decode cX14_messageOf 76 = .ok (.goto 18, 3) := by decide +kernel
theorem dX14_messageOf_79 : decode cX14_messageOf 79 = .ok (.iload_n 0, 1) := by decide +kernel
theorem dX14_messageOf_80 : decode cX14_messageOf 80 = .ok (.bipush 8, 2) := by decide +kernel
theorem dX14_messageOf_82 : decode cX14_messageOf 82 = .ok (.if_icmp .ne 9, 3) := by decide +kernel
theorem dX14_messageOf_85 : decode cX14_messageOf 85 = .ok (.ldc_w 747, 3) := by decide +kernel
theorem dX14_messageOf_88 : decode cX14_messageOf 88 = .ok (.goto 6, 3) := by decide +kernel
theorem dX14_messageOf_91 : decode cX14_messageOf 91 = .ok (.ldc_w 749, 3) := by decide +kernel
theorem dX14_messageOf_94 : decode cX14_messageOf 94 = .ok (.areturn, 1) := by decide +kernel
def EX14_messageOf : List (Nat × Nat) := []
def qtx2547 : String := match tables_1[2547]? with | some (Jvm.Cond.stringRef _ _ t) => t | _ => ""
def qtx2543 : String := match tables_1[2543]? with | some (Jvm.Cond.stringRef _ _ t) => t | _ => ""
set_option maxHeartbeats 4000000 in
set_option maxRecDepth 20000 in
theorem uX14_messageOf (l : Launch) (dC : Nat → ClassId) (dI : Nat → Nat → Nat) (ca : Nat → ClassId) (base : Nat) (B : jF) (hB : jBok B) (hAp : jAp (dC, dI)) (G0 : jT) (H0 : Heap) (a0 : Int32) : Met l yX14_messageOf (jw yX14_messageOf cX14_messageOf 1 (some (.object "java/lang/String"))) ({ frames := 0, cells := 0, slots := 0, locals := 0 }) (va_Pc [.int a0] (fun U => U.heap = H0 ∧ jX B base G0 [] H0 ∧ jG dC dI ca base U ∧ jP (dC, dI) G0 H0 [] ∧ True)) (jQx (S := Nat × Nat) (fun v u => v = .ref u.1 ∧ u.2 < 2147483648) (fun u t => jRt (dC, dI) B base G0 EX14_messageOf H0 [] t.heap ∧ jStr base u.1 u.2 t t.heap) (jA base)) 0 0 (jA base) := by
  refine Met.ofW (cc := cX14_messageOf) (maxL := 1) (ret := (some (.object "java/lang/String"))) (by decide) rfl ?_
  intro p e s m args below meth c s₁ Bd hml hv
  obtain ⟨rfl, hH0, hX, hG, hP0, hp0⟩ := hv
  have hK := hG.1
  have hx := Bd.exec
  have hb := Bd.bytes
  have hr := Bd.returns
  have hts := atoms_spec (ws := (jw yX14_messageOf cX14_messageOf 1 (some (.object "java/lang/String")))) Bd.pre
  have htw : ∀ w ∈ jWl, w.before _ s = true := fun w h => hts w (List.mem_cons_of_mem _ h)
  have hown : s.vm.findClass RX14 = some m.cls := findClass_of_methodNamed Bd.named
  have hlocks := Bd.notSynchronized
  obtain ⟨Q, hQ⟩ : ∃ Q, Q = MQ below (jQx (S := Nat × Nat) (fun v u => v = .ref u.1 ∧ u.2 < 2147483648) (fun u t => jRt (dC, dI) B base G0 EX14_messageOf H0 [] t.heap ∧ jStr base u.1 u.2 t t.heap) (jA base)) ([.int a0] : List Value).toArray s 0 0 (jA base) := ⟨_, rfl⟩
  rw [← hQ]
  have hl := lv_entry ([.int a0]) (n := 1) (Nat.le_of_ble_eq_true rfl)
  rw [lg_entry_eq]
  generalize (lg_sl ([.int a0]) ++ List.replicate (1 - (lg_sl ([.int a0])).length) Slot.unset).toArray = ls at hl ⊢
  have hl : lv_has ls 1 [(0, .int a0)] := hl
  generalize hR : (headSpec (jw yX14_messageOf cX14_messageOf 1 (some (.object "java/lang/String"))) ({ frames := 0, cells := 0, slots := 0, locals := 0 })).room = R
  subst hH0
  have hh : jSt (dC, dI) B base G0 G0 EX14_messageOf s.heap 0 0 [] [] [] s.heap [] := jSt.start hX hP0 jMc.nil jIs.nil
  clear hX hP0
  have hk0 : (0 : Int32).toInt = 0 := by decide
  have hk1 : (1 : Int32).toInt = 1 := by decide
  have hk2 : (2 : Int32).toInt = 2 := by decide
  have hk3 : (3 : Int32).toInt = 3 := by decide
  have hk4 : (4 : Int32).toInt = 4 := by decide
  have hk5 : (5 : Int32).toInt = 5 := by decide
  have hk6 : (6 : Int32).toInt = 6 := by decide
  have hk7 : (7 : Int32).toInt = 7 := by decide
  have hk8 : (8 : Int32).toInt = 8 := by decide
  obtain ⟨str734, rstr734, hstr7340⟩ := hG.str (o := RX14) (k := 734) (tx := "unfinished") (List.mem_of_getElem? (i := 2541) (by decide +kernel))
  have hstr734 : jStr base str734 10 s s.heap := hstr7340
  obtain ⟨str736, rstr736, hstr7360⟩ := hG.str (o := RX14) (k := 736) (tx := "too much") (List.mem_of_getElem? (i := 2542) (by decide +kernel))
  have hstr736 : jStr base str736 8 s s.heap := hstr7360
  obtain ⟨str738, rstr738, hstr7380⟩ := hG.str (o := RX14) (k := 738) (tx := qtx2543) (List.mem_of_getElem? (i := 2543) (by decide +kernel))
  have h9str738 : qtx2543.length = 6 := by decide +kernel
  have hstr738 : jStr base str738 6 s s.heap := by rw [h9str738] at hstr7380; exact hstr7380
  obtain ⟨str740, rstr740, hstr7400⟩ := hG.str (o := RX14) (k := 740) (tx := "not here") (List.mem_of_getElem? (i := 2544) (by decide +kernel))
  have hstr740 : jStr base str740 8 s s.heap := hstr7400
  obtain ⟨str742, rstr742, hstr7420⟩ := hG.str (o := RX14) (k := 742) (tx := "unknown") (List.mem_of_getElem? (i := 2545) (by decide +kernel))
  have hstr742 : jStr base str742 7 s s.heap := hstr7420
  obtain ⟨str744, rstr744, hstr7440⟩ := hG.str (o := RX14) (k := 744) (tx := "taken") (List.mem_of_getElem? (i := 2546) (by decide +kernel))
  have hstr744 : jStr base str744 5 s s.heap := hstr7440
  obtain ⟨str745, rstr745, hstr7450⟩ := hG.str (o := RX14) (k := 745) (tx := qtx2547) (List.mem_of_getElem? (i := 2547) (by decide +kernel))
  have h9str745 : qtx2547.length = 10 := by decide +kernel
  have hstr745 : jStr base str745 10 s s.heap := by rw [h9str745] at hstr7450; exact hstr7450
  obtain ⟨str747, rstr747, hstr7470⟩ := hG.str (o := RX14) (k := 747) (tx := "no match") (List.mem_of_getElem? (i := 2548) (by decide +kernel))
  have hstr747 : jStr base str747 8 s s.heap := hstr7470
  obtain ⟨str749, rstr749, hstr7490⟩ := hG.str (o := RX14) (k := 749) (tx := "too large") (List.mem_of_getElem? (i := 2549) (by decide +kernel))
  have hstr749 : jStr base str749 9 s s.heap := hstr7490
  have hrg_a0 := jb_rng a0
  refine lv_iload_n hx hb dX14_messageOf_0 rfl (lv_at hl 0 rfl) ?_
  refine lv_iconst (v := 1) hx hb dX14_messageOf_1 (by decide) ?_
  refine lv_icmp_ne (tgt := 11) hx hb dX14_messageOf_2 (by decide) (fun c_1 => ?_) (fun c_1 => ?_)
  · skip
    have c_1' : a0.toInt ≠ 1 := jb_ne (rfl) ((by decide)) c_1
    refine lv_iload_n hx hb dX14_messageOf_11 rfl (lv_at hl 0 rfl) ?_
    refine lv_iconst (v := 2) hx hb dX14_messageOf_12 (by decide) ?_
    refine lv_icmp_ne (tgt := 22) hx hb dX14_messageOf_13 (by decide) (fun c_2 => ?_) (fun c_2 => ?_)
    · skip
      have c_2' : a0.toInt ≠ 2 := jb_ne (rfl) ((by decide)) c_2
      refine lv_iload_n hx hb dX14_messageOf_22 rfl (lv_at hl 0 rfl) ?_
      refine lv_iconst (v := 3) hx hb dX14_messageOf_23 (by decide) ?_
      refine lv_icmp_ne (tgt := 33) hx hb dX14_messageOf_24 (by decide) (fun c_3 => ?_) (fun c_3 => ?_)
      · skip
        have c_3' : a0.toInt ≠ 3 := jb_ne (rfl) ((by decide)) c_3
        refine lv_iload_n hx hb dX14_messageOf_33 rfl (lv_at hl 0 rfl) ?_
        refine lv_iconst (v := 4) hx hb dX14_messageOf_34 (by decide) ?_
        refine lv_icmp_ne (tgt := 44) hx hb dX14_messageOf_35 (by decide) (fun c_4 => ?_) (fun c_4 => ?_)
        · skip
          have c_4' : a0.toInt ≠ 4 := jb_ne (rfl) ((by decide)) c_4
          refine lv_iload_n hx hb dX14_messageOf_44 rfl (lv_at hl 0 rfl) ?_
          refine lv_iconst (v := 5) hx hb dX14_messageOf_45 (by decide) ?_
          refine lv_icmp_ne (tgt := 55) hx hb dX14_messageOf_46 (by decide) (fun c_5 => ?_) (fun c_5 => ?_)
          · skip
            have c_5' : a0.toInt ≠ 5 := jb_ne (rfl) ((by decide)) c_5
            refine lv_iload_n hx hb dX14_messageOf_55 rfl (lv_at hl 0 rfl) ?_
            refine lv_bipush (v := 6) hx hb dX14_messageOf_56 (by decide) ?_
            refine lv_icmp_ne (tgt := 67) hx hb dX14_messageOf_58 (by decide) (fun c_6 => ?_) (fun c_6 => ?_)
            · skip
              have c_6' : a0.toInt ≠ 6 := jb_ne (rfl) ((by decide)) c_6
              refine lv_iload_n hx hb dX14_messageOf_67 rfl (lv_at hl 0 rfl) ?_
              refine lv_bipush (v := 7) hx hb dX14_messageOf_68 (by decide) ?_
              refine lv_icmp_ne (tgt := 79) hx hb dX14_messageOf_70 (by decide) (fun c_7 => ?_) (fun c_7 => ?_)
              · skip
                have c_7' : a0.toInt ≠ 7 := jb_ne (rfl) ((by decide)) c_7
                refine lv_iload_n hx hb dX14_messageOf_79 rfl (lv_at hl 0 rfl) ?_
                refine lv_bipush (v := 8) hx hb dX14_messageOf_80 (by decide) ?_
                refine lv_icmp_ne (tgt := 91) hx hb dX14_messageOf_82 (by decide) (fun c_8 => ?_) (fun c_8 => ?_)
                · skip
                  have c_8' : a0.toInt ≠ 8 := jb_ne (rfl) ((by decide)) c_8
                  refine j_ldcSw hx hb hown rstr749 dX14_messageOf_91 ?_
                  rw [hQ]
                  exact W.aret (v := .ref str749) hx hb hr (Or.inl ⟨_, rfl⟩) (Or.inr ⟨_, rfl⟩) (fun t ht hW => ⟨⟨.ref str749, (str749, 9), rfl, ⟨rfl, by show (9 : Nat) < 2147483648; omega⟩, ⟨hh.rt (M1 := []) [] rfl ht, by rw [ht]; exact (hstr749.moved hW.alike).kept hh.1.2.1⟩⟩, by rw [ht]; try exact hh.1.1, fun q h9 hq => by rw [ht]; try exact hh.1.2.1 q h9 hq⟩) hh.1.2.2 dX14_messageOf_94
                · skip
                  have c_8' : a0.toInt = 8 := jb_ne_n (rfl) ((by decide)) c_8
                  refine j_ldcSw hx hb hown rstr747 dX14_messageOf_85 ?_
                  refine lv_goto (tgt := 94) hx hb dX14_messageOf_88 (by decide) ?_
                  rw [hQ]
                  exact W.aret (v := .ref str747) hx hb hr (Or.inl ⟨_, rfl⟩) (Or.inr ⟨_, rfl⟩) (fun t ht hW => ⟨⟨.ref str747, (str747, 8), rfl, ⟨rfl, by show (8 : Nat) < 2147483648; omega⟩, ⟨hh.rt (M1 := []) [] rfl ht, by rw [ht]; exact (hstr747.moved hW.alike).kept hh.1.2.1⟩⟩, by rw [ht]; try exact hh.1.1, fun q h9 hq => by rw [ht]; try exact hh.1.2.1 q h9 hq⟩) hh.1.2.2 dX14_messageOf_94
              · skip
                have c_7' : a0.toInt = 7 := jb_ne_n (rfl) ((by decide)) c_7
                refine j_ldcSw hx hb hown rstr745 dX14_messageOf_73 ?_
                refine lv_goto (tgt := 94) hx hb dX14_messageOf_76 (by decide) ?_
                rw [hQ]
                exact W.aret (v := .ref str745) hx hb hr (Or.inl ⟨_, rfl⟩) (Or.inr ⟨_, rfl⟩) (fun t ht hW => ⟨⟨.ref str745, (str745, 10), rfl, ⟨rfl, by show (10 : Nat) < 2147483648; omega⟩, ⟨hh.rt (M1 := []) [] rfl ht, by rw [ht]; exact (hstr745.moved hW.alike).kept hh.1.2.1⟩⟩, by rw [ht]; try exact hh.1.1, fun q h9 hq => by rw [ht]; try exact hh.1.2.1 q h9 hq⟩) hh.1.2.2 dX14_messageOf_94
            · skip
              have c_6' : a0.toInt = 6 := jb_ne_n (rfl) ((by decide)) c_6
              refine j_ldcSw hx hb hown rstr744 dX14_messageOf_61 ?_
              refine lv_goto (tgt := 94) hx hb dX14_messageOf_64 (by decide) ?_
              rw [hQ]
              exact W.aret (v := .ref str744) hx hb hr (Or.inl ⟨_, rfl⟩) (Or.inr ⟨_, rfl⟩) (fun t ht hW => ⟨⟨.ref str744, (str744, 5), rfl, ⟨rfl, by show (5 : Nat) < 2147483648; omega⟩, ⟨hh.rt (M1 := []) [] rfl ht, by rw [ht]; exact (hstr744.moved hW.alike).kept hh.1.2.1⟩⟩, by rw [ht]; try exact hh.1.1, fun q h9 hq => by rw [ht]; try exact hh.1.2.1 q h9 hq⟩) hh.1.2.2 dX14_messageOf_94
          · skip
            have c_5' : a0.toInt = 5 := jb_ne_n (rfl) ((by decide)) c_5
            refine j_ldcSw hx hb hown rstr742 dX14_messageOf_49 ?_
            refine lv_goto (tgt := 94) hx hb dX14_messageOf_52 (by decide) ?_
            rw [hQ]
            exact W.aret (v := .ref str742) hx hb hr (Or.inl ⟨_, rfl⟩) (Or.inr ⟨_, rfl⟩) (fun t ht hW => ⟨⟨.ref str742, (str742, 7), rfl, ⟨rfl, by show (7 : Nat) < 2147483648; omega⟩, ⟨hh.rt (M1 := []) [] rfl ht, by rw [ht]; exact (hstr742.moved hW.alike).kept hh.1.2.1⟩⟩, by rw [ht]; try exact hh.1.1, fun q h9 hq => by rw [ht]; try exact hh.1.2.1 q h9 hq⟩) hh.1.2.2 dX14_messageOf_94
        · skip
          have c_4' : a0.toInt = 4 := jb_ne_n (rfl) ((by decide)) c_4
          refine j_ldcSw hx hb hown rstr740 dX14_messageOf_38 ?_
          refine lv_goto (tgt := 94) hx hb dX14_messageOf_41 (by decide) ?_
          rw [hQ]
          exact W.aret (v := .ref str740) hx hb hr (Or.inl ⟨_, rfl⟩) (Or.inr ⟨_, rfl⟩) (fun t ht hW => ⟨⟨.ref str740, (str740, 8), rfl, ⟨rfl, by show (8 : Nat) < 2147483648; omega⟩, ⟨hh.rt (M1 := []) [] rfl ht, by rw [ht]; exact (hstr740.moved hW.alike).kept hh.1.2.1⟩⟩, by rw [ht]; try exact hh.1.1, fun q h9 hq => by rw [ht]; try exact hh.1.2.1 q h9 hq⟩) hh.1.2.2 dX14_messageOf_94
      · skip
        have c_3' : a0.toInt = 3 := jb_ne_n (rfl) ((by decide)) c_3
        refine j_ldcSw hx hb hown rstr738 dX14_messageOf_27 ?_
        refine lv_goto (tgt := 94) hx hb dX14_messageOf_30 (by decide) ?_
        rw [hQ]
        exact W.aret (v := .ref str738) hx hb hr (Or.inl ⟨_, rfl⟩) (Or.inr ⟨_, rfl⟩) (fun t ht hW => ⟨⟨.ref str738, (str738, 6), rfl, ⟨rfl, by show (6 : Nat) < 2147483648; omega⟩, ⟨hh.rt (M1 := []) [] rfl ht, by rw [ht]; exact (hstr738.moved hW.alike).kept hh.1.2.1⟩⟩, by rw [ht]; try exact hh.1.1, fun q h9 hq => by rw [ht]; try exact hh.1.2.1 q h9 hq⟩) hh.1.2.2 dX14_messageOf_94
    · skip
      have c_2' : a0.toInt = 2 := jb_ne_n (rfl) ((by decide)) c_2
      refine j_ldcSw hx hb hown rstr736 dX14_messageOf_16 ?_
      refine lv_goto (tgt := 94) hx hb dX14_messageOf_19 (by decide) ?_
      rw [hQ]
      exact W.aret (v := .ref str736) hx hb hr (Or.inl ⟨_, rfl⟩) (Or.inr ⟨_, rfl⟩) (fun t ht hW => ⟨⟨.ref str736, (str736, 8), rfl, ⟨rfl, by show (8 : Nat) < 2147483648; omega⟩, ⟨hh.rt (M1 := []) [] rfl ht, by rw [ht]; exact (hstr736.moved hW.alike).kept hh.1.2.1⟩⟩, by rw [ht]; try exact hh.1.1, fun q h9 hq => by rw [ht]; try exact hh.1.2.1 q h9 hq⟩) hh.1.2.2 dX14_messageOf_94
  · skip
    have c_1' : a0.toInt = 1 := jb_ne_n (rfl) ((by decide)) c_1
    refine j_ldcSw hx hb hown rstr734 dX14_messageOf_5 ?_
    refine lv_goto (tgt := 94) hx hb dX14_messageOf_8 (by decide) ?_
    rw [hQ]
    exact W.aret (v := .ref str734) hx hb hr (Or.inl ⟨_, rfl⟩) (Or.inr ⟨_, rfl⟩) (fun t ht hW => ⟨⟨.ref str734, (str734, 10), rfl, ⟨rfl, by show (10 : Nat) < 2147483648; omega⟩, ⟨hh.rt (M1 := []) [] rfl ht, by rw [ht]; exact (hstr734.moved hW.alike).kept hh.1.2.1⟩⟩, by rw [ht]; try exact hh.1.1, fun q h9 hq => by rw [ht]; try exact hh.1.2.1 q h9 hq⟩) hh.1.2.2 dX14_messageOf_94
end
