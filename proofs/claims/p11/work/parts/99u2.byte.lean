theorem dX14_byteComes_0 : decode cX14_byteComes 0 = .ok (.aload_n 0, 1) := by decide +kernel
theorem dX14_byteComes_1 : decode cX14_byteComes 1 = .ok (.getfield 231, 3) := by decide +kernel
theorem dX14_byteComes_4 : decode cX14_byteComes 4 = .ok (.bipush 6, 2) := by decide +kernel
theorem dX14_byteComes_6 : decode cX14_byteComes 6 = .ok (.if_icmp .ge 32, 3) := by decide +kernel
theorem dX14_byteComes_9 : decode cX14_byteComes 9 = .ok (.aload_n 0, 1) := by decide +kernel
theorem dX14_byteComes_10 : decode cX14_byteComes 10 = .ok (.dup, 1) := by decide +kernel
theorem dX14_byteComes_11 : decode cX14_byteComes 11 = .ok (.getfield 258, 3) := by decide +kernel
theorem dX14_byteComes_14 : decode cX14_byteComes 14 = .ok (.iconst 1, 1) := by decide +kernel
theorem dX14_byteComes_15 : decode cX14_byteComes 15 = .ok (.iadd, 1) := by decide +kernel
theorem dX14_byteComes_16 : decode cX14_byteComes 16 = .ok (.putfield 258, 3) := by decide +kernel
theorem dX14_byteComes_19 : decode cX14_byteComes 19 = .ok (.aload_n 0, 1) := by decide +kernel
theorem dX14_byteComes_20 : decode cX14_byteComes 20 = .ok (.iload_n 1, 1) := by decide +kernel
theorem dX14_byteComes_21 : decode cX14_byteComes 21 = .ok (.invokevirtual 261, 3) := by decide +kernel
theorem dX14_byteComes_24 : decode cX14_byteComes 24 = .ok (.ifCond .ne 44, 3) := by decide +kernel
theorem dX14_byteComes_27 : decode cX14_byteComes 27 = .ok (.aload_n 0, 1) := by decide +kernel
theorem dX14_byteComes_28 : decode cX14_byteComes 28 = .ok (.iconst 1, 1) := by decide +kernel
theorem dX14_byteComes_29 : decode cX14_byteComes 29 = .ok (.putfield 202, 3) := by decide +kernel
theorem dX14_byteComes_32 : decode cX14_byteComes 32 = .ok (.aload_n 0, 1) := by decide +kernel
theorem dX14_byteComes_33 : decode cX14_byteComes 33 = .ok (.iconst 0, 1) := by decide +kernel
theorem dX14_byteComes_34 : decode cX14_byteComes 34 = .ok (.putfield 258, 3) := by decide +kernel
theorem dX14_byteComes_37 : decode cX14_byteComes 37 = .ok (.return_, 1) := by decide +kernel
theorem dX14_byteComes_38 : decode cX14_byteComes 38 = .ok (.aload_n 0, 1) := by decide +kernel
theorem dX14_byteComes_39 : decode cX14_byteComes 39 = .ok (.getfield 20, 3) := by decide +kernel
theorem dX14_byteComes_42 : decode cX14_byteComes 42 = .ok (.aload_n 0, 1) := by decide +kernel
theorem dX14_byteComes_43 : decode cX14_byteComes 43 = .ok (.getfield 244, 3) := by decide +kernel
theorem dX14_byteComes_46 : decode cX14_byteComes 46 = .ok (.iload_n 1, 1) := by decide +kernel
theorem dX14_byteComes_47 : decode cX14_byteComes 47 = .ok (.iastore, 1) := by decide +kernel
theorem dX14_byteComes_48 : decode cX14_byteComes 48 = .ok (.aload_n 0, 1) := by decide +kernel
theorem dX14_byteComes_49 : decode cX14_byteComes 49 = .ok (.dup, 1) := by decide +kernel
theorem dX14_byteComes_50 : decode cX14_byteComes 50 = .ok (.getfield 244, 3) := by decide +kernel
theorem dX14_byteComes_53 : decode cX14_byteComes 53 = .ok (.iconst 1, 1) := by decide +kernel
theorem dX14_byteComes_54 : decode cX14_byteComes 54 = .ok (.iadd, 1) := by decide +kernel
theorem dX14_byteComes_55 : decode cX14_byteComes 55 = .ok (.putfield 244, 3) := by decide +kernel
theorem dX14_byteComes_58 : decode cX14_byteComes 58 = .ok (.aload_n 0, 1) := by decide +kernel
theorem dX14_byteComes_59 : decode cX14_byteComes 59 = .ok (.dup, 1) := by decide +kernel
theorem dX14_byteComes_60 : decode cX14_byteComes 60 = .ok (.getfield 258, 3) := by decide +kernel
theorem dX14_byteComes_63 : decode cX14_byteComes 63 = .ok (.iconst 1, 1) := by decide +kernel
theorem dX14_byteComes_64 : decode cX14_byteComes 64 = .ok (.iadd, 1) := by decide +kernel
theorem dX14_byteComes_65 : decode cX14_byteComes 65 = .ok (.putfield 258, 3) := by decide +kernel
theorem dX14_byteComes_68 : decode cX14_byteComes 68 = .ok (.aload_n 0, 1) := by decide +kernel
theorem dX14_byteComes_69 : decode cX14_byteComes 69 = .ok (.getfield 231, 3) := by decide +kernel
theorem dX14_byteComes_72 : decode cX14_byteComes 72 = .ok (.bipush 6, 2) := by decide +kernel
theorem dX14_byteComes_74 : decode cX14_byteComes 74 = .ok (.if_icmp .ne 14, 3) := by decide +kernel
theorem dX14_byteComes_77 : decode cX14_byteComes 77 = .ok (.aload_n 0, 1) := by decide +kernel
theorem dX14_byteComes_78 : decode cX14_byteComes 78 = .ok (.getfield 244, 3) := by decide +kernel
theorem dX14_byteComes_81 : decode cX14_byteComes 81 = .ok (.aload_n 0, 1) := by decide +kernel
theorem dX14_byteComes_82 : decode cX14_byteComes 82 = .ok (.getfield 33, 3) := by decide +kernel
theorem dX14_byteComes_85 : decode cX14_byteComes 85 = .ok (.if_icmp .ge 4, 3) := by decide +kernel
theorem dX14_byteComes_88 : decode cX14_byteComes 88 = .ok (.return_, 1) := by decide +kernel
theorem dX14_byteComes_89 : decode cX14_byteComes 89 = .ok (.aload_n 0, 1) := by decide +kernel
theorem dX14_byteComes_90 : decode cX14_byteComes 90 = .ok (.getfield 33, 3) := by decide +kernel
theorem dX14_byteComes_93 : decode cX14_byteComes 93 = .ok (.istore_n 2, 1) := by decide +kernel
theorem dX14_byteComes_94 : decode cX14_byteComes 94 = .ok (.aload_n 0, 1) := by decide +kernel
theorem dX14_byteComes_95 : decode cX14_byteComes 95 = .ok (.iconst 0, 1) := by decide +kernel
theorem dX14_byteComes_96 : decode cX14_byteComes 96 = .ok (.putfield 231, 3) := by decide +kernel
theorem dX14_byteComes_99 : decode cX14_byteComes 99 = .ok (.aload_n 0, 1) := by decide +kernel
theorem dX14_byteComes_100 : decode cX14_byteComes 100 = .ok (.iconst 0, 1) := by decide +kernel
theorem dX14_byteComes_101 : decode cX14_byteComes 101 = .ok (.putfield 228, 3) := by decide +kernel
theorem dX14_byteComes_104 : decode cX14_byteComes 104 = .ok (.aload_n 0, 1) := by decide +kernel
theorem dX14_byteComes_105 : decode cX14_byteComes 105 = .ok (.iconst 0, 1) := by decide +kernel
theorem dX14_byteComes_106 : decode cX14_byteComes 106 = .ok (.putfield 258, 3) := by decide +kernel
theorem dX14_byteComes_109 : decode cX14_byteComes 109 = .ok (.aload_n 0, 1) := by decide +kernel
theorem dX14_byteComes_110 : decode cX14_byteComes 110 = .ok (.iconst (-1), 1) := by decide +kernel
theorem dX14_byteComes_111 : decode cX14_byteComes 111 = .ok (.putfield 33, 3) := by decide +kernel
theorem dX14_byteComes_114 : decode cX14_byteComes 114 = .ok (.aload_n 0, 1) := by decide +kernel
theorem dX14_byteComes_115 : decode cX14_byteComes 115 = .ok (.dup, 1) := by decide +kernel
theorem dX14_byteComes_116 : decode cX14_byteComes 116 = .ok (.getfield 264, 3) := by decide +kernel
theorem dX14_byteComes_119 : decode cX14_byteComes 119 = .ok (.iconst 1, 1) := by decide +kernel
theorem dX14_byteComes_120 : decode cX14_byteComes 120 = .ok (.iadd, 1) := by decide +kernel
theorem dX14_byteComes_121 : decode cX14_byteComes 121 = .ok (.putfield 264, 3) := by decide +kernel
theorem dX14_byteComes_124 : decode cX14_byteComes 124 = .ok (.aload_n 0, 1) := by decide +kernel
theorem dX14_byteComes_125 : decode cX14_byteComes 125 = .ok (.iload_n 2, 1) := by decide +kernel
theorem dX14_byteComes_126 : decode cX14_byteComes 126 = .ok (.invokevirtual 267, 3) := by decide +kernel
theorem dX14_byteComes_129 : decode cX14_byteComes 129 = .ok (.return_, 1) := by decide +kernel
def EX14_byteComes : List (Nat × Nat) := [(0, 0), (0, 2), (0, 3), (14, 1), (14, 2), (14, 4), (14, 5), (14, 9), (15, 5), (15, 7), (15, 10), (15, 11), (15, 15), (15, 18), (15, 19), (15, 20), (15, 21), (15, 30), (15, 31), (15, 32), (15, 33), (15, 34), (15, 36), (15, 38), (15, 39), (15, 40), (15, 41), (15, 42), (15, 46), (15, 49), (16, 3), (16, 4), (16, 6), (16, 7), (16, 8), (16, 10), (16, 11), (16, 12), (16, 15), (16, 16), (16, 26), (16, 28), (16, 29), (16, 30), (16, 31), (16, 32), (16, 33), (16, 34), (16, 35), (16, 36), (16, 37), (16, 39), (16, 40), (16, 42), (16, 44), (16, 48), (101, 0), (103, 0), (110, 0), (117, 0), (118, 0), (119, 0), (120, 0), (121, 0), (122, 0), (123, 0), (124, 0), (125, 0), (127, 0), (150, 0), (151, 0), (152, 0), (153, 0), (154, 0), (155, 0), (156, 0), (157, 0), (158, 0), (159, 0), (160, 0), (161, 0), (162, 0), (163, 0), (164, 0), (165, 0), (166, 0), (167, 0), (168, 0), (169, 0), (190, 0), (191, 0), (192, 0), (196, 0), (201, 0), (202, 0), (203, 0), (204, 0), (206, 0), (208, 0)]
set_option maxHeartbeats 4000000 in
set_option maxRecDepth 20000 in
theorem uX14_byteComes (l : Launch) (dC : Nat → ClassId) (dI : Nat → Nat → Nat) (ca : Nat → ClassId) (base : Nat) (B : jF) (hB : jBok B) (hAp : jAp (dC, dI)) (hB0 : ∀ n G a H, B 0 n G a H ↔ jOb (dC, dI) 0 4 (Fz0 n G) a H) (hB14 : ∀ n G a H, B 14 n G a H ↔ jOb (dC, dI) 14 11 (F14 n G) a H) (hB15 : ∀ n G a H, B 15 n G a H ↔ jOb (dC, dI) 15 50 (F15 n G) a H) (hB16 : ∀ n G a H, B 16 n G a H ↔ jOb (dC, dI) 16 74 (F16 n G) a H) (hB101 : ∀ n G a H, B 101 n G a H ↔ jAr (dC, dI) (ca 1) (fun j z => True) n a H) (hB103 : ∀ n G a H, B 103 n G a H ↔ jAr (dC, dI) (ca 3) (fun j z => (z = 0 ∨ z = 1)) n a H) (hB110 : ∀ n G a H, B 110 n G a H ↔ jAr (dC, dI) (ca 1) (fun j z => 0 ≤ z.toInt ∧ z.toInt ≤ 255) n a H) (hB117 : ∀ n G a H, B 117 n G a H ↔ jAr (dC, dI) (ca 1) (fun j z => True) n a H) (hB118 : ∀ n G a H, B 118 n G a H ↔ jAr (dC, dI) (ca 1) (fun j z => -1 ≤ z.toInt ∧ z.toInt ≤ 3099) n a H) (hB119 : ∀ n G a H, B 119 n G a H ↔ jAr (dC, dI) (ca 1) (fun j z => z.toInt = -1 ∨ (j < z.toInt ∧ z.toInt ≤ 3099)) n a H) (hB120 : ∀ n G a H, B 120 n G a H ↔ jAr (dC, dI) (ca 1) (fun j z => 0 ≤ z.toInt ∧ z.toInt ≤ 3300) n a H) (hB121 : ∀ n G a H, B 121 n G a H ↔ jAr (dC, dI) (ca 1) (fun j z => 0 ≤ z.toInt ∧ z.toInt ≤ 3300) n a H) (hB122 : ∀ n G a H, B 122 n G a H ↔ jAr (dC, dI) (ca 1) (fun j z => 0 ≤ z.toInt ∧ z.toInt ≤ 3100) n a H) (hB123 : ∀ n G a H, B 123 n G a H ↔ jAr (dC, dI) (ca 1) (fun j z => 0 ≤ z.toInt ∧ z.toInt ≤ 3100) n a H) (hB124 : ∀ n G a H, B 124 n G a H ↔ jAr (dC, dI) (ca 3) (fun j z => (z = 0 ∨ z = 1)) n a H) (hB125 : ∀ n G a H, B 125 n G a H ↔ jAr (dC, dI) (ca 1) (fun j z => True) n a H) (hB127 : ∀ n G a H, B 127 n G a H ↔ jAr (dC, dI) (ca 1) (fun j z => True) n a H) (hB150 : ∀ n G a H, B 150 n G a H ↔ jAr (dC, dI) (ca 1) (fun j z => True) n a H) (hB151 : ∀ n G a H, B 151 n G a H ↔ jAr (dC, dI) (ca 1) (fun j z => True) n a H) (hB152 : ∀ n G a H, B 152 n G a H ↔ jAr (dC, dI) (ca 1) (fun j z => True) n a H) (hB153 : ∀ n G a H, B 153 n G a H ↔ jAr (dC, dI) (ca 1) (fun j z => True) n a H) (hB154 : ∀ n G a H, B 154 n G a H ↔ jAr (dC, dI) (ca 1) (fun j z => True) n a H) (hB155 : ∀ n G a H, B 155 n G a H ↔ jAr (dC, dI) (ca 1) (fun j z => 0 ≤ z.toInt ∧ z.toInt ≤ 11990) n a H) (hB156 : ∀ n G a H, B 156 n G a H ↔ jAr (dC, dI) (ca 1) (fun j z => 0 ≤ z.toInt ∧ z.toInt ≤ 10) n a H) (hB157 : ∀ n G a H, B 157 n G a H ↔ jAr (dC, dI) (ca 1) (fun j z => 0 ≤ z.toInt ∧ z.toInt ≤ 1599) n a H) (hB158 : ∀ n G a H, B 158 n G a H ↔ jAr (dC, dI) (ca 1) (fun j z => 0 ≤ z.toInt ∧ z.toInt ≤ 6) n a H) (hB159 : ∀ n G a H, B 159 n G a H ↔ jAr (dC, dI) (ca 1) (fun j z => 0 ≤ z.toInt ∧ z.toInt ≤ 8) n a H) (hB160 : ∀ n G a H, B 160 n G a H ↔ jAr (dC, dI) (ca 1) (fun j z => 0 ≤ z.toInt ∧ z.toInt ≤ 119999) n a H) (hB161 : ∀ n G a H, B 161 n G a H ↔ jAr (dC, dI) (ca 1) (fun j z => 0 ≤ z.toInt ∧ z.toInt ≤ 119999) n a H) (hB162 : ∀ n G a H, B 162 n G a H ↔ jAr (dC, dI) (ca 1) (fun j z => 0 ≤ z.toInt ∧ z.toInt ≤ 119999) n a H) (hB163 : ∀ n G a H, B 163 n G a H ↔ jAr (dC, dI) (ca 1) (fun j z => 0 ≤ z.toInt ∧ z.toInt ≤ 1599) n a H) (hB164 : ∀ n G a H, B 164 n G a H ↔ jAr (dC, dI) (ca 1) (fun j z => 0 ≤ z.toInt ∧ z.toInt ≤ 100000) n a H) (hB165 : ∀ n G a H, B 165 n G a H ↔ jAr (dC, dI) (ca 1) (fun j z => 0 ≤ z.toInt ∧ z.toInt ≤ 3) n a H) (hB166 : ∀ n G a H, B 166 n G a H ↔ jAr (dC, dI) (ca 1) (fun j z => True) n a H) (hB167 : ∀ n G a H, B 167 n G a H ↔ jAr (dC, dI) (ca 1) (fun j z => True) n a H) (hB168 : ∀ n G a H, B 168 n G a H ↔ jAr (dC, dI) (ca 1) (fun j z => 0 ≤ z.toInt ∧ z.toInt ≤ 119999) n a H) (hB169 : ∀ n G a H, B 169 n G a H ↔ jAr (dC, dI) (ca 1) (fun j z => True) n a H) (hB190 : ∀ n G a H, B 190 n G a H ↔ jAr (dC, dI) (ca 1) (fun j z => 0 ≤ z.toInt ∧ z.toInt ≤ 1500) n a H) (hB191 : ∀ n G a H, B 191 n G a H ↔ jAr (dC, dI) (ca 1) (fun j z => 0 ≤ z.toInt ∧ z.toInt ≤ 1500) n a H) (hB192 : ∀ n G a H, B 192 n G a H ↔ jAr (dC, dI) (ca 1) (fun j z => 0 ≤ z.toInt ∧ z.toInt ≤ 2) n a H) (hB193 : ∀ n G a H, B 193 n G a H ↔ jAr (dC, dI) (ca 1) (fun j z => True) n a H) (hB196 : ∀ n G a H, B 196 n G a H ↔ jAr (dC, dI) (ca 0) (fun j z => jBf j z) n a H) (hB201 : ∀ n G a H, B 201 n G a H ↔ jAq (dC, dI) (ca 4) (jQs 14 0) n G a H) (hB202 : ∀ n G a H, B 202 n G a H ↔ jAq (dC, dI) (ca 4) (jQn 14 0) n G a H) (hB203 : ∀ n G a H, B 203 n G a H ↔ jAr (dC, dI) (ca 1) (fun j z => -3300 ≤ z.toInt ∧ z.toInt ≤ 20) n a H) (hB204 : ∀ n G a H, B 204 n G a H ↔ jAr (dC, dI) (ca 1) (fun j z => -3100 ≤ z.toInt ∧ z.toInt ≤ 3100) n a H) (hB206 : ∀ n G a H, B 206 n G a H ↔ jAr (dC, dI) (ca 1) (fun j z => 0 ≤ z.toInt ∧ z.toInt ≤ 40) n a H) (hB207 : ∀ n G a H, B 207 n G a H ↔ jAr (dC, dI) (ca 1) (fun j z => 0 ≤ z.toInt ∧ z.toInt ≤ 39) n a H) (hB208 : ∀ n G a H, B 208 n G a H ↔ jAq (dC, dI) (ca 4) (jQn 14 0) n G a H) (G0 : jT) (H0 : Heap) (r0 : Nat) (a1 : Int32) (bn : Nat) (bv : Nat) (cn : Int32) (an : Nat) (n_an : Nat) (cv : Int32) (av : Nat) (n_av : Nat) (ph : Int32) (pm : Int32) (pl : Int32) (pb : Int32) (dd : Nat) (dc : Int32) (co : Nat) (cs : Nat) (ol : Nat) (nw : Nat) (td : Nat) (xb : Nat) (xe : Nat) (sn ck : Nat → Int32) (fd fo : Nat → Option Nat) (fs : Nat → Int32) (LC LS : Nat) : Met l yX14_byteComes (jw yX14_byteComes cX14_byteComes 3 none) ({ frames := 1709, cells := LC - H0.size, slots := LS - jTot H0, locals := 72032 }) (va_Pc [.ref r0, .int a1] (fun U => U.heap = H0 ∧ jX B base G0 [] H0 ∧ jG dC dI ca base U ∧ jK2 dC dI ca U ∧ G0 r0 = some (16, 0) ∧ G0 bn = some (0, 0) ∧ G0 bv = some (0, 0) ∧ G0 an = some (196, n_an) ∧ G0 av = some (196, n_av) ∧ G0 dd = some (201, 3) ∧ G0 co = some (208, 2) ∧ G0 cs = some (207, 2) ∧ G0 ol = some (14, 0) ∧ G0 nw = some (14, 0) ∧ G0 td = some (14, 0) ∧ G0 xb = some (122, 3100) ∧ G0 xe = some (123, 3100) ∧ jP (dC, dI) G0 H0 [(r0, 16, 13, .ref bn), (r0, 16, 14, .ref bv), (bn, 0, 3, .int cn), (bn, 0, 0, .ref an), (bv, 0, 3, .int cv), (bv, 0, 0, .ref av), (r0, 16, 12, .int ph), (r0, 16, 11, .int pm), (r0, 16, 15, .int pl), (r0, 16, 16, .int pb), (r0, 16, 41, .ref dd), (r0, 16, 42, .int dc), (r0, 16, 60, .ref co), (r0, 16, 61, .ref cs), (r0, 16, 46, .ref ol), (r0, 16, 47, .ref nw), (r0, 16, 71, .ref td), (r0, 16, 22, .ref xb), (r0, 16, 23, .ref xe)] ∧ jMc (dC, dI) G0 H0 [(cs, 207, 2, ca 1, fs)] ∧ jIs (dC, dI) G0 H0 [(jFs, jDY dC dI ca G0 none sn), (jF9, jVl dC dI G0 9 ck), ([(201, 0)], jQc dC dI (ca 4) dd 3 fd), ([(208, 0)], jQc dC dI (ca 4) co 2 fo), (jFt, jFT dC dI ca G0 xb xe)] ∧ H0.size + (1610 - n_an - n_av) ≤ LC ∧ jTot H0 + 2 * (1610 - n_an - n_av) ≤ LS ∧ jPu sn ck fd fo fs dc.toInt ol nw td ∧ bn ≠ bv ∧ 0 ≤ ph.toInt ∧ ph.toInt ≤ 200 ∧ 0 ≤ cn.toInt ∧ (pm.toInt = 0 ∨ cn.toInt ≤ ph.toInt) ∧ cn.toInt ≤ n_an ∧ 16 ≤ n_an ∧ n_an ≤ 400 ∧ 0 ≤ cv.toInt ∧ (pm.toInt = 0 ∨ cv.toInt ≤ ph.toInt) ∧ cv.toInt ≤ n_av ∧ 16 ≤ n_av ∧ n_av ≤ 400 ∧ -1 ≤ pl.toInt ∧ pl.toInt ≤ 3000 ∧ (pm.toInt ≠ 5 ∨ 0 ≤ pl.toInt) ∧ 0 ≤ a1.toInt ∧ a1.toInt ≤ 255 ∧ 0 ≤ pm.toInt ∧ pm.toInt ≤ 6 ∧ (pm.toInt ≠ 6 ∨ (0 ≤ pb.toInt ∧ pb.toInt < pl.toInt)))) (va_Qv (S := Int32 × Int32 × Int32 × Int32 × Int32 × Int32 × Int32 × Nat × Nat × Nat × Nat × jT) (fun u => 0 ≤ u.2.2.2.2.1.toInt ∧ (u.2.1.toInt = 0 ∨ u.2.2.2.2.1.toInt ≤ u.1.toInt) ∧ u.2.2.2.2.1.toInt ≤ u.2.2.2.2.2.2.2.2.1 ∧ n_an ≤ u.2.2.2.2.2.2.2.2.1 ∧ u.2.2.2.2.2.2.2.2.1 ≤ 400 ∧ 0 ≤ u.2.2.2.2.2.1.toInt ∧ (u.2.1.toInt = 0 ∨ u.2.2.2.2.2.1.toInt ≤ u.1.toInt) ∧ u.2.2.2.2.2.1.toInt ≤ u.2.2.2.2.2.2.2.2.2.2.1 ∧ n_av ≤ u.2.2.2.2.2.2.2.2.2.2.1 ∧ u.2.2.2.2.2.2.2.2.2.2.1 ≤ 400 ∧ -1 ≤ u.2.2.1.toInt ∧ u.2.2.1.toInt ≤ 3000 ∧ (u.2.2.2.2.2.2.1.toInt = 1 ∨ (0 ≤ u.1.toInt ∧ u.1.toInt ≤ 200 ∧ 0 ≤ u.2.1.toInt ∧ u.2.1.toInt ≤ 6 ∧ (u.2.1.toInt ≠ 5 ∨ 0 ≤ u.2.2.1.toInt) ∧ (u.2.1.toInt ≠ 6 ∨ (0 ≤ u.2.2.2.1.toInt ∧ u.2.2.2.1.toInt < u.2.2.1.toInt))))) (fun u t => jRa (dC, dI) B base G0 u.2.2.2.2.2.2.2.2.2.2.2 EX14_byteComes H0 ((u.2.2.2.2.2.2.2.2.1 - n_an) + (u.2.2.2.2.2.2.2.2.2.2.1 - n_av)) (2 * (u.2.2.2.2.2.2.2.2.1 - n_an) + 2 * (u.2.2.2.2.2.2.2.2.2.2.1 - n_av)) [(r0, 16, 12, .int u.1), (r0, 16, 11, .int u.2.1), (r0, 16, 15, .int u.2.2.1), (r0, 16, 16, .int u.2.2.2.1), (bn, 0, 3, .int u.2.2.2.2.1), (bv, 0, 3, .int u.2.2.2.2.2.1), (r0, 16, 7, .int u.2.2.2.2.2.2.1), (bn, 0, 0, .ref u.2.2.2.2.2.2.2.1), (bv, 0, 0, .ref u.2.2.2.2.2.2.2.2.2.1)] t.heap ∧ u.2.2.2.2.2.2.2.2.2.2.2 u.2.2.2.2.2.2.2.1 = some (196, u.2.2.2.2.2.2.2.2.1) ∧ u.2.2.2.2.2.2.2.2.2.2.2 u.2.2.2.2.2.2.2.2.2.1 = some (196, u.2.2.2.2.2.2.2.2.2.2.1) ∧ (jNk [0, 1, 2, 3, 4, 5, 6, 7, 8, 9, 10, 11, 12, 13, 14, 15, 16]) G0 u.2.2.2.2.2.2.2.2.2.2.2 ∧ jDV dC dI ca u.2.2.2.2.2.2.2.2.2.2.2 r0 dd co cs ol nw td t.heap ∧ jIs (dC, dI) u.2.2.2.2.2.2.2.2.2.2.2 t.heap [(jFt, jFT dC dI ca u.2.2.2.2.2.2.2.2.2.2.2 xb xe)]) (jA base)) (LC - H0.size) (LS - jTot H0) (jA base) := by
  refine Met.ofW (cc := cX14_byteComes) (maxL := 3) (ret := none) (by decide) rfl ?_
  intro p e s m args below meth c s₁ Bd hml hv
  obtain ⟨rfl, hH0, hX, hG, hK2, hg_r0, hg_bn, hg_bv, hg_an, hg_av, hg_dd, hg_co, hg_cs, hg_ol, hg_nw, hg_td, hg_xb, hg_xe, hP0, hM0, hI0, hLC0, hLS0, hp0, hp1, hp2, hp3, hp4, hp5, hp6, hp7, hp8, hp9, hp10, hp11, hp12, hp13, hp14, hp15, hp16, hp17, hp18, hp19, hp20, hp21⟩ := hv
  have hK := hG.1
  have hx := Bd.exec
  have hb := Bd.bytes
  have hr := Bd.returns
  have hts := atoms_spec (ws := (jw yX14_byteComes cX14_byteComes 3 none)) Bd.pre
  have htw : ∀ w ∈ jWl, w.before _ s = true := fun w h => hts w (List.mem_cons_of_mem _ h)
  have hown : s.vm.findClass RX14 = some m.cls := findClass_of_methodNamed Bd.named
  have hlocks := Bd.notSynchronized
  obtain ⟨Q, hQ⟩ : ∃ Q, Q = MQ below (va_Qv (S := Int32 × Int32 × Int32 × Int32 × Int32 × Int32 × Int32 × Nat × Nat × Nat × Nat × jT) (fun u => 0 ≤ u.2.2.2.2.1.toInt ∧ (u.2.1.toInt = 0 ∨ u.2.2.2.2.1.toInt ≤ u.1.toInt) ∧ u.2.2.2.2.1.toInt ≤ u.2.2.2.2.2.2.2.2.1 ∧ n_an ≤ u.2.2.2.2.2.2.2.2.1 ∧ u.2.2.2.2.2.2.2.2.1 ≤ 400 ∧ 0 ≤ u.2.2.2.2.2.1.toInt ∧ (u.2.1.toInt = 0 ∨ u.2.2.2.2.2.1.toInt ≤ u.1.toInt) ∧ u.2.2.2.2.2.1.toInt ≤ u.2.2.2.2.2.2.2.2.2.2.1 ∧ n_av ≤ u.2.2.2.2.2.2.2.2.2.2.1 ∧ u.2.2.2.2.2.2.2.2.2.2.1 ≤ 400 ∧ -1 ≤ u.2.2.1.toInt ∧ u.2.2.1.toInt ≤ 3000 ∧ (u.2.2.2.2.2.2.1.toInt = 1 ∨ (0 ≤ u.1.toInt ∧ u.1.toInt ≤ 200 ∧ 0 ≤ u.2.1.toInt ∧ u.2.1.toInt ≤ 6 ∧ (u.2.1.toInt ≠ 5 ∨ 0 ≤ u.2.2.1.toInt) ∧ (u.2.1.toInt ≠ 6 ∨ (0 ≤ u.2.2.2.1.toInt ∧ u.2.2.2.1.toInt < u.2.2.1.toInt))))) (fun u t => jRa (dC, dI) B base G0 u.2.2.2.2.2.2.2.2.2.2.2 EX14_byteComes H0 ((u.2.2.2.2.2.2.2.2.1 - n_an) + (u.2.2.2.2.2.2.2.2.2.2.1 - n_av)) (2 * (u.2.2.2.2.2.2.2.2.1 - n_an) + 2 * (u.2.2.2.2.2.2.2.2.2.2.1 - n_av)) [(r0, 16, 12, .int u.1), (r0, 16, 11, .int u.2.1), (r0, 16, 15, .int u.2.2.1), (r0, 16, 16, .int u.2.2.2.1), (bn, 0, 3, .int u.2.2.2.2.1), (bv, 0, 3, .int u.2.2.2.2.2.1), (r0, 16, 7, .int u.2.2.2.2.2.2.1), (bn, 0, 0, .ref u.2.2.2.2.2.2.2.1), (bv, 0, 0, .ref u.2.2.2.2.2.2.2.2.2.1)] t.heap ∧ u.2.2.2.2.2.2.2.2.2.2.2 u.2.2.2.2.2.2.2.1 = some (196, u.2.2.2.2.2.2.2.2.1) ∧ u.2.2.2.2.2.2.2.2.2.2.2 u.2.2.2.2.2.2.2.2.2.1 = some (196, u.2.2.2.2.2.2.2.2.2.2.1) ∧ (jNk [0, 1, 2, 3, 4, 5, 6, 7, 8, 9, 10, 11, 12, 13, 14, 15, 16]) G0 u.2.2.2.2.2.2.2.2.2.2.2 ∧ jDV dC dI ca u.2.2.2.2.2.2.2.2.2.2.2 r0 dd co cs ol nw td t.heap ∧ jIs (dC, dI) u.2.2.2.2.2.2.2.2.2.2.2 t.heap [(jFt, jFT dC dI ca u.2.2.2.2.2.2.2.2.2.2.2 xb xe)]) (jA base)) ([.ref r0, .int a1] : List Value).toArray s (LC - H0.size) (LS - jTot H0) (jA base) := ⟨_, rfl⟩
  rw [← hQ]
  have hl := lv_entry ([.ref r0, .int a1]) (n := 3) (Nat.le_of_ble_eq_true rfl)
  rw [lg_entry_eq]
  generalize (lg_sl ([.ref r0, .int a1]) ++ List.replicate (3 - (lg_sl ([.ref r0, .int a1])).length) Slot.unset).toArray = ls at hl ⊢
  have hl : lv_has ls 3 [(0, .ref r0), (1, .int a1)] := hl
  generalize hR : (headSpec (jw yX14_byteComes cX14_byteComes 3 none) ({ frames := 1709, cells := LC - H0.size, slots := LS - jTot H0, locals := 72032 })).room = R
  subst hH0
  have hh : jSt (dC, dI) B base G0 G0 EX14_byteComes s.heap 0 0 [(r0, 16, 13, .ref bn), (r0, 16, 14, .ref bv), (bn, 0, 3, .int cn), (bn, 0, 0, .ref an), (bv, 0, 3, .int cv), (bv, 0, 0, .ref av), (r0, 16, 12, .int ph), (r0, 16, 11, .int pm), (r0, 16, 15, .int pl), (r0, 16, 16, .int pb), (r0, 16, 41, .ref dd), (r0, 16, 42, .int dc), (r0, 16, 60, .ref co), (r0, 16, 61, .ref cs), (r0, 16, 46, .ref ol), (r0, 16, 47, .ref nw), (r0, 16, 71, .ref td), (r0, 16, 22, .ref xb), (r0, 16, 23, .ref xe)] [(cs, 207, 2, ca 1, fs)] [(jFs, jDY dC dI ca G0 none sn), (jF9, jVl dC dI G0 9 ck), ([(201, 0)], jQc dC dI (ca 4) dd 3 fd), ([(208, 0)], jQc dC dI (ca 4) co 2 fo), (jFt, jFT dC dI ca G0 xb xe)] s.heap [] := jSt.start hX hP0 hM0 hI0
  clear hX hP0
  have hkm1 : ((-1) : Int32).toInt = (-1) := by decide
  have hk0 : (0 : Int32).toInt = 0 := by decide
  have hk1 : (1 : Int32).toInt = 1 := by decide
  have hk6 : (6 : Int32).toInt = 6 := by decide
  have hly_16_7 := htw (u_lay RX14 TX14 7) (jWc_wsX140 _ (u_in_lay (by decide)))
  have hly_16_8 := htw (u_lay RX14 TX14 8) (jWc_wsX140 _ (u_in_lay (by decide)))
  have hly_16_9 := htw (u_lay RX14 TX14 9) (jWc_wsX140 _ (u_in_lay (by decide)))
  have hly_16_10 := htw (u_lay RX14 TX14 10) (jWc_wsX140 _ (u_in_lay (by decide)))
  have hly_16_11 := htw (u_lay RX14 TX14 11) (jWc_wsX140 _ (u_in_lay (by decide)))
  have hly_16_12 := htw (u_lay RX14 TX14 12) (jWc_wsX140 _ (u_in_lay (by decide)))
  have hly_16_15 := htw (u_lay RX14 TX14 15) (jWc_wsX140 _ (u_in_lay (by decide)))
  have hly_16_16 := htw (u_lay RX14 TX14 16) (jWc_wsX140 _ (u_in_lay (by decide)))
  have hlk_231 := (htw (.fieldLink RX14 231 "ProofServerModel" "mode" "I") (jWr_44 _ (List.mem_of_getElem? (i := 15) rfl)))
  have hlk_258 := (htw (.fieldLink RX14 258 "ProofServerModel" "keptBytes" "I") (jWr_44 _ (List.mem_of_getElem? (i := 16) rfl)))
  have hlk_202 := (htw (.fieldLink RX14 202 "ProofServerModel" "broken" "Z") (jWr_44 _ (List.mem_of_getElem? (i := 9) rfl)))
  have hlk_20 := (htw (.fieldLink RX14 20 "ProofServerModel" "kept" "[I") (jWr_10 _ (List.mem_of_getElem? (i := 21) rfl)))
  have hlk_244 := (htw (.fieldLink RX14 244 "ProofServerModel" "bodyFrom" "I") (jWr_44 _ (List.mem_of_getElem? (i := 17) rfl)))
  have hlk_33 := (htw (.fieldLink RX14 33 "ProofServerModel" "length" "I") (jWr_11 _ (List.mem_of_getElem? (i := 3) rfl)))
  have hlk_228 := (htw (.fieldLink RX14 228 "ProofServerModel" "headerBytes" "I") (jWr_44 _ (List.mem_of_getElem? (i := 18) rfl)))
  have hlk_264 := (htw (.fieldLink RX14 264 "ProofServerModel" "messages" "I") (jWr_44 _ (List.mem_of_getElem? (i := 19) rfl)))
  have hrg_a1 := jb_rng a1
  have hbs : base ≤ s.heap.size := Nat.le_of_lt (Nat.lt_of_le_of_lt (hh.ab hg_r0).1 (hh.ab hg_r0).2)
  have hRc : R.cells = LC - s.heap.size := by rw [← hR]; rfl
  have hRs : R.slots = LS - jTot s.heap := by rw [← hR]; rfl
  refine lv_aload_n hx hb dX14_byteComes_0 rfl (lv_at hl 0 rfl) ?_
  refine j7_read hx hb hown hK (C := RX14) (T := TX14) (N := 74) rfl hly_16_11 hlk_231 (hh.at 7 rfl) dX14_byteComes_1 ?_
  refine lv_bipush (v := 6) hx hb dX14_byteComes_4 (by decide) ?_
  refine lv_icmp_ge (tgt := 38) hx hb dX14_byteComes_6 (by decide) (fun c_1 => ?_) (fun c_1 => ?_)
  · skip
    have c_1' : pm.toInt ≥ 6 := jb_ge (rfl) ((by decide)) c_1
    refine lv_aload_n hx hb dX14_byteComes_38 rfl (lv_at hl 0 rfl) ?_
    obtain ⟨v_2, hv_2, hh_3⟩ := hh.pin (C := RX14) (T := TX14) (N := 74) hB16 rfl (by decide) hg_r0 (i := 9) (by decide) rfl
    clear hh
    obtain ⟨kept_4, rfl, hg_kept_4⟩ := hv_2
    refine j7_read hx hb hown hK (C := RX14) (T := TX14) (N := 74) rfl hly_16_9 hlk_20 (hh_3.at 0 rfl) dX14_byteComes_39 ?_
    refine lv_aload_n hx hb dX14_byteComes_42 rfl (lv_at hl 0 rfl) ?_
    refine j7_read hx hb hown hK (C := RX14) (T := TX14) (N := 74) rfl hly_16_16 hlk_244 (hh_3.at 10 rfl) dX14_byteComes_43 ?_
    refine lv_iload_n hx hb dX14_byteComes_46 rfl (lv_at hl 1 rfl) ?_
    refine j7_iast hx hb hK hh_3 hB hB110 1 rfl (by decide) (by decide) rfl rfl rfl hg_kept_4 (x := pb.toInt) (rfl) (by omega) (by first | omega | (refine ⟨?_, ?_⟩ <;> (first | omega | rfl | assumption | decide | exact Or.inl rfl | exact Or.inr rfl | (simp only; omega)))) dX14_byteComes_47 (fun H_5 locs_5 hh_5 => ?_)
    clear hh_3
    refine lv_aload_n hx hb dX14_byteComes_48 rfl (lv_at hl 0 rfl) ?_
    refine lv_dup hx hb dX14_byteComes_49 rfl ?_
    refine j7_read hx hb hown hK (C := RX14) (T := TX14) (N := 74) rfl hly_16_16 hlk_244 (hh_5.at 10 rfl) dX14_byteComes_50 ?_
    refine lv_iconst (v := 1) hx hb dX14_byteComes_53 (by decide) ?_
    refine lv_iadd hx hb dX14_byteComes_54 ?_
    refine lv_topi (fun z_6 ez_6 => ?_)
    have hz_6 : z_6.toInt = pb.toInt + 1 := by rw [ez_6]; exact jb_iadd2 (rfl) ((by decide)) (by omega)
    refine j7_put hx hb hown hK hh_5 hB hAp hB16 (C := RX14) (T := TX14) (N := 74) rfl (by decide) hg_r0 (i := 16) (by decide) hly_16_16 rfl hlk_244 rfl (ty := .int) (v := .int z_6) (by decide +kernel) rfl rfl (⟨_, rfl⟩) rfl (L1 := [(r0, 16, 9, .ref kept_4), (r0, 16, 13, .ref bn), (r0, 16, 14, .ref bv), (bn, 0, 3, .int cn), (bn, 0, 0, .ref an), (bv, 0, 3, .int cv), (bv, 0, 0, .ref av), (r0, 16, 12, .int ph), (r0, 16, 11, .int pm), (r0, 16, 15, .int pl), (r0, 16, 41, .ref dd), (r0, 16, 42, .int dc), (r0, 16, 60, .ref co), (r0, 16, 61, .ref cs), (r0, 16, 46, .ref ol), (r0, 16, 47, .ref nw), (r0, 16, 71, .ref td), (r0, 16, 22, .ref xb), (r0, 16, 23, .ref xe)]) [0, 1, 2, 3, 4, 5, 6, 7, 8, 9, 11, 12, 13, 14, 15, 16, 17, 18, 19] rfl rfl rfl dX14_byteComes_55 (fun H_7 locs_7 hh_7 => ?_)
    clear hh_5
    refine lv_aload_n hx hb dX14_byteComes_58 rfl (lv_at hl 0 rfl) ?_
    refine lv_dup hx hb dX14_byteComes_59 rfl ?_
    obtain ⟨v_8, hv_8, hh_9⟩ := hh_7.pin (C := RX14) (T := TX14) (N := 74) hB16 rfl (by decide) hg_r0 (i := 10) (by decide) rfl
    clear hh_7
    obtain ⟨keptBytes_10, rfl⟩ := hv_8
    refine j7_read hx hb hown hK (C := RX14) (T := TX14) (N := 74) rfl hly_16_10 hlk_258 (hh_9.at 0 rfl) dX14_byteComes_60 ?_
    refine lv_iconst (v := 1) hx hb dX14_byteComes_63 (by decide) ?_
    refine lv_iadd hx hb dX14_byteComes_64 ?_
    refine lv_topi (fun z_11 ez_11 => ?_)
    refine j7_put hx hb hown hK hh_9 hB hAp hB16 (C := RX14) (T := TX14) (N := 74) rfl (by decide) hg_r0 (i := 10) (by decide) hly_16_10 rfl hlk_258 rfl (ty := .int) (v := .int z_11) (by decide +kernel) rfl rfl (⟨_, rfl⟩) rfl (L1 := [(r0, 16, 16, .int z_6), (r0, 16, 9, .ref kept_4), (r0, 16, 13, .ref bn), (r0, 16, 14, .ref bv), (bn, 0, 3, .int cn), (bn, 0, 0, .ref an), (bv, 0, 3, .int cv), (bv, 0, 0, .ref av), (r0, 16, 12, .int ph), (r0, 16, 11, .int pm), (r0, 16, 15, .int pl), (r0, 16, 41, .ref dd), (r0, 16, 42, .int dc), (r0, 16, 60, .ref co), (r0, 16, 61, .ref cs), (r0, 16, 46, .ref ol), (r0, 16, 47, .ref nw), (r0, 16, 71, .ref td), (r0, 16, 22, .ref xb), (r0, 16, 23, .ref xe)]) [1, 2, 3, 4, 5, 6, 7, 8, 9, 10, 11, 12, 13, 14, 15, 16, 17, 18, 19, 20] rfl rfl rfl dX14_byteComes_65 (fun H_12 locs_12 hh_12 => ?_)
    clear hh_9
    refine lv_aload_n hx hb dX14_byteComes_68 rfl (lv_at hl 0 rfl) ?_
    refine j7_read hx hb hown hK (C := RX14) (T := TX14) (N := 74) rfl hly_16_11 hlk_231 (hh_12.at 10 rfl) dX14_byteComes_69 ?_
    refine lv_bipush (v := 6) hx hb dX14_byteComes_72 (by decide) ?_
    refine lv_icmp_ne (tgt := 88) hx hb dX14_byteComes_74 (by decide) (fun c_13 => ?_) (fun c_13 => ?_)
    · skip
      have c_13' : pm.toInt ≠ 6 := jb_ne (rfl) ((by decide)) c_13
      have hsz_14 := hh_12.2.2.2.2.2.1
      have htt_14 := hh_12.2.2.2.2.2.2.1
      refine W.room (fun hrc_14 hrs_14 => ?_)
      refine W.widen (k := LC - s.heap.size) (n := LS - jTot s.heap) (by omega) (by omega) ?_
      rw [hQ]
      obtain ⟨v_15, hv_15, hh_16⟩ := hh_12.pin (C := RX14) (T := TX14) (N := 74) hB16 rfl (by decide) hg_r0 (i := 7) (by decide) rfl
      obtain ⟨broken_17, rfl, hzbroken_17⟩ := hv_15
      have hzbroken_17' := jb_01 hzbroken_17
      exact W.vret hx hb hr (fun t ht hW => ⟨⟨(ph, pm, pl, z_6, cn, cv, broken_17, an, n_an, av, n_av, G0), rfl, by (try dsimp only); exact ⟨(by first | omega | rfl | assumption | fail), (by first | omega | rfl | assumption | fail), (by first | omega | rfl | assumption | fail), (by first | omega | rfl | assumption | fail), (by first | omega | rfl | assumption | fail), (by first | omega | rfl | assumption | fail), (by first | omega | rfl | assumption | fail), (by first | omega | rfl | assumption | fail), (by first | omega | rfl | assumption | fail), (by first | omega | rfl | assumption | fail), (by first | omega | rfl | assumption | fail), (by first | omega | rfl | assumption | fail), (by first | omega | rfl | assumption | fail)⟩, ⟨hh_16.ra (by first | (simp only; omega) | omega) (by first | (simp only; omega) | omega) (M1 := [(r0, 16, 12, .int ph), (r0, 16, 11, .int pm), (r0, 16, 15, .int pl), (r0, 16, 16, .int z_6), (bn, 0, 3, .int cn), (bv, 0, 3, .int cv), (r0, 16, 7, .int broken_17), (bn, 0, 0, .ref an), (bv, 0, 0, .ref av)]) [10, 11, 12, 2, 6, 8, 0, 7, 9] rfl ht, hg_an, hg_av, jNk.rf, by rw [ht]; exact ⟨sn, ck, fs, fd, fo, dc, hh_16.2.2.1.sub (L1 := [(r0, 16, 41, .ref dd), (r0, 16, 42, .int dc), (r0, 16, 60, .ref co), (r0, 16, 61, .ref cs), (r0, 16, 46, .ref ol), (r0, 16, 47, .ref nw), (r0, 16, 71, .ref td)]) [13, 14, 15, 16, 17, 18, 19] rfl, hh_16.2.2.2.2.2.2.2.1.sub (L1 := [(cs, 207, 2, ca 1, fs)]) [0] rfl, hh_16.2.2.2.2.2.2.2.2.sub (L1 := [(jFs, jDY dC dI ca G0 none sn), (jF9, jVl dC dI G0 9 ck), ([(201, 0)], jQc dC dI (ca 4) dd 3 fd), ([(208, 0)], jQc dC dI (ca 4) co 2 fo)]) [0, 1, 2, 3] rfl, (by assumption)⟩, by rw [ht]; exact hh_16.2.2.2.2.2.2.2.2.sub (L1 := [(jFt, jFT dC dI ca G0 xb xe)]) [4] rfl⟩⟩, by rw [ht]; try exact hh_16.1.1, fun q h9 hq => by rw [ht]; try exact hh_16.1.2.1 q h9 hq⟩) hh_16.1.2.2 dX14_byteComes_88
    · skip
      have c_13' : pm.toInt = 6 := jb_ne_n (rfl) ((by decide)) c_13
      refine lv_aload_n hx hb dX14_byteComes_77 rfl (lv_at hl 0 rfl) ?_
      refine j7_read hx hb hown hK (C := RX14) (T := TX14) (N := 74) rfl hly_16_16 hlk_244 (hh_12.at 1 rfl) dX14_byteComes_78 ?_
      refine lv_aload_n hx hb dX14_byteComes_81 rfl (lv_at hl 0 rfl) ?_
      refine j7_read hx hb hown hK (C := RX14) (T := TX14) (N := 74) rfl hly_16_15 hlk_33 (hh_12.at 11 rfl) dX14_byteComes_82 ?_
      refine lv_icmp_ge (tgt := 89) hx hb dX14_byteComes_85 (by decide) (fun c_18 => ?_) (fun c_18 => ?_)
      · skip
        have c_18' : z_6.toInt ≥ pl.toInt := jb_ge (rfl) (rfl) c_18
        refine lv_aload_n hx hb dX14_byteComes_89 rfl (lv_at hl 0 rfl) ?_
        refine j7_read hx hb hown hK (C := RX14) (T := TX14) (N := 74) rfl hly_16_15 hlk_33 (hh_12.at 11 rfl) dX14_byteComes_90 ?_
        refine lv_istore_n (lv' := [(2, .int pl), (0, .ref r0), (1, .int a1)]) hx hb dX14_byteComes_93 rfl hl (by decide) rfl (fun ls hl => ?_)
        refine lv_aload_n hx hb dX14_byteComes_94 rfl (lv_at hl 1 rfl) ?_
        refine lv_iconst (v := 0) hx hb dX14_byteComes_95 (by decide) ?_
        refine j7_put hx hb hown hK hh_12 hB hAp hB16 (C := RX14) (T := TX14) (N := 74) rfl (by decide) hg_r0 (i := 11) (by decide) hly_16_11 rfl hlk_231 rfl (ty := .int) (v := .int 0) (by decide +kernel) rfl rfl (⟨_, rfl⟩) rfl (L1 := [(r0, 16, 10, .int z_11), (r0, 16, 16, .int z_6), (r0, 16, 9, .ref kept_4), (r0, 16, 13, .ref bn), (r0, 16, 14, .ref bv), (bn, 0, 3, .int cn), (bn, 0, 0, .ref an), (bv, 0, 3, .int cv), (bv, 0, 0, .ref av), (r0, 16, 12, .int ph), (r0, 16, 15, .int pl), (r0, 16, 41, .ref dd), (r0, 16, 42, .int dc), (r0, 16, 60, .ref co), (r0, 16, 61, .ref cs), (r0, 16, 46, .ref ol), (r0, 16, 47, .ref nw), (r0, 16, 71, .ref td), (r0, 16, 22, .ref xb), (r0, 16, 23, .ref xe)]) [0, 1, 2, 3, 4, 5, 6, 7, 8, 9, 11, 12, 13, 14, 15, 16, 17, 18, 19, 20] rfl rfl rfl dX14_byteComes_96 (fun H_19 locs_19 hh_19 => ?_)
        clear hh_12
        refine lv_aload_n hx hb dX14_byteComes_99 rfl (lv_at hl 1 rfl) ?_
        refine lv_iconst (v := 0) hx hb dX14_byteComes_100 (by decide) ?_
        refine j7_put hx hb hown hK hh_19 hB hAp hB16 (C := RX14) (T := TX14) (N := 74) rfl (by decide) hg_r0 (i := 12) (by decide) hly_16_12 rfl hlk_228 rfl (ty := .int) (v := .int 0) (by decide +kernel) rfl rfl (⟨_, rfl⟩) rfl (L1 := [(r0, 16, 11, .int 0), (r0, 16, 10, .int z_11), (r0, 16, 16, .int z_6), (r0, 16, 9, .ref kept_4), (r0, 16, 13, .ref bn), (r0, 16, 14, .ref bv), (bn, 0, 3, .int cn), (bn, 0, 0, .ref an), (bv, 0, 3, .int cv), (bv, 0, 0, .ref av), (r0, 16, 15, .int pl), (r0, 16, 41, .ref dd), (r0, 16, 42, .int dc), (r0, 16, 60, .ref co), (r0, 16, 61, .ref cs), (r0, 16, 46, .ref ol), (r0, 16, 47, .ref nw), (r0, 16, 71, .ref td), (r0, 16, 22, .ref xb), (r0, 16, 23, .ref xe)]) [0, 1, 2, 3, 4, 5, 6, 7, 8, 9, 11, 12, 13, 14, 15, 16, 17, 18, 19, 20] rfl rfl rfl dX14_byteComes_101 (fun H_20 locs_20 hh_20 => ?_)
        clear hh_19
        refine lv_aload_n hx hb dX14_byteComes_104 rfl (lv_at hl 1 rfl) ?_
        refine lv_iconst (v := 0) hx hb dX14_byteComes_105 (by decide) ?_
        refine j7_put hx hb hown hK hh_20 hB hAp hB16 (C := RX14) (T := TX14) (N := 74) rfl (by decide) hg_r0 (i := 10) (by decide) hly_16_10 rfl hlk_258 rfl (ty := .int) (v := .int 0) (by decide +kernel) rfl rfl (⟨_, rfl⟩) rfl (L1 := [(r0, 16, 12, .int 0), (r0, 16, 11, .int 0), (r0, 16, 16, .int z_6), (r0, 16, 9, .ref kept_4), (r0, 16, 13, .ref bn), (r0, 16, 14, .ref bv), (bn, 0, 3, .int cn), (bn, 0, 0, .ref an), (bv, 0, 3, .int cv), (bv, 0, 0, .ref av), (r0, 16, 15, .int pl), (r0, 16, 41, .ref dd), (r0, 16, 42, .int dc), (r0, 16, 60, .ref co), (r0, 16, 61, .ref cs), (r0, 16, 46, .ref ol), (r0, 16, 47, .ref nw), (r0, 16, 71, .ref td), (r0, 16, 22, .ref xb), (r0, 16, 23, .ref xe)]) [0, 1, 3, 4, 5, 6, 7, 8, 9, 10, 11, 12, 13, 14, 15, 16, 17, 18, 19, 20] rfl rfl rfl dX14_byteComes_106 (fun H_21 locs_21 hh_21 => ?_)
        clear hh_20
        refine lv_aload_n hx hb dX14_byteComes_109 rfl (lv_at hl 1 rfl) ?_
        refine lv_iconst (v := (-1)) hx hb dX14_byteComes_110 (by decide) ?_
        refine j7_put hx hb hown hK hh_21 hB hAp hB16 (C := RX14) (T := TX14) (N := 74) rfl (by decide) hg_r0 (i := 15) (by decide) hly_16_15 rfl hlk_33 rfl (ty := .int) (v := .int (-1)) (by decide +kernel) rfl rfl (⟨_, rfl, by omega, by omega⟩) rfl (L1 := [(r0, 16, 10, .int 0), (r0, 16, 12, .int 0), (r0, 16, 11, .int 0), (r0, 16, 16, .int z_6), (r0, 16, 9, .ref kept_4), (r0, 16, 13, .ref bn), (r0, 16, 14, .ref bv), (bn, 0, 3, .int cn), (bn, 0, 0, .ref an), (bv, 0, 3, .int cv), (bv, 0, 0, .ref av), (r0, 16, 41, .ref dd), (r0, 16, 42, .int dc), (r0, 16, 60, .ref co), (r0, 16, 61, .ref cs), (r0, 16, 46, .ref ol), (r0, 16, 47, .ref nw), (r0, 16, 71, .ref td), (r0, 16, 22, .ref xb), (r0, 16, 23, .ref xe)]) [0, 1, 2, 3, 4, 5, 6, 7, 8, 9, 10, 12, 13, 14, 15, 16, 17, 18, 19, 20] rfl rfl rfl dX14_byteComes_111 (fun H_22 locs_22 hh_22 => ?_)
        clear hh_21
        refine lv_aload_n hx hb dX14_byteComes_114 rfl (lv_at hl 1 rfl) ?_
        refine lv_dup hx hb dX14_byteComes_115 rfl ?_
        obtain ⟨v_23, hv_23, hh_24⟩ := hh_22.pin (C := RX14) (T := TX14) (N := 74) hB16 rfl (by decide) hg_r0 (i := 8) (by decide) rfl
        clear hh_22
        obtain ⟨messages_25, rfl⟩ := hv_23
        refine j7_read hx hb hown hK (C := RX14) (T := TX14) (N := 74) rfl hly_16_8 hlk_264 (hh_24.at 0 rfl) dX14_byteComes_116 ?_
        refine lv_iconst (v := 1) hx hb dX14_byteComes_119 (by decide) ?_
        refine lv_iadd hx hb dX14_byteComes_120 ?_
        refine lv_topi (fun z_26 ez_26 => ?_)
        refine j7_put hx hb hown hK hh_24 hB hAp hB16 (C := RX14) (T := TX14) (N := 74) rfl (by decide) hg_r0 (i := 8) (by decide) hly_16_8 rfl hlk_264 rfl (ty := .int) (v := .int z_26) (by decide +kernel) rfl rfl (⟨_, rfl⟩) rfl (L1 := [(r0, 16, 15, .int (-1)), (r0, 16, 10, .int 0), (r0, 16, 12, .int 0), (r0, 16, 11, .int 0), (r0, 16, 16, .int z_6), (r0, 16, 9, .ref kept_4), (r0, 16, 13, .ref bn), (r0, 16, 14, .ref bv), (bn, 0, 3, .int cn), (bn, 0, 0, .ref an), (bv, 0, 3, .int cv), (bv, 0, 0, .ref av), (r0, 16, 41, .ref dd), (r0, 16, 42, .int dc), (r0, 16, 60, .ref co), (r0, 16, 61, .ref cs), (r0, 16, 46, .ref ol), (r0, 16, 47, .ref nw), (r0, 16, 71, .ref td), (r0, 16, 22, .ref xb), (r0, 16, 23, .ref xe)]) [1, 2, 3, 4, 5, 6, 7, 8, 9, 10, 11, 12, 13, 14, 15, 16, 17, 18, 19, 20, 21] rfl rfl rfl dX14_byteComes_121 (fun H_27 locs_27 hh_27 => ?_)
        clear hh_24
        refine lv_aload_n hx hb dX14_byteComes_124 rfl (lv_at hl 1 rfl) ?_
        refine lv_iload_n hx hb dX14_byteComes_125 rfl (lv_at hl 0 rfl) ?_
        have hsz_28 := hh_27.2.2.2.2.2.1
        have htt_28 := hh_27.2.2.2.2.2.2.1
        refine W.room (fun hrc_28 hrs_28 => ?_)
        refine va_callv (A0 := jA base) (H0 := s.heap) (va_runV (As := [.int pl]) (rest := []) ⟨hx, hb, hml, hown, hts⟩ (uX14_message l dC dI ca base B hB hAp hB14 hB15 hB16 hB101 hB103 hB110 hB117 hB118 hB119 hB120 hB121 hB122 hB123 hB124 hB125 hB127 hB150 hB151 hB152 hB153 hB154 hB155 hB156 hB157 hB158 hB159 hB160 hB161 hB162 hB163 hB164 hB165 hB166 hB167 hB168 hB169 hB190 hB191 hB192 hB193 hB201 hB202 hB203 hB204 hB206 hB207 hB208 G0 H_27 r0 pl dd dc co cs ol nw td xb xe sn ck fd fo fs) (cwV 1 hts (jgV (jWr_50 _ (List.mem_of_getElem? (i := 1) rfl)) (jWr_50 _ (List.mem_of_getElem? (i := 2) rfl)) (jWr_50 _ (List.mem_of_getElem? (i := 3) rfl)) (jWr_1 _ (List.mem_of_getElem? (i := 5) rfl)) (jWr_50 _ (List.mem_of_getElem? (i := 4) rfl))) rfl rfl rfl (by decide +kernel) ⟨by rw [← hR]; exact Nat.le_of_ble_eq_true rfl, by rw [← hR]; exact Nat.le_of_ble_eq_true rfl⟩) ⟨fun a U g mk q => by obtain ⟨q0, q1, q2, qK, q10, q11, q12, q13, q14, q15, q16, q17, q18, q19, q20, q21, q22, q23⟩ := q; exact ⟨q0, q1, q2, jG.calling g mk a qK, (va_K.moved (Vm.Alike.refl U.vm) q10), q11, q12, q13, q14, q15, q16, q17, q18, q19, q20, q21, q22, q23⟩, hh_27.recv (C := RX14) (T := TX14) (N := 74) hB16 rfl (by decide) hg_r0 hK, fun U hU hW => ⟨rfl, hU, hh_27.2.1, hG.step hW hU hh_27.1, va_K.moved hW.alike hK2, hg_r0, hg_dd, hg_co, hg_cs, hg_ol, hg_nw, hg_td, hg_xb, hg_xe, (hh_27.2.2.1.sub (L1 := [(r0, 16, 41, .ref dd), (r0, 16, 42, .int dc), (r0, 16, 60, .ref co), (r0, 16, 61, .ref cs), (r0, 16, 46, .ref ol), (r0, 16, 47, .ref nw), (r0, 16, 71, .ref td), (r0, 16, 22, .ref xb), (r0, 16, 23, .ref xe)]) [13, 14, 15, 16, 17, 18, 19, 20, 21] rfl), (hh_27.2.2.2.2.2.2.2.1.sub (L1 := [(cs, 207, 2, ca 1, fs)]) [0] rfl), (hh_27.2.2.2.2.2.2.2.2.sub (L1 := [(jFs, jDY dC dI ca G0 none sn), (jF9, jVl dC dI G0 9 ck), ([(201, 0)], jQc dC dI (ca 4) dd 3 fd), ([(208, 0)], jQc dC dI (ca 4) co 2 fo), (jFt, jFT dC dI ca G0 xb xe)]) [0, 1, 2, 3, 4] rfl), by first | omega | (refine ⟨?_, ?_, ?_⟩ <;> (first | omega | rfl | assumption | decide | exact Or.inl rfl | exact Or.inr rfl | (simp only; omega)))⟩⟩ rfl rfl hl.1 rfl (lv_room (Nat.le_of_ble_eq_true rfl)) dX14_byteComes_126 ⟨by rw [hRc]; show _ + 0 ≤ _; omega, by rw [hRs]; show _ + 0 ≤ _; omega⟩) hh_27.1 (fun q _ h => h) (fun q h => h) (fun u_28 t_28 H_28 locs_28 ht_28 hvm_28 hr_29 hb_28 hz_28 hk_28 hS_28 => ?_)
        rw [ht_28] at hb_28
        obtain ⟨hb_28, hbT_28⟩ := hb_28
        obtain ⟨hb_28, hbV_28⟩ := hb_28
        obtain ⟨sn_28, ck_28, fs_28, fd_28, fo_28, dc_28, hVP_28, hVM_28, hVI_28, hpu_28⟩ := hbV_28
        obtain ⟨hb_281, hb_282, hb_283, hb_284, hb_285⟩ := hb_28
        have hh_28 : jSt (dC, dI) B base G0 G0 EX14_byteComes s.heap 0 0 [(r0, 16, 41, .ref dd), (r0, 16, 42, .int dc_28), (r0, 16, 60, .ref co), (r0, 16, 61, .ref cs), (r0, 16, 46, .ref ol), (r0, 16, 47, .ref nw), (r0, 16, 71, .ref td), (r0, 16, 8, .int z_26), (r0, 16, 15, .int (-1)), (r0, 16, 10, .int 0), (r0, 16, 12, .int 0), (r0, 16, 11, .int 0), (r0, 16, 16, .int z_6), (r0, 16, 9, .ref kept_4), (r0, 16, 13, .ref bn), (r0, 16, 14, .ref bv), (bn, 0, 3, .int cn), (bn, 0, 0, .ref an), (bv, 0, 3, .int cv), (bv, 0, 0, .ref av), (r0, 16, 22, .ref xb), (r0, 16, 23, .ref xe)] [(cs, 207, 2, ca 1, fs_28)] [(jFt, jFT dC dI ca G0 xb xe), (jFs, jDY dC dI ca G0 none sn_28), (jF9, jVl dC dI G0 9 ck_28), ([(201, 0)], jQc dC dI (ca 4) dd 3 fd_28), ([(208, 0)], jQc dC dI (ca 4) co 2 fo_28)] H_28 locs_28 := ((((((hh_27.call hb_281 hb_282 hb_283 hb_284 hS_28 rfl (L1 := [(r0, 16, 8, .int z_26), (r0, 16, 15, .int (-1)), (r0, 16, 10, .int 0), (r0, 16, 12, .int 0), (r0, 16, 11, .int 0), (r0, 16, 16, .int z_6), (r0, 16, 9, .ref kept_4), (r0, 16, 13, .ref bn), (r0, 16, 14, .ref bv), (bn, 0, 3, .int cn), (bn, 0, 0, .ref an), (bv, 0, 3, .int cv), (bv, 0, 0, .ref av), (r0, 16, 22, .ref xb), (r0, 16, 23, .ref xe)]) [0, 1, 2, 3, 4, 5, 6, 7, 8, 9, 10, 11, 12, 20, 21] rfl rfl (M1 := []) [] rfl rfl (I1 := []) [] rfl rfl).more hb_285)).more hVP_28).moreM hVM_28).addIs hVI_28).addIs hbT_28
        clear hh_27 ht_28 hvm_28 hz_28 hk_28 hS_28 hb_281 hb_282 hb_283 hb_284 hb_285
        clear hVP_28 hVM_28 hVI_28 hbT_28
        have hsz_30 := hh_28.2.2.2.2.2.1
        have htt_30 := hh_28.2.2.2.2.2.2.1
        refine W.room (fun hrc_30 hrs_30 => ?_)
        refine W.widen (k := LC - s.heap.size) (n := LS - jTot s.heap) (by omega) (by omega) ?_
        rw [hQ]
        obtain ⟨v_31, hv_31, hh_32⟩ := hh_28.pin (C := RX14) (T := TX14) (N := 74) hB16 rfl (by decide) hg_r0 (i := 7) (by decide) rfl
        obtain ⟨broken_33, rfl, hzbroken_33⟩ := hv_31
        have hzbroken_33' := jb_01 hzbroken_33
        exact W.vret hx hb hr (fun t ht hW => ⟨⟨(0, 0, (-1), z_6, cn, cv, broken_33, an, n_an, av, n_av, G0), rfl, by (try dsimp only); exact ⟨(by first | omega | rfl | assumption | fail), (by first | omega | rfl | assumption | fail), (by first | omega | rfl | assumption | fail), (by first | omega | rfl | assumption | fail), (by first | omega | rfl | assumption | fail), (by first | omega | rfl | assumption | fail), (by first | omega | rfl | assumption | fail), (by first | omega | rfl | assumption | fail), (by first | omega | rfl | assumption | fail), (by first | omega | rfl | assumption | fail), (by first | omega | rfl | assumption | fail), (by first | omega | rfl | assumption | fail), (by first | omega | rfl | assumption | fail)⟩, ⟨hh_32.ra (by first | (simp only; omega) | omega) (by first | (simp only; omega) | omega) (M1 := [(r0, 16, 12, .int 0), (r0, 16, 11, .int 0), (r0, 16, 15, .int (-1)), (r0, 16, 16, .int z_6), (bn, 0, 3, .int cn), (bv, 0, 3, .int cv), (r0, 16, 7, .int broken_33), (bn, 0, 0, .ref an), (bv, 0, 0, .ref av)]) [11, 12, 9, 13, 17, 19, 0, 18, 20] rfl ht, hg_an, hg_av, jNk.rf, by rw [ht]; exact ⟨sn_28, ck_28, fs_28, fd_28, fo_28, dc_28, hh_32.2.2.1.sub (L1 := [(r0, 16, 41, .ref dd), (r0, 16, 42, .int dc_28), (r0, 16, 60, .ref co), (r0, 16, 61, .ref cs), (r0, 16, 46, .ref ol), (r0, 16, 47, .ref nw), (r0, 16, 71, .ref td)]) [1, 2, 3, 4, 5, 6, 7] rfl, hh_32.2.2.2.2.2.2.2.1.sub (L1 := [(cs, 207, 2, ca 1, fs_28)]) [0] rfl, hh_32.2.2.2.2.2.2.2.2.sub (L1 := [(jFs, jDY dC dI ca G0 none sn_28), (jF9, jVl dC dI G0 9 ck_28), ([(201, 0)], jQc dC dI (ca 4) dd 3 fd_28), ([(208, 0)], jQc dC dI (ca 4) co 2 fo_28)]) [1, 2, 3, 4] rfl, (by assumption)⟩, by rw [ht]; exact hh_32.2.2.2.2.2.2.2.2.sub (L1 := [(jFt, jFT dC dI ca G0 xb xe)]) [0] rfl⟩⟩, by rw [ht]; try exact hh_32.1.1, fun q h9 hq => by rw [ht]; try exact hh_32.1.2.1 q h9 hq⟩) hh_32.1.2.2 dX14_byteComes_129
      · skip
        have c_18' : z_6.toInt < pl.toInt := jb_ge_n (rfl) (rfl) c_18
        have hsz_34 := hh_12.2.2.2.2.2.1
        have htt_34 := hh_12.2.2.2.2.2.2.1
        refine W.room (fun hrc_34 hrs_34 => ?_)
        refine W.widen (k := LC - s.heap.size) (n := LS - jTot s.heap) (by omega) (by omega) ?_
        rw [hQ]
        obtain ⟨v_35, hv_35, hh_36⟩ := hh_12.pin (C := RX14) (T := TX14) (N := 74) hB16 rfl (by decide) hg_r0 (i := 7) (by decide) rfl
        obtain ⟨broken_37, rfl, hzbroken_37⟩ := hv_35
        have hzbroken_37' := jb_01 hzbroken_37
        exact W.vret hx hb hr (fun t ht hW => ⟨⟨(ph, pm, pl, z_6, cn, cv, broken_37, an, n_an, av, n_av, G0), rfl, by (try dsimp only); exact ⟨(by first | omega | rfl | assumption | fail), (by first | omega | rfl | assumption | fail), (by first | omega | rfl | assumption | fail), (by first | omega | rfl | assumption | fail), (by first | omega | rfl | assumption | fail), (by first | omega | rfl | assumption | fail), (by first | omega | rfl | assumption | fail), (by first | omega | rfl | assumption | fail), (by first | omega | rfl | assumption | fail), (by first | omega | rfl | assumption | fail), (by first | omega | rfl | assumption | fail), (by first | omega | rfl | assumption | fail), (by first | omega | rfl | assumption | fail)⟩, ⟨hh_36.ra (by first | (simp only; omega) | omega) (by first | (simp only; omega) | omega) (M1 := [(r0, 16, 12, .int ph), (r0, 16, 11, .int pm), (r0, 16, 15, .int pl), (r0, 16, 16, .int z_6), (bn, 0, 3, .int cn), (bv, 0, 3, .int cv), (r0, 16, 7, .int broken_37), (bn, 0, 0, .ref an), (bv, 0, 0, .ref av)]) [10, 11, 12, 2, 6, 8, 0, 7, 9] rfl ht, hg_an, hg_av, jNk.rf, by rw [ht]; exact ⟨sn, ck, fs, fd, fo, dc, hh_36.2.2.1.sub (L1 := [(r0, 16, 41, .ref dd), (r0, 16, 42, .int dc), (r0, 16, 60, .ref co), (r0, 16, 61, .ref cs), (r0, 16, 46, .ref ol), (r0, 16, 47, .ref nw), (r0, 16, 71, .ref td)]) [13, 14, 15, 16, 17, 18, 19] rfl, hh_36.2.2.2.2.2.2.2.1.sub (L1 := [(cs, 207, 2, ca 1, fs)]) [0] rfl, hh_36.2.2.2.2.2.2.2.2.sub (L1 := [(jFs, jDY dC dI ca G0 none sn), (jF9, jVl dC dI G0 9 ck), ([(201, 0)], jQc dC dI (ca 4) dd 3 fd), ([(208, 0)], jQc dC dI (ca 4) co 2 fo)]) [0, 1, 2, 3] rfl, (by assumption)⟩, by rw [ht]; exact hh_36.2.2.2.2.2.2.2.2.sub (L1 := [(jFt, jFT dC dI ca G0 xb xe)]) [4] rfl⟩⟩, by rw [ht]; try exact hh_36.1.1, fun q h9 hq => by rw [ht]; try exact hh_36.1.2.1 q h9 hq⟩) hh_36.1.2.2 dX14_byteComes_88
  · skip
    have c_1' : pm.toInt < 6 := jb_ge_n (rfl) ((by decide)) c_1
    refine lv_aload_n hx hb dX14_byteComes_9 rfl (lv_at hl 0 rfl) ?_
    refine lv_dup hx hb dX14_byteComes_10 rfl ?_
    obtain ⟨v_38, hv_38, hh_39⟩ := hh.pin (C := RX14) (T := TX14) (N := 74) hB16 rfl (by decide) hg_r0 (i := 10) (by decide) rfl
    clear hh
    obtain ⟨keptBytes_40, rfl⟩ := hv_38
    refine j7_read hx hb hown hK (C := RX14) (T := TX14) (N := 74) rfl hly_16_10 hlk_258 (hh_39.at 0 rfl) dX14_byteComes_11 ?_
    refine lv_iconst (v := 1) hx hb dX14_byteComes_14 (by decide) ?_
    refine lv_iadd hx hb dX14_byteComes_15 ?_
    refine lv_topi (fun z_41 ez_41 => ?_)
    refine j7_put hx hb hown hK hh_39 hB hAp hB16 (C := RX14) (T := TX14) (N := 74) rfl (by decide) hg_r0 (i := 10) (by decide) hly_16_10 rfl hlk_258 rfl (ty := .int) (v := .int z_41) (by decide +kernel) rfl rfl (⟨_, rfl⟩) rfl (L1 := [(r0, 16, 13, .ref bn), (r0, 16, 14, .ref bv), (bn, 0, 3, .int cn), (bn, 0, 0, .ref an), (bv, 0, 3, .int cv), (bv, 0, 0, .ref av), (r0, 16, 12, .int ph), (r0, 16, 11, .int pm), (r0, 16, 15, .int pl), (r0, 16, 16, .int pb), (r0, 16, 41, .ref dd), (r0, 16, 42, .int dc), (r0, 16, 60, .ref co), (r0, 16, 61, .ref cs), (r0, 16, 46, .ref ol), (r0, 16, 47, .ref nw), (r0, 16, 71, .ref td), (r0, 16, 22, .ref xb), (r0, 16, 23, .ref xe)]) [1, 2, 3, 4, 5, 6, 7, 8, 9, 10, 11, 12, 13, 14, 15, 16, 17, 18, 19] rfl rfl rfl dX14_byteComes_16 (fun H_42 locs_42 hh_42 => ?_)
    clear hh_39
    refine lv_aload_n hx hb dX14_byteComes_19 rfl (lv_at hl 0 rfl) ?_
    refine lv_iload_n hx hb dX14_byteComes_20 rfl (lv_at hl 1 rfl) ?_
    have hsz_43 := hh_42.2.2.2.2.2.1
    have htt_43 := hh_42.2.2.2.2.2.2.1
    refine W.room (fun hrc_43 hrs_43 => ?_)
    refine va_calli (A0 := jA base) (H0 := s.heap) (va_runV (As := [.int a1]) (rest := []) ⟨hx, hb, hml, hown, hts⟩ (uX14_headerByte l dC dI ca base B hB hAp hB0 hB16 hB196 G0 H_42 r0 a1 bn bv cn an n_an cv av n_av ph pm pl pb LC LS) (cwV 1 hts (jgV (jWr_44 _ (List.mem_of_getElem? (i := 20) rfl)) (jWr_44 _ (List.mem_of_getElem? (i := 21) rfl)) (jWr_44 _ (List.mem_of_getElem? (i := 22) rfl)) (jWr_1 _ (List.mem_of_getElem? (i := 5) rfl)) (jWr_44 _ (List.mem_of_getElem? (i := 23) rfl))) rfl rfl rfl (by decide +kernel) ⟨by rw [← hR]; exact Nat.le_of_ble_eq_true rfl, by rw [← hR]; exact Nat.le_of_ble_eq_true rfl⟩) ⟨fun a U g mk q => by obtain ⟨q0, q1, q2, qK, q10, q11, q12, q13, q14, q15, q16⟩ := q; exact ⟨q0, q1, q2, jG.calling g mk a qK, q10, q11, q12, q13, q14, q15, q16⟩, hh_42.recv (C := RX14) (T := TX14) (N := 74) hB16 rfl (by decide) hg_r0 hK, fun U hU hW => ⟨rfl, hU, hh_42.2.1, hG.step hW hU hh_42.1, hg_r0, hg_bn, hg_bv, hg_an, hg_av, (hh_42.2.2.1.sub (L1 := [(r0, 16, 13, .ref bn), (r0, 16, 14, .ref bv), (bn, 0, 3, .int cn), (bn, 0, 0, .ref an), (bv, 0, 3, .int cv), (bv, 0, 0, .ref av), (r0, 16, 12, .int ph), (r0, 16, 11, .int pm), (r0, 16, 15, .int pl), (r0, 16, 16, .int pb)]) [1, 2, 3, 4, 5, 6, 7, 8, 9, 10] rfl), by first | omega | (refine ⟨?_, ?_, ?_, ?_, ?_, ?_, ?_, ?_, ?_, ?_, ?_, ?_, ?_, ?_, ?_, ?_, ?_, ?_, ?_, ?_⟩ <;> (first | omega | rfl | assumption | decide | exact Or.inl rfl | exact Or.inr rfl | (simp only; omega)))⟩⟩ rfl rfl hl.1 rfl (lv_room (Nat.le_of_ble_eq_true rfl)) dX14_byteComes_21 ⟨by rw [hRc]; omega, by rw [hRs]; omega⟩) hh_42.1 (fun q _ h => h) (fun q h => h) (fun r_44 u_43 t_43 H_43 locs_43 ht_43 hvm_43 hr_44 hb_43 hz_43 hk_43 hS_43 => ?_)
    obtain ⟨qh_43, qm_43, ql_43, qb_43, qn_43, qv_43, xa_43, m_xa_43, ya_43, m_ya_43, G_43⟩ := u_43
    rw [ht_43] at hb_43
    simp only at hb_43
    obtain ⟨⟨hb_431, hb_432, hb_433, hb_434, hb_435, hb_436⟩, hgq_43_0, hgq_43_1, hN_43⟩ := hb_43
    have hZ_43 : jN14 G0 G_43 := fun a h => hN_43 a 14 0 h rfl
    have hh_43 : jSt (dC, dI) B base G0 G_43 EX14_byteComes s.heap (0 + ((m_xa_43 - n_an) + (m_ya_43 - n_av))) (0 + (2 * (m_xa_43 - n_an) + 2 * (m_ya_43 - n_av))) [(r0, 16, 12, .int qh_43), (r0, 16, 11, .int qm_43), (r0, 16, 15, .int ql_43), (r0, 16, 16, .int qb_43), (bn, 0, 3, .int qn_43), (bv, 0, 3, .int qv_43), (bn, 0, 0, .ref xa_43), (bv, 0, 0, .ref ya_43), (r0, 16, 10, .int z_41), (r0, 16, 13, .ref bn), (r0, 16, 14, .ref bv), (r0, 16, 41, .ref dd), (r0, 16, 42, .int dc), (r0, 16, 60, .ref co), (r0, 16, 61, .ref cs), (r0, 16, 46, .ref ol), (r0, 16, 47, .ref nw), (r0, 16, 71, .ref td), (r0, 16, 22, .ref xb), (r0, 16, 23, .ref xe)] [(cs, 207, 2, ca 1, fs)] [(jFs, jDY dC dI ca G0 none sn), (jF9, jVl dC dI G0 9 ck), ([(201, 0)], jQc dC dI (ca 4) dd 3 fd), ([(208, 0)], jQc dC dI (ca 4) co 2 fo), (jFt, jFT dC dI ca G0 xb xe)] H_43 locs_43 := (hh_42.callG hb_431 hb_432 hb_433 hb_434 hb_435 hS_43 rfl (L1 := [(r0, 16, 10, .int z_41), (r0, 16, 13, .ref bn), (r0, 16, 14, .ref bv), (r0, 16, 41, .ref dd), (r0, 16, 42, .int dc), (r0, 16, 60, .ref co), (r0, 16, 61, .ref cs), (r0, 16, 46, .ref ol), (r0, 16, 47, .ref nw), (r0, 16, 71, .ref td), (r0, 16, 22, .ref xb), (r0, 16, 23, .ref xe)]) [0, 1, 2, 11, 12, 13, 14, 15, 16, 17, 18, 19] rfl rfl (M1 := [(cs, 207, 2, ca 1, fs)]) [0] rfl rfl (I1 := [(jFs, jDY dC dI ca G0 none sn), (jF9, jVl dC dI G0 9 ck), ([(201, 0)], jQc dC dI (ca 4) dd 3 fd), ([(208, 0)], jQc dC dI (ca 4) co 2 fo), (jFt, jFT dC dI ca G0 xb xe)]) [0, 1, 2, 3, 4] rfl rfl).more hb_436
    have hNn_43 : (jNk [0, 1, 2, 3, 4, 5, 6, 7, 8, 9, 10, 11, 12, 13, 14, 15, 16]) G0 G_43 := (jNk.rf).tr hN_43
    have hg_45 := hb_432 _ _ hg_r0
    have hg_46 := hb_432 _ _ hg_bn
    have hg_47 := hb_432 _ _ hg_bv
    have hg_48 := hb_432 _ _ hg_dd
    have hg_49 := hb_432 _ _ hg_co
    have hg_50 := hb_432 _ _ hg_cs
    have hg_51 := hb_432 _ _ hg_ol
    have hg_52 := hb_432 _ _ hg_nw
    have hg_53 := hb_432 _ _ hg_td
    have hg_54 := hb_432 _ _ hg_xb
    have hg_55 := hb_432 _ _ hg_xe
    have hd_56 := jDY.grow (hh_43.iv 0 rfl) hb_432 hZ_43
    have hh_57 := hh_43.sub (L1 := [(r0, 16, 12, .int qh_43), (r0, 16, 11, .int qm_43), (r0, 16, 15, .int ql_43), (r0, 16, 16, .int qb_43), (bn, 0, 3, .int qn_43), (bv, 0, 3, .int qv_43), (bn, 0, 0, .ref xa_43), (bv, 0, 0, .ref ya_43), (r0, 16, 10, .int z_41), (r0, 16, 13, .ref bn), (r0, 16, 14, .ref bv), (r0, 16, 41, .ref dd), (r0, 16, 42, .int dc), (r0, 16, 60, .ref co), (r0, 16, 61, .ref cs), (r0, 16, 46, .ref ol), (r0, 16, 47, .ref nw), (r0, 16, 71, .ref td), (r0, 16, 22, .ref xb), (r0, 16, 23, .ref xe)]) [0, 1, 2, 3, 4, 5, 6, 7, 8, 9, 10, 11, 12, 13, 14, 15, 16, 17, 18, 19] rfl (M1 := [(cs, 207, 2, ca 1, fs)]) [0] rfl (I1 := [(jF9, jVl dC dI G0 9 ck), ([(201, 0)], jQc dC dI (ca 4) dd 3 fd), ([(208, 0)], jQc dC dI (ca 4) co 2 fo), (jFt, jFT dC dI ca G0 xb xe)]) [1, 2, 3, 4] rfl
    clear hh_43
    have hh_58 := hh_57.addI (jDY.ie hd_56)
    clear hh_57
    have hd_59 := jVl.grow (hh_58.iv 1 rfl) hZ_43
    have hh_60 := hh_58.sub (L1 := [(r0, 16, 12, .int qh_43), (r0, 16, 11, .int qm_43), (r0, 16, 15, .int ql_43), (r0, 16, 16, .int qb_43), (bn, 0, 3, .int qn_43), (bv, 0, 3, .int qv_43), (bn, 0, 0, .ref xa_43), (bv, 0, 0, .ref ya_43), (r0, 16, 10, .int z_41), (r0, 16, 13, .ref bn), (r0, 16, 14, .ref bv), (r0, 16, 41, .ref dd), (r0, 16, 42, .int dc), (r0, 16, 60, .ref co), (r0, 16, 61, .ref cs), (r0, 16, 46, .ref ol), (r0, 16, 47, .ref nw), (r0, 16, 71, .ref td), (r0, 16, 22, .ref xb), (r0, 16, 23, .ref xe)]) [0, 1, 2, 3, 4, 5, 6, 7, 8, 9, 10, 11, 12, 13, 14, 15, 16, 17, 18, 19] rfl (M1 := [(cs, 207, 2, ca 1, fs)]) [0] rfl (I1 := [(jFs, jDY dC dI ca G_43 none sn), ([(201, 0)], jQc dC dI (ca 4) dd 3 fd), ([(208, 0)], jQc dC dI (ca 4) co 2 fo), (jFt, jFT dC dI ca G0 xb xe)]) [0, 2, 3, 4] rfl
    clear hh_58
    have hh_61 := hh_60.addI (jVl.ie hd_59)
    clear hh_60
    have hd_64 := jFT.grow (hh_61.iv 4 rfl) hb_432
    have hh_65 := hh_61.sub (L1 := [(r0, 16, 12, .int qh_43), (r0, 16, 11, .int qm_43), (r0, 16, 15, .int ql_43), (r0, 16, 16, .int qb_43), (bn, 0, 3, .int qn_43), (bv, 0, 3, .int qv_43), (bn, 0, 0, .ref xa_43), (bv, 0, 0, .ref ya_43), (r0, 16, 10, .int z_41), (r0, 16, 13, .ref bn), (r0, 16, 14, .ref bv), (r0, 16, 41, .ref dd), (r0, 16, 42, .int dc), (r0, 16, 60, .ref co), (r0, 16, 61, .ref cs), (r0, 16, 46, .ref ol), (r0, 16, 47, .ref nw), (r0, 16, 71, .ref td), (r0, 16, 22, .ref xb), (r0, 16, 23, .ref xe)]) [0, 1, 2, 3, 4, 5, 6, 7, 8, 9, 10, 11, 12, 13, 14, 15, 16, 17, 18, 19] rfl (M1 := [(cs, 207, 2, ca 1, fs)]) [0] rfl (I1 := [(jF9, jVl dC dI G_43 9 ck), (jFs, jDY dC dI ca G_43 none sn), ([(201, 0)], jQc dC dI (ca 4) dd 3 fd), ([(208, 0)], jQc dC dI (ca 4) co 2 fo)]) [0, 1, 2, 3] rfl
    clear hh_61
    have hh_66 := hh_65.addI (jFT.ie hd_64 hg_54 hg_55)
    clear hh_65
    obtain ⟨hr_44b, hr_44p⟩ := hr_44
    try simp only at hr_44p
    obtain ⟨hr_44p_0, hr_44p_1, hr_44p_2, hr_44p_3, hr_44p_4, hr_44p_5, hr_44p_6, hr_44p_7, hr_44p_8, hr_44p_9, hr_44p_10, hr_44p_11, hr_44p_12, hr_44p_13⟩ := hr_44p
    have hr_44' := jb_01 hr_44b
    refine lv_if_ne (tgt := 68) hx hb dX14_byteComes_24 (by decide) (fun c_67 => ?_) (fun c_67 => ?_)
    · skip
      have c_67' : r_44.toInt ≠ 0 := jb_ne (rfl) ((by decide)) c_67
      first | (have hr_44p_2q := hr_44p_2.resolve_left (by omega); clear hr_44p_2) | (have hr_44p_2q := hr_44p_2.resolve_right (by omega); clear hr_44p_2) | skip
      first | (have hr_44p_7q := hr_44p_7.resolve_left (by omega); clear hr_44p_7) | (have hr_44p_7q := hr_44p_7.resolve_right (by omega); clear hr_44p_7) | skip
      first | (have hr_44p_13q := hr_44p_13.resolve_left (by omega); clear hr_44p_13) | (have hr_44p_13q := hr_44p_13.resolve_right (by omega); clear hr_44p_13) | skip
      refine lv_aload_n hx hb dX14_byteComes_68 rfl (lv_at hl 0 rfl) ?_
      refine j7_read hx hb hown hK (C := RX14) (T := TX14) (N := 74) rfl hly_16_11 hlk_231 (hh_66.at 1 rfl) dX14_byteComes_69 ?_
      refine lv_bipush (v := 6) hx hb dX14_byteComes_72 (by decide) ?_
      refine lv_icmp_ne (tgt := 88) hx hb dX14_byteComes_74 (by decide) (fun c_68 => ?_) (fun c_68 => ?_)
      · skip
        have c_68' : qm_43.toInt ≠ 6 := jb_ne (rfl) ((by decide)) c_68
        have hsz_69 := hh_66.2.2.2.2.2.1
        have htt_69 := hh_66.2.2.2.2.2.2.1
        refine W.room (fun hrc_69 hrs_69 => ?_)
        refine W.widen (k := LC - s.heap.size) (n := LS - jTot s.heap) (by omega) (by omega) ?_
        rw [hQ]
        obtain ⟨v_70, hv_70, hh_71⟩ := hh_66.pin (C := RX14) (T := TX14) (N := 74) hB16 rfl (by decide) hg_45 (i := 7) (by decide) rfl
        obtain ⟨broken_72, rfl, hzbroken_72⟩ := hv_70
        have hzbroken_72' := jb_01 hzbroken_72
        exact W.vret hx hb hr (fun t ht hW => ⟨⟨(qh_43, qm_43, ql_43, qb_43, qn_43, qv_43, broken_72, xa_43, m_xa_43, ya_43, m_ya_43, G_43), rfl, by (try dsimp only); exact ⟨(by first | omega | rfl | assumption | fail), (by first | omega | rfl | assumption | fail), (by first | omega | rfl | assumption | fail), (by first | omega | rfl | assumption | fail), (by first | omega | rfl | assumption | fail), (by first | omega | rfl | assumption | fail), (by first | omega | rfl | assumption | fail), (by first | omega | rfl | assumption | fail), (by first | omega | rfl | assumption | fail), (by first | omega | rfl | assumption | fail), (by first | omega | rfl | assumption | fail), (by first | omega | rfl | assumption | fail), (by first | omega | rfl | assumption | fail)⟩, ⟨hh_71.ra (by first | (simp only; omega) | omega) (by first | (simp only; omega) | omega) (M1 := [(r0, 16, 12, .int qh_43), (r0, 16, 11, .int qm_43), (r0, 16, 15, .int ql_43), (r0, 16, 16, .int qb_43), (bn, 0, 3, .int qn_43), (bv, 0, 3, .int qv_43), (r0, 16, 7, .int broken_72), (bn, 0, 0, .ref xa_43), (bv, 0, 0, .ref ya_43)]) [1, 2, 3, 4, 5, 6, 0, 7, 8] rfl ht, hgq_43_0, hgq_43_1, hNn_43, by rw [ht]; exact ⟨sn, ck, fs, fd, fo, dc, hh_71.2.2.1.sub (L1 := [(r0, 16, 41, .ref dd), (r0, 16, 42, .int dc), (r0, 16, 60, .ref co), (r0, 16, 61, .ref cs), (r0, 16, 46, .ref ol), (r0, 16, 47, .ref nw), (r0, 16, 71, .ref td)]) [12, 13, 14, 15, 16, 17, 18] rfl, hh_71.2.2.2.2.2.2.2.1.sub (L1 := [(cs, 207, 2, ca 1, fs)]) [0] rfl, hh_71.2.2.2.2.2.2.2.2.sub (L1 := [(jFs, jDY dC dI ca G_43 none sn), (jF9, jVl dC dI G_43 9 ck), ([(201, 0)], jQc dC dI (ca 4) dd 3 fd), ([(208, 0)], jQc dC dI (ca 4) co 2 fo)]) [2, 1, 3, 4] rfl, (by assumption)⟩, by rw [ht]; exact hh_71.2.2.2.2.2.2.2.2.sub (L1 := [(jFt, jFT dC dI ca G_43 xb xe)]) [0] rfl⟩⟩, by rw [ht]; try exact hh_71.1.1, fun q h9 hq => by rw [ht]; try exact hh_71.1.2.1 q h9 hq⟩) hh_71.1.2.2 dX14_byteComes_88
      · skip
        have c_68' : qm_43.toInt = 6 := jb_ne_n (rfl) ((by decide)) c_68
        first | (have hr_44p_2q := hr_44p_2.resolve_left (by omega); clear hr_44p_2) | (have hr_44p_2q := hr_44p_2.resolve_right (by omega); clear hr_44p_2) | skip
        first | (have hr_44p_7q := hr_44p_7.resolve_left (by omega); clear hr_44p_7) | (have hr_44p_7q := hr_44p_7.resolve_right (by omega); clear hr_44p_7) | skip
        first | (have hr_44p_13q := hr_44p_13.resolve_left (by omega); clear hr_44p_13) | (have hr_44p_13q := hr_44p_13.resolve_right (by omega); clear hr_44p_13) | skip
        refine lv_aload_n hx hb dX14_byteComes_77 rfl (lv_at hl 0 rfl) ?_
        refine j7_read hx hb hown hK (C := RX14) (T := TX14) (N := 74) rfl hly_16_16 hlk_244 (hh_66.at 3 rfl) dX14_byteComes_78 ?_
        refine lv_aload_n hx hb dX14_byteComes_81 rfl (lv_at hl 0 rfl) ?_
        refine j7_read hx hb hown hK (C := RX14) (T := TX14) (N := 74) rfl hly_16_15 hlk_33 (hh_66.at 2 rfl) dX14_byteComes_82 ?_
        refine lv_icmp_ge (tgt := 89) hx hb dX14_byteComes_85 (by decide) (fun c_73 => ?_) (fun c_73 => ?_)
        · skip
          have c_73' : qb_43.toInt ≥ ql_43.toInt := jb_ge (rfl) (rfl) c_73
          first | (have hr_44p_2q := hr_44p_2.resolve_left (by omega); clear hr_44p_2) | (have hr_44p_2q := hr_44p_2.resolve_right (by omega); clear hr_44p_2) | skip
          first | (have hr_44p_7q := hr_44p_7.resolve_left (by omega); clear hr_44p_7) | (have hr_44p_7q := hr_44p_7.resolve_right (by omega); clear hr_44p_7) | skip
          first | (have hr_44p_13q := hr_44p_13.resolve_left (by omega); clear hr_44p_13) | (have hr_44p_13q := hr_44p_13.resolve_right (by omega); clear hr_44p_13) | skip
          refine lv_aload_n hx hb dX14_byteComes_89 rfl (lv_at hl 0 rfl) ?_
          refine j7_read hx hb hown hK (C := RX14) (T := TX14) (N := 74) rfl hly_16_15 hlk_33 (hh_66.at 2 rfl) dX14_byteComes_90 ?_
          refine lv_istore_n (lv' := [(2, .int ql_43), (0, .ref r0), (1, .int a1)]) hx hb dX14_byteComes_93 rfl hl (by decide) rfl (fun ls hl => ?_)
          refine lv_aload_n hx hb dX14_byteComes_94 rfl (lv_at hl 1 rfl) ?_
          refine lv_iconst (v := 0) hx hb dX14_byteComes_95 (by decide) ?_
          refine j7_put hx hb hown hK hh_66 hB hAp hB16 (C := RX14) (T := TX14) (N := 74) rfl (by decide) hg_45 (i := 11) (by decide) hly_16_11 rfl hlk_231 rfl (ty := .int) (v := .int 0) (by decide +kernel) rfl rfl (⟨_, rfl⟩) rfl (L1 := [(r0, 16, 12, .int qh_43), (r0, 16, 15, .int ql_43), (r0, 16, 16, .int qb_43), (bn, 0, 3, .int qn_43), (bv, 0, 3, .int qv_43), (bn, 0, 0, .ref xa_43), (bv, 0, 0, .ref ya_43), (r0, 16, 10, .int z_41), (r0, 16, 13, .ref bn), (r0, 16, 14, .ref bv), (r0, 16, 41, .ref dd), (r0, 16, 42, .int dc), (r0, 16, 60, .ref co), (r0, 16, 61, .ref cs), (r0, 16, 46, .ref ol), (r0, 16, 47, .ref nw), (r0, 16, 71, .ref td), (r0, 16, 22, .ref xb), (r0, 16, 23, .ref xe)]) [0, 2, 3, 4, 5, 6, 7, 8, 9, 10, 11, 12, 13, 14, 15, 16, 17, 18, 19] rfl rfl rfl dX14_byteComes_96 (fun H_74 locs_74 hh_74 => ?_)
          clear hh_66
          refine lv_aload_n hx hb dX14_byteComes_99 rfl (lv_at hl 1 rfl) ?_
          refine lv_iconst (v := 0) hx hb dX14_byteComes_100 (by decide) ?_
          refine j7_put hx hb hown hK hh_74 hB hAp hB16 (C := RX14) (T := TX14) (N := 74) rfl (by decide) hg_45 (i := 12) (by decide) hly_16_12 rfl hlk_228 rfl (ty := .int) (v := .int 0) (by decide +kernel) rfl rfl (⟨_, rfl⟩) rfl (L1 := [(r0, 16, 11, .int 0), (r0, 16, 15, .int ql_43), (r0, 16, 16, .int qb_43), (bn, 0, 3, .int qn_43), (bv, 0, 3, .int qv_43), (bn, 0, 0, .ref xa_43), (bv, 0, 0, .ref ya_43), (r0, 16, 10, .int z_41), (r0, 16, 13, .ref bn), (r0, 16, 14, .ref bv), (r0, 16, 41, .ref dd), (r0, 16, 42, .int dc), (r0, 16, 60, .ref co), (r0, 16, 61, .ref cs), (r0, 16, 46, .ref ol), (r0, 16, 47, .ref nw), (r0, 16, 71, .ref td), (r0, 16, 22, .ref xb), (r0, 16, 23, .ref xe)]) [0, 2, 3, 4, 5, 6, 7, 8, 9, 10, 11, 12, 13, 14, 15, 16, 17, 18, 19] rfl rfl rfl dX14_byteComes_101 (fun H_75 locs_75 hh_75 => ?_)
          clear hh_74
          refine lv_aload_n hx hb dX14_byteComes_104 rfl (lv_at hl 1 rfl) ?_
          refine lv_iconst (v := 0) hx hb dX14_byteComes_105 (by decide) ?_
          refine j7_put hx hb hown hK hh_75 hB hAp hB16 (C := RX14) (T := TX14) (N := 74) rfl (by decide) hg_45 (i := 10) (by decide) hly_16_10 rfl hlk_258 rfl (ty := .int) (v := .int 0) (by decide +kernel) rfl rfl (⟨_, rfl⟩) rfl (L1 := [(r0, 16, 12, .int 0), (r0, 16, 11, .int 0), (r0, 16, 15, .int ql_43), (r0, 16, 16, .int qb_43), (bn, 0, 3, .int qn_43), (bv, 0, 3, .int qv_43), (bn, 0, 0, .ref xa_43), (bv, 0, 0, .ref ya_43), (r0, 16, 13, .ref bn), (r0, 16, 14, .ref bv), (r0, 16, 41, .ref dd), (r0, 16, 42, .int dc), (r0, 16, 60, .ref co), (r0, 16, 61, .ref cs), (r0, 16, 46, .ref ol), (r0, 16, 47, .ref nw), (r0, 16, 71, .ref td), (r0, 16, 22, .ref xb), (r0, 16, 23, .ref xe)]) [0, 1, 2, 3, 4, 5, 6, 7, 9, 10, 11, 12, 13, 14, 15, 16, 17, 18, 19] rfl rfl rfl dX14_byteComes_106 (fun H_76 locs_76 hh_76 => ?_)
          clear hh_75
          refine lv_aload_n hx hb dX14_byteComes_109 rfl (lv_at hl 1 rfl) ?_
          refine lv_iconst (v := (-1)) hx hb dX14_byteComes_110 (by decide) ?_
          refine j7_put hx hb hown hK hh_76 hB hAp hB16 (C := RX14) (T := TX14) (N := 74) rfl (by decide) hg_45 (i := 15) (by decide) hly_16_15 rfl hlk_33 rfl (ty := .int) (v := .int (-1)) (by decide +kernel) rfl rfl (⟨_, rfl, by omega, by omega⟩) rfl (L1 := [(r0, 16, 10, .int 0), (r0, 16, 12, .int 0), (r0, 16, 11, .int 0), (r0, 16, 16, .int qb_43), (bn, 0, 3, .int qn_43), (bv, 0, 3, .int qv_43), (bn, 0, 0, .ref xa_43), (bv, 0, 0, .ref ya_43), (r0, 16, 13, .ref bn), (r0, 16, 14, .ref bv), (r0, 16, 41, .ref dd), (r0, 16, 42, .int dc), (r0, 16, 60, .ref co), (r0, 16, 61, .ref cs), (r0, 16, 46, .ref ol), (r0, 16, 47, .ref nw), (r0, 16, 71, .ref td), (r0, 16, 22, .ref xb), (r0, 16, 23, .ref xe)]) [0, 1, 2, 4, 5, 6, 7, 8, 9, 10, 11, 12, 13, 14, 15, 16, 17, 18, 19] rfl rfl rfl dX14_byteComes_111 (fun H_77 locs_77 hh_77 => ?_)
          clear hh_76
          refine lv_aload_n hx hb dX14_byteComes_114 rfl (lv_at hl 1 rfl) ?_
          refine lv_dup hx hb dX14_byteComes_115 rfl ?_
          obtain ⟨v_78, hv_78, hh_79⟩ := hh_77.pin (C := RX14) (T := TX14) (N := 74) hB16 rfl (by decide) hg_45 (i := 8) (by decide) rfl
          clear hh_77
          obtain ⟨messages_80, rfl⟩ := hv_78
          refine j7_read hx hb hown hK (C := RX14) (T := TX14) (N := 74) rfl hly_16_8 hlk_264 (hh_79.at 0 rfl) dX14_byteComes_116 ?_
          refine lv_iconst (v := 1) hx hb dX14_byteComes_119 (by decide) ?_
          refine lv_iadd hx hb dX14_byteComes_120 ?_
          refine lv_topi (fun z_81 ez_81 => ?_)
          refine j7_put hx hb hown hK hh_79 hB hAp hB16 (C := RX14) (T := TX14) (N := 74) rfl (by decide) hg_45 (i := 8) (by decide) hly_16_8 rfl hlk_264 rfl (ty := .int) (v := .int z_81) (by decide +kernel) rfl rfl (⟨_, rfl⟩) rfl (L1 := [(r0, 16, 15, .int (-1)), (r0, 16, 10, .int 0), (r0, 16, 12, .int 0), (r0, 16, 11, .int 0), (r0, 16, 16, .int qb_43), (bn, 0, 3, .int qn_43), (bv, 0, 3, .int qv_43), (bn, 0, 0, .ref xa_43), (bv, 0, 0, .ref ya_43), (r0, 16, 13, .ref bn), (r0, 16, 14, .ref bv), (r0, 16, 41, .ref dd), (r0, 16, 42, .int dc), (r0, 16, 60, .ref co), (r0, 16, 61, .ref cs), (r0, 16, 46, .ref ol), (r0, 16, 47, .ref nw), (r0, 16, 71, .ref td), (r0, 16, 22, .ref xb), (r0, 16, 23, .ref xe)]) [1, 2, 3, 4, 5, 6, 7, 8, 9, 10, 11, 12, 13, 14, 15, 16, 17, 18, 19, 20] rfl rfl rfl dX14_byteComes_121 (fun H_82 locs_82 hh_82 => ?_)
          clear hh_79
          refine lv_aload_n hx hb dX14_byteComes_124 rfl (lv_at hl 1 rfl) ?_
          refine lv_iload_n hx hb dX14_byteComes_125 rfl (lv_at hl 0 rfl) ?_
          have hsz_83 := hh_82.2.2.2.2.2.1
          have htt_83 := hh_82.2.2.2.2.2.2.1
          refine W.room (fun hrc_83 hrs_83 => ?_)
          refine va_callv (A0 := jA base) (H0 := s.heap) (va_runV (As := [.int ql_43]) (rest := []) ⟨hx, hb, hml, hown, hts⟩ (uX14_message l dC dI ca base B hB hAp hB14 hB15 hB16 hB101 hB103 hB110 hB117 hB118 hB119 hB120 hB121 hB122 hB123 hB124 hB125 hB127 hB150 hB151 hB152 hB153 hB154 hB155 hB156 hB157 hB158 hB159 hB160 hB161 hB162 hB163 hB164 hB165 hB166 hB167 hB168 hB169 hB190 hB191 hB192 hB193 hB201 hB202 hB203 hB204 hB206 hB207 hB208 G_43 H_82 r0 ql_43 dd dc co cs ol nw td xb xe sn ck fd fo fs) (cwV 1 hts (jgV (jWr_50 _ (List.mem_of_getElem? (i := 1) rfl)) (jWr_50 _ (List.mem_of_getElem? (i := 2) rfl)) (jWr_50 _ (List.mem_of_getElem? (i := 3) rfl)) (jWr_1 _ (List.mem_of_getElem? (i := 5) rfl)) (jWr_50 _ (List.mem_of_getElem? (i := 4) rfl))) rfl rfl rfl (by decide +kernel) ⟨by rw [← hR]; exact Nat.le_of_ble_eq_true rfl, by rw [← hR]; exact Nat.le_of_ble_eq_true rfl⟩) ⟨fun a U g mk q => by obtain ⟨q0, q1, q2, qK, q10, q11, q12, q13, q14, q15, q16, q17, q18, q19, q20, q21, q22, q23⟩ := q; exact ⟨q0, q1, q2, jG.calling g mk a qK, (va_K.moved (Vm.Alike.refl U.vm) q10), q11, q12, q13, q14, q15, q16, q17, q18, q19, q20, q21, q22, q23⟩, hh_82.recv (C := RX14) (T := TX14) (N := 74) hB16 rfl (by decide) hg_45 hK, fun U hU hW => ⟨rfl, hU, hh_82.2.1, hG.step hW hU hh_82.1, va_K.moved hW.alike hK2, hg_45, hg_48, hg_49, hg_50, hg_51, hg_52, hg_53, hg_54, hg_55, (hh_82.2.2.1.sub (L1 := [(r0, 16, 41, .ref dd), (r0, 16, 42, .int dc), (r0, 16, 60, .ref co), (r0, 16, 61, .ref cs), (r0, 16, 46, .ref ol), (r0, 16, 47, .ref nw), (r0, 16, 71, .ref td), (r0, 16, 22, .ref xb), (r0, 16, 23, .ref xe)]) [12, 13, 14, 15, 16, 17, 18, 19, 20] rfl), (hh_82.2.2.2.2.2.2.2.1.sub (L1 := [(cs, 207, 2, ca 1, fs)]) [0] rfl), (hh_82.2.2.2.2.2.2.2.2.sub (L1 := [(jFs, jDY dC dI ca G_43 none sn), (jF9, jVl dC dI G_43 9 ck), ([(201, 0)], jQc dC dI (ca 4) dd 3 fd), ([(208, 0)], jQc dC dI (ca 4) co 2 fo), (jFt, jFT dC dI ca G_43 xb xe)]) [2, 1, 3, 4, 0] rfl), by first | omega | (refine ⟨?_, ?_, ?_⟩ <;> (first | omega | rfl | assumption | decide | exact Or.inl rfl | exact Or.inr rfl | (simp only; omega)))⟩⟩ rfl rfl hl.1 rfl (lv_room (Nat.le_of_ble_eq_true rfl)) dX14_byteComes_126 ⟨by rw [hRc]; show _ + 0 ≤ _; omega, by rw [hRs]; show _ + 0 ≤ _; omega⟩) hh_82.1 (fun q _ h => h) (fun q h => h) (fun u_83 t_83 H_83 locs_83 ht_83 hvm_83 hr_84 hb_83 hz_83 hk_83 hS_83 => ?_)
          rw [ht_83] at hb_83
          obtain ⟨hb_83, hbT_83⟩ := hb_83
          obtain ⟨hb_83, hbV_83⟩ := hb_83
          obtain ⟨sn_83, ck_83, fs_83, fd_83, fo_83, dc_83, hVP_83, hVM_83, hVI_83, hpu_83⟩ := hbV_83
          obtain ⟨hb_831, hb_832, hb_833, hb_834, hb_835⟩ := hb_83
          have hh_83 : jSt (dC, dI) B base G0 G_43 EX14_byteComes s.heap (0 + ((m_xa_43 - n_an) + (m_ya_43 - n_av))) (0 + (2 * (m_xa_43 - n_an) + 2 * (m_ya_43 - n_av))) [(r0, 16, 41, .ref dd), (r0, 16, 42, .int dc_83), (r0, 16, 60, .ref co), (r0, 16, 61, .ref cs), (r0, 16, 46, .ref ol), (r0, 16, 47, .ref nw), (r0, 16, 71, .ref td), (r0, 16, 8, .int z_81), (r0, 16, 15, .int (-1)), (r0, 16, 10, .int 0), (r0, 16, 12, .int 0), (r0, 16, 11, .int 0), (r0, 16, 16, .int qb_43), (bn, 0, 3, .int qn_43), (bv, 0, 3, .int qv_43), (bn, 0, 0, .ref xa_43), (bv, 0, 0, .ref ya_43), (r0, 16, 13, .ref bn), (r0, 16, 14, .ref bv), (r0, 16, 22, .ref xb), (r0, 16, 23, .ref xe)] [(cs, 207, 2, ca 1, fs_83)] [(jFt, jFT dC dI ca G_43 xb xe), (jFs, jDY dC dI ca G_43 none sn_83), (jF9, jVl dC dI G_43 9 ck_83), ([(201, 0)], jQc dC dI (ca 4) dd 3 fd_83), ([(208, 0)], jQc dC dI (ca 4) co 2 fo_83)] H_83 locs_83 := ((((((hh_82.call hb_831 hb_832 hb_833 hb_834 hS_83 rfl (L1 := [(r0, 16, 8, .int z_81), (r0, 16, 15, .int (-1)), (r0, 16, 10, .int 0), (r0, 16, 12, .int 0), (r0, 16, 11, .int 0), (r0, 16, 16, .int qb_43), (bn, 0, 3, .int qn_43), (bv, 0, 3, .int qv_43), (bn, 0, 0, .ref xa_43), (bv, 0, 0, .ref ya_43), (r0, 16, 13, .ref bn), (r0, 16, 14, .ref bv), (r0, 16, 22, .ref xb), (r0, 16, 23, .ref xe)]) [0, 1, 2, 3, 4, 5, 6, 7, 8, 9, 10, 11, 19, 20] rfl rfl (M1 := []) [] rfl rfl (I1 := []) [] rfl rfl).more hb_835)).more hVP_83).moreM hVM_83).addIs hVI_83).addIs hbT_83
          clear hh_82 ht_83 hvm_83 hz_83 hk_83 hS_83 hb_831 hb_832 hb_833 hb_834 hb_835
          clear hVP_83 hVM_83 hVI_83 hbT_83
          have hsz_85 := hh_83.2.2.2.2.2.1
          have htt_85 := hh_83.2.2.2.2.2.2.1
          refine W.room (fun hrc_85 hrs_85 => ?_)
          refine W.widen (k := LC - s.heap.size) (n := LS - jTot s.heap) (by omega) (by omega) ?_
          rw [hQ]
          obtain ⟨v_86, hv_86, hh_87⟩ := hh_83.pin (C := RX14) (T := TX14) (N := 74) hB16 rfl (by decide) hg_45 (i := 7) (by decide) rfl
          obtain ⟨broken_88, rfl, hzbroken_88⟩ := hv_86
          have hzbroken_88' := jb_01 hzbroken_88
          exact W.vret hx hb hr (fun t ht hW => ⟨⟨(0, 0, (-1), qb_43, qn_43, qv_43, broken_88, xa_43, m_xa_43, ya_43, m_ya_43, G_43), rfl, by (try dsimp only); exact ⟨(by first | omega | rfl | assumption | fail), (by first | omega | rfl | assumption | fail), (by first | omega | rfl | assumption | fail), (by first | omega | rfl | assumption | fail), (by first | omega | rfl | assumption | fail), (by first | omega | rfl | assumption | fail), (by first | omega | rfl | assumption | fail), (by first | omega | rfl | assumption | fail), (by first | omega | rfl | assumption | fail), (by first | omega | rfl | assumption | fail), (by first | omega | rfl | assumption | fail), (by first | omega | rfl | assumption | fail), (by first | omega | rfl | assumption | fail)⟩, ⟨hh_87.ra (by first | (simp only; omega) | omega) (by first | (simp only; omega) | omega) (M1 := [(r0, 16, 12, .int 0), (r0, 16, 11, .int 0), (r0, 16, 15, .int (-1)), (r0, 16, 16, .int qb_43), (bn, 0, 3, .int qn_43), (bv, 0, 3, .int qv_43), (r0, 16, 7, .int broken_88), (bn, 0, 0, .ref xa_43), (bv, 0, 0, .ref ya_43)]) [11, 12, 9, 13, 14, 15, 0, 16, 17] rfl ht, hgq_43_0, hgq_43_1, hNn_43, by rw [ht]; exact ⟨sn_83, ck_83, fs_83, fd_83, fo_83, dc_83, hh_87.2.2.1.sub (L1 := [(r0, 16, 41, .ref dd), (r0, 16, 42, .int dc_83), (r0, 16, 60, .ref co), (r0, 16, 61, .ref cs), (r0, 16, 46, .ref ol), (r0, 16, 47, .ref nw), (r0, 16, 71, .ref td)]) [1, 2, 3, 4, 5, 6, 7] rfl, hh_87.2.2.2.2.2.2.2.1.sub (L1 := [(cs, 207, 2, ca 1, fs_83)]) [0] rfl, hh_87.2.2.2.2.2.2.2.2.sub (L1 := [(jFs, jDY dC dI ca G_43 none sn_83), (jF9, jVl dC dI G_43 9 ck_83), ([(201, 0)], jQc dC dI (ca 4) dd 3 fd_83), ([(208, 0)], jQc dC dI (ca 4) co 2 fo_83)]) [1, 2, 3, 4] rfl, (by assumption)⟩, by rw [ht]; exact hh_87.2.2.2.2.2.2.2.2.sub (L1 := [(jFt, jFT dC dI ca G_43 xb xe)]) [0] rfl⟩⟩, by rw [ht]; try exact hh_87.1.1, fun q h9 hq => by rw [ht]; try exact hh_87.1.2.1 q h9 hq⟩) hh_87.1.2.2 dX14_byteComes_129
        · skip
          have c_73' : qb_43.toInt < ql_43.toInt := jb_ge_n (rfl) (rfl) c_73
          first | (have hr_44p_2q := hr_44p_2.resolve_left (by omega); clear hr_44p_2) | (have hr_44p_2q := hr_44p_2.resolve_right (by omega); clear hr_44p_2) | skip
          first | (have hr_44p_7q := hr_44p_7.resolve_left (by omega); clear hr_44p_7) | (have hr_44p_7q := hr_44p_7.resolve_right (by omega); clear hr_44p_7) | skip
          first | (have hr_44p_13q := hr_44p_13.resolve_left (by omega); clear hr_44p_13) | (have hr_44p_13q := hr_44p_13.resolve_right (by omega); clear hr_44p_13) | skip
          have hsz_89 := hh_66.2.2.2.2.2.1
          have htt_89 := hh_66.2.2.2.2.2.2.1
          refine W.room (fun hrc_89 hrs_89 => ?_)
          refine W.widen (k := LC - s.heap.size) (n := LS - jTot s.heap) (by omega) (by omega) ?_
          rw [hQ]
          obtain ⟨v_90, hv_90, hh_91⟩ := hh_66.pin (C := RX14) (T := TX14) (N := 74) hB16 rfl (by decide) hg_45 (i := 7) (by decide) rfl
          obtain ⟨broken_92, rfl, hzbroken_92⟩ := hv_90
          have hzbroken_92' := jb_01 hzbroken_92
          exact W.vret hx hb hr (fun t ht hW => ⟨⟨(qh_43, qm_43, ql_43, qb_43, qn_43, qv_43, broken_92, xa_43, m_xa_43, ya_43, m_ya_43, G_43), rfl, by (try dsimp only); exact ⟨(by first | omega | rfl | assumption | fail), (by first | omega | rfl | assumption | fail), (by first | omega | rfl | assumption | fail), (by first | omega | rfl | assumption | fail), (by first | omega | rfl | assumption | fail), (by first | omega | rfl | assumption | fail), (by first | omega | rfl | assumption | fail), (by first | omega | rfl | assumption | fail), (by first | omega | rfl | assumption | fail), (by first | omega | rfl | assumption | fail), (by first | omega | rfl | assumption | fail), (by first | omega | rfl | assumption | fail), (by first | omega | rfl | assumption | fail)⟩, ⟨hh_91.ra (by first | (simp only; omega) | omega) (by first | (simp only; omega) | omega) (M1 := [(r0, 16, 12, .int qh_43), (r0, 16, 11, .int qm_43), (r0, 16, 15, .int ql_43), (r0, 16, 16, .int qb_43), (bn, 0, 3, .int qn_43), (bv, 0, 3, .int qv_43), (r0, 16, 7, .int broken_92), (bn, 0, 0, .ref xa_43), (bv, 0, 0, .ref ya_43)]) [1, 2, 3, 4, 5, 6, 0, 7, 8] rfl ht, hgq_43_0, hgq_43_1, hNn_43, by rw [ht]; exact ⟨sn, ck, fs, fd, fo, dc, hh_91.2.2.1.sub (L1 := [(r0, 16, 41, .ref dd), (r0, 16, 42, .int dc), (r0, 16, 60, .ref co), (r0, 16, 61, .ref cs), (r0, 16, 46, .ref ol), (r0, 16, 47, .ref nw), (r0, 16, 71, .ref td)]) [12, 13, 14, 15, 16, 17, 18] rfl, hh_91.2.2.2.2.2.2.2.1.sub (L1 := [(cs, 207, 2, ca 1, fs)]) [0] rfl, hh_91.2.2.2.2.2.2.2.2.sub (L1 := [(jFs, jDY dC dI ca G_43 none sn), (jF9, jVl dC dI G_43 9 ck), ([(201, 0)], jQc dC dI (ca 4) dd 3 fd), ([(208, 0)], jQc dC dI (ca 4) co 2 fo)]) [2, 1, 3, 4] rfl, (by assumption)⟩, by rw [ht]; exact hh_91.2.2.2.2.2.2.2.2.sub (L1 := [(jFt, jFT dC dI ca G_43 xb xe)]) [0] rfl⟩⟩, by rw [ht]; try exact hh_91.1.1, fun q h9 hq => by rw [ht]; try exact hh_91.1.2.1 q h9 hq⟩) hh_91.1.2.2 dX14_byteComes_88
    · skip
      have c_67' : r_44.toInt = 0 := jb_ne_n (rfl) ((by decide)) c_67
      first | (have hr_44p_2q := hr_44p_2.resolve_left (by omega); clear hr_44p_2) | (have hr_44p_2q := hr_44p_2.resolve_right (by omega); clear hr_44p_2) | skip
      first | (have hr_44p_7q := hr_44p_7.resolve_left (by omega); clear hr_44p_7) | (have hr_44p_7q := hr_44p_7.resolve_right (by omega); clear hr_44p_7) | skip
      first | (have hr_44p_13q := hr_44p_13.resolve_left (by omega); clear hr_44p_13) | (have hr_44p_13q := hr_44p_13.resolve_right (by omega); clear hr_44p_13) | skip
      refine lv_aload_n hx hb dX14_byteComes_27 rfl (lv_at hl 0 rfl) ?_
      refine lv_iconst (v := 1) hx hb dX14_byteComes_28 (by decide) ?_
      refine j7_put hx hb hown hK hh_66 hB hAp hB16 (C := RX14) (T := TX14) (N := 74) rfl (by decide) hg_45 (i := 7) (by decide) hly_16_7 rfl hlk_202 rfl (ty := .boolean) (v := .int 1) (by decide +kernel) (jb_nz (Or.inr rfl)) (jb_fz (Or.inr rfl)) (⟨_, rfl, (Or.inr rfl)⟩) rfl (L1 := [(r0, 16, 12, .int qh_43), (r0, 16, 11, .int qm_43), (r0, 16, 15, .int ql_43), (r0, 16, 16, .int qb_43), (bn, 0, 3, .int qn_43), (bv, 0, 3, .int qv_43), (bn, 0, 0, .ref xa_43), (bv, 0, 0, .ref ya_43), (r0, 16, 10, .int z_41), (r0, 16, 13, .ref bn), (r0, 16, 14, .ref bv), (r0, 16, 41, .ref dd), (r0, 16, 42, .int dc), (r0, 16, 60, .ref co), (r0, 16, 61, .ref cs), (r0, 16, 46, .ref ol), (r0, 16, 47, .ref nw), (r0, 16, 71, .ref td), (r0, 16, 22, .ref xb), (r0, 16, 23, .ref xe)]) [0, 1, 2, 3, 4, 5, 6, 7, 8, 9, 10, 11, 12, 13, 14, 15, 16, 17, 18, 19] rfl rfl rfl dX14_byteComes_29 (fun H_93 locs_93 hh_93 => ?_)
      clear hh_66
      refine lv_aload_n hx hb dX14_byteComes_32 rfl (lv_at hl 0 rfl) ?_
      refine lv_iconst (v := 0) hx hb dX14_byteComes_33 (by decide) ?_
      refine j7_put hx hb hown hK hh_93 hB hAp hB16 (C := RX14) (T := TX14) (N := 74) rfl (by decide) hg_45 (i := 10) (by decide) hly_16_10 rfl hlk_258 rfl (ty := .int) (v := .int 0) (by decide +kernel) rfl rfl (⟨_, rfl⟩) rfl (L1 := [(r0, 16, 7, .int 1), (r0, 16, 12, .int qh_43), (r0, 16, 11, .int qm_43), (r0, 16, 15, .int ql_43), (r0, 16, 16, .int qb_43), (bn, 0, 3, .int qn_43), (bv, 0, 3, .int qv_43), (bn, 0, 0, .ref xa_43), (bv, 0, 0, .ref ya_43), (r0, 16, 13, .ref bn), (r0, 16, 14, .ref bv), (r0, 16, 41, .ref dd), (r0, 16, 42, .int dc), (r0, 16, 60, .ref co), (r0, 16, 61, .ref cs), (r0, 16, 46, .ref ol), (r0, 16, 47, .ref nw), (r0, 16, 71, .ref td), (r0, 16, 22, .ref xb), (r0, 16, 23, .ref xe)]) [0, 1, 2, 3, 4, 5, 6, 7, 8, 10, 11, 12, 13, 14, 15, 16, 17, 18, 19, 20] rfl rfl rfl dX14_byteComes_34 (fun H_94 locs_94 hh_94 => ?_)
      clear hh_93
      have hsz_95 := hh_94.2.2.2.2.2.1
      have htt_95 := hh_94.2.2.2.2.2.2.1
      refine W.room (fun hrc_95 hrs_95 => ?_)
      refine W.widen (k := LC - s.heap.size) (n := LS - jTot s.heap) (by omega) (by omega) ?_
      rw [hQ]
      exact W.vret hx hb hr (fun t ht hW => ⟨⟨(qh_43, qm_43, ql_43, qb_43, qn_43, qv_43, 1, xa_43, m_xa_43, ya_43, m_ya_43, G_43), rfl, by (try dsimp only); exact ⟨(by first | omega | rfl | assumption | fail), (by first | omega | rfl | assumption | fail), (by first | omega | rfl | assumption | fail), (by first | omega | rfl | assumption | fail), (by first | omega | rfl | assumption | fail), (by first | omega | rfl | assumption | fail), (by first | omega | rfl | assumption | fail), (by first | omega | rfl | assumption | fail), (by first | omega | rfl | assumption | fail), (by first | omega | rfl | assumption | fail), (by first | omega | rfl | assumption | fail), (by first | omega | rfl | assumption | fail), (by first | omega | rfl | assumption | fail)⟩, ⟨hh_94.ra (by first | (simp only; omega) | omega) (by first | (simp only; omega) | omega) (M1 := [(r0, 16, 12, .int qh_43), (r0, 16, 11, .int qm_43), (r0, 16, 15, .int ql_43), (r0, 16, 16, .int qb_43), (bn, 0, 3, .int qn_43), (bv, 0, 3, .int qv_43), (r0, 16, 7, .int 1), (bn, 0, 0, .ref xa_43), (bv, 0, 0, .ref ya_43)]) [2, 3, 4, 5, 6, 7, 1, 8, 9] rfl ht, hgq_43_0, hgq_43_1, hNn_43, by rw [ht]; exact ⟨sn, ck, fs, fd, fo, dc, hh_94.2.2.1.sub (L1 := [(r0, 16, 41, .ref dd), (r0, 16, 42, .int dc), (r0, 16, 60, .ref co), (r0, 16, 61, .ref cs), (r0, 16, 46, .ref ol), (r0, 16, 47, .ref nw), (r0, 16, 71, .ref td)]) [12, 13, 14, 15, 16, 17, 18] rfl, hh_94.2.2.2.2.2.2.2.1.sub (L1 := [(cs, 207, 2, ca 1, fs)]) [0] rfl, hh_94.2.2.2.2.2.2.2.2.sub (L1 := [(jFs, jDY dC dI ca G_43 none sn), (jF9, jVl dC dI G_43 9 ck), ([(201, 0)], jQc dC dI (ca 4) dd 3 fd), ([(208, 0)], jQc dC dI (ca 4) co 2 fo)]) [2, 1, 3, 4] rfl, (by assumption)⟩, by rw [ht]; exact hh_94.2.2.2.2.2.2.2.2.sub (L1 := [(jFt, jFT dC dI ca G_43 xb xe)]) [0] rfl⟩⟩, by rw [ht]; try exact hh_94.1.1, fun q h9 hq => by rw [ht]; try exact hh_94.1.2.1 q h9 hq⟩) hh_94.1.2.2 dX14_byteComes_37
