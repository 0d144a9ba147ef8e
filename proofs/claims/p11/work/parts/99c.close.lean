theorem dX14_close_0 : decode cX14_close 0 = .ok (.aload_n 0, 1) := by decide +kernel
theorem dX14_close_1 : decode cX14_close 1 = .ok (.aload_n 0, 1) := by decide +kernel
theorem dX14_close_2 : decode cX14_close 2 = .ok (.aload_n 0, 1) := by decide +kernel
theorem dX14_close_3 : decode cX14_close 3 = .ok (.iload_n 1, 1) := by decide +kernel
theorem dX14_close_4 : decode cX14_close 4 = .ok (.ldc_w 514, 3) := by decide +kernel
theorem dX14_close_7 : decode cX14_close 7 = .ok (.invokevirtual 430, 3) := by decide +kernel
theorem dX14_close_10 : decode cX14_close 10 = .ok (.ldc_w 516, 3) := by decide +kernel
theorem dX14_close_13 : decode cX14_close 13 = .ok (.invokevirtual 430, 3) := by decide +kernel
theorem dX14_close_16 : decode cX14_close 16 = .ok (.invokevirtual 520, 3) := by decide +kernel
theorem dX14_close_19 : decode cX14_close 19 = .ok (.astore_n 2, 1) := by decide +kernel
theorem dX14_close_20 : decode cX14_close 20 = .ok (.aload_n 2, 1) := by decide +kernel
theorem dX14_close_21 : decode cX14_close 21 = .ok (.ifnonnull 4, 3) := by decide +kernel
theorem dX14_close_24 : decode cX14_close 24 = .ok (.return_, 1) := by decide +kernel
theorem dX14_close_25 : decode cX14_close 25 = .ok (.aload_n 0, 1) := by decide +kernel
theorem dX14_close_26 : decode cX14_close 26 = .ok (.aload_n 2, 1) := by decide +kernel
theorem dX14_close_27 : decode cX14_close 27 = .ok (.invokevirtual 577, 3) := by decide +kernel
theorem dX14_close_30 : decode cX14_close 30 = .ok (.aload_n 0, 1) := by decide +kernel
theorem dX14_close_31 : decode cX14_close 31 = .ok (.aload_n 2, 1) := by decide +kernel
theorem dX14_close_32 : decode cX14_close 32 = .ok (.invokevirtual 602, 3) := by decide +kernel
theorem dX14_close_35 : decode cX14_close 35 = .ok (.aload_n 0, 1) := by decide +kernel
theorem dX14_close_36 : decode cX14_close 36 = .ok (.invokevirtual 605, 3) := by decide +kernel
theorem dX14_close_39 : decode cX14_close 39 = .ok (.iconst 0, 1) := by decide +kernel
theorem dX14_close_40 : decode cX14_close 40 = .ok (.istore_n 3, 1) := by decide +kernel
theorem dX14_close_41 : decode cX14_close 41 = .ok (.iload_n 3, 1) := by decide +kernel
theorem dX14_close_42 : decode cX14_close 42 = .ok (.iconst 2, 1) := by decide +kernel
theorem dX14_close_43 : decode cX14_close 43 = .ok (.if_icmp .ge 26, 3) := by decide +kernel
theorem dX14_close_46 : decode cX14_close 46 = .ok (.aload_n 0, 1) := by decide +kernel
theorem dX14_close_47 : decode cX14_close 47 = .ok (.getfield 129, 3) := by decide +kernel
theorem dX14_close_50 : decode cX14_close 50 = .ok (.iload_n 3, 1) := by decide +kernel
theorem dX14_close_51 : decode cX14_close 51 = .ok (.aaload, 1) := by decide +kernel
theorem dX14_close_52 : decode cX14_close 52 = .ok (.aload_n 2, 1) := by decide +kernel
theorem dX14_close_53 : decode cX14_close 53 = .ok (.if_acmp .ne 10, 3) := by decide +kernel
theorem dX14_close_56 : decode cX14_close 56 = .ok (.aload_n 0, 1) := by decide +kernel
theorem dX14_close_57 : decode cX14_close 57 = .ok (.getfield 129, 3) := by decide +kernel
theorem dX14_close_60 : decode cX14_close 60 = .ok (.iload_n 3, 1) := by decide +kernel
theorem dX14_close_61 : decode cX14_close 61 = .ok (.aconst_null, 1) := by decide +kernel
theorem dX14_close_62 : decode cX14_close 62 = .ok (.aastore, 1) := by decide +kernel
theorem dX14_close_63 : decode cX14_close 63 = .ok (.iinc 3 1, 3) := by decide +kernel
theorem dX14_close_66 : decode cX14_close 66 = .ok (.goto (-25), 3) := by decide +kernel
theorem dX14_close_69 : decode cX14_close 69 = .ok (.iconst 0, 1) := by decide +kernel
theorem dX14_close_70 : decode cX14_close 70 = .ok (.istore_n 3, 1) := by decide +kernel
theorem dX14_close_71 : decode cX14_close 71 = .ok (.aload_n 0, 1) := by decide +kernel
theorem dX14_close_72 : decode cX14_close 72 = .ok (.getfield 74, 3) := by decide +kernel
theorem dX14_close_75 : decode cX14_close 75 = .ok (.iload_n 3, 1) := by decide +kernel
theorem dX14_close_76 : decode cX14_close 76 = .ok (.aaload, 1) := by decide +kernel
theorem dX14_close_77 : decode cX14_close 77 = .ok (.aload_n 2, 1) := by decide +kernel
theorem dX14_close_78 : decode cX14_close 78 = .ok (.if_acmp .eq 9, 3) := by decide +kernel
theorem dX14_close_81 : decode cX14_close 81 = .ok (.iinc 3 1, 3) := by decide +kernel
theorem dX14_close_84 : decode cX14_close 84 = .ok (.goto (-13), 3) := by decide +kernel
theorem dX14_close_87 : decode cX14_close 87 = .ok (.iload_n 3, 1) := by decide +kernel
theorem dX14_close_88 : decode cX14_close 88 = .ok (.istore 4, 2) := by decide +kernel
theorem dX14_close_90 : decode cX14_close 90 = .ok (.iload 4, 2) := by decide +kernel
theorem dX14_close_92 : decode cX14_close 92 = .ok (.iconst 1, 1) := by decide +kernel
theorem dX14_close_93 : decode cX14_close 93 = .ok (.iadd, 1) := by decide +kernel
theorem dX14_close_94 : decode cX14_close 94 = .ok (.aload_n 0, 1) := by decide +kernel
theorem dX14_close_95 : decode cX14_close 95 = .ok (.getfield 505, 3) := by decide +kernel
theorem dX14_close_98 : decode cX14_close 98 = .ok (.if_icmp .ge 25, 3) := by decide +kernel
theorem dX14_close_101 : decode cX14_close 101 = .ok (.aload_n 0, 1) := by decide +kernel
theorem dX14_close_102 : decode cX14_close 102 = .ok (.getfield 74, 3) := by decide +kernel
theorem dX14_close_105 : decode cX14_close 105 = .ok (.iload 4, 2) := by decide +kernel
theorem dX14_close_107 : decode cX14_close 107 = .ok (.aload_n 0, 1) := by decide +kernel
theorem dX14_close_108 : decode cX14_close 108 = .ok (.getfield 74, 3) := by decide +kernel
theorem dX14_close_111 : decode cX14_close 111 = .ok (.iload 4, 2) := by decide +kernel
theorem dX14_close_113 : decode cX14_close 113 = .ok (.iconst 1, 1) := by decide +kernel
theorem dX14_close_114 : decode cX14_close 114 = .ok (.iadd, 1) := by decide +kernel
theorem dX14_close_115 : decode cX14_close 115 = .ok (.aaload, 1) := by decide +kernel
theorem dX14_close_116 : decode cX14_close 116 = .ok (.aastore, 1) := by decide +kernel
theorem dX14_close_117 : decode cX14_close 117 = .ok (.iinc 4 1, 3) := by decide +kernel
theorem dX14_close_120 : decode cX14_close 120 = .ok (.goto (-30), 3) := by decide +kernel
theorem dX14_close_123 : decode cX14_close 123 = .ok (.aload_n 0, 1) := by decide +kernel
theorem dX14_close_124 : decode cX14_close 124 = .ok (.getfield 74, 3) := by decide +kernel
theorem dX14_close_127 : decode cX14_close 127 = .ok (.aload_n 0, 1) := by decide +kernel
theorem dX14_close_128 : decode cX14_close 128 = .ok (.getfield 505, 3) := by decide +kernel
theorem dX14_close_131 : decode cX14_close 131 = .ok (.iconst 1, 1) := by decide +kernel
theorem dX14_close_132 : decode cX14_close 132 = .ok (.isub, 1) := by decide +kernel
theorem dX14_close_133 : decode cX14_close 133 = .ok (.aload_n 2, 1) := by decide +kernel
theorem dX14_close_134 : decode cX14_close 134 = .ok (.aastore, 1) := by decide +kernel
theorem dX14_close_135 : decode cX14_close 135 = .ok (.aload_n 0, 1) := by decide +kernel
theorem dX14_close_136 : decode cX14_close 136 = .ok (.dup, 1) := by decide +kernel
theorem dX14_close_137 : decode cX14_close 137 = .ok (.getfield 505, 3) := by decide +kernel
theorem dX14_close_140 : decode cX14_close 140 = .ok (.iconst 1, 1) := by decide +kernel
theorem dX14_close_141 : decode cX14_close 141 = .ok (.isub, 1) := by decide +kernel
theorem dX14_close_142 : decode cX14_close 142 = .ok (.putfield 505, 3) := by decide +kernel
theorem dX14_close_145 : decode cX14_close 145 = .ok (.return_, 1) := by decide +kernel
def EX14_close : List (Nat × Nat) := [(16, 3), (16, 4), (16, 6), (16, 36), (16, 37), (16, 39), (16, 40), (16, 42), (16, 48), (101, 0), (103, 0), (201, 0), (202, 0), (203, 0), (204, 0), (206, 0), (208, 0)]
set_option maxHeartbeats 4000000 in
set_option maxRecDepth 20000 in
theorem uX14_close (l : Launch) (dC : Nat → ClassId) (dI : Nat → Nat → Nat) (ca : Nat → ClassId) (base : Nat) (B : jF) (hB : jBok B) (hAp : jAp (dC, dI)) (hB14 : ∀ n G a H, B 14 n G a H ↔ jOb (dC, dI) 14 11 (F14 n G) a H) (hB16 : ∀ n G a H, B 16 n G a H ↔ jOb (dC, dI) 16 74 (F16 n G) a H) (hB101 : ∀ n G a H, B 101 n G a H ↔ jAr (dC, dI) (ca 1) (fun j z => True) n a H) (hB103 : ∀ n G a H, B 103 n G a H ↔ jAr (dC, dI) (ca 3) (fun j z => (z = 0 ∨ z = 1)) n a H) (hB117 : ∀ n G a H, B 117 n G a H ↔ jAr (dC, dI) (ca 1) (fun j z => True) n a H) (hB118 : ∀ n G a H, B 118 n G a H ↔ jAr (dC, dI) (ca 1) (fun j z => -1 ≤ z.toInt ∧ z.toInt ≤ 3099) n a H) (hB119 : ∀ n G a H, B 119 n G a H ↔ jAr (dC, dI) (ca 1) (fun j z => z.toInt = -1 ∨ (j < z.toInt ∧ z.toInt ≤ 3099)) n a H) (hB120 : ∀ n G a H, B 120 n G a H ↔ jAr (dC, dI) (ca 1) (fun j z => 0 ≤ z.toInt ∧ z.toInt ≤ 3300) n a H) (hB121 : ∀ n G a H, B 121 n G a H ↔ jAr (dC, dI) (ca 1) (fun j z => 0 ≤ z.toInt ∧ z.toInt ≤ 3300) n a H) (hB122 : ∀ n G a H, B 122 n G a H ↔ jAr (dC, dI) (ca 1) (fun j z => 0 ≤ z.toInt ∧ z.toInt ≤ 3100) n a H) (hB123 : ∀ n G a H, B 123 n G a H ↔ jAr (dC, dI) (ca 1) (fun j z => 0 ≤ z.toInt ∧ z.toInt ≤ 3100) n a H) (hB127 : ∀ n G a H, B 127 n G a H ↔ jAr (dC, dI) (ca 1) (fun j z => True) n a H) (hB201 : ∀ n G a H, B 201 n G a H ↔ jAq (dC, dI) (ca 4) (jQs 14 0) n G a H) (hB202 : ∀ n G a H, B 202 n G a H ↔ jAq (dC, dI) (ca 4) (jQn 14 0) n G a H) (hB203 : ∀ n G a H, B 203 n G a H ↔ jAr (dC, dI) (ca 1) (fun j z => -3300 ≤ z.toInt ∧ z.toInt ≤ 20) n a H) (hB204 : ∀ n G a H, B 204 n G a H ↔ jAr (dC, dI) (ca 1) (fun j z => -3100 ≤ z.toInt ∧ z.toInt ≤ 3100) n a H) (hB206 : ∀ n G a H, B 206 n G a H ↔ jAr (dC, dI) (ca 1) (fun j z => 0 ≤ z.toInt ∧ z.toInt ≤ 40) n a H) (hB208 : ∀ n G a H, B 208 n G a H ↔ jAq (dC, dI) (ca 4) (jQn 14 0) n G a H) (G0 : jT) (H0 : Heap) (r0 : Nat) (a1 : Int32) (dd : Nat) (dc : Int32) (co : Nat) (cs : Nat) (ol : Nat) (nw : Nat) (td : Nat) (sn ck : Nat → Int32) (fd fo : Nat → Option Nat) (fs : Nat → Int32) : Met l yX14_close (jw yX14_close cX14_close 5 none) ({ frames := 16, cells := 0, slots := 0, locals := 548 }) (va_Pc [.ref r0, .int a1] (fun U => U.heap = H0 ∧ jX B base G0 [] H0 ∧ jG dC dI ca base U ∧ jK2 dC dI ca U ∧ G0 r0 = some (16, 0) ∧ G0 dd = some (201, 3) ∧ G0 co = some (208, 2) ∧ G0 cs = some (207, 2) ∧ G0 ol = some (14, 0) ∧ G0 nw = some (14, 0) ∧ G0 td = some (14, 0) ∧ jP (dC, dI) G0 H0 [(r0, 16, 41, .ref dd), (r0, 16, 42, .int dc), (r0, 16, 60, .ref co), (r0, 16, 61, .ref cs), (r0, 16, 46, .ref ol), (r0, 16, 47, .ref nw), (r0, 16, 71, .ref td)] ∧ jMc (dC, dI) G0 H0 [(cs, 207, 2, ca 1, fs)] ∧ jIs (dC, dI) G0 H0 [(jFs, jDY dC dI ca G0 none sn), (jF9, jVl dC dI G0 9 ck), ([(201, 0)], jQc dC dI (ca 4) dd 3 fd), ([(208, 0)], jQc dC dI (ca 4) co 2 fo)] ∧ jPu sn ck fd fo fs dc.toInt ol nw td ∧ a1.toInt ≤ 3099)) (va_Qv (S := Unit) (fun u => True) (fun u t => (jRt (dC, dI) B base G0 EX14_close H0 [] t.heap) ∧ jDV dC dI ca G0 r0 dd co cs ol nw td t.heap) (jA base)) 0 0 (jA base) := by
  refine Met.ofW (cc := cX14_close) (maxL := 5) (ret := none) (by decide) rfl ?_
  intro p e s m args below meth c s₁ Bd hml hv
  obtain ⟨rfl, hH0, hX, hG, hK2, hg_r0, hg_dd, hg_co, hg_cs, hg_ol, hg_nw, hg_td, hP0, hM0, hI0, hp0, hp1⟩ := hv
  have hK := hG.1
  have hx := Bd.exec
  have hb := Bd.bytes
  have hr := Bd.returns
  have hts := atoms_spec (ws := (jw yX14_close cX14_close 5 none)) Bd.pre
  have htw : ∀ w ∈ jWl, w.before _ s = true := fun w h => hts w (List.mem_cons_of_mem _ h)
  have hown : s.vm.findClass RX14 = some m.cls := findClass_of_methodNamed Bd.named
  have hlocks := Bd.notSynchronized
  obtain ⟨Q, hQ⟩ : ∃ Q, Q = MQ below (va_Qv (S := Unit) (fun u => True) (fun u t => (jRt (dC, dI) B base G0 EX14_close H0 [] t.heap) ∧ jDV dC dI ca G0 r0 dd co cs ol nw td t.heap) (jA base)) ([.ref r0, .int a1] : List Value).toArray s 0 0 (jA base) := ⟨_, rfl⟩
  rw [← hQ]
  have hl := lv_entry ([.ref r0, .int a1]) (n := 5) (Nat.le_of_ble_eq_true rfl)
  rw [lg_entry_eq]
  generalize (lg_sl ([.ref r0, .int a1]) ++ List.replicate (5 - (lg_sl ([.ref r0, .int a1])).length) Slot.unset).toArray = ls at hl ⊢
  have hl : lv_has ls 5 [(0, .ref r0), (1, .int a1)] := hl
  generalize hR : (headSpec (jw yX14_close cX14_close 5 none) ({ frames := 16, cells := 0, slots := 0, locals := 548 })).room = R
  subst hH0
  have hh : jSt (dC, dI) B base G0 G0 EX14_close s.heap 0 0 [(r0, 16, 41, .ref dd), (r0, 16, 42, .int dc), (r0, 16, 60, .ref co), (r0, 16, 61, .ref cs), (r0, 16, 46, .ref ol), (r0, 16, 47, .ref nw), (r0, 16, 71, .ref td)] [(cs, 207, 2, ca 1, fs)] [(jFs, jDY dC dI ca G0 none sn), (jF9, jVl dC dI G0 9 ck), ([(201, 0)], jQc dC dI (ca 4) dd 3 fd), ([(208, 0)], jQc dC dI (ca 4) co 2 fo)] s.heap [] := jSt.start hX hP0 hM0 hI0
  clear hX hP0
  have hk0 : (0 : Int32).toInt = 0 := by decide
  have hk1 : (1 : Int32).toInt = 1 := by decide
  have hk2 : (2 : Int32).toInt = 2 := by decide
  have hly_16_41 := htw (u_lay RX14 TX14 41) (jWc_wsX140 _ (u_in_lay (by decide)))
  have hly_16_42 := htw (u_lay RX14 TX14 42) (jWc_wsX140 _ (u_in_lay (by decide)))
  have hly_16_60 := htw (u_lay RX14 TX14 60) (jWc_wsX140 _ (u_in_lay (by decide)))
  obtain ⟨str514, rstr514, hstr5140⟩ := hG.strT (o := RX14) (k := 514) (tx := "textDocument") (List.mem_of_getElem? (i := 2486) (by decide +kernel))
  have hTstr514 : jStrF base str514 12 (jChT "textDocument") s s.heap := hstr5140.F (by decide +kernel)
  have hstr514 : jStr base str514 12 s s.heap := hTstr514.str
  obtain ⟨str516, rstr516, hstr5160⟩ := hG.strT (o := RX14) (k := 516) (tx := "uri") (List.mem_of_getElem? (i := 2487) (by decide +kernel))
  have hTstr516 : jStrF base str516 3 (jChT "uri") s s.heap := hstr5160.F (by decide +kernel)
  have hstr516 : jStr base str516 3 s s.heap := hTstr516.str
  have hlk_129 := (htw (.fieldLink RX14 129 "ProofServerModel" "checkOf" "[LProofServerModel$Document;") (jWr_12 _ (List.mem_of_getElem? (i := 15) rfl)))
  have hlk_74 := (htw (.fieldLink RX14 74 "ProofServerModel" "documents" "[LProofServerModel$Document;") (jWr_11 _ (List.mem_of_getElem? (i := 19) rfl)))
  have hlk_505 := (htw (.fieldLink RX14 505 "ProofServerModel" "documentCount" "I") (jWr_57 _ (List.mem_of_getElem? (i := 5) rfl)))
  have hrg_a1 := jb_rng a1
  obtain ⟨fdz, hfdz⟩ : ∃ q, q = fd := ⟨_, rfl⟩
  obtain ⟨sx_1, esx_1, hsx_1⟩ := hh.sat (C := RX14) (T := TX14) (N := 74) hB16 rfl (by decide) hg_r0 (i := 42) (by decide) rfl 1 rfl
  cases esx_1
  refine lv_aload_n hx hb dX14_close_0 rfl (lv_at hl 0 rfl) ?_
  refine lv_aload_n hx hb dX14_close_1 rfl (lv_at hl 0 rfl) ?_
  refine lv_aload_n hx hb dX14_close_2 rfl (lv_at hl 0 rfl) ?_
  refine lv_iload_n hx hb dX14_close_3 rfl (lv_at hl 1 rfl) ?_
  refine j_ldcSw hx hb hown rstr514 dX14_close_4 ?_
  obtain ⟨v_4, hv_4, hh_5⟩ := hh.pin (C := RX14) (T := TX14) (N := 74) hB16 rfl (by decide) hg_r0 (i := 17) (by decide) rfl
  obtain ⟨sort_6, rfl, hg_sort_6⟩ := hv_4
  obtain ⟨v_7, hv_7, hh_8⟩ := hh_5.pin (C := RX14) (T := TX14) (N := 74) hB16 rfl (by decide) hg_r0 (i := 18) (by decide) rfl
  obtain ⟨heir_9, rfl, hg_heir_9⟩ := hv_7
  obtain ⟨v_10, hv_10, hh_11⟩ := hh_8.pin (C := RX14) (T := TX14) (N := 74) hB16 rfl (by decide) hg_r0 (i := 19) (by decide) rfl
  obtain ⟨next_12, rfl, hg_next_12⟩ := hv_10
  obtain ⟨v_13, hv_13, hh_14⟩ := hh_11.pin (C := RX14) (T := TX14) (N := 74) hB16 rfl (by decide) hg_r0 (i := 20) (by decide) rfl
  obtain ⟨nameFrom_15, rfl, hg_nameFrom_15⟩ := hv_13
  obtain ⟨v_16, hv_16, hh_17⟩ := hh_14.pin (C := RX14) (T := TX14) (N := 74) hB16 rfl (by decide) hg_r0 (i := 21) (by decide) rfl
  obtain ⟨nameTo_18, rfl, hg_nameTo_18⟩ := hv_16
  obtain ⟨v_19, hv_19, hh_20⟩ := hh_17.pin (C := RX14) (T := TX14) (N := 74) hB16 rfl (by decide) hg_r0 (i := 27) (by decide) rfl
  obtain ⟨pool_21, rfl, hg_pool_21⟩ := hv_19
  obtain ⟨f_ms_22, hh_22⟩ := hh_20.cpin hB117 (by decide) (by decide) hg_sort_6
  clear hh_20
  obtain ⟨f_mh_23, hh_23⟩ := hh_22.cpin hB118 (by decide) (by decide) hg_heir_9
  clear hh_22
  obtain ⟨f_mx_24, hh_24⟩ := hh_23.cpin hB119 (by decide) (by decide) hg_next_12
  clear hh_23
  obtain ⟨f_mf_25, hh_25⟩ := hh_24.cpin hB120 (by decide) (by decide) hg_nameFrom_15
  clear hh_24
  obtain ⟨f_mt_26, hh_26⟩ := hh_25.cpin hB121 (by decide) (by decide) hg_nameTo_18
  clear hh_25
  obtain ⟨f_mp_27, hh_27⟩ := hh_26.cpin hB127 (by decide) (by decide) hg_pool_21
  clear hh_26
  refine va_calli (A0 := jA base) (H0 := s.heap) (va_runV (As := [.int a1, .ref str514]) (rest := [.ref r0, .ref r0]) ⟨hx, hb, hml, hown, hts⟩ (uX14_memberK l dC dI ca base B hB hAp hB16 hB117 hB118 hB119 hB120 hB121 hB127 G0 s.heap r0 a1 str514 12 (jChT "textDocument") sort_6 heir_9 next_12 nameFrom_15 nameTo_18 pool_21 f_ms_22 f_mh_23 f_mx_24 f_mf_25 f_mt_26 f_mp_27) (cwV 2 hts (jgV (jWr_55 _ (List.mem_of_getElem? (i := 15) rfl)) (jWr_55 _ (List.mem_of_getElem? (i := 16) rfl)) (jWr_55 _ (List.mem_of_getElem? (i := 17) rfl)) (jWr_1 _ (List.mem_of_getElem? (i := 5) rfl)) (jWr_55 _ (List.mem_of_getElem? (i := 18) rfl))) rfl rfl rfl (by decide +kernel) ⟨by rw [← hR]; exact Nat.le_of_ble_eq_true rfl, by rw [← hR]; exact Nat.le_of_ble_eq_true rfl⟩) ⟨fun a U g mk q => by obtain ⟨q0, q1, q2, qK, q10, q11, q12, q13, q14, q15, q16, q17, q18, q19, q20⟩ := q; exact ⟨q0, q1, q2, jG.calling g mk a qK, (q10.moved (Vm.Alike.refl U.vm)), q11, q12, q13, q14, q15, q16, q17, q18, q19, q20⟩, hh_27.recv (C := RX14) (T := TX14) (N := 74) hB16 rfl (by decide) hg_r0 hK, fun U hU hW => ⟨rfl, hU, hh_27.2.1, hG.step hW hU hh_27.1, (hTstr514.moved hW.alike).kept hh_27.1.2.1, hg_r0, hg_sort_6, hg_heir_9, hg_next_12, hg_nameFrom_15, hg_nameTo_18, hg_pool_21, (hh_27.2.2.1.sub (L1 := [(r0, 16, 17, .ref sort_6), (r0, 16, 18, .ref heir_9), (r0, 16, 19, .ref next_12), (r0, 16, 20, .ref nameFrom_15), (r0, 16, 21, .ref nameTo_18), (r0, 16, 27, .ref pool_21)]) [5, 4, 3, 2, 1, 0] rfl), (hh_27.2.2.2.2.2.2.2.1.sub (L1 := [(sort_6, 117, 3100, ca 1, f_ms_22), (heir_9, 118, 3100, ca 1, f_mh_23), (next_12, 119, 3100, ca 1, f_mx_24), (nameFrom_15, 120, 3100, ca 1, f_mf_25), (nameTo_18, 121, 3100, ca 1, f_mt_26), (pool_21, 127, 3300, ca 1, f_mp_27)]) [5, 4, 3, 2, 1, 0] rfl), by first | omega | (refine ⟨?_, ?_⟩ <;> (first | omega | rfl | assumption | decide | exact Or.inl rfl | exact Or.inr rfl | (simp only; omega)))⟩⟩ rfl rfl hl.1 rfl (lv_room (Nat.le_of_ble_eq_true rfl)) dX14_close_7 ⟨Nat.zero_le _, Nat.zero_le _⟩) hh_27.1 (fun q _ h => h) (fun q h => h) (fun r_3 u_2 t_2 H_2 locs_2 ht_2 hvm_2 hr_3 hb_2 hz_2 hk_2 hS_2 => ?_)
  rw [ht_2] at hb_2
  obtain ⟨hb_21, hb_22, hb_23, hb_24, hb_25⟩ := hb_2
  have hh_2 : jSt (dC, dI) B base G0 G0 EX14_close s.heap 0 0 [(r0, 16, 27, .ref pool_21), (r0, 16, 21, .ref nameTo_18), (r0, 16, 20, .ref nameFrom_15), (r0, 16, 19, .ref next_12), (r0, 16, 18, .ref heir_9), (r0, 16, 17, .ref sort_6), (r0, 16, 41, .ref dd), (r0, 16, 42, .int dc), (r0, 16, 60, .ref co), (r0, 16, 61, .ref cs), (r0, 16, 46, .ref ol), (r0, 16, 47, .ref nw), (r0, 16, 71, .ref td)] [(pool_21, 127, 3300, ca 1, f_mp_27), (nameTo_18, 121, 3100, ca 1, f_mt_26), (nameFrom_15, 120, 3100, ca 1, f_mf_25), (next_12, 119, 3100, ca 1, f_mx_24), (heir_9, 118, 3100, ca 1, f_mh_23), (sort_6, 117, 3100, ca 1, f_ms_22), (cs, 207, 2, ca 1, fs)] [(jFs, jDY dC dI ca G0 none sn), (jF9, jVl dC dI G0 9 ck), ([(201, 0)], jQc dC dI (ca 4) dd 3 fd), ([(208, 0)], jQc dC dI (ca 4) co 2 fo)] H_2 locs_2 := ((hh_27.call hb_21 hb_22 hb_23 hb_24 hS_2 rfl (L1 := [(r0, 16, 27, .ref pool_21), (r0, 16, 21, .ref nameTo_18), (r0, 16, 20, .ref nameFrom_15), (r0, 16, 19, .ref next_12), (r0, 16, 18, .ref heir_9), (r0, 16, 17, .ref sort_6), (r0, 16, 41, .ref dd), (r0, 16, 42, .int dc), (r0, 16, 60, .ref co), (r0, 16, 61, .ref cs), (r0, 16, 46, .ref ol), (r0, 16, 47, .ref nw), (r0, 16, 71, .ref td)]) [0, 1, 2, 3, 4, 5, 6, 7, 8, 9, 10, 11, 12] rfl rfl (M1 := [(pool_21, 127, 3300, ca 1, f_mp_27), (nameTo_18, 121, 3100, ca 1, f_mt_26), (nameFrom_15, 120, 3100, ca 1, f_mf_25), (next_12, 119, 3100, ca 1, f_mx_24), (heir_9, 118, 3100, ca 1, f_mh_23), (sort_6, 117, 3100, ca 1, f_ms_22), (cs, 207, 2, ca 1, fs)]) [0, 1, 2, 3, 4, 5, 6] rfl rfl (I1 := [(jFs, jDY dC dI ca G0 none sn), (jF9, jVl dC dI G0 9 ck), ([(201, 0)], jQc dC dI (ca 4) dd 3 fd), ([(208, 0)], jQc dC dI (ca 4) co 2 fo)]) [0, 1, 2, 3] rfl rfl).more hb_25)
  clear hh_27 ht_2 hvm_2 hz_2 hk_2 hS_2 hb_21 hb_22 hb_23 hb_24 hb_25
  obtain ⟨hr_3_0, hr_3_1, hr_3_2⟩ := hr_3
  refine j_ldcSw hx hb hown rstr516 dX14_close_10 ?_
  refine va_calli (A0 := jA base) (H0 := s.heap) (va_runV (As := [.int r_3, .ref str516]) (rest := [.ref r0]) ⟨hx, hb, hml, hown, hts⟩ (uX14_memberK l dC dI ca base B hB hAp hB16 hB117 hB118 hB119 hB120 hB121 hB127 G0 H_2 r0 r_3 str516 3 (jChT "uri") sort_6 heir_9 next_12 nameFrom_15 nameTo_18 pool_21 f_ms_22 f_mh_23 f_mx_24 f_mf_25 f_mt_26 f_mp_27) (cwV 2 hts (jgV (jWr_55 _ (List.mem_of_getElem? (i := 15) rfl)) (jWr_55 _ (List.mem_of_getElem? (i := 16) rfl)) (jWr_55 _ (List.mem_of_getElem? (i := 17) rfl)) (jWr_1 _ (List.mem_of_getElem? (i := 5) rfl)) (jWr_55 _ (List.mem_of_getElem? (i := 18) rfl))) rfl rfl rfl (by decide +kernel) ⟨by rw [← hR]; exact Nat.le_of_ble_eq_true rfl, by rw [← hR]; exact Nat.le_of_ble_eq_true rfl⟩) ⟨fun a U g mk q => by obtain ⟨q0, q1, q2, qK, q10, q11, q12, q13, q14, q15, q16, q17, q18, q19, q20⟩ := q; exact ⟨q0, q1, q2, jG.calling g mk a qK, (q10.moved (Vm.Alike.refl U.vm)), q11, q12, q13, q14, q15, q16, q17, q18, q19, q20⟩, hh_2.recv (C := RX14) (T := TX14) (N := 74) hB16 rfl (by decide) hg_r0 hK, fun U hU hW => ⟨rfl, hU, hh_2.2.1, hG.step hW hU hh_2.1, (hTstr516.moved hW.alike).kept hh_2.1.2.1, hg_r0, hg_sort_6, hg_heir_9, hg_next_12, hg_nameFrom_15, hg_nameTo_18, hg_pool_21, (hh_2.2.2.1.sub (L1 := [(r0, 16, 17, .ref sort_6), (r0, 16, 18, .ref heir_9), (r0, 16, 19, .ref next_12), (r0, 16, 20, .ref nameFrom_15), (r0, 16, 21, .ref nameTo_18), (r0, 16, 27, .ref pool_21)]) [5, 4, 3, 2, 1, 0] rfl), (hh_2.2.2.2.2.2.2.2.1.sub (L1 := [(sort_6, 117, 3100, ca 1, f_ms_22), (heir_9, 118, 3100, ca 1, f_mh_23), (next_12, 119, 3100, ca 1, f_mx_24), (nameFrom_15, 120, 3100, ca 1, f_mf_25), (nameTo_18, 121, 3100, ca 1, f_mt_26), (pool_21, 127, 3300, ca 1, f_mp_27)]) [5, 4, 3, 2, 1, 0] rfl), by first | omega | (refine ⟨?_, ?_⟩ <;> (first | omega | rfl | assumption | decide | exact Or.inl rfl | exact Or.inr rfl | (simp only; omega)))⟩⟩ rfl rfl hl.1 rfl (lv_room (Nat.le_of_ble_eq_true rfl)) dX14_close_13 ⟨Nat.zero_le _, Nat.zero_le _⟩) hh_2.1 (fun q _ h => h) (fun q h => h) (fun r_29 u_28 t_28 H_28 locs_28 ht_28 hvm_28 hr_29 hb_28 hz_28 hk_28 hS_28 => ?_)
  rw [ht_28] at hb_28
  obtain ⟨hb_281, hb_282, hb_283, hb_284, hb_285⟩ := hb_28
  have hh_28 : jSt (dC, dI) B base G0 G0 EX14_close s.heap 0 0 [(r0, 16, 27, .ref pool_21), (r0, 16, 21, .ref nameTo_18), (r0, 16, 20, .ref nameFrom_15), (r0, 16, 19, .ref next_12), (r0, 16, 18, .ref heir_9), (r0, 16, 17, .ref sort_6), (r0, 16, 41, .ref dd), (r0, 16, 42, .int dc), (r0, 16, 60, .ref co), (r0, 16, 61, .ref cs), (r0, 16, 46, .ref ol), (r0, 16, 47, .ref nw), (r0, 16, 71, .ref td)] [(pool_21, 127, 3300, ca 1, f_mp_27), (nameTo_18, 121, 3100, ca 1, f_mt_26), (nameFrom_15, 120, 3100, ca 1, f_mf_25), (next_12, 119, 3100, ca 1, f_mx_24), (heir_9, 118, 3100, ca 1, f_mh_23), (sort_6, 117, 3100, ca 1, f_ms_22), (cs, 207, 2, ca 1, fs)] [(jFs, jDY dC dI ca G0 none sn), (jF9, jVl dC dI G0 9 ck), ([(201, 0)], jQc dC dI (ca 4) dd 3 fd), ([(208, 0)], jQc dC dI (ca 4) co 2 fo)] H_28 locs_28 := ((hh_2.call hb_281 hb_282 hb_283 hb_284 hS_28 rfl (L1 := [(r0, 16, 27, .ref pool_21), (r0, 16, 21, .ref nameTo_18), (r0, 16, 20, .ref nameFrom_15), (r0, 16, 19, .ref next_12), (r0, 16, 18, .ref heir_9), (r0, 16, 17, .ref sort_6), (r0, 16, 41, .ref dd), (r0, 16, 42, .int dc), (r0, 16, 60, .ref co), (r0, 16, 61, .ref cs), (r0, 16, 46, .ref ol), (r0, 16, 47, .ref nw), (r0, 16, 71, .ref td)]) [0, 1, 2, 3, 4, 5, 6, 7, 8, 9, 10, 11, 12] rfl rfl (M1 := [(pool_21, 127, 3300, ca 1, f_mp_27), (nameTo_18, 121, 3100, ca 1, f_mt_26), (nameFrom_15, 120, 3100, ca 1, f_mf_25), (next_12, 119, 3100, ca 1, f_mx_24), (heir_9, 118, 3100, ca 1, f_mh_23), (sort_6, 117, 3100, ca 1, f_ms_22), (cs, 207, 2, ca 1, fs)]) [0, 1, 2, 3, 4, 5, 6] rfl rfl (I1 := [(jFs, jDY dC dI ca G0 none sn), (jF9, jVl dC dI G0 9 ck), ([(201, 0)], jQc dC dI (ca 4) dd 3 fd), ([(208, 0)], jQc dC dI (ca 4) co 2 fo)]) [0, 1, 2, 3] rfl rfl).more hb_285)
  clear hh_2 ht_28 hvm_28 hz_28 hk_28 hS_28 hb_281 hb_282 hb_283 hb_284 hb_285
  obtain ⟨hr_29_0, hr_29_1, hr_29_2⟩ := hr_29
  refine j_callx (A0 := jA base) (H0 := s.heap) (va_runV (As := [.int r_29]) (rest := []) ⟨hx, hb, hml, hown, hts⟩ (uX14_documentOfK l dC dI ca base B hB hAp hB14 hB16 hB101 hB117 hB122 hB123 hB127 hB201 G0 H_28 r0 r_29 dd dc co cs ol nw td sn ck fd fo fs) (cwV 1 hts (jgV (jWr_57 _ (List.mem_of_getElem? (i := 6) rfl)) (jWr_57 _ (List.mem_of_getElem? (i := 7) rfl)) (jWr_57 _ (List.mem_of_getElem? (i := 8) rfl)) (jWr_1 _ (List.mem_of_getElem? (i := 5) rfl)) (jWr_57 _ (List.mem_of_getElem? (i := 9) rfl))) rfl rfl rfl (by decide +kernel) ⟨by rw [← hR]; exact Nat.le_of_ble_eq_true rfl, by rw [← hR]; exact Nat.le_of_ble_eq_true rfl⟩) ⟨fun a U g mk q => by obtain ⟨q0, q1, q2, qK, q10, q11, q12, q13, q14, q15, q16, q17, q18, q19, q20, q21⟩ := q; exact ⟨q0, q1, q2, jG.calling g mk a qK, (va_K.moved (Vm.Alike.refl U.vm) q10), q11, q12, q13, q14, q15, q16, q17, q18, q19, q20, q21⟩, hh_28.recv (C := RX14) (T := TX14) (N := 74) hB16 rfl (by decide) hg_r0 hK, fun U hU hW => ⟨rfl, hU, hh_28.2.1, hG.step hW hU hh_28.1, va_K.moved hW.alike hK2, hg_r0, hg_dd, hg_co, hg_cs, hg_ol, hg_nw, hg_td, (hh_28.2.2.1.sub (L1 := [(r0, 16, 41, .ref dd), (r0, 16, 42, .int dc), (r0, 16, 60, .ref co), (r0, 16, 61, .ref cs), (r0, 16, 46, .ref ol), (r0, 16, 47, .ref nw), (r0, 16, 71, .ref td)]) [6, 7, 8, 9, 10, 11, 12] rfl), (hh_28.2.2.2.2.2.2.2.1.sub (L1 := [(cs, 207, 2, ca 1, fs)]) [6] rfl), (hh_28.2.2.2.2.2.2.2.2.sub (L1 := [(jFs, jDY dC dI ca G0 none sn), (jF9, jVl dC dI G0 9 ck), ([(201, 0)], jQc dC dI (ca 4) dd 3 fd), ([(208, 0)], jQc dC dI (ca 4) co 2 fo)]) [0, 1, 2, 3] rfl), by first | omega | (refine ⟨?_, ?_⟩ <;> (first | omega | rfl | assumption | decide | exact Or.inl rfl | exact Or.inr rfl | (simp only; omega)))⟩⟩ rfl rfl hl.1 rfl (lv_room (Nat.le_of_ble_eq_true rfl)) dX14_close_16 ⟨Nat.zero_le _, Nat.zero_le _⟩) hh_28.1 (fun q _ h => h) (fun q h => h) (fun r_31 u_30 t_30 H_30 locs_30 ht_30 hvm_30 hr_31 hb_30 hz_30 hk_30 hS_30 => ?_)
  rw [ht_30] at hb_30
  obtain ⟨hb_301, hb_302, hb_303, hb_304, hb_305⟩ := hb_30
  have hh_30 : jSt (dC, dI) B base G0 G0 EX14_close s.heap 0 0 [(r0, 16, 27, .ref pool_21), (r0, 16, 21, .ref nameTo_18), (r0, 16, 20, .ref nameFrom_15), (r0, 16, 19, .ref next_12), (r0, 16, 18, .ref heir_9), (r0, 16, 17, .ref sort_6), (r0, 16, 41, .ref dd), (r0, 16, 42, .int dc), (r0, 16, 60, .ref co), (r0, 16, 61, .ref cs), (r0, 16, 46, .ref ol), (r0, 16, 47, .ref nw), (r0, 16, 71, .ref td)] [(pool_21, 127, 3300, ca 1, f_mp_27), (nameTo_18, 121, 3100, ca 1, f_mt_26), (nameFrom_15, 120, 3100, ca 1, f_mf_25), (next_12, 119, 3100, ca 1, f_mx_24), (heir_9, 118, 3100, ca 1, f_mh_23), (sort_6, 117, 3100, ca 1, f_ms_22), (cs, 207, 2, ca 1, fs)] [(jFs, jDY dC dI ca G0 none sn), (jF9, jVl dC dI G0 9 ck), ([(201, 0)], jQc dC dI (ca 4) dd 3 fd), ([(208, 0)], jQc dC dI (ca 4) co 2 fo)] H_30 locs_30 := ((hh_28.call hb_301 hb_302 hb_303 hb_304 hS_30 rfl (L1 := [(r0, 16, 27, .ref pool_21), (r0, 16, 21, .ref nameTo_18), (r0, 16, 20, .ref nameFrom_15), (r0, 16, 19, .ref next_12), (r0, 16, 18, .ref heir_9), (r0, 16, 17, .ref sort_6), (r0, 16, 41, .ref dd), (r0, 16, 42, .int dc), (r0, 16, 60, .ref co), (r0, 16, 61, .ref cs), (r0, 16, 46, .ref ol), (r0, 16, 47, .ref nw), (r0, 16, 71, .ref td)]) [0, 1, 2, 3, 4, 5, 6, 7, 8, 9, 10, 11, 12] rfl rfl (M1 := [(pool_21, 127, 3300, ca 1, f_mp_27), (nameTo_18, 121, 3100, ca 1, f_mt_26), (nameFrom_15, 120, 3100, ca 1, f_mf_25), (next_12, 119, 3100, ca 1, f_mx_24), (heir_9, 118, 3100, ca 1, f_mh_23), (sort_6, 117, 3100, ca 1, f_ms_22), (cs, 207, 2, ca 1, fs)]) [0, 1, 2, 3, 4, 5, 6] rfl rfl (I1 := [(jFs, jDY dC dI ca G0 none sn), (jF9, jVl dC dI G0 9 ck), ([(201, 0)], jQc dC dI (ca 4) dd 3 fd), ([(208, 0)], jQc dC dI (ca 4) co 2 fo)]) [0, 1, 2, 3] rfl rfl).more hb_305)
  clear hh_28 ht_30 hvm_30 hz_30 hk_30 hS_30 hb_301 hb_302 hb_303 hb_304 hb_305
  rcases hr_31 with rfl | ⟨ret_32, rfl, hg_ret_32, hp_ret_32⟩
  · skip
    refine j7_nst_n (lv' := [(2, .null), (0, .ref r0), (1, .int a1)]) hx hb dX14_close_19 rfl hl (by decide) rfl (fun ls hl => ?_)
    refine j7_nld_n hx hb dX14_close_20 rfl (lv_at hl 0 rfl) ?_
    refine lv_ifnonnullN hx hb dX14_close_21 ?_
    rw [hQ]
    exact W.vret hx hb hr (fun t ht hW => ⟨⟨(), rfl, trivial, ⟨hh_30.rt (M1 := []) [] rfl ht, by rw [ht]; exact ⟨sn, ck, fs, fd, fo, dc, hh_30.2.2.1.sub (L1 := [(r0, 16, 41, .ref dd), (r0, 16, 42, .int dc), (r0, 16, 60, .ref co), (r0, 16, 61, .ref cs), (r0, 16, 46, .ref ol), (r0, 16, 47, .ref nw), (r0, 16, 71, .ref td)]) [6, 7, 8, 9, 10, 11, 12] rfl, hh_30.2.2.2.2.2.2.2.1.sub (L1 := [(cs, 207, 2, ca 1, fs)]) [6] rfl, hh_30.2.2.2.2.2.2.2.2.sub (L1 := [(jFs, jDY dC dI ca G0 none sn), (jF9, jVl dC dI G0 9 ck), ([(201, 0)], jQc dC dI (ca 4) dd 3 fd), ([(208, 0)], jQc dC dI (ca 4) co 2 fo)]) [0, 1, 2, 3] rfl, hp0⟩⟩⟩, by rw [ht]; try exact hh_30.1.1, fun q h9 hq => by rw [ht]; try exact hh_30.1.2.1 q h9 hq⟩) hh_30.1.2.2 dX14_close_24
  · skip
    refine lv_astore_n (lv' := [(2, .ref ret_32), (0, .ref r0), (1, .int a1)]) hx hb dX14_close_19 rfl hl (by decide) rfl (fun ls hl => ?_)
    refine lv_aload_n hx hb dX14_close_20 rfl (lv_at hl 0 rfl) ?_
    refine lv_ifnonnull (tgt := 25) hx hb dX14_close_21 (by decide) ?_
    obtain ⟨d0, hd0, hd1, hd2⟩ := hp_ret_32
    refine lv_aload_n hx hb dX14_close_25 rfl (lv_at hl 1 rfl) ?_
    refine lv_aload_n hx hb dX14_close_26 rfl (lv_at hl 0 rfl) ?_
    refine va_callv (A0 := jA base) (H0 := s.heap) (va_runV (As := [.ref ret_32]) (rest := []) ⟨hx, hb, hml, hown, hts⟩ (uX14_modified l dC dI ca base B hB hAp hB14 hB16 hB101 hB103 hB202 hB203 hB204 hB206 G0 H_30 r0 ret_32) (cwV 1 hts (jgV (jWr_73 _ (List.mem_of_getElem? (i := 22) rfl)) (jWr_73 _ (List.mem_of_getElem? (i := 23) rfl)) (jWr_74 _ (List.mem_of_getElem? (i := 0) rfl)) (jWr_1 _ (List.mem_of_getElem? (i := 5) rfl)) (jWr_74 _ (List.mem_of_getElem? (i := 1) rfl))) rfl rfl rfl (by decide +kernel) ⟨by rw [← hR]; exact Nat.le_of_ble_eq_true rfl, by rw [← hR]; exact Nat.le_of_ble_eq_true rfl⟩) ⟨fun a U g mk q => by obtain ⟨q0, q1, q2, qK, q10, q11, q12, q13, q14⟩ := q; exact ⟨q0, q1, q2, jG.calling g mk a qK, (va_K.moved (Vm.Alike.refl U.vm) q10), q11, q12, q13, q14⟩, hh_30.recv (C := RX14) (T := TX14) (N := 74) hB16 rfl (by decide) hg_r0 hK, fun U hU hW => ⟨rfl, hU, hh_30.2.1, hG.step hW hU hh_30.1, va_K.moved hW.alike hK2, hg_ret_32, hg_r0, jP.nil, trivial⟩⟩ rfl rfl hl.1 rfl (lv_room (Nat.le_of_ble_eq_true rfl)) dX14_close_27 ⟨Nat.zero_le _, Nat.zero_le _⟩) hh_30.1 (fun q _ h => h) (fun q h => h) (fun u_33 t_33 H_33 locs_33 ht_33 hvm_33 hr_34 hb_33 hz_33 hk_33 hS_33 => ?_)
    rw [ht_33] at hb_33
    obtain ⟨hb_331, hb_332, hb_333, hb_334, hb_335⟩ := hb_33
    have hh_33 : jSt (dC, dI) B base G0 G0 EX14_close s.heap 0 0 [(r0, 16, 27, .ref pool_21), (r0, 16, 21, .ref nameTo_18), (r0, 16, 20, .ref nameFrom_15), (r0, 16, 19, .ref next_12), (r0, 16, 18, .ref heir_9), (r0, 16, 17, .ref sort_6), (r0, 16, 41, .ref dd), (r0, 16, 42, .int dc), (r0, 16, 60, .ref co), (r0, 16, 61, .ref cs), (r0, 16, 46, .ref ol), (r0, 16, 47, .ref nw), (r0, 16, 71, .ref td)] [(pool_21, 127, 3300, ca 1, f_mp_27), (nameTo_18, 121, 3100, ca 1, f_mt_26), (nameFrom_15, 120, 3100, ca 1, f_mf_25), (next_12, 119, 3100, ca 1, f_mx_24), (heir_9, 118, 3100, ca 1, f_mh_23), (sort_6, 117, 3100, ca 1, f_ms_22), (cs, 207, 2, ca 1, fs)] [(jFs, jDY dC dI ca G0 none sn), (jF9, jVl dC dI G0 9 ck), ([(201, 0)], jQc dC dI (ca 4) dd 3 fd), ([(208, 0)], jQc dC dI (ca 4) co 2 fo)] H_33 locs_33 := ((hh_30.call hb_331 hb_332 hb_333 hb_334 hS_33 rfl (L1 := [(r0, 16, 27, .ref pool_21), (r0, 16, 21, .ref nameTo_18), (r0, 16, 20, .ref nameFrom_15), (r0, 16, 19, .ref next_12), (r0, 16, 18, .ref heir_9), (r0, 16, 17, .ref sort_6), (r0, 16, 41, .ref dd), (r0, 16, 42, .int dc), (r0, 16, 60, .ref co), (r0, 16, 61, .ref cs), (r0, 16, 46, .ref ol), (r0, 16, 47, .ref nw), (r0, 16, 71, .ref td)]) [0, 1, 2, 3, 4, 5, 6, 7, 8, 9, 10, 11, 12] rfl rfl (M1 := [(pool_21, 127, 3300, ca 1, f_mp_27), (nameTo_18, 121, 3100, ca 1, f_mt_26), (nameFrom_15, 120, 3100, ca 1, f_mf_25), (next_12, 119, 3100, ca 1, f_mx_24), (heir_9, 118, 3100, ca 1, f_mh_23), (sort_6, 117, 3100, ca 1, f_ms_22), (cs, 207, 2, ca 1, fs)]) [0, 1, 2, 3, 4, 5, 6] rfl rfl (I1 := [(jFs, jDY dC dI ca G0 none sn), (jF9, jVl dC dI G0 9 ck), ([(201, 0)], jQc dC dI (ca 4) dd 3 fd), ([(208, 0)], jQc dC dI (ca 4) co 2 fo)]) [0, 1, 2, 3] rfl rfl).more hb_335)
    clear hh_30 ht_33 hvm_33 hz_33 hk_33 hS_33 hb_331 hb_332 hb_333 hb_334 hb_335
    refine lv_aload_n hx hb dX14_close_30 rfl (lv_at hl 1 rfl) ?_
    refine lv_aload_n hx hb dX14_close_31 rfl (lv_at hl 0 rfl) ?_
    refine va_callv (A0 := jA base) (H0 := s.heap) (va_runV (As := [.ref ret_32]) (rest := []) ⟨hx, hb, hml, hown, hts⟩ (uX14_beginDiagnostics l dC dI ca base B hB hAp hB14 hB16 hB101 G0 H_33 r0 ret_32) (cwV 1 hts (jgV (jWr_58 _ (List.mem_of_getElem? (i := 12) rfl)) (jWr_58 _ (List.mem_of_getElem? (i := 13) rfl)) (jWr_58 _ (List.mem_of_getElem? (i := 14) rfl)) (jWr_1 _ (List.mem_of_getElem? (i := 5) rfl)) (jWr_58 _ (List.mem_of_getElem? (i := 15) rfl))) rfl rfl rfl (by decide +kernel) ⟨by rw [← hR]; exact Nat.le_of_ble_eq_true rfl, by rw [← hR]; exact Nat.le_of_ble_eq_true rfl⟩) ⟨fun a U g mk q => by obtain ⟨q0, q1, q2, qK, q10, q11, q12, q13⟩ := q; exact ⟨q0, q1, q2, jG.calling g mk a qK, q10, q11, q12, q13⟩, hh_33.recv (C := RX14) (T := TX14) (N := 74) hB16 rfl (by decide) hg_r0 hK, fun U hU hW => ⟨rfl, hU, hh_33.2.1, hG.step hW hU hh_33.1, hg_ret_32, hg_r0, jP.nil, trivial⟩⟩ rfl rfl hl.1 rfl (lv_room (Nat.le_of_ble_eq_true rfl)) dX14_close_32 ⟨Nat.zero_le _, Nat.zero_le _⟩) hh_33.1 (fun q _ h => h) (fun q h => h) (fun u_35 t_35 H_35 locs_35 ht_35 hvm_35 hr_36 hb_35 hz_35 hk_35 hS_35 => ?_)
    rw [ht_35] at hb_35
    obtain ⟨hb_351, hb_352, hb_353, hb_354, hb_355⟩ := hb_35
    have hh_35 : jSt (dC, dI) B base G0 G0 EX14_close s.heap 0 0 [(r0, 16, 27, .ref pool_21), (r0, 16, 21, .ref nameTo_18), (r0, 16, 20, .ref nameFrom_15), (r0, 16, 19, .ref next_12), (r0, 16, 18, .ref heir_9), (r0, 16, 17, .ref sort_6), (r0, 16, 41, .ref dd), (r0, 16, 42, .int dc), (r0, 16, 60, .ref co), (r0, 16, 61, .ref cs), (r0, 16, 46, .ref ol), (r0, 16, 47, .ref nw), (r0, 16, 71, .ref td)] [(pool_21, 127, 3300, ca 1, f_mp_27), (nameTo_18, 121, 3100, ca 1, f_mt_26), (nameFrom_15, 120, 3100, ca 1, f_mf_25), (next_12, 119, 3100, ca 1, f_mx_24), (heir_9, 118, 3100, ca 1, f_mh_23), (sort_6, 117, 3100, ca 1, f_ms_22), (cs, 207, 2, ca 1, fs)] [(jFs, jDY dC dI ca G0 none sn), (jF9, jVl dC dI G0 9 ck), ([(201, 0)], jQc dC dI (ca 4) dd 3 fd), ([(208, 0)], jQc dC dI (ca 4) co 2 fo)] H_35 locs_35 := ((hh_33.call hb_351 hb_352 hb_353 hb_354 hS_35 rfl (L1 := [(r0, 16, 27, .ref pool_21), (r0, 16, 21, .ref nameTo_18), (r0, 16, 20, .ref nameFrom_15), (r0, 16, 19, .ref next_12), (r0, 16, 18, .ref heir_9), (r0, 16, 17, .ref sort_6), (r0, 16, 41, .ref dd), (r0, 16, 42, .int dc), (r0, 16, 60, .ref co), (r0, 16, 61, .ref cs), (r0, 16, 46, .ref ol), (r0, 16, 47, .ref nw), (r0, 16, 71, .ref td)]) [0, 1, 2, 3, 4, 5, 6, 7, 8, 9, 10, 11, 12] rfl rfl (M1 := [(pool_21, 127, 3300, ca 1, f_mp_27), (nameTo_18, 121, 3100, ca 1, f_mt_26), (nameFrom_15, 120, 3100, ca 1, f_mf_25), (next_12, 119, 3100, ca 1, f_mx_24), (heir_9, 118, 3100, ca 1, f_mh_23), (sort_6, 117, 3100, ca 1, f_ms_22), (cs, 207, 2, ca 1, fs)]) [0, 1, 2, 3, 4, 5, 6] rfl rfl (I1 := [(jFs, jDY dC dI ca G0 none sn), (jF9, jVl dC dI G0 9 ck), ([(201, 0)], jQc dC dI (ca 4) dd 3 fd), ([(208, 0)], jQc dC dI (ca 4) co 2 fo)]) [0, 1, 2, 3] rfl rfl).more hb_355)
    clear hh_33 ht_35 hvm_35 hz_35 hk_35 hS_35 hb_351 hb_352 hb_353 hb_354 hb_355
    refine lv_aload_n hx hb dX14_close_35 rfl (lv_at hl 1 rfl) ?_
    refine va_callv (A0 := jA base) (H0 := s.heap) (va_runV (As := []) (rest := []) ⟨hx, hb, hml, hown, hts⟩ (uX14_endDiagnostics l dC dI ca base B hB hAp hB16 hB101 G0 H_35 r0) (cwV 0 hts (jgV (jWr_59 _ (List.mem_of_getElem? (i := 2) rfl)) (jWr_59 _ (List.mem_of_getElem? (i := 3) rfl)) (jWr_59 _ (List.mem_of_getElem? (i := 4) rfl)) (jWr_1 _ (List.mem_of_getElem? (i := 5) rfl)) (jWr_59 _ (List.mem_of_getElem? (i := 5) rfl))) rfl rfl rfl (by decide +kernel) ⟨by rw [← hR]; exact Nat.le_of_ble_eq_true rfl, by rw [← hR]; exact Nat.le_of_ble_eq_true rfl⟩) ⟨fun a U g mk q => by obtain ⟨q0, q1, q2, qK, q10, q11, q12⟩ := q; exact ⟨q0, q1, q2, jG.calling g mk a qK, q10, q11, q12⟩, hh_35.recv (C := RX14) (T := TX14) (N := 74) hB16 rfl (by decide) hg_r0 hK, fun U hU hW => ⟨rfl, hU, hh_35.2.1, hG.step hW hU hh_35.1, hg_r0, jP.nil, trivial⟩⟩ rfl rfl hl.1 rfl (lv_room (Nat.le_of_ble_eq_true rfl)) dX14_close_36 ⟨Nat.zero_le _, Nat.zero_le _⟩) hh_35.1 (fun q _ h => h) (fun q h => h) (fun u_37 t_37 H_37 locs_37 ht_37 hvm_37 hr_38 hb_37 hz_37 hk_37 hS_37 => ?_)
    rw [ht_37] at hb_37
    obtain ⟨hb_371, hb_372, hb_373, hb_374, hb_375⟩ := hb_37
    have hh_37 : jSt (dC, dI) B base G0 G0 EX14_close s.heap 0 0 [(r0, 16, 27, .ref pool_21), (r0, 16, 21, .ref nameTo_18), (r0, 16, 20, .ref nameFrom_15), (r0, 16, 19, .ref next_12), (r0, 16, 18, .ref heir_9), (r0, 16, 17, .ref sort_6), (r0, 16, 41, .ref dd), (r0, 16, 42, .int dc), (r0, 16, 60, .ref co), (r0, 16, 61, .ref cs), (r0, 16, 46, .ref ol), (r0, 16, 47, .ref nw), (r0, 16, 71, .ref td)] [(pool_21, 127, 3300, ca 1, f_mp_27), (nameTo_18, 121, 3100, ca 1, f_mt_26), (nameFrom_15, 120, 3100, ca 1, f_mf_25), (next_12, 119, 3100, ca 1, f_mx_24), (heir_9, 118, 3100, ca 1, f_mh_23), (sort_6, 117, 3100, ca 1, f_ms_22), (cs, 207, 2, ca 1, fs)] [(jFs, jDY dC dI ca G0 none sn), (jF9, jVl dC dI G0 9 ck), ([(201, 0)], jQc dC dI (ca 4) dd 3 fd), ([(208, 0)], jQc dC dI (ca 4) co 2 fo)] H_37 locs_37 := ((hh_35.call hb_371 hb_372 hb_373 hb_374 hS_37 rfl (L1 := [(r0, 16, 27, .ref pool_21), (r0, 16, 21, .ref nameTo_18), (r0, 16, 20, .ref nameFrom_15), (r0, 16, 19, .ref next_12), (r0, 16, 18, .ref heir_9), (r0, 16, 17, .ref sort_6), (r0, 16, 41, .ref dd), (r0, 16, 42, .int dc), (r0, 16, 60, .ref co), (r0, 16, 61, .ref cs), (r0, 16, 46, .ref ol), (r0, 16, 47, .ref nw), (r0, 16, 71, .ref td)]) [0, 1, 2, 3, 4, 5, 6, 7, 8, 9, 10, 11, 12] rfl rfl (M1 := [(pool_21, 127, 3300, ca 1, f_mp_27), (nameTo_18, 121, 3100, ca 1, f_mt_26), (nameFrom_15, 120, 3100, ca 1, f_mf_25), (next_12, 119, 3100, ca 1, f_mx_24), (heir_9, 118, 3100, ca 1, f_mh_23), (sort_6, 117, 3100, ca 1, f_ms_22), (cs, 207, 2, ca 1, fs)]) [0, 1, 2, 3, 4, 5, 6] rfl rfl (I1 := [(jFs, jDY dC dI ca G0 none sn), (jF9, jVl dC dI G0 9 ck), ([(201, 0)], jQc dC dI (ca 4) dd 3 fd), ([(208, 0)], jQc dC dI (ca 4) co 2 fo)]) [0, 1, 2, 3] rfl rfl).more hb_375)
    clear hh_35 ht_37 hvm_37 hz_37 hk_37 hS_37 hb_371 hb_372 hb_373 hb_374 hb_375
    refine lv_iconst (v := 0) hx hb dX14_close_39 (by decide) ?_
    refine lv_istore_n (lv' := [(3, .int 0), (2, .ref ret_32), (0, .ref r0), (1, .int a1)]) hx hb dX14_close_40 rfl hl (by decide) rfl (fun ls hl => ?_)
    have L41 : ∀ (N : Nat) (v3_39 : Int32) (fo_39 : Nat → Option Nat) (H_39 : Heap) (locs_39 : List Loc), jSt (dC, dI) B base G0 G0 EX14_close s.heap 0 0 [(r0, 16, 27, .ref pool_21), (r0, 16, 21, .ref nameTo_18), (r0, 16, 20, .ref nameFrom_15), (r0, 16, 19, .ref next_12), (r0, 16, 18, .ref heir_9), (r0, 16, 17, .ref sort_6), (r0, 16, 41, .ref dd), (r0, 16, 42, .int dc), (r0, 16, 60, .ref co), (r0, 16, 61, .ref cs), (r0, 16, 46, .ref ol), (r0, 16, 47, .ref nw), (r0, 16, 71, .ref td)] [(pool_21, 127, 3300, ca 1, f_mp_27), (nameTo_18, 121, 3100, ca 1, f_mt_26), (nameFrom_15, 120, 3100, ca 1, f_mf_25), (next_12, 119, 3100, ca 1, f_mx_24), (heir_9, 118, 3100, ca 1, f_mh_23), (sort_6, 117, 3100, ca 1, f_ms_22), (cs, 207, 2, ca 1, fs)] [(jFs, jDY dC dI ca G0 none sn), (jF9, jVl dC dI G0 9 ck), ([(201, 0)], jQc dC dI (ca 4) dd 3 fd), ([(208, 0)], jQc dC dI (ca 4) co 2 fo_39)] H_39 locs_39 → (0 ≤ v3_39.toInt ∧ v3_39.toInt ≤ 2 ∧ jPu sn ck fd fo_39 fs dc.toInt ol nw td ∧ jNo fo_39 ret_32 v3_39.toInt) → (2 - v3_39.toInt : Int) < N → ∀ ls : Array Slot, lv_has ls 5 [(0, .ref r0), (1, .int a1), (2, .ref ret_32), (3, .int v3_39)] → W p l e R s m ([.ref r0, .int a1] : List Value).toArray below meth c H_39 locs_39 0 0 Q (F0 m 41 ls []) := by
      intro N
      induction N with
      | zero => intro v3_39 fo_39 H_39 locs_39 hh_39  hi_39 hm; exact absurd hm (by omega)
      | succ N L41 =>
        intro v3_39 fo_39 H_39 locs_39 hh_39  hi_39 hm_39 ls hl
        obtain ⟨hi_39_0, hi_39_1, hi_39_2, hi_39_3⟩ := hi_39
        refine lv_iload_n hx hb dX14_close_41 rfl (lv_at hl 3 rfl) ?_
        refine lv_iconst (v := 2) hx hb dX14_close_42 (by decide) ?_
        refine lv_icmp_ge (tgt := 69) hx hb dX14_close_43 (by decide) (fun c_40 => ?_) (fun c_40 => ?_)
        · skip
          have c_40' : v3_39.toInt ≥ 2 := jb_ge (rfl) ((by decide)) c_40
          refine lv_iconst (v := 0) hx hb dX14_close_69 (by decide) ?_
          refine lv_istore_n (lv' := [(3, .int 0), (0, .ref r0), (1, .int a1), (2, .ref ret_32)]) hx hb dX14_close_70 rfl hl (by decide) rfl (fun ls hl => ?_)
          have L71 : ∀ (N : Nat) (v3_41 : Int32) (H_41 : Heap) (locs_41 : List Loc), jSt (dC, dI) B base G0 G0 EX14_close s.heap 0 0 [(r0, 16, 27, .ref pool_21), (r0, 16, 21, .ref nameTo_18), (r0, 16, 20, .ref nameFrom_15), (r0, 16, 19, .ref next_12), (r0, 16, 18, .ref heir_9), (r0, 16, 17, .ref sort_6), (r0, 16, 41, .ref dd), (r0, 16, 42, .int dc), (r0, 16, 60, .ref co), (r0, 16, 61, .ref cs), (r0, 16, 46, .ref ol), (r0, 16, 47, .ref nw), (r0, 16, 71, .ref td)] [(pool_21, 127, 3300, ca 1, f_mp_27), (nameTo_18, 121, 3100, ca 1, f_mt_26), (nameFrom_15, 120, 3100, ca 1, f_mf_25), (next_12, 119, 3100, ca 1, f_mx_24), (heir_9, 118, 3100, ca 1, f_mh_23), (sort_6, 117, 3100, ca 1, f_ms_22), (cs, 207, 2, ca 1, fs)] [(jFs, jDY dC dI ca G0 none sn), (jF9, jVl dC dI G0 9 ck), ([(201, 0)], jQc dC dI (ca 4) dd 3 fd), ([(208, 0)], jQc dC dI (ca 4) co 2 fo_39)] H_41 locs_41 → (0 ≤ v3_41.toInt ∧ v3_41.toInt ≤ d0) → (d0 - v3_41.toInt : Int) < N → ∀ ls : Array Slot, lv_has ls 5 [(0, .ref r0), (1, .int a1), (2, .ref ret_32), (3, .int v3_41)] → W p l e R s m ([.ref r0, .int a1] : List Value).toArray below meth c H_41 locs_41 0 0 Q (F0 m 71 ls []) := by
            intro N
            induction N with
            | zero => intro v3_41 H_41 locs_41 hh_41  hi_41 hm; exact absurd hm (by omega)
            | succ N L71 =>
              intro v3_41 H_41 locs_41 hh_41  hi_41 hm_41 ls hl
              obtain ⟨hi_41_0, hi_41_1⟩ := hi_41
              refine lv_aload_n hx hb dX14_close_71 rfl (lv_at hl 0 rfl) ?_
              refine j7_read hx hb hown hK (C := RX14) (T := TX14) (N := 74) rfl hly_16_41 hlk_74 (hh_41.at 6 rfl) dX14_close_72 ?_
              refine lv_iload_n hx hb dX14_close_75 rfl (lv_at hl 3 rfl) ?_
              refine j7_qaldI hx hb hK2 hh_41 hB201 0 rfl (by decide) hg_dd (x := v3_41.toInt) (rfl) (by omega) (hh_41.iv 2 rfl) dX14_close_76 (fun o_42 ho_42 heo_42 => ?_)
              obtain ⟨el_43, rfl, hg_el_43⟩ := ho_42
              simp only [va_rf]
              refine lv_aload_n hx hb dX14_close_77 rfl (lv_at hl 2 rfl) ?_
              refine lv_acmp_eq (rx := (some el_43)) (ry := (some ret_32)) (tgt := 87) hx hb dX14_close_78 (by decide) (fun c_44 => ?_) (fun c_44 => ?_)
              · skip
                refine lv_iload_n hx hb dX14_close_87 rfl (lv_at hl 3 rfl) ?_
                refine lv_istore (lv' := [(4, .int v3_41), (0, .ref r0), (1, .int a1), (2, .ref ret_32), (3, .int v3_41)]) hx hb dX14_close_88 hl (by decide) rfl (fun ls hl => ?_)
                have L90 : ∀ (N : Nat) (v4_45 : Int32) (fd_45 : Nat → Option Nat) (H_45 : Heap) (locs_45 : List Loc), jSt (dC, dI) B base G0 G0 EX14_close s.heap 0 0 [(r0, 16, 27, .ref pool_21), (r0, 16, 21, .ref nameTo_18), (r0, 16, 20, .ref nameFrom_15), (r0, 16, 19, .ref next_12), (r0, 16, 18, .ref heir_9), (r0, 16, 17, .ref sort_6), (r0, 16, 41, .ref dd), (r0, 16, 42, .int dc), (r0, 16, 60, .ref co), (r0, 16, 61, .ref cs), (r0, 16, 46, .ref ol), (r0, 16, 47, .ref nw), (r0, 16, 71, .ref td)] [(pool_21, 127, 3300, ca 1, f_mp_27), (nameTo_18, 121, 3100, ca 1, f_mt_26), (nameFrom_15, 120, 3100, ca 1, f_mf_25), (next_12, 119, 3100, ca 1, f_mx_24), (heir_9, 118, 3100, ca 1, f_mh_23), (sort_6, 117, 3100, ca 1, f_ms_22), (cs, 207, 2, ca 1, fs)] [(jFs, jDY dC dI ca G0 none sn), (jF9, jVl dC dI G0 9 ck), ([(201, 0)], jQc dC dI (ca 4) dd 3 fd_45), ([(208, 0)], jQc dC dI (ca 4) co 2 fo_39)] H_45 locs_45 → (v3_41.toInt ≤ v4_45.toInt ∧ v4_45.toInt < dc.toInt ∧ jSh fdz fd_45 v3_41.toInt v4_45.toInt) → (dc.toInt - v4_45.toInt : Int) < N → ∀ ls : Array Slot, lv_has ls 5 [(0, .ref r0), (1, .int a1), (2, .ref ret_32), (3, .int v3_41), (4, .int v4_45)] → W p l e R s m ([.ref r0, .int a1] : List Value).toArray below meth c H_45 locs_45 0 0 Q (F0 m 90 ls []) := by
                  intro N
                  induction N with
                  | zero => intro v4_45 fd_45 H_45 locs_45 hh_45  hi_45 hm; exact absurd hm (by omega)
                  | succ N L90 =>
                    intro v4_45 fd_45 H_45 locs_45 hh_45  hi_45 hm_45 ls hl
                    obtain ⟨hi_45_0, hi_45_1, hi_45_2⟩ := hi_45
                    refine lv_iload hx hb dX14_close_90 (lv_at hl 4 rfl) ?_
                    refine lv_iconst (v := 1) hx hb dX14_close_92 (by decide) ?_
                    refine lv_iadd hx hb dX14_close_93 ?_
                    refine lv_topi (fun z_46 ez_46 => ?_)
                    have hz_46 : z_46.toInt = v4_45.toInt + 1 := by rw [ez_46]; exact jb_iadd2 (rfl) ((by decide)) (by omega)
                    refine lv_aload_n hx hb dX14_close_94 rfl (lv_at hl 0 rfl) ?_
                    refine j7_read hx hb hown hK (C := RX14) (T := TX14) (N := 74) rfl hly_16_42 hlk_505 (hh_45.at 7 rfl) dX14_close_95 ?_
                    refine lv_icmp_ge (tgt := 123) hx hb dX14_close_98 (by decide) (fun c_47 => ?_) (fun c_47 => ?_)
                    · skip
                      have c_47' : z_46.toInt ≥ dc.toInt := jb_ge (rfl) (rfl) c_47
                      refine lv_aload_n hx hb dX14_close_123 rfl (lv_at hl 0 rfl) ?_
                      refine j7_read hx hb hown hK (C := RX14) (T := TX14) (N := 74) rfl hly_16_41 hlk_74 (hh_45.at 6 rfl) dX14_close_124 ?_
                      refine lv_aload_n hx hb dX14_close_127 rfl (lv_at hl 0 rfl) ?_
                      refine j7_read hx hb hown hK (C := RX14) (T := TX14) (N := 74) rfl hly_16_42 hlk_505 (hh_45.at 7 rfl) dX14_close_128 ?_
                      refine lv_iconst (v := 1) hx hb dX14_close_131 (by decide) ?_
                      refine lv_isub hx hb dX14_close_132 ?_
                      refine lv_topi (fun z_48 ez_48 => ?_)
                      have hz_48 : z_48.toInt = dc.toInt - 1 := by rw [ez_48]; exact jb_isub2 (rfl) ((by decide)) (by omega)
                      refine lv_aload_n hx hb dX14_close_133 rfl (lv_at hl 2 rfl) ?_
                      have hd_50 := hh_45.iv 2 rfl
                      have hh_52 := hh_45.sub (L1 := [(r0, 16, 27, .ref pool_21), (r0, 16, 21, .ref nameTo_18), (r0, 16, 20, .ref nameFrom_15), (r0, 16, 19, .ref next_12), (r0, 16, 18, .ref heir_9), (r0, 16, 17, .ref sort_6), (r0, 16, 41, .ref dd), (r0, 16, 42, .int dc), (r0, 16, 60, .ref co), (r0, 16, 61, .ref cs), (r0, 16, 46, .ref ol), (r0, 16, 47, .ref nw), (r0, 16, 71, .ref td)]) [0, 1, 2, 3, 4, 5, 6, 7, 8, 9, 10, 11, 12] rfl (M1 := [(pool_21, 127, 3300, ca 1, f_mp_27), (nameTo_18, 121, 3100, ca 1, f_mt_26), (nameFrom_15, 120, 3100, ca 1, f_mf_25), (next_12, 119, 3100, ca 1, f_mx_24), (heir_9, 118, 3100, ca 1, f_mh_23), (sort_6, 117, 3100, ca 1, f_ms_22), (cs, 207, 2, ca 1, fs)]) [0, 1, 2, 3, 4, 5, 6] rfl (I1 := [(jFs, jDY dC dI ca G0 none sn), (jF9, jVl dC dI G0 9 ck), ([(208, 0)], jQc dC dI (ca 4) co 2 fo_39)]) [0, 1, 3] rfl
                      clear hh_45
                      refine j7_qastI hx hb hK2 hh_52 hB hB201 0 rfl (by decide) (by decide) rfl rfl rfl hg_dd (x := z_48.toInt) (rfl) (by omega) hB14 (T := TX12) (N := 11) rfl (by decide) hg_ret_32 (⟨_, rfl, hg_ret_32⟩) hd_50 dX14_close_134 (fun H_49 locs_49 fq_51 hv_49 ho_49 hq_49 hh_49 => ?_)
                      clear hh_52
                      have hh_53 := hh_49.addI (hq_49.ie hg_dd (by decide) (by decide))
                      clear hh_49
                      clear hd_50
                      refine lv_aload_n hx hb dX14_close_135 rfl (lv_at hl 0 rfl) ?_
                      refine lv_dup hx hb dX14_close_136 rfl ?_
                      refine j7_read hx hb hown hK (C := RX14) (T := TX14) (N := 74) rfl hly_16_42 hlk_505 (hh_53.at 7 rfl) dX14_close_137 ?_
                      refine lv_iconst (v := 1) hx hb dX14_close_140 (by decide) ?_
                      refine lv_isub hx hb dX14_close_141 ?_
                      refine lv_topi (fun z_54 ez_54 => ?_)
                      have hz_54 : z_54.toInt = dc.toInt - 1 := by rw [ez_54]; exact jb_isub2 (rfl) ((by decide)) (by omega)
                      refine j7_put hx hb hown hK hh_53 hB hAp hB16 (C := RX14) (T := TX14) (N := 74) rfl (by decide) hg_r0 (i := 42) (by decide) hly_16_42 rfl hlk_505 rfl (ty := .int) (v := .int z_54) (by decide +kernel) rfl rfl (⟨_, rfl, by omega, by omega⟩) rfl (L1 := [(r0, 16, 27, .ref pool_21), (r0, 16, 21, .ref nameTo_18), (r0, 16, 20, .ref nameFrom_15), (r0, 16, 19, .ref next_12), (r0, 16, 18, .ref heir_9), (r0, 16, 17, .ref sort_6), (r0, 16, 41, .ref dd), (r0, 16, 60, .ref co), (r0, 16, 61, .ref cs), (r0, 16, 46, .ref ol), (r0, 16, 47, .ref nw), (r0, 16, 71, .ref td)]) [0, 1, 2, 3, 4, 5, 6, 8, 9, 10, 11, 12] rfl rfl rfl dX14_close_142 (fun H_55 locs_55 hh_55 => ?_)
                      clear hh_53
                      rw [hQ]
                      exact W.vret hx hb hr (fun t ht hW => ⟨⟨(), rfl, trivial, ⟨hh_55.rt (M1 := []) [] rfl ht, by rw [ht]; exact ⟨sn, ck, fs, fq_51, fo_39, z_54, hh_55.2.2.1.sub (L1 := [(r0, 16, 41, .ref dd), (r0, 16, 42, .int z_54), (r0, 16, 60, .ref co), (r0, 16, 61, .ref cs), (r0, 16, 46, .ref ol), (r0, 16, 47, .ref nw), (r0, 16, 71, .ref td)]) [7, 0, 8, 9, 10, 11, 12] rfl, hh_55.2.2.2.2.2.2.2.1.sub (L1 := [(cs, 207, 2, ca 1, fs)]) [6] rfl, hh_55.2.2.2.2.2.2.2.2.sub (L1 := [(jFs, jDY dC dI ca G0 none sn), (jF9, jVl dC dI G0 9 ck), ([(201, 0)], jQc dC dI (ca 4) dd 3 fq_51), ([(208, 0)], jQc dC dI (ca 4) co 2 fo_39)]) [1, 2, 0, 3] rfl, (jPu.cls (by rw [hfdz]; exact hi_39_2) (by rw [show (2 : Int) = v3_39.toInt by omega]; exact hi_39_3) hi_45_2 (by omega) (by omega) (by omega) (by rw [hfdz]; exact heo_42.symm.trans (by assumption)) (by omega) (by omega) hv_49 ho_49 (by omega))⟩⟩⟩, by rw [ht]; try exact hh_55.1.1, fun q h9 hq => by rw [ht]; try exact hh_55.1.2.1 q h9 hq⟩) hh_55.1.2.2 dX14_close_145
                    · skip
                      have c_47' : z_46.toInt < dc.toInt := jb_ge_n (rfl) (rfl) c_47
                      refine lv_aload_n hx hb dX14_close_101 rfl (lv_at hl 0 rfl) ?_
                      refine j7_read hx hb hown hK (C := RX14) (T := TX14) (N := 74) rfl hly_16_41 hlk_74 (hh_45.at 6 rfl) dX14_close_102 ?_
                      refine lv_iload hx hb dX14_close_105 (lv_at hl 4 rfl) ?_
                      refine lv_aload_n hx hb dX14_close_107 rfl (lv_at hl 0 rfl) ?_
                      refine j7_read hx hb hown hK (C := RX14) (T := TX14) (N := 74) rfl hly_16_41 hlk_74 (hh_45.at 6 rfl) dX14_close_108 ?_
                      refine lv_iload hx hb dX14_close_111 (lv_at hl 4 rfl) ?_
                      refine lv_iconst (v := 1) hx hb dX14_close_113 (by decide) ?_
                      refine lv_iadd hx hb dX14_close_114 ?_
                      refine lv_topi (fun z_56 ez_56 => ?_)
                      have hz_56 : z_56.toInt = v4_45.toInt + 1 := by rw [ez_56]; exact jb_iadd2 (rfl) ((by decide)) (by omega)
                      refine j7_qaldI hx hb hK2 hh_45 hB201 0 rfl (by decide) hg_dd (x := z_56.toInt) (rfl) (by omega) (hh_45.iv 2 rfl) dX14_close_115 (fun o_57 ho_57 heo_57 => ?_)
                      rw [show z_56.toInt = (v4_45.toInt + 1) by omega] at heo_57
                      obtain ⟨el_58, rfl, hg_el_58⟩ := ho_57
                      simp only [va_rf]
                      have hd_60 := hh_45.iv 2 rfl
                      have hh_62 := hh_45.sub (L1 := [(r0, 16, 27, .ref pool_21), (r0, 16, 21, .ref nameTo_18), (r0, 16, 20, .ref nameFrom_15), (r0, 16, 19, .ref next_12), (r0, 16, 18, .ref heir_9), (r0, 16, 17, .ref sort_6), (r0, 16, 41, .ref dd), (r0, 16, 42, .int dc), (r0, 16, 60, .ref co), (r0, 16, 61, .ref cs), (r0, 16, 46, .ref ol), (r0, 16, 47, .ref nw), (r0, 16, 71, .ref td)]) [0, 1, 2, 3, 4, 5, 6, 7, 8, 9, 10, 11, 12] rfl (M1 := [(pool_21, 127, 3300, ca 1, f_mp_27), (nameTo_18, 121, 3100, ca 1, f_mt_26), (nameFrom_15, 120, 3100, ca 1, f_mf_25), (next_12, 119, 3100, ca 1, f_mx_24), (heir_9, 118, 3100, ca 1, f_mh_23), (sort_6, 117, 3100, ca 1, f_ms_22), (cs, 207, 2, ca 1, fs)]) [0, 1, 2, 3, 4, 5, 6] rfl (I1 := [(jFs, jDY dC dI ca G0 none sn), (jF9, jVl dC dI G0 9 ck), ([(208, 0)], jQc dC dI (ca 4) co 2 fo_39)]) [0, 1, 3] rfl
                      clear hh_45
                      refine j7_qastI hx hb hK2 hh_62 hB hB201 0 rfl (by decide) (by decide) rfl rfl rfl hg_dd (x := v4_45.toInt) (rfl) (by omega) hB14 (T := TX12) (N := 11) rfl (by decide) hg_el_58 (⟨_, rfl, hg_el_58⟩) hd_60 dX14_close_116 (fun H_59 locs_59 fq_61 hv_59 ho_59 hq_59 hh_59 => ?_)
                      clear hh_62
                      have hh_63 := hh_59.addI (hq_59.ie hg_dd (by decide) (by decide))
                      clear hh_59
                      clear hd_60
                      obtain ⟨z_64, ez_64⟩ : ∃ y : Int32, y = v4_45 + 1 := ⟨_, rfl⟩
                      refine lv_iinc (v := z_64) (lv' := [(4, .int z_64), (0, .ref r0), (1, .int a1), (2, .ref ret_32), (3, .int v3_41)]) hx hb dX14_close_117 hl (k := 4) rfl (by rw [ez_64]; rfl) (by decide) rfl (fun ls hl => ?_)
                      have hz_64 : z_64.toInt = v4_45.toInt + 1 := by rw [ez_64]; exact jb_iadd2 (rfl) (by decide) (by omega)
                      refine lv_goto (tgt := 90) hx hb dX14_close_120 (by decide) ?_
                      exact L90 z_64 fq_61 _ _ (hh_63.sub (L1 := [(r0, 16, 27, .ref pool_21), (r0, 16, 21, .ref nameTo_18), (r0, 16, 20, .ref nameFrom_15), (r0, 16, 19, .ref next_12), (r0, 16, 18, .ref heir_9), (r0, 16, 17, .ref sort_6), (r0, 16, 41, .ref dd), (r0, 16, 42, .int dc), (r0, 16, 60, .ref co), (r0, 16, 61, .ref cs), (r0, 16, 46, .ref ol), (r0, 16, 47, .ref nw), (r0, 16, 71, .ref td)]) [0, 1, 2, 3, 4, 5, 6, 7, 8, 9, 10, 11, 12] rfl (M1 := [(pool_21, 127, 3300, ca 1, f_mp_27), (nameTo_18, 121, 3100, ca 1, f_mt_26), (nameFrom_15, 120, 3100, ca 1, f_mf_25), (next_12, 119, 3100, ca 1, f_mx_24), (heir_9, 118, 3100, ca 1, f_mh_23), (sort_6, 117, 3100, ca 1, f_ms_22), (cs, 207, 2, ca 1, fs)]) [0, 1, 2, 3, 4, 5, 6] rfl (I1 := [(jFs, jDY dC dI ca G0 none sn), (jF9, jVl dC dI G0 9 ck), ([(201, 0)], jQc dC dI (ca 4) dd 3 fq_61), ([(208, 0)], jQc dC dI (ca 4) co 2 fo_39)]) [1, 2, 0, 3] rfl) (by refine ⟨by omega, by omega, ?_⟩; exact hi_45_2.step (by omega) (by omega) (by omega) heo_57 hv_59 ho_59 (by omega)) (by omega) _ (lv_sub hl [1, 2, 3, 4, 0] rfl)
                exact L90 (dc.toInt - (v3_41 : Int32).toInt : Int).toNat.succ v3_41 fd _ _ hh_41 (by refine ⟨by omega, by omega, ?_⟩; rw [hfdz]; exact jSh.nil _ _) (by omega) _ (lv_sub hl [1, 2, 3, 4, 0] rfl)
              · skip
                have hne : v3_41.toInt ≠ (d0 : Int) := by intro q; have h9 := heo_42; rw [show (v3_41.toInt).toNat = d0 by omega, hd2] at h9; contradiction
                obtain ⟨z_65, ez_65⟩ : ∃ y : Int32, y = v3_41 + 1 := ⟨_, rfl⟩
                refine lv_iinc (v := z_65) (lv' := [(3, .int z_65), (0, .ref r0), (1, .int a1), (2, .ref ret_32)]) hx hb dX14_close_81 hl (k := 3) rfl (by rw [ez_65]; rfl) (by decide) rfl (fun ls hl => ?_)
                have hz_65 : z_65.toInt = v3_41.toInt + 1 := by rw [ez_65]; exact jb_iadd2 (rfl) (by decide) (by omega)
                refine lv_goto (tgt := 71) hx hb dX14_close_84 (by decide) ?_
                exact L71 z_65 _ _ hh_41 (by first | omega | (refine ⟨?_, ?_⟩ <;> (first | omega | rfl | assumption | decide | exact Or.inl rfl | exact Or.inr rfl | (simp only; omega)))) (by omega) _ (lv_sub hl [1, 2, 3, 0] rfl)
          exact L71 (d0 - (0 : Int32).toInt : Int).toNat.succ 0 _ _ hh_39 (by first | omega | (refine ⟨?_, ?_⟩ <;> (first | omega | rfl | assumption | decide | exact Or.inl rfl | exact Or.inr rfl | (simp only; omega)))) (by omega) _ (lv_sub hl [1, 2, 3, 0] rfl)
        · skip
          have c_40' : v3_39.toInt < 2 := jb_ge_n (rfl) ((by decide)) c_40
          refine lv_aload_n hx hb dX14_close_46 rfl (lv_at hl 0 rfl) ?_
          refine j7_read hx hb hown hK (C := RX14) (T := TX14) (N := 74) rfl hly_16_60 hlk_129 (hh_39.at 8 rfl) dX14_close_47 ?_
          refine lv_iload_n hx hb dX14_close_50 rfl (lv_at hl 3 rfl) ?_
          refine j7_qaldI hx hb hK2 hh_39 hB208 0 rfl (by decide) hg_co (x := v3_39.toInt) (rfl) (by omega) (hh_39.iv 3 rfl) dX14_close_51 (fun o_66 ho_66 heo_66 => ?_)
          rcases ho_66 with rfl | ⟨el_67, rfl, hg_el_67⟩
          · simp only [va_rf]
            refine lv_aload_n hx hb dX14_close_52 rfl (lv_at hl 2 rfl) ?_
            refine lv_acmp_ne (rx := none) (ry := (some ret_32)) (tgt := 63) hx hb dX14_close_53 (by decide) (fun c_68 => ?_) (fun c_68 => ?_)
            · skip
              obtain ⟨z_69, ez_69⟩ : ∃ y : Int32, y = v3_39 + 1 := ⟨_, rfl⟩
              refine lv_iinc (v := z_69) (lv' := [(3, .int z_69), (0, .ref r0), (1, .int a1), (2, .ref ret_32)]) hx hb dX14_close_63 hl (k := 3) rfl (by rw [ez_69]; rfl) (by decide) rfl (fun ls hl => ?_)
              have hz_69 : z_69.toInt = v3_39.toInt + 1 := by rw [ez_69]; exact jb_iadd2 (rfl) (by decide) (by omega)
              refine lv_goto (tgt := 41) hx hb dX14_close_66 (by decide) ?_
              exact L41 z_69 fo_39 _ _ hh_39 (by refine ⟨by omega, by omega, ?_, ?_⟩; (first | assumption | exact hi_39_2.drop (zz_none) (zz_none)); (first | exact hi_39_3.null (w := v3_39.toInt.toNat) (zz_none) (zz_none) (by omega) (by omega) (by omega) | exact hi_39_3.keep (w := v3_39.toInt.toNat) (by rw [← heo_66]; first | assumption | exact (fun q => nomatch q)) (by omega) (by omega))) (by omega) _ (lv_sub hl [1, 2, 3, 0] rfl)
            · skip
              cases c_68
          · simp only [va_rf]
            refine lv_aload_n hx hb dX14_close_52 rfl (lv_at hl 2 rfl) ?_
            refine lv_acmp_ne (rx := (some el_67)) (ry := (some ret_32)) (tgt := 63) hx hb dX14_close_53 (by decide) (fun c_70 => ?_) (fun c_70 => ?_)
            · skip
              obtain ⟨z_71, ez_71⟩ : ∃ y : Int32, y = v3_39 + 1 := ⟨_, rfl⟩
              refine lv_iinc (v := z_71) (lv' := [(3, .int z_71), (0, .ref r0), (1, .int a1), (2, .ref ret_32)]) hx hb dX14_close_63 hl (k := 3) rfl (by rw [ez_71]; rfl) (by decide) rfl (fun ls hl => ?_)
              have hz_71 : z_71.toInt = v3_39.toInt + 1 := by rw [ez_71]; exact jb_iadd2 (rfl) (by decide) (by omega)
              refine lv_goto (tgt := 41) hx hb dX14_close_66 (by decide) ?_
              exact L41 z_71 fo_39 _ _ hh_39 (by refine ⟨by omega, by omega, ?_, ?_⟩; (first | assumption | exact hi_39_2.drop (zz_none) (zz_none)); (first | exact hi_39_3.null (w := v3_39.toInt.toNat) (zz_none) (zz_none) (by omega) (by omega) (by omega) | exact hi_39_3.keep (w := v3_39.toInt.toNat) (by rw [← heo_66]; first | assumption | exact (fun q => nomatch q)) (by omega) (by omega))) (by omega) _ (lv_sub hl [1, 2, 3, 0] rfl)
            · skip
              refine lv_aload_n hx hb dX14_close_56 rfl (lv_at hl 0 rfl) ?_
              refine j7_read hx hb hown hK (C := RX14) (T := TX14) (N := 74) rfl hly_16_60 hlk_129 (hh_39.at 8 rfl) dX14_close_57 ?_
              refine lv_iload_n hx hb dX14_close_60 rfl (lv_at hl 3 rfl) ?_
              refine lv_null hx hb dX14_close_61 ?_
              have hd_73 := hh_39.iv 3 rfl
              have hh_75 := hh_39.sub (L1 := [(r0, 16, 27, .ref pool_21), (r0, 16, 21, .ref nameTo_18), (r0, 16, 20, .ref nameFrom_15), (r0, 16, 19, .ref next_12), (r0, 16, 18, .ref heir_9), (r0, 16, 17, .ref sort_6), (r0, 16, 41, .ref dd), (r0, 16, 42, .int dc), (r0, 16, 60, .ref co), (r0, 16, 61, .ref cs), (r0, 16, 46, .ref ol), (r0, 16, 47, .ref nw), (r0, 16, 71, .ref td)]) [0, 1, 2, 3, 4, 5, 6, 7, 8, 9, 10, 11, 12] rfl (M1 := [(pool_21, 127, 3300, ca 1, f_mp_27), (nameTo_18, 121, 3100, ca 1, f_mt_26), (nameFrom_15, 120, 3100, ca 1, f_mf_25), (next_12, 119, 3100, ca 1, f_mx_24), (heir_9, 118, 3100, ca 1, f_mh_23), (sort_6, 117, 3100, ca 1, f_ms_22), (cs, 207, 2, ca 1, fs)]) [0, 1, 2, 3, 4, 5, 6] rfl (I1 := [(jFs, jDY dC dI ca G0 none sn), (jF9, jVl dC dI G0 9 ck), ([(201, 0)], jQc dC dI (ca 4) dd 3 fd)]) [0, 1, 2] rfl
              clear hh_39
              refine j7_qastNI hx hb hK2 hh_75 hB hB208 0 rfl (by decide) (by decide) rfl rfl rfl hg_co (x := v3_39.toInt) (rfl) (by omega) (Or.inl rfl) hd_73 dX14_close_62 (fun H_72 locs_72 fq_74 hv_72 ho_72 hq_72 hh_72 => ?_)
              clear hh_75
              have hh_76 := hh_72.addI (hq_72.ie hg_co (by decide) (by decide))
              clear hh_72
              clear hd_73
              obtain ⟨z_77, ez_77⟩ : ∃ y : Int32, y = v3_39 + 1 := ⟨_, rfl⟩
              refine lv_iinc (v := z_77) (lv' := [(3, .int z_77), (0, .ref r0), (1, .int a1), (2, .ref ret_32)]) hx hb dX14_close_63 hl (k := 3) rfl (by rw [ez_77]; rfl) (by decide) rfl (fun ls hl => ?_)
              have hz_77 : z_77.toInt = v3_39.toInt + 1 := by rw [ez_77]; exact jb_iadd2 (rfl) (by decide) (by omega)
              refine lv_goto (tgt := 41) hx hb dX14_close_66 (by decide) ?_
              exact L41 z_77 fq_74 _ _ (hh_76.sub (L1 := [(r0, 16, 27, .ref pool_21), (r0, 16, 21, .ref nameTo_18), (r0, 16, 20, .ref nameFrom_15), (r0, 16, 19, .ref next_12), (r0, 16, 18, .ref heir_9), (r0, 16, 17, .ref sort_6), (r0, 16, 41, .ref dd), (r0, 16, 42, .int dc), (r0, 16, 60, .ref co), (r0, 16, 61, .ref cs), (r0, 16, 46, .ref ol), (r0, 16, 47, .ref nw), (r0, 16, 71, .ref td)]) [0, 1, 2, 3, 4, 5, 6, 7, 8, 9, 10, 11, 12] rfl (M1 := [(pool_21, 127, 3300, ca 1, f_mp_27), (nameTo_18, 121, 3100, ca 1, f_mt_26), (nameFrom_15, 120, 3100, ca 1, f_mf_25), (next_12, 119, 3100, ca 1, f_mx_24), (heir_9, 118, 3100, ca 1, f_mh_23), (sort_6, 117, 3100, ca 1, f_ms_22), (cs, 207, 2, ca 1, fs)]) [0, 1, 2, 3, 4, 5, 6] rfl (I1 := [(jFs, jDY dC dI ca G0 none sn), (jF9, jVl dC dI G0 9 ck), ([(201, 0)], jQc dC dI (ca 4) dd 3 fd), ([(208, 0)], jQc dC dI (ca 4) co 2 fq_74)]) [1, 2, 3, 0] rfl) (by refine ⟨by omega, by omega, ?_, ?_⟩; (first | assumption | exact hi_39_2.drop hv_72 ho_72); (first | exact hi_39_3.null (w := v3_39.toInt.toNat) hv_72 ho_72 (by omega) (by omega) (by omega) | exact hi_39_3.keep (w := v3_39.toInt.toNat) (by rw [← heo_66]; first | assumption | exact (fun q => nomatch q)) (by omega) (by omega))) (by omega) _ (lv_sub hl [1, 2, 3, 0] rfl)
    exact L41 (2 - (0 : Int32).toInt : Int).toNat.succ 0 fo _ _ hh_37 (by refine ⟨by omega, by omega, by assumption, ?_⟩; rw [hk0]; exact fun w h => by omega) (by omega) _ (lv_sub hl [2, 3, 1, 0] rfl)
