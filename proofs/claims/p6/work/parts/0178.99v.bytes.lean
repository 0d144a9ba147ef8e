section
theorem jBr.mk6 {n m x : Nat} {G : jT} (hn : n ≠ 4000) (hg : G x = some (196, m)) (h1 : 16 ≤ m) (h2 : m ≤ 1048576) (h3 : n = 0 → jPw m) (h4 : n = 0 ∨ m = n) : jBr n G (.ref x) := ⟨x, m, rfl, by rw [jBkd, if_neg hn]; exact hg, h1, h2, h3, h4⟩
end
section
-- new objects: raw while they are made, typed when they are whole
section J20
variable {p : Program} {l : Launch} {e : Env} {R : Room} {s : State} {m : MethodId} {args : Array Value} {below : List Frame} {meth : Method} {c : Code} {H : Heap} {locs : List Loc} {cells slots : Nat} {Q : State → Prop}
variable {cc : ByteArray} {pc : Nat} {ls : Array Slot} {rest : List Value} {dC : Nat → ClassId} {dI : Nat → Nat → Nat} {ca : Nat → ClassId} {B : jF} {base : Nat} {G0 G : jT} {E : List (Nat × Nat)} {H0 : Heap} {zc zs : Nat} {L : List jPin} {M : List jCt} {I : List jIv} {a k n i index N : Nat} {tys : List (ClassId × FieldType)} {own C : String} {T : u_T} {fs : List Value}
/-- an array of longs -/
theorem j7_newlK {cA : ClassId} (hexec : p.tables.exec = Jvm.exec) (hb : c.code = cc) (hK : va_K (dC, dI) vwCl tys s) (hh : jSt (dC, dI) B base G0 G E s.heap zc zs L M I H locs) (hB : jBok B) (harr : (Cond.arrayClass .long).before args s = true) (hra : ∀ cA, va_RA s cA .long → s.vm.findClass ("[" ++ FieldType.long.toString) = some cA) (hBk : ∀ n G a H, B k n G a H ↔ jAl (dC, dI) cA n a H) (t0 : Nat) (ht : tys[t0]? = some (cA, .long)) (hk : k < 1000) (hb0 : base ≤ s.heap.size) {z : Int32} {x : Int} (hi : z.toInt = x) (h0 : 0 ≤ x ∧ x ≤ 200000) (hR : zc + 1 ≤ R.cells) (hR2 : zs + x.toNat ≤ R.slots) (hdg : decode cc pc = .ok (.newarray .long, 2))
    (kk : ∀ (H1 : Heap), (∀ q, q < H.size → H1[q]? = H[q]?) → jSt (dC, dI) B base G0 (va_up G H.size (some (k, x.toNat))) E s.heap (zc + 1) (zs + x.toNat) L M I H1 locs → W p l e R s m args below meth c H1 locs (zc + 1) (zs + x.toNat) Q (F0 m (pc + 2) ls (.ref H.size :: rest))) : W p l e R s m args below meth c H locs cells slots Q (F0 m pc ls (.int z :: rest)) := by
  have hn0 : ¬ z < 0 := jb_n0 hi h0.1
  have hcl : z.toNatClampNeg = x.toNat := jb_cl hi h0.1
  have hsz := hh.1.1
  have h8 : componentBytes FieldType.long ≤ 8 := by decide
  have hmu : x.toNat * componentBytes FieldType.long ≤ 200000 * 8 := Nat.mul_le_mul (by omega) h8
  refine W.tight (c2 := zc) (n2 := zs) hh.2.2.2.2.2.1 hh.2.2.2.2.2.2.1 ?_
  refine va_newaK (atype := .long) hexec hb harr rfl hdg rfl hn0 hcl (Nat.le_trans hmu (by decide)) hR hR2 rfl fun H1 cB e1 z1 o1 hAr hNm => ?_
  have hc : cB = cA := Option.some.inj (hNm.symm.trans (hra _ (hK.2 t0 _ ht).2))
  subst hc
  refine kk H1 o1 (hh.new hB (Nat.le_trans hb0 hsz) z1 o1 (by rw [jTot_push z1 e1 o1, arrV_size]) hk ((hBk _ _ _ _).mpr ⟨fun _ => 0, ?_⟩))
  show H1[H.size]? = some (vp_cell _ _)
  rw [e1]; rfl
end J20
-- all growing Bytes hold no more than they have room for
end
section
theorem dX2_init_0 : decode cX2_init 0 = .ok (.aload_n 0, 1) := by decide +kernel
theorem dX2_init_1 : decode cX2_init 1 = .ok (.invokespecial 3, 3) := by decide +kernel
theorem dX2_init_4 : decode cX2_init 4 = .ok (.aload_n 0, 1) := by decide +kernel
theorem dX2_init_5 : decode cX2_init 5 = .ok (.sipush 3000, 3) := by decide +kernel
theorem dX2_init_8 : decode cX2_init 8 = .ok (.newarray .byte, 2) := by decide +kernel
theorem dX2_init_10 : decode cX2_init 10 = .ok (.putfield 9, 3) := by decide +kernel
theorem dX2_init_13 : decode cX2_init 13 = .ok (.aload_n 0, 1) := by decide +kernel
theorem dX2_init_14 : decode cX2_init 14 = .ok (.iconst 0, 1) := by decide +kernel
theorem dX2_init_15 : decode cX2_init 15 = .ok (.putfield 15, 3) := by decide +kernel
theorem dX2_init_18 : decode cX2_init 18 = .ok (.aload_n 0, 1) := by decide +kernel
theorem dX2_init_19 : decode cX2_init 19 = .ok (.iconst (-1), 1) := by decide +kernel
theorem dX2_init_20 : decode cX2_init 20 = .ok (.putfield 19, 3) := by decide +kernel
theorem dX2_init_23 : decode cX2_init 23 = .ok (.return_, 1) := by decide +kernel
theorem dX4_init_0 : decode cX4_init 0 = .ok (.aload_n 0, 1) := by decide +kernel
theorem dX4_init_1 : decode cX4_init 1 = .ok (.invokespecial 3, 3) := by decide +kernel
theorem dX4_init_4 : decode cX4_init 4 = .ok (.aload_n 0, 1) := by decide +kernel
theorem dX4_init_5 : decode cX4_init 5 = .ok (.sipush 1502, 3) := by decide +kernel
theorem dX4_init_8 : decode cX4_init 8 = .ok (.newarray .int, 2) := by decide +kernel
theorem dX4_init_10 : decode cX4_init 10 = .ok (.putfield 11, 3) := by decide +kernel
theorem dX4_init_13 : decode cX4_init 13 = .ok (.aload_n 0, 1) := by decide +kernel
theorem dX4_init_14 : decode cX4_init 14 = .ok (.sipush 1502, 3) := by decide +kernel
theorem dX4_init_17 : decode cX4_init 17 = .ok (.newarray .int, 2) := by decide +kernel
theorem dX4_init_19 : decode cX4_init 19 = .ok (.putfield 15, 3) := by decide +kernel
theorem dX4_init_22 : decode cX4_init 22 = .ok (.aload_n 0, 1) := by decide +kernel
theorem dX4_init_23 : decode cX4_init 23 = .ok (.sipush 1502, 3) := by decide +kernel
theorem dX4_init_26 : decode cX4_init 26 = .ok (.newarray .int, 2) := by decide +kernel
theorem dX4_init_28 : decode cX4_init 28 = .ok (.putfield 18, 3) := by decide +kernel
theorem dX4_init_31 : decode cX4_init 31 = .ok (.aload_n 0, 1) := by decide +kernel
theorem dX4_init_32 : decode cX4_init 32 = .ok (.sipush 1502, 3) := by decide +kernel
theorem dX4_init_35 : decode cX4_init 35 = .ok (.newarray .int, 2) := by decide +kernel
theorem dX4_init_37 : decode cX4_init 37 = .ok (.putfield 21, 3) := by decide +kernel
theorem dX4_init_40 : decode cX4_init 40 = .ok (.aload_n 0, 1) := by decide +kernel
theorem dX4_init_41 : decode cX4_init 41 = .ok (.sipush 1502, 3) := by decide +kernel
theorem dX4_init_44 : decode cX4_init 44 = .ok (.newarray .int, 2) := by decide +kernel
theorem dX4_init_46 : decode cX4_init 46 = .ok (.putfield 24, 3) := by decide +kernel
theorem dX4_init_49 : decode cX4_init 49 = .ok (.aload_n 0, 1) := by decide +kernel
theorem dX4_init_50 : decode cX4_init 50 = .ok (.sipush 1502, 3) := by decide +kernel
theorem dX4_init_53 : decode cX4_init 53 = .ok (.newarray .int, 2) := by decide +kernel
theorem dX4_init_55 : decode cX4_init 55 = .ok (.putfield 27, 3) := by decide +kernel
theorem dX4_init_58 : decode cX4_init 58 = .ok (.aload_n 0, 1) := by decide +kernel
theorem dX4_init_59 : decode cX4_init 59 = .ok (.sipush 3000, 3) := by decide +kernel
theorem dX4_init_62 : decode cX4_init 62 = .ok (.newarray .int, 2) := by decide +kernel
theorem dX4_init_64 : decode cX4_init 64 = .ok (.putfield 30, 3) := by decide +kernel
theorem dX4_init_67 : decode cX4_init 67 = .ok (.aload_n 0, 1) := by decide +kernel
theorem dX4_init_68 : decode cX4_init 68 = .ok (.iconst 0, 1) := by decide +kernel
theorem dX4_init_69 : decode cX4_init 69 = .ok (.newarray .byte, 2) := by decide +kernel
theorem dX4_init_71 : decode cX4_init 71 = .ok (.putfield 33, 3) := by decide +kernel
theorem dX4_init_74 : decode cX4_init 74 = .ok (.return_, 1) := by decide +kernel
theorem dX7_init_0 : decode cX7_init 0 = .ok (.aload_n 0, 1) := by decide +kernel
theorem dX7_init_1 : decode cX7_init 1 = .ok (.invokespecial 3, 3) := by decide +kernel
theorem dX7_init_4 : decode cX7_init 4 = .ok (.aload_n 0, 1) := by decide +kernel
theorem dX7_init_5 : decode cX7_init 5 = .ok (.sipush 800, 3) := by decide +kernel
theorem dX7_init_8 : decode cX7_init 8 = .ok (.newarray .int, 2) := by decide +kernel
theorem dX7_init_10 : decode cX7_init 10 = .ok (.putfield 11, 3) := by decide +kernel
theorem dX7_init_13 : decode cX7_init 13 = .ok (.aload_n 0, 1) := by decide +kernel
theorem dX7_init_14 : decode cX7_init 14 = .ok (.bipush 13, 2) := by decide +kernel
theorem dX7_init_16 : decode cX7_init 16 = .ok (.newarray .int, 2) := by decide +kernel
theorem dX7_init_18 : decode cX7_init 18 = .ok (.putfield 15, 3) := by decide +kernel
theorem dX7_init_21 : decode cX7_init 21 = .ok (.aload_n 0, 1) := by decide +kernel
theorem dX7_init_22 : decode cX7_init 22 = .ok (.bipush 13, 2) := by decide +kernel
theorem dX7_init_24 : decode cX7_init 24 = .ok (.newarray .int, 2) := by decide +kernel
theorem dX7_init_26 : decode cX7_init 26 = .ok (.putfield 18, 3) := by decide +kernel
theorem dX7_init_29 : decode cX7_init 29 = .ok (.aload_n 0, 1) := by decide +kernel
theorem dX7_init_30 : decode cX7_init 30 = .ok (.aload_n 1, 1) := by decide +kernel
theorem dX7_init_31 : decode cX7_init 31 = .ok (.putfield 21, 3) := by decide +kernel
theorem dX7_init_34 : decode cX7_init 34 = .ok (.return_, 1) := by decide +kernel
def EX4_init : List (Nat × Nat) := []
def EX7_init : List (Nat × Nat) := []
set_option maxHeartbeats 4000000 in
set_option maxRecDepth 20000 in
theorem uX4_init (l : Launch) (dC : Nat → ClassId) (dI : Nat → Nat → Nat) (ca : Nat → ClassId) (base : Nat) (B : jF) (hB : jBok B) (hAp : jAp (dC, dI)) (hB6 : ∀ n G a H, B 6 n G a H ↔ jOb (dC, dI) 6 12 (F6 n G) a H) (hB100 : ∀ n G a H, B 100 n G a H ↔ jAr (dC, dI) (ca 0) (fun j z => True) n a H) (hB140 : ∀ n G a H, B 140 n G a H ↔ jAr (dC, dI) (ca 1) (fun j z => True) n a H) (hB141 : ∀ n G a H, B 141 n G a H ↔ jAr (dC, dI) (ca 1) (fun j z => True) n a H) (hB142 : ∀ n G a H, B 142 n G a H ↔ jAr (dC, dI) (ca 1) (fun j z => True) n a H) (hB143 : ∀ n G a H, B 143 n G a H ↔ jAr (dC, dI) (ca 1) (fun j z => True) n a H) (hB144 : ∀ n G a H, B 144 n G a H ↔ jAr (dC, dI) (ca 1) (fun j z => 0 ≤ z.toInt ∧ z.toInt ≤ 3000) n a H) (hB145 : ∀ n G a H, B 145 n G a H ↔ jAr (dC, dI) (ca 1) (fun j z => True) n a H) (hB146 : ∀ n G a H, B 146 n G a H ↔ jAr (dC, dI) (ca 1) (fun j z => True) n a H) (G0 : jT) (H0 : Heap) (r0 : Nat) (LC LS : Nat) : Met l yX4_init (jw yX4_init cX4_init 1 none) ({ frames := 1, cells := LC - H0.size, slots := LS - jTot H0, locals := 31 }) (va_Pc [.ref r0] (fun U => U.heap = H0 ∧ jX B base G0 [] H0 ∧ jG dC dI ca base U ∧ va_at (dC, dI) vwCl (r0, .inr (6, [.null, .null, .null, .null, .null, .null, .null, .int 0, .int 0, .null, .int 0, .int 0])) H0 ∧ (∀ t, G0 r0 ≠ some t) ∧ base ≤ r0 ∧ jP (dC, dI) G0 H0 [] ∧ H0.size + 8 ≤ LC ∧ jTot H0 + 12012 ≤ LS ∧ True)) (va_Qv (S := jT) (fun u => True) (fun u t => jRa (dC, dI) B base G0 u EX4_init H0 (8) (12012) [] t.heap ∧ (jNk [0, 1, 2, 3, 4, 5, 7, 8, 9, 10, 11, 12, 13, 14, 15, 16, 17, 175]) G0 u ∧ u r0 = some (6, 0) ∧ jKx r0 G0 u H0 t.heap) (jA base)) (LC - H0.size) (LS - jTot H0) (jA base) := by
  refine Met.ofW (cc := cX4_init) (maxL := 1) (ret := none) (by decide) rfl ?_
  intro p e s m args below meth c s₁ Bd hml hv
  obtain ⟨rfl, hH0, hX, hG, hraw0, hnr0, hbr0, hP0, hLC0, hLS0, hp0⟩ := hv
  have hK := hG.1
  have hx := Bd.exec
  have hb := Bd.bytes
  have hr := Bd.returns
  have hts := atoms_spec (ws := (jw yX4_init cX4_init 1 none)) Bd.pre
  have htw : ∀ w ∈ jWl, w.before _ s = true := fun w h => hts w (List.mem_cons_of_mem _ h)
  have hown : s.vm.findClass RX4 = some m.cls := findClass_of_methodNamed Bd.named
  have hlocks := Bd.notSynchronized
  obtain ⟨Q, hQ⟩ : ∃ Q, Q = MQ below (va_Qv (S := jT) (fun u => True) (fun u t => jRa (dC, dI) B base G0 u EX4_init H0 (8) (12012) [] t.heap ∧ (jNk [0, 1, 2, 3, 4, 5, 7, 8, 9, 10, 11, 12, 13, 14, 15, 16, 17, 175]) G0 u ∧ u r0 = some (6, 0) ∧ jKx r0 G0 u H0 t.heap) (jA base)) ([.ref r0] : List Value).toArray s (LC - H0.size) (LS - jTot H0) (jA base) := ⟨_, rfl⟩
  rw [← hQ]
  have hl := lv_entry ([.ref r0]) (n := 1) (Nat.le_of_ble_eq_true rfl)
  rw [lg_entry_eq]
  generalize (lg_sl ([.ref r0]) ++ List.replicate (1 - (lg_sl ([.ref r0])).length) Slot.unset).toArray = ls at hl ⊢
  have hl : lv_has ls 1 [(0, .ref r0)] := hl
  generalize hR : (headSpec (jw yX4_init cX4_init 1 none) ({ frames := 1, cells := LC - H0.size, slots := LS - jTot H0, locals := 31 })).room = R
  subst hH0
  have hh : jSt (dC, dI) B base G0 G0 EX4_init s.heap 0 0 [] [] [] s.heap [] := jSt.start hX hP0 jMc.nil jIs.nil
  clear hX hP0
  have hk0 : (0 : Int32).toInt = 0 := by decide
  have hk1 : (1 : Int32).toInt = 1 := by decide
  have hk1502 : (1502 : Int32).toInt = 1502 := by decide
  have hk3000 : (3000 : Int32).toInt = 3000 := by decide
  have hly_6_0 := htw (u_lay RX4 TX4 0) (jWc_wsX40 _ (u_in_lay (by decide)))
  have hly_6_1 := htw (u_lay RX4 TX4 1) (jWc_wsX40 _ (u_in_lay (by decide)))
  have hly_6_2 := htw (u_lay RX4 TX4 2) (jWc_wsX40 _ (u_in_lay (by decide)))
  have hly_6_3 := htw (u_lay RX4 TX4 3) (jWc_wsX40 _ (u_in_lay (by decide)))
  have hly_6_4 := htw (u_lay RX4 TX4 4) (jWc_wsX40 _ (u_in_lay (by decide)))
  have hly_6_5 := htw (u_lay RX4 TX4 5) (jWc_wsX40 _ (u_in_lay (by decide)))
  have hly_6_6 := htw (u_lay RX4 TX4 6) (jWc_wsX40 _ (u_in_lay (by decide)))
  have hly_6_9 := htw (u_lay RX4 TX4 9) (jWc_wsX40 _ (u_in_lay (by decide)))
  have hlk_11 := (htw (.fieldLink RX4 11 "ProofServer$Json" "kinds" "[I") (jWr_3 _ (List.mem_of_getElem? (i := 21) rfl)))
  have hlk_15 := (htw (.fieldLink RX4 15 "ProofServer$Json" "firsts" "[I") (jWr_3 _ (List.mem_of_getElem? (i := 22) rfl)))
  have hlk_18 := (htw (.fieldLink RX4 18 "ProofServer$Json" "sizes" "[I") (jWr_3 _ (List.mem_of_getElem? (i := 23) rfl)))
  have hlk_21 := (htw (.fieldLink RX4 21 "ProofServer$Json" "nexts" "[I") (jWr_4 _ (List.mem_of_getElem? (i := 0) rfl)))
  have hlk_24 := (htw (.fieldLink RX4 24 "ProofServer$Json" "keyFirsts" "[I") (jWr_4 _ (List.mem_of_getElem? (i := 1) rfl)))
  have hlk_27 := (htw (.fieldLink RX4 27 "ProofServer$Json" "keySizes" "[I") (jWr_4 _ (List.mem_of_getElem? (i := 2) rfl)))
  have hlk_30 := (htw (.fieldLink RX4 30 "ProofServer$Json" "units" "[I") (jWr_4 _ (List.mem_of_getElem? (i := 3) rfl)))
  have hlk_33 := (htw (.fieldLink RX4 33 "ProofServer$Json" "bytes" "[B") (jWr_4 _ (List.mem_of_getElem? (i := 4) rfl)))
  have hbs : base ≤ s.heap.size := Nat.le_of_lt (Nat.lt_of_le_of_lt hbr0 hraw0.lt)
  have hRc : R.cells = LC - s.heap.size := by rw [← hR]; rfl
  have hRs : R.slots = LS - jTot s.heap := by rw [← hR]; rfl
  have hin2 : meth.name = "<init>" := (name_of_methodNamed Bd.named Bd.method).1
  have hkp : jKx r0 G0 G0 s.heap s.heap := jKx.rf
  refine lv_aload_n hx hb dX4_init_0 rfl (lv_at hl 0 rfl) ?_
  refine W.objInit hx hb hown (htw (.methodLink RX4 3 objectInit) (jWr_3 _ (List.mem_of_getElem? (i := 19) rfl))) (htw (.instanceMethod objectInit) (jWr_1 _ (List.mem_of_getElem? (i := 10) rfl))) (htw (.code objectInit ⟨#[0xb1]⟩ 1 none) (jWr_1 _ (List.mem_of_getElem? (i := 11) rfl))) rfl (by rw [hml]; exact hl.1) rfl dX4_init_1 (by rw [← hR]; exact Nat.le_of_ble_eq_true rfl) (by rw [← hR]; exact Nat.le_of_ble_eq_true rfl) ?_
  refine W.eq (g2 := F0 m 4 ls []) rfl ?_
  refine lv_aload_n hx hb dX4_init_4 rfl (lv_at hl 0 rfl) ?_
  refine lv_sipush (v := 1502) hx hb dX4_init_5 (by decide) ?_
  have hsz_1 := hh.2.2.2.2.2.1
  have htt_1 := hh.2.2.2.2.2.2.1
  refine j7_newiK hx hb hK hh hB (atype := .int) (ty := .int) (htw (.arrayClass .int) (jWr_3 _ (List.mem_of_getElem? (i := 20) rfl))) rfl rfl (fun _ h => h) hB140 1 rfl (by decide) (by decide) hbs (x := 1502) (by decide) (by omega) (fun j => by first | trivial | decide | rfl | exact Or.inl rfl | (refine ⟨?_, ?_⟩ <;> decide)) (by rw [hRc]; omega) (by rw [hRs]; omega) dX4_init_8 (fun H_1 hfr_1 hh_1 => ?_)
  have hh_1 : jSt (dC, dI) B base G0 (va_up G0 s.heap.size (some (140, 1502))) EX4_init s.heap (0 + 1) (0 + 1502) [] [] [] H_1 [] := hh_1
  have hN_1 : (jNk [0, 1, 2, 3, 4, 5, 7, 8, 9, 10, 11, 12, 13, 14, 15, 16, 17, 175]) G0 (va_up G0 s.heap.size (some (140, 1502))) := jNk.new (by decide)
  have hgn_1 : (va_up G0 s.heap.size (some (140, 1502))) s.heap.size = some (140, 1502) := jUp_self
  have hle_1 : jLe G0 (va_up G0 s.heap.size (some (140, 1502))) := jLe.new hh.2.1.fresh
  have hke_1 : jKe G0 (va_up G0 s.heap.size (some (140, 1502))) s.heap H_1 := jKe.new hfr_1
  have hsy_1 : s.heap.size ≤ s.heap.size := hh.1.1
  generalize (va_up G0 s.heap.size (some (140, 1502))) = G_1 at hN_1 hgn_1 hle_1 hke_1 hh_1
  clear hh
  have hNn_1 : (jNk [0, 1, 2, 3, 4, 5, 7, 8, 9, 10, 11, 12, 13, 14, 15, 16, 17, 175]) G0 G_1 := (jNk.rf).tr hN_1
  have hkp_2 := hkp.tr hke_1
  have hraw_3n := hke_1.nr hraw0.lt hnr0
  have hraw_3 := hraw0.kept (hke_1.1 _ hraw0.lt)
  refine j7_putRF hx hb hown hK hh_1 hB hAp hraw_3 hraw_3n hbr0 (C := RX4) (T := TX4) (N := 12) rfl (i := 0) (by decide) (Nat.le_of_ble_eq_true rfl) hly_6_0 rfl hin2 rfl hlk_11 (ty := (.array .int)) (v := .ref s.heap.size) (by decide +kernel) rfl rfl dX4_init_10 (fun H_4 locs_4 hraw_4 hr_4 hh_4 => ?_)
  have hraw_4 : va_at (dC, dI) vwCl (r0, .inr (6, [.ref s.heap.size, .null, .null, .null, .null, .null, .null, .int 0, .int 0, .null, .int 0, .int 0])) H_4 := hraw_4
  have hkp_5 := hkp_2.put hr_4
  clear hh_1
  refine lv_aload_n hx hb dX4_init_13 rfl (lv_at hl 0 rfl) ?_
  refine lv_sipush (v := 1502) hx hb dX4_init_14 (by decide) ?_
  have hsz_6 := hh_4.2.2.2.2.2.1
  have htt_6 := hh_4.2.2.2.2.2.2.1
  refine j7_newiK hx hb hK hh_4 hB (atype := .int) (ty := .int) (htw (.arrayClass .int) (jWr_3 _ (List.mem_of_getElem? (i := 20) rfl))) rfl rfl (fun _ h => h) hB141 1 rfl (by decide) (by decide) hbs (x := 1502) (by decide) (by omega) (fun j => by first | trivial | decide | rfl | exact Or.inl rfl | (refine ⟨?_, ?_⟩ <;> decide)) (by rw [hRc]; omega) (by rw [hRs]; omega) dX4_init_17 (fun H_6 hfr_6 hh_6 => ?_)
  have hh_6 : jSt (dC, dI) B base G0 (va_up G_1 H_4.size (some (141, 1502))) EX4_init s.heap ((0 + 1) + 1) ((0 + 1502) + 1502) [] [] [] H_6 locs_4 := hh_6
  have hN_6 : (jNk [0, 1, 2, 3, 4, 5, 7, 8, 9, 10, 11, 12, 13, 14, 15, 16, 17, 175]) G_1 (va_up G_1 H_4.size (some (141, 1502))) := jNk.new (by decide)
  have hgn_6 : (va_up G_1 H_4.size (some (141, 1502))) H_4.size = some (141, 1502) := jUp_self
  have hle_6 : jLe G_1 (va_up G_1 H_4.size (some (141, 1502))) := jLe.new hh_4.2.1.fresh
  have hke_6 : jKe G_1 (va_up G_1 H_4.size (some (141, 1502))) H_4 H_6 := jKe.new hfr_6
  have hsy_6 : s.heap.size ≤ H_4.size := hh_4.1.1
  generalize (va_up G_1 H_4.size (some (141, 1502))) = G_6 at hN_6 hgn_6 hle_6 hke_6 hh_6
  clear hh_4
  have hNn_6 : (jNk [0, 1, 2, 3, 4, 5, 7, 8, 9, 10, 11, 12, 13, 14, 15, 16, 17, 175]) G0 G_6 := (hNn_1).tr hN_6
  have hkp_7 := hkp_5.tr hke_6
  have hraw_8n := hke_6.nr hraw_4.lt hraw_3n
  have hraw_8 := hraw_4.kept (hke_6.1 _ hraw_4.lt)
  refine j7_putRF hx hb hown hK hh_6 hB hAp hraw_8 hraw_8n hbr0 (C := RX4) (T := TX4) (N := 12) rfl (i := 1) (by decide) (Nat.le_of_ble_eq_true rfl) hly_6_1 rfl hin2 rfl hlk_15 (ty := (.array .int)) (v := .ref H_4.size) (by decide +kernel) rfl rfl dX4_init_19 (fun H_9 locs_9 hraw_9 hr_9 hh_9 => ?_)
  have hraw_9 : va_at (dC, dI) vwCl (r0, .inr (6, [.ref s.heap.size, .ref H_4.size, .null, .null, .null, .null, .null, .int 0, .int 0, .null, .int 0, .int 0])) H_9 := hraw_9
  have hkp_10 := hkp_7.put hr_9
  clear hh_6
  refine lv_aload_n hx hb dX4_init_22 rfl (lv_at hl 0 rfl) ?_
  refine lv_sipush (v := 1502) hx hb dX4_init_23 (by decide) ?_
  have hsz_11 := hh_9.2.2.2.2.2.1
  have htt_11 := hh_9.2.2.2.2.2.2.1
  refine j7_newiK hx hb hK hh_9 hB (atype := .int) (ty := .int) (htw (.arrayClass .int) (jWr_3 _ (List.mem_of_getElem? (i := 20) rfl))) rfl rfl (fun _ h => h) hB142 1 rfl (by decide) (by decide) hbs (x := 1502) (by decide) (by omega) (fun j => by first | trivial | decide | rfl | exact Or.inl rfl | (refine ⟨?_, ?_⟩ <;> decide)) (by rw [hRc]; omega) (by rw [hRs]; omega) dX4_init_26 (fun H_11 hfr_11 hh_11 => ?_)
  have hh_11 : jSt (dC, dI) B base G0 (va_up G_6 H_9.size (some (142, 1502))) EX4_init s.heap (((0 + 1) + 1) + 1) (((0 + 1502) + 1502) + 1502) [] [] [] H_11 locs_9 := hh_11
  have hN_11 : (jNk [0, 1, 2, 3, 4, 5, 7, 8, 9, 10, 11, 12, 13, 14, 15, 16, 17, 175]) G_6 (va_up G_6 H_9.size (some (142, 1502))) := jNk.new (by decide)
  have hgn_11 : (va_up G_6 H_9.size (some (142, 1502))) H_9.size = some (142, 1502) := jUp_self
  have hle_11 : jLe G_6 (va_up G_6 H_9.size (some (142, 1502))) := jLe.new hh_9.2.1.fresh
  have hke_11 : jKe G_6 (va_up G_6 H_9.size (some (142, 1502))) H_9 H_11 := jKe.new hfr_11
  have hsy_11 : s.heap.size ≤ H_9.size := hh_9.1.1
  generalize (va_up G_6 H_9.size (some (142, 1502))) = G_11 at hN_11 hgn_11 hle_11 hke_11 hh_11
  clear hh_9
  have hNn_11 : (jNk [0, 1, 2, 3, 4, 5, 7, 8, 9, 10, 11, 12, 13, 14, 15, 16, 17, 175]) G0 G_11 := (hNn_6).tr hN_11
  have hkp_12 := hkp_10.tr hke_11
  have hraw_13n := hke_11.nr hraw_9.lt hraw_8n
  have hraw_13 := hraw_9.kept (hke_11.1 _ hraw_9.lt)
  refine j7_putRF hx hb hown hK hh_11 hB hAp hraw_13 hraw_13n hbr0 (C := RX4) (T := TX4) (N := 12) rfl (i := 2) (by decide) (Nat.le_of_ble_eq_true rfl) hly_6_2 rfl hin2 rfl hlk_18 (ty := (.array .int)) (v := .ref H_9.size) (by decide +kernel) rfl rfl dX4_init_28 (fun H_14 locs_14 hraw_14 hr_14 hh_14 => ?_)
  have hraw_14 : va_at (dC, dI) vwCl (r0, .inr (6, [.ref s.heap.size, .ref H_4.size, .ref H_9.size, .null, .null, .null, .null, .int 0, .int 0, .null, .int 0, .int 0])) H_14 := hraw_14
  have hkp_15 := hkp_12.put hr_14
  clear hh_11
  refine lv_aload_n hx hb dX4_init_31 rfl (lv_at hl 0 rfl) ?_
  refine lv_sipush (v := 1502) hx hb dX4_init_32 (by decide) ?_
  have hsz_16 := hh_14.2.2.2.2.2.1
  have htt_16 := hh_14.2.2.2.2.2.2.1
  refine j7_newiK hx hb hK hh_14 hB (atype := .int) (ty := .int) (htw (.arrayClass .int) (jWr_3 _ (List.mem_of_getElem? (i := 20) rfl))) rfl rfl (fun _ h => h) hB143 1 rfl (by decide) (by decide) hbs (x := 1502) (by decide) (by omega) (fun j => by first | trivial | decide | rfl | exact Or.inl rfl | (refine ⟨?_, ?_⟩ <;> decide)) (by rw [hRc]; omega) (by rw [hRs]; omega) dX4_init_35 (fun H_16 hfr_16 hh_16 => ?_)
  have hh_16 : jSt (dC, dI) B base G0 (va_up G_11 H_14.size (some (143, 1502))) EX4_init s.heap ((((0 + 1) + 1) + 1) + 1) ((((0 + 1502) + 1502) + 1502) + 1502) [] [] [] H_16 locs_14 := hh_16
  have hN_16 : (jNk [0, 1, 2, 3, 4, 5, 7, 8, 9, 10, 11, 12, 13, 14, 15, 16, 17, 175]) G_11 (va_up G_11 H_14.size (some (143, 1502))) := jNk.new (by decide)
  have hgn_16 : (va_up G_11 H_14.size (some (143, 1502))) H_14.size = some (143, 1502) := jUp_self
  have hle_16 : jLe G_11 (va_up G_11 H_14.size (some (143, 1502))) := jLe.new hh_14.2.1.fresh
  have hke_16 : jKe G_11 (va_up G_11 H_14.size (some (143, 1502))) H_14 H_16 := jKe.new hfr_16
  have hsy_16 : s.heap.size ≤ H_14.size := hh_14.1.1
  generalize (va_up G_11 H_14.size (some (143, 1502))) = G_16 at hN_16 hgn_16 hle_16 hke_16 hh_16
  clear hh_14
  have hNn_16 : (jNk [0, 1, 2, 3, 4, 5, 7, 8, 9, 10, 11, 12, 13, 14, 15, 16, 17, 175]) G0 G_16 := (hNn_11).tr hN_16
  have hkp_17 := hkp_15.tr hke_16
  have hraw_18n := hke_16.nr hraw_14.lt hraw_13n
  have hraw_18 := hraw_14.kept (hke_16.1 _ hraw_14.lt)
  refine j7_putRF hx hb hown hK hh_16 hB hAp hraw_18 hraw_18n hbr0 (C := RX4) (T := TX4) (N := 12) rfl (i := 3) (by decide) (Nat.le_of_ble_eq_true rfl) hly_6_3 rfl hin2 rfl hlk_21 (ty := (.array .int)) (v := .ref H_14.size) (by decide +kernel) rfl rfl dX4_init_37 (fun H_19 locs_19 hraw_19 hr_19 hh_19 => ?_)
  have hraw_19 : va_at (dC, dI) vwCl (r0, .inr (6, [.ref s.heap.size, .ref H_4.size, .ref H_9.size, .ref H_14.size, .null, .null, .null, .int 0, .int 0, .null, .int 0, .int 0])) H_19 := hraw_19
  have hkp_20 := hkp_17.put hr_19
  clear hh_16
  refine lv_aload_n hx hb dX4_init_40 rfl (lv_at hl 0 rfl) ?_
  refine lv_sipush (v := 1502) hx hb dX4_init_41 (by decide) ?_
  have hsz_21 := hh_19.2.2.2.2.2.1
  have htt_21 := hh_19.2.2.2.2.2.2.1
  refine j7_newiK hx hb hK hh_19 hB (atype := .int) (ty := .int) (htw (.arrayClass .int) (jWr_3 _ (List.mem_of_getElem? (i := 20) rfl))) rfl rfl (fun _ h => h) hB144 1 rfl (by decide) (by decide) hbs (x := 1502) (by decide) (by omega) (fun j => by first | trivial | decide | rfl | exact Or.inl rfl | (refine ⟨?_, ?_⟩ <;> decide)) (by rw [hRc]; omega) (by rw [hRs]; omega) dX4_init_44 (fun H_21 hfr_21 hh_21 => ?_)
  have hh_21 : jSt (dC, dI) B base G0 (va_up G_16 H_19.size (some (144, 1502))) EX4_init s.heap (((((0 + 1) + 1) + 1) + 1) + 1) (((((0 + 1502) + 1502) + 1502) + 1502) + 1502) [] [] [] H_21 locs_19 := hh_21
  have hN_21 : (jNk [0, 1, 2, 3, 4, 5, 7, 8, 9, 10, 11, 12, 13, 14, 15, 16, 17, 175]) G_16 (va_up G_16 H_19.size (some (144, 1502))) := jNk.new (by decide)
  have hgn_21 : (va_up G_16 H_19.size (some (144, 1502))) H_19.size = some (144, 1502) := jUp_self
  have hle_21 : jLe G_16 (va_up G_16 H_19.size (some (144, 1502))) := jLe.new hh_19.2.1.fresh
  have hke_21 : jKe G_16 (va_up G_16 H_19.size (some (144, 1502))) H_19 H_21 := jKe.new hfr_21
  have hsy_21 : s.heap.size ≤ H_19.size := hh_19.1.1
  generalize (va_up G_16 H_19.size (some (144, 1502))) = G_21 at hN_21 hgn_21 hle_21 hke_21 hh_21
  clear hh_19
  have hNn_21 : (jNk [0, 1, 2, 3, 4, 5, 7, 8, 9, 10, 11, 12, 13, 14, 15, 16, 17, 175]) G0 G_21 := (hNn_16).tr hN_21
  have hkp_22 := hkp_20.tr hke_21
  have hraw_23n := hke_21.nr hraw_19.lt hraw_18n
  have hraw_23 := hraw_19.kept (hke_21.1 _ hraw_19.lt)
  refine j7_putRF hx hb hown hK hh_21 hB hAp hraw_23 hraw_23n hbr0 (C := RX4) (T := TX4) (N := 12) rfl (i := 4) (by decide) (Nat.le_of_ble_eq_true rfl) hly_6_4 rfl hin2 rfl hlk_24 (ty := (.array .int)) (v := .ref H_19.size) (by decide +kernel) rfl rfl dX4_init_46 (fun H_24 locs_24 hraw_24 hr_24 hh_24 => ?_)
  have hraw_24 : va_at (dC, dI) vwCl (r0, .inr (6, [.ref s.heap.size, .ref H_4.size, .ref H_9.size, .ref H_14.size, .ref H_19.size, .null, .null, .int 0, .int 0, .null, .int 0, .int 0])) H_24 := hraw_24
  have hkp_25 := hkp_22.put hr_24
  clear hh_21
  refine lv_aload_n hx hb dX4_init_49 rfl (lv_at hl 0 rfl) ?_
  refine lv_sipush (v := 1502) hx hb dX4_init_50 (by decide) ?_
  have hsz_26 := hh_24.2.2.2.2.2.1
  have htt_26 := hh_24.2.2.2.2.2.2.1
  refine j7_newiK hx hb hK hh_24 hB (atype := .int) (ty := .int) (htw (.arrayClass .int) (jWr_3 _ (List.mem_of_getElem? (i := 20) rfl))) rfl rfl (fun _ h => h) hB145 1 rfl (by decide) (by decide) hbs (x := 1502) (by decide) (by omega) (fun j => by first | trivial | decide | rfl | exact Or.inl rfl | (refine ⟨?_, ?_⟩ <;> decide)) (by rw [hRc]; omega) (by rw [hRs]; omega) dX4_init_53 (fun H_26 hfr_26 hh_26 => ?_)
  have hh_26 : jSt (dC, dI) B base G0 (va_up G_21 H_24.size (some (145, 1502))) EX4_init s.heap ((((((0 + 1) + 1) + 1) + 1) + 1) + 1) ((((((0 + 1502) + 1502) + 1502) + 1502) + 1502) + 1502) [] [] [] H_26 locs_24 := hh_26
  have hN_26 : (jNk [0, 1, 2, 3, 4, 5, 7, 8, 9, 10, 11, 12, 13, 14, 15, 16, 17, 175]) G_21 (va_up G_21 H_24.size (some (145, 1502))) := jNk.new (by decide)
  have hgn_26 : (va_up G_21 H_24.size (some (145, 1502))) H_24.size = some (145, 1502) := jUp_self
  have hle_26 : jLe G_21 (va_up G_21 H_24.size (some (145, 1502))) := jLe.new hh_24.2.1.fresh
  have hke_26 : jKe G_21 (va_up G_21 H_24.size (some (145, 1502))) H_24 H_26 := jKe.new hfr_26
  have hsy_26 : s.heap.size ≤ H_24.size := hh_24.1.1
  generalize (va_up G_21 H_24.size (some (145, 1502))) = G_26 at hN_26 hgn_26 hle_26 hke_26 hh_26
  clear hh_24
  have hNn_26 : (jNk [0, 1, 2, 3, 4, 5, 7, 8, 9, 10, 11, 12, 13, 14, 15, 16, 17, 175]) G0 G_26 := (hNn_21).tr hN_26
  have hkp_27 := hkp_25.tr hke_26
  have hraw_28n := hke_26.nr hraw_24.lt hraw_23n
  have hraw_28 := hraw_24.kept (hke_26.1 _ hraw_24.lt)
  refine j7_putRF hx hb hown hK hh_26 hB hAp hraw_28 hraw_28n hbr0 (C := RX4) (T := TX4) (N := 12) rfl (i := 5) (by decide) (Nat.le_of_ble_eq_true rfl) hly_6_5 rfl hin2 rfl hlk_27 (ty := (.array .int)) (v := .ref H_24.size) (by decide +kernel) rfl rfl dX4_init_55 (fun H_29 locs_29 hraw_29 hr_29 hh_29 => ?_)
  have hraw_29 : va_at (dC, dI) vwCl (r0, .inr (6, [.ref s.heap.size, .ref H_4.size, .ref H_9.size, .ref H_14.size, .ref H_19.size, .ref H_24.size, .null, .int 0, .int 0, .null, .int 0, .int 0])) H_29 := hraw_29
  have hkp_30 := hkp_27.put hr_29
  clear hh_26
  refine lv_aload_n hx hb dX4_init_58 rfl (lv_at hl 0 rfl) ?_
  refine lv_sipush (v := 3000) hx hb dX4_init_59 (by decide) ?_
  have hsz_31 := hh_29.2.2.2.2.2.1
  have htt_31 := hh_29.2.2.2.2.2.2.1
  refine j7_newiK hx hb hK hh_29 hB (atype := .int) (ty := .int) (htw (.arrayClass .int) (jWr_3 _ (List.mem_of_getElem? (i := 20) rfl))) rfl rfl (fun _ h => h) hB146 1 rfl (by decide) (by decide) hbs (x := 3000) (by decide) (by omega) (fun j => by first | trivial | decide | rfl | exact Or.inl rfl | (refine ⟨?_, ?_⟩ <;> decide)) (by rw [hRc]; omega) (by rw [hRs]; omega) dX4_init_62 (fun H_31 hfr_31 hh_31 => ?_)
  have hh_31 : jSt (dC, dI) B base G0 (va_up G_26 H_29.size (some (146, 3000))) EX4_init s.heap (((((((0 + 1) + 1) + 1) + 1) + 1) + 1) + 1) (((((((0 + 1502) + 1502) + 1502) + 1502) + 1502) + 1502) + 3000) [] [] [] H_31 locs_29 := hh_31
  have hN_31 : (jNk [0, 1, 2, 3, 4, 5, 7, 8, 9, 10, 11, 12, 13, 14, 15, 16, 17, 175]) G_26 (va_up G_26 H_29.size (some (146, 3000))) := jNk.new (by decide)
  have hgn_31 : (va_up G_26 H_29.size (some (146, 3000))) H_29.size = some (146, 3000) := jUp_self
  have hle_31 : jLe G_26 (va_up G_26 H_29.size (some (146, 3000))) := jLe.new hh_29.2.1.fresh
  have hke_31 : jKe G_26 (va_up G_26 H_29.size (some (146, 3000))) H_29 H_31 := jKe.new hfr_31
  have hsy_31 : s.heap.size ≤ H_29.size := hh_29.1.1
  generalize (va_up G_26 H_29.size (some (146, 3000))) = G_31 at hN_31 hgn_31 hle_31 hke_31 hh_31
  clear hh_29
  have hNn_31 : (jNk [0, 1, 2, 3, 4, 5, 7, 8, 9, 10, 11, 12, 13, 14, 15, 16, 17, 175]) G0 G_31 := (hNn_26).tr hN_31
  have hkp_32 := hkp_30.tr hke_31
  have hraw_33n := hke_31.nr hraw_29.lt hraw_28n
  have hraw_33 := hraw_29.kept (hke_31.1 _ hraw_29.lt)
  refine j7_putRF hx hb hown hK hh_31 hB hAp hraw_33 hraw_33n hbr0 (C := RX4) (T := TX4) (N := 12) rfl (i := 6) (by decide) (Nat.le_of_ble_eq_true rfl) hly_6_6 rfl hin2 rfl hlk_30 (ty := (.array .int)) (v := .ref H_29.size) (by decide +kernel) rfl rfl dX4_init_64 (fun H_34 locs_34 hraw_34 hr_34 hh_34 => ?_)
  have hraw_34 : va_at (dC, dI) vwCl (r0, .inr (6, [.ref s.heap.size, .ref H_4.size, .ref H_9.size, .ref H_14.size, .ref H_19.size, .ref H_24.size, .ref H_29.size, .int 0, .int 0, .null, .int 0, .int 0])) H_34 := hraw_34
  have hkp_35 := hkp_32.put hr_34
  clear hh_31
  refine lv_aload_n hx hb dX4_init_67 rfl (lv_at hl 0 rfl) ?_
  refine lv_iconst (v := 0) hx hb dX4_init_68 (by decide) ?_
  have hsz_36 := hh_34.2.2.2.2.2.1
  have htt_36 := hh_34.2.2.2.2.2.2.1
  refine j7_newiK hx hb hK hh_34 hB (atype := .byte) (ty := .byte) (htw (.arrayClass .byte) (jWr_3 _ (List.mem_of_getElem? (i := 9) rfl))) rfl rfl (fun _ h => h) hB100 0 rfl (by decide) (by decide) hbs (x := 0) (by decide) (by omega) (fun j => by first | trivial | decide | rfl | exact Or.inl rfl | (refine ⟨?_, ?_⟩ <;> decide)) (by rw [hRc]; omega) (by rw [hRs]; omega) dX4_init_69 (fun H_36 hfr_36 hh_36 => ?_)
  have hh_36 : jSt (dC, dI) B base G0 (va_up G_31 H_34.size (some (100, 0))) EX4_init s.heap ((((((((0 + 1) + 1) + 1) + 1) + 1) + 1) + 1) + 1) ((((((((0 + 1502) + 1502) + 1502) + 1502) + 1502) + 1502) + 3000) + 0) [] [] [] H_36 locs_34 := hh_36
  have hN_36 : (jNk [0, 1, 2, 3, 4, 5, 7, 8, 9, 10, 11, 12, 13, 14, 15, 16, 17, 175]) G_31 (va_up G_31 H_34.size (some (100, 0))) := jNk.new (by decide)
  have hgn_36 : (va_up G_31 H_34.size (some (100, 0))) H_34.size = some (100, 0) := jUp_self
  have hle_36 : jLe G_31 (va_up G_31 H_34.size (some (100, 0))) := jLe.new hh_34.2.1.fresh
  have hke_36 : jKe G_31 (va_up G_31 H_34.size (some (100, 0))) H_34 H_36 := jKe.new hfr_36
  have hsy_36 : s.heap.size ≤ H_34.size := hh_34.1.1
  generalize (va_up G_31 H_34.size (some (100, 0))) = G_36 at hN_36 hgn_36 hle_36 hke_36 hh_36
  clear hh_34
  have hNn_36 : (jNk [0, 1, 2, 3, 4, 5, 7, 8, 9, 10, 11, 12, 13, 14, 15, 16, 17, 175]) G0 G_36 := (hNn_31).tr hN_36
  have hkp_37 := hkp_35.tr hke_36
  have hraw_38n := hke_36.nr hraw_34.lt hraw_33n
  have hraw_38 := hraw_34.kept (hke_36.1 _ hraw_34.lt)
  refine j7_putR hx hb hown hK hh_36 hB hAp hraw_38 hraw_38n hbr0 (C := RX4) (T := TX4) (N := 12) rfl (i := 9) (by decide) (Nat.le_of_ble_eq_true rfl) hly_6_9 rfl hlk_33 (ty := (.array .byte)) (v := .ref H_34.size) (by decide +kernel) rfl rfl dX4_init_71 (fun H_39 locs_39 hraw_39 hr_39 hh_39 => ?_)
  have hraw_39 : va_at (dC, dI) vwCl (r0, .inr (6, [.ref s.heap.size, .ref H_4.size, .ref H_9.size, .ref H_14.size, .ref H_19.size, .ref H_24.size, .ref H_29.size, .int 0, .int 0, .ref H_34.size, .int 0, .int 0])) H_39 := hraw_39
  have hkp_40 := hkp_37.put hr_39
  clear hh_36
  have hsz_41 := hh_39.2.2.2.2.2.1
  have htt_41 := hh_39.2.2.2.2.2.2.1
  refine W.room (fun hrc_41 hrs_41 => ?_)
  refine W.widen (k := LC - s.heap.size) (n := LS - jTot s.heap) (by omega) (by omega) ?_
  rw [hQ]
  have hle_42 : jLe G_36 (va_up G_36 r0 (some (6, 0))) := jLe.typ hraw_38n
  have hg_43 := (((((((hle_6).tr hle_11).tr hle_16).tr hle_21).tr hle_26).tr hle_31).tr hle_36).tr hle_42 _ _ hgn_1
  have hg_44 := ((((((hle_11).tr hle_16).tr hle_21).tr hle_26).tr hle_31).tr hle_36).tr hle_42 _ _ hgn_6
  have hg_45 := (((((hle_16).tr hle_21).tr hle_26).tr hle_31).tr hle_36).tr hle_42 _ _ hgn_11
  have hg_46 := ((((hle_21).tr hle_26).tr hle_31).tr hle_36).tr hle_42 _ _ hgn_16
  have hg_47 := (((hle_26).tr hle_31).tr hle_36).tr hle_42 _ _ hgn_21
  have hg_48 := ((hle_31).tr hle_36).tr hle_42 _ _ hgn_26
  have hg_49 := (hle_36).tr hle_42 _ _ hgn_31
  have hg_50 := (jLe.rf).tr hle_42 _ _ hgn_36
  have hfa_42 : jRf (va_up G_36 r0 (some (6, 0))) 140 1502 (.ref s.heap.size) ∧ jRf (va_up G_36 r0 (some (6, 0))) 141 1502 (.ref H_4.size) ∧ jRf (va_up G_36 r0 (some (6, 0))) 142 1502 (.ref H_9.size) ∧ jRf (va_up G_36 r0 (some (6, 0))) 143 1502 (.ref H_14.size) ∧ jRf (va_up G_36 r0 (some (6, 0))) 144 1502 (.ref H_19.size) ∧ jRf (va_up G_36 r0 (some (6, 0))) 145 1502 (.ref H_24.size) ∧ jRf (va_up G_36 r0 (some (6, 0))) 146 3000 (.ref H_29.size) ∧ jI 0 1502 (.int 0) ∧ jI 0 3000 (.int 0) ∧ jRk (va_up G_36 r0 (some (6, 0))) 100 3000 (.ref H_34.size) ∧ jI 0 3000 (.int 0) ∧ jI 0 20000 (.int 0) ∧ True := ⟨⟨_, rfl, hg_43⟩, ⟨_, rfl, hg_44⟩, ⟨_, rfl, hg_45⟩, ⟨_, rfl, hg_46⟩, ⟨_, rfl, hg_47⟩, ⟨_, rfl, hg_48⟩, ⟨_, rfl, hg_49⟩, ⟨_, rfl, by omega, by omega⟩, ⟨_, rfl, by omega, by omega⟩, ⟨_, _, rfl, hg_50, by omega⟩, ⟨_, rfl, by omega, by omega⟩, ⟨_, rfl, by omega, by omega⟩, trivial⟩
  have hh_42 := hh_39.typ (k := 6) (n := 0) hB hraw_38n hbr0 hraw_39.lt (jOb.of (C := RX4) (T := TX4) (N := 12) (F := F6) hB6 rfl hraw_39 (show jFx (F6 0 (va_up G_36 r0 (some (6, 0)))) [.ref s.heap.size, .ref H_4.size, .ref H_9.size, .ref H_14.size, .ref H_19.size, .ref H_24.size, .ref H_29.size, .int 0, .int 0, .ref H_34.size, .int 0, .int 0] from hfa_42))
  have hgn_42 : (va_up G_36 r0 (some (6, 0))) r0 = some (6, 0) := jUp_self
  have hN_42 : (jNk [0, 1, 2, 3, 4, 5, 7, 8, 9, 10, 11, 12, 13, 14, 15, 16, 17, 175]) G_36 (va_up G_36 r0 (some (6, 0))) := jNk.new (by decide)
  have hNn_42 : (jNk [0, 1, 2, 3, 4, 5, 7, 8, 9, 10, 11, 12, 13, 14, 15, 16, 17, 175]) G0 (va_up G_36 r0 (some (6, 0))) := (hNn_36).tr hN_42
  have hkp_51 := hkp_40.typ (t := some (6, 0))
  exact W.vret hx hb hr (fun t ht hW => ⟨⟨(va_up G_36 r0 (some (6, 0))), rfl, trivial, ⟨hh_42.ra (by first | omega | (simp only; omega)) (by first | omega | (simp only; omega)) (M1 := []) [] rfl ht, hNn_42, hgn_42, by rw [ht]; exact hkp_51⟩⟩, by rw [ht]; try exact hh_42.1.1, fun q h9 hq => by rw [ht]; try exact hh_42.1.2.1 q h9 hq⟩) hh_42.1.2.2 dX4_init_74
set_option maxHeartbeats 4000000 in
set_option maxRecDepth 20000 in
theorem uX7_init (l : Launch) (dC : Nat → ClassId) (dI : Nat → Nat → Nat) (ca : Nat → ClassId) (base : Nat) (B : jF) (hB : jBok B) (hAp : jAp (dC, dI)) (hB8 : ∀ n G a H, B 8 n G a H ↔ jOb (dC, dI) 8 4 (F8 n G) a H) (hB9 : ∀ n G a H, B 9 n G a H ↔ jOb (dC, dI) 9 5 (F9b n G) a H) (hB286 : ∀ n G a H, B 286 n G a H ↔ jAr (dC, dI) (ca 1) (fun j z => (0 ≤ z.toInt ∨ z.toInt = -3)) n a H) (hB287 : ∀ n G a H, B 287 n G a H ↔ jAr (dC, dI) (ca 1) (fun j z => 0 ≤ z.toInt ∧ z.toInt ≤ 65535) n a H) (hB288 : ∀ n G a H, B 288 n G a H ↔ jAr (dC, dI) (ca 1) (fun j z => 0 ≤ z.toInt ∧ z.toInt ≤ 160) n a H) (G0 : jT) (H0 : Heap) (r0 : Nat) (r1 : Nat) (LC LS : Nat) : Met l yX7_init (jw yX7_init cX7_init 2 none) ({ frames := 1, cells := LC - H0.size, slots := LS - jTot H0, locals := 31 }) (va_Pc [.ref r0, .ref r1] (fun U => U.heap = H0 ∧ jX B base G0 [] H0 ∧ jG dC dI ca base U ∧ G0 r1 = some (8, 0) ∧ va_at (dC, dI) vwCl (r0, .inr (9, [.null, .null, .int 0, .null, .null])) H0 ∧ (∀ t, G0 r0 ≠ some t) ∧ base ≤ r0 ∧ jP (dC, dI) G0 H0 [] ∧ H0.size + 3 ≤ LC ∧ jTot H0 + 826 ≤ LS ∧ True)) (va_Qv (S := jT) (fun u => True) (fun u t => jRa (dC, dI) B base G0 u EX7_init H0 (3) (826) [] t.heap ∧ (jNk [0, 1, 2, 3, 4, 5, 6, 7, 8, 10, 11, 12, 13, 14, 15, 16, 17, 175]) G0 u ∧ u r0 = some (9, 0) ∧ jKx r0 G0 u H0 t.heap) (jA base)) (LC - H0.size) (LS - jTot H0) (jA base) := by
  refine Met.ofW (cc := cX7_init) (maxL := 2) (ret := none) (by decide) rfl ?_
  intro p e s m args below meth c s₁ Bd hml hv
  obtain ⟨rfl, hH0, hX, hG, hg_r1, hraw0, hnr0, hbr0, hP0, hLC0, hLS0, hp0⟩ := hv
  have hK := hG.1
  have hx := Bd.exec
  have hb := Bd.bytes
  have hr := Bd.returns
  have hts := atoms_spec (ws := (jw yX7_init cX7_init 2 none)) Bd.pre
  have htw : ∀ w ∈ jWl, w.before _ s = true := fun w h => hts w (List.mem_cons_of_mem _ h)
  have hown : s.vm.findClass RX7 = some m.cls := findClass_of_methodNamed Bd.named
  have hlocks := Bd.notSynchronized
  obtain ⟨Q, hQ⟩ : ∃ Q, Q = MQ below (va_Qv (S := jT) (fun u => True) (fun u t => jRa (dC, dI) B base G0 u EX7_init H0 (3) (826) [] t.heap ∧ (jNk [0, 1, 2, 3, 4, 5, 6, 7, 8, 10, 11, 12, 13, 14, 15, 16, 17, 175]) G0 u ∧ u r0 = some (9, 0) ∧ jKx r0 G0 u H0 t.heap) (jA base)) ([.ref r0, .ref r1] : List Value).toArray s (LC - H0.size) (LS - jTot H0) (jA base) := ⟨_, rfl⟩
  rw [← hQ]
  have hl := lv_entry ([.ref r0, .ref r1]) (n := 2) (Nat.le_of_ble_eq_true rfl)
  rw [lg_entry_eq]
  generalize (lg_sl ([.ref r0, .ref r1]) ++ List.replicate (2 - (lg_sl ([.ref r0, .ref r1])).length) Slot.unset).toArray = ls at hl ⊢
  have hl : lv_has ls 2 [(0, .ref r0), (1, .ref r1)] := hl
  generalize hR : (headSpec (jw yX7_init cX7_init 2 none) ({ frames := 1, cells := LC - H0.size, slots := LS - jTot H0, locals := 31 })).room = R
  subst hH0
  have hh : jSt (dC, dI) B base G0 G0 EX7_init s.heap 0 0 [] [] [] s.heap [] := jSt.start hX hP0 jMc.nil jIs.nil
  clear hX hP0
  have hk0 : (0 : Int32).toInt = 0 := by decide
  have hk1 : (1 : Int32).toInt = 1 := by decide
  have hk13 : (13 : Int32).toInt = 13 := by decide
  have hk800 : (800 : Int32).toInt = 800 := by decide
  have hly_9_0 := htw (u_lay RX7 TX7 0) (jWc_wsX70 _ (u_in_lay (by decide)))
  have hly_9_1 := htw (u_lay RX7 TX7 1) (jWc_wsX70 _ (u_in_lay (by decide)))
  have hly_9_3 := htw (u_lay RX7 TX7 3) (jWc_wsX70 _ (u_in_lay (by decide)))
  have hly_9_4 := htw (u_lay RX7 TX7 4) (jWc_wsX70 _ (u_in_lay (by decide)))
  have hlk_11 := (htw (.fieldLink RX7 11 "ProofServer$Printer" "stack" "[I") (jWr_9 _ (List.mem_of_getElem? (i := 7) rfl)))
  have hlk_15 := (htw (.fieldLink RX7 15 "ProofServer$Printer" "boundNames" "[I") (jWr_9 _ (List.mem_of_getElem? (i := 8) rfl)))
  have hlk_18 := (htw (.fieldLink RX7 18 "ProofServer$Printer" "boundMore" "[I") (jWr_9 _ (List.mem_of_getElem? (i := 9) rfl)))
  have hlk_21 := (htw (.fieldLink RX7 21 "ProofServer$Printer" "names" "LProofServer$Names;") (jWr_9 _ (List.mem_of_getElem? (i := 10) rfl)))
  have hbs : base ≤ s.heap.size := Nat.le_of_lt (Nat.lt_of_le_of_lt hbr0 hraw0.lt)
  have hRc : R.cells = LC - s.heap.size := by rw [← hR]; rfl
  have hRs : R.slots = LS - jTot s.heap := by rw [← hR]; rfl
  have hin2 : meth.name = "<init>" := (name_of_methodNamed Bd.named Bd.method).1
  have hkp : jKx r0 G0 G0 s.heap s.heap := jKx.rf
  refine lv_aload_n hx hb dX7_init_0 rfl (lv_at hl 0 rfl) ?_
  refine W.objInit hx hb hown (htw (.methodLink RX7 3 objectInit) (jWr_9 _ (List.mem_of_getElem? (i := 6) rfl))) (htw (.instanceMethod objectInit) (jWr_1 _ (List.mem_of_getElem? (i := 10) rfl))) (htw (.code objectInit ⟨#[0xb1]⟩ 1 none) (jWr_1 _ (List.mem_of_getElem? (i := 11) rfl))) rfl (by rw [hml]; exact hl.1) rfl dX7_init_1 (by rw [← hR]; exact Nat.le_of_ble_eq_true rfl) (by rw [← hR]; exact Nat.le_of_ble_eq_true rfl) ?_
  refine W.eq (g2 := F0 m 4 ls []) rfl ?_
  refine lv_aload_n hx hb dX7_init_4 rfl (lv_at hl 0 rfl) ?_
  refine lv_sipush (v := 800) hx hb dX7_init_5 (by decide) ?_
  have hsz_1 := hh.2.2.2.2.2.1
  have htt_1 := hh.2.2.2.2.2.2.1
  refine j7_newiK hx hb hK hh hB (atype := .int) (ty := .int) (htw (.arrayClass .int) (jWr_3 _ (List.mem_of_getElem? (i := 20) rfl))) rfl rfl (fun _ h => h) hB286 1 rfl (by decide) (by decide) hbs (x := 800) (by decide) (by omega) (fun j => by first | trivial | decide | rfl | exact Or.inl rfl | (refine ⟨?_, ?_⟩ <;> decide)) (by rw [hRc]; omega) (by rw [hRs]; omega) dX7_init_8 (fun H_1 hfr_1 hh_1 => ?_)
  have hh_1 : jSt (dC, dI) B base G0 (va_up G0 s.heap.size (some (286, 800))) EX7_init s.heap (0 + 1) (0 + 800) [] [] [] H_1 [] := hh_1
  have hN_1 : (jNk [0, 1, 2, 3, 4, 5, 6, 7, 8, 10, 11, 12, 13, 14, 15, 16, 17, 175]) G0 (va_up G0 s.heap.size (some (286, 800))) := jNk.new (by decide)
  have hgn_1 : (va_up G0 s.heap.size (some (286, 800))) s.heap.size = some (286, 800) := jUp_self
  have hle_1 : jLe G0 (va_up G0 s.heap.size (some (286, 800))) := jLe.new hh.2.1.fresh
  have hke_1 : jKe G0 (va_up G0 s.heap.size (some (286, 800))) s.heap H_1 := jKe.new hfr_1
  have hsy_1 : s.heap.size ≤ s.heap.size := hh.1.1
  generalize (va_up G0 s.heap.size (some (286, 800))) = G_1 at hN_1 hgn_1 hle_1 hke_1 hh_1
  clear hh
  have hNn_1 : (jNk [0, 1, 2, 3, 4, 5, 6, 7, 8, 10, 11, 12, 13, 14, 15, 16, 17, 175]) G0 G_1 := (jNk.rf).tr hN_1
  have hg_2 := hle_1 _ _ hg_r1
  have hkp_3 := hkp.tr hke_1
  have hraw_4n := hke_1.nr hraw0.lt hnr0
  have hraw_4 := hraw0.kept (hke_1.1 _ hraw0.lt)
  refine j7_putRF hx hb hown hK hh_1 hB hAp hraw_4 hraw_4n hbr0 (C := RX7) (T := TX7) (N := 5) rfl (i := 1) (by decide) (Nat.le_of_ble_eq_true rfl) hly_9_1 rfl hin2 rfl hlk_11 (ty := (.array .int)) (v := .ref s.heap.size) (by decide +kernel) rfl rfl dX7_init_10 (fun H_5 locs_5 hraw_5 hr_5 hh_5 => ?_)
  have hraw_5 : va_at (dC, dI) vwCl (r0, .inr (9, [.null, .ref s.heap.size, .int 0, .null, .null])) H_5 := hraw_5
  have hkp_6 := hkp_3.put hr_5
  clear hh_1
  refine lv_aload_n hx hb dX7_init_13 rfl (lv_at hl 0 rfl) ?_
  refine lv_bipush (v := 13) hx hb dX7_init_14 (by decide) ?_
  have hsz_7 := hh_5.2.2.2.2.2.1
  have htt_7 := hh_5.2.2.2.2.2.2.1
  refine j7_newiK hx hb hK hh_5 hB (atype := .int) (ty := .int) (htw (.arrayClass .int) (jWr_3 _ (List.mem_of_getElem? (i := 20) rfl))) rfl rfl (fun _ h => h) hB287 1 rfl (by decide) (by decide) hbs (x := 13) (by decide) (by omega) (fun j => by first | trivial | decide | rfl | exact Or.inl rfl | (refine ⟨?_, ?_⟩ <;> decide)) (by rw [hRc]; omega) (by rw [hRs]; omega) dX7_init_16 (fun H_7 hfr_7 hh_7 => ?_)
  have hh_7 : jSt (dC, dI) B base G0 (va_up G_1 H_5.size (some (287, 13))) EX7_init s.heap ((0 + 1) + 1) ((0 + 800) + 13) [] [] [] H_7 locs_5 := hh_7
  have hN_7 : (jNk [0, 1, 2, 3, 4, 5, 6, 7, 8, 10, 11, 12, 13, 14, 15, 16, 17, 175]) G_1 (va_up G_1 H_5.size (some (287, 13))) := jNk.new (by decide)
  have hgn_7 : (va_up G_1 H_5.size (some (287, 13))) H_5.size = some (287, 13) := jUp_self
  have hle_7 : jLe G_1 (va_up G_1 H_5.size (some (287, 13))) := jLe.new hh_5.2.1.fresh
  have hke_7 : jKe G_1 (va_up G_1 H_5.size (some (287, 13))) H_5 H_7 := jKe.new hfr_7
  have hsy_7 : s.heap.size ≤ H_5.size := hh_5.1.1
  generalize (va_up G_1 H_5.size (some (287, 13))) = G_7 at hN_7 hgn_7 hle_7 hke_7 hh_7
  clear hh_5
  have hNn_7 : (jNk [0, 1, 2, 3, 4, 5, 6, 7, 8, 10, 11, 12, 13, 14, 15, 16, 17, 175]) G0 G_7 := (hNn_1).tr hN_7
  have hg_8 := hle_7 _ _ hg_2
  have hkp_9 := hkp_6.tr hke_7
  have hraw_10n := hke_7.nr hraw_5.lt hraw_4n
  have hraw_10 := hraw_5.kept (hke_7.1 _ hraw_5.lt)
  refine j7_putRF hx hb hown hK hh_7 hB hAp hraw_10 hraw_10n hbr0 (C := RX7) (T := TX7) (N := 5) rfl (i := 3) (by decide) (Nat.le_of_ble_eq_true rfl) hly_9_3 rfl hin2 rfl hlk_15 (ty := (.array .int)) (v := .ref H_5.size) (by decide +kernel) rfl rfl dX7_init_18 (fun H_11 locs_11 hraw_11 hr_11 hh_11 => ?_)
  have hraw_11 : va_at (dC, dI) vwCl (r0, .inr (9, [.null, .ref s.heap.size, .int 0, .ref H_5.size, .null])) H_11 := hraw_11
  have hkp_12 := hkp_9.put hr_11
  clear hh_7
  refine lv_aload_n hx hb dX7_init_21 rfl (lv_at hl 0 rfl) ?_
  refine lv_bipush (v := 13) hx hb dX7_init_22 (by decide) ?_
  have hsz_13 := hh_11.2.2.2.2.2.1
  have htt_13 := hh_11.2.2.2.2.2.2.1
  refine j7_newiK hx hb hK hh_11 hB (atype := .int) (ty := .int) (htw (.arrayClass .int) (jWr_3 _ (List.mem_of_getElem? (i := 20) rfl))) rfl rfl (fun _ h => h) hB288 1 rfl (by decide) (by decide) hbs (x := 13) (by decide) (by omega) (fun j => by first | trivial | decide | rfl | exact Or.inl rfl | (refine ⟨?_, ?_⟩ <;> decide)) (by rw [hRc]; omega) (by rw [hRs]; omega) dX7_init_24 (fun H_13 hfr_13 hh_13 => ?_)
  have hh_13 : jSt (dC, dI) B base G0 (va_up G_7 H_11.size (some (288, 13))) EX7_init s.heap (((0 + 1) + 1) + 1) (((0 + 800) + 13) + 13) [] [] [] H_13 locs_11 := hh_13
  have hN_13 : (jNk [0, 1, 2, 3, 4, 5, 6, 7, 8, 10, 11, 12, 13, 14, 15, 16, 17, 175]) G_7 (va_up G_7 H_11.size (some (288, 13))) := jNk.new (by decide)
  have hgn_13 : (va_up G_7 H_11.size (some (288, 13))) H_11.size = some (288, 13) := jUp_self
  have hle_13 : jLe G_7 (va_up G_7 H_11.size (some (288, 13))) := jLe.new hh_11.2.1.fresh
  have hke_13 : jKe G_7 (va_up G_7 H_11.size (some (288, 13))) H_11 H_13 := jKe.new hfr_13
  have hsy_13 : s.heap.size ≤ H_11.size := hh_11.1.1
  generalize (va_up G_7 H_11.size (some (288, 13))) = G_13 at hN_13 hgn_13 hle_13 hke_13 hh_13
  clear hh_11
  have hNn_13 : (jNk [0, 1, 2, 3, 4, 5, 6, 7, 8, 10, 11, 12, 13, 14, 15, 16, 17, 175]) G0 G_13 := (hNn_7).tr hN_13
  have hg_14 := hle_13 _ _ hg_8
  have hkp_15 := hkp_12.tr hke_13
  have hraw_16n := hke_13.nr hraw_11.lt hraw_10n
  have hraw_16 := hraw_11.kept (hke_13.1 _ hraw_11.lt)
  refine j7_putRF hx hb hown hK hh_13 hB hAp hraw_16 hraw_16n hbr0 (C := RX7) (T := TX7) (N := 5) rfl (i := 4) (by decide) (Nat.le_of_ble_eq_true rfl) hly_9_4 rfl hin2 rfl hlk_18 (ty := (.array .int)) (v := .ref H_11.size) (by decide +kernel) rfl rfl dX7_init_26 (fun H_17 locs_17 hraw_17 hr_17 hh_17 => ?_)
  have hraw_17 : va_at (dC, dI) vwCl (r0, .inr (9, [.null, .ref s.heap.size, .int 0, .ref H_5.size, .ref H_11.size])) H_17 := hraw_17
  have hkp_18 := hkp_15.put hr_17
  clear hh_13
  refine lv_aload_n hx hb dX7_init_29 rfl (lv_at hl 0 rfl) ?_
  refine lv_aload_n hx hb dX7_init_30 rfl (lv_at hl 1 rfl) ?_
  refine j7_putRF hx hb hown hK hh_17 hB hAp hraw_17 hraw_16n hbr0 (C := RX7) (T := TX7) (N := 5) rfl (i := 0) (by decide) (Nat.le_of_ble_eq_true rfl) hly_9_0 rfl hin2 rfl hlk_21 (ty := (.object "ProofServer$Names")) (v := .ref r1) (by decide +kernel) rfl rfl dX7_init_31 (fun H_19 locs_19 hraw_19 hr_19 hh_19 => ?_)
  have hraw_19 : va_at (dC, dI) vwCl (r0, .inr (9, [.ref r1, .ref s.heap.size, .int 0, .ref H_5.size, .ref H_11.size])) H_19 := hraw_19
  have hkp_20 := hkp_18.put hr_19
  clear hh_17
  have hsz_21 := hh_19.2.2.2.2.2.1
  have htt_21 := hh_19.2.2.2.2.2.2.1
  refine W.room (fun hrc_21 hrs_21 => ?_)
  refine W.widen (k := LC - s.heap.size) (n := LS - jTot s.heap) (by omega) (by omega) ?_
  rw [hQ]
  have hle_22 : jLe G_13 (va_up G_13 r0 (some (9, 0))) := jLe.typ hraw_16n
  have hg_23 := hle_22 _ _ hg_14
  have hg_24 := (jLe.rf).tr hle_22 _ _ hg_14
  have hg_25 := ((hle_7).tr hle_13).tr hle_22 _ _ hgn_1
  have hg_26 := (hle_13).tr hle_22 _ _ hgn_7
  have hg_27 := (jLe.rf).tr hle_22 _ _ hgn_13
  have hfa_22 : jRf (va_up G_13 r0 (some (9, 0))) 8 0 (.ref r1) ∧ jRf (va_up G_13 r0 (some (9, 0))) 286 800 (.ref s.heap.size) ∧ jI 0 800 (.int 0) ∧ jRf (va_up G_13 r0 (some (9, 0))) 287 13 (.ref H_5.size) ∧ jRf (va_up G_13 r0 (some (9, 0))) 288 13 (.ref H_11.size) ∧ True := ⟨⟨_, rfl, hg_24⟩, ⟨_, rfl, hg_25⟩, ⟨_, rfl, by omega, by omega⟩, ⟨_, rfl, hg_26⟩, ⟨_, rfl, hg_27⟩, trivial⟩
  have hh_22 := hh_19.typ (k := 9) (n := 0) hB hraw_16n hbr0 hraw_19.lt (jOb.of (C := RX7) (T := TX7) (N := 5) (F := F9b) hB9 rfl hraw_19 (show jFx (F9b 0 (va_up G_13 r0 (some (9, 0)))) [.ref r1, .ref s.heap.size, .int 0, .ref H_5.size, .ref H_11.size] from hfa_22))
  have hgn_22 : (va_up G_13 r0 (some (9, 0))) r0 = some (9, 0) := jUp_self
  have hN_22 : (jNk [0, 1, 2, 3, 4, 5, 6, 7, 8, 10, 11, 12, 13, 14, 15, 16, 17, 175]) G_13 (va_up G_13 r0 (some (9, 0))) := jNk.new (by decide)
  have hNn_22 : (jNk [0, 1, 2, 3, 4, 5, 6, 7, 8, 10, 11, 12, 13, 14, 15, 16, 17, 175]) G0 (va_up G_13 r0 (some (9, 0))) := (hNn_13).tr hN_22
  have hkp_28 := hkp_20.typ (t := some (9, 0))
  exact W.vret hx hb hr (fun t ht hW => ⟨⟨(va_up G_13 r0 (some (9, 0))), rfl, trivial, ⟨hh_22.ra (by first | omega | (simp only; omega)) (by first | omega | (simp only; omega)) (M1 := []) [] rfl ht, hNn_22, hgn_22, by rw [ht]; exact hkp_28⟩⟩, by rw [ht]; try exact hh_22.1.1, fun q h9 hq => by rw [ht]; try exact hh_22.1.2.1 q h9 hq⟩) hh_22.1.2.2 dX7_init_34
end
section
theorem dX9_init_0 : decode cX9_init 0 = .ok (.aload_n 0, 1) := by decide +kernel
theorem dX9_init_1 : decode cX9_init 1 = .ok (.invokespecial 3, 3) := by decide +kernel
theorem dX9_init_4 : decode cX9_init 4 = .ok (.aload_n 0, 1) := by decide +kernel
theorem dX9_init_5 : decode cX9_init 5 = .ok (.iconst 0, 1) := by decide +kernel
theorem dX9_init_6 : decode cX9_init 6 = .ok (.newarray .int, 2) := by decide +kernel
theorem dX9_init_8 : decode cX9_init 8 = .ok (.putfield 9, 3) := by decide +kernel
theorem dX9_init_11 : decode cX9_init 11 = .ok (.aload_n 0, 1) := by decide +kernel
theorem dX9_init_12 : decode cX9_init 12 = .ok (.iconst 0, 1) := by decide +kernel
theorem dX9_init_13 : decode cX9_init 13 = .ok (.newarray .int, 2) := by decide +kernel
theorem dX9_init_15 : decode cX9_init 15 = .ok (.putfield 15, 3) := by decide +kernel
theorem dX9_init_18 : decode cX9_init 18 = .ok (.aload_n 0, 1) := by decide +kernel
theorem dX9_init_19 : decode cX9_init 19 = .ok (.iconst 0, 1) := by decide +kernel
theorem dX9_init_20 : decode cX9_init 20 = .ok (.anewarray 18, 3) := by decide +kernel
theorem dX9_init_23 : decode cX9_init 23 = .ok (.putfield 19, 3) := by decide +kernel
theorem dX9_init_26 : decode cX9_init 26 = .ok (.aload_n 0, 1) := by decide +kernel
theorem dX9_init_27 : decode cX9_init 27 = .ok (.iconst (-1), 1) := by decide +kernel
theorem dX9_init_28 : decode cX9_init 28 = .ok (.putfield 23, 3) := by decide +kernel
theorem dX9_init_31 : decode cX9_init 31 = .ok (.aload_n 0, 1) := by decide +kernel
theorem dX9_init_32 : decode cX9_init 32 = .ok (.iconst 0, 1) := by decide +kernel
theorem dX9_init_33 : decode cX9_init 33 = .ok (.newarray .int, 2) := by decide +kernel
theorem dX9_init_35 : decode cX9_init 35 = .ok (.putfield 27, 3) := by decide +kernel
theorem dX9_init_38 : decode cX9_init 38 = .ok (.aload_n 0, 1) := by decide +kernel
theorem dX9_init_39 : decode cX9_init 39 = .ok (.iconst 0, 1) := by decide +kernel
theorem dX9_init_40 : decode cX9_init 40 = .ok (.anewarray 30, 3) := by decide +kernel
theorem dX9_init_43 : decode cX9_init 43 = .ok (.putfield 32, 3) := by decide +kernel
theorem dX9_init_46 : decode cX9_init 46 = .ok (.aload_n 0, 1) := by decide +kernel
theorem dX9_init_47 : decode cX9_init 47 = .ok (.aconst_null, 1) := by decide +kernel
theorem dX9_init_48 : decode cX9_init 48 = .ok (.putfield 36, 3) := by decide +kernel
theorem dX9_init_51 : decode cX9_init 51 = .ok (.aload_n 0, 1) := by decide +kernel
theorem dX9_init_52 : decode cX9_init 52 = .ok (.iconst 0, 1) := by decide +kernel
theorem dX9_init_53 : decode cX9_init 53 = .ok (.newarray .int, 2) := by decide +kernel
theorem dX9_init_55 : decode cX9_init 55 = .ok (.putfield 40, 3) := by decide +kernel
theorem dX9_init_58 : decode cX9_init 58 = .ok (.return_, 1) := by decide +kernel
end
section
theorem dX6_init_0 : decode cX6_init 0 = .ok (.aload_n 0, 1) := by decide +kernel
theorem dX6_init_1 : decode cX6_init 1 = .ok (.invokespecial 3, 3) := by decide +kernel
theorem dX6_init_4 : decode cX6_init 4 = .ok (.aload_n 0, 1) := by decide +kernel
theorem dX6_init_5 : decode cX6_init 5 = .ok (.sipush 8192, 3) := by decide +kernel
theorem dX6_init_8 : decode cX6_init 8 = .ok (.newarray .long, 2) := by decide +kernel
theorem dX6_init_10 : decode cX6_init 10 = .ok (.putfield 11, 3) := by decide +kernel
theorem dX6_init_13 : decode cX6_init 13 = .ok (.aload_n 0, 1) := by decide +kernel
theorem dX6_init_14 : decode cX6_init 14 = .ok (.sipush 8192, 3) := by decide +kernel
theorem dX6_init_17 : decode cX6_init 17 = .ok (.newarray .int, 2) := by decide +kernel
theorem dX6_init_19 : decode cX6_init 19 = .ok (.putfield 15, 3) := by decide +kernel
theorem dX6_init_22 : decode cX6_init 22 = .ok (.aload_n 0, 1) := by decide +kernel
theorem dX6_init_23 : decode cX6_init 23 = .ok (.sipush 16384, 3) := by decide +kernel
theorem dX6_init_26 : decode cX6_init 26 = .ok (.newarray .int, 2) := by decide +kernel
theorem dX6_init_28 : decode cX6_init 28 = .ok (.putfield 19, 3) := by decide +kernel
theorem dX6_init_31 : decode cX6_init 31 = .ok (.ldc 22, 2) := by decide +kernel
theorem dX6_init_33 : decode cX6_init 33 = .ok (.invokevirtual 24, 3) := by decide +kernel
theorem dX6_init_36 : decode cX6_init 36 = .ok (.newarray .int, 2) := by decide +kernel
theorem dX6_init_38 : decode cX6_init 38 = .ok (.astore_n 1, 1) := by decide +kernel
theorem dX6_init_39 : decode cX6_init 39 = .ok (.iconst 0, 1) := by decide +kernel
theorem dX6_init_40 : decode cX6_init 40 = .ok (.istore_n 2, 1) := by decide +kernel
theorem dX6_init_41 : decode cX6_init 41 = .ok (.iconst 0, 1) := by decide +kernel
theorem dX6_init_42 : decode cX6_init 42 = .ok (.istore_n 3, 1) := by decide +kernel
theorem dX6_init_43 : decode cX6_init 43 = .ok (.iload_n 3, 1) := by decide +kernel
theorem dX6_init_44 : decode cX6_init 44 = .ok (.aload_n 1, 1) := by decide +kernel
theorem dX6_init_45 : decode cX6_init 45 = .ok (.arraylength, 1) := by decide +kernel
theorem dX6_init_46 : decode cX6_init 46 = .ok (.if_icmp .ge 39, 3) := by decide +kernel
theorem dX6_init_49 : decode cX6_init 49 = .ok (.aload_n 1, 1) := by decide +kernel
theorem dX6_init_50 : decode cX6_init 50 = .ok (.iload_n 3, 1) := by decide +kernel
theorem dX6_init_51 : decode cX6_init 51 = .ok (.ldc 22, 2) := by decide +kernel
theorem dX6_init_53 : decode cX6_init 53 = .ok (.iload_n 3, 1) := by decide +kernel
theorem dX6_init_54 : decode cX6_init 54 = .ok (.invokevirtual 30, 3) := by decide +kernel
theorem dX6_init_57 : decode cX6_init 57 = .ok (.iastore, 1) := by decide +kernel
theorem dX6_init_58 : decode cX6_init 58 = .ok (.aload_n 1, 1) := by decide +kernel
theorem dX6_init_59 : decode cX6_init 59 = .ok (.iload_n 3, 1) := by decide +kernel
theorem dX6_init_60 : decode cX6_init 60 = .ok (.iaload, 1) := by decide +kernel
theorem dX6_init_61 : decode cX6_init 61 = .ok (.bipush 32, 2) := by decide +kernel
theorem dX6_init_63 : decode cX6_init 63 = .ok (.if_icmp .ne 16, 3) := by decide +kernel
theorem dX6_init_66 : decode cX6_init 66 = .ok (.aload_n 0, 1) := by decide +kernel
theorem dX6_init_67 : decode cX6_init 67 = .ok (.aload_n 1, 1) := by decide +kernel
theorem dX6_init_68 : decode cX6_init 68 = .ok (.iload_n 2, 1) := by decide +kernel
theorem dX6_init_69 : decode cX6_init 69 = .ok (.iload_n 3, 1) := by decide +kernel
theorem dX6_init_70 : decode cX6_init 70 = .ok (.iconst 1, 1) := by decide +kernel
theorem dX6_init_71 : decode cX6_init 71 = .ok (.invokevirtual 34, 3) := by decide +kernel
theorem dX6_init_74 : decode cX6_init 74 = .ok (.pop, 1) := by decide +kernel
theorem dX6_init_75 : decode cX6_init 75 = .ok (.iload_n 3, 1) := by decide +kernel
theorem dX6_init_76 : decode cX6_init 76 = .ok (.iconst 1, 1) := by decide +kernel
theorem dX6_init_77 : decode cX6_init 77 = .ok (.iadd, 1) := by decide +kernel
theorem dX6_init_78 : decode cX6_init 78 = .ok (.istore_n 2, 1) := by decide +kernel
theorem dX6_init_79 : decode cX6_init 79 = .ok (.iinc 3 1, 3) := by decide +kernel
theorem dX6_init_82 : decode cX6_init 82 = .ok (.goto (-39), 3) := by decide +kernel
theorem dX6_init_85 : decode cX6_init 85 = .ok (.aload_n 0, 1) := by decide +kernel
theorem dX6_init_86 : decode cX6_init 86 = .ok (.aload_n 1, 1) := by decide +kernel
theorem dX6_init_87 : decode cX6_init 87 = .ok (.iload_n 2, 1) := by decide +kernel
theorem dX6_init_88 : decode cX6_init 88 = .ok (.aload_n 1, 1) := by decide +kernel
theorem dX6_init_89 : decode cX6_init 89 = .ok (.arraylength, 1) := by decide +kernel
theorem dX6_init_90 : decode cX6_init 90 = .ok (.iconst 1, 1) := by decide +kernel
theorem dX6_init_91 : decode cX6_init 91 = .ok (.invokevirtual 34, 3) := by decide +kernel
theorem dX6_init_94 : decode cX6_init 94 = .ok (.pop, 1) := by decide +kernel
theorem dX6_init_95 : decode cX6_init 95 = .ok (.return_, 1) := by decide +kernel
def EX6_numberOfB : List (Nat × Nat) := [(8, 3), (102, 0), (132, 0), (133, 0)]
def EX6_init : List (Nat × Nat) := [(8, 3), (101, 0), (102, 0), (132, 0), (133, 0)]
def qtx164 : String := match tables_1[164]? with | some (Jvm.Cond.stringRef _ _ t) => t | _ => ""
set_option maxHeartbeats 4000000 in
set_option maxRecDepth 20000 in
theorem uX6_numberOfB (l : Launch) (dC : Nat → ClassId) (dI : Nat → Nat → Nat) (ca : Nat → ClassId) (base : Nat) (B : jF) (hB : jBok B) (hAp : jAp (dC, dI)) (hB8 : ∀ n G a H, B 8 n G a H ↔ jOb (dC, dI) 8 4 (F8 n G) a H) (hB101 : ∀ n G a H, B 101 n G a H ↔ jAr (dC, dI) (ca 1) (fun j z => True) n a H) (hB102 : ∀ n G a H, B 102 n G a H ↔ jAl (dC, dI) (ca 2) n a H) (hB132 : ∀ n G a H, B 132 n G a H ↔ jAr (dC, dI) (ca 1) (fun j z => 0 ≤ z.toInt ∧ z.toInt ≤ 10) n a H) (hB133 : ∀ n G a H, B 133 n G a H ↔ jAr (dC, dI) (ca 1) (fun j z => 0 ≤ z.toInt ∧ z.toInt ≤ 8192) n a H) (G0 : jT) (H0 : Heap) (r0 : Nat) (r1 : Nat) (a2 : Int32) (a3 : Int32) (a4 : Int32) (n1 : Nat) (xs : Nat) (xp : Nat) (xl : Nat) : Met l yX6_numberOf (jw yX6_numberOf cX6_numberOf 10 (some .int)) ({ frames := 1, cells := 0, slots := 0, locals := 28 }) (va_Pc [.ref r0, .ref r1, .int a2, .int a3, .int a4] (fun U => U.heap = H0 ∧ jX B base G0 [] H0 ∧ jG dC dI ca base U ∧ G0 r0 = some (8, 0) ∧ G0 r1 = some (101, n1) ∧ G0 xs = some (102, 8192) ∧ G0 xp = some (132, 8192) ∧ G0 xl = some (133, 16384) ∧ jP (dC, dI) G0 H0 [(r0, 8, 0, .ref xs), (r0, 8, 1, .ref xp), (r0, 8, 2, .ref xl)] ∧ n1 < 2147483648)) (va_Qi (S := Unit) (fun r u => (-1 ≤ r.toInt ∧ r.toInt ≤ 8191)) (fun u t => (jRt (dC, dI) B base G0 EX6_numberOfB H0 [] t.heap) ∧ jKl [r0, xs, xp, xl] H0 t.heap) (jA base)) 0 0 (jA base) := by
  refine Met.ofW (cc := cX6_numberOf) (maxL := 10) (ret := (some .int)) (by decide) rfl ?_
  intro p e s m args below meth c s₁ Bd hml hv
  obtain ⟨rfl, hH0, hX, hG, hg_r0, hg_r1, hg_xs, hg_xp, hg_xl, hP0, hp0⟩ := hv
  have hK := hG.1
  have hx := Bd.exec
  have hb := Bd.bytes
  have hr := Bd.returns
  have hts := atoms_spec (ws := (jw yX6_numberOf cX6_numberOf 10 (some .int))) Bd.pre
  have htw : ∀ w ∈ jWl, w.before _ s = true := fun w h => hts w (List.mem_cons_of_mem _ h)
  have hown : s.vm.findClass RX6 = some m.cls := findClass_of_methodNamed Bd.named
  have hlocks := Bd.notSynchronized
  obtain ⟨Q, hQ⟩ : ∃ Q, Q = MQ below (va_Qi (S := Unit) (fun r u => (-1 ≤ r.toInt ∧ r.toInt ≤ 8191)) (fun u t => (jRt (dC, dI) B base G0 EX6_numberOfB H0 [] t.heap) ∧ jKl [r0, xs, xp, xl] H0 t.heap) (jA base)) ([.ref r0, .ref r1, .int a2, .int a3, .int a4] : List Value).toArray s 0 0 (jA base) := ⟨_, rfl⟩
  rw [← hQ]
  have hl := lv_entry ([.ref r0, .ref r1, .int a2, .int a3, .int a4]) (n := 10) (Nat.le_of_ble_eq_true rfl)
  rw [lg_entry_eq]
  generalize (lg_sl ([.ref r0, .ref r1, .int a2, .int a3, .int a4]) ++ List.replicate (10 - (lg_sl ([.ref r0, .ref r1, .int a2, .int a3, .int a4])).length) Slot.unset).toArray = ls at hl ⊢
  have hl : lv_has ls 10 [(0, .ref r0), (1, .ref r1), (2, .int a2), (3, .int a3), (4, .int a4)] := hl
  generalize hR : (headSpec (jw yX6_numberOf cX6_numberOf 10 (some .int)) ({ frames := 1, cells := 0, slots := 0, locals := 28 })).room = R
  subst hH0
  have hh : jSt (dC, dI) B base G0 G0 EX6_numberOfB s.heap 0 0 [(r0, 8, 0, .ref xs), (r0, 8, 1, .ref xp), (r0, 8, 2, .ref xl)] [] [] s.heap [] := jSt.start hX hP0 jMc.nil jIs.nil
  clear hX hP0
  have hkm1 : ((-1) : Int32).toInt = (-1) := by decide
  have hk0 : (0 : Int32).toInt = 0 := by decide
  have hk1 : (1 : Int32).toInt = 1 := by decide
  have hk6 : (6 : Int32).toInt = 6 := by decide
  have hk10 : (10 : Int32).toInt = 10 := by decide
  have hk39 : (39 : Int32).toInt = 39 := by decide
  have hrg_a2 := jb_rng a2
  have hrg_a3 := jb_rng a3
  have hrg_a4 := jb_rng a4
  have hfl : jKl [r0, xs, xp, xl] s.heap s.heap := jKl.rf
  refine lv_iload_n hx hb dX6_numberOf_0 rfl (lv_at hl 2 rfl) ?_
  refine lv_if_lt (tgt := 32) hx hb dX6_numberOf_1 (by decide) (fun c_1 => ?_) (fun c_1 => ?_)
  · skip
    have c_1' : a2.toInt < 0 := jb_lt (rfl) ((by decide)) c_1
    refine lv_iconst (v := (-1)) hx hb dX6_numberOf_32 (by decide) ?_
    rw [hQ]
    exact W.iret (v := (-1)) hx hb hr (fun t ht hW => ⟨⟨(-1), (), rfl, by first | omega | (refine ⟨?_, ?_⟩ <;> (first | omega | rfl | assumption | decide | exact Or.inl rfl | exact Or.inr rfl | (simp only; omega))), ⟨hh.rt (M1 := []) [] rfl ht, by rw [ht]; exact hfl⟩⟩, by rw [ht]; try exact hh.1.1, fun q h9 hq => by rw [ht]; try exact hh.1.2.1 q h9 hq⟩) hh.1.2.2 dX6_numberOf_33
  · skip
    have c_1' : a2.toInt ≥ 0 := jb_lt_n (rfl) ((by decide)) c_1
    refine lv_iload_n hx hb dX6_numberOf_4 rfl (lv_at hl 3 rfl) ?_
    refine lv_aload_n hx hb dX6_numberOf_5 rfl (lv_at hl 1 rfl) ?_
    refine j7_len hx hb hK hh hB101 1 rfl (by decide) hg_r1 (by omega) dX6_numberOf_6 (fun z_2 hz_2 => ?_)
    refine lv_icmp_gt (tgt := 32) hx hb dX6_numberOf_7 (by decide) (fun c_3 => ?_) (fun c_3 => ?_)
    · skip
      have c_3' : a3.toInt > z_2.toInt := jb_gt (rfl) (rfl) c_3
      refine lv_iconst (v := (-1)) hx hb dX6_numberOf_32 (by decide) ?_
      rw [hQ]
      exact W.iret (v := (-1)) hx hb hr (fun t ht hW => ⟨⟨(-1), (), rfl, by first | omega | (refine ⟨?_, ?_⟩ <;> (first | omega | rfl | assumption | decide | exact Or.inl rfl | exact Or.inr rfl | (simp only; omega))), ⟨hh.rt (M1 := []) [] rfl ht, by rw [ht]; exact hfl⟩⟩, by rw [ht]; try exact hh.1.1, fun q h9 hq => by rw [ht]; try exact hh.1.2.1 q h9 hq⟩) hh.1.2.2 dX6_numberOf_33
    · skip
      have c_3' : a3.toInt ≤ z_2.toInt := jb_gt_n (rfl) (rfl) c_3
      refine lv_iload_n hx hb dX6_numberOf_10 rfl (lv_at hl 2 rfl) ?_
      refine lv_iload_n hx hb dX6_numberOf_11 rfl (lv_at hl 3 rfl) ?_
      refine lv_icmp_ge (tgt := 32) hx hb dX6_numberOf_12 (by decide) (fun c_4 => ?_) (fun c_4 => ?_)
      · skip
        have c_4' : a2.toInt ≥ a3.toInt := jb_ge (rfl) (rfl) c_4
        refine lv_iconst (v := (-1)) hx hb dX6_numberOf_32 (by decide) ?_
        rw [hQ]
        exact W.iret (v := (-1)) hx hb hr (fun t ht hW => ⟨⟨(-1), (), rfl, by first | omega | (refine ⟨?_, ?_⟩ <;> (first | omega | rfl | assumption | decide | exact Or.inl rfl | exact Or.inr rfl | (simp only; omega))), ⟨hh.rt (M1 := []) [] rfl ht, by rw [ht]; exact hfl⟩⟩, by rw [ht]; try exact hh.1.1, fun q h9 hq => by rw [ht]; try exact hh.1.2.1 q h9 hq⟩) hh.1.2.2 dX6_numberOf_33
      · skip
        have c_4' : a2.toInt < a3.toInt := jb_ge_n (rfl) (rfl) c_4
        refine lv_iload_n hx hb dX6_numberOf_15 rfl (lv_at hl 3 rfl) ?_
        refine lv_iload_n hx hb dX6_numberOf_16 rfl (lv_at hl 2 rfl) ?_
        refine lv_isub hx hb dX6_numberOf_17 ?_
        refine lv_topi (fun z_5 ez_5 => ?_)
        have hz_5 : z_5.toInt = a3.toInt - a2.toInt := by rw [ez_5]; exact jb_isub2 (rfl) (rfl) (by omega)
        refine lv_bipush (v := 10) hx hb dX6_numberOf_18 (by decide) ?_
        refine lv_icmp_gt (tgt := 32) hx hb dX6_numberOf_20 (by decide) (fun c_6 => ?_) (fun c_6 => ?_)
        · skip
          have c_6' : z_5.toInt > 10 := jb_gt (rfl) ((by decide)) c_6
          refine lv_iconst (v := (-1)) hx hb dX6_numberOf_32 (by decide) ?_
          rw [hQ]
          exact W.iret (v := (-1)) hx hb hr (fun t ht hW => ⟨⟨(-1), (), rfl, by first | omega | (refine ⟨?_, ?_⟩ <;> (first | omega | rfl | assumption | decide | exact Or.inl rfl | exact Or.inr rfl | (simp only; omega))), ⟨hh.rt (M1 := []) [] rfl ht, by rw [ht]; exact hfl⟩⟩, by rw [ht]; try exact hh.1.1, fun q h9 hq => by rw [ht]; try exact hh.1.2.1 q h9 hq⟩) hh.1.2.2 dX6_numberOf_33
        · skip
          have c_6' : z_5.toInt ≤ 10 := jb_gt_n (rfl) ((by decide)) c_6
          refine lv_aload_n hx hb dX6_numberOf_23 rfl (lv_at hl 1 rfl) ?_
          refine lv_iload_n hx hb dX6_numberOf_24 rfl (lv_at hl 2 rfl) ?_
          refine j7_iald hx hb hK hh hB101 1 rfl (by decide) hg_r1 (x := a2.toInt) (rfl) (by omega) dX6_numberOf_25 (fun z_7 (hz_7 : True) => ?_)
          refine vp_callSi (va_Run.run (va_runSN (As := [.int z_7]) (rest := []) ⟨hx, hb, hml, hown, hts⟩ (wX11_isLetter l dC dI ca base s.heap z_7) ⟨va_cnB 1 hts (jgW (jWr_7 _ (List.mem_of_getElem? (i := 18) rfl))) rfl rfl rfl (hG.2.2.1 RX6 38 yX11_isLetter "ProofServer" (List.mem_of_getElem? (i := 217) (by decide +kernel))) (htw (.initialized RX11) (jWr_1 _ (List.mem_of_getElem? (i := 2) rfl))) (by decide +kernel) ⟨by rw [← hR]; exact Nat.le_of_ble_eq_true rfl, by rw [← hR]; exact Nat.le_of_ble_eq_true rfl⟩, htw (.static yX11_isLetter) (jWr_7 _ (List.mem_of_getElem? (i := 17) rfl)), trivial⟩ ⟨fun a U g mk q => by obtain ⟨q0, q1, qK, q9⟩ := q; exact ⟨q0, q1, jG.calling g mk a qK, q9⟩, fun U hU hW => ⟨rfl, hU, hG.step hW hU hh.1, by first | trivial | omega | (constructor <;> omega)⟩⟩ rfl rfl hl.1 rfl (lv_room (Nat.le_of_ble_eq_true rfl)) dX6_numberOf_26 ⟨Nat.zero_le _, Nat.zero_le _⟩)) (fun r_8 hr_8 => ?_)
          have hr_8' : r_8.toInt = 0 ∨ r_8.toInt = 1 := jb_01 hr_8
          refine lv_if_ne (tgt := 34) hx hb dX6_numberOf_29 (by decide) (fun c_9 => ?_) (fun c_9 => ?_)
          · skip
            have c_9' : r_8.toInt ≠ 0 := jb_ne (rfl) ((by decide)) c_9
            refine lv_iload_n hx hb dX6_numberOf_34 rfl (lv_at hl 3 rfl) ?_
            refine lv_istore (lv' := [(5, .int a3), (0, .ref r0), (1, .ref r1), (2, .int a2), (3, .int a3), (4, .int a4)]) hx hb dX6_numberOf_35 hl (by decide) rfl (fun ls hl => ?_)
            have L37 : ∀ (N : Nat) (v5_10 : Int32) (H_10 : Heap) (locs_10 : List Loc), jSt (dC, dI) B base G0 G0 EX6_numberOfB s.heap 0 0 [(r0, 8, 0, .ref xs), (r0, 8, 1, .ref xp), (r0, 8, 2, .ref xl)] [] [] H_10 locs_10 → jKl [r0, xs, xp, xl] s.heap H_10 → (a2.toInt ≤ v5_10.toInt ∧ v5_10.toInt ≤ a3.toInt) → (v5_10.toInt - a2.toInt : Int) < N → ∀ ls : Array Slot, lv_has ls 10 [(0, .ref r0), (1, .ref r1), (2, .int a2), (3, .int a3), (4, .int a4), (5, .int v5_10)] → W p l e R s m ([.ref r0, .ref r1, .int a2, .int a3, .int a4] : List Value).toArray below meth c H_10 locs_10 0 0 Q (F0 m 37 ls []) := by
              intro N
              induction N with
              | zero => intro v5_10 H_10 locs_10 hh_10 hfl_10 hi_10 hm; exact absurd hm (by omega)
              | succ N L37 =>
                intro v5_10 H_10 locs_10 hh_10 hfl_10 hi_10 hm_10 ls hl
                obtain ⟨hi_10_0, hi_10_1⟩ := hi_10
                refine lv_iload hx hb dX6_numberOf_37 (lv_at hl 5 rfl) ?_
                refine lv_iload_n hx hb dX6_numberOf_39 rfl (lv_at hl 2 rfl) ?_
                refine lv_icmp_le (tgt := 60) hx hb dX6_numberOf_40 (by decide) (fun c_11 => ?_) (fun c_11 => ?_)
                · skip
                  have c_11' : v5_10.toInt ≤ a2.toInt := jb_le (rfl) (rfl) c_11
                  refine lv_lconst (v := 1) hx hb dX6_numberOf_60 (by decide) ?_
                  refine lv_lstore (lv' := [(6, .long 1), (0, .ref r0), (1, .ref r1), (2, .int a2), (3, .int a3), (4, .int a4), (5, .int v5_10)]) hx hb dX6_numberOf_61 hl (by decide) rfl (fun ls hl => ?_)
                  refine lv_iload hx hb dX6_numberOf_63 (lv_at hl 6 rfl) ?_
                  refine lv_iconst (v := 1) hx hb dX6_numberOf_65 (by decide) ?_
                  refine lv_isub hx hb dX6_numberOf_66 ?_
                  refine lv_topi (fun z_12 ez_12 => ?_)
                  have hz_12 : z_12.toInt = v5_10.toInt - 1 := by rw [ez_12]; exact jb_isub2 (rfl) ((by decide)) (by omega)
                  refine lv_istore (lv' := [(8, .int z_12), (6, .long 1), (0, .ref r0), (1, .ref r1), (2, .int a2), (3, .int a3), (4, .int a4), (5, .int v5_10)]) hx hb dX6_numberOf_67 hl (by decide) rfl (fun ls hl => ?_)
                  have L69 : ∀ (N : Nat) (v6_13 : Int64) (v8_13 : Int32) (H_13 : Heap) (locs_13 : List Loc), jSt (dC, dI) B base G0 G0 EX6_numberOfB s.heap 0 0 [(r0, 8, 0, .ref xs), (r0, 8, 1, .ref xp), (r0, 8, 2, .ref xl)] [] [] H_13 locs_13 → jKl [r0, xs, xp, xl] s.heap H_13 → (a2.toInt - 1 ≤ v8_13.toInt ∧ v8_13.toInt < a3.toInt) → (v8_13.toInt + 1 - a2.toInt : Int) < N → ∀ ls : Array Slot, lv_has ls 10 [(0, .ref r0), (1, .ref r1), (2, .int a2), (3, .int a3), (4, .int a4), (5, .int v5_10), (6, .long v6_13), (8, .int v8_13)] → W p l e R s m ([.ref r0, .ref r1, .int a2, .int a3, .int a4] : List Value).toArray below meth c H_13 locs_13 0 0 Q (F0 m 69 ls []) := by
                    intro N
                    induction N with
                    | zero => intro v6_13 v8_13 H_13 locs_13 hh_13 hfl_13 hi_13 hm; exact absurd hm (by omega)
                    | succ N L69 =>
                      intro v6_13 v8_13 H_13 locs_13 hh_13 hfl_13 hi_13 hm_13 ls hl
                      obtain ⟨hi_13_0, hi_13_1⟩ := hi_13
                      refine lv_iload hx hb dX6_numberOf_69 (lv_at hl 7 rfl) ?_
                      refine lv_iload_n hx hb dX6_numberOf_71 rfl (lv_at hl 2 rfl) ?_
                      refine lv_icmp_lt (tgt := 108) hx hb dX6_numberOf_72 (by decide) (fun c_14 => ?_) (fun c_14 => ?_)
                      · skip
                        have c_14' : v8_13.toInt < a2.toInt := jb_lt (rfl) (rfl) c_14
                        refine lv_aload_n hx hb dX6_numberOf_108 rfl (lv_at hl 0 rfl) ?_
                        refine lv_lload hx hb dX6_numberOf_109 (lv_at hl 6 rfl) ?_
                        refine lv_iload_n hx hb dX6_numberOf_111 rfl (lv_at hl 3 rfl) ?_
                        refine lv_iload hx hb dX6_numberOf_112 (lv_at hl 5 rfl) ?_
                        refine lv_isub hx hb dX6_numberOf_114 ?_
                        refine lv_topi (fun z_15 ez_15 => ?_)
                        have hz_15 : z_15.toInt = a3.toInt - v5_10.toInt := by rw [ez_15]; exact jb_isub2 (rfl) (rfl) (by omega)
                        refine lv_iload hx hb dX6_numberOf_115 (lv_at hl 4 rfl) ?_
                        refine va_calli (A0 := jA base) (H0 := s.heap) (va_runV (As := [.long v6_13, .int z_15, .int a4]) (rest := []) ⟨hx, hb, hml, hown, hts⟩ (uX6_findB l dC dI ca base B hB hAp hB8 hB102 hB132 hB133 G0 H_13 r0 v6_13 z_15 a4 xs xp xl) (cwV 3 hts (jgV (jWr_7 _ (List.mem_of_getElem? (i := 22) rfl)) (jWr_7 _ (List.mem_of_getElem? (i := 23) rfl)) (jWr_8 _ (List.mem_of_getElem? (i := 0) rfl)) (jWr_4 _ (List.mem_of_getElem? (i := 10) rfl)) (jWr_8 _ (List.mem_of_getElem? (i := 1) rfl))) rfl rfl rfl (by decide +kernel) ⟨by rw [← hR]; exact Nat.le_of_ble_eq_true rfl, by rw [← hR]; exact Nat.le_of_ble_eq_true rfl⟩) ⟨fun a U g mk q => by obtain ⟨q0, q1, q2, qK, q10, q11, q12, q13, q14, q15⟩ := q; exact ⟨q0, q1, q2, jG.calling g mk a qK, q10, q11, q12, q13, q14, q15⟩, hh_13.recv (C := RX6) (T := TX6) (N := 4) hB8 rfl (by decide) hg_r0 hK, fun U hU hW => ⟨rfl, hU, hh_13.2.1, hG.step hW hU hh_13.1, hg_r0, hg_xs, hg_xp, hg_xl, (hh_13.2.2.1.sub (L1 := [(r0, 8, 0, .ref xs), (r0, 8, 1, .ref xp), (r0, 8, 2, .ref xl)]) [0, 1, 2] rfl), by first | omega | (refine ⟨?_, ?_⟩ <;> (first | omega | rfl | assumption | decide | exact Or.inl rfl | exact Or.inr rfl | (simp only; omega)))⟩⟩ rfl rfl hl.1 rfl (lv_room (Nat.le_of_ble_eq_true rfl)) dX6_numberOf_117 ⟨Nat.zero_le _, Nat.zero_le _⟩) hh_13.1 (fun q _ h => h) (fun q h => h) (fun r_17 u_16 t_16 H_16 locs_16 ht_16 hvm_16 hr_17 hb_16 hz_16 hk_16 hS_16 => ?_)
                        rw [ht_16] at hb_16
                        obtain ⟨hb_16, hbF_16⟩ := hb_16
                        obtain ⟨hb_161, hb_162, hb_163, hb_164, hb_165⟩ := hb_16
                        have hh_16 : jSt (dC, dI) B base G0 G0 EX6_numberOfB s.heap 0 0 [(r0, 8, 0, .ref xs), (r0, 8, 1, .ref xp), (r0, 8, 2, .ref xl)] [] [] H_16 locs_16 := ((hh_13.call hb_161 hb_162 hb_163 hb_164 hS_16 rfl (L1 := [(r0, 8, 0, .ref xs), (r0, 8, 1, .ref xp), (r0, 8, 2, .ref xl)]) [0, 1, 2] rfl rfl (M1 := []) [] rfl rfl (I1 := []) [] rfl rfl).more hb_165)
                        clear hh_13 ht_16 hvm_16 hz_16 hk_16 hS_16 hb_161 hb_162 hb_163 hb_164 hb_165
                        have hfl_18 := hfl_13.tr hbF_16 (by first | exact fun q h => h | (intro q h9; simp at h9 ⊢; exact h9) | (intro q h9; simp at h9))
                        obtain ⟨hr_17_0, hr_17_1⟩ := hr_17
                        rw [hQ]
                        exact W.iret (v := r_17) hx hb hr (fun t ht hW => ⟨⟨r_17, (), rfl, by first | omega | (refine ⟨?_, ?_⟩ <;> (first | omega | rfl | assumption | decide | exact Or.inl rfl | exact Or.inr rfl | (simp only; omega))), ⟨hh_16.rt (M1 := []) [] rfl ht, by rw [ht]; exact hfl_18⟩⟩, by rw [ht]; try exact hh_16.1.1, fun q h9 hq => by rw [ht]; try exact hh_16.1.2.1 q h9 hq⟩) hh_16.1.2.2 dX6_numberOf_120
                      · skip
                        have c_14' : v8_13.toInt ≥ a2.toInt := jb_lt_n (rfl) (rfl) c_14
                        refine lv_aload_n hx hb dX6_numberOf_75 rfl (lv_at hl 1 rfl) ?_
                        refine lv_iload hx hb dX6_numberOf_76 (lv_at hl 7 rfl) ?_
                        refine j7_iald hx hb hK hh_13 hB101 1 rfl (by decide) hg_r1 (x := v8_13.toInt) (rfl) (by omega) dX6_numberOf_78 (fun z_19 (hz_19 : True) => ?_)
                        refine vp_callSi (W.runS (As := [.int z_19]) (rest := []) ⟨hx, hb, hml, hown, hts⟩ (wX6_signOf l dC dI ca base H_13 z_19) (va_cwS 1 hts (jgS (jWr_7 _ (List.mem_of_getElem? (i := 19) rfl)) (jWr_7 _ (List.mem_of_getElem? (i := 20) rfl)) (jWr_4 _ (List.mem_of_getElem? (i := 10) rfl)) (jWr_7 _ (List.mem_of_getElem? (i := 21) rfl))) rfl rfl rfl (by decide +kernel) ⟨by rw [← hR]; exact Nat.le_of_ble_eq_true rfl, by rw [← hR]; exact Nat.le_of_ble_eq_true rfl⟩) ⟨fun a U g mk q => by obtain ⟨q0, q1, qK, q9⟩ := q; exact ⟨q0, q1, jG.calling g mk a qK, q9⟩, fun U hU hW => ⟨rfl, hU, hG.step hW hU hh_13.1, by first | trivial | omega | (constructor <;> omega)⟩⟩ rfl rfl hl.1 rfl (lv_room (Nat.le_of_ble_eq_true rfl)) dX6_numberOf_79 ⟨Nat.zero_le _, Nat.zero_le _⟩) (fun r_20 hr_20 => ?_)
                        refine lv_istore (lv' := [(9, .int r_20), (0, .ref r0), (1, .ref r1), (2, .int a2), (3, .int a3), (4, .int a4), (5, .int v5_10), (6, .long v6_13), (8, .int v8_13)]) hx hb dX6_numberOf_82 hl (by decide) rfl (fun ls hl => ?_)
                        refine lv_iload hx hb dX6_numberOf_84 (lv_at hl 0 rfl) ?_
                        refine lv_if_ge (tgt := 91) hx hb dX6_numberOf_86 (by decide) (fun c_21 => ?_) (fun c_21 => ?_)
                        · skip
                          have c_21' : r_20.toInt ≥ 0 := jb_ge (rfl) ((by decide)) c_21
                          refine lv_lload hx hb dX6_numberOf_91 (lv_at hl 7 rfl) ?_
                          refine lv_bipush (v := 6) hx hb dX6_numberOf_93 (by decide) ?_
                          refine lv_lshl hx hb dX6_numberOf_95 rfl ?_
                          refine lv_topl (fun z_22 ez_22 => ?_)
                          refine lv_iload hx hb dX6_numberOf_96 (lv_at hl 0 rfl) ?_
                          refine lv_i2l hx hb dX6_numberOf_98 rfl ?_
                          refine lv_topl (fun z_23 ez_23 => ?_)
                          refine lv_lor hx hb dX6_numberOf_99 ?_
                          refine lv_topl (fun z_24 ez_24 => ?_)
                          refine lv_lstore (lv' := [(6, .long z_24), (9, .int r_20), (0, .ref r0), (1, .ref r1), (2, .int a2), (3, .int a3), (4, .int a4), (5, .int v5_10), (8, .int v8_13)]) hx hb dX6_numberOf_100 hl (by decide) rfl (fun ls hl => ?_)
                          obtain ⟨z_25, ez_25⟩ : ∃ y : Int32, y = v8_13 + (-1) := ⟨_, rfl⟩
                          refine lv_iinc (v := z_25) (lv' := [(8, .int z_25), (6, .long z_24), (9, .int r_20), (0, .ref r0), (1, .ref r1), (2, .int a2), (3, .int a3), (4, .int a4), (5, .int v5_10)]) hx hb dX6_numberOf_102 hl (k := 8) rfl (by rw [ez_25]; rfl) (by decide) rfl (fun ls hl => ?_)
                          have hz_25 : z_25.toInt = v8_13.toInt + (-1) := by rw [ez_25]; exact jb_iadd2 (rfl) (by decide) (by omega)
                          refine lv_goto (tgt := 69) hx hb dX6_numberOf_105 (by decide) ?_
                          exact L69 z_24 z_25 _ _ hh_13 (hfl_13) (by first | omega | (refine ⟨?_, ?_⟩ <;> (first | omega | rfl | assumption | decide | exact Or.inl rfl | exact Or.inr rfl | (simp only; omega)))) (by omega) _ (lv_sub hl [3, 4, 5, 6, 7, 8, 1, 0] rfl)
                        · skip
                          have c_21' : r_20.toInt < 0 := jb_ge_n (rfl) ((by decide)) c_21
                          refine lv_iconst (v := (-1)) hx hb dX6_numberOf_89 (by decide) ?_
                          rw [hQ]
                          exact W.iret (v := (-1)) hx hb hr (fun t ht hW => ⟨⟨(-1), (), rfl, by first | omega | (refine ⟨?_, ?_⟩ <;> (first | omega | rfl | assumption | decide | exact Or.inl rfl | exact Or.inr rfl | (simp only; omega))), ⟨hh_13.rt (M1 := []) [] rfl ht, by rw [ht]; exact hfl_13⟩⟩, by rw [ht]; try exact hh_13.1.1, fun q h9 hq => by rw [ht]; try exact hh_13.1.2.1 q h9 hq⟩) hh_13.1.2.2 dX6_numberOf_90
                  exact L69 ((z_12 : Int32).toInt + 1 - a2.toInt : Int).toNat.succ 1 z_12 _ _ hh_10 (hfl_10) (by first | omega | (refine ⟨?_, ?_⟩ <;> (first | omega | rfl | assumption | decide | exact Or.inl rfl | exact Or.inr rfl | (simp only; omega)))) (by omega) _ (lv_sub hl [2, 3, 4, 5, 6, 7, 1, 0] rfl)
                · skip
                  have c_11' : v5_10.toInt > a2.toInt := jb_le_n (rfl) (rfl) c_11
                  refine lv_aload_n hx hb dX6_numberOf_43 rfl (lv_at hl 1 rfl) ?_
                  refine lv_iload hx hb dX6_numberOf_44 (lv_at hl 5 rfl) ?_
                  refine lv_iconst (v := 1) hx hb dX6_numberOf_46 (by decide) ?_
                  refine lv_isub hx hb dX6_numberOf_47 ?_
                  refine lv_topi (fun z_26 ez_26 => ?_)
                  have hz_26 : z_26.toInt = v5_10.toInt - 1 := by rw [ez_26]; exact jb_isub2 (rfl) ((by decide)) (by omega)
                  refine j7_iald hx hb hK hh_10 hB101 1 rfl (by decide) hg_r1 (x := z_26.toInt) (rfl) (by omega) dX6_numberOf_48 (fun z_27 (hz_27 : True) => ?_)
                  refine lv_bipush (v := 39) hx hb dX6_numberOf_49 (by decide) ?_
                  refine lv_icmp_ne (tgt := 60) hx hb dX6_numberOf_51 (by decide) (fun c_28 => ?_) (fun c_28 => ?_)
                  · skip
                    have c_28' : z_27.toInt ≠ 39 := jb_ne (rfl) ((by decide)) c_28
                    refine lv_lconst (v := 1) hx hb dX6_numberOf_60 (by decide) ?_
                    refine lv_lstore (lv' := [(6, .long 1), (0, .ref r0), (1, .ref r1), (2, .int a2), (3, .int a3), (4, .int a4), (5, .int v5_10)]) hx hb dX6_numberOf_61 hl (by decide) rfl (fun ls hl => ?_)
                    refine lv_iload hx hb dX6_numberOf_63 (lv_at hl 6 rfl) ?_
                    refine lv_iconst (v := 1) hx hb dX6_numberOf_65 (by decide) ?_
                    refine lv_isub hx hb dX6_numberOf_66 ?_
                    refine lv_topi (fun z_29 ez_29 => ?_)
                    have hz_29 : z_29.toInt = v5_10.toInt - 1 := by rw [ez_29]; exact jb_isub2 (rfl) ((by decide)) (by omega)
                    refine lv_istore (lv' := [(8, .int z_29), (6, .long 1), (0, .ref r0), (1, .ref r1), (2, .int a2), (3, .int a3), (4, .int a4), (5, .int v5_10)]) hx hb dX6_numberOf_67 hl (by decide) rfl (fun ls hl => ?_)
                    have L69 : ∀ (N : Nat) (v6_30 : Int64) (v8_30 : Int32) (H_30 : Heap) (locs_30 : List Loc), jSt (dC, dI) B base G0 G0 EX6_numberOfB s.heap 0 0 [(r0, 8, 0, .ref xs), (r0, 8, 1, .ref xp), (r0, 8, 2, .ref xl)] [] [] H_30 locs_30 → jKl [r0, xs, xp, xl] s.heap H_30 → (a2.toInt - 1 ≤ v8_30.toInt ∧ v8_30.toInt < a3.toInt) → (v8_30.toInt + 1 - a2.toInt : Int) < N → ∀ ls : Array Slot, lv_has ls 10 [(0, .ref r0), (1, .ref r1), (2, .int a2), (3, .int a3), (4, .int a4), (5, .int v5_10), (6, .long v6_30), (8, .int v8_30)] → W p l e R s m ([.ref r0, .ref r1, .int a2, .int a3, .int a4] : List Value).toArray below meth c H_30 locs_30 0 0 Q (F0 m 69 ls []) := by
                      intro N
                      induction N with
                      | zero => intro v6_30 v8_30 H_30 locs_30 hh_30 hfl_30 hi_30 hm; exact absurd hm (by omega)
                      | succ N L69 =>
                        intro v6_30 v8_30 H_30 locs_30 hh_30 hfl_30 hi_30 hm_30 ls hl
                        obtain ⟨hi_30_0, hi_30_1⟩ := hi_30
                        refine lv_iload hx hb dX6_numberOf_69 (lv_at hl 7 rfl) ?_
                        refine lv_iload_n hx hb dX6_numberOf_71 rfl (lv_at hl 2 rfl) ?_
                        refine lv_icmp_lt (tgt := 108) hx hb dX6_numberOf_72 (by decide) (fun c_31 => ?_) (fun c_31 => ?_)
                        · skip
                          have c_31' : v8_30.toInt < a2.toInt := jb_lt (rfl) (rfl) c_31
                          refine lv_aload_n hx hb dX6_numberOf_108 rfl (lv_at hl 0 rfl) ?_
                          refine lv_lload hx hb dX6_numberOf_109 (lv_at hl 6 rfl) ?_
                          refine lv_iload_n hx hb dX6_numberOf_111 rfl (lv_at hl 3 rfl) ?_
                          refine lv_iload hx hb dX6_numberOf_112 (lv_at hl 5 rfl) ?_
                          refine lv_isub hx hb dX6_numberOf_114 ?_
                          refine lv_topi (fun z_32 ez_32 => ?_)
                          have hz_32 : z_32.toInt = a3.toInt - v5_10.toInt := by rw [ez_32]; exact jb_isub2 (rfl) (rfl) (by omega)
                          refine lv_iload hx hb dX6_numberOf_115 (lv_at hl 4 rfl) ?_
                          refine va_calli (A0 := jA base) (H0 := s.heap) (va_runV (As := [.long v6_30, .int z_32, .int a4]) (rest := []) ⟨hx, hb, hml, hown, hts⟩ (uX6_findB l dC dI ca base B hB hAp hB8 hB102 hB132 hB133 G0 H_30 r0 v6_30 z_32 a4 xs xp xl) (cwV 3 hts (jgV (jWr_7 _ (List.mem_of_getElem? (i := 22) rfl)) (jWr_7 _ (List.mem_of_getElem? (i := 23) rfl)) (jWr_8 _ (List.mem_of_getElem? (i := 0) rfl)) (jWr_4 _ (List.mem_of_getElem? (i := 10) rfl)) (jWr_8 _ (List.mem_of_getElem? (i := 1) rfl))) rfl rfl rfl (by decide +kernel) ⟨by rw [← hR]; exact Nat.le_of_ble_eq_true rfl, by rw [← hR]; exact Nat.le_of_ble_eq_true rfl⟩) ⟨fun a U g mk q => by obtain ⟨q0, q1, q2, qK, q10, q11, q12, q13, q14, q15⟩ := q; exact ⟨q0, q1, q2, jG.calling g mk a qK, q10, q11, q12, q13, q14, q15⟩, hh_30.recv (C := RX6) (T := TX6) (N := 4) hB8 rfl (by decide) hg_r0 hK, fun U hU hW => ⟨rfl, hU, hh_30.2.1, hG.step hW hU hh_30.1, hg_r0, hg_xs, hg_xp, hg_xl, (hh_30.2.2.1.sub (L1 := [(r0, 8, 0, .ref xs), (r0, 8, 1, .ref xp), (r0, 8, 2, .ref xl)]) [0, 1, 2] rfl), by first | omega | (refine ⟨?_, ?_⟩ <;> (first | omega | rfl | assumption | decide | exact Or.inl rfl | exact Or.inr rfl | (simp only; omega)))⟩⟩ rfl rfl hl.1 rfl (lv_room (Nat.le_of_ble_eq_true rfl)) dX6_numberOf_117 ⟨Nat.zero_le _, Nat.zero_le _⟩) hh_30.1 (fun q _ h => h) (fun q h => h) (fun r_34 u_33 t_33 H_33 locs_33 ht_33 hvm_33 hr_34 hb_33 hz_33 hk_33 hS_33 => ?_)
                          rw [ht_33] at hb_33
                          obtain ⟨hb_33, hbF_33⟩ := hb_33
                          obtain ⟨hb_331, hb_332, hb_333, hb_334, hb_335⟩ := hb_33
                          have hh_33 : jSt (dC, dI) B base G0 G0 EX6_numberOfB s.heap 0 0 [(r0, 8, 0, .ref xs), (r0, 8, 1, .ref xp), (r0, 8, 2, .ref xl)] [] [] H_33 locs_33 := ((hh_30.call hb_331 hb_332 hb_333 hb_334 hS_33 rfl (L1 := [(r0, 8, 0, .ref xs), (r0, 8, 1, .ref xp), (r0, 8, 2, .ref xl)]) [0, 1, 2] rfl rfl (M1 := []) [] rfl rfl (I1 := []) [] rfl rfl).more hb_335)
                          clear hh_30 ht_33 hvm_33 hz_33 hk_33 hS_33 hb_331 hb_332 hb_333 hb_334 hb_335
                          have hfl_35 := hfl_30.tr hbF_33 (by first | exact fun q h => h | (intro q h9; simp at h9 ⊢; exact h9) | (intro q h9; simp at h9))
                          obtain ⟨hr_34_0, hr_34_1⟩ := hr_34
                          rw [hQ]
                          exact W.iret (v := r_34) hx hb hr (fun t ht hW => ⟨⟨r_34, (), rfl, by first | omega | (refine ⟨?_, ?_⟩ <;> (first | omega | rfl | assumption | decide | exact Or.inl rfl | exact Or.inr rfl | (simp only; omega))), ⟨hh_33.rt (M1 := []) [] rfl ht, by rw [ht]; exact hfl_35⟩⟩, by rw [ht]; try exact hh_33.1.1, fun q h9 hq => by rw [ht]; try exact hh_33.1.2.1 q h9 hq⟩) hh_33.1.2.2 dX6_numberOf_120
                        · skip
                          have c_31' : v8_30.toInt ≥ a2.toInt := jb_lt_n (rfl) (rfl) c_31
                          refine lv_aload_n hx hb dX6_numberOf_75 rfl (lv_at hl 1 rfl) ?_
                          refine lv_iload hx hb dX6_numberOf_76 (lv_at hl 7 rfl) ?_
                          refine j7_iald hx hb hK hh_30 hB101 1 rfl (by decide) hg_r1 (x := v8_30.toInt) (rfl) (by omega) dX6_numberOf_78 (fun z_36 (hz_36 : True) => ?_)
                          refine vp_callSi (W.runS (As := [.int z_36]) (rest := []) ⟨hx, hb, hml, hown, hts⟩ (wX6_signOf l dC dI ca base H_30 z_36) (va_cwS 1 hts (jgS (jWr_7 _ (List.mem_of_getElem? (i := 19) rfl)) (jWr_7 _ (List.mem_of_getElem? (i := 20) rfl)) (jWr_4 _ (List.mem_of_getElem? (i := 10) rfl)) (jWr_7 _ (List.mem_of_getElem? (i := 21) rfl))) rfl rfl rfl (by decide +kernel) ⟨by rw [← hR]; exact Nat.le_of_ble_eq_true rfl, by rw [← hR]; exact Nat.le_of_ble_eq_true rfl⟩) ⟨fun a U g mk q => by obtain ⟨q0, q1, qK, q9⟩ := q; exact ⟨q0, q1, jG.calling g mk a qK, q9⟩, fun U hU hW => ⟨rfl, hU, hG.step hW hU hh_30.1, by first | trivial | omega | (constructor <;> omega)⟩⟩ rfl rfl hl.1 rfl (lv_room (Nat.le_of_ble_eq_true rfl)) dX6_numberOf_79 ⟨Nat.zero_le _, Nat.zero_le _⟩) (fun r_37 hr_37 => ?_)
                          refine lv_istore (lv' := [(9, .int r_37), (0, .ref r0), (1, .ref r1), (2, .int a2), (3, .int a3), (4, .int a4), (5, .int v5_10), (6, .long v6_30), (8, .int v8_30)]) hx hb dX6_numberOf_82 hl (by decide) rfl (fun ls hl => ?_)
                          refine lv_iload hx hb dX6_numberOf_84 (lv_at hl 0 rfl) ?_
                          refine lv_if_ge (tgt := 91) hx hb dX6_numberOf_86 (by decide) (fun c_38 => ?_) (fun c_38 => ?_)
                          · skip
                            have c_38' : r_37.toInt ≥ 0 := jb_ge (rfl) ((by decide)) c_38
                            refine lv_lload hx hb dX6_numberOf_91 (lv_at hl 7 rfl) ?_
                            refine lv_bipush (v := 6) hx hb dX6_numberOf_93 (by decide) ?_
                            refine lv_lshl hx hb dX6_numberOf_95 rfl ?_
                            refine lv_topl (fun z_39 ez_39 => ?_)
                            refine lv_iload hx hb dX6_numberOf_96 (lv_at hl 0 rfl) ?_
                            refine lv_i2l hx hb dX6_numberOf_98 rfl ?_
                            refine lv_topl (fun z_40 ez_40 => ?_)
                            refine lv_lor hx hb dX6_numberOf_99 ?_
                            refine lv_topl (fun z_41 ez_41 => ?_)
                            refine lv_lstore (lv' := [(6, .long z_41), (9, .int r_37), (0, .ref r0), (1, .ref r1), (2, .int a2), (3, .int a3), (4, .int a4), (5, .int v5_10), (8, .int v8_30)]) hx hb dX6_numberOf_100 hl (by decide) rfl (fun ls hl => ?_)
                            obtain ⟨z_42, ez_42⟩ : ∃ y : Int32, y = v8_30 + (-1) := ⟨_, rfl⟩
                            refine lv_iinc (v := z_42) (lv' := [(8, .int z_42), (6, .long z_41), (9, .int r_37), (0, .ref r0), (1, .ref r1), (2, .int a2), (3, .int a3), (4, .int a4), (5, .int v5_10)]) hx hb dX6_numberOf_102 hl (k := 8) rfl (by rw [ez_42]; rfl) (by decide) rfl (fun ls hl => ?_)
                            have hz_42 : z_42.toInt = v8_30.toInt + (-1) := by rw [ez_42]; exact jb_iadd2 (rfl) (by decide) (by omega)
                            refine lv_goto (tgt := 69) hx hb dX6_numberOf_105 (by decide) ?_
                            exact L69 z_41 z_42 _ _ hh_30 (hfl_30) (by first | omega | (refine ⟨?_, ?_⟩ <;> (first | omega | rfl | assumption | decide | exact Or.inl rfl | exact Or.inr rfl | (simp only; omega)))) (by omega) _ (lv_sub hl [3, 4, 5, 6, 7, 8, 1, 0] rfl)
                          · skip
                            have c_38' : r_37.toInt < 0 := jb_ge_n (rfl) ((by decide)) c_38
                            refine lv_iconst (v := (-1)) hx hb dX6_numberOf_89 (by decide) ?_
                            rw [hQ]
                            exact W.iret (v := (-1)) hx hb hr (fun t ht hW => ⟨⟨(-1), (), rfl, by first | omega | (refine ⟨?_, ?_⟩ <;> (first | omega | rfl | assumption | decide | exact Or.inl rfl | exact Or.inr rfl | (simp only; omega))), ⟨hh_30.rt (M1 := []) [] rfl ht, by rw [ht]; exact hfl_30⟩⟩, by rw [ht]; try exact hh_30.1.1, fun q h9 hq => by rw [ht]; try exact hh_30.1.2.1 q h9 hq⟩) hh_30.1.2.2 dX6_numberOf_90
                    exact L69 ((z_29 : Int32).toInt + 1 - a2.toInt : Int).toNat.succ 1 z_29 _ _ hh_10 (hfl_10) (by first | omega | (refine ⟨?_, ?_⟩ <;> (first | omega | rfl | assumption | decide | exact Or.inl rfl | exact Or.inr rfl | (simp only; omega)))) (by omega) _ (lv_sub hl [2, 3, 4, 5, 6, 7, 1, 0] rfl)
                  · skip
                    have c_28' : z_27.toInt = 39 := jb_ne_n (rfl) ((by decide)) c_28
                    obtain ⟨z_43, ez_43⟩ : ∃ y : Int32, y = v5_10 + (-1) := ⟨_, rfl⟩
                    refine lv_iinc (v := z_43) (lv' := [(5, .int z_43), (0, .ref r0), (1, .ref r1), (2, .int a2), (3, .int a3), (4, .int a4)]) hx hb dX6_numberOf_54 hl (k := 5) rfl (by rw [ez_43]; rfl) (by decide) rfl (fun ls hl => ?_)
                    have hz_43 : z_43.toInt = v5_10.toInt + (-1) := by rw [ez_43]; exact jb_iadd2 (rfl) (by decide) (by omega)
                    refine lv_goto (tgt := 37) hx hb dX6_numberOf_57 (by decide) ?_
                    exact L37 z_43 _ _ hh_10 (hfl_10) (by first | omega | (refine ⟨?_, ?_⟩ <;> (first | omega | rfl | assumption | decide | exact Or.inl rfl | exact Or.inr rfl | (simp only; omega)))) (by omega) _ (lv_sub hl [1, 2, 3, 4, 5, 0] rfl)
            exact L37 ((a3 : Int32).toInt - a2.toInt : Int).toNat.succ a3 _ _ hh (hfl) (by first | omega | (refine ⟨?_, ?_⟩ <;> (first | omega | rfl | assumption | decide | exact Or.inl rfl | exact Or.inr rfl | (simp only; omega)))) (by omega) _ (lv_sub hl [1, 2, 3, 4, 5, 0] rfl)
          · skip
            have c_9' : r_8.toInt = 0 := jb_ne_n (rfl) ((by decide)) c_9
            refine lv_iconst (v := (-1)) hx hb dX6_numberOf_32 (by decide) ?_
            rw [hQ]
            exact W.iret (v := (-1)) hx hb hr (fun t ht hW => ⟨⟨(-1), (), rfl, by first | omega | (refine ⟨?_, ?_⟩ <;> (first | omega | rfl | assumption | decide | exact Or.inl rfl | exact Or.inr rfl | (simp only; omega))), ⟨hh.rt (M1 := []) [] rfl ht, by rw [ht]; exact hfl⟩⟩, by rw [ht]; try exact hh.1.1, fun q h9 hq => by rw [ht]; try exact hh.1.2.1 q h9 hq⟩) hh.1.2.2 dX6_numberOf_33
set_option maxHeartbeats 4000000 in
set_option maxRecDepth 20000 in
theorem uX6_init (l : Launch) (dC : Nat → ClassId) (dI : Nat → Nat → Nat) (ca : Nat → ClassId) (base : Nat) (B : jF) (hB : jBok B) (hAp : jAp (dC, dI)) (hB8 : ∀ n G a H, B 8 n G a H ↔ jOb (dC, dI) 8 4 (F8 n G) a H) (hB101 : ∀ n G a H, B 101 n G a H ↔ jAr (dC, dI) (ca 1) (fun j z => True) n a H) (hB102 : ∀ n G a H, B 102 n G a H ↔ jAl (dC, dI) (ca 2) n a H) (hB132 : ∀ n G a H, B 132 n G a H ↔ jAr (dC, dI) (ca 1) (fun j z => 0 ≤ z.toInt ∧ z.toInt ≤ 10) n a H) (hB133 : ∀ n G a H, B 133 n G a H ↔ jAr (dC, dI) (ca 1) (fun j z => 0 ≤ z.toInt ∧ z.toInt ≤ 8192) n a H) (G0 : jT) (H0 : Heap) (r0 : Nat) (LC LS : Nat) : Met l yX6_init (jw yX6_init cX6_init 4 none) ({ frames := 4, cells := LC - H0.size, slots := LS - jTot H0, locals := 141 }) (va_Pc [.ref r0] (fun U => U.heap = H0 ∧ jX B base G0 [] H0 ∧ jG dC dI ca base U ∧ va_at (dC, dI) vwCl (r0, .inr (8, [.null, .null, .null, .int 0])) H0 ∧ (∀ t, G0 r0 ≠ some t) ∧ base ≤ r0 ∧ jP (dC, dI) G0 H0 [] ∧ H0.size + 4 ≤ LC ∧ jTot H0 + 32903 ≤ LS ∧ True)) (va_Qv (S := jT) (fun u => True) (fun u t => jRa (dC, dI) B base G0 u EX6_init H0 (4) (32903) [] t.heap ∧ (jNk [0, 1, 2, 3, 4, 5, 6, 7, 9, 10, 11, 12, 13, 14, 15, 16, 17, 175]) G0 u ∧ u r0 = some (8, 0) ∧ jKx r0 G0 u H0 t.heap) (jA base)) (LC - H0.size) (LS - jTot H0) (jA base) := by
  refine Met.ofW (cc := cX6_init) (maxL := 4) (ret := none) (by decide) rfl ?_
  intro p e s m args below meth c s₁ Bd hml hv
  obtain ⟨rfl, hH0, hX, hG, hraw0, hnr0, hbr0, hP0, hLC0, hLS0, hp0⟩ := hv
  have hK := hG.1
  have hx := Bd.exec
  have hb := Bd.bytes
  have hr := Bd.returns
  have hts := atoms_spec (ws := (jw yX6_init cX6_init 4 none)) Bd.pre
  have htw : ∀ w ∈ jWl, w.before _ s = true := fun w h => hts w (List.mem_cons_of_mem _ h)
  have hown : s.vm.findClass RX6 = some m.cls := findClass_of_methodNamed Bd.named
  have hlocks := Bd.notSynchronized
  obtain ⟨Q, hQ⟩ : ∃ Q, Q = MQ below (va_Qv (S := jT) (fun u => True) (fun u t => jRa (dC, dI) B base G0 u EX6_init H0 (4) (32903) [] t.heap ∧ (jNk [0, 1, 2, 3, 4, 5, 6, 7, 9, 10, 11, 12, 13, 14, 15, 16, 17, 175]) G0 u ∧ u r0 = some (8, 0) ∧ jKx r0 G0 u H0 t.heap) (jA base)) ([.ref r0] : List Value).toArray s (LC - H0.size) (LS - jTot H0) (jA base) := ⟨_, rfl⟩
  rw [← hQ]
  have hl := lv_entry ([.ref r0]) (n := 4) (Nat.le_of_ble_eq_true rfl)
  rw [lg_entry_eq]
  generalize (lg_sl ([.ref r0]) ++ List.replicate (4 - (lg_sl ([.ref r0])).length) Slot.unset).toArray = ls at hl ⊢
  have hl : lv_has ls 4 [(0, .ref r0)] := hl
  generalize hR : (headSpec (jw yX6_init cX6_init 4 none) ({ frames := 4, cells := LC - H0.size, slots := LS - jTot H0, locals := 141 })).room = R
  subst hH0
  have hh : jSt (dC, dI) B base G0 G0 EX6_init s.heap 0 0 [] [] [] s.heap [] := jSt.start hX hP0 jMc.nil jIs.nil
  clear hX hP0
  have hk0 : (0 : Int32).toInt = 0 := by decide
  have hk1 : (1 : Int32).toInt = 1 := by decide
  have hk32 : (32 : Int32).toInt = 32 := by decide
  have hk8192 : (8192 : Int32).toInt = 8192 := by decide
  have hk16384 : (16384 : Int32).toInt = 16384 := by decide
  have hly_8_0 := htw (u_lay RX6 TX6 0) (jWc_wsX60 _ (u_in_lay (by decide)))
  have hly_8_1 := htw (u_lay RX6 TX6 1) (jWc_wsX60 _ (u_in_lay (by decide)))
  have hly_8_2 := htw (u_lay RX6 TX6 2) (jWc_wsX60 _ (u_in_lay (by decide)))
  have hlk_11 := (htw (.fieldLink RX6 11 "ProofServer$Names" "stems" "[J") (jWr_5 _ (List.mem_of_getElem? (i := 9) rfl)))
  have hlk_15 := (htw (.fieldLink RX6 15 "ProofServer$Names" "primes" "[I") (jWr_5 _ (List.mem_of_getElem? (i := 10) rfl)))
  have hlk_19 := (htw (.fieldLink RX6 19 "ProofServer$Names" "slots" "[I") (jWr_5 _ (List.mem_of_getElem? (i := 11) rfl)))
  obtain ⟨str22, rstr22, hstr220⟩ := hG.str (o := RX6) (k := 22) (tx := qtx164) (List.mem_of_getElem? (i := 164) (by decide +kernel))
  have h9str22 : qtx164.length = 135 := by decide +kernel
  have hstr22 : jStr base str22 135 s s.heap := by rw [h9str22] at hstr220; exact hstr220
  have hbs : base ≤ s.heap.size := Nat.le_of_lt (Nat.lt_of_le_of_lt hbr0 hraw0.lt)
  have hRc : R.cells = LC - s.heap.size := by rw [← hR]; rfl
  have hRs : R.slots = LS - jTot s.heap := by rw [← hR]; rfl
  have hin2 : meth.name = "<init>" := (name_of_methodNamed Bd.named Bd.method).1
  have hkp : jKx r0 G0 G0 s.heap s.heap := jKx.rf
  refine lv_aload_n hx hb dX6_init_0 rfl (lv_at hl 0 rfl) ?_
  refine W.objInit hx hb hown (htw (.methodLink RX6 3 objectInit) (jWr_5 _ (List.mem_of_getElem? (i := 7) rfl))) (htw (.instanceMethod objectInit) (jWr_1 _ (List.mem_of_getElem? (i := 10) rfl))) (htw (.code objectInit ⟨#[0xb1]⟩ 1 none) (jWr_1 _ (List.mem_of_getElem? (i := 11) rfl))) rfl (by rw [hml]; exact hl.1) rfl dX6_init_1 (by rw [← hR]; exact Nat.le_of_ble_eq_true rfl) (by rw [← hR]; exact Nat.le_of_ble_eq_true rfl) ?_
  refine W.eq (g2 := F0 m 4 ls []) rfl ?_
  refine lv_aload_n hx hb dX6_init_4 rfl (lv_at hl 0 rfl) ?_
  refine lv_sipush (v := 8192) hx hb dX6_init_5 (by decide) ?_
  have hsz_1 := hh.2.2.2.2.2.1
  have htt_1 := hh.2.2.2.2.2.2.1
  refine j7_newlK hx hb hK hh hB (htw (.arrayClass .long) (jWr_5 _ (List.mem_of_getElem? (i := 8) rfl))) (fun _ h => h) hB102 2 rfl (by decide) hbs (x := 8192) (by decide) (by omega) (by rw [hRc]; omega) (by rw [hRs]; omega) dX6_init_8 (fun H_1 hfr_1 hh_1 => ?_)
  have hh_1 : jSt (dC, dI) B base G0 (va_up G0 s.heap.size (some (102, 8192))) EX6_init s.heap (0 + 1) (0 + 8192) [] [] [] H_1 [] := hh_1
  have hN_1 : (jNk [0, 1, 2, 3, 4, 5, 6, 7, 9, 10, 11, 12, 13, 14, 15, 16, 17, 175]) G0 (va_up G0 s.heap.size (some (102, 8192))) := jNk.new (by decide)
  have hgn_1 : (va_up G0 s.heap.size (some (102, 8192))) s.heap.size = some (102, 8192) := jUp_self
  have hle_1 : jLe G0 (va_up G0 s.heap.size (some (102, 8192))) := jLe.new hh.2.1.fresh
  have hke_1 : jKe G0 (va_up G0 s.heap.size (some (102, 8192))) s.heap H_1 := jKe.new hfr_1
  have hsy_1 : s.heap.size ≤ s.heap.size := hh.1.1
  generalize (va_up G0 s.heap.size (some (102, 8192))) = G_1 at hN_1 hgn_1 hle_1 hke_1 hh_1
  clear hh
  have hNn_1 : (jNk [0, 1, 2, 3, 4, 5, 6, 7, 9, 10, 11, 12, 13, 14, 15, 16, 17, 175]) G0 G_1 := (jNk.rf).tr hN_1
  have hkp_2 := hkp.tr hke_1
  have hraw_3n := hke_1.nr hraw0.lt hnr0
  have hraw_3 := hraw0.kept (hke_1.1 _ hraw0.lt)
  refine j7_putRF hx hb hown hK hh_1 hB hAp hraw_3 hraw_3n hbr0 (C := RX6) (T := TX6) (N := 4) rfl (i := 0) (by decide) (Nat.le_of_ble_eq_true rfl) hly_8_0 rfl hin2 rfl hlk_11 (ty := (.array .long)) (v := .ref s.heap.size) (by decide +kernel) rfl rfl dX6_init_10 (fun H_4 locs_4 hraw_4 hr_4 hh_4 => ?_)
  have hraw_4 : va_at (dC, dI) vwCl (r0, .inr (8, [.ref s.heap.size, .null, .null, .int 0])) H_4 := hraw_4
  have hkp_5 := hkp_2.put hr_4
  clear hh_1
  refine lv_aload_n hx hb dX6_init_13 rfl (lv_at hl 0 rfl) ?_
  refine lv_sipush (v := 8192) hx hb dX6_init_14 (by decide) ?_
  have hsz_6 := hh_4.2.2.2.2.2.1
  have htt_6 := hh_4.2.2.2.2.2.2.1
  refine j7_newiK hx hb hK hh_4 hB (atype := .int) (ty := .int) (htw (.arrayClass .int) (jWr_3 _ (List.mem_of_getElem? (i := 20) rfl))) rfl rfl (fun _ h => h) hB132 1 rfl (by decide) (by decide) hbs (x := 8192) (by decide) (by omega) (fun j => by first | trivial | decide | rfl | exact Or.inl rfl | (refine ⟨?_, ?_⟩ <;> decide)) (by rw [hRc]; omega) (by rw [hRs]; omega) dX6_init_17 (fun H_6 hfr_6 hh_6 => ?_)
  have hh_6 : jSt (dC, dI) B base G0 (va_up G_1 H_4.size (some (132, 8192))) EX6_init s.heap ((0 + 1) + 1) ((0 + 8192) + 8192) [] [] [] H_6 locs_4 := hh_6
  have hN_6 : (jNk [0, 1, 2, 3, 4, 5, 6, 7, 9, 10, 11, 12, 13, 14, 15, 16, 17, 175]) G_1 (va_up G_1 H_4.size (some (132, 8192))) := jNk.new (by decide)
  have hgn_6 : (va_up G_1 H_4.size (some (132, 8192))) H_4.size = some (132, 8192) := jUp_self
  have hle_6 : jLe G_1 (va_up G_1 H_4.size (some (132, 8192))) := jLe.new hh_4.2.1.fresh
  have hke_6 : jKe G_1 (va_up G_1 H_4.size (some (132, 8192))) H_4 H_6 := jKe.new hfr_6
  have hsy_6 : s.heap.size ≤ H_4.size := hh_4.1.1
  generalize (va_up G_1 H_4.size (some (132, 8192))) = G_6 at hN_6 hgn_6 hle_6 hke_6 hh_6
  clear hh_4
  have hNn_6 : (jNk [0, 1, 2, 3, 4, 5, 6, 7, 9, 10, 11, 12, 13, 14, 15, 16, 17, 175]) G0 G_6 := (hNn_1).tr hN_6
  have hkp_7 := hkp_5.tr hke_6
  have hraw_8n := hke_6.nr hraw_4.lt hraw_3n
  have hraw_8 := hraw_4.kept (hke_6.1 _ hraw_4.lt)
  refine j7_putRF hx hb hown hK hh_6 hB hAp hraw_8 hraw_8n hbr0 (C := RX6) (T := TX6) (N := 4) rfl (i := 1) (by decide) (Nat.le_of_ble_eq_true rfl) hly_8_1 rfl hin2 rfl hlk_15 (ty := (.array .int)) (v := .ref H_4.size) (by decide +kernel) rfl rfl dX6_init_19 (fun H_9 locs_9 hraw_9 hr_9 hh_9 => ?_)
  have hraw_9 : va_at (dC, dI) vwCl (r0, .inr (8, [.ref s.heap.size, .ref H_4.size, .null, .int 0])) H_9 := hraw_9
  have hkp_10 := hkp_7.put hr_9
  clear hh_6
  refine lv_aload_n hx hb dX6_init_22 rfl (lv_at hl 0 rfl) ?_
  refine lv_sipush (v := 16384) hx hb dX6_init_23 (by decide) ?_
  have hsz_11 := hh_9.2.2.2.2.2.1
  have htt_11 := hh_9.2.2.2.2.2.2.1
  refine j7_newiK hx hb hK hh_9 hB (atype := .int) (ty := .int) (htw (.arrayClass .int) (jWr_3 _ (List.mem_of_getElem? (i := 20) rfl))) rfl rfl (fun _ h => h) hB133 1 rfl (by decide) (by decide) hbs (x := 16384) (by decide) (by omega) (fun j => by first | trivial | decide | rfl | exact Or.inl rfl | (refine ⟨?_, ?_⟩ <;> decide)) (by rw [hRc]; omega) (by rw [hRs]; omega) dX6_init_26 (fun H_11 hfr_11 hh_11 => ?_)
  have hh_11 : jSt (dC, dI) B base G0 (va_up G_6 H_9.size (some (133, 16384))) EX6_init s.heap (((0 + 1) + 1) + 1) (((0 + 8192) + 8192) + 16384) [] [] [] H_11 locs_9 := hh_11
  have hN_11 : (jNk [0, 1, 2, 3, 4, 5, 6, 7, 9, 10, 11, 12, 13, 14, 15, 16, 17, 175]) G_6 (va_up G_6 H_9.size (some (133, 16384))) := jNk.new (by decide)
  have hgn_11 : (va_up G_6 H_9.size (some (133, 16384))) H_9.size = some (133, 16384) := jUp_self
  have hle_11 : jLe G_6 (va_up G_6 H_9.size (some (133, 16384))) := jLe.new hh_9.2.1.fresh
  have hke_11 : jKe G_6 (va_up G_6 H_9.size (some (133, 16384))) H_9 H_11 := jKe.new hfr_11
  have hsy_11 : s.heap.size ≤ H_9.size := hh_9.1.1
  generalize (va_up G_6 H_9.size (some (133, 16384))) = G_11 at hN_11 hgn_11 hle_11 hke_11 hh_11
  clear hh_9
  have hNn_11 : (jNk [0, 1, 2, 3, 4, 5, 6, 7, 9, 10, 11, 12, 13, 14, 15, 16, 17, 175]) G0 G_11 := (hNn_6).tr hN_11
  have hkp_12 := hkp_10.tr hke_11
  have hraw_13n := hke_11.nr hraw_9.lt hraw_8n
  have hraw_13 := hraw_9.kept (hke_11.1 _ hraw_9.lt)
  refine j7_putRF hx hb hown hK hh_11 hB hAp hraw_13 hraw_13n hbr0 (C := RX6) (T := TX6) (N := 4) rfl (i := 2) (by decide) (Nat.le_of_ble_eq_true rfl) hly_8_2 rfl hin2 rfl hlk_19 (ty := (.array .int)) (v := .ref H_9.size) (by decide +kernel) rfl rfl dX6_init_28 (fun H_14 locs_14 hraw_14 hr_14 hh_14 => ?_)
  have hraw_14 : va_at (dC, dI) vwCl (r0, .inr (8, [.ref s.heap.size, .ref H_4.size, .ref H_9.size, .int 0])) H_14 := hraw_14
  have hkp_15 := hkp_12.put hr_14
  clear hh_11
  have hle_16 : jLe G_11 (va_up G_11 r0 (some (8, 0))) := jLe.typ hraw_13n
  have hg_17 := ((hle_6).tr hle_11).tr hle_16 _ _ hgn_1
  have hg_18 := (hle_11).tr hle_16 _ _ hgn_6
  have hg_19 := (jLe.rf).tr hle_16 _ _ hgn_11
  have hfa_16 : jRf (va_up G_11 r0 (some (8, 0))) 102 8192 (.ref s.heap.size) ∧ jRf (va_up G_11 r0 (some (8, 0))) 132 8192 (.ref H_4.size) ∧ jRf (va_up G_11 r0 (some (8, 0))) 133 16384 (.ref H_9.size) ∧ jI 0 8192 (.int 0) ∧ True := ⟨⟨_, rfl, hg_17⟩, ⟨_, rfl, hg_18⟩, ⟨_, rfl, hg_19⟩, ⟨_, rfl, by omega, by omega⟩, trivial⟩
  have hh_16 := hh_14.typ (k := 8) (n := 0) hB hraw_13n hbr0 hraw_14.lt (jOb.of (C := RX6) (T := TX6) (N := 4) (F := F8) hB8 rfl hraw_14 (show jFx (F8 0 (va_up G_11 r0 (some (8, 0)))) [.ref s.heap.size, .ref H_4.size, .ref H_9.size, .int 0] from hfa_16))
  have hgn_16 : (va_up G_11 r0 (some (8, 0))) r0 = some (8, 0) := jUp_self
  have hN_16 : (jNk [0, 1, 2, 3, 4, 5, 6, 7, 9, 10, 11, 12, 13, 14, 15, 16, 17, 175]) G_11 (va_up G_11 r0 (some (8, 0))) := jNk.new (by decide)
  have hNn_16 : (jNk [0, 1, 2, 3, 4, 5, 6, 7, 9, 10, 11, 12, 13, 14, 15, 16, 17, 175]) G0 (va_up G_11 r0 (some (8, 0))) := (hNn_11).tr hN_16
  have hkp_20 := hkp_15.typ (t := some (8, 0))
  have hg_21 := (((hle_6).tr hle_11).tr hle_16) _ _ hgn_1
  have hg_22 := ((hle_11).tr hle_16) _ _ hgn_6
  have hg_23 := (hle_16) _ _ hgn_11
  have hh_24 := hh_16.more (P1 := [(r0, 8, 0, .ref s.heap.size), (r0, 8, 1, .ref H_4.size), (r0, 8, 2, .ref H_9.size), (r0, 8, 3, .int 0)]) (jP.cons hgn_16 (jf.raw (C := RX6) (T := TX6) (N := 4) rfl hraw_14 (i := 0) (by decide)) (jP.cons hgn_16 (jf.raw (C := RX6) (T := TX6) (N := 4) rfl hraw_14 (i := 1) (by decide)) (jP.cons hgn_16 (jf.raw (C := RX6) (T := TX6) (N := 4) rfl hraw_14 (i := 2) (by decide)) (jP.cons hgn_16 (jf.raw (C := RX6) (T := TX6) (N := 4) rfl hraw_14 (i := 3) (by decide)) jP.nil))))
  refine va_ldcS hx hb hown rstr22 dX6_init_31 ?_
  have hsz_27 := hh_24.2.2.2.2.2.1
  have htt_27 := hh_24.2.2.2.2.2.2.1
  refine W.room (fun hrc_27 hrs_27 => ?_)
  have hsz_26 := hh_24.2.2.2.2.2.1
  have htt_26 := hh_24.2.2.2.2.2.2.1
  refine W.room (fun hrc_26 hrs_26 => ?_)
  refine vp_callSi (W.runV (As := []) (rest := []) ⟨hx, hb, hml, hown, hts⟩ (wJ0_length_8abf5 l dC dI ca base H_14 str22 135) (cwV 0 hts (jgV (jWr_5 _ (List.mem_of_getElem? (i := 12) rfl)) (jWr_5 _ (List.mem_of_getElem? (i := 13) rfl)) (jWr_5 _ (List.mem_of_getElem? (i := 14) rfl)) (jWr_5 _ (List.mem_of_getElem? (i := 15) rfl)) (jWr_5 _ (List.mem_of_getElem? (i := 16) rfl))) rfl rfl rfl (by decide +kernel) ⟨by rw [← hR]; exact Nat.le_of_ble_eq_true rfl, by rw [← hR]; exact Nat.le_of_ble_eq_true rfl⟩) ⟨fun a U g mk q => by obtain ⟨q0, q1, q2, qK, q9⟩ := q; exact ⟨q0, q1, (q2.moved (Vm.Alike.refl U.vm)), jG.calling g mk a qK, q9⟩, jStr_recv hstr22 hh_24.1, fun U hU hW => ⟨rfl, hU, (hstr22.moved hW.alike).kept hh_24.1.2.1, hG.step hW hU hh_24.1, by omega⟩⟩ rfl rfl hl.1 rfl (lv_room (Nat.le_of_ble_eq_true rfl)) dX6_init_33 ⟨by rw [hRc]; omega, by rw [hRs]; omega⟩) (fun r_25 hr_25 => ?_)
  have hsz_28 := hh_24.2.2.2.2.2.1
  have htt_28 := hh_24.2.2.2.2.2.2.1
  refine j7_newiK hx hb hK hh_24 hB (atype := .int) (ty := .int) (htw (.arrayClass .int) (jWr_3 _ (List.mem_of_getElem? (i := 20) rfl))) rfl rfl (fun _ h => h) hB101 1 rfl (by decide) (by decide) hbs (x := r_25.toInt) rfl (by omega) (fun j => by first | trivial | decide | rfl | exact Or.inl rfl | (refine ⟨?_, ?_⟩ <;> decide)) (by rw [hRc]; omega) (by rw [hRs]; omega) dX6_init_36 (fun H_28 hfr_28 hh_28 => ?_)
  have hh_28 : jSt (dC, dI) B base G0 (va_up (va_up G_11 r0 (some (8, 0))) H_14.size (some (101, (r_25.toInt).toNat))) EX6_init s.heap ((((0 + 1) + 1) + 1) + 1) ((((0 + 8192) + 8192) + 16384) + (r_25.toInt).toNat) [(r0, 8, 0, .ref s.heap.size), (r0, 8, 1, .ref H_4.size), (r0, 8, 2, .ref H_9.size), (r0, 8, 3, .int 0)] [] [] H_28 locs_14 := hh_28
  have hN_28 : (jNk [0, 1, 2, 3, 4, 5, 6, 7, 9, 10, 11, 12, 13, 14, 15, 16, 17, 175]) (va_up G_11 r0 (some (8, 0))) (va_up (va_up G_11 r0 (some (8, 0))) H_14.size (some (101, (r_25.toInt).toNat))) := jNk.new (by decide)
  have hgn_28 : (va_up (va_up G_11 r0 (some (8, 0))) H_14.size (some (101, (r_25.toInt).toNat))) H_14.size = some (101, (r_25.toInt).toNat) := jUp_self
  have hle_28 : jLe (va_up G_11 r0 (some (8, 0))) (va_up (va_up G_11 r0 (some (8, 0))) H_14.size (some (101, (r_25.toInt).toNat))) := jLe.new hh_24.2.1.fresh
  have hke_28 : jKe (va_up G_11 r0 (some (8, 0))) (va_up (va_up G_11 r0 (some (8, 0))) H_14.size (some (101, (r_25.toInt).toNat))) H_14 H_28 := jKe.new hfr_28
  have hsy_28 : s.heap.size ≤ H_14.size := hh_24.1.1
  generalize (va_up (va_up G_11 r0 (some (8, 0))) H_14.size (some (101, (r_25.toInt).toNat))) = G_28 at hN_28 hgn_28 hle_28 hke_28 hh_28
  generalize hnc_28 : (r_25.toInt).toNat = nc_28 at hgn_28 hh_28 ⊢
  clear hh_24
  have hNn_28 : (jNk [0, 1, 2, 3, 4, 5, 6, 7, 9, 10, 11, 12, 13, 14, 15, 16, 17, 175]) G0 G_28 := (hNn_16).tr hN_28
  have hg_29 := hle_28 _ _ hgn_16
  have hg_30 := hle_28 _ _ hg_21
  have hg_31 := hle_28 _ _ hg_22
  have hg_32 := hle_28 _ _ hg_23
  have hkp_33 := hkp_20.tr hke_28
  refine lv_astore_n (lv' := [(1, .ref H_14.size), (0, .ref r0)]) hx hb dX6_init_38 rfl hl (by decide) rfl (fun ls hl => ?_)
  refine lv_iconst (v := 0) hx hb dX6_init_39 (by decide) ?_
  refine lv_istore_n (lv' := [(2, .int 0), (1, .ref H_14.size), (0, .ref r0)]) hx hb dX6_init_40 rfl hl (by decide) rfl (fun ls hl => ?_)
  refine lv_iconst (v := 0) hx hb dX6_init_41 (by decide) ?_
  refine lv_istore_n (lv' := [(3, .int 0), (2, .int 0), (1, .ref H_14.size), (0, .ref r0)]) hx hb dX6_init_42 rfl hl (by decide) rfl (fun ls hl => ?_)
  have L43 : ∀ (N : Nat) (v2_34 : Int32) (v3_34 : Int32) (H_34 : Heap) (locs_34 : List Loc), jSt (dC, dI) B base G0 G_28 EX6_init s.heap ((((0 + 1) + 1) + 1) + 1) ((((0 + 8192) + 8192) + 16384) + nc_28) [(r0, 8, 0, .ref s.heap.size), (r0, 8, 1, .ref H_4.size), (r0, 8, 2, .ref H_9.size)] [] [] H_34 locs_34 → jKx r0 G0 G_28 s.heap H_34 → (0 ≤ v3_34.toInt ∧ v3_34.toInt ≤ 135 ∧ 0 ≤ v2_34.toInt) → (135 - v3_34.toInt : Int) < N → ∀ ls : Array Slot, lv_has ls 4 [(0, .ref r0), (1, .ref H_14.size), (2, .int v2_34), (3, .int v3_34)] → W p l e R s m ([.ref r0] : List Value).toArray below meth c H_34 locs_34 ((((0 + 1) + 1) + 1) + 1) ((((0 + 8192) + 8192) + 16384) + nc_28) Q (F0 m 43 ls []) := by
    intro N
    induction N with
    | zero => intro v2_34 v3_34 H_34 locs_34 hh_34 hkp_34 hi_34 hm; exact absurd hm (by omega)
    | succ N L43 =>
      intro v2_34 v3_34 H_34 locs_34 hh_34 hkp_34 hi_34 hm_34 ls hl
      obtain ⟨hi_34_0, hi_34_1, hi_34_2⟩ := hi_34
      refine lv_iload_n hx hb dX6_init_43 rfl (lv_at hl 3 rfl) ?_
      refine lv_aload_n hx hb dX6_init_44 rfl (lv_at hl 1 rfl) ?_
      refine j7_len hx hb hK hh_34 hB101 1 rfl (by decide) hgn_28 (by omega) dX6_init_45 (fun z_35 hz_35 => ?_)
      refine lv_icmp_ge (tgt := 85) hx hb dX6_init_46 (by decide) (fun c_36 => ?_) (fun c_36 => ?_)
      · skip
        have c_36' : v3_34.toInt ≥ z_35.toInt := jb_ge (rfl) (rfl) c_36
        refine lv_aload_n hx hb dX6_init_85 rfl (lv_at hl 0 rfl) ?_
        refine lv_aload_n hx hb dX6_init_86 rfl (lv_at hl 1 rfl) ?_
        refine lv_iload_n hx hb dX6_init_87 rfl (lv_at hl 2 rfl) ?_
        refine lv_aload_n hx hb dX6_init_88 rfl (lv_at hl 1 rfl) ?_
        refine j7_len hx hb hK hh_34 hB101 1 rfl (by decide) hgn_28 (by omega) dX6_init_89 (fun z_37 hz_37 => ?_)
        refine lv_iconst (v := 1) hx hb dX6_init_90 (by decide) ?_
        have hsz_38 := hh_34.2.2.2.2.2.1
        have htt_38 := hh_34.2.2.2.2.2.2.1
        refine W.room (fun hrc_38 hrs_38 => ?_)
        refine va_calli (A0 := jA base) (H0 := s.heap) (va_runV (As := [.ref H_14.size, .int v2_34, .int z_37, .int 1]) (rest := []) ⟨hx, hb, hml, hown, hts⟩ (uX6_numberOfB l dC dI ca base B hB hAp hB8 hB101 hB102 hB132 hB133 G_28 H_34 r0 H_14.size v2_34 z_37 1 nc_28 s.heap.size H_4.size H_9.size) (cwV 4 hts (jgV (jWr_7 _ (List.mem_of_getElem? (i := 13) rfl)) (jWr_7 _ (List.mem_of_getElem? (i := 14) rfl)) (jWr_7 _ (List.mem_of_getElem? (i := 15) rfl)) (jWr_4 _ (List.mem_of_getElem? (i := 10) rfl)) (jWr_7 _ (List.mem_of_getElem? (i := 16) rfl))) rfl rfl rfl (by decide +kernel) ⟨by rw [← hR]; exact Nat.le_of_ble_eq_true rfl, by rw [← hR]; exact Nat.le_of_ble_eq_true rfl⟩) ⟨fun a U g mk q => by obtain ⟨q0, q1, q2, qK, q10, q11, q12, q13, q14, q15, q16⟩ := q; exact ⟨q0, q1, q2, jG.calling g mk a qK, q10, q11, q12, q13, q14, q15, q16⟩, hh_34.recv (C := RX6) (T := TX6) (N := 4) hB8 rfl (by decide) hg_29 hK, fun U hU hW => ⟨rfl, hU, hh_34.2.1, hG.step hW hU hh_34.1, hg_29, hgn_28, hg_30, hg_31, hg_32, (hh_34.2.2.1.sub (L1 := [(r0, 8, 0, .ref s.heap.size), (r0, 8, 1, .ref H_4.size), (r0, 8, 2, .ref H_9.size)]) [0, 1, 2] rfl), by first | omega | rfl | assumption | decide | exact Or.inl rfl | exact Or.inr rfl | (simp only; omega)⟩⟩ rfl rfl hl.1 rfl (lv_room (Nat.le_of_ble_eq_true rfl)) dX6_init_91 ⟨by rw [hRc]; show _ + 0 ≤ _; omega, by rw [hRs]; show _ + 0 ≤ _; omega⟩) hh_34.1 (fun q _ h => h) (fun q h => h) (fun r_39 u_38 t_38 H_38 locs_38 ht_38 hvm_38 hr_39 hb_38 hz_38 hk_38 hS_38 => ?_)
        rw [ht_38] at hb_38
        obtain ⟨hb_38, hbF_38⟩ := hb_38
        obtain ⟨hb_381, hb_382, hb_383, hb_384, hb_385⟩ := hb_38
        have hh_38 : jSt (dC, dI) B base G0 G_28 EX6_init s.heap ((((0 + 1) + 1) + 1) + 1) ((((0 + 8192) + 8192) + 16384) + nc_28) [(r0, 8, 0, .ref s.heap.size), (r0, 8, 1, .ref H_4.size), (r0, 8, 2, .ref H_9.size)] [] [] H_38 locs_38 := ((hh_34.call hb_381 hb_382 hb_383 hb_384 hS_38 rfl (L1 := [(r0, 8, 0, .ref s.heap.size), (r0, 8, 1, .ref H_4.size), (r0, 8, 2, .ref H_9.size)]) [0, 1, 2] rfl rfl (M1 := []) [] rfl rfl (I1 := []) [] rfl rfl).more hb_385)
        clear hh_34 ht_38 hvm_38 hz_38 hk_38 hS_38 hb_381 hb_382 hb_383 hb_384 hb_385
        have hkp_40 := hkp_34.fl hbF_38 (by intro q h9; simp only [List.mem_cons, List.not_mem_nil, or_false] at h9; rcases h9 with rfl | rfl | rfl | rfl; exact Or.inl rfl; exact Or.inr hsy_1; exact Or.inr hsy_6; exact Or.inr hsy_11)
        obtain ⟨hr_39_0, hr_39_1⟩ := hr_39
        refine lv_pop hx hb dX6_init_94 rfl ?_
        have hsz_41 := hh_38.2.2.2.2.2.1
        have htt_41 := hh_38.2.2.2.2.2.2.1
        refine W.room (fun hrc_41 hrs_41 => ?_)
        refine W.widen (k := LC - s.heap.size) (n := LS - jTot s.heap) (by omega) (by omega) ?_
        rw [hQ]
        exact W.vret hx hb hr (fun t ht hW => ⟨⟨G_28, rfl, trivial, ⟨hh_38.ra (by first | omega | (simp only; omega)) (by first | omega | (simp only; omega)) (M1 := []) [] rfl ht, hNn_28, hg_29, by rw [ht]; exact hkp_40⟩⟩, by rw [ht]; try exact hh_38.1.1, fun q h9 hq => by rw [ht]; try exact hh_38.1.2.1 q h9 hq⟩) hh_38.1.2.2 dX6_init_95
      · skip
        have c_36' : v3_34.toInt < z_35.toInt := jb_ge_n (rfl) (rfl) c_36
        refine lv_aload_n hx hb dX6_init_49 rfl (lv_at hl 1 rfl) ?_
        refine lv_iload_n hx hb dX6_init_50 rfl (lv_at hl 3 rfl) ?_
        refine va_ldcS hx hb hown rstr22 dX6_init_51 ?_
        refine lv_iload_n hx hb dX6_init_53 rfl (lv_at hl 3 rfl) ?_
        have hsz_44 := hh_34.2.2.2.2.2.1
        have htt_44 := hh_34.2.2.2.2.2.2.1
        refine W.room (fun hrc_44 hrs_44 => ?_)
        have hsz_43 := hh_34.2.2.2.2.2.1
        have htt_43 := hh_34.2.2.2.2.2.2.1
        refine W.room (fun hrc_43 hrs_43 => ?_)
        refine vp_callSi (W.runV (As := [.int v3_34]) (rest := [.int v3_34, .ref H_14.size]) ⟨hx, hb, hml, hown, hts⟩ (wJ0_charAt_5068e l dC dI ca base H_34 str22 135 v3_34) (cwV 1 hts (jgV (jWr_6 _ (List.mem_of_getElem? (i := 0) rfl)) (jWr_6 _ (List.mem_of_getElem? (i := 1) rfl)) (jWr_6 _ (List.mem_of_getElem? (i := 2) rfl)) (jWr_5 _ (List.mem_of_getElem? (i := 15) rfl)) (jWr_6 _ (List.mem_of_getElem? (i := 3) rfl))) rfl rfl rfl (by decide +kernel) ⟨by rw [← hR]; exact Nat.le_of_ble_eq_true rfl, by rw [← hR]; exact Nat.le_of_ble_eq_true rfl⟩) ⟨fun a U g mk q => by obtain ⟨q0, q1, q2, qK, q9⟩ := q; exact ⟨q0, q1, (q2.moved (Vm.Alike.refl U.vm)), jG.calling g mk a qK, q9⟩, jStr_recv hstr22 hh_34.1, fun U hU hW => ⟨rfl, hU, (hstr22.moved hW.alike).kept hh_34.1.2.1, hG.step hW hU hh_34.1, ⟨by omega, by omega, by omega⟩⟩⟩ rfl rfl hl.1 rfl (lv_room (Nat.le_of_ble_eq_true rfl)) dX6_init_54 ⟨by rw [hRc]; omega, by rw [hRs]; omega⟩) (fun r_42 hr_42 => ?_)
        refine j7_iastF hx hb hK hh_34 hB hB101 1 rfl (by decide) (by decide) rfl rfl rfl hgn_28 (x := v3_34.toInt) (rfl) (by omega) (trivial) dX6_init_57 (fun H_45 locs_45 hr_45 hh_45 => ?_)
        have hkp_46 := hkp_34.st hsy_28 hr_45
        clear hr_45
        clear hh_34
        refine lv_aload_n hx hb dX6_init_58 rfl (lv_at hl 1 rfl) ?_
        refine lv_iload_n hx hb dX6_init_59 rfl (lv_at hl 3 rfl) ?_
        refine j7_iald hx hb hK hh_45 hB101 1 rfl (by decide) hgn_28 (x := v3_34.toInt) (rfl) (by omega) dX6_init_60 (fun z_47 (hz_47 : True) => ?_)
        refine lv_bipush (v := 32) hx hb dX6_init_61 (by decide) ?_
        refine lv_icmp_ne (tgt := 79) hx hb dX6_init_63 (by decide) (fun c_48 => ?_) (fun c_48 => ?_)
        · skip
          have c_48' : z_47.toInt ≠ 32 := jb_ne (rfl) ((by decide)) c_48
          obtain ⟨z_49, ez_49⟩ : ∃ y : Int32, y = v3_34 + 1 := ⟨_, rfl⟩
          refine lv_iinc (v := z_49) (lv' := [(3, .int z_49), (0, .ref r0), (1, .ref H_14.size), (2, .int v2_34)]) hx hb dX6_init_79 hl (k := 3) rfl (by rw [ez_49]; rfl) (by decide) rfl (fun ls hl => ?_)
          have hz_49 : z_49.toInt = v3_34.toInt + 1 := by rw [ez_49]; exact jb_iadd2 (rfl) (by decide) (by omega)
          refine lv_goto (tgt := 43) hx hb dX6_init_82 (by decide) ?_
          refine W.tight (c2 := ((((0 + 1) + 1) + 1) + 1)) (n2 := ((((0 + 8192) + 8192) + 16384) + nc_28)) hh_45.2.2.2.2.2.1 hh_45.2.2.2.2.2.2.1 ?_
          exact L43 v2_34 z_49 _ _ hh_45 (hkp_46) (by first | omega | (refine ⟨?_, ?_, ?_⟩ <;> (first | omega | rfl | assumption | decide | exact Or.inl rfl | exact Or.inr rfl | (simp only; omega)))) (by omega) _ (lv_sub hl [1, 2, 3, 0] rfl)
        · skip
          have c_48' : z_47.toInt = 32 := jb_ne_n (rfl) ((by decide)) c_48
          refine lv_aload_n hx hb dX6_init_66 rfl (lv_at hl 0 rfl) ?_
          refine lv_aload_n hx hb dX6_init_67 rfl (lv_at hl 1 rfl) ?_
          refine lv_iload_n hx hb dX6_init_68 rfl (lv_at hl 2 rfl) ?_
          refine lv_iload_n hx hb dX6_init_69 rfl (lv_at hl 3 rfl) ?_
          refine lv_iconst (v := 1) hx hb dX6_init_70 (by decide) ?_
          have hsz_50 := hh_45.2.2.2.2.2.1
          have htt_50 := hh_45.2.2.2.2.2.2.1
          refine W.room (fun hrc_50 hrs_50 => ?_)
          refine va_calli (A0 := jA base) (H0 := s.heap) (va_runV (As := [.ref H_14.size, .int v2_34, .int v3_34, .int 1]) (rest := []) ⟨hx, hb, hml, hown, hts⟩ (uX6_numberOfB l dC dI ca base B hB hAp hB8 hB101 hB102 hB132 hB133 G_28 H_45 r0 H_14.size v2_34 v3_34 1 nc_28 s.heap.size H_4.size H_9.size) (cwV 4 hts (jgV (jWr_7 _ (List.mem_of_getElem? (i := 13) rfl)) (jWr_7 _ (List.mem_of_getElem? (i := 14) rfl)) (jWr_7 _ (List.mem_of_getElem? (i := 15) rfl)) (jWr_4 _ (List.mem_of_getElem? (i := 10) rfl)) (jWr_7 _ (List.mem_of_getElem? (i := 16) rfl))) rfl rfl rfl (by decide +kernel) ⟨by rw [← hR]; exact Nat.le_of_ble_eq_true rfl, by rw [← hR]; exact Nat.le_of_ble_eq_true rfl⟩) ⟨fun a U g mk q => by obtain ⟨q0, q1, q2, qK, q10, q11, q12, q13, q14, q15, q16⟩ := q; exact ⟨q0, q1, q2, jG.calling g mk a qK, q10, q11, q12, q13, q14, q15, q16⟩, hh_45.recv (C := RX6) (T := TX6) (N := 4) hB8 rfl (by decide) hg_29 hK, fun U hU hW => ⟨rfl, hU, hh_45.2.1, hG.step hW hU hh_45.1, hg_29, hgn_28, hg_30, hg_31, hg_32, (hh_45.2.2.1.sub (L1 := [(r0, 8, 0, .ref s.heap.size), (r0, 8, 1, .ref H_4.size), (r0, 8, 2, .ref H_9.size)]) [0, 1, 2] rfl), by first | omega | rfl | assumption | decide | exact Or.inl rfl | exact Or.inr rfl | (simp only; omega)⟩⟩ rfl rfl hl.1 rfl (lv_room (Nat.le_of_ble_eq_true rfl)) dX6_init_71 ⟨by rw [hRc]; show _ + 0 ≤ _; omega, by rw [hRs]; show _ + 0 ≤ _; omega⟩) hh_45.1 (fun q _ h => h) (fun q h => h) (fun r_51 u_50 t_50 H_50 locs_50 ht_50 hvm_50 hr_51 hb_50 hz_50 hk_50 hS_50 => ?_)
          rw [ht_50] at hb_50
          obtain ⟨hb_50, hbF_50⟩ := hb_50
          obtain ⟨hb_501, hb_502, hb_503, hb_504, hb_505⟩ := hb_50
          have hh_50 : jSt (dC, dI) B base G0 G_28 EX6_init s.heap ((((0 + 1) + 1) + 1) + 1) ((((0 + 8192) + 8192) + 16384) + nc_28) [(r0, 8, 0, .ref s.heap.size), (r0, 8, 1, .ref H_4.size), (r0, 8, 2, .ref H_9.size)] [] [] H_50 locs_50 := ((hh_45.call hb_501 hb_502 hb_503 hb_504 hS_50 rfl (L1 := [(r0, 8, 0, .ref s.heap.size), (r0, 8, 1, .ref H_4.size), (r0, 8, 2, .ref H_9.size)]) [0, 1, 2] rfl rfl (M1 := []) [] rfl rfl (I1 := []) [] rfl rfl).more hb_505)
          clear hh_45 ht_50 hvm_50 hz_50 hk_50 hS_50 hb_501 hb_502 hb_503 hb_504 hb_505
          have hkp_52 := hkp_46.fl hbF_50 (by intro q h9; simp only [List.mem_cons, List.not_mem_nil, or_false] at h9; rcases h9 with rfl | rfl | rfl | rfl; exact Or.inl rfl; exact Or.inr hsy_1; exact Or.inr hsy_6; exact Or.inr hsy_11)
          obtain ⟨hr_51_0, hr_51_1⟩ := hr_51
          refine lv_pop hx hb dX6_init_74 rfl ?_
          refine lv_iload_n hx hb dX6_init_75 rfl (lv_at hl 3 rfl) ?_
          refine lv_iconst (v := 1) hx hb dX6_init_76 (by decide) ?_
          refine lv_iadd hx hb dX6_init_77 ?_
          refine lv_topi (fun z_53 ez_53 => ?_)
          have hz_53 : z_53.toInt = v3_34.toInt + 1 := by rw [ez_53]; exact jb_iadd2 (rfl) ((by decide)) (by omega)
          refine lv_istore_n (lv' := [(2, .int z_53), (0, .ref r0), (1, .ref H_14.size), (3, .int v3_34)]) hx hb dX6_init_78 rfl hl (by decide) rfl (fun ls hl => ?_)
          obtain ⟨z_54, ez_54⟩ : ∃ y : Int32, y = v3_34 + 1 := ⟨_, rfl⟩
          refine lv_iinc (v := z_54) (lv' := [(3, .int z_54), (2, .int z_53), (0, .ref r0), (1, .ref H_14.size)]) hx hb dX6_init_79 hl (k := 3) rfl (by rw [ez_54]; rfl) (by decide) rfl (fun ls hl => ?_)
          have hz_54 : z_54.toInt = v3_34.toInt + 1 := by rw [ez_54]; exact jb_iadd2 (rfl) (by decide) (by omega)
          refine lv_goto (tgt := 43) hx hb dX6_init_82 (by decide) ?_
          refine W.tight (c2 := ((((0 + 1) + 1) + 1) + 1)) (n2 := ((((0 + 8192) + 8192) + 16384) + nc_28)) hh_50.2.2.2.2.2.1 hh_50.2.2.2.2.2.2.1 ?_
          exact L43 z_53 z_54 _ _ hh_50 (hkp_52) (by first | omega | (refine ⟨?_, ?_, ?_⟩ <;> (first | omega | rfl | assumption | decide | exact Or.inl rfl | exact Or.inr rfl | (simp only; omega)))) (by omega) _ (lv_sub hl [2, 3, 1, 0] rfl)
  refine W.tight (c2 := ((((0 + 1) + 1) + 1) + 1)) (n2 := ((((0 + 8192) + 8192) + 16384) + nc_28)) hh_28.2.2.2.2.2.1 hh_28.2.2.2.2.2.2.1 ?_
  exact L43 (135 - (0 : Int32).toInt : Int).toNat.succ 0 0 _ _ (hh_28.sub (L1 := [(r0, 8, 0, .ref s.heap.size), (r0, 8, 1, .ref H_4.size), (r0, 8, 2, .ref H_9.size)]) [0, 1, 2] rfl (M1 := []) [] rfl (I1 := []) [] rfl) (hkp_33) (by first | omega | (refine ⟨?_, ?_, ?_⟩ <;> (first | omega | rfl | assumption | decide | exact Or.inl rfl | exact Or.inr rfl | (simp only; omega)))) (by omega) _ (lv_sub hl [3, 2, 1, 0] rfl)
end
section
theorem dX5_init_0 : decode cX5_init 0 = .ok (.aload_n 0, 1) := by decide +kernel
theorem dX5_init_1 : decode cX5_init 1 = .ok (.invokespecial 3, 3) := by decide +kernel
theorem dX5_init_4 : decode cX5_init 4 = .ok (.aload_n 0, 1) := by decide +kernel
theorem dX5_init_5 : decode cX5_init 5 = .ok (.new 9, 3) := by decide +kernel
theorem dX5_init_8 : decode cX5_init 8 = .ok (.dup, 1) := by decide +kernel
theorem dX5_init_9 : decode cX5_init 9 = .ok (.invokespecial 11, 3) := by decide +kernel
theorem dX5_init_12 : decode cX5_init 12 = .ok (.putfield 12, 3) := by decide +kernel
theorem dX5_init_15 : decode cX5_init 15 = .ok (.aload_n 0, 1) := by decide +kernel
theorem dX5_init_16 : decode cX5_init 16 = .ok (.new 18, 3) := by decide +kernel
theorem dX5_init_19 : decode cX5_init 19 = .ok (.dup, 1) := by decide +kernel
theorem dX5_init_20 : decode cX5_init 20 = .ok (.aload_n 0, 1) := by decide +kernel
theorem dX5_init_21 : decode cX5_init 21 = .ok (.getfield 12, 3) := by decide +kernel
theorem dX5_init_24 : decode cX5_init 24 = .ok (.invokespecial 20, 3) := by decide +kernel
theorem dX5_init_27 : decode cX5_init 27 = .ok (.putfield 23, 3) := by decide +kernel
theorem dX5_init_30 : decode cX5_init 30 = .ok (.aload_n 0, 1) := by decide +kernel
theorem dX5_init_31 : decode cX5_init 31 = .ok (.new 27, 3) := by decide +kernel
theorem dX5_init_34 : decode cX5_init 34 = .ok (.dup, 1) := by decide +kernel
theorem dX5_init_35 : decode cX5_init 35 = .ok (.invokespecial 29, 3) := by decide +kernel
theorem dX5_init_38 : decode cX5_init 38 = .ok (.putfield 30, 3) := by decide +kernel
theorem dX5_init_41 : decode cX5_init 41 = .ok (.aload_n 0, 1) := by decide +kernel
theorem dX5_init_42 : decode cX5_init 42 = .ok (.bipush 13, 2) := by decide +kernel
theorem dX5_init_44 : decode cX5_init 44 = .ok (.newarray .int, 2) := by decide +kernel
theorem dX5_init_46 : decode cX5_init 46 = .ok (.putfield 34, 3) := by decide +kernel
theorem dX5_init_49 : decode cX5_init 49 = .ok (.aload_n 0, 1) := by decide +kernel
theorem dX5_init_50 : decode cX5_init 50 = .ok (.bipush 13, 2) := by decide +kernel
theorem dX5_init_52 : decode cX5_init 52 = .ok (.newarray .int, 2) := by decide +kernel
theorem dX5_init_54 : decode cX5_init 54 = .ok (.putfield 38, 3) := by decide +kernel
theorem dX5_init_57 : decode cX5_init 57 = .ok (.aload_n 0, 1) := by decide +kernel
theorem dX5_init_58 : decode cX5_init 58 = .ok (.iconst 1, 1) := by decide +kernel
theorem dX5_init_59 : decode cX5_init 59 = .ok (.newarray .int, 2) := by decide +kernel
theorem dX5_init_61 : decode cX5_init 61 = .ok (.putfield 41, 3) := by decide +kernel
theorem dX5_init_64 : decode cX5_init 64 = .ok (.aload_n 0, 1) := by decide +kernel
theorem dX5_init_65 : decode cX5_init 65 = .ok (.bipush 13, 2) := by decide +kernel
theorem dX5_init_67 : decode cX5_init 67 = .ok (.newarray .int, 2) := by decide +kernel
theorem dX5_init_69 : decode cX5_init 69 = .ok (.putfield 44, 3) := by decide +kernel
theorem dX5_init_72 : decode cX5_init 72 = .ok (.aload_n 0, 1) := by decide +kernel
theorem dX5_init_73 : decode cX5_init 73 = .ok (.bipush 13, 2) := by decide +kernel
theorem dX5_init_75 : decode cX5_init 75 = .ok (.newarray .int, 2) := by decide +kernel
theorem dX5_init_77 : decode cX5_init 77 = .ok (.putfield 47, 3) := by decide +kernel
theorem dX5_init_80 : decode cX5_init 80 = .ok (.aload_n 0, 1) := by decide +kernel
theorem dX5_init_81 : decode cX5_init 81 = .ok (.iconst 1, 1) := by decide +kernel
theorem dX5_init_82 : decode cX5_init 82 = .ok (.newarray .int, 2) := by decide +kernel
theorem dX5_init_84 : decode cX5_init 84 = .ok (.putfield 50, 3) := by decide +kernel
theorem dX5_init_87 : decode cX5_init 87 = .ok (.aload_n 0, 1) := by decide +kernel
theorem dX5_init_88 : decode cX5_init 88 = .ok (.bipush 6, 2) := by decide +kernel
theorem dX5_init_90 : decode cX5_init 90 = .ok (.anewarray 53, 3) := by decide +kernel
theorem dX5_init_93 : decode cX5_init 93 = .ok (.putfield 55, 3) := by decide +kernel
theorem dX5_init_96 : decode cX5_init 96 = .ok (.return_, 1) := by decide +kernel
theorem dX10_init_0 : decode cX10_init 0 = .ok (.aload_n 0, 1) := by decide +kernel
theorem dX10_init_1 : decode cX10_init 1 = .ok (.invokespecial 3, 3) := by decide +kernel
theorem dX10_init_4 : decode cX10_init 4 = .ok (.aload_n 0, 1) := by decide +kernel
theorem dX10_init_5 : decode cX10_init 5 = .ok (.sipush 1500, 3) := by decide +kernel
theorem dX10_init_8 : decode cX10_init 8 = .ok (.newarray .int, 2) := by decide +kernel
theorem dX10_init_10 : decode cX10_init 10 = .ok (.putfield 9, 3) := by decide +kernel
theorem dX10_init_13 : decode cX10_init 13 = .ok (.aload_n 0, 1) := by decide +kernel
theorem dX10_init_14 : decode cX10_init 14 = .ok (.sipush 1500, 3) := by decide +kernel
theorem dX10_init_17 : decode cX10_init 17 = .ok (.newarray .int, 2) := by decide +kernel
theorem dX10_init_19 : decode cX10_init 19 = .ok (.putfield 15, 3) := by decide +kernel
theorem dX10_init_22 : decode cX10_init 22 = .ok (.aload_n 0, 1) := by decide +kernel
theorem dX10_init_23 : decode cX10_init 23 = .ok (.iconst 3, 1) := by decide +kernel
theorem dX10_init_24 : decode cX10_init 24 = .ok (.newarray .int, 2) := by decide +kernel
theorem dX10_init_26 : decode cX10_init 26 = .ok (.putfield 18, 3) := by decide +kernel
theorem dX10_init_29 : decode cX10_init 29 = .ok (.aload_n 0, 1) := by decide +kernel
theorem dX10_init_30 : decode cX10_init 30 = .ok (.sipush 3000, 3) := by decide +kernel
theorem dX10_init_33 : decode cX10_init 33 = .ok (.newarray .int, 2) := by decide +kernel
theorem dX10_init_35 : decode cX10_init 35 = .ok (.putfield 21, 3) := by decide +kernel
theorem dX10_init_38 : decode cX10_init 38 = .ok (.aload_n 0, 1) := by decide +kernel
theorem dX10_init_39 : decode cX10_init 39 = .ok (.aload_n 1, 1) := by decide +kernel
theorem dX10_init_40 : decode cX10_init 40 = .ok (.putfield 24, 3) := by decide +kernel
theorem dX10_init_43 : decode cX10_init 43 = .ok (.return_, 1) := by decide +kernel
def EX10_init : List (Nat × Nat) := []
set_option maxHeartbeats 4000000 in
set_option maxRecDepth 20000 in
theorem uX10_init (l : Launch) (dC : Nat → ClassId) (dI : Nat → Nat → Nat) (ca : Nat → ClassId) (base : Nat) (B : jF) (hB : jBok B) (hAp : jAp (dC, dI)) (hB8 : ∀ n G a H, B 8 n G a H ↔ jOb (dC, dI) 8 4 (F8 n G) a H) (hB12 : ∀ n G a H, B 12 n G a H ↔ jOb (dC, dI) 12 11 (F12b n G) a H) (hB101 : ∀ n G a H, B 101 n G a H ↔ jAr (dC, dI) (ca 1) (fun j z => True) n a H) (hB280 : ∀ n G a H, B 280 n G a H ↔ jAr (dC, dI) (ca 1) (fun j z => -1 ≤ z.toInt) n a H) (hB292 : ∀ n G a H, B 292 n G a H ↔ jAr (dC, dI) (ca 1) (fun j z => 0 ≤ z.toInt ∧ z.toInt ≤ 8191) n a H) (hB293 : ∀ n G a H, B 293 n G a H ↔ jAr (dC, dI) (ca 1) (fun j z => -1 ≤ z.toInt ∧ z.toInt ≤ 8191) n a H) (G0 : jT) (H0 : Heap) (r0 : Nat) (r1 : Nat) (LC LS : Nat) : Met l yX10_init (jw yX10_init cX10_init 2 none) ({ frames := 1, cells := LC - H0.size, slots := LS - jTot H0, locals := 31 }) (va_Pc [.ref r0, .ref r1] (fun U => U.heap = H0 ∧ jX B base G0 [] H0 ∧ jG dC dI ca base U ∧ G0 r1 = some (8, 0) ∧ va_at (dC, dI) vwCl (r0, .inr (12, [.null, .null, .null, .int 0, .int 0, .int 0, .null, .int 0, .int 0, .null, .int 0])) H0 ∧ (∀ t, G0 r0 ≠ some t) ∧ base ≤ r0 ∧ jP (dC, dI) G0 H0 [] ∧ H0.size + 4 ≤ LC ∧ jTot H0 + 6003 ≤ LS ∧ True)) (va_Qv (S := jT) (fun u => True) (fun u t => jRa (dC, dI) B base G0 u EX10_init H0 (4) (6003) [] t.heap ∧ (jNk [0, 1, 2, 3, 4, 5, 6, 7, 8, 9, 10, 11, 13, 14, 15, 16, 17, 175]) G0 u ∧ u r0 = some (12, 0) ∧ jKx r0 G0 u H0 t.heap) (jA base)) (LC - H0.size) (LS - jTot H0) (jA base) := by
  refine Met.ofW (cc := cX10_init) (maxL := 2) (ret := none) (by decide) rfl ?_
  intro p e s m args below meth c s₁ Bd hml hv
  obtain ⟨rfl, hH0, hX, hG, hg_r1, hraw0, hnr0, hbr0, hP0, hLC0, hLS0, hp0⟩ := hv
  have hK := hG.1
  have hx := Bd.exec
  have hb := Bd.bytes
  have hr := Bd.returns
  have hts := atoms_spec (ws := (jw yX10_init cX10_init 2 none)) Bd.pre
  have htw : ∀ w ∈ jWl, w.before _ s = true := fun w h => hts w (List.mem_cons_of_mem _ h)
  have hown : s.vm.findClass RX10 = some m.cls := findClass_of_methodNamed Bd.named
  have hlocks := Bd.notSynchronized
  obtain ⟨Q, hQ⟩ : ∃ Q, Q = MQ below (va_Qv (S := jT) (fun u => True) (fun u t => jRa (dC, dI) B base G0 u EX10_init H0 (4) (6003) [] t.heap ∧ (jNk [0, 1, 2, 3, 4, 5, 6, 7, 8, 9, 10, 11, 13, 14, 15, 16, 17, 175]) G0 u ∧ u r0 = some (12, 0) ∧ jKx r0 G0 u H0 t.heap) (jA base)) ([.ref r0, .ref r1] : List Value).toArray s (LC - H0.size) (LS - jTot H0) (jA base) := ⟨_, rfl⟩
  rw [← hQ]
  have hl := lv_entry ([.ref r0, .ref r1]) (n := 2) (Nat.le_of_ble_eq_true rfl)
  rw [lg_entry_eq]
  generalize (lg_sl ([.ref r0, .ref r1]) ++ List.replicate (2 - (lg_sl ([.ref r0, .ref r1])).length) Slot.unset).toArray = ls at hl ⊢
  have hl : lv_has ls 2 [(0, .ref r0), (1, .ref r1)] := hl
  generalize hR : (headSpec (jw yX10_init cX10_init 2 none) ({ frames := 1, cells := LC - H0.size, slots := LS - jTot H0, locals := 31 })).room = R
  subst hH0
  have hh : jSt (dC, dI) B base G0 G0 EX10_init s.heap 0 0 [] [] [] s.heap [] := jSt.start hX hP0 jMc.nil jIs.nil
  clear hX hP0
  have hk0 : (0 : Int32).toInt = 0 := by decide
  have hk1 : (1 : Int32).toInt = 1 := by decide
  have hk3 : (3 : Int32).toInt = 3 := by decide
  have hk1500 : (1500 : Int32).toInt = 1500 := by decide
  have hk3000 : (3000 : Int32).toInt = 3000 := by decide
  have hly_12_0 := htw (u_lay RX10 TX10 0) (jWc_wsX100 _ (u_in_lay (by decide)))
  have hly_12_1 := htw (u_lay RX10 TX10 1) (jWc_wsX100 _ (u_in_lay (by decide)))
  have hly_12_2 := htw (u_lay RX10 TX10 2) (jWc_wsX100 _ (u_in_lay (by decide)))
  have hly_12_6 := htw (u_lay RX10 TX10 6) (jWc_wsX100 _ (u_in_lay (by decide)))
  have hly_12_9 := htw (u_lay RX10 TX10 9) (jWc_wsX100 _ (u_in_lay (by decide)))
  have hlk_9 := (htw (.fieldLink RX10 9 "ProofServer$Syntax" "kinds" "[I") (jWr_8 _ (List.mem_of_getElem? (i := 8) rfl)))
  have hlk_15 := (htw (.fieldLink RX10 15 "ProofServer$Syntax" "values" "[I") (jWr_8 _ (List.mem_of_getElem? (i := 9) rfl)))
  have hlk_18 := (htw (.fieldLink RX10 18 "ProofServer$Syntax" "told" "[I") (jWr_8 _ (List.mem_of_getElem? (i := 10) rfl)))
  have hlk_21 := (htw (.fieldLink RX10 21 "ProofServer$Syntax" "nodes" "[I") (jWr_8 _ (List.mem_of_getElem? (i := 11) rfl)))
  have hlk_24 := (htw (.fieldLink RX10 24 "ProofServer$Syntax" "names" "LProofServer$Names;") (jWr_8 _ (List.mem_of_getElem? (i := 12) rfl)))
  have hbs : base ≤ s.heap.size := Nat.le_of_lt (Nat.lt_of_le_of_lt hbr0 hraw0.lt)
  have hRc : R.cells = LC - s.heap.size := by rw [← hR]; rfl
  have hRs : R.slots = LS - jTot s.heap := by rw [← hR]; rfl
  have hin2 : meth.name = "<init>" := (name_of_methodNamed Bd.named Bd.method).1
  have hkp : jKx r0 G0 G0 s.heap s.heap := jKx.rf
  refine lv_aload_n hx hb dX10_init_0 rfl (lv_at hl 0 rfl) ?_
  refine W.objInit hx hb hown (htw (.methodLink RX10 3 objectInit) (jWr_8 _ (List.mem_of_getElem? (i := 7) rfl))) (htw (.instanceMethod objectInit) (jWr_1 _ (List.mem_of_getElem? (i := 10) rfl))) (htw (.code objectInit ⟨#[0xb1]⟩ 1 none) (jWr_1 _ (List.mem_of_getElem? (i := 11) rfl))) rfl (by rw [hml]; exact hl.1) rfl dX10_init_1 (by rw [← hR]; exact Nat.le_of_ble_eq_true rfl) (by rw [← hR]; exact Nat.le_of_ble_eq_true rfl) ?_
  refine W.eq (g2 := F0 m 4 ls []) rfl ?_
  refine lv_aload_n hx hb dX10_init_4 rfl (lv_at hl 0 rfl) ?_
  refine lv_sipush (v := 1500) hx hb dX10_init_5 (by decide) ?_
  have hsz_1 := hh.2.2.2.2.2.1
  have htt_1 := hh.2.2.2.2.2.2.1
  refine j7_newiK hx hb hK hh hB (atype := .int) (ty := .int) (htw (.arrayClass .int) (jWr_3 _ (List.mem_of_getElem? (i := 20) rfl))) rfl rfl (fun _ h => h) hB101 1 rfl (by decide) (by decide) hbs (x := 1500) (by decide) (by omega) (fun j => by first | trivial | decide | rfl | exact Or.inl rfl | (refine ⟨?_, ?_⟩ <;> decide)) (by rw [hRc]; omega) (by rw [hRs]; omega) dX10_init_8 (fun H_1 hfr_1 hh_1 => ?_)
  have hh_1 : jSt (dC, dI) B base G0 (va_up G0 s.heap.size (some (101, 1500))) EX10_init s.heap (0 + 1) (0 + 1500) [] [] [] H_1 [] := hh_1
  have hN_1 : (jNk [0, 1, 2, 3, 4, 5, 6, 7, 8, 9, 10, 11, 13, 14, 15, 16, 17, 175]) G0 (va_up G0 s.heap.size (some (101, 1500))) := jNk.new (by decide)
  have hgn_1 : (va_up G0 s.heap.size (some (101, 1500))) s.heap.size = some (101, 1500) := jUp_self
  have hle_1 : jLe G0 (va_up G0 s.heap.size (some (101, 1500))) := jLe.new hh.2.1.fresh
  have hke_1 : jKe G0 (va_up G0 s.heap.size (some (101, 1500))) s.heap H_1 := jKe.new hfr_1
  have hsy_1 : s.heap.size ≤ s.heap.size := hh.1.1
  generalize (va_up G0 s.heap.size (some (101, 1500))) = G_1 at hN_1 hgn_1 hle_1 hke_1 hh_1
  clear hh
  have hNn_1 : (jNk [0, 1, 2, 3, 4, 5, 6, 7, 8, 9, 10, 11, 13, 14, 15, 16, 17, 175]) G0 G_1 := (jNk.rf).tr hN_1
  have hg_2 := hle_1 _ _ hg_r1
  have hkp_3 := hkp.tr hke_1
  have hraw_4n := hke_1.nr hraw0.lt hnr0
  have hraw_4 := hraw0.kept (hke_1.1 _ hraw0.lt)
  refine j7_putRF hx hb hown hK hh_1 hB hAp hraw_4 hraw_4n hbr0 (C := RX10) (T := TX10) (N := 11) rfl (i := 1) (by decide) (Nat.le_of_ble_eq_true rfl) hly_12_1 rfl hin2 rfl hlk_9 (ty := (.array .int)) (v := .ref s.heap.size) (by decide +kernel) rfl rfl dX10_init_10 (fun H_5 locs_5 hraw_5 hr_5 hh_5 => ?_)
  have hraw_5 : va_at (dC, dI) vwCl (r0, .inr (12, [.null, .ref s.heap.size, .null, .int 0, .int 0, .int 0, .null, .int 0, .int 0, .null, .int 0])) H_5 := hraw_5
  have hkp_6 := hkp_3.put hr_5
  clear hh_1
  refine lv_aload_n hx hb dX10_init_13 rfl (lv_at hl 0 rfl) ?_
  refine lv_sipush (v := 1500) hx hb dX10_init_14 (by decide) ?_
  have hsz_7 := hh_5.2.2.2.2.2.1
  have htt_7 := hh_5.2.2.2.2.2.2.1
  refine j7_newiK hx hb hK hh_5 hB (atype := .int) (ty := .int) (htw (.arrayClass .int) (jWr_3 _ (List.mem_of_getElem? (i := 20) rfl))) rfl rfl (fun _ h => h) hB293 1 rfl (by decide) (by decide) hbs (x := 1500) (by decide) (by omega) (fun j => by first | trivial | decide | rfl | exact Or.inl rfl | (refine ⟨?_, ?_⟩ <;> decide)) (by rw [hRc]; omega) (by rw [hRs]; omega) dX10_init_17 (fun H_7 hfr_7 hh_7 => ?_)
  have hh_7 : jSt (dC, dI) B base G0 (va_up G_1 H_5.size (some (293, 1500))) EX10_init s.heap ((0 + 1) + 1) ((0 + 1500) + 1500) [] [] [] H_7 locs_5 := hh_7
  have hN_7 : (jNk [0, 1, 2, 3, 4, 5, 6, 7, 8, 9, 10, 11, 13, 14, 15, 16, 17, 175]) G_1 (va_up G_1 H_5.size (some (293, 1500))) := jNk.new (by decide)
  have hgn_7 : (va_up G_1 H_5.size (some (293, 1500))) H_5.size = some (293, 1500) := jUp_self
  have hle_7 : jLe G_1 (va_up G_1 H_5.size (some (293, 1500))) := jLe.new hh_5.2.1.fresh
  have hke_7 : jKe G_1 (va_up G_1 H_5.size (some (293, 1500))) H_5 H_7 := jKe.new hfr_7
  have hsy_7 : s.heap.size ≤ H_5.size := hh_5.1.1
  generalize (va_up G_1 H_5.size (some (293, 1500))) = G_7 at hN_7 hgn_7 hle_7 hke_7 hh_7
  clear hh_5
  have hNn_7 : (jNk [0, 1, 2, 3, 4, 5, 6, 7, 8, 9, 10, 11, 13, 14, 15, 16, 17, 175]) G0 G_7 := (hNn_1).tr hN_7
  have hg_8 := hle_7 _ _ hg_2
  have hkp_9 := hkp_6.tr hke_7
  have hraw_10n := hke_7.nr hraw_5.lt hraw_4n
  have hraw_10 := hraw_5.kept (hke_7.1 _ hraw_5.lt)
  refine j7_putRF hx hb hown hK hh_7 hB hAp hraw_10 hraw_10n hbr0 (C := RX10) (T := TX10) (N := 11) rfl (i := 2) (by decide) (Nat.le_of_ble_eq_true rfl) hly_12_2 rfl hin2 rfl hlk_15 (ty := (.array .int)) (v := .ref H_5.size) (by decide +kernel) rfl rfl dX10_init_19 (fun H_11 locs_11 hraw_11 hr_11 hh_11 => ?_)
  have hraw_11 : va_at (dC, dI) vwCl (r0, .inr (12, [.null, .ref s.heap.size, .ref H_5.size, .int 0, .int 0, .int 0, .null, .int 0, .int 0, .null, .int 0])) H_11 := hraw_11
  have hkp_12 := hkp_9.put hr_11
  clear hh_7
  refine lv_aload_n hx hb dX10_init_22 rfl (lv_at hl 0 rfl) ?_
  refine lv_iconst (v := 3) hx hb dX10_init_23 (by decide) ?_
  have hsz_13 := hh_11.2.2.2.2.2.1
  have htt_13 := hh_11.2.2.2.2.2.2.1
  refine j7_newiK hx hb hK hh_11 hB (atype := .int) (ty := .int) (htw (.arrayClass .int) (jWr_3 _ (List.mem_of_getElem? (i := 20) rfl))) rfl rfl (fun _ h => h) hB292 1 rfl (by decide) (by decide) hbs (x := 3) (by decide) (by omega) (fun j => by first | trivial | decide | rfl | exact Or.inl rfl | (refine ⟨?_, ?_⟩ <;> decide)) (by rw [hRc]; omega) (by rw [hRs]; omega) dX10_init_24 (fun H_13 hfr_13 hh_13 => ?_)
  have hh_13 : jSt (dC, dI) B base G0 (va_up G_7 H_11.size (some (292, 3))) EX10_init s.heap (((0 + 1) + 1) + 1) (((0 + 1500) + 1500) + 3) [] [] [] H_13 locs_11 := hh_13
  have hN_13 : (jNk [0, 1, 2, 3, 4, 5, 6, 7, 8, 9, 10, 11, 13, 14, 15, 16, 17, 175]) G_7 (va_up G_7 H_11.size (some (292, 3))) := jNk.new (by decide)
  have hgn_13 : (va_up G_7 H_11.size (some (292, 3))) H_11.size = some (292, 3) := jUp_self
  have hle_13 : jLe G_7 (va_up G_7 H_11.size (some (292, 3))) := jLe.new hh_11.2.1.fresh
  have hke_13 : jKe G_7 (va_up G_7 H_11.size (some (292, 3))) H_11 H_13 := jKe.new hfr_13
  have hsy_13 : s.heap.size ≤ H_11.size := hh_11.1.1
  generalize (va_up G_7 H_11.size (some (292, 3))) = G_13 at hN_13 hgn_13 hle_13 hke_13 hh_13
  clear hh_11
  have hNn_13 : (jNk [0, 1, 2, 3, 4, 5, 6, 7, 8, 9, 10, 11, 13, 14, 15, 16, 17, 175]) G0 G_13 := (hNn_7).tr hN_13
  have hg_14 := hle_13 _ _ hg_8
  have hkp_15 := hkp_12.tr hke_13
  have hraw_16n := hke_13.nr hraw_11.lt hraw_10n
  have hraw_16 := hraw_11.kept (hke_13.1 _ hraw_11.lt)
  refine j7_putRF hx hb hown hK hh_13 hB hAp hraw_16 hraw_16n hbr0 (C := RX10) (T := TX10) (N := 11) rfl (i := 6) (by decide) (Nat.le_of_ble_eq_true rfl) hly_12_6 rfl hin2 rfl hlk_18 (ty := (.array .int)) (v := .ref H_11.size) (by decide +kernel) rfl rfl dX10_init_26 (fun H_17 locs_17 hraw_17 hr_17 hh_17 => ?_)
  have hraw_17 : va_at (dC, dI) vwCl (r0, .inr (12, [.null, .ref s.heap.size, .ref H_5.size, .int 0, .int 0, .int 0, .ref H_11.size, .int 0, .int 0, .null, .int 0])) H_17 := hraw_17
  have hkp_18 := hkp_15.put hr_17
  clear hh_13
  refine lv_aload_n hx hb dX10_init_29 rfl (lv_at hl 0 rfl) ?_
  refine lv_sipush (v := 3000) hx hb dX10_init_30 (by decide) ?_
  have hsz_19 := hh_17.2.2.2.2.2.1
  have htt_19 := hh_17.2.2.2.2.2.2.1
  refine j7_newiK hx hb hK hh_17 hB (atype := .int) (ty := .int) (htw (.arrayClass .int) (jWr_3 _ (List.mem_of_getElem? (i := 20) rfl))) rfl rfl (fun _ h => h) hB280 1 rfl (by decide) (by decide) hbs (x := 3000) (by decide) (by omega) (fun j => by first | trivial | decide | rfl | exact Or.inl rfl | (refine ⟨?_, ?_⟩ <;> decide)) (by rw [hRc]; omega) (by rw [hRs]; omega) dX10_init_33 (fun H_19 hfr_19 hh_19 => ?_)
  have hh_19 : jSt (dC, dI) B base G0 (va_up G_13 H_17.size (some (280, 3000))) EX10_init s.heap ((((0 + 1) + 1) + 1) + 1) ((((0 + 1500) + 1500) + 3) + 3000) [] [] [] H_19 locs_17 := hh_19
  have hN_19 : (jNk [0, 1, 2, 3, 4, 5, 6, 7, 8, 9, 10, 11, 13, 14, 15, 16, 17, 175]) G_13 (va_up G_13 H_17.size (some (280, 3000))) := jNk.new (by decide)
  have hgn_19 : (va_up G_13 H_17.size (some (280, 3000))) H_17.size = some (280, 3000) := jUp_self
  have hle_19 : jLe G_13 (va_up G_13 H_17.size (some (280, 3000))) := jLe.new hh_17.2.1.fresh
  have hke_19 : jKe G_13 (va_up G_13 H_17.size (some (280, 3000))) H_17 H_19 := jKe.new hfr_19
  have hsy_19 : s.heap.size ≤ H_17.size := hh_17.1.1
  generalize (va_up G_13 H_17.size (some (280, 3000))) = G_19 at hN_19 hgn_19 hle_19 hke_19 hh_19
  clear hh_17
  have hNn_19 : (jNk [0, 1, 2, 3, 4, 5, 6, 7, 8, 9, 10, 11, 13, 14, 15, 16, 17, 175]) G0 G_19 := (hNn_13).tr hN_19
  have hg_20 := hle_19 _ _ hg_14
  have hkp_21 := hkp_18.tr hke_19
  have hraw_22n := hke_19.nr hraw_17.lt hraw_16n
  have hraw_22 := hraw_17.kept (hke_19.1 _ hraw_17.lt)
  refine j7_putRF hx hb hown hK hh_19 hB hAp hraw_22 hraw_22n hbr0 (C := RX10) (T := TX10) (N := 11) rfl (i := 9) (by decide) (Nat.le_of_ble_eq_true rfl) hly_12_9 rfl hin2 rfl hlk_21 (ty := (.array .int)) (v := .ref H_17.size) (by decide +kernel) rfl rfl dX10_init_35 (fun H_23 locs_23 hraw_23 hr_23 hh_23 => ?_)
  have hraw_23 : va_at (dC, dI) vwCl (r0, .inr (12, [.null, .ref s.heap.size, .ref H_5.size, .int 0, .int 0, .int 0, .ref H_11.size, .int 0, .int 0, .ref H_17.size, .int 0])) H_23 := hraw_23
  have hkp_24 := hkp_21.put hr_23
  clear hh_19
  refine lv_aload_n hx hb dX10_init_38 rfl (lv_at hl 0 rfl) ?_
  refine lv_aload_n hx hb dX10_init_39 rfl (lv_at hl 1 rfl) ?_
  refine j7_putRF hx hb hown hK hh_23 hB hAp hraw_23 hraw_22n hbr0 (C := RX10) (T := TX10) (N := 11) rfl (i := 0) (by decide) (Nat.le_of_ble_eq_true rfl) hly_12_0 rfl hin2 rfl hlk_24 (ty := (.object "ProofServer$Names")) (v := .ref r1) (by decide +kernel) rfl rfl dX10_init_40 (fun H_25 locs_25 hraw_25 hr_25 hh_25 => ?_)
  have hraw_25 : va_at (dC, dI) vwCl (r0, .inr (12, [.ref r1, .ref s.heap.size, .ref H_5.size, .int 0, .int 0, .int 0, .ref H_11.size, .int 0, .int 0, .ref H_17.size, .int 0])) H_25 := hraw_25
  have hkp_26 := hkp_24.put hr_25
  clear hh_23
  have hsz_27 := hh_25.2.2.2.2.2.1
  have htt_27 := hh_25.2.2.2.2.2.2.1
  refine W.room (fun hrc_27 hrs_27 => ?_)
  refine W.widen (k := LC - s.heap.size) (n := LS - jTot s.heap) (by omega) (by omega) ?_
  rw [hQ]
  have hle_28 : jLe G_19 (va_up G_19 r0 (some (12, 0))) := jLe.typ hraw_22n
  have hg_29 := hle_28 _ _ hg_20
  have hg_30 := (jLe.rf).tr hle_28 _ _ hg_20
  have hg_31 := (((hle_7).tr hle_13).tr hle_19).tr hle_28 _ _ hgn_1
  have hg_32 := ((hle_13).tr hle_19).tr hle_28 _ _ hgn_7
  have hg_33 := (hle_19).tr hle_28 _ _ hgn_13
  have hg_34 := (jLe.rf).tr hle_28 _ _ hgn_19
  have hfa_28 : jRf (va_up G_19 r0 (some (12, 0))) 8 0 (.ref r1) ∧ jRf (va_up G_19 r0 (some (12, 0))) 101 1500 (.ref s.heap.size) ∧ jRf (va_up G_19 r0 (some (12, 0))) 293 1500 (.ref H_5.size) ∧ jI 0 1500 (.int 0) ∧ jI 0 1503 (.int 0) ∧ jIa (.int 0) ∧ jRf (va_up G_19 r0 (some (12, 0))) 292 3 (.ref H_11.size) ∧ jI 0 3 (.int 0) ∧ jIa (.int 0) ∧ jRf (va_up G_19 r0 (some (12, 0))) 280 3000 (.ref H_17.size) ∧ jI 0 3000 (.int 0) ∧ True := ⟨⟨_, rfl, hg_30⟩, ⟨_, rfl, hg_31⟩, ⟨_, rfl, hg_32⟩, ⟨_, rfl, by omega, by omega⟩, ⟨_, rfl, by omega, by omega⟩, ⟨_, rfl⟩, ⟨_, rfl, hg_33⟩, ⟨_, rfl, by omega, by omega⟩, ⟨_, rfl⟩, ⟨_, rfl, hg_34⟩, ⟨_, rfl, by omega, by omega⟩, trivial⟩
  have hh_28 := hh_25.typ (k := 12) (n := 0) hB hraw_22n hbr0 hraw_25.lt (jOb.of (C := RX10) (T := TX10) (N := 11) (F := F12b) hB12 rfl hraw_25 (show jFx (F12b 0 (va_up G_19 r0 (some (12, 0)))) [.ref r1, .ref s.heap.size, .ref H_5.size, .int 0, .int 0, .int 0, .ref H_11.size, .int 0, .int 0, .ref H_17.size, .int 0] from hfa_28))
  have hgn_28 : (va_up G_19 r0 (some (12, 0))) r0 = some (12, 0) := jUp_self
  have hN_28 : (jNk [0, 1, 2, 3, 4, 5, 6, 7, 8, 9, 10, 11, 13, 14, 15, 16, 17, 175]) G_19 (va_up G_19 r0 (some (12, 0))) := jNk.new (by decide)
  have hNn_28 : (jNk [0, 1, 2, 3, 4, 5, 6, 7, 8, 9, 10, 11, 13, 14, 15, 16, 17, 175]) G0 (va_up G_19 r0 (some (12, 0))) := (hNn_19).tr hN_28
  have hkp_35 := hkp_26.typ (t := some (12, 0))
  exact W.vret hx hb hr (fun t ht hW => ⟨⟨(va_up G_19 r0 (some (12, 0))), rfl, trivial, ⟨hh_28.ra (by first | omega | (simp only; omega)) (by first | omega | (simp only; omega)) (M1 := []) [] rfl ht, hNn_28, hgn_28, by rw [ht]; exact hkp_35⟩⟩, by rw [ht]; try exact hh_28.1.1, fun q h9 hq => by rw [ht]; try exact hh_28.1.2.1 q h9 hq⟩) hh_28.1.2.2 dX10_init_43
end
section
def EX0_initY : List (Nat × Nat) := []
set_option maxHeartbeats 4000000 in
set_option maxRecDepth 20000 in
theorem uX0_initY (l : Launch) (dC : Nat → ClassId) (dI : Nat → Nat → Nat) (ca : Nat → ClassId) (base : Nat) (B : jF) (hB : jBok B) (hAp : jAp (dC, dI)) (hB2 : ∀ n G a H, B 2 n G a H ↔ jOb (dC, dI) 2 2 (F2 n G) a H) (hB17 : ∀ n G a H, B 17 n G a H ↔ jOb (dC, dI) 17 2 (F17 n G) a H) (hB196 : ∀ n G a H, B 196 n G a H ↔ jAr (dC, dI) (ca 0) (fun j z => jBf j z) n a H) (hB199 : ∀ n G a H, B 199 n G a H ↔ jAr (dC, dI) (ca 0) (fun j z => jBf j z) n a H) (G0 : jT) (H0 : Heap) (r0 : Nat) (a1 : Int32) (kn : Nat) (LC LS : Nat) : Met l yX0_init (jw yX0_init cX0_init 2 none) ({ frames := 1, cells := LC - H0.size, slots := LS - jTot H0, locals := 31 }) (va_Pc [.ref r0, .int a1] (fun U => U.heap = H0 ∧ jX B base G0 [] H0 ∧ jG dC dI ca base U ∧ va_at (dC, dI) vwCl (r0, .inr (2, [.null, .int 0])) H0 ∧ (∀ t, G0 r0 ≠ some t) ∧ base ≤ r0 ∧ jP (dC, dI) G0 H0 [] ∧ jIs (dC, dI) G0 H0 [(jFy, jYb dC dI G0)] ∧ H0.size + 1 ≤ LC ∧ jTot H0 + a1.toInt.toNat ≤ LS ∧ 16 ≤ a1.toInt ∧ a1.toInt ≤ 20000 ∧ (kn = 0 ∨ kn = a1.toInt) ∧ (kn = 0 → jPw (a1.toInt).toNat) ∧ kn ≠ 4000)) (va_Qv (S := Int32 × Nat × Nat × jT) (fun u => u.1.toInt = 0 ∧ u.2.2.1 = a1.toInt) (fun u t => jRa (dC, dI) B base G0 u.2.2.2 EX0_initY H0 (1) (a1.toInt.toNat) [(r0, 2, 1, .int u.1), (r0, 2, 0, .ref u.2.1)] t.heap ∧ u.2.2.2 u.2.1 = some (196, u.2.2.1) ∧ (jNk [0, 1, 3, 4, 5, 6, 7, 8, 9, 10, 11, 12, 13, 14, 15, 16, 17, 175]) G0 u.2.2.2 ∧ u.2.2.2 r0 = some (2, kn) ∧ jKx r0 G0 u.2.2.2 H0 t.heap ∧ jIs (dC, dI) u.2.2.2 t.heap [(jFy, jYb dC dI u.2.2.2)]) (jA base)) (LC - H0.size) (LS - jTot H0) (jA base) := by
  refine Met.ofW (cc := cX0_init) (maxL := 2) (ret := none) (by decide) rfl ?_
  intro p e s m args below meth c s₁ Bd hml hv
  obtain ⟨rfl, hH0, hX, hG, hraw0, hnr0, hbr0, hP0, hI0, hLC0, hLS0, hp0, hp1, hp2, hp3, hp4⟩ := hv
  have hK := hG.1
  have hx := Bd.exec
  have hb := Bd.bytes
  have hr := Bd.returns
  have hts := atoms_spec (ws := (jw yX0_init cX0_init 2 none)) Bd.pre
  have htw : ∀ w ∈ jWl, w.before _ s = true := fun w h => hts w (List.mem_cons_of_mem _ h)
  have hown : s.vm.findClass RX0 = some m.cls := findClass_of_methodNamed Bd.named
  have hlocks := Bd.notSynchronized
  obtain ⟨Q, hQ⟩ : ∃ Q, Q = MQ below (va_Qv (S := Int32 × Nat × Nat × jT) (fun u => u.1.toInt = 0 ∧ u.2.2.1 = a1.toInt) (fun u t => jRa (dC, dI) B base G0 u.2.2.2 EX0_initY H0 (1) (a1.toInt.toNat) [(r0, 2, 1, .int u.1), (r0, 2, 0, .ref u.2.1)] t.heap ∧ u.2.2.2 u.2.1 = some (196, u.2.2.1) ∧ (jNk [0, 1, 3, 4, 5, 6, 7, 8, 9, 10, 11, 12, 13, 14, 15, 16, 17, 175]) G0 u.2.2.2 ∧ u.2.2.2 r0 = some (2, kn) ∧ jKx r0 G0 u.2.2.2 H0 t.heap ∧ jIs (dC, dI) u.2.2.2 t.heap [(jFy, jYb dC dI u.2.2.2)]) (jA base)) ([.ref r0, .int a1] : List Value).toArray s (LC - H0.size) (LS - jTot H0) (jA base) := ⟨_, rfl⟩
  rw [← hQ]
  have hl := lv_entry ([.ref r0, .int a1]) (n := 2) (Nat.le_of_ble_eq_true rfl)
  rw [lg_entry_eq]
  generalize (lg_sl ([.ref r0, .int a1]) ++ List.replicate (2 - (lg_sl ([.ref r0, .int a1])).length) Slot.unset).toArray = ls at hl ⊢
  have hl : lv_has ls 2 [(0, .ref r0), (1, .int a1)] := hl
  generalize hR : (headSpec (jw yX0_init cX0_init 2 none) ({ frames := 1, cells := LC - H0.size, slots := LS - jTot H0, locals := 31 })).room = R
  subst hH0
  have hh : jSt (dC, dI) B base G0 G0 EX0_initY s.heap 0 0 [] [] [(jFy, jYb dC dI G0)] s.heap [] := jSt.start hX hP0 jMc.nil hI0
  clear hX hP0
  have hk0 : (0 : Int32).toInt = 0 := by decide
  have hk1 : (1 : Int32).toInt = 1 := by decide
  have hk16 : (16 : Int32).toInt = 16 := by decide
  have hly_2_0 := htw (u_lay RX0 TX0 0) (jWc_wsX00 _ (u_in_lay (by decide)))
  have hlk_13 := (htw (.fieldLink RX0 13 "ProofServer$Bytes" "row" "[B") (jWr_3 _ (List.mem_of_getElem? (i := 10) rfl)))
  have hrg_a1 := jb_rng a1
  have hbs : base ≤ s.heap.size := Nat.le_of_lt (Nat.lt_of_le_of_lt hbr0 hraw0.lt)
  have hRc : R.cells = LC - s.heap.size := by rw [← hR]; rfl
  have hRs : R.slots = LS - jTot s.heap := by rw [← hR]; rfl
  have hin2 : meth.name = "<init>" := (name_of_methodNamed Bd.named Bd.method).1
  have hkp : jKx r0 G0 G0 s.heap s.heap := jKx.rf
  refine lv_aload_n hx hb dX0_init_0 rfl (lv_at hl 0 rfl) ?_
  refine W.objInit hx hb hown (htw (.methodLink RX0 1 objectInit) (jWr_3 _ (List.mem_of_getElem? (i := 4) rfl))) (htw (.instanceMethod objectInit) (jWr_1 _ (List.mem_of_getElem? (i := 10) rfl))) (htw (.code objectInit ⟨#[0xb1]⟩ 1 none) (jWr_1 _ (List.mem_of_getElem? (i := 11) rfl))) rfl (by rw [hml]; exact hl.1) rfl dX0_init_1 (by rw [← hR]; exact Nat.le_of_ble_eq_true rfl) (by rw [← hR]; exact Nat.le_of_ble_eq_true rfl) ?_
  refine W.eq (g2 := F0 m 4 ls []) rfl ?_
  refine lv_aload_n hx hb dX0_init_4 rfl (lv_at hl 0 rfl) ?_
  refine lv_iload_n hx hb dX0_init_5 rfl (lv_at hl 1 rfl) ?_
  refine lv_bipush (v := 16) hx hb dX0_init_6 (by decide) ?_
  have hsz_1 := hh.2.2.2.2.2.1
  have htt_1 := hh.2.2.2.2.2.2.1
  refine W.room (fun hrc_1 hrs_1 => ?_)
  refine va_mmax hx hb (by rw [hml]; exact hl.1.symm) hown (htw (.methodLink RX0 7 Lib.Math.max.name) (jWr_3 _ (List.mem_of_getElem? (i := 5) rfl))) (htw (.static Lib.Math.max.name) (jWr_3 _ (List.mem_of_getElem? (i := 6) rfl))) (htw (.initialized "java/lang/Math") (jWr_3 _ (List.mem_of_getElem? (i := 7) rfl))) (htw (.code Lib.Math.max.name Lib.Math.max.code 2 (some .int)) (jWr_3 _ (List.mem_of_getElem? (i := 8) rfl))) (by rw [← hR]; exact Nat.le_of_ble_eq_true rfl) (by rw [← hR]; exact Nat.le_of_ble_eq_true rfl) (by rw [hRc]; omega) (by rw [hRs]; omega) dX0_init_8 ?_
  refine lv_topi (fun z_2 ez_2 => ?_)
  have hz_2 := jb_max ez_2
  have hsz_3 := hh.2.2.2.2.2.1
  have htt_3 := hh.2.2.2.2.2.2.1
  refine j7_newiK hx hb hK hh hB (atype := .byte) (ty := .byte) (htw (.arrayClass .byte) (jWr_3 _ (List.mem_of_getElem? (i := 9) rfl))) rfl rfl (fun _ h => h) hB196 0 rfl (by decide) (by decide) hbs (x := z_2.toInt) rfl (by omega) (fun j => by first | trivial | decide | rfl | exact Or.inl rfl | exact Or.inr (Or.inl (by decide)) | (refine ⟨?_, ?_⟩ <;> decide)) (by rw [hRc]; omega) (by rw [hRs]; omega) dX0_init_11 (fun H_3 hfr_3 hh_3 => ?_)
  have hh_3 : jSt (dC, dI) B base G0 (va_up G0 s.heap.size (some (196, (z_2.toInt).toNat))) EX0_initY s.heap (0 + 1) (0 + (z_2.toInt).toNat) [] [] [(jFy, jYb dC dI G0)] H_3 [] := hh_3
  have hM_3 : jNk [1, 2, 11] G0 (va_up G0 s.heap.size (some (196, (z_2.toInt).toNat))) := jNk.new (by decide)
  have hN_3 : (jNk [0, 1, 3, 4, 5, 6, 7, 8, 9, 10, 11, 12, 13, 14, 15, 16, 17, 175]) G0 (va_up G0 s.heap.size (some (196, (z_2.toInt).toNat))) := jNk.new (by decide)
  have hgn_3 : (va_up G0 s.heap.size (some (196, (z_2.toInt).toNat))) s.heap.size = some (196, (z_2.toInt).toNat) := jUp_self
  have hle_3 : jLe G0 (va_up G0 s.heap.size (some (196, (z_2.toInt).toNat))) := jLe.new hh.2.1.fresh
  have hke_3 : jKe G0 (va_up G0 s.heap.size (some (196, (z_2.toInt).toNat))) s.heap H_3 := jKe.new hfr_3
  have hsy_3 : s.heap.size ≤ s.heap.size := hh.1.1
  generalize (va_up G0 s.heap.size (some (196, (z_2.toInt).toNat))) = G_3 at hN_3 hgn_3 hle_3 hke_3 hh_3 hM_3
  generalize hnc_3 : (z_2.toInt).toNat = nc_3 at hgn_3 hh_3 ⊢
  clear hh
  have hNn_3 : (jNk [0, 1, 3, 4, 5, 6, 7, 8, 9, 10, 11, 12, 13, 14, 15, 16, 17, 175]) G0 G_3 := (jNk.rf).tr hN_3
  have hkp_4 := hkp.tr hke_3
  have hraw_5n := hke_3.nr hraw0.lt hnr0
  have hraw_5 := hraw0.kept (hke_3.1 _ hraw0.lt)
  have hd_6 := jYb.grow (hh_3.iv 0 rfl) hle_3 hM_3 (by decide)
  have hh_7 := hh_3.sub (L1 := []) [] rfl (M1 := []) [] rfl (I1 := []) [] rfl
  clear hh_3
  have hh_8 := hh_7.addI (jYb.ie hd_6)
  clear hh_7
  refine j7_putR hx hb hown hK hh_8 hB hAp hraw_5 hraw_5n hbr0 (C := RX0) (T := TX0) (N := 2) rfl (i := 0) (by decide) (Nat.le_of_ble_eq_true rfl) hly_2_0 rfl hlk_13 (ty := (.array .byte)) (v := .ref s.heap.size) (by decide +kernel) rfl rfl dX0_init_13 (fun H_9 locs_9 hraw_9 hr_9 hh_9 => ?_)
  have hraw_9 : va_at (dC, dI) vwCl (r0, .inr (2, [.ref s.heap.size, .int 0])) H_9 := hraw_9
  have hkp_10 := hkp_4.put hr_9
  clear hh_8
  have hd_11 := jYb.typ (n := kn) (hh_9.iv 0 rfl) hraw_5n (fun _ => ⟨0, s.heap.size, nc_3, jf.raw (C := RX0) (T := TX0) (N := 2) rfl hraw_9 (i := 1) (by decide), jf.raw (C := RX0) (T := TX0) (N := 2) rfl hraw_9 (i := 0) (by decide), (jLe.rf) _ _ hgn_3, by show (0 : Int) ≤ _; omega, by omega⟩)
  have hh_12 := hh_9.sub (L1 := []) [] rfl (M1 := []) [] rfl (I1 := []) [] rfl
  clear hh_9
  have hle_13 : jLe G_3 (va_up G_3 r0 (some (2, kn))) := jLe.typ hraw_5n
  have hg_14 := (jLe.rf).tr hle_13 _ _ hgn_3
  have hfa_13 : jBr kn (va_up G_3 r0 (some (2, kn))) (.ref s.heap.size) ∧ jBct kn (.int 0) ∧ True := ⟨jBr.mk6 (by omega) hg_14 (by omega) (by omega) (fun h9 => by first | assumption | exact (hp3 h9).cg (by omega)) (by omega), ⟨_, rfl, by omega, by omega, by omega⟩, trivial⟩
  have hh_13 := hh_12.typ (k := 2) (n := kn) hB hraw_5n hbr0 hraw_9.lt (jOb.of (C := RX0) (T := TX0) (N := 2) (F := F2) hB2 rfl hraw_9 (show jFx (F2 kn (va_up G_3 r0 (some (2, kn)))) [.ref s.heap.size, .int 0] from hfa_13))
  have hgn_13 : (va_up G_3 r0 (some (2, kn))) r0 = some (2, kn) := jUp_self
  have hN_13 : (jNk [0, 1, 3, 4, 5, 6, 7, 8, 9, 10, 11, 12, 13, 14, 15, 16, 17, 175]) G_3 (va_up G_3 r0 (some (2, kn))) := jNk.new (by decide)
  have hNn_13 : (jNk [0, 1, 3, 4, 5, 6, 7, 8, 9, 10, 11, 12, 13, 14, 15, 16, 17, 175]) G0 (va_up G_3 r0 (some (2, kn))) := (hNn_3).tr hN_13
  have hkp_15 := hkp_10.typ (t := some (2, kn))
  have hh_16 := hh_13.addI (jYb.ie hd_11)
  clear hh_13
  have hg_17 := (hle_13) _ _ hgn_3
  have hh_18 := hh_16.more (P1 := [(r0, 2, 0, .ref s.heap.size), (r0, 2, 1, .int 0)]) (jP.cons hgn_13 (jf.raw (C := RX0) (T := TX0) (N := 2) rfl hraw_9 (i := 0) (by decide)) (jP.cons hgn_13 (jf.raw (C := RX0) (T := TX0) (N := 2) rfl hraw_9 (i := 1) (by decide)) jP.nil))
  have hsz_19 := hh_18.2.2.2.2.2.1
  have htt_19 := hh_18.2.2.2.2.2.2.1
  refine W.room (fun hrc_19 hrs_19 => ?_)
  refine W.widen (k := LC - s.heap.size) (n := LS - jTot s.heap) (by omega) (by omega) ?_
  rw [hQ]
  exact W.vret hx hb hr (fun t ht hW => ⟨⟨(0, s.heap.size, nc_3, (va_up G_3 r0 (some (2, kn)))), rfl, by (try dsimp only); exact ⟨(by first | omega | rfl | assumption | fail), (by first | omega | rfl | assumption | fail)⟩, ⟨hh_18.ra (by first | (simp only; omega) | omega) (by first | (simp only; omega) | omega) (M1 := [(r0, 2, 1, .int 0), (r0, 2, 0, .ref s.heap.size)]) [1, 0] rfl ht, hg_17, hNn_13, hgn_13, by rw [ht]; exact hkp_15, by rw [ht]; exact hh_18.2.2.2.2.2.2.2.2.sub (L1 := [(jFy, jYb dC dI (va_up G_3 r0 (some (2, kn))))]) [0] rfl⟩⟩, by rw [ht]; try exact hh_18.1.1, fun q h9 hq => by rw [ht]; try exact hh_18.1.2.1 q h9 hq⟩) hh_18.1.2.2 dX0_init_16
def EX0_initT : List (Nat × Nat) := []
set_option maxHeartbeats 4000000 in
set_option maxRecDepth 20000 in
theorem uX0_initT (l : Launch) (dC : Nat → ClassId) (dI : Nat → Nat → Nat) (ca : Nat → ClassId) (base : Nat) (B : jF) (hB : jBok B) (hAp : jAp (dC, dI)) (hB2 : ∀ n G a H, B 2 n G a H ↔ jOb (dC, dI) 2 2 (F2 n G) a H) (hB17 : ∀ n G a H, B 17 n G a H ↔ jOb (dC, dI) 17 2 (F17 n G) a H) (hB196 : ∀ n G a H, B 196 n G a H ↔ jAr (dC, dI) (ca 0) (fun j z => jBf j z) n a H) (hB197 : ∀ n G a H, B 197 n G a H ↔ jAr (dC, dI) (ca 0) (fun j z => jBf j z) n a H) (hB199 : ∀ n G a H, B 199 n G a H ↔ jAr (dC, dI) (ca 0) (fun j z => jBf j z) n a H) (G0 : jT) (H0 : Heap) (r0 : Nat) (a1 : Int32) (LC LS : Nat) : Met l yX0_init (jw yX0_init cX0_init 2 none) ({ frames := 1, cells := LC - H0.size, slots := LS - jTot H0, locals := 31 }) (va_Pc [.ref r0, .int a1] (fun U => U.heap = H0 ∧ jX B base G0 [] H0 ∧ jG dC dI ca base U ∧ va_at (dC, dI) vwCl (r0, .inr (2, [.null, .int 0])) H0 ∧ (∀ t, G0 r0 ≠ some t) ∧ base ≤ r0 ∧ jP (dC, dI) G0 H0 [] ∧ jIs (dC, dI) G0 H0 [(jFy, jYb dC dI G0)] ∧ H0.size + 1 ≤ LC ∧ jTot H0 + a1.toInt.toNat ≤ LS ∧ a1.toInt = 4000)) (va_Qv (S := Int32 × Nat × Nat × jT) (fun u => u.1.toInt = 0 ∧ u.2.2.1 = a1.toInt) (fun u t => jRa (dC, dI) B base G0 u.2.2.2 EX0_initT H0 (1) (a1.toInt.toNat) [(r0, 2, 1, .int u.1), (r0, 2, 0, .ref u.2.1)] t.heap ∧ u.2.2.2 u.2.1 = some (197, u.2.2.1) ∧ (jNk [0, 1, 3, 4, 5, 6, 7, 8, 9, 10, 11, 12, 13, 14, 15, 16, 17, 175]) G0 u.2.2.2 ∧ u.2.2.2 r0 = some (2, 4000) ∧ jKx r0 G0 u.2.2.2 H0 t.heap ∧ jIs (dC, dI) u.2.2.2 t.heap [(jFy, jYb dC dI u.2.2.2)]) (jA base)) (LC - H0.size) (LS - jTot H0) (jA base) := by
  refine Met.ofW (cc := cX0_init) (maxL := 2) (ret := none) (by decide) rfl ?_
  intro p e s m args below meth c s₁ Bd hml hv
  obtain ⟨rfl, hH0, hX, hG, hraw0, hnr0, hbr0, hP0, hI0, hLC0, hLS0, hp0⟩ := hv
  have hK := hG.1
  have hx := Bd.exec
  have hb := Bd.bytes
  have hr := Bd.returns
  have hts := atoms_spec (ws := (jw yX0_init cX0_init 2 none)) Bd.pre
  have htw : ∀ w ∈ jWl, w.before _ s = true := fun w h => hts w (List.mem_cons_of_mem _ h)
  have hown : s.vm.findClass RX0 = some m.cls := findClass_of_methodNamed Bd.named
  have hlocks := Bd.notSynchronized
  obtain ⟨Q, hQ⟩ : ∃ Q, Q = MQ below (va_Qv (S := Int32 × Nat × Nat × jT) (fun u => u.1.toInt = 0 ∧ u.2.2.1 = a1.toInt) (fun u t => jRa (dC, dI) B base G0 u.2.2.2 EX0_initT H0 (1) (a1.toInt.toNat) [(r0, 2, 1, .int u.1), (r0, 2, 0, .ref u.2.1)] t.heap ∧ u.2.2.2 u.2.1 = some (197, u.2.2.1) ∧ (jNk [0, 1, 3, 4, 5, 6, 7, 8, 9, 10, 11, 12, 13, 14, 15, 16, 17, 175]) G0 u.2.2.2 ∧ u.2.2.2 r0 = some (2, 4000) ∧ jKx r0 G0 u.2.2.2 H0 t.heap ∧ jIs (dC, dI) u.2.2.2 t.heap [(jFy, jYb dC dI u.2.2.2)]) (jA base)) ([.ref r0, .int a1] : List Value).toArray s (LC - H0.size) (LS - jTot H0) (jA base) := ⟨_, rfl⟩
  rw [← hQ]
  have hl := lv_entry ([.ref r0, .int a1]) (n := 2) (Nat.le_of_ble_eq_true rfl)
  rw [lg_entry_eq]
  generalize (lg_sl ([.ref r0, .int a1]) ++ List.replicate (2 - (lg_sl ([.ref r0, .int a1])).length) Slot.unset).toArray = ls at hl ⊢
  have hl : lv_has ls 2 [(0, .ref r0), (1, .int a1)] := hl
  generalize hR : (headSpec (jw yX0_init cX0_init 2 none) ({ frames := 1, cells := LC - H0.size, slots := LS - jTot H0, locals := 31 })).room = R
  subst hH0
  have hh : jSt (dC, dI) B base G0 G0 EX0_initT s.heap 0 0 [] [] [(jFy, jYb dC dI G0)] s.heap [] := jSt.start hX hP0 jMc.nil hI0
  clear hX hP0
  have hk0 : (0 : Int32).toInt = 0 := by decide
  have hk1 : (1 : Int32).toInt = 1 := by decide
  have hk16 : (16 : Int32).toInt = 16 := by decide
  have hly_2_0 := htw (u_lay RX0 TX0 0) (jWc_wsX00 _ (u_in_lay (by decide)))
  have hlk_13 := (htw (.fieldLink RX0 13 "ProofServer$Bytes" "row" "[B") (jWr_3 _ (List.mem_of_getElem? (i := 10) rfl)))
  have hrg_a1 := jb_rng a1
  have hbs : base ≤ s.heap.size := Nat.le_of_lt (Nat.lt_of_le_of_lt hbr0 hraw0.lt)
  have hRc : R.cells = LC - s.heap.size := by rw [← hR]; rfl
  have hRs : R.slots = LS - jTot s.heap := by rw [← hR]; rfl
  have hin2 : meth.name = "<init>" := (name_of_methodNamed Bd.named Bd.method).1
  have hkp : jKx r0 G0 G0 s.heap s.heap := jKx.rf
  refine lv_aload_n hx hb dX0_init_0 rfl (lv_at hl 0 rfl) ?_
  refine W.objInit hx hb hown (htw (.methodLink RX0 1 objectInit) (jWr_3 _ (List.mem_of_getElem? (i := 4) rfl))) (htw (.instanceMethod objectInit) (jWr_1 _ (List.mem_of_getElem? (i := 10) rfl))) (htw (.code objectInit ⟨#[0xb1]⟩ 1 none) (jWr_1 _ (List.mem_of_getElem? (i := 11) rfl))) rfl (by rw [hml]; exact hl.1) rfl dX0_init_1 (by rw [← hR]; exact Nat.le_of_ble_eq_true rfl) (by rw [← hR]; exact Nat.le_of_ble_eq_true rfl) ?_
  refine W.eq (g2 := F0 m 4 ls []) rfl ?_
  refine lv_aload_n hx hb dX0_init_4 rfl (lv_at hl 0 rfl) ?_
  refine lv_iload_n hx hb dX0_init_5 rfl (lv_at hl 1 rfl) ?_
  refine lv_bipush (v := 16) hx hb dX0_init_6 (by decide) ?_
  have hsz_1 := hh.2.2.2.2.2.1
  have htt_1 := hh.2.2.2.2.2.2.1
  refine W.room (fun hrc_1 hrs_1 => ?_)
  refine va_mmax hx hb (by rw [hml]; exact hl.1.symm) hown (htw (.methodLink RX0 7 Lib.Math.max.name) (jWr_3 _ (List.mem_of_getElem? (i := 5) rfl))) (htw (.static Lib.Math.max.name) (jWr_3 _ (List.mem_of_getElem? (i := 6) rfl))) (htw (.initialized "java/lang/Math") (jWr_3 _ (List.mem_of_getElem? (i := 7) rfl))) (htw (.code Lib.Math.max.name Lib.Math.max.code 2 (some .int)) (jWr_3 _ (List.mem_of_getElem? (i := 8) rfl))) (by rw [← hR]; exact Nat.le_of_ble_eq_true rfl) (by rw [← hR]; exact Nat.le_of_ble_eq_true rfl) (by rw [hRc]; omega) (by rw [hRs]; omega) dX0_init_8 ?_
  refine lv_topi (fun z_2 ez_2 => ?_)
  have hz_2 := jb_max ez_2
  have hsz_3 := hh.2.2.2.2.2.1
  have htt_3 := hh.2.2.2.2.2.2.1
  refine j7_newiK hx hb hK hh hB (atype := .byte) (ty := .byte) (htw (.arrayClass .byte) (jWr_3 _ (List.mem_of_getElem? (i := 9) rfl))) rfl rfl (fun _ h => h) hB197 0 rfl (by decide) (by decide) hbs (x := z_2.toInt) rfl (by omega) (fun j => by first | trivial | decide | rfl | exact Or.inl rfl | exact Or.inr (Or.inl (by decide)) | (refine ⟨?_, ?_⟩ <;> decide)) (by rw [hRc]; omega) (by rw [hRs]; omega) dX0_init_11 (fun H_3 hfr_3 hh_3 => ?_)
  have hh_3 : jSt (dC, dI) B base G0 (va_up G0 s.heap.size (some (197, (z_2.toInt).toNat))) EX0_initT s.heap (0 + 1) (0 + (z_2.toInt).toNat) [] [] [(jFy, jYb dC dI G0)] H_3 [] := hh_3
  have hM_3 : jNk [1, 2, 11] G0 (va_up G0 s.heap.size (some (197, (z_2.toInt).toNat))) := jNk.new (by decide)
  have hN_3 : (jNk [0, 1, 3, 4, 5, 6, 7, 8, 9, 10, 11, 12, 13, 14, 15, 16, 17, 175]) G0 (va_up G0 s.heap.size (some (197, (z_2.toInt).toNat))) := jNk.new (by decide)
  have hgn_3 : (va_up G0 s.heap.size (some (197, (z_2.toInt).toNat))) s.heap.size = some (197, (z_2.toInt).toNat) := jUp_self
  have hle_3 : jLe G0 (va_up G0 s.heap.size (some (197, (z_2.toInt).toNat))) := jLe.new hh.2.1.fresh
  have hke_3 : jKe G0 (va_up G0 s.heap.size (some (197, (z_2.toInt).toNat))) s.heap H_3 := jKe.new hfr_3
  have hsy_3 : s.heap.size ≤ s.heap.size := hh.1.1
  generalize (va_up G0 s.heap.size (some (197, (z_2.toInt).toNat))) = G_3 at hN_3 hgn_3 hle_3 hke_3 hh_3 hM_3
  generalize hnc_3 : (z_2.toInt).toNat = nc_3 at hgn_3 hh_3 ⊢
  clear hh
  have hNn_3 : (jNk [0, 1, 3, 4, 5, 6, 7, 8, 9, 10, 11, 12, 13, 14, 15, 16, 17, 175]) G0 G_3 := (jNk.rf).tr hN_3
  have hkp_4 := hkp.tr hke_3
  have hraw_5n := hke_3.nr hraw0.lt hnr0
  have hraw_5 := hraw0.kept (hke_3.1 _ hraw0.lt)
  have hd_6 := jYb.grow (hh_3.iv 0 rfl) hle_3 hM_3 (by decide)
  have hh_7 := hh_3.sub (L1 := []) [] rfl (M1 := []) [] rfl (I1 := []) [] rfl
  clear hh_3
  have hh_8 := hh_7.addI (jYb.ie hd_6)
  clear hh_7
  refine j7_putR hx hb hown hK hh_8 hB hAp hraw_5 hraw_5n hbr0 (C := RX0) (T := TX0) (N := 2) rfl (i := 0) (by decide) (Nat.le_of_ble_eq_true rfl) hly_2_0 rfl hlk_13 (ty := (.array .byte)) (v := .ref s.heap.size) (by decide +kernel) rfl rfl dX0_init_13 (fun H_9 locs_9 hraw_9 hr_9 hh_9 => ?_)
  have hraw_9 : va_at (dC, dI) vwCl (r0, .inr (2, [.ref s.heap.size, .int 0])) H_9 := hraw_9
  have hkp_10 := hkp_4.put hr_9
  clear hh_8
  have hd_11 := jYb.typ (n := 4000) (hh_9.iv 0 rfl) hraw_5n (fun h9 => absurd h9 (by decide))
  have hh_12 := hh_9.sub (L1 := []) [] rfl (M1 := []) [] rfl (I1 := []) [] rfl
  clear hh_9
  have hle_13 : jLe G_3 (va_up G_3 r0 (some (2, 4000))) := jLe.typ hraw_5n
  have hg_14 := (jLe.rf).tr hle_13 _ _ hgn_3
  have hfa_13 : jBr 4000 (va_up G_3 r0 (some (2, 4000))) (.ref s.heap.size) ∧ jBct 4000 (.int 0) ∧ True := ⟨jBr.mk7 (jSz hg_14 (by omega)), ⟨_, rfl, by omega, by omega, by omega⟩, trivial⟩
  have hh_13 := hh_12.typ (k := 2) (n := 4000) hB hraw_5n hbr0 hraw_9.lt (jOb.of (C := RX0) (T := TX0) (N := 2) (F := F2) hB2 rfl hraw_9 (show jFx (F2 4000 (va_up G_3 r0 (some (2, 4000)))) [.ref s.heap.size, .int 0] from hfa_13))
  have hgn_13 : (va_up G_3 r0 (some (2, 4000))) r0 = some (2, 4000) := jUp_self
  have hN_13 : (jNk [0, 1, 3, 4, 5, 6, 7, 8, 9, 10, 11, 12, 13, 14, 15, 16, 17, 175]) G_3 (va_up G_3 r0 (some (2, 4000))) := jNk.new (by decide)
  have hNn_13 : (jNk [0, 1, 3, 4, 5, 6, 7, 8, 9, 10, 11, 12, 13, 14, 15, 16, 17, 175]) G0 (va_up G_3 r0 (some (2, 4000))) := (hNn_3).tr hN_13
  have hkp_15 := hkp_10.typ (t := some (2, 4000))
  have hh_16 := hh_13.addI (jYb.ie hd_11)
  clear hh_13
  have hg_17 := (hle_13) _ _ hgn_3
  have hh_18 := hh_16.more (P1 := [(r0, 2, 0, .ref s.heap.size), (r0, 2, 1, .int 0)]) (jP.cons hgn_13 (jf.raw (C := RX0) (T := TX0) (N := 2) rfl hraw_9 (i := 0) (by decide)) (jP.cons hgn_13 (jf.raw (C := RX0) (T := TX0) (N := 2) rfl hraw_9 (i := 1) (by decide)) jP.nil))
  have hsz_19 := hh_18.2.2.2.2.2.1
  have htt_19 := hh_18.2.2.2.2.2.2.1
  refine W.room (fun hrc_19 hrs_19 => ?_)
  refine W.widen (k := LC - s.heap.size) (n := LS - jTot s.heap) (by omega) (by omega) ?_
  rw [hQ]
  exact W.vret hx hb hr (fun t ht hW => ⟨⟨(0, s.heap.size, nc_3, (va_up G_3 r0 (some (2, 4000)))), rfl, by (try dsimp only); exact ⟨(by first | omega | rfl | assumption | fail), (by first | omega | rfl | assumption | fail)⟩, ⟨hh_18.ra (by first | (simp only; omega) | omega) (by first | (simp only; omega) | omega) (M1 := [(r0, 2, 1, .int 0), (r0, 2, 0, .ref s.heap.size)]) [1, 0] rfl ht, hg_17, hNn_13, hgn_13, by rw [ht]; exact hkp_15, by rw [ht]; exact hh_18.2.2.2.2.2.2.2.2.sub (L1 := [(jFy, jYb dC dI (va_up G_3 r0 (some (2, 4000))))]) [0] rfl⟩⟩, by rw [ht]; try exact hh_18.1.1, fun q h9 hq => by rw [ht]; try exact hh_18.1.2.1 q h9 hq⟩) hh_18.1.2.2 dX0_init_16
end
