section
-- new objects: raw while they are made, typed when they are whole
section J20
variable {p : Program} {l : Launch} {e : Env} {R : Room} {s : State} {m : MethodId} {args : Array Value} {below : List Frame} {meth : Method} {c : Code} {H : Heap} {locs : List Loc} {cells slots : Nat} {Q : State → Prop}
variable {cc : ByteArray} {pc : Nat} {ls : Array Slot} {rest : List Value} {dC : Nat → ClassId} {dI : Nat → Nat → Nat} {ca : Nat → ClassId} {B : jF} {base : Nat} {G0 G : jT} {E : List (Nat × Nat)} {H0 : Heap} {zc zs : Nat} {L : List jPin} {M : List jCt} {I : List jIv} {a k n i index N : Nat} {tys : List (ClassId × FieldType)} {own C : String} {T : u_T} {fs : List Value}
/-- an array of longs -/
theorem j7_newlK {cA : ClassId} (hexec : p.tables.exec = Jvm.exec) (hb : c.code = cc) (hK : va_K (dC, dI) vwCl tys s) (hh : jSt (dC, dI) B base G0 G E s.heap zc zs L M I H locs) (hB : jBok B) (harr : (Cond.arrayClass .long).before args s = true) (hra : ∀ cA, va_RA s cA .long → s.vm.findClass ("[" ++ FieldType.long.toString) = some cA) (hBk : ∀ n G a H, B k n G a H ↔ jAl (dC, dI) cA n a H) (t0 : Nat) (ht : tys[t0]? = some (cA, .long)) (hk : k < 1000) (hb0 : base ≤ s.heap.size) {z : Int32} {x : Int} (hi : z.toInt = x) (h0 : 0 ≤ x ∧ x ≤ 200000) (hR : zc + 1 ≤ R.cells) (hR2 : zs + x.toNat ≤ R.slots) (hdg : decode cc pc = .ok (.newarray .long, 2))
    (kk : ∀ (H1 : Heap), (∀ q, q < H.size → H1[q]? = H[q]?) → jSt (dC, dI) B base G0 (va_up G H.size (some (k, x.toNat))) E s.heap (zc + 1) (zs + x.toNat) L M I H1 locs → W p l e R s m args below meth c H1 locs (zc + 1) (zs + x.toNat) Q (F0 m (pc + 2) ls (.ref H.size :: rest))) : W p l e R s m args below meth c H locs cells slots Q (F0 m pc ls (.int z :: rest)) := by
  have hn0 : ¬ z < 0 := jb_n0 hi h0.1
  have hcl : z.toNatClampNeg = x.toNat := jb_cl hi h0.1
  have hsz := hh.1.1
  have h8 : componentBytes FieldType.long ≤ 8 := by decide
  have hmu : x.toNat * componentBytes FieldType.long ≤ 200000 * 8 := Nat.mul_le_mul (by omega) h8
  refine W.tight (c2 := zc) (n2 := zs) hh.2.2.2.2.2.1 hh.2.2.2.2.2.2.1 ?_
  refine va_newaK (atype := .long) hexec hb harr rfl hdg rfl hn0 hcl (Nat.le_trans hmu (by decide)) hR hR2 rfl fun H1 cB e1 z1 o1 hAr hNm => ?_
  have hc : cB = cA := Option.some.inj (hNm.symm.trans (hra _ (hK.2 t0 _ ht).2))
  subst hc
  refine kk H1 o1 (hh.new hB (Nat.le_trans hb0 hsz) z1 o1 (by rw [jTot_push z1 e1 o1, arrV_size]) hk ((hBk _ _ _ _).mpr ⟨fun _ => 0, ?_⟩))
  show H1[H.size]? = some (vp_cell _ _)
  rw [e1]; rfl
end J20
-- all growing Bytes hold no more than they have room for
end
section
theorem dX2_init_0 : decode cX2_init 0 = .ok (.aload_n 0, 1) := by decide +kernel
theorem dX2_init_1 : decode cX2_init 1 = .ok (.invokespecial 3, 3) := by decide +kernel
theorem dX2_init_4 : decode cX2_init 4 = .ok (.aload_n 0, 1) := by decide +kernel
theorem dX2_init_5 : decode cX2_init 5 = .ok (.sipush 3000, 3) := by decide +kernel
theorem dX2_init_8 : decode cX2_init 8 = .ok (.newarray .byte, 2) := by decide +kernel
theorem dX2_init_10 : decode cX2_init 10 = .ok (.putfield 9, 3) := by decide +kernel
theorem dX2_init_13 : decode cX2_init 13 = .ok (.aload_n 0, 1) := by decide +kernel
theorem dX2_init_14 : decode cX2_init 14 = .ok (.iconst 0, 1) := by decide +kernel
theorem dX2_init_15 : decode cX2_init 15 = .ok (.putfield 15, 3) := by decide +kernel
theorem dX2_init_18 : decode cX2_init 18 = .ok (.aload_n 0, 1) := by decide +kernel
theorem dX2_init_19 : decode cX2_init 19 = .ok (.iconst (-1), 1) := by decide +kernel
theorem dX2_init_20 : decode cX2_init 20 = .ok (.putfield 19, 3) := by decide +kernel
theorem dX2_init_23 : decode cX2_init 23 = .ok (.return_, 1) := by decide +kernel
theorem dX4_init_0 : decode cX4_init 0 = .ok (.aload_n 0, 1) := by decide +kernel
theorem dX4_init_1 : decode cX4_init 1 = .ok (.invokespecial 3, 3) := by decide +kernel
theorem dX4_init_4 : decode cX4_init 4 = .ok (.aload_n 0, 1) := by decide +kernel
theorem dX4_init_5 : decode cX4_init 5 = .ok (.sipush 1502, 3) := by decide +kernel
theorem dX4_init_8 : decode cX4_init 8 = .ok (.newarray .int, 2) := by decide +kernel
theorem dX4_init_10 : decode cX4_init 10 = .ok (.putfield 11, 3) := by decide +kernel
theorem dX4_init_13 : decode cX4_init 13 = .ok (.aload_n 0, 1) := by decide +kernel
theorem dX4_init_14 : decode cX4_init 14 = .ok (.sipush 1502, 3) := by decide +kernel
theorem dX4_init_17 : decode cX4_init 17 = .ok (.newarray .int, 2) := by decide +kernel
theorem dX4_init_19 : decode cX4_init 19 = .ok (.putfield 15, 3) := by decide +kernel
theorem dX4_init_22 : decode cX4_init 22 = .ok (.aload_n 0, 1) := by decide +kernel
theorem dX4_init_23 : decode cX4_init 23 = .ok (.sipush 1502, 3) := by decide +kernel
theorem dX4_init_26 : decode cX4_init 26 = .ok (.newarray .int, 2) := by decide +kernel
theorem dX4_init_28 : decode cX4_init 28 = .ok (.putfield 18, 3) := by decide +kernel
theorem dX4_init_31 : decode cX4_init 31 = .ok (.aload_n 0, 1) := by decide +kernel
theorem dX4_init_32 : decode cX4_init 32 = .ok (.sipush 1502, 3) := by decide +kernel
theorem dX4_init_35 : decode cX4_init 35 = .ok (.newarray .int, 2) := by decide +kernel
theorem dX4_init_37 : decode cX4_init 37 = .ok (.putfield 21, 3) := by decide +kernel
theorem dX4_init_40 : decode cX4_init 40 = .ok (.aload_n 0, 1) := by decide +kernel
theorem dX4_init_41 : decode cX4_init 41 = .ok (.sipush 1502, 3) := by decide +kernel
theorem dX4_init_44 : decode cX4_init 44 = .ok (.newarray .int, 2) := by decide +kernel
theorem dX4_init_46 : decode cX4_init 46 = .ok (.putfield 24, 3) := by decide +kernel
theorem dX4_init_49 : decode cX4_init 49 = .ok (.aload_n 0, 1) := by decide +kernel
theorem dX4_init_50 : decode cX4_init 50 = .ok (.sipush 1502, 3) := by decide +kernel
theorem dX4_init_53 : decode cX4_init 53 = .ok (.newarray .int, 2) := by decide +kernel
theorem dX4_init_55 : decode cX4_init 55 = .ok (.putfield 27, 3) := by decide +kernel
theorem dX4_init_58 : decode cX4_init 58 = .ok (.aload_n 0, 1) := by decide +kernel
theorem dX4_init_59 : decode cX4_init 59 = .ok (.sipush 3000, 3) := by decide +kernel
theorem dX4_init_62 : decode cX4_init 62 = .ok (.newarray .int, 2) := by decide +kernel
theorem dX4_init_64 : decode cX4_init 64 = .ok (.putfield 30, 3) := by decide +kernel
theorem dX4_init_67 : decode cX4_init 67 = .ok (.aload_n 0, 1) := by decide +kernel
theorem dX4_init_68 : decode cX4_init 68 = .ok (.iconst 0, 1) := by decide +kernel
theorem dX4_init_69 : decode cX4_init 69 = .ok (.newarray .byte, 2) := by decide +kernel
theorem dX4_init_71 : decode cX4_init 71 = .ok (.putfield 33, 3) := by decide +kernel
theorem dX4_init_74 : decode cX4_init 74 = .ok (.return_, 1) := by decide +kernel
theorem dX7_init_0 : decode cX7_init 0 = .ok (.aload_n 0, 1) := by decide +kernel
theorem dX7_init_1 : decode cX7_init 1 = .ok (.invokespecial 3, 3) := by decide +kernel
theorem dX7_init_4 : decode cX7_init 4 = .ok (.aload_n 0, 1) := by decide +kernel
theorem dX7_init_5 : decode cX7_init 5 = .ok (.sipush 800, 3) := by decide +kernel
theorem dX7_init_8 : decode cX7_init 8 = .ok (.newarray .int, 2) := by decide +kernel
theorem dX7_init_10 : decode cX7_init 10 = .ok (.putfield 11, 3) := by decide +kernel
theorem dX7_init_13 : decode cX7_init 13 = .ok (.aload_n 0, 1) := by decide +kernel
theorem dX7_init_14 : decode cX7_init 14 = .ok (.bipush 13, 2) := by decide +kernel
theorem dX7_init_16 : decode cX7_init 16 = .ok (.newarray .int, 2) := by decide +kernel
theorem dX7_init_18 : decode cX7_init 18 = .ok (.putfield 15, 3) := by decide +kernel
theorem dX7_init_21 : decode cX7_init 21 = .ok (.aload_n 0, 1) := by decide +kernel
theorem dX7_init_22 : decode cX7_init 22 = .ok (.bipush 13, 2) := by decide +kernel
theorem dX7_init_24 : decode cX7_init 24 = .ok (.newarray .int, 2) := by decide +kernel
theorem dX7_init_26 : decode cX7_init 26 = .ok (.putfield 18, 3) := by decide +kernel
theorem dX7_init_29 : decode cX7_init 29 = .ok (.aload_n 0, 1) := by decide +kernel
theorem dX7_init_30 : decode cX7_init 30 = .ok (.aload_n 1, 1) := by decide +kernel
theorem dX7_init_31 : decode cX7_init 31 = .ok (.putfield 21, 3) := by decide +kernel
theorem dX7_init_34 : decode cX7_init 34 = .ok (.return_, 1) := by decide +kernel
def EX4_init : List (Nat × Nat) := []
def EX7_init : List (Nat × Nat) := []
set_option maxHeartbeats 4000000 in
set_option maxRecDepth 20000 in
theorem uX4_init (l : Launch) (dC : Nat → ClassId) (dI : Nat → Nat → Nat) (ca : Nat → ClassId) (base : Nat) (B : jF) (hB : jBok B) (hAp : jAp (dC, dI)) (hB6 : ∀ n G a H, B 6 n G a H ↔ jOb (dC, dI) 6 12 (F6 n G) a H) (hB100 : ∀ n G a H, B 100 n G a H ↔ jAr (dC, dI) (ca 0) (fun j z => True) n a H) (hB140 : ∀ n G a H, B 140 n G a H ↔ jAr (dC, dI) (ca 1) (fun j z => True) n a H) (hB141 : ∀ n G a H, B 141 n G a H ↔ jAr (dC, dI) (ca 1) (fun j z => True) n a H) (hB142 : ∀ n G a H, B 142 n G a H ↔ jAr (dC, dI) (ca 1) (fun j z => True) n a H) (hB143 : ∀ n G a H, B 143 n G a H ↔ jAr (dC, dI) (ca 1) (fun j z => True) n a H) (hB144 : ∀ n G a H, B 144 n G a H ↔ jAr (dC, dI) (ca 1) (fun j z => 0 ≤ z.toInt ∧ z.toInt ≤ 3000) n a H) (hB145 : ∀ n G a H, B 145 n G a H ↔ jAr (dC, dI) (ca 1) (fun j z => True) n a H) (hB146 : ∀ n G a H, B 146 n G a H ↔ jAr (dC, dI) (ca 1) (fun j z => True) n a H) (G0 : jT) (H0 : Heap) (r0 : Nat) (LC LS : Nat) : Met l yX4_init (jw yX4_init cX4_init 1 none) ({ frames := 1, cells := LC - H0.size, slots := LS - jTot H0, locals := 31 }) (va_Pc [.ref r0] (fun U => U.heap = H0 ∧ jX B base G0 [] H0 ∧ jG dC dI ca base U ∧ va_at (dC, dI) vwCl (r0, .inr (6, [.null, .null, .null, .null, .null, .null, .null, .int 0, .int 0, .null, .int 0, .int 0])) H0 ∧ (∀ t, G0 r0 ≠ some t) ∧ base ≤ r0 ∧ jP (dC, dI) G0 H0 [] ∧ H0.size + 8 ≤ LC ∧ jTot H0 + 12012 ≤ LS ∧ True)) (va_Qv (S := jT) (fun u => True) (fun u t => jRa (dC, dI) B base G0 u EX4_init H0 (8) (12012) [] t.heap ∧ (jNk [0, 1, 2, 3, 4, 5, 7, 8, 9, 10, 11, 12, 13, 14, 15, 16]) G0 u ∧ u r0 = some (6, 0) ∧ jKx r0 G0 u H0 t.heap) (jA base)) (LC - H0.size) (LS - jTot H0) (jA base) := by
  refine Met.ofW (cc := cX4_init) (maxL := 1) (ret := none) (by decide) rfl ?_
  intro p e s m args below meth c s₁ Bd hml hv
  obtain ⟨rfl, hH0, hX, hG, hraw0, hnr0, hbr0, hP0, hLC0, hLS0, hp0⟩ := hv
  have hK := hG.1
  have hx := Bd.exec
  have hb := Bd.bytes
  have hr := Bd.returns
  have hts := atoms_spec (ws := (jw yX4_init cX4_init 1 none)) Bd.pre
  have htw : ∀ w ∈ jWl, w.before _ s = true := fun w h => hts w (List.mem_cons_of_mem _ h)
  have hown : s.vm.findClass RX4 = some m.cls := findClass_of_methodNamed Bd.named
  have hlocks := Bd.notSynchronized
  obtain ⟨Q, hQ⟩ : ∃ Q, Q = MQ below (va_Qv (S := jT) (fun u => True) (fun u t => jRa (dC, dI) B base G0 u EX4_init H0 (8) (12012) [] t.heap ∧ (jNk [0, 1, 2, 3, 4, 5, 7, 8, 9, 10, 11, 12, 13, 14, 15, 16]) G0 u ∧ u r0 = some (6, 0) ∧ jKx r0 G0 u H0 t.heap) (jA base)) ([.ref r0] : List Value).toArray s (LC - H0.size) (LS - jTot H0) (jA base) := ⟨_, rfl⟩
  rw [← hQ]
  have hl := lv_entry ([.ref r0]) (n := 1) (Nat.le_of_ble_eq_true rfl)
  rw [lg_entry_eq]
  generalize (lg_sl ([.ref r0]) ++ List.replicate (1 - (lg_sl ([.ref r0])).length) Slot.unset).toArray = ls at hl ⊢
  have hl : lv_has ls 1 [(0, .ref r0)] := hl
  generalize hR : (headSpec (jw yX4_init cX4_init 1 none) ({ frames := 1, cells := LC - H0.size, slots := LS - jTot H0, locals := 31 })).room = R
  subst hH0
  have hh : jSt (dC, dI) B base G0 G0 EX4_init s.heap 0 0 [] [] [] s.heap [] := jSt.start hX hP0 jMc.nil jIs.nil
  clear hX hP0
  have hk0 : (0 : Int32).toInt = 0 := by decide
  have hk1 : (1 : Int32).toInt = 1 := by decide
  have hk1502 : (1502 : Int32).toInt = 1502 := by decide
  have hk3000 : (3000 : Int32).toInt = 3000 := by decide
  have hly_6_0 := htw (u_lay RX4 TX4 0) (jWc_wsX40 _ (u_in_lay (by decide)))
  have hly_6_1 := htw (u_lay RX4 TX4 1) (jWc_wsX40 _ (u_in_lay (by decide)))
  have hly_6_2 := htw (u_lay RX4 TX4 2) (jWc_wsX40 _ (u_in_lay (by decide)))
  have hly_6_3 := htw (u_lay RX4 TX4 3) (jWc_wsX40 _ (u_in_lay (by decide)))
  have hly_6_4 := htw (u_lay RX4 TX4 4) (jWc_wsX40 _ (u_in_lay (by decide)))
  have hly_6_5 := htw (u_lay RX4 TX4 5) (jWc_wsX40 _ (u_in_lay (by decide)))
  have hly_6_6 := htw (u_lay RX4 TX4 6) (jWc_wsX40 _ (u_in_lay (by decide)))
  have hly_6_9 := htw (u_lay RX4 TX4 9) (jWc_wsX40 _ (u_in_lay (by decide)))
  have hlk_11 := (htw (.fieldLink RX4 11 "ProofServer$Json" "kinds" "[I") (jWr_3 _ (List.mem_of_getElem? (i := 21) rfl)))
  have hlk_15 := (htw (.fieldLink RX4 15 "ProofServer$Json" "firsts" "[I") (jWr_3 _ (List.mem_of_getElem? (i := 22) rfl)))
  have hlk_18 := (htw (.fieldLink RX4 18 "ProofServer$Json" "sizes" "[I") (jWr_3 _ (List.mem_of_getElem? (i := 23) rfl)))
  have hlk_21 := (htw (.fieldLink RX4 21 "ProofServer$Json" "nexts" "[I") (jWr_4 _ (List.mem_of_getElem? (i := 0) rfl)))
  have hlk_24 := (htw (.fieldLink RX4 24 "ProofServer$Json" "keyFirsts" "[I") (jWr_4 _ (List.mem_of_getElem? (i := 1) rfl)))
  have hlk_27 := (htw (.fieldLink RX4 27 "ProofServer$Json" "keySizes" "[I") (jWr_4 _ (List.mem_of_getElem? (i := 2) rfl)))
  have hlk_30 := (htw (.fieldLink RX4 30 "ProofServer$Json" "units" "[I") (jWr_4 _ (List.mem_of_getElem? (i := 3) rfl)))
  have hlk_33 := (htw (.fieldLink RX4 33 "ProofServer$Json" "bytes" "[B") (jWr_4 _ (List.mem_of_getElem? (i := 4) rfl)))
  have hbs : base ≤ s.heap.size := Nat.le_of_lt (Nat.lt_of_le_of_lt hbr0 hraw0.lt)
  have hRc : R.cells = LC - s.heap.size := by rw [← hR]; rfl
  have hRs : R.slots = LS - jTot s.heap := by rw [← hR]; rfl
  have hin2 : meth.name = "<init>" := (name_of_methodNamed Bd.named Bd.method).1
  have hkp : jKx r0 G0 G0 s.heap s.heap := jKx.rf
  refine lv_aload_n hx hb dX4_init_0 rfl (lv_at hl 0 rfl) ?_
  refine W.objInit hx hb hown (htw (.methodLink RX4 3 objectInit) (jWr_3 _ (List.mem_of_getElem? (i := 19) rfl))) (htw (.instanceMethod objectInit) (jWr_1 _ (List.mem_of_getElem? (i := 10) rfl))) (htw (.code objectInit ⟨#[0xb1]⟩ 1 none) (jWr_1 _ (List.mem_of_getElem? (i := 11) rfl))) rfl (by rw [hml]; exact hl.1) rfl dX4_init_1 (by rw [← hR]; exact Nat.le_of_ble_eq_true rfl) (by rw [← hR]; exact Nat.le_of_ble_eq_true rfl) ?_
  refine W.eq (g2 := F0 m 4 ls []) rfl ?_
  refine lv_aload_n hx hb dX4_init_4 rfl (lv_at hl 0 rfl) ?_
  refine lv_sipush (v := 1502) hx hb dX4_init_5 (by decide) ?_
  have hsz_1 := hh.2.2.2.2.2.1
  have htt_1 := hh.2.2.2.2.2.2.1
  refine j7_newiK hx hb hK hh hB (atype := .int) (ty := .int) (htw (.arrayClass .int) (jWr_3 _ (List.mem_of_getElem? (i := 20) rfl))) rfl rfl (fun _ h => h) hB140 1 rfl (by decide) (by decide) hbs (x := 1502) (by decide) (by omega) (fun j => by first | trivial | decide | rfl | exact Or.inl rfl | (refine ⟨?_, ?_⟩ <;> decide)) (by rw [hRc]; omega) (by rw [hRs]; omega) dX4_init_8 (fun H_1 hfr_1 hh_1 => ?_)
  have hh_1 : jSt (dC, dI) B base G0 (va_up G0 s.heap.size (some (140, 1502))) EX4_init s.heap (0 + 1) (0 + 1502) [] [] [] H_1 [] := hh_1
  have hN_1 : (jNk [0, 1, 2, 3, 4, 5, 7, 8, 9, 10, 11, 12, 13, 14, 15, 16]) G0 (va_up G0 s.heap.size (some (140, 1502))) := jNk.new (by decide)
  have hgn_1 : (va_up G0 s.heap.size (some (140, 1502))) s.heap.size = some (140, 1502) := jUp_self
  have hle_1 : jLe G0 (va_up G0 s.heap.size (some (140, 1502))) := jLe.new hh.2.1.fresh
  have hke_1 : jKe G0 (va_up G0 s.heap.size (some (140, 1502))) s.heap H_1 := jKe.new hfr_1
  have hsy_1 : s.heap.size ≤ s.heap.size := hh.1.1
  generalize (va_up G0 s.heap.size (some (140, 1502))) = G_1 at hN_1 hgn_1 hle_1 hke_1 hh_1
  clear hh
  have hNn_1 : (jNk [0, 1, 2, 3, 4, 5, 7, 8, 9, 10, 11, 12, 13, 14, 15, 16]) G0 G_1 := (jNk.rf).tr hN_1
  have hkp_2 := hkp.tr hke_1
  have hraw_3n := hke_1.nr hraw0.lt hnr0
  have hraw_3 := hraw0.kept (hke_1.1 _ hraw0.lt)
  refine j7_putRF hx hb hown hK hh_1 hB hAp hraw_3 hraw_3n hbr0 (C := RX4) (T := TX4) (N := 12) rfl (i := 0) (by decide) (Nat.le_of_ble_eq_true rfl) hly_6_0 rfl hin2 rfl hlk_11 (ty := (.array .int)) (v := .ref s.heap.size) (by decide +kernel) rfl rfl dX4_init_10 (fun H_4 locs_4 hraw_4 hr_4 hh_4 => ?_)
  have hraw_4 : va_at (dC, dI) vwCl (r0, .inr (6, [.ref s.heap.size, .null, .null, .null, .null, .null, .null, .int 0, .int 0, .null, .int 0, .int 0])) H_4 := hraw_4
  have hkp_5 := hkp_2.put hr_4
  clear hh_1
  refine lv_aload_n hx hb dX4_init_13 rfl (lv_at hl 0 rfl) ?_
  refine lv_sipush (v := 1502) hx hb dX4_init_14 (by decide) ?_
  have hsz_6 := hh_4.2.2.2.2.2.1
  have htt_6 := hh_4.2.2.2.2.2.2.1
  refine j7_newiK hx hb hK hh_4 hB (atype := .int) (ty := .int) (htw (.arrayClass .int) (jWr_3 _ (List.mem_of_getElem? (i := 20) rfl))) rfl rfl (fun _ h => h) hB141 1 rfl (by decide) (by decide) hbs (x := 1502) (by decide) (by omega) (fun j => by first | trivial | decide | rfl | exact Or.inl rfl | (refine ⟨?_, ?_⟩ <;> decide)) (by rw [hRc]; omega) (by rw [hRs]; omega) dX4_init_17 (fun H_6 hfr_6 hh_6 => ?_)
  have hh_6 : jSt (dC, dI) B base G0 (va_up G_1 H_4.size (some (141, 1502))) EX4_init s.heap ((0 + 1) + 1) ((0 + 1502) + 1502) [] [] [] H_6 locs_4 := hh_6
  have hN_6 : (jNk [0, 1, 2, 3, 4, 5, 7, 8, 9, 10, 11, 12, 13, 14, 15, 16]) G_1 (va_up G_1 H_4.size (some (141, 1502))) := jNk.new (by decide)
  have hgn_6 : (va_up G_1 H_4.size (some (141, 1502))) H_4.size = some (141, 1502) := jUp_self
  have hle_6 : jLe G_1 (va_up G_1 H_4.size (some (141, 1502))) := jLe.new hh_4.2.1.fresh
  have hke_6 : jKe G_1 (va_up G_1 H_4.size (some (141, 1502))) H_4 H_6 := jKe.new hfr_6
  have hsy_6 : s.heap.size ≤ H_4.size := hh_4.1.1
  generalize (va_up G_1 H_4.size (some (141, 1502))) = G_6 at hN_6 hgn_6 hle_6 hke_6 hh_6
  clear hh_4
  have hNn_6 : (jNk [0, 1, 2, 3, 4, 5, 7, 8, 9, 10, 11, 12, 13, 14, 15, 16]) G0 G_6 := (hNn_1).tr hN_6
  have hkp_7 := hkp_5.tr hke_6
  have hraw_8n := hke_6.nr hraw_4.lt hraw_3n
  have hraw_8 := hraw_4.kept (hke_6.1 _ hraw_4.lt)
  refine j7_putRF hx hb hown hK hh_6 hB hAp hraw_8 hraw_8n hbr0 (C := RX4) (T := TX4) (N := 12) rfl (i := 1) (by decide) (Nat.le_of_ble_eq_true rfl) hly_6_1 rfl hin2 rfl hlk_15 (ty := (.array .int)) (v := .ref H_4.size) (by decide +kernel) rfl rfl dX4_init_19 (fun H_9 locs_9 hraw_9 hr_9 hh_9 => ?_)
  have hraw_9 : va_at (dC, dI) vwCl (r0, .inr (6, [.ref s.heap.size, .ref H_4.size, .null, .null, .null, .null, .null, .int 0, .int 0, .null, .int 0, .int 0])) H_9 := hraw_9
  have hkp_10 := hkp_7.put hr_9
  clear hh_6
  refine lv_aload_n hx hb dX4_init_22 rfl (lv_at hl 0 rfl) ?_
  refine lv_sipush (v := 1502) hx hb dX4_init_23 (by decide) ?_
  have hsz_11 := hh_9.2.2.2.2.2.1
  have htt_11 := hh_9.2.2.2.2.2.2.1
  refine j7_newiK hx hb hK hh_9 hB (atype := .int) (ty := .int) (htw (.arrayClass .int) (jWr_3 _ (List.mem_of_getElem? (i := 20) rfl))) rfl rfl (fun _ h => h) hB142 1 rfl (by decide) (by decide) hbs (x := 1502) (by decide) (by omega) (fun j => by first | trivial | decide | rfl | exact Or.inl rfl | (refine ⟨?_, ?_⟩ <;> decide)) (by rw [hRc]; omega) (by rw [hRs]; omega) dX4_init_26 (fun H_11 hfr_11 hh_11 => ?_)
  have hh_11 : jSt (dC, dI) B base G0 (va_up G_6 H_9.size (some (142, 1502))) EX4_init s.heap (((0 + 1) + 1) + 1) (((0 + 1502) + 1502) + 1502) [] [] [] H_11 locs_9 := hh_11
  have hN_11 : (jNk [0, 1, 2, 3, 4, 5, 7, 8, 9, 10, 11, 12, 13, 14, 15, 16]) G_6 (va_up G_6 H_9.size (some (142, 1502))) := jNk.new (by decide)
  have hgn_11 : (va_up G_6 H_9.size (some (142, 1502))) H_9.size = some (142, 1502) := jUp_self
  have hle_11 : jLe G_6 (va_up G_6 H_9.size (some (142, 1502))) := jLe.new hh_9.2.1.fresh
  have hke_11 : jKe G_6 (va_up G_6 H_9.size (some (142, 1502))) H_9 H_11 := jKe.new hfr_11
  have hsy_11 : s.heap.size ≤ H_9.size := hh_9.1.1
  generalize (va_up G_6 H_9.size (some (142, 1502))) = G_11 at hN_11 hgn_11 hle_11 hke_11 hh_11
  clear hh_9
  have hNn_11 : (jNk [0, 1, 2, 3, 4, 5, 7, 8, 9, 10, 11, 12, 13, 14, 15, 16]) G0 G_11 := (hNn_6).tr hN_11
  have hkp_12 := hkp_10.tr hke_11
  have hraw_13n := hke_11.nr hraw_9.lt hraw_8n
  have hraw_13 := hraw_9.kept (hke_11.1 _ hraw_9.lt)
  refine j7_putRF hx hb hown hK hh_11 hB hAp hraw_13 hraw_13n hbr0 (C := RX4) (T := TX4) (N := 12) rfl (i := 2) (by decide) (Nat.le_of_ble_eq_true rfl) hly_6_2 rfl hin2 rfl hlk_18 (ty := (.array .int)) (v := .ref H_9.size) (by decide +kernel) rfl rfl dX4_init_28 (fun H_14 locs_14 hraw_14 hr_14 hh_14 => ?_)
  have hraw_14 : va_at (dC, dI) vwCl (r0, .inr (6, [.ref s.heap.size, .ref H_4.size, .ref H_9.size, .null, .null, .null, .null, .int 0, .int 0, .null, .int 0, .int 0])) H_14 := hraw_14
  have hkp_15 := hkp_12.put hr_14
  clear hh_11
  refine lv_aload_n hx hb dX4_init_31 rfl (lv_at hl 0 rfl) ?_
  refine lv_sipush (v := 1502) hx hb dX4_init_32 (by decide) ?_
  have hsz_16 := hh_14.2.2.2.2.2.1
  have htt_16 := hh_14.2.2.2.2.2.2.1
  refine j7_newiK hx hb hK hh_14 hB (atype := .int) (ty := .int) (htw (.arrayClass .int) (jWr_3 _ (List.mem_of_getElem? (i := 20) rfl))) rfl rfl (fun _ h => h) hB143 1 rfl (by decide) (by decide) hbs (x := 1502) (by decide) (by omega) (fun j => by first | trivial | decide | rfl | exact Or.inl rfl | (refine ⟨?_, ?_⟩ <;> decide)) (by rw [hRc]; omega) (by rw [hRs]; omega) dX4_init_35 (fun H_16 hfr_16 hh_16 => ?_)
  have hh_16 : jSt (dC, dI) B base G0 (va_up G_11 H_14.size (some (143, 1502))) EX4_init s.heap ((((0 + 1) + 1) + 1) + 1) ((((0 + 1502) + 1502) + 1502) + 1502) [] [] [] H_16 locs_14 := hh_16
  have hN_16 : (jNk [0, 1, 2, 3, 4, 5, 7, 8, 9, 10, 11, 12, 13, 14, 15, 16]) G_11 (va_up G_11 H_14.size (some (143, 1502))) := jNk.new (by decide)
  have hgn_16 : (va_up G_11 H_14.size (some (143, 1502))) H_14.size = some (143, 1502) := jUp_self
  have hle_16 : jLe G_11 (va_up G_11 H_14.size (some (143, 1502))) := jLe.new hh_14.2.1.fresh
  have hke_16 : jKe G_11 (va_up G_11 H_14.size (some (143, 1502))) H_14 H_16 := jKe.new hfr_16
  have hsy_16 : s.heap.size ≤ H_14.size := hh_14.1.1
  generalize (va_up G_11 H_14.size (some (143, 1502))) = G_16 at hN_16 hgn_16 hle_16 hke_16 hh_16
  clear hh_14
  have hNn_16 : (jNk [0, 1, 2, 3, 4, 5, 7, 8, 9, 10, 11, 12, 13, 14, 15, 16]) G0 G_16 := (hNn_11).tr hN_16
  have hkp_17 := hkp_15.tr hke_16
  have hraw_18n := hke_16.nr hraw_14.lt hraw_13n
  have hraw_18 := hraw_14.kept (hke_16.1 _ hraw_14.lt)
  refine j7_putRF hx hb hown hK hh_16 hB hAp hraw_18 hraw_18n hbr0 (C := RX4) (T := TX4) (N := 12) rfl (i := 3) (by decide) (Nat.le_of_ble_eq_true rfl) hly_6_3 rfl hin2 rfl hlk_21 (ty := (.array .int)) (v := .ref H_14.size) (by decide +kernel) rfl rfl dX4_init_37 (fun H_19 locs_19 hraw_19 hr_19 hh_19 => ?_)
  have hraw_19 : va_at (dC, dI) vwCl (r0, .inr (6, [.ref s.heap.size, .ref H_4.size, .ref H_9.size, .ref H_14.size, .null, .null, .null, .int 0, .int 0, .null, .int 0, .int 0])) H_19 := hraw_19
  have hkp_20 := hkp_17.put hr_19
  clear hh_16
  refine lv_aload_n hx hb dX4_init_40 rfl (lv_at hl 0 rfl) ?_
  refine lv_sipush (v := 1502) hx hb dX4_init_41 (by decide) ?_
  have hsz_21 := hh_19.2.2.2.2.2.1
  have htt_21 := hh_19.2.2.2.2.2.2.1
  refine j7_newiK hx hb hK hh_19 hB (atype := .int) (ty := .int) (htw (.arrayClass .int) (jWr_3 _ (List.mem_of_getElem? (i := 20) rfl))) rfl rfl (fun _ h => h) hB144 1 rfl (by decide) (by decide) hbs (x := 1502) (by decide) (by omega) (fun j => by first | trivial | decide | rfl | exact Or.inl rfl | (refine ⟨?_, ?_⟩ <;> decide)) (by rw [hRc]; omega) (by rw [hRs]; omega) dX4_init_44 (fun H_21 hfr_21 hh_21 => ?_)
  have hh_21 : jSt (dC, dI) B base G0 (va_up G_16 H_19.size (some (144, 1502))) EX4_init s.heap (((((0 + 1) + 1) + 1) + 1) + 1) (((((0 + 1502) + 1502) + 1502) + 1502) + 1502) [] [] [] H_21 locs_19 := hh_21
  have hN_21 : (jNk [0, 1, 2, 3, 4, 5, 7, 8, 9, 10, 11, 12, 13, 14, 15, 16]) G_16 (va_up G_16 H_19.size (some (144, 1502))) := jNk.new (by decide)
  have hgn_21 : (va_up G_16 H_19.size (some (144, 1502))) H_19.size = some (144, 1502) := jUp_self
  have hle_21 : jLe G_16 (va_up G_16 H_19.size (some (144, 1502))) := jLe.new hh_19.2.1.fresh
  have hke_21 : jKe G_16 (va_up G_16 H_19.size (some (144, 1502))) H_19 H_21 := jKe.new hfr_21
  have hsy_21 : s.heap.size ≤ H_19.size := hh_19.1.1
  generalize (va_up G_16 H_19.size (some (144, 1502))) = G_21 at hN_21 hgn_21 hle_21 hke_21 hh_21
  clear hh_19
  have hNn_21 : (jNk [0, 1, 2, 3, 4, 5, 7, 8, 9, 10, 11, 12, 13, 14, 15, 16]) G0 G_21 := (hNn_16).tr hN_21
  have hkp_22 := hkp_20.tr hke_21
  have hraw_23n := hke_21.nr hraw_19.lt hraw_18n
  have hraw_23 := hraw_19.kept (hke_21.1 _ hraw_19.lt)
  refine j7_putRF hx hb hown hK hh_21 hB hAp hraw_23 hraw_23n hbr0 (C := RX4) (T := TX4) (N := 12) rfl (i := 4) (by decide) (Nat.le_of_ble_eq_true rfl) hly_6_4 rfl hin2 rfl hlk_24 (ty := (.array .int)) (v := .ref H_19.size) (by decide +kernel) rfl rfl dX4_init_46 (fun H_24 locs_24 hraw_24 hr_24 hh_24 => ?_)
  have hraw_24 : va_at (dC, dI) vwCl (r0, .inr (6, [.ref s.heap.size, .ref H_4.size, .ref H_9.size, .ref H_14.size, .ref H_19.size, .null, .null, .int 0, .int 0, .null, .int 0, .int 0])) H_24 := hraw_24
  have hkp_25 := hkp_22.put hr_24
  clear hh_21
  refine lv_aload_n hx hb dX4_init_49 rfl (lv_at hl 0 rfl) ?_
  refine lv_sipush (v := 1502) hx hb dX4_init_50 (by decide) ?_
  have hsz_26 := hh_24.2.2.2.2.2.1
  have htt_26 := hh_24.2.2.2.2.2.2.1
  refine j7_newiK hx hb hK hh_24 hB (atype := .int) (ty := .int) (htw (.arrayClass .int) (jWr_3 _ (List.mem_of_getElem? (i := 20) rfl))) rfl rfl (fun _ h => h) hB145 1 rfl (by decide) (by decide) hbs (x := 1502) (by decide) (by omega) (fun j => by first | trivial | decide | rfl | exact Or.inl rfl | (refine ⟨?_, ?_⟩ <;> decide)) (by rw [hRc]; omega) (by rw [hRs]; omega) dX4_init_53 (fun H_26 hfr_26 hh_26 => ?_)
  have hh_26 : jSt (dC, dI) B base G0 (va_up G_21 H_24.size (some (145, 1502))) EX4_init s.heap ((((((0 + 1) + 1) + 1) + 1) + 1) + 1) ((((((0 + 1502) + 1502) + 1502) + 1502) + 1502) + 1502) [] [] [] H_26 locs_24 := hh_26
  have hN_26 : (jNk [0, 1, 2, 3, 4, 5, 7, 8, 9, 10, 11, 12, 13, 14, 15, 16]) G_21 (va_up G_21 H_24.size (some (145, 1502))) := jNk.new (by decide)
  have hgn_26 : (va_up G_21 H_24.size (some (145, 1502))) H_24.size = some (145, 1502) := jUp_self
  have hle_26 : jLe G_21 (va_up G_21 H_24.size (some (145, 1502))) := jLe.new hh_24.2.1.fresh
  have hke_26 : jKe G_21 (va_up G_21 H_24.size (some (145, 1502))) H_24 H_26 := jKe.new hfr_26
  have hsy_26 : s.heap.size ≤ H_24.size := hh_24.1.1
  generalize (va_up G_21 H_24.size (some (145, 1502))) = G_26 at hN_26 hgn_26 hle_26 hke_26 hh_26
  clear hh_24
  have hNn_26 : (jNk [0, 1, 2, 3, 4, 5, 7, 8, 9, 10, 11, 12, 13, 14, 15, 16]) G0 G_26 := (hNn_21).tr hN_26
  have hkp_27 := hkp_25.tr hke_26
  have hraw_28n := hke_26.nr hraw_24.lt hraw_23n
  have hraw_28 := hraw_24.kept (hke_26.1 _ hraw_24.lt)
  refine j7_putRF hx hb hown hK hh_26 hB hAp hraw_28 hraw_28n hbr0 (C := RX4) (T := TX4) (N := 12) rfl (i := 5) (by decide) (Nat.le_of_ble_eq_true rfl) hly_6_5 rfl hin2 rfl hlk_27 (ty := (.array .int)) (v := .ref H_24.size) (by decide +kernel) rfl rfl dX4_init_55 (fun H_29 locs_29 hraw_29 hr_29 hh_29 => ?_)
  have hraw_29 : va_at (dC, dI) vwCl (r0, .inr (6, [.ref s.heap.size, .ref H_4.size, .ref H_9.size, .ref H_14.size, .ref H_19.size, .ref H_24.size, .null, .int 0, .int 0, .null, .int 0, .int 0])) H_29 := hraw_29
  have hkp_30 := hkp_27.put hr_29
  clear hh_26
  refine lv_aload_n hx hb dX4_init_58 rfl (lv_at hl 0 rfl) ?_
  refine lv_sipush (v := 3000) hx hb dX4_init_59 (by decide) ?_
  have hsz_31 := hh_29.2.2.2.2.2.1
  have htt_31 := hh_29.2.2.2.2.2.2.1
  refine j7_newiK hx hb hK hh_29 hB (atype := .int) (ty := .int) (htw (.arrayClass .int) (jWr_3 _ (List.mem_of_getElem? (i := 20) rfl))) rfl rfl (fun _ h => h) hB146 1 rfl (by decide) (by decide) hbs (x := 3000) (by decide) (by omega) (fun j => by first | trivial | decide | rfl | exact Or.inl rfl | (refine ⟨?_, ?_⟩ <;> decide)) (by rw [hRc]; omega) (by rw [hRs]; omega) dX4_init_62 (fun H_31 hfr_31 hh_31 => ?_)
  have hh_31 : jSt (dC, dI) B base G0 (va_up G_26 H_29.size (some (146, 3000))) EX4_init s.heap (((((((0 + 1) + 1) + 1) + 1) + 1) + 1) + 1) (((((((0 + 1502) + 1502) + 1502) + 1502) + 1502) + 1502) + 3000) [] [] [] H_31 locs_29 := hh_31
  have hN_31 : (jNk [0, 1, 2, 3, 4, 5, 7, 8, 9, 10, 11, 12, 13, 14, 15, 16]) G_26 (va_up G_26 H_29.size (some (146, 3000))) := jNk.new (by decide)
  have hgn_31 : (va_up G_26 H_29.size (some (146, 3000))) H_29.size = some (146, 3000) := jUp_self
  have hle_31 : jLe G_26 (va_up G_26 H_29.size (some (146, 3000))) := jLe.new hh_29.2.1.fresh
  have hke_31 : jKe G_26 (va_up G_26 H_29.size (some (146, 3000))) H_29 H_31 := jKe.new hfr_31
  have hsy_31 : s.heap.size ≤ H_29.size := hh_29.1.1
  generalize (va_up G_26 H_29.size (some (146, 3000))) = G_31 at hN_31 hgn_31 hle_31 hke_31 hh_31
  clear hh_29
  have hNn_31 : (jNk [0, 1, 2, 3, 4, 5, 7, 8, 9, 10, 11, 12, 13, 14, 15, 16]) G0 G_31 := (hNn_26).tr hN_31
  have hkp_32 := hkp_30.tr hke_31
  have hraw_33n := hke_31.nr hraw_29.lt hraw_28n
  have hraw_33 := hraw_29.kept (hke_31.1 _ hraw_29.lt)
  refine j7_putRF hx hb hown hK hh_31 hB hAp hraw_33 hraw_33n hbr0 (C := RX4) (T := TX4) (N := 12) rfl (i := 6) (by decide) (Nat.le_of_ble_eq_true rfl) hly_6_6 rfl hin2 rfl hlk_30 (ty := (.array .int)) (v := .ref H_29.size) (by decide +kernel) rfl rfl dX4_init_64 (fun H_34 locs_34 hraw_34 hr_34 hh_34 => ?_)
  have hraw_34 : va_at (dC, dI) vwCl (r0, .inr (6, [.ref s.heap.size, .ref H_4.size, .ref H_9.size, .ref H_14.size, .ref H_19.size, .ref H_24.size, .ref H_29.size, .int 0, .int 0, .null, .int 0, .int 0])) H_34 := hraw_34
  have hkp_35 := hkp_32.put hr_34
  clear hh_31
  refine lv_aload_n hx hb dX4_init_67 rfl (lv_at hl 0 rfl) ?_
  refine lv_iconst (v := 0) hx hb dX4_init_68 (by decide) ?_
  have hsz_36 := hh_34.2.2.2.2.2.1
  have htt_36 := hh_34.2.2.2.2.2.2.1
  refine j7_newiK hx hb hK hh_34 hB (atype := .byte) (ty := .byte) (htw (.arrayClass .byte) (jWr_3 _ (List.mem_of_getElem? (i := 9) rfl))) rfl rfl (fun _ h => h) hB100 0 rfl (by decide) (by decide) hbs (x := 0) (by decide) (by omega) (fun j => by first | trivial | decide | rfl | exact Or.inl rfl | (refine ⟨?_, ?_⟩ <;> decide)) (by rw [hRc]; omega) (by rw [hRs]; omega) dX4_init_69 (fun H_36 hfr_36 hh_36 => ?_)
  have hh_36 : jSt (dC, dI) B base G0 (va_up G_31 H_34.size (some (100, 0))) EX4_init s.heap ((((((((0 + 1) + 1) + 1) + 1) + 1) + 1) + 1) + 1) ((((((((0 + 1502) + 1502) + 1502) + 1502) + 1502) + 1502) + 3000) + 0) [] [] [] H_36 locs_34 := hh_36
  have hN_36 : (jNk [0, 1, 2, 3, 4, 5, 7, 8, 9, 10, 11, 12, 13, 14, 15, 16]) G_31 (va_up G_31 H_34.size (some (100, 0))) := jNk.new (by decide)
  have hgn_36 : (va_up G_31 H_34.size (some (100, 0))) H_34.size = some (100, 0) := jUp_self
  have hle_36 : jLe G_31 (va_up G_31 H_34.size (some (100, 0))) := jLe.new hh_34.2.1.fresh
  have hke_36 : jKe G_31 (va_up G_31 H_34.size (some (100, 0))) H_34 H_36 := jKe.new hfr_36
  have hsy_36 : s.heap.size ≤ H_34.size := hh_34.1.1
  generalize (va_up G_31 H_34.size (some (100, 0))) = G_36 at hN_36 hgn_36 hle_36 hke_36 hh_36
  clear hh_34
  have hNn_36 : (jNk [0, 1, 2, 3, 4, 5, 7, 8, 9, 10, 11, 12, 13, 14, 15, 16]) G0 G_36 := (hNn_31).tr hN_36
  have hkp_37 := hkp_35.tr hke_36
  have hraw_38n := hke_36.nr hraw_34.lt hraw_33n
  have hraw_38 := hraw_34.kept (hke_36.1 _ hraw_34.lt)
  refine j7_putR hx hb hown hK hh_36 hB hAp hraw_38 hraw_38n hbr0 (C := RX4) (T := TX4) (N := 12) rfl (i := 9) (by decide) (Nat.le_of_ble_eq_true rfl) hly_6_9 rfl hlk_33 (ty := (.array .byte)) (v := .ref H_34.size) (by decide +kernel) rfl rfl dX4_init_71 (fun H_39 locs_39 hraw_39 hr_39 hh_39 => ?_)
  have hraw_39 : va_at (dC, dI) vwCl (r0, .inr (6, [.ref s.heap.size, .ref H_4.size, .ref H_9.size, .ref H_14.size, .ref H_19.size, .ref H_24.size, .ref H_29.size, .int 0, .int 0, .ref H_34.size, .int 0, .int 0])) H_39 := hraw_39
  have hkp_40 := hkp_37.put hr_39
  clear hh_36
  have hsz_41 := hh_39.2.2.2.2.2.1
  have htt_41 := hh_39.2.2.2.2.2.2.1
  refine W.room (fun hrc_41 hrs_41 => ?_)
  refine W.widen (k := LC - s.heap.size) (n := LS - jTot s.heap) (by omega) (by omega) ?_
  rw [hQ]
  have hle_42 : jLe G_36 (va_up G_36 r0 (some (6, 0))) := jLe.typ hraw_38n
  have hg_43 := (((((((hle_6).tr hle_11).tr hle_16).tr hle_21).tr hle_26).tr hle_31).tr hle_36).tr hle_42 _ _ hgn_1
  have hg_44 := ((((((hle_11).tr hle_16).tr hle_21).tr hle_26).tr hle_31).tr hle_36).tr hle_42 _ _ hgn_6
  have hg_45 := (((((hle_16).tr hle_21).tr hle_26).tr hle_31).tr hle_36).tr hle_42 _ _ hgn_11
  have hg_46 := ((((hle_21).tr hle_26).tr hle_31).tr hle_36).tr hle_42 _ _ hgn_16
  have hg_47 := (((hle_26).tr hle_31).tr hle_36).tr hle_42 _ _ hgn_21
  have hg_48 := ((hle_31).tr hle_36).tr hle_42 _ _ hgn_26
  have hg_49 := (hle_36).tr hle_42 _ _ hgn_31
  have hg_50 := (jLe.rf).tr hle_42 _ _ hgn_36
  have hfa_42 : jRf (va_up G_36 r0 (some (6, 0))) 140 1502 (.ref s.heap.size) ∧ jRf (va_up G_36 r0 (some (6, 0))) 141 1502 (.ref H_4.size) ∧ jRf (va_up G_36 r0 (some (6, 0))) 142 1502 (.ref H_9.size) ∧ jRf (va_up G_36 r0 (some (6, 0))) 143 1502 (.ref H_14.size) ∧ jRf (va_up G_36 r0 (some (6, 0))) 144 1502 (.ref H_19.size) ∧ jRf (va_up G_36 r0 (some (6, 0))) 145 1502 (.ref H_24.size) ∧ jRf (va_up G_36 r0 (some (6, 0))) 146 3000 (.ref H_29.size) ∧ jI 0 1502 (.int 0) ∧ jI 0 3000 (.int 0) ∧ jRk (va_up G_36 r0 (some (6, 0))) 100 3000 (.ref H_34.size) ∧ jI 0 3000 (.int 0) ∧ jI 0 20000 (.int 0) ∧ True := ⟨⟨_, rfl, hg_43⟩, ⟨_, rfl, hg_44⟩, ⟨_, rfl, hg_45⟩, ⟨_, rfl, hg_46⟩, ⟨_, rfl, hg_47⟩, ⟨_, rfl, hg_48⟩, ⟨_, rfl, hg_49⟩, ⟨_, rfl, by omega, by omega⟩, ⟨_, rfl, by omega, by omega⟩, ⟨_, _, rfl, hg_50, by omega⟩, ⟨_, rfl, by omega, by omega⟩, ⟨_, rfl, by omega, by omega⟩, trivial⟩
  have hh_42 := hh_39.typ (k := 6) (n := 0) hB hraw_38n hbr0 hraw_39.lt (jOb.of (C := RX4) (T := TX4) (N := 12) (F := F6) hB6 rfl hraw_39 (show jFx (F6 0 (va_up G_36 r0 (some (6, 0)))) [.ref s.heap.size, .ref H_4.size, .ref H_9.size, .ref H_14.size, .ref H_19.size, .ref H_24.size, .ref H_29.size, .int 0, .int 0, .ref H_34.size, .int 0, .int 0] from hfa_42))
  have hgn_42 : (va_up G_36 r0 (some (6, 0))) r0 = some (6, 0) := jUp_self
  have hN_42 : (jNk [0, 1, 2, 3, 4, 5, 7, 8, 9, 10, 11, 12, 13, 14, 15, 16]) G_36 (va_up G_36 r0 (some (6, 0))) := jNk.new (by decide)
  have hNn_42 : (jNk [0, 1, 2, 3, 4, 5, 7, 8, 9, 10, 11, 12, 13, 14, 15, 16]) G0 (va_up G_36 r0 (some (6, 0))) := (hNn_36).tr hN_42
  have hkp_51 := hkp_40.typ (t := some (6, 0))
  exact W.vret hx hb hr (fun t ht hW => ⟨⟨(va_up G_36 r0 (some (6, 0))), rfl, trivial, ⟨hh_42.ra (by first | omega | (simp only; omega)) (by first | omega | (simp only; omega)) (M1 := []) [] rfl ht, hNn_42, hgn_42, by rw [ht]; exact hkp_51⟩⟩, by rw [ht]; try exact hh_42.1.1, fun q h9 hq => by rw [ht]; try exact hh_42.1.2.1 q h9 hq⟩) hh_42.1.2.2 dX4_init_74
set_option maxHeartbeats 4000000 in
set_option maxRecDepth 20000 in
theorem uX7_init (l : Launch) (dC : Nat → ClassId) (dI : Nat → Nat → Nat) (ca : Nat → ClassId) (base : Nat) (B : jF) (hB : jBok B) (hAp : jAp (dC, dI)) (hB8 : ∀ n G a H, B 8 n G a H ↔ jOb (dC, dI) 8 4 (F8 n G) a H) (hB9 : ∀ n G a H, B 9 n G a H ↔ jOb (dC, dI) 9 5 (F9b n G) a H) (hB286 : ∀ n G a H, B 286 n G a H ↔ jAr (dC, dI) (ca 1) (fun j z => (0 ≤ z.toInt ∨ z.toInt = -3)) n a H) (hB287 : ∀ n G a H, B 287 n G a H ↔ jAr (dC, dI) (ca 1) (fun j z => 0 ≤ z.toInt ∧ z.toInt ≤ 65535) n a H) (hB288 : ∀ n G a H, B 288 n G a H ↔ jAr (dC, dI) (ca 1) (fun j z => 0 ≤ z.toInt ∧ z.toInt ≤ 160) n a H) (G0 : jT) (H0 : Heap) (r0 : Nat) (r1 : Nat) (LC LS : Nat) : Met l yX7_init (jw yX7_init cX7_init 2 none) ({ frames := 1, cells := LC - H0.size, slots := LS - jTot H0, locals := 31 }) (va_Pc [.ref r0, .ref r1] (fun U => U.heap = H0 ∧ jX B base G0 [] H0 ∧ jG dC dI ca base U ∧ G0 r1 = some (8, 0) ∧ va_at (dC, dI) vwCl (r0, .inr (9, [.null, .null, .int 0, .null, .null])) H0 ∧ (∀ t, G0 r0 ≠ some t) ∧ base ≤ r0 ∧ jP (dC, dI) G0 H0 [] ∧ H0.size + 3 ≤ LC ∧ jTot H0 + 826 ≤ LS ∧ True)) (va_Qv (S := jT) (fun u => True) (fun u t => jRa (dC, dI) B base G0 u EX7_init H0 (3) (826) [] t.heap ∧ (jNk [0, 1, 2, 3, 4, 5, 6, 7, 8, 10, 11, 12, 13, 14, 15, 16]) G0 u ∧ u r0 = some (9, 0) ∧ jKx r0 G0 u H0 t.heap) (jA base)) (LC - H0.size) (LS - jTot H0) (jA base) := by
  refine Met.ofW (cc := cX7_init) (maxL := 2) (ret := none) (by decide) rfl ?_
  intro p e s m args below meth c s₁ Bd hml hv
  obtain ⟨rfl, hH0, hX, hG, hg_r1, hraw0, hnr0, hbr0, hP0, hLC0, hLS0, hp0⟩ := hv
  have hK := hG.1
  have hx := Bd.exec
  have hb := Bd.bytes
  have hr := Bd.returns
  have hts := atoms_spec (ws := (jw yX7_init cX7_init 2 none)) Bd.pre
  have htw : ∀ w ∈ jWl, w.before _ s = true := fun w h => hts w (List.mem_cons_of_mem _ h)
  have hown : s.vm.findClass RX7 = some m.cls := findClass_of_methodNamed Bd.named
  have hlocks := Bd.notSynchronized
  obtain ⟨Q, hQ⟩ : ∃ Q, Q = MQ below (va_Qv (S := jT) (fun u => True) (fun u t => jRa (dC, dI) B base G0 u EX7_init H0 (3) (826) [] t.heap ∧ (jNk [0, 1, 2, 3, 4, 5, 6, 7, 8, 10, 11, 12, 13, 14, 15, 16]) G0 u ∧ u r0 = some (9, 0) ∧ jKx r0 G0 u H0 t.heap) (jA base)) ([.ref r0, .ref r1] : List Value).toArray s (LC - H0.size) (LS - jTot H0) (jA base) := ⟨_, rfl⟩
  rw [← hQ]
  have hl := lv_entry ([.ref r0, .ref r1]) (n := 2) (Nat.le_of_ble_eq_true rfl)
  rw [lg_entry_eq]
  generalize (lg_sl ([.ref r0, .ref r1]) ++ List.replicate (2 - (lg_sl ([.ref r0, .ref r1])).length) Slot.unset).toArray = ls at hl ⊢
  have hl : lv_has ls 2 [(0, .ref r0), (1, .ref r1)] := hl
  generalize hR : (headSpec (jw yX7_init cX7_init 2 none) ({ frames := 1, cells := LC - H0.size, slots := LS - jTot H0, locals := 31 })).room = R
  subst hH0
  have hh : jSt (dC, dI) B base G0 G0 EX7_init s.heap 0 0 [] [] [] s.heap [] := jSt.start hX hP0 jMc.nil jIs.nil
  clear hX hP0
  have hk0 : (0 : Int32).toInt = 0 := by decide
  have hk1 : (1 : Int32).toInt = 1 := by decide
  have hk13 : (13 : Int32).toInt = 13 := by decide
  have hk800 : (800 : Int32).toInt = 800 := by decide
  have hly_9_0 := htw (u_lay RX7 TX7 0) (jWc_wsX70 _ (u_in_lay (by decide)))
  have hly_9_1 := htw (u_lay RX7 TX7 1) (jWc_wsX70 _ (u_in_lay (by decide)))
  have hly_9_3 := htw (u_lay RX7 TX7 3) (jWc_wsX70 _ (u_in_lay (by decide)))
  have hly_9_4 := htw (u_lay RX7 TX7 4) (jWc_wsX70 _ (u_in_lay (by decide)))
  have hlk_11 := (htw (.fieldLink RX7 11 "ProofServer$Printer" "stack" "[I") (jWr_9 _ (List.mem_of_getElem? (i := 7) rfl)))
  have hlk_15 := (htw (.fieldLink RX7 15 "ProofServer$Printer" "boundNames" "[I") (jWr_9 _ (List.mem_of_getElem? (i := 8) rfl)))
  have hlk_18 := (htw (.fieldLink RX7 18 "ProofServer$Printer" "boundMore" "[I") (jWr_9 _ (List.mem_of_getElem? (i := 9) rfl)))
  have hlk_21 := (htw (.fieldLink RX7 21 "ProofServer$Printer" "names" "LProofServer$Names;") (jWr_9 _ (List.mem_of_getElem? (i := 10) rfl)))
  have hbs : base ≤ s.heap.size := Nat.le_of_lt (Nat.lt_of_le_of_lt hbr0 hraw0.lt)
  have hRc : R.cells = LC - s.heap.size := by rw [← hR]; rfl
  have hRs : R.slots = LS - jTot s.heap := by rw [← hR]; rfl
  have hin2 : meth.name = "<init>" := (name_of_methodNamed Bd.named Bd.method).1
  have hkp : jKx r0 G0 G0 s.heap s.heap := jKx.rf
  refine lv_aload_n hx hb dX7_init_0 rfl (lv_at hl 0 rfl) ?_
  refine W.objInit hx hb hown (htw (.methodLink RX7 3 objectInit) (jWr_9 _ (List.mem_of_getElem? (i := 6) rfl))) (htw (.instanceMethod objectInit) (jWr_1 _ (List.mem_of_getElem? (i := 10) rfl))) (htw (.code objectInit ⟨#[0xb1]⟩ 1 none) (jWr_1 _ (List.mem_of_getElem? (i := 11) rfl))) rfl (by rw [hml]; exact hl.1) rfl dX7_init_1 (by rw [← hR]; exact Nat.le_of_ble_eq_true rfl) (by rw [← hR]; exact Nat.le_of_ble_eq_true rfl) ?_
  refine W.eq (g2 := F0 m 4 ls []) rfl ?_
  refine lv_aload_n hx hb dX7_init_4 rfl (lv_at hl 0 rfl) ?_
  refine lv_sipush (v := 800) hx hb dX7_init_5 (by decide) ?_
  have hsz_1 := hh.2.2.2.2.2.1
  have htt_1 := hh.2.2.2.2.2.2.1
  refine j7_newiK hx hb hK hh hB (atype := .int) (ty := .int) (htw (.arrayClass .int) (jWr_3 _ (List.mem_of_getElem? (i := 20) rfl))) rfl rfl (fun _ h => h) hB286 1 rfl (by decide) (by decide) hbs (x := 800) (by decide) (by omega) (fun j => by first | trivial | decide | rfl | exact Or.inl rfl | (refine ⟨?_, ?_⟩ <;> decide)) (by rw [hRc]; omega) (by rw [hRs]; omega) dX7_init_8 (fun H_1 hfr_1 hh_1 => ?_)
  have hh_1 : jSt (dC, dI) B base G0 (va_up G0 s.heap.size (some (286, 800))) EX7_init s.heap (0 + 1) (0 + 800) [] [] [] H_1 [] := hh_1
  have hN_1 : (jNk [0, 1, 2, 3, 4, 5, 6, 7, 8, 10, 11, 12, 13, 14, 15, 16]) G0 (va_up G0 s.heap.size (some (286, 800))) := jNk.new (by decide)
  have hgn_1 : (va_up G0 s.heap.size (some (286, 800))) s.heap.size = some (286, 800) := jUp_self
  have hle_1 : jLe G0 (va_up G0 s.heap.size (some (286, 800))) := jLe.new hh.2.1.fresh
  have hke_1 : jKe G0 (va_up G0 s.heap.size (some (286, 800))) s.heap H_1 := jKe.new hfr_1
  have hsy_1 : s.heap.size ≤ s.heap.size := hh.1.1
  generalize (va_up G0 s.heap.size (some (286, 800))) = G_1 at hN_1 hgn_1 hle_1 hke_1 hh_1
  clear hh
  have hNn_1 : (jNk [0, 1, 2, 3, 4, 5, 6, 7, 8, 10, 11, 12, 13, 14, 15, 16]) G0 G_1 := (jNk.rf).tr hN_1
  have hg_2 := hle_1 _ _ hg_r1
  have hkp_3 := hkp.tr hke_1
  have hraw_4n := hke_1.nr hraw0.lt hnr0
  have hraw_4 := hraw0.kept (hke_1.1 _ hraw0.lt)
  refine j7_putRF hx hb hown hK hh_1 hB hAp hraw_4 hraw_4n hbr0 (C := RX7) (T := TX7) (N := 5) rfl (i := 1) (by decide) (Nat.le_of_ble_eq_true rfl) hly_9_1 rfl hin2 rfl hlk_11 (ty := (.array .int)) (v := .ref s.heap.size) (by decide +kernel) rfl rfl dX7_init_10 (fun H_5 locs_5 hraw_5 hr_5 hh_5 => ?_)
  have hraw_5 : va_at (dC, dI) vwCl (r0, .inr (9, [.null, .ref s.heap.size, .int 0, .null, .null])) H_5 := hraw_5
  have hkp_6 := hkp_3.put hr_5
  clear hh_1
  refine lv_aload_n hx hb dX7_init_13 rfl (lv_at hl 0 rfl) ?_
  refine lv_bipush (v := 13) hx hb dX7_init_14 (by decide) ?_
  have hsz_7 := hh_5.2.2.2.2.2.1
  have htt_7 := hh_5.2.2.2.2.2.2.1
  refine j7_newiK hx hb hK hh_5 hB (atype := .int) (ty := .int) (htw (.arrayClass .int) (jWr_3 _ (List.mem_of_getElem? (i := 20) rfl))) rfl rfl (fun _ h => h) hB287 1 rfl (by decide) (by decide) hbs (x := 13) (by decide) (by omega) (fun j => by first | trivial | decide | rfl | exact Or.inl rfl | (refine ⟨?_, ?_⟩ <;> decide)) (by rw [hRc]; omega) (by rw [hRs]; omega) dX7_init_16 (fun H_7 hfr_7 hh_7 => ?_)
  have hh_7 : jSt (dC, dI) B base G0 (va_up G_1 H_5.size (some (287, 13))) EX7_init s.heap ((0 + 1) + 1) ((0 + 800) + 13) [] [] [] H_7 locs_5 := hh_7
  have hN_7 : (jNk [0, 1, 2, 3, 4, 5, 6, 7, 8, 10, 11, 12, 13, 14, 15, 16]) G_1 (va_up G_1 H_5.size (some (287, 13))) := jNk.new (by decide)
  have hgn_7 : (va_up G_1 H_5.size (some (287, 13))) H_5.size = some (287, 13) := jUp_self
  have hle_7 : jLe G_1 (va_up G_1 H_5.size (some (287, 13))) := jLe.new hh_5.2.1.fresh
  have hke_7 : jKe G_1 (va_up G_1 H_5.size (some (287, 13))) H_5 H_7 := jKe.new hfr_7
  have hsy_7 : s.heap.size ≤ H_5.size := hh_5.1.1
  generalize (va_up G_1 H_5.size (some (287, 13))) = G_7 at hN_7 hgn_7 hle_7 hke_7 hh_7
  clear hh_5
  have hNn_7 : (jNk [0, 1, 2, 3, 4, 5, 6, 7, 8, 10, 11, 12, 13, 14, 15, 16]) G0 G_7 := (hNn_1).tr hN_7
  have hg_8 := hle_7 _ _ hg_2
  have hkp_9 := hkp_6.tr hke_7
  have hraw_10n := hke_7.nr hraw_5.lt hraw_4n
  have hraw_10 := hraw_5.kept (hke_7.1 _ hraw_5.lt)
  refine j7_putRF hx hb hown hK hh_7 hB hAp hraw_10 hraw_10n hbr0 (C := RX7) (T := TX7) (N := 5) rfl (i := 3) (by decide) (Nat.le_of_ble_eq_true rfl) hly_9_3 rfl hin2 rfl hlk_15 (ty := (.array .int)) (v := .ref H_5.size) (by decide +kernel) rfl rfl dX7_init_18 (fun H_11 locs_11 hraw_11 hr_11 hh_11 => ?_)
  have hraw_11 : va_at (dC, dI) vwCl (r0, .inr (9, [.null, .ref s.heap.size, .int 0, .ref H_5.size, .null])) H_11 := hraw_11
  have hkp_12 := hkp_9.put hr_11
  clear hh_7
  refine lv_aload_n hx hb dX7_init_21 rfl (lv_at hl 0 rfl) ?_
  refine lv_bipush (v := 13) hx hb dX7_init_22 (by decide) ?_
  have hsz_13 := hh_11.2.2.2.2.2.1
  have htt_13 := hh_11.2.2.2.2.2.2.1
  refine j7_newiK hx hb hK hh_11 hB (atype := .int) (ty := .int) (htw (.arrayClass .int) (jWr_3 _ (List.mem_of_getElem? (i := 20) rfl))) rfl rfl (fun _ h => h) hB288 1 rfl (by decide) (by decide) hbs (x := 13) (by decide) (by omega) (fun j => by first | trivial | decide | rfl | exact Or.inl rfl | (refine ⟨?_, ?_⟩ <;> decide)) (by rw [hRc]; omega) (by rw [hRs]; omega) dX7_init_24 (fun H_13 hfr_13 hh_13 => ?_)
  have hh_13 : jSt (dC, dI) B base G0 (va_up G_7 H_11.size (some (288, 13))) EX7_init s.heap (((0 + 1) + 1) + 1) (((0 + 800) + 13) + 13) [] [] [] H_13 locs_11 := hh_13
  have hN_13 : (jNk [0, 1, 2, 3, 4, 5, 6, 7, 8, 10, 11, 12, 13, 14, 15, 16]) G_7 (va_up G_7 H_11.size (some (288, 13))) := jNk.new (by decide)
  have hgn_13 : (va_up G_7 H_11.size (some (288, 13))) H_11.size = some (288, 13) := jUp_self
  have hle_13 : jLe G_7 (va_up G_7 H_11.size (some (288, 13))) := jLe.new hh_11.2.1.fresh
  have hke_13 : jKe G_7 (va_up G_7 H_11.size (some (288, 13))) H_11 H_13 := jKe.new hfr_13
  have hsy_13 : s.heap.size ≤ H_11.size := hh_11.1.1
  generalize (va_up G_7 H_11.size (some (288, 13))) = G_13 at hN_13 hgn_13 hle_13 hke_13 hh_13
  clear hh_11
  have hNn_13 : (jNk [0, 1, 2, 3, 4, 5, 6, 7, 8, 10, 11, 12, 13, 14, 15, 16]) G0 G_13 := (hNn_7).tr hN_13
  have hg_14 := hle_13 _ _ hg_8
  have hkp_15 := hkp_12.tr hke_13
  have hraw_16n := hke_13.nr hraw_11.lt hraw_10n
  have hraw_16 := hraw_11.kept (hke_13.1 _ hraw_11.lt)
  refine j7_putRF hx hb hown hK hh_13 hB hAp hraw_16 hraw_16n hbr0 (C := RX7) (T := TX7) (N := 5) rfl (i := 4) (by decide) (Nat.le_of_ble_eq_true rfl) hly_9_4 rfl hin2 rfl hlk_18 (ty := (.array .int)) (v := .ref H_11.size) (by decide +kernel) rfl rfl dX7_init_26 (fun H_17 locs_17 hraw_17 hr_17 hh_17 => ?_)
  have hraw_17 : va_at (dC, dI) vwCl (r0, .inr (9, [.null, .ref s.heap.size, .int 0, .ref H_5.size, .ref H_11.size])) H_17 := hraw_17
  have hkp_18 := hkp_15.put hr_17
  clear hh_13
  refine lv_aload_n hx hb dX7_init_29 rfl (lv_at hl 0 rfl) ?_
  refine lv_aload_n hx hb dX7_init_30 rfl (lv_at hl 1 rfl) ?_
  refine j7_putRF hx hb hown hK hh_17 hB hAp hraw_17 hraw_16n hbr0 (C := RX7) (T := TX7) (N := 5) rfl (i := 0) (by decide) (Nat.le_of_ble_eq_true rfl) hly_9_0 rfl hin2 rfl hlk_21 (ty := (.object "ProofServer$Names")) (v := .ref r1) (by decide +kernel) rfl rfl dX7_init_31 (fun H_19 locs_19 hraw_19 hr_19 hh_19 => ?_)
  have hraw_19 : va_at (dC, dI) vwCl (r0, .inr (9, [.ref r1, .ref s.heap.size, .int 0, .ref H_5.size, .ref H_11.size])) H_19 := hraw_19
  have hkp_20 := hkp_18.put hr_19
  clear hh_17
  have hsz_21 := hh_19.2.2.2.2.2.1
  have htt_21 := hh_19.2.2.2.2.2.2.1
  refine W.room (fun hrc_21 hrs_21 => ?_)
  refine W.widen (k := LC - s.heap.size) (n := LS - jTot s.heap) (by omega) (by omega) ?_
  rw [hQ]
  have hle_22 : jLe G_13 (va_up G_13 r0 (some (9, 0))) := jLe.typ hraw_16n
  have hg_23 := hle_22 _ _ hg_14
  have hg_24 := (jLe.rf).tr hle_22 _ _ hg_14
  have hg_25 := ((hle_7).tr hle_13).tr hle_22 _ _ hgn_1
  have hg_26 := (hle_13).tr hle_22 _ _ hgn_7
  have hg_27 := (jLe.rf).tr hle_22 _ _ hgn_13
  have hfa_22 : jRf (va_up G_13 r0 (some (9, 0))) 8 0 (.ref r1) ∧ jRf (va_up G_13 r0 (some (9, 0))) 286 800 (.ref s.heap.size) ∧ jI 0 800 (.int 0) ∧ jRf (va_up G_13 r0 (some (9, 0))) 287 13 (.ref H_5.size) ∧ jRf (va_up G_13 r0 (some (9, 0))) 288 13 (.ref H_11.size) ∧ True := ⟨⟨_, rfl, hg_24⟩, ⟨_, rfl, hg_25⟩, ⟨_, rfl, by omega, by omega⟩, ⟨_, rfl, hg_26⟩, ⟨_, rfl, hg_27⟩, trivial⟩
  have hh_22 := hh_19.typ (k := 9) (n := 0) hB hraw_16n hbr0 hraw_19.lt (jOb.of (C := RX7) (T := TX7) (N := 5) (F := F9b) hB9 rfl hraw_19 (show jFx (F9b 0 (va_up G_13 r0 (some (9, 0)))) [.ref r1, .ref s.heap.size, .int 0, .ref H_5.size, .ref H_11.size] from hfa_22))
  have hgn_22 : (va_up G_13 r0 (some (9, 0))) r0 = some (9, 0) := jUp_self
  have hN_22 : (jNk [0, 1, 2, 3, 4, 5, 6, 7, 8, 10, 11, 12, 13, 14, 15, 16]) G_13 (va_up G_13 r0 (some (9, 0))) := jNk.new (by decide)
  have hNn_22 : (jNk [0, 1, 2, 3, 4, 5, 6, 7, 8, 10, 11, 12, 13, 14, 15, 16]) G0 (va_up G_13 r0 (some (9, 0))) := (hNn_13).tr hN_22
  have hkp_28 := hkp_20.typ (t := some (9, 0))
  exact W.vret hx hb hr (fun t ht hW => ⟨⟨(va_up G_13 r0 (some (9, 0))), rfl, trivial, ⟨hh_22.ra (by first | omega | (simp only; omega)) (by first | omega | (simp only; omega)) (M1 := []) [] rfl ht, hNn_22, hgn_22, by rw [ht]; exact hkp_28⟩⟩, by rw [ht]; try exact hh_22.1.1, fun q h9 hq => by rw [ht]; try exact hh_22.1.2.1 q h9 hq⟩) hh_22.1.2.2 dX7_init_34
end
section
theorem dX9_init_0 : decode cX9_init 0 = .ok (.aload_n 0, 1) := by decide +kernel
theorem dX9_init_1 : decode cX9_init 1 = .ok (.invokespecial 3, 3) := by decide +kernel
theorem dX9_init_4 : decode cX9_init 4 = .ok (.aload_n 0, 1) := by decide +kernel
theorem dX9_init_5 : decode cX9_init 5 = .ok (.iconst 0, 1) := by decide +kernel
theorem dX9_init_6 : decode cX9_init 6 = .ok (.newarray .int, 2) := by decide +kernel
theorem dX9_init_8 : decode cX9_init 8 = .ok (.putfield 9, 3) := by decide +kernel
theorem dX9_init_11 : decode cX9_init 11 = .ok (.aload_n 0, 1) := by decide +kernel
theorem dX9_init_12 : decode cX9_init 12 = .ok (.iconst 0, 1) := by decide +kernel
theorem dX9_init_13 : decode cX9_init 13 = .ok (.newarray .int, 2) := by decide +kernel
theorem dX9_init_15 : decode cX9_init 15 = .ok (.putfield 15, 3) := by decide +kernel
theorem dX9_init_18 : decode cX9_init 18 = .ok (.aload_n 0, 1) := by decide +kernel
theorem dX9_init_19 : decode cX9_init 19 = .ok (.iconst 0, 1) := by decide +kernel
theorem dX9_init_20 : decode cX9_init 20 = .ok (.anewarray 18, 3) := by decide +kernel
theorem dX9_init_23 : decode cX9_init 23 = .ok (.putfield 19, 3) := by decide +kernel
theorem dX9_init_26 : decode cX9_init 26 = .ok (.aload_n 0, 1) := by decide +kernel
theorem dX9_init_27 : decode cX9_init 27 = .ok (.iconst (-1), 1) := by decide +kernel
theorem dX9_init_28 : decode cX9_init 28 = .ok (.putfield 23, 3) := by decide +kernel
theorem dX9_init_31 : decode cX9_init 31 = .ok (.aload_n 0, 1) := by decide +kernel
theorem dX9_init_32 : decode cX9_init 32 = .ok (.iconst 0, 1) := by decide +kernel
theorem dX9_init_33 : decode cX9_init 33 = .ok (.newarray .int, 2) := by decide +kernel
theorem dX9_init_35 : decode cX9_init 35 = .ok (.putfield 27, 3) := by decide +kernel
theorem dX9_init_38 : decode cX9_init 38 = .ok (.aload_n 0, 1) := by decide +kernel
theorem dX9_init_39 : decode cX9_init 39 = .ok (.iconst 0, 1) := by decide +kernel
theorem dX9_init_40 : decode cX9_init 40 = .ok (.anewarray 30, 3) := by decide +kernel
theorem dX9_init_43 : decode cX9_init 43 = .ok (.putfield 32, 3) := by decide +kernel
theorem dX9_init_46 : decode cX9_init 46 = .ok (.aload_n 0, 1) := by decide +kernel
theorem dX9_init_47 : decode cX9_init 47 = .ok (.aconst_null, 1) := by decide +kernel
theorem dX9_init_48 : decode cX9_init 48 = .ok (.putfield 36, 3) := by decide +kernel
theorem dX9_init_51 : decode cX9_init 51 = .ok (.aload_n 0, 1) := by decide +kernel
theorem dX9_init_52 : decode cX9_init 52 = .ok (.iconst 0, 1) := by decide +kernel
theorem dX9_init_53 : decode cX9_init 53 = .ok (.newarray .int, 2) := by decide +kernel
theorem dX9_init_55 : decode cX9_init 55 = .ok (.putfield 40, 3) := by decide +kernel
theorem dX9_init_58 : decode cX9_init 58 = .ok (.return_, 1) := by decide +kernel
def EX9_init : List (Nat × Nat) := []
set_option maxHeartbeats 4000000 in
set_option maxRecDepth 20000 in
theorem uX9_init (l : Launch) (dC : Nat → ClassId) (dI : Nat → Nat → Nat) (ca : Nat → ClassId) (base : Nat) (B : jF) (hB : jBok B) (hAp : jAp (dC, dI)) (hB5 : ∀ n G a H, B 5 n G a H ↔ jOb (dC, dI) 5 4 (F5 n G) a H) (hB11 : ∀ n G a H, B 11 n G a H ↔ jOb (dC, dI) 11 9 (F11 n G) a H) (hB101 : ∀ n G a H, B 101 n G a H ↔ jAr (dC, dI) (ca 1) (fun j z => True) n a H) (hB214 : ∀ n G a H, B 214 n G a H ↔ jAq (dC, dI) (ca 7) (jQg) n G a H) (hB280 : ∀ n G a H, B 280 n G a H ↔ jAr (dC, dI) (ca 1) (fun j z => -1 ≤ z.toInt) n a H) (hB313 : ∀ n G a H, B 313 n G a H ↔ jAq (dC, dI) (ca 8) (jQk 280 80) n G a H) (G0 : jT) (H0 : Heap) (r0 : Nat) (LC LS : Nat) : Met l yX9_init (jw yX9_init cX9_init 1 none) ({ frames := 1, cells := LC - H0.size, slots := LS - jTot H0, locals := 31 }) (va_Pc [.ref r0] (fun U => U.heap = H0 ∧ jX B base G0 [] H0 ∧ jG dC dI ca base U ∧ jK2 dC dI ca U ∧ jK5 dC dI ca U ∧ jK6 U ∧ va_at (dC, dI) vwCl (r0, .inr (11, [.null, .null, .int 0, .null, .null, .null, .int 0, .null, .null])) H0 ∧ (∀ t, G0 r0 ≠ some t) ∧ base ≤ r0 ∧ jP (dC, dI) G0 H0 [] ∧ jIs (dC, dI) G0 H0 [(jFs11, jSef dC dI G0)] ∧ H0.size + 6 ≤ LC ∧ jTot H0 + 0 ≤ LS ∧ True)) (va_Qv (S := jT) (fun u => True) (fun u t => jRa (dC, dI) B base G0 u EX9_init H0 (6) (0) [] t.heap ∧ (jNk [0, 1, 2, 3, 4, 5, 6, 7, 8, 9, 10, 12, 13, 14, 15, 16]) G0 u ∧ u r0 = some (11, 0) ∧ jKx r0 G0 u H0 t.heap ∧ jIs (dC, dI) u t.heap [(jFs11, jSef dC dI u)]) (jA base)) (LC - H0.size) (LS - jTot H0) (jA base) := by
  refine Met.ofW (cc := cX9_init) (maxL := 1) (ret := none) (by decide) rfl ?_
  intro p e s m args below meth c s₁ Bd hml hv
  obtain ⟨rfl, hH0, hX, hG, hK2, hK5, hK6, hraw0, hnr0, hbr0, hP0, hI0, hLC0, hLS0, hp0⟩ := hv
  have hK := hG.1
  have hx := Bd.exec
  have hb := Bd.bytes
  have hr := Bd.returns
  have hts := atoms_spec (ws := (jw yX9_init cX9_init 1 none)) Bd.pre
  have htw : ∀ w ∈ jWl, w.before _ s = true := fun w h => hts w (List.mem_cons_of_mem _ h)
  have hown : s.vm.findClass RX9 = some m.cls := findClass_of_methodNamed Bd.named
  have hlocks := Bd.notSynchronized
  obtain ⟨Q, hQ⟩ : ∃ Q, Q = MQ below (va_Qv (S := jT) (fun u => True) (fun u t => jRa (dC, dI) B base G0 u EX9_init H0 (6) (0) [] t.heap ∧ (jNk [0, 1, 2, 3, 4, 5, 6, 7, 8, 9, 10, 12, 13, 14, 15, 16]) G0 u ∧ u r0 = some (11, 0) ∧ jKx r0 G0 u H0 t.heap ∧ jIs (dC, dI) u t.heap [(jFs11, jSef dC dI u)]) (jA base)) ([.ref r0] : List Value).toArray s (LC - H0.size) (LS - jTot H0) (jA base) := ⟨_, rfl⟩
  rw [← hQ]
  have hl := lv_entry ([.ref r0]) (n := 1) (Nat.le_of_ble_eq_true rfl)
  rw [lg_entry_eq]
  generalize (lg_sl ([.ref r0]) ++ List.replicate (1 - (lg_sl ([.ref r0])).length) Slot.unset).toArray = ls at hl ⊢
  have hl : lv_has ls 1 [(0, .ref r0)] := hl
  generalize hR : (headSpec (jw yX9_init cX9_init 1 none) ({ frames := 1, cells := LC - H0.size, slots := LS - jTot H0, locals := 31 })).room = R
  subst hH0
  have hh : jSt (dC, dI) B base G0 G0 EX9_init s.heap 0 0 [] [] [(jFs11, jSef dC dI G0)] s.heap [] := jSt.start hX hP0 jMc.nil hI0
  clear hX hP0
  have hkm1 : ((-1) : Int32).toInt = (-1) := by decide
  have hk0 : (0 : Int32).toInt = 0 := by decide
  have hk1 : (1 : Int32).toInt = 1 := by decide
  have hly_11_0 := htw (u_lay RX9 TX9 0) (jWc_wsX90 _ (u_in_lay (by decide)))
  have hly_11_1 := htw (u_lay RX9 TX9 1) (jWc_wsX90 _ (u_in_lay (by decide)))
  have hly_11_3 := htw (u_lay RX9 TX9 3) (jWc_wsX90 _ (u_in_lay (by decide)))
  have hly_11_4 := htw (u_lay RX9 TX9 4) (jWc_wsX90 _ (u_in_lay (by decide)))
  have hly_11_5 := htw (u_lay RX9 TX9 5) (jWc_wsX90 _ (u_in_lay (by decide)))
  have hly_11_6 := htw (u_lay RX9 TX9 6) (jWc_wsX90 _ (u_in_lay (by decide)))
  have hly_11_7 := htw (u_lay RX9 TX9 7) (jWc_wsX90 _ (u_in_lay (by decide)))
  have hly_11_8 := htw (u_lay RX9 TX9 8) (jWc_wsX90 _ (u_in_lay (by decide)))
  have hlk_9 := (htw (.fieldLink RX9 9 "ProofServer$State" "symbols" "[I") (jWr_8 _ (List.mem_of_getElem? (i := 17) rfl)))
  have hlk_15 := (htw (.fieldLink RX9 15 "ProofServer$State" "factNames" "[I") (jWr_8 _ (List.mem_of_getElem? (i := 18) rfl)))
  have hlk_19 := (htw (.fieldLink RX9 19 "ProofServer$State" "facts" "[[I") (jWr_8 _ (List.mem_of_getElem? (i := 20) rfl)))
  have hlk_23 := (htw (.fieldLink RX9 23 "ProofServer$State" "lemma" "I") (jWr_8 _ (List.mem_of_getElem? (i := 21) rfl)))
  have hlk_27 := (htw (.fieldLink RX9 27 "ProofServer$State" "statement" "[I") (jWr_8 _ (List.mem_of_getElem? (i := 22) rfl)))
  have hlk_32 := (htw (.fieldLink RX9 32 "ProofServer$State" "goals" "[LProofServer$Goal;") (jWr_9 _ (List.mem_of_getElem? (i := 0) rfl)))
  have hlk_36 := (htw (.fieldLink RX9 36 "ProofServer$State" "ahead" "LProofServer$State;") (jWr_9 _ (List.mem_of_getElem? (i := 1) rfl)))
  have hlk_40 := (htw (.fieldLink RX9 40 "ProofServer$State" "units" "[I") (jWr_9 _ (List.mem_of_getElem? (i := 2) rfl)))
  have hbs : base ≤ s.heap.size := Nat.le_of_lt (Nat.lt_of_le_of_lt hbr0 hraw0.lt)
  have hRc : R.cells = LC - s.heap.size := by rw [← hR]; rfl
  have hRs : R.slots = LS - jTot s.heap := by rw [← hR]; rfl
  have hin2 : meth.name = "<init>" := (name_of_methodNamed Bd.named Bd.method).1
  have hkp : jKx r0 G0 G0 s.heap s.heap := jKx.rf
  refine lv_aload_n hx hb dX9_init_0 rfl (lv_at hl 0 rfl) ?_
  refine W.objInit hx hb hown (htw (.methodLink RX9 3 objectInit) (jWr_8 _ (List.mem_of_getElem? (i := 16) rfl))) (htw (.instanceMethod objectInit) (jWr_1 _ (List.mem_of_getElem? (i := 10) rfl))) (htw (.code objectInit ⟨#[0xb1]⟩ 1 none) (jWr_1 _ (List.mem_of_getElem? (i := 11) rfl))) rfl (by rw [hml]; exact hl.1) rfl dX9_init_1 (by rw [← hR]; exact Nat.le_of_ble_eq_true rfl) (by rw [← hR]; exact Nat.le_of_ble_eq_true rfl) ?_
  refine W.eq (g2 := F0 m 4 ls []) rfl ?_
  refine lv_aload_n hx hb dX9_init_4 rfl (lv_at hl 0 rfl) ?_
  refine lv_iconst (v := 0) hx hb dX9_init_5 (by decide) ?_
  have hsz_1 := hh.2.2.2.2.2.1
  have htt_1 := hh.2.2.2.2.2.2.1
  refine j7_newiK hx hb hK hh hB (atype := .int) (ty := .int) (htw (.arrayClass .int) (jWr_3 _ (List.mem_of_getElem? (i := 20) rfl))) rfl rfl (fun _ h => h) hB101 1 rfl (by decide) (by decide) hbs (x := 0) (by decide) (by omega) (fun j => by first | trivial | decide | rfl | exact Or.inl rfl | (refine ⟨?_, ?_⟩ <;> decide)) (by rw [hRc]; omega) (by rw [hRs]; omega) dX9_init_6 (fun H_1 hfr_1 hh_1 => ?_)
  have hh_1 : jSt (dC, dI) B base G0 (va_up G0 s.heap.size (some (101, 0))) EX9_init s.heap (0 + 1) (0 + 0) [] [] [(jFs11, jSef dC dI G0)] H_1 [] := hh_1
  have hM_1 : jNk [11] G0 (va_up G0 s.heap.size (some (101, 0))) := jNk.new (by decide)
  have hN_1 : (jNk [0, 1, 2, 3, 4, 5, 6, 7, 8, 9, 10, 12, 13, 14, 15, 16]) G0 (va_up G0 s.heap.size (some (101, 0))) := jNk.new (by decide)
  have hgn_1 : (va_up G0 s.heap.size (some (101, 0))) s.heap.size = some (101, 0) := jUp_self
  have hle_1 : jLe G0 (va_up G0 s.heap.size (some (101, 0))) := jLe.new hh.2.1.fresh
  have hke_1 : jKe G0 (va_up G0 s.heap.size (some (101, 0))) s.heap H_1 := jKe.new hfr_1
  have hsy_1 : s.heap.size ≤ s.heap.size := hh.1.1
  generalize (va_up G0 s.heap.size (some (101, 0))) = G_1 at hN_1 hgn_1 hle_1 hke_1 hh_1 hM_1
  clear hh
  have hNn_1 : (jNk [0, 1, 2, 3, 4, 5, 6, 7, 8, 9, 10, 12, 13, 14, 15, 16]) G0 G_1 := (jNk.rf).tr hN_1
  have hkp_2 := hkp.tr hke_1
  have hraw_3n := hke_1.nr hraw0.lt hnr0
  have hraw_3 := hraw0.kept (hke_1.1 _ hraw0.lt)
  have hd_4 := jSef.grow (hh_1.iv 0 rfl) hle_1 hM_1 (by decide)
  have hh_5 := hh_1.sub (L1 := []) [] rfl (M1 := []) [] rfl (I1 := []) [] rfl
  clear hh_1
  have hh_6 := hh_5.addI (jSef.ie hd_4)
  clear hh_5
  refine j7_putR hx hb hown hK hh_6 hB hAp hraw_3 hraw_3n hbr0 (C := RX9) (T := TX9) (N := 9) rfl (i := 3) (by decide) (Nat.le_of_ble_eq_true rfl) hly_11_3 rfl hlk_9 (ty := (.array .int)) (v := .ref s.heap.size) (by decide +kernel) rfl rfl dX9_init_8 (fun H_7 locs_7 hraw_7 hr_7 hh_7 => ?_)
  have hraw_7 : va_at (dC, dI) vwCl (r0, .inr (11, [.null, .null, .int 0, .ref s.heap.size, .null, .null, .int 0, .null, .null])) H_7 := hraw_7
  have hkp_8 := hkp_2.put hr_7
  clear hh_6
  refine lv_aload_n hx hb dX9_init_11 rfl (lv_at hl 0 rfl) ?_
  refine lv_iconst (v := 0) hx hb dX9_init_12 (by decide) ?_
  have hsz_9 := hh_7.2.2.2.2.2.1
  have htt_9 := hh_7.2.2.2.2.2.2.1
  refine j7_newiK hx hb hK hh_7 hB (atype := .int) (ty := .int) (htw (.arrayClass .int) (jWr_3 _ (List.mem_of_getElem? (i := 20) rfl))) rfl rfl (fun _ h => h) hB101 1 rfl (by decide) (by decide) hbs (x := 0) (by decide) (by omega) (fun j => by first | trivial | decide | rfl | exact Or.inl rfl | (refine ⟨?_, ?_⟩ <;> decide)) (by rw [hRc]; omega) (by rw [hRs]; omega) dX9_init_13 (fun H_9 hfr_9 hh_9 => ?_)
  have hh_9 : jSt (dC, dI) B base G0 (va_up G_1 H_7.size (some (101, 0))) EX9_init s.heap ((0 + 1) + 1) ((0 + 0) + 0) [] [] [(jFs11, jSef dC dI G_1)] H_9 locs_7 := hh_9
  have hM_9 : jNk [11] G_1 (va_up G_1 H_7.size (some (101, 0))) := jNk.new (by decide)
  have hN_9 : (jNk [0, 1, 2, 3, 4, 5, 6, 7, 8, 9, 10, 12, 13, 14, 15, 16]) G_1 (va_up G_1 H_7.size (some (101, 0))) := jNk.new (by decide)
  have hgn_9 : (va_up G_1 H_7.size (some (101, 0))) H_7.size = some (101, 0) := jUp_self
  have hle_9 : jLe G_1 (va_up G_1 H_7.size (some (101, 0))) := jLe.new hh_7.2.1.fresh
  have hke_9 : jKe G_1 (va_up G_1 H_7.size (some (101, 0))) H_7 H_9 := jKe.new hfr_9
  have hsy_9 : s.heap.size ≤ H_7.size := hh_7.1.1
  generalize (va_up G_1 H_7.size (some (101, 0))) = G_9 at hN_9 hgn_9 hle_9 hke_9 hh_9 hM_9
  clear hh_7
  have hNn_9 : (jNk [0, 1, 2, 3, 4, 5, 6, 7, 8, 9, 10, 12, 13, 14, 15, 16]) G0 G_9 := (hNn_1).tr hN_9
  have hkp_10 := hkp_8.tr hke_9
  have hraw_11n := hke_9.nr hraw_7.lt hraw_3n
  have hraw_11 := hraw_7.kept (hke_9.1 _ hraw_7.lt)
  have hd_12 := jSef.grow (hh_9.iv 0 rfl) hle_9 hM_9 (by decide)
  have hh_13 := hh_9.sub (L1 := []) [] rfl (M1 := []) [] rfl (I1 := []) [] rfl
  clear hh_9
  have hh_14 := hh_13.addI (jSef.ie hd_12)
  clear hh_13
  refine j7_putR hx hb hown hK hh_14 hB hAp hraw_11 hraw_11n hbr0 (C := RX9) (T := TX9) (N := 9) rfl (i := 4) (by decide) (Nat.le_of_ble_eq_true rfl) hly_11_4 rfl hlk_15 (ty := (.array .int)) (v := .ref H_7.size) (by decide +kernel) rfl rfl dX9_init_15 (fun H_15 locs_15 hraw_15 hr_15 hh_15 => ?_)
  have hraw_15 : va_at (dC, dI) vwCl (r0, .inr (11, [.null, .null, .int 0, .ref s.heap.size, .ref H_7.size, .null, .int 0, .null, .null])) H_15 := hraw_15
  have hkp_16 := hkp_10.put hr_15
  clear hh_14
  refine lv_aload_n hx hb dX9_init_18 rfl (lv_at hl 0 rfl) ?_
  refine lv_iconst (v := 0) hx hb dX9_init_19 (by decide) ?_
  have hsz_17 := hh_15.2.2.2.2.2.1
  have htt_17 := hh_15.2.2.2.2.2.2.1
  have hsy_17 : s.heap.size ≤ H_15.size := hh_15.1.1
  refine j7_newa0 hx hb hown (show (Cond.classLink RX9 18 (FieldType.array .int).toString).before _ s = true from htw (.classLink RX9 18 "[I") (jWr_8 _ (List.mem_of_getElem? (i := 19) rfl))) hK5 hh_15 hB hB313 (by decide) hbs (by decide) (by rw [hRc]; omega) (by rw [hRs]; omega) dX9_init_20 (fun H_17 hfr_17 hh_17 => ?_)
  have hh_17 : jSt (dC, dI) B base G0 (va_up G_9 H_15.size (some (313, 0))) EX9_init s.heap (((0 + 1) + 1) + 1) (((0 + 0) + 0) + 0) [] [] [(jFs11, jSef dC dI G_9)] H_17 locs_15 := hh_17
  have hM_17 : jNk [11] G_9 (va_up G_9 H_15.size (some (313, 0))) := jNk.new (by decide)
  have hN_17 : (jNk [0, 1, 2, 3, 4, 5, 6, 7, 8, 9, 10, 12, 13, 14, 15, 16]) G_9 (va_up G_9 H_15.size (some (313, 0))) := jNk.new (by decide)
  have hgn_17 : (va_up G_9 H_15.size (some (313, 0))) H_15.size = some (313, 0) := jUp_self
  have hle_17 : jLe G_9 (va_up G_9 H_15.size (some (313, 0))) := jLe.new hh_15.2.1.fresh
  have hke_17 : jKe G_9 (va_up G_9 H_15.size (some (313, 0))) H_15 H_17 := jKe.new hfr_17
  have hsy_17 : s.heap.size ≤ H_15.size := hh_15.1.1
  generalize (va_up G_9 H_15.size (some (313, 0))) = G_17 at hN_17 hgn_17 hle_17 hke_17 hh_17 hM_17
  clear hh_15
  have hNn_17 : (jNk [0, 1, 2, 3, 4, 5, 6, 7, 8, 9, 10, 12, 13, 14, 15, 16]) G0 G_17 := (hNn_9).tr hN_17
  have hkp_18 := hkp_16.tr hke_17
  have hraw_19n := hke_17.nr hraw_15.lt hraw_11n
  have hraw_19 := hraw_15.kept (hke_17.1 _ hraw_15.lt)
  have hd_20 := jSef.grow (hh_17.iv 0 rfl) hle_17 hM_17 (by decide)
  have hh_21 := hh_17.sub (L1 := []) [] rfl (M1 := []) [] rfl (I1 := []) [] rfl
  clear hh_17
  have hh_22 := hh_21.addI (jSef.ie hd_20)
  clear hh_21
  refine j7_putR hx hb hown hK hh_22 hB hAp hraw_19 hraw_19n hbr0 (C := RX9) (T := TX9) (N := 9) rfl (i := 5) (by decide) (Nat.le_of_ble_eq_true rfl) hly_11_5 rfl hlk_19 (ty := (.array (.array .int))) (v := .ref H_15.size) (by decide +kernel) rfl rfl dX9_init_23 (fun H_23 locs_23 hraw_23 hr_23 hh_23 => ?_)
  have hraw_23 : va_at (dC, dI) vwCl (r0, .inr (11, [.null, .null, .int 0, .ref s.heap.size, .ref H_7.size, .ref H_15.size, .int 0, .null, .null])) H_23 := hraw_23
  have hkp_24 := hkp_18.put hr_23
  clear hh_22
  refine lv_aload_n hx hb dX9_init_26 rfl (lv_at hl 0 rfl) ?_
  refine lv_iconst (v := (-1)) hx hb dX9_init_27 (by decide) ?_
  refine j7_putR hx hb hown hK hh_23 hB hAp hraw_23 hraw_19n hbr0 (C := RX9) (T := TX9) (N := 9) rfl (i := 6) (by decide) (Nat.le_of_ble_eq_true rfl) hly_11_6 rfl hlk_23 (ty := .int) (v := .int (-1)) (by decide +kernel) rfl rfl dX9_init_28 (fun H_25 locs_25 hraw_25 hr_25 hh_25 => ?_)
  have hraw_25 : va_at (dC, dI) vwCl (r0, .inr (11, [.null, .null, .int 0, .ref s.heap.size, .ref H_7.size, .ref H_15.size, .int (-1), .null, .null])) H_25 := hraw_25
  have hkp_26 := hkp_24.put hr_25
  clear hh_23
  refine lv_aload_n hx hb dX9_init_31 rfl (lv_at hl 0 rfl) ?_
  refine lv_iconst (v := 0) hx hb dX9_init_32 (by decide) ?_
  have hsz_27 := hh_25.2.2.2.2.2.1
  have htt_27 := hh_25.2.2.2.2.2.2.1
  refine j7_newiK hx hb hK hh_25 hB (atype := .int) (ty := .int) (htw (.arrayClass .int) (jWr_3 _ (List.mem_of_getElem? (i := 20) rfl))) rfl rfl (fun _ h => h) hB280 1 rfl (by decide) (by decide) hbs (x := 0) (by decide) (by omega) (fun j => by first | trivial | decide | rfl | exact Or.inl rfl | (refine ⟨?_, ?_⟩ <;> decide)) (by rw [hRc]; omega) (by rw [hRs]; omega) dX9_init_33 (fun H_27 hfr_27 hh_27 => ?_)
  have hh_27 : jSt (dC, dI) B base G0 (va_up G_17 H_25.size (some (280, 0))) EX9_init s.heap ((((0 + 1) + 1) + 1) + 1) ((((0 + 0) + 0) + 0) + 0) [] [] [(jFs11, jSef dC dI G_17)] H_27 locs_25 := hh_27
  have hM_27 : jNk [11] G_17 (va_up G_17 H_25.size (some (280, 0))) := jNk.new (by decide)
  have hN_27 : (jNk [0, 1, 2, 3, 4, 5, 6, 7, 8, 9, 10, 12, 13, 14, 15, 16]) G_17 (va_up G_17 H_25.size (some (280, 0))) := jNk.new (by decide)
  have hgn_27 : (va_up G_17 H_25.size (some (280, 0))) H_25.size = some (280, 0) := jUp_self
  have hle_27 : jLe G_17 (va_up G_17 H_25.size (some (280, 0))) := jLe.new hh_25.2.1.fresh
  have hke_27 : jKe G_17 (va_up G_17 H_25.size (some (280, 0))) H_25 H_27 := jKe.new hfr_27
  have hsy_27 : s.heap.size ≤ H_25.size := hh_25.1.1
  generalize (va_up G_17 H_25.size (some (280, 0))) = G_27 at hN_27 hgn_27 hle_27 hke_27 hh_27 hM_27
  clear hh_25
  have hNn_27 : (jNk [0, 1, 2, 3, 4, 5, 6, 7, 8, 9, 10, 12, 13, 14, 15, 16]) G0 G_27 := (hNn_17).tr hN_27
  have hkp_28 := hkp_26.tr hke_27
  have hraw_29n := hke_27.nr hraw_25.lt hraw_19n
  have hraw_29 := hraw_25.kept (hke_27.1 _ hraw_25.lt)
  have hd_30 := jSef.grow (hh_27.iv 0 rfl) hle_27 hM_27 (by decide)
  have hh_31 := hh_27.sub (L1 := []) [] rfl (M1 := []) [] rfl (I1 := []) [] rfl
  clear hh_27
  have hh_32 := hh_31.addI (jSef.ie hd_30)
  clear hh_31
  refine j7_putR hx hb hown hK hh_32 hB hAp hraw_29 hraw_29n hbr0 (C := RX9) (T := TX9) (N := 9) rfl (i := 7) (by decide) (Nat.le_of_ble_eq_true rfl) hly_11_7 rfl hlk_27 (ty := (.array .int)) (v := .ref H_25.size) (by decide +kernel) rfl rfl dX9_init_35 (fun H_33 locs_33 hraw_33 hr_33 hh_33 => ?_)
  have hraw_33 : va_at (dC, dI) vwCl (r0, .inr (11, [.null, .null, .int 0, .ref s.heap.size, .ref H_7.size, .ref H_15.size, .int (-1), .ref H_25.size, .null])) H_33 := hraw_33
  have hkp_34 := hkp_28.put hr_33
  clear hh_32
  refine lv_aload_n hx hb dX9_init_38 rfl (lv_at hl 0 rfl) ?_
  refine lv_iconst (v := 0) hx hb dX9_init_39 (by decide) ?_
  have hsz_35 := hh_33.2.2.2.2.2.1
  have htt_35 := hh_33.2.2.2.2.2.2.1
  have hsy_35 : s.heap.size ≤ H_33.size := hh_33.1.1
  refine j7_newq0 hx hb hown (htw (.classLink RX9 30 RX3) (jWr_8 _ (List.mem_of_getElem? (i := 23) rfl))) hK6.2.2.2 hK2 hh_33 hB hB214 3 rfl (by decide) hbs (by decide) (by rw [hRc]; omega) (by rw [hRs]; omega) dX9_init_40 (fun H_35 hfr_35 hh_35 => ?_)
  have hh_35 : jSt (dC, dI) B base G0 (va_up G_27 H_33.size (some (214, 0))) EX9_init s.heap (((((0 + 1) + 1) + 1) + 1) + 1) (((((0 + 0) + 0) + 0) + 0) + 0) [] [] [(jFs11, jSef dC dI G_27)] H_35 locs_33 := hh_35
  have hM_35 : jNk [11] G_27 (va_up G_27 H_33.size (some (214, 0))) := jNk.new (by decide)
  have hN_35 : (jNk [0, 1, 2, 3, 4, 5, 6, 7, 8, 9, 10, 12, 13, 14, 15, 16]) G_27 (va_up G_27 H_33.size (some (214, 0))) := jNk.new (by decide)
  have hgn_35 : (va_up G_27 H_33.size (some (214, 0))) H_33.size = some (214, 0) := jUp_self
  have hle_35 : jLe G_27 (va_up G_27 H_33.size (some (214, 0))) := jLe.new hh_33.2.1.fresh
  have hke_35 : jKe G_27 (va_up G_27 H_33.size (some (214, 0))) H_33 H_35 := jKe.new hfr_35
  have hsy_35 : s.heap.size ≤ H_33.size := hh_33.1.1
  generalize (va_up G_27 H_33.size (some (214, 0))) = G_35 at hN_35 hgn_35 hle_35 hke_35 hh_35 hM_35
  clear hh_33
  have hNn_35 : (jNk [0, 1, 2, 3, 4, 5, 6, 7, 8, 9, 10, 12, 13, 14, 15, 16]) G0 G_35 := (hNn_27).tr hN_35
  have hkp_36 := hkp_34.tr hke_35
  have hraw_37n := hke_35.nr hraw_33.lt hraw_29n
  have hraw_37 := hraw_33.kept (hke_35.1 _ hraw_33.lt)
  have hd_38 := jSef.grow (hh_35.iv 0 rfl) hle_35 hM_35 (by decide)
  have hh_39 := hh_35.sub (L1 := []) [] rfl (M1 := []) [] rfl (I1 := []) [] rfl
  clear hh_35
  have hh_40 := hh_39.addI (jSef.ie hd_38)
  clear hh_39
  refine j7_putR hx hb hown hK hh_40 hB hAp hraw_37 hraw_37n hbr0 (C := RX9) (T := TX9) (N := 9) rfl (i := 8) (by decide) (Nat.le_of_ble_eq_true rfl) hly_11_8 rfl hlk_32 (ty := (.array (.object "ProofServer$Goal"))) (v := .ref H_33.size) (by decide +kernel) rfl rfl dX9_init_43 (fun H_41 locs_41 hraw_41 hr_41 hh_41 => ?_)
  have hraw_41 : va_at (dC, dI) vwCl (r0, .inr (11, [.null, .null, .int 0, .ref s.heap.size, .ref H_7.size, .ref H_15.size, .int (-1), .ref H_25.size, .ref H_33.size])) H_41 := hraw_41
  have hkp_42 := hkp_36.put hr_41
  clear hh_40
  refine lv_aload_n hx hb dX9_init_46 rfl (lv_at hl 0 rfl) ?_
  refine lv_null hx hb dX9_init_47 ?_
  refine j7_putRF hx hb hown hK hh_41 hB hAp hraw_41 hraw_37n hbr0 (C := RX9) (T := TX9) (N := 9) rfl (i := 0) (by decide) (Nat.le_of_ble_eq_true rfl) hly_11_0 rfl hin2 rfl hlk_36 (ty := (.object "ProofServer$State")) (v := .null) (by decide +kernel) rfl rfl dX9_init_48 (fun H_43 locs_43 hraw_43 hr_43 hh_43 => ?_)
  have hraw_43 : va_at (dC, dI) vwCl (r0, .inr (11, [.null, .null, .int 0, .ref s.heap.size, .ref H_7.size, .ref H_15.size, .int (-1), .ref H_25.size, .ref H_33.size])) H_43 := hraw_43
  have hkp_44 := hkp_42.put hr_43
  clear hh_41
  refine lv_aload_n hx hb dX9_init_51 rfl (lv_at hl 0 rfl) ?_
  refine lv_iconst (v := 0) hx hb dX9_init_52 (by decide) ?_
  have hsz_45 := hh_43.2.2.2.2.2.1
  have htt_45 := hh_43.2.2.2.2.2.2.1
  refine j7_newiK hx hb hK hh_43 hB (atype := .int) (ty := .int) (htw (.arrayClass .int) (jWr_3 _ (List.mem_of_getElem? (i := 20) rfl))) rfl rfl (fun _ h => h) hB101 1 rfl (by decide) (by decide) hbs (x := 0) (by decide) (by omega) (fun j => by first | trivial | decide | rfl | exact Or.inl rfl | (refine ⟨?_, ?_⟩ <;> decide)) (by rw [hRc]; omega) (by rw [hRs]; omega) dX9_init_53 (fun H_45 hfr_45 hh_45 => ?_)
  have hh_45 : jSt (dC, dI) B base G0 (va_up G_35 H_43.size (some (101, 0))) EX9_init s.heap ((((((0 + 1) + 1) + 1) + 1) + 1) + 1) ((((((0 + 0) + 0) + 0) + 0) + 0) + 0) [] [] [(jFs11, jSef dC dI G_35)] H_45 locs_43 := hh_45
  have hM_45 : jNk [11] G_35 (va_up G_35 H_43.size (some (101, 0))) := jNk.new (by decide)
  have hN_45 : (jNk [0, 1, 2, 3, 4, 5, 6, 7, 8, 9, 10, 12, 13, 14, 15, 16]) G_35 (va_up G_35 H_43.size (some (101, 0))) := jNk.new (by decide)
  have hgn_45 : (va_up G_35 H_43.size (some (101, 0))) H_43.size = some (101, 0) := jUp_self
  have hle_45 : jLe G_35 (va_up G_35 H_43.size (some (101, 0))) := jLe.new hh_43.2.1.fresh
  have hke_45 : jKe G_35 (va_up G_35 H_43.size (some (101, 0))) H_43 H_45 := jKe.new hfr_45
  have hsy_45 : s.heap.size ≤ H_43.size := hh_43.1.1
  generalize (va_up G_35 H_43.size (some (101, 0))) = G_45 at hN_45 hgn_45 hle_45 hke_45 hh_45 hM_45
  clear hh_43
  have hNn_45 : (jNk [0, 1, 2, 3, 4, 5, 6, 7, 8, 9, 10, 12, 13, 14, 15, 16]) G0 G_45 := (hNn_35).tr hN_45
  have hkp_46 := hkp_44.tr hke_45
  have hraw_47n := hke_45.nr hraw_43.lt hraw_37n
  have hraw_47 := hraw_43.kept (hke_45.1 _ hraw_43.lt)
  have hd_48 := jSef.grow (hh_45.iv 0 rfl) hle_45 hM_45 (by decide)
  have hh_49 := hh_45.sub (L1 := []) [] rfl (M1 := []) [] rfl (I1 := []) [] rfl
  clear hh_45
  have hh_50 := hh_49.addI (jSef.ie hd_48)
  clear hh_49
  refine j7_putRF hx hb hown hK hh_50 hB hAp hraw_47 hraw_47n hbr0 (C := RX9) (T := TX9) (N := 9) rfl (i := 1) (by decide) (Nat.le_of_ble_eq_true rfl) hly_11_1 rfl hin2 rfl hlk_40 (ty := (.array .int)) (v := .ref H_43.size) (by decide +kernel) rfl rfl dX9_init_55 (fun H_51 locs_51 hraw_51 hr_51 hh_51 => ?_)
  have hraw_51 : va_at (dC, dI) vwCl (r0, .inr (11, [.null, .ref H_43.size, .int 0, .ref s.heap.size, .ref H_7.size, .ref H_15.size, .int (-1), .ref H_25.size, .ref H_33.size])) H_51 := hraw_51
  have hkp_52 := hkp_46.put hr_51
  clear hh_50
  have hsz_53 := hh_51.2.2.2.2.2.1
  have htt_53 := hh_51.2.2.2.2.2.2.1
  refine W.room (fun hrc_53 hrs_53 => ?_)
  refine W.widen (k := LC - s.heap.size) (n := LS - jTot s.heap) (by omega) (by omega) ?_
  rw [hQ]
  have hd_54 := jSef.typ (n := 0) (hh_51.iv 0 rfl) hraw_47n ⟨H_7.size, H_15.size, 0, jf.raw (C := RX9) (T := TX9) (N := 9) rfl hraw_51 (i := 4) (by decide), jf.raw (C := RX9) (T := TX9) (N := 9) rfl hraw_51 (i := 5) (by decide), ((((hle_17).tr hle_27).tr hle_35).tr hle_45) _ _ hgn_9, (((hle_27).tr hle_35).tr hle_45) _ _ hgn_17, by omega⟩
  have hh_55 := hh_51.sub (L1 := []) [] rfl (M1 := []) [] rfl (I1 := []) [] rfl
  clear hh_51
  have hle_56 : jLe G_45 (va_up G_45 r0 (some (11, 0))) := jLe.typ hraw_47n
  have hg_57 := (jLe.rf).tr hle_56 _ _ hgn_45
  have hg_58 := (((((hle_9).tr hle_17).tr hle_27).tr hle_35).tr hle_45).tr hle_56 _ _ hgn_1
  have hg_59 := ((((hle_17).tr hle_27).tr hle_35).tr hle_45).tr hle_56 _ _ hgn_9
  have hg_60 := (((hle_27).tr hle_35).tr hle_45).tr hle_56 _ _ hgn_17
  have hg_61 := ((hle_35).tr hle_45).tr hle_56 _ _ hgn_27
  have hg_62 := (hle_45).tr hle_56 _ _ hgn_35
  have hfa_56 : jRn (va_up G_45 r0 (some (11, 0))) 11 0 (.null) ∧ jRk (va_up G_45 r0 (some (11, 0))) 101 1500 (.ref H_43.size) ∧ jIa (.int 0) ∧ jRk (va_up G_45 r0 (some (11, 0))) 101 16 (.ref s.heap.size) ∧ jRk (va_up G_45 r0 (some (11, 0))) 101 16 (.ref H_7.size) ∧ jRk (va_up G_45 r0 (some (11, 0))) 313 16 (.ref H_15.size) ∧ jIa (.int (-1)) ∧ jRk (va_up G_45 r0 (some (11, 0))) 280 80 (.ref H_25.size) ∧ jRk (va_up G_45 r0 (some (11, 0))) 214 6 (.ref H_33.size) ∧ True := ⟨Or.inl rfl, ⟨_, _, rfl, hg_57, by omega⟩, ⟨_, rfl⟩, ⟨_, _, rfl, hg_58, by omega⟩, ⟨_, _, rfl, hg_59, by omega⟩, ⟨_, _, rfl, hg_60, by omega⟩, ⟨_, rfl⟩, ⟨_, _, rfl, hg_61, by omega⟩, ⟨_, _, rfl, hg_62, by omega⟩, trivial⟩
  have hh_56 := hh_55.typ (k := 11) (n := 0) hB hraw_47n hbr0 hraw_51.lt (jOb.of (C := RX9) (T := TX9) (N := 9) (F := F11) hB11 rfl hraw_51 (show jFx (F11 0 (va_up G_45 r0 (some (11, 0)))) [.null, .ref H_43.size, .int 0, .ref s.heap.size, .ref H_7.size, .ref H_15.size, .int (-1), .ref H_25.size, .ref H_33.size] from hfa_56))
  have hgn_56 : (va_up G_45 r0 (some (11, 0))) r0 = some (11, 0) := jUp_self
  have hN_56 : (jNk [0, 1, 2, 3, 4, 5, 6, 7, 8, 9, 10, 12, 13, 14, 15, 16]) G_45 (va_up G_45 r0 (some (11, 0))) := jNk.new (by decide)
  have hNn_56 : (jNk [0, 1, 2, 3, 4, 5, 6, 7, 8, 9, 10, 12, 13, 14, 15, 16]) G0 (va_up G_45 r0 (some (11, 0))) := (hNn_45).tr hN_56
  have hkp_63 := hkp_52.typ (t := some (11, 0))
  have hh_64 := hh_56.addI (jSef.ie hd_54)
  clear hh_56
  exact W.vret hx hb hr (fun t ht hW => ⟨⟨(va_up G_45 r0 (some (11, 0))), rfl, trivial, ⟨hh_64.ra (by first | omega | (simp only; omega)) (by first | omega | (simp only; omega)) (M1 := []) [] rfl ht, hNn_56, hgn_56, by rw [ht]; exact hkp_63, by rw [ht]; exact hh_64.2.2.2.2.2.2.2.2.sub (L1 := [(jFs11, jSef dC dI (va_up G_45 r0 (some (11, 0))))]) [0] rfl⟩⟩, by rw [ht]; try exact hh_64.1.1, fun q h9 hq => by rw [ht]; try exact hh_64.1.2.1 q h9 hq⟩) hh_64.1.2.2 dX9_init_58
end
section
theorem dX6_init_0 : decode cX6_init 0 = .ok (.aload_n 0, 1) := by decide +kernel
theorem dX6_init_1 : decode cX6_init 1 = .ok (.invokespecial 3, 3) := by decide +kernel
theorem dX6_init_4 : decode cX6_init 4 = .ok (.aload_n 0, 1) := by decide +kernel
theorem dX6_init_5 : decode cX6_init 5 = .ok (.sipush 8192, 3) := by decide +kernel
theorem dX6_init_8 : decode cX6_init 8 = .ok (.newarray .long, 2) := by decide +kernel
theorem dX6_init_10 : decode cX6_init 10 = .ok (.putfield 11, 3) := by decide +kernel
theorem dX6_init_13 : decode cX6_init 13 = .ok (.aload_n 0, 1) := by decide +kernel
theorem dX6_init_14 : decode cX6_init 14 = .ok (.sipush 8192, 3) := by decide +kernel
theorem dX6_init_17 : decode cX6_init 17 = .ok (.newarray .int, 2) := by decide +kernel
theorem dX6_init_19 : decode cX6_init 19 = .ok (.putfield 15, 3) := by decide +kernel
theorem dX6_init_22 : decode cX6_init 22 = .ok (.aload_n 0, 1) := by decide +kernel
theorem dX6_init_23 : decode cX6_init 23 = .ok (.sipush 16384, 3) := by decide +kernel
theorem dX6_init_26 : decode cX6_init 26 = .ok (.newarray .int, 2) := by decide +kernel
theorem dX6_init_28 : decode cX6_init 28 = .ok (.putfield 19, 3) := by decide +kernel
theorem dX6_init_31 : decode cX6_init 31 = .ok (.ldc 22, 2) := by decide +kernel
theorem dX6_init_33 : decode cX6_init 33 = .ok (.invokevirtual 24, 3) := by decide +kernel
theorem dX6_init_36 : decode cX6_init 36 = .ok (.newarray .int, 2) := by decide +kernel
theorem dX6_init_38 : decode cX6_init 38 = .ok (.astore_n 1, 1) := by decide +kernel
theorem dX6_init_39 : decode cX6_init 39 = .ok (.iconst 0, 1) := by decide +kernel
theorem dX6_init_40 : decode cX6_init 40 = .ok (.istore_n 2, 1) := by decide +kernel
theorem dX6_init_41 : decode cX6_init 41 = .ok (.iconst 0, 1) := by decide +kernel
theorem dX6_init_42 : decode cX6_init 42 = .ok (.istore_n 3, 1) := by decide +kernel
theorem dX6_init_43 : decode cX6_init 43 = .ok (.iload_n 3, 1) := by decide +kernel
theorem dX6_init_44 : decode cX6_init 44 = .ok (.aload_n 1, 1) := by decide +kernel
theorem dX6_init_45 : decode cX6_init 45 = .ok (.arraylength, 1) := by decide +kernel
theorem dX6_init_46 : decode cX6_init 46 = .ok (.if_icmp .ge 39, 3) := by decide +kernel
theorem dX6_init_49 : decode cX6_init 49 = .ok (.aload_n 1, 1) := by decide +kernel
theorem dX6_init_50 : decode cX6_init 50 = .ok (.iload_n 3, 1) := by decide +kernel
theorem dX6_init_51 : decode cX6_init 51 = .ok (.ldc 22, 2) := by decide +kernel
theorem dX6_init_53 : decode cX6_init 53 = .ok (.iload_n 3, 1) := by decide +kernel
theorem dX6_init_54 : decode cX6_init 54 = .ok (.invokevirtual 30, 3) := by decide +kernel
theorem dX6_init_57 : decode cX6_init 57 = .ok (.iastore, 1) := by decide +kernel
theorem dX6_init_58 : decode cX6_init 58 = .ok (.aload_n 1, 1) := by decide +kernel
theorem dX6_init_59 : decode cX6_init 59 = .ok (.iload_n 3, 1) := by decide +kernel
theorem dX6_init_60 : decode cX6_init 60 = .ok (.iaload, 1) := by decide +kernel
theorem dX6_init_61 : decode cX6_init 61 = .ok (.bipush 32, 2) := by decide +kernel
theorem dX6_init_63 : decode cX6_init 63 = .ok (.if_icmp .ne 16, 3) := by decide +kernel
theorem dX6_init_66 : decode cX6_init 66 = .ok (.aload_n 0, 1) := by decide +kernel
theorem dX6_init_67 : decode cX6_init 67 = .ok (.aload_n 1, 1) := by decide +kernel
theorem dX6_init_68 : decode cX6_init 68 = .ok (.iload_n 2, 1) := by decide +kernel
theorem dX6_init_69 : decode cX6_init 69 = .ok (.iload_n 3, 1) := by decide +kernel
theorem dX6_init_70 : decode cX6_init 70 = .ok (.iconst 1, 1) := by decide +kernel
theorem dX6_init_71 : decode cX6_init 71 = .ok (.invokevirtual 34, 3) := by decide +kernel
theorem dX6_init_74 : decode cX6_init 74 = .ok (.pop, 1) := by decide +kernel
theorem dX6_init_75 : decode cX6_init 75 = .ok (.iload_n 3, 1) := by decide +kernel
theorem dX6_init_76 : decode cX6_init 76 = .ok (.iconst 1, 1) := by decide +kernel
theorem dX6_init_77 : decode cX6_init 77 = .ok (.iadd, 1) := by decide +kernel
theorem dX6_init_78 : decode cX6_init 78 = .ok (.istore_n 2, 1) := by decide +kernel
theorem dX6_init_79 : decode cX6_init 79 = .ok (.iinc 3 1, 3) := by decide +kernel
theorem dX6_init_82 : decode cX6_init 82 = .ok (.goto (-39), 3) := by decide +kernel
theorem dX6_init_85 : decode cX6_init 85 = .ok (.aload_n 0, 1) := by decide +kernel
theorem dX6_init_86 : decode cX6_init 86 = .ok (.aload_n 1, 1) := by decide +kernel
theorem dX6_init_87 : decode cX6_init 87 = .ok (.iload_n 2, 1) := by decide +kernel
theorem dX6_init_88 : decode cX6_init 88 = .ok (.aload_n 1, 1) := by decide +kernel
theorem dX6_init_89 : decode cX6_init 89 = .ok (.arraylength, 1) := by decide +kernel
theorem dX6_init_90 : decode cX6_init 90 = .ok (.iconst 1, 1) := by decide +kernel
theorem dX6_init_91 : decode cX6_init 91 = .ok (.invokevirtual 34, 3) := by decide +kernel
theorem dX6_init_94 : decode cX6_init 94 = .ok (.pop, 1) := by decide +kernel
theorem dX6_init_95 : decode cX6_init 95 = .ok (.return_, 1) := by decide +kernel
def EX6_init : List (Nat × Nat) := [(8, 3), (101, 0), (102, 0), (132, 0), (133, 0)]
def qtx164 : String := match tables_1[164]? with | some (Jvm.Cond.stringRef _ _ t) => t | _ => ""
set_option maxHeartbeats 4000000 in
set_option maxRecDepth 20000 in
theorem uX6_init (l : Launch) (dC : Nat → ClassId) (dI : Nat → Nat → Nat) (ca : Nat → ClassId) (base : Nat) (B : jF) (hB : jBok B) (hAp : jAp (dC, dI)) (hB8 : ∀ n G a H, B 8 n G a H ↔ jOb (dC, dI) 8 4 (F8 n G) a H) (hB101 : ∀ n G a H, B 101 n G a H ↔ jAr (dC, dI) (ca 1) (fun j z => True) n a H) (hB102 : ∀ n G a H, B 102 n G a H ↔ jAl (dC, dI) (ca 2) n a H) (hB132 : ∀ n G a H, B 132 n G a H ↔ jAr (dC, dI) (ca 1) (fun j z => 0 ≤ z.toInt ∧ z.toInt ≤ 10) n a H) (hB133 : ∀ n G a H, B 133 n G a H ↔ jAr (dC, dI) (ca 1) (fun j z => 0 ≤ z.toInt ∧ z.toInt ≤ 8192) n a H) (G0 : jT) (H0 : Heap) (r0 : Nat) (LC LS : Nat) : Met l yX6_init (jw yX6_init cX6_init 4 none) ({ frames := 4, cells := LC - H0.size, slots := LS - jTot H0, locals := 141 }) (va_Pc [.ref r0] (fun U => U.heap = H0 ∧ jX B base G0 [] H0 ∧ jG dC dI ca base U ∧ va_at (dC, dI) vwCl (r0, .inr (8, [.null, .null, .null, .int 0])) H0 ∧ (∀ t, G0 r0 ≠ some t) ∧ base ≤ r0 ∧ jP (dC, dI) G0 H0 [] ∧ H0.size + 4 ≤ LC ∧ jTot H0 + 32903 ≤ LS ∧ True)) (va_Qv (S := jT) (fun u => True) (fun u t => jRa (dC, dI) B base G0 u EX6_init H0 (4) (32903) [] t.heap ∧ (jNk [0, 1, 2, 3, 4, 5, 6, 7, 9, 10, 11, 12, 13, 14, 15, 16]) G0 u ∧ u r0 = some (8, 0) ∧ jKx r0 G0 u H0 t.heap) (jA base)) (LC - H0.size) (LS - jTot H0) (jA base) := by
  refine Met.ofW (cc := cX6_init) (maxL := 4) (ret := none) (by decide) rfl ?_
  intro p e s m args below meth c s₁ Bd hml hv
  obtain ⟨rfl, hH0, hX, hG, hraw0, hnr0, hbr0, hP0, hLC0, hLS0, hp0⟩ := hv
  have hK := hG.1
  have hx := Bd.exec
  have hb := Bd.bytes
  have hr := Bd.returns
  have hts := atoms_spec (ws := (jw yX6_init cX6_init 4 none)) Bd.pre
  have htw : ∀ w ∈ jWl, w.before _ s = true := fun w h => hts w (List.mem_cons_of_mem _ h)
  have hown : s.vm.findClass RX6 = some m.cls := findClass_of_methodNamed Bd.named
  have hlocks := Bd.notSynchronized
  obtain ⟨Q, hQ⟩ : ∃ Q, Q = MQ below (va_Qv (S := jT) (fun u => True) (fun u t => jRa (dC, dI) B base G0 u EX6_init H0 (4) (32903) [] t.heap ∧ (jNk [0, 1, 2, 3, 4, 5, 6, 7, 9, 10, 11, 12, 13, 14, 15, 16]) G0 u ∧ u r0 = some (8, 0) ∧ jKx r0 G0 u H0 t.heap) (jA base)) ([.ref r0] : List Value).toArray s (LC - H0.size) (LS - jTot H0) (jA base) := ⟨_, rfl⟩
  rw [← hQ]
  have hl := lv_entry ([.ref r0]) (n := 4) (Nat.le_of_ble_eq_true rfl)
  rw [lg_entry_eq]
  generalize (lg_sl ([.ref r0]) ++ List.replicate (4 - (lg_sl ([.ref r0])).length) Slot.unset).toArray = ls at hl ⊢
  have hl : lv_has ls 4 [(0, .ref r0)] := hl
  generalize hR : (headSpec (jw yX6_init cX6_init 4 none) ({ frames := 4, cells := LC - H0.size, slots := LS - jTot H0, locals := 141 })).room = R
  subst hH0
  have hh : jSt (dC, dI) B base G0 G0 EX6_init s.heap 0 0 [] [] [] s.heap [] := jSt.start hX hP0 jMc.nil jIs.nil
  clear hX hP0
  have hk0 : (0 : Int32).toInt = 0 := by decide
  have hk1 : (1 : Int32).toInt = 1 := by decide
  have hk32 : (32 : Int32).toInt = 32 := by decide
  have hk8192 : (8192 : Int32).toInt = 8192 := by decide
  have hk16384 : (16384 : Int32).toInt = 16384 := by decide
  have hly_8_0 := htw (u_lay RX6 TX6 0) (jWc_wsX60 _ (u_in_lay (by decide)))
  have hly_8_1 := htw (u_lay RX6 TX6 1) (jWc_wsX60 _ (u_in_lay (by decide)))
  have hly_8_2 := htw (u_lay RX6 TX6 2) (jWc_wsX60 _ (u_in_lay (by decide)))
  have hlk_11 := (htw (.fieldLink RX6 11 "ProofServer$Names" "stems" "[J") (jWr_5 _ (List.mem_of_getElem? (i := 9) rfl)))
  have hlk_15 := (htw (.fieldLink RX6 15 "ProofServer$Names" "primes" "[I") (jWr_5 _ (List.mem_of_getElem? (i := 10) rfl)))
  have hlk_19 := (htw (.fieldLink RX6 19 "ProofServer$Names" "slots" "[I") (jWr_5 _ (List.mem_of_getElem? (i := 11) rfl)))
  obtain ⟨str22, rstr22, hstr220⟩ := hG.str (o := RX6) (k := 22) (tx := qtx164) (List.mem_of_getElem? (i := 164) (by decide +kernel))
  have h9str22 : qtx164.length = 135 := by decide +kernel
  have hstr22 : jStr base str22 135 s s.heap := by rw [h9str22] at hstr220; exact hstr220
  have hbs : base ≤ s.heap.size := Nat.le_of_lt (Nat.lt_of_le_of_lt hbr0 hraw0.lt)
  have hRc : R.cells = LC - s.heap.size := by rw [← hR]; rfl
  have hRs : R.slots = LS - jTot s.heap := by rw [← hR]; rfl
  have hin2 : meth.name = "<init>" := (name_of_methodNamed Bd.named Bd.method).1
  have hkp : jKx r0 G0 G0 s.heap s.heap := jKx.rf
  refine lv_aload_n hx hb dX6_init_0 rfl (lv_at hl 0 rfl) ?_
  refine W.objInit hx hb hown (htw (.methodLink RX6 3 objectInit) (jWr_5 _ (List.mem_of_getElem? (i := 7) rfl))) (htw (.instanceMethod objectInit) (jWr_1 _ (List.mem_of_getElem? (i := 10) rfl))) (htw (.code objectInit ⟨#[0xb1]⟩ 1 none) (jWr_1 _ (List.mem_of_getElem? (i := 11) rfl))) rfl (by rw [hml]; exact hl.1) rfl dX6_init_1 (by rw [← hR]; exact Nat.le_of_ble_eq_true rfl) (by rw [← hR]; exact Nat.le_of_ble_eq_true rfl) ?_
  refine W.eq (g2 := F0 m 4 ls []) rfl ?_
  refine lv_aload_n hx hb dX6_init_4 rfl (lv_at hl 0 rfl) ?_
  refine lv_sipush (v := 8192) hx hb dX6_init_5 (by decide) ?_
  have hsz_1 := hh.2.2.2.2.2.1
  have htt_1 := hh.2.2.2.2.2.2.1
  refine j7_newlK hx hb hK hh hB (htw (.arrayClass .long) (jWr_5 _ (List.mem_of_getElem? (i := 8) rfl))) (fun _ h => h) hB102 2 rfl (by decide) hbs (x := 8192) (by decide) (by omega) (by rw [hRc]; omega) (by rw [hRs]; omega) dX6_init_8 (fun H_1 hfr_1 hh_1 => ?_)
  have hh_1 : jSt (dC, dI) B base G0 (va_up G0 s.heap.size (some (102, 8192))) EX6_init s.heap (0 + 1) (0 + 8192) [] [] [] H_1 [] := hh_1
  have hN_1 : (jNk [0, 1, 2, 3, 4, 5, 6, 7, 9, 10, 11, 12, 13, 14, 15, 16]) G0 (va_up G0 s.heap.size (some (102, 8192))) := jNk.new (by decide)
  have hgn_1 : (va_up G0 s.heap.size (some (102, 8192))) s.heap.size = some (102, 8192) := jUp_self
  have hle_1 : jLe G0 (va_up G0 s.heap.size (some (102, 8192))) := jLe.new hh.2.1.fresh
  have hke_1 : jKe G0 (va_up G0 s.heap.size (some (102, 8192))) s.heap H_1 := jKe.new hfr_1
  have hsy_1 : s.heap.size ≤ s.heap.size := hh.1.1
  generalize (va_up G0 s.heap.size (some (102, 8192))) = G_1 at hN_1 hgn_1 hle_1 hke_1 hh_1
  clear hh
  have hNn_1 : (jNk [0, 1, 2, 3, 4, 5, 6, 7, 9, 10, 11, 12, 13, 14, 15, 16]) G0 G_1 := (jNk.rf).tr hN_1
  have hkp_2 := hkp.tr hke_1
  have hraw_3n := hke_1.nr hraw0.lt hnr0
  have hraw_3 := hraw0.kept (hke_1.1 _ hraw0.lt)
  refine j7_putRF hx hb hown hK hh_1 hB hAp hraw_3 hraw_3n hbr0 (C := RX6) (T := TX6) (N := 4) rfl (i := 0) (by decide) (Nat.le_of_ble_eq_true rfl) hly_8_0 rfl hin2 rfl hlk_11 (ty := (.array .long)) (v := .ref s.heap.size) (by decide +kernel) rfl rfl dX6_init_10 (fun H_4 locs_4 hraw_4 hr_4 hh_4 => ?_)
  have hraw_4 : va_at (dC, dI) vwCl (r0, .inr (8, [.ref s.heap.size, .null, .null, .int 0])) H_4 := hraw_4
  have hkp_5 := hkp_2.put hr_4
  clear hh_1
  refine lv_aload_n hx hb dX6_init_13 rfl (lv_at hl 0 rfl) ?_
  refine lv_sipush (v := 8192) hx hb dX6_init_14 (by decide) ?_
  have hsz_6 := hh_4.2.2.2.2.2.1
  have htt_6 := hh_4.2.2.2.2.2.2.1
  refine j7_newiK hx hb hK hh_4 hB (atype := .int) (ty := .int) (htw (.arrayClass .int) (jWr_3 _ (List.mem_of_getElem? (i := 20) rfl))) rfl rfl (fun _ h => h) hB132 1 rfl (by decide) (by decide) hbs (x := 8192) (by decide) (by omega) (fun j => by first | trivial | decide | rfl | exact Or.inl rfl | (refine ⟨?_, ?_⟩ <;> decide)) (by rw [hRc]; omega) (by rw [hRs]; omega) dX6_init_17 (fun H_6 hfr_6 hh_6 => ?_)
  have hh_6 : jSt (dC, dI) B base G0 (va_up G_1 H_4.size (some (132, 8192))) EX6_init s.heap ((0 + 1) + 1) ((0 + 8192) + 8192) [] [] [] H_6 locs_4 := hh_6
  have hN_6 : (jNk [0, 1, 2, 3, 4, 5, 6, 7, 9, 10, 11, 12, 13, 14, 15, 16]) G_1 (va_up G_1 H_4.size (some (132, 8192))) := jNk.new (by decide)
  have hgn_6 : (va_up G_1 H_4.size (some (132, 8192))) H_4.size = some (132, 8192) := jUp_self
  have hle_6 : jLe G_1 (va_up G_1 H_4.size (some (132, 8192))) := jLe.new hh_4.2.1.fresh
  have hke_6 : jKe G_1 (va_up G_1 H_4.size (some (132, 8192))) H_4 H_6 := jKe.new hfr_6
  have hsy_6 : s.heap.size ≤ H_4.size := hh_4.1.1
  generalize (va_up G_1 H_4.size (some (132, 8192))) = G_6 at hN_6 hgn_6 hle_6 hke_6 hh_6
  clear hh_4
  have hNn_6 : (jNk [0, 1, 2, 3, 4, 5, 6, 7, 9, 10, 11, 12, 13, 14, 15, 16]) G0 G_6 := (hNn_1).tr hN_6
  have hkp_7 := hkp_5.tr hke_6
  have hraw_8n := hke_6.nr hraw_4.lt hraw_3n
  have hraw_8 := hraw_4.kept (hke_6.1 _ hraw_4.lt)
  refine j7_putRF hx hb hown hK hh_6 hB hAp hraw_8 hraw_8n hbr0 (C := RX6) (T := TX6) (N := 4) rfl (i := 1) (by decide) (Nat.le_of_ble_eq_true rfl) hly_8_1 rfl hin2 rfl hlk_15 (ty := (.array .int)) (v := .ref H_4.size) (by decide +kernel) rfl rfl dX6_init_19 (fun H_9 locs_9 hraw_9 hr_9 hh_9 => ?_)
  have hraw_9 : va_at (dC, dI) vwCl (r0, .inr (8, [.ref s.heap.size, .ref H_4.size, .null, .int 0])) H_9 := hraw_9
  have hkp_10 := hkp_7.put hr_9
  clear hh_6
  refine lv_aload_n hx hb dX6_init_22 rfl (lv_at hl 0 rfl) ?_
  refine lv_sipush (v := 16384) hx hb dX6_init_23 (by decide) ?_
  have hsz_11 := hh_9.2.2.2.2.2.1
  have htt_11 := hh_9.2.2.2.2.2.2.1
  refine j7_newiK hx hb hK hh_9 hB (atype := .int) (ty := .int) (htw (.arrayClass .int) (jWr_3 _ (List.mem_of_getElem? (i := 20) rfl))) rfl rfl (fun _ h => h) hB133 1 rfl (by decide) (by decide) hbs (x := 16384) (by decide) (by omega) (fun j => by first | trivial | decide | rfl | exact Or.inl rfl | (refine ⟨?_, ?_⟩ <;> decide)) (by rw [hRc]; omega) (by rw [hRs]; omega) dX6_init_26 (fun H_11 hfr_11 hh_11 => ?_)
  have hh_11 : jSt (dC, dI) B base G0 (va_up G_6 H_9.size (some (133, 16384))) EX6_init s.heap (((0 + 1) + 1) + 1) (((0 + 8192) + 8192) + 16384) [] [] [] H_11 locs_9 := hh_11
  have hN_11 : (jNk [0, 1, 2, 3, 4, 5, 6, 7, 9, 10, 11, 12, 13, 14, 15, 16]) G_6 (va_up G_6 H_9.size (some (133, 16384))) := jNk.new (by decide)
  have hgn_11 : (va_up G_6 H_9.size (some (133, 16384))) H_9.size = some (133, 16384) := jUp_self
  have hle_11 : jLe G_6 (va_up G_6 H_9.size (some (133, 16384))) := jLe.new hh_9.2.1.fresh
  have hke_11 : jKe G_6 (va_up G_6 H_9.size (some (133, 16384))) H_9 H_11 := jKe.new hfr_11
  have hsy_11 : s.heap.size ≤ H_9.size := hh_9.1.1
  generalize (va_up G_6 H_9.size (some (133, 16384))) = G_11 at hN_11 hgn_11 hle_11 hke_11 hh_11
  clear hh_9
  have hNn_11 : (jNk [0, 1, 2, 3, 4, 5, 6, 7, 9, 10, 11, 12, 13, 14, 15, 16]) G0 G_11 := (hNn_6).tr hN_11
  have hkp_12 := hkp_10.tr hke_11
  have hraw_13n := hke_11.nr hraw_9.lt hraw_8n
  have hraw_13 := hraw_9.kept (hke_11.1 _ hraw_9.lt)
  refine j7_putRF hx hb hown hK hh_11 hB hAp hraw_13 hraw_13n hbr0 (C := RX6) (T := TX6) (N := 4) rfl (i := 2) (by decide) (Nat.le_of_ble_eq_true rfl) hly_8_2 rfl hin2 rfl hlk_19 (ty := (.array .int)) (v := .ref H_9.size) (by decide +kernel) rfl rfl dX6_init_28 (fun H_14 locs_14 hraw_14 hr_14 hh_14 => ?_)
  have hraw_14 : va_at (dC, dI) vwCl (r0, .inr (8, [.ref s.heap.size, .ref H_4.size, .ref H_9.size, .int 0])) H_14 := hraw_14
  have hkp_15 := hkp_12.put hr_14
  clear hh_11
  have hle_16 : jLe G_11 (va_up G_11 r0 (some (8, 0))) := jLe.typ hraw_13n
  have hg_17 := ((hle_6).tr hle_11).tr hle_16 _ _ hgn_1
  have hg_18 := (hle_11).tr hle_16 _ _ hgn_6
  have hg_19 := (jLe.rf).tr hle_16 _ _ hgn_11
  have hfa_16 : jRf (va_up G_11 r0 (some (8, 0))) 102 8192 (.ref s.heap.size) ∧ jRf (va_up G_11 r0 (some (8, 0))) 132 8192 (.ref H_4.size) ∧ jRf (va_up G_11 r0 (some (8, 0))) 133 16384 (.ref H_9.size) ∧ jI 0 8192 (.int 0) ∧ True := ⟨⟨_, rfl, hg_17⟩, ⟨_, rfl, hg_18⟩, ⟨_, rfl, hg_19⟩, ⟨_, rfl, by omega, by omega⟩, trivial⟩
  have hh_16 := hh_14.typ (k := 8) (n := 0) hB hraw_13n hbr0 hraw_14.lt (jOb.of (C := RX6) (T := TX6) (N := 4) (F := F8) hB8 rfl hraw_14 (show jFx (F8 0 (va_up G_11 r0 (some (8, 0)))) [.ref s.heap.size, .ref H_4.size, .ref H_9.size, .int 0] from hfa_16))
  have hgn_16 : (va_up G_11 r0 (some (8, 0))) r0 = some (8, 0) := jUp_self
  have hN_16 : (jNk [0, 1, 2, 3, 4, 5, 6, 7, 9, 10, 11, 12, 13, 14, 15, 16]) G_11 (va_up G_11 r0 (some (8, 0))) := jNk.new (by decide)
  have hNn_16 : (jNk [0, 1, 2, 3, 4, 5, 6, 7, 9, 10, 11, 12, 13, 14, 15, 16]) G0 (va_up G_11 r0 (some (8, 0))) := (hNn_11).tr hN_16
  have hkp_20 := hkp_15.typ (t := some (8, 0))
  have hg_21 := (((hle_6).tr hle_11).tr hle_16) _ _ hgn_1
  have hg_22 := ((hle_11).tr hle_16) _ _ hgn_6
  have hg_23 := (hle_16) _ _ hgn_11
  have hh_24 := hh_16.more (P1 := [(r0, 8, 0, .ref s.heap.size), (r0, 8, 1, .ref H_4.size), (r0, 8, 2, .ref H_9.size), (r0, 8, 3, .int 0)]) (jP.cons hgn_16 (jf.raw (C := RX6) (T := TX6) (N := 4) rfl hraw_14 (i := 0) (by decide)) (jP.cons hgn_16 (jf.raw (C := RX6) (T := TX6) (N := 4) rfl hraw_14 (i := 1) (by decide)) (jP.cons hgn_16 (jf.raw (C := RX6) (T := TX6) (N := 4) rfl hraw_14 (i := 2) (by decide)) (jP.cons hgn_16 (jf.raw (C := RX6) (T := TX6) (N := 4) rfl hraw_14 (i := 3) (by decide)) jP.nil))))
  refine va_ldcS hx hb hown rstr22 dX6_init_31 ?_
  have hsz_27 := hh_24.2.2.2.2.2.1
  have htt_27 := hh_24.2.2.2.2.2.2.1
  refine W.room (fun hrc_27 hrs_27 => ?_)
  have hsz_26 := hh_24.2.2.2.2.2.1
  have htt_26 := hh_24.2.2.2.2.2.2.1
  refine W.room (fun hrc_26 hrs_26 => ?_)
  refine vp_callSi (W.runV (As := []) (rest := []) ⟨hx, hb, hml, hown, hts⟩ (wJ0_length_8abf5 l dC dI ca base H_14 str22 135) (cwV 0 hts (jgV (jWr_5 _ (List.mem_of_getElem? (i := 12) rfl)) (jWr_5 _ (List.mem_of_getElem? (i := 13) rfl)) (jWr_5 _ (List.mem_of_getElem? (i := 14) rfl)) (jWr_5 _ (List.mem_of_getElem? (i := 15) rfl)) (jWr_5 _ (List.mem_of_getElem? (i := 16) rfl))) rfl rfl rfl (by decide +kernel) ⟨by rw [← hR]; exact Nat.le_of_ble_eq_true rfl, by rw [← hR]; exact Nat.le_of_ble_eq_true rfl⟩) ⟨fun a U g mk q => by obtain ⟨q0, q1, q2, qK, q9⟩ := q; exact ⟨q0, q1, (q2.moved (Vm.Alike.refl U.vm)), jG.calling g mk a qK, q9⟩, jStr_recv hstr22 hh_24.1, fun U hU hW => ⟨rfl, hU, (hstr22.moved hW.alike).kept hh_24.1.2.1, hG.step hW hU hh_24.1, by omega⟩⟩ rfl rfl hl.1 rfl (lv_room (Nat.le_of_ble_eq_true rfl)) dX6_init_33 ⟨by rw [hRc]; omega, by rw [hRs]; omega⟩) (fun r_25 hr_25 => ?_)
  have hsz_28 := hh_24.2.2.2.2.2.1
  have htt_28 := hh_24.2.2.2.2.2.2.1
  refine j7_newiK hx hb hK hh_24 hB (atype := .int) (ty := .int) (htw (.arrayClass .int) (jWr_3 _ (List.mem_of_getElem? (i := 20) rfl))) rfl rfl (fun _ h => h) hB101 1 rfl (by decide) (by decide) hbs (x := r_25.toInt) rfl (by omega) (fun j => by first | trivial | decide | rfl | exact Or.inl rfl | (refine ⟨?_, ?_⟩ <;> decide)) (by rw [hRc]; omega) (by rw [hRs]; omega) dX6_init_36 (fun H_28 hfr_28 hh_28 => ?_)
  have hh_28 : jSt (dC, dI) B base G0 (va_up (va_up G_11 r0 (some (8, 0))) H_14.size (some (101, (r_25.toInt).toNat))) EX6_init s.heap ((((0 + 1) + 1) + 1) + 1) ((((0 + 8192) + 8192) + 16384) + (r_25.toInt).toNat) [(r0, 8, 0, .ref s.heap.size), (r0, 8, 1, .ref H_4.size), (r0, 8, 2, .ref H_9.size), (r0, 8, 3, .int 0)] [] [] H_28 locs_14 := hh_28
  have hN_28 : (jNk [0, 1, 2, 3, 4, 5, 6, 7, 9, 10, 11, 12, 13, 14, 15, 16]) (va_up G_11 r0 (some (8, 0))) (va_up (va_up G_11 r0 (some (8, 0))) H_14.size (some (101, (r_25.toInt).toNat))) := jNk.new (by decide)
  have hgn_28 : (va_up (va_up G_11 r0 (some (8, 0))) H_14.size (some (101, (r_25.toInt).toNat))) H_14.size = some (101, (r_25.toInt).toNat) := jUp_self
  have hle_28 : jLe (va_up G_11 r0 (some (8, 0))) (va_up (va_up G_11 r0 (some (8, 0))) H_14.size (some (101, (r_25.toInt).toNat))) := jLe.new hh_24.2.1.fresh
  have hke_28 : jKe (va_up G_11 r0 (some (8, 0))) (va_up (va_up G_11 r0 (some (8, 0))) H_14.size (some (101, (r_25.toInt).toNat))) H_14 H_28 := jKe.new hfr_28
  have hsy_28 : s.heap.size ≤ H_14.size := hh_24.1.1
  generalize (va_up (va_up G_11 r0 (some (8, 0))) H_14.size (some (101, (r_25.toInt).toNat))) = G_28 at hN_28 hgn_28 hle_28 hke_28 hh_28
  generalize hnc_28 : (r_25.toInt).toNat = nc_28 at hgn_28 hh_28 ⊢
  clear hh_24
  have hNn_28 : (jNk [0, 1, 2, 3, 4, 5, 6, 7, 9, 10, 11, 12, 13, 14, 15, 16]) G0 G_28 := (hNn_16).tr hN_28
  have hg_29 := hle_28 _ _ hgn_16
  have hg_30 := hle_28 _ _ hg_21
  have hg_31 := hle_28 _ _ hg_22
  have hg_32 := hle_28 _ _ hg_23
  have hkp_33 := hkp_20.tr hke_28
  refine lv_astore_n (lv' := [(1, .ref H_14.size), (0, .ref r0)]) hx hb dX6_init_38 rfl hl (by decide) rfl (fun ls hl => ?_)
  refine lv_iconst (v := 0) hx hb dX6_init_39 (by decide) ?_
  refine lv_istore_n (lv' := [(2, .int 0), (1, .ref H_14.size), (0, .ref r0)]) hx hb dX6_init_40 rfl hl (by decide) rfl (fun ls hl => ?_)
  refine lv_iconst (v := 0) hx hb dX6_init_41 (by decide) ?_
  refine lv_istore_n (lv' := [(3, .int 0), (2, .int 0), (1, .ref H_14.size), (0, .ref r0)]) hx hb dX6_init_42 rfl hl (by decide) rfl (fun ls hl => ?_)
  have L43 : ∀ (N : Nat) (v2_34 : Int32) (v3_34 : Int32) (H_34 : Heap) (locs_34 : List Loc), jSt (dC, dI) B base G0 G_28 EX6_init s.heap ((((0 + 1) + 1) + 1) + 1) ((((0 + 8192) + 8192) + 16384) + nc_28) [(r0, 8, 0, .ref s.heap.size), (r0, 8, 1, .ref H_4.size), (r0, 8, 2, .ref H_9.size)] [] [] H_34 locs_34 → jKx r0 G0 G_28 s.heap H_34 → (0 ≤ v3_34.toInt ∧ v3_34.toInt ≤ 135 ∧ 0 ≤ v2_34.toInt) → (135 - v3_34.toInt : Int) < N → ∀ ls : Array Slot, lv_has ls 4 [(0, .ref r0), (1, .ref H_14.size), (2, .int v2_34), (3, .int v3_34)] → W p l e R s m ([.ref r0] : List Value).toArray below meth c H_34 locs_34 ((((0 + 1) + 1) + 1) + 1) ((((0 + 8192) + 8192) + 16384) + nc_28) Q (F0 m 43 ls []) := by
    intro N
    induction N with
    | zero => intro v2_34 v3_34 H_34 locs_34 hh_34 hkp_34 hi_34 hm; exact absurd hm (by omega)
    | succ N L43 =>
      intro v2_34 v3_34 H_34 locs_34 hh_34 hkp_34 hi_34 hm_34 ls hl
      obtain ⟨hi_34_0, hi_34_1, hi_34_2⟩ := hi_34
      refine lv_iload_n hx hb dX6_init_43 rfl (lv_at hl 3 rfl) ?_
      refine lv_aload_n hx hb dX6_init_44 rfl (lv_at hl 1 rfl) ?_
      refine j7_len hx hb hK hh_34 hB101 1 rfl (by decide) hgn_28 (by omega) dX6_init_45 (fun z_35 hz_35 => ?_)
      refine lv_icmp_ge (tgt := 85) hx hb dX6_init_46 (by decide) (fun c_36 => ?_) (fun c_36 => ?_)
      · skip
        have c_36' : v3_34.toInt ≥ z_35.toInt := jb_ge (rfl) (rfl) c_36
        refine lv_aload_n hx hb dX6_init_85 rfl (lv_at hl 0 rfl) ?_
        refine lv_aload_n hx hb dX6_init_86 rfl (lv_at hl 1 rfl) ?_
        refine lv_iload_n hx hb dX6_init_87 rfl (lv_at hl 2 rfl) ?_
        refine lv_aload_n hx hb dX6_init_88 rfl (lv_at hl 1 rfl) ?_
        refine j7_len hx hb hK hh_34 hB101 1 rfl (by decide) hgn_28 (by omega) dX6_init_89 (fun z_37 hz_37 => ?_)
        refine lv_iconst (v := 1) hx hb dX6_init_90 (by decide) ?_
        have hsz_38 := hh_34.2.2.2.2.2.1
        have htt_38 := hh_34.2.2.2.2.2.2.1
        refine W.room (fun hrc_38 hrs_38 => ?_)
        refine va_calli (A0 := jA base) (H0 := s.heap) (va_runV (As := [.ref H_14.size, .int v2_34, .int z_37, .int 1]) (rest := []) ⟨hx, hb, hml, hown, hts⟩ (uX6_numberOfB l dC dI ca base B hB hAp hB8 hB101 hB102 hB132 hB133 G_28 H_34 r0 H_14.size v2_34 z_37 1 nc_28 s.heap.size H_4.size H_9.size) (cwV 4 hts (jgV (jWr_7 _ (List.mem_of_getElem? (i := 13) rfl)) (jWr_7 _ (List.mem_of_getElem? (i := 14) rfl)) (jWr_7 _ (List.mem_of_getElem? (i := 15) rfl)) (jWr_4 _ (List.mem_of_getElem? (i := 10) rfl)) (jWr_7 _ (List.mem_of_getElem? (i := 16) rfl))) rfl rfl rfl (by decide +kernel) ⟨by rw [← hR]; exact Nat.le_of_ble_eq_true rfl, by rw [← hR]; exact Nat.le_of_ble_eq_true rfl⟩) ⟨fun a U g mk q => by obtain ⟨q0, q1, q2, qK, q10, q11, q12, q13, q14, q15, q16⟩ := q; exact ⟨q0, q1, q2, jG.calling g mk a qK, q10, q11, q12, q13, q14, q15, q16⟩, hh_34.recv (C := RX6) (T := TX6) (N := 4) hB8 rfl (by decide) hg_29 hK, fun U hU hW => ⟨rfl, hU, hh_34.2.1, hG.step hW hU hh_34.1, hg_29, hgn_28, hg_30, hg_31, hg_32, (hh_34.2.2.1.sub (L1 := [(r0, 8, 0, .ref s.heap.size), (r0, 8, 1, .ref H_4.size), (r0, 8, 2, .ref H_9.size)]) [0, 1, 2] rfl), by first | omega | rfl | assumption | decide | exact Or.inl rfl | exact Or.inr rfl | (simp only; omega)⟩⟩ rfl rfl hl.1 rfl (lv_room (Nat.le_of_ble_eq_true rfl)) dX6_init_91 ⟨by rw [hRc]; show _ + 0 ≤ _; omega, by rw [hRs]; show _ + 0 ≤ _; omega⟩) hh_34.1 (fun q _ h => h) (fun q h => h) (fun r_39 u_38 t_38 H_38 locs_38 ht_38 hvm_38 hr_39 hb_38 hz_38 hk_38 hS_38 => ?_)
        rw [ht_38] at hb_38
        obtain ⟨hb_38, hbF_38⟩ := hb_38
        obtain ⟨hb_381, hb_382, hb_383, hb_384, hb_385⟩ := hb_38
        have hh_38 : jSt (dC, dI) B base G0 G_28 EX6_init s.heap ((((0 + 1) + 1) + 1) + 1) ((((0 + 8192) + 8192) + 16384) + nc_28) [(r0, 8, 0, .ref s.heap.size), (r0, 8, 1, .ref H_4.size), (r0, 8, 2, .ref H_9.size)] [] [] H_38 locs_38 := ((hh_34.call hb_381 hb_382 hb_383 hb_384 hS_38 rfl (L1 := [(r0, 8, 0, .ref s.heap.size), (r0, 8, 1, .ref H_4.size), (r0, 8, 2, .ref H_9.size)]) [0, 1, 2] rfl rfl (M1 := []) [] rfl rfl (I1 := []) [] rfl rfl).more hb_385)
        clear hh_34 ht_38 hvm_38 hz_38 hk_38 hS_38 hb_381 hb_382 hb_383 hb_384 hb_385
        have hkp_40 := hkp_34.fl hbF_38 (by intro q h9; simp only [List.mem_cons, List.not_mem_nil, or_false] at h9; rcases h9 with rfl | rfl | rfl | rfl; exact Or.inl rfl; exact Or.inr hsy_1; exact Or.inr hsy_6; exact Or.inr hsy_11)
        obtain ⟨hr_39_0, hr_39_1⟩ := hr_39
        refine lv_pop hx hb dX6_init_94 rfl ?_
        have hsz_41 := hh_38.2.2.2.2.2.1
        have htt_41 := hh_38.2.2.2.2.2.2.1
        refine W.room (fun hrc_41 hrs_41 => ?_)
        refine W.widen (k := LC - s.heap.size) (n := LS - jTot s.heap) (by omega) (by omega) ?_
        rw [hQ]
        exact W.vret hx hb hr (fun t ht hW => ⟨⟨G_28, rfl, trivial, ⟨hh_38.ra (by first | omega | (simp only; omega)) (by first | omega | (simp only; omega)) (M1 := []) [] rfl ht, hNn_28, hg_29, by rw [ht]; exact hkp_40⟩⟩, by rw [ht]; try exact hh_38.1.1, fun q h9 hq => by rw [ht]; try exact hh_38.1.2.1 q h9 hq⟩) hh_38.1.2.2 dX6_init_95
      · skip
        have c_36' : v3_34.toInt < z_35.toInt := jb_ge_n (rfl) (rfl) c_36
        refine lv_aload_n hx hb dX6_init_49 rfl (lv_at hl 1 rfl) ?_
        refine lv_iload_n hx hb dX6_init_50 rfl (lv_at hl 3 rfl) ?_
        refine va_ldcS hx hb hown rstr22 dX6_init_51 ?_
        refine lv_iload_n hx hb dX6_init_53 rfl (lv_at hl 3 rfl) ?_
        have hsz_44 := hh_34.2.2.2.2.2.1
        have htt_44 := hh_34.2.2.2.2.2.2.1
        refine W.room (fun hrc_44 hrs_44 => ?_)
        have hsz_43 := hh_34.2.2.2.2.2.1
        have htt_43 := hh_34.2.2.2.2.2.2.1
        refine W.room (fun hrc_43 hrs_43 => ?_)
        refine vp_callSi (W.runV (As := [.int v3_34]) (rest := [.int v3_34, .ref H_14.size]) ⟨hx, hb, hml, hown, hts⟩ (wJ0_charAt_5068e l dC dI ca base H_34 str22 135 v3_34) (cwV 1 hts (jgV (jWr_6 _ (List.mem_of_getElem? (i := 0) rfl)) (jWr_6 _ (List.mem_of_getElem? (i := 1) rfl)) (jWr_6 _ (List.mem_of_getElem? (i := 2) rfl)) (jWr_5 _ (List.mem_of_getElem? (i := 15) rfl)) (jWr_6 _ (List.mem_of_getElem? (i := 3) rfl))) rfl rfl rfl (by decide +kernel) ⟨by rw [← hR]; exact Nat.le_of_ble_eq_true rfl, by rw [← hR]; exact Nat.le_of_ble_eq_true rfl⟩) ⟨fun a U g mk q => by obtain ⟨q0, q1, q2, qK, q9⟩ := q; exact ⟨q0, q1, (q2.moved (Vm.Alike.refl U.vm)), jG.calling g mk a qK, q9⟩, jStr_recv hstr22 hh_34.1, fun U hU hW => ⟨rfl, hU, (hstr22.moved hW.alike).kept hh_34.1.2.1, hG.step hW hU hh_34.1, ⟨by omega, by omega, by omega⟩⟩⟩ rfl rfl hl.1 rfl (lv_room (Nat.le_of_ble_eq_true rfl)) dX6_init_54 ⟨by rw [hRc]; omega, by rw [hRs]; omega⟩) (fun r_42 hr_42 => ?_)
        refine j7_iastF hx hb hK hh_34 hB hB101 1 rfl (by decide) (by decide) rfl rfl rfl hgn_28 (x := v3_34.toInt) (rfl) (by omega) (trivial) dX6_init_57 (fun H_45 locs_45 hr_45 hh_45 => ?_)
        have hkp_46 := hkp_34.st hsy_28 hr_45
        clear hr_45
        clear hh_34
        refine lv_aload_n hx hb dX6_init_58 rfl (lv_at hl 1 rfl) ?_
        refine lv_iload_n hx hb dX6_init_59 rfl (lv_at hl 3 rfl) ?_
        refine j7_iald hx hb hK hh_45 hB101 1 rfl (by decide) hgn_28 (x := v3_34.toInt) (rfl) (by omega) dX6_init_60 (fun z_47 (hz_47 : True) => ?_)
        refine lv_bipush (v := 32) hx hb dX6_init_61 (by decide) ?_
        refine lv_icmp_ne (tgt := 79) hx hb dX6_init_63 (by decide) (fun c_48 => ?_) (fun c_48 => ?_)
        · skip
          have c_48' : z_47.toInt ≠ 32 := jb_ne (rfl) ((by decide)) c_48
          obtain ⟨z_49, ez_49⟩ : ∃ y : Int32, y = v3_34 + 1 := ⟨_, rfl⟩
          refine lv_iinc (v := z_49) (lv' := [(3, .int z_49), (0, .ref r0), (1, .ref H_14.size), (2, .int v2_34)]) hx hb dX6_init_79 hl (k := 3) rfl (by rw [ez_49]; rfl) (by decide) rfl (fun ls hl => ?_)
          have hz_49 : z_49.toInt = v3_34.toInt + 1 := by rw [ez_49]; exact jb_iadd2 (rfl) (by decide) (by omega)
          refine lv_goto (tgt := 43) hx hb dX6_init_82 (by decide) ?_
          refine W.tight (c2 := ((((0 + 1) + 1) + 1) + 1)) (n2 := ((((0 + 8192) + 8192) + 16384) + nc_28)) hh_45.2.2.2.2.2.1 hh_45.2.2.2.2.2.2.1 ?_
          exact L43 v2_34 z_49 _ _ hh_45 (hkp_46) (by first | omega | (refine ⟨?_, ?_, ?_⟩ <;> (first | omega | rfl | assumption | decide | exact Or.inl rfl | exact Or.inr rfl | (simp only; omega)))) (by omega) _ (lv_sub hl [1, 2, 3, 0] rfl)
        · skip
          have c_48' : z_47.toInt = 32 := jb_ne_n (rfl) ((by decide)) c_48
          refine lv_aload_n hx hb dX6_init_66 rfl (lv_at hl 0 rfl) ?_
          refine lv_aload_n hx hb dX6_init_67 rfl (lv_at hl 1 rfl) ?_
          refine lv_iload_n hx hb dX6_init_68 rfl (lv_at hl 2 rfl) ?_
          refine lv_iload_n hx hb dX6_init_69 rfl (lv_at hl 3 rfl) ?_
          refine lv_iconst (v := 1) hx hb dX6_init_70 (by decide) ?_
          have hsz_50 := hh_45.2.2.2.2.2.1
          have htt_50 := hh_45.2.2.2.2.2.2.1
          refine W.room (fun hrc_50 hrs_50 => ?_)
          refine va_calli (A0 := jA base) (H0 := s.heap) (va_runV (As := [.ref H_14.size, .int v2_34, .int v3_34, .int 1]) (rest := []) ⟨hx, hb, hml, hown, hts⟩ (uX6_numberOfB l dC dI ca base B hB hAp hB8 hB101 hB102 hB132 hB133 G_28 H_45 r0 H_14.size v2_34 v3_34 1 nc_28 s.heap.size H_4.size H_9.size) (cwV 4 hts (jgV (jWr_7 _ (List.mem_of_getElem? (i := 13) rfl)) (jWr_7 _ (List.mem_of_getElem? (i := 14) rfl)) (jWr_7 _ (List.mem_of_getElem? (i := 15) rfl)) (jWr_4 _ (List.mem_of_getElem? (i := 10) rfl)) (jWr_7 _ (List.mem_of_getElem? (i := 16) rfl))) rfl rfl rfl (by decide +kernel) ⟨by rw [← hR]; exact Nat.le_of_ble_eq_true rfl, by rw [← hR]; exact Nat.le_of_ble_eq_true rfl⟩) ⟨fun a U g mk q => by obtain ⟨q0, q1, q2, qK, q10, q11, q12, q13, q14, q15, q16⟩ := q; exact ⟨q0, q1, q2, jG.calling g mk a qK, q10, q11, q12, q13, q14, q15, q16⟩, hh_45.recv (C := RX6) (T := TX6) (N := 4) hB8 rfl (by decide) hg_29 hK, fun U hU hW => ⟨rfl, hU, hh_45.2.1, hG.step hW hU hh_45.1, hg_29, hgn_28, hg_30, hg_31, hg_32, (hh_45.2.2.1.sub (L1 := [(r0, 8, 0, .ref s.heap.size), (r0, 8, 1, .ref H_4.size), (r0, 8, 2, .ref H_9.size)]) [0, 1, 2] rfl), by first | omega | rfl | assumption | decide | exact Or.inl rfl | exact Or.inr rfl | (simp only; omega)⟩⟩ rfl rfl hl.1 rfl (lv_room (Nat.le_of_ble_eq_true rfl)) dX6_init_71 ⟨by rw [hRc]; show _ + 0 ≤ _; omega, by rw [hRs]; show _ + 0 ≤ _; omega⟩) hh_45.1 (fun q _ h => h) (fun q h => h) (fun r_51 u_50 t_50 H_50 locs_50 ht_50 hvm_50 hr_51 hb_50 hz_50 hk_50 hS_50 => ?_)
          rw [ht_50] at hb_50
          obtain ⟨hb_50, hbF_50⟩ := hb_50
          obtain ⟨hb_501, hb_502, hb_503, hb_504, hb_505⟩ := hb_50
          have hh_50 : jSt (dC, dI) B base G0 G_28 EX6_init s.heap ((((0 + 1) + 1) + 1) + 1) ((((0 + 8192) + 8192) + 16384) + nc_28) [(r0, 8, 0, .ref s.heap.size), (r0, 8, 1, .ref H_4.size), (r0, 8, 2, .ref H_9.size)] [] [] H_50 locs_50 := ((hh_45.call hb_501 hb_502 hb_503 hb_504 hS_50 rfl (L1 := [(r0, 8, 0, .ref s.heap.size), (r0, 8, 1, .ref H_4.size), (r0, 8, 2, .ref H_9.size)]) [0, 1, 2] rfl rfl (M1 := []) [] rfl rfl (I1 := []) [] rfl rfl).more hb_505)
          clear hh_45 ht_50 hvm_50 hz_50 hk_50 hS_50 hb_501 hb_502 hb_503 hb_504 hb_505
          have hkp_52 := hkp_46.fl hbF_50 (by intro q h9; simp only [List.mem_cons, List.not_mem_nil, or_false] at h9; rcases h9 with rfl | rfl | rfl | rfl; exact Or.inl rfl; exact Or.inr hsy_1; exact Or.inr hsy_6; exact Or.inr hsy_11)
          obtain ⟨hr_51_0, hr_51_1⟩ := hr_51
          refine lv_pop hx hb dX6_init_74 rfl ?_
          refine lv_iload_n hx hb dX6_init_75 rfl (lv_at hl 3 rfl) ?_
          refine lv_iconst (v := 1) hx hb dX6_init_76 (by decide) ?_
          refine lv_iadd hx hb dX6_init_77 ?_
          refine lv_topi (fun z_53 ez_53 => ?_)
          have hz_53 : z_53.toInt = v3_34.toInt + 1 := by rw [ez_53]; exact jb_iadd2 (rfl) ((by decide)) (by omega)
          refine lv_istore_n (lv' := [(2, .int z_53), (0, .ref r0), (1, .ref H_14.size), (3, .int v3_34)]) hx hb dX6_init_78 rfl hl (by decide) rfl (fun ls hl => ?_)
          obtain ⟨z_54, ez_54⟩ : ∃ y : Int32, y = v3_34 + 1 := ⟨_, rfl⟩
          refine lv_iinc (v := z_54) (lv' := [(3, .int z_54), (2, .int z_53), (0, .ref r0), (1, .ref H_14.size)]) hx hb dX6_init_79 hl (k := 3) rfl (by rw [ez_54]; rfl) (by decide) rfl (fun ls hl => ?_)
          have hz_54 : z_54.toInt = v3_34.toInt + 1 := by rw [ez_54]; exact jb_iadd2 (rfl) (by decide) (by omega)
          refine lv_goto (tgt := 43) hx hb dX6_init_82 (by decide) ?_
          refine W.tight (c2 := ((((0 + 1) + 1) + 1) + 1)) (n2 := ((((0 + 8192) + 8192) + 16384) + nc_28)) hh_50.2.2.2.2.2.1 hh_50.2.2.2.2.2.2.1 ?_
          exact L43 z_53 z_54 _ _ hh_50 (hkp_52) (by first | omega | (refine ⟨?_, ?_, ?_⟩ <;> (first | omega | rfl | assumption | decide | exact Or.inl rfl | exact Or.inr rfl | (simp only; omega)))) (by omega) _ (lv_sub hl [2, 3, 1, 0] rfl)
  refine W.tight (c2 := ((((0 + 1) + 1) + 1) + 1)) (n2 := ((((0 + 8192) + 8192) + 16384) + nc_28)) hh_28.2.2.2.2.2.1 hh_28.2.2.2.2.2.2.1 ?_
  exact L43 (135 - (0 : Int32).toInt : Int).toNat.succ 0 0 _ _ (hh_28.sub (L1 := [(r0, 8, 0, .ref s.heap.size), (r0, 8, 1, .ref H_4.size), (r0, 8, 2, .ref H_9.size)]) [0, 1, 2] rfl (M1 := []) [] rfl (I1 := []) [] rfl) (hkp_33) (by first | omega | (refine ⟨?_, ?_, ?_⟩ <;> (first | omega | rfl | assumption | decide | exact Or.inl rfl | exact Or.inr rfl | (simp only; omega)))) (by omega) _ (lv_sub hl [3, 2, 1, 0] rfl)
end
section
theorem dX5_init_0 : decode cX5_init 0 = .ok (.aload_n 0, 1) := by decide +kernel
theorem dX5_init_1 : decode cX5_init 1 = .ok (.invokespecial 3, 3) := by decide +kernel
theorem dX5_init_4 : decode cX5_init 4 = .ok (.aload_n 0, 1) := by decide +kernel
theorem dX5_init_5 : decode cX5_init 5 = .ok (.new 9, 3) := by decide +kernel
theorem dX5_init_8 : decode cX5_init 8 = .ok (.dup, 1) := by decide +kernel
theorem dX5_init_9 : decode cX5_init 9 = .ok (.invokespecial 11, 3) := by decide +kernel
theorem dX5_init_12 : decode cX5_init 12 = .ok (.putfield 12, 3) := by decide +kernel
theorem dX5_init_15 : decode cX5_init 15 = .ok (.aload_n 0, 1) := by decide +kernel
theorem dX5_init_16 : decode cX5_init 16 = .ok (.new 18, 3) := by decide +kernel
theorem dX5_init_19 : decode cX5_init 19 = .ok (.dup, 1) := by decide +kernel
theorem dX5_init_20 : decode cX5_init 20 = .ok (.aload_n 0, 1) := by decide +kernel
theorem dX5_init_21 : decode cX5_init 21 = .ok (.getfield 12, 3) := by decide +kernel
theorem dX5_init_24 : decode cX5_init 24 = .ok (.invokespecial 20, 3) := by decide +kernel
theorem dX5_init_27 : decode cX5_init 27 = .ok (.putfield 23, 3) := by decide +kernel
theorem dX5_init_30 : decode cX5_init 30 = .ok (.aload_n 0, 1) := by decide +kernel
theorem dX5_init_31 : decode cX5_init 31 = .ok (.new 27, 3) := by decide +kernel
theorem dX5_init_34 : decode cX5_init 34 = .ok (.dup, 1) := by decide +kernel
theorem dX5_init_35 : decode cX5_init 35 = .ok (.invokespecial 29, 3) := by decide +kernel
theorem dX5_init_38 : decode cX5_init 38 = .ok (.putfield 30, 3) := by decide +kernel
theorem dX5_init_41 : decode cX5_init 41 = .ok (.aload_n 0, 1) := by decide +kernel
theorem dX5_init_42 : decode cX5_init 42 = .ok (.bipush 13, 2) := by decide +kernel
theorem dX5_init_44 : decode cX5_init 44 = .ok (.newarray .int, 2) := by decide +kernel
theorem dX5_init_46 : decode cX5_init 46 = .ok (.putfield 34, 3) := by decide +kernel
theorem dX5_init_49 : decode cX5_init 49 = .ok (.aload_n 0, 1) := by decide +kernel
theorem dX5_init_50 : decode cX5_init 50 = .ok (.bipush 13, 2) := by decide +kernel
theorem dX5_init_52 : decode cX5_init 52 = .ok (.newarray .int, 2) := by decide +kernel
theorem dX5_init_54 : decode cX5_init 54 = .ok (.putfield 38, 3) := by decide +kernel
theorem dX5_init_57 : decode cX5_init 57 = .ok (.aload_n 0, 1) := by decide +kernel
theorem dX5_init_58 : decode cX5_init 58 = .ok (.iconst 1, 1) := by decide +kernel
theorem dX5_init_59 : decode cX5_init 59 = .ok (.newarray .int, 2) := by decide +kernel
theorem dX5_init_61 : decode cX5_init 61 = .ok (.putfield 41, 3) := by decide +kernel
theorem dX5_init_64 : decode cX5_init 64 = .ok (.aload_n 0, 1) := by decide +kernel
theorem dX5_init_65 : decode cX5_init 65 = .ok (.bipush 13, 2) := by decide +kernel
theorem dX5_init_67 : decode cX5_init 67 = .ok (.newarray .int, 2) := by decide +kernel
theorem dX5_init_69 : decode cX5_init 69 = .ok (.putfield 44, 3) := by decide +kernel
theorem dX5_init_72 : decode cX5_init 72 = .ok (.aload_n 0, 1) := by decide +kernel
theorem dX5_init_73 : decode cX5_init 73 = .ok (.bipush 13, 2) := by decide +kernel
theorem dX5_init_75 : decode cX5_init 75 = .ok (.newarray .int, 2) := by decide +kernel
theorem dX5_init_77 : decode cX5_init 77 = .ok (.putfield 47, 3) := by decide +kernel
theorem dX5_init_80 : decode cX5_init 80 = .ok (.aload_n 0, 1) := by decide +kernel
theorem dX5_init_81 : decode cX5_init 81 = .ok (.iconst 1, 1) := by decide +kernel
theorem dX5_init_82 : decode cX5_init 82 = .ok (.newarray .int, 2) := by decide +kernel
theorem dX5_init_84 : decode cX5_init 84 = .ok (.putfield 50, 3) := by decide +kernel
theorem dX5_init_87 : decode cX5_init 87 = .ok (.aload_n 0, 1) := by decide +kernel
theorem dX5_init_88 : decode cX5_init 88 = .ok (.bipush 6, 2) := by decide +kernel
theorem dX5_init_90 : decode cX5_init 90 = .ok (.anewarray 53, 3) := by decide +kernel
theorem dX5_init_93 : decode cX5_init 93 = .ok (.putfield 55, 3) := by decide +kernel
theorem dX5_init_96 : decode cX5_init 96 = .ok (.return_, 1) := by decide +kernel
theorem dX10_init_0 : decode cX10_init 0 = .ok (.aload_n 0, 1) := by decide +kernel
theorem dX10_init_1 : decode cX10_init 1 = .ok (.invokespecial 3, 3) := by decide +kernel
theorem dX10_init_4 : decode cX10_init 4 = .ok (.aload_n 0, 1) := by decide +kernel
theorem dX10_init_5 : decode cX10_init 5 = .ok (.sipush 1500, 3) := by decide +kernel
theorem dX10_init_8 : decode cX10_init 8 = .ok (.newarray .int, 2) := by decide +kernel
theorem dX10_init_10 : decode cX10_init 10 = .ok (.putfield 9, 3) := by decide +kernel
theorem dX10_init_13 : decode cX10_init 13 = .ok (.aload_n 0, 1) := by decide +kernel
theorem dX10_init_14 : decode cX10_init 14 = .ok (.sipush 1500, 3) := by decide +kernel
theorem dX10_init_17 : decode cX10_init 17 = .ok (.newarray .int, 2) := by decide +kernel
theorem dX10_init_19 : decode cX10_init 19 = .ok (.putfield 15, 3) := by decide +kernel
theorem dX10_init_22 : decode cX10_init 22 = .ok (.aload_n 0, 1) := by decide +kernel
theorem dX10_init_23 : decode cX10_init 23 = .ok (.iconst 3, 1) := by decide +kernel
theorem dX10_init_24 : decode cX10_init 24 = .ok (.newarray .int, 2) := by decide +kernel
theorem dX10_init_26 : decode cX10_init 26 = .ok (.putfield 18, 3) := by decide +kernel
theorem dX10_init_29 : decode cX10_init 29 = .ok (.aload_n 0, 1) := by decide +kernel
theorem dX10_init_30 : decode cX10_init 30 = .ok (.sipush 3000, 3) := by decide +kernel
theorem dX10_init_33 : decode cX10_init 33 = .ok (.newarray .int, 2) := by decide +kernel
theorem dX10_init_35 : decode cX10_init 35 = .ok (.putfield 21, 3) := by decide +kernel
theorem dX10_init_38 : decode cX10_init 38 = .ok (.aload_n 0, 1) := by decide +kernel
theorem dX10_init_39 : decode cX10_init 39 = .ok (.aload_n 1, 1) := by decide +kernel
theorem dX10_init_40 : decode cX10_init 40 = .ok (.putfield 24, 3) := by decide +kernel
theorem dX10_init_43 : decode cX10_init 43 = .ok (.return_, 1) := by decide +kernel
def EX10_init : List (Nat × Nat) := []
def EX5_init : List (Nat × Nat) := [(8, 3), (101, 0), (102, 0), (132, 0), (133, 0)]
set_option maxHeartbeats 4000000 in
set_option maxRecDepth 20000 in
theorem uX10_init (l : Launch) (dC : Nat → ClassId) (dI : Nat → Nat → Nat) (ca : Nat → ClassId) (base : Nat) (B : jF) (hB : jBok B) (hAp : jAp (dC, dI)) (hB8 : ∀ n G a H, B 8 n G a H ↔ jOb (dC, dI) 8 4 (F8 n G) a H) (hB12 : ∀ n G a H, B 12 n G a H ↔ jOb (dC, dI) 12 11 (F12b n G) a H) (hB101 : ∀ n G a H, B 101 n G a H ↔ jAr (dC, dI) (ca 1) (fun j z => True) n a H) (hB280 : ∀ n G a H, B 280 n G a H ↔ jAr (dC, dI) (ca 1) (fun j z => -1 ≤ z.toInt) n a H) (hB292 : ∀ n G a H, B 292 n G a H ↔ jAr (dC, dI) (ca 1) (fun j z => 0 ≤ z.toInt ∧ z.toInt ≤ 8191) n a H) (hB293 : ∀ n G a H, B 293 n G a H ↔ jAr (dC, dI) (ca 1) (fun j z => -1 ≤ z.toInt ∧ z.toInt ≤ 8191) n a H) (G0 : jT) (H0 : Heap) (r0 : Nat) (r1 : Nat) (LC LS : Nat) : Met l yX10_init (jw yX10_init cX10_init 2 none) ({ frames := 1, cells := LC - H0.size, slots := LS - jTot H0, locals := 31 }) (va_Pc [.ref r0, .ref r1] (fun U => U.heap = H0 ∧ jX B base G0 [] H0 ∧ jG dC dI ca base U ∧ G0 r1 = some (8, 0) ∧ va_at (dC, dI) vwCl (r0, .inr (12, [.null, .null, .null, .int 0, .int 0, .int 0, .null, .int 0, .int 0, .null, .int 0])) H0 ∧ (∀ t, G0 r0 ≠ some t) ∧ base ≤ r0 ∧ jP (dC, dI) G0 H0 [] ∧ H0.size + 4 ≤ LC ∧ jTot H0 + 6003 ≤ LS ∧ True)) (va_Qv (S := jT) (fun u => True) (fun u t => jRa (dC, dI) B base G0 u EX10_init H0 (4) (6003) [] t.heap ∧ (jNk [0, 1, 2, 3, 4, 5, 6, 7, 8, 9, 10, 11, 13, 14, 15, 16]) G0 u ∧ u r0 = some (12, 0) ∧ jKx r0 G0 u H0 t.heap) (jA base)) (LC - H0.size) (LS - jTot H0) (jA base) := by
  refine Met.ofW (cc := cX10_init) (maxL := 2) (ret := none) (by decide) rfl ?_
  intro p e s m args below meth c s₁ Bd hml hv
  obtain ⟨rfl, hH0, hX, hG, hg_r1, hraw0, hnr0, hbr0, hP0, hLC0, hLS0, hp0⟩ := hv
  have hK := hG.1
  have hx := Bd.exec
  have hb := Bd.bytes
  have hr := Bd.returns
  have hts := atoms_spec (ws := (jw yX10_init cX10_init 2 none)) Bd.pre
  have htw : ∀ w ∈ jWl, w.before _ s = true := fun w h => hts w (List.mem_cons_of_mem _ h)
  have hown : s.vm.findClass RX10 = some m.cls := findClass_of_methodNamed Bd.named
  have hlocks := Bd.notSynchronized
  obtain ⟨Q, hQ⟩ : ∃ Q, Q = MQ below (va_Qv (S := jT) (fun u => True) (fun u t => jRa (dC, dI) B base G0 u EX10_init H0 (4) (6003) [] t.heap ∧ (jNk [0, 1, 2, 3, 4, 5, 6, 7, 8, 9, 10, 11, 13, 14, 15, 16]) G0 u ∧ u r0 = some (12, 0) ∧ jKx r0 G0 u H0 t.heap) (jA base)) ([.ref r0, .ref r1] : List Value).toArray s (LC - H0.size) (LS - jTot H0) (jA base) := ⟨_, rfl⟩
  rw [← hQ]
  have hl := lv_entry ([.ref r0, .ref r1]) (n := 2) (Nat.le_of_ble_eq_true rfl)
  rw [lg_entry_eq]
  generalize (lg_sl ([.ref r0, .ref r1]) ++ List.replicate (2 - (lg_sl ([.ref r0, .ref r1])).length) Slot.unset).toArray = ls at hl ⊢
  have hl : lv_has ls 2 [(0, .ref r0), (1, .ref r1)] := hl
  generalize hR : (headSpec (jw yX10_init cX10_init 2 none) ({ frames := 1, cells := LC - H0.size, slots := LS - jTot H0, locals := 31 })).room = R
  subst hH0
  have hh : jSt (dC, dI) B base G0 G0 EX10_init s.heap 0 0 [] [] [] s.heap [] := jSt.start hX hP0 jMc.nil jIs.nil
  clear hX hP0
  have hk0 : (0 : Int32).toInt = 0 := by decide
  have hk1 : (1 : Int32).toInt = 1 := by decide
  have hk3 : (3 : Int32).toInt = 3 := by decide
  have hk1500 : (1500 : Int32).toInt = 1500 := by decide
  have hk3000 : (3000 : Int32).toInt = 3000 := by decide
  have hly_12_0 := htw (u_lay RX10 TX10 0) (jWc_wsX100 _ (u_in_lay (by decide)))
  have hly_12_1 := htw (u_lay RX10 TX10 1) (jWc_wsX100 _ (u_in_lay (by decide)))
  have hly_12_2 := htw (u_lay RX10 TX10 2) (jWc_wsX100 _ (u_in_lay (by decide)))
  have hly_12_6 := htw (u_lay RX10 TX10 6) (jWc_wsX100 _ (u_in_lay (by decide)))
  have hly_12_9 := htw (u_lay RX10 TX10 9) (jWc_wsX100 _ (u_in_lay (by decide)))
  have hlk_9 := (htw (.fieldLink RX10 9 "ProofServer$Syntax" "kinds" "[I") (jWr_8 _ (List.mem_of_getElem? (i := 8) rfl)))
  have hlk_15 := (htw (.fieldLink RX10 15 "ProofServer$Syntax" "values" "[I") (jWr_8 _ (List.mem_of_getElem? (i := 9) rfl)))
  have hlk_18 := (htw (.fieldLink RX10 18 "ProofServer$Syntax" "told" "[I") (jWr_8 _ (List.mem_of_getElem? (i := 10) rfl)))
  have hlk_21 := (htw (.fieldLink RX10 21 "ProofServer$Syntax" "nodes" "[I") (jWr_8 _ (List.mem_of_getElem? (i := 11) rfl)))
  have hlk_24 := (htw (.fieldLink RX10 24 "ProofServer$Syntax" "names" "LProofServer$Names;") (jWr_8 _ (List.mem_of_getElem? (i := 12) rfl)))
  have hbs : base ≤ s.heap.size := Nat.le_of_lt (Nat.lt_of_le_of_lt hbr0 hraw0.lt)
  have hRc : R.cells = LC - s.heap.size := by rw [← hR]; rfl
  have hRs : R.slots = LS - jTot s.heap := by rw [← hR]; rfl
  have hin2 : meth.name = "<init>" := (name_of_methodNamed Bd.named Bd.method).1
  have hkp : jKx r0 G0 G0 s.heap s.heap := jKx.rf
  refine lv_aload_n hx hb dX10_init_0 rfl (lv_at hl 0 rfl) ?_
  refine W.objInit hx hb hown (htw (.methodLink RX10 3 objectInit) (jWr_8 _ (List.mem_of_getElem? (i := 7) rfl))) (htw (.instanceMethod objectInit) (jWr_1 _ (List.mem_of_getElem? (i := 10) rfl))) (htw (.code objectInit ⟨#[0xb1]⟩ 1 none) (jWr_1 _ (List.mem_of_getElem? (i := 11) rfl))) rfl (by rw [hml]; exact hl.1) rfl dX10_init_1 (by rw [← hR]; exact Nat.le_of_ble_eq_true rfl) (by rw [← hR]; exact Nat.le_of_ble_eq_true rfl) ?_
  refine W.eq (g2 := F0 m 4 ls []) rfl ?_
  refine lv_aload_n hx hb dX10_init_4 rfl (lv_at hl 0 rfl) ?_
  refine lv_sipush (v := 1500) hx hb dX10_init_5 (by decide) ?_
  have hsz_1 := hh.2.2.2.2.2.1
  have htt_1 := hh.2.2.2.2.2.2.1
  refine j7_newiK hx hb hK hh hB (atype := .int) (ty := .int) (htw (.arrayClass .int) (jWr_3 _ (List.mem_of_getElem? (i := 20) rfl))) rfl rfl (fun _ h => h) hB101 1 rfl (by decide) (by decide) hbs (x := 1500) (by decide) (by omega) (fun j => by first | trivial | decide | rfl | exact Or.inl rfl | (refine ⟨?_, ?_⟩ <;> decide)) (by rw [hRc]; omega) (by rw [hRs]; omega) dX10_init_8 (fun H_1 hfr_1 hh_1 => ?_)
  have hh_1 : jSt (dC, dI) B base G0 (va_up G0 s.heap.size (some (101, 1500))) EX10_init s.heap (0 + 1) (0 + 1500) [] [] [] H_1 [] := hh_1
  have hN_1 : (jNk [0, 1, 2, 3, 4, 5, 6, 7, 8, 9, 10, 11, 13, 14, 15, 16]) G0 (va_up G0 s.heap.size (some (101, 1500))) := jNk.new (by decide)
  have hgn_1 : (va_up G0 s.heap.size (some (101, 1500))) s.heap.size = some (101, 1500) := jUp_self
  have hle_1 : jLe G0 (va_up G0 s.heap.size (some (101, 1500))) := jLe.new hh.2.1.fresh
  have hke_1 : jKe G0 (va_up G0 s.heap.size (some (101, 1500))) s.heap H_1 := jKe.new hfr_1
  have hsy_1 : s.heap.size ≤ s.heap.size := hh.1.1
  generalize (va_up G0 s.heap.size (some (101, 1500))) = G_1 at hN_1 hgn_1 hle_1 hke_1 hh_1
  clear hh
  have hNn_1 : (jNk [0, 1, 2, 3, 4, 5, 6, 7, 8, 9, 10, 11, 13, 14, 15, 16]) G0 G_1 := (jNk.rf).tr hN_1
  have hg_2 := hle_1 _ _ hg_r1
  have hkp_3 := hkp.tr hke_1
  have hraw_4n := hke_1.nr hraw0.lt hnr0
  have hraw_4 := hraw0.kept (hke_1.1 _ hraw0.lt)
  refine j7_putRF hx hb hown hK hh_1 hB hAp hraw_4 hraw_4n hbr0 (C := RX10) (T := TX10) (N := 11) rfl (i := 1) (by decide) (Nat.le_of_ble_eq_true rfl) hly_12_1 rfl hin2 rfl hlk_9 (ty := (.array .int)) (v := .ref s.heap.size) (by decide +kernel) rfl rfl dX10_init_10 (fun H_5 locs_5 hraw_5 hr_5 hh_5 => ?_)
  have hraw_5 : va_at (dC, dI) vwCl (r0, .inr (12, [.null, .ref s.heap.size, .null, .int 0, .int 0, .int 0, .null, .int 0, .int 0, .null, .int 0])) H_5 := hraw_5
  have hkp_6 := hkp_3.put hr_5
  clear hh_1
  refine lv_aload_n hx hb dX10_init_13 rfl (lv_at hl 0 rfl) ?_
  refine lv_sipush (v := 1500) hx hb dX10_init_14 (by decide) ?_
  have hsz_7 := hh_5.2.2.2.2.2.1
  have htt_7 := hh_5.2.2.2.2.2.2.1
  refine j7_newiK hx hb hK hh_5 hB (atype := .int) (ty := .int) (htw (.arrayClass .int) (jWr_3 _ (List.mem_of_getElem? (i := 20) rfl))) rfl rfl (fun _ h => h) hB293 1 rfl (by decide) (by decide) hbs (x := 1500) (by decide) (by omega) (fun j => by first | trivial | decide | rfl | exact Or.inl rfl | (refine ⟨?_, ?_⟩ <;> decide)) (by rw [hRc]; omega) (by rw [hRs]; omega) dX10_init_17 (fun H_7 hfr_7 hh_7 => ?_)
  have hh_7 : jSt (dC, dI) B base G0 (va_up G_1 H_5.size (some (293, 1500))) EX10_init s.heap ((0 + 1) + 1) ((0 + 1500) + 1500) [] [] [] H_7 locs_5 := hh_7
  have hN_7 : (jNk [0, 1, 2, 3, 4, 5, 6, 7, 8, 9, 10, 11, 13, 14, 15, 16]) G_1 (va_up G_1 H_5.size (some (293, 1500))) := jNk.new (by decide)
  have hgn_7 : (va_up G_1 H_5.size (some (293, 1500))) H_5.size = some (293, 1500) := jUp_self
  have hle_7 : jLe G_1 (va_up G_1 H_5.size (some (293, 1500))) := jLe.new hh_5.2.1.fresh
  have hke_7 : jKe G_1 (va_up G_1 H_5.size (some (293, 1500))) H_5 H_7 := jKe.new hfr_7
  have hsy_7 : s.heap.size ≤ H_5.size := hh_5.1.1
  generalize (va_up G_1 H_5.size (some (293, 1500))) = G_7 at hN_7 hgn_7 hle_7 hke_7 hh_7
  clear hh_5
  have hNn_7 : (jNk [0, 1, 2, 3, 4, 5, 6, 7, 8, 9, 10, 11, 13, 14, 15, 16]) G0 G_7 := (hNn_1).tr hN_7
  have hg_8 := hle_7 _ _ hg_2
  have hkp_9 := hkp_6.tr hke_7
  have hraw_10n := hke_7.nr hraw_5.lt hraw_4n
  have hraw_10 := hraw_5.kept (hke_7.1 _ hraw_5.lt)
  refine j7_putRF hx hb hown hK hh_7 hB hAp hraw_10 hraw_10n hbr0 (C := RX10) (T := TX10) (N := 11) rfl (i := 2) (by decide) (Nat.le_of_ble_eq_true rfl) hly_12_2 rfl hin2 rfl hlk_15 (ty := (.array .int)) (v := .ref H_5.size) (by decide +kernel) rfl rfl dX10_init_19 (fun H_11 locs_11 hraw_11 hr_11 hh_11 => ?_)
  have hraw_11 : va_at (dC, dI) vwCl (r0, .inr (12, [.null, .ref s.heap.size, .ref H_5.size, .int 0, .int 0, .int 0, .null, .int 0, .int 0, .null, .int 0])) H_11 := hraw_11
  have hkp_12 := hkp_9.put hr_11
  clear hh_7
  refine lv_aload_n hx hb dX10_init_22 rfl (lv_at hl 0 rfl) ?_
  refine lv_iconst (v := 3) hx hb dX10_init_23 (by decide) ?_
  have hsz_13 := hh_11.2.2.2.2.2.1
  have htt_13 := hh_11.2.2.2.2.2.2.1
  refine j7_newiK hx hb hK hh_11 hB (atype := .int) (ty := .int) (htw (.arrayClass .int) (jWr_3 _ (List.mem_of_getElem? (i := 20) rfl))) rfl rfl (fun _ h => h) hB292 1 rfl (by decide) (by decide) hbs (x := 3) (by decide) (by omega) (fun j => by first | trivial | decide | rfl | exact Or.inl rfl | (refine ⟨?_, ?_⟩ <;> decide)) (by rw [hRc]; omega) (by rw [hRs]; omega) dX10_init_24 (fun H_13 hfr_13 hh_13 => ?_)
  have hh_13 : jSt (dC, dI) B base G0 (va_up G_7 H_11.size (some (292, 3))) EX10_init s.heap (((0 + 1) + 1) + 1) (((0 + 1500) + 1500) + 3) [] [] [] H_13 locs_11 := hh_13
  have hN_13 : (jNk [0, 1, 2, 3, 4, 5, 6, 7, 8, 9, 10, 11, 13, 14, 15, 16]) G_7 (va_up G_7 H_11.size (some (292, 3))) := jNk.new (by decide)
  have hgn_13 : (va_up G_7 H_11.size (some (292, 3))) H_11.size = some (292, 3) := jUp_self
  have hle_13 : jLe G_7 (va_up G_7 H_11.size (some (292, 3))) := jLe.new hh_11.2.1.fresh
  have hke_13 : jKe G_7 (va_up G_7 H_11.size (some (292, 3))) H_11 H_13 := jKe.new hfr_13
  have hsy_13 : s.heap.size ≤ H_11.size := hh_11.1.1
  generalize (va_up G_7 H_11.size (some (292, 3))) = G_13 at hN_13 hgn_13 hle_13 hke_13 hh_13
  clear hh_11
  have hNn_13 : (jNk [0, 1, 2, 3, 4, 5, 6, 7, 8, 9, 10, 11, 13, 14, 15, 16]) G0 G_13 := (hNn_7).tr hN_13
  have hg_14 := hle_13 _ _ hg_8
  have hkp_15 := hkp_12.tr hke_13
  have hraw_16n := hke_13.nr hraw_11.lt hraw_10n
  have hraw_16 := hraw_11.kept (hke_13.1 _ hraw_11.lt)
  refine j7_putRF hx hb hown hK hh_13 hB hAp hraw_16 hraw_16n hbr0 (C := RX10) (T := TX10) (N := 11) rfl (i := 6) (by decide) (Nat.le_of_ble_eq_true rfl) hly_12_6 rfl hin2 rfl hlk_18 (ty := (.array .int)) (v := .ref H_11.size) (by decide +kernel) rfl rfl dX10_init_26 (fun H_17 locs_17 hraw_17 hr_17 hh_17 => ?_)
  have hraw_17 : va_at (dC, dI) vwCl (r0, .inr (12, [.null, .ref s.heap.size, .ref H_5.size, .int 0, .int 0, .int 0, .ref H_11.size, .int 0, .int 0, .null, .int 0])) H_17 := hraw_17
  have hkp_18 := hkp_15.put hr_17
  clear hh_13
  refine lv_aload_n hx hb dX10_init_29 rfl (lv_at hl 0 rfl) ?_
  refine lv_sipush (v := 3000) hx hb dX10_init_30 (by decide) ?_
  have hsz_19 := hh_17.2.2.2.2.2.1
  have htt_19 := hh_17.2.2.2.2.2.2.1
  refine j7_newiK hx hb hK hh_17 hB (atype := .int) (ty := .int) (htw (.arrayClass .int) (jWr_3 _ (List.mem_of_getElem? (i := 20) rfl))) rfl rfl (fun _ h => h) hB280 1 rfl (by decide) (by decide) hbs (x := 3000) (by decide) (by omega) (fun j => by first | trivial | decide | rfl | exact Or.inl rfl | (refine ⟨?_, ?_⟩ <;> decide)) (by rw [hRc]; omega) (by rw [hRs]; omega) dX10_init_33 (fun H_19 hfr_19 hh_19 => ?_)
  have hh_19 : jSt (dC, dI) B base G0 (va_up G_13 H_17.size (some (280, 3000))) EX10_init s.heap ((((0 + 1) + 1) + 1) + 1) ((((0 + 1500) + 1500) + 3) + 3000) [] [] [] H_19 locs_17 := hh_19
  have hN_19 : (jNk [0, 1, 2, 3, 4, 5, 6, 7, 8, 9, 10, 11, 13, 14, 15, 16]) G_13 (va_up G_13 H_17.size (some (280, 3000))) := jNk.new (by decide)
  have hgn_19 : (va_up G_13 H_17.size (some (280, 3000))) H_17.size = some (280, 3000) := jUp_self
  have hle_19 : jLe G_13 (va_up G_13 H_17.size (some (280, 3000))) := jLe.new hh_17.2.1.fresh
  have hke_19 : jKe G_13 (va_up G_13 H_17.size (some (280, 3000))) H_17 H_19 := jKe.new hfr_19
  have hsy_19 : s.heap.size ≤ H_17.size := hh_17.1.1
  generalize (va_up G_13 H_17.size (some (280, 3000))) = G_19 at hN_19 hgn_19 hle_19 hke_19 hh_19
  clear hh_17
  have hNn_19 : (jNk [0, 1, 2, 3, 4, 5, 6, 7, 8, 9, 10, 11, 13, 14, 15, 16]) G0 G_19 := (hNn_13).tr hN_19
  have hg_20 := hle_19 _ _ hg_14
  have hkp_21 := hkp_18.tr hke_19
  have hraw_22n := hke_19.nr hraw_17.lt hraw_16n
  have hraw_22 := hraw_17.kept (hke_19.1 _ hraw_17.lt)
  refine j7_putRF hx hb hown hK hh_19 hB hAp hraw_22 hraw_22n hbr0 (C := RX10) (T := TX10) (N := 11) rfl (i := 9) (by decide) (Nat.le_of_ble_eq_true rfl) hly_12_9 rfl hin2 rfl hlk_21 (ty := (.array .int)) (v := .ref H_17.size) (by decide +kernel) rfl rfl dX10_init_35 (fun H_23 locs_23 hraw_23 hr_23 hh_23 => ?_)
  have hraw_23 : va_at (dC, dI) vwCl (r0, .inr (12, [.null, .ref s.heap.size, .ref H_5.size, .int 0, .int 0, .int 0, .ref H_11.size, .int 0, .int 0, .ref H_17.size, .int 0])) H_23 := hraw_23
  have hkp_24 := hkp_21.put hr_23
  clear hh_19
  refine lv_aload_n hx hb dX10_init_38 rfl (lv_at hl 0 rfl) ?_
  refine lv_aload_n hx hb dX10_init_39 rfl (lv_at hl 1 rfl) ?_
  refine j7_putRF hx hb hown hK hh_23 hB hAp hraw_23 hraw_22n hbr0 (C := RX10) (T := TX10) (N := 11) rfl (i := 0) (by decide) (Nat.le_of_ble_eq_true rfl) hly_12_0 rfl hin2 rfl hlk_24 (ty := (.object "ProofServer$Names")) (v := .ref r1) (by decide +kernel) rfl rfl dX10_init_40 (fun H_25 locs_25 hraw_25 hr_25 hh_25 => ?_)
  have hraw_25 : va_at (dC, dI) vwCl (r0, .inr (12, [.ref r1, .ref s.heap.size, .ref H_5.size, .int 0, .int 0, .int 0, .ref H_11.size, .int 0, .int 0, .ref H_17.size, .int 0])) H_25 := hraw_25
  have hkp_26 := hkp_24.put hr_25
  clear hh_23
  have hsz_27 := hh_25.2.2.2.2.2.1
  have htt_27 := hh_25.2.2.2.2.2.2.1
  refine W.room (fun hrc_27 hrs_27 => ?_)
  refine W.widen (k := LC - s.heap.size) (n := LS - jTot s.heap) (by omega) (by omega) ?_
  rw [hQ]
  have hle_28 : jLe G_19 (va_up G_19 r0 (some (12, 0))) := jLe.typ hraw_22n
  have hg_29 := hle_28 _ _ hg_20
  have hg_30 := (jLe.rf).tr hle_28 _ _ hg_20
  have hg_31 := (((hle_7).tr hle_13).tr hle_19).tr hle_28 _ _ hgn_1
  have hg_32 := ((hle_13).tr hle_19).tr hle_28 _ _ hgn_7
  have hg_33 := (hle_19).tr hle_28 _ _ hgn_13
  have hg_34 := (jLe.rf).tr hle_28 _ _ hgn_19
  have hfa_28 : jRf (va_up G_19 r0 (some (12, 0))) 8 0 (.ref r1) ∧ jRf (va_up G_19 r0 (some (12, 0))) 101 1500 (.ref s.heap.size) ∧ jRf (va_up G_19 r0 (some (12, 0))) 293 1500 (.ref H_5.size) ∧ jI 0 1500 (.int 0) ∧ jI 0 1503 (.int 0) ∧ jIa (.int 0) ∧ jRf (va_up G_19 r0 (some (12, 0))) 292 3 (.ref H_11.size) ∧ jI 0 3 (.int 0) ∧ jIa (.int 0) ∧ jRf (va_up G_19 r0 (some (12, 0))) 280 3000 (.ref H_17.size) ∧ jI 0 3000 (.int 0) ∧ True := ⟨⟨_, rfl, hg_30⟩, ⟨_, rfl, hg_31⟩, ⟨_, rfl, hg_32⟩, ⟨_, rfl, by omega, by omega⟩, ⟨_, rfl, by omega, by omega⟩, ⟨_, rfl⟩, ⟨_, rfl, hg_33⟩, ⟨_, rfl, by omega, by omega⟩, ⟨_, rfl⟩, ⟨_, rfl, hg_34⟩, ⟨_, rfl, by omega, by omega⟩, trivial⟩
  have hh_28 := hh_25.typ (k := 12) (n := 0) hB hraw_22n hbr0 hraw_25.lt (jOb.of (C := RX10) (T := TX10) (N := 11) (F := F12b) hB12 rfl hraw_25 (show jFx (F12b 0 (va_up G_19 r0 (some (12, 0)))) [.ref r1, .ref s.heap.size, .ref H_5.size, .int 0, .int 0, .int 0, .ref H_11.size, .int 0, .int 0, .ref H_17.size, .int 0] from hfa_28))
  have hgn_28 : (va_up G_19 r0 (some (12, 0))) r0 = some (12, 0) := jUp_self
  have hN_28 : (jNk [0, 1, 2, 3, 4, 5, 6, 7, 8, 9, 10, 11, 13, 14, 15, 16]) G_19 (va_up G_19 r0 (some (12, 0))) := jNk.new (by decide)
  have hNn_28 : (jNk [0, 1, 2, 3, 4, 5, 6, 7, 8, 9, 10, 11, 13, 14, 15, 16]) G0 (va_up G_19 r0 (some (12, 0))) := (hNn_19).tr hN_28
  have hkp_35 := hkp_26.typ (t := some (12, 0))
  exact W.vret hx hb hr (fun t ht hW => ⟨⟨(va_up G_19 r0 (some (12, 0))), rfl, trivial, ⟨hh_28.ra (by first | omega | (simp only; omega)) (by first | omega | (simp only; omega)) (M1 := []) [] rfl ht, hNn_28, hgn_28, by rw [ht]; exact hkp_35⟩⟩, by rw [ht]; try exact hh_28.1.1, fun q h9 hq => by rw [ht]; try exact hh_28.1.2.1 q h9 hq⟩) hh_28.1.2.2 dX10_init_43
set_option maxHeartbeats 4000000 in
set_option maxRecDepth 20000 in
theorem uX5_init (l : Launch) (dC : Nat → ClassId) (dI : Nat → Nat → Nat) (ca : Nat → ClassId) (base : Nat) (B : jF) (hB : jBok B) (hAp : jAp (dC, dI)) (hB5 : ∀ n G a H, B 5 n G a H ↔ jOb (dC, dI) 5 4 (F5 n G) a H) (hB7 : ∀ n G a H, B 7 n G a H ↔ jOb (dC, dI) 7 11 (F7 n G) a H) (hB8 : ∀ n G a H, B 8 n G a H ↔ jOb (dC, dI) 8 4 (F8 n G) a H) (hB11 : ∀ n G a H, B 11 n G a H ↔ jOb (dC, dI) 11 9 (F11 n G) a H) (hB12 : ∀ n G a H, B 12 n G a H ↔ jOb (dC, dI) 12 11 (F12b n G) a H) (hB101 : ∀ n G a H, B 101 n G a H ↔ jAr (dC, dI) (ca 1) (fun j z => True) n a H) (hB102 : ∀ n G a H, B 102 n G a H ↔ jAl (dC, dI) (ca 2) n a H) (hB132 : ∀ n G a H, B 132 n G a H ↔ jAr (dC, dI) (ca 1) (fun j z => 0 ≤ z.toInt ∧ z.toInt ≤ 10) n a H) (hB133 : ∀ n G a H, B 133 n G a H ↔ jAr (dC, dI) (ca 1) (fun j z => 0 ≤ z.toInt ∧ z.toInt ≤ 8192) n a H) (hB211 : ∀ n G a H, B 211 n G a H ↔ jAq (dC, dI) (ca 7) (jQh) n G a H) (hB214 : ∀ n G a H, B 214 n G a H ↔ jAq (dC, dI) (ca 7) (jQg) n G a H) (hB280 : ∀ n G a H, B 280 n G a H ↔ jAr (dC, dI) (ca 1) (fun j z => -1 ≤ z.toInt) n a H) (hB290 : ∀ n G a H, B 290 n G a H ↔ jAr (dC, dI) (ca 1) (fun j z => 0 ≤ z.toInt ∧ z.toInt ≤ 3000) n a H) (hB291 : ∀ n G a H, B 291 n G a H ↔ jAr (dC, dI) (ca 1) (fun j z => 0 ≤ z.toInt ∧ z.toInt ≤ 3000) n a H) (hB292 : ∀ n G a H, B 292 n G a H ↔ jAr (dC, dI) (ca 1) (fun j z => 0 ≤ z.toInt ∧ z.toInt ≤ 8191) n a H) (hB293 : ∀ n G a H, B 293 n G a H ↔ jAr (dC, dI) (ca 1) (fun j z => -1 ≤ z.toInt ∧ z.toInt ≤ 8191) n a H) (hB313 : ∀ n G a H, B 313 n G a H ↔ jAq (dC, dI) (ca 8) (jQk 280 80) n G a H) (G0 : jT) (H0 : Heap) (r0 : Nat) (LC LS : Nat) : Met l yX5_init (jw yX5_init cX5_init 1 none) ({ frames := 5, cells := LC - H0.size, slots := LS - jTot H0, locals := 164 }) (va_Pc [.ref r0] (fun U => U.heap = H0 ∧ jX B base G0 [] H0 ∧ jG dC dI ca base U ∧ jK2 dC dI ca U ∧ jK5 dC dI ca U ∧ jK6 U ∧ va_at (dC, dI) vwCl (r0, .inr (7, [.null, .null, .null, .null, .null, .null, .null, .null, .null, .null, .int 0])) H0 ∧ (∀ t, G0 r0 ≠ some t) ∧ base ≤ r0 ∧ jP (dC, dI) G0 H0 [] ∧ jIs (dC, dI) G0 H0 [(jFs11, jSef dC dI G0)] ∧ H0.size + 24 ≤ LC ∧ jTot H0 + 38990 ≤ LS ∧ True)) (va_Qv (S := jT) (fun u => True) (fun u t => jRa (dC, dI) B base G0 u EX5_init H0 (24) (38990) [] t.heap ∧ (jNk [0, 1, 2, 3, 4, 5, 6, 9, 10, 13, 14, 15, 16]) G0 u ∧ u r0 = some (7, 0) ∧ jKx r0 G0 u H0 t.heap ∧ jIs (dC, dI) u t.heap [(jFs11, jSef dC dI u)]) (jA base)) (LC - H0.size) (LS - jTot H0) (jA base) := by
  refine Met.ofW (cc := cX5_init) (maxL := 1) (ret := none) (by decide) rfl ?_
  intro p e s m args below meth c s₁ Bd hml hv
  obtain ⟨rfl, hH0, hX, hG, hK2, hK5, hK6, hraw0, hnr0, hbr0, hP0, hI0, hLC0, hLS0, hp0⟩ := hv
  have hK := hG.1
  have hx := Bd.exec
  have hb := Bd.bytes
  have hr := Bd.returns
  have hts := atoms_spec (ws := (jw yX5_init cX5_init 1 none)) Bd.pre
  have htw : ∀ w ∈ jWl, w.before _ s = true := fun w h => hts w (List.mem_cons_of_mem _ h)
  have hown : s.vm.findClass RX5 = some m.cls := findClass_of_methodNamed Bd.named
  have hlocks := Bd.notSynchronized
  obtain ⟨Q, hQ⟩ : ∃ Q, Q = MQ below (va_Qv (S := jT) (fun u => True) (fun u t => jRa (dC, dI) B base G0 u EX5_init H0 (24) (38990) [] t.heap ∧ (jNk [0, 1, 2, 3, 4, 5, 6, 9, 10, 13, 14, 15, 16]) G0 u ∧ u r0 = some (7, 0) ∧ jKx r0 G0 u H0 t.heap ∧ jIs (dC, dI) u t.heap [(jFs11, jSef dC dI u)]) (jA base)) ([.ref r0] : List Value).toArray s (LC - H0.size) (LS - jTot H0) (jA base) := ⟨_, rfl⟩
  rw [← hQ]
  have hl := lv_entry ([.ref r0]) (n := 1) (Nat.le_of_ble_eq_true rfl)
  rw [lg_entry_eq]
  generalize (lg_sl ([.ref r0]) ++ List.replicate (1 - (lg_sl ([.ref r0])).length) Slot.unset).toArray = ls at hl ⊢
  have hl : lv_has ls 1 [(0, .ref r0)] := hl
  generalize hR : (headSpec (jw yX5_init cX5_init 1 none) ({ frames := 5, cells := LC - H0.size, slots := LS - jTot H0, locals := 164 })).room = R
  subst hH0
  have hh : jSt (dC, dI) B base G0 G0 EX5_init s.heap 0 0 [] [] [(jFs11, jSef dC dI G0)] s.heap [] := jSt.start hX hP0 jMc.nil hI0
  clear hX hP0
  have hk0 : (0 : Int32).toInt = 0 := by decide
  have hk1 : (1 : Int32).toInt = 1 := by decide
  have hk6 : (6 : Int32).toInt = 6 := by decide
  have hk13 : (13 : Int32).toInt = 13 := by decide
  have hly_7_0 := htw (u_lay RX5 TX5 0) (jWc_wsX50 _ (u_in_lay (by decide)))
  have hly_7_1 := htw (u_lay RX5 TX5 1) (jWc_wsX50 _ (u_in_lay (by decide)))
  have hly_7_2 := htw (u_lay RX5 TX5 2) (jWc_wsX50 _ (u_in_lay (by decide)))
  have hly_7_3 := htw (u_lay RX5 TX5 3) (jWc_wsX50 _ (u_in_lay (by decide)))
  have hly_7_4 := htw (u_lay RX5 TX5 4) (jWc_wsX50 _ (u_in_lay (by decide)))
  have hly_7_5 := htw (u_lay RX5 TX5 5) (jWc_wsX50 _ (u_in_lay (by decide)))
  have hly_7_6 := htw (u_lay RX5 TX5 6) (jWc_wsX50 _ (u_in_lay (by decide)))
  have hly_7_7 := htw (u_lay RX5 TX5 7) (jWc_wsX50 _ (u_in_lay (by decide)))
  have hly_7_8 := htw (u_lay RX5 TX5 8) (jWc_wsX50 _ (u_in_lay (by decide)))
  have hly_7_9 := htw (u_lay RX5 TX5 9) (jWc_wsX50 _ (u_in_lay (by decide)))
  have hlk_12 := (htw (.fieldLink RX5 12 "ProofServer$Kernel" "names" "LProofServer$Names;") (jWr_4 _ (List.mem_of_getElem? (i := 11) rfl)))
  have hlk_23 := (htw (.fieldLink RX5 23 "ProofServer$Kernel" "syntax" "LProofServer$Syntax;") (jWr_4 _ (List.mem_of_getElem? (i := 15) rfl)))
  have hlk_30 := (htw (.fieldLink RX5 30 "ProofServer$Kernel" "start" "LProofServer$State;") (jWr_4 _ (List.mem_of_getElem? (i := 19) rfl)))
  have hlk_34 := (htw (.fieldLink RX5 34 "ProofServer$Kernel" "scopeNames" "[I") (jWr_4 _ (List.mem_of_getElem? (i := 20) rfl)))
  have hlk_38 := (htw (.fieldLink RX5 38 "ProofServer$Kernel" "scopeEnds" "[I") (jWr_4 _ (List.mem_of_getElem? (i := 21) rfl)))
  have hlk_41 := (htw (.fieldLink RX5 41 "ProofServer$Kernel" "source" "[I") (jWr_4 _ (List.mem_of_getElem? (i := 22) rfl)))
  have hlk_44 := (htw (.fieldLink RX5 44 "ProofServer$Kernel" "termFrom" "[I") (jWr_4 _ (List.mem_of_getElem? (i := 23) rfl)))
  have hlk_47 := (htw (.fieldLink RX5 47 "ProofServer$Kernel" "termSize" "[I") (jWr_5 _ (List.mem_of_getElem? (i := 0) rfl)))
  have hlk_50 := (htw (.fieldLink RX5 50 "ProofServer$Kernel" "single" "[I") (jWr_5 _ (List.mem_of_getElem? (i := 1) rfl)))
  have hlk_55 := (htw (.fieldLink RX5 55 "ProofServer$Kernel" "fresh" "[LProofServer$Goal;") (jWr_5 _ (List.mem_of_getElem? (i := 3) rfl)))
  have hbs : base ≤ s.heap.size := Nat.le_of_lt (Nat.lt_of_le_of_lt hbr0 hraw0.lt)
  have hRc : R.cells = LC - s.heap.size := by rw [← hR]; rfl
  have hRs : R.slots = LS - jTot s.heap := by rw [← hR]; rfl
  have hin2 : meth.name = "<init>" := (name_of_methodNamed Bd.named Bd.method).1
  have hkp : jKx r0 G0 G0 s.heap s.heap := jKx.rf
  refine lv_aload_n hx hb dX5_init_0 rfl (lv_at hl 0 rfl) ?_
  refine W.objInit hx hb hown (htw (.methodLink RX5 3 objectInit) (jWr_4 _ (List.mem_of_getElem? (i := 7) rfl))) (htw (.instanceMethod objectInit) (jWr_1 _ (List.mem_of_getElem? (i := 10) rfl))) (htw (.code objectInit ⟨#[0xb1]⟩ 1 none) (jWr_1 _ (List.mem_of_getElem? (i := 11) rfl))) rfl (by rw [hml]; exact hl.1) rfl dX5_init_1 (by rw [← hR]; exact Nat.le_of_ble_eq_true rfl) (by rw [← hR]; exact Nat.le_of_ble_eq_true rfl) ?_
  refine W.eq (g2 := F0 m 4 ls []) rfl ?_
  refine lv_aload_n hx hb dX5_init_4 rfl (lv_at hl 0 rfl) ?_
  have hsz_1 := hh.2.2.2.2.2.1
  have htt_1 := hh.2.2.2.2.2.2.1
  refine j7_newo (k := 8) (C := RX6) (T := TX6) (N := 4) (fs := [.null, .null, .null, .int 0]) hx hb htw jWc_wsX60 (fun k => ([(.array .long), (.array .int), (.array .int), .int] : List FieldType).getD k .int) (by decide +kernel) hown (htw (.classLink RX5 9 RX6) (jWr_4 _ (List.mem_of_getElem? (i := 8) rfl))) (htw (.instantiable RX6 4) (jWr_4 _ (List.mem_of_getElem? (i := 9) rfl))) (htw (.initialized RX6) (jWr_4 _ (List.mem_of_getElem? (i := 10) rfl))) hK rfl (fun j hj => by rcases (by omega : j = 0 ∨ j = 1 ∨ j = 2 ∨ j = 3) with rfl | rfl | rfl | rfl <;> rfl) hh hB (by rw [hRc]; omega) (by rw [hRs]; omega) dX5_init_5 (fun H_1 hraw_1 hfr_1 hnr_1 hh_1 => ?_)
  have hlt_2 := hraw0.lt
  have hke_1 : jKe G0 G0 s.heap H_1 := jKe.raw hfr_1
  have hbr_1 : base ≤ s.heap.size := Nat.le_trans hbs hh.1.1
  have hsy_1 : s.heap.size ≤ s.heap.size := hh.1.1
  clear hh
  have hkp_3 := hkp.tr hke_1
  have hraw_4n := hke_1.nr hraw0.lt hnr0
  have hraw_4 := hraw0.kept (hke_1.1 _ hraw0.lt)
  have hne_5 : r0 ≠ s.heap.size := Nat.ne_of_lt hlt_2
  refine lv_dup hx hb dX5_init_8 rfl ?_
  have hsz_6 := hh_1.2.2.2.2.2.1
  have htt_6 := hh_1.2.2.2.2.2.2.1
  refine W.room (fun hrc_6 hrs_6 => ?_)
  refine va_callv (A0 := jA base) (H0 := s.heap) (va_runI (As := []) (rest := [.ref s.heap.size, .ref r0]) ⟨hx, hb, hml, hown, hts⟩ (uX6_init l dC dI ca base B hB hAp hB8 hB101 hB102 hB132 hB133 G0 H_1 s.heap.size LC LS) (cwI 0 hts (jgW (jWr_5 _ (List.mem_of_getElem? (i := 6) rfl))) rfl rfl rfl (htw (.initialized RX6) (jWr_4 _ (List.mem_of_getElem? (i := 10) rfl))) (htw (.methodLink RX5 11 yX6_init) (jWr_5 _ (List.mem_of_getElem? (i := 4) rfl))) (htw (.instanceMethod yX6_init) (jWr_5 _ (List.mem_of_getElem? (i := 5) rfl))) rfl (by decide +kernel) ⟨by rw [← hR]; exact Nat.le_of_ble_eq_true rfl, by rw [← hR]; exact Nat.le_of_ble_eq_true rfl⟩) ⟨fun a U g mk q => by obtain ⟨q0, q1, q2, qK, q10, q11, q12, q13, q14⟩ := q; exact ⟨q0, q1, q2, jG.calling g mk a qK, q10, q11, q12, q13, q14⟩, fun U hU hW => ⟨rfl, hU, hh_1.2.1, hG.step hW hU hh_1.1, hraw_1, hnr_1, hbr_1, jP.nil, (by omega), (by omega), trivial⟩⟩ rfl rfl hl.1 rfl (lv_room (Nat.le_of_ble_eq_true rfl)) dX5_init_9 ⟨by rw [hRc]; omega, by rw [hRs]; omega⟩) hh_1.1 (fun q _ h => h) (fun q h => h) (fun u_6 t_6 H_6 locs_6 ht_6 hvm_6 hr_7 hb_6 hz_6 hk_6 hS_6 => ?_)
  rw [ht_6] at hb_6
  obtain ⟨G_6, rfl⟩ : ∃ z, z = u_6 := ⟨_, rfl⟩
  try simp only at hb_6
  obtain ⟨⟨hb_61, hb_62, hb_63, hb_64, hb_65, hb_66⟩, hN_6, hgc_6, hbX_6⟩ := hb_6
  have hM_6 := hN_6
  have hN_6 : (jNk [0, 1, 2, 3, 4, 5, 6, 9, 10, 13, 14, 15, 16]) G0 G_6 := hN_6.sub (by decide)
  have hh_6 : jSt (dC, dI) B base G0 G_6 EX5_init s.heap ((0 + 1) + (4)) ((0 + 4) + (32903)) [] [] [(jFs11, jSef dC dI G0)] H_6 locs_6 := (hh_1.callG hb_61 hb_62 hb_63 hb_64 hb_65 hS_6 rfl (L1 := []) [] rfl rfl (M1 := []) [] rfl rfl (I1 := [(jFs11, jSef dC dI G0)]) [0] rfl rfl).more hb_66
  have hNn_6 : (jNk [0, 1, 2, 3, 4, 5, 6, 9, 10, 13, 14, 15, 16]) G0 G_6 := (jNk.rf).tr hN_6
  have hd_8 := jSef.grow (hh_6.iv 0 rfl) hb_62 hM_6 (by decide)
  have hh_9 := hh_6.sub (L1 := []) [] rfl (M1 := []) [] rfl (I1 := []) [] rfl
  clear hh_6
  have hh_10 := hh_9.addI (jSef.ie hd_8)
  clear hh_9
  try simp only at hr_7
  have hkp_11 := hkp_3.in hbX_6 hsy_1
  have hraw_12x := hbX_6.ke hraw_4.lt hne_5 hraw_4n
  have hraw_12 := hraw_4.kept hraw_12x.1
  refine j7_putRF hx hb hown hK hh_10 hB hAp hraw_12 hraw_12x.2 hbr0 (C := RX5) (T := TX5) (N := 11) rfl (i := 0) (by decide) (Nat.le_of_ble_eq_true rfl) hly_7_0 rfl hin2 rfl hlk_12 (ty := (.object "ProofServer$Names")) (v := .ref s.heap.size) (by decide +kernel) rfl rfl dX5_init_12 (fun H_13 locs_13 hraw_13 hr_13 hh_13 => ?_)
  have hraw_13 : va_at (dC, dI) vwCl (r0, .inr (7, [.ref s.heap.size, .null, .null, .null, .null, .null, .null, .null, .null, .null, .int 0])) H_13 := hraw_13
  have hkp_14 := hkp_11.put hr_13
  clear hh_10
  refine lv_aload_n hx hb dX5_init_15 rfl (lv_at hl 0 rfl) ?_
  have hsz_15 := hh_13.2.2.2.2.2.1
  have htt_15 := hh_13.2.2.2.2.2.2.1
  refine j7_newo (k := 12) (C := RX10) (T := TX10) (N := 11) (fs := [.null, .null, .null, .int 0, .int 0, .int 0, .null, .int 0, .int 0, .null, .int 0]) hx hb htw jWc_wsX100 (fun k => ([(.object "ProofServer$Names"), (.array .int), (.array .int), .int, .int, .int, (.array .int), .int, .int, (.array .int), .int] : List FieldType).getD k .int) (by decide +kernel) hown (htw (.classLink RX5 18 RX10) (jWr_4 _ (List.mem_of_getElem? (i := 12) rfl))) (htw (.instantiable RX10 11) (jWr_4 _ (List.mem_of_getElem? (i := 13) rfl))) (htw (.initialized RX10) (jWr_4 _ (List.mem_of_getElem? (i := 14) rfl))) hK rfl (fun j hj => by rcases (by omega : j = 0 ∨ j = 1 ∨ j = 2 ∨ j = 3 ∨ j = 4 ∨ j = 5 ∨ j = 6 ∨ j = 7 ∨ j = 8 ∨ j = 9 ∨ j = 10) with rfl | rfl | rfl | rfl | rfl | rfl | rfl | rfl | rfl | rfl | rfl <;> rfl) hh_13 hB (by rw [hRc]; omega) (by rw [hRs]; omega) dX5_init_16 (fun H_15 hraw_15 hfr_15 hnr_15 hh_15 => ?_)
  have hlt_16 := hraw_13.lt
  have hke_15 : jKe G_6 G_6 H_13 H_15 := jKe.raw hfr_15
  have hbr_15 : base ≤ H_13.size := Nat.le_trans hbs hh_13.1.1
  have hsy_15 : s.heap.size ≤ H_13.size := hh_13.1.1
  clear hh_13
  have hkp_17 := hkp_14.tr hke_15
  have hraw_18n := hke_15.nr hraw_13.lt hraw_12x.2
  have hraw_18 := hraw_13.kept (hke_15.1 _ hraw_13.lt)
  have hne_19 : r0 ≠ H_13.size := Nat.ne_of_lt hlt_16
  refine lv_dup hx hb dX5_init_19 rfl ?_
  refine lv_aload_n hx hb dX5_init_20 rfl (lv_at hl 0 rfl) ?_
  refine j7_read hx hb hown hK (C := RX5) (T := TX5) (N := 11) rfl hly_7_0 hlk_12 (jf.raw (C := RX5) (T := TX5) (N := 11) rfl hraw_18 (i := 0) (by decide)) dX5_init_21 ?_
  have hg_20 := (jLe.rf) _ _ hgc_6
  have hsz_21 := hh_15.2.2.2.2.2.1
  have htt_21 := hh_15.2.2.2.2.2.2.1
  refine W.room (fun hrc_21 hrs_21 => ?_)
  refine va_callv (A0 := jA base) (H0 := s.heap) (va_runI (As := [.ref s.heap.size]) (rest := [.ref H_13.size, .ref r0]) ⟨hx, hb, hml, hown, hts⟩ (uX10_init l dC dI ca base B hB hAp hB8 hB12 hB101 hB280 hB292 hB293 G_6 H_15 H_13.size s.heap.size LC LS) (cwI 1 hts (jgW (jWr_8 _ (List.mem_of_getElem? (i := 6) rfl))) rfl rfl rfl (htw (.initialized RX10) (jWr_4 _ (List.mem_of_getElem? (i := 14) rfl))) (htw (.methodLink RX5 20 yX10_init) (jWr_8 _ (List.mem_of_getElem? (i := 4) rfl))) (htw (.instanceMethod yX10_init) (jWr_8 _ (List.mem_of_getElem? (i := 5) rfl))) rfl (by decide +kernel) ⟨by rw [← hR]; exact Nat.le_of_ble_eq_true rfl, by rw [← hR]; exact Nat.le_of_ble_eq_true rfl⟩) ⟨fun a U g mk q => by obtain ⟨q0, q1, q2, qK, q10, q11, q12, q13, q14, q15⟩ := q; exact ⟨q0, q1, q2, jG.calling g mk a qK, q10, q11, q12, q13, q14, q15⟩, fun U hU hW => ⟨rfl, hU, hh_15.2.1, hG.step hW hU hh_15.1, hg_20, hraw_15, hnr_15, hbr_15, jP.nil, (by omega), (by omega), trivial⟩⟩ rfl rfl hl.1 rfl (lv_room (Nat.le_of_ble_eq_true rfl)) dX5_init_24 ⟨by rw [hRc]; omega, by rw [hRs]; omega⟩) hh_15.1 (fun q _ h => h) (fun q h => h) (fun u_21 t_21 H_21 locs_21 ht_21 hvm_21 hr_22 hb_21 hz_21 hk_21 hS_21 => ?_)
  rw [ht_21] at hb_21
  obtain ⟨G_21, rfl⟩ : ∃ z, z = u_21 := ⟨_, rfl⟩
  try simp only at hb_21
  obtain ⟨⟨hb_211, hb_212, hb_213, hb_214, hb_215, hb_216⟩, hN_21, hgc_21, hbX_21⟩ := hb_21
  have hM_21 := hN_21
  have hN_21 : (jNk [0, 1, 2, 3, 4, 5, 6, 9, 10, 13, 14, 15, 16]) G_6 G_21 := hN_21.sub (by decide)
  have hh_21 : jSt (dC, dI) B base G0 G_21 EX5_init s.heap ((((0 + 1) + (4)) + 1) + (4)) ((((0 + 4) + (32903)) + 11) + (6003)) [] [] [(jFs11, jSef dC dI G_6)] H_21 locs_21 := (hh_15.callG hb_211 hb_212 hb_213 hb_214 hb_215 hS_21 rfl (L1 := []) [] rfl rfl (M1 := []) [] rfl rfl (I1 := [(jFs11, jSef dC dI G_6)]) [0] rfl rfl).more hb_216
  have hNn_21 : (jNk [0, 1, 2, 3, 4, 5, 6, 9, 10, 13, 14, 15, 16]) G0 G_21 := (hNn_6).tr hN_21
  have hd_23 := jSef.grow (hh_21.iv 0 rfl) hb_212 hM_21 (by decide)
  have hh_24 := hh_21.sub (L1 := []) [] rfl (M1 := []) [] rfl (I1 := []) [] rfl
  clear hh_21
  have hh_25 := hh_24.addI (jSef.ie hd_23)
  clear hh_24
  try simp only at hr_22
  have hkp_26 := hkp_17.in hbX_21 hsy_15
  have hraw_27x := hbX_21.ke hraw_18.lt hne_19 hraw_18n
  have hraw_27 := hraw_18.kept hraw_27x.1
  refine j7_putRF hx hb hown hK hh_25 hB hAp hraw_27 hraw_27x.2 hbr0 (C := RX5) (T := TX5) (N := 11) rfl (i := 1) (by decide) (Nat.le_of_ble_eq_true rfl) hly_7_1 rfl hin2 rfl hlk_23 (ty := (.object "ProofServer$Syntax")) (v := .ref H_13.size) (by decide +kernel) rfl rfl dX5_init_27 (fun H_28 locs_28 hraw_28 hr_28 hh_28 => ?_)
  have hraw_28 : va_at (dC, dI) vwCl (r0, .inr (7, [.ref s.heap.size, .ref H_13.size, .null, .null, .null, .null, .null, .null, .null, .null, .int 0])) H_28 := hraw_28
  have hkp_29 := hkp_26.put hr_28
  clear hh_25
  refine lv_aload_n hx hb dX5_init_30 rfl (lv_at hl 0 rfl) ?_
  have hsz_30 := hh_28.2.2.2.2.2.1
  have htt_30 := hh_28.2.2.2.2.2.2.1
  refine j7_newo (k := 11) (C := RX9) (T := TX9) (N := 9) (fs := [.null, .null, .int 0, .null, .null, .null, .int 0, .null, .null]) hx hb htw jWc_wsX90 (fun k => ([(.object "ProofServer$State"), (.array .int), .int, (.array .int), (.array .int), (.array (.array .int)), .int, (.array .int), (.array (.object "ProofServer$Goal"))] : List FieldType).getD k .int) (by decide +kernel) hown (htw (.classLink RX5 27 RX9) (jWr_4 _ (List.mem_of_getElem? (i := 16) rfl))) (htw (.instantiable RX9 9) (jWr_4 _ (List.mem_of_getElem? (i := 17) rfl))) (htw (.initialized RX9) (jWr_4 _ (List.mem_of_getElem? (i := 18) rfl))) hK rfl (fun j hj => by rcases (by omega : j = 0 ∨ j = 1 ∨ j = 2 ∨ j = 3 ∨ j = 4 ∨ j = 5 ∨ j = 6 ∨ j = 7 ∨ j = 8) with rfl | rfl | rfl | rfl | rfl | rfl | rfl | rfl | rfl <;> rfl) hh_28 hB (by rw [hRc]; omega) (by rw [hRs]; omega) dX5_init_31 (fun H_30 hraw_30 hfr_30 hnr_30 hh_30 => ?_)
  have hlt_31 := hraw_28.lt
  have hke_30 : jKe G_21 G_21 H_28 H_30 := jKe.raw hfr_30
  have hbr_30 : base ≤ H_28.size := Nat.le_trans hbs hh_28.1.1
  have hsy_30 : s.heap.size ≤ H_28.size := hh_28.1.1
  clear hh_28
  have hkp_32 := hkp_29.tr hke_30
  have hraw_33n := hke_30.nr hraw_28.lt hraw_27x.2
  have hraw_33 := hraw_28.kept (hke_30.1 _ hraw_28.lt)
  have hne_34 : r0 ≠ H_28.size := Nat.ne_of_lt hlt_31
  refine lv_dup hx hb dX5_init_34 rfl ?_
  have hsz_35 := hh_30.2.2.2.2.2.1
  have htt_35 := hh_30.2.2.2.2.2.2.1
  refine W.room (fun hrc_35 hrs_35 => ?_)
  refine va_callv (A0 := jA base) (H0 := s.heap) (va_runI (As := []) (rest := [.ref H_28.size, .ref r0]) ⟨hx, hb, hml, hown, hts⟩ (uX9_init l dC dI ca base B hB hAp hB5 hB11 hB101 hB214 hB280 hB313 G_21 H_30 H_28.size LC LS) (cwI 0 hts (jgW (jWr_8 _ (List.mem_of_getElem? (i := 15) rfl))) rfl rfl rfl (htw (.initialized RX9) (jWr_4 _ (List.mem_of_getElem? (i := 18) rfl))) (htw (.methodLink RX5 29 yX9_init) (jWr_8 _ (List.mem_of_getElem? (i := 13) rfl))) (htw (.instanceMethod yX9_init) (jWr_8 _ (List.mem_of_getElem? (i := 14) rfl))) rfl (by decide +kernel) ⟨by rw [← hR]; exact Nat.le_of_ble_eq_true rfl, by rw [← hR]; exact Nat.le_of_ble_eq_true rfl⟩) ⟨fun a U g mk q => by obtain ⟨q0, q1, q2, qK, q10, q11, q12, q13, q14, q15, q16, q17, q18⟩ := q; exact ⟨q0, q1, q2, jG.calling g mk a qK, (va_K.moved (Vm.Alike.refl U.vm) q10), (jK5.moved (Vm.Alike.refl U.vm) q11), (jK6.moved (Vm.Alike.refl U.vm) q12), q13, q14, q15, q16, q17, q18⟩, fun U hU hW => ⟨rfl, hU, hh_30.2.1, hG.step hW hU hh_30.1, va_K.moved hW.alike hK2, jK5.moved hW.alike hK5, jK6.moved hW.alike hK6, hraw_30, hnr_30, hbr_30, jP.nil, (hh_30.2.2.2.2.2.2.2.2.sub (L1 := [(jFs11, jSef dC dI G_21)]) [0] rfl), (by omega), (by omega), trivial⟩⟩ rfl rfl hl.1 rfl (lv_room (Nat.le_of_ble_eq_true rfl)) dX5_init_35 ⟨by rw [hRc]; omega, by rw [hRs]; omega⟩) hh_30.1 (fun q _ h => h) (fun q h => h) (fun u_35 t_35 H_35 locs_35 ht_35 hvm_35 hr_36 hb_35 hz_35 hk_35 hS_35 => ?_)
  rw [ht_35] at hb_35
  obtain ⟨G_35, rfl⟩ : ∃ z, z = u_35 := ⟨_, rfl⟩
  try simp only at hb_35
  obtain ⟨⟨hb_351, hb_352, hb_353, hb_354, hb_355, hb_356⟩, hN_35, hgc_35, hbX_35, hbE_35⟩ := hb_35
  have hN_35 : (jNk [0, 1, 2, 3, 4, 5, 6, 9, 10, 13, 14, 15, 16]) G_21 G_35 := hN_35.sub (by decide)
  have hh_35 : jSt (dC, dI) B base G0 G_35 EX5_init s.heap ((((((0 + 1) + (4)) + 1) + (4)) + 1) + (6)) ((((((0 + 4) + (32903)) + 11) + (6003)) + 9) + (0)) [] [] [] H_35 locs_35 := (hh_30.callG hb_351 hb_352 hb_353 hb_354 hb_355 hS_35 rfl (L1 := []) [] rfl rfl (M1 := []) [] rfl rfl (I1 := []) [] rfl rfl).more hb_356
  have hNn_35 : (jNk [0, 1, 2, 3, 4, 5, 6, 9, 10, 13, 14, 15, 16]) G0 G_35 := (hNn_21).tr hN_35
  have hh_37 := hh_35.addIs hbE_35
  try simp only at hr_36
  have hkp_38 := hkp_32.in hbX_35 hsy_30
  have hraw_39x := hbX_35.ke hraw_33.lt hne_34 hraw_33n
  have hraw_39 := hraw_33.kept hraw_39x.1
  refine j7_putRF hx hb hown hK hh_37 hB hAp hraw_39 hraw_39x.2 hbr0 (C := RX5) (T := TX5) (N := 11) rfl (i := 2) (by decide) (Nat.le_of_ble_eq_true rfl) hly_7_2 rfl hin2 rfl hlk_30 (ty := (.object "ProofServer$State")) (v := .ref H_28.size) (by decide +kernel) rfl rfl dX5_init_38 (fun H_40 locs_40 hraw_40 hr_40 hh_40 => ?_)
  have hraw_40 : va_at (dC, dI) vwCl (r0, .inr (7, [.ref s.heap.size, .ref H_13.size, .ref H_28.size, .null, .null, .null, .null, .null, .null, .null, .int 0])) H_40 := hraw_40
  have hkp_41 := hkp_38.put hr_40
  clear hh_37
  refine lv_aload_n hx hb dX5_init_41 rfl (lv_at hl 0 rfl) ?_
  refine lv_bipush (v := 13) hx hb dX5_init_42 (by decide) ?_
  have hsz_42 := hh_40.2.2.2.2.2.1
  have htt_42 := hh_40.2.2.2.2.2.2.1
  refine j7_newiK hx hb hK hh_40 hB (atype := .int) (ty := .int) (htw (.arrayClass .int) (jWr_3 _ (List.mem_of_getElem? (i := 20) rfl))) rfl rfl (fun _ h => h) hB101 1 rfl (by decide) (by decide) hbs (x := 13) (by decide) (by omega) (fun j => by first | trivial | decide | rfl | exact Or.inl rfl | (refine ⟨?_, ?_⟩ <;> decide)) (by rw [hRc]; omega) (by rw [hRs]; omega) dX5_init_44 (fun H_42 hfr_42 hh_42 => ?_)
  have hh_42 : jSt (dC, dI) B base G0 (va_up G_35 H_40.size (some (101, 13))) EX5_init s.heap (((((((0 + 1) + (4)) + 1) + (4)) + 1) + (6)) + 1) (((((((0 + 4) + (32903)) + 11) + (6003)) + 9) + (0)) + 13) [] [] [(jFs11, jSef dC dI G_35)] H_42 locs_40 := hh_42
  have hM_42 : jNk [11] G_35 (va_up G_35 H_40.size (some (101, 13))) := jNk.new (by decide)
  have hN_42 : (jNk [0, 1, 2, 3, 4, 5, 6, 9, 10, 13, 14, 15, 16]) G_35 (va_up G_35 H_40.size (some (101, 13))) := jNk.new (by decide)
  have hgn_42 : (va_up G_35 H_40.size (some (101, 13))) H_40.size = some (101, 13) := jUp_self
  have hle_42 : jLe G_35 (va_up G_35 H_40.size (some (101, 13))) := jLe.new hh_40.2.1.fresh
  have hke_42 : jKe G_35 (va_up G_35 H_40.size (some (101, 13))) H_40 H_42 := jKe.new hfr_42
  have hsy_42 : s.heap.size ≤ H_40.size := hh_40.1.1
  generalize (va_up G_35 H_40.size (some (101, 13))) = G_42 at hN_42 hgn_42 hle_42 hke_42 hh_42 hM_42
  clear hh_40
  have hNn_42 : (jNk [0, 1, 2, 3, 4, 5, 6, 9, 10, 13, 14, 15, 16]) G0 G_42 := (hNn_35).tr hN_42
  have hkp_43 := hkp_41.tr hke_42
  have hraw_44n := hke_42.nr hraw_40.lt hraw_39x.2
  have hraw_44 := hraw_40.kept (hke_42.1 _ hraw_40.lt)
  have hd_45 := jSef.grow (hh_42.iv 0 rfl) hle_42 hM_42 (by decide)
  have hh_46 := hh_42.sub (L1 := []) [] rfl (M1 := []) [] rfl (I1 := []) [] rfl
  clear hh_42
  have hh_47 := hh_46.addI (jSef.ie hd_45)
  clear hh_46
  refine j7_putRF hx hb hown hK hh_47 hB hAp hraw_44 hraw_44n hbr0 (C := RX5) (T := TX5) (N := 11) rfl (i := 3) (by decide) (Nat.le_of_ble_eq_true rfl) hly_7_3 rfl hin2 rfl hlk_34 (ty := (.array .int)) (v := .ref H_40.size) (by decide +kernel) rfl rfl dX5_init_46 (fun H_48 locs_48 hraw_48 hr_48 hh_48 => ?_)
  have hraw_48 : va_at (dC, dI) vwCl (r0, .inr (7, [.ref s.heap.size, .ref H_13.size, .ref H_28.size, .ref H_40.size, .null, .null, .null, .null, .null, .null, .int 0])) H_48 := hraw_48
  have hkp_49 := hkp_43.put hr_48
  clear hh_47
  refine lv_aload_n hx hb dX5_init_49 rfl (lv_at hl 0 rfl) ?_
  refine lv_bipush (v := 13) hx hb dX5_init_50 (by decide) ?_
  have hsz_50 := hh_48.2.2.2.2.2.1
  have htt_50 := hh_48.2.2.2.2.2.2.1
  refine j7_newiK hx hb hK hh_48 hB (atype := .int) (ty := .int) (htw (.arrayClass .int) (jWr_3 _ (List.mem_of_getElem? (i := 20) rfl))) rfl rfl (fun _ h => h) hB101 1 rfl (by decide) (by decide) hbs (x := 13) (by decide) (by omega) (fun j => by first | trivial | decide | rfl | exact Or.inl rfl | (refine ⟨?_, ?_⟩ <;> decide)) (by rw [hRc]; omega) (by rw [hRs]; omega) dX5_init_52 (fun H_50 hfr_50 hh_50 => ?_)
  have hh_50 : jSt (dC, dI) B base G0 (va_up G_42 H_48.size (some (101, 13))) EX5_init s.heap ((((((((0 + 1) + (4)) + 1) + (4)) + 1) + (6)) + 1) + 1) ((((((((0 + 4) + (32903)) + 11) + (6003)) + 9) + (0)) + 13) + 13) [] [] [(jFs11, jSef dC dI G_42)] H_50 locs_48 := hh_50
  have hM_50 : jNk [11] G_42 (va_up G_42 H_48.size (some (101, 13))) := jNk.new (by decide)
  have hN_50 : (jNk [0, 1, 2, 3, 4, 5, 6, 9, 10, 13, 14, 15, 16]) G_42 (va_up G_42 H_48.size (some (101, 13))) := jNk.new (by decide)
  have hgn_50 : (va_up G_42 H_48.size (some (101, 13))) H_48.size = some (101, 13) := jUp_self
  have hle_50 : jLe G_42 (va_up G_42 H_48.size (some (101, 13))) := jLe.new hh_48.2.1.fresh
  have hke_50 : jKe G_42 (va_up G_42 H_48.size (some (101, 13))) H_48 H_50 := jKe.new hfr_50
  have hsy_50 : s.heap.size ≤ H_48.size := hh_48.1.1
  generalize (va_up G_42 H_48.size (some (101, 13))) = G_50 at hN_50 hgn_50 hle_50 hke_50 hh_50 hM_50
  clear hh_48
  have hNn_50 : (jNk [0, 1, 2, 3, 4, 5, 6, 9, 10, 13, 14, 15, 16]) G0 G_50 := (hNn_42).tr hN_50
  have hkp_51 := hkp_49.tr hke_50
  have hraw_52n := hke_50.nr hraw_48.lt hraw_44n
  have hraw_52 := hraw_48.kept (hke_50.1 _ hraw_48.lt)
  have hd_53 := jSef.grow (hh_50.iv 0 rfl) hle_50 hM_50 (by decide)
  have hh_54 := hh_50.sub (L1 := []) [] rfl (M1 := []) [] rfl (I1 := []) [] rfl
  clear hh_50
  have hh_55 := hh_54.addI (jSef.ie hd_53)
  clear hh_54
  refine j7_putRF hx hb hown hK hh_55 hB hAp hraw_52 hraw_52n hbr0 (C := RX5) (T := TX5) (N := 11) rfl (i := 4) (by decide) (Nat.le_of_ble_eq_true rfl) hly_7_4 rfl hin2 rfl hlk_38 (ty := (.array .int)) (v := .ref H_48.size) (by decide +kernel) rfl rfl dX5_init_54 (fun H_56 locs_56 hraw_56 hr_56 hh_56 => ?_)
  have hraw_56 : va_at (dC, dI) vwCl (r0, .inr (7, [.ref s.heap.size, .ref H_13.size, .ref H_28.size, .ref H_40.size, .ref H_48.size, .null, .null, .null, .null, .null, .int 0])) H_56 := hraw_56
  have hkp_57 := hkp_51.put hr_56
  clear hh_55
  refine lv_aload_n hx hb dX5_init_57 rfl (lv_at hl 0 rfl) ?_
  refine lv_iconst (v := 1) hx hb dX5_init_58 (by decide) ?_
  have hsz_58 := hh_56.2.2.2.2.2.1
  have htt_58 := hh_56.2.2.2.2.2.2.1
  refine j7_newiK hx hb hK hh_56 hB (atype := .int) (ty := .int) (htw (.arrayClass .int) (jWr_3 _ (List.mem_of_getElem? (i := 20) rfl))) rfl rfl (fun _ h => h) hB280 1 rfl (by decide) (by decide) hbs (x := 1) (by decide) (by omega) (fun j => by first | trivial | decide | rfl | exact Or.inl rfl | (refine ⟨?_, ?_⟩ <;> decide)) (by rw [hRc]; omega) (by rw [hRs]; omega) dX5_init_59 (fun H_58 hfr_58 hh_58 => ?_)
  have hh_58 : jSt (dC, dI) B base G0 (va_up G_50 H_56.size (some (280, 1))) EX5_init s.heap (((((((((0 + 1) + (4)) + 1) + (4)) + 1) + (6)) + 1) + 1) + 1) (((((((((0 + 4) + (32903)) + 11) + (6003)) + 9) + (0)) + 13) + 13) + 1) [] [] [(jFs11, jSef dC dI G_50)] H_58 locs_56 := hh_58
  have hM_58 : jNk [11] G_50 (va_up G_50 H_56.size (some (280, 1))) := jNk.new (by decide)
  have hN_58 : (jNk [0, 1, 2, 3, 4, 5, 6, 9, 10, 13, 14, 15, 16]) G_50 (va_up G_50 H_56.size (some (280, 1))) := jNk.new (by decide)
  have hgn_58 : (va_up G_50 H_56.size (some (280, 1))) H_56.size = some (280, 1) := jUp_self
  have hle_58 : jLe G_50 (va_up G_50 H_56.size (some (280, 1))) := jLe.new hh_56.2.1.fresh
  have hke_58 : jKe G_50 (va_up G_50 H_56.size (some (280, 1))) H_56 H_58 := jKe.new hfr_58
  have hsy_58 : s.heap.size ≤ H_56.size := hh_56.1.1
  generalize (va_up G_50 H_56.size (some (280, 1))) = G_58 at hN_58 hgn_58 hle_58 hke_58 hh_58 hM_58
  clear hh_56
  have hNn_58 : (jNk [0, 1, 2, 3, 4, 5, 6, 9, 10, 13, 14, 15, 16]) G0 G_58 := (hNn_50).tr hN_58
  have hkp_59 := hkp_57.tr hke_58
  have hraw_60n := hke_58.nr hraw_56.lt hraw_52n
  have hraw_60 := hraw_56.kept (hke_58.1 _ hraw_56.lt)
  have hd_61 := jSef.grow (hh_58.iv 0 rfl) hle_58 hM_58 (by decide)
  have hh_62 := hh_58.sub (L1 := []) [] rfl (M1 := []) [] rfl (I1 := []) [] rfl
  clear hh_58
  have hh_63 := hh_62.addI (jSef.ie hd_61)
  clear hh_62
  refine j7_putR hx hb hown hK hh_63 hB hAp hraw_60 hraw_60n hbr0 (C := RX5) (T := TX5) (N := 11) rfl (i := 5) (by decide) (Nat.le_of_ble_eq_true rfl) hly_7_5 rfl hlk_41 (ty := (.array .int)) (v := .ref H_56.size) (by decide +kernel) rfl rfl dX5_init_61 (fun H_64 locs_64 hraw_64 hr_64 hh_64 => ?_)
  have hraw_64 : va_at (dC, dI) vwCl (r0, .inr (7, [.ref s.heap.size, .ref H_13.size, .ref H_28.size, .ref H_40.size, .ref H_48.size, .ref H_56.size, .null, .null, .null, .null, .int 0])) H_64 := hraw_64
  have hkp_65 := hkp_59.put hr_64
  clear hh_63
  refine lv_aload_n hx hb dX5_init_64 rfl (lv_at hl 0 rfl) ?_
  refine lv_bipush (v := 13) hx hb dX5_init_65 (by decide) ?_
  have hsz_66 := hh_64.2.2.2.2.2.1
  have htt_66 := hh_64.2.2.2.2.2.2.1
  refine j7_newiK hx hb hK hh_64 hB (atype := .int) (ty := .int) (htw (.arrayClass .int) (jWr_3 _ (List.mem_of_getElem? (i := 20) rfl))) rfl rfl (fun _ h => h) hB290 1 rfl (by decide) (by decide) hbs (x := 13) (by decide) (by omega) (fun j => by first | trivial | decide | rfl | exact Or.inl rfl | (refine ⟨?_, ?_⟩ <;> decide)) (by rw [hRc]; omega) (by rw [hRs]; omega) dX5_init_67 (fun H_66 hfr_66 hh_66 => ?_)
  have hh_66 : jSt (dC, dI) B base G0 (va_up G_58 H_64.size (some (290, 13))) EX5_init s.heap ((((((((((0 + 1) + (4)) + 1) + (4)) + 1) + (6)) + 1) + 1) + 1) + 1) ((((((((((0 + 4) + (32903)) + 11) + (6003)) + 9) + (0)) + 13) + 13) + 1) + 13) [] [] [(jFs11, jSef dC dI G_58)] H_66 locs_64 := hh_66
  have hM_66 : jNk [11] G_58 (va_up G_58 H_64.size (some (290, 13))) := jNk.new (by decide)
  have hN_66 : (jNk [0, 1, 2, 3, 4, 5, 6, 9, 10, 13, 14, 15, 16]) G_58 (va_up G_58 H_64.size (some (290, 13))) := jNk.new (by decide)
  have hgn_66 : (va_up G_58 H_64.size (some (290, 13))) H_64.size = some (290, 13) := jUp_self
  have hle_66 : jLe G_58 (va_up G_58 H_64.size (some (290, 13))) := jLe.new hh_64.2.1.fresh
  have hke_66 : jKe G_58 (va_up G_58 H_64.size (some (290, 13))) H_64 H_66 := jKe.new hfr_66
  have hsy_66 : s.heap.size ≤ H_64.size := hh_64.1.1
  generalize (va_up G_58 H_64.size (some (290, 13))) = G_66 at hN_66 hgn_66 hle_66 hke_66 hh_66 hM_66
  clear hh_64
  have hNn_66 : (jNk [0, 1, 2, 3, 4, 5, 6, 9, 10, 13, 14, 15, 16]) G0 G_66 := (hNn_58).tr hN_66
  have hkp_67 := hkp_65.tr hke_66
  have hraw_68n := hke_66.nr hraw_64.lt hraw_60n
  have hraw_68 := hraw_64.kept (hke_66.1 _ hraw_64.lt)
  have hd_69 := jSef.grow (hh_66.iv 0 rfl) hle_66 hM_66 (by decide)
  have hh_70 := hh_66.sub (L1 := []) [] rfl (M1 := []) [] rfl (I1 := []) [] rfl
  clear hh_66
  have hh_71 := hh_70.addI (jSef.ie hd_69)
  clear hh_70
  refine j7_putRF hx hb hown hK hh_71 hB hAp hraw_68 hraw_68n hbr0 (C := RX5) (T := TX5) (N := 11) rfl (i := 6) (by decide) (Nat.le_of_ble_eq_true rfl) hly_7_6 rfl hin2 rfl hlk_44 (ty := (.array .int)) (v := .ref H_64.size) (by decide +kernel) rfl rfl dX5_init_69 (fun H_72 locs_72 hraw_72 hr_72 hh_72 => ?_)
  have hraw_72 : va_at (dC, dI) vwCl (r0, .inr (7, [.ref s.heap.size, .ref H_13.size, .ref H_28.size, .ref H_40.size, .ref H_48.size, .ref H_56.size, .ref H_64.size, .null, .null, .null, .int 0])) H_72 := hraw_72
  have hkp_73 := hkp_67.put hr_72
  clear hh_71
  refine lv_aload_n hx hb dX5_init_72 rfl (lv_at hl 0 rfl) ?_
  refine lv_bipush (v := 13) hx hb dX5_init_73 (by decide) ?_
  have hsz_74 := hh_72.2.2.2.2.2.1
  have htt_74 := hh_72.2.2.2.2.2.2.1
  refine j7_newiK hx hb hK hh_72 hB (atype := .int) (ty := .int) (htw (.arrayClass .int) (jWr_3 _ (List.mem_of_getElem? (i := 20) rfl))) rfl rfl (fun _ h => h) hB291 1 rfl (by decide) (by decide) hbs (x := 13) (by decide) (by omega) (fun j => by first | trivial | decide | rfl | exact Or.inl rfl | (refine ⟨?_, ?_⟩ <;> decide)) (by rw [hRc]; omega) (by rw [hRs]; omega) dX5_init_75 (fun H_74 hfr_74 hh_74 => ?_)
  have hh_74 : jSt (dC, dI) B base G0 (va_up G_66 H_72.size (some (291, 13))) EX5_init s.heap (((((((((((0 + 1) + (4)) + 1) + (4)) + 1) + (6)) + 1) + 1) + 1) + 1) + 1) (((((((((((0 + 4) + (32903)) + 11) + (6003)) + 9) + (0)) + 13) + 13) + 1) + 13) + 13) [] [] [(jFs11, jSef dC dI G_66)] H_74 locs_72 := hh_74
  have hM_74 : jNk [11] G_66 (va_up G_66 H_72.size (some (291, 13))) := jNk.new (by decide)
  have hN_74 : (jNk [0, 1, 2, 3, 4, 5, 6, 9, 10, 13, 14, 15, 16]) G_66 (va_up G_66 H_72.size (some (291, 13))) := jNk.new (by decide)
  have hgn_74 : (va_up G_66 H_72.size (some (291, 13))) H_72.size = some (291, 13) := jUp_self
  have hle_74 : jLe G_66 (va_up G_66 H_72.size (some (291, 13))) := jLe.new hh_72.2.1.fresh
  have hke_74 : jKe G_66 (va_up G_66 H_72.size (some (291, 13))) H_72 H_74 := jKe.new hfr_74
  have hsy_74 : s.heap.size ≤ H_72.size := hh_72.1.1
  generalize (va_up G_66 H_72.size (some (291, 13))) = G_74 at hN_74 hgn_74 hle_74 hke_74 hh_74 hM_74
  clear hh_72
  have hNn_74 : (jNk [0, 1, 2, 3, 4, 5, 6, 9, 10, 13, 14, 15, 16]) G0 G_74 := (hNn_66).tr hN_74
  have hkp_75 := hkp_73.tr hke_74
  have hraw_76n := hke_74.nr hraw_72.lt hraw_68n
  have hraw_76 := hraw_72.kept (hke_74.1 _ hraw_72.lt)
  have hd_77 := jSef.grow (hh_74.iv 0 rfl) hle_74 hM_74 (by decide)
  have hh_78 := hh_74.sub (L1 := []) [] rfl (M1 := []) [] rfl (I1 := []) [] rfl
  clear hh_74
  have hh_79 := hh_78.addI (jSef.ie hd_77)
  clear hh_78
  refine j7_putRF hx hb hown hK hh_79 hB hAp hraw_76 hraw_76n hbr0 (C := RX5) (T := TX5) (N := 11) rfl (i := 7) (by decide) (Nat.le_of_ble_eq_true rfl) hly_7_7 rfl hin2 rfl hlk_47 (ty := (.array .int)) (v := .ref H_72.size) (by decide +kernel) rfl rfl dX5_init_77 (fun H_80 locs_80 hraw_80 hr_80 hh_80 => ?_)
  have hraw_80 : va_at (dC, dI) vwCl (r0, .inr (7, [.ref s.heap.size, .ref H_13.size, .ref H_28.size, .ref H_40.size, .ref H_48.size, .ref H_56.size, .ref H_64.size, .ref H_72.size, .null, .null, .int 0])) H_80 := hraw_80
  have hkp_81 := hkp_75.put hr_80
  clear hh_79
  refine lv_aload_n hx hb dX5_init_80 rfl (lv_at hl 0 rfl) ?_
  refine lv_iconst (v := 1) hx hb dX5_init_81 (by decide) ?_
  have hsz_82 := hh_80.2.2.2.2.2.1
  have htt_82 := hh_80.2.2.2.2.2.2.1
  refine j7_newiK hx hb hK hh_80 hB (atype := .int) (ty := .int) (htw (.arrayClass .int) (jWr_3 _ (List.mem_of_getElem? (i := 20) rfl))) rfl rfl (fun _ h => h) hB280 1 rfl (by decide) (by decide) hbs (x := 1) (by decide) (by omega) (fun j => by first | trivial | decide | rfl | exact Or.inl rfl | (refine ⟨?_, ?_⟩ <;> decide)) (by rw [hRc]; omega) (by rw [hRs]; omega) dX5_init_82 (fun H_82 hfr_82 hh_82 => ?_)
  have hh_82 : jSt (dC, dI) B base G0 (va_up G_74 H_80.size (some (280, 1))) EX5_init s.heap ((((((((((((0 + 1) + (4)) + 1) + (4)) + 1) + (6)) + 1) + 1) + 1) + 1) + 1) + 1) ((((((((((((0 + 4) + (32903)) + 11) + (6003)) + 9) + (0)) + 13) + 13) + 1) + 13) + 13) + 1) [] [] [(jFs11, jSef dC dI G_74)] H_82 locs_80 := hh_82
  have hM_82 : jNk [11] G_74 (va_up G_74 H_80.size (some (280, 1))) := jNk.new (by decide)
  have hN_82 : (jNk [0, 1, 2, 3, 4, 5, 6, 9, 10, 13, 14, 15, 16]) G_74 (va_up G_74 H_80.size (some (280, 1))) := jNk.new (by decide)
  have hgn_82 : (va_up G_74 H_80.size (some (280, 1))) H_80.size = some (280, 1) := jUp_self
  have hle_82 : jLe G_74 (va_up G_74 H_80.size (some (280, 1))) := jLe.new hh_80.2.1.fresh
  have hke_82 : jKe G_74 (va_up G_74 H_80.size (some (280, 1))) H_80 H_82 := jKe.new hfr_82
  have hsy_82 : s.heap.size ≤ H_80.size := hh_80.1.1
  generalize (va_up G_74 H_80.size (some (280, 1))) = G_82 at hN_82 hgn_82 hle_82 hke_82 hh_82 hM_82
  clear hh_80
  have hNn_82 : (jNk [0, 1, 2, 3, 4, 5, 6, 9, 10, 13, 14, 15, 16]) G0 G_82 := (hNn_74).tr hN_82
  have hkp_83 := hkp_81.tr hke_82
  have hraw_84n := hke_82.nr hraw_80.lt hraw_76n
  have hraw_84 := hraw_80.kept (hke_82.1 _ hraw_80.lt)
  have hd_85 := jSef.grow (hh_82.iv 0 rfl) hle_82 hM_82 (by decide)
  have hh_86 := hh_82.sub (L1 := []) [] rfl (M1 := []) [] rfl (I1 := []) [] rfl
  clear hh_82
  have hh_87 := hh_86.addI (jSef.ie hd_85)
  clear hh_86
  refine j7_putRF hx hb hown hK hh_87 hB hAp hraw_84 hraw_84n hbr0 (C := RX5) (T := TX5) (N := 11) rfl (i := 8) (by decide) (Nat.le_of_ble_eq_true rfl) hly_7_8 rfl hin2 rfl hlk_50 (ty := (.array .int)) (v := .ref H_80.size) (by decide +kernel) rfl rfl dX5_init_84 (fun H_88 locs_88 hraw_88 hr_88 hh_88 => ?_)
  have hraw_88 : va_at (dC, dI) vwCl (r0, .inr (7, [.ref s.heap.size, .ref H_13.size, .ref H_28.size, .ref H_40.size, .ref H_48.size, .ref H_56.size, .ref H_64.size, .ref H_72.size, .ref H_80.size, .null, .int 0])) H_88 := hraw_88
  have hkp_89 := hkp_83.put hr_88
  clear hh_87
  refine lv_aload_n hx hb dX5_init_87 rfl (lv_at hl 0 rfl) ?_
  refine lv_bipush (v := 6) hx hb dX5_init_88 (by decide) ?_
  have hsz_90 := hh_88.2.2.2.2.2.1
  have htt_90 := hh_88.2.2.2.2.2.2.1
  have hsy_90 : s.heap.size ≤ H_88.size := hh_88.1.1
  refine j7_newqK hx hb hown (htw (.classLink RX5 53 RX3) (jWr_5 _ (List.mem_of_getElem? (i := 2) rfl))) hK6.2.2.2 hK2 hh_88 hB hB211 3 rfl (by decide) hbs (x := 6) (by decide) (by omega) (fun _ => Or.inl rfl) (by rw [hRc]; omega) (by rw [hRs]; omega) dX5_init_90 (fun H_90 hfr_90 hh_90 hqn_90 => ?_)
  have hh_90 : jSt (dC, dI) B base G0 (va_up G_82 H_88.size (some (211, 6))) EX5_init s.heap (((((((((((((0 + 1) + (4)) + 1) + (4)) + 1) + (6)) + 1) + 1) + 1) + 1) + 1) + 1) + 1) (((((((((((((0 + 4) + (32903)) + 11) + (6003)) + 9) + (0)) + 13) + 13) + 1) + 13) + 13) + 1) + 6) [] [] [(jFs11, jSef dC dI G_82)] H_90 locs_88 := hh_90
  have hM_90 : jNk [11] G_82 (va_up G_82 H_88.size (some (211, 6))) := jNk.new (by decide)
  have hN_90 : (jNk [0, 1, 2, 3, 4, 5, 6, 9, 10, 13, 14, 15, 16]) G_82 (va_up G_82 H_88.size (some (211, 6))) := jNk.new (by decide)
  have hgn_90 : (va_up G_82 H_88.size (some (211, 6))) H_88.size = some (211, 6) := jUp_self
  have hle_90 : jLe G_82 (va_up G_82 H_88.size (some (211, 6))) := jLe.new hh_88.2.1.fresh
  have hke_90 : jKe G_82 (va_up G_82 H_88.size (some (211, 6))) H_88 H_90 := jKe.new hfr_90
  have hsy_90 : s.heap.size ≤ H_88.size := hh_88.1.1
  generalize (va_up G_82 H_88.size (some (211, 6))) = G_90 at hN_90 hgn_90 hle_90 hke_90 hh_90 hM_90
  clear hh_88
  have hNn_90 : (jNk [0, 1, 2, 3, 4, 5, 6, 9, 10, 13, 14, 15, 16]) G0 G_90 := (hNn_82).tr hN_90
  have hkp_91 := hkp_89.tr hke_90
  have hraw_92n := hke_90.nr hraw_88.lt hraw_84n
  have hraw_92 := hraw_88.kept (hke_90.1 _ hraw_88.lt)
  have hd_93 := jSef.grow (hh_90.iv 0 rfl) hle_90 hM_90 (by decide)
  have hh_94 := hh_90.sub (L1 := []) [] rfl (M1 := []) [] rfl (I1 := []) [] rfl
  clear hh_90
  have hh_95 := hh_94.addI (jSef.ie hd_93)
  clear hh_94
  refine j7_putRF hx hb hown hK hh_95 hB hAp hraw_92 hraw_92n hbr0 (C := RX5) (T := TX5) (N := 11) rfl (i := 9) (by decide) (Nat.le_of_ble_eq_true rfl) hly_7_9 rfl hin2 rfl hlk_55 (ty := (.array (.object "ProofServer$Goal"))) (v := .ref H_88.size) (by decide +kernel) rfl rfl dX5_init_93 (fun H_96 locs_96 hraw_96 hr_96 hh_96 => ?_)
  have hraw_96 : va_at (dC, dI) vwCl (r0, .inr (7, [.ref s.heap.size, .ref H_13.size, .ref H_28.size, .ref H_40.size, .ref H_48.size, .ref H_56.size, .ref H_64.size, .ref H_72.size, .ref H_80.size, .ref H_88.size, .int 0])) H_96 := hraw_96
  have hkp_97 := hkp_91.put hr_96
  clear hh_95
  have hsz_98 := hh_96.2.2.2.2.2.1
  have htt_98 := hh_96.2.2.2.2.2.2.1
  refine W.room (fun hrc_98 hrs_98 => ?_)
  refine W.widen (k := LC - s.heap.size) (n := LS - jTot s.heap) (by omega) (by omega) ?_
  rw [hQ]
  have hle_99 : jLe G_90 (va_up G_90 r0 (some (7, 0))) := jLe.typ hraw_92n
  have hg_100 := (((((((((hb_212).tr hb_352).tr hle_42).tr hle_50).tr hle_58).tr hle_66).tr hle_74).tr hle_82).tr hle_90).tr hle_99 _ _ hgc_6
  have hg_101 := ((((((((hb_352).tr hle_42).tr hle_50).tr hle_58).tr hle_66).tr hle_74).tr hle_82).tr hle_90).tr hle_99 _ _ hgc_21
  have hg_102 := (((((((hle_42).tr hle_50).tr hle_58).tr hle_66).tr hle_74).tr hle_82).tr hle_90).tr hle_99 _ _ hgc_35
  have hg_103 := ((((((hle_50).tr hle_58).tr hle_66).tr hle_74).tr hle_82).tr hle_90).tr hle_99 _ _ hgn_42
  have hg_104 := (((((hle_58).tr hle_66).tr hle_74).tr hle_82).tr hle_90).tr hle_99 _ _ hgn_50
  have hg_105 := ((((hle_66).tr hle_74).tr hle_82).tr hle_90).tr hle_99 _ _ hgn_58
  have hg_106 := (((hle_74).tr hle_82).tr hle_90).tr hle_99 _ _ hgn_66
  have hg_107 := ((hle_82).tr hle_90).tr hle_99 _ _ hgn_74
  have hg_108 := (hle_90).tr hle_99 _ _ hgn_82
  have hg_109 := (jLe.rf).tr hle_99 _ _ hgn_90
  have hfa_99 : jRf (va_up G_90 r0 (some (7, 0))) 8 0 (.ref s.heap.size) ∧ jRf (va_up G_90 r0 (some (7, 0))) 12 0 (.ref H_13.size) ∧ jRf (va_up G_90 r0 (some (7, 0))) 11 0 (.ref H_28.size) ∧ jRf (va_up G_90 r0 (some (7, 0))) 101 13 (.ref H_40.size) ∧ jRf (va_up G_90 r0 (some (7, 0))) 101 13 (.ref H_48.size) ∧ jRk (va_up G_90 r0 (some (7, 0))) 280 3000 (.ref H_56.size) ∧ jRf (va_up G_90 r0 (some (7, 0))) 290 13 (.ref H_64.size) ∧ jRf (va_up G_90 r0 (some (7, 0))) 291 13 (.ref H_72.size) ∧ jRf (va_up G_90 r0 (some (7, 0))) 280 1 (.ref H_80.size) ∧ jRf (va_up G_90 r0 (some (7, 0))) 211 6 (.ref H_88.size) ∧ jI 0 1000000 (.int 0) ∧ True := ⟨⟨_, rfl, hg_100⟩, ⟨_, rfl, hg_101⟩, ⟨_, rfl, hg_102⟩, ⟨_, rfl, hg_103⟩, ⟨_, rfl, hg_104⟩, ⟨_, _, rfl, hg_105, by omega⟩, ⟨_, rfl, hg_106⟩, ⟨_, rfl, hg_107⟩, ⟨_, rfl, hg_108⟩, ⟨_, rfl, hg_109⟩, ⟨_, rfl, by omega, by omega⟩, trivial⟩
  have hh_99 := hh_96.typ (k := 7) (n := 0) hB hraw_92n hbr0 hraw_96.lt (jOb.of (C := RX5) (T := TX5) (N := 11) (F := F7) hB7 rfl hraw_96 (show jFx (F7 0 (va_up G_90 r0 (some (7, 0)))) [.ref s.heap.size, .ref H_13.size, .ref H_28.size, .ref H_40.size, .ref H_48.size, .ref H_56.size, .ref H_64.size, .ref H_72.size, .ref H_80.size, .ref H_88.size, .int 0] from hfa_99))
  have hgn_99 : (va_up G_90 r0 (some (7, 0))) r0 = some (7, 0) := jUp_self
  have hN_99 : (jNk [0, 1, 2, 3, 4, 5, 6, 9, 10, 13, 14, 15, 16]) G_90 (va_up G_90 r0 (some (7, 0))) := jNk.new (by decide)
  have hNn_99 : (jNk [0, 1, 2, 3, 4, 5, 6, 9, 10, 13, 14, 15, 16]) G0 (va_up G_90 r0 (some (7, 0))) := (hNn_90).tr hN_99
  have hkp_110 := hkp_97.typ (t := some (7, 0))
  have hM_99 : jNk [11] G_90 (va_up G_90 r0 (some (7, 0))) := jNk.new (by decide)
  have hd_111 := jSef.grow (hh_99.iv 0 rfl) hle_99 hM_99 (by decide)
  have hh_112 := hh_99.sub (L1 := []) [] rfl (M1 := []) [] rfl (I1 := []) [] rfl
  clear hh_99
  have hh_113 := hh_112.addI (jSef.ie hd_111)
  clear hh_112
  exact W.vret hx hb hr (fun t ht hW => ⟨⟨(va_up G_90 r0 (some (7, 0))), rfl, trivial, ⟨hh_113.ra (by first | omega | (simp only; omega)) (by first | omega | (simp only; omega)) (M1 := []) [] rfl ht, hNn_99, hgn_99, by rw [ht]; exact hkp_110, by rw [ht]; exact hh_113.2.2.2.2.2.2.2.2.sub (L1 := [(jFs11, jSef dC dI (va_up G_90 r0 (some (7, 0))))]) [0] rfl⟩⟩, by rw [ht]; try exact hh_113.1.1, fun q h9 hq => by rw [ht]; try exact hh_113.1.2.1 q h9 hq⟩) hh_113.1.2.2 dX5_init_96
end
