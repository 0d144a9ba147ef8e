section
theorem jT92 : ∀ w ∈ jTl92, w ∈ jWl := fun w h => jT91 w (List.mem_append_right _ h)
theorem jT93 : ∀ w ∈ jTl93, w ∈ jWl := fun w h => jT92 w (List.mem_append_right _ h)
theorem jWr_8 : ∀ w ∈ wsL_law_r8, w ∈ jWl := fun w h => jT8 w (List.mem_append_left _ h)
theorem jWr_9 : ∀ w ∈ wsL_law_r9, w ∈ jWl := fun w h => jT9 w (List.mem_append_left _ h)
theorem jWr_30 : ∀ w ∈ wsL_law_r30, w ∈ jWl := fun w h => jT30 w (List.mem_append_left _ h)
theorem jWr_31 : ∀ w ∈ wsL_law_r31, w ∈ jWl := fun w h => jT31 w (List.mem_append_left _ h)
theorem jWr_32 : ∀ w ∈ wsL_law_r32, w ∈ jWl := fun w h => jT32 w (List.mem_append_left _ h)
theorem jWr_33 : ∀ w ∈ wsL_law_r33, w ∈ jWl := fun w h => jT33 w (List.mem_append_left _ h)
theorem jWr_93 : ∀ w ∈ wsL_law_r93, w ∈ jWl := fun w h => jT93 w (List.mem_append_left _ h)
theorem jWc_wsX50 : ∀ w ∈ wsX50, w ∈ jWl := fun w h => (List.mem_append_left _ (List.mem_append_left _ (List.mem_append_left _ (List.mem_append_left _ (List.mem_append_left _ (List.mem_append_left _ (List.mem_append_left _ (List.mem_append_left _ (List.mem_append_left _ (List.mem_append_left _ (List.mem_append_left _ (List.mem_append_left _ (List.mem_append_right _ h)))))))))))))
theorem jWc_wsX70 : ∀ w ∈ wsX70, w ∈ jWl := fun w h => (List.mem_append_left _ (List.mem_append_left _ (List.mem_append_left _ (List.mem_append_left _ (List.mem_append_left _ (List.mem_append_left _ (List.mem_append_left _ (List.mem_append_left _ (List.mem_append_left _ (List.mem_append_left _ (List.mem_append_left _ (List.mem_append_right _ h))))))))))))
theorem jWc_wsX60 : ∀ w ∈ wsX60, w ∈ jWl := fun w h => (List.mem_append_left _ (List.mem_append_left _ (List.mem_append_left _ (List.mem_append_left _ (List.mem_append_left _ (List.mem_append_left _ (List.mem_append_left _ (List.mem_append_left _ (List.mem_append_right _ h)))))))))
theorem jWc_wsX30 : ∀ w ∈ wsX30, w ∈ jWl := fun w h => (List.mem_append_left _ (List.mem_append_right _ h))
end
section
-- the refined heap: every field of a typed object holds a value of its own predicate, every element of a typed array too; what is known of a field just now is a pin (address, kind, field, value)
section J7
variable {p : Program} {l : Launch} {e : Env} {R : Room} {s : State} {m : MethodId} {args : Array Value} {below : List Frame} {meth : Method} {c : Code} {H : Heap} {locs : List Loc} {cells slots : Nat} {Q : State → Prop}
variable {cc : ByteArray} {pc : Nat} {ls : Array Slot} {rest : List Value} {dC : Nat → ClassId} {dI : Nat → Nat → Nat} {ca : Nat → ClassId} {B : jF} {base : Nat} {G0 G : jT} {E : List (Nat × Nat)} {H0 : Heap} {zc zs : Nat} {L : List jPin} {M : List jCt} {I : List jIv} {a k n i index N : Nat} {tys : List (ClassId × FieldType)} {own C : String} {T : u_T}
end J7
section J8
variable {p : Program} {l : Launch} {e : Env} {R : Room} {s : State} {m : MethodId} {args : Array Value} {below : List Frame} {meth : Method} {c : Code} {H : Heap} {locs : List Loc} {cells slots : Nat} {Q : State → Prop}
variable {cc : ByteArray} {pc : Nat} {ls : Array Slot} {rest : List Value} {dC : Nat → ClassId} {dI : Nat → Nat → Nat} {ca : Nat → ClassId} {B : jF} {base : Nat} {G0 G : jT} {E : List (Nat × Nat)} {H0 : Heap} {zc zs : Nat} {L : List jPin} {M : List jCt} {I : List jIv} {a k n : Nat} {P : Nat → Int32 → Prop} {cA : ClassId} {tys : List (ClassId × FieldType)}
theorem j7_lald (hexec : p.tables.exec = Jvm.exec) (hb : c.code = cc) (hK : va_K (dC, dI) vwCl tys s) (hh : jSt (dC, dI) B base G0 G E H0 zc zs L M I H locs) (hBk : ∀ n G a H, B k n G a H ↔ jAl (dC, dI) cA n a H) (t0 : Nat) (ht : tys[t0]? = some (cA, .long)) (hk : k < 1000) (ha : G a = some (k, n)) {i : Int32} {x : Int} (hi : i.toInt = x) (h12 : 0 ≤ x ∧ x < n) (hdg : decode cc pc = .ok (.laload, 1))
    (kk : ∀ z : Int64, W p l e R s m args below meth c H locs cells slots Q (F0 m (pc + 1) ls (.long z :: rest))) : W p l e R s m args below meth c H locs cells slots Q (F0 m pc ls (.int i :: .ref a :: rest)) := by
  obtain ⟨h1, h2⟩ := h12
  obtain ⟨f, g1⟩ := hh.al hBk hk ha
  exact va_lald hexec hb hK (jp_one g1) 0 t0 rfl ht (jb_in hi h1 h2) hdg (kk _)
end J8
end
section
-- arrays of references
section J10
variable {p : Program} {l : Launch} {e : Env} {R : Room} {s : State} {m : MethodId} {args : Array Value} {below : List Frame} {meth : Method} {c : Code} {H : Heap} {locs : List Loc} {cells slots : Nat} {Q : State → Prop}
variable {cc : ByteArray} {pc : Nat} {ls : Array Slot} {rest : List Value} {dC : Nat → ClassId} {dI : Nat → Nat → Nat} {ca : Nat → ClassId} {B : jF} {base : Nat} {G0 G : jT} {E : List (Nat × Nat)} {H0 : Heap} {zc zs : Nat} {L : List jPin} {M : List jCt} {I : List jIv} {a k n : Nat} {P : jT → Option Nat → Prop} {cA : ClassId} {tys : List (ClassId × FieldType)} {C : String}
theorem j7_qlen (hexec : p.tables.exec = Jvm.exec) (hb : c.code = cc) (hK : va_K (dC, dI) vwCl tys s) (hh : jSt (dC, dI) B base G0 G E H0 zc zs L M I H locs) (hBk : ∀ n G a H, B k n G a H ↔ jAq (dC, dI) cA P n G a H) (t0 : Nat) {ty : FieldType} (ht : tys[t0]? = some (cA, ty)) (hk : k < 1000) (ha : G a = some (k, n)) (hn : n < 2147483648) (hdg : decode cc pc = .ok (.arraylength, 1))
    (kk : ∀ z : Int32, z.toInt = n → W p l e R s m args below meth c H locs cells slots Q (F0 m (pc + 1) ls (.int z :: rest))) : W p l e R s m args below meth c H locs cells slots Q (F0 m pc ls (.ref a :: rest)) := by
  obtain ⟨f, h1, -⟩ := hh.aq hBk hk ha
  exact va_alen (v := Int32.ofNat n) hexec hb hK (jp_one h1) 0 t0 rfl ht rfl hdg (kk _ (jb_nat hn))
end J10
end
section
theorem dX9_find_0 : decode cX9_find 0 = .ok (.iconst 0, 1) := by decide +kernel
theorem dX9_find_1 : decode cX9_find 1 = .ok (.istore_n 2, 1) := by decide +kernel
theorem dX9_find_2 : decode cX9_find 2 = .ok (.iload_n 2, 1) := by decide +kernel
theorem dX9_find_3 : decode cX9_find 3 = .ok (.aload_n 0, 1) := by decide +kernel
theorem dX9_find_4 : decode cX9_find 4 = .ok (.arraylength, 1) := by decide +kernel
theorem dX9_find_5 : decode cX9_find 5 = .ok (.if_icmp .ge 18, 3) := by decide +kernel
theorem dX9_find_8 : decode cX9_find 8 = .ok (.aload_n 0, 1) := by decide +kernel
theorem dX9_find_9 : decode cX9_find 9 = .ok (.iload_n 2, 1) := by decide +kernel
theorem dX9_find_10 : decode cX9_find 10 = .ok (.iaload, 1) := by decide +kernel
theorem dX9_find_11 : decode cX9_find 11 = .ok (.iload_n 1, 1) := by decide +kernel
theorem dX9_find_12 : decode cX9_find 12 = .ok (.if_icmp .ne 5, 3) := by decide +kernel
theorem dX9_find_15 : decode cX9_find 15 = .ok (.iload_n 2, 1) := by decide +kernel
theorem dX9_find_16 : decode cX9_find 16 = .ok (.ireturn, 1) := by decide +kernel
theorem dX9_find_17 : decode cX9_find 17 = .ok (.iinc 2 1, 3) := by decide +kernel
theorem dX9_find_20 : decode cX9_find 20 = .ok (.goto (-18), 3) := by decide +kernel
theorem dX9_find_23 : decode cX9_find 23 = .ok (.iconst (-1), 1) := by decide +kernel
theorem dX9_find_24 : decode cX9_find 24 = .ok (.ireturn, 1) := by decide +kernel
theorem dX11_endOf_0 : decode cX11_endOf 0 = .ok (.iconst 1, 1) := by decide +kernel
theorem dX11_endOf_1 : decode cX11_endOf 1 = .ok (.istore_n 3, 1) := by decide +kernel
theorem dX11_endOf_2 : decode cX11_endOf 2 = .ok (.iload_n 1, 1) := by decide +kernel
theorem dX11_endOf_3 : decode cX11_endOf 3 = .ok (.istore 4, 2) := by decide +kernel
theorem dX11_endOf_5 : decode cX11_endOf 5 = .ok (.iload 4, 2) := by decide +kernel
theorem dX11_endOf_7 : decode cX11_endOf 7 = .ok (.iload_n 2, 1) := by decide +kernel
theorem dX11_endOf_8 : decode cX11_endOf 8 = .ok (.if_icmp .ge 95, 3) := by decide +kernel
theorem dX11_endOf_11 : decode cX11_endOf 11 = .ok (.iload 4, 2) := by decide +kernel
theorem dX11_endOf_13 : decode cX11_endOf 13 = .ok (.aload_n 0, 1) := by decide +kernel
theorem dX11_endOf_14 : decode cX11_endOf 14 = .ok (.arraylength, 1) := by decide +kernel
theorem dX11_endOf_15 : decode cX11_endOf 15 = .ok (.if_icmp .ge 88, 3) := by decide +kernel
theorem dX11_endOf_18 : decode cX11_endOf 18 = .ok (.iload_n 3, 1) := by decide +kernel
theorem dX11_endOf_19 : decode cX11_endOf 19 = .ok (.ifCond .le 84, 3) := by decide +kernel
theorem dX11_endOf_22 : decode cX11_endOf 22 = .ok (.aload_n 0, 1) := by decide +kernel
theorem dX11_endOf_23 : decode cX11_endOf 23 = .ok (.iload 4, 2) := by decide +kernel
theorem dX11_endOf_25 : decode cX11_endOf 25 = .ok (.iaload, 1) := by decide +kernel
theorem dX11_endOf_26 : decode cX11_endOf 26 = .ok (.bipush 15, 2) := by decide +kernel
theorem dX11_endOf_28 : decode cX11_endOf 28 = .ok (.iand, 1) := by decide +kernel
theorem dX11_endOf_29 : decode cX11_endOf 29 = .ok (.istore 5, 2) := by decide +kernel
theorem dX11_endOf_31 : decode cX11_endOf 31 = .ok (.iload 5, 2) := by decide +kernel
theorem dX11_endOf_33 : decode cX11_endOf 33 = .ok (.iconst 1, 1) := by decide +kernel
theorem dX11_endOf_34 : decode cX11_endOf 34 = .ok (.if_icmp .lt 15, 3) := by decide +kernel
theorem dX11_endOf_37 : decode cX11_endOf 37 = .ok (.iload 5, 2) := by decide +kernel
theorem dX11_endOf_39 : decode cX11_endOf 39 = .ok (.iconst 4, 1) := by decide +kernel
theorem dX11_endOf_40 : decode cX11_endOf 40 = .ok (.if_icmp .gt 9, 3) := by decide +kernel
theorem dX11_endOf_43 : decode cX11_endOf 43 = .ok (.iinc 3 1, 3) := by decide +kernel
theorem dX11_endOf_46 : decode cX11_endOf 46 = .ok (.goto 51, 3) := by decide +kernel
theorem dX11_endOf_49 : decode cX11_endOf 49 = .ok (.iload 5, 2) := by decide +kernel
theorem dX11_endOf_51 : decode cX11_endOf 51 = .ok (.bipush 7, 2) := by decide +kernel
theorem dX11_endOf_53 : decode cX11_endOf 53 = .ok (.if_icmp .eq 10, 3) := by decide +kernel
theorem dX11_endOf_56 : decode cX11_endOf 56 = .ok (.iload 5, 2) := by decide +kernel
theorem dX11_endOf_58 : decode cX11_endOf 58 = .ok (.bipush 8, 2) := by decide +kernel
theorem dX11_endOf_60 : decode cX11_endOf 60 = .ok (.if_icmp .ne 21, 3) := by decide +kernel
theorem dX11_endOf_63 : decode cX11_endOf 63 = .ok (.iload_n 3, 1) := by decide +kernel
theorem dX11_endOf_64 : decode cX11_endOf 64 = .ok (.aload_n 0, 1) := by decide +kernel
theorem dX11_endOf_65 : decode cX11_endOf 65 = .ok (.iload 4, 2) := by decide +kernel
theorem dX11_endOf_67 : decode cX11_endOf 67 = .ok (.iaload, 1) := by decide +kernel
theorem dX11_endOf_68 : decode cX11_endOf 68 = .ok (.iconst 4, 1) := by decide +kernel
theorem dX11_endOf_69 : decode cX11_endOf 69 = .ok (.ishr, 1) := by decide +kernel
theorem dX11_endOf_70 : decode cX11_endOf 70 = .ok (.sipush 2047, 3) := by decide +kernel
theorem dX11_endOf_73 : decode cX11_endOf 73 = .ok (.iand, 1) := by decide +kernel
theorem dX11_endOf_74 : decode cX11_endOf 74 = .ok (.iconst 1, 1) := by decide +kernel
theorem dX11_endOf_75 : decode cX11_endOf 75 = .ok (.isub, 1) := by decide +kernel
theorem dX11_endOf_76 : decode cX11_endOf 76 = .ok (.iadd, 1) := by decide +kernel
theorem dX11_endOf_77 : decode cX11_endOf 77 = .ok (.istore_n 3, 1) := by decide +kernel
theorem dX11_endOf_78 : decode cX11_endOf 78 = .ok (.goto 19, 3) := by decide +kernel
theorem dX11_endOf_81 : decode cX11_endOf 81 = .ok (.iload 5, 2) := by decide +kernel
theorem dX11_endOf_83 : decode cX11_endOf 83 = .ok (.iconst 5, 1) := by decide +kernel
theorem dX11_endOf_84 : decode cX11_endOf 84 = .ok (.if_icmp .eq 13, 3) := by decide +kernel
theorem dX11_endOf_87 : decode cX11_endOf 87 = .ok (.iload 5, 2) := by decide +kernel
theorem dX11_endOf_89 : decode cX11_endOf 89 = .ok (.bipush 6, 2) := by decide +kernel
theorem dX11_endOf_91 : decode cX11_endOf 91 = .ok (.if_icmp .eq 6, 3) := by decide +kernel
theorem dX11_endOf_94 : decode cX11_endOf 94 = .ok (.iinc 3 (-1), 3) := by decide +kernel
theorem dX11_endOf_97 : decode cX11_endOf 97 = .ok (.iinc 4 1, 3) := by decide +kernel
theorem dX11_endOf_100 : decode cX11_endOf 100 = .ok (.goto (-95), 3) := by decide +kernel
theorem dX11_endOf_103 : decode cX11_endOf 103 = .ok (.iload 4, 2) := by decide +kernel
theorem dX11_endOf_105 : decode cX11_endOf 105 = .ok (.ireturn, 1) := by decide +kernel
def EX9_find : List (Nat × Nat) := []
set_option maxHeartbeats 4000000 in
set_option maxRecDepth 20000 in
theorem uX9_find (l : Launch) (dC : Nat → ClassId) (dI : Nat → Nat → Nat) (ca : Nat → ClassId) (base : Nat) (B : jF) (hB : jBok B) (hAp : jAp (dC, dI)) (hB101 : ∀ n G a H, B 101 n G a H ↔ jAr (dC, dI) (ca 1) (fun j z => True) n a H) (G0 : jT) (H0 : Heap) (r0 : Nat) (a1 : Int32) (n0 : Nat) : Met l yX9_find (jw yX9_find cX9_find 3 (some .int)) ({ frames := 0, cells := 0, slots := 0, locals := 0 }) (va_Pc [.ref r0, .int a1] (fun U => U.heap = H0 ∧ jX B base G0 [] H0 ∧ jG dC dI ca base U ∧ G0 r0 = some (101, n0) ∧ jP (dC, dI) G0 H0 [] ∧ n0 < 2147483648)) (va_Qi (S := Unit) (fun r u => (-1 ≤ r.toInt ∧ r.toInt < n0)) (fun u t => jRt (dC, dI) B base G0 EX9_find H0 [] t.heap) (jA base)) 0 0 (jA base) := by
  refine Met.ofW (cc := cX9_find) (maxL := 3) (ret := (some .int)) (by decide) rfl ?_
  intro p e s m args below meth c s₁ Bd hml hv
  obtain ⟨rfl, hH0, hX, hG, hg_r0, hP0, hp0⟩ := hv
  have hK := hG.1
  have hx := Bd.exec
  have hb := Bd.bytes
  have hr := Bd.returns
  have hts := atoms_spec (ws := (jw yX9_find cX9_find 3 (some .int))) Bd.pre
  have htw : ∀ w ∈ jWl, w.before _ s = true := fun w h => hts w (List.mem_cons_of_mem _ h)
  have hown : s.vm.findClass RX9 = some m.cls := findClass_of_methodNamed Bd.named
  have hlocks := Bd.notSynchronized
  obtain ⟨Q, hQ⟩ : ∃ Q, Q = MQ below (va_Qi (S := Unit) (fun r u => (-1 ≤ r.toInt ∧ r.toInt < n0)) (fun u t => jRt (dC, dI) B base G0 EX9_find H0 [] t.heap) (jA base)) ([.ref r0, .int a1] : List Value).toArray s 0 0 (jA base) := ⟨_, rfl⟩
  rw [← hQ]
  have hl := lv_entry ([.ref r0, .int a1]) (n := 3) (Nat.le_of_ble_eq_true rfl)
  rw [lg_entry_eq]
  generalize (lg_sl ([.ref r0, .int a1]) ++ List.replicate (3 - (lg_sl ([.ref r0, .int a1])).length) Slot.unset).toArray = ls at hl ⊢
  have hl : lv_has ls 3 [(0, .ref r0), (1, .int a1)] := hl
  generalize hR : (headSpec (jw yX9_find cX9_find 3 (some .int)) ({ frames := 0, cells := 0, slots := 0, locals := 0 })).room = R
  subst hH0
  have hh : jSt (dC, dI) B base G0 G0 EX9_find s.heap 0 0 [] [] [] s.heap [] := jSt.start hX hP0 jMc.nil jIs.nil
  clear hX hP0
  have hkm1 : ((-1) : Int32).toInt = (-1) := by decide
  have hk0 : (0 : Int32).toInt = 0 := by decide
  have hk1 : (1 : Int32).toInt = 1 := by decide
  have hrg_a1 := jb_rng a1
  refine lv_iconst (v := 0) hx hb dX9_find_0 (by decide) ?_
  refine lv_istore_n (lv' := [(2, .int 0), (0, .ref r0), (1, .int a1)]) hx hb dX9_find_1 rfl hl (by decide) rfl (fun ls hl => ?_)
  have L2 : ∀ (N : Nat) (v2_1 : Int32) (H_1 : Heap) (locs_1 : List Loc), jSt (dC, dI) B base G0 G0 EX9_find s.heap 0 0 [] [] [] H_1 locs_1 → (0 ≤ v2_1.toInt ∧ v2_1.toInt ≤ n0) → (n0 - v2_1.toInt : Int) < N → ∀ ls : Array Slot, lv_has ls 3 [(0, .ref r0), (1, .int a1), (2, .int v2_1)] → W p l e R s m ([.ref r0, .int a1] : List Value).toArray below meth c H_1 locs_1 0 0 Q (F0 m 2 ls []) := by
    intro N
    induction N with
    | zero => intro v2_1 H_1 locs_1 hh_1  hi_1 hm; exact absurd hm (by omega)
    | succ N L2 =>
      intro v2_1 H_1 locs_1 hh_1  hi_1 hm_1 ls hl
      obtain ⟨hi_1_0, hi_1_1⟩ := hi_1
      refine lv_iload_n hx hb dX9_find_2 rfl (lv_at hl 2 rfl) ?_
      refine lv_aload_n hx hb dX9_find_3 rfl (lv_at hl 0 rfl) ?_
      refine j7_len hx hb hK hh_1 hB101 1 rfl (by decide) hg_r0 (by omega) dX9_find_4 (fun z_2 hz_2 => ?_)
      refine lv_icmp_ge (tgt := 23) hx hb dX9_find_5 (by decide) (fun c_3 => ?_) (fun c_3 => ?_)
      · skip
        have c_3' : v2_1.toInt ≥ z_2.toInt := jb_ge (rfl) (rfl) c_3
        refine lv_iconst (v := (-1)) hx hb dX9_find_23 (by decide) ?_
        rw [hQ]
        exact W.iret (v := (-1)) hx hb hr (fun t ht hW => ⟨⟨(-1), (), rfl, by first | omega | (refine ⟨?_, ?_⟩ <;> (first | omega | rfl | assumption | decide | exact Or.inl rfl | exact Or.inr rfl | (simp only; omega))), hh_1.rt (M1 := []) [] rfl ht⟩, by rw [ht]; try exact hh_1.1.1, fun q h9 hq => by rw [ht]; try exact hh_1.1.2.1 q h9 hq⟩) hh_1.1.2.2 dX9_find_24
      · skip
        have c_3' : v2_1.toInt < z_2.toInt := jb_ge_n (rfl) (rfl) c_3
        refine lv_aload_n hx hb dX9_find_8 rfl (lv_at hl 0 rfl) ?_
        refine lv_iload_n hx hb dX9_find_9 rfl (lv_at hl 2 rfl) ?_
        refine j7_iald hx hb hK hh_1 hB101 1 rfl (by decide) hg_r0 (x := v2_1.toInt) (rfl) (by omega) dX9_find_10 (fun z_4 (hz_4 : True) => ?_)
        refine lv_iload_n hx hb dX9_find_11 rfl (lv_at hl 1 rfl) ?_
        refine lv_icmp_ne (tgt := 17) hx hb dX9_find_12 (by decide) (fun c_5 => ?_) (fun c_5 => ?_)
        · skip
          have c_5' : z_4.toInt ≠ a1.toInt := jb_ne (rfl) (rfl) c_5
          obtain ⟨z_6, ez_6⟩ : ∃ y : Int32, y = v2_1 + 1 := ⟨_, rfl⟩
          refine lv_iinc (v := z_6) (lv' := [(2, .int z_6), (0, .ref r0), (1, .int a1)]) hx hb dX9_find_17 hl (k := 2) rfl (by rw [ez_6]; rfl) (by decide) rfl (fun ls hl => ?_)
          have hz_6 : z_6.toInt = v2_1.toInt + 1 := by rw [ez_6]; exact jb_iadd2 (rfl) (by decide) (by omega)
          refine lv_goto (tgt := 2) hx hb dX9_find_20 (by decide) ?_
          exact L2 z_6 _ _ hh_1 (by first | omega | (refine ⟨?_, ?_⟩ <;> (first | omega | rfl | assumption | decide | exact Or.inl rfl | exact Or.inr rfl | (simp only; omega)))) (by omega) _ (lv_sub hl [1, 2, 0] rfl)
        · skip
          have c_5' : z_4.toInt = a1.toInt := jb_ne_n (rfl) (rfl) c_5
          refine lv_iload_n hx hb dX9_find_15 rfl (lv_at hl 2 rfl) ?_
          rw [hQ]
          exact W.iret (v := v2_1) hx hb hr (fun t ht hW => ⟨⟨v2_1, (), rfl, by first | omega | (refine ⟨?_, ?_⟩ <;> (first | omega | rfl | assumption | decide | exact Or.inl rfl | exact Or.inr rfl | (simp only; omega))), hh_1.rt (M1 := []) [] rfl ht⟩, by rw [ht]; try exact hh_1.1.1, fun q h9 hq => by rw [ht]; try exact hh_1.1.2.1 q h9 hq⟩) hh_1.1.2.2 dX9_find_16
  exact L2 (n0 - (0 : Int32).toInt : Int).toNat.succ 0 _ _ hh (by first | omega | (refine ⟨?_, ?_⟩ <;> (first | omega | rfl | assumption | decide | exact Or.inl rfl | exact Or.inr rfl | (simp only; omega)))) (by omega) _ (lv_sub hl [1, 2, 0] rfl)
end
section
theorem dX7_push_0 : decode cX7_push 0 = .ok (.aload_n 0, 1) := by decide +kernel
theorem dX7_push_1 : decode cX7_push 1 = .ok (.getfield 103, 3) := by decide +kernel
theorem dX7_push_4 : decode cX7_push 4 = .ok (.aload_n 0, 1) := by decide +kernel
theorem dX7_push_5 : decode cX7_push 5 = .ok (.getfield 11, 3) := by decide +kernel
theorem dX7_push_8 : decode cX7_push 8 = .ok (.arraylength, 1) := by decide +kernel
theorem dX7_push_9 : decode cX7_push 9 = .ok (.if_icmp .ge 27, 3) := by decide +kernel
theorem dX7_push_12 : decode cX7_push 12 = .ok (.aload_n 0, 1) := by decide +kernel
theorem dX7_push_13 : decode cX7_push 13 = .ok (.getfield 11, 3) := by decide +kernel
theorem dX7_push_16 : decode cX7_push 16 = .ok (.aload_n 0, 1) := by decide +kernel
theorem dX7_push_17 : decode cX7_push 17 = .ok (.getfield 103, 3) := by decide +kernel
theorem dX7_push_20 : decode cX7_push 20 = .ok (.iload_n 2, 1) := by decide +kernel
theorem dX7_push_21 : decode cX7_push 21 = .ok (.iconst 2, 1) := by decide +kernel
theorem dX7_push_22 : decode cX7_push 22 = .ok (.ishl, 1) := by decide +kernel
theorem dX7_push_23 : decode cX7_push 23 = .ok (.iload_n 1, 1) := by decide +kernel
theorem dX7_push_24 : decode cX7_push 24 = .ok (.ior, 1) := by decide +kernel
theorem dX7_push_25 : decode cX7_push 25 = .ok (.iastore, 1) := by decide +kernel
theorem dX7_push_26 : decode cX7_push 26 = .ok (.aload_n 0, 1) := by decide +kernel
theorem dX7_push_27 : decode cX7_push 27 = .ok (.dup, 1) := by decide +kernel
theorem dX7_push_28 : decode cX7_push 28 = .ok (.getfield 103, 3) := by decide +kernel
theorem dX7_push_31 : decode cX7_push 31 = .ok (.iconst 1, 1) := by decide +kernel
theorem dX7_push_32 : decode cX7_push 32 = .ok (.iadd, 1) := by decide +kernel
theorem dX7_push_33 : decode cX7_push 33 = .ok (.putfield 103, 3) := by decide +kernel
theorem dX7_push_36 : decode cX7_push 36 = .ok (.return_, 1) := by decide +kernel
theorem dX7_pushJoined_0 : decode cX7_pushJoined 0 = .ok (.iload_n 2, 1) := by decide +kernel
theorem dX7_pushJoined_1 : decode cX7_pushJoined 1 = .ok (.iconst 1, 1) := by decide +kernel
theorem dX7_pushJoined_2 : decode cX7_pushJoined 2 = .ok (.iadd, 1) := by decide +kernel
theorem dX7_pushJoined_3 : decode cX7_pushJoined 3 = .ok (.istore 4, 2) := by decide +kernel
theorem dX7_pushJoined_5 : decode cX7_pushJoined 5 = .ok (.aload_n 1, 1) := by decide +kernel
theorem dX7_pushJoined_6 : decode cX7_pushJoined 6 = .ok (.iload 4, 2) := by decide +kernel
theorem dX7_pushJoined_8 : decode cX7_pushJoined 8 = .ok (.aload_n 1, 1) := by decide +kernel
theorem dX7_pushJoined_9 : decode cX7_pushJoined 9 = .ok (.arraylength, 1) := by decide +kernel
theorem dX7_pushJoined_10 : decode cX7_pushJoined 10 = .ok (.invokestatic 144, 3) := by decide +kernel
theorem dX7_pushJoined_13 : decode cX7_pushJoined 13 = .ok (.istore 5, 2) := by decide +kernel
theorem dX7_pushJoined_15 : decode cX7_pushJoined 15 = .ok (.iload 5, 2) := by decide +kernel
theorem dX7_pushJoined_17 : decode cX7_pushJoined 17 = .ok (.aload_n 1, 1) := by decide +kernel
theorem dX7_pushJoined_18 : decode cX7_pushJoined 18 = .ok (.arraylength, 1) := by decide +kernel
theorem dX7_pushJoined_19 : decode cX7_pushJoined 19 = .ok (.if_icmp .lt 4, 3) := by decide +kernel
theorem dX7_pushJoined_22 : decode cX7_pushJoined 22 = .ok (.return_, 1) := by decide +kernel
theorem dX7_pushJoined_23 : decode cX7_pushJoined 23 = .ok (.aload_n 1, 1) := by decide +kernel
theorem dX7_pushJoined_24 : decode cX7_pushJoined 24 = .ok (.iload_n 2, 1) := by decide +kernel
theorem dX7_pushJoined_25 : decode cX7_pushJoined 25 = .ok (.iaload, 1) := by decide +kernel
theorem dX7_pushJoined_26 : decode cX7_pushJoined 26 = .ok (.bipush 15, 2) := by decide +kernel
theorem dX7_pushJoined_28 : decode cX7_pushJoined 28 = .ok (.iand, 1) := by decide +kernel
theorem dX7_pushJoined_29 : decode cX7_pushJoined 29 = .ok (.istore 6, 2) := by decide +kernel
theorem dX7_pushJoined_31 : decode cX7_pushJoined 31 = .ok (.aload_n 1, 1) := by decide +kernel
theorem dX7_pushJoined_32 : decode cX7_pushJoined 32 = .ok (.iload 4, 2) := by decide +kernel
theorem dX7_pushJoined_34 : decode cX7_pushJoined 34 = .ok (.iaload, 1) := by decide +kernel
theorem dX7_pushJoined_35 : decode cX7_pushJoined 35 = .ok (.bipush 15, 2) := by decide +kernel
theorem dX7_pushJoined_37 : decode cX7_pushJoined 37 = .ok (.iand, 1) := by decide +kernel
theorem dX7_pushJoined_38 : decode cX7_pushJoined 38 = .ok (.istore 7, 2) := by decide +kernel
theorem dX7_pushJoined_40 : decode cX7_pushJoined 40 = .ok (.aload_n 1, 1) := by decide +kernel
theorem dX7_pushJoined_41 : decode cX7_pushJoined 41 = .ok (.iload 5, 2) := by decide +kernel
theorem dX7_pushJoined_43 : decode cX7_pushJoined 43 = .ok (.iaload, 1) := by decide +kernel
theorem dX7_pushJoined_44 : decode cX7_pushJoined 44 = .ok (.bipush 15, 2) := by decide +kernel
theorem dX7_pushJoined_46 : decode cX7_pushJoined 46 = .ok (.iand, 1) := by decide +kernel
theorem dX7_pushJoined_47 : decode cX7_pushJoined 47 = .ok (.istore 8, 2) := by decide +kernel
theorem dX7_pushJoined_49 : decode cX7_pushJoined 49 = .ok (.iload 7, 2) := by decide +kernel
theorem dX7_pushJoined_51 : decode cX7_pushJoined 51 = .ok (.iconst 1, 1) := by decide +kernel
theorem dX7_pushJoined_52 : decode cX7_pushJoined 52 = .ok (.if_icmp .eq 27, 3) := by decide +kernel
theorem dX7_pushJoined_55 : decode cX7_pushJoined 55 = .ok (.iload 7, 2) := by decide +kernel
theorem dX7_pushJoined_57 : decode cX7_pushJoined 57 = .ok (.iconst 3, 1) := by decide +kernel
theorem dX7_pushJoined_58 : decode cX7_pushJoined 58 = .ok (.if_icmp .ne 9, 3) := by decide +kernel
theorem dX7_pushJoined_61 : decode cX7_pushJoined 61 = .ok (.iload 6, 2) := by decide +kernel
theorem dX7_pushJoined_63 : decode cX7_pushJoined 63 = .ok (.iconst 1, 1) := by decide +kernel
theorem dX7_pushJoined_64 : decode cX7_pushJoined 64 = .ok (.if_icmp .ne 15, 3) := by decide +kernel
theorem dX7_pushJoined_67 : decode cX7_pushJoined 67 = .ok (.iload 7, 2) := by decide +kernel
theorem dX7_pushJoined_69 : decode cX7_pushJoined 69 = .ok (.iconst 2, 1) := by decide +kernel
theorem dX7_pushJoined_70 : decode cX7_pushJoined 70 = .ok (.if_icmp .ne 13, 3) := by decide +kernel
theorem dX7_pushJoined_73 : decode cX7_pushJoined 73 = .ok (.iload 6, 2) := by decide +kernel
theorem dX7_pushJoined_75 : decode cX7_pushJoined 75 = .ok (.iconst 2, 1) := by decide +kernel
theorem dX7_pushJoined_76 : decode cX7_pushJoined 76 = .ok (.if_icmp .ne 7, 3) := by decide +kernel
theorem dX7_pushJoined_79 : decode cX7_pushJoined 79 = .ok (.iconst 1, 1) := by decide +kernel
theorem dX7_pushJoined_80 : decode cX7_pushJoined 80 = .ok (.goto 4, 3) := by decide +kernel
theorem dX7_pushJoined_83 : decode cX7_pushJoined 83 = .ok (.iconst 0, 1) := by decide +kernel
theorem dX7_pushJoined_84 : decode cX7_pushJoined 84 = .ok (.istore 9, 2) := by decide +kernel
theorem dX7_pushJoined_86 : decode cX7_pushJoined 86 = .ok (.iload 8, 2) := by decide +kernel
theorem dX7_pushJoined_88 : decode cX7_pushJoined 88 = .ok (.iconst 1, 1) := by decide +kernel
theorem dX7_pushJoined_89 : decode cX7_pushJoined 89 = .ok (.if_icmp .ne 9, 3) := by decide +kernel
theorem dX7_pushJoined_92 : decode cX7_pushJoined 92 = .ok (.iload 6, 2) := by decide +kernel
theorem dX7_pushJoined_94 : decode cX7_pushJoined 94 = .ok (.iconst 1, 1) := by decide +kernel
theorem dX7_pushJoined_95 : decode cX7_pushJoined 95 = .ok (.if_icmp .ne 15, 3) := by decide +kernel
theorem dX7_pushJoined_98 : decode cX7_pushJoined 98 = .ok (.iload 8, 2) := by decide +kernel
theorem dX7_pushJoined_100 : decode cX7_pushJoined 100 = .ok (.iconst 3, 1) := by decide +kernel
theorem dX7_pushJoined_101 : decode cX7_pushJoined 101 = .ok (.if_icmp .ne 13, 3) := by decide +kernel
theorem dX7_pushJoined_104 : decode cX7_pushJoined 104 = .ok (.iload 6, 2) := by decide +kernel
theorem dX7_pushJoined_106 : decode cX7_pushJoined 106 = .ok (.iconst 2, 1) := by decide +kernel
theorem dX7_pushJoined_107 : decode cX7_pushJoined 107 = .ok (.if_icmp .ne 7, 3) := by decide +kernel
theorem dX7_pushJoined_110 : decode cX7_pushJoined 110 = .ok (.iconst 1, 1) := by decide +kernel
theorem dX7_pushJoined_111 : decode cX7_pushJoined 111 = .ok (.goto 4, 3) := by decide +kernel
theorem dX7_pushJoined_114 : decode cX7_pushJoined 114 = .ok (.iconst 0, 1) := by decide +kernel
theorem dX7_pushJoined_115 : decode cX7_pushJoined 115 = .ok (.istore 10, 2) := by decide +kernel
theorem dX7_pushJoined_117 : decode cX7_pushJoined 117 = .ok (.aload_n 0, 1) := by decide +kernel
theorem dX7_pushJoined_118 : decode cX7_pushJoined 118 = .ok (.iconst 2, 1) := by decide +kernel
theorem dX7_pushJoined_119 : decode cX7_pushJoined 119 = .ok (.iload 5, 2) := by decide +kernel
theorem dX7_pushJoined_121 : decode cX7_pushJoined 121 = .ok (.iload_n 3, 1) := by decide +kernel
theorem dX7_pushJoined_122 : decode cX7_pushJoined 122 = .ok (.ior, 1) := by decide +kernel
theorem dX7_pushJoined_123 : decode cX7_pushJoined 123 = .ok (.iload 10, 2) := by decide +kernel
theorem dX7_pushJoined_125 : decode cX7_pushJoined 125 = .ok (.ifCond .eq 9, 3) := by decide +kernel
theorem dX7_pushJoined_128 : decode cX7_pushJoined 128 = .ok (.sipush 512, 3) := by decide +kernel
theorem dX7_pushJoined_131 : decode cX7_pushJoined 131 = .ok (.goto 4, 3) := by decide +kernel
theorem dX7_pushJoined_134 : decode cX7_pushJoined 134 = .ok (.iconst 0, 1) := by decide +kernel
theorem dX7_pushJoined_135 : decode cX7_pushJoined 135 = .ok (.ior, 1) := by decide +kernel
theorem dX7_pushJoined_136 : decode cX7_pushJoined 136 = .ok (.invokevirtual 106, 3) := by decide +kernel
theorem dX7_pushJoined_139 : decode cX7_pushJoined 139 = .ok (.aload_n 0, 1) := by decide +kernel
theorem dX7_pushJoined_140 : decode cX7_pushJoined 140 = .ok (.iconst 0, 1) := by decide +kernel
theorem dX7_pushJoined_141 : decode cX7_pushJoined 141 = .ok (.iload 6, 2) := by decide +kernel
theorem dX7_pushJoined_143 : decode cX7_pushJoined 143 = .ok (.invokevirtual 106, 3) := by decide +kernel
theorem dX7_pushJoined_146 : decode cX7_pushJoined 146 = .ok (.aload_n 0, 1) := by decide +kernel
theorem dX7_pushJoined_147 : decode cX7_pushJoined 147 = .ok (.iconst 2, 1) := by decide +kernel
theorem dX7_pushJoined_148 : decode cX7_pushJoined 148 = .ok (.iload 4, 2) := by decide +kernel
theorem dX7_pushJoined_150 : decode cX7_pushJoined 150 = .ok (.iload_n 3, 1) := by decide +kernel
theorem dX7_pushJoined_151 : decode cX7_pushJoined 151 = .ok (.sipush (-257), 3) := by decide +kernel
theorem dX7_pushJoined_154 : decode cX7_pushJoined 154 = .ok (.iand, 1) := by decide +kernel
theorem dX7_pushJoined_155 : decode cX7_pushJoined 155 = .ok (.ior, 1) := by decide +kernel
theorem dX7_pushJoined_156 : decode cX7_pushJoined 156 = .ok (.iload 9, 2) := by decide +kernel
theorem dX7_pushJoined_158 : decode cX7_pushJoined 158 = .ok (.ifCond .eq 9, 3) := by decide +kernel
theorem dX7_pushJoined_161 : decode cX7_pushJoined 161 = .ok (.sipush 512, 3) := by decide +kernel
theorem dX7_pushJoined_164 : decode cX7_pushJoined 164 = .ok (.goto 4, 3) := by decide +kernel
theorem dX7_pushJoined_167 : decode cX7_pushJoined 167 = .ok (.iconst 0, 1) := by decide +kernel
theorem dX7_pushJoined_168 : decode cX7_pushJoined 168 = .ok (.ior, 1) := by decide +kernel
theorem dX7_pushJoined_169 : decode cX7_pushJoined 169 = .ok (.invokevirtual 106, 3) := by decide +kernel
theorem dX7_pushJoined_172 : decode cX7_pushJoined 172 = .ok (.return_, 1) := by decide +kernel
theorem dX7_pushQuantified_0 : decode cX7_pushQuantified 0 = .ok (.iload_n 3, 1) := by decide +kernel
theorem dX7_pushQuantified_1 : decode cX7_pushQuantified 1 = .ok (.aload_n 0, 1) := by decide +kernel
theorem dX7_pushQuantified_2 : decode cX7_pushQuantified 2 = .ok (.getfield 15, 3) := by decide +kernel
theorem dX7_pushQuantified_5 : decode cX7_pushQuantified 5 = .ok (.arraylength, 1) := by decide +kernel
theorem dX7_pushQuantified_6 : decode cX7_pushQuantified 6 = .ok (.if_icmp .lt 4, 3) := by decide +kernel
theorem dX7_pushQuantified_9 : decode cX7_pushQuantified 9 = .ok (.return_, 1) := by decide +kernel
theorem dX7_pushQuantified_10 : decode cX7_pushQuantified 10 = .ok (.aload_n 1, 1) := by decide +kernel
theorem dX7_pushQuantified_11 : decode cX7_pushQuantified 11 = .ok (.iload_n 2, 1) := by decide +kernel
theorem dX7_pushQuantified_12 : decode cX7_pushQuantified 12 = .ok (.aload_n 1, 1) := by decide +kernel
theorem dX7_pushQuantified_13 : decode cX7_pushQuantified 13 = .ok (.arraylength, 1) := by decide +kernel
theorem dX7_pushQuantified_14 : decode cX7_pushQuantified 14 = .ok (.invokestatic 144, 3) := by decide +kernel
theorem dX7_pushQuantified_17 : decode cX7_pushQuantified 17 = .ok (.istore 4, 2) := by decide +kernel
theorem dX7_pushQuantified_19 : decode cX7_pushQuantified 19 = .ok (.aload_n 0, 1) := by decide +kernel
theorem dX7_pushQuantified_20 : decode cX7_pushQuantified 20 = .ok (.getfield 15, 3) := by decide +kernel
theorem dX7_pushQuantified_23 : decode cX7_pushQuantified 23 = .ok (.iload_n 3, 1) := by decide +kernel
theorem dX7_pushQuantified_24 : decode cX7_pushQuantified 24 = .ok (.aload_n 1, 1) := by decide +kernel
theorem dX7_pushQuantified_25 : decode cX7_pushQuantified 25 = .ok (.iload_n 2, 1) := by decide +kernel
theorem dX7_pushQuantified_26 : decode cX7_pushQuantified 26 = .ok (.iaload, 1) := by decide +kernel
theorem dX7_pushQuantified_27 : decode cX7_pushQuantified 27 = .ok (.bipush 15, 2) := by decide +kernel
theorem dX7_pushQuantified_29 : decode cX7_pushQuantified 29 = .ok (.ishr, 1) := by decide +kernel
theorem dX7_pushQuantified_30 : decode cX7_pushQuantified 30 = .ok (.iastore, 1) := by decide +kernel
theorem dX7_pushQuantified_31 : decode cX7_pushQuantified 31 = .ok (.aload_n 0, 1) := by decide +kernel
theorem dX7_pushQuantified_32 : decode cX7_pushQuantified 32 = .ok (.getfield 18, 3) := by decide +kernel
theorem dX7_pushQuantified_35 : decode cX7_pushQuantified 35 = .ok (.iload_n 3, 1) := by decide +kernel
theorem dX7_pushQuantified_36 : decode cX7_pushQuantified 36 = .ok (.iconst 0, 1) := by decide +kernel
theorem dX7_pushQuantified_37 : decode cX7_pushQuantified 37 = .ok (.iastore, 1) := by decide +kernel
theorem dX7_pushQuantified_38 : decode cX7_pushQuantified 38 = .ok (.iconst 0, 1) := by decide +kernel
theorem dX7_pushQuantified_39 : decode cX7_pushQuantified 39 = .ok (.istore 5, 2) := by decide +kernel
theorem dX7_pushQuantified_41 : decode cX7_pushQuantified 41 = .ok (.iload 5, 2) := by decide +kernel
theorem dX7_pushQuantified_43 : decode cX7_pushQuantified 43 = .ok (.sipush 160, 3) := by decide +kernel
theorem dX7_pushQuantified_46 : decode cX7_pushQuantified 46 = .ok (.if_icmp .ge 33, 3) := by decide +kernel
theorem dX7_pushQuantified_49 : decode cX7_pushQuantified 49 = .ok (.aload_n 0, 1) := by decide +kernel
theorem dX7_pushQuantified_50 : decode cX7_pushQuantified 50 = .ok (.aload_n 1, 1) := by decide +kernel
theorem dX7_pushQuantified_51 : decode cX7_pushQuantified 51 = .ok (.iload_n 2, 1) := by decide +kernel
theorem dX7_pushQuantified_52 : decode cX7_pushQuantified 52 = .ok (.iconst 1, 1) := by decide +kernel
theorem dX7_pushQuantified_53 : decode cX7_pushQuantified 53 = .ok (.iadd, 1) := by decide +kernel
theorem dX7_pushQuantified_54 : decode cX7_pushQuantified 54 = .ok (.iload 4, 2) := by decide +kernel
theorem dX7_pushQuantified_56 : decode cX7_pushQuantified 56 = .ok (.iload_n 3, 1) := by decide +kernel
theorem dX7_pushQuantified_57 : decode cX7_pushQuantified 57 = .ok (.invokevirtual 148, 3) := by decide +kernel
theorem dX7_pushQuantified_60 : decode cX7_pushQuantified 60 = .ok (.ifCond .eq 19, 3) := by decide +kernel
theorem dX7_pushQuantified_63 : decode cX7_pushQuantified 63 = .ok (.aload_n 0, 1) := by decide +kernel
theorem dX7_pushQuantified_64 : decode cX7_pushQuantified 64 = .ok (.getfield 18, 3) := by decide +kernel
theorem dX7_pushQuantified_67 : decode cX7_pushQuantified 67 = .ok (.iload_n 3, 1) := by decide +kernel
theorem dX7_pushQuantified_68 : decode cX7_pushQuantified 68 = .ok (.dup2, 1) := by decide +kernel
theorem dX7_pushQuantified_69 : decode cX7_pushQuantified 69 = .ok (.iaload, 1) := by decide +kernel
theorem dX7_pushQuantified_70 : decode cX7_pushQuantified 70 = .ok (.iconst 1, 1) := by decide +kernel
theorem dX7_pushQuantified_71 : decode cX7_pushQuantified 71 = .ok (.iadd, 1) := by decide +kernel
theorem dX7_pushQuantified_72 : decode cX7_pushQuantified 72 = .ok (.iastore, 1) := by decide +kernel
theorem dX7_pushQuantified_73 : decode cX7_pushQuantified 73 = .ok (.iinc 5 1, 3) := by decide +kernel
theorem dX7_pushQuantified_76 : decode cX7_pushQuantified 76 = .ok (.goto (-35), 3) := by decide +kernel
theorem dX7_pushQuantified_79 : decode cX7_pushQuantified 79 = .ok (.aload_n 0, 1) := by decide +kernel
theorem dX7_pushQuantified_80 : decode cX7_pushQuantified 80 = .ok (.iconst 2, 1) := by decide +kernel
theorem dX7_pushQuantified_81 : decode cX7_pushQuantified 81 = .ok (.iload_n 2, 1) := by decide +kernel
theorem dX7_pushQuantified_82 : decode cX7_pushQuantified 82 = .ok (.iconst 1, 1) := by decide +kernel
theorem dX7_pushQuantified_83 : decode cX7_pushQuantified 83 = .ok (.iadd, 1) := by decide +kernel
theorem dX7_pushQuantified_84 : decode cX7_pushQuantified 84 = .ok (.sipush 256, 3) := by decide +kernel
theorem dX7_pushQuantified_87 : decode cX7_pushQuantified 87 = .ok (.ior, 1) := by decide +kernel
theorem dX7_pushQuantified_88 : decode cX7_pushQuantified 88 = .ok (.iload_n 3, 1) := by decide +kernel
theorem dX7_pushQuantified_89 : decode cX7_pushQuantified 89 = .ok (.iconst 1, 1) := by decide +kernel
theorem dX7_pushQuantified_90 : decode cX7_pushQuantified 90 = .ok (.iadd, 1) := by decide +kernel
theorem dX7_pushQuantified_91 : decode cX7_pushQuantified 91 = .ok (.bipush 10, 2) := by decide +kernel
theorem dX7_pushQuantified_93 : decode cX7_pushQuantified 93 = .ok (.ishl, 1) := by decide +kernel
theorem dX7_pushQuantified_94 : decode cX7_pushQuantified 94 = .ok (.ior, 1) := by decide +kernel
theorem dX7_pushQuantified_95 : decode cX7_pushQuantified 95 = .ok (.invokevirtual 106, 3) := by decide +kernel
theorem dX7_pushQuantified_98 : decode cX7_pushQuantified 98 = .ok (.aload_n 0, 1) := by decide +kernel
theorem dX7_pushQuantified_99 : decode cX7_pushQuantified 99 = .ok (.iconst 0, 1) := by decide +kernel
theorem dX7_pushQuantified_100 : decode cX7_pushQuantified 100 = .ok (.bipush 18, 2) := by decide +kernel
theorem dX7_pushQuantified_102 : decode cX7_pushQuantified 102 = .ok (.invokevirtual 106, 3) := by decide +kernel
theorem dX7_pushQuantified_105 : decode cX7_pushQuantified 105 = .ok (.aload_n 0, 1) := by decide +kernel
theorem dX7_pushQuantified_106 : decode cX7_pushQuantified 106 = .ok (.iconst 1, 1) := by decide +kernel
theorem dX7_pushQuantified_107 : decode cX7_pushQuantified 107 = .ok (.aload_n 0, 1) := by decide +kernel
theorem dX7_pushQuantified_108 : decode cX7_pushQuantified 108 = .ok (.getfield 15, 3) := by decide +kernel
theorem dX7_pushQuantified_111 : decode cX7_pushQuantified 111 = .ok (.iload_n 3, 1) := by decide +kernel
theorem dX7_pushQuantified_112 : decode cX7_pushQuantified 112 = .ok (.iaload, 1) := by decide +kernel
theorem dX7_pushQuantified_113 : decode cX7_pushQuantified 113 = .ok (.aload_n 0, 1) := by decide +kernel
theorem dX7_pushQuantified_114 : decode cX7_pushQuantified 114 = .ok (.getfield 18, 3) := by decide +kernel
theorem dX7_pushQuantified_117 : decode cX7_pushQuantified 117 = .ok (.iload_n 3, 1) := by decide +kernel
theorem dX7_pushQuantified_118 : decode cX7_pushQuantified 118 = .ok (.iaload, 1) := by decide +kernel
theorem dX7_pushQuantified_119 : decode cX7_pushQuantified 119 = .ok (.bipush 17, 2) := by decide +kernel
theorem dX7_pushQuantified_121 : decode cX7_pushQuantified 121 = .ok (.ishl, 1) := by decide +kernel
theorem dX7_pushQuantified_122 : decode cX7_pushQuantified 122 = .ok (.ior, 1) := by decide +kernel
theorem dX7_pushQuantified_123 : decode cX7_pushQuantified 123 = .ok (.invokevirtual 106, 3) := by decide +kernel
theorem dX7_pushQuantified_126 : decode cX7_pushQuantified 126 = .ok (.aload_n 0, 1) := by decide +kernel
theorem dX7_pushQuantified_127 : decode cX7_pushQuantified 127 = .ok (.iconst 0, 1) := by decide +kernel
theorem dX7_pushQuantified_128 : decode cX7_pushQuantified 128 = .ok (.aload_n 1, 1) := by decide +kernel
theorem dX7_pushQuantified_129 : decode cX7_pushQuantified 129 = .ok (.iload_n 2, 1) := by decide +kernel
theorem dX7_pushQuantified_130 : decode cX7_pushQuantified 130 = .ok (.iaload, 1) := by decide +kernel
theorem dX7_pushQuantified_131 : decode cX7_pushQuantified 131 = .ok (.bipush 15, 2) := by decide +kernel
theorem dX7_pushQuantified_133 : decode cX7_pushQuantified 133 = .ok (.iand, 1) := by decide +kernel
theorem dX7_pushQuantified_134 : decode cX7_pushQuantified 134 = .ok (.invokevirtual 106, 3) := by decide +kernel
theorem dX7_pushQuantified_137 : decode cX7_pushQuantified 137 = .ok (.return_, 1) := by decide +kernel
theorem dX7_isWrittenIn_0 : decode cX7_isWrittenIn 0 = .ok (.aload_n 0, 1) := by decide +kernel
theorem dX7_isWrittenIn_1 : decode cX7_isWrittenIn 1 = .ok (.getfield 15, 3) := by decide +kernel
theorem dX7_isWrittenIn_4 : decode cX7_isWrittenIn 4 = .ok (.iload 4, 2) := by decide +kernel
theorem dX7_isWrittenIn_6 : decode cX7_isWrittenIn 6 = .ok (.iaload, 1) := by decide +kernel
theorem dX7_isWrittenIn_7 : decode cX7_isWrittenIn 7 = .ok (.istore 5, 2) := by decide +kernel
theorem dX7_isWrittenIn_9 : decode cX7_isWrittenIn 9 = .ok (.iload_n 2, 1) := by decide +kernel
theorem dX7_isWrittenIn_10 : decode cX7_isWrittenIn 10 = .ok (.istore 6, 2) := by decide +kernel
theorem dX7_isWrittenIn_12 : decode cX7_isWrittenIn 12 = .ok (.iload 6, 2) := by decide +kernel
theorem dX7_isWrittenIn_14 : decode cX7_isWrittenIn 14 = .ok (.iload_n 3, 1) := by decide +kernel
theorem dX7_isWrittenIn_15 : decode cX7_isWrittenIn 15 = .ok (.if_icmp .ge 189, 3) := by decide +kernel
theorem dX7_isWrittenIn_18 : decode cX7_isWrittenIn 18 = .ok (.iload 6, 2) := by decide +kernel
theorem dX7_isWrittenIn_20 : decode cX7_isWrittenIn 20 = .ok (.aload_n 1, 1) := by decide +kernel
theorem dX7_isWrittenIn_21 : decode cX7_isWrittenIn 21 = .ok (.arraylength, 1) := by decide +kernel
theorem dX7_isWrittenIn_22 : decode cX7_isWrittenIn 22 = .ok (.if_icmp .ge 182, 3) := by decide +kernel
theorem dX7_isWrittenIn_25 : decode cX7_isWrittenIn 25 = .ok (.iload 5, 2) := by decide +kernel
theorem dX7_isWrittenIn_27 : decode cX7_isWrittenIn 27 = .ok (.aload_n 0, 1) := by decide +kernel
theorem dX7_isWrittenIn_28 : decode cX7_isWrittenIn 28 = .ok (.getfield 21, 3) := by decide +kernel
theorem dX7_isWrittenIn_31 : decode cX7_isWrittenIn 31 = .ok (.getfield 152, 3) := by decide +kernel
theorem dX7_isWrittenIn_34 : decode cX7_isWrittenIn 34 = .ok (.if_icmp .ge 170, 3) := by decide +kernel
theorem dX7_isWrittenIn_37 : decode cX7_isWrittenIn 37 = .ok (.aload_n 1, 1) := by decide +kernel
theorem dX7_isWrittenIn_38 : decode cX7_isWrittenIn 38 = .ok (.iload 6, 2) := by decide +kernel
theorem dX7_isWrittenIn_40 : decode cX7_isWrittenIn 40 = .ok (.iaload, 1) := by decide +kernel
theorem dX7_isWrittenIn_41 : decode cX7_isWrittenIn 41 = .ok (.bipush 15, 2) := by decide +kernel
theorem dX7_isWrittenIn_43 : decode cX7_isWrittenIn 43 = .ok (.iand, 1) := by decide +kernel
theorem dX7_isWrittenIn_44 : decode cX7_isWrittenIn 44 = .ok (.istore 7, 2) := by decide +kernel
theorem dX7_isWrittenIn_46 : decode cX7_isWrittenIn 46 = .ok (.aload_n 1, 1) := by decide +kernel
theorem dX7_isWrittenIn_47 : decode cX7_isWrittenIn 47 = .ok (.iload 6, 2) := by decide +kernel
theorem dX7_isWrittenIn_49 : decode cX7_isWrittenIn 49 = .ok (.iaload, 1) := by decide +kernel
theorem dX7_isWrittenIn_50 : decode cX7_isWrittenIn 50 = .ok (.bipush 15, 2) := by decide +kernel
theorem dX7_isWrittenIn_52 : decode cX7_isWrittenIn 52 = .ok (.ishr, 1) := by decide +kernel
theorem dX7_isWrittenIn_53 : decode cX7_isWrittenIn 53 = .ok (.istore 8, 2) := by decide +kernel
theorem dX7_isWrittenIn_55 : decode cX7_isWrittenIn 55 = .ok (.iconst 0, 1) := by decide +kernel
theorem dX7_isWrittenIn_56 : decode cX7_isWrittenIn 56 = .ok (.istore 9, 2) := by decide +kernel
theorem dX7_isWrittenIn_58 : decode cX7_isWrittenIn 58 = .ok (.iload 7, 2) := by decide +kernel
theorem dX7_isWrittenIn_60 : decode cX7_isWrittenIn 60 = .ok (.bipush 7, 2) := by decide +kernel
theorem dX7_isWrittenIn_62 : decode cX7_isWrittenIn 62 = .ok (.if_icmp .eq 17, 3) := by decide +kernel
theorem dX7_isWrittenIn_65 : decode cX7_isWrittenIn 65 = .ok (.iload 7, 2) := by decide +kernel
theorem dX7_isWrittenIn_67 : decode cX7_isWrittenIn 67 = .ok (.bipush 8, 2) := by decide +kernel
theorem dX7_isWrittenIn_69 : decode cX7_isWrittenIn 69 = .ok (.if_icmp .eq 10, 3) := by decide +kernel
theorem dX7_isWrittenIn_72 : decode cX7_isWrittenIn 72 = .ok (.iload 7, 2) := by decide +kernel
theorem dX7_isWrittenIn_74 : decode cX7_isWrittenIn 74 = .ok (.bipush 9, 2) := by decide +kernel
theorem dX7_isWrittenIn_76 : decode cX7_isWrittenIn 76 = .ok (.if_icmp .ne 7, 3) := by decide +kernel
theorem dX7_isWrittenIn_79 : decode cX7_isWrittenIn 79 = .ok (.iconst 1, 1) := by decide +kernel
theorem dX7_isWrittenIn_80 : decode cX7_isWrittenIn 80 = .ok (.goto 4, 3) := by decide +kernel
theorem dX7_isWrittenIn_83 : decode cX7_isWrittenIn 83 = .ok (.iconst 0, 1) := by decide +kernel
theorem dX7_isWrittenIn_84 : decode cX7_isWrittenIn 84 = .ok (.istore 10, 2) := by decide +kernel
theorem dX7_isWrittenIn_86 : decode cX7_isWrittenIn 86 = .ok (.iload 7, 2) := by decide +kernel
theorem dX7_isWrittenIn_88 : decode cX7_isWrittenIn 88 = .ok (.bipush 10, 2) := by decide +kernel
theorem dX7_isWrittenIn_90 : decode cX7_isWrittenIn 90 = .ok (.if_icmp .ne 31, 3) := by decide +kernel
theorem dX7_isWrittenIn_93 : decode cX7_isWrittenIn 93 = .ok (.iload 8, 2) := by decide +kernel
theorem dX7_isWrittenIn_95 : decode cX7_isWrittenIn 95 = .ok (.iload 4, 2) := by decide +kernel
theorem dX7_isWrittenIn_97 : decode cX7_isWrittenIn 97 = .ok (.if_icmp .ge 24, 3) := by decide +kernel
theorem dX7_isWrittenIn_100 : decode cX7_isWrittenIn 100 = .ok (.iconst 1, 1) := by decide +kernel
theorem dX7_isWrittenIn_101 : decode cX7_isWrittenIn 101 = .ok (.istore 10, 2) := by decide +kernel
theorem dX7_isWrittenIn_103 : decode cX7_isWrittenIn 103 = .ok (.aload_n 0, 1) := by decide +kernel
theorem dX7_isWrittenIn_104 : decode cX7_isWrittenIn 104 = .ok (.getfield 18, 3) := by decide +kernel
theorem dX7_isWrittenIn_107 : decode cX7_isWrittenIn 107 = .ok (.iload 8, 2) := by decide +kernel
theorem dX7_isWrittenIn_109 : decode cX7_isWrittenIn 109 = .ok (.iaload, 1) := by decide +kernel
theorem dX7_isWrittenIn_110 : decode cX7_isWrittenIn 110 = .ok (.istore 9, 2) := by decide +kernel
theorem dX7_isWrittenIn_112 : decode cX7_isWrittenIn 112 = .ok (.aload_n 0, 1) := by decide +kernel
theorem dX7_isWrittenIn_113 : decode cX7_isWrittenIn 113 = .ok (.getfield 15, 3) := by decide +kernel
theorem dX7_isWrittenIn_116 : decode cX7_isWrittenIn 116 = .ok (.iload 8, 2) := by decide +kernel
theorem dX7_isWrittenIn_118 : decode cX7_isWrittenIn 118 = .ok (.iaload, 1) := by decide +kernel
theorem dX7_isWrittenIn_119 : decode cX7_isWrittenIn 119 = .ok (.istore 8, 2) := by decide +kernel
theorem dX7_isWrittenIn_121 : decode cX7_isWrittenIn 121 = .ok (.iload 10, 2) := by decide +kernel
theorem dX7_isWrittenIn_123 : decode cX7_isWrittenIn 123 = .ok (.ifCond .eq 75, 3) := by decide +kernel
theorem dX7_isWrittenIn_126 : decode cX7_isWrittenIn 126 = .ok (.iload 8, 2) := by decide +kernel
theorem dX7_isWrittenIn_128 : decode cX7_isWrittenIn 128 = .ok (.aload_n 0, 1) := by decide +kernel
theorem dX7_isWrittenIn_129 : decode cX7_isWrittenIn 129 = .ok (.getfield 21, 3) := by decide +kernel
theorem dX7_isWrittenIn_132 : decode cX7_isWrittenIn 132 = .ok (.getfield 152, 3) := by decide +kernel
theorem dX7_isWrittenIn_135 : decode cX7_isWrittenIn 135 = .ok (.if_icmp .ge 63, 3) := by decide +kernel
theorem dX7_isWrittenIn_138 : decode cX7_isWrittenIn 138 = .ok (.aload_n 0, 1) := by decide +kernel
theorem dX7_isWrittenIn_139 : decode cX7_isWrittenIn 139 = .ok (.getfield 21, 3) := by decide +kernel
theorem dX7_isWrittenIn_142 : decode cX7_isWrittenIn 142 = .ok (.getfield 155, 3) := by decide +kernel
theorem dX7_isWrittenIn_145 : decode cX7_isWrittenIn 145 = .ok (.iload 8, 2) := by decide +kernel
theorem dX7_isWrittenIn_147 : decode cX7_isWrittenIn 147 = .ok (.laload, 1) := by decide +kernel
theorem dX7_isWrittenIn_148 : decode cX7_isWrittenIn 148 = .ok (.aload_n 0, 1) := by decide +kernel
theorem dX7_isWrittenIn_149 : decode cX7_isWrittenIn 149 = .ok (.getfield 21, 3) := by decide +kernel
theorem dX7_isWrittenIn_152 : decode cX7_isWrittenIn 152 = .ok (.getfield 155, 3) := by decide +kernel
theorem dX7_isWrittenIn_155 : decode cX7_isWrittenIn 155 = .ok (.iload 5, 2) := by decide +kernel
theorem dX7_isWrittenIn_157 : decode cX7_isWrittenIn 157 = .ok (.laload, 1) := by decide +kernel
theorem dX7_isWrittenIn_158 : decode cX7_isWrittenIn 158 = .ok (.lcmp, 1) := by decide +kernel
theorem dX7_isWrittenIn_159 : decode cX7_isWrittenIn 159 = .ok (.ifCond .ne 39, 3) := by decide +kernel
theorem dX7_isWrittenIn_162 : decode cX7_isWrittenIn 162 = .ok (.aload_n 0, 1) := by decide +kernel
theorem dX7_isWrittenIn_163 : decode cX7_isWrittenIn 163 = .ok (.getfield 21, 3) := by decide +kernel
theorem dX7_isWrittenIn_166 : decode cX7_isWrittenIn 166 = .ok (.getfield 159, 3) := by decide +kernel
theorem dX7_isWrittenIn_169 : decode cX7_isWrittenIn 169 = .ok (.iload 8, 2) := by decide +kernel
theorem dX7_isWrittenIn_171 : decode cX7_isWrittenIn 171 = .ok (.iaload, 1) := by decide +kernel
theorem dX7_isWrittenIn_172 : decode cX7_isWrittenIn 172 = .ok (.iload 9, 2) := by decide +kernel
theorem dX7_isWrittenIn_174 : decode cX7_isWrittenIn 174 = .ok (.iadd, 1) := by decide +kernel
theorem dX7_isWrittenIn_175 : decode cX7_isWrittenIn 175 = .ok (.aload_n 0, 1) := by decide +kernel
theorem dX7_isWrittenIn_176 : decode cX7_isWrittenIn 176 = .ok (.getfield 21, 3) := by decide +kernel
theorem dX7_isWrittenIn_179 : decode cX7_isWrittenIn 179 = .ok (.getfield 159, 3) := by decide +kernel
theorem dX7_isWrittenIn_182 : decode cX7_isWrittenIn 182 = .ok (.iload 5, 2) := by decide +kernel
theorem dX7_isWrittenIn_184 : decode cX7_isWrittenIn 184 = .ok (.iaload, 1) := by decide +kernel
theorem dX7_isWrittenIn_185 : decode cX7_isWrittenIn 185 = .ok (.aload_n 0, 1) := by decide +kernel
theorem dX7_isWrittenIn_186 : decode cX7_isWrittenIn 186 = .ok (.getfield 18, 3) := by decide +kernel
theorem dX7_isWrittenIn_189 : decode cX7_isWrittenIn 189 = .ok (.iload 4, 2) := by decide +kernel
theorem dX7_isWrittenIn_191 : decode cX7_isWrittenIn 191 = .ok (.iaload, 1) := by decide +kernel
theorem dX7_isWrittenIn_192 : decode cX7_isWrittenIn 192 = .ok (.iadd, 1) := by decide +kernel
theorem dX7_isWrittenIn_193 : decode cX7_isWrittenIn 193 = .ok (.if_icmp .ne 5, 3) := by decide +kernel
theorem dX7_isWrittenIn_196 : decode cX7_isWrittenIn 196 = .ok (.iconst 1, 1) := by decide +kernel
theorem dX7_isWrittenIn_197 : decode cX7_isWrittenIn 197 = .ok (.ireturn, 1) := by decide +kernel
theorem dX7_isWrittenIn_198 : decode cX7_isWrittenIn 198 = .ok (.iinc 6 1, 3) := by decide +kernel
theorem dX7_isWrittenIn_201 : decode cX7_isWrittenIn 201 = .ok (.goto (-189), 3) := by decide +kernel
theorem dX7_isWrittenIn_204 : decode cX7_isWrittenIn 204 = .ok (.iconst 0, 1) := by decide +kernel
theorem dX7_isWrittenIn_205 : decode cX7_isWrittenIn 205 = .ok (.ireturn, 1) := by decide +kernel
theorem dX7_pushTerm_0 : decode cX7_pushTerm 0 = .ok (.aload_n 1, 1) := by decide +kernel
theorem dX7_pushTerm_1 : decode cX7_pushTerm 1 = .ok (.iload_n 2, 1) := by decide +kernel
theorem dX7_pushTerm_2 : decode cX7_pushTerm 2 = .ok (.iaload, 1) := by decide +kernel
theorem dX7_pushTerm_3 : decode cX7_pushTerm 3 = .ok (.bipush 15, 2) := by decide +kernel
theorem dX7_pushTerm_5 : decode cX7_pushTerm 5 = .ok (.ishr, 1) := by decide +kernel
theorem dX7_pushTerm_6 : decode cX7_pushTerm 6 = .ok (.istore_n 3, 1) := by decide +kernel
theorem dX7_pushTerm_7 : decode cX7_pushTerm 7 = .ok (.aload_n 1, 1) := by decide +kernel
theorem dX7_pushTerm_8 : decode cX7_pushTerm 8 = .ok (.iload_n 2, 1) := by decide +kernel
theorem dX7_pushTerm_9 : decode cX7_pushTerm 9 = .ok (.iaload, 1) := by decide +kernel
theorem dX7_pushTerm_10 : decode cX7_pushTerm 10 = .ok (.bipush 15, 2) := by decide +kernel
theorem dX7_pushTerm_12 : decode cX7_pushTerm 12 = .ok (.iand, 1) := by decide +kernel
theorem dX7_pushTerm_13 : decode cX7_pushTerm 13 = .ok (.bipush 10, 2) := by decide +kernel
theorem dX7_pushTerm_15 : decode cX7_pushTerm 15 = .ok (.if_icmp .ne 34, 3) := by decide +kernel
theorem dX7_pushTerm_18 : decode cX7_pushTerm 18 = .ok (.iload_n 3, 1) := by decide +kernel
theorem dX7_pushTerm_19 : decode cX7_pushTerm 19 = .ok (.aload_n 0, 1) := by decide +kernel
theorem dX7_pushTerm_20 : decode cX7_pushTerm 20 = .ok (.getfield 15, 3) := by decide +kernel
theorem dX7_pushTerm_23 : decode cX7_pushTerm 23 = .ok (.arraylength, 1) := by decide +kernel
theorem dX7_pushTerm_24 : decode cX7_pushTerm 24 = .ok (.if_icmp .ge 24, 3) := by decide +kernel
theorem dX7_pushTerm_27 : decode cX7_pushTerm 27 = .ok (.aload_n 0, 1) := by decide +kernel
theorem dX7_pushTerm_28 : decode cX7_pushTerm 28 = .ok (.iconst 1, 1) := by decide +kernel
theorem dX7_pushTerm_29 : decode cX7_pushTerm 29 = .ok (.aload_n 0, 1) := by decide +kernel
theorem dX7_pushTerm_30 : decode cX7_pushTerm 30 = .ok (.getfield 15, 3) := by decide +kernel
theorem dX7_pushTerm_33 : decode cX7_pushTerm 33 = .ok (.iload_n 3, 1) := by decide +kernel
theorem dX7_pushTerm_34 : decode cX7_pushTerm 34 = .ok (.iaload, 1) := by decide +kernel
theorem dX7_pushTerm_35 : decode cX7_pushTerm 35 = .ok (.aload_n 0, 1) := by decide +kernel
theorem dX7_pushTerm_36 : decode cX7_pushTerm 36 = .ok (.getfield 18, 3) := by decide +kernel
theorem dX7_pushTerm_39 : decode cX7_pushTerm 39 = .ok (.iload_n 3, 1) := by decide +kernel
theorem dX7_pushTerm_40 : decode cX7_pushTerm 40 = .ok (.iaload, 1) := by decide +kernel
theorem dX7_pushTerm_41 : decode cX7_pushTerm 41 = .ok (.bipush 17, 2) := by decide +kernel
theorem dX7_pushTerm_43 : decode cX7_pushTerm 43 = .ok (.ishl, 1) := by decide +kernel
theorem dX7_pushTerm_44 : decode cX7_pushTerm 44 = .ok (.ior, 1) := by decide +kernel
theorem dX7_pushTerm_45 : decode cX7_pushTerm 45 = .ok (.invokevirtual 106, 3) := by decide +kernel
theorem dX7_pushTerm_48 : decode cX7_pushTerm 48 = .ok (.return_, 1) := by decide +kernel
theorem dX7_pushTerm_49 : decode cX7_pushTerm 49 = .ok (.aload_n 1, 1) := by decide +kernel
theorem dX7_pushTerm_50 : decode cX7_pushTerm 50 = .ok (.iload_n 2, 1) := by decide +kernel
theorem dX7_pushTerm_51 : decode cX7_pushTerm 51 = .ok (.iaload, 1) := by decide +kernel
theorem dX7_pushTerm_52 : decode cX7_pushTerm 52 = .ok (.iconst 4, 1) := by decide +kernel
theorem dX7_pushTerm_53 : decode cX7_pushTerm 53 = .ok (.ishr, 1) := by decide +kernel
theorem dX7_pushTerm_54 : decode cX7_pushTerm 54 = .ok (.sipush 2047, 3) := by decide +kernel
theorem dX7_pushTerm_57 : decode cX7_pushTerm 57 = .ok (.iand, 1) := by decide +kernel
theorem dX7_pushTerm_58 : decode cX7_pushTerm 58 = .ok (.istore 4, 2) := by decide +kernel
theorem dX7_pushTerm_60 : decode cX7_pushTerm 60 = .ok (.iload 4, 2) := by decide +kernel
theorem dX7_pushTerm_62 : decode cX7_pushTerm 62 = .ok (.ifCond .le 10, 3) := by decide +kernel
theorem dX7_pushTerm_65 : decode cX7_pushTerm 65 = .ok (.aload_n 0, 1) := by decide +kernel
theorem dX7_pushTerm_66 : decode cX7_pushTerm 66 = .ok (.iconst 0, 1) := by decide +kernel
theorem dX7_pushTerm_67 : decode cX7_pushTerm 67 = .ok (.bipush 16, 2) := by decide +kernel
theorem dX7_pushTerm_69 : decode cX7_pushTerm 69 = .ok (.invokevirtual 106, 3) := by decide +kernel
theorem dX7_pushTerm_72 : decode cX7_pushTerm 72 = .ok (.iload 4, 2) := by decide +kernel
theorem dX7_pushTerm_74 : decode cX7_pushTerm 74 = .ok (.istore 5, 2) := by decide +kernel
theorem dX7_pushTerm_76 : decode cX7_pushTerm 76 = .ok (.iload 5, 2) := by decide +kernel
theorem dX7_pushTerm_78 : decode cX7_pushTerm 78 = .ok (.ifCond .le 65, 3) := by decide +kernel
theorem dX7_pushTerm_81 : decode cX7_pushTerm 81 = .ok (.iload_n 2, 1) := by decide +kernel
theorem dX7_pushTerm_82 : decode cX7_pushTerm 82 = .ok (.iconst 1, 1) := by decide +kernel
theorem dX7_pushTerm_83 : decode cX7_pushTerm 83 = .ok (.iadd, 1) := by decide +kernel
theorem dX7_pushTerm_84 : decode cX7_pushTerm 84 = .ok (.istore 6, 2) := by decide +kernel
theorem dX7_pushTerm_86 : decode cX7_pushTerm 86 = .ok (.iconst 1, 1) := by decide +kernel
theorem dX7_pushTerm_87 : decode cX7_pushTerm 87 = .ok (.istore 7, 2) := by decide +kernel
theorem dX7_pushTerm_89 : decode cX7_pushTerm 89 = .ok (.iload 7, 2) := by decide +kernel
theorem dX7_pushTerm_91 : decode cX7_pushTerm 91 = .ok (.iload 5, 2) := by decide +kernel
theorem dX7_pushTerm_93 : decode cX7_pushTerm 93 = .ok (.if_icmp .ge 19, 3) := by decide +kernel
theorem dX7_pushTerm_96 : decode cX7_pushTerm 96 = .ok (.aload_n 1, 1) := by decide +kernel
theorem dX7_pushTerm_97 : decode cX7_pushTerm 97 = .ok (.iload 6, 2) := by decide +kernel
theorem dX7_pushTerm_99 : decode cX7_pushTerm 99 = .ok (.aload_n 1, 1) := by decide +kernel
theorem dX7_pushTerm_100 : decode cX7_pushTerm 100 = .ok (.arraylength, 1) := by decide +kernel
theorem dX7_pushTerm_101 : decode cX7_pushTerm 101 = .ok (.invokestatic 144, 3) := by decide +kernel
theorem dX7_pushTerm_104 : decode cX7_pushTerm 104 = .ok (.istore 6, 2) := by decide +kernel
theorem dX7_pushTerm_106 : decode cX7_pushTerm 106 = .ok (.iinc 7 1, 3) := by decide +kernel
theorem dX7_pushTerm_109 : decode cX7_pushTerm 109 = .ok (.goto (-20), 3) := by decide +kernel
theorem dX7_pushTerm_112 : decode cX7_pushTerm 112 = .ok (.aload_n 0, 1) := by decide +kernel
theorem dX7_pushTerm_113 : decode cX7_pushTerm 113 = .ok (.iconst 2, 1) := by decide +kernel
theorem dX7_pushTerm_114 : decode cX7_pushTerm 114 = .ok (.iload 6, 2) := by decide +kernel
theorem dX7_pushTerm_116 : decode cX7_pushTerm 116 = .ok (.invokevirtual 106, 3) := by decide +kernel
theorem dX7_pushTerm_119 : decode cX7_pushTerm 119 = .ok (.aload_n 0, 1) := by decide +kernel
theorem dX7_pushTerm_120 : decode cX7_pushTerm 120 = .ok (.iconst 0, 1) := by decide +kernel
theorem dX7_pushTerm_121 : decode cX7_pushTerm 121 = .ok (.iload 5, 2) := by decide +kernel
theorem dX7_pushTerm_123 : decode cX7_pushTerm 123 = .ok (.iconst 1, 1) := by decide +kernel
theorem dX7_pushTerm_124 : decode cX7_pushTerm 124 = .ok (.if_icmp .le 8, 3) := by decide +kernel
theorem dX7_pushTerm_127 : decode cX7_pushTerm 127 = .ok (.bipush 18, 2) := by decide +kernel
theorem dX7_pushTerm_129 : decode cX7_pushTerm 129 = .ok (.goto 5, 3) := by decide +kernel
theorem dX7_pushTerm_132 : decode cX7_pushTerm 132 = .ok (.bipush 17, 2) := by decide +kernel
theorem dX7_pushTerm_134 : decode cX7_pushTerm 134 = .ok (.invokevirtual 106, 3) := by decide +kernel
theorem dX7_pushTerm_137 : decode cX7_pushTerm 137 = .ok (.iinc 5 (-1), 3) := by decide +kernel
theorem dX7_pushTerm_140 : decode cX7_pushTerm 140 = .ok (.goto (-64), 3) := by decide +kernel
theorem dX7_pushTerm_143 : decode cX7_pushTerm 143 = .ok (.aload_n 0, 1) := by decide +kernel
theorem dX7_pushTerm_144 : decode cX7_pushTerm 144 = .ok (.iconst 1, 1) := by decide +kernel
theorem dX7_pushTerm_145 : decode cX7_pushTerm 145 = .ok (.iload_n 3, 1) := by decide +kernel
theorem dX7_pushTerm_146 : decode cX7_pushTerm 146 = .ok (.invokevirtual 106, 3) := by decide +kernel
theorem dX7_pushTerm_149 : decode cX7_pushTerm 149 = .ok (.return_, 1) := by decide +kernel
end
section
theorem dX7_signText_0 : decode cX7_signText 0 = .ok (.iload_n 0, 1) := by decide +kernel
theorem dX7_signText_1 : decode cX7_signText 1 = .ok (.tableswitch 114 1 18 #[87, 90, 93, 96, 99, 102, 114, 114, 114, 114, 114, 114, 114, 114, 114, 105, 108, 111], 87) := by decide +kernel
theorem dX7_signText_88 : decode cX7_signText 88 = .ok (.ldc 126, 2) := by decide +kernel
theorem dX7_signText_90 : decode cX7_signText 90 = .ok (.areturn, 1) := by decide +kernel
theorem dX7_signText_91 : decode cX7_signText 91 = .ok (.ldc 128, 2) := by decide +kernel
theorem dX7_signText_93 : decode cX7_signText 93 = .ok (.areturn, 1) := by decide +kernel
theorem dX7_signText_94 : decode cX7_signText 94 = .ok (.ldc 130, 2) := by decide +kernel
theorem dX7_signText_96 : decode cX7_signText 96 = .ok (.areturn, 1) := by decide +kernel
theorem dX7_signText_97 : decode cX7_signText 97 = .ok (.ldc 132, 2) := by decide +kernel
theorem dX7_signText_99 : decode cX7_signText 99 = .ok (.areturn, 1) := by decide +kernel
theorem dX7_signText_100 : decode cX7_signText 100 = .ok (.ldc 134, 2) := by decide +kernel
theorem dX7_signText_102 : decode cX7_signText 102 = .ok (.areturn, 1) := by decide +kernel
theorem dX7_signText_103 : decode cX7_signText 103 = .ok (.ldc 136, 2) := by decide +kernel
theorem dX7_signText_105 : decode cX7_signText 105 = .ok (.areturn, 1) := by decide +kernel
theorem dX7_signText_106 : decode cX7_signText 106 = .ok (.ldc 138, 2) := by decide +kernel
theorem dX7_signText_108 : decode cX7_signText 108 = .ok (.areturn, 1) := by decide +kernel
theorem dX7_signText_109 : decode cX7_signText 109 = .ok (.ldc 140, 2) := by decide +kernel
theorem dX7_signText_111 : decode cX7_signText 111 = .ok (.areturn, 1) := by decide +kernel
theorem dX7_signText_112 : decode cX7_signText 112 = .ok (.ldc 78, 2) := by decide +kernel
theorem dX7_signText_114 : decode cX7_signText 114 = .ok (.areturn, 1) := by decide +kernel
theorem dX7_signText_115 : decode cX7_signText 115 = .ok (.ldc 142, 2) := by decide +kernel
theorem dX7_signText_117 : decode cX7_signText 117 = .ok (.areturn, 1) := by decide +kernel
def EX7_signText : List (Nat × Nat) := []
set_option maxHeartbeats 4000000 in
set_option maxRecDepth 20000 in
theorem uX7_signText (l : Launch) (dC : Nat → ClassId) (dI : Nat → Nat → Nat) (ca : Nat → ClassId) (base : Nat) (B : jF) (hB : jBok B) (hAp : jAp (dC, dI)) (G0 : jT) (H0 : Heap) (a0 : Int32) : Met l yX7_signText (jw yX7_signText cX7_signText 1 (some (.object "java/lang/String"))) ({ frames := 0, cells := 0, slots := 0, locals := 0 }) (va_Pc [.int a0] (fun U => U.heap = H0 ∧ jX B base G0 [] H0 ∧ jG dC dI ca base U ∧ jP (dC, dI) G0 H0 [] ∧ True)) (jQx (S := Nat × Nat) (fun v u => v = .ref u.1 ∧ u.2 < 2147483648) (fun u t => jRt (dC, dI) B base G0 EX7_signText H0 [] t.heap ∧ jStr base u.1 u.2 t t.heap) (jA base)) 0 0 (jA base) := by
  refine Met.ofW (cc := cX7_signText) (maxL := 1) (ret := (some (.object "java/lang/String"))) (by decide) rfl ?_
  intro p e s m args below meth c s₁ Bd hml hv
  obtain ⟨rfl, hH0, hX, hG, hP0, hp0⟩ := hv
  have hK := hG.1
  have hx := Bd.exec
  have hb := Bd.bytes
  have hr := Bd.returns
  have hts := atoms_spec (ws := (jw yX7_signText cX7_signText 1 (some (.object "java/lang/String")))) Bd.pre
  have htw : ∀ w ∈ jWl, w.before _ s = true := fun w h => hts w (List.mem_cons_of_mem _ h)
  have hown : s.vm.findClass RX7 = some m.cls := findClass_of_methodNamed Bd.named
  have hlocks := Bd.notSynchronized
  obtain ⟨Q, hQ⟩ : ∃ Q, Q = MQ below (jQx (S := Nat × Nat) (fun v u => v = .ref u.1 ∧ u.2 < 2147483648) (fun u t => jRt (dC, dI) B base G0 EX7_signText H0 [] t.heap ∧ jStr base u.1 u.2 t t.heap) (jA base)) ([.int a0] : List Value).toArray s 0 0 (jA base) := ⟨_, rfl⟩
  rw [← hQ]
  have hl := lv_entry ([.int a0]) (n := 1) (Nat.le_of_ble_eq_true rfl)
  rw [lg_entry_eq]
  generalize (lg_sl ([.int a0]) ++ List.replicate (1 - (lg_sl ([.int a0])).length) Slot.unset).toArray = ls at hl ⊢
  have hl : lv_has ls 1 [(0, .int a0)] := hl
  generalize hR : (headSpec (jw yX7_signText cX7_signText 1 (some (.object "java/lang/String"))) ({ frames := 0, cells := 0, slots := 0, locals := 0 })).room = R
  subst hH0
  have hh : jSt (dC, dI) B base G0 G0 EX7_signText s.heap 0 0 [] [] [] s.heap [] := jSt.start hX hP0 jMc.nil jIs.nil
  clear hX hP0
  have hk0 : (0 : Int32).toInt = 0 := by decide
  have hk1 : (1 : Int32).toInt = 1 := by decide
  obtain ⟨str126, rstr126, hstr1260⟩ := hG.str (o := RX7) (k := 126) (tx := " -> ") (List.mem_of_getElem? (i := 971) (by decide +kernel))
  have hstr126 : jStr base str126 4 s s.heap := hstr1260
  obtain ⟨str128, rstr128, hstr1280⟩ := hG.str (o := RX7) (k := 128) (tx := " * ") (List.mem_of_getElem? (i := 972) (by decide +kernel))
  have hstr128 : jStr base str128 3 s s.heap := hstr1280
  obtain ⟨str130, rstr130, hstr1300⟩ := hG.str (o := RX7) (k := 130) (tx := " + ") (List.mem_of_getElem? (i := 973) (by decide +kernel))
  have hstr130 : jStr base str130 3 s s.heap := hstr1300
  obtain ⟨str132, rstr132, hstr1320⟩ := hG.str (o := RX7) (k := 132) (tx := " = ") (List.mem_of_getElem? (i := 974) (by decide +kernel))
  have hstr132 : jStr base str132 3 s s.heap := hstr1320
  obtain ⟨str134, rstr134, hstr1340⟩ := hG.str (o := RX7) (k := 134) (tx := "forall ") (List.mem_of_getElem? (i := 975) (by decide +kernel))
  have hstr134 : jStr base str134 7 s s.heap := hstr1340
  obtain ⟨str136, rstr136, hstr1360⟩ := hG.str (o := RX7) (k := 136) (tx := "exists ") (List.mem_of_getElem? (i := 976) (by decide +kernel))
  have hstr136 : jStr base str136 7 s s.heap := hstr1360
  obtain ⟨str138, rstr138, hstr1380⟩ := hG.str (o := RX7) (k := 138) (tx := ")") (List.mem_of_getElem? (i := 977) (by decide +kernel))
  have hstr138 : jStr base str138 1 s s.heap := hstr1380
  obtain ⟨str140, rstr140, hstr1400⟩ := hG.str (o := RX7) (k := 140) (tx := "(") (List.mem_of_getElem? (i := 978) (by decide +kernel))
  have hstr140 : jStr base str140 1 s s.heap := hstr1400
  obtain ⟨str78, rstr78, hstr780⟩ := hG.str (o := RX7) (k := 78) (tx := ", ") (List.mem_of_getElem? (i := 979) (by decide +kernel))
  have hstr78 : jStr base str78 2 s s.heap := hstr780
  obtain ⟨str142, rstr142, hstr1420⟩ := hG.str (o := RX7) (k := 142) (tx := "False") (List.mem_of_getElem? (i := 980) (by decide +kernel))
  have hstr142 : jStr base str142 5 s s.heap := hstr1420
  have hrg_a0 := jb_rng a0
  refine lv_iload_n hx hb dX7_signText_0 rfl (lv_at hl 0 rfl) ?_
  rcases (by omega : (a0.toInt < 1 ∨ 18 < a0.toInt) ∨ a0.toInt = 1 ∨ a0.toInt = 2 ∨ a0.toInt = 3 ∨ a0.toInt = 4 ∨ a0.toInt = 5 ∨ a0.toInt = 6 ∨ a0.toInt = 7 ∨ a0.toInt = 8 ∨ a0.toInt = 9 ∨ a0.toInt = 10 ∨ a0.toInt = 11 ∨ a0.toInt = 12 ∨ a0.toInt = 13 ∨ a0.toInt = 14 ∨ a0.toInt = 15 ∨ a0.toInt = 16 ∨ a0.toInt = 17 ∨ a0.toInt = 18) with c_1 | c_1 | c_1 | c_1 | c_1 | c_1 | c_1 | c_1 | c_1 | c_1 | c_1 | c_1 | c_1 | c_1 | c_1 | c_1 | c_1 | c_1 | c_1
  · refine lv_tableOut (tgt := 115) hx hb dX7_signText_1 c_1 (by decide) ?_
    refine va_ldcS hx hb hown rstr142 dX7_signText_115 ?_
    rw [hQ]
    exact W.aret (v := .ref str142) hx hb hr (Or.inl ⟨_, rfl⟩) (Or.inr ⟨_, rfl⟩) (fun t ht hW => ⟨⟨.ref str142, (str142, 5), rfl, ⟨rfl, by show (5 : Nat) < 2147483648; omega⟩, ⟨hh.rt (M1 := []) [] rfl ht, by rw [ht]; exact (hstr142.moved hW.alike).kept hh.1.2.1⟩⟩, by rw [ht]; try exact hh.1.1, fun q h9 hq => by rw [ht]; try exact hh.1.2.1 q h9 hq⟩) hh.1.2.2 dX7_signText_117
  · refine lv_tableIn (off := 87) (tgt := 88) hx hb dX7_signText_1 (by omega) (by omega) (by rw [c_1]; rfl) (by decide) ?_
    refine va_ldcS hx hb hown rstr126 dX7_signText_88 ?_
    rw [hQ]
    exact W.aret (v := .ref str126) hx hb hr (Or.inl ⟨_, rfl⟩) (Or.inr ⟨_, rfl⟩) (fun t ht hW => ⟨⟨.ref str126, (str126, 4), rfl, ⟨rfl, by show (4 : Nat) < 2147483648; omega⟩, ⟨hh.rt (M1 := []) [] rfl ht, by rw [ht]; exact (hstr126.moved hW.alike).kept hh.1.2.1⟩⟩, by rw [ht]; try exact hh.1.1, fun q h9 hq => by rw [ht]; try exact hh.1.2.1 q h9 hq⟩) hh.1.2.2 dX7_signText_90
  · refine lv_tableIn (off := 90) (tgt := 91) hx hb dX7_signText_1 (by omega) (by omega) (by rw [c_1]; rfl) (by decide) ?_
    refine va_ldcS hx hb hown rstr128 dX7_signText_91 ?_
    rw [hQ]
    exact W.aret (v := .ref str128) hx hb hr (Or.inl ⟨_, rfl⟩) (Or.inr ⟨_, rfl⟩) (fun t ht hW => ⟨⟨.ref str128, (str128, 3), rfl, ⟨rfl, by show (3 : Nat) < 2147483648; omega⟩, ⟨hh.rt (M1 := []) [] rfl ht, by rw [ht]; exact (hstr128.moved hW.alike).kept hh.1.2.1⟩⟩, by rw [ht]; try exact hh.1.1, fun q h9 hq => by rw [ht]; try exact hh.1.2.1 q h9 hq⟩) hh.1.2.2 dX7_signText_93
  · refine lv_tableIn (off := 93) (tgt := 94) hx hb dX7_signText_1 (by omega) (by omega) (by rw [c_1]; rfl) (by decide) ?_
    refine va_ldcS hx hb hown rstr130 dX7_signText_94 ?_
    rw [hQ]
    exact W.aret (v := .ref str130) hx hb hr (Or.inl ⟨_, rfl⟩) (Or.inr ⟨_, rfl⟩) (fun t ht hW => ⟨⟨.ref str130, (str130, 3), rfl, ⟨rfl, by show (3 : Nat) < 2147483648; omega⟩, ⟨hh.rt (M1 := []) [] rfl ht, by rw [ht]; exact (hstr130.moved hW.alike).kept hh.1.2.1⟩⟩, by rw [ht]; try exact hh.1.1, fun q h9 hq => by rw [ht]; try exact hh.1.2.1 q h9 hq⟩) hh.1.2.2 dX7_signText_96
  · refine lv_tableIn (off := 96) (tgt := 97) hx hb dX7_signText_1 (by omega) (by omega) (by rw [c_1]; rfl) (by decide) ?_
    refine va_ldcS hx hb hown rstr132 dX7_signText_97 ?_
    rw [hQ]
    exact W.aret (v := .ref str132) hx hb hr (Or.inl ⟨_, rfl⟩) (Or.inr ⟨_, rfl⟩) (fun t ht hW => ⟨⟨.ref str132, (str132, 3), rfl, ⟨rfl, by show (3 : Nat) < 2147483648; omega⟩, ⟨hh.rt (M1 := []) [] rfl ht, by rw [ht]; exact (hstr132.moved hW.alike).kept hh.1.2.1⟩⟩, by rw [ht]; try exact hh.1.1, fun q h9 hq => by rw [ht]; try exact hh.1.2.1 q h9 hq⟩) hh.1.2.2 dX7_signText_99
  · refine lv_tableIn (off := 99) (tgt := 100) hx hb dX7_signText_1 (by omega) (by omega) (by rw [c_1]; rfl) (by decide) ?_
    refine va_ldcS hx hb hown rstr134 dX7_signText_100 ?_
    rw [hQ]
    exact W.aret (v := .ref str134) hx hb hr (Or.inl ⟨_, rfl⟩) (Or.inr ⟨_, rfl⟩) (fun t ht hW => ⟨⟨.ref str134, (str134, 7), rfl, ⟨rfl, by show (7 : Nat) < 2147483648; omega⟩, ⟨hh.rt (M1 := []) [] rfl ht, by rw [ht]; exact (hstr134.moved hW.alike).kept hh.1.2.1⟩⟩, by rw [ht]; try exact hh.1.1, fun q h9 hq => by rw [ht]; try exact hh.1.2.1 q h9 hq⟩) hh.1.2.2 dX7_signText_102
  · refine lv_tableIn (off := 102) (tgt := 103) hx hb dX7_signText_1 (by omega) (by omega) (by rw [c_1]; rfl) (by decide) ?_
    refine va_ldcS hx hb hown rstr136 dX7_signText_103 ?_
    rw [hQ]
    exact W.aret (v := .ref str136) hx hb hr (Or.inl ⟨_, rfl⟩) (Or.inr ⟨_, rfl⟩) (fun t ht hW => ⟨⟨.ref str136, (str136, 7), rfl, ⟨rfl, by show (7 : Nat) < 2147483648; omega⟩, ⟨hh.rt (M1 := []) [] rfl ht, by rw [ht]; exact (hstr136.moved hW.alike).kept hh.1.2.1⟩⟩, by rw [ht]; try exact hh.1.1, fun q h9 hq => by rw [ht]; try exact hh.1.2.1 q h9 hq⟩) hh.1.2.2 dX7_signText_105
  · refine lv_tableIn (off := 114) (tgt := 115) hx hb dX7_signText_1 (by omega) (by omega) (by rw [c_1]; rfl) (by decide) ?_
    refine va_ldcS hx hb hown rstr142 dX7_signText_115 ?_
    rw [hQ]
    exact W.aret (v := .ref str142) hx hb hr (Or.inl ⟨_, rfl⟩) (Or.inr ⟨_, rfl⟩) (fun t ht hW => ⟨⟨.ref str142, (str142, 5), rfl, ⟨rfl, by show (5 : Nat) < 2147483648; omega⟩, ⟨hh.rt (M1 := []) [] rfl ht, by rw [ht]; exact (hstr142.moved hW.alike).kept hh.1.2.1⟩⟩, by rw [ht]; try exact hh.1.1, fun q h9 hq => by rw [ht]; try exact hh.1.2.1 q h9 hq⟩) hh.1.2.2 dX7_signText_117
  · refine lv_tableIn (off := 114) (tgt := 115) hx hb dX7_signText_1 (by omega) (by omega) (by rw [c_1]; rfl) (by decide) ?_
    refine va_ldcS hx hb hown rstr142 dX7_signText_115 ?_
    rw [hQ]
    exact W.aret (v := .ref str142) hx hb hr (Or.inl ⟨_, rfl⟩) (Or.inr ⟨_, rfl⟩) (fun t ht hW => ⟨⟨.ref str142, (str142, 5), rfl, ⟨rfl, by show (5 : Nat) < 2147483648; omega⟩, ⟨hh.rt (M1 := []) [] rfl ht, by rw [ht]; exact (hstr142.moved hW.alike).kept hh.1.2.1⟩⟩, by rw [ht]; try exact hh.1.1, fun q h9 hq => by rw [ht]; try exact hh.1.2.1 q h9 hq⟩) hh.1.2.2 dX7_signText_117
  · refine lv_tableIn (off := 114) (tgt := 115) hx hb dX7_signText_1 (by omega) (by omega) (by rw [c_1]; rfl) (by decide) ?_
    refine va_ldcS hx hb hown rstr142 dX7_signText_115 ?_
    rw [hQ]
    exact W.aret (v := .ref str142) hx hb hr (Or.inl ⟨_, rfl⟩) (Or.inr ⟨_, rfl⟩) (fun t ht hW => ⟨⟨.ref str142, (str142, 5), rfl, ⟨rfl, by show (5 : Nat) < 2147483648; omega⟩, ⟨hh.rt (M1 := []) [] rfl ht, by rw [ht]; exact (hstr142.moved hW.alike).kept hh.1.2.1⟩⟩, by rw [ht]; try exact hh.1.1, fun q h9 hq => by rw [ht]; try exact hh.1.2.1 q h9 hq⟩) hh.1.2.2 dX7_signText_117
  · refine lv_tableIn (off := 114) (tgt := 115) hx hb dX7_signText_1 (by omega) (by omega) (by rw [c_1]; rfl) (by decide) ?_
    refine va_ldcS hx hb hown rstr142 dX7_signText_115 ?_
    rw [hQ]
    exact W.aret (v := .ref str142) hx hb hr (Or.inl ⟨_, rfl⟩) (Or.inr ⟨_, rfl⟩) (fun t ht hW => ⟨⟨.ref str142, (str142, 5), rfl, ⟨rfl, by show (5 : Nat) < 2147483648; omega⟩, ⟨hh.rt (M1 := []) [] rfl ht, by rw [ht]; exact (hstr142.moved hW.alike).kept hh.1.2.1⟩⟩, by rw [ht]; try exact hh.1.1, fun q h9 hq => by rw [ht]; try exact hh.1.2.1 q h9 hq⟩) hh.1.2.2 dX7_signText_117
  · refine lv_tableIn (off := 114) (tgt := 115) hx hb dX7_signText_1 (by omega) (by omega) (by rw [c_1]; rfl) (by decide) ?_
    refine va_ldcS hx hb hown rstr142 dX7_signText_115 ?_
    rw [hQ]
    exact W.aret (v := .ref str142) hx hb hr (Or.inl ⟨_, rfl⟩) (Or.inr ⟨_, rfl⟩) (fun t ht hW => ⟨⟨.ref str142, (str142, 5), rfl, ⟨rfl, by show (5 : Nat) < 2147483648; omega⟩, ⟨hh.rt (M1 := []) [] rfl ht, by rw [ht]; exact (hstr142.moved hW.alike).kept hh.1.2.1⟩⟩, by rw [ht]; try exact hh.1.1, fun q h9 hq => by rw [ht]; try exact hh.1.2.1 q h9 hq⟩) hh.1.2.2 dX7_signText_117
  · refine lv_tableIn (off := 114) (tgt := 115) hx hb dX7_signText_1 (by omega) (by omega) (by rw [c_1]; rfl) (by decide) ?_
    refine va_ldcS hx hb hown rstr142 dX7_signText_115 ?_
    rw [hQ]
    exact W.aret (v := .ref str142) hx hb hr (Or.inl ⟨_, rfl⟩) (Or.inr ⟨_, rfl⟩) (fun t ht hW => ⟨⟨.ref str142, (str142, 5), rfl, ⟨rfl, by show (5 : Nat) < 2147483648; omega⟩, ⟨hh.rt (M1 := []) [] rfl ht, by rw [ht]; exact (hstr142.moved hW.alike).kept hh.1.2.1⟩⟩, by rw [ht]; try exact hh.1.1, fun q h9 hq => by rw [ht]; try exact hh.1.2.1 q h9 hq⟩) hh.1.2.2 dX7_signText_117
  · refine lv_tableIn (off := 114) (tgt := 115) hx hb dX7_signText_1 (by omega) (by omega) (by rw [c_1]; rfl) (by decide) ?_
    refine va_ldcS hx hb hown rstr142 dX7_signText_115 ?_
    rw [hQ]
    exact W.aret (v := .ref str142) hx hb hr (Or.inl ⟨_, rfl⟩) (Or.inr ⟨_, rfl⟩) (fun t ht hW => ⟨⟨.ref str142, (str142, 5), rfl, ⟨rfl, by show (5 : Nat) < 2147483648; omega⟩, ⟨hh.rt (M1 := []) [] rfl ht, by rw [ht]; exact (hstr142.moved hW.alike).kept hh.1.2.1⟩⟩, by rw [ht]; try exact hh.1.1, fun q h9 hq => by rw [ht]; try exact hh.1.2.1 q h9 hq⟩) hh.1.2.2 dX7_signText_117
  · refine lv_tableIn (off := 114) (tgt := 115) hx hb dX7_signText_1 (by omega) (by omega) (by rw [c_1]; rfl) (by decide) ?_
    refine va_ldcS hx hb hown rstr142 dX7_signText_115 ?_
    rw [hQ]
    exact W.aret (v := .ref str142) hx hb hr (Or.inl ⟨_, rfl⟩) (Or.inr ⟨_, rfl⟩) (fun t ht hW => ⟨⟨.ref str142, (str142, 5), rfl, ⟨rfl, by show (5 : Nat) < 2147483648; omega⟩, ⟨hh.rt (M1 := []) [] rfl ht, by rw [ht]; exact (hstr142.moved hW.alike).kept hh.1.2.1⟩⟩, by rw [ht]; try exact hh.1.1, fun q h9 hq => by rw [ht]; try exact hh.1.2.1 q h9 hq⟩) hh.1.2.2 dX7_signText_117
  · refine lv_tableIn (off := 114) (tgt := 115) hx hb dX7_signText_1 (by omega) (by omega) (by rw [c_1]; rfl) (by decide) ?_
    refine va_ldcS hx hb hown rstr142 dX7_signText_115 ?_
    rw [hQ]
    exact W.aret (v := .ref str142) hx hb hr (Or.inl ⟨_, rfl⟩) (Or.inr ⟨_, rfl⟩) (fun t ht hW => ⟨⟨.ref str142, (str142, 5), rfl, ⟨rfl, by show (5 : Nat) < 2147483648; omega⟩, ⟨hh.rt (M1 := []) [] rfl ht, by rw [ht]; exact (hstr142.moved hW.alike).kept hh.1.2.1⟩⟩, by rw [ht]; try exact hh.1.1, fun q h9 hq => by rw [ht]; try exact hh.1.2.1 q h9 hq⟩) hh.1.2.2 dX7_signText_117
  · refine lv_tableIn (off := 105) (tgt := 106) hx hb dX7_signText_1 (by omega) (by omega) (by rw [c_1]; rfl) (by decide) ?_
    refine va_ldcS hx hb hown rstr138 dX7_signText_106 ?_
    rw [hQ]
    exact W.aret (v := .ref str138) hx hb hr (Or.inl ⟨_, rfl⟩) (Or.inr ⟨_, rfl⟩) (fun t ht hW => ⟨⟨.ref str138, (str138, 1), rfl, ⟨rfl, by show (1 : Nat) < 2147483648; omega⟩, ⟨hh.rt (M1 := []) [] rfl ht, by rw [ht]; exact (hstr138.moved hW.alike).kept hh.1.2.1⟩⟩, by rw [ht]; try exact hh.1.1, fun q h9 hq => by rw [ht]; try exact hh.1.2.1 q h9 hq⟩) hh.1.2.2 dX7_signText_108
  · refine lv_tableIn (off := 108) (tgt := 109) hx hb dX7_signText_1 (by omega) (by omega) (by rw [c_1]; rfl) (by decide) ?_
    refine va_ldcS hx hb hown rstr140 dX7_signText_109 ?_
    rw [hQ]
    exact W.aret (v := .ref str140) hx hb hr (Or.inl ⟨_, rfl⟩) (Or.inr ⟨_, rfl⟩) (fun t ht hW => ⟨⟨.ref str140, (str140, 1), rfl, ⟨rfl, by show (1 : Nat) < 2147483648; omega⟩, ⟨hh.rt (M1 := []) [] rfl ht, by rw [ht]; exact (hstr140.moved hW.alike).kept hh.1.2.1⟩⟩, by rw [ht]; try exact hh.1.1, fun q h9 hq => by rw [ht]; try exact hh.1.2.1 q h9 hq⟩) hh.1.2.2 dX7_signText_111
  · refine lv_tableIn (off := 111) (tgt := 112) hx hb dX7_signText_1 (by omega) (by omega) (by rw [c_1]; rfl) (by decide) ?_
    refine va_ldcS hx hb hown rstr78 dX7_signText_112 ?_
    rw [hQ]
    exact W.aret (v := .ref str78) hx hb hr (Or.inl ⟨_, rfl⟩) (Or.inr ⟨_, rfl⟩) (fun t ht hW => ⟨⟨.ref str78, (str78, 2), rfl, ⟨rfl, by show (2 : Nat) < 2147483648; omega⟩, ⟨hh.rt (M1 := []) [] rfl ht, by rw [ht]; exact (hstr78.moved hW.alike).kept hh.1.2.1⟩⟩, by rw [ht]; try exact hh.1.1, fun q h9 hq => by rw [ht]; try exact hh.1.2.1 q h9 hq⟩) hh.1.2.2 dX7_signText_114
end
section
-- bits: what masks, shifts and or leave
theorem wb_tb (n : Nat) : (lN n).toBitVec = BitVec.ofNat 64 n := rfl
theorem wb_inj {a b : Int64} (h : a.toBitVec = b.toBitVec) : a = b := Int64.toBitVec_inj.mp h
theorem wb_tn {n : Nat} (h : n < 2 ^ 64) : (lN n).toBitVec.toNat = n := by rw [wb_tb, BitVec.toNat_ofNat, Nat.mod_eq_of_lt h]
theorem wb_of (x : Int64) : ∃ n, n < 2 ^ 64 ∧ x = lN n := ⟨x.toBitVec.toNat, x.toBitVec.isLt, wb_inj (by rw [wb_tb]; simp)⟩
theorem wb_cu : ∀ k, k < 64 → ((nI k).toInt64.toUInt64 &&& Int64.toUInt64 63) = UInt64.ofNat k := by decide +kernel
theorem wb_lt2 {a b : Nat} (h : a < b) : 2 ^ a < 2 ^ b := Nat.pow_lt_pow_right (by decide) h
theorem wb_shr {n k : Nat} (hn : n < 2 ^ 64) (hk : k < 64) : ((lN n).toUInt64 >>> ((nI k).toInt64.toUInt64 &&& Int64.toUInt64 63)).toInt64 = lN (n / 2 ^ k) := by
  rw [wb_cu k hk]
  apply wb_inj
  apply BitVec.eq_of_toNat_eq
  show ((lN n).toUInt64 >>> UInt64.ofNat k).toNat = (BitVec.ofNat 64 _).toNat
  have h1 : (UInt64.ofNat k).toNat = k := by
    show (BitVec.ofNat 64 k).toNat = k
    rw [BitVec.toNat_ofNat, Nat.mod_eq_of_lt (by omega)]
  have h2 : (lN n).toUInt64.toNat = n := wb_tn hn
  rw [UInt64.toNat_shiftRight, h1, h2, Nat.mod_eq_of_lt hk, Nat.shiftRight_eq_div_pow, BitVec.toNat_ofNat, Nat.mod_eq_of_lt (Nat.lt_of_le_of_lt (Nat.div_le_self _ _) hn)]
theorem wb_and {a b : Nat} (ha : a < 2 ^ 64) (hb : b < 2 ^ 64) : lN a &&& lN b = lN (a &&& b) := by
  apply wb_inj
  rw [Int64.toBitVec_and, wb_tb, wb_tb, wb_tb]
  apply BitVec.eq_of_toNat_eq
  rw [BitVec.toNat_and, BitVec.toNat_ofNat, BitVec.toNat_ofNat, BitVec.toNat_ofNat, Nat.mod_eq_of_lt ha, Nat.mod_eq_of_lt hb, Nat.mod_eq_of_lt (Nat.and_lt_two_pow _ hb)]
theorem wb_mask {n k : Nat} (hn : n < 2 ^ 64) (hk : k < 64) : lN n &&& lN (2 ^ k - 1) = lN (n % 2 ^ k) := by
  rw [wb_and hn (by have := wb_lt2 hk; omega), Nat.and_two_pow_sub_one_eq_mod]
theorem jl_toInt {n : Nat} (hn : n < 2 ^ 64) : (lN n).toInt = if 2 * n < 2 ^ 64 then (n : Int) else (n : Int) - (2 ^ 64 : Nat) := by
  show (lN n).toBitVec.toInt = _
  rw [BitVec.toInt_eq_toNat_cond, wb_tn hn]
theorem jl_big {n : Nat} (hn : n < 2 ^ 63) : (lN n).toInt = (n : Int) := by
  rw [jl_toInt (by omega), if_pos (by omega)]
theorem jb_lush6 {x z : Int64} (e : z = (x.toUInt64 >>> ((6 : Int32).toInt64.toUInt64 &&& Int64.toUInt64 63)).toInt64) (h : 0 ≤ x.toInt) : z.toInt = x.toInt / 64 := by
  obtain ⟨n, hn, rfl⟩ := wb_of x
  have hx := jl_toInt hn
  have h6 : n < 2 ^ 63 := by
    by_cases q : 2 * n < 2 ^ 64
    · omega
    · rw [if_neg q] at hx; omega
  have e2 : z = lN (n / 2 ^ 6) := by rw [e]; exact wb_shr (k := 6) hn (by decide)
  rw [e2, jl_big (by omega), jl_big h6]
  omega
theorem jb_l63 : ∀ j, j < 64 → 0 ≤ ((lN j).toInt32).toInt ∧ ((lN j).toInt32).toInt ≤ 63 := by decide +kernel
theorem jb_land63 {x y : Int64} {z : Int32} (e : y = x &&& 63) (ez : z = y.toInt32) : 0 ≤ z.toInt ∧ z.toInt ≤ 63 := by
  obtain ⟨n, hn, rfl⟩ := wb_of x
  have e2 : y = lN (n % 2 ^ 6) := by rw [e]; exact wb_mask (k := 6) hn (by decide)
  rw [ez, e2]
  exact jb_l63 _ (Nat.mod_lt _ (by decide))
theorem jb_or {x y z : Int32} (e : z = x ||| y) (hx : 0 ≤ x.toInt) (hy : 0 ≤ y.toInt) : 0 ≤ z.toInt := by
  obtain ⟨n, hn, ex, -⟩ := jN_of hx
  obtain ⟨m, hm, ey, -⟩ := jN_of hy
  have h1 : n ||| m < 2 ^ 31 := Nat.or_lt_two_pow hn hm
  rw [e, ex, ey, jN_or hn hm, nI_toInt h1]
  omega
theorem jb_or29 {x y z : Int32} (e : z = x ||| y) (hx : 0 ≤ x.toInt) (hy : 0 ≤ y.toInt) (hx1 : x.toInt < 536870912) (hy1 : y.toInt < 536870912) : 0 ≤ z.toInt ∧ z.toInt < 536870912 := by
  obtain ⟨n, hn, ex, ex2⟩ := jN_of hx
  obtain ⟨m, hm, ey, ey2⟩ := jN_of hy
  have h1 : n ||| m < 2 ^ 29 := Nat.or_lt_two_pow (by omega) (by omega)
  rw [e, ex, ey, jN_or hn hm, nI_toInt (by omega)]
  omega
theorem jb_and0 {x m z : Int32} (e : z = x &&& m) (hx : 0 ≤ x.toInt) : 0 ≤ z.toInt ∧ z.toInt ≤ x.toInt := by
  obtain ⟨n, hn, ex, ex2⟩ := jN_of hx
  have h1 : z.toBitVec.toNat ≤ n := by
    rw [e, Int32.toBitVec_and, BitVec.toNat_and]
    have h2 : x.toBitVec.toNat = n := by
      rw [ex]
      show (BitVec.ofNat 32 n).toNat = n
      rw [BitVec.toNat_ofNat, Nat.mod_eq_of_lt (by omega)]
    rw [h2]
    exact Nat.and_le_left
  have hz := ji_toInt z
  rw [if_pos (by omega)] at hz
  omega
end
section
-- formulas whose nodes may be -1
theorem jb_push {x t y w : Int32} (ey : y = x <<< (2 &&& 31)) (ew : w = y ||| t) (ht : 0 ≤ t.toInt ∧ t.toInt ≤ 3) (h : (0 ≤ x.toInt ∧ x.toInt < 536870912) ∨ (t.toInt = 1 ∧ x.toInt = -1)) : 0 ≤ w.toInt ∨ w.toInt = -3 := by
  rcases h with ⟨h1, h2⟩ | ⟨h1, h2⟩
  · have h3 := jb_shlc 2 4 ey (by decide) (by decide) h1 (by omega)
    exact Or.inl (jb_or ew (by omega) ht.1)
  · have e1 : x = -1 := Int32.toInt_inj.mp (by rw [h2]; decide)
    have e2 : t = 1 := Int32.toInt_inj.mp (by rw [h1]; decide)
    subst e1; subst e2; subst ey; subst ew
    exact Or.inr (by decide)
theorem jb_and3 (x : Int32) : (x &&& 3).toInt = x.toInt % 4 := by
  have h := pk_and x (m := 3) 2 (by decide)
  have hb := x.toBitVec.isLt
  have hx := ji_toInt x
  rw [h, nI_toInt (by omega), hx]
  split <;> omega
def EX11_endOfB : List (Nat × Nat) := []
set_option maxHeartbeats 4000000 in
set_option maxRecDepth 20000 in
theorem uX11_endOfB (l : Launch) (dC : Nat → ClassId) (dI : Nat → Nat → Nat) (ca : Nat → ClassId) (base : Nat) (B : jF) (hB : jBok B) (hAp : jAp (dC, dI)) (hB280 : ∀ n G a H, B 280 n G a H ↔ jAr (dC, dI) (ca 1) (fun j z => -1 ≤ z.toInt) n a H) (G0 : jT) (H0 : Heap) (r0 : Nat) (a1 : Int32) (a2 : Int32) (n0 : Nat) : Met l yX11_endOf (jw yX11_endOf cX11_endOf 6 (some .int)) ({ frames := 0, cells := 0, slots := 0, locals := 0 }) (va_Pc [.ref r0, .int a1, .int a2] (fun U => U.heap = H0 ∧ jX B base G0 [] H0 ∧ jG dC dI ca base U ∧ G0 r0 = some (280, n0) ∧ jP (dC, dI) G0 H0 [] ∧ 0 ≤ a1.toInt ∧ a1.toInt ≤ 200000 ∧ n0 ≤ 100000)) (va_Qi (S := Unit) (fun r u => (a1.toInt ≤ r.toInt ∧ (r.toInt = a1.toInt ∨ r.toInt ≤ n0))) (fun u t => jRt (dC, dI) B base G0 EX11_endOfB H0 [] t.heap) (jA base)) 0 0 (jA base) := by
  refine Met.ofW (cc := cX11_endOf) (maxL := 6) (ret := (some .int)) (by decide) rfl ?_
  intro p e s m args below meth c s₁ Bd hml hv
  obtain ⟨rfl, hH0, hX, hG, hg_r0, hP0, hp0, hp1, hp2⟩ := hv
  have hK := hG.1
  have hx := Bd.exec
  have hb := Bd.bytes
  have hr := Bd.returns
  have hts := atoms_spec (ws := (jw yX11_endOf cX11_endOf 6 (some .int))) Bd.pre
  have htw : ∀ w ∈ jWl, w.before _ s = true := fun w h => hts w (List.mem_cons_of_mem _ h)
  have hown : s.vm.findClass RX11 = some m.cls := findClass_of_methodNamed Bd.named
  have hlocks := Bd.notSynchronized
  obtain ⟨Q, hQ⟩ : ∃ Q, Q = MQ below (va_Qi (S := Unit) (fun r u => (a1.toInt ≤ r.toInt ∧ (r.toInt = a1.toInt ∨ r.toInt ≤ n0))) (fun u t => jRt (dC, dI) B base G0 EX11_endOfB H0 [] t.heap) (jA base)) ([.ref r0, .int a1, .int a2] : List Value).toArray s 0 0 (jA base) := ⟨_, rfl⟩
  rw [← hQ]
  have hl := lv_entry ([.ref r0, .int a1, .int a2]) (n := 6) (Nat.le_of_ble_eq_true rfl)
  rw [lg_entry_eq]
  generalize (lg_sl ([.ref r0, .int a1, .int a2]) ++ List.replicate (6 - (lg_sl ([.ref r0, .int a1, .int a2])).length) Slot.unset).toArray = ls at hl ⊢
  have hl : lv_has ls 6 [(0, .ref r0), (1, .int a1), (2, .int a2)] := hl
  generalize hR : (headSpec (jw yX11_endOf cX11_endOf 6 (some .int)) ({ frames := 0, cells := 0, slots := 0, locals := 0 })).room = R
  subst hH0
  have hh : jSt (dC, dI) B base G0 G0 EX11_endOfB s.heap 0 0 [] [] [] s.heap [] := jSt.start hX hP0 jMc.nil jIs.nil
  clear hX hP0
  have hk0 : (0 : Int32).toInt = 0 := by decide
  have hk1 : (1 : Int32).toInt = 1 := by decide
  have hk4 : (4 : Int32).toInt = 4 := by decide
  have hk5 : (5 : Int32).toInt = 5 := by decide
  have hk6 : (6 : Int32).toInt = 6 := by decide
  have hk7 : (7 : Int32).toInt = 7 := by decide
  have hk8 : (8 : Int32).toInt = 8 := by decide
  have hk15 : (15 : Int32).toInt = 15 := by decide
  have hk2047 : (2047 : Int32).toInt = 2047 := by decide
  have hrg_a1 := jb_rng a1
  have hrg_a2 := jb_rng a2
  refine lv_iconst (v := 1) hx hb dX11_endOf_0 (by decide) ?_
  refine lv_istore_n (lv' := [(3, .int 1), (0, .ref r0), (1, .int a1), (2, .int a2)]) hx hb dX11_endOf_1 rfl hl (by decide) rfl (fun ls hl => ?_)
  refine lv_iload_n hx hb dX11_endOf_2 rfl (lv_at hl 2 rfl) ?_
  refine lv_istore (lv' := [(4, .int a1), (3, .int 1), (0, .ref r0), (1, .int a1), (2, .int a2)]) hx hb dX11_endOf_3 hl (by decide) rfl (fun ls hl => ?_)
  have L5 : ∀ (N : Nat) (v3_1 : Int32) (v4_1 : Int32) (H_1 : Heap) (locs_1 : List Loc), jSt (dC, dI) B base G0 G0 EX11_endOfB s.heap 0 0 [] [] [] H_1 locs_1 → (a1.toInt ≤ v4_1.toInt ∧ 0 ≤ v3_1.toInt ∧ v3_1.toInt ≤ 2048 * (v4_1.toInt - a1.toInt) + 1 ∧ (v4_1.toInt = a1.toInt ∨ v4_1.toInt ≤ n0)) → (((n0 - v4_1.toInt).toNat : Int) : Int) < N → ∀ ls : Array Slot, lv_has ls 6 [(0, .ref r0), (1, .int a1), (2, .int a2), (3, .int v3_1), (4, .int v4_1)] → W p l e R s m ([.ref r0, .int a1, .int a2] : List Value).toArray below meth c H_1 locs_1 0 0 Q (F0 m 5 ls []) := by
    intro N
    induction N with
    | zero => intro v3_1 v4_1 H_1 locs_1 hh_1  hi_1 hm; exact absurd hm (by omega)
    | succ N L5 =>
      intro v3_1 v4_1 H_1 locs_1 hh_1  hi_1 hm_1 ls hl
      obtain ⟨hi_1_0, hi_1_1, hi_1_2, hi_1_3⟩ := hi_1
      refine lv_iload hx hb dX11_endOf_5 (lv_at hl 4 rfl) ?_
      refine lv_iload_n hx hb dX11_endOf_7 rfl (lv_at hl 2 rfl) ?_
      refine lv_icmp_ge (tgt := 103) hx hb dX11_endOf_8 (by decide) (fun c_2 => ?_) (fun c_2 => ?_)
      · skip
        have c_2' : v4_1.toInt ≥ a2.toInt := jb_ge (rfl) (rfl) c_2
        refine lv_iload hx hb dX11_endOf_103 (lv_at hl 4 rfl) ?_
        rw [hQ]
        exact W.iret (v := v4_1) hx hb hr (fun t ht hW => ⟨⟨v4_1, (), rfl, by first | omega | (refine ⟨?_, ?_⟩ <;> (first | omega | rfl | assumption | decide | exact Or.inl rfl | exact Or.inr rfl | (simp only; omega))), hh_1.rt (M1 := []) [] rfl ht⟩, by rw [ht]; try exact hh_1.1.1, fun q h9 hq => by rw [ht]; try exact hh_1.1.2.1 q h9 hq⟩) hh_1.1.2.2 dX11_endOf_105
      · skip
        have c_2' : v4_1.toInt < a2.toInt := jb_ge_n (rfl) (rfl) c_2
        refine lv_iload hx hb dX11_endOf_11 (lv_at hl 4 rfl) ?_
        refine lv_aload_n hx hb dX11_endOf_13 rfl (lv_at hl 0 rfl) ?_
        refine j7_len hx hb hK hh_1 hB280 1 rfl (by decide) hg_r0 (by omega) dX11_endOf_14 (fun z_3 hz_3 => ?_)
        refine lv_icmp_ge (tgt := 103) hx hb dX11_endOf_15 (by decide) (fun c_4 => ?_) (fun c_4 => ?_)
        · skip
          have c_4' : v4_1.toInt ≥ z_3.toInt := jb_ge (rfl) (rfl) c_4
          refine lv_iload hx hb dX11_endOf_103 (lv_at hl 4 rfl) ?_
          rw [hQ]
          exact W.iret (v := v4_1) hx hb hr (fun t ht hW => ⟨⟨v4_1, (), rfl, by first | omega | (refine ⟨?_, ?_⟩ <;> (first | omega | rfl | assumption | decide | exact Or.inl rfl | exact Or.inr rfl | (simp only; omega))), hh_1.rt (M1 := []) [] rfl ht⟩, by rw [ht]; try exact hh_1.1.1, fun q h9 hq => by rw [ht]; try exact hh_1.1.2.1 q h9 hq⟩) hh_1.1.2.2 dX11_endOf_105
        · skip
          have c_4' : v4_1.toInt < z_3.toInt := jb_ge_n (rfl) (rfl) c_4
          refine lv_iload_n hx hb dX11_endOf_18 rfl (lv_at hl 3 rfl) ?_
          refine lv_if_le (tgt := 103) hx hb dX11_endOf_19 (by decide) (fun c_5 => ?_) (fun c_5 => ?_)
          · skip
            have c_5' : v3_1.toInt ≤ 0 := jb_le (rfl) ((by decide)) c_5
            refine lv_iload hx hb dX11_endOf_103 (lv_at hl 4 rfl) ?_
            rw [hQ]
            exact W.iret (v := v4_1) hx hb hr (fun t ht hW => ⟨⟨v4_1, (), rfl, by first | omega | (refine ⟨?_, ?_⟩ <;> (first | omega | rfl | assumption | decide | exact Or.inl rfl | exact Or.inr rfl | (simp only; omega))), hh_1.rt (M1 := []) [] rfl ht⟩, by rw [ht]; try exact hh_1.1.1, fun q h9 hq => by rw [ht]; try exact hh_1.1.2.1 q h9 hq⟩) hh_1.1.2.2 dX11_endOf_105
          · skip
            have c_5' : v3_1.toInt > 0 := jb_le_n (rfl) ((by decide)) c_5
            refine lv_aload_n hx hb dX11_endOf_22 rfl (lv_at hl 0 rfl) ?_
            refine lv_iload hx hb dX11_endOf_23 (lv_at hl 4 rfl) ?_
            refine j7_iald hx hb hK hh_1 hB280 1 rfl (by decide) hg_r0 (x := v4_1.toInt) (rfl) (by omega) dX11_endOf_25 (fun z_6 (hz_6 : -1 ≤ z_6.toInt) => ?_)
            refine lv_bipush (v := 15) hx hb dX11_endOf_26 (by decide) ?_
            refine lv_iand hx hb dX11_endOf_28 ?_
            refine lv_topi (fun z_7 ez_7 => ?_)
            have hz_7 : 0 ≤ z_7.toInt ∧ z_7.toInt ≤ 15 := by rw [ez_7]; exact jb_and z_6 (m := 15) (k := 4) (by decide) (by decide)
            refine lv_istore (lv' := [(5, .int z_7), (0, .ref r0), (1, .int a1), (2, .int a2), (3, .int v3_1), (4, .int v4_1)]) hx hb dX11_endOf_29 hl (by decide) rfl (fun ls hl => ?_)
            refine lv_iload hx hb dX11_endOf_31 (lv_at hl 0 rfl) ?_
            refine lv_iconst (v := 1) hx hb dX11_endOf_33 (by decide) ?_
            refine lv_icmp_lt (tgt := 49) hx hb dX11_endOf_34 (by decide) (fun c_8 => ?_) (fun c_8 => ?_)
            · skip
              have c_8' : z_7.toInt < 1 := jb_lt (rfl) ((by decide)) c_8
              refine lv_iload hx hb dX11_endOf_49 (lv_at hl 0 rfl) ?_
              refine lv_bipush (v := 7) hx hb dX11_endOf_51 (by decide) ?_
              refine lv_icmp_eq (tgt := 63) hx hb dX11_endOf_53 (by decide) (fun c_9 => ?_) (fun c_9 => ?_)
              · skip
                have c_9' : z_7.toInt = 7 := jb_eq (rfl) ((by decide)) c_9
                refine lv_iload_n hx hb dX11_endOf_63 rfl (lv_at hl 4 rfl) ?_
                refine lv_aload_n hx hb dX11_endOf_64 rfl (lv_at hl 1 rfl) ?_
                refine lv_iload hx hb dX11_endOf_65 (lv_at hl 5 rfl) ?_
                refine j7_iald hx hb hK hh_1 hB280 1 rfl (by decide) hg_r0 (x := v4_1.toInt) (rfl) (by omega) dX11_endOf_67 (fun z_10 (hz_10 : -1 ≤ z_10.toInt) => ?_)
                refine lv_iconst (v := 4) hx hb dX11_endOf_68 (by decide) ?_
                refine lv_ishr hx hb dX11_endOf_69 ?_
                refine lv_topi (fun z_11 ez_11 => ?_)
                have hz_11 : z_11.toInt = z_10.toInt / 2 ^ 4 := by rw [ez_11]; exact jb_ishr 4 (rfl) (by decide)
                refine lv_sipush (v := 2047) hx hb dX11_endOf_70 (by decide) ?_
                refine lv_iand hx hb dX11_endOf_73 ?_
                refine lv_topi (fun z_12 ez_12 => ?_)
                have hz_12 : 0 ≤ z_12.toInt ∧ z_12.toInt ≤ 2047 := by rw [ez_12]; exact jb_and z_11 (m := 2047) (k := 11) (by decide) (by decide)
                refine lv_iconst (v := 1) hx hb dX11_endOf_74 (by decide) ?_
                refine lv_isub hx hb dX11_endOf_75 ?_
                refine lv_topi (fun z_13 ez_13 => ?_)
                have hz_13 : z_13.toInt = z_12.toInt - 1 := by rw [ez_13]; exact jb_isub2 (rfl) ((by decide)) (by omega)
                refine lv_iadd hx hb dX11_endOf_76 ?_
                refine lv_topi (fun z_14 ez_14 => ?_)
                have hz_14 : z_14.toInt = v3_1.toInt + z_13.toInt := by rw [ez_14]; exact jb_iadd2 (rfl) (rfl) (by omega)
                refine lv_istore_n (lv' := [(3, .int z_14), (5, .int z_7), (0, .ref r0), (1, .int a1), (2, .int a2), (4, .int v4_1)]) hx hb dX11_endOf_77 rfl hl (by decide) rfl (fun ls hl => ?_)
                refine lv_goto (tgt := 97) hx hb dX11_endOf_78 (by decide) ?_
                obtain ⟨z_15, ez_15⟩ : ∃ y : Int32, y = v4_1 + 1 := ⟨_, rfl⟩
                refine lv_iinc (v := z_15) (lv' := [(4, .int z_15), (3, .int z_14), (5, .int z_7), (0, .ref r0), (1, .int a1), (2, .int a2)]) hx hb dX11_endOf_97 hl (k := 5) rfl (by rw [ez_15]; rfl) (by decide) rfl (fun ls hl => ?_)
                have hz_15 : z_15.toInt = v4_1.toInt + 1 := by rw [ez_15]; exact jb_iadd2 (rfl) (by decide) (by omega)
                refine lv_goto (tgt := 5) hx hb dX11_endOf_100 (by decide) ?_
                exact L5 z_14 z_15 _ _ hh_1 (by first | omega | (refine ⟨?_, ?_, ?_, ?_⟩ <;> (first | omega | rfl | assumption | decide | exact Or.inl rfl | exact Or.inr rfl | (simp only; omega)))) (by omega) _ (lv_sub hl [3, 4, 5, 1, 0] rfl)
              · skip
                have c_9' : z_7.toInt ≠ 7 := jb_eq_n (rfl) ((by decide)) c_9
                refine lv_iload hx hb dX11_endOf_56 (lv_at hl 0 rfl) ?_
                refine lv_bipush (v := 8) hx hb dX11_endOf_58 (by decide) ?_
                refine lv_icmp_ne (tgt := 81) hx hb dX11_endOf_60 (by decide) (fun c_16 => ?_) (fun c_16 => ?_)
                · skip
                  have c_16' : z_7.toInt ≠ 8 := jb_ne (rfl) ((by decide)) c_16
                  refine lv_iload hx hb dX11_endOf_81 (lv_at hl 0 rfl) ?_
                  refine lv_iconst (v := 5) hx hb dX11_endOf_83 (by decide) ?_
                  refine lv_icmp_eq (tgt := 97) hx hb dX11_endOf_84 (by decide) (fun c_17 => ?_) (fun c_17 => ?_)
                  · skip
                    have c_17' : z_7.toInt = 5 := jb_eq (rfl) ((by decide)) c_17
                    obtain ⟨z_18, ez_18⟩ : ∃ y : Int32, y = v4_1 + 1 := ⟨_, rfl⟩
                    refine lv_iinc (v := z_18) (lv' := [(4, .int z_18), (5, .int z_7), (0, .ref r0), (1, .int a1), (2, .int a2), (3, .int v3_1)]) hx hb dX11_endOf_97 hl (k := 5) rfl (by rw [ez_18]; rfl) (by decide) rfl (fun ls hl => ?_)
                    have hz_18 : z_18.toInt = v4_1.toInt + 1 := by rw [ez_18]; exact jb_iadd2 (rfl) (by decide) (by omega)
                    refine lv_goto (tgt := 5) hx hb dX11_endOf_100 (by decide) ?_
                    exact L5 v3_1 z_18 _ _ hh_1 (by first | omega | (refine ⟨?_, ?_, ?_, ?_⟩ <;> (first | omega | rfl | assumption | decide | exact Or.inl rfl | exact Or.inr rfl | (simp only; omega)))) (by omega) _ (lv_sub hl [2, 3, 4, 5, 0] rfl)
                  · skip
                    have c_17' : z_7.toInt ≠ 5 := jb_eq_n (rfl) ((by decide)) c_17
                    refine lv_iload hx hb dX11_endOf_87 (lv_at hl 0 rfl) ?_
                    refine lv_bipush (v := 6) hx hb dX11_endOf_89 (by decide) ?_
                    refine lv_icmp_eq (tgt := 97) hx hb dX11_endOf_91 (by decide) (fun c_19 => ?_) (fun c_19 => ?_)
                    · skip
                      have c_19' : z_7.toInt = 6 := jb_eq (rfl) ((by decide)) c_19
                      obtain ⟨z_20, ez_20⟩ : ∃ y : Int32, y = v4_1 + 1 := ⟨_, rfl⟩
                      refine lv_iinc (v := z_20) (lv' := [(4, .int z_20), (5, .int z_7), (0, .ref r0), (1, .int a1), (2, .int a2), (3, .int v3_1)]) hx hb dX11_endOf_97 hl (k := 5) rfl (by rw [ez_20]; rfl) (by decide) rfl (fun ls hl => ?_)
                      have hz_20 : z_20.toInt = v4_1.toInt + 1 := by rw [ez_20]; exact jb_iadd2 (rfl) (by decide) (by omega)
                      refine lv_goto (tgt := 5) hx hb dX11_endOf_100 (by decide) ?_
                      exact L5 v3_1 z_20 _ _ hh_1 (by first | omega | (refine ⟨?_, ?_, ?_, ?_⟩ <;> (first | omega | rfl | assumption | decide | exact Or.inl rfl | exact Or.inr rfl | (simp only; omega)))) (by omega) _ (lv_sub hl [2, 3, 4, 5, 0] rfl)
                    · skip
                      have c_19' : z_7.toInt ≠ 6 := jb_eq_n (rfl) ((by decide)) c_19
                      obtain ⟨z_21, ez_21⟩ : ∃ y : Int32, y = v3_1 + (-1) := ⟨_, rfl⟩
                      refine lv_iinc (v := z_21) (lv' := [(3, .int z_21), (5, .int z_7), (0, .ref r0), (1, .int a1), (2, .int a2), (4, .int v4_1)]) hx hb dX11_endOf_94 hl (k := 4) rfl (by rw [ez_21]; rfl) (by decide) rfl (fun ls hl => ?_)
                      have hz_21 : z_21.toInt = v3_1.toInt + (-1) := by rw [ez_21]; exact jb_iadd2 (rfl) (by decide) (by omega)
                      obtain ⟨z_22, ez_22⟩ : ∃ y : Int32, y = v4_1 + 1 := ⟨_, rfl⟩
                      refine lv_iinc (v := z_22) (lv' := [(4, .int z_22), (3, .int z_21), (5, .int z_7), (0, .ref r0), (1, .int a1), (2, .int a2)]) hx hb dX11_endOf_97 hl (k := 5) rfl (by rw [ez_22]; rfl) (by decide) rfl (fun ls hl => ?_)
                      have hz_22 : z_22.toInt = v4_1.toInt + 1 := by rw [ez_22]; exact jb_iadd2 (rfl) (by decide) (by omega)
                      refine lv_goto (tgt := 5) hx hb dX11_endOf_100 (by decide) ?_
                      exact L5 z_21 z_22 _ _ hh_1 (by first | omega | (refine ⟨?_, ?_, ?_, ?_⟩ <;> (first | omega | rfl | assumption | decide | exact Or.inl rfl | exact Or.inr rfl | (simp only; omega)))) (by omega) _ (lv_sub hl [3, 4, 5, 1, 0] rfl)
                · skip
                  have c_16' : z_7.toInt = 8 := jb_ne_n (rfl) ((by decide)) c_16
                  refine lv_iload_n hx hb dX11_endOf_63 rfl (lv_at hl 4 rfl) ?_
                  refine lv_aload_n hx hb dX11_endOf_64 rfl (lv_at hl 1 rfl) ?_
                  refine lv_iload hx hb dX11_endOf_65 (lv_at hl 5 rfl) ?_
                  refine j7_iald hx hb hK hh_1 hB280 1 rfl (by decide) hg_r0 (x := v4_1.toInt) (rfl) (by omega) dX11_endOf_67 (fun z_23 (hz_23 : -1 ≤ z_23.toInt) => ?_)
                  refine lv_iconst (v := 4) hx hb dX11_endOf_68 (by decide) ?_
                  refine lv_ishr hx hb dX11_endOf_69 ?_
                  refine lv_topi (fun z_24 ez_24 => ?_)
                  have hz_24 : z_24.toInt = z_23.toInt / 2 ^ 4 := by rw [ez_24]; exact jb_ishr 4 (rfl) (by decide)
                  refine lv_sipush (v := 2047) hx hb dX11_endOf_70 (by decide) ?_
                  refine lv_iand hx hb dX11_endOf_73 ?_
                  refine lv_topi (fun z_25 ez_25 => ?_)
                  have hz_25 : 0 ≤ z_25.toInt ∧ z_25.toInt ≤ 2047 := by rw [ez_25]; exact jb_and z_24 (m := 2047) (k := 11) (by decide) (by decide)
                  refine lv_iconst (v := 1) hx hb dX11_endOf_74 (by decide) ?_
                  refine lv_isub hx hb dX11_endOf_75 ?_
                  refine lv_topi (fun z_26 ez_26 => ?_)
                  have hz_26 : z_26.toInt = z_25.toInt - 1 := by rw [ez_26]; exact jb_isub2 (rfl) ((by decide)) (by omega)
                  refine lv_iadd hx hb dX11_endOf_76 ?_
                  refine lv_topi (fun z_27 ez_27 => ?_)
                  have hz_27 : z_27.toInt = v3_1.toInt + z_26.toInt := by rw [ez_27]; exact jb_iadd2 (rfl) (rfl) (by omega)
                  refine lv_istore_n (lv' := [(3, .int z_27), (5, .int z_7), (0, .ref r0), (1, .int a1), (2, .int a2), (4, .int v4_1)]) hx hb dX11_endOf_77 rfl hl (by decide) rfl (fun ls hl => ?_)
                  refine lv_goto (tgt := 97) hx hb dX11_endOf_78 (by decide) ?_
                  obtain ⟨z_28, ez_28⟩ : ∃ y : Int32, y = v4_1 + 1 := ⟨_, rfl⟩
                  refine lv_iinc (v := z_28) (lv' := [(4, .int z_28), (3, .int z_27), (5, .int z_7), (0, .ref r0), (1, .int a1), (2, .int a2)]) hx hb dX11_endOf_97 hl (k := 5) rfl (by rw [ez_28]; rfl) (by decide) rfl (fun ls hl => ?_)
                  have hz_28 : z_28.toInt = v4_1.toInt + 1 := by rw [ez_28]; exact jb_iadd2 (rfl) (by decide) (by omega)
                  refine lv_goto (tgt := 5) hx hb dX11_endOf_100 (by decide) ?_
                  exact L5 z_27 z_28 _ _ hh_1 (by first | omega | (refine ⟨?_, ?_, ?_, ?_⟩ <;> (first | omega | rfl | assumption | decide | exact Or.inl rfl | exact Or.inr rfl | (simp only; omega)))) (by omega) _ (lv_sub hl [3, 4, 5, 1, 0] rfl)
            · skip
              have c_8' : z_7.toInt ≥ 1 := jb_lt_n (rfl) ((by decide)) c_8
              refine lv_iload hx hb dX11_endOf_37 (lv_at hl 0 rfl) ?_
              refine lv_iconst (v := 4) hx hb dX11_endOf_39 (by decide) ?_
              refine lv_icmp_gt (tgt := 49) hx hb dX11_endOf_40 (by decide) (fun c_29 => ?_) (fun c_29 => ?_)
              · skip
                have c_29' : z_7.toInt > 4 := jb_gt (rfl) ((by decide)) c_29
                refine lv_iload hx hb dX11_endOf_49 (lv_at hl 0 rfl) ?_
                refine lv_bipush (v := 7) hx hb dX11_endOf_51 (by decide) ?_
                refine lv_icmp_eq (tgt := 63) hx hb dX11_endOf_53 (by decide) (fun c_30 => ?_) (fun c_30 => ?_)
                · skip
                  have c_30' : z_7.toInt = 7 := jb_eq (rfl) ((by decide)) c_30
                  refine lv_iload_n hx hb dX11_endOf_63 rfl (lv_at hl 4 rfl) ?_
                  refine lv_aload_n hx hb dX11_endOf_64 rfl (lv_at hl 1 rfl) ?_
                  refine lv_iload hx hb dX11_endOf_65 (lv_at hl 5 rfl) ?_
                  refine j7_iald hx hb hK hh_1 hB280 1 rfl (by decide) hg_r0 (x := v4_1.toInt) (rfl) (by omega) dX11_endOf_67 (fun z_31 (hz_31 : -1 ≤ z_31.toInt) => ?_)
                  refine lv_iconst (v := 4) hx hb dX11_endOf_68 (by decide) ?_
                  refine lv_ishr hx hb dX11_endOf_69 ?_
                  refine lv_topi (fun z_32 ez_32 => ?_)
                  have hz_32 : z_32.toInt = z_31.toInt / 2 ^ 4 := by rw [ez_32]; exact jb_ishr 4 (rfl) (by decide)
                  refine lv_sipush (v := 2047) hx hb dX11_endOf_70 (by decide) ?_
                  refine lv_iand hx hb dX11_endOf_73 ?_
                  refine lv_topi (fun z_33 ez_33 => ?_)
                  have hz_33 : 0 ≤ z_33.toInt ∧ z_33.toInt ≤ 2047 := by rw [ez_33]; exact jb_and z_32 (m := 2047) (k := 11) (by decide) (by decide)
                  refine lv_iconst (v := 1) hx hb dX11_endOf_74 (by decide) ?_
                  refine lv_isub hx hb dX11_endOf_75 ?_
                  refine lv_topi (fun z_34 ez_34 => ?_)
                  have hz_34 : z_34.toInt = z_33.toInt - 1 := by rw [ez_34]; exact jb_isub2 (rfl) ((by decide)) (by omega)
                  refine lv_iadd hx hb dX11_endOf_76 ?_
                  refine lv_topi (fun z_35 ez_35 => ?_)
                  have hz_35 : z_35.toInt = v3_1.toInt + z_34.toInt := by rw [ez_35]; exact jb_iadd2 (rfl) (rfl) (by omega)
                  refine lv_istore_n (lv' := [(3, .int z_35), (5, .int z_7), (0, .ref r0), (1, .int a1), (2, .int a2), (4, .int v4_1)]) hx hb dX11_endOf_77 rfl hl (by decide) rfl (fun ls hl => ?_)
                  refine lv_goto (tgt := 97) hx hb dX11_endOf_78 (by decide) ?_
                  obtain ⟨z_36, ez_36⟩ : ∃ y : Int32, y = v4_1 + 1 := ⟨_, rfl⟩
                  refine lv_iinc (v := z_36) (lv' := [(4, .int z_36), (3, .int z_35), (5, .int z_7), (0, .ref r0), (1, .int a1), (2, .int a2)]) hx hb dX11_endOf_97 hl (k := 5) rfl (by rw [ez_36]; rfl) (by decide) rfl (fun ls hl => ?_)
                  have hz_36 : z_36.toInt = v4_1.toInt + 1 := by rw [ez_36]; exact jb_iadd2 (rfl) (by decide) (by omega)
                  refine lv_goto (tgt := 5) hx hb dX11_endOf_100 (by decide) ?_
                  exact L5 z_35 z_36 _ _ hh_1 (by first | omega | (refine ⟨?_, ?_, ?_, ?_⟩ <;> (first | omega | rfl | assumption | decide | exact Or.inl rfl | exact Or.inr rfl | (simp only; omega)))) (by omega) _ (lv_sub hl [3, 4, 5, 1, 0] rfl)
                · skip
                  have c_30' : z_7.toInt ≠ 7 := jb_eq_n (rfl) ((by decide)) c_30
                  refine lv_iload hx hb dX11_endOf_56 (lv_at hl 0 rfl) ?_
                  refine lv_bipush (v := 8) hx hb dX11_endOf_58 (by decide) ?_
                  refine lv_icmp_ne (tgt := 81) hx hb dX11_endOf_60 (by decide) (fun c_37 => ?_) (fun c_37 => ?_)
                  · skip
                    have c_37' : z_7.toInt ≠ 8 := jb_ne (rfl) ((by decide)) c_37
                    refine lv_iload hx hb dX11_endOf_81 (lv_at hl 0 rfl) ?_
                    refine lv_iconst (v := 5) hx hb dX11_endOf_83 (by decide) ?_
                    refine lv_icmp_eq (tgt := 97) hx hb dX11_endOf_84 (by decide) (fun c_38 => ?_) (fun c_38 => ?_)
                    · skip
                      have c_38' : z_7.toInt = 5 := jb_eq (rfl) ((by decide)) c_38
                      obtain ⟨z_39, ez_39⟩ : ∃ y : Int32, y = v4_1 + 1 := ⟨_, rfl⟩
                      refine lv_iinc (v := z_39) (lv' := [(4, .int z_39), (5, .int z_7), (0, .ref r0), (1, .int a1), (2, .int a2), (3, .int v3_1)]) hx hb dX11_endOf_97 hl (k := 5) rfl (by rw [ez_39]; rfl) (by decide) rfl (fun ls hl => ?_)
                      have hz_39 : z_39.toInt = v4_1.toInt + 1 := by rw [ez_39]; exact jb_iadd2 (rfl) (by decide) (by omega)
                      refine lv_goto (tgt := 5) hx hb dX11_endOf_100 (by decide) ?_
                      exact L5 v3_1 z_39 _ _ hh_1 (by first | omega | (refine ⟨?_, ?_, ?_, ?_⟩ <;> (first | omega | rfl | assumption | decide | exact Or.inl rfl | exact Or.inr rfl | (simp only; omega)))) (by omega) _ (lv_sub hl [2, 3, 4, 5, 0] rfl)
                    · skip
                      have c_38' : z_7.toInt ≠ 5 := jb_eq_n (rfl) ((by decide)) c_38
                      refine lv_iload hx hb dX11_endOf_87 (lv_at hl 0 rfl) ?_
                      refine lv_bipush (v := 6) hx hb dX11_endOf_89 (by decide) ?_
                      refine lv_icmp_eq (tgt := 97) hx hb dX11_endOf_91 (by decide) (fun c_40 => ?_) (fun c_40 => ?_)
                      · skip
                        have c_40' : z_7.toInt = 6 := jb_eq (rfl) ((by decide)) c_40
                        obtain ⟨z_41, ez_41⟩ : ∃ y : Int32, y = v4_1 + 1 := ⟨_, rfl⟩
                        refine lv_iinc (v := z_41) (lv' := [(4, .int z_41), (5, .int z_7), (0, .ref r0), (1, .int a1), (2, .int a2), (3, .int v3_1)]) hx hb dX11_endOf_97 hl (k := 5) rfl (by rw [ez_41]; rfl) (by decide) rfl (fun ls hl => ?_)
                        have hz_41 : z_41.toInt = v4_1.toInt + 1 := by rw [ez_41]; exact jb_iadd2 (rfl) (by decide) (by omega)
                        refine lv_goto (tgt := 5) hx hb dX11_endOf_100 (by decide) ?_
                        exact L5 v3_1 z_41 _ _ hh_1 (by first | omega | (refine ⟨?_, ?_, ?_, ?_⟩ <;> (first | omega | rfl | assumption | decide | exact Or.inl rfl | exact Or.inr rfl | (simp only; omega)))) (by omega) _ (lv_sub hl [2, 3, 4, 5, 0] rfl)
                      · skip
                        have c_40' : z_7.toInt ≠ 6 := jb_eq_n (rfl) ((by decide)) c_40
                        obtain ⟨z_42, ez_42⟩ : ∃ y : Int32, y = v3_1 + (-1) := ⟨_, rfl⟩
                        refine lv_iinc (v := z_42) (lv' := [(3, .int z_42), (5, .int z_7), (0, .ref r0), (1, .int a1), (2, .int a2), (4, .int v4_1)]) hx hb dX11_endOf_94 hl (k := 4) rfl (by rw [ez_42]; rfl) (by decide) rfl (fun ls hl => ?_)
                        have hz_42 : z_42.toInt = v3_1.toInt + (-1) := by rw [ez_42]; exact jb_iadd2 (rfl) (by decide) (by omega)
                        obtain ⟨z_43, ez_43⟩ : ∃ y : Int32, y = v4_1 + 1 := ⟨_, rfl⟩
                        refine lv_iinc (v := z_43) (lv' := [(4, .int z_43), (3, .int z_42), (5, .int z_7), (0, .ref r0), (1, .int a1), (2, .int a2)]) hx hb dX11_endOf_97 hl (k := 5) rfl (by rw [ez_43]; rfl) (by decide) rfl (fun ls hl => ?_)
                        have hz_43 : z_43.toInt = v4_1.toInt + 1 := by rw [ez_43]; exact jb_iadd2 (rfl) (by decide) (by omega)
                        refine lv_goto (tgt := 5) hx hb dX11_endOf_100 (by decide) ?_
                        exact L5 z_42 z_43 _ _ hh_1 (by first | omega | (refine ⟨?_, ?_, ?_, ?_⟩ <;> (first | omega | rfl | assumption | decide | exact Or.inl rfl | exact Or.inr rfl | (simp only; omega)))) (by omega) _ (lv_sub hl [3, 4, 5, 1, 0] rfl)
                  · skip
                    have c_37' : z_7.toInt = 8 := jb_ne_n (rfl) ((by decide)) c_37
                    refine lv_iload_n hx hb dX11_endOf_63 rfl (lv_at hl 4 rfl) ?_
                    refine lv_aload_n hx hb dX11_endOf_64 rfl (lv_at hl 1 rfl) ?_
                    refine lv_iload hx hb dX11_endOf_65 (lv_at hl 5 rfl) ?_
                    refine j7_iald hx hb hK hh_1 hB280 1 rfl (by decide) hg_r0 (x := v4_1.toInt) (rfl) (by omega) dX11_endOf_67 (fun z_44 (hz_44 : -1 ≤ z_44.toInt) => ?_)
                    refine lv_iconst (v := 4) hx hb dX11_endOf_68 (by decide) ?_
                    refine lv_ishr hx hb dX11_endOf_69 ?_
                    refine lv_topi (fun z_45 ez_45 => ?_)
                    have hz_45 : z_45.toInt = z_44.toInt / 2 ^ 4 := by rw [ez_45]; exact jb_ishr 4 (rfl) (by decide)
                    refine lv_sipush (v := 2047) hx hb dX11_endOf_70 (by decide) ?_
                    refine lv_iand hx hb dX11_endOf_73 ?_
                    refine lv_topi (fun z_46 ez_46 => ?_)
                    have hz_46 : 0 ≤ z_46.toInt ∧ z_46.toInt ≤ 2047 := by rw [ez_46]; exact jb_and z_45 (m := 2047) (k := 11) (by decide) (by decide)
                    refine lv_iconst (v := 1) hx hb dX11_endOf_74 (by decide) ?_
                    refine lv_isub hx hb dX11_endOf_75 ?_
                    refine lv_topi (fun z_47 ez_47 => ?_)
                    have hz_47 : z_47.toInt = z_46.toInt - 1 := by rw [ez_47]; exact jb_isub2 (rfl) ((by decide)) (by omega)
                    refine lv_iadd hx hb dX11_endOf_76 ?_
                    refine lv_topi (fun z_48 ez_48 => ?_)
                    have hz_48 : z_48.toInt = v3_1.toInt + z_47.toInt := by rw [ez_48]; exact jb_iadd2 (rfl) (rfl) (by omega)
                    refine lv_istore_n (lv' := [(3, .int z_48), (5, .int z_7), (0, .ref r0), (1, .int a1), (2, .int a2), (4, .int v4_1)]) hx hb dX11_endOf_77 rfl hl (by decide) rfl (fun ls hl => ?_)
                    refine lv_goto (tgt := 97) hx hb dX11_endOf_78 (by decide) ?_
                    obtain ⟨z_49, ez_49⟩ : ∃ y : Int32, y = v4_1 + 1 := ⟨_, rfl⟩
                    refine lv_iinc (v := z_49) (lv' := [(4, .int z_49), (3, .int z_48), (5, .int z_7), (0, .ref r0), (1, .int a1), (2, .int a2)]) hx hb dX11_endOf_97 hl (k := 5) rfl (by rw [ez_49]; rfl) (by decide) rfl (fun ls hl => ?_)
                    have hz_49 : z_49.toInt = v4_1.toInt + 1 := by rw [ez_49]; exact jb_iadd2 (rfl) (by decide) (by omega)
                    refine lv_goto (tgt := 5) hx hb dX11_endOf_100 (by decide) ?_
                    exact L5 z_48 z_49 _ _ hh_1 (by first | omega | (refine ⟨?_, ?_, ?_, ?_⟩ <;> (first | omega | rfl | assumption | decide | exact Or.inl rfl | exact Or.inr rfl | (simp only; omega)))) (by omega) _ (lv_sub hl [3, 4, 5, 1, 0] rfl)
              · skip
                have c_29' : z_7.toInt ≤ 4 := jb_gt_n (rfl) ((by decide)) c_29
                obtain ⟨z_50, ez_50⟩ : ∃ y : Int32, y = v3_1 + 1 := ⟨_, rfl⟩
                refine lv_iinc (v := z_50) (lv' := [(3, .int z_50), (5, .int z_7), (0, .ref r0), (1, .int a1), (2, .int a2), (4, .int v4_1)]) hx hb dX11_endOf_43 hl (k := 4) rfl (by rw [ez_50]; rfl) (by decide) rfl (fun ls hl => ?_)
                have hz_50 : z_50.toInt = v3_1.toInt + 1 := by rw [ez_50]; exact jb_iadd2 (rfl) (by decide) (by omega)
                refine lv_goto (tgt := 97) hx hb dX11_endOf_46 (by decide) ?_
                obtain ⟨z_51, ez_51⟩ : ∃ y : Int32, y = v4_1 + 1 := ⟨_, rfl⟩
                refine lv_iinc (v := z_51) (lv' := [(4, .int z_51), (3, .int z_50), (5, .int z_7), (0, .ref r0), (1, .int a1), (2, .int a2)]) hx hb dX11_endOf_97 hl (k := 5) rfl (by rw [ez_51]; rfl) (by decide) rfl (fun ls hl => ?_)
                have hz_51 : z_51.toInt = v4_1.toInt + 1 := by rw [ez_51]; exact jb_iadd2 (rfl) (by decide) (by omega)
                refine lv_goto (tgt := 5) hx hb dX11_endOf_100 (by decide) ?_
                exact L5 z_50 z_51 _ _ hh_1 (by first | omega | (refine ⟨?_, ?_, ?_, ?_⟩ <;> (first | omega | rfl | assumption | decide | exact Or.inl rfl | exact Or.inr rfl | (simp only; omega)))) (by omega) _ (lv_sub hl [3, 4, 5, 1, 0] rfl)
  exact L5 (((n0 - (a1 : Int32).toInt).toNat : Int) : Int).toNat.succ 1 a1 _ _ hh (by first | omega | (refine ⟨?_, ?_, ?_, ?_⟩ <;> (first | omega | rfl | assumption | decide | exact Or.inl rfl | exact Or.inr rfl | (simp only; omega)))) (by omega) _ (lv_sub hl [2, 3, 4, 1, 0] rfl)
end
