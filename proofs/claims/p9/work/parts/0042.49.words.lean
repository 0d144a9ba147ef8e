section
theorem jWr_56 : ∀ w ∈ wsL_law_r56, w ∈ jWl := fun w h => jT56 w (List.mem_append_left _ h)
theorem jWr_73 : ∀ w ∈ wsL_law_r73, w ∈ jWl := fun w h => jT73 w (List.mem_append_left _ h)
theorem jWr_74 : ∀ w ∈ wsL_law_r74, w ∈ jWl := fun w h => jT74 w (List.mem_append_left _ h)
end
section
-- the refined heap: every field of a typed object holds a value of its own predicate, every element of a typed array too; what is known of a field just now is a pin (address, kind, field, value)
section J7
variable {p : Program} {l : Launch} {e : Env} {R : Room} {s : State} {m : MethodId} {args : Array Value} {below : List Frame} {meth : Method} {c : Code} {H : Heap} {locs : List Loc} {cells slots : Nat} {Q : State → Prop}
variable {cc : ByteArray} {pc : Nat} {ls : Array Slot} {rest : List Value} {dC : Nat → ClassId} {dI : Nat → Nat → Nat} {ca : Nat → ClassId} {B : jF} {base : Nat} {G0 G : jT} {E : List (Nat × Nat)} {H0 : Heap} {zc zs : Nat} {L : List jPin} {M : List jCt} {I : List jIv} {a k n i index N : Nat} {tys : List (ClassId × FieldType)} {own C : String} {T : u_T}
end J7
section J8
variable {p : Program} {l : Launch} {e : Env} {R : Room} {s : State} {m : MethodId} {args : Array Value} {below : List Frame} {meth : Method} {c : Code} {H : Heap} {locs : List Loc} {cells slots : Nat} {Q : State → Prop}
variable {cc : ByteArray} {pc : Nat} {ls : Array Slot} {rest : List Value} {dC : Nat → ClassId} {dI : Nat → Nat → Nat} {ca : Nat → ClassId} {B : jF} {base : Nat} {G0 G : jT} {E : List (Nat × Nat)} {H0 : Heap} {zc zs : Nat} {L : List jPin} {M : List jCt} {I : List jIv} {a k n : Nat} {P : Nat → Int32 → Prop} {cA : ClassId} {tys : List (ClassId × FieldType)}
end J8
def jRn (G : jT) (k n : Nat) : Value → Prop := fun v => v = .null ∨ ∃ x : Nat, v = .ref x ∧ G x = some (k, n)
end
section
-- contents of arrays that are known for a while
section J9
variable {p : Program} {l : Launch} {e : Env} {R : Room} {s : State} {m : MethodId} {args : Array Value} {below : List Frame} {meth : Method} {c : Code} {H : Heap} {locs : List Loc} {cells slots : Nat} {Q : State → Prop}
variable {cc : ByteArray} {pc : Nat} {ls : Array Slot} {rest : List Value} {dC : Nat → ClassId} {dI : Nat → Nat → Nat} {ca : Nat → ClassId} {B : jF} {base : Nat} {G0 G : jT} {E : List (Nat × Nat)} {H0 : Heap} {zc zs : Nat} {L : List jPin} {M : List jCt} {I : List jIv} {a k n : Nat} {P : Nat → Int32 → Prop} {cA : ClassId} {tys : List (ClassId × FieldType)}
theorem j7_zaldM (hexec : p.tables.exec = Jvm.exec) (hb : c.code = cc) (hK : va_K (dC, dI) vwCl tys s) (hh : jSt (dC, dI) B base G0 G E H0 zc zs L M I H locs) (hBk : ∀ n G a H, B k n G a H ↔ jAr (dC, dI) cA P n a H) (t0 : Nat) (ht : tys[t0]? = some (cA, .boolean)) (hk : k < 1000) (ha : G a = some (k, n)) {i : Int32} {x : Int} (hi : i.toInt = x) (h12 : 0 ≤ x ∧ x < n) {j : Nat} {kk1 : Nat} {cB : ClassId} {f : Nat → Int32} (hj : M[j]? = some (a, kk1, n, cB, f)) (hdg : decode cc pc = .ok (.baload, 1))
    (kk : ∀ z : Int32, z = f x.toNat → P x.toNat z → W p l e R s m args below meth c H locs cells slots Q (F0 m (pc + 1) ls (.int z :: rest))) : W p l e R s m args below meth c H locs cells slots Q (F0 m pc ls (.int i :: .ref a :: rest)) := by
  obtain ⟨h1, h2⟩ := h12
  obtain ⟨f', g1, g2⟩ := hh.ar hBk hk ha
  obtain ⟨-, -, -, q4⟩ := hh.2.2.2.2.2.2.2.1 _ (List.mem_of_getElem? hj)
  have hlt := jb_cl_lt hi h1 h2
  have hP := g2 _ hlt
  have e1 := jCt_eq q4 g1 hlt
  rw [jb_cl hi h1] at e1 hP
  exact va_zald hexec hb hK (jp_one g1) 0 t0 rfl ht (jb_in hi h1 h2) hdg (by rw [jb_cl hi h1]; exact kk _ e1.symm hP)
end J9
end
section
theorem dX14_isText_0 : decode cX14_isText 0 = .ok (.iload_n 2, 1) := by decide +kernel
theorem dX14_isText_1 : decode cX14_isText 1 = .ok (.iload_n 1, 1) := by decide +kernel
theorem dX14_isText_2 : decode cX14_isText 2 = .ok (.isub, 1) := by decide +kernel
theorem dX14_isText_3 : decode cX14_isText 3 = .ok (.aload_n 3, 1) := by decide +kernel
theorem dX14_isText_4 : decode cX14_isText 4 = .ok (.invokevirtual 163, 3) := by decide +kernel
theorem dX14_isText_7 : decode cX14_isText 7 = .ok (.if_icmp .eq 5, 3) := by decide +kernel
theorem dX14_isText_10 : decode cX14_isText 10 = .ok (.iconst 0, 1) := by decide +kernel
theorem dX14_isText_11 : decode cX14_isText 11 = .ok (.ireturn, 1) := by decide +kernel
theorem dX14_isText_12 : decode cX14_isText 12 = .ok (.iconst 0, 1) := by decide +kernel
theorem dX14_isText_13 : decode cX14_isText 13 = .ok (.istore 4, 2) := by decide +kernel
theorem dX14_isText_15 : decode cX14_isText 15 = .ok (.iload 4, 2) := by decide +kernel
theorem dX14_isText_17 : decode cX14_isText 17 = .ok (.aload_n 3, 1) := by decide +kernel
theorem dX14_isText_18 : decode cX14_isText 18 = .ok (.invokevirtual 163, 3) := by decide +kernel
theorem dX14_isText_21 : decode cX14_isText 21 = .ok (.if_icmp .ge 29, 3) := by decide +kernel
theorem dX14_isText_24 : decode cX14_isText 24 = .ok (.aload_n 0, 1) := by decide +kernel
theorem dX14_isText_25 : decode cX14_isText 25 = .ok (.getfield 65, 3) := by decide +kernel
theorem dX14_isText_28 : decode cX14_isText 28 = .ok (.iload_n 1, 1) := by decide +kernel
theorem dX14_isText_29 : decode cX14_isText 29 = .ok (.iload 4, 2) := by decide +kernel
theorem dX14_isText_31 : decode cX14_isText 31 = .ok (.iadd, 1) := by decide +kernel
theorem dX14_isText_32 : decode cX14_isText 32 = .ok (.iaload, 1) := by decide +kernel
theorem dX14_isText_33 : decode cX14_isText 33 = .ok (.aload_n 3, 1) := by decide +kernel
theorem dX14_isText_34 : decode cX14_isText 34 = .ok (.iload 4, 2) := by decide +kernel
theorem dX14_isText_36 : decode cX14_isText 36 = .ok (.invokevirtual 168, 3) := by decide +kernel
theorem dX14_isText_39 : decode cX14_isText 39 = .ok (.if_icmp .eq 5, 3) := by decide +kernel
theorem dX14_isText_42 : decode cX14_isText 42 = .ok (.iconst 0, 1) := by decide +kernel
theorem dX14_isText_43 : decode cX14_isText 43 = .ok (.ireturn, 1) := by decide +kernel
theorem dX14_isText_44 : decode cX14_isText 44 = .ok (.iinc 4 1, 3) := by decide +kernel
theorem dX14_isText_47 : decode cX14_isText 47 = .ok (.goto (-32), 3) := by decide +kernel
theorem dX14_isText_50 : decode cX14_isText 50 = .ok (.iconst 1, 1) := by decide +kernel
theorem dX14_isText_51 : decode cX14_isText 51 = .ok (.ireturn, 1) := by decide +kernel
theorem dX14_member_0 : decode cX14_member 0 = .ok (.iconst (-1), 1) := by decide +kernel
theorem dX14_member_1 : decode cX14_member 1 = .ok (.istore_n 3, 1) := by decide +kernel
theorem dX14_member_2 : decode cX14_member 2 = .ok (.iload_n 1, 1) := by decide +kernel
theorem dX14_member_3 : decode cX14_member 3 = .ok (.ifCond .lt 14, 3) := by decide +kernel
theorem dX14_member_6 : decode cX14_member 6 = .ok (.aload_n 0, 1) := by decide +kernel
theorem dX14_member_7 : decode cX14_member 7 = .ok (.getfield 37, 3) := by decide +kernel
theorem dX14_member_10 : decode cX14_member 10 = .ok (.iload_n 1, 1) := by decide +kernel
theorem dX14_member_11 : decode cX14_member 11 = .ok (.iaload, 1) := by decide +kernel
theorem dX14_member_12 : decode cX14_member 12 = .ok (.bipush 6, 2) := by decide +kernel
theorem dX14_member_14 : decode cX14_member 14 = .ok (.if_icmp .eq 5, 3) := by decide +kernel
theorem dX14_member_17 : decode cX14_member 17 = .ok (.iconst (-1), 1) := by decide +kernel
theorem dX14_member_18 : decode cX14_member 18 = .ok (.ireturn, 1) := by decide +kernel
theorem dX14_member_19 : decode cX14_member 19 = .ok (.aload_n 0, 1) := by decide +kernel
theorem dX14_member_20 : decode cX14_member 20 = .ok (.getfield 40, 3) := by decide +kernel
theorem dX14_member_23 : decode cX14_member 23 = .ok (.iload_n 1, 1) := by decide +kernel
theorem dX14_member_24 : decode cX14_member 24 = .ok (.iaload, 1) := by decide +kernel
theorem dX14_member_25 : decode cX14_member 25 = .ok (.istore 4, 2) := by decide +kernel
theorem dX14_member_27 : decode cX14_member 27 = .ok (.iload 4, 2) := by decide +kernel
theorem dX14_member_29 : decode cX14_member 29 = .ok (.ifCond .lt 44, 3) := by decide +kernel
theorem dX14_member_32 : decode cX14_member 32 = .ok (.aload_n 0, 1) := by decide +kernel
theorem dX14_member_33 : decode cX14_member 33 = .ok (.aload_n 0, 1) := by decide +kernel
theorem dX14_member_34 : decode cX14_member 34 = .ok (.getfield 46, 3) := by decide +kernel
theorem dX14_member_37 : decode cX14_member 37 = .ok (.iload 4, 2) := by decide +kernel
theorem dX14_member_39 : decode cX14_member 39 = .ok (.iaload, 1) := by decide +kernel
theorem dX14_member_40 : decode cX14_member 40 = .ok (.aload_n 0, 1) := by decide +kernel
theorem dX14_member_41 : decode cX14_member 41 = .ok (.getfield 49, 3) := by decide +kernel
theorem dX14_member_44 : decode cX14_member 44 = .ok (.iload 4, 2) := by decide +kernel
theorem dX14_member_46 : decode cX14_member 46 = .ok (.iaload, 1) := by decide +kernel
theorem dX14_member_47 : decode cX14_member 47 = .ok (.aload_n 2, 1) := by decide +kernel
theorem dX14_member_48 : decode cX14_member 48 = .ok (.invokevirtual 364, 3) := by decide +kernel
theorem dX14_member_51 : decode cX14_member 51 = .ok (.ifCond .eq 8, 3) := by decide +kernel
theorem dX14_member_54 : decode cX14_member 54 = .ok (.iload 4, 2) := by decide +kernel
theorem dX14_member_56 : decode cX14_member 56 = .ok (.goto 4, 3) := by decide +kernel
theorem dX14_member_59 : decode cX14_member 59 = .ok (.iload_n 3, 1) := by decide +kernel
theorem dX14_member_60 : decode cX14_member 60 = .ok (.istore_n 3, 1) := by decide +kernel
theorem dX14_member_61 : decode cX14_member 61 = .ok (.aload_n 0, 1) := by decide +kernel
theorem dX14_member_62 : decode cX14_member 62 = .ok (.getfield 43, 3) := by decide +kernel
theorem dX14_member_65 : decode cX14_member 65 = .ok (.iload 4, 2) := by decide +kernel
theorem dX14_member_67 : decode cX14_member 67 = .ok (.iaload, 1) := by decide +kernel
theorem dX14_member_68 : decode cX14_member 68 = .ok (.istore 4, 2) := by decide +kernel
theorem dX14_member_70 : decode cX14_member 70 = .ok (.goto (-43), 3) := by decide +kernel
theorem dX14_member_73 : decode cX14_member 73 = .ok (.iload_n 3, 1) := by decide +kernel
theorem dX14_member_74 : decode cX14_member 74 = .ok (.ireturn, 1) := by decide +kernel
theorem dX14_isString_0 : decode cX14_isString 0 = .ok (.iload_n 1, 1) := by decide +kernel
theorem dX14_isString_1 : decode cX14_isString 1 = .ok (.ifCond .lt 17, 3) := by decide +kernel
theorem dX14_isString_4 : decode cX14_isString 4 = .ok (.aload_n 0, 1) := by decide +kernel
theorem dX14_isString_5 : decode cX14_isString 5 = .ok (.getfield 37, 3) := by decide +kernel
theorem dX14_isString_8 : decode cX14_isString 8 = .ok (.iload_n 1, 1) := by decide +kernel
theorem dX14_isString_9 : decode cX14_isString 9 = .ok (.iaload, 1) := by decide +kernel
theorem dX14_isString_10 : decode cX14_isString 10 = .ok (.iconst 4, 1) := by decide +kernel
theorem dX14_isString_11 : decode cX14_isString 11 = .ok (.if_icmp .ne 7, 3) := by decide +kernel
theorem dX14_isString_14 : decode cX14_isString 14 = .ok (.iconst 1, 1) := by decide +kernel
theorem dX14_isString_15 : decode cX14_isString 15 = .ok (.goto 4, 3) := by decide +kernel
theorem dX14_isString_18 : decode cX14_isString 18 = .ok (.iconst 0, 1) := by decide +kernel
theorem dX14_isString_19 : decode cX14_isString 19 = .ok (.ireturn, 1) := by decide +kernel
theorem dX14_isWhole_0 : decode cX14_isWhole 0 = .ok (.iload_n 1, 1) := by decide +kernel
theorem dX14_isWhole_1 : decode cX14_isWhole 1 = .ok (.ifCond .lt 26, 3) := by decide +kernel
theorem dX14_isWhole_4 : decode cX14_isWhole 4 = .ok (.aload_n 0, 1) := by decide +kernel
theorem dX14_isWhole_5 : decode cX14_isWhole 5 = .ok (.getfield 37, 3) := by decide +kernel
theorem dX14_isWhole_8 : decode cX14_isWhole 8 = .ok (.iload_n 1, 1) := by decide +kernel
theorem dX14_isWhole_9 : decode cX14_isWhole 9 = .ok (.iaload, 1) := by decide +kernel
theorem dX14_isWhole_10 : decode cX14_isWhole 10 = .ok (.iconst 3, 1) := by decide +kernel
theorem dX14_isWhole_11 : decode cX14_isWhole 11 = .ok (.if_icmp .ne 16, 3) := by decide +kernel
theorem dX14_isWhole_14 : decode cX14_isWhole 14 = .ok (.aload_n 0, 1) := by decide +kernel
theorem dX14_isWhole_15 : decode cX14_isWhole 15 = .ok (.getfield 58, 3) := by decide +kernel
theorem dX14_isWhole_18 : decode cX14_isWhole 18 = .ok (.iload_n 1, 1) := by decide +kernel
theorem dX14_isWhole_19 : decode cX14_isWhole 19 = .ok (.baload, 1) := by decide +kernel
theorem dX14_isWhole_20 : decode cX14_isWhole 20 = .ok (.ifCond .eq 7, 3) := by decide +kernel
theorem dX14_isWhole_23 : decode cX14_isWhole 23 = .ok (.iconst 1, 1) := by decide +kernel
theorem dX14_isWhole_24 : decode cX14_isWhole 24 = .ok (.goto 4, 3) := by decide +kernel
theorem dX14_isWhole_27 : decode cX14_isWhole 27 = .ok (.iconst 0, 1) := by decide +kernel
theorem dX14_isWhole_28 : decode cX14_isWhole 28 = .ok (.ireturn, 1) := by decide +kernel
theorem dX14_error_0 : decode cX14_error 0 = .ok (.aload_n 0, 1) := by decide +kernel
theorem dX14_error_1 : decode cX14_error 1 = .ok (.invokevirtual 392, 3) := by decide +kernel
theorem dX14_error_4 : decode cX14_error 4 = .ok (.aload_n 0, 1) := by decide +kernel
theorem dX14_error_5 : decode cX14_error 5 = .ok (.ldc_w 400, 3) := by decide +kernel
theorem dX14_error_8 : decode cX14_error 8 = .ok (.invokevirtual 189, 3) := by decide +kernel
theorem dX14_error_11 : decode cX14_error 11 = .ok (.aload_n 0, 1) := by decide +kernel
theorem dX14_error_12 : decode cX14_error 12 = .ok (.iload_n 1, 1) := by decide +kernel
theorem dX14_error_13 : decode cX14_error 13 = .ok (.invokevirtual 208, 3) := by decide +kernel
theorem dX14_error_16 : decode cX14_error 16 = .ok (.aload_n 0, 1) := by decide +kernel
theorem dX14_error_17 : decode cX14_error 17 = .ok (.ldc_w 402, 3) := by decide +kernel
theorem dX14_error_20 : decode cX14_error 20 = .ok (.invokevirtual 189, 3) := by decide +kernel
theorem dX14_error_23 : decode cX14_error 23 = .ok (.aload_n 0, 1) := by decide +kernel
theorem dX14_error_24 : decode cX14_error 24 = .ok (.iload_n 1, 1) := by decide +kernel
theorem dX14_error_25 : decode cX14_error 25 = .ok (.sipush (-32700), 3) := by decide +kernel
theorem dX14_error_28 : decode cX14_error 28 = .ok (.if_icmp .ne 9, 3) := by decide +kernel
theorem dX14_error_31 : decode cX14_error 31 = .ok (.ldc_w 404, 3) := by decide +kernel
theorem dX14_error_34 : decode cX14_error 34 = .ok (.goto 71, 3) := by decide +kernel
theorem dX14_error_37 : decode cX14_error 37 = .ok (.iload_n 1, 1) := by decide +kernel
theorem dX14_error_38 : decode cX14_error 38 = .ok (.sipush (-32600), 3) := by decide +kernel
theorem dX14_error_41 : decode cX14_error 41 = .ok (.if_icmp .ne 9, 3) := by decide +kernel
theorem dX14_error_44 : decode cX14_error 44 = .ok (.ldc_w 406, 3) := by decide +kernel
theorem dX14_error_47 : decode cX14_error 47 = .ok (.goto 58, 3) := by decide +kernel
theorem dX14_error_50 : decode cX14_error 50 = .ok (.iload_n 1, 1) := by decide +kernel
theorem dX14_error_51 : decode cX14_error 51 = .ok (.sipush (-32601), 3) := by decide +kernel
theorem dX14_error_54 : decode cX14_error 54 = .ok (.if_icmp .ne 9, 3) := by decide +kernel
theorem dX14_error_57 : decode cX14_error 57 = .ok (.ldc_w 408, 3) := by decide +kernel
theorem dX14_error_60 : decode cX14_error 60 = .ok (.goto 45, 3) := by decide +kernel
theorem dX14_error_63 : decode cX14_error 63 = .ok (.iload_n 1, 1) := by decide +kernel
theorem dX14_error_64 : decode cX14_error 64 = .ok (.sipush (-32602), 3) := by decide +kernel
theorem dX14_error_67 : decode cX14_error 67 = .ok (.if_icmp .ne 9, 3) := by decide +kernel
theorem dX14_error_70 : decode cX14_error 70 = .ok (.ldc_w 410, 3) := by decide +kernel
theorem dX14_error_73 : decode cX14_error 73 = .ok (.goto 32, 3) := by decide +kernel
theorem dX14_error_76 : decode cX14_error 76 = .ok (.iload_n 1, 1) := by decide +kernel
theorem dX14_error_77 : decode cX14_error 77 = .ok (.sipush (-32002), 3) := by decide +kernel
theorem dX14_error_80 : decode cX14_error 80 = .ok (.if_icmp .ne 9, 3) := by decide +kernel
theorem dX14_error_83 : decode cX14_error 83 = .ok (.ldc_w 412, 3) := by decide +kernel
theorem dX14_error_86 : decode cX14_error 86 = .ok (.goto 19, 3) := by decide +kernel
theorem dX14_error_89 : decode cX14_error 89 = .ok (.iload_n 1, 1) := by decide +kernel
theorem dX14_error_90 : decode cX14_error 90 = .ok (.ldc_w 414, 3) := by decide +kernel
theorem dX14_error_93 : decode cX14_error 93 = .ok (.if_icmp .ne 9, 3) := by decide +kernel
theorem dX14_error_96 : decode cX14_error 96 = .ok (.ldc_w 415, 3) := by decide +kernel
theorem dX14_error_99 : decode cX14_error 99 = .ok (.goto 6, 3) := by decide +kernel
theorem dX14_error_102 : decode cX14_error 102 = .ok (.ldc_w 417, 3) := by decide +kernel
theorem dX14_error_105 : decode cX14_error 105 = .ok (.invokevirtual 419, 3) := by decide +kernel
theorem dX14_error_108 : decode cX14_error 108 = .ok (.aload_n 0, 1) := by decide +kernel
theorem dX14_error_109 : decode cX14_error 109 = .ok (.bipush 125, 2) := by decide +kernel
theorem dX14_error_111 : decode cX14_error 111 = .ok (.invokevirtual 172, 3) := by decide +kernel
theorem dX14_error_114 : decode cX14_error 114 = .ok (.aload_n 0, 1) := by decide +kernel
theorem dX14_error_115 : decode cX14_error 115 = .ok (.invokevirtual 422, 3) := by decide +kernel
theorem dX14_error_118 : decode cX14_error 118 = .ok (.return_, 1) := by decide +kernel
def EX14_error : List (Nat × Nat) := [(16, 3), (16, 4), (16, 6), (101, 0)]
def qtx2426 : String := match tables_1[2426]? with | some (Jvm.Cond.stringRef _ _ t) => t | _ => ""
set_option maxHeartbeats 4000000 in
set_option maxRecDepth 20000 in
theorem uX14_error (l : Launch) (dC : Nat → ClassId) (dI : Nat → Nat → Nat) (ca : Nat → ClassId) (base : Nat) (B : jF) (hB : jBok B) (hAp : jAp (dC, dI)) (hB16 : ∀ n G a H, B 16 n G a H ↔ jOb (dC, dI) 16 74 (F16 n G) a H) (hB101 : ∀ n G a H, B 101 n G a H ↔ jAr (dC, dI) (ca 1) (fun j z => True) n a H) (G0 : jT) (H0 : Heap) (r0 : Nat) (a1 : Int32) : Met l yX14_error (jw yX14_error cX14_error 2 none) ({ frames := 14, cells := 0, slots := 0, locals := 505 }) (va_Pc [.ref r0, .int a1] (fun U => U.heap = H0 ∧ jX B base G0 [] H0 ∧ jG dC dI ca base U ∧ G0 r0 = some (16, 0) ∧ jP (dC, dI) G0 H0 [] ∧ True)) (va_Qv (S := Unit) (fun u => True) (fun u t => jRt (dC, dI) B base G0 EX14_error H0 [] t.heap) (jA base)) 0 0 (jA base) := by
  refine Met.ofW (cc := cX14_error) (maxL := 2) (ret := none) (by decide) rfl ?_
  intro p e s m args below meth c s₁ Bd hml hv
  obtain ⟨rfl, hH0, hX, hG, hg_r0, hP0, hp0⟩ := hv
  have hK := hG.1
  have hx := Bd.exec
  have hb := Bd.bytes
  have hr := Bd.returns
  have hts := atoms_spec (ws := (jw yX14_error cX14_error 2 none)) Bd.pre
  have htw : ∀ w ∈ jWl, w.before _ s = true := fun w h => hts w (List.mem_cons_of_mem _ h)
  have hown : s.vm.findClass RX14 = some m.cls := findClass_of_methodNamed Bd.named
  have hlocks := Bd.notSynchronized
  obtain ⟨Q, hQ⟩ : ∃ Q, Q = MQ below (va_Qv (S := Unit) (fun u => True) (fun u t => jRt (dC, dI) B base G0 EX14_error H0 [] t.heap) (jA base)) ([.ref r0, .int a1] : List Value).toArray s 0 0 (jA base) := ⟨_, rfl⟩
  rw [← hQ]
  have hl := lv_entry ([.ref r0, .int a1]) (n := 2) (Nat.le_of_ble_eq_true rfl)
  rw [lg_entry_eq]
  generalize (lg_sl ([.ref r0, .int a1]) ++ List.replicate (2 - (lg_sl ([.ref r0, .int a1])).length) Slot.unset).toArray = ls at hl ⊢
  have hl : lv_has ls 2 [(0, .ref r0), (1, .int a1)] := hl
  generalize hR : (headSpec (jw yX14_error cX14_error 2 none) ({ frames := 14, cells := 0, slots := 0, locals := 505 })).room = R
  subst hH0
  have hh : jSt (dC, dI) B base G0 G0 EX14_error s.heap 0 0 [] [] [] s.heap [] := jSt.start hX hP0 jMc.nil jIs.nil
  clear hX hP0
  have hkm32800 : ((-32800) : Int32).toInt = (-32800) := by decide
  have hkm32700 : ((-32700) : Int32).toInt = (-32700) := by decide
  have hkm32602 : ((-32602) : Int32).toInt = (-32602) := by decide
  have hkm32601 : ((-32601) : Int32).toInt = (-32601) := by decide
  have hkm32600 : ((-32600) : Int32).toInt = (-32600) := by decide
  have hkm32002 : ((-32002) : Int32).toInt = (-32002) := by decide
  have hk0 : (0 : Int32).toInt = 0 := by decide
  have hk1 : (1 : Int32).toInt = 1 := by decide
  have hk125 : (125 : Int32).toInt = 125 := by decide
  obtain ⟨str400, rstr400, hstr4000⟩ := hG.str (o := RX14) (k := 400) (tx := ",\"error\":{\"code\":") (List.mem_of_getElem? (i := 2420) (by decide +kernel))
  have hstr400 : jStr base str400 17 s s.heap := hstr4000
  obtain ⟨str402, rstr402, hstr4020⟩ := hG.str (o := RX14) (k := 402) (tx := ",\"message\":") (List.mem_of_getElem? (i := 2421) (by decide +kernel))
  have hstr402 : jStr base str402 11 s s.heap := hstr4020
  obtain ⟨str404, rstr404, hstr4040⟩ := hG.str (o := RX14) (k := 404) (tx := "not json") (List.mem_of_getElem? (i := 2422) (by decide +kernel))
  have hstr404 : jStr base str404 8 s s.heap := hstr4040
  obtain ⟨str406, rstr406, hstr4060⟩ := hG.str (o := RX14) (k := 406) (tx := "no request") (List.mem_of_getElem? (i := 2423) (by decide +kernel))
  have hstr406 : jStr base str406 10 s s.heap := hstr4060
  obtain ⟨str408, rstr408, hstr4080⟩ := hG.str (o := RX14) (k := 408) (tx := "no method") (List.mem_of_getElem? (i := 2424) (by decide +kernel))
  have hstr408 : jStr base str408 9 s s.heap := hstr4080
  obtain ⟨str410, rstr410, hstr4100⟩ := hG.str (o := RX14) (k := 410) (tx := "bad params") (List.mem_of_getElem? (i := 2425) (by decide +kernel))
  have hstr410 : jStr base str410 10 s s.heap := hstr4100
  obtain ⟨str412, rstr412, hstr4120⟩ := hG.str (o := RX14) (k := 412) (tx := qtx2426) (List.mem_of_getElem? (i := 2426) (by decide +kernel))
  have h9str412 : qtx2426.length = 15 := by decide +kernel
  have hstr412 : jStr base str412 15 s s.heap := by rw [h9str412] at hstr4120; exact hstr4120
  have hcs_414 := htw (.constant RX14 414 (-32800)) (jWr_53 _ (List.mem_of_getElem? (i := 13) rfl))
  obtain ⟨str415, rstr415, hstr4150⟩ := hG.str (o := RX14) (k := 415) (tx := "cancelled") (List.mem_of_getElem? (i := 2428) (by decide +kernel))
  have hstr415 : jStr base str415 9 s s.heap := hstr4150
  obtain ⟨str417, rstr417, hstr4170⟩ := hG.str (o := RX14) (k := 417) (tx := "modified") (List.mem_of_getElem? (i := 2429) (by decide +kernel))
  have hstr417 : jStr base str417 8 s s.heap := hstr4170
  have hrg_a1 := jb_rng a1
  refine lv_aload_n hx hb dX14_error_0 rfl (lv_at hl 0 rfl) ?_
  refine va_callv (A0 := jA base) (H0 := s.heap) (va_runV (As := []) (rest := []) ⟨hx, hb, hml, hown, hts⟩ (uX14_beginAnswer l dC dI ca base B hB hAp hB16 hB101 G0 s.heap r0) (cwV 0 hts (jgV (jWr_53 _ (List.mem_of_getElem? (i := 14) rfl)) (jWr_53 _ (List.mem_of_getElem? (i := 15) rfl)) (jWr_53 _ (List.mem_of_getElem? (i := 16) rfl)) (jWr_1 _ (List.mem_of_getElem? (i := 5) rfl)) (jWr_53 _ (List.mem_of_getElem? (i := 17) rfl))) rfl rfl rfl (by decide +kernel) ⟨by rw [← hR]; exact Nat.le_of_ble_eq_true rfl, by rw [← hR]; exact Nat.le_of_ble_eq_true rfl⟩) ⟨fun a U g mk q => by obtain ⟨q0, q1, q2, qK, q10, q11, q12⟩ := q; exact ⟨q0, q1, q2, jG.calling g mk a qK, q10, q11, q12⟩, hh.recv (C := RX14) (T := TX14) (N := 74) hB16 rfl (by decide) hg_r0 hK, fun U hU hW => ⟨rfl, hU, hh.2.1, hG.step hW hU hh.1, hg_r0, jP.nil, trivial⟩⟩ rfl rfl hl.1 rfl (lv_room (Nat.le_of_ble_eq_true rfl)) dX14_error_1 ⟨Nat.zero_le _, Nat.zero_le _⟩) hh.1 (fun q _ h => h) (fun q h => h) (fun u_1 t_1 H_1 locs_1 ht_1 hvm_1 hr_2 hb_1 hz_1 hk_1 hS_1 => ?_)
  rw [ht_1] at hb_1
  obtain ⟨hb_11, hb_12, hb_13, hb_14, hb_15⟩ := hb_1
  have hh_1 : jSt (dC, dI) B base G0 G0 EX14_error s.heap 0 0 [] [] [] H_1 locs_1 := ((hh.call hb_11 hb_12 hb_13 hb_14 hS_1 rfl (L1 := []) [] rfl rfl (M1 := []) [] rfl rfl (I1 := []) [] rfl rfl).more hb_15)
  clear hh ht_1 hvm_1 hz_1 hk_1 hS_1 hb_11 hb_12 hb_13 hb_14 hb_15
  refine lv_aload_n hx hb dX14_error_4 rfl (lv_at hl 0 rfl) ?_
  refine j_ldcSw hx hb hown rstr400 dX14_error_5 ?_
  obtain ⟨v_5, hv_5, hh_6⟩ := hh_1.pin (C := RX14) (T := TX14) (N := 74) hB16 rfl (by decide) hg_r0 (i := 6) (by decide) rfl
  obtain ⟨framed_7, rfl, hloframed_7, hhiframed_7⟩ := hv_5
  refine va_callv (A0 := jA base) (H0 := s.heap) (va_runV (As := [.ref str400]) (rest := []) ⟨hx, hb, hml, hown, hts⟩ (uX14_word l dC dI ca base B hB hAp hB16 hB101 G0 H_1 r0 str400 17 framed_7) (cwV 1 hts (jgV (jWr_53 _ (List.mem_of_getElem? (i := 22) rfl)) (jWr_53 _ (List.mem_of_getElem? (i := 23) rfl)) (jWr_54 _ (List.mem_of_getElem? (i := 0) rfl)) (jWr_1 _ (List.mem_of_getElem? (i := 5) rfl)) (jWr_54 _ (List.mem_of_getElem? (i := 1) rfl))) rfl rfl rfl (by decide +kernel) ⟨by rw [← hR]; exact Nat.le_of_ble_eq_true rfl, by rw [← hR]; exact Nat.le_of_ble_eq_true rfl⟩) ⟨fun a U g mk q => by obtain ⟨q0, q1, q2, qK, q10, q11, q12, q13⟩ := q; exact ⟨q0, q1, q2, jG.calling g mk a qK, (q10.moved (Vm.Alike.refl U.vm)), q11, q12, q13⟩, hh_6.recv (C := RX14) (T := TX14) (N := 74) hB16 rfl (by decide) hg_r0 hK, fun U hU hW => ⟨rfl, hU, hh_6.2.1, hG.step hW hU hh_6.1, (hstr400.moved hW.alike).kept hh_6.1.2.1, hg_r0, (hh_6.2.2.1.sub (L1 := [(r0, 16, 6, .int framed_7)]) [0] rfl), by first | omega | (refine ⟨?_, ?_, ?_⟩ <;> (first | omega | rfl | assumption | decide | exact Or.inl rfl | exact Or.inr rfl | (simp only; omega)))⟩⟩ rfl rfl hl.1 rfl (lv_room (Nat.le_of_ble_eq_true rfl)) dX14_error_8 ⟨Nat.zero_le _, Nat.zero_le _⟩) hh_6.1 (fun q _ h => h) (fun q h => h) (fun u_3 t_3 H_3 locs_3 ht_3 hvm_3 hr_4 hb_3 hz_3 hk_3 hS_3 => ?_)
  obtain ⟨qf_3, rfl⟩ : ∃ z, z = u_3 := ⟨_, rfl⟩
  rw [ht_3] at hb_3
  obtain ⟨hb_31, hb_32, hb_33, hb_34, hb_35⟩ := hb_3
  have hh_3 : jSt (dC, dI) B base G0 G0 EX14_error s.heap 0 0 [(r0, 16, 6, .int qf_3)] [] [] H_3 locs_3 := ((hh_6.call hb_31 hb_32 hb_33 hb_34 hS_3 rfl (L1 := []) [] rfl rfl (M1 := []) [] rfl rfl (I1 := []) [] rfl rfl).more hb_35)
  clear hh_6 ht_3 hvm_3 hz_3 hk_3 hS_3 hb_31 hb_32 hb_33 hb_34 hb_35
  obtain ⟨hr_4_0, hr_4_1⟩ := hr_4
  refine lv_aload_n hx hb dX14_error_11 rfl (lv_at hl 0 rfl) ?_
  refine lv_iload_n hx hb dX14_error_12 rfl (lv_at hl 1 rfl) ?_
  refine va_callv (A0 := jA base) (H0 := s.heap) (va_runV (As := [.int a1]) (rest := []) ⟨hx, hb, hml, hown, hts⟩ (uX14_number l dC dI ca base B hB hAp hB16 hB101 G0 H_3 r0 a1 qf_3) (cwV 1 hts (jgV (jWr_54 _ (List.mem_of_getElem? (i := 18) rfl)) (jWr_54 _ (List.mem_of_getElem? (i := 19) rfl)) (jWr_54 _ (List.mem_of_getElem? (i := 20) rfl)) (jWr_1 _ (List.mem_of_getElem? (i := 5) rfl)) (jWr_54 _ (List.mem_of_getElem? (i := 21) rfl))) rfl rfl rfl (by decide +kernel) ⟨by rw [← hR]; exact Nat.le_of_ble_eq_true rfl, by rw [← hR]; exact Nat.le_of_ble_eq_true rfl⟩) ⟨fun a U g mk q => by obtain ⟨q0, q1, q2, qK, q10, q11, q12⟩ := q; exact ⟨q0, q1, q2, jG.calling g mk a qK, q10, q11, q12⟩, hh_3.recv (C := RX14) (T := TX14) (N := 74) hB16 rfl (by decide) hg_r0 hK, fun U hU hW => ⟨rfl, hU, hh_3.2.1, hG.step hW hU hh_3.1, hg_r0, (hh_3.2.2.1.sub (L1 := [(r0, 16, 6, .int qf_3)]) [0] rfl), by first | omega | (refine ⟨?_, ?_⟩ <;> (first | omega | rfl | assumption | decide | exact Or.inl rfl | exact Or.inr rfl | (simp only; omega)))⟩⟩ rfl rfl hl.1 rfl (lv_room (Nat.le_of_ble_eq_true rfl)) dX14_error_13 ⟨Nat.zero_le _, Nat.zero_le _⟩) hh_3.1 (fun q _ h => h) (fun q h => h) (fun u_8 t_8 H_8 locs_8 ht_8 hvm_8 hr_9 hb_8 hz_8 hk_8 hS_8 => ?_)
  obtain ⟨qf_8, rfl⟩ : ∃ z, z = u_8 := ⟨_, rfl⟩
  rw [ht_8] at hb_8
  obtain ⟨hb_81, hb_82, hb_83, hb_84, hb_85⟩ := hb_8
  have hh_8 : jSt (dC, dI) B base G0 G0 EX14_error s.heap 0 0 [(r0, 16, 6, .int qf_8)] [] [] H_8 locs_8 := ((hh_3.call hb_81 hb_82 hb_83 hb_84 hS_8 rfl (L1 := []) [] rfl rfl (M1 := []) [] rfl rfl (I1 := []) [] rfl rfl).more hb_85)
  clear hh_3 ht_8 hvm_8 hz_8 hk_8 hS_8 hb_81 hb_82 hb_83 hb_84 hb_85
  obtain ⟨hr_9_0, hr_9_1⟩ := hr_9
  refine lv_aload_n hx hb dX14_error_16 rfl (lv_at hl 0 rfl) ?_
  refine j_ldcSw hx hb hown rstr402 dX14_error_17 ?_
  refine va_callv (A0 := jA base) (H0 := s.heap) (va_runV (As := [.ref str402]) (rest := []) ⟨hx, hb, hml, hown, hts⟩ (uX14_word l dC dI ca base B hB hAp hB16 hB101 G0 H_8 r0 str402 11 qf_8) (cwV 1 hts (jgV (jWr_53 _ (List.mem_of_getElem? (i := 22) rfl)) (jWr_53 _ (List.mem_of_getElem? (i := 23) rfl)) (jWr_54 _ (List.mem_of_getElem? (i := 0) rfl)) (jWr_1 _ (List.mem_of_getElem? (i := 5) rfl)) (jWr_54 _ (List.mem_of_getElem? (i := 1) rfl))) rfl rfl rfl (by decide +kernel) ⟨by rw [← hR]; exact Nat.le_of_ble_eq_true rfl, by rw [← hR]; exact Nat.le_of_ble_eq_true rfl⟩) ⟨fun a U g mk q => by obtain ⟨q0, q1, q2, qK, q10, q11, q12, q13⟩ := q; exact ⟨q0, q1, q2, jG.calling g mk a qK, (q10.moved (Vm.Alike.refl U.vm)), q11, q12, q13⟩, hh_8.recv (C := RX14) (T := TX14) (N := 74) hB16 rfl (by decide) hg_r0 hK, fun U hU hW => ⟨rfl, hU, hh_8.2.1, hG.step hW hU hh_8.1, (hstr402.moved hW.alike).kept hh_8.1.2.1, hg_r0, (hh_8.2.2.1.sub (L1 := [(r0, 16, 6, .int qf_8)]) [0] rfl), by first | omega | (refine ⟨?_, ?_, ?_⟩ <;> (first | omega | rfl | assumption | decide | exact Or.inl rfl | exact Or.inr rfl | (simp only; omega)))⟩⟩ rfl rfl hl.1 rfl (lv_room (Nat.le_of_ble_eq_true rfl)) dX14_error_20 ⟨Nat.zero_le _, Nat.zero_le _⟩) hh_8.1 (fun q _ h => h) (fun q h => h) (fun u_10 t_10 H_10 locs_10 ht_10 hvm_10 hr_11 hb_10 hz_10 hk_10 hS_10 => ?_)
  obtain ⟨qf_10, rfl⟩ : ∃ z, z = u_10 := ⟨_, rfl⟩
  rw [ht_10] at hb_10
  obtain ⟨hb_101, hb_102, hb_103, hb_104, hb_105⟩ := hb_10
  have hh_10 : jSt (dC, dI) B base G0 G0 EX14_error s.heap 0 0 [(r0, 16, 6, .int qf_10)] [] [] H_10 locs_10 := ((hh_8.call hb_101 hb_102 hb_103 hb_104 hS_10 rfl (L1 := []) [] rfl rfl (M1 := []) [] rfl rfl (I1 := []) [] rfl rfl).more hb_105)
  clear hh_8 ht_10 hvm_10 hz_10 hk_10 hS_10 hb_101 hb_102 hb_103 hb_104 hb_105
  obtain ⟨hr_11_0, hr_11_1⟩ := hr_11
  refine lv_aload_n hx hb dX14_error_23 rfl (lv_at hl 0 rfl) ?_
  refine lv_iload_n hx hb dX14_error_24 rfl (lv_at hl 1 rfl) ?_
  refine lv_sipush (v := (-32700)) hx hb dX14_error_25 (by decide) ?_
  refine lv_icmp_ne (tgt := 37) hx hb dX14_error_28 (by decide) (fun c_12 => ?_) (fun c_12 => ?_)
  · skip
    have c_12' : a1.toInt ≠ (-32700) := jb_ne (rfl) ((by decide)) c_12
    refine lv_iload_n hx hb dX14_error_37 rfl (lv_at hl 1 rfl) ?_
    refine lv_sipush (v := (-32600)) hx hb dX14_error_38 (by decide) ?_
    refine lv_icmp_ne (tgt := 50) hx hb dX14_error_41 (by decide) (fun c_13 => ?_) (fun c_13 => ?_)
    · skip
      have c_13' : a1.toInt ≠ (-32600) := jb_ne (rfl) ((by decide)) c_13
      refine lv_iload_n hx hb dX14_error_50 rfl (lv_at hl 1 rfl) ?_
      refine lv_sipush (v := (-32601)) hx hb dX14_error_51 (by decide) ?_
      refine lv_icmp_ne (tgt := 63) hx hb dX14_error_54 (by decide) (fun c_14 => ?_) (fun c_14 => ?_)
      · skip
        have c_14' : a1.toInt ≠ (-32601) := jb_ne (rfl) ((by decide)) c_14
        refine lv_iload_n hx hb dX14_error_63 rfl (lv_at hl 1 rfl) ?_
        refine lv_sipush (v := (-32602)) hx hb dX14_error_64 (by decide) ?_
        refine lv_icmp_ne (tgt := 76) hx hb dX14_error_67 (by decide) (fun c_15 => ?_) (fun c_15 => ?_)
        · skip
          have c_15' : a1.toInt ≠ (-32602) := jb_ne (rfl) ((by decide)) c_15
          refine lv_iload_n hx hb dX14_error_76 rfl (lv_at hl 1 rfl) ?_
          refine lv_sipush (v := (-32002)) hx hb dX14_error_77 (by decide) ?_
          refine lv_icmp_ne (tgt := 89) hx hb dX14_error_80 (by decide) (fun c_16 => ?_) (fun c_16 => ?_)
          · skip
            have c_16' : a1.toInt ≠ (-32002) := jb_ne (rfl) ((by decide)) c_16
            refine lv_iload_n hx hb dX14_error_89 rfl (lv_at hl 1 rfl) ?_
            refine lv_ldcw hx hb hown hcs_414 dX14_error_90 ?_
            refine lv_icmp_ne (tgt := 102) hx hb dX14_error_93 (by decide) (fun c_17 => ?_) (fun c_17 => ?_)
            · skip
              have c_17' : a1.toInt ≠ (-32800) := jb_ne (rfl) ((by decide)) c_17
              refine j_ldcSw hx hb hown rstr417 dX14_error_102 ?_
              refine va_callv (A0 := jA base) (H0 := s.heap) (va_runV (As := [.ref str417]) (rest := []) ⟨hx, hb, hml, hown, hts⟩ (uX14_text l dC dI ca base B hB hAp hB16 hB101 G0 H_10 r0 str417 8 qf_10) (cwV 1 hts (jgV (jWr_55 _ (List.mem_of_getElem? (i := 2) rfl)) (jWr_55 _ (List.mem_of_getElem? (i := 3) rfl)) (jWr_55 _ (List.mem_of_getElem? (i := 4) rfl)) (jWr_1 _ (List.mem_of_getElem? (i := 5) rfl)) (jWr_55 _ (List.mem_of_getElem? (i := 5) rfl))) rfl rfl rfl (by decide +kernel) ⟨by rw [← hR]; exact Nat.le_of_ble_eq_true rfl, by rw [← hR]; exact Nat.le_of_ble_eq_true rfl⟩) ⟨fun a U g mk q => by obtain ⟨q0, q1, q2, qK, q10, q11, q12, q13⟩ := q; exact ⟨q0, q1, q2, jG.calling g mk a qK, (q10.moved (Vm.Alike.refl U.vm)), q11, q12, q13⟩, hh_10.recv (C := RX14) (T := TX14) (N := 74) hB16 rfl (by decide) hg_r0 hK, fun U hU hW => ⟨rfl, hU, hh_10.2.1, hG.step hW hU hh_10.1, (hstr417.moved hW.alike).kept hh_10.1.2.1, hg_r0, (hh_10.2.2.1.sub (L1 := [(r0, 16, 6, .int qf_10)]) [0] rfl), by first | omega | (refine ⟨?_, ?_, ?_⟩ <;> (first | omega | rfl | assumption | decide | exact Or.inl rfl | exact Or.inr rfl | (simp only; omega)))⟩⟩ rfl rfl hl.1 rfl (lv_room (Nat.le_of_ble_eq_true rfl)) dX14_error_105 ⟨Nat.zero_le _, Nat.zero_le _⟩) hh_10.1 (fun q _ h => h) (fun q h => h) (fun u_18 t_18 H_18 locs_18 ht_18 hvm_18 hr_19 hb_18 hz_18 hk_18 hS_18 => ?_)
              obtain ⟨qf_18, rfl⟩ : ∃ z, z = u_18 := ⟨_, rfl⟩
              rw [ht_18] at hb_18
              obtain ⟨hb_181, hb_182, hb_183, hb_184, hb_185⟩ := hb_18
              have hh_18 : jSt (dC, dI) B base G0 G0 EX14_error s.heap 0 0 [(r0, 16, 6, .int qf_18)] [] [] H_18 locs_18 := ((hh_10.call hb_181 hb_182 hb_183 hb_184 hS_18 rfl (L1 := []) [] rfl rfl (M1 := []) [] rfl rfl (I1 := []) [] rfl rfl).more hb_185)
              clear hh_10 ht_18 hvm_18 hz_18 hk_18 hS_18 hb_181 hb_182 hb_183 hb_184 hb_185
              obtain ⟨hr_19_0, hr_19_1⟩ := hr_19
              refine lv_aload_n hx hb dX14_error_108 rfl (lv_at hl 0 rfl) ?_
              refine lv_bipush (v := 125) hx hb dX14_error_109 (by decide) ?_
              refine va_callv (A0 := jA base) (H0 := s.heap) (va_runV (As := [.int 125]) (rest := []) ⟨hx, hb, hml, hown, hts⟩ (uX14_put l dC dI ca base B hB hAp hB16 hB101 G0 H_18 r0 125 qf_18) (cwV 1 hts (jgV (jWr_54 _ (List.mem_of_getElem? (i := 2) rfl)) (jWr_54 _ (List.mem_of_getElem? (i := 3) rfl)) (jWr_54 _ (List.mem_of_getElem? (i := 4) rfl)) (jWr_1 _ (List.mem_of_getElem? (i := 5) rfl)) (jWr_54 _ (List.mem_of_getElem? (i := 5) rfl))) rfl rfl rfl (by decide +kernel) ⟨by rw [← hR]; exact Nat.le_of_ble_eq_true rfl, by rw [← hR]; exact Nat.le_of_ble_eq_true rfl⟩) ⟨fun a U g mk q => by obtain ⟨q0, q1, q2, qK, q10, q11, q12⟩ := q; exact ⟨q0, q1, q2, jG.calling g mk a qK, q10, q11, q12⟩, hh_18.recv (C := RX14) (T := TX14) (N := 74) hB16 rfl (by decide) hg_r0 hK, fun U hU hW => ⟨rfl, hU, hh_18.2.1, hG.step hW hU hh_18.1, hg_r0, (hh_18.2.2.1.sub (L1 := [(r0, 16, 6, .int qf_18)]) [0] rfl), by first | omega | (refine ⟨?_, ?_⟩ <;> (first | omega | rfl | assumption | decide | exact Or.inl rfl | exact Or.inr rfl | (simp only; omega)))⟩⟩ rfl rfl hl.1 rfl (lv_room (Nat.le_of_ble_eq_true rfl)) dX14_error_111 ⟨Nat.zero_le _, Nat.zero_le _⟩) hh_18.1 (fun q _ h => h) (fun q h => h) (fun u_20 t_20 H_20 locs_20 ht_20 hvm_20 hr_21 hb_20 hz_20 hk_20 hS_20 => ?_)
              obtain ⟨qf_20, rfl⟩ : ∃ z, z = u_20 := ⟨_, rfl⟩
              rw [ht_20] at hb_20
              obtain ⟨hb_201, hb_202, hb_203, hb_204, hb_205⟩ := hb_20
              have hh_20 : jSt (dC, dI) B base G0 G0 EX14_error s.heap 0 0 [(r0, 16, 6, .int qf_20)] [] [] H_20 locs_20 := ((hh_18.call hb_201 hb_202 hb_203 hb_204 hS_20 rfl (L1 := []) [] rfl rfl (M1 := []) [] rfl rfl (I1 := []) [] rfl rfl).more hb_205)
              clear hh_18 ht_20 hvm_20 hz_20 hk_20 hS_20 hb_201 hb_202 hb_203 hb_204 hb_205
              obtain ⟨hr_21_0, hr_21_1⟩ := hr_21
              refine lv_aload_n hx hb dX14_error_114 rfl (lv_at hl 0 rfl) ?_
              refine va_callv (A0 := jA base) (H0 := s.heap) (va_runV (As := []) (rest := []) ⟨hx, hb, hml, hown, hts⟩ (uX14_endAnswer l dC dI ca base B hB hAp hB16 hB101 G0 H_20 r0) (cwV 0 hts (jgV (jWr_55 _ (List.mem_of_getElem? (i := 6) rfl)) (jWr_55 _ (List.mem_of_getElem? (i := 7) rfl)) (jWr_55 _ (List.mem_of_getElem? (i := 8) rfl)) (jWr_1 _ (List.mem_of_getElem? (i := 5) rfl)) (jWr_55 _ (List.mem_of_getElem? (i := 9) rfl))) rfl rfl rfl (by decide +kernel) ⟨by rw [← hR]; exact Nat.le_of_ble_eq_true rfl, by rw [← hR]; exact Nat.le_of_ble_eq_true rfl⟩) ⟨fun a U g mk q => by obtain ⟨q0, q1, q2, qK, q10, q11, q12⟩ := q; exact ⟨q0, q1, q2, jG.calling g mk a qK, q10, q11, q12⟩, hh_20.recv (C := RX14) (T := TX14) (N := 74) hB16 rfl (by decide) hg_r0 hK, fun U hU hW => ⟨rfl, hU, hh_20.2.1, hG.step hW hU hh_20.1, hg_r0, jP.nil, trivial⟩⟩ rfl rfl hl.1 rfl (lv_room (Nat.le_of_ble_eq_true rfl)) dX14_error_115 ⟨Nat.zero_le _, Nat.zero_le _⟩) hh_20.1 (fun q _ h => h) (fun q h => h) (fun u_22 t_22 H_22 locs_22 ht_22 hvm_22 hr_23 hb_22 hz_22 hk_22 hS_22 => ?_)
              rw [ht_22] at hb_22
              obtain ⟨hb_221, hb_222, hb_223, hb_224, hb_225⟩ := hb_22
              have hh_22 : jSt (dC, dI) B base G0 G0 EX14_error s.heap 0 0 [] [] [] H_22 locs_22 := ((hh_20.call hb_221 hb_222 hb_223 hb_224 hS_22 rfl (L1 := []) [] rfl rfl (M1 := []) [] rfl rfl (I1 := []) [] rfl rfl).more hb_225)
              clear hh_20 ht_22 hvm_22 hz_22 hk_22 hS_22 hb_221 hb_222 hb_223 hb_224 hb_225
              rw [hQ]
              exact W.vret hx hb hr (fun t ht hW => ⟨⟨(), rfl, trivial, hh_22.rt (M1 := []) [] rfl ht⟩, by rw [ht]; try exact hh_22.1.1, fun q h9 hq => by rw [ht]; try exact hh_22.1.2.1 q h9 hq⟩) hh_22.1.2.2 dX14_error_118
            · skip
              have c_17' : a1.toInt = (-32800) := jb_ne_n (rfl) ((by decide)) c_17
              refine j_ldcSw hx hb hown rstr415 dX14_error_96 ?_
              refine lv_goto (tgt := 105) hx hb dX14_error_99 (by decide) ?_
              refine va_callv (A0 := jA base) (H0 := s.heap) (va_runV (As := [.ref str415]) (rest := []) ⟨hx, hb, hml, hown, hts⟩ (uX14_text l dC dI ca base B hB hAp hB16 hB101 G0 H_10 r0 str415 9 qf_10) (cwV 1 hts (jgV (jWr_55 _ (List.mem_of_getElem? (i := 2) rfl)) (jWr_55 _ (List.mem_of_getElem? (i := 3) rfl)) (jWr_55 _ (List.mem_of_getElem? (i := 4) rfl)) (jWr_1 _ (List.mem_of_getElem? (i := 5) rfl)) (jWr_55 _ (List.mem_of_getElem? (i := 5) rfl))) rfl rfl rfl (by decide +kernel) ⟨by rw [← hR]; exact Nat.le_of_ble_eq_true rfl, by rw [← hR]; exact Nat.le_of_ble_eq_true rfl⟩) ⟨fun a U g mk q => by obtain ⟨q0, q1, q2, qK, q10, q11, q12, q13⟩ := q; exact ⟨q0, q1, q2, jG.calling g mk a qK, (q10.moved (Vm.Alike.refl U.vm)), q11, q12, q13⟩, hh_10.recv (C := RX14) (T := TX14) (N := 74) hB16 rfl (by decide) hg_r0 hK, fun U hU hW => ⟨rfl, hU, hh_10.2.1, hG.step hW hU hh_10.1, (hstr415.moved hW.alike).kept hh_10.1.2.1, hg_r0, (hh_10.2.2.1.sub (L1 := [(r0, 16, 6, .int qf_10)]) [0] rfl), by first | omega | (refine ⟨?_, ?_, ?_⟩ <;> (first | omega | rfl | assumption | decide | exact Or.inl rfl | exact Or.inr rfl | (simp only; omega)))⟩⟩ rfl rfl hl.1 rfl (lv_room (Nat.le_of_ble_eq_true rfl)) dX14_error_105 ⟨Nat.zero_le _, Nat.zero_le _⟩) hh_10.1 (fun q _ h => h) (fun q h => h) (fun u_24 t_24 H_24 locs_24 ht_24 hvm_24 hr_25 hb_24 hz_24 hk_24 hS_24 => ?_)
              obtain ⟨qf_24, rfl⟩ : ∃ z, z = u_24 := ⟨_, rfl⟩
              rw [ht_24] at hb_24
              obtain ⟨hb_241, hb_242, hb_243, hb_244, hb_245⟩ := hb_24
              have hh_24 : jSt (dC, dI) B base G0 G0 EX14_error s.heap 0 0 [(r0, 16, 6, .int qf_24)] [] [] H_24 locs_24 := ((hh_10.call hb_241 hb_242 hb_243 hb_244 hS_24 rfl (L1 := []) [] rfl rfl (M1 := []) [] rfl rfl (I1 := []) [] rfl rfl).more hb_245)
              clear hh_10 ht_24 hvm_24 hz_24 hk_24 hS_24 hb_241 hb_242 hb_243 hb_244 hb_245
              obtain ⟨hr_25_0, hr_25_1⟩ := hr_25
              refine lv_aload_n hx hb dX14_error_108 rfl (lv_at hl 0 rfl) ?_
              refine lv_bipush (v := 125) hx hb dX14_error_109 (by decide) ?_
              refine va_callv (A0 := jA base) (H0 := s.heap) (va_runV (As := [.int 125]) (rest := []) ⟨hx, hb, hml, hown, hts⟩ (uX14_put l dC dI ca base B hB hAp hB16 hB101 G0 H_24 r0 125 qf_24) (cwV 1 hts (jgV (jWr_54 _ (List.mem_of_getElem? (i := 2) rfl)) (jWr_54 _ (List.mem_of_getElem? (i := 3) rfl)) (jWr_54 _ (List.mem_of_getElem? (i := 4) rfl)) (jWr_1 _ (List.mem_of_getElem? (i := 5) rfl)) (jWr_54 _ (List.mem_of_getElem? (i := 5) rfl))) rfl rfl rfl (by decide +kernel) ⟨by rw [← hR]; exact Nat.le_of_ble_eq_true rfl, by rw [← hR]; exact Nat.le_of_ble_eq_true rfl⟩) ⟨fun a U g mk q => by obtain ⟨q0, q1, q2, qK, q10, q11, q12⟩ := q; exact ⟨q0, q1, q2, jG.calling g mk a qK, q10, q11, q12⟩, hh_24.recv (C := RX14) (T := TX14) (N := 74) hB16 rfl (by decide) hg_r0 hK, fun U hU hW => ⟨rfl, hU, hh_24.2.1, hG.step hW hU hh_24.1, hg_r0, (hh_24.2.2.1.sub (L1 := [(r0, 16, 6, .int qf_24)]) [0] rfl), by first | omega | (refine ⟨?_, ?_⟩ <;> (first | omega | rfl | assumption | decide | exact Or.inl rfl | exact Or.inr rfl | (simp only; omega)))⟩⟩ rfl rfl hl.1 rfl (lv_room (Nat.le_of_ble_eq_true rfl)) dX14_error_111 ⟨Nat.zero_le _, Nat.zero_le _⟩) hh_24.1 (fun q _ h => h) (fun q h => h) (fun u_26 t_26 H_26 locs_26 ht_26 hvm_26 hr_27 hb_26 hz_26 hk_26 hS_26 => ?_)
              obtain ⟨qf_26, rfl⟩ : ∃ z, z = u_26 := ⟨_, rfl⟩
              rw [ht_26] at hb_26
              obtain ⟨hb_261, hb_262, hb_263, hb_264, hb_265⟩ := hb_26
              have hh_26 : jSt (dC, dI) B base G0 G0 EX14_error s.heap 0 0 [(r0, 16, 6, .int qf_26)] [] [] H_26 locs_26 := ((hh_24.call hb_261 hb_262 hb_263 hb_264 hS_26 rfl (L1 := []) [] rfl rfl (M1 := []) [] rfl rfl (I1 := []) [] rfl rfl).more hb_265)
              clear hh_24 ht_26 hvm_26 hz_26 hk_26 hS_26 hb_261 hb_262 hb_263 hb_264 hb_265
              obtain ⟨hr_27_0, hr_27_1⟩ := hr_27
              refine lv_aload_n hx hb dX14_error_114 rfl (lv_at hl 0 rfl) ?_
              refine va_callv (A0 := jA base) (H0 := s.heap) (va_runV (As := []) (rest := []) ⟨hx, hb, hml, hown, hts⟩ (uX14_endAnswer l dC dI ca base B hB hAp hB16 hB101 G0 H_26 r0) (cwV 0 hts (jgV (jWr_55 _ (List.mem_of_getElem? (i := 6) rfl)) (jWr_55 _ (List.mem_of_getElem? (i := 7) rfl)) (jWr_55 _ (List.mem_of_getElem? (i := 8) rfl)) (jWr_1 _ (List.mem_of_getElem? (i := 5) rfl)) (jWr_55 _ (List.mem_of_getElem? (i := 9) rfl))) rfl rfl rfl (by decide +kernel) ⟨by rw [← hR]; exact Nat.le_of_ble_eq_true rfl, by rw [← hR]; exact Nat.le_of_ble_eq_true rfl⟩) ⟨fun a U g mk q => by obtain ⟨q0, q1, q2, qK, q10, q11, q12⟩ := q; exact ⟨q0, q1, q2, jG.calling g mk a qK, q10, q11, q12⟩, hh_26.recv (C := RX14) (T := TX14) (N := 74) hB16 rfl (by decide) hg_r0 hK, fun U hU hW => ⟨rfl, hU, hh_26.2.1, hG.step hW hU hh_26.1, hg_r0, jP.nil, trivial⟩⟩ rfl rfl hl.1 rfl (lv_room (Nat.le_of_ble_eq_true rfl)) dX14_error_115 ⟨Nat.zero_le _, Nat.zero_le _⟩) hh_26.1 (fun q _ h => h) (fun q h => h) (fun u_28 t_28 H_28 locs_28 ht_28 hvm_28 hr_29 hb_28 hz_28 hk_28 hS_28 => ?_)
              rw [ht_28] at hb_28
              obtain ⟨hb_281, hb_282, hb_283, hb_284, hb_285⟩ := hb_28
              have hh_28 : jSt (dC, dI) B base G0 G0 EX14_error s.heap 0 0 [] [] [] H_28 locs_28 := ((hh_26.call hb_281 hb_282 hb_283 hb_284 hS_28 rfl (L1 := []) [] rfl rfl (M1 := []) [] rfl rfl (I1 := []) [] rfl rfl).more hb_285)
              clear hh_26 ht_28 hvm_28 hz_28 hk_28 hS_28 hb_281 hb_282 hb_283 hb_284 hb_285
              rw [hQ]
              exact W.vret hx hb hr (fun t ht hW => ⟨⟨(), rfl, trivial, hh_28.rt (M1 := []) [] rfl ht⟩, by rw [ht]; try exact hh_28.1.1, fun q h9 hq => by rw [ht]; try exact hh_28.1.2.1 q h9 hq⟩) hh_28.1.2.2 dX14_error_118
          · skip
            have c_16' : a1.toInt = (-32002) := jb_ne_n (rfl) ((by decide)) c_16
            refine j_ldcSw hx hb hown rstr412 dX14_error_83 ?_
            refine lv_goto (tgt := 105) hx hb dX14_error_86 (by decide) ?_
            refine va_callv (A0 := jA base) (H0 := s.heap) (va_runV (As := [.ref str412]) (rest := []) ⟨hx, hb, hml, hown, hts⟩ (uX14_text l dC dI ca base B hB hAp hB16 hB101 G0 H_10 r0 str412 15 qf_10) (cwV 1 hts (jgV (jWr_55 _ (List.mem_of_getElem? (i := 2) rfl)) (jWr_55 _ (List.mem_of_getElem? (i := 3) rfl)) (jWr_55 _ (List.mem_of_getElem? (i := 4) rfl)) (jWr_1 _ (List.mem_of_getElem? (i := 5) rfl)) (jWr_55 _ (List.mem_of_getElem? (i := 5) rfl))) rfl rfl rfl (by decide +kernel) ⟨by rw [← hR]; exact Nat.le_of_ble_eq_true rfl, by rw [← hR]; exact Nat.le_of_ble_eq_true rfl⟩) ⟨fun a U g mk q => by obtain ⟨q0, q1, q2, qK, q10, q11, q12, q13⟩ := q; exact ⟨q0, q1, q2, jG.calling g mk a qK, (q10.moved (Vm.Alike.refl U.vm)), q11, q12, q13⟩, hh_10.recv (C := RX14) (T := TX14) (N := 74) hB16 rfl (by decide) hg_r0 hK, fun U hU hW => ⟨rfl, hU, hh_10.2.1, hG.step hW hU hh_10.1, (hstr412.moved hW.alike).kept hh_10.1.2.1, hg_r0, (hh_10.2.2.1.sub (L1 := [(r0, 16, 6, .int qf_10)]) [0] rfl), by first | omega | (refine ⟨?_, ?_, ?_⟩ <;> (first | omega | rfl | assumption | decide | exact Or.inl rfl | exact Or.inr rfl | (simp only; omega)))⟩⟩ rfl rfl hl.1 rfl (lv_room (Nat.le_of_ble_eq_true rfl)) dX14_error_105 ⟨Nat.zero_le _, Nat.zero_le _⟩) hh_10.1 (fun q _ h => h) (fun q h => h) (fun u_30 t_30 H_30 locs_30 ht_30 hvm_30 hr_31 hb_30 hz_30 hk_30 hS_30 => ?_)
            obtain ⟨qf_30, rfl⟩ : ∃ z, z = u_30 := ⟨_, rfl⟩
            rw [ht_30] at hb_30
            obtain ⟨hb_301, hb_302, hb_303, hb_304, hb_305⟩ := hb_30
            have hh_30 : jSt (dC, dI) B base G0 G0 EX14_error s.heap 0 0 [(r0, 16, 6, .int qf_30)] [] [] H_30 locs_30 := ((hh_10.call hb_301 hb_302 hb_303 hb_304 hS_30 rfl (L1 := []) [] rfl rfl (M1 := []) [] rfl rfl (I1 := []) [] rfl rfl).more hb_305)
            clear hh_10 ht_30 hvm_30 hz_30 hk_30 hS_30 hb_301 hb_302 hb_303 hb_304 hb_305
            obtain ⟨hr_31_0, hr_31_1⟩ := hr_31
            refine lv_aload_n hx hb dX14_error_108 rfl (lv_at hl 0 rfl) ?_
            refine lv_bipush (v := 125) hx hb dX14_error_109 (by decide) ?_
            refine va_callv (A0 := jA base) (H0 := s.heap) (va_runV (As := [.int 125]) (rest := []) ⟨hx, hb, hml, hown, hts⟩ (uX14_put l dC dI ca base B hB hAp hB16 hB101 G0 H_30 r0 125 qf_30) (cwV 1 hts (jgV (jWr_54 _ (List.mem_of_getElem? (i := 2) rfl)) (jWr_54 _ (List.mem_of_getElem? (i := 3) rfl)) (jWr_54 _ (List.mem_of_getElem? (i := 4) rfl)) (jWr_1 _ (List.mem_of_getElem? (i := 5) rfl)) (jWr_54 _ (List.mem_of_getElem? (i := 5) rfl))) rfl rfl rfl (by decide +kernel) ⟨by rw [← hR]; exact Nat.le_of_ble_eq_true rfl, by rw [← hR]; exact Nat.le_of_ble_eq_true rfl⟩) ⟨fun a U g mk q => by obtain ⟨q0, q1, q2, qK, q10, q11, q12⟩ := q; exact ⟨q0, q1, q2, jG.calling g mk a qK, q10, q11, q12⟩, hh_30.recv (C := RX14) (T := TX14) (N := 74) hB16 rfl (by decide) hg_r0 hK, fun U hU hW => ⟨rfl, hU, hh_30.2.1, hG.step hW hU hh_30.1, hg_r0, (hh_30.2.2.1.sub (L1 := [(r0, 16, 6, .int qf_30)]) [0] rfl), by first | omega | (refine ⟨?_, ?_⟩ <;> (first | omega | rfl | assumption | decide | exact Or.inl rfl | exact Or.inr rfl | (simp only; omega)))⟩⟩ rfl rfl hl.1 rfl (lv_room (Nat.le_of_ble_eq_true rfl)) dX14_error_111 ⟨Nat.zero_le _, Nat.zero_le _⟩) hh_30.1 (fun q _ h => h) (fun q h => h) (fun u_32 t_32 H_32 locs_32 ht_32 hvm_32 hr_33 hb_32 hz_32 hk_32 hS_32 => ?_)
            obtain ⟨qf_32, rfl⟩ : ∃ z, z = u_32 := ⟨_, rfl⟩
            rw [ht_32] at hb_32
            obtain ⟨hb_321, hb_322, hb_323, hb_324, hb_325⟩ := hb_32
            have hh_32 : jSt (dC, dI) B base G0 G0 EX14_error s.heap 0 0 [(r0, 16, 6, .int qf_32)] [] [] H_32 locs_32 := ((hh_30.call hb_321 hb_322 hb_323 hb_324 hS_32 rfl (L1 := []) [] rfl rfl (M1 := []) [] rfl rfl (I1 := []) [] rfl rfl).more hb_325)
            clear hh_30 ht_32 hvm_32 hz_32 hk_32 hS_32 hb_321 hb_322 hb_323 hb_324 hb_325
            obtain ⟨hr_33_0, hr_33_1⟩ := hr_33
            refine lv_aload_n hx hb dX14_error_114 rfl (lv_at hl 0 rfl) ?_
            refine va_callv (A0 := jA base) (H0 := s.heap) (va_runV (As := []) (rest := []) ⟨hx, hb, hml, hown, hts⟩ (uX14_endAnswer l dC dI ca base B hB hAp hB16 hB101 G0 H_32 r0) (cwV 0 hts (jgV (jWr_55 _ (List.mem_of_getElem? (i := 6) rfl)) (jWr_55 _ (List.mem_of_getElem? (i := 7) rfl)) (jWr_55 _ (List.mem_of_getElem? (i := 8) rfl)) (jWr_1 _ (List.mem_of_getElem? (i := 5) rfl)) (jWr_55 _ (List.mem_of_getElem? (i := 9) rfl))) rfl rfl rfl (by decide +kernel) ⟨by rw [← hR]; exact Nat.le_of_ble_eq_true rfl, by rw [← hR]; exact Nat.le_of_ble_eq_true rfl⟩) ⟨fun a U g mk q => by obtain ⟨q0, q1, q2, qK, q10, q11, q12⟩ := q; exact ⟨q0, q1, q2, jG.calling g mk a qK, q10, q11, q12⟩, hh_32.recv (C := RX14) (T := TX14) (N := 74) hB16 rfl (by decide) hg_r0 hK, fun U hU hW => ⟨rfl, hU, hh_32.2.1, hG.step hW hU hh_32.1, hg_r0, jP.nil, trivial⟩⟩ rfl rfl hl.1 rfl (lv_room (Nat.le_of_ble_eq_true rfl)) dX14_error_115 ⟨Nat.zero_le _, Nat.zero_le _⟩) hh_32.1 (fun q _ h => h) (fun q h => h) (fun u_34 t_34 H_34 locs_34 ht_34 hvm_34 hr_35 hb_34 hz_34 hk_34 hS_34 => ?_)
            rw [ht_34] at hb_34
            obtain ⟨hb_341, hb_342, hb_343, hb_344, hb_345⟩ := hb_34
            have hh_34 : jSt (dC, dI) B base G0 G0 EX14_error s.heap 0 0 [] [] [] H_34 locs_34 := ((hh_32.call hb_341 hb_342 hb_343 hb_344 hS_34 rfl (L1 := []) [] rfl rfl (M1 := []) [] rfl rfl (I1 := []) [] rfl rfl).more hb_345)
            clear hh_32 ht_34 hvm_34 hz_34 hk_34 hS_34 hb_341 hb_342 hb_343 hb_344 hb_345
            rw [hQ]
            exact W.vret hx hb hr (fun t ht hW => ⟨⟨(), rfl, trivial, hh_34.rt (M1 := []) [] rfl ht⟩, by rw [ht]; try exact hh_34.1.1, fun q h9 hq => by rw [ht]; try exact hh_34.1.2.1 q h9 hq⟩) hh_34.1.2.2 dX14_error_118
        · skip
          have c_15' : a1.toInt = (-32602) := jb_ne_n (rfl) ((by decide)) c_15
          refine j_ldcSw hx hb hown rstr410 dX14_error_70 ?_
          refine lv_goto (tgt := 105) hx hb dX14_error_73 (by decide) ?_
          refine va_callv (A0 := jA base) (H0 := s.heap) (va_runV (As := [.ref str410]) (rest := []) ⟨hx, hb, hml, hown, hts⟩ (uX14_text l dC dI ca base B hB hAp hB16 hB101 G0 H_10 r0 str410 10 qf_10) (cwV 1 hts (jgV (jWr_55 _ (List.mem_of_getElem? (i := 2) rfl)) (jWr_55 _ (List.mem_of_getElem? (i := 3) rfl)) (jWr_55 _ (List.mem_of_getElem? (i := 4) rfl)) (jWr_1 _ (List.mem_of_getElem? (i := 5) rfl)) (jWr_55 _ (List.mem_of_getElem? (i := 5) rfl))) rfl rfl rfl (by decide +kernel) ⟨by rw [← hR]; exact Nat.le_of_ble_eq_true rfl, by rw [← hR]; exact Nat.le_of_ble_eq_true rfl⟩) ⟨fun a U g mk q => by obtain ⟨q0, q1, q2, qK, q10, q11, q12, q13⟩ := q; exact ⟨q0, q1, q2, jG.calling g mk a qK, (q10.moved (Vm.Alike.refl U.vm)), q11, q12, q13⟩, hh_10.recv (C := RX14) (T := TX14) (N := 74) hB16 rfl (by decide) hg_r0 hK, fun U hU hW => ⟨rfl, hU, hh_10.2.1, hG.step hW hU hh_10.1, (hstr410.moved hW.alike).kept hh_10.1.2.1, hg_r0, (hh_10.2.2.1.sub (L1 := [(r0, 16, 6, .int qf_10)]) [0] rfl), by first | omega | (refine ⟨?_, ?_, ?_⟩ <;> (first | omega | rfl | assumption | decide | exact Or.inl rfl | exact Or.inr rfl | (simp only; omega)))⟩⟩ rfl rfl hl.1 rfl (lv_room (Nat.le_of_ble_eq_true rfl)) dX14_error_105 ⟨Nat.zero_le _, Nat.zero_le _⟩) hh_10.1 (fun q _ h => h) (fun q h => h) (fun u_36 t_36 H_36 locs_36 ht_36 hvm_36 hr_37 hb_36 hz_36 hk_36 hS_36 => ?_)
          obtain ⟨qf_36, rfl⟩ : ∃ z, z = u_36 := ⟨_, rfl⟩
          rw [ht_36] at hb_36
          obtain ⟨hb_361, hb_362, hb_363, hb_364, hb_365⟩ := hb_36
          have hh_36 : jSt (dC, dI) B base G0 G0 EX14_error s.heap 0 0 [(r0, 16, 6, .int qf_36)] [] [] H_36 locs_36 := ((hh_10.call hb_361 hb_362 hb_363 hb_364 hS_36 rfl (L1 := []) [] rfl rfl (M1 := []) [] rfl rfl (I1 := []) [] rfl rfl).more hb_365)
          clear hh_10 ht_36 hvm_36 hz_36 hk_36 hS_36 hb_361 hb_362 hb_363 hb_364 hb_365
          obtain ⟨hr_37_0, hr_37_1⟩ := hr_37
          refine lv_aload_n hx hb dX14_error_108 rfl (lv_at hl 0 rfl) ?_
          refine lv_bipush (v := 125) hx hb dX14_error_109 (by decide) ?_
          refine va_callv (A0 := jA base) (H0 := s.heap) (va_runV (As := [.int 125]) (rest := []) ⟨hx, hb, hml, hown, hts⟩ (uX14_put l dC dI ca base B hB hAp hB16 hB101 G0 H_36 r0 125 qf_36) (cwV 1 hts (jgV (jWr_54 _ (List.mem_of_getElem? (i := 2) rfl)) (jWr_54 _ (List.mem_of_getElem? (i := 3) rfl)) (jWr_54 _ (List.mem_of_getElem? (i := 4) rfl)) (jWr_1 _ (List.mem_of_getElem? (i := 5) rfl)) (jWr_54 _ (List.mem_of_getElem? (i := 5) rfl))) rfl rfl rfl (by decide +kernel) ⟨by rw [← hR]; exact Nat.le_of_ble_eq_true rfl, by rw [← hR]; exact Nat.le_of_ble_eq_true rfl⟩) ⟨fun a U g mk q => by obtain ⟨q0, q1, q2, qK, q10, q11, q12⟩ := q; exact ⟨q0, q1, q2, jG.calling g mk a qK, q10, q11, q12⟩, hh_36.recv (C := RX14) (T := TX14) (N := 74) hB16 rfl (by decide) hg_r0 hK, fun U hU hW => ⟨rfl, hU, hh_36.2.1, hG.step hW hU hh_36.1, hg_r0, (hh_36.2.2.1.sub (L1 := [(r0, 16, 6, .int qf_36)]) [0] rfl), by first | omega | (refine ⟨?_, ?_⟩ <;> (first | omega | rfl | assumption | decide | exact Or.inl rfl | exact Or.inr rfl | (simp only; omega)))⟩⟩ rfl rfl hl.1 rfl (lv_room (Nat.le_of_ble_eq_true rfl)) dX14_error_111 ⟨Nat.zero_le _, Nat.zero_le _⟩) hh_36.1 (fun q _ h => h) (fun q h => h) (fun u_38 t_38 H_38 locs_38 ht_38 hvm_38 hr_39 hb_38 hz_38 hk_38 hS_38 => ?_)
          obtain ⟨qf_38, rfl⟩ : ∃ z, z = u_38 := ⟨_, rfl⟩
          rw [ht_38] at hb_38
          obtain ⟨hb_381, hb_382, hb_383, hb_384, hb_385⟩ := hb_38
          have hh_38 : jSt (dC, dI) B base G0 G0 EX14_error s.heap 0 0 [(r0, 16, 6, .int qf_38)] [] [] H_38 locs_38 := ((hh_36.call hb_381 hb_382 hb_383 hb_384 hS_38 rfl (L1 := []) [] rfl rfl (M1 := []) [] rfl rfl (I1 := []) [] rfl rfl).more hb_385)
          clear hh_36 ht_38 hvm_38 hz_38 hk_38 hS_38 hb_381 hb_382 hb_383 hb_384 hb_385
          obtain ⟨hr_39_0, hr_39_1⟩ := hr_39
          refine lv_aload_n hx hb dX14_error_114 rfl (lv_at hl 0 rfl) ?_
          refine va_callv (A0 := jA base) (H0 := s.heap) (va_runV (As := []) (rest := []) ⟨hx, hb, hml, hown, hts⟩ (uX14_endAnswer l dC dI ca base B hB hAp hB16 hB101 G0 H_38 r0) (cwV 0 hts (jgV (jWr_55 _ (List.mem_of_getElem? (i := 6) rfl)) (jWr_55 _ (List.mem_of_getElem? (i := 7) rfl)) (jWr_55 _ (List.mem_of_getElem? (i := 8) rfl)) (jWr_1 _ (List.mem_of_getElem? (i := 5) rfl)) (jWr_55 _ (List.mem_of_getElem? (i := 9) rfl))) rfl rfl rfl (by decide +kernel) ⟨by rw [← hR]; exact Nat.le_of_ble_eq_true rfl, by rw [← hR]; exact Nat.le_of_ble_eq_true rfl⟩) ⟨fun a U g mk q => by obtain ⟨q0, q1, q2, qK, q10, q11, q12⟩ := q; exact ⟨q0, q1, q2, jG.calling g mk a qK, q10, q11, q12⟩, hh_38.recv (C := RX14) (T := TX14) (N := 74) hB16 rfl (by decide) hg_r0 hK, fun U hU hW => ⟨rfl, hU, hh_38.2.1, hG.step hW hU hh_38.1, hg_r0, jP.nil, trivial⟩⟩ rfl rfl hl.1 rfl (lv_room (Nat.le_of_ble_eq_true rfl)) dX14_error_115 ⟨Nat.zero_le _, Nat.zero_le _⟩) hh_38.1 (fun q _ h => h) (fun q h => h) (fun u_40 t_40 H_40 locs_40 ht_40 hvm_40 hr_41 hb_40 hz_40 hk_40 hS_40 => ?_)
          rw [ht_40] at hb_40
          obtain ⟨hb_401, hb_402, hb_403, hb_404, hb_405⟩ := hb_40
          have hh_40 : jSt (dC, dI) B base G0 G0 EX14_error s.heap 0 0 [] [] [] H_40 locs_40 := ((hh_38.call hb_401 hb_402 hb_403 hb_404 hS_40 rfl (L1 := []) [] rfl rfl (M1 := []) [] rfl rfl (I1 := []) [] rfl rfl).more hb_405)
          clear hh_38 ht_40 hvm_40 hz_40 hk_40 hS_40 hb_401 hb_402 hb_403 hb_404 hb_405
          rw [hQ]
          exact W.vret hx hb hr (fun t ht hW => ⟨⟨(), rfl, trivial, hh_40.rt (M1 := []) [] rfl ht⟩, by rw [ht]; try exact hh_40.1.1, fun q h9 hq => by rw [ht]; try exact hh_40.1.2.1 q h9 hq⟩) hh_40.1.2.2 dX14_error_118
      · skip
        have c_14' : a1.toInt = (-32601) := jb_ne_n (rfl) ((by decide)) c_14
        refine j_ldcSw hx hb hown rstr408 dX14_error_57 ?_
        refine lv_goto (tgt := 105) hx hb dX14_error_60 (by decide) ?_
        refine va_callv (A0 := jA base) (H0 := s.heap) (va_runV (As := [.ref str408]) (rest := []) ⟨hx, hb, hml, hown, hts⟩ (uX14_text l dC dI ca base B hB hAp hB16 hB101 G0 H_10 r0 str408 9 qf_10) (cwV 1 hts (jgV (jWr_55 _ (List.mem_of_getElem? (i := 2) rfl)) (jWr_55 _ (List.mem_of_getElem? (i := 3) rfl)) (jWr_55 _ (List.mem_of_getElem? (i := 4) rfl)) (jWr_1 _ (List.mem_of_getElem? (i := 5) rfl)) (jWr_55 _ (List.mem_of_getElem? (i := 5) rfl))) rfl rfl rfl (by decide +kernel) ⟨by rw [← hR]; exact Nat.le_of_ble_eq_true rfl, by rw [← hR]; exact Nat.le_of_ble_eq_true rfl⟩) ⟨fun a U g mk q => by obtain ⟨q0, q1, q2, qK, q10, q11, q12, q13⟩ := q; exact ⟨q0, q1, q2, jG.calling g mk a qK, (q10.moved (Vm.Alike.refl U.vm)), q11, q12, q13⟩, hh_10.recv (C := RX14) (T := TX14) (N := 74) hB16 rfl (by decide) hg_r0 hK, fun U hU hW => ⟨rfl, hU, hh_10.2.1, hG.step hW hU hh_10.1, (hstr408.moved hW.alike).kept hh_10.1.2.1, hg_r0, (hh_10.2.2.1.sub (L1 := [(r0, 16, 6, .int qf_10)]) [0] rfl), by first | omega | (refine ⟨?_, ?_, ?_⟩ <;> (first | omega | rfl | assumption | decide | exact Or.inl rfl | exact Or.inr rfl | (simp only; omega)))⟩⟩ rfl rfl hl.1 rfl (lv_room (Nat.le_of_ble_eq_true rfl)) dX14_error_105 ⟨Nat.zero_le _, Nat.zero_le _⟩) hh_10.1 (fun q _ h => h) (fun q h => h) (fun u_42 t_42 H_42 locs_42 ht_42 hvm_42 hr_43 hb_42 hz_42 hk_42 hS_42 => ?_)
        obtain ⟨qf_42, rfl⟩ : ∃ z, z = u_42 := ⟨_, rfl⟩
        rw [ht_42] at hb_42
        obtain ⟨hb_421, hb_422, hb_423, hb_424, hb_425⟩ := hb_42
        have hh_42 : jSt (dC, dI) B base G0 G0 EX14_error s.heap 0 0 [(r0, 16, 6, .int qf_42)] [] [] H_42 locs_42 := ((hh_10.call hb_421 hb_422 hb_423 hb_424 hS_42 rfl (L1 := []) [] rfl rfl (M1 := []) [] rfl rfl (I1 := []) [] rfl rfl).more hb_425)
        clear hh_10 ht_42 hvm_42 hz_42 hk_42 hS_42 hb_421 hb_422 hb_423 hb_424 hb_425
        obtain ⟨hr_43_0, hr_43_1⟩ := hr_43
        refine lv_aload_n hx hb dX14_error_108 rfl (lv_at hl 0 rfl) ?_
        refine lv_bipush (v := 125) hx hb dX14_error_109 (by decide) ?_
        refine va_callv (A0 := jA base) (H0 := s.heap) (va_runV (As := [.int 125]) (rest := []) ⟨hx, hb, hml, hown, hts⟩ (uX14_put l dC dI ca base B hB hAp hB16 hB101 G0 H_42 r0 125 qf_42) (cwV 1 hts (jgV (jWr_54 _ (List.mem_of_getElem? (i := 2) rfl)) (jWr_54 _ (List.mem_of_getElem? (i := 3) rfl)) (jWr_54 _ (List.mem_of_getElem? (i := 4) rfl)) (jWr_1 _ (List.mem_of_getElem? (i := 5) rfl)) (jWr_54 _ (List.mem_of_getElem? (i := 5) rfl))) rfl rfl rfl (by decide +kernel) ⟨by rw [← hR]; exact Nat.le_of_ble_eq_true rfl, by rw [← hR]; exact Nat.le_of_ble_eq_true rfl⟩) ⟨fun a U g mk q => by obtain ⟨q0, q1, q2, qK, q10, q11, q12⟩ := q; exact ⟨q0, q1, q2, jG.calling g mk a qK, q10, q11, q12⟩, hh_42.recv (C := RX14) (T := TX14) (N := 74) hB16 rfl (by decide) hg_r0 hK, fun U hU hW => ⟨rfl, hU, hh_42.2.1, hG.step hW hU hh_42.1, hg_r0, (hh_42.2.2.1.sub (L1 := [(r0, 16, 6, .int qf_42)]) [0] rfl), by first | omega | (refine ⟨?_, ?_⟩ <;> (first | omega | rfl | assumption | decide | exact Or.inl rfl | exact Or.inr rfl | (simp only; omega)))⟩⟩ rfl rfl hl.1 rfl (lv_room (Nat.le_of_ble_eq_true rfl)) dX14_error_111 ⟨Nat.zero_le _, Nat.zero_le _⟩) hh_42.1 (fun q _ h => h) (fun q h => h) (fun u_44 t_44 H_44 locs_44 ht_44 hvm_44 hr_45 hb_44 hz_44 hk_44 hS_44 => ?_)
        obtain ⟨qf_44, rfl⟩ : ∃ z, z = u_44 := ⟨_, rfl⟩
        rw [ht_44] at hb_44
        obtain ⟨hb_441, hb_442, hb_443, hb_444, hb_445⟩ := hb_44
        have hh_44 : jSt (dC, dI) B base G0 G0 EX14_error s.heap 0 0 [(r0, 16, 6, .int qf_44)] [] [] H_44 locs_44 := ((hh_42.call hb_441 hb_442 hb_443 hb_444 hS_44 rfl (L1 := []) [] rfl rfl (M1 := []) [] rfl rfl (I1 := []) [] rfl rfl).more hb_445)
        clear hh_42 ht_44 hvm_44 hz_44 hk_44 hS_44 hb_441 hb_442 hb_443 hb_444 hb_445
        obtain ⟨hr_45_0, hr_45_1⟩ := hr_45
        refine lv_aload_n hx hb dX14_error_114 rfl (lv_at hl 0 rfl) ?_
        refine va_callv (A0 := jA base) (H0 := s.heap) (va_runV (As := []) (rest := []) ⟨hx, hb, hml, hown, hts⟩ (uX14_endAnswer l dC dI ca base B hB hAp hB16 hB101 G0 H_44 r0) (cwV 0 hts (jgV (jWr_55 _ (List.mem_of_getElem? (i := 6) rfl)) (jWr_55 _ (List.mem_of_getElem? (i := 7) rfl)) (jWr_55 _ (List.mem_of_getElem? (i := 8) rfl)) (jWr_1 _ (List.mem_of_getElem? (i := 5) rfl)) (jWr_55 _ (List.mem_of_getElem? (i := 9) rfl))) rfl rfl rfl (by decide +kernel) ⟨by rw [← hR]; exact Nat.le_of_ble_eq_true rfl, by rw [← hR]; exact Nat.le_of_ble_eq_true rfl⟩) ⟨fun a U g mk q => by obtain ⟨q0, q1, q2, qK, q10, q11, q12⟩ := q; exact ⟨q0, q1, q2, jG.calling g mk a qK, q10, q11, q12⟩, hh_44.recv (C := RX14) (T := TX14) (N := 74) hB16 rfl (by decide) hg_r0 hK, fun U hU hW => ⟨rfl, hU, hh_44.2.1, hG.step hW hU hh_44.1, hg_r0, jP.nil, trivial⟩⟩ rfl rfl hl.1 rfl (lv_room (Nat.le_of_ble_eq_true rfl)) dX14_error_115 ⟨Nat.zero_le _, Nat.zero_le _⟩) hh_44.1 (fun q _ h => h) (fun q h => h) (fun u_46 t_46 H_46 locs_46 ht_46 hvm_46 hr_47 hb_46 hz_46 hk_46 hS_46 => ?_)
        rw [ht_46] at hb_46
        obtain ⟨hb_461, hb_462, hb_463, hb_464, hb_465⟩ := hb_46
        have hh_46 : jSt (dC, dI) B base G0 G0 EX14_error s.heap 0 0 [] [] [] H_46 locs_46 := ((hh_44.call hb_461 hb_462 hb_463 hb_464 hS_46 rfl (L1 := []) [] rfl rfl (M1 := []) [] rfl rfl (I1 := []) [] rfl rfl).more hb_465)
        clear hh_44 ht_46 hvm_46 hz_46 hk_46 hS_46 hb_461 hb_462 hb_463 hb_464 hb_465
        rw [hQ]
        exact W.vret hx hb hr (fun t ht hW => ⟨⟨(), rfl, trivial, hh_46.rt (M1 := []) [] rfl ht⟩, by rw [ht]; try exact hh_46.1.1, fun q h9 hq => by rw [ht]; try exact hh_46.1.2.1 q h9 hq⟩) hh_46.1.2.2 dX14_error_118
    · skip
      have c_13' : a1.toInt = (-32600) := jb_ne_n (rfl) ((by decide)) c_13
      refine j_ldcSw hx hb hown rstr406 dX14_error_44 ?_
      refine lv_goto (tgt := 105) hx hb dX14_error_47 (by decide) ?_
      refine va_callv (A0 := jA base) (H0 := s.heap) (va_runV (As := [.ref str406]) (rest := []) ⟨hx, hb, hml, hown, hts⟩ (uX14_text l dC dI ca base B hB hAp hB16 hB101 G0 H_10 r0 str406 10 qf_10) (cwV 1 hts (jgV (jWr_55 _ (List.mem_of_getElem? (i := 2) rfl)) (jWr_55 _ (List.mem_of_getElem? (i := 3) rfl)) (jWr_55 _ (List.mem_of_getElem? (i := 4) rfl)) (jWr_1 _ (List.mem_of_getElem? (i := 5) rfl)) (jWr_55 _ (List.mem_of_getElem? (i := 5) rfl))) rfl rfl rfl (by decide +kernel) ⟨by rw [← hR]; exact Nat.le_of_ble_eq_true rfl, by rw [← hR]; exact Nat.le_of_ble_eq_true rfl⟩) ⟨fun a U g mk q => by obtain ⟨q0, q1, q2, qK, q10, q11, q12, q13⟩ := q; exact ⟨q0, q1, q2, jG.calling g mk a qK, (q10.moved (Vm.Alike.refl U.vm)), q11, q12, q13⟩, hh_10.recv (C := RX14) (T := TX14) (N := 74) hB16 rfl (by decide) hg_r0 hK, fun U hU hW => ⟨rfl, hU, hh_10.2.1, hG.step hW hU hh_10.1, (hstr406.moved hW.alike).kept hh_10.1.2.1, hg_r0, (hh_10.2.2.1.sub (L1 := [(r0, 16, 6, .int qf_10)]) [0] rfl), by first | omega | (refine ⟨?_, ?_, ?_⟩ <;> (first | omega | rfl | assumption | decide | exact Or.inl rfl | exact Or.inr rfl | (simp only; omega)))⟩⟩ rfl rfl hl.1 rfl (lv_room (Nat.le_of_ble_eq_true rfl)) dX14_error_105 ⟨Nat.zero_le _, Nat.zero_le _⟩) hh_10.1 (fun q _ h => h) (fun q h => h) (fun u_48 t_48 H_48 locs_48 ht_48 hvm_48 hr_49 hb_48 hz_48 hk_48 hS_48 => ?_)
      obtain ⟨qf_48, rfl⟩ : ∃ z, z = u_48 := ⟨_, rfl⟩
      rw [ht_48] at hb_48
      obtain ⟨hb_481, hb_482, hb_483, hb_484, hb_485⟩ := hb_48
      have hh_48 : jSt (dC, dI) B base G0 G0 EX14_error s.heap 0 0 [(r0, 16, 6, .int qf_48)] [] [] H_48 locs_48 := ((hh_10.call hb_481 hb_482 hb_483 hb_484 hS_48 rfl (L1 := []) [] rfl rfl (M1 := []) [] rfl rfl (I1 := []) [] rfl rfl).more hb_485)
      clear hh_10 ht_48 hvm_48 hz_48 hk_48 hS_48 hb_481 hb_482 hb_483 hb_484 hb_485
      obtain ⟨hr_49_0, hr_49_1⟩ := hr_49
      refine lv_aload_n hx hb dX14_error_108 rfl (lv_at hl 0 rfl) ?_
      refine lv_bipush (v := 125) hx hb dX14_error_109 (by decide) ?_
      refine va_callv (A0 := jA base) (H0 := s.heap) (va_runV (As := [.int 125]) (rest := []) ⟨hx, hb, hml, hown, hts⟩ (uX14_put l dC dI ca base B hB hAp hB16 hB101 G0 H_48 r0 125 qf_48) (cwV 1 hts (jgV (jWr_54 _ (List.mem_of_getElem? (i := 2) rfl)) (jWr_54 _ (List.mem_of_getElem? (i := 3) rfl)) (jWr_54 _ (List.mem_of_getElem? (i := 4) rfl)) (jWr_1 _ (List.mem_of_getElem? (i := 5) rfl)) (jWr_54 _ (List.mem_of_getElem? (i := 5) rfl))) rfl rfl rfl (by decide +kernel) ⟨by rw [← hR]; exact Nat.le_of_ble_eq_true rfl, by rw [← hR]; exact Nat.le_of_ble_eq_true rfl⟩) ⟨fun a U g mk q => by obtain ⟨q0, q1, q2, qK, q10, q11, q12⟩ := q; exact ⟨q0, q1, q2, jG.calling g mk a qK, q10, q11, q12⟩, hh_48.recv (C := RX14) (T := TX14) (N := 74) hB16 rfl (by decide) hg_r0 hK, fun U hU hW => ⟨rfl, hU, hh_48.2.1, hG.step hW hU hh_48.1, hg_r0, (hh_48.2.2.1.sub (L1 := [(r0, 16, 6, .int qf_48)]) [0] rfl), by first | omega | (refine ⟨?_, ?_⟩ <;> (first | omega | rfl | assumption | decide | exact Or.inl rfl | exact Or.inr rfl | (simp only; omega)))⟩⟩ rfl rfl hl.1 rfl (lv_room (Nat.le_of_ble_eq_true rfl)) dX14_error_111 ⟨Nat.zero_le _, Nat.zero_le _⟩) hh_48.1 (fun q _ h => h) (fun q h => h) (fun u_50 t_50 H_50 locs_50 ht_50 hvm_50 hr_51 hb_50 hz_50 hk_50 hS_50 => ?_)
      obtain ⟨qf_50, rfl⟩ : ∃ z, z = u_50 := ⟨_, rfl⟩
      rw [ht_50] at hb_50
      obtain ⟨hb_501, hb_502, hb_503, hb_504, hb_505⟩ := hb_50
      have hh_50 : jSt (dC, dI) B base G0 G0 EX14_error s.heap 0 0 [(r0, 16, 6, .int qf_50)] [] [] H_50 locs_50 := ((hh_48.call hb_501 hb_502 hb_503 hb_504 hS_50 rfl (L1 := []) [] rfl rfl (M1 := []) [] rfl rfl (I1 := []) [] rfl rfl).more hb_505)
      clear hh_48 ht_50 hvm_50 hz_50 hk_50 hS_50 hb_501 hb_502 hb_503 hb_504 hb_505
      obtain ⟨hr_51_0, hr_51_1⟩ := hr_51
      refine lv_aload_n hx hb dX14_error_114 rfl (lv_at hl 0 rfl) ?_
      refine va_callv (A0 := jA base) (H0 := s.heap) (va_runV (As := []) (rest := []) ⟨hx, hb, hml, hown, hts⟩ (uX14_endAnswer l dC dI ca base B hB hAp hB16 hB101 G0 H_50 r0) (cwV 0 hts (jgV (jWr_55 _ (List.mem_of_getElem? (i := 6) rfl)) (jWr_55 _ (List.mem_of_getElem? (i := 7) rfl)) (jWr_55 _ (List.mem_of_getElem? (i := 8) rfl)) (jWr_1 _ (List.mem_of_getElem? (i := 5) rfl)) (jWr_55 _ (List.mem_of_getElem? (i := 9) rfl))) rfl rfl rfl (by decide +kernel) ⟨by rw [← hR]; exact Nat.le_of_ble_eq_true rfl, by rw [← hR]; exact Nat.le_of_ble_eq_true rfl⟩) ⟨fun a U g mk q => by obtain ⟨q0, q1, q2, qK, q10, q11, q12⟩ := q; exact ⟨q0, q1, q2, jG.calling g mk a qK, q10, q11, q12⟩, hh_50.recv (C := RX14) (T := TX14) (N := 74) hB16 rfl (by decide) hg_r0 hK, fun U hU hW => ⟨rfl, hU, hh_50.2.1, hG.step hW hU hh_50.1, hg_r0, jP.nil, trivial⟩⟩ rfl rfl hl.1 rfl (lv_room (Nat.le_of_ble_eq_true rfl)) dX14_error_115 ⟨Nat.zero_le _, Nat.zero_le _⟩) hh_50.1 (fun q _ h => h) (fun q h => h) (fun u_52 t_52 H_52 locs_52 ht_52 hvm_52 hr_53 hb_52 hz_52 hk_52 hS_52 => ?_)
      rw [ht_52] at hb_52
      obtain ⟨hb_521, hb_522, hb_523, hb_524, hb_525⟩ := hb_52
      have hh_52 : jSt (dC, dI) B base G0 G0 EX14_error s.heap 0 0 [] [] [] H_52 locs_52 := ((hh_50.call hb_521 hb_522 hb_523 hb_524 hS_52 rfl (L1 := []) [] rfl rfl (M1 := []) [] rfl rfl (I1 := []) [] rfl rfl).more hb_525)
      clear hh_50 ht_52 hvm_52 hz_52 hk_52 hS_52 hb_521 hb_522 hb_523 hb_524 hb_525
      rw [hQ]
      exact W.vret hx hb hr (fun t ht hW => ⟨⟨(), rfl, trivial, hh_52.rt (M1 := []) [] rfl ht⟩, by rw [ht]; try exact hh_52.1.1, fun q h9 hq => by rw [ht]; try exact hh_52.1.2.1 q h9 hq⟩) hh_52.1.2.2 dX14_error_118
  · skip
    have c_12' : a1.toInt = (-32700) := jb_ne_n (rfl) ((by decide)) c_12
    refine j_ldcSw hx hb hown rstr404 dX14_error_31 ?_
    refine lv_goto (tgt := 105) hx hb dX14_error_34 (by decide) ?_
    refine va_callv (A0 := jA base) (H0 := s.heap) (va_runV (As := [.ref str404]) (rest := []) ⟨hx, hb, hml, hown, hts⟩ (uX14_text l dC dI ca base B hB hAp hB16 hB101 G0 H_10 r0 str404 8 qf_10) (cwV 1 hts (jgV (jWr_55 _ (List.mem_of_getElem? (i := 2) rfl)) (jWr_55 _ (List.mem_of_getElem? (i := 3) rfl)) (jWr_55 _ (List.mem_of_getElem? (i := 4) rfl)) (jWr_1 _ (List.mem_of_getElem? (i := 5) rfl)) (jWr_55 _ (List.mem_of_getElem? (i := 5) rfl))) rfl rfl rfl (by decide +kernel) ⟨by rw [← hR]; exact Nat.le_of_ble_eq_true rfl, by rw [← hR]; exact Nat.le_of_ble_eq_true rfl⟩) ⟨fun a U g mk q => by obtain ⟨q0, q1, q2, qK, q10, q11, q12, q13⟩ := q; exact ⟨q0, q1, q2, jG.calling g mk a qK, (q10.moved (Vm.Alike.refl U.vm)), q11, q12, q13⟩, hh_10.recv (C := RX14) (T := TX14) (N := 74) hB16 rfl (by decide) hg_r0 hK, fun U hU hW => ⟨rfl, hU, hh_10.2.1, hG.step hW hU hh_10.1, (hstr404.moved hW.alike).kept hh_10.1.2.1, hg_r0, (hh_10.2.2.1.sub (L1 := [(r0, 16, 6, .int qf_10)]) [0] rfl), by first | omega | (refine ⟨?_, ?_, ?_⟩ <;> (first | omega | rfl | assumption | decide | exact Or.inl rfl | exact Or.inr rfl | (simp only; omega)))⟩⟩ rfl rfl hl.1 rfl (lv_room (Nat.le_of_ble_eq_true rfl)) dX14_error_105 ⟨Nat.zero_le _, Nat.zero_le _⟩) hh_10.1 (fun q _ h => h) (fun q h => h) (fun u_54 t_54 H_54 locs_54 ht_54 hvm_54 hr_55 hb_54 hz_54 hk_54 hS_54 => ?_)
    obtain ⟨qf_54, rfl⟩ : ∃ z, z = u_54 := ⟨_, rfl⟩
    rw [ht_54] at hb_54
    obtain ⟨hb_541, hb_542, hb_543, hb_544, hb_545⟩ := hb_54
    have hh_54 : jSt (dC, dI) B base G0 G0 EX14_error s.heap 0 0 [(r0, 16, 6, .int qf_54)] [] [] H_54 locs_54 := ((hh_10.call hb_541 hb_542 hb_543 hb_544 hS_54 rfl (L1 := []) [] rfl rfl (M1 := []) [] rfl rfl (I1 := []) [] rfl rfl).more hb_545)
    clear hh_10 ht_54 hvm_54 hz_54 hk_54 hS_54 hb_541 hb_542 hb_543 hb_544 hb_545
    obtain ⟨hr_55_0, hr_55_1⟩ := hr_55
    refine lv_aload_n hx hb dX14_error_108 rfl (lv_at hl 0 rfl) ?_
    refine lv_bipush (v := 125) hx hb dX14_error_109 (by decide) ?_
    refine va_callv (A0 := jA base) (H0 := s.heap) (va_runV (As := [.int 125]) (rest := []) ⟨hx, hb, hml, hown, hts⟩ (uX14_put l dC dI ca base B hB hAp hB16 hB101 G0 H_54 r0 125 qf_54) (cwV 1 hts (jgV (jWr_54 _ (List.mem_of_getElem? (i := 2) rfl)) (jWr_54 _ (List.mem_of_getElem? (i := 3) rfl)) (jWr_54 _ (List.mem_of_getElem? (i := 4) rfl)) (jWr_1 _ (List.mem_of_getElem? (i := 5) rfl)) (jWr_54 _ (List.mem_of_getElem? (i := 5) rfl))) rfl rfl rfl (by decide +kernel) ⟨by rw [← hR]; exact Nat.le_of_ble_eq_true rfl, by rw [← hR]; exact Nat.le_of_ble_eq_true rfl⟩) ⟨fun a U g mk q => by obtain ⟨q0, q1, q2, qK, q10, q11, q12⟩ := q; exact ⟨q0, q1, q2, jG.calling g mk a qK, q10, q11, q12⟩, hh_54.recv (C := RX14) (T := TX14) (N := 74) hB16 rfl (by decide) hg_r0 hK, fun U hU hW => ⟨rfl, hU, hh_54.2.1, hG.step hW hU hh_54.1, hg_r0, (hh_54.2.2.1.sub (L1 := [(r0, 16, 6, .int qf_54)]) [0] rfl), by first | omega | (refine ⟨?_, ?_⟩ <;> (first | omega | rfl | assumption | decide | exact Or.inl rfl | exact Or.inr rfl | (simp only; omega)))⟩⟩ rfl rfl hl.1 rfl (lv_room (Nat.le_of_ble_eq_true rfl)) dX14_error_111 ⟨Nat.zero_le _, Nat.zero_le _⟩) hh_54.1 (fun q _ h => h) (fun q h => h) (fun u_56 t_56 H_56 locs_56 ht_56 hvm_56 hr_57 hb_56 hz_56 hk_56 hS_56 => ?_)
    obtain ⟨qf_56, rfl⟩ : ∃ z, z = u_56 := ⟨_, rfl⟩
    rw [ht_56] at hb_56
    obtain ⟨hb_561, hb_562, hb_563, hb_564, hb_565⟩ := hb_56
    have hh_56 : jSt (dC, dI) B base G0 G0 EX14_error s.heap 0 0 [(r0, 16, 6, .int qf_56)] [] [] H_56 locs_56 := ((hh_54.call hb_561 hb_562 hb_563 hb_564 hS_56 rfl (L1 := []) [] rfl rfl (M1 := []) [] rfl rfl (I1 := []) [] rfl rfl).more hb_565)
    clear hh_54 ht_56 hvm_56 hz_56 hk_56 hS_56 hb_561 hb_562 hb_563 hb_564 hb_565
    obtain ⟨hr_57_0, hr_57_1⟩ := hr_57
    refine lv_aload_n hx hb dX14_error_114 rfl (lv_at hl 0 rfl) ?_
    refine va_callv (A0 := jA base) (H0 := s.heap) (va_runV (As := []) (rest := []) ⟨hx, hb, hml, hown, hts⟩ (uX14_endAnswer l dC dI ca base B hB hAp hB16 hB101 G0 H_56 r0) (cwV 0 hts (jgV (jWr_55 _ (List.mem_of_getElem? (i := 6) rfl)) (jWr_55 _ (List.mem_of_getElem? (i := 7) rfl)) (jWr_55 _ (List.mem_of_getElem? (i := 8) rfl)) (jWr_1 _ (List.mem_of_getElem? (i := 5) rfl)) (jWr_55 _ (List.mem_of_getElem? (i := 9) rfl))) rfl rfl rfl (by decide +kernel) ⟨by rw [← hR]; exact Nat.le_of_ble_eq_true rfl, by rw [← hR]; exact Nat.le_of_ble_eq_true rfl⟩) ⟨fun a U g mk q => by obtain ⟨q0, q1, q2, qK, q10, q11, q12⟩ := q; exact ⟨q0, q1, q2, jG.calling g mk a qK, q10, q11, q12⟩, hh_56.recv (C := RX14) (T := TX14) (N := 74) hB16 rfl (by decide) hg_r0 hK, fun U hU hW => ⟨rfl, hU, hh_56.2.1, hG.step hW hU hh_56.1, hg_r0, jP.nil, trivial⟩⟩ rfl rfl hl.1 rfl (lv_room (Nat.le_of_ble_eq_true rfl)) dX14_error_115 ⟨Nat.zero_le _, Nat.zero_le _⟩) hh_56.1 (fun q _ h => h) (fun q h => h) (fun u_58 t_58 H_58 locs_58 ht_58 hvm_58 hr_59 hb_58 hz_58 hk_58 hS_58 => ?_)
    rw [ht_58] at hb_58
    obtain ⟨hb_581, hb_582, hb_583, hb_584, hb_585⟩ := hb_58
    have hh_58 : jSt (dC, dI) B base G0 G0 EX14_error s.heap 0 0 [] [] [] H_58 locs_58 := ((hh_56.call hb_581 hb_582 hb_583 hb_584 hS_58 rfl (L1 := []) [] rfl rfl (M1 := []) [] rfl rfl (I1 := []) [] rfl rfl).more hb_585)
    clear hh_56 ht_58 hvm_58 hz_58 hk_58 hS_58 hb_581 hb_582 hb_583 hb_584 hb_585
    rw [hQ]
    exact W.vret hx hb hr (fun t ht hW => ⟨⟨(), rfl, trivial, hh_58.rt (M1 := []) [] rfl ht⟩, by rw [ht]; try exact hh_58.1.1, fun q h9 hq => by rw [ht]; try exact hh_58.1.2.1 q h9 hq⟩) hh_58.1.2.2 dX14_error_118
end
section
theorem dX14_placeOf_0 : decode cX14_placeOf 0 = .ok (.aload_n 0, 1) := by decide +kernel
theorem dX14_placeOf_1 : decode cX14_placeOf 1 = .ok (.iload_n 1, 1) := by decide +kernel
theorem dX14_placeOf_2 : decode cX14_placeOf 2 = .ok (.iload_n 2, 1) := by decide +kernel
theorem dX14_placeOf_3 : decode cX14_placeOf 3 = .ok (.invokestatic 541, 3) := by decide +kernel
theorem dX14_placeOf_6 : decode cX14_placeOf 6 = .ok (.istore 4, 2) := by decide +kernel
theorem dX14_placeOf_8 : decode cX14_placeOf 8 = .ok (.iload 4, 2) := by decide +kernel
theorem dX14_placeOf_10 : decode cX14_placeOf 10 = .ok (.ifCond .ge 5, 3) := by decide +kernel
theorem dX14_placeOf_13 : decode cX14_placeOf 13 = .ok (.iconst (-1), 1) := by decide +kernel
theorem dX14_placeOf_14 : decode cX14_placeOf 14 = .ok (.ireturn, 1) := by decide +kernel
theorem dX14_placeOf_15 : decode cX14_placeOf 15 = .ok (.iload 4, 2) := by decide +kernel
theorem dX14_placeOf_17 : decode cX14_placeOf 17 = .ok (.istore 5, 2) := by decide +kernel
theorem dX14_placeOf_19 : decode cX14_placeOf 19 = .ok (.iload 5, 2) := by decide +kernel
theorem dX14_placeOf_21 : decode cX14_placeOf 21 = .ok (.iload_n 1, 1) := by decide +kernel
theorem dX14_placeOf_22 : decode cX14_placeOf 22 = .ok (.if_icmp .ge 36, 3) := by decide +kernel
theorem dX14_placeOf_25 : decode cX14_placeOf 25 = .ok (.iload 5, 2) := by decide +kernel
theorem dX14_placeOf_27 : decode cX14_placeOf 27 = .ok (.iload 4, 2) := by decide +kernel
theorem dX14_placeOf_29 : decode cX14_placeOf 29 = .ok (.isub, 1) := by decide +kernel
theorem dX14_placeOf_30 : decode cX14_placeOf 30 = .ok (.iload_n 3, 1) := by decide +kernel
theorem dX14_placeOf_31 : decode cX14_placeOf 31 = .ok (.if_icmp .ge 27, 3) := by decide +kernel
theorem dX14_placeOf_34 : decode cX14_placeOf 34 = .ok (.aload_n 0, 1) := by decide +kernel
theorem dX14_placeOf_35 : decode cX14_placeOf 35 = .ok (.iload 5, 2) := by decide +kernel
theorem dX14_placeOf_37 : decode cX14_placeOf 37 = .ok (.iaload, 1) := by decide +kernel
theorem dX14_placeOf_38 : decode cX14_placeOf 38 = .ok (.bipush 10, 2) := by decide +kernel
theorem dX14_placeOf_40 : decode cX14_placeOf 40 = .ok (.if_icmp .eq 18, 3) := by decide +kernel
theorem dX14_placeOf_43 : decode cX14_placeOf 43 = .ok (.aload_n 0, 1) := by decide +kernel
theorem dX14_placeOf_44 : decode cX14_placeOf 44 = .ok (.iload 5, 2) := by decide +kernel
theorem dX14_placeOf_46 : decode cX14_placeOf 46 = .ok (.iaload, 1) := by decide +kernel
theorem dX14_placeOf_47 : decode cX14_placeOf 47 = .ok (.bipush 13, 2) := by decide +kernel
theorem dX14_placeOf_49 : decode cX14_placeOf 49 = .ok (.if_icmp .eq 9, 3) := by decide +kernel
theorem dX14_placeOf_52 : decode cX14_placeOf 52 = .ok (.iinc 5 1, 3) := by decide +kernel
theorem dX14_placeOf_55 : decode cX14_placeOf 55 = .ok (.goto (-36), 3) := by decide +kernel
theorem dX14_placeOf_58 : decode cX14_placeOf 58 = .ok (.iload 5, 2) := by decide +kernel
theorem dX14_placeOf_60 : decode cX14_placeOf 60 = .ok (.ireturn, 1) := by decide +kernel
theorem dX14_behindGaps_0 : decode cX14_behindGaps 0 = .ok (.iload_n 1, 1) := by decide +kernel
theorem dX14_behindGaps_1 : decode cX14_behindGaps 1 = .ok (.istore_n 3, 1) := by decide +kernel
theorem dX14_behindGaps_2 : decode cX14_behindGaps 2 = .ok (.iload_n 3, 1) := by decide +kernel
theorem dX14_behindGaps_3 : decode cX14_behindGaps 3 = .ok (.iload_n 2, 1) := by decide +kernel
theorem dX14_behindGaps_4 : decode cX14_behindGaps 4 = .ok (.if_icmp .ge 48, 3) := by decide +kernel
theorem dX14_behindGaps_7 : decode cX14_behindGaps 7 = .ok (.aload_n 0, 1) := by decide +kernel
theorem dX14_behindGaps_8 : decode cX14_behindGaps 8 = .ok (.iload_n 3, 1) := by decide +kernel
theorem dX14_behindGaps_9 : decode cX14_behindGaps 9 = .ok (.iaload, 1) := by decide +kernel
theorem dX14_behindGaps_10 : decode cX14_behindGaps 10 = .ok (.invokestatic 615, 3) := by decide +kernel
theorem dX14_behindGaps_13 : decode cX14_behindGaps 13 = .ok (.ifCond .eq 9, 3) := by decide +kernel
theorem dX14_behindGaps_16 : decode cX14_behindGaps 16 = .ok (.iinc 3 1, 3) := by decide +kernel
theorem dX14_behindGaps_19 : decode cX14_behindGaps 19 = .ok (.goto (-17), 3) := by decide +kernel
theorem dX14_behindGaps_22 : decode cX14_behindGaps 22 = .ok (.aload_n 0, 1) := by decide +kernel
theorem dX14_behindGaps_23 : decode cX14_behindGaps 23 = .ok (.iload_n 3, 1) := by decide +kernel
theorem dX14_behindGaps_24 : decode cX14_behindGaps 24 = .ok (.iload_n 2, 1) := by decide +kernel
theorem dX14_behindGaps_25 : decode cX14_behindGaps 25 = .ok (.invokestatic 608, 3) := by decide +kernel
theorem dX14_behindGaps_28 : decode cX14_behindGaps 28 = .ok (.ifCond .eq 22, 3) := by decide +kernel
theorem dX14_behindGaps_31 : decode cX14_behindGaps 31 = .ok (.aload_n 0, 1) := by decide +kernel
theorem dX14_behindGaps_32 : decode cX14_behindGaps 32 = .ok (.iload_n 3, 1) := by decide +kernel
theorem dX14_behindGaps_33 : decode cX14_behindGaps 33 = .ok (.iload_n 2, 1) := by decide +kernel
theorem dX14_behindGaps_34 : decode cX14_behindGaps 34 = .ok (.invokestatic 618, 3) := by decide +kernel
theorem dX14_behindGaps_37 : decode cX14_behindGaps 37 = .ok (.ifCond .lt 13, 3) := by decide +kernel
theorem dX14_behindGaps_40 : decode cX14_behindGaps 40 = .ok (.aload_n 0, 1) := by decide +kernel
theorem dX14_behindGaps_41 : decode cX14_behindGaps 41 = .ok (.iload_n 3, 1) := by decide +kernel
theorem dX14_behindGaps_42 : decode cX14_behindGaps 42 = .ok (.iload_n 2, 1) := by decide +kernel
theorem dX14_behindGaps_43 : decode cX14_behindGaps 43 = .ok (.invokestatic 618, 3) := by decide +kernel
theorem dX14_behindGaps_46 : decode cX14_behindGaps 46 = .ok (.istore_n 3, 1) := by decide +kernel
theorem dX14_behindGaps_47 : decode cX14_behindGaps 47 = .ok (.goto (-45), 3) := by decide +kernel
theorem dX14_behindGaps_50 : decode cX14_behindGaps 50 = .ok (.iload_n 3, 1) := by decide +kernel
theorem dX14_behindGaps_51 : decode cX14_behindGaps 51 = .ok (.ireturn, 1) := by decide +kernel
theorem dX14_behindGaps_52 : decode cX14_behindGaps 52 = .ok (.iload_n 2, 1) := by decide +kernel
theorem dX14_behindGaps_53 : decode cX14_behindGaps 53 = .ok (.ireturn, 1) := by decide +kernel
theorem dX14_sentenceEnd_0 : decode cX14_sentenceEnd 0 = .ok (.iload_n 1, 1) := by decide +kernel
theorem dX14_sentenceEnd_1 : decode cX14_sentenceEnd 1 = .ok (.istore_n 3, 1) := by decide +kernel
theorem dX14_sentenceEnd_2 : decode cX14_sentenceEnd 2 = .ok (.iload_n 3, 1) := by decide +kernel
theorem dX14_sentenceEnd_3 : decode cX14_sentenceEnd 3 = .ok (.iload_n 2, 1) := by decide +kernel
theorem dX14_sentenceEnd_4 : decode cX14_sentenceEnd 4 = .ok (.if_icmp .ge 72, 3) := by decide +kernel
theorem dX14_sentenceEnd_7 : decode cX14_sentenceEnd 7 = .ok (.aload_n 0, 1) := by decide +kernel
theorem dX14_sentenceEnd_8 : decode cX14_sentenceEnd 8 = .ok (.iload_n 3, 1) := by decide +kernel
theorem dX14_sentenceEnd_9 : decode cX14_sentenceEnd 9 = .ok (.iload_n 2, 1) := by decide +kernel
theorem dX14_sentenceEnd_10 : decode cX14_sentenceEnd 10 = .ok (.invokestatic 608, 3) := by decide +kernel
theorem dX14_sentenceEnd_13 : decode cX14_sentenceEnd 13 = .ok (.ifCond .eq 16, 3) := by decide +kernel
theorem dX14_sentenceEnd_16 : decode cX14_sentenceEnd 16 = .ok (.aload_n 0, 1) := by decide +kernel
theorem dX14_sentenceEnd_17 : decode cX14_sentenceEnd 17 = .ok (.iload_n 3, 1) := by decide +kernel
theorem dX14_sentenceEnd_18 : decode cX14_sentenceEnd 18 = .ok (.iload_n 2, 1) := by decide +kernel
theorem dX14_sentenceEnd_19 : decode cX14_sentenceEnd 19 = .ok (.invokestatic 618, 3) := by decide +kernel
theorem dX14_sentenceEnd_22 : decode cX14_sentenceEnd 22 = .ok (.istore_n 3, 1) := by decide +kernel
theorem dX14_sentenceEnd_23 : decode cX14_sentenceEnd 23 = .ok (.iload_n 3, 1) := by decide +kernel
theorem dX14_sentenceEnd_24 : decode cX14_sentenceEnd 24 = .ok (.ifCond .ge (-22), 3) := by decide +kernel
theorem dX14_sentenceEnd_27 : decode cX14_sentenceEnd 27 = .ok (.iconst (-1), 1) := by decide +kernel
theorem dX14_sentenceEnd_28 : decode cX14_sentenceEnd 28 = .ok (.ireturn, 1) := by decide +kernel
theorem dX14_sentenceEnd_29 : decode cX14_sentenceEnd 29 = .ok (.aload_n 0, 1) := by decide +kernel
theorem dX14_sentenceEnd_30 : decode cX14_sentenceEnd 30 = .ok (.iload_n 3, 1) := by decide +kernel
theorem dX14_sentenceEnd_31 : decode cX14_sentenceEnd 31 = .ok (.iaload, 1) := by decide +kernel
theorem dX14_sentenceEnd_32 : decode cX14_sentenceEnd 32 = .ok (.bipush 46, 2) := by decide +kernel
theorem dX14_sentenceEnd_34 : decode cX14_sentenceEnd 34 = .ok (.if_icmp .ne 36, 3) := by decide +kernel
theorem dX14_sentenceEnd_37 : decode cX14_sentenceEnd 37 = .ok (.iload_n 3, 1) := by decide +kernel
theorem dX14_sentenceEnd_38 : decode cX14_sentenceEnd 38 = .ok (.iconst 1, 1) := by decide +kernel
theorem dX14_sentenceEnd_39 : decode cX14_sentenceEnd 39 = .ok (.iadd, 1) := by decide +kernel
theorem dX14_sentenceEnd_40 : decode cX14_sentenceEnd 40 = .ok (.iload_n 2, 1) := by decide +kernel
theorem dX14_sentenceEnd_41 : decode cX14_sentenceEnd 41 = .ok (.if_icmp .eq 25, 3) := by decide +kernel
theorem dX14_sentenceEnd_44 : decode cX14_sentenceEnd 44 = .ok (.aload_n 0, 1) := by decide +kernel
theorem dX14_sentenceEnd_45 : decode cX14_sentenceEnd 45 = .ok (.iload_n 3, 1) := by decide +kernel
theorem dX14_sentenceEnd_46 : decode cX14_sentenceEnd 46 = .ok (.iconst 1, 1) := by decide +kernel
theorem dX14_sentenceEnd_47 : decode cX14_sentenceEnd 47 = .ok (.iadd, 1) := by decide +kernel
theorem dX14_sentenceEnd_48 : decode cX14_sentenceEnd 48 = .ok (.iaload, 1) := by decide +kernel
theorem dX14_sentenceEnd_49 : decode cX14_sentenceEnd 49 = .ok (.invokestatic 615, 3) := by decide +kernel
theorem dX14_sentenceEnd_52 : decode cX14_sentenceEnd 52 = .ok (.ifCond .ne 14, 3) := by decide +kernel
theorem dX14_sentenceEnd_55 : decode cX14_sentenceEnd 55 = .ok (.aload_n 0, 1) := by decide +kernel
theorem dX14_sentenceEnd_56 : decode cX14_sentenceEnd 56 = .ok (.iload_n 3, 1) := by decide +kernel
theorem dX14_sentenceEnd_57 : decode cX14_sentenceEnd 57 = .ok (.iconst 1, 1) := by decide +kernel
theorem dX14_sentenceEnd_58 : decode cX14_sentenceEnd 58 = .ok (.iadd, 1) := by decide +kernel
theorem dX14_sentenceEnd_59 : decode cX14_sentenceEnd 59 = .ok (.iload_n 2, 1) := by decide +kernel
theorem dX14_sentenceEnd_60 : decode cX14_sentenceEnd 60 = .ok (.invokestatic 608, 3) := by decide +kernel
theorem dX14_sentenceEnd_63 : decode cX14_sentenceEnd 63 = .ok (.ifCond .eq 7, 3) := by decide +kernel
theorem dX14_sentenceEnd_66 : decode cX14_sentenceEnd 66 = .ok (.iload_n 3, 1) := by decide +kernel
theorem dX14_sentenceEnd_67 : decode cX14_sentenceEnd 67 = .ok (.iconst 1, 1) := by decide +kernel
theorem dX14_sentenceEnd_68 : decode cX14_sentenceEnd 68 = .ok (.iadd, 1) := by decide +kernel
theorem dX14_sentenceEnd_69 : decode cX14_sentenceEnd 69 = .ok (.ireturn, 1) := by decide +kernel
theorem dX14_sentenceEnd_70 : decode cX14_sentenceEnd 70 = .ok (.iinc 3 1, 3) := by decide +kernel
theorem dX14_sentenceEnd_73 : decode cX14_sentenceEnd 73 = .ok (.goto (-71), 3) := by decide +kernel
theorem dX14_sentenceEnd_76 : decode cX14_sentenceEnd 76 = .ok (.iconst (-1), 1) := by decide +kernel
theorem dX14_sentenceEnd_77 : decode cX14_sentenceEnd 77 = .ok (.ireturn, 1) := by decide +kernel
end
section
theorem dX14_part_0 : decode cX14_part 0 = .ok (.aload_n 0, 1) := by decide +kernel
theorem dX14_part_1 : decode cX14_part 1 = .ok (.getfield 529, 3) := by decide +kernel
theorem dX14_part_4 : decode cX14_part 4 = .ok (.astore_n 1, 1) := by decide +kernel
theorem dX14_part_5 : decode cX14_part 5 = .ok (.aload_n 0, 1) := by decide +kernel
theorem dX14_part_6 : decode cX14_part 6 = .ok (.getfield 526, 3) := by decide +kernel
theorem dX14_part_9 : decode cX14_part 9 = .ok (.istore_n 2, 1) := by decide +kernel
theorem dX14_part_10 : decode cX14_part 10 = .ok (.aload_n 0, 1) := by decide +kernel
theorem dX14_part_11 : decode cX14_part 11 = .ok (.iconst 0, 1) := by decide +kernel
theorem dX14_part_12 : decode cX14_part 12 = .ok (.putfield 587, 3) := by decide +kernel
theorem dX14_part_15 : decode cX14_part 15 = .ok (.aload_n 1, 1) := by decide +kernel
theorem dX14_part_16 : decode cX14_part 16 = .ok (.iconst 0, 1) := by decide +kernel
theorem dX14_part_17 : decode cX14_part 17 = .ok (.iload_n 2, 1) := by decide +kernel
theorem dX14_part_18 : decode cX14_part 18 = .ok (.invokestatic 621, 3) := by decide +kernel
theorem dX14_part_21 : decode cX14_part 21 = .ok (.istore_n 3, 1) := by decide +kernel
theorem dX14_part_22 : decode cX14_part 22 = .ok (.iload_n 3, 1) := by decide +kernel
theorem dX14_part_23 : decode cX14_part 23 = .ok (.iload_n 2, 1) := by decide +kernel
theorem dX14_part_24 : decode cX14_part 24 = .ok (.if_icmp .ge 116, 3) := by decide +kernel
theorem dX14_part_27 : decode cX14_part 27 = .ok (.aload_n 0, 1) := by decide +kernel
theorem dX14_part_28 : decode cX14_part 28 = .ok (.getfield 587, 3) := by decide +kernel
theorem dX14_part_31 : decode cX14_part 31 = .ok (.istore 4, 2) := by decide +kernel
theorem dX14_part_33 : decode cX14_part 33 = .ok (.aload_n 0, 1) := by decide +kernel
theorem dX14_part_34 : decode cX14_part 34 = .ok (.dup, 1) := by decide +kernel
theorem dX14_part_35 : decode cX14_part 35 = .ok (.getfield 587, 3) := by decide +kernel
theorem dX14_part_38 : decode cX14_part 38 = .ok (.iconst 1, 1) := by decide +kernel
theorem dX14_part_39 : decode cX14_part 39 = .ok (.iadd, 1) := by decide +kernel
theorem dX14_part_40 : decode cX14_part 40 = .ok (.putfield 587, 3) := by decide +kernel
theorem dX14_part_43 : decode cX14_part 43 = .ok (.aload_n 0, 1) := by decide +kernel
theorem dX14_part_44 : decode cX14_part 44 = .ok (.getfield 596, 3) := by decide +kernel
theorem dX14_part_47 : decode cX14_part 47 = .ok (.iload 4, 2) := by decide +kernel
theorem dX14_part_49 : decode cX14_part 49 = .ok (.iload_n 3, 1) := by decide +kernel
theorem dX14_part_50 : decode cX14_part 50 = .ok (.iastore, 1) := by decide +kernel
theorem dX14_part_51 : decode cX14_part 51 = .ok (.aload_n 1, 1) := by decide +kernel
theorem dX14_part_52 : decode cX14_part 52 = .ok (.iload_n 3, 1) := by decide +kernel
theorem dX14_part_53 : decode cX14_part 53 = .ok (.iload_n 2, 1) := by decide +kernel
theorem dX14_part_54 : decode cX14_part 54 = .ok (.invokestatic 624, 3) := by decide +kernel
theorem dX14_part_57 : decode cX14_part 57 = .ok (.istore 5, 2) := by decide +kernel
theorem dX14_part_59 : decode cX14_part 59 = .ok (.aload_n 0, 1) := by decide +kernel
theorem dX14_part_60 : decode cX14_part 60 = .ok (.getfield 599, 3) := by decide +kernel
theorem dX14_part_63 : decode cX14_part 63 = .ok (.iload 4, 2) := by decide +kernel
theorem dX14_part_65 : decode cX14_part 65 = .ok (.iload 5, 2) := by decide +kernel
theorem dX14_part_67 : decode cX14_part 67 = .ok (.ifCond .ge 7, 3) := by decide +kernel
theorem dX14_part_70 : decode cX14_part 70 = .ok (.iconst 1, 1) := by decide +kernel
theorem dX14_part_71 : decode cX14_part 71 = .ok (.goto 4, 3) := by decide +kernel
theorem dX14_part_74 : decode cX14_part 74 = .ok (.iconst 0, 1) := by decide +kernel
theorem dX14_part_75 : decode cX14_part 75 = .ok (.iastore, 1) := by decide +kernel
theorem dX14_part_76 : decode cX14_part 76 = .ok (.aload_n 0, 1) := by decide +kernel
theorem dX14_part_77 : decode cX14_part 77 = .ok (.getfield 594, 3) := by decide +kernel
theorem dX14_part_80 : decode cX14_part 80 = .ok (.iload 4, 2) := by decide +kernel
theorem dX14_part_82 : decode cX14_part 82 = .ok (.iload 5, 2) := by decide +kernel
theorem dX14_part_84 : decode cX14_part 84 = .ok (.ifCond .ge 7, 3) := by decide +kernel
theorem dX14_part_87 : decode cX14_part 87 = .ok (.iload_n 2, 1) := by decide +kernel
theorem dX14_part_88 : decode cX14_part 88 = .ok (.goto 5, 3) := by decide +kernel
theorem dX14_part_91 : decode cX14_part 91 = .ok (.iload 5, 2) := by decide +kernel
theorem dX14_part_93 : decode cX14_part 93 = .ok (.iastore, 1) := by decide +kernel
theorem dX14_part_94 : decode cX14_part 94 = .ok (.aload_n 1, 1) := by decide +kernel
theorem dX14_part_95 : decode cX14_part 95 = .ok (.aload_n 0, 1) := by decide +kernel
theorem dX14_part_96 : decode cX14_part 96 = .ok (.getfield 594, 3) := by decide +kernel
theorem dX14_part_99 : decode cX14_part 99 = .ok (.iload 4, 2) := by decide +kernel
theorem dX14_part_101 : decode cX14_part 101 = .ok (.iaload, 1) := by decide +kernel
theorem dX14_part_102 : decode cX14_part 102 = .ok (.iload_n 2, 1) := by decide +kernel
theorem dX14_part_103 : decode cX14_part 103 = .ok (.invokestatic 621, 3) := by decide +kernel
theorem dX14_part_106 : decode cX14_part 106 = .ok (.istore_n 3, 1) := by decide +kernel
theorem dX14_part_107 : decode cX14_part 107 = .ok (.iload 4, 2) := by decide +kernel
theorem dX14_part_109 : decode cX14_part 109 = .ok (.bipush 39, 2) := by decide +kernel
theorem dX14_part_111 : decode cX14_part 111 = .ok (.if_icmp .ne 26, 3) := by decide +kernel
theorem dX14_part_114 : decode cX14_part 114 = .ok (.iload_n 3, 1) := by decide +kernel
theorem dX14_part_115 : decode cX14_part 115 = .ok (.iload_n 2, 1) := by decide +kernel
theorem dX14_part_116 : decode cX14_part 116 = .ok (.if_icmp .ge 21, 3) := by decide +kernel
theorem dX14_part_119 : decode cX14_part 119 = .ok (.aload_n 0, 1) := by decide +kernel
theorem dX14_part_120 : decode cX14_part 120 = .ok (.getfield 599, 3) := by decide +kernel
theorem dX14_part_123 : decode cX14_part 123 = .ok (.iload 4, 2) := by decide +kernel
theorem dX14_part_125 : decode cX14_part 125 = .ok (.iconst 2, 1) := by decide +kernel
theorem dX14_part_126 : decode cX14_part 126 = .ok (.iastore, 1) := by decide +kernel
theorem dX14_part_127 : decode cX14_part 127 = .ok (.aload_n 0, 1) := by decide +kernel
theorem dX14_part_128 : decode cX14_part 128 = .ok (.getfield 594, 3) := by decide +kernel
theorem dX14_part_131 : decode cX14_part 131 = .ok (.iload 4, 2) := by decide +kernel
theorem dX14_part_133 : decode cX14_part 133 = .ok (.iload_n 2, 1) := by decide +kernel
theorem dX14_part_134 : decode cX14_part 134 = .ok (.iastore, 1) := by decide +kernel
theorem dX14_part_135 : decode cX14_part 135 = .ok (.iload_n 2, 1) := by decide +kernel
theorem dX14_part_136 : decode cX14_part 136 = .ok (.istore_n 3, 1) := by decide +kernel
theorem dX14_part_137 : decode cX14_part 137 = .ok (.goto (-115), 3) := by decide +kernel
theorem dX14_part_140 : decode cX14_part 140 = .ok (.return_, 1) := by decide +kernel
end
section
section
variable {p : Program} {l : Launch} {e : Env} {R : Room} {s : State} {m : MethodId} {args : Array Value} {below : List Frame} {meth : Method} {c : Code} {H : Heap} {locs : List Loc} {cells slots : Nat} {Q : State → Prop}
variable {cc : ByteArray} {pc : Nat} {ls : Array Slot} {rest : List Value}
theorem j7_nst (hexec : p.tables.exec = Jvm.exec) (hb : c.code = cc) {i nL : Nat} {lv lv' : List (Nat × Value)} (hdg : decode cc pc = .ok (.astore i, 2)) (h : lv_has ls nL lv) (hn : i < nL) (hl : (i, Value.null) :: lv.filter (fun q => !(q.1 == i) && !(q.1 + 1 == i && q.2.category == 2)) = lv')
    (kk : ∀ ls' : Array Slot, lv_has ls' nL lv' → W p l e R s m args below meth c H locs cells slots Q (F0 m (pc + 2) ls' rest)) : W p l e R s m args below meth c H locs cells slots Q (F0 m pc ls (.null :: rest)) := by
  obtain ⟨ls', e', h'⟩ := lv_store1 (v := .null) h hn rfl
  intro T hT X
  obtain ⟨t, a, b⟩ := kk ls' (hl ▸ h') T hT X
  refine ⟨t, ?_, b⟩
  jvm_step X.here [X.here.top, ↓top_set X.here.top, hexec, hb, hdg, e', Value.isRef]
  exact a
end
section
variable {p : Program} {l : Launch} {e : Env} {R : Room} {s : State} {m : MethodId} {args : Array Value} {below : List Frame} {meth : Method} {c : Code} {H : Heap} {locs : List Loc} {cells slots : Nat} {Q : State → Prop}
variable {cc : ByteArray} {pc : Nat} {ls : Array Slot} {rest : List Value}
theorem j7_nld (hexec : p.tables.exec = Jvm.exec) (hb : c.code = cc) {i : Nat} (hdg : decode cc pc = .ok (.aload i, 2)) (hl : ls[i]? = some (.val .null))
    (k : W p l e R s m args below meth c H locs cells slots Q (F0 m (pc + 2) ls (.null :: rest))) : W p l e R s m args below meth c H locs cells slots Q (F0 m pc ls (rest)) := by
  intro T hT X
  obtain ⟨t, a, b⟩ := k T hT X
  refine ⟨t, ?_, b⟩
  jvm_step X.here [X.here.top, hexec, hb, hdg, hl, Value.isRef]
  exact a
end
theorem dX14_documentOf_0 : decode cX14_documentOf 0 = .ok (.aload_n 0, 1) := by decide +kernel
theorem dX14_documentOf_1 : decode cX14_documentOf 1 = .ok (.iload_n 1, 1) := by decide +kernel
theorem dX14_documentOf_2 : decode cX14_documentOf 2 = .ok (.invokevirtual 368, 3) := by decide +kernel
theorem dX14_documentOf_5 : decode cX14_documentOf 5 = .ok (.ifCond .ne 5, 3) := by decide +kernel
theorem dX14_documentOf_8 : decode cX14_documentOf 8 = .ok (.aconst_null, 1) := by decide +kernel
theorem dX14_documentOf_9 : decode cX14_documentOf 9 = .ok (.areturn, 1) := by decide +kernel
theorem dX14_documentOf_10 : decode cX14_documentOf 10 = .ok (.iconst 0, 1) := by decide +kernel
theorem dX14_documentOf_11 : decode cX14_documentOf 11 = .ok (.istore_n 2, 1) := by decide +kernel
theorem dX14_documentOf_12 : decode cX14_documentOf 12 = .ok (.iload_n 2, 1) := by decide +kernel
theorem dX14_documentOf_13 : decode cX14_documentOf 13 = .ok (.aload_n 0, 1) := by decide +kernel
theorem dX14_documentOf_14 : decode cX14_documentOf 14 = .ok (.getfield 505, 3) := by decide +kernel
theorem dX14_documentOf_17 : decode cX14_documentOf 17 = .ok (.if_icmp .ge 104, 3) := by decide +kernel
theorem dX14_documentOf_20 : decode cX14_documentOf 20 = .ok (.aload_n 0, 1) := by decide +kernel
theorem dX14_documentOf_21 : decode cX14_documentOf 21 = .ok (.getfield 74, 3) := by decide +kernel
theorem dX14_documentOf_24 : decode cX14_documentOf 24 = .ok (.iload_n 2, 1) := by decide +kernel
theorem dX14_documentOf_25 : decode cX14_documentOf 25 = .ok (.aaload, 1) := by decide +kernel
theorem dX14_documentOf_26 : decode cX14_documentOf 26 = .ok (.astore_n 3, 1) := by decide +kernel
theorem dX14_documentOf_27 : decode cX14_documentOf 27 = .ok (.aload_n 3, 1) := by decide +kernel
theorem dX14_documentOf_28 : decode cX14_documentOf 28 = .ok (.getfield 508, 3) := by decide +kernel
theorem dX14_documentOf_31 : decode cX14_documentOf 31 = .ok (.aload_n 0, 1) := by decide +kernel
theorem dX14_documentOf_32 : decode cX14_documentOf 32 = .ok (.getfield 55, 3) := by decide +kernel
theorem dX14_documentOf_35 : decode cX14_documentOf 35 = .ok (.iload_n 1, 1) := by decide +kernel
theorem dX14_documentOf_36 : decode cX14_documentOf 36 = .ok (.iaload, 1) := by decide +kernel
theorem dX14_documentOf_37 : decode cX14_documentOf 37 = .ok (.aload_n 0, 1) := by decide +kernel
theorem dX14_documentOf_38 : decode cX14_documentOf 38 = .ok (.getfield 52, 3) := by decide +kernel
theorem dX14_documentOf_41 : decode cX14_documentOf 41 = .ok (.iload_n 1, 1) := by decide +kernel
theorem dX14_documentOf_42 : decode cX14_documentOf 42 = .ok (.iaload, 1) := by decide +kernel
theorem dX14_documentOf_43 : decode cX14_documentOf 43 = .ok (.isub, 1) := by decide +kernel
theorem dX14_documentOf_44 : decode cX14_documentOf 44 = .ok (.if_icmp .ne 7, 3) := by decide +kernel
theorem dX14_documentOf_47 : decode cX14_documentOf 47 = .ok (.iconst 1, 1) := by decide +kernel
theorem dX14_documentOf_48 : decode cX14_documentOf 48 = .ok (.goto 4, 3) := by decide +kernel
theorem dX14_documentOf_51 : decode cX14_documentOf 51 = .ok (.iconst 0, 1) := by decide +kernel
theorem dX14_documentOf_52 : decode cX14_documentOf 52 = .ok (.istore 4, 2) := by decide +kernel
theorem dX14_documentOf_54 : decode cX14_documentOf 54 = .ok (.iconst 0, 1) := by decide +kernel
theorem dX14_documentOf_55 : decode cX14_documentOf 55 = .ok (.istore 5, 2) := by decide +kernel
theorem dX14_documentOf_57 : decode cX14_documentOf 57 = .ok (.iload 5, 2) := by decide +kernel
theorem dX14_documentOf_59 : decode cX14_documentOf 59 = .ok (.aload_n 3, 1) := by decide +kernel
theorem dX14_documentOf_60 : decode cX14_documentOf 60 = .ok (.getfield 508, 3) := by decide +kernel
theorem dX14_documentOf_63 : decode cX14_documentOf 63 = .ok (.if_icmp .ge 45, 3) := by decide +kernel
theorem dX14_documentOf_66 : decode cX14_documentOf 66 = .ok (.iload 4, 2) := by decide +kernel
theorem dX14_documentOf_68 : decode cX14_documentOf 68 = .ok (.ifCond .eq 40, 3) := by decide +kernel
theorem dX14_documentOf_71 : decode cX14_documentOf 71 = .ok (.aload_n 3, 1) := by decide +kernel
theorem dX14_documentOf_72 : decode cX14_documentOf 72 = .ok (.getfield 511, 3) := by decide +kernel
theorem dX14_documentOf_75 : decode cX14_documentOf 75 = .ok (.iload 5, 2) := by decide +kernel
theorem dX14_documentOf_77 : decode cX14_documentOf 77 = .ok (.iaload, 1) := by decide +kernel
theorem dX14_documentOf_78 : decode cX14_documentOf 78 = .ok (.aload_n 0, 1) := by decide +kernel
theorem dX14_documentOf_79 : decode cX14_documentOf 79 = .ok (.getfield 65, 3) := by decide +kernel
theorem dX14_documentOf_82 : decode cX14_documentOf 82 = .ok (.aload_n 0, 1) := by decide +kernel
theorem dX14_documentOf_83 : decode cX14_documentOf 83 = .ok (.getfield 52, 3) := by decide +kernel
theorem dX14_documentOf_86 : decode cX14_documentOf 86 = .ok (.iload_n 1, 1) := by decide +kernel
theorem dX14_documentOf_87 : decode cX14_documentOf 87 = .ok (.iaload, 1) := by decide +kernel
theorem dX14_documentOf_88 : decode cX14_documentOf 88 = .ok (.iload 5, 2) := by decide +kernel
theorem dX14_documentOf_90 : decode cX14_documentOf 90 = .ok (.iadd, 1) := by decide +kernel
theorem dX14_documentOf_91 : decode cX14_documentOf 91 = .ok (.iaload, 1) := by decide +kernel
theorem dX14_documentOf_92 : decode cX14_documentOf 92 = .ok (.if_icmp .ne 7, 3) := by decide +kernel
theorem dX14_documentOf_95 : decode cX14_documentOf 95 = .ok (.iconst 1, 1) := by decide +kernel
theorem dX14_documentOf_96 : decode cX14_documentOf 96 = .ok (.goto 4, 3) := by decide +kernel
theorem dX14_documentOf_99 : decode cX14_documentOf 99 = .ok (.iconst 0, 1) := by decide +kernel
theorem dX14_documentOf_100 : decode cX14_documentOf 100 = .ok (.istore 4, 2) := by decide +kernel
theorem dX14_documentOf_102 : decode cX14_documentOf 102 = .ok (.iinc 5 1, 3) := by decide +kernel
theorem dX14_documentOf_105 : decode cX14_documentOf 105 = .ok (.goto (-48), 3) := by decide +kernel
theorem dX14_documentOf_108 : decode cX14_documentOf 108 = .ok (.iload 4, 2) := by decide +kernel
theorem dX14_documentOf_110 : decode cX14_documentOf 110 = .ok (.ifCond .eq 5, 3) := by decide +kernel
theorem dX14_documentOf_113 : decode cX14_documentOf 113 = .ok (.aload_n 3, 1) := by decide +kernel
theorem dX14_documentOf_114 : decode cX14_documentOf 114 = .ok (.areturn, 1) := by decide +kernel
theorem dX14_documentOf_115 : decode cX14_documentOf 115 = .ok (.iinc 2 1, 3) := by decide +kernel
theorem dX14_documentOf_118 : decode cX14_documentOf 118 = .ok (.goto (-106), 3) := by decide +kernel
theorem dX14_documentOf_121 : decode cX14_documentOf 121 = .ok (.aconst_null, 1) := by decide +kernel
theorem dX14_documentOf_122 : decode cX14_documentOf 122 = .ok (.areturn, 1) := by decide +kernel
theorem dX14_settleChecks_0 : decode cX14_settleChecks 0 = .ok (.aload_n 1, 1) := by decide +kernel
theorem dX14_settleChecks_1 : decode cX14_settleChecks 1 = .ok (.invokestatic 534, 3) := by decide +kernel
theorem dX14_settleChecks_4 : decode cX14_settleChecks 4 = .ok (.aload_n 1, 1) := by decide +kernel
theorem dX14_settleChecks_5 : decode cX14_settleChecks 5 = .ok (.getfield 531, 3) := by decide +kernel
theorem dX14_settleChecks_8 : decode cX14_settleChecks 8 = .ok (.iload_n 2, 1) := by decide +kernel
theorem dX14_settleChecks_9 : decode cX14_settleChecks 9 = .ok (.if_icmp .le 8, 3) := by decide +kernel
theorem dX14_settleChecks_12 : decode cX14_settleChecks 12 = .ok (.aload_n 1, 1) := by decide +kernel
theorem dX14_settleChecks_13 : decode cX14_settleChecks 13 = .ok (.iload_n 2, 1) := by decide +kernel
theorem dX14_settleChecks_14 : decode cX14_settleChecks 14 = .ok (.putfield 531, 3) := by decide +kernel
theorem dX14_settleChecks_17 : decode cX14_settleChecks 17 = .ok (.iconst 0, 1) := by decide +kernel
theorem dX14_settleChecks_18 : decode cX14_settleChecks 18 = .ok (.istore_n 3, 1) := by decide +kernel
theorem dX14_settleChecks_19 : decode cX14_settleChecks 19 = .ok (.iload_n 3, 1) := by decide +kernel
theorem dX14_settleChecks_20 : decode cX14_settleChecks 20 = .ok (.iconst 2, 1) := by decide +kernel
theorem dX14_settleChecks_21 : decode cX14_settleChecks 21 = .ok (.if_icmp .ge 36, 3) := by decide +kernel
theorem dX14_settleChecks_24 : decode cX14_settleChecks 24 = .ok (.aload_n 0, 1) := by decide +kernel
theorem dX14_settleChecks_25 : decode cX14_settleChecks 25 = .ok (.getfield 129, 3) := by decide +kernel
theorem dX14_settleChecks_28 : decode cX14_settleChecks 28 = .ok (.iload_n 3, 1) := by decide +kernel
theorem dX14_settleChecks_29 : decode cX14_settleChecks 29 = .ok (.aaload, 1) := by decide +kernel
theorem dX14_settleChecks_30 : decode cX14_settleChecks 30 = .ok (.aload_n 1, 1) := by decide +kernel
theorem dX14_settleChecks_31 : decode cX14_settleChecks 31 = .ok (.if_acmp .ne 20, 3) := by decide +kernel
theorem dX14_settleChecks_34 : decode cX14_settleChecks 34 = .ok (.aload_n 0, 1) := by decide +kernel
theorem dX14_settleChecks_35 : decode cX14_settleChecks 35 = .ok (.getfield 132, 3) := by decide +kernel
theorem dX14_settleChecks_38 : decode cX14_settleChecks 38 = .ok (.iload_n 3, 1) := by decide +kernel
theorem dX14_settleChecks_39 : decode cX14_settleChecks 39 = .ok (.iaload, 1) := by decide +kernel
theorem dX14_settleChecks_40 : decode cX14_settleChecks 40 = .ok (.iload_n 2, 1) := by decide +kernel
theorem dX14_settleChecks_41 : decode cX14_settleChecks 41 = .ok (.if_icmp .lt 10, 3) := by decide +kernel
theorem dX14_settleChecks_44 : decode cX14_settleChecks 44 = .ok (.aload_n 0, 1) := by decide +kernel
theorem dX14_settleChecks_45 : decode cX14_settleChecks 45 = .ok (.getfield 129, 3) := by decide +kernel
theorem dX14_settleChecks_48 : decode cX14_settleChecks 48 = .ok (.iload_n 3, 1) := by decide +kernel
theorem dX14_settleChecks_49 : decode cX14_settleChecks 49 = .ok (.aconst_null, 1) := by decide +kernel
theorem dX14_settleChecks_50 : decode cX14_settleChecks 50 = .ok (.aastore, 1) := by decide +kernel
theorem dX14_settleChecks_51 : decode cX14_settleChecks 51 = .ok (.iinc 3 1, 3) := by decide +kernel
theorem dX14_settleChecks_54 : decode cX14_settleChecks 54 = .ok (.goto (-35), 3) := by decide +kernel
theorem dX14_settleChecks_57 : decode cX14_settleChecks 57 = .ok (.return_, 1) := by decide +kernel
end
section
theorem dX14_modified_0 : decode cX14_modified 0 = .ok (.iconst 0, 1) := by decide +kernel
theorem dX14_modified_1 : decode cX14_modified 1 = .ok (.istore_n 2, 1) := by decide +kernel
theorem dX14_modified_2 : decode cX14_modified 2 = .ok (.iload_n 2, 1) := by decide +kernel
theorem dX14_modified_3 : decode cX14_modified 3 = .ok (.aload_n 0, 1) := by decide +kernel
theorem dX14_modified_4 : decode cX14_modified 4 = .ok (.getfield 711, 3) := by decide +kernel
theorem dX14_modified_7 : decode cX14_modified 7 = .ok (.if_icmp .ge 34, 3) := by decide +kernel
theorem dX14_modified_10 : decode cX14_modified 10 = .ok (.aload_n 0, 1) := by decide +kernel
theorem dX14_modified_11 : decode cX14_modified 11 = .ok (.getfield 91, 3) := by decide +kernel
theorem dX14_modified_14 : decode cX14_modified 14 = .ok (.iload_n 2, 1) := by decide +kernel
theorem dX14_modified_15 : decode cX14_modified 15 = .ok (.aaload, 1) := by decide +kernel
theorem dX14_modified_16 : decode cX14_modified 16 = .ok (.aload_n 1, 1) := by decide +kernel
theorem dX14_modified_17 : decode cX14_modified 17 = .ok (.if_acmp .ne 18, 3) := by decide +kernel
theorem dX14_modified_20 : decode cX14_modified 20 = .ok (.aload_n 0, 1) := by decide +kernel
theorem dX14_modified_21 : decode cX14_modified 21 = .ok (.iload_n 2, 1) := by decide +kernel
theorem dX14_modified_22 : decode cX14_modified 22 = .ok (.invokevirtual 718, 3) := by decide +kernel
theorem dX14_modified_25 : decode cX14_modified 25 = .ok (.aload_n 0, 1) := by decide +kernel
theorem dX14_modified_26 : decode cX14_modified 26 = .ok (.ldc_w 721, 3) := by decide +kernel
theorem dX14_modified_29 : decode cX14_modified 29 = .ok (.invokevirtual 425, 3) := by decide +kernel
theorem dX14_modified_32 : decode cX14_modified 32 = .ok (.goto (-30), 3) := by decide +kernel
theorem dX14_modified_35 : decode cX14_modified 35 = .ok (.iinc 2 1, 3) := by decide +kernel
theorem dX14_modified_38 : decode cX14_modified 38 = .ok (.goto (-36), 3) := by decide +kernel
theorem dX14_modified_41 : decode cX14_modified 41 = .ok (.return_, 1) := by decide +kernel
def EX14_modified : List (Nat × Nat) := [(16, 3), (16, 4), (16, 6), (16, 36), (16, 37), (16, 39), (16, 40), (16, 48), (101, 0), (103, 0), (202, 0), (203, 0), (204, 0), (206, 0)]
set_option maxHeartbeats 4000000 in
set_option maxRecDepth 20000 in
theorem uX14_modified (l : Launch) (dC : Nat → ClassId) (dI : Nat → Nat → Nat) (ca : Nat → ClassId) (base : Nat) (B : jF) (hB : jBok B) (hAp : jAp (dC, dI)) (hB14 : ∀ n G a H, B 14 n G a H ↔ jOb (dC, dI) 14 11 (F14 n G) a H) (hB16 : ∀ n G a H, B 16 n G a H ↔ jOb (dC, dI) 16 74 (F16 n G) a H) (hB101 : ∀ n G a H, B 101 n G a H ↔ jAr (dC, dI) (ca 1) (fun j z => True) n a H) (hB103 : ∀ n G a H, B 103 n G a H ↔ jAr (dC, dI) (ca 3) (fun j z => (z = 0 ∨ z = 1)) n a H) (hB202 : ∀ n G a H, B 202 n G a H ↔ jAq (dC, dI) (ca 4) (jQn 14 0) n G a H) (hB203 : ∀ n G a H, B 203 n G a H ↔ jAr (dC, dI) (ca 1) (fun j z => -3300 ≤ z.toInt ∧ z.toInt ≤ 20) n a H) (hB204 : ∀ n G a H, B 204 n G a H ↔ jAr (dC, dI) (ca 1) (fun j z => -3100 ≤ z.toInt ∧ z.toInt ≤ 3100) n a H) (hB206 : ∀ n G a H, B 206 n G a H ↔ jAr (dC, dI) (ca 1) (fun j z => 0 ≤ z.toInt ∧ z.toInt ≤ 40) n a H) (G0 : jT) (H0 : Heap) (r0 : Nat) (r1 : Nat) : Met l yX14_modified (jw yX14_modified cX14_modified 3 none) ({ frames := 15, cells := 0, slots := 0, locals := 526 }) (va_Pc [.ref r0, .ref r1] (fun U => U.heap = H0 ∧ jX B base G0 [] H0 ∧ jG dC dI ca base U ∧ jK2 dC dI ca U ∧ G0 r1 = some (14, 0) ∧ G0 r0 = some (16, 0) ∧ jP (dC, dI) G0 H0 [] ∧ True)) (va_Qv (S := Unit) (fun u => True) (fun u t => jRt (dC, dI) B base G0 EX14_modified H0 [] t.heap) (jA base)) 0 0 (jA base) := by
  refine Met.ofW (cc := cX14_modified) (maxL := 3) (ret := none) (by decide) rfl ?_
  intro p e s m args below meth c s₁ Bd hml hv
  obtain ⟨rfl, hH0, hX, hG, hK2, hg_r1, hg_r0, hP0, hp0⟩ := hv
  have hK := hG.1
  have hx := Bd.exec
  have hb := Bd.bytes
  have hr := Bd.returns
  have hts := atoms_spec (ws := (jw yX14_modified cX14_modified 3 none)) Bd.pre
  have htw : ∀ w ∈ jWl, w.before _ s = true := fun w h => hts w (List.mem_cons_of_mem _ h)
  have hown : s.vm.findClass RX14 = some m.cls := findClass_of_methodNamed Bd.named
  have hlocks := Bd.notSynchronized
  obtain ⟨Q, hQ⟩ : ∃ Q, Q = MQ below (va_Qv (S := Unit) (fun u => True) (fun u t => jRt (dC, dI) B base G0 EX14_modified H0 [] t.heap) (jA base)) ([.ref r0, .ref r1] : List Value).toArray s 0 0 (jA base) := ⟨_, rfl⟩
  rw [← hQ]
  have hl := lv_entry ([.ref r0, .ref r1]) (n := 3) (Nat.le_of_ble_eq_true rfl)
  rw [lg_entry_eq]
  generalize (lg_sl ([.ref r0, .ref r1]) ++ List.replicate (3 - (lg_sl ([.ref r0, .ref r1])).length) Slot.unset).toArray = ls at hl ⊢
  have hl : lv_has ls 3 [(0, .ref r0), (1, .ref r1)] := hl
  generalize hR : (headSpec (jw yX14_modified cX14_modified 3 none) ({ frames := 15, cells := 0, slots := 0, locals := 526 })).room = R
  subst hH0
  have hh : jSt (dC, dI) B base G0 G0 EX14_modified s.heap 0 0 [] [] [] s.heap [] := jSt.start hX hP0 jMc.nil jIs.nil
  clear hX hP0
  have hkm32801 : ((-32801) : Int32).toInt = (-32801) := by decide
  have hk0 : (0 : Int32).toInt = 0 := by decide
  have hk1 : (1 : Int32).toInt = 1 := by decide
  have hly_16_48 := htw (u_lay RX14 TX14 48) (jWc_wsX140 _ (u_in_lay (by decide)))
  have hly_16_49 := htw (u_lay RX14 TX14 49) (jWc_wsX140 _ (u_in_lay (by decide)))
  have hlk_711 := (htw (.fieldLink RX14 711 "ProofServerModel" "waits" "I") (jWr_58 _ (List.mem_of_getElem? (i := 11) rfl)))
  have hlk_91 := (htw (.fieldLink RX14 91 "ProofServerModel" "waitOf" "[LProofServerModel$Document;") (jWr_12 _ (List.mem_of_getElem? (i := 0) rfl)))
  have hcs_721 := htw (.constant RX14 721 (-32801)) (jWr_74 _ (List.mem_of_getElem? (i := 2) rfl))
  refine lv_iconst (v := 0) hx hb dX14_modified_0 (by decide) ?_
  refine lv_istore_n (lv' := [(2, .int 0), (0, .ref r0), (1, .ref r1)]) hx hb dX14_modified_1 rfl hl (by decide) rfl (fun ls hl => ?_)
  have L2 : ∀ (N : Nat) (v2_1 : Int32) (ww_1 : Int32) (H_1 : Heap) (locs_1 : List Loc), jSt (dC, dI) B base G0 G0 EX14_modified s.heap 0 0 [(r0, 16, 48, .int ww_1)] [] [] H_1 locs_1 → (0 ≤ v2_1.toInt ∧ v2_1.toInt ≤ ww_1.toInt ∧ ww_1.toInt ≤ 12) → (ww_1.toInt - v2_1.toInt : Int) < N → ∀ ls : Array Slot, lv_has ls 3 [(0, .ref r0), (1, .ref r1), (2, .int v2_1)] → W p l e R s m ([.ref r0, .ref r1] : List Value).toArray below meth c H_1 locs_1 0 0 Q (F0 m 2 ls []) := by
    intro N
    induction N with
    | zero => intro v2_1 ww_1 H_1 locs_1 hh_1  hi_1 hm; exact absurd hm (by omega)
    | succ N L2 =>
      intro v2_1 ww_1 H_1 locs_1 hh_1  hi_1 hm_1 ls hl
      obtain ⟨hi_1_0, hi_1_1, hi_1_2⟩ := hi_1
      refine lv_iload_n hx hb dX14_modified_2 rfl (lv_at hl 2 rfl) ?_
      refine lv_aload_n hx hb dX14_modified_3 rfl (lv_at hl 0 rfl) ?_
      refine j7_read hx hb hown hK (C := RX14) (T := TX14) (N := 74) rfl hly_16_48 hlk_711 (hh_1.at 0 rfl) dX14_modified_4 ?_
      refine lv_icmp_ge (tgt := 41) hx hb dX14_modified_7 (by decide) (fun c_2 => ?_) (fun c_2 => ?_)
      · skip
        have c_2' : v2_1.toInt ≥ ww_1.toInt := jb_ge (rfl) (rfl) c_2
        rw [hQ]
        exact W.vret hx hb hr (fun t ht hW => ⟨⟨(), rfl, trivial, hh_1.rt (M1 := []) [] rfl ht⟩, by rw [ht]; try exact hh_1.1.1, fun q h9 hq => by rw [ht]; try exact hh_1.1.2.1 q h9 hq⟩) hh_1.1.2.2 dX14_modified_41
      · skip
        have c_2' : v2_1.toInt < ww_1.toInt := jb_ge_n (rfl) (rfl) c_2
        refine lv_aload_n hx hb dX14_modified_10 rfl (lv_at hl 0 rfl) ?_
        obtain ⟨v_3, hv_3, hh_4⟩ := hh_1.pin (C := RX14) (T := TX14) (N := 74) hB16 rfl (by decide) hg_r0 (i := 49) (by decide) rfl
        clear hh_1
        obtain ⟨waitOf_5, rfl, hg_waitOf_5⟩ := hv_3
        refine j7_read hx hb hown hK (C := RX14) (T := TX14) (N := 74) rfl hly_16_49 hlk_91 (hh_4.at 0 rfl) dX14_modified_11 ?_
        refine lv_iload_n hx hb dX14_modified_14 rfl (lv_at hl 2 rfl) ?_
        refine j7_qald hx hb hK2 hh_4 hB202 0 rfl (by decide) hg_waitOf_5 (x := v2_1.toInt) (rfl) (by omega) dX14_modified_15 (fun o_6 ho_6 => ?_)
        rcases ho_6 with rfl | ⟨el_7, rfl, hg_el_7⟩
        · simp only [va_rf]
          refine lv_aload_n hx hb dX14_modified_16 rfl (lv_at hl 1 rfl) ?_
          refine lv_acmp_ne (rx := none) (ry := (some r1)) (tgt := 35) hx hb dX14_modified_17 (by decide) (fun c_8 => ?_) (fun c_8 => ?_)
          · skip
            obtain ⟨z_9, ez_9⟩ : ∃ y : Int32, y = v2_1 + 1 := ⟨_, rfl⟩
            refine lv_iinc (v := z_9) (lv' := [(2, .int z_9), (0, .ref r0), (1, .ref r1)]) hx hb dX14_modified_35 hl (k := 2) rfl (by rw [ez_9]; rfl) (by decide) rfl (fun ls hl => ?_)
            have hz_9 : z_9.toInt = v2_1.toInt + 1 := by rw [ez_9]; exact jb_iadd2 (rfl) (by decide) (by omega)
            refine lv_goto (tgt := 2) hx hb dX14_modified_38 (by decide) ?_
            exact L2 z_9 ww_1 _ _ (hh_4.sub (L1 := [(r0, 16, 48, .int ww_1)]) [1] rfl (M1 := []) [] rfl (I1 := []) [] rfl) (by first | omega | (refine ⟨?_, ?_, ?_⟩ <;> (first | omega | rfl | assumption | decide | exact Or.inl rfl | exact Or.inr rfl | (simp only; omega)))) (by omega) _ (lv_sub hl [1, 2, 0] rfl)
          · skip
            cases c_8
        · simp only [va_rf]
          refine lv_aload_n hx hb dX14_modified_16 rfl (lv_at hl 1 rfl) ?_
          refine lv_acmp_ne (rx := (some el_7)) (ry := (some r1)) (tgt := 35) hx hb dX14_modified_17 (by decide) (fun c_10 => ?_) (fun c_10 => ?_)
          · skip
            obtain ⟨z_11, ez_11⟩ : ∃ y : Int32, y = v2_1 + 1 := ⟨_, rfl⟩
            refine lv_iinc (v := z_11) (lv' := [(2, .int z_11), (0, .ref r0), (1, .ref r1)]) hx hb dX14_modified_35 hl (k := 2) rfl (by rw [ez_11]; rfl) (by decide) rfl (fun ls hl => ?_)
            have hz_11 : z_11.toInt = v2_1.toInt + 1 := by rw [ez_11]; exact jb_iadd2 (rfl) (by decide) (by omega)
            refine lv_goto (tgt := 2) hx hb dX14_modified_38 (by decide) ?_
            exact L2 z_11 ww_1 _ _ (hh_4.sub (L1 := [(r0, 16, 48, .int ww_1)]) [1] rfl (M1 := []) [] rfl (I1 := []) [] rfl) (by first | omega | (refine ⟨?_, ?_, ?_⟩ <;> (first | omega | rfl | assumption | decide | exact Or.inl rfl | exact Or.inr rfl | (simp only; omega)))) (by omega) _ (lv_sub hl [1, 2, 0] rfl)
          · skip
            refine lv_aload_n hx hb dX14_modified_20 rfl (lv_at hl 0 rfl) ?_
            refine lv_iload_n hx hb dX14_modified_21 rfl (lv_at hl 2 rfl) ?_
            refine va_callv (A0 := jA base) (H0 := s.heap) (va_runV (As := [.int v2_1]) (rest := []) ⟨hx, hb, hml, hown, hts⟩ (uX14_release l dC dI ca base B hB hAp hB14 hB16 hB101 hB103 hB202 hB203 hB204 hB206 G0 H_1 r0 v2_1 ww_1) (cwV 1 hts (jgV (jWr_69 _ (List.mem_of_getElem? (i := 15) rfl)) (jWr_69 _ (List.mem_of_getElem? (i := 16) rfl)) (jWr_69 _ (List.mem_of_getElem? (i := 17) rfl)) (jWr_1 _ (List.mem_of_getElem? (i := 5) rfl)) (jWr_69 _ (List.mem_of_getElem? (i := 18) rfl))) rfl rfl rfl (by decide +kernel) ⟨by rw [← hR]; exact Nat.le_of_ble_eq_true rfl, by rw [← hR]; exact Nat.le_of_ble_eq_true rfl⟩) ⟨fun a U g mk q => by obtain ⟨q0, q1, q2, qK, q10, q11, q12, q13⟩ := q; exact ⟨q0, q1, q2, jG.calling g mk a qK, (va_K.moved (Vm.Alike.refl U.vm) q10), q11, q12, q13⟩, hh_4.recv (C := RX14) (T := TX14) (N := 74) hB16 rfl (by decide) hg_r0 hK, fun U hU hW => ⟨rfl, hU, hh_4.2.1, hG.step hW hU hh_4.1, va_K.moved hW.alike hK2, hg_r0, (hh_4.2.2.1.sub (L1 := [(r0, 16, 48, .int ww_1)]) [1] rfl), by first | omega | (refine ⟨?_, ?_, ?_⟩ <;> (first | omega | rfl | assumption | decide | exact Or.inl rfl | exact Or.inr rfl | (simp only; omega)))⟩⟩ rfl rfl hl.1 rfl (lv_room (Nat.le_of_ble_eq_true rfl)) dX14_modified_22 ⟨Nat.zero_le _, Nat.zero_le _⟩) hh_4.1 (fun q _ h => h) (fun q h => h) (fun u_12 t_12 H_12 locs_12 ht_12 hvm_12 hr_13 hb_12 hz_12 hk_12 hS_12 => ?_)
            obtain ⟨qw_12, rfl⟩ : ∃ z, z = u_12 := ⟨_, rfl⟩
            rw [ht_12] at hb_12
            obtain ⟨hb_121, hb_122, hb_123, hb_124, hb_125⟩ := hb_12
            have hh_12 : jSt (dC, dI) B base G0 G0 EX14_modified s.heap 0 0 [(r0, 16, 48, .int qw_12), (r0, 16, 49, .ref waitOf_5)] [] [] H_12 locs_12 := ((hh_4.call hb_121 hb_122 hb_123 hb_124 hS_12 rfl (L1 := [(r0, 16, 49, .ref waitOf_5)]) [0] rfl rfl (M1 := []) [] rfl rfl (I1 := []) [] rfl rfl).more hb_125)
            clear hh_4 ht_12 hvm_12 hz_12 hk_12 hS_12 hb_121 hb_122 hb_123 hb_124 hb_125
            refine lv_aload_n hx hb dX14_modified_25 rfl (lv_at hl 0 rfl) ?_
            refine lv_ldcw hx hb hown hcs_721 dX14_modified_26 ?_
            refine va_callv (A0 := jA base) (H0 := s.heap) (va_runV (As := [.int (-32801)]) (rest := []) ⟨hx, hb, hml, hown, hts⟩ (uX14_error l dC dI ca base B hB hAp hB16 hB101 G0 H_12 r0 (-32801)) (cwV 1 hts (jgV (jWr_53 _ (List.mem_of_getElem? (i := 9) rfl)) (jWr_53 _ (List.mem_of_getElem? (i := 10) rfl)) (jWr_53 _ (List.mem_of_getElem? (i := 11) rfl)) (jWr_1 _ (List.mem_of_getElem? (i := 5) rfl)) (jWr_53 _ (List.mem_of_getElem? (i := 12) rfl))) rfl rfl rfl (by decide +kernel) ⟨by rw [← hR]; exact Nat.le_of_ble_eq_true rfl, by rw [← hR]; exact Nat.le_of_ble_eq_true rfl⟩) ⟨fun a U g mk q => by obtain ⟨q0, q1, q2, qK, q10, q11, q12⟩ := q; exact ⟨q0, q1, q2, jG.calling g mk a qK, q10, q11, q12⟩, hh_12.recv (C := RX14) (T := TX14) (N := 74) hB16 rfl (by decide) hg_r0 hK, fun U hU hW => ⟨rfl, hU, hh_12.2.1, hG.step hW hU hh_12.1, hg_r0, jP.nil, trivial⟩⟩ rfl rfl hl.1 rfl (lv_room (Nat.le_of_ble_eq_true rfl)) dX14_modified_29 ⟨Nat.zero_le _, Nat.zero_le _⟩) hh_12.1 (fun q _ h => h) (fun q h => h) (fun u_14 t_14 H_14 locs_14 ht_14 hvm_14 hr_15 hb_14 hz_14 hk_14 hS_14 => ?_)
            rw [ht_14] at hb_14
            obtain ⟨hb_141, hb_142, hb_143, hb_144, hb_145⟩ := hb_14
            have hh_14 : jSt (dC, dI) B base G0 G0 EX14_modified s.heap 0 0 [(r0, 16, 48, .int qw_12), (r0, 16, 49, .ref waitOf_5)] [] [] H_14 locs_14 := ((hh_12.call hb_141 hb_142 hb_143 hb_144 hS_14 rfl (L1 := [(r0, 16, 48, .int qw_12), (r0, 16, 49, .ref waitOf_5)]) [0, 1] rfl rfl (M1 := []) [] rfl rfl (I1 := []) [] rfl rfl).more hb_145)
            clear hh_12 ht_14 hvm_14 hz_14 hk_14 hS_14 hb_141 hb_142 hb_143 hb_144 hb_145
            refine lv_goto (tgt := 2) hx hb dX14_modified_32 (by decide) ?_
            exact L2 v2_1 qw_12 _ _ (hh_14.sub (L1 := [(r0, 16, 48, .int qw_12)]) [0] rfl (M1 := []) [] rfl (I1 := []) [] rfl) (by first | omega | (refine ⟨?_, ?_, ?_⟩ <;> (first | omega | rfl | assumption | decide | exact Or.inl rfl | exact Or.inr rfl | (simp only; omega)))) (by omega) _ (lv_sub hl [0, 1, 2] rfl)
  obtain ⟨v_16, hv_16, hh_17⟩ := hh.pin (C := RX14) (T := TX14) (N := 74) hB16 rfl (by decide) hg_r0 (i := 48) (by decide) rfl
  obtain ⟨waits_18, rfl, hlowaits_18, hhiwaits_18⟩ := hv_16
  exact L2 ((waits_18 : Int32).toInt - (0 : Int32).toInt : Int).toNat.succ 0 waits_18 _ _ hh_17 (by first | omega | (refine ⟨?_, ?_, ?_⟩ <;> (first | omega | rfl | assumption | decide | exact Or.inl rfl | exact Or.inr rfl | (simp only; omega)))) (by omega) _ (lv_sub hl [1, 2, 0] rfl)
end
section
-- how a text is parted, as functions
theorem jGa_b {f : Nat → Int32} {n i i1 : Int} {k : Nat} (hk : 0 < k) (hi : i < n) (hb : jBlk (jSo f i) = 1) (e : i1 = i + 1) : jGa f n (k - 1) i1 = jGa f n k i := by rw [jGa_s hk, if_pos hi, if_pos hb, e]
theorem jGa_c {f : Nat → Int32} {n i i1 : Int} {k : Nat} (hk : 0 < k) (hi : i < n) (hb : jBlk (jSo f i) = 0) (ho : jOpI f i n = 1) (h0 : 0 ≤ i1) (e : i1 = jBcc f n i) : jGa f n (k - 1) i1 = jGa f n k i := by
  rw [jGa_s hk, if_pos hi, if_neg (by omega), if_pos ⟨ho, by omega⟩, e]
theorem jGa_x {f : Nat → Int32} {n i r : Int} {k : Nat} (hk : 0 < k) (hi : i < n) (hb : jBlk (jSo f i) = 0) (ho : jOpI f i n = 0 ∨ jBcc f n i < 0) (e : r = i) : r = jGa f n k i := by
  rw [jGa_s hk, if_pos hi, if_neg (by omega), if_neg (by omega), e]
theorem jGa_n {f : Nat → Int32} {n i r : Int} {k : Nat} (hk : 0 < k) (hi : n ≤ i) (e : r = n) : r = jGa f n k i := by rw [jGa_s hk, if_neg (by omega), e]
theorem jSx_c {f : Nat → Int32} {n i i1 : Int} {k : Nat} (hk : 0 < k) (hi : i < n) (ho : jOpI f i n = 1) (h0 : 0 ≤ i1) (e : i1 = jBcc f n i) : jSx f n (k - 1) i1 = jSx f n k i := by rw [jSx_s hk, if_pos hi, if_pos ho, if_neg (by omega), e]
theorem jSx_u {f : Nat → Int32} {n i r b : Int} {k : Nat} (hk : 0 < k) (hi : i < n) (ho : jOpI f i n = 1) (h0 : b < 0) (e : b = jBcc f n i) (er : r = -1) : r = jSx f n k i := by rw [jSx_s hk, if_pos hi, if_pos ho, if_pos (by omega), er]
theorem jSx_n {f : Nat → Int32} {n i i1 : Int} {k : Nat} (hk : 0 < k) (hi : i < n) (ho : jOpI f i n = 0) (hd : jDt f n i = 0) (e : i1 = i + 1) : jSx f n (k - 1) i1 = jSx f n k i := by rw [jSx_s hk, if_pos hi, if_neg (by omega), if_neg (by omega), e]
theorem jSx_d {f : Nat → Int32} {n i r : Int} {k : Nat} (hk : 0 < k) (hi : i < n) (ho : jOpI f i n = 0) (hd : jDt f n i = 1) (e : r = i + 1) : r = jSx f n k i := by rw [jSx_s hk, if_pos hi, if_neg (by omega), if_pos hd, e]
theorem jSx_o {f : Nat → Int32} {n i r : Int} {k : Nat} (hk : 0 < k) (hi : n ≤ i) (e : r = -1) : r = jSx f n k i := by rw [jSx_s hk, if_neg (by omega), e]
theorem jDt_1 {f : Nat → Int32} {n i : Int} (h : jSo f i = 46) (h1 : i + 1 = n ∨ jBlk (jSo f (i + 1)) = 1 ∨ jOpI f (i + 1) n = 1) : jDt f n i = 1 := by unfold jDt; rw [if_pos ⟨h, h1⟩]
theorem jDt_0 {f : Nat → Int32} {n i : Int} (h : jSo f i ≠ 46 ∨ (i + 1 ≠ n ∧ jBlk (jSo f (i + 1)) = 0 ∧ jOpI f (i + 1) n = 0)) : jDt f n i = 0 := by unfold jDt; rw [if_neg (by omega)]
theorem jPn_l {f : Nat → Int32} {n i i1 c c1 : Int} {k k1 : Nat} (hk : 0 < k) (hk1 : 0 < k1) (hi : i < n) (hc : c = 39) (e : n ≤ i1) (ec : c1 = 40) : jPn f n k1 i1 c1 = jPn f n k i c := by rw [jPn_s hk, if_pos hi, if_pos hc, jPn_s hk1, if_neg (by omega), ec]
end
section
def EX14_isBlankK : List (Nat × Nat) := []
set_option maxHeartbeats 4000000 in
set_option maxRecDepth 20000 in
theorem uX14_isBlankK (l : Launch) (dC : Nat → ClassId) (dI : Nat → Nat → Nat) (ca : Nat → ClassId) (base : Nat) (B : jF) (hB : jBok B) (hAp : jAp (dC, dI)) (G0 : jT) (H0 : Heap) (a0 : Int32) : Met l yX14_isBlank (jw yX14_isBlank cX14_isBlank 1 (some .boolean)) ({ frames := 0, cells := 0, slots := 0, locals := 0 }) (va_Pc [.int a0] (fun U => U.heap = H0 ∧ jX B base G0 [] H0 ∧ jG dC dI ca base U ∧ jP (dC, dI) G0 H0 [] ∧ True)) (va_Qi (S := Unit) (fun r u => (r = 0 ∨ r = 1) ∧ (r.toInt = jBlk a0.toInt)) (fun u t => jRt (dC, dI) B base G0 EX14_isBlankK H0 [] t.heap) (jA base)) 0 0 (jA base) := by
  refine Met.ofW (cc := cX14_isBlank) (maxL := 1) (ret := (some .boolean)) (by decide) rfl ?_
  intro p e s m args below meth c s₁ Bd hml hv
  obtain ⟨rfl, hH0, hX, hG, hP0, hp0⟩ := hv
  have hK := hG.1
  have hx := Bd.exec
  have hb := Bd.bytes
  have hr := Bd.returns
  have hts := atoms_spec (ws := (jw yX14_isBlank cX14_isBlank 1 (some .boolean))) Bd.pre
  have htw : ∀ w ∈ jWl, w.before _ s = true := fun w h => hts w (List.mem_cons_of_mem _ h)
  have hown : s.vm.findClass RX14 = some m.cls := findClass_of_methodNamed Bd.named
  have hlocks := Bd.notSynchronized
  obtain ⟨Q, hQ⟩ : ∃ Q, Q = MQ below (va_Qi (S := Unit) (fun r u => (r = 0 ∨ r = 1) ∧ (r.toInt = jBlk a0.toInt)) (fun u t => jRt (dC, dI) B base G0 EX14_isBlankK H0 [] t.heap) (jA base)) ([.int a0] : List Value).toArray s 0 0 (jA base) := ⟨_, rfl⟩
  rw [← hQ]
  have hl := lv_entry ([.int a0]) (n := 1) (Nat.le_of_ble_eq_true rfl)
  rw [lg_entry_eq]
  generalize (lg_sl ([.int a0]) ++ List.replicate (1 - (lg_sl ([.int a0])).length) Slot.unset).toArray = ls at hl ⊢
  have hl : lv_has ls 1 [(0, .int a0)] := hl
  generalize hR : (headSpec (jw yX14_isBlank cX14_isBlank 1 (some .boolean)) ({ frames := 0, cells := 0, slots := 0, locals := 0 })).room = R
  subst hH0
  have hh : jSt (dC, dI) B base G0 G0 EX14_isBlankK s.heap 0 0 [] [] [] s.heap [] := jSt.start hX hP0 jMc.nil jIs.nil
  clear hX hP0
  have hk0 : (0 : Int32).toInt = 0 := by decide
  have hk1 : (1 : Int32).toInt = 1 := by decide
  have hk9 : (9 : Int32).toInt = 9 := by decide
  have hk10 : (10 : Int32).toInt = 10 := by decide
  have hk13 : (13 : Int32).toInt = 13 := by decide
  have hk32 : (32 : Int32).toInt = 32 := by decide
  have hrg_a0 := jb_rng a0
  refine lv_iload_n hx hb dX14_isBlank_0 rfl (lv_at hl 0 rfl) ?_
  refine lv_bipush (v := 32) hx hb dX14_isBlank_1 (by decide) ?_
  refine lv_icmp_eq (tgt := 24) hx hb dX14_isBlank_3 (by decide) (fun c_1 => ?_) (fun c_1 => ?_)
  · skip
    have c_1' : a0.toInt = 32 := jb_eq (rfl) ((by decide)) c_1
    refine lv_iconst (v := 1) hx hb dX14_isBlank_24 (by decide) ?_
    refine lv_goto (tgt := 29) hx hb dX14_isBlank_25 (by decide) ?_
    rw [hQ]
    exact W.zret (v := 1) hx hb hr (jb_nz (Or.inr rfl)) (fun t ht hW => ⟨⟨1, (), rfl, ⟨(Or.inr rfl), by unfold jBlk; first | (rw [if_pos (by omega)]; exact hk1) | (rw [if_neg (by omega)]; exact hk0)⟩, hh.rt (M1 := []) [] rfl ht⟩, by rw [ht]; try exact hh.1.1, fun q h9 hq => by rw [ht]; try exact hh.1.2.1 q h9 hq⟩) hh.1.2.2 dX14_isBlank_29
  · skip
    have c_1' : a0.toInt ≠ 32 := jb_eq_n (rfl) ((by decide)) c_1
    refine lv_iload_n hx hb dX14_isBlank_6 rfl (lv_at hl 0 rfl) ?_
    refine lv_bipush (v := 9) hx hb dX14_isBlank_7 (by decide) ?_
    refine lv_icmp_eq (tgt := 24) hx hb dX14_isBlank_9 (by decide) (fun c_2 => ?_) (fun c_2 => ?_)
    · skip
      have c_2' : a0.toInt = 9 := jb_eq (rfl) ((by decide)) c_2
      refine lv_iconst (v := 1) hx hb dX14_isBlank_24 (by decide) ?_
      refine lv_goto (tgt := 29) hx hb dX14_isBlank_25 (by decide) ?_
      rw [hQ]
      exact W.zret (v := 1) hx hb hr (jb_nz (Or.inr rfl)) (fun t ht hW => ⟨⟨1, (), rfl, ⟨(Or.inr rfl), by unfold jBlk; first | (rw [if_pos (by omega)]; exact hk1) | (rw [if_neg (by omega)]; exact hk0)⟩, hh.rt (M1 := []) [] rfl ht⟩, by rw [ht]; try exact hh.1.1, fun q h9 hq => by rw [ht]; try exact hh.1.2.1 q h9 hq⟩) hh.1.2.2 dX14_isBlank_29
    · skip
      have c_2' : a0.toInt ≠ 9 := jb_eq_n (rfl) ((by decide)) c_2
      refine lv_iload_n hx hb dX14_isBlank_12 rfl (lv_at hl 0 rfl) ?_
      refine lv_bipush (v := 10) hx hb dX14_isBlank_13 (by decide) ?_
      refine lv_icmp_eq (tgt := 24) hx hb dX14_isBlank_15 (by decide) (fun c_3 => ?_) (fun c_3 => ?_)
      · skip
        have c_3' : a0.toInt = 10 := jb_eq (rfl) ((by decide)) c_3
        refine lv_iconst (v := 1) hx hb dX14_isBlank_24 (by decide) ?_
        refine lv_goto (tgt := 29) hx hb dX14_isBlank_25 (by decide) ?_
        rw [hQ]
        exact W.zret (v := 1) hx hb hr (jb_nz (Or.inr rfl)) (fun t ht hW => ⟨⟨1, (), rfl, ⟨(Or.inr rfl), by unfold jBlk; first | (rw [if_pos (by omega)]; exact hk1) | (rw [if_neg (by omega)]; exact hk0)⟩, hh.rt (M1 := []) [] rfl ht⟩, by rw [ht]; try exact hh.1.1, fun q h9 hq => by rw [ht]; try exact hh.1.2.1 q h9 hq⟩) hh.1.2.2 dX14_isBlank_29
      · skip
        have c_3' : a0.toInt ≠ 10 := jb_eq_n (rfl) ((by decide)) c_3
        refine lv_iload_n hx hb dX14_isBlank_18 rfl (lv_at hl 0 rfl) ?_
        refine lv_bipush (v := 13) hx hb dX14_isBlank_19 (by decide) ?_
        refine lv_icmp_ne (tgt := 28) hx hb dX14_isBlank_21 (by decide) (fun c_4 => ?_) (fun c_4 => ?_)
        · skip
          have c_4' : a0.toInt ≠ 13 := jb_ne (rfl) ((by decide)) c_4
          refine lv_iconst (v := 0) hx hb dX14_isBlank_28 (by decide) ?_
          rw [hQ]
          exact W.zret (v := 0) hx hb hr (jb_nz (Or.inl rfl)) (fun t ht hW => ⟨⟨0, (), rfl, ⟨(Or.inl rfl), by unfold jBlk; first | (rw [if_pos (by omega)]; exact hk1) | (rw [if_neg (by omega)]; exact hk0)⟩, hh.rt (M1 := []) [] rfl ht⟩, by rw [ht]; try exact hh.1.1, fun q h9 hq => by rw [ht]; try exact hh.1.2.1 q h9 hq⟩) hh.1.2.2 dX14_isBlank_29
        · skip
          have c_4' : a0.toInt = 13 := jb_ne_n (rfl) ((by decide)) c_4
          refine lv_iconst (v := 1) hx hb dX14_isBlank_24 (by decide) ?_
          refine lv_goto (tgt := 29) hx hb dX14_isBlank_25 (by decide) ?_
          rw [hQ]
          exact W.zret (v := 1) hx hb hr (jb_nz (Or.inr rfl)) (fun t ht hW => ⟨⟨1, (), rfl, ⟨(Or.inr rfl), by unfold jBlk; first | (rw [if_pos (by omega)]; exact hk1) | (rw [if_neg (by omega)]; exact hk0)⟩, hh.rt (M1 := []) [] rfl ht⟩, by rw [ht]; try exact hh.1.1, fun q h9 hq => by rw [ht]; try exact hh.1.2.1 q h9 hq⟩) hh.1.2.2 dX14_isBlank_29
end
section
def EX14_behindGapsKv9 : List (Nat × Nat) := []
def EX14_sentenceEndKv9 : List (Nat × Nat) := []
set_option maxHeartbeats 4000000 in
set_option maxRecDepth 20000 in
theorem uX14_behindGapsKv9 (l : Launch) (dC : Nat → ClassId) (dI : Nat → Nat → Nat) (ca : Nat → ClassId) (base : Nat) (B : jF) (hB : jBok B) (hAp : jAp (dC, dI)) (hB101 : ∀ n G a H, B 101 n G a H ↔ jAr (dC, dI) (ca 1) (fun j z => True) n a H) (hB194 : ∀ n G a H, B 194 n G a H ↔ jAr (dC, dI) (ca 1) (fun j z => True) n a H) (G0 : jT) (H0 : Heap) (r0 : Nat) (a1 : Int32) (a2 : Int32) (n0 : Nat) (f0 : Nat → Int32) : Met l yX14_behindGaps (jw yX14_behindGaps cX14_behindGaps 4 (some .int)) ({ frames := 2, cells := 0, slots := 0, locals := 46 }) (va_Pc [.ref r0, .int a1, .int a2] (fun U => U.heap = H0 ∧ jX B base G0 [] H0 ∧ jG dC dI ca base U ∧ G0 r0 = some (194, n0) ∧ jP (dC, dI) G0 H0 [] ∧ jMc (dC, dI) G0 H0 [(r0, 194, n0, ca 1, f0)] ∧ 0 ≤ a1.toInt ∧ a1.toInt ≤ a2.toInt ∧ a2.toInt ≤ n0 ∧ n0 ≤ 200000)) (va_Qi (S := Unit) (fun r u => (r.toInt = jGap f0 a2.toInt a1.toInt ∧ a1.toInt ≤ r.toInt ∧ r.toInt ≤ a2.toInt)) (fun u t => jRt (dC, dI) B base G0 EX14_behindGapsKv9 H0 [] t.heap) (jA base)) 0 0 (jA base) := by
  refine Met.ofW (cc := cX14_behindGaps) (maxL := 4) (ret := (some .int)) (by decide) rfl ?_
  intro p e s m args below meth c s₁ Bd hml hv
  obtain ⟨rfl, hH0, hX, hG, hg_r0, hP0, hM0, hp0, hp1, hp2, hp3⟩ := hv
  have hK := hG.1
  have hx := Bd.exec
  have hb := Bd.bytes
  have hr := Bd.returns
  have hts := atoms_spec (ws := (jw yX14_behindGaps cX14_behindGaps 4 (some .int))) Bd.pre
  have htw : ∀ w ∈ jWl, w.before _ s = true := fun w h => hts w (List.mem_cons_of_mem _ h)
  have hown : s.vm.findClass RX14 = some m.cls := findClass_of_methodNamed Bd.named
  have hlocks := Bd.notSynchronized
  obtain ⟨Q, hQ⟩ : ∃ Q, Q = MQ below (va_Qi (S := Unit) (fun r u => (r.toInt = jGap f0 a2.toInt a1.toInt ∧ a1.toInt ≤ r.toInt ∧ r.toInt ≤ a2.toInt)) (fun u t => jRt (dC, dI) B base G0 EX14_behindGapsKv9 H0 [] t.heap) (jA base)) ([.ref r0, .int a1, .int a2] : List Value).toArray s 0 0 (jA base) := ⟨_, rfl⟩
  rw [← hQ]
  have hl := lv_entry ([.ref r0, .int a1, .int a2]) (n := 4) (Nat.le_of_ble_eq_true rfl)
  rw [lg_entry_eq]
  generalize (lg_sl ([.ref r0, .int a1, .int a2]) ++ List.replicate (4 - (lg_sl ([.ref r0, .int a1, .int a2])).length) Slot.unset).toArray = ls at hl ⊢
  have hl : lv_has ls 4 [(0, .ref r0), (1, .int a1), (2, .int a2)] := hl
  generalize hR : (headSpec (jw yX14_behindGaps cX14_behindGaps 4 (some .int)) ({ frames := 2, cells := 0, slots := 0, locals := 46 })).room = R
  subst hH0
  have hh : jSt (dC, dI) B base G0 G0 EX14_behindGapsKv9 s.heap 0 0 [] [(r0, 194, n0, ca 1, f0)] [] s.heap [] := jSt.start hX hP0 hM0 jIs.nil
  clear hX hP0
  have hk0 : (0 : Int32).toInt = 0 := by decide
  have hk1 : (1 : Int32).toInt = 1 := by decide
  have hrg_a1 := jb_rng a1
  have hrg_a2 := jb_rng a2
  refine lv_iload_n hx hb dX14_behindGaps_0 rfl (lv_at hl 1 rfl) ?_
  refine lv_istore_n (lv' := [(3, .int a1), (0, .ref r0), (1, .int a1), (2, .int a2)]) hx hb dX14_behindGaps_1 rfl hl (by decide) rfl (fun ls hl => ?_)
  have L2 : ∀ (N : Nat) (v3_1 : Int32) (kf : Nat) (H_1 : Heap) (locs_1 : List Loc), jSt (dC, dI) B base G0 G0 EX14_behindGapsKv9 s.heap 0 0 [] [(r0, 194, n0, ca 1, f0)] [] H_1 locs_1 → (a1.toInt ≤ v3_1.toInt ∧ v3_1.toInt ≤ a2.toInt ∧ a2.toInt - v3_1.toInt < kf ∧ jGa f0 a2.toInt kf v3_1.toInt = jGap f0 a2.toInt a1.toInt) → (a2.toInt - v3_1.toInt : Int) < N → ∀ ls : Array Slot, lv_has ls 4 [(0, .ref r0), (1, .int a1), (2, .int a2), (3, .int v3_1)] → W p l e R s m ([.ref r0, .int a1, .int a2] : List Value).toArray below meth c H_1 locs_1 0 0 Q (F0 m 2 ls []) := by
    intro N
    induction N with
    | zero => intro v3_1 kf H_1 locs_1 hh_1  hi_1 hm; exact absurd hm (by omega)
    | succ N L2 =>
      intro v3_1 kf H_1 locs_1 hh_1  hi_1 hm_1 ls hl
      obtain ⟨hi_1_0, hi_1_1, hi_1_2, hi_1_3⟩ := hi_1
      refine lv_iload_n hx hb dX14_behindGaps_2 rfl (lv_at hl 3 rfl) ?_
      refine lv_iload_n hx hb dX14_behindGaps_3 rfl (lv_at hl 2 rfl) ?_
      refine lv_icmp_ge (tgt := 52) hx hb dX14_behindGaps_4 (by decide) (fun c_2 => ?_) (fun c_2 => ?_)
      · skip
        have c_2' : v3_1.toInt ≥ a2.toInt := jb_ge (rfl) (rfl) c_2
        refine lv_iload_n hx hb dX14_behindGaps_52 rfl (lv_at hl 2 rfl) ?_
        rw [hQ]
        exact W.iret (v := a2) hx hb hr (fun t ht hW => ⟨⟨a2, (), rfl, by refine ⟨?_, by omega, by omega⟩; exact (jGa_n (by omega) (by omega) rfl).trans hi_1_3, hh_1.rt (M1 := []) [] rfl ht⟩, by rw [ht]; try exact hh_1.1.1, fun q h9 hq => by rw [ht]; try exact hh_1.1.2.1 q h9 hq⟩) hh_1.1.2.2 dX14_behindGaps_53
      · skip
        have c_2' : v3_1.toInt < a2.toInt := jb_ge_n (rfl) (rfl) c_2
        refine lv_aload_n hx hb dX14_behindGaps_7 rfl (lv_at hl 0 rfl) ?_
        refine lv_iload_n hx hb dX14_behindGaps_8 rfl (lv_at hl 3 rfl) ?_
        refine j7_ialdM hx hb hK hh_1 hB194 1 rfl (by decide) hg_r0 (x := v3_1.toInt) (rfl) (by omega) (j := 0) rfl dX14_behindGaps_9 (fun z_3 ez_3 (hz_3 : True) => ?_)
        have hqz_3 : z_3.toInt = jSo f0 (v3_1.toInt) := by unfold jSo; rw [ez_3]
        refine va_calli (A0 := jA base) (H0 := s.heap) (va_runS (As := [.int z_3]) (rest := []) ⟨hx, hb, hml, hown, hts⟩ (uX14_isBlankK l dC dI ca base B hB hAp G0 H_1 z_3) (va_cwS 1 hts (jgS (jWr_57 _ (List.mem_of_getElem? (i := 16) rfl)) (jWr_57 _ (List.mem_of_getElem? (i := 17) rfl)) (jWr_1 _ (List.mem_of_getElem? (i := 5) rfl)) (jWr_57 _ (List.mem_of_getElem? (i := 18) rfl))) rfl rfl rfl (by decide +kernel) ⟨by rw [← hR]; exact Nat.le_of_ble_eq_true rfl, by rw [← hR]; exact Nat.le_of_ble_eq_true rfl⟩) ⟨fun a U g mk q => by obtain ⟨q0, q1, q2, qK, q10, q11⟩ := q; exact ⟨q0, q1, q2, jG.calling g mk a qK, q10, q11⟩, fun U hU hW => ⟨rfl, hU, hh_1.2.1, hG.step hW hU hh_1.1, jP.nil, trivial⟩⟩ rfl rfl hl.1 rfl (lv_room (Nat.le_of_ble_eq_true rfl)) dX14_behindGaps_10 ⟨Nat.zero_le _, Nat.zero_le _⟩) hh_1.1 (fun q _ h => h) (fun q h => h) (fun r_5 u_4 t_4 H_4 locs_4 ht_4 hvm_4 hr_5 hb_4 hz_4 hk_4 hS_4 => ?_)
        rw [ht_4] at hb_4
        obtain ⟨hb_41, hb_42, hb_43, hb_44, hb_45⟩ := hb_4
        have hh_4 : jSt (dC, dI) B base G0 G0 EX14_behindGapsKv9 s.heap 0 0 [] [(r0, 194, n0, ca 1, f0)] [] H_4 locs_4 := ((hh_1.call hb_41 hb_42 hb_43 hb_44 hS_4 rfl (L1 := []) [] rfl rfl (M1 := [(r0, 194, n0, ca 1, f0)]) [0] rfl rfl (I1 := []) [] rfl rfl).more hb_45)
        clear hh_1 ht_4 hvm_4 hz_4 hk_4 hS_4 hb_41 hb_42 hb_43 hb_44 hb_45
        obtain ⟨hr_5b, hr_5p⟩ := hr_5
        have hr_5' := jb_01 hr_5b
        refine lv_if_eq (tgt := 22) hx hb dX14_behindGaps_13 (by decide) (fun c_6 => ?_) (fun c_6 => ?_)
        · skip
          have c_6' : r_5.toInt = 0 := jb_eq (rfl) ((by decide)) c_6
          refine lv_aload_n hx hb dX14_behindGaps_22 rfl (lv_at hl 0 rfl) ?_
          refine lv_iload_n hx hb dX14_behindGaps_23 rfl (lv_at hl 3 rfl) ?_
          refine lv_iload_n hx hb dX14_behindGaps_24 rfl (lv_at hl 2 rfl) ?_
          refine va_calli (A0 := jA base) (H0 := s.heap) (va_runS (As := [.ref r0, .int v3_1, .int a2]) (rest := []) ⟨hx, hb, hml, hown, hts⟩ (uX14_opensv9 l dC dI ca base B hB hAp hB194 G0 H_4 r0 v3_1 a2 n0 f0) (va_cwS 3 hts (jgS (jWr_57 _ (List.mem_of_getElem? (i := 19) rfl)) (jWr_57 _ (List.mem_of_getElem? (i := 20) rfl)) (jWr_1 _ (List.mem_of_getElem? (i := 5) rfl)) (jWr_57 _ (List.mem_of_getElem? (i := 21) rfl))) rfl rfl rfl (by decide +kernel) ⟨by rw [← hR]; exact Nat.le_of_ble_eq_true rfl, by rw [← hR]; exact Nat.le_of_ble_eq_true rfl⟩) ⟨fun a U g mk q => by obtain ⟨q0, q1, q2, qK, q10, q11, q12, q13⟩ := q; exact ⟨q0, q1, q2, jG.calling g mk a qK, q10, q11, q12, q13⟩, fun U hU hW => ⟨rfl, hU, hh_4.2.1, hG.step hW hU hh_4.1, hg_r0, jP.nil, (hh_4.2.2.2.2.2.2.2.1.sub (L1 := [(r0, 194, n0, ca 1, f0)]) [0] rfl), by first | omega | (refine ⟨?_, ?_, ?_, ?_, ?_⟩ <;> (first | omega | rfl | assumption | decide | exact Or.inl rfl | exact Or.inr rfl | (simp only; omega)))⟩⟩ rfl rfl hl.1 rfl (lv_room (Nat.le_of_ble_eq_true rfl)) dX14_behindGaps_25 ⟨Nat.zero_le _, Nat.zero_le _⟩) hh_4.1 (fun q _ h => h) (fun q h => h) (fun r_8 u_7 t_7 H_7 locs_7 ht_7 hvm_7 hr_8 hb_7 hz_7 hk_7 hS_7 => ?_)
          rw [ht_7] at hb_7
          obtain ⟨hb_71, hb_72, hb_73, hb_74, hb_75⟩ := hb_7
          have hh_7 : jSt (dC, dI) B base G0 G0 EX14_behindGapsKv9 s.heap 0 0 [] [(r0, 194, n0, ca 1, f0)] [] H_7 locs_7 := ((hh_4.call hb_71 hb_72 hb_73 hb_74 hS_7 rfl (L1 := []) [] rfl rfl (M1 := [(r0, 194, n0, ca 1, f0)]) [0] rfl rfl (I1 := []) [] rfl rfl).more hb_75)
          clear hh_4 ht_7 hvm_7 hz_7 hk_7 hS_7 hb_71 hb_72 hb_73 hb_74 hb_75
          obtain ⟨hr_8b, hr_8p⟩ := hr_8
          obtain ⟨hr_8p_0, hr_8p_1⟩ := hr_8p
          have hr_8' := jb_01 hr_8b
          refine lv_if_eq (tgt := 50) hx hb dX14_behindGaps_28 (by decide) (fun c_9 => ?_) (fun c_9 => ?_)
          · skip
            have c_9' : r_8.toInt = 0 := jb_eq (rfl) ((by decide)) c_9
            refine lv_iload_n hx hb dX14_behindGaps_50 rfl (lv_at hl 3 rfl) ?_
            rw [hQ]
            exact W.iret (v := v3_1) hx hb hr (fun t ht hW => ⟨⟨v3_1, (), rfl, by refine ⟨?_, by omega, by omega⟩; exact (jGa_x (by omega) (by omega) (by rw [← hqz_3, ← hr_5p]; omega) (by first | exact Or.inl (by omega) | exact Or.inr (by have h9 := (zz_none); unfold jBcc; omega)) rfl).trans hi_1_3, hh_7.rt (M1 := []) [] rfl ht⟩, by rw [ht]; try exact hh_7.1.1, fun q h9 hq => by rw [ht]; try exact hh_7.1.2.1 q h9 hq⟩) hh_7.1.2.2 dX14_behindGaps_51
          · skip
            have c_9' : r_8.toInt ≠ 0 := jb_eq_n (rfl) ((by decide)) c_9
            refine lv_aload_n hx hb dX14_behindGaps_31 rfl (lv_at hl 0 rfl) ?_
            refine lv_iload_n hx hb dX14_behindGaps_32 rfl (lv_at hl 3 rfl) ?_
            refine lv_iload_n hx hb dX14_behindGaps_33 rfl (lv_at hl 2 rfl) ?_
            refine va_calli (A0 := jA base) (H0 := s.heap) (va_runS (As := [.ref r0, .int v3_1, .int a2]) (rest := []) ⟨hx, hb, hml, hown, hts⟩ (uX14_behindCommentv9 l dC dI ca base B hB hAp hB101 hB194 G0 H_7 r0 v3_1 a2 n0 f0) (va_cwS 3 hts (jgS (jWr_57 _ (List.mem_of_getElem? (i := 22) rfl)) (jWr_57 _ (List.mem_of_getElem? (i := 23) rfl)) (jWr_1 _ (List.mem_of_getElem? (i := 5) rfl)) (jWr_58 _ (List.mem_of_getElem? (i := 0) rfl))) rfl rfl rfl (by decide +kernel) ⟨by rw [← hR]; exact Nat.le_of_ble_eq_true rfl, by rw [← hR]; exact Nat.le_of_ble_eq_true rfl⟩) ⟨fun a U g mk q => by obtain ⟨q0, q1, q2, qK, q10, q11, q12, q13⟩ := q; exact ⟨q0, q1, q2, jG.calling g mk a qK, q10, q11, q12, q13⟩, fun U hU hW => ⟨rfl, hU, hh_7.2.1, hG.step hW hU hh_7.1, hg_r0, jP.nil, (hh_7.2.2.2.2.2.2.2.1.sub (L1 := [(r0, 194, n0, ca 1, f0)]) [0] rfl), by first | omega | (refine ⟨?_, ?_, ?_, ?_⟩ <;> (first | omega | rfl | assumption | decide | exact Or.inl rfl | exact Or.inr rfl | (simp only; omega)))⟩⟩ rfl rfl hl.1 rfl (lv_room (Nat.le_of_ble_eq_true rfl)) dX14_behindGaps_34 ⟨Nat.zero_le _, Nat.zero_le _⟩) hh_7.1 (fun q _ h => h) (fun q h => h) (fun r_11 u_10 t_10 H_10 locs_10 ht_10 hvm_10 hr_11 hb_10 hz_10 hk_10 hS_10 => ?_)
            rw [ht_10] at hb_10
            obtain ⟨hb_101, hb_102, hb_103, hb_104, hb_105⟩ := hb_10
            have hh_10 : jSt (dC, dI) B base G0 G0 EX14_behindGapsKv9 s.heap 0 0 [] [(r0, 194, n0, ca 1, f0)] [] H_10 locs_10 := ((hh_7.call hb_101 hb_102 hb_103 hb_104 hS_10 rfl (L1 := []) [] rfl rfl (M1 := [(r0, 194, n0, ca 1, f0)]) [0] rfl rfl (I1 := []) [] rfl rfl).more hb_105)
            clear hh_7 ht_10 hvm_10 hz_10 hk_10 hS_10 hb_101 hb_102 hb_103 hb_104 hb_105
            obtain ⟨hr_11_0, hr_11_1, hr_11_2, hr_11_3⟩ := hr_11
            refine lv_if_lt (tgt := 50) hx hb dX14_behindGaps_37 (by decide) (fun c_12 => ?_) (fun c_12 => ?_)
            · skip
              have c_12' : r_11.toInt < 0 := jb_lt (rfl) ((by decide)) c_12
              first | (have hr_11_3q := hr_11_3.resolve_left (by omega); clear hr_11_3) | (have hr_11_3q := hr_11_3.resolve_right (by omega); clear hr_11_3) | try clear hr_11_3
              refine lv_iload_n hx hb dX14_behindGaps_50 rfl (lv_at hl 3 rfl) ?_
              rw [hQ]
              exact W.iret (v := v3_1) hx hb hr (fun t ht hW => ⟨⟨v3_1, (), rfl, by refine ⟨?_, by omega, by omega⟩; exact (jGa_x (by omega) (by omega) (by rw [← hqz_3, ← hr_5p]; omega) (by first | exact Or.inl (by omega) | exact Or.inr (by have h9 := hr_11_0; unfold jBcc; omega)) rfl).trans hi_1_3, hh_10.rt (M1 := []) [] rfl ht⟩, by rw [ht]; try exact hh_10.1.1, fun q h9 hq => by rw [ht]; try exact hh_10.1.2.1 q h9 hq⟩) hh_10.1.2.2 dX14_behindGaps_51
            · skip
              have c_12' : r_11.toInt ≥ 0 := jb_lt_n (rfl) ((by decide)) c_12
              first | (have hr_11_3q := hr_11_3.resolve_left (by omega); clear hr_11_3) | (have hr_11_3q := hr_11_3.resolve_right (by omega); clear hr_11_3) | try clear hr_11_3
              refine lv_aload_n hx hb dX14_behindGaps_40 rfl (lv_at hl 0 rfl) ?_
              refine lv_iload_n hx hb dX14_behindGaps_41 rfl (lv_at hl 3 rfl) ?_
              refine lv_iload_n hx hb dX14_behindGaps_42 rfl (lv_at hl 2 rfl) ?_
              refine va_calli (A0 := jA base) (H0 := s.heap) (va_runS (As := [.ref r0, .int v3_1, .int a2]) (rest := []) ⟨hx, hb, hml, hown, hts⟩ (uX14_behindCommentv9 l dC dI ca base B hB hAp hB101 hB194 G0 H_10 r0 v3_1 a2 n0 f0) (va_cwS 3 hts (jgS (jWr_57 _ (List.mem_of_getElem? (i := 22) rfl)) (jWr_57 _ (List.mem_of_getElem? (i := 23) rfl)) (jWr_1 _ (List.mem_of_getElem? (i := 5) rfl)) (jWr_58 _ (List.mem_of_getElem? (i := 0) rfl))) rfl rfl rfl (by decide +kernel) ⟨by rw [← hR]; exact Nat.le_of_ble_eq_true rfl, by rw [← hR]; exact Nat.le_of_ble_eq_true rfl⟩) ⟨fun a U g mk q => by obtain ⟨q0, q1, q2, qK, q10, q11, q12, q13⟩ := q; exact ⟨q0, q1, q2, jG.calling g mk a qK, q10, q11, q12, q13⟩, fun U hU hW => ⟨rfl, hU, hh_10.2.1, hG.step hW hU hh_10.1, hg_r0, jP.nil, (hh_10.2.2.2.2.2.2.2.1.sub (L1 := [(r0, 194, n0, ca 1, f0)]) [0] rfl), by first | omega | (refine ⟨?_, ?_, ?_, ?_⟩ <;> (first | omega | rfl | assumption | decide | exact Or.inl rfl | exact Or.inr rfl | (simp only; omega)))⟩⟩ rfl rfl hl.1 rfl (lv_room (Nat.le_of_ble_eq_true rfl)) dX14_behindGaps_43 ⟨Nat.zero_le _, Nat.zero_le _⟩) hh_10.1 (fun q _ h => h) (fun q h => h) (fun r_14 u_13 t_13 H_13 locs_13 ht_13 hvm_13 hr_14 hb_13 hz_13 hk_13 hS_13 => ?_)
              rw [ht_13] at hb_13
              obtain ⟨hb_131, hb_132, hb_133, hb_134, hb_135⟩ := hb_13
              have hh_13 : jSt (dC, dI) B base G0 G0 EX14_behindGapsKv9 s.heap 0 0 [] [(r0, 194, n0, ca 1, f0)] [] H_13 locs_13 := ((hh_10.call hb_131 hb_132 hb_133 hb_134 hS_13 rfl (L1 := []) [] rfl rfl (M1 := [(r0, 194, n0, ca 1, f0)]) [0] rfl rfl (I1 := []) [] rfl rfl).more hb_135)
              clear hh_10 ht_13 hvm_13 hz_13 hk_13 hS_13 hb_131 hb_132 hb_133 hb_134 hb_135
              obtain ⟨hr_14_0, hr_14_1, hr_14_2, hr_14_3⟩ := hr_14
              refine lv_istore_n (lv' := [(3, .int r_14), (0, .ref r0), (1, .int a1), (2, .int a2)]) hx hb dX14_behindGaps_46 rfl hl (by decide) rfl (fun ls hl => ?_)
              refine lv_goto (tgt := 2) hx hb dX14_behindGaps_47 (by decide) ?_
              exact L2 r_14 (kf - 1) _ _ hh_13 (by refine ⟨by omega, by omega, by omega, ?_⟩; first | exact (jGa_b (by omega) (by omega) (by rw [← hqz_3, ← hr_5p]; omega) (by omega)).trans hi_1_3 | exact (jGa_c (by omega) (by omega) (by rw [← hqz_3, ← hr_5p]; omega) (by omega) (by omega) hr_14_0).trans hi_1_3) (by omega) _ (lv_sub hl [1, 2, 3, 0] rfl)
        · skip
          have c_6' : r_5.toInt ≠ 0 := jb_eq_n (rfl) ((by decide)) c_6
          obtain ⟨z_15, ez_15⟩ : ∃ y : Int32, y = v3_1 + 1 := ⟨_, rfl⟩
          refine lv_iinc (v := z_15) (lv' := [(3, .int z_15), (0, .ref r0), (1, .int a1), (2, .int a2)]) hx hb dX14_behindGaps_16 hl (k := 3) rfl (by rw [ez_15]; rfl) (by decide) rfl (fun ls hl => ?_)
          have hz_15 : z_15.toInt = v3_1.toInt + 1 := by rw [ez_15]; exact jb_iadd2 (rfl) (by decide) (by omega)
          refine lv_goto (tgt := 2) hx hb dX14_behindGaps_19 (by decide) ?_
          exact L2 z_15 (kf - 1) _ _ hh_4 (by refine ⟨by omega, by omega, by omega, ?_⟩; first | exact (jGa_b (by omega) (by omega) (by rw [← hqz_3, ← hr_5p]; omega) (by omega)).trans hi_1_3 | exact (jGa_c (by omega) (by omega) (by rw [← hqz_3, ← hr_5p]; omega) (by omega) (by omega) (zz_none)).trans hi_1_3) (by omega) _ (lv_sub hl [1, 2, 3, 0] rfl)
  exact L2 (a2.toInt - (a1 : Int32).toInt : Int).toNat.succ a1 ((a2.toInt - a1.toInt).toNat + 1) _ _ hh (by exact ⟨by omega, by omega, by omega, rfl⟩) (by omega) _ (lv_sub hl [1, 2, 3, 0] rfl)
set_option maxHeartbeats 4000000 in
set_option maxRecDepth 20000 in
theorem uX14_sentenceEndKv9 (l : Launch) (dC : Nat → ClassId) (dI : Nat → Nat → Nat) (ca : Nat → ClassId) (base : Nat) (B : jF) (hB : jBok B) (hAp : jAp (dC, dI)) (hB101 : ∀ n G a H, B 101 n G a H ↔ jAr (dC, dI) (ca 1) (fun j z => True) n a H) (hB194 : ∀ n G a H, B 194 n G a H ↔ jAr (dC, dI) (ca 1) (fun j z => True) n a H) (G0 : jT) (H0 : Heap) (r0 : Nat) (a1 : Int32) (a2 : Int32) (n0 : Nat) (f0 : Nat → Int32) : Met l yX14_sentenceEnd (jw yX14_sentenceEnd cX14_sentenceEnd 4 (some .int)) ({ frames := 2, cells := 0, slots := 0, locals := 46 }) (va_Pc [.ref r0, .int a1, .int a2] (fun U => U.heap = H0 ∧ jX B base G0 [] H0 ∧ jG dC dI ca base U ∧ G0 r0 = some (194, n0) ∧ jP (dC, dI) G0 H0 [] ∧ jMc (dC, dI) G0 H0 [(r0, 194, n0, ca 1, f0)] ∧ 0 ≤ a1.toInt ∧ a1.toInt ≤ a2.toInt ∧ a2.toInt ≤ n0 ∧ n0 ≤ 200000)) (va_Qi (S := Unit) (fun r u => (r.toInt = jSen f0 a2.toInt a1.toInt ∧ -1 ≤ r.toInt ∧ r.toInt ≤ a2.toInt ∧ (r.toInt = -1 ∨ a1.toInt < r.toInt))) (fun u t => jRt (dC, dI) B base G0 EX14_sentenceEndKv9 H0 [] t.heap) (jA base)) 0 0 (jA base) := by
  refine Met.ofW (cc := cX14_sentenceEnd) (maxL := 4) (ret := (some .int)) (by decide) rfl ?_
  intro p e s m args below meth c s₁ Bd hml hv
  obtain ⟨rfl, hH0, hX, hG, hg_r0, hP0, hM0, hp0, hp1, hp2, hp3⟩ := hv
  have hK := hG.1
  have hx := Bd.exec
  have hb := Bd.bytes
  have hr := Bd.returns
  have hts := atoms_spec (ws := (jw yX14_sentenceEnd cX14_sentenceEnd 4 (some .int))) Bd.pre
  have htw : ∀ w ∈ jWl, w.before _ s = true := fun w h => hts w (List.mem_cons_of_mem _ h)
  have hown : s.vm.findClass RX14 = some m.cls := findClass_of_methodNamed Bd.named
  have hlocks := Bd.notSynchronized
  obtain ⟨Q, hQ⟩ : ∃ Q, Q = MQ below (va_Qi (S := Unit) (fun r u => (r.toInt = jSen f0 a2.toInt a1.toInt ∧ -1 ≤ r.toInt ∧ r.toInt ≤ a2.toInt ∧ (r.toInt = -1 ∨ a1.toInt < r.toInt))) (fun u t => jRt (dC, dI) B base G0 EX14_sentenceEndKv9 H0 [] t.heap) (jA base)) ([.ref r0, .int a1, .int a2] : List Value).toArray s 0 0 (jA base) := ⟨_, rfl⟩
  rw [← hQ]
  have hl := lv_entry ([.ref r0, .int a1, .int a2]) (n := 4) (Nat.le_of_ble_eq_true rfl)
  rw [lg_entry_eq]
  generalize (lg_sl ([.ref r0, .int a1, .int a2]) ++ List.replicate (4 - (lg_sl ([.ref r0, .int a1, .int a2])).length) Slot.unset).toArray = ls at hl ⊢
  have hl : lv_has ls 4 [(0, .ref r0), (1, .int a1), (2, .int a2)] := hl
  generalize hR : (headSpec (jw yX14_sentenceEnd cX14_sentenceEnd 4 (some .int)) ({ frames := 2, cells := 0, slots := 0, locals := 46 })).room = R
  subst hH0
  have hh : jSt (dC, dI) B base G0 G0 EX14_sentenceEndKv9 s.heap 0 0 [] [(r0, 194, n0, ca 1, f0)] [] s.heap [] := jSt.start hX hP0 hM0 jIs.nil
  clear hX hP0
  have hkm1 : ((-1) : Int32).toInt = (-1) := by decide
  have hk0 : (0 : Int32).toInt = 0 := by decide
  have hk1 : (1 : Int32).toInt = 1 := by decide
  have hk46 : (46 : Int32).toInt = 46 := by decide
  have hrg_a1 := jb_rng a1
  have hrg_a2 := jb_rng a2
  refine lv_iload_n hx hb dX14_sentenceEnd_0 rfl (lv_at hl 1 rfl) ?_
  refine lv_istore_n (lv' := [(3, .int a1), (0, .ref r0), (1, .int a1), (2, .int a2)]) hx hb dX14_sentenceEnd_1 rfl hl (by decide) rfl (fun ls hl => ?_)
  have L2 : ∀ (N : Nat) (v3_1 : Int32) (kf : Nat) (H_1 : Heap) (locs_1 : List Loc), jSt (dC, dI) B base G0 G0 EX14_sentenceEndKv9 s.heap 0 0 [] [(r0, 194, n0, ca 1, f0)] [] H_1 locs_1 → (a1.toInt ≤ v3_1.toInt ∧ v3_1.toInt ≤ a2.toInt ∧ a2.toInt - v3_1.toInt < kf ∧ jSx f0 a2.toInt kf v3_1.toInt = jSen f0 a2.toInt a1.toInt) → (a2.toInt - v3_1.toInt : Int) < N → ∀ ls : Array Slot, lv_has ls 4 [(0, .ref r0), (1, .int a1), (2, .int a2), (3, .int v3_1)] → W p l e R s m ([.ref r0, .int a1, .int a2] : List Value).toArray below meth c H_1 locs_1 0 0 Q (F0 m 2 ls []) := by
    intro N
    induction N with
    | zero => intro v3_1 kf H_1 locs_1 hh_1  hi_1 hm; exact absurd hm (by omega)
    | succ N L2 =>
      intro v3_1 kf H_1 locs_1 hh_1  hi_1 hm_1 ls hl
      obtain ⟨hi_1_0, hi_1_1, hi_1_2, hi_1_3⟩ := hi_1
      refine lv_iload_n hx hb dX14_sentenceEnd_2 rfl (lv_at hl 3 rfl) ?_
      refine lv_iload_n hx hb dX14_sentenceEnd_3 rfl (lv_at hl 2 rfl) ?_
      refine lv_icmp_ge (tgt := 76) hx hb dX14_sentenceEnd_4 (by decide) (fun c_2 => ?_) (fun c_2 => ?_)
      · skip
        have c_2' : v3_1.toInt ≥ a2.toInt := jb_ge (rfl) (rfl) c_2
        refine lv_iconst (v := (-1)) hx hb dX14_sentenceEnd_76 (by decide) ?_
        rw [hQ]
        exact W.iret (v := (-1)) hx hb hr (fun t ht hW => ⟨⟨(-1), (), rfl, by refine ⟨?_, by omega, by omega, by omega⟩; exact (jSx_o (by omega) (by omega) hkm1).trans hi_1_3, hh_1.rt (M1 := []) [] rfl ht⟩, by rw [ht]; try exact hh_1.1.1, fun q h9 hq => by rw [ht]; try exact hh_1.1.2.1 q h9 hq⟩) hh_1.1.2.2 dX14_sentenceEnd_77
      · skip
        have c_2' : v3_1.toInt < a2.toInt := jb_ge_n (rfl) (rfl) c_2
        refine lv_aload_n hx hb dX14_sentenceEnd_7 rfl (lv_at hl 0 rfl) ?_
        refine lv_iload_n hx hb dX14_sentenceEnd_8 rfl (lv_at hl 3 rfl) ?_
        refine lv_iload_n hx hb dX14_sentenceEnd_9 rfl (lv_at hl 2 rfl) ?_
        refine va_calli (A0 := jA base) (H0 := s.heap) (va_runS (As := [.ref r0, .int v3_1, .int a2]) (rest := []) ⟨hx, hb, hml, hown, hts⟩ (uX14_opensv9 l dC dI ca base B hB hAp hB194 G0 H_1 r0 v3_1 a2 n0 f0) (va_cwS 3 hts (jgS (jWr_57 _ (List.mem_of_getElem? (i := 19) rfl)) (jWr_57 _ (List.mem_of_getElem? (i := 20) rfl)) (jWr_1 _ (List.mem_of_getElem? (i := 5) rfl)) (jWr_57 _ (List.mem_of_getElem? (i := 21) rfl))) rfl rfl rfl (by decide +kernel) ⟨by rw [← hR]; exact Nat.le_of_ble_eq_true rfl, by rw [← hR]; exact Nat.le_of_ble_eq_true rfl⟩) ⟨fun a U g mk q => by obtain ⟨q0, q1, q2, qK, q10, q11, q12, q13⟩ := q; exact ⟨q0, q1, q2, jG.calling g mk a qK, q10, q11, q12, q13⟩, fun U hU hW => ⟨rfl, hU, hh_1.2.1, hG.step hW hU hh_1.1, hg_r0, jP.nil, (hh_1.2.2.2.2.2.2.2.1.sub (L1 := [(r0, 194, n0, ca 1, f0)]) [0] rfl), by first | omega | (refine ⟨?_, ?_, ?_, ?_, ?_⟩ <;> (first | omega | rfl | assumption | decide | exact Or.inl rfl | exact Or.inr rfl | (simp only; omega)))⟩⟩ rfl rfl hl.1 rfl (lv_room (Nat.le_of_ble_eq_true rfl)) dX14_sentenceEnd_10 ⟨Nat.zero_le _, Nat.zero_le _⟩) hh_1.1 (fun q _ h => h) (fun q h => h) (fun r_4 u_3 t_3 H_3 locs_3 ht_3 hvm_3 hr_4 hb_3 hz_3 hk_3 hS_3 => ?_)
        rw [ht_3] at hb_3
        obtain ⟨hb_31, hb_32, hb_33, hb_34, hb_35⟩ := hb_3
        have hh_3 : jSt (dC, dI) B base G0 G0 EX14_sentenceEndKv9 s.heap 0 0 [] [(r0, 194, n0, ca 1, f0)] [] H_3 locs_3 := ((hh_1.call hb_31 hb_32 hb_33 hb_34 hS_3 rfl (L1 := []) [] rfl rfl (M1 := [(r0, 194, n0, ca 1, f0)]) [0] rfl rfl (I1 := []) [] rfl rfl).more hb_35)
        clear hh_1 ht_3 hvm_3 hz_3 hk_3 hS_3 hb_31 hb_32 hb_33 hb_34 hb_35
        obtain ⟨hr_4b, hr_4p⟩ := hr_4
        obtain ⟨hr_4p_0, hr_4p_1⟩ := hr_4p
        have hr_4' := jb_01 hr_4b
        refine lv_if_eq (tgt := 29) hx hb dX14_sentenceEnd_13 (by decide) (fun c_5 => ?_) (fun c_5 => ?_)
        · skip
          have c_5' : r_4.toInt = 0 := jb_eq (rfl) ((by decide)) c_5
          refine lv_aload_n hx hb dX14_sentenceEnd_29 rfl (lv_at hl 0 rfl) ?_
          refine lv_iload_n hx hb dX14_sentenceEnd_30 rfl (lv_at hl 3 rfl) ?_
          refine j7_ialdM hx hb hK hh_3 hB194 1 rfl (by decide) hg_r0 (x := v3_1.toInt) (rfl) (by omega) (j := 0) rfl dX14_sentenceEnd_31 (fun z_6 ez_6 (hz_6 : True) => ?_)
          have hqz_6 : z_6.toInt = jSo f0 (v3_1.toInt) := by unfold jSo; rw [ez_6]
          refine lv_bipush (v := 46) hx hb dX14_sentenceEnd_32 (by decide) ?_
          refine lv_icmp_ne (tgt := 70) hx hb dX14_sentenceEnd_34 (by decide) (fun c_7 => ?_) (fun c_7 => ?_)
          · skip
            have c_7' : z_6.toInt ≠ 46 := jb_ne (rfl) ((by decide)) c_7
            obtain ⟨z_8, ez_8⟩ : ∃ y : Int32, y = v3_1 + 1 := ⟨_, rfl⟩
            refine lv_iinc (v := z_8) (lv' := [(3, .int z_8), (0, .ref r0), (1, .int a1), (2, .int a2)]) hx hb dX14_sentenceEnd_70 hl (k := 3) rfl (by rw [ez_8]; rfl) (by decide) rfl (fun ls hl => ?_)
            have hz_8 : z_8.toInt = v3_1.toInt + 1 := by rw [ez_8]; exact jb_iadd2 (rfl) (by decide) (by omega)
            refine lv_goto (tgt := 2) hx hb dX14_sentenceEnd_73 (by decide) ?_
            exact L2 z_8 (kf - 1) _ _ hh_3 (by refine ⟨by omega, by omega, by omega, ?_⟩; first | exact (jSx_c (by omega) (by omega) (by omega) (by omega) (zz_none)).trans hi_1_3 | exact (jSx_n (by omega) (by omega) (by omega) (jDt_0 (by first | exact Or.inl (by rw [← hqz_6]; omega) | exact Or.inr ⟨by omega, (by rw [← (zz_none), ← (zz_none)]; omega), by omega⟩)) (by omega)).trans hi_1_3) (by omega) _ (lv_sub hl [1, 2, 3, 0] rfl)
          · skip
            have c_7' : z_6.toInt = 46 := jb_ne_n (rfl) ((by decide)) c_7
            refine lv_iload_n hx hb dX14_sentenceEnd_37 rfl (lv_at hl 3 rfl) ?_
            refine lv_iconst (v := 1) hx hb dX14_sentenceEnd_38 (by decide) ?_
            refine lv_iadd hx hb dX14_sentenceEnd_39 ?_
            refine lv_topi (fun z_9 ez_9 => ?_)
            have hz_9 : z_9.toInt = v3_1.toInt + 1 := by rw [ez_9]; exact jb_iadd2 (rfl) ((by decide)) (by omega)
            refine lv_iload_n hx hb dX14_sentenceEnd_40 rfl (lv_at hl 2 rfl) ?_
            refine lv_icmp_eq (tgt := 66) hx hb dX14_sentenceEnd_41 (by decide) (fun c_10 => ?_) (fun c_10 => ?_)
            · skip
              have c_10' : z_9.toInt = a2.toInt := jb_eq (rfl) (rfl) c_10
              refine lv_iload_n hx hb dX14_sentenceEnd_66 rfl (lv_at hl 3 rfl) ?_
              refine lv_iconst (v := 1) hx hb dX14_sentenceEnd_67 (by decide) ?_
              refine lv_iadd hx hb dX14_sentenceEnd_68 ?_
              refine lv_topi (fun z_11 ez_11 => ?_)
              have hz_11 : z_11.toInt = v3_1.toInt + 1 := by rw [ez_11]; exact jb_iadd2 (rfl) ((by decide)) (by omega)
              rw [hQ]
              exact W.iret (v := z_11) hx hb hr (fun t ht hW => ⟨⟨z_11, (), rfl, by refine ⟨?_, by omega, by omega, by omega⟩; exact (jSx_d (by omega) (by omega) (by omega) (jDt_1 (by rw [← hqz_6]; omega) (by first | exact Or.inl (by omega) | exact Or.inr (Or.inl (by rw [← (zz_none), ← (zz_none)]; omega)) | exact Or.inr (Or.inr (by rw [ho60]; omega)))) (by omega)).trans hi_1_3, hh_3.rt (M1 := []) [] rfl ht⟩, by rw [ht]; try exact hh_3.1.1, fun q h9 hq => by rw [ht]; try exact hh_3.1.2.1 q h9 hq⟩) hh_3.1.2.2 dX14_sentenceEnd_69
            · skip
              have c_10' : z_9.toInt ≠ a2.toInt := jb_eq_n (rfl) (rfl) c_10
              refine lv_aload_n hx hb dX14_sentenceEnd_44 rfl (lv_at hl 0 rfl) ?_
              refine lv_iload_n hx hb dX14_sentenceEnd_45 rfl (lv_at hl 3 rfl) ?_
              refine lv_iconst (v := 1) hx hb dX14_sentenceEnd_46 (by decide) ?_
              refine lv_iadd hx hb dX14_sentenceEnd_47 ?_
              refine lv_topi (fun z_12 ez_12 => ?_)
              have hz_12 : z_12.toInt = v3_1.toInt + 1 := by rw [ez_12]; exact jb_iadd2 (rfl) ((by decide)) (by omega)
              refine j7_ialdM hx hb hK hh_3 hB194 1 rfl (by decide) hg_r0 (x := z_12.toInt) (rfl) (by omega) (j := 0) rfl dX14_sentenceEnd_48 (fun z_13 ez_13 (hz_13 : True) => ?_)
              have hqz_13 : z_13.toInt = jSo f0 ((v3_1.toInt + 1)) := by unfold jSo; rw [ez_13, show z_12.toInt = (v3_1.toInt + 1) by omega]
              refine va_calli (A0 := jA base) (H0 := s.heap) (va_runS (As := [.int z_13]) (rest := []) ⟨hx, hb, hml, hown, hts⟩ (uX14_isBlankK l dC dI ca base B hB hAp G0 H_3 z_13) (va_cwS 1 hts (jgS (jWr_57 _ (List.mem_of_getElem? (i := 16) rfl)) (jWr_57 _ (List.mem_of_getElem? (i := 17) rfl)) (jWr_1 _ (List.mem_of_getElem? (i := 5) rfl)) (jWr_57 _ (List.mem_of_getElem? (i := 18) rfl))) rfl rfl rfl (by decide +kernel) ⟨by rw [← hR]; exact Nat.le_of_ble_eq_true rfl, by rw [← hR]; exact Nat.le_of_ble_eq_true rfl⟩) ⟨fun a U g mk q => by obtain ⟨q0, q1, q2, qK, q10, q11⟩ := q; exact ⟨q0, q1, q2, jG.calling g mk a qK, q10, q11⟩, fun U hU hW => ⟨rfl, hU, hh_3.2.1, hG.step hW hU hh_3.1, jP.nil, trivial⟩⟩ rfl rfl hl.1 rfl (lv_room (Nat.le_of_ble_eq_true rfl)) dX14_sentenceEnd_49 ⟨Nat.zero_le _, Nat.zero_le _⟩) hh_3.1 (fun q _ h => h) (fun q h => h) (fun r_15 u_14 t_14 H_14 locs_14 ht_14 hvm_14 hr_15 hb_14 hz_14 hk_14 hS_14 => ?_)
              rw [ht_14] at hb_14
              obtain ⟨hb_141, hb_142, hb_143, hb_144, hb_145⟩ := hb_14
              have hh_14 : jSt (dC, dI) B base G0 G0 EX14_sentenceEndKv9 s.heap 0 0 [] [(r0, 194, n0, ca 1, f0)] [] H_14 locs_14 := ((hh_3.call hb_141 hb_142 hb_143 hb_144 hS_14 rfl (L1 := []) [] rfl rfl (M1 := [(r0, 194, n0, ca 1, f0)]) [0] rfl rfl (I1 := []) [] rfl rfl).more hb_145)
              clear hh_3 ht_14 hvm_14 hz_14 hk_14 hS_14 hb_141 hb_142 hb_143 hb_144 hb_145
              obtain ⟨hr_15b, hr_15p⟩ := hr_15
              have hr_15' := jb_01 hr_15b
              refine lv_if_ne (tgt := 66) hx hb dX14_sentenceEnd_52 (by decide) (fun c_16 => ?_) (fun c_16 => ?_)
              · skip
                have c_16' : r_15.toInt ≠ 0 := jb_ne (rfl) ((by decide)) c_16
                refine lv_iload_n hx hb dX14_sentenceEnd_66 rfl (lv_at hl 3 rfl) ?_
                refine lv_iconst (v := 1) hx hb dX14_sentenceEnd_67 (by decide) ?_
                refine lv_iadd hx hb dX14_sentenceEnd_68 ?_
                refine lv_topi (fun z_17 ez_17 => ?_)
                have hz_17 : z_17.toInt = v3_1.toInt + 1 := by rw [ez_17]; exact jb_iadd2 (rfl) ((by decide)) (by omega)
                rw [hQ]
                exact W.iret (v := z_17) hx hb hr (fun t ht hW => ⟨⟨z_17, (), rfl, by refine ⟨?_, by omega, by omega, by omega⟩; exact (jSx_d (by omega) (by omega) (by omega) (jDt_1 (by rw [← hqz_6]; omega) (by first | exact Or.inl (by omega) | exact Or.inr (Or.inl (by rw [← hqz_13, ← hr_15p]; omega)) | exact Or.inr (Or.inr (by rw [ho60]; omega)))) (by omega)).trans hi_1_3, hh_14.rt (M1 := []) [] rfl ht⟩, by rw [ht]; try exact hh_14.1.1, fun q h9 hq => by rw [ht]; try exact hh_14.1.2.1 q h9 hq⟩) hh_14.1.2.2 dX14_sentenceEnd_69
              · skip
                have c_16' : r_15.toInt = 0 := jb_ne_n (rfl) ((by decide)) c_16
                refine lv_aload_n hx hb dX14_sentenceEnd_55 rfl (lv_at hl 0 rfl) ?_
                refine lv_iload_n hx hb dX14_sentenceEnd_56 rfl (lv_at hl 3 rfl) ?_
                refine lv_iconst (v := 1) hx hb dX14_sentenceEnd_57 (by decide) ?_
                refine lv_iadd hx hb dX14_sentenceEnd_58 ?_
                refine lv_topi (fun z_18 ez_18 => ?_)
                have hz_18 : z_18.toInt = v3_1.toInt + 1 := by rw [ez_18]; exact jb_iadd2 (rfl) ((by decide)) (by omega)
                refine lv_iload_n hx hb dX14_sentenceEnd_59 rfl (lv_at hl 2 rfl) ?_
                refine va_calli (A0 := jA base) (H0 := s.heap) (va_runS (As := [.ref r0, .int z_18, .int a2]) (rest := []) ⟨hx, hb, hml, hown, hts⟩ (uX14_opensv9 l dC dI ca base B hB hAp hB194 G0 H_14 r0 z_18 a2 n0 f0) (va_cwS 3 hts (jgS (jWr_57 _ (List.mem_of_getElem? (i := 19) rfl)) (jWr_57 _ (List.mem_of_getElem? (i := 20) rfl)) (jWr_1 _ (List.mem_of_getElem? (i := 5) rfl)) (jWr_57 _ (List.mem_of_getElem? (i := 21) rfl))) rfl rfl rfl (by decide +kernel) ⟨by rw [← hR]; exact Nat.le_of_ble_eq_true rfl, by rw [← hR]; exact Nat.le_of_ble_eq_true rfl⟩) ⟨fun a U g mk q => by obtain ⟨q0, q1, q2, qK, q10, q11, q12, q13⟩ := q; exact ⟨q0, q1, q2, jG.calling g mk a qK, q10, q11, q12, q13⟩, fun U hU hW => ⟨rfl, hU, hh_14.2.1, hG.step hW hU hh_14.1, hg_r0, jP.nil, (hh_14.2.2.2.2.2.2.2.1.sub (L1 := [(r0, 194, n0, ca 1, f0)]) [0] rfl), by first | omega | (refine ⟨?_, ?_, ?_, ?_, ?_⟩ <;> (first | omega | rfl | assumption | decide | exact Or.inl rfl | exact Or.inr rfl | (simp only; omega)))⟩⟩ rfl rfl hl.1 rfl (lv_room (Nat.le_of_ble_eq_true rfl)) dX14_sentenceEnd_60 ⟨Nat.zero_le _, Nat.zero_le _⟩) hh_14.1 (fun q _ h => h) (fun q h => h) (fun r_20 u_19 t_19 H_19 locs_19 ht_19 hvm_19 hr_20 hb_19 hz_19 hk_19 hS_19 => ?_)
                rw [ht_19] at hb_19
                obtain ⟨hb_191, hb_192, hb_193, hb_194, hb_195⟩ := hb_19
                have hh_19 : jSt (dC, dI) B base G0 G0 EX14_sentenceEndKv9 s.heap 0 0 [] [(r0, 194, n0, ca 1, f0)] [] H_19 locs_19 := ((hh_14.call hb_191 hb_192 hb_193 hb_194 hS_19 rfl (L1 := []) [] rfl rfl (M1 := [(r0, 194, n0, ca 1, f0)]) [0] rfl rfl (I1 := []) [] rfl rfl).more hb_195)
                clear hh_14 ht_19 hvm_19 hz_19 hk_19 hS_19 hb_191 hb_192 hb_193 hb_194 hb_195
                obtain ⟨hr_20b, hr_20p⟩ := hr_20
                obtain ⟨hr_20p_0, hr_20p_1⟩ := hr_20p
                have ho60 : jOpI f0 (v3_1.toInt + 1) a2.toInt = r_20.toInt := by rw [hr_20p_0]; congr 1; omega
                have hr_20' := jb_01 hr_20b
                refine lv_if_eq (tgt := 70) hx hb dX14_sentenceEnd_63 (by decide) (fun c_21 => ?_) (fun c_21 => ?_)
                · skip
                  have c_21' : r_20.toInt = 0 := jb_eq (rfl) ((by decide)) c_21
                  obtain ⟨z_22, ez_22⟩ : ∃ y : Int32, y = v3_1 + 1 := ⟨_, rfl⟩
                  refine lv_iinc (v := z_22) (lv' := [(3, .int z_22), (0, .ref r0), (1, .int a1), (2, .int a2)]) hx hb dX14_sentenceEnd_70 hl (k := 3) rfl (by rw [ez_22]; rfl) (by decide) rfl (fun ls hl => ?_)
                  have hz_22 : z_22.toInt = v3_1.toInt + 1 := by rw [ez_22]; exact jb_iadd2 (rfl) (by decide) (by omega)
                  refine lv_goto (tgt := 2) hx hb dX14_sentenceEnd_73 (by decide) ?_
                  exact L2 z_22 (kf - 1) _ _ hh_19 (by refine ⟨by omega, by omega, by omega, ?_⟩; first | exact (jSx_c (by omega) (by omega) (by omega) (by omega) (zz_none)).trans hi_1_3 | exact (jSx_n (by omega) (by omega) (by omega) (jDt_0 (by first | exact Or.inl (by rw [← hqz_6]; omega) | exact Or.inr ⟨by omega, (by rw [← hqz_13, ← hr_15p]; omega), by omega⟩)) (by omega)).trans hi_1_3) (by omega) _ (lv_sub hl [1, 2, 3, 0] rfl)
                · skip
                  have c_21' : r_20.toInt ≠ 0 := jb_eq_n (rfl) ((by decide)) c_21
                  refine lv_iload_n hx hb dX14_sentenceEnd_66 rfl (lv_at hl 3 rfl) ?_
                  refine lv_iconst (v := 1) hx hb dX14_sentenceEnd_67 (by decide) ?_
                  refine lv_iadd hx hb dX14_sentenceEnd_68 ?_
                  refine lv_topi (fun z_23 ez_23 => ?_)
                  have hz_23 : z_23.toInt = v3_1.toInt + 1 := by rw [ez_23]; exact jb_iadd2 (rfl) ((by decide)) (by omega)
                  rw [hQ]
                  exact W.iret (v := z_23) hx hb hr (fun t ht hW => ⟨⟨z_23, (), rfl, by refine ⟨?_, by omega, by omega, by omega⟩; exact (jSx_d (by omega) (by omega) (by omega) (jDt_1 (by rw [← hqz_6]; omega) (by first | exact Or.inl (by omega) | exact Or.inr (Or.inl (by rw [← hqz_13, ← hr_15p]; omega)) | exact Or.inr (Or.inr (by rw [ho60]; omega)))) (by omega)).trans hi_1_3, hh_19.rt (M1 := []) [] rfl ht⟩, by rw [ht]; try exact hh_19.1.1, fun q h9 hq => by rw [ht]; try exact hh_19.1.2.1 q h9 hq⟩) hh_19.1.2.2 dX14_sentenceEnd_69
        · skip
          have c_5' : r_4.toInt ≠ 0 := jb_eq_n (rfl) ((by decide)) c_5
          refine lv_aload_n hx hb dX14_sentenceEnd_16 rfl (lv_at hl 0 rfl) ?_
          refine lv_iload_n hx hb dX14_sentenceEnd_17 rfl (lv_at hl 3 rfl) ?_
          refine lv_iload_n hx hb dX14_sentenceEnd_18 rfl (lv_at hl 2 rfl) ?_
          refine va_calli (A0 := jA base) (H0 := s.heap) (va_runS (As := [.ref r0, .int v3_1, .int a2]) (rest := []) ⟨hx, hb, hml, hown, hts⟩ (uX14_behindCommentv9 l dC dI ca base B hB hAp hB101 hB194 G0 H_3 r0 v3_1 a2 n0 f0) (va_cwS 3 hts (jgS (jWr_57 _ (List.mem_of_getElem? (i := 22) rfl)) (jWr_57 _ (List.mem_of_getElem? (i := 23) rfl)) (jWr_1 _ (List.mem_of_getElem? (i := 5) rfl)) (jWr_58 _ (List.mem_of_getElem? (i := 0) rfl))) rfl rfl rfl (by decide +kernel) ⟨by rw [← hR]; exact Nat.le_of_ble_eq_true rfl, by rw [← hR]; exact Nat.le_of_ble_eq_true rfl⟩) ⟨fun a U g mk q => by obtain ⟨q0, q1, q2, qK, q10, q11, q12, q13⟩ := q; exact ⟨q0, q1, q2, jG.calling g mk a qK, q10, q11, q12, q13⟩, fun U hU hW => ⟨rfl, hU, hh_3.2.1, hG.step hW hU hh_3.1, hg_r0, jP.nil, (hh_3.2.2.2.2.2.2.2.1.sub (L1 := [(r0, 194, n0, ca 1, f0)]) [0] rfl), by first | omega | (refine ⟨?_, ?_, ?_, ?_⟩ <;> (first | omega | rfl | assumption | decide | exact Or.inl rfl | exact Or.inr rfl | (simp only; omega)))⟩⟩ rfl rfl hl.1 rfl (lv_room (Nat.le_of_ble_eq_true rfl)) dX14_sentenceEnd_19 ⟨Nat.zero_le _, Nat.zero_le _⟩) hh_3.1 (fun q _ h => h) (fun q h => h) (fun r_25 u_24 t_24 H_24 locs_24 ht_24 hvm_24 hr_25 hb_24 hz_24 hk_24 hS_24 => ?_)
          rw [ht_24] at hb_24
          obtain ⟨hb_241, hb_242, hb_243, hb_244, hb_245⟩ := hb_24
          have hh_24 : jSt (dC, dI) B base G0 G0 EX14_sentenceEndKv9 s.heap 0 0 [] [(r0, 194, n0, ca 1, f0)] [] H_24 locs_24 := ((hh_3.call hb_241 hb_242 hb_243 hb_244 hS_24 rfl (L1 := []) [] rfl rfl (M1 := [(r0, 194, n0, ca 1, f0)]) [0] rfl rfl (I1 := []) [] rfl rfl).more hb_245)
          clear hh_3 ht_24 hvm_24 hz_24 hk_24 hS_24 hb_241 hb_242 hb_243 hb_244 hb_245
          obtain ⟨hr_25_0, hr_25_1, hr_25_2, hr_25_3⟩ := hr_25
          refine lv_istore_n (lv' := [(3, .int r_25), (0, .ref r0), (1, .int a1), (2, .int a2)]) hx hb dX14_sentenceEnd_22 rfl hl (by decide) rfl (fun ls hl => ?_)
          refine lv_iload_n hx hb dX14_sentenceEnd_23 rfl (lv_at hl 0 rfl) ?_
          refine lv_if_ge (tgt := 2) hx hb dX14_sentenceEnd_24 (by decide) (fun c_26 => ?_) (fun c_26 => ?_)
          · skip
            have c_26' : r_25.toInt ≥ 0 := jb_ge (rfl) ((by decide)) c_26
            first | (have hr_25_3q := hr_25_3.resolve_left (by omega); clear hr_25_3) | (have hr_25_3q := hr_25_3.resolve_right (by omega); clear hr_25_3) | skip
            exact L2 r_25 (kf - 1) _ _ hh_24 (by refine ⟨by omega, by omega, by omega, ?_⟩; first | exact (jSx_c (by omega) (by omega) (by omega) (by omega) hr_25_0).trans hi_1_3 | exact (jSx_n (by omega) (by omega) (by omega) (jDt_0 (by first | exact Or.inl (by rw [← (zz_none)]; omega) | exact Or.inr ⟨by omega, (by rw [← (zz_none), ← (zz_none)]; omega), by omega⟩)) (by omega)).trans hi_1_3) (by omega) _ (lv_sub hl [1, 2, 3, 0] rfl)
          · skip
            have c_26' : r_25.toInt < 0 := jb_ge_n (rfl) ((by decide)) c_26
            first | (have hr_25_3q := hr_25_3.resolve_left (by omega); clear hr_25_3) | (have hr_25_3q := hr_25_3.resolve_right (by omega); clear hr_25_3) | skip
            refine lv_iconst (v := (-1)) hx hb dX14_sentenceEnd_27 (by decide) ?_
            rw [hQ]
            exact W.iret (v := (-1)) hx hb hr (fun t ht hW => ⟨⟨(-1), (), rfl, by refine ⟨?_, by omega, by omega, by omega⟩; exact (jSx_u (b := r_25.toInt) (by omega) (by omega) (by omega) (by omega) hr_25_0 hkm1).trans hi_1_3, hh_24.rt (M1 := []) [] rfl ht⟩, by rw [ht]; try exact hh_24.1.1, fun q h9 hq => by rw [ht]; try exact hh_24.1.2.1 q h9 hq⟩) hh_24.1.2.2 dX14_sentenceEnd_28
  exact L2 (a2.toInt - (a1 : Int32).toInt : Int).toNat.succ a1 ((a2.toInt - a1.toInt).toNat + 1) _ _ hh (by exact ⟨by omega, by omega, by omega, rfl⟩) (by omega) _ (lv_sub hl [1, 2, 3, 0] rfl)
end
section
theorem dX14_isSame_0 : decode cX14_isSame 0 = .ok (.aload_n 0, 1) := by decide +kernel
theorem dX14_isSame_1 : decode cX14_isSame 1 = .ok (.getfield 594, 3) := by decide +kernel
theorem dX14_isSame_4 : decode cX14_isSame 4 = .ok (.iload_n 1, 1) := by decide +kernel
theorem dX14_isSame_5 : decode cX14_isSame 5 = .ok (.iaload, 1) := by decide +kernel
theorem dX14_isSame_6 : decode cX14_isSame 6 = .ok (.aload_n 0, 1) := by decide +kernel
theorem dX14_isSame_7 : decode cX14_isSame 7 = .ok (.getfield 596, 3) := by decide +kernel
theorem dX14_isSame_10 : decode cX14_isSame 10 = .ok (.iload_n 1, 1) := by decide +kernel
theorem dX14_isSame_11 : decode cX14_isSame 11 = .ok (.iaload, 1) := by decide +kernel
theorem dX14_isSame_12 : decode cX14_isSame 12 = .ok (.isub, 1) := by decide +kernel
theorem dX14_isSame_13 : decode cX14_isSame 13 = .ok (.istore 4, 2) := by decide +kernel
theorem dX14_isSame_15 : decode cX14_isSame 15 = .ok (.aload_n 2, 1) := by decide +kernel
theorem dX14_isSame_16 : decode cX14_isSame 16 = .ok (.getfield 594, 3) := by decide +kernel
theorem dX14_isSame_19 : decode cX14_isSame 19 = .ok (.iload_n 3, 1) := by decide +kernel
theorem dX14_isSame_20 : decode cX14_isSame 20 = .ok (.iaload, 1) := by decide +kernel
theorem dX14_isSame_21 : decode cX14_isSame 21 = .ok (.aload_n 2, 1) := by decide +kernel
theorem dX14_isSame_22 : decode cX14_isSame 22 = .ok (.getfield 596, 3) := by decide +kernel
theorem dX14_isSame_25 : decode cX14_isSame 25 = .ok (.iload_n 3, 1) := by decide +kernel
theorem dX14_isSame_26 : decode cX14_isSame 26 = .ok (.iaload, 1) := by decide +kernel
theorem dX14_isSame_27 : decode cX14_isSame 27 = .ok (.isub, 1) := by decide +kernel
theorem dX14_isSame_28 : decode cX14_isSame 28 = .ok (.iload 4, 2) := by decide +kernel
theorem dX14_isSame_30 : decode cX14_isSame 30 = .ok (.if_icmp .ne 18, 3) := by decide +kernel
theorem dX14_isSame_33 : decode cX14_isSame 33 = .ok (.aload_n 0, 1) := by decide +kernel
theorem dX14_isSame_34 : decode cX14_isSame 34 = .ok (.getfield 599, 3) := by decide +kernel
theorem dX14_isSame_37 : decode cX14_isSame 37 = .ok (.iload_n 1, 1) := by decide +kernel
theorem dX14_isSame_38 : decode cX14_isSame 38 = .ok (.iaload, 1) := by decide +kernel
theorem dX14_isSame_39 : decode cX14_isSame 39 = .ok (.aload_n 2, 1) := by decide +kernel
theorem dX14_isSame_40 : decode cX14_isSame 40 = .ok (.getfield 599, 3) := by decide +kernel
theorem dX14_isSame_43 : decode cX14_isSame 43 = .ok (.iload_n 3, 1) := by decide +kernel
theorem dX14_isSame_44 : decode cX14_isSame 44 = .ok (.iaload, 1) := by decide +kernel
theorem dX14_isSame_45 : decode cX14_isSame 45 = .ok (.if_icmp .eq 5, 3) := by decide +kernel
theorem dX14_isSame_48 : decode cX14_isSame 48 = .ok (.iconst 0, 1) := by decide +kernel
theorem dX14_isSame_49 : decode cX14_isSame 49 = .ok (.ireturn, 1) := by decide +kernel
theorem dX14_isSame_50 : decode cX14_isSame 50 = .ok (.iconst 0, 1) := by decide +kernel
theorem dX14_isSame_51 : decode cX14_isSame 51 = .ok (.istore 5, 2) := by decide +kernel
theorem dX14_isSame_53 : decode cX14_isSame 53 = .ok (.iload 5, 2) := by decide +kernel
theorem dX14_isSame_55 : decode cX14_isSame 55 = .ok (.iload 4, 2) := by decide +kernel
theorem dX14_isSame_57 : decode cX14_isSame 57 = .ok (.if_icmp .ge 42, 3) := by decide +kernel
theorem dX14_isSame_60 : decode cX14_isSame 60 = .ok (.aload_n 0, 1) := by decide +kernel
theorem dX14_isSame_61 : decode cX14_isSame 61 = .ok (.getfield 529, 3) := by decide +kernel
theorem dX14_isSame_64 : decode cX14_isSame 64 = .ok (.aload_n 0, 1) := by decide +kernel
theorem dX14_isSame_65 : decode cX14_isSame 65 = .ok (.getfield 596, 3) := by decide +kernel
theorem dX14_isSame_68 : decode cX14_isSame 68 = .ok (.iload_n 1, 1) := by decide +kernel
theorem dX14_isSame_69 : decode cX14_isSame 69 = .ok (.iaload, 1) := by decide +kernel
theorem dX14_isSame_70 : decode cX14_isSame 70 = .ok (.iload 5, 2) := by decide +kernel
theorem dX14_isSame_72 : decode cX14_isSame 72 = .ok (.iadd, 1) := by decide +kernel
theorem dX14_isSame_73 : decode cX14_isSame 73 = .ok (.iaload, 1) := by decide +kernel
theorem dX14_isSame_74 : decode cX14_isSame 74 = .ok (.aload_n 2, 1) := by decide +kernel
theorem dX14_isSame_75 : decode cX14_isSame 75 = .ok (.getfield 529, 3) := by decide +kernel
theorem dX14_isSame_78 : decode cX14_isSame 78 = .ok (.aload_n 2, 1) := by decide +kernel
theorem dX14_isSame_79 : decode cX14_isSame 79 = .ok (.getfield 596, 3) := by decide +kernel
theorem dX14_isSame_82 : decode cX14_isSame 82 = .ok (.iload_n 3, 1) := by decide +kernel
theorem dX14_isSame_83 : decode cX14_isSame 83 = .ok (.iaload, 1) := by decide +kernel
theorem dX14_isSame_84 : decode cX14_isSame 84 = .ok (.iload 5, 2) := by decide +kernel
theorem dX14_isSame_86 : decode cX14_isSame 86 = .ok (.iadd, 1) := by decide +kernel
theorem dX14_isSame_87 : decode cX14_isSame 87 = .ok (.iaload, 1) := by decide +kernel
theorem dX14_isSame_88 : decode cX14_isSame 88 = .ok (.if_icmp .eq 5, 3) := by decide +kernel
theorem dX14_isSame_91 : decode cX14_isSame 91 = .ok (.iconst 0, 1) := by decide +kernel
theorem dX14_isSame_92 : decode cX14_isSame 92 = .ok (.ireturn, 1) := by decide +kernel
theorem dX14_isSame_93 : decode cX14_isSame 93 = .ok (.iinc 5 1, 3) := by decide +kernel
theorem dX14_isSame_96 : decode cX14_isSame 96 = .ok (.goto (-43), 3) := by decide +kernel
theorem dX14_isSame_99 : decode cX14_isSame 99 = .ok (.iconst 1, 1) := by decide +kernel
theorem dX14_isSame_100 : decode cX14_isSame 100 = .ok (.ireturn, 1) := by decide +kernel
def EX14_isSame : List (Nat × Nat) := []
set_option maxHeartbeats 4000000 in
set_option maxRecDepth 20000 in
theorem uX14_isSame (l : Launch) (dC : Nat → ClassId) (dI : Nat → Nat → Nat) (ca : Nat → ClassId) (base : Nat) (B : jF) (hB : jBok B) (hAp : jAp (dC, dI)) (hB14 : ∀ n G a H, B 14 n G a H ↔ jOb (dC, dI) 14 11 (F14 n G) a H) (hB190 : ∀ n G a H, B 190 n G a H ↔ jAr (dC, dI) (ca 1) (fun j z => 0 ≤ z.toInt ∧ z.toInt ≤ 1500) n a H) (hB191 : ∀ n G a H, B 191 n G a H ↔ jAr (dC, dI) (ca 1) (fun j z => 0 ≤ z.toInt ∧ z.toInt ≤ 1500) n a H) (hB192 : ∀ n G a H, B 192 n G a H ↔ jAr (dC, dI) (ca 1) (fun j z => 0 ≤ z.toInt ∧ z.toInt ≤ 2) n a H) (hB194 : ∀ n G a H, B 194 n G a H ↔ jAr (dC, dI) (ca 1) (fun j z => True) n a H) (G0 : jT) (H0 : Heap) (r0 : Nat) (a1 : Int32) (r2 : Nat) (a3 : Int32) (yb : Nat) (ye : Nat) (xb : Nat) (xe : Nat) (fb : Nat → Int32) (fe : Nat → Int32) (gb : Nat → Int32) (ge : Nat → Int32) : Met l yX14_isSame (jw yX14_isSame cX14_isSame 6 (some .boolean)) ({ frames := 0, cells := 0, slots := 0, locals := 0 }) (va_Pc [.ref r0, .int a1, .ref r2, .int a3] (fun U => U.heap = H0 ∧ jX B base G0 [] H0 ∧ jG dC dI ca base U ∧ G0 r0 = some (14, 0) ∧ G0 r2 = some (14, 0) ∧ G0 yb = some (190, 40) ∧ G0 ye = some (191, 40) ∧ G0 xb = some (190, 40) ∧ G0 xe = some (191, 40) ∧ jP (dC, dI) G0 H0 [(r0, 14, 6, .ref yb), (r0, 14, 7, .ref ye), (r2, 14, 6, .ref xb), (r2, 14, 7, .ref xe)] ∧ jMc (dC, dI) G0 H0 [(yb, 190, 40, ca 1, fb), (ye, 191, 40, ca 1, fe), (xb, 190, 40, ca 1, gb), (xe, 191, 40, ca 1, ge)] ∧ 0 ≤ a1.toInt ∧ a1.toInt ≤ 39 ∧ 0 ≤ a3.toInt ∧ a3.toInt ≤ 39)) (va_Qi (S := Unit) (fun r u => (r = 0 ∨ r = 1) ∧ (True)) (fun u t => jRt (dC, dI) B base G0 EX14_isSame H0 [] t.heap) (jA base)) 0 0 (jA base) := by
  refine Met.ofW (cc := cX14_isSame) (maxL := 6) (ret := (some .boolean)) (by decide) rfl ?_
  intro p e s m args below meth c s₁ Bd hml hv
  obtain ⟨rfl, hH0, hX, hG, hg_r0, hg_r2, hg_yb, hg_ye, hg_xb, hg_xe, hP0, hM0, hp0, hp1, hp2, hp3⟩ := hv
  have hK := hG.1
  have hx := Bd.exec
  have hb := Bd.bytes
  have hr := Bd.returns
  have hts := atoms_spec (ws := (jw yX14_isSame cX14_isSame 6 (some .boolean))) Bd.pre
  have htw : ∀ w ∈ jWl, w.before _ s = true := fun w h => hts w (List.mem_cons_of_mem _ h)
  have hown : s.vm.findClass RX14 = some m.cls := findClass_of_methodNamed Bd.named
  have hlocks := Bd.notSynchronized
  obtain ⟨Q, hQ⟩ : ∃ Q, Q = MQ below (va_Qi (S := Unit) (fun r u => (r = 0 ∨ r = 1) ∧ (True)) (fun u t => jRt (dC, dI) B base G0 EX14_isSame H0 [] t.heap) (jA base)) ([.ref r0, .int a1, .ref r2, .int a3] : List Value).toArray s 0 0 (jA base) := ⟨_, rfl⟩
  rw [← hQ]
  have hl := lv_entry ([.ref r0, .int a1, .ref r2, .int a3]) (n := 6) (Nat.le_of_ble_eq_true rfl)
  rw [lg_entry_eq]
  generalize (lg_sl ([.ref r0, .int a1, .ref r2, .int a3]) ++ List.replicate (6 - (lg_sl ([.ref r0, .int a1, .ref r2, .int a3])).length) Slot.unset).toArray = ls at hl ⊢
  have hl : lv_has ls 6 [(0, .ref r0), (1, .int a1), (2, .ref r2), (3, .int a3)] := hl
  generalize hR : (headSpec (jw yX14_isSame cX14_isSame 6 (some .boolean)) ({ frames := 0, cells := 0, slots := 0, locals := 0 })).room = R
  subst hH0
  have hh : jSt (dC, dI) B base G0 G0 EX14_isSame s.heap 0 0 [(r0, 14, 6, .ref yb), (r0, 14, 7, .ref ye), (r2, 14, 6, .ref xb), (r2, 14, 7, .ref xe)] [(yb, 190, 40, ca 1, fb), (ye, 191, 40, ca 1, fe), (xb, 190, 40, ca 1, gb), (xe, 191, 40, ca 1, ge)] [] s.heap [] := jSt.start hX hP0 hM0 jIs.nil
  clear hX hP0
  have hk0 : (0 : Int32).toInt = 0 := by decide
  have hk1 : (1 : Int32).toInt = 1 := by decide
  have hly_14_3 := htw (u_lay RX12 TX12 3) (jWc_wsX120 _ (u_in_lay (by decide)))
  have hly_14_6 := htw (u_lay RX12 TX12 6) (jWc_wsX120 _ (u_in_lay (by decide)))
  have hly_14_7 := htw (u_lay RX12 TX12 7) (jWc_wsX120 _ (u_in_lay (by decide)))
  have hly_14_8 := htw (u_lay RX12 TX12 8) (jWc_wsX120 _ (u_in_lay (by decide)))
  have hlk_594 := (va_Nw.use (A := ([.ref r0, .int a1, .ref r2, .int a3] : List Value).toArray) rfl (hG.2.1 RX14 594 "ProofServerModel$Document" "end" "[I" "ProofServerModel" (List.mem_of_getElem? (i := 1741) (by decide +kernel))))
  have hlk_596 := (va_Nw.use (A := ([.ref r0, .int a1, .ref r2, .int a3] : List Value).toArray) rfl (hG.2.1 RX14 596 "ProofServerModel$Document" "begin" "[I" "ProofServerModel" (List.mem_of_getElem? (i := 1739) (by decide +kernel))))
  have hlk_599 := (va_Nw.use (A := ([.ref r0, .int a1, .ref r2, .int a3] : List Value).toArray) rfl (hG.2.1 RX14 599 "ProofServerModel$Document" "flaw" "[I" "ProofServerModel" (List.mem_of_getElem? (i := 1743) (by decide +kernel))))
  have hlk_529 := (va_Nw.use (A := ([.ref r0, .int a1, .ref r2, .int a3] : List Value).toArray) rfl (hG.2.1 RX14 529 "ProofServerModel$Document" "text" "[I" "ProofServerModel" (List.mem_of_getElem? (i := 1735) (by decide +kernel))))
  have hrg_a1 := jb_rng a1
  have hrg_a3 := jb_rng a3
  refine lv_aload_n hx hb dX14_isSame_0 rfl (lv_at hl 0 rfl) ?_
  refine j7_readN hx hb hown hK (C := RX12) (T := TX12) (N := 11) rfl hly_14_7 hlk_594 (hh.at 1 rfl) dX14_isSame_1 ?_
  refine lv_iload_n hx hb dX14_isSame_4 rfl (lv_at hl 1 rfl) ?_
  refine j7_ialdM hx hb hK hh hB191 1 rfl (by decide) hg_ye (x := a1.toInt) (rfl) (by omega) (j := 1) rfl dX14_isSame_5 (fun z_1 ez_1 (hz_1 : 0 ≤ z_1.toInt ∧ z_1.toInt ≤ 1500) => ?_)
  have hqz_1 : z_1.toInt = jSo fe (a1.toInt) := by unfold jSo; rw [ez_1]
  refine lv_aload_n hx hb dX14_isSame_6 rfl (lv_at hl 0 rfl) ?_
  refine j7_readN hx hb hown hK (C := RX12) (T := TX12) (N := 11) rfl hly_14_6 hlk_596 (hh.at 0 rfl) dX14_isSame_7 ?_
  refine lv_iload_n hx hb dX14_isSame_10 rfl (lv_at hl 1 rfl) ?_
  refine j7_ialdM hx hb hK hh hB190 1 rfl (by decide) hg_yb (x := a1.toInt) (rfl) (by omega) (j := 0) rfl dX14_isSame_11 (fun z_2 ez_2 (hz_2 : 0 ≤ z_2.toInt ∧ z_2.toInt ≤ 1500) => ?_)
  have hqz_2 : z_2.toInt = jSo fb (a1.toInt) := by unfold jSo; rw [ez_2]
  refine lv_isub hx hb dX14_isSame_12 ?_
  refine lv_topi (fun z_3 ez_3 => ?_)
  have hz_3 : z_3.toInt = z_1.toInt - z_2.toInt := by rw [ez_3]; exact jb_isub2 (rfl) (rfl) (by omega)
  refine lv_istore (lv' := [(4, .int z_3), (0, .ref r0), (1, .int a1), (2, .ref r2), (3, .int a3)]) hx hb dX14_isSame_13 hl (by decide) rfl (fun ls hl => ?_)
  refine lv_aload_n hx hb dX14_isSame_15 rfl (lv_at hl 3 rfl) ?_
  refine j7_readN hx hb hown hK (C := RX12) (T := TX12) (N := 11) rfl hly_14_7 hlk_594 (hh.at 3 rfl) dX14_isSame_16 ?_
  refine lv_iload_n hx hb dX14_isSame_19 rfl (lv_at hl 4 rfl) ?_
  refine j7_ialdM hx hb hK hh hB191 1 rfl (by decide) hg_xe (x := a3.toInt) (rfl) (by omega) (j := 3) rfl dX14_isSame_20 (fun z_4 ez_4 (hz_4 : 0 ≤ z_4.toInt ∧ z_4.toInt ≤ 1500) => ?_)
  have hqz_4 : z_4.toInt = jSo ge (a3.toInt) := by unfold jSo; rw [ez_4]
  refine lv_aload_n hx hb dX14_isSame_21 rfl (lv_at hl 3 rfl) ?_
  refine j7_readN hx hb hown hK (C := RX12) (T := TX12) (N := 11) rfl hly_14_6 hlk_596 (hh.at 2 rfl) dX14_isSame_22 ?_
  refine lv_iload_n hx hb dX14_isSame_25 rfl (lv_at hl 4 rfl) ?_
  refine j7_ialdM hx hb hK hh hB190 1 rfl (by decide) hg_xb (x := a3.toInt) (rfl) (by omega) (j := 2) rfl dX14_isSame_26 (fun z_5 ez_5 (hz_5 : 0 ≤ z_5.toInt ∧ z_5.toInt ≤ 1500) => ?_)
  have hqz_5 : z_5.toInt = jSo gb (a3.toInt) := by unfold jSo; rw [ez_5]
  refine lv_isub hx hb dX14_isSame_27 ?_
  refine lv_topi (fun z_6 ez_6 => ?_)
  have hz_6 : z_6.toInt = z_4.toInt - z_5.toInt := by rw [ez_6]; exact jb_isub2 (rfl) (rfl) (by omega)
  refine lv_iload hx hb dX14_isSame_28 (lv_at hl 0 rfl) ?_
  refine lv_icmp_ne (tgt := 48) hx hb dX14_isSame_30 (by decide) (fun c_7 => ?_) (fun c_7 => ?_)
  · skip
    have c_7' : z_6.toInt ≠ z_3.toInt := jb_ne (rfl) (rfl) c_7
    refine lv_iconst (v := 0) hx hb dX14_isSame_48 (by decide) ?_
    rw [hQ]
    exact W.zret (v := 0) hx hb hr (jb_nz (Or.inl rfl)) (fun t ht hW => ⟨⟨0, (), rfl, ⟨(Or.inl rfl), trivial⟩, hh.rt (M1 := []) [] rfl ht⟩, by rw [ht]; try exact hh.1.1, fun q h9 hq => by rw [ht]; try exact hh.1.2.1 q h9 hq⟩) hh.1.2.2 dX14_isSame_49
  · skip
    have c_7' : z_6.toInt = z_3.toInt := jb_ne_n (rfl) (rfl) c_7
    refine lv_aload_n hx hb dX14_isSame_33 rfl (lv_at hl 1 rfl) ?_
    obtain ⟨v_8, hv_8, hh_9⟩ := hh.pin (C := RX12) (T := TX12) (N := 11) hB14 rfl (by decide) hg_r0 (i := 8) (by decide) rfl
    clear hh
    obtain ⟨flaw_10, rfl, hg_flaw_10⟩ := hv_8
    refine j7_readN hx hb hown hK (C := RX12) (T := TX12) (N := 11) rfl hly_14_8 hlk_599 (hh_9.at 0 rfl) dX14_isSame_34 ?_
    refine lv_iload_n hx hb dX14_isSame_37 rfl (lv_at hl 2 rfl) ?_
    refine j7_iald hx hb hK hh_9 hB192 1 rfl (by decide) hg_flaw_10 (x := a1.toInt) (rfl) (by omega) dX14_isSame_38 (fun z_11 (hz_11 : 0 ≤ z_11.toInt ∧ z_11.toInt ≤ 2) => ?_)
    refine lv_aload_n hx hb dX14_isSame_39 rfl (lv_at hl 3 rfl) ?_
    obtain ⟨v_12, hv_12, hh_13⟩ := hh_9.pin (C := RX12) (T := TX12) (N := 11) hB14 rfl (by decide) hg_r2 (i := 8) (by decide) rfl
    clear hh_9
    obtain ⟨flaw_14, rfl, hg_flaw_14⟩ := hv_12
    refine j7_readN hx hb hown hK (C := RX12) (T := TX12) (N := 11) rfl hly_14_8 hlk_599 (hh_13.at 0 rfl) dX14_isSame_40 ?_
    refine lv_iload_n hx hb dX14_isSame_43 rfl (lv_at hl 4 rfl) ?_
    refine j7_iald hx hb hK hh_13 hB192 1 rfl (by decide) hg_flaw_14 (x := a3.toInt) (rfl) (by omega) dX14_isSame_44 (fun z_15 (hz_15 : 0 ≤ z_15.toInt ∧ z_15.toInt ≤ 2) => ?_)
    refine lv_icmp_eq (tgt := 50) hx hb dX14_isSame_45 (by decide) (fun c_16 => ?_) (fun c_16 => ?_)
    · skip
      have c_16' : z_11.toInt = z_15.toInt := jb_eq (rfl) (rfl) c_16
      refine lv_iconst (v := 0) hx hb dX14_isSame_50 (by decide) ?_
      refine lv_istore (lv' := [(5, .int 0), (4, .int z_3), (0, .ref r0), (1, .int a1), (2, .ref r2), (3, .int a3)]) hx hb dX14_isSame_51 hl (by decide) rfl (fun ls hl => ?_)
      have L53 : ∀ (N : Nat) (v5_17 : Int32) (H_17 : Heap) (locs_17 : List Loc), jSt (dC, dI) B base G0 G0 EX14_isSame s.heap 0 0 [(r2, 14, 8, .ref flaw_14), (r0, 14, 8, .ref flaw_10), (r0, 14, 6, .ref yb), (r0, 14, 7, .ref ye), (r2, 14, 6, .ref xb), (r2, 14, 7, .ref xe)] [(yb, 190, 40, ca 1, fb), (ye, 191, 40, ca 1, fe), (xb, 190, 40, ca 1, gb), (xe, 191, 40, ca 1, ge)] [] H_17 locs_17 → (0 ≤ v5_17.toInt ∧ v5_17.toInt ≤ 1500) → (1500 - v5_17.toInt : Int) < N → ∀ ls : Array Slot, lv_has ls 6 [(0, .ref r0), (1, .int a1), (2, .ref r2), (3, .int a3), (4, .int z_3), (5, .int v5_17)] → W p l e R s m ([.ref r0, .int a1, .ref r2, .int a3] : List Value).toArray below meth c H_17 locs_17 0 0 Q (F0 m 53 ls []) := by
        intro N
        induction N with
        | zero => intro v5_17 H_17 locs_17 hh_17  hi_17 hm; exact absurd hm (by omega)
        | succ N L53 =>
          intro v5_17 H_17 locs_17 hh_17  hi_17 hm_17 ls hl
          obtain ⟨hi_17_0, hi_17_1⟩ := hi_17
          refine lv_iload hx hb dX14_isSame_53 (lv_at hl 5 rfl) ?_
          refine lv_iload hx hb dX14_isSame_55 (lv_at hl 4 rfl) ?_
          refine lv_icmp_ge (tgt := 99) hx hb dX14_isSame_57 (by decide) (fun c_18 => ?_) (fun c_18 => ?_)
          · skip
            have c_18' : v5_17.toInt ≥ z_3.toInt := jb_ge (rfl) (rfl) c_18
            refine lv_iconst (v := 1) hx hb dX14_isSame_99 (by decide) ?_
            rw [hQ]
            exact W.zret (v := 1) hx hb hr (jb_nz (Or.inr rfl)) (fun t ht hW => ⟨⟨1, (), rfl, ⟨(Or.inr rfl), trivial⟩, hh_17.rt (M1 := []) [] rfl ht⟩, by rw [ht]; try exact hh_17.1.1, fun q h9 hq => by rw [ht]; try exact hh_17.1.2.1 q h9 hq⟩) hh_17.1.2.2 dX14_isSame_100
          · skip
            have c_18' : v5_17.toInt < z_3.toInt := jb_ge_n (rfl) (rfl) c_18
            refine lv_aload_n hx hb dX14_isSame_60 rfl (lv_at hl 0 rfl) ?_
            obtain ⟨v_19, hv_19, hh_20⟩ := hh_17.pin (C := RX12) (T := TX12) (N := 11) hB14 rfl (by decide) hg_r0 (i := 3) (by decide) rfl
            clear hh_17
            obtain ⟨text_21, rfl, hg_text_21⟩ := hv_19
            refine j7_readN hx hb hown hK (C := RX12) (T := TX12) (N := 11) rfl hly_14_3 hlk_529 (hh_20.at 0 rfl) dX14_isSame_61 ?_
            refine lv_aload_n hx hb dX14_isSame_64 rfl (lv_at hl 0 rfl) ?_
            refine j7_readN hx hb hown hK (C := RX12) (T := TX12) (N := 11) rfl hly_14_6 hlk_596 (hh_20.at 3 rfl) dX14_isSame_65 ?_
            refine lv_iload_n hx hb dX14_isSame_68 rfl (lv_at hl 1 rfl) ?_
            refine j7_ialdM hx hb hK hh_20 hB190 1 rfl (by decide) hg_yb (x := a1.toInt) (rfl) (by omega) (j := 0) rfl dX14_isSame_69 (fun z_22 ez_22 (hz_22 : 0 ≤ z_22.toInt ∧ z_22.toInt ≤ 1500) => ?_)
            have hqz_22 : z_22.toInt = jSo fb (a1.toInt) := by unfold jSo; rw [ez_22]
            refine lv_iload hx hb dX14_isSame_70 (lv_at hl 5 rfl) ?_
            refine lv_iadd hx hb dX14_isSame_72 ?_
            refine lv_topi (fun z_23 ez_23 => ?_)
            have hz_23 : z_23.toInt = z_22.toInt + v5_17.toInt := by rw [ez_23]; exact jb_iadd2 (rfl) (rfl) (by omega)
            refine j7_iald hx hb hK hh_20 hB194 1 rfl (by decide) hg_text_21 (x := z_23.toInt) (rfl) (by omega) dX14_isSame_73 (fun z_24 (hz_24 : True) => ?_)
            refine lv_aload_n hx hb dX14_isSame_74 rfl (lv_at hl 2 rfl) ?_
            obtain ⟨v_25, hv_25, hh_26⟩ := hh_20.pin (C := RX12) (T := TX12) (N := 11) hB14 rfl (by decide) hg_r2 (i := 3) (by decide) rfl
            clear hh_20
            obtain ⟨text_27, rfl, hg_text_27⟩ := hv_25
            refine j7_readN hx hb hown hK (C := RX12) (T := TX12) (N := 11) rfl hly_14_3 hlk_529 (hh_26.at 0 rfl) dX14_isSame_75 ?_
            refine lv_aload_n hx hb dX14_isSame_78 rfl (lv_at hl 2 rfl) ?_
            refine j7_readN hx hb hown hK (C := RX12) (T := TX12) (N := 11) rfl hly_14_6 hlk_596 (hh_26.at 6 rfl) dX14_isSame_79 ?_
            refine lv_iload_n hx hb dX14_isSame_82 rfl (lv_at hl 3 rfl) ?_
            refine j7_ialdM hx hb hK hh_26 hB190 1 rfl (by decide) hg_xb (x := a3.toInt) (rfl) (by omega) (j := 2) rfl dX14_isSame_83 (fun z_28 ez_28 (hz_28 : 0 ≤ z_28.toInt ∧ z_28.toInt ≤ 1500) => ?_)
            have hqz_28 : z_28.toInt = jSo gb (a3.toInt) := by unfold jSo; rw [ez_28]
            refine lv_iload hx hb dX14_isSame_84 (lv_at hl 5 rfl) ?_
            refine lv_iadd hx hb dX14_isSame_86 ?_
            refine lv_topi (fun z_29 ez_29 => ?_)
            have hz_29 : z_29.toInt = z_28.toInt + v5_17.toInt := by rw [ez_29]; exact jb_iadd2 (rfl) (rfl) (by omega)
            refine j7_iald hx hb hK hh_26 hB194 1 rfl (by decide) hg_text_27 (x := z_29.toInt) (rfl) (by omega) dX14_isSame_87 (fun z_30 (hz_30 : True) => ?_)
            refine lv_icmp_eq (tgt := 93) hx hb dX14_isSame_88 (by decide) (fun c_31 => ?_) (fun c_31 => ?_)
            · skip
              have c_31' : z_24.toInt = z_30.toInt := jb_eq (rfl) (rfl) c_31
              obtain ⟨z_32, ez_32⟩ : ∃ y : Int32, y = v5_17 + 1 := ⟨_, rfl⟩
              refine lv_iinc (v := z_32) (lv' := [(5, .int z_32), (0, .ref r0), (1, .int a1), (2, .ref r2), (3, .int a3), (4, .int z_3)]) hx hb dX14_isSame_93 hl (k := 5) rfl (by rw [ez_32]; rfl) (by decide) rfl (fun ls hl => ?_)
              have hz_32 : z_32.toInt = v5_17.toInt + 1 := by rw [ez_32]; exact jb_iadd2 (rfl) (by decide) (by omega)
              refine lv_goto (tgt := 53) hx hb dX14_isSame_96 (by decide) ?_
              exact L53 z_32 _ _ (hh_26.sub (L1 := [(r2, 14, 8, .ref flaw_14), (r0, 14, 8, .ref flaw_10), (r0, 14, 6, .ref yb), (r0, 14, 7, .ref ye), (r2, 14, 6, .ref xb), (r2, 14, 7, .ref xe)]) [2, 3, 4, 5, 6, 7] rfl (M1 := [(yb, 190, 40, ca 1, fb), (ye, 191, 40, ca 1, fe), (xb, 190, 40, ca 1, gb), (xe, 191, 40, ca 1, ge)]) [0, 1, 2, 3] rfl (I1 := []) [] rfl) (by first | omega | (refine ⟨?_, ?_⟩ <;> (first | omega | rfl | assumption | decide | exact Or.inl rfl | exact Or.inr rfl | (simp only; omega)))) (by omega) _ (lv_sub hl [1, 2, 3, 4, 5, 0] rfl)
            · skip
              have c_31' : z_24.toInt ≠ z_30.toInt := jb_eq_n (rfl) (rfl) c_31
              refine lv_iconst (v := 0) hx hb dX14_isSame_91 (by decide) ?_
              rw [hQ]
              exact W.zret (v := 0) hx hb hr (jb_nz (Or.inl rfl)) (fun t ht hW => ⟨⟨0, (), rfl, ⟨(Or.inl rfl), trivial⟩, hh_26.rt (M1 := []) [] rfl ht⟩, by rw [ht]; try exact hh_26.1.1, fun q h9 hq => by rw [ht]; try exact hh_26.1.2.1 q h9 hq⟩) hh_26.1.2.2 dX14_isSame_92
      exact L53 (1500 - (0 : Int32).toInt : Int).toNat.succ 0 _ _ hh_13 (by first | omega | (refine ⟨?_, ?_⟩ <;> (first | omega | rfl | assumption | decide | exact Or.inl rfl | exact Or.inr rfl | (simp only; omega)))) (by omega) _ (lv_sub hl [2, 3, 4, 5, 1, 0] rfl)
    · skip
      have c_16' : z_11.toInt ≠ z_15.toInt := jb_eq_n (rfl) (rfl) c_16
      refine lv_iconst (v := 0) hx hb dX14_isSame_48 (by decide) ?_
      rw [hQ]
      exact W.zret (v := 0) hx hb hr (jb_nz (Or.inl rfl)) (fun t ht hW => ⟨⟨0, (), rfl, ⟨(Or.inl rfl), trivial⟩, hh_13.rt (M1 := []) [] rfl ht⟩, by rw [ht]; try exact hh_13.1.1, fun q h9 hq => by rw [ht]; try exact hh_13.1.2.1 q h9 hq⟩) hh_13.1.2.2 dX14_isSame_49
end
section
-- the documents of the reference: their sentences are in order (an invariant with a footprint; x: the document that is being changed)
theorem jDX.less {dC : Nat → ClassId} {dI : Nat → Nat → Nat} {ca : Nat → ClassId} {G : jT} {H : Heap} (h : jDX dC dI ca G none H) (x : Option Nat) : jDX dC dI ca G x H := by
  obtain ⟨Yb, Ye, h1, h2, h3, h4⟩ := h
  exact ⟨Yb, Ye, h1, h2, h3, fun a ha _ => h4 a ha (fun q => by cases q)⟩
end
section
-- invariants with a footprint, as a walk carries them: contents of reference arrays, one field of all documents, the sentences of all documents
theorem jDY.less {dC : Nat → ClassId} {dI : Nat → Nat → Nat} {ca : Nat → ClassId} {G : jT} {sn : Nat → Int32} {H : Heap} (h : jDY dC dI ca G none sn H) (x : Nat) : jDY dC dI ca G (some x) sn H := by
  obtain ⟨Yb, Ye, h1, h2, h3, h4⟩ := h
  exact ⟨Yb, Ye, h1, h2, h3, fun a ha _ => h4 a ha (fun q => by cases q)⟩
theorem jDY.full {dC : Nat → ClassId} {dI : Nat → Nat → Nat} {ca : Nat → ClassId} {G : jT} {sn : Nat → Int32} {H : Heap} {a yb ye : Nat} {ps : Int32} {fb fe : Nat → Int32} (h : jDY dC dI ca G (some a) sn H) (ha : G a = some (14, 0)) (hb : G yb = some (190, 40)) (he : G ye = some (191, 40)) (hP : jP (dC, dI) G H [(a, 14, 6, .ref yb), (a, 14, 7, .ref ye), (a, 14, 5, .int ps)]) (hM : jMc (dC, dI) G H [(yb, 190, 40, ca 1, fb), (ye, 191, 40, ca 1, fe)]) (hs : jSrt fb fe ps.toInt 1500) (h0 : 0 ≤ ps.toInt) (h40 : ps.toInt ≤ 40) : jDY dC dI ca G none (jUn sn a ps) H := by
  obtain ⟨Yb, Ye, h1, h2, h3, h4⟩ := h
  refine ⟨Yb, Ye, h1, h2, h3, fun b hb1 _ => ?_⟩
  by_cases e : b = a
  · subst e
    rw [jUn_e]
    have e1 : Yb b = yb := by have := jf.uniq (h1 b ha).1 (hP _ List.mem_cons_self).2; cases this; rfl
    have e2 : Ye b = ye := by have := jf.uniq (h1 b ha).2.1 (hP _ (List.mem_cons_of_mem _ List.mem_cons_self)).2; cases this; rfl
    rw [e1, e2]
    exact ⟨fb, fe, hb, he, hP, hM, hs, h0, h40⟩
  · rw [jUn_n _ _ e]
    exact h4 b hb1 (fun q => e (Option.some.inj q))
section J15
variable {p : Program} {l : Launch} {e : Env} {R : Room} {s : State} {m : MethodId} {args : Array Value} {below : List Frame} {meth : Method} {c : Code} {H : Heap} {locs : List Loc} {cells slots : Nat} {Q : State → Prop}
variable {cc : ByteArray} {pc : Nat} {ls : Array Slot} {rest : List Value} {dC : Nat → ClassId} {dI : Nat → Nat → Nat} {ca : Nat → ClassId} {B : jF} {base : Nat} {G0 G : jT} {E : List (Nat × Nat)} {H0 : Heap} {zc zs : Nat} {L : List jPin} {M : List jCt} {I : List jIv} {a k n i N : Nat} {cA : ClassId} {tys : List (ClassId × FieldType)} {C own : String} {T : u_T} {index : Nat}
theorem j7_iastX {P : Nat → Int32 → Prop} (hexec : p.tables.exec = Jvm.exec) (hb : c.code = cc) (hK : va_K (dC, dI) vwCl tys s) (hh : jSt (dC, dI) B base G0 G E H0 zc zs L M I H locs) (hB : jBok B) (hBk : ∀ n G a H, B k n G a H ↔ jAr (dC, dI) cA P n a H) (t0 : Nat) (ht : tys[t0]? = some (cA, .int)) (hk : k < 1000) (hk2 : 17 ≤ k) (hE : E.contains (k, 0) = true) (oj : Nat) {kk1 : Nat} {cB : ClassId} {f : Nat → Int32} (hj : M[oj]? = some (a, kk1, n, cB, f)) {M1 : List jCt} (js : List Nat) (hjs : js.map (fun i => M[i]?) = M1.map some) (hM : M1.all (fun q => !(q.2.1 == k)) = true) (hI : I.all (fun q => !(q.1.contains (k, 0))) = true) (ha : G a = some (k, n)) {i v : Int32} {x : Int} (hi : i.toInt = x) (h12 : 0 ≤ x ∧ x < n) (hv : P x.toNat v) (hdg : decode cc pc = .ok (.iastore, 1))
    (kk : ∀ (H1 : Heap) (locs1 : List Loc) (g : Nat → Int32), g x.toNat = v → (∀ j, j < n → j ≠ x.toNat → g j = f j) → (∀ q, q ≠ a → H1[q]? = H[q]?) → jSt (dC, dI) B base G0 G E H0 zc zs L ((a, k, n, cA, g) :: M1) I H1 locs1 → W p l e R s m args below meth c H1 locs1 cells slots Q (F0 m (pc + 1) ls rest)) : W p l e R s m args below meth c H locs cells slots Q (F0 m pc ls (.int v :: .int i :: .ref a :: rest)) := by
  obtain ⟨h1, h2⟩ := h12
  obtain ⟨f', g1, g2⟩ := hh.ar hBk hk ha
  obtain ⟨-, -, -, q4⟩ := hh.2.2.2.2.2.2.2.1 _ (List.mem_of_getElem? hj)
  have hh1 : jSt (dC, dI) B base G0 G E H0 zc zs L M1 I H locs := by
    obtain ⟨e1, e2, e3, e4, e5, e6, e7, e8, e9⟩ := hh
    exact ⟨e1, e2, e3, e4, e5, e6, e7, e8.sub js hjs, e9⟩
  refine j_iast (A := jA base) hexec hb hK t0 g1 (hh.ab ha).1 hh.1.2.2 ht (jb_in hi h1 h2) hdg (fun H1 locs1 hat hsz hfr hT hL => ?_)
  have h9 := hh1.arr hB ha hk hk2 hE hM hI hsz hfr hT hL ((hBk _ _ _ _).mpr ⟨_, hat, jAr_upd g2 hi h1 hv⟩)
  refine kk H1 locs1 (upd f' i.toNatClampNeg v) (by rw [← jb_cl hi h1]; simp [upd]) (fun j hj' hne => ?_) hfr ?_
  · have : j ≠ i.toNatClampNeg := by rw [jb_cl hi h1]; exact hne
    simp only [upd, if_neg this]
    exact (jCt_eq q4 g1 hj').symm
  · obtain ⟨e1, e2, e3, e4, e5, e6, e7, e8, e9⟩ := h9
    refine ⟨e1, e2, e3, e4, e5, e6, e7, fun q hq => ?_, e9⟩
    rcases List.mem_cons.mp hq with e | e
    · subst e; exact ⟨ha, hk2, hk, hat⟩
    · exact e8 q e
end J15
end
