section
-- contracts over the typed heap: which roots may change
theorem jRoot.only {G : jT} {a r r1 : Nat} (h : jRoot G r) (h1 : jRoot G r1) (hs : jSup G r a) (hs1 : jSup G r1 a) : r1 = r := by
  obtain ⟨k, n, hk, hl⟩ := h
  obtain ⟨k1, n1, hk1, hl1⟩ := h1
  exact jSup.only hk1 hl1 hk hl hs hs1
/-- what holds of a cell of a root that a call leaves alone -/
theorem jModP.cell {G : jT} {M : Nat → Prop} {H0 H1 : Heap} {a r : Nat} (h : jModP G M H0 H1) (hr : jRoot G r) (hs : jSup G r a) (hM : ¬ M r) (hl : a < H0.size) : H1[a]? = H0[a]? := by
  refine h a hl (fun r1 h0 h1 h2 => hM ?_)
  rw [← hr.only h0 hs h1]; exact h2
section JL
variable {p : Program} {l : Launch} {e : Env} {R : Room} {s : State} {m : MethodId} {args : Array Value} {below : List Frame} {meth : Method} {c : Code} {H : Heap} {locs : List Loc} {cells slots : Nat} {Q : State → Prop}
variable {cc : ByteArray} {pc : Nat} {ls : Array Slot} {rest : List Value} {D : va_G} {cl : List vw_C} {A : Nat → Prop} {a : Nat} {tys : List (ClassId × FieldType)}
end JL
end
section
theorem dX4_isText_0 : decode cX4_isText 0 = .ok (.aload_n 0, 1) := by decide +kernel
theorem dX4_isText_1 : decode cX4_isText 1 = .ok (.iload_n 1, 1) := by decide +kernel
theorem dX4_isText_2 : decode cX4_isText 2 = .ok (.invokevirtual 63, 3) := by decide +kernel
theorem dX4_isText_5 : decode cX4_isText 5 = .ok (.iconst 3, 1) := by decide +kernel
theorem dX4_isText_6 : decode cX4_isText 6 = .ok (.if_icmp .ne 27, 3) := by decide +kernel
theorem dX4_isText_9 : decode cX4_isText 9 = .ok (.aload_n 0, 1) := by decide +kernel
theorem dX4_isText_10 : decode cX4_isText 10 = .ok (.aload_n 0, 1) := by decide +kernel
theorem dX4_isText_11 : decode cX4_isText 11 = .ok (.getfield 15, 3) := by decide +kernel
theorem dX4_isText_14 : decode cX4_isText 14 = .ok (.iload_n 1, 1) := by decide +kernel
theorem dX4_isText_15 : decode cX4_isText 15 = .ok (.iaload, 1) := by decide +kernel
theorem dX4_isText_16 : decode cX4_isText 16 = .ok (.aload_n 0, 1) := by decide +kernel
theorem dX4_isText_17 : decode cX4_isText 17 = .ok (.getfield 18, 3) := by decide +kernel
theorem dX4_isText_20 : decode cX4_isText 20 = .ok (.iload_n 1, 1) := by decide +kernel
theorem dX4_isText_21 : decode cX4_isText 21 = .ok (.iaload, 1) := by decide +kernel
theorem dX4_isText_22 : decode cX4_isText 22 = .ok (.aload_n 2, 1) := by decide +kernel
theorem dX4_isText_23 : decode cX4_isText 23 = .ok (.invokevirtual 66, 3) := by decide +kernel
theorem dX4_isText_26 : decode cX4_isText 26 = .ok (.ifCond .eq 7, 3) := by decide +kernel
theorem dX4_isText_29 : decode cX4_isText 29 = .ok (.iconst 1, 1) := by decide +kernel
theorem dX4_isText_30 : decode cX4_isText 30 = .ok (.goto 4, 3) := by decide +kernel
theorem dX4_isText_33 : decode cX4_isText 33 = .ok (.iconst 0, 1) := by decide +kernel
theorem dX4_isText_34 : decode cX4_isText 34 = .ok (.ireturn, 1) := by decide +kernel
end
section
theorem dX0_init_0 : decode cX0_init 0 = .ok (.aload_n 0, 1) := by decide +kernel
theorem dX0_init_1 : decode cX0_init 1 = .ok (.invokespecial 1, 3) := by decide +kernel
theorem dX0_init_4 : decode cX0_init 4 = .ok (.aload_n 0, 1) := by decide +kernel
theorem dX0_init_5 : decode cX0_init 5 = .ok (.iload_n 1, 1) := by decide +kernel
theorem dX0_init_6 : decode cX0_init 6 = .ok (.bipush 16, 2) := by decide +kernel
theorem dX0_init_8 : decode cX0_init 8 = .ok (.invokestatic 7, 3) := by decide +kernel
theorem dX0_init_11 : decode cX0_init 11 = .ok (.newarray .byte, 2) := by decide +kernel
theorem dX0_init_13 : decode cX0_init 13 = .ok (.putfield 13, 3) := by decide +kernel
theorem dX0_init_16 : decode cX0_init 16 = .ok (.return_, 1) := by decide +kernel
end
section
theorem dX8_hasIdOf_0 : decode cX8_hasIdOf 0 = .ok (.aload_n 0, 1) := by decide +kernel
theorem dX8_hasIdOf_1 : decode cX8_hasIdOf 1 = .ok (.getfield 29, 3) := by decide +kernel
theorem dX8_hasIdOf_4 : decode cX8_hasIdOf 4 = .ok (.ifnull 27, 3) := by decide +kernel
theorem dX8_hasIdOf_7 : decode cX8_hasIdOf 7 = .ok (.aload_n 1, 1) := by decide +kernel
theorem dX8_hasIdOf_8 : decode cX8_hasIdOf 8 = .ok (.getfield 29, 3) := by decide +kernel
theorem dX8_hasIdOf_11 : decode cX8_hasIdOf 11 = .ok (.ifnull 20, 3) := by decide +kernel
theorem dX8_hasIdOf_14 : decode cX8_hasIdOf 14 = .ok (.aload_n 0, 1) := by decide +kernel
theorem dX8_hasIdOf_15 : decode cX8_hasIdOf 15 = .ok (.getfield 29, 3) := by decide +kernel
theorem dX8_hasIdOf_18 : decode cX8_hasIdOf 18 = .ok (.getfield 59, 3) := by decide +kernel
theorem dX8_hasIdOf_21 : decode cX8_hasIdOf 21 = .ok (.aload_n 1, 1) := by decide +kernel
theorem dX8_hasIdOf_22 : decode cX8_hasIdOf 22 = .ok (.getfield 29, 3) := by decide +kernel
theorem dX8_hasIdOf_25 : decode cX8_hasIdOf 25 = .ok (.getfield 59, 3) := by decide +kernel
theorem dX8_hasIdOf_28 : decode cX8_hasIdOf 28 = .ok (.if_icmp .eq 5, 3) := by decide +kernel
theorem dX8_hasIdOf_31 : decode cX8_hasIdOf 31 = .ok (.iconst 0, 1) := by decide +kernel
theorem dX8_hasIdOf_32 : decode cX8_hasIdOf 32 = .ok (.ireturn, 1) := by decide +kernel
theorem dX8_hasIdOf_33 : decode cX8_hasIdOf 33 = .ok (.iconst 0, 1) := by decide +kernel
theorem dX8_hasIdOf_34 : decode cX8_hasIdOf 34 = .ok (.istore_n 2, 1) := by decide +kernel
theorem dX8_hasIdOf_35 : decode cX8_hasIdOf 35 = .ok (.iload_n 2, 1) := by decide +kernel
theorem dX8_hasIdOf_36 : decode cX8_hasIdOf 36 = .ok (.aload_n 0, 1) := by decide +kernel
theorem dX8_hasIdOf_37 : decode cX8_hasIdOf 37 = .ok (.getfield 29, 3) := by decide +kernel
theorem dX8_hasIdOf_40 : decode cX8_hasIdOf 40 = .ok (.getfield 59, 3) := by decide +kernel
theorem dX8_hasIdOf_43 : decode cX8_hasIdOf 43 = .ok (.if_icmp .ge 32, 3) := by decide +kernel
theorem dX8_hasIdOf_46 : decode cX8_hasIdOf 46 = .ok (.aload_n 0, 1) := by decide +kernel
theorem dX8_hasIdOf_47 : decode cX8_hasIdOf 47 = .ok (.getfield 29, 3) := by decide +kernel
theorem dX8_hasIdOf_50 : decode cX8_hasIdOf 50 = .ok (.getfield 62, 3) := by decide +kernel
theorem dX8_hasIdOf_53 : decode cX8_hasIdOf 53 = .ok (.iload_n 2, 1) := by decide +kernel
theorem dX8_hasIdOf_54 : decode cX8_hasIdOf 54 = .ok (.baload, 1) := by decide +kernel
theorem dX8_hasIdOf_55 : decode cX8_hasIdOf 55 = .ok (.aload_n 1, 1) := by decide +kernel
theorem dX8_hasIdOf_56 : decode cX8_hasIdOf 56 = .ok (.getfield 29, 3) := by decide +kernel
theorem dX8_hasIdOf_59 : decode cX8_hasIdOf 59 = .ok (.getfield 62, 3) := by decide +kernel
theorem dX8_hasIdOf_62 : decode cX8_hasIdOf 62 = .ok (.iload_n 2, 1) := by decide +kernel
theorem dX8_hasIdOf_63 : decode cX8_hasIdOf 63 = .ok (.baload, 1) := by decide +kernel
theorem dX8_hasIdOf_64 : decode cX8_hasIdOf 64 = .ok (.if_icmp .eq 5, 3) := by decide +kernel
theorem dX8_hasIdOf_67 : decode cX8_hasIdOf 67 = .ok (.iconst 0, 1) := by decide +kernel
theorem dX8_hasIdOf_68 : decode cX8_hasIdOf 68 = .ok (.ireturn, 1) := by decide +kernel
theorem dX8_hasIdOf_69 : decode cX8_hasIdOf 69 = .ok (.iinc 2 1, 3) := by decide +kernel
theorem dX8_hasIdOf_72 : decode cX8_hasIdOf 72 = .ok (.goto (-37), 3) := by decide +kernel
theorem dX8_hasIdOf_75 : decode cX8_hasIdOf 75 = .ok (.iconst 1, 1) := by decide +kernel
theorem dX8_hasIdOf_76 : decode cX8_hasIdOf 76 = .ok (.ireturn, 1) := by decide +kernel
end
section
-- Bytes that stay small; new Bytes
theorem jPw.h128 {n : Nat} (h : jPw n) (h1 : n < 128) : n ≤ 64 := by
  obtain ⟨k, hk, rfl⟩ := h
  by_cases q : k ≤ 2
  · have h4 : 2 ^ k ≤ 2 ^ 2 := Nat.pow_le_pow_right (by decide) q
    have h3 : (2 : Nat) ^ 2 = 4 := by decide
    omega
  · have h4 : 2 ^ 3 ≤ 2 ^ k := Nat.pow_le_pow_right (by decide) (by omega)
    have h3 : (2 : Nat) ^ 3 = 8 := by decide
    omega
theorem jPw.z16 : jPw 16 := ⟨0, by decide, by decide⟩
end
section
theorem dX8_init_0 : decode cX8_init 0 = .ok (.aload_n 0, 1) := by decide +kernel
theorem dX8_init_1 : decode cX8_init 1 = .ok (.invokespecial 3, 3) := by decide +kernel
theorem dX8_init_4 : decode cX8_init 4 = .ok (.aload_n 0, 1) := by decide +kernel
theorem dX8_init_5 : decode cX8_init 5 = .ok (.iconst (-1), 1) := by decide +kernel
theorem dX8_init_6 : decode cX8_init 6 = .ok (.putfield 9, 3) := by decide +kernel
theorem dX8_init_9 : decode cX8_init 9 = .ok (.aload_n 1, 1) := by decide +kernel
theorem dX8_init_10 : decode cX8_init 10 = .ok (.iload_n 2, 1) := by decide +kernel
theorem dX8_init_11 : decode cX8_init 11 = .ok (.invokevirtual 15, 3) := by decide +kernel
theorem dX8_init_14 : decode cX8_init 14 = .ok (.iconst 4, 1) := by decide +kernel
theorem dX8_init_15 : decode cX8_init 15 = .ok (.if_icmp .ne 7, 3) := by decide +kernel
theorem dX8_init_18 : decode cX8_init 18 = .ok (.iconst 1, 1) := by decide +kernel
theorem dX8_init_19 : decode cX8_init 19 = .ok (.goto 4, 3) := by decide +kernel
theorem dX8_init_22 : decode cX8_init 22 = .ok (.iconst 0, 1) := by decide +kernel
theorem dX8_init_23 : decode cX8_init 23 = .ok (.istore_n 3, 1) := by decide +kernel
theorem dX8_init_24 : decode cX8_init 24 = .ok (.aload_n 1, 1) := by decide +kernel
theorem dX8_init_25 : decode cX8_init 25 = .ok (.iload_n 2, 1) := by decide +kernel
theorem dX8_init_26 : decode cX8_init 26 = .ok (.invokevirtual 15, 3) := by decide +kernel
theorem dX8_init_29 : decode cX8_init 29 = .ok (.iconst 3, 1) := by decide +kernel
theorem dX8_init_30 : decode cX8_init 30 = .ok (.if_icmp .ne 17, 3) := by decide +kernel
theorem dX8_init_33 : decode cX8_init 33 = .ok (.aload_n 1, 1) := by decide +kernel
theorem dX8_init_34 : decode cX8_init 34 = .ok (.iload_n 2, 1) := by decide +kernel
theorem dX8_init_35 : decode cX8_init 35 = .ok (.invokevirtual 21, 3) := by decide +kernel
theorem dX8_init_38 : decode cX8_init 38 = .ok (.bipush 20, 2) := by decide +kernel
theorem dX8_init_40 : decode cX8_init 40 = .ok (.if_icmp .gt 7, 3) := by decide +kernel
theorem dX8_init_43 : decode cX8_init 43 = .ok (.iconst 1, 1) := by decide +kernel
theorem dX8_init_44 : decode cX8_init 44 = .ok (.goto 4, 3) := by decide +kernel
theorem dX8_init_47 : decode cX8_init 47 = .ok (.iconst 0, 1) := by decide +kernel
theorem dX8_init_48 : decode cX8_init 48 = .ok (.istore 4, 2) := by decide +kernel
theorem dX8_init_50 : decode cX8_init 50 = .ok (.aload_n 0, 1) := by decide +kernel
theorem dX8_init_51 : decode cX8_init 51 = .ok (.iload_n 3, 1) := by decide +kernel
theorem dX8_init_52 : decode cX8_init 52 = .ok (.ifCond .ne 8, 3) := by decide +kernel
theorem dX8_init_55 : decode cX8_init 55 = .ok (.iload 4, 2) := by decide +kernel
theorem dX8_init_57 : decode cX8_init 57 = .ok (.ifCond .eq 15, 3) := by decide +kernel
theorem dX8_init_60 : decode cX8_init 60 = .ok (.new 24, 3) := by decide +kernel
theorem dX8_init_63 : decode cX8_init 63 = .ok (.dup, 1) := by decide +kernel
theorem dX8_init_64 : decode cX8_init 64 = .ok (.bipush 16, 2) := by decide +kernel
theorem dX8_init_66 : decode cX8_init 66 = .ok (.invokespecial 26, 3) := by decide +kernel
theorem dX8_init_69 : decode cX8_init 69 = .ok (.goto 4, 3) := by decide +kernel
theorem dX8_init_72 : decode cX8_init 72 = .ok (.aconst_null, 1) := by decide +kernel
theorem dX8_init_73 : decode cX8_init 73 = .ok (.putfield 29, 3) := by decide +kernel
theorem dX8_init_76 : decode cX8_init 76 = .ok (.iload_n 3, 1) := by decide +kernel
theorem dX8_init_77 : decode cX8_init 77 = .ok (.ifCond .eq 18, 3) := by decide +kernel
theorem dX8_init_80 : decode cX8_init 80 = .ok (.aload_n 0, 1) := by decide +kernel
theorem dX8_init_81 : decode cX8_init 81 = .ok (.getfield 29, 3) := by decide +kernel
theorem dX8_init_84 : decode cX8_init 84 = .ok (.aload_n 1, 1) := by decide +kernel
theorem dX8_init_85 : decode cX8_init 85 = .ok (.iload_n 2, 1) := by decide +kernel
theorem dX8_init_86 : decode cX8_init 86 = .ok (.invokevirtual 33, 3) := by decide +kernel
theorem dX8_init_89 : decode cX8_init 89 = .ok (.invokevirtual 36, 3) := by decide +kernel
theorem dX8_init_92 : decode cX8_init 92 = .ok (.goto 28, 3) := by decide +kernel
theorem dX8_init_95 : decode cX8_init 95 = .ok (.iload 4, 2) := by decide +kernel
theorem dX8_init_97 : decode cX8_init 97 = .ok (.ifCond .eq 23, 3) := by decide +kernel
theorem dX8_init_100 : decode cX8_init 100 = .ok (.aload_n 1, 1) := by decide +kernel
theorem dX8_init_101 : decode cX8_init 101 = .ok (.iload_n 2, 1) := by decide +kernel
theorem dX8_init_102 : decode cX8_init 102 = .ok (.invokevirtual 39, 3) := by decide +kernel
theorem dX8_init_105 : decode cX8_init 105 = .ok (.astore 5, 2) := by decide +kernel
theorem dX8_init_107 : decode cX8_init 107 = .ok (.aload_n 0, 1) := by decide +kernel
theorem dX8_init_108 : decode cX8_init 108 = .ok (.getfield 29, 3) := by decide +kernel
theorem dX8_init_111 : decode cX8_init 111 = .ok (.aload 5, 2) := by decide +kernel
theorem dX8_init_113 : decode cX8_init 113 = .ok (.iconst 0, 1) := by decide +kernel
theorem dX8_init_114 : decode cX8_init 114 = .ok (.aload 5, 2) := by decide +kernel
theorem dX8_init_116 : decode cX8_init 116 = .ok (.arraylength, 1) := by decide +kernel
theorem dX8_init_117 : decode cX8_init 117 = .ok (.invokevirtual 43, 3) := by decide +kernel
theorem dX8_init_120 : decode cX8_init 120 = .ok (.return_, 1) := by decide +kernel
end
section
theorem dX11_cancelRequest_0 : decode cX11_cancelRequest 0 = .ok (.new 115, 3) := by decide +kernel
theorem dX11_cancelRequest_3 : decode cX11_cancelRequest 3 = .ok (.dup, 1) := by decide +kernel
theorem dX11_cancelRequest_4 : decode cX11_cancelRequest 4 = .ok (.aload_n 0, 1) := by decide +kernel
theorem dX11_cancelRequest_5 : decode cX11_cancelRequest 5 = .ok (.getfield 28, 3) := by decide +kernel
theorem dX11_cancelRequest_8 : decode cX11_cancelRequest 8 = .ok (.aload_n 0, 1) := by decide +kernel
theorem dX11_cancelRequest_9 : decode cX11_cancelRequest 9 = .ok (.getfield 28, 3) := by decide +kernel
theorem dX11_cancelRequest_12 : decode cX11_cancelRequest 12 = .ok (.aload_n 0, 1) := by decide +kernel
theorem dX11_cancelRequest_13 : decode cX11_cancelRequest 13 = .ok (.getfield 28, 3) := by decide +kernel
theorem dX11_cancelRequest_16 : decode cX11_cancelRequest 16 = .ok (.iconst 0, 1) := by decide +kernel
theorem dX11_cancelRequest_17 : decode cX11_cancelRequest 17 = .ok (.ldc_w 271, 3) := by decide +kernel
theorem dX11_cancelRequest_20 : decode cX11_cancelRequest 20 = .ok (.invokevirtual 260, 3) := by decide +kernel
theorem dX11_cancelRequest_23 : decode cX11_cancelRequest 23 = .ok (.ldc_w 259, 3) := by decide +kernel
theorem dX11_cancelRequest_26 : decode cX11_cancelRequest 26 = .ok (.invokevirtual 260, 3) := by decide +kernel
theorem dX11_cancelRequest_29 : decode cX11_cancelRequest 29 = .ok (.invokespecial 264, 3) := by decide +kernel
theorem dX11_cancelRequest_32 : decode cX11_cancelRequest 32 = .ok (.astore_n 1, 1) := by decide +kernel
theorem dX11_cancelRequest_33 : decode cX11_cancelRequest 33 = .ok (.iconst 0, 1) := by decide +kernel
theorem dX11_cancelRequest_34 : decode cX11_cancelRequest 34 = .ok (.istore_n 2, 1) := by decide +kernel
theorem dX11_cancelRequest_35 : decode cX11_cancelRequest 35 = .ok (.iload_n 2, 1) := by decide +kernel
theorem dX11_cancelRequest_36 : decode cX11_cancelRequest 36 = .ok (.aload_n 0, 1) := by decide +kernel
theorem dX11_cancelRequest_37 : decode cX11_cancelRequest 37 = .ok (.getfield 65, 3) := by decide +kernel
theorem dX11_cancelRequest_40 : decode cX11_cancelRequest 40 = .ok (.invokeinterface 142 1, 5) := by decide +kernel
theorem dX11_cancelRequest_45 : decode cX11_cancelRequest 45 = .ok (.if_icmp .ge 50, 3) := by decide +kernel
theorem dX11_cancelRequest_48 : decode cX11_cancelRequest 48 = .ok (.aload_n 0, 1) := by decide +kernel
theorem dX11_cancelRequest_49 : decode cX11_cancelRequest 49 = .ok (.getfield 65, 3) := by decide +kernel
theorem dX11_cancelRequest_52 : decode cX11_cancelRequest 52 = .ok (.iload_n 2, 1) := by decide +kernel
theorem dX11_cancelRequest_53 : decode cX11_cancelRequest 53 = .ok (.invokeinterface 249 2, 5) := by decide +kernel
theorem dX11_cancelRequest_58 : decode cX11_cancelRequest 58 = .ok (.checkcast 115, 3) := by decide +kernel
theorem dX11_cancelRequest_61 : decode cX11_cancelRequest 61 = .ok (.aload_n 1, 1) := by decide +kernel
theorem dX11_cancelRequest_62 : decode cX11_cancelRequest 62 = .ok (.invokevirtual 426, 3) := by decide +kernel
theorem dX11_cancelRequest_65 : decode cX11_cancelRequest 65 = .ok (.ifCond .eq 24, 3) := by decide +kernel
theorem dX11_cancelRequest_68 : decode cX11_cancelRequest 68 = .ok (.aload_n 0, 1) := by decide +kernel
theorem dX11_cancelRequest_69 : decode cX11_cancelRequest 69 = .ok (.aload_n 0, 1) := by decide +kernel
theorem dX11_cancelRequest_70 : decode cX11_cancelRequest 70 = .ok (.getfield 65, 3) := by decide +kernel
theorem dX11_cancelRequest_73 : decode cX11_cancelRequest 73 = .ok (.iload_n 2, 1) := by decide +kernel
theorem dX11_cancelRequest_74 : decode cX11_cancelRequest 74 = .ok (.invokeinterface 423 2, 5) := by decide +kernel
theorem dX11_cancelRequest_79 : decode cX11_cancelRequest 79 = .ok (.checkcast 115, 3) := by decide +kernel
theorem dX11_cancelRequest_82 : decode cX11_cancelRequest 82 = .ok (.ldc_w 429, 3) := by decide +kernel
theorem dX11_cancelRequest_85 : decode cX11_cancelRequest 85 = .ok (.invokevirtual 267, 3) := by decide +kernel
theorem dX11_cancelRequest_88 : decode cX11_cancelRequest 88 = .ok (.return_, 1) := by decide +kernel
theorem dX11_cancelRequest_89 : decode cX11_cancelRequest 89 = .ok (.iinc 2 1, 3) := by decide +kernel
theorem dX11_cancelRequest_92 : decode cX11_cancelRequest 92 = .ok (.goto (-57), 3) := by decide +kernel
theorem dX11_cancelRequest_95 : decode cX11_cancelRequest 95 = .ok (.return_, 1) := by decide +kernel
end
section
-- p9: what the class's methods say of JSON
section
variable {T T1 : Nat → Int → Int} {v u v1 k f z : Int} {fk fi fz fn fa fs fu gk gi gz gn ga gs gu : Nat → Int32}
end
section
variable {X : Int × Int × Int × Int × (Nat → Int → Int)} {e d r a v u a0 v0 u0 : Int} {T : Nat → Int → Int} {fk fi fz fn fa fs fu : Nat → Int32}
end
theorem jb_or16 {x y z : Int32} (e : z = x ||| y) (q : Int) (hx : x.toInt = q * 16) (h0 : 0 ≤ q) (hq : q < 16777216) (hy : 0 ≤ y.toInt) (hy1 : y.toInt < 16) : z.toInt = q * 16 + y.toInt := by
  obtain ⟨n, hn, ex, ex2⟩ := jN_of (x := x) (by omega)
  obtain ⟨m, hm, ey, ey2⟩ := jN_of hy
  have h1 : n ||| m < 2 ^ 31 := Nat.or_lt_two_pow hn hm
  have h2 : n = q.toNat <<< 4 := by rw [Nat.shiftLeft_eq]; omega
  have h3 : q.toNat <<< 4 + m = q.toNat <<< 4 ||| m := Nat.shiftLeft_add_eq_or_of_lt (by omega) _
  rw [e, ex, ey, jN_or hn hm, nI_toInt h1, h2, ← h3, ← ey, ey2, ← h2]
  omega
section
variable {b : Int → Int} {e a v u r a1 v1 u1 z c : Int} {T T1 : Nat → Int → Int}
end
section
variable {b : Int → Int} {e a v u r qt qv qu d c : Int} {T : Nat → Int → Int} {fk fi fz fn fa fs fu : Nat → Int32} {n : Nat}
end
section
variable {b : Int → Int} {e o h : Int} {V : Int → Int → Int → (Nat → Int → Int) → Int × Int × Int × Int × (Nat → Int → Int)}
variable {k : Nat} {a v u l a1 u1 r r1 a2 v2 u2 q a3 d d1 qt qv qu : Int} {T T1 T2 : Nat → Int → Int} {X : Int × Int × Int × Int × (Nat → Int → Int)} {fk fi fz fn fa fs fu gk gi gz gn ga gs gu : Nat → Int32}
end
section
variable {b : Int → Int} {e a l1 l2 l3 l4 w w1 q : Int}
end
theorem jb_lm10 {x z : Int64} (e : z = x * 10) (h0 : -1000000000000 ≤ x.toInt) (h1 : x.toInt ≤ 1000000000000) : z.toInt = x.toInt * 10 := by
  rw [e, Int64.toInt_mul]
  show Int.bmod (x.toInt * 10) 18446744073709551616 = _
  unfold Int.bmod
  dsimp only
  split <;> omega
section
variable {b : Int → Int} {e a d w r r1 v u q v0 u0 : Int} {fk fi fz fn fa fs fu : Nat → Int32} {T0 : Nat → Int → Int}
end
end
section
def EX0_isLowJ : List (Nat × Nat) := []
def EX0_isHighJ : List (Nat × Nat) := []
set_option maxHeartbeats 4000000 in
set_option maxRecDepth 20000 in
theorem uX0_isLowJ (l : Launch) (dC : Nat → ClassId) (dI : Nat → Nat → Nat) (ca : Nat → ClassId) (base : Nat) (B : jF) (hB : jBok B) (hAp : jAp (dC, dI)) (G0 : jT) (H0 : Heap) (a0 : Int32) : Met l yX0_isLow (jw yX0_isLow cX0_isLow 1 (some .boolean)) ({ frames := 0, cells := 0, slots := 0, locals := 0 }) (va_Pc [.int a0] (fun U => U.heap = H0 ∧ jX B base G0 [] H0 ∧ jG dC dI ca base U ∧ jP (dC, dI) G0 H0 [] ∧ True)) (va_Qi (S := Unit) (fun r u => (r = 0 ∨ r = 1) ∧ ((r.toInt = 1 ∧ 56320 ≤ a0.toInt ∧ a0.toInt ≤ 57343) ∨ (r.toInt = 0 ∧ (a0.toInt < 56320 ∨ 57343 < a0.toInt)))) (fun u t => jRt (dC, dI) B base G0 EX0_isLowJ H0 [] t.heap) (jA base)) 0 0 (jA base) := by
  refine Met.ofW (cc := cX0_isLow) (maxL := 1) (ret := (some .boolean)) (by decide) rfl ?_
  intro p e s m args below meth c s₁ Bd hml hv
  obtain ⟨rfl, hH0, hX, hG, hP0, hp0⟩ := hv
  have hK := hG.1
  have hx := Bd.exec
  have hb := Bd.bytes
  have hr := Bd.returns
  have hts := atoms_spec (ws := (jw yX0_isLow cX0_isLow 1 (some .boolean))) Bd.pre
  have htw : ∀ w ∈ jWl, w.before _ s = true := fun w h => hts w (List.mem_cons_of_mem _ h)
  have hown : s.vm.findClass RX0 = some m.cls := findClass_of_methodNamed Bd.named
  have hlocks := Bd.notSynchronized
  obtain ⟨Q, hQ⟩ : ∃ Q, Q = MQ below (va_Qi (S := Unit) (fun r u => (r = 0 ∨ r = 1) ∧ ((r.toInt = 1 ∧ 56320 ≤ a0.toInt ∧ a0.toInt ≤ 57343) ∨ (r.toInt = 0 ∧ (a0.toInt < 56320 ∨ 57343 < a0.toInt)))) (fun u t => jRt (dC, dI) B base G0 EX0_isLowJ H0 [] t.heap) (jA base)) ([.int a0] : List Value).toArray s 0 0 (jA base) := ⟨_, rfl⟩
  rw [← hQ]
  have hl := lv_entry ([.int a0]) (n := 1) (Nat.le_of_ble_eq_true rfl)
  rw [lg_entry_eq]
  generalize (lg_sl ([.int a0]) ++ List.replicate (1 - (lg_sl ([.int a0])).length) Slot.unset).toArray = ls at hl ⊢
  have hl : lv_has ls 1 [(0, .int a0)] := hl
  generalize hR : (headSpec (jw yX0_isLow cX0_isLow 1 (some .boolean)) ({ frames := 0, cells := 0, slots := 0, locals := 0 })).room = R
  subst hH0
  have hh : jSt (dC, dI) B base G0 G0 EX0_isLowJ s.heap 0 0 [] [] [] s.heap [] := jSt.start hX hP0 jMc.nil jIs.nil
  clear hX hP0
  have hk0 : (0 : Int32).toInt = 0 := by decide
  have hk1 : (1 : Int32).toInt = 1 := by decide
  have hk56320 : (56320 : Int32).toInt = 56320 := by decide
  have hk57344 : (57344 : Int32).toInt = 57344 := by decide
  have hcs_62 := htw (.constant RX0 62 56320) (jWr_21 _ (List.mem_of_getElem? (i := 12) rfl))
  have hcs_73 := htw (.constant RX0 73 57344) (jWr_20 _ (List.mem_of_getElem? (i := 18) rfl))
  have hrg_a0 := jb_rng a0
  refine lv_iload_n hx hb dX0_isLow_0 rfl (lv_at hl 0 rfl) ?_
  refine lv_ldc hx hb hown hcs_62 dX0_isLow_1 ?_
  refine lv_icmp_lt (tgt := 16) hx hb dX0_isLow_3 (by decide) (fun c_1 => ?_) (fun c_1 => ?_)
  · skip
    have c_1' : a0.toInt < 56320 := jb_lt (rfl) ((by decide)) c_1
    refine lv_iconst (v := 0) hx hb dX0_isLow_16 (by decide) ?_
    rw [hQ]
    exact W.zret (v := 0) hx hb hr (jb_nz (Or.inl rfl)) (fun t ht hW => ⟨⟨0, (), rfl, ⟨(Or.inl rfl), by first | omega | rfl | assumption | decide | exact Or.inl rfl | exact Or.inr rfl | (simp only; omega)⟩, hh.rt (M1 := []) [] rfl ht⟩, by rw [ht]; try exact hh.1.1, fun q h9 hq => by rw [ht]; try exact hh.1.2.1 q h9 hq⟩) hh.1.2.2 dX0_isLow_17
  · skip
    have c_1' : a0.toInt ≥ 56320 := jb_lt_n (rfl) ((by decide)) c_1
    refine lv_iload_n hx hb dX0_isLow_6 rfl (lv_at hl 0 rfl) ?_
    refine lv_ldc hx hb hown hcs_73 dX0_isLow_7 ?_
    refine lv_icmp_ge (tgt := 16) hx hb dX0_isLow_9 (by decide) (fun c_2 => ?_) (fun c_2 => ?_)
    · skip
      have c_2' : a0.toInt ≥ 57344 := jb_ge (rfl) ((by decide)) c_2
      refine lv_iconst (v := 0) hx hb dX0_isLow_16 (by decide) ?_
      rw [hQ]
      exact W.zret (v := 0) hx hb hr (jb_nz (Or.inl rfl)) (fun t ht hW => ⟨⟨0, (), rfl, ⟨(Or.inl rfl), by first | omega | rfl | assumption | decide | exact Or.inl rfl | exact Or.inr rfl | (simp only; omega)⟩, hh.rt (M1 := []) [] rfl ht⟩, by rw [ht]; try exact hh.1.1, fun q h9 hq => by rw [ht]; try exact hh.1.2.1 q h9 hq⟩) hh.1.2.2 dX0_isLow_17
    · skip
      have c_2' : a0.toInt < 57344 := jb_ge_n (rfl) ((by decide)) c_2
      refine lv_iconst (v := 1) hx hb dX0_isLow_12 (by decide) ?_
      refine lv_goto (tgt := 17) hx hb dX0_isLow_13 (by decide) ?_
      rw [hQ]
      exact W.zret (v := 1) hx hb hr (jb_nz (Or.inr rfl)) (fun t ht hW => ⟨⟨1, (), rfl, ⟨(Or.inr rfl), by first | omega | rfl | assumption | decide | exact Or.inl rfl | exact Or.inr rfl | (simp only; omega)⟩, hh.rt (M1 := []) [] rfl ht⟩, by rw [ht]; try exact hh.1.1, fun q h9 hq => by rw [ht]; try exact hh.1.2.1 q h9 hq⟩) hh.1.2.2 dX0_isLow_17
set_option maxHeartbeats 4000000 in
set_option maxRecDepth 20000 in
theorem uX0_isHighJ (l : Launch) (dC : Nat → ClassId) (dI : Nat → Nat → Nat) (ca : Nat → ClassId) (base : Nat) (B : jF) (hB : jBok B) (hAp : jAp (dC, dI)) (G0 : jT) (H0 : Heap) (a0 : Int32) : Met l yX0_isHigh (jw yX0_isHigh cX0_isHigh 1 (some .boolean)) ({ frames := 0, cells := 0, slots := 0, locals := 0 }) (va_Pc [.int a0] (fun U => U.heap = H0 ∧ jX B base G0 [] H0 ∧ jG dC dI ca base U ∧ jP (dC, dI) G0 H0 [] ∧ True)) (va_Qi (S := Unit) (fun r u => (r = 0 ∨ r = 1) ∧ ((r.toInt = 1 ∧ 55296 ≤ a0.toInt ∧ a0.toInt ≤ 56319) ∨ (r.toInt = 0 ∧ (a0.toInt < 55296 ∨ 56319 < a0.toInt)))) (fun u t => jRt (dC, dI) B base G0 EX0_isHighJ H0 [] t.heap) (jA base)) 0 0 (jA base) := by
  refine Met.ofW (cc := cX0_isHigh) (maxL := 1) (ret := (some .boolean)) (by decide) rfl ?_
  intro p e s m args below meth c s₁ Bd hml hv
  obtain ⟨rfl, hH0, hX, hG, hP0, hp0⟩ := hv
  have hK := hG.1
  have hx := Bd.exec
  have hb := Bd.bytes
  have hr := Bd.returns
  have hts := atoms_spec (ws := (jw yX0_isHigh cX0_isHigh 1 (some .boolean))) Bd.pre
  have htw : ∀ w ∈ jWl, w.before _ s = true := fun w h => hts w (List.mem_cons_of_mem _ h)
  have hown : s.vm.findClass RX0 = some m.cls := findClass_of_methodNamed Bd.named
  have hlocks := Bd.notSynchronized
  obtain ⟨Q, hQ⟩ : ∃ Q, Q = MQ below (va_Qi (S := Unit) (fun r u => (r = 0 ∨ r = 1) ∧ ((r.toInt = 1 ∧ 55296 ≤ a0.toInt ∧ a0.toInt ≤ 56319) ∨ (r.toInt = 0 ∧ (a0.toInt < 55296 ∨ 56319 < a0.toInt)))) (fun u t => jRt (dC, dI) B base G0 EX0_isHighJ H0 [] t.heap) (jA base)) ([.int a0] : List Value).toArray s 0 0 (jA base) := ⟨_, rfl⟩
  rw [← hQ]
  have hl := lv_entry ([.int a0]) (n := 1) (Nat.le_of_ble_eq_true rfl)
  rw [lg_entry_eq]
  generalize (lg_sl ([.int a0]) ++ List.replicate (1 - (lg_sl ([.int a0])).length) Slot.unset).toArray = ls at hl ⊢
  have hl : lv_has ls 1 [(0, .int a0)] := hl
  generalize hR : (headSpec (jw yX0_isHigh cX0_isHigh 1 (some .boolean)) ({ frames := 0, cells := 0, slots := 0, locals := 0 })).room = R
  subst hH0
  have hh : jSt (dC, dI) B base G0 G0 EX0_isHighJ s.heap 0 0 [] [] [] s.heap [] := jSt.start hX hP0 jMc.nil jIs.nil
  clear hX hP0
  have hk0 : (0 : Int32).toInt = 0 := by decide
  have hk1 : (1 : Int32).toInt = 1 := by decide
  have hk55296 : (55296 : Int32).toInt = 55296 := by decide
  have hk56320 : (56320 : Int32).toInt = 56320 := by decide
  have hcs_61 := htw (.constant RX0 61 55296) (jWr_20 _ (List.mem_of_getElem? (i := 17) rfl))
  have hcs_62 := htw (.constant RX0 62 56320) (jWr_21 _ (List.mem_of_getElem? (i := 12) rfl))
  have hrg_a0 := jb_rng a0
  refine lv_iload_n hx hb dX0_isHigh_0 rfl (lv_at hl 0 rfl) ?_
  refine lv_ldc hx hb hown hcs_61 dX0_isHigh_1 ?_
  refine lv_icmp_lt (tgt := 16) hx hb dX0_isHigh_3 (by decide) (fun c_1 => ?_) (fun c_1 => ?_)
  · skip
    have c_1' : a0.toInt < 55296 := jb_lt (rfl) ((by decide)) c_1
    refine lv_iconst (v := 0) hx hb dX0_isHigh_16 (by decide) ?_
    rw [hQ]
    exact W.zret (v := 0) hx hb hr (jb_nz (Or.inl rfl)) (fun t ht hW => ⟨⟨0, (), rfl, ⟨(Or.inl rfl), by first | omega | rfl | assumption | decide | exact Or.inl rfl | exact Or.inr rfl | (simp only; omega)⟩, hh.rt (M1 := []) [] rfl ht⟩, by rw [ht]; try exact hh.1.1, fun q h9 hq => by rw [ht]; try exact hh.1.2.1 q h9 hq⟩) hh.1.2.2 dX0_isHigh_17
  · skip
    have c_1' : a0.toInt ≥ 55296 := jb_lt_n (rfl) ((by decide)) c_1
    refine lv_iload_n hx hb dX0_isHigh_6 rfl (lv_at hl 0 rfl) ?_
    refine lv_ldc hx hb hown hcs_62 dX0_isHigh_7 ?_
    refine lv_icmp_ge (tgt := 16) hx hb dX0_isHigh_9 (by decide) (fun c_2 => ?_) (fun c_2 => ?_)
    · skip
      have c_2' : a0.toInt ≥ 56320 := jb_ge (rfl) ((by decide)) c_2
      refine lv_iconst (v := 0) hx hb dX0_isHigh_16 (by decide) ?_
      rw [hQ]
      exact W.zret (v := 0) hx hb hr (jb_nz (Or.inl rfl)) (fun t ht hW => ⟨⟨0, (), rfl, ⟨(Or.inl rfl), by first | omega | rfl | assumption | decide | exact Or.inl rfl | exact Or.inr rfl | (simp only; omega)⟩, hh.rt (M1 := []) [] rfl ht⟩, by rw [ht]; try exact hh.1.1, fun q h9 hq => by rw [ht]; try exact hh.1.2.1 q h9 hq⟩) hh.1.2.2 dX0_isHigh_17
    · skip
      have c_2' : a0.toInt < 56320 := jb_ge_n (rfl) ((by decide)) c_2
      refine lv_iconst (v := 1) hx hb dX0_isHigh_12 (by decide) ?_
      refine lv_goto (tgt := 17) hx hb dX0_isHigh_13 (by decide) ?_
      rw [hQ]
      exact W.zret (v := 1) hx hb hr (jb_nz (Or.inr rfl)) (fun t ht hW => ⟨⟨1, (), rfl, ⟨(Or.inr rfl), by first | omega | rfl | assumption | decide | exact Or.inl rfl | exact Or.inr rfl | (simp only; omega)⟩, hh.rt (M1 := []) [] rfl ht⟩, by rw [ht]; try exact hh.1.1, fun q h9 hq => by rw [ht]; try exact hh.1.2.1 q h9 hq⟩) hh.1.2.2 dX0_isHigh_17
end
section
def EX4_isTextJ : List (Nat × Nat) := []
set_option maxHeartbeats 4000000 in
set_option maxRecDepth 20000 in
theorem uX4_isTextJ (l : Launch) (dC : Nat → ClassId) (dI : Nat → Nat → Nat) (ca : Nat → ClassId) (base : Nat) (B : jF) (hB : jBok B) (hAp : jAp (dC, dI)) (hB6 : ∀ n G a H, B 6 n G a H ↔ jOb (dC, dI) 6 12 (F6 n G) a H) (hB140 : ∀ n G a H, B 140 n G a H ↔ jAr (dC, dI) (ca 1) (fun j z => True) n a H) (hB141 : ∀ n G a H, B 141 n G a H ↔ jAr (dC, dI) (ca 1) (fun j z => True) n a H) (hB142 : ∀ n G a H, B 142 n G a H ↔ jAr (dC, dI) (ca 1) (fun j z => True) n a H) (hB146 : ∀ n G a H, B 146 n G a H ↔ jAr (dC, dI) (ca 1) (fun j z => True) n a H) (G0 : jT) (H0 : Heap) (r0 : Nat) (a1 : Int32) (r2 : Nat) (n2 : Nat) (f2 : Nat → Int32) (pv : Int32) (pu : Int32) (wk : Nat) (wi : Nat) (wz : Nat) (jnx : Nat) (jkf : Nat) (jks : Nat) (jun : Nat) (T9 : Nat → Int → Int) (fk : Nat → Int32) (fi : Nat → Int32) (fz : Nat → Int32) (fn : Nat → Int32) (fa : Nat → Int32) (fs : Nat → Int32) (fu : Nat → Int32) : Met l yX4_isText (jw yX4_isText cX4_isText 3 (some .boolean)) ({ frames := 5, cells := 0, slots := 0, locals := 165 }) (va_Pc [.ref r0, .int a1, .ref r2] (fun U => U.heap = H0 ∧ jX B base G0 [] H0 ∧ jG dC dI ca base U ∧ jStrF base r2 n2 f2 U H0 ∧ G0 r0 = some (6, 0) ∧ G0 wk = some (140, 1502) ∧ G0 wi = some (141, 1502) ∧ G0 wz = some (142, 1502) ∧ G0 jnx = some (143, 1502) ∧ G0 jkf = some (144, 1502) ∧ G0 jks = some (145, 1502) ∧ G0 jun = some (146, 3000) ∧ jP (dC, dI) G0 H0 [(r0, 6, 7, .int pv), (r0, 6, 8, .int pu), (r0, 6, 0, .ref wk), (r0, 6, 1, .ref wi), (r0, 6, 2, .ref wz), (r0, 6, 3, .ref jnx), (r0, 6, 4, .ref jkf), (r0, 6, 5, .ref jks), (r0, 6, 6, .ref jun)] ∧ jMc (dC, dI) G0 H0 [(wk, 140, 1502, ca 1, fk), (wi, 141, 1502, ca 1, fi), (wz, 142, 1502, ca 1, fz), (jnx, 143, 1502, ca 1, fn), (jkf, 144, 1502, ca 1, fa), (jks, 145, 1502, ca 1, fs), (jun, 146, 3000, ca 1, fu)] ∧ 0 ≤ pv.toInt ∧ pv.toInt ≤ 1502 ∧ 0 ≤ pu.toInt ∧ pu.toInt ≤ 3000 ∧ jjTC T9 pv.toInt pu.toInt fk fi fz fn fa fs fu ∧ n2 ≤ 1000 ∧ jqR fk fi fz fa fs pv.toInt pu.toInt)) (va_Qi (S := Unit) (fun r u => (r = 0 ∨ r = 1) ∧ ((r.toInt = 0 ∨ (0 ≤ a1.toInt ∧ a1.toInt < pv.toInt ∧ jSo fk a1.toInt = 3 ∧ jSo fz a1.toInt = n2)) ∧ r.toInt = jqI T9 pv.toInt f2 n2 a1.toInt)) (fun u t => (jRt (dC, dI) B base G0 EX4_isTextJ H0 [] t.heap) ∧ jKl [] H0 t.heap) (jA base)) 0 0 (jA base) := by
  refine Met.ofW (cc := cX4_isText) (maxL := 3) (ret := (some .boolean)) (by decide) rfl ?_
  intro p e s m args below meth c s₁ Bd hml hv
  obtain ⟨rfl, hH0, hX, hG, hstrF_r2, hg_r0, hg_wk, hg_wi, hg_wz, hg_jnx, hg_jkf, hg_jks, hg_jun, hP0, hM0, hp0, hp1, hp2, hp3, hp4, hp5, hp6⟩ := hv
  have hK := hG.1
  have hx := Bd.exec
  have hb := Bd.bytes
  have hr := Bd.returns
  have hts := atoms_spec (ws := (jw yX4_isText cX4_isText 3 (some .boolean))) Bd.pre
  have htw : ∀ w ∈ jWl, w.before _ s = true := fun w h => hts w (List.mem_cons_of_mem _ h)
  have hown : s.vm.findClass RX4 = some m.cls := findClass_of_methodNamed Bd.named
  have hlocks := Bd.notSynchronized
  obtain ⟨Q, hQ⟩ : ∃ Q, Q = MQ below (va_Qi (S := Unit) (fun r u => (r = 0 ∨ r = 1) ∧ ((r.toInt = 0 ∨ (0 ≤ a1.toInt ∧ a1.toInt < pv.toInt ∧ jSo fk a1.toInt = 3 ∧ jSo fz a1.toInt = n2)) ∧ r.toInt = jqI T9 pv.toInt f2 n2 a1.toInt)) (fun u t => (jRt (dC, dI) B base G0 EX4_isTextJ H0 [] t.heap) ∧ jKl [] H0 t.heap) (jA base)) ([.ref r0, .int a1, .ref r2] : List Value).toArray s 0 0 (jA base) := ⟨_, rfl⟩
  rw [← hQ]
  have hl := lv_entry ([.ref r0, .int a1, .ref r2]) (n := 3) (Nat.le_of_ble_eq_true rfl)
  rw [lg_entry_eq]
  generalize (lg_sl ([.ref r0, .int a1, .ref r2]) ++ List.replicate (3 - (lg_sl ([.ref r0, .int a1, .ref r2])).length) Slot.unset).toArray = ls at hl ⊢
  have hstr_r2 := hstrF_r2.str
  have hl : lv_has ls 3 [(0, .ref r0), (1, .int a1), (2, .ref r2)] := hl
  generalize hR : (headSpec (jw yX4_isText cX4_isText 3 (some .boolean)) ({ frames := 5, cells := 0, slots := 0, locals := 165 })).room = R
  subst hH0
  have hh : jSt (dC, dI) B base G0 G0 EX4_isTextJ s.heap 0 0 [(r0, 6, 7, .int pv), (r0, 6, 8, .int pu), (r0, 6, 0, .ref wk), (r0, 6, 1, .ref wi), (r0, 6, 2, .ref wz), (r0, 6, 3, .ref jnx), (r0, 6, 4, .ref jkf), (r0, 6, 5, .ref jks), (r0, 6, 6, .ref jun)] [(wk, 140, 1502, ca 1, fk), (wi, 141, 1502, ca 1, fi), (wz, 142, 1502, ca 1, fz), (jnx, 143, 1502, ca 1, fn), (jkf, 144, 1502, ca 1, fa), (jks, 145, 1502, ca 1, fs), (jun, 146, 3000, ca 1, fu)] [] s.heap [] := jSt.start hX hP0 hM0 jIs.nil
  clear hX hP0
  have hk0 : (0 : Int32).toInt = 0 := by decide
  have hk1 : (1 : Int32).toInt = 1 := by decide
  have hk3 : (3 : Int32).toInt = 3 := by decide
  have hly_6_1 := htw (u_lay RX4 TX4 1) (jWc_wsX40 _ (u_in_lay (by decide)))
  have hly_6_2 := htw (u_lay RX4 TX4 2) (jWc_wsX40 _ (u_in_lay (by decide)))
  have hlk_15 := (htw (.fieldLink RX4 15 "ProofServer$Json" "firsts" "[I") (jWr_3 _ (List.mem_of_getElem? (i := 22) rfl)))
  have hlk_18 := (htw (.fieldLink RX4 18 "ProofServer$Json" "sizes" "[I") (jWr_3 _ (List.mem_of_getElem? (i := 23) rfl)))
  have hrg_a1 := jb_rng a1
  have hfl : jKl [] s.heap s.heap := jKl.rf
  refine lv_aload_n hx hb dX4_isText_0 rfl (lv_at hl 0 rfl) ?_
  refine lv_iload_n hx hb dX4_isText_1 rfl (lv_at hl 1 rfl) ?_
  refine va_calli (A0 := jA base) (H0 := s.heap) (va_runV (As := [.int a1]) (rest := []) ⟨hx, hb, hml, hown, hts⟩ (uX4_kindOfJ l dC dI ca base B hB hAp hB6 hB140 G0 s.heap r0 a1 pv pu wk wi wz jnx jkf jks jun T9 fk fi fz fn fa fs fu) (cwV 1 hts (jgV (jWr_23 _ (List.mem_of_getElem? (i := 14) rfl)) (jWr_23 _ (List.mem_of_getElem? (i := 15) rfl)) (jWr_23 _ (List.mem_of_getElem? (i := 16) rfl)) (jWr_1 _ (List.mem_of_getElem? (i := 22) rfl)) (jWr_23 _ (List.mem_of_getElem? (i := 17) rfl))) rfl rfl rfl (by decide +kernel) ⟨by rw [← hR]; exact Nat.le_of_ble_eq_true rfl, by rw [← hR]; exact Nat.le_of_ble_eq_true rfl⟩) ⟨fun a U g mk q => by obtain ⟨q0, q1, q2, qK, q10, q11, q12, q13, q14, q15, q16, q17, q18, q19, q20⟩ := q; exact ⟨q0, q1, q2, jG.calling g mk a qK, q10, q11, q12, q13, q14, q15, q16, q17, q18, q19, q20⟩, hh.recv (C := RX4) (T := TX4) (N := 12) hB6 rfl (by decide) hg_r0 hK, fun U hU hW => ⟨rfl, hU, hh.2.1, hG.step hW hU hh.1, hg_r0, hg_wk, hg_wi, hg_wz, hg_jnx, hg_jkf, hg_jks, hg_jun, (hh.2.2.1.sub (L1 := [(r0, 6, 7, .int pv), (r0, 6, 8, .int pu), (r0, 6, 0, .ref wk), (r0, 6, 1, .ref wi), (r0, 6, 2, .ref wz), (r0, 6, 3, .ref jnx), (r0, 6, 4, .ref jkf), (r0, 6, 5, .ref jks), (r0, 6, 6, .ref jun)]) [0, 1, 2, 3, 4, 5, 6, 7, 8] rfl), (hh.2.2.2.2.2.2.2.1.sub (L1 := [(wk, 140, 1502, ca 1, fk), (wi, 141, 1502, ca 1, fi), (wz, 142, 1502, ca 1, fz), (jnx, 143, 1502, ca 1, fn), (jkf, 144, 1502, ca 1, fa), (jks, 145, 1502, ca 1, fs), (jun, 146, 3000, ca 1, fu)]) [0, 1, 2, 3, 4, 5, 6] rfl), by first | omega | (refine ⟨?_, ?_, ?_, ?_, ?_⟩ <;> (first | omega | rfl | assumption | decide | exact Or.inl rfl | exact Or.inr rfl | (simp only; omega)))⟩⟩ rfl rfl hl.1 rfl (lv_room (Nat.le_of_ble_eq_true rfl)) dX4_isText_2 ⟨Nat.zero_le _, Nat.zero_le _⟩) hh.1 (fun q _ h => h) (fun q h => h) (fun r_2 u_1 t_1 H_1 locs_1 ht_1 hvm_1 hr_2 hb_1 hz_1 hk_1 hS_1 => ?_)
  rw [ht_1] at hb_1
  obtain ⟨hb_1, hbF_1⟩ := hb_1
  obtain ⟨hb_11, hb_12, hb_13, hb_14, hb_15⟩ := hb_1
  have hh_1 : jSt (dC, dI) B base G0 G0 EX4_isTextJ s.heap 0 0 [(r0, 6, 7, .int pv), (r0, 6, 8, .int pu), (r0, 6, 0, .ref wk), (r0, 6, 1, .ref wi), (r0, 6, 2, .ref wz), (r0, 6, 3, .ref jnx), (r0, 6, 4, .ref jkf), (r0, 6, 5, .ref jks), (r0, 6, 6, .ref jun)] [(wk, 140, 1502, ca 1, fk), (wi, 141, 1502, ca 1, fi), (wz, 142, 1502, ca 1, fz), (jnx, 143, 1502, ca 1, fn), (jkf, 144, 1502, ca 1, fa), (jks, 145, 1502, ca 1, fs), (jun, 146, 3000, ca 1, fu)] [] H_1 locs_1 := ((hh.call hb_11 hb_12 hb_13 hb_14 hS_1 rfl (L1 := [(r0, 6, 7, .int pv), (r0, 6, 8, .int pu), (r0, 6, 0, .ref wk), (r0, 6, 1, .ref wi), (r0, 6, 2, .ref wz), (r0, 6, 3, .ref jnx), (r0, 6, 4, .ref jkf), (r0, 6, 5, .ref jks), (r0, 6, 6, .ref jun)]) [0, 1, 2, 3, 4, 5, 6, 7, 8] rfl rfl (M1 := [(wk, 140, 1502, ca 1, fk), (wi, 141, 1502, ca 1, fi), (wz, 142, 1502, ca 1, fz), (jnx, 143, 1502, ca 1, fn), (jkf, 144, 1502, ca 1, fa), (jks, 145, 1502, ca 1, fs), (jun, 146, 3000, ca 1, fu)]) [0, 1, 2, 3, 4, 5, 6] rfl rfl (I1 := []) [] rfl rfl).more hb_15)
  clear hh ht_1 hvm_1 hz_1 hk_1 hS_1 hb_11 hb_12 hb_13 hb_14 hb_15
  have hfl_3 := hfl.tr hbF_1 (by first | exact fun q h => h | (intro q h9; simp at h9 ⊢; exact h9) | (intro q h9; simp at h9))
  obtain ⟨hr_2_0, hr_2_1⟩ := hr_2
  refine lv_iconst (v := 3) hx hb dX4_isText_5 (by decide) ?_
  refine lv_icmp_ne (tgt := 33) hx hb dX4_isText_6 (by decide) (fun c_4 => ?_) (fun c_4 => ?_)
  · skip
    have c_4' : r_2.toInt ≠ 3 := jb_ne (rfl) ((by decide)) c_4
    try clear hr_2_0
    refine lv_iconst (v := 0) hx hb dX4_isText_33 (by decide) ?_
    rw [hQ]
    exact W.zret (v := 0) hx hb hr (jb_nz (Or.inl rfl)) (fun t ht hW => ⟨⟨0, (), rfl, ⟨(Or.inl rfl), by refine ⟨Or.inl (by omega), ?_⟩; unfold jqI; rw [if_neg (by rw [← hr_2_1]; omega)]; exact hk0⟩, ⟨hh_1.rt (M1 := []) [] rfl ht, by rw [ht]; exact hfl_3⟩⟩, by rw [ht]; try exact hh_1.1.1, fun q h9 hq => by rw [ht]; try exact hh_1.1.2.1 q h9 hq⟩) hh_1.1.2.2 dX4_isText_34
  · skip
    have c_4' : r_2.toInt = 3 := jb_ne_n (rfl) ((by decide)) c_4
    first | (have hr_2_0q := hr_2_0.resolve_left (by omega); clear hr_2_0) | (have hr_2_0q := hr_2_0.resolve_right (by omega); clear hr_2_0) | try clear hr_2_0
    have hka := jqK.p (T := T9) (v := pv.toInt) (i := a1.toInt) (by rw [← hr_2_1]; omega)
    have hr9 := (hp6 a1.toInt hka.1 hka.2.1).2 (by rw [← hp4.1 _ hka.1 hka.2.1, ← hka.2.2, ← hr_2_1]; omega)
    refine lv_aload_n hx hb dX4_isText_9 rfl (lv_at hl 0 rfl) ?_
    refine lv_aload_n hx hb dX4_isText_10 rfl (lv_at hl 0 rfl) ?_
    refine j7_read hx hb hown hK (C := RX4) (T := TX4) (N := 12) rfl hly_6_1 hlk_15 (hh_1.at 3 rfl) dX4_isText_11 ?_
    refine lv_iload_n hx hb dX4_isText_14 rfl (lv_at hl 1 rfl) ?_
    refine j7_ialdM hx hb hK hh_1 hB141 1 rfl (by decide) hg_wi (x := a1.toInt) (rfl) (by omega) (j := 1) rfl dX4_isText_15 (fun z_5 ez_5 (hz_5 : True) => ?_)
    have hqz_5 : z_5.toInt = jSo fi (a1.toInt) := by unfold jSo; rw [ez_5]
    refine lv_aload_n hx hb dX4_isText_16 rfl (lv_at hl 0 rfl) ?_
    refine j7_read hx hb hown hK (C := RX4) (T := TX4) (N := 12) rfl hly_6_2 hlk_18 (hh_1.at 4 rfl) dX4_isText_17 ?_
    refine lv_iload_n hx hb dX4_isText_20 rfl (lv_at hl 1 rfl) ?_
    refine j7_ialdM hx hb hK hh_1 hB142 1 rfl (by decide) hg_wz (x := a1.toInt) (rfl) (by omega) (j := 2) rfl dX4_isText_21 (fun z_6 ez_6 (hz_6 : True) => ?_)
    have hqz_6 : z_6.toInt = jSo fz (a1.toInt) := by unfold jSo; rw [ez_6]
    refine lv_aload_n hx hb dX4_isText_22 rfl (lv_at hl 2 rfl) ?_
    refine va_calli (A0 := jA base) (H0 := s.heap) (va_runV (As := [.int z_5, .int z_6, .ref r2]) (rest := []) ⟨hx, hb, hml, hown, hts⟩ (uX4_areUnitsJ l dC dI ca base B hB hAp hB6 hB146 G0 H_1 r0 z_5 z_6 r2 n2 f2 pu jun T9 fu) (cwV 3 hts (jgV (jWr_23 _ (List.mem_of_getElem? (i := 18) rfl)) (jWr_23 _ (List.mem_of_getElem? (i := 19) rfl)) (jWr_23 _ (List.mem_of_getElem? (i := 20) rfl)) (jWr_1 _ (List.mem_of_getElem? (i := 22) rfl)) (jWr_23 _ (List.mem_of_getElem? (i := 21) rfl))) rfl rfl rfl (by decide +kernel) ⟨by rw [← hR]; exact Nat.le_of_ble_eq_true rfl, by rw [← hR]; exact Nat.le_of_ble_eq_true rfl⟩) ⟨fun a U g mk q => by obtain ⟨q0, q1, q2, qK, q10, q11, q12, q13, q14, q15⟩ := q; exact ⟨q0, q1, q2, jG.calling g mk a qK, (q10.moved (Vm.Alike.refl U.vm)), q11, q12, q13, q14, q15⟩, hh_1.recv (C := RX4) (T := TX4) (N := 12) hB6 rfl (by decide) hg_r0 hK, fun U hU hW => ⟨rfl, hU, hh_1.2.1, hG.step hW hU hh_1.1, (hstrF_r2.moved hW.alike).kept hh_1.1.2.1, hg_r0, hg_jun, (hh_1.2.2.1.sub (L1 := [(r0, 6, 8, .int pu), (r0, 6, 6, .ref jun)]) [1, 8] rfl), (hh_1.2.2.2.2.2.2.2.1.sub (L1 := [(jun, 146, 3000, ca 1, fu)]) [6] rfl), ⟨(by first | assumption | exact hp4.2.2.2.2.2.2 | omega), (by first | omega | rfl | assumption | exact hp4.2.2.2.2.2.2), (by first | omega | rfl | assumption | exact hp4.2.2.2.2.2.2), (by first | omega | rfl | assumption | exact hp4.2.2.2.2.2.2), (by first | omega | rfl | assumption | exact hp4.2.2.2.2.2.2), (by first | omega | rfl | assumption | exact hp4.2.2.2.2.2.2)⟩⟩⟩ rfl rfl hl.1 rfl (lv_room (Nat.le_of_ble_eq_true rfl)) dX4_isText_23 ⟨Nat.zero_le _, Nat.zero_le _⟩) hh_1.1 (fun q _ h => h) (fun q h => h) (fun r_8 u_7 t_7 H_7 locs_7 ht_7 hvm_7 hr_8 hb_7 hz_7 hk_7 hS_7 => ?_)
    rw [ht_7] at hb_7
    obtain ⟨hb_7, hbF_7⟩ := hb_7
    obtain ⟨hb_71, hb_72, hb_73, hb_74, hb_75⟩ := hb_7
    have hh_7 : jSt (dC, dI) B base G0 G0 EX4_isTextJ s.heap 0 0 [(r0, 6, 7, .int pv), (r0, 6, 8, .int pu), (r0, 6, 0, .ref wk), (r0, 6, 1, .ref wi), (r0, 6, 2, .ref wz), (r0, 6, 3, .ref jnx), (r0, 6, 4, .ref jkf), (r0, 6, 5, .ref jks), (r0, 6, 6, .ref jun)] [(wk, 140, 1502, ca 1, fk), (wi, 141, 1502, ca 1, fi), (wz, 142, 1502, ca 1, fz), (jnx, 143, 1502, ca 1, fn), (jkf, 144, 1502, ca 1, fa), (jks, 145, 1502, ca 1, fs), (jun, 146, 3000, ca 1, fu)] [] H_7 locs_7 := ((hh_1.call hb_71 hb_72 hb_73 hb_74 hS_7 rfl (L1 := [(r0, 6, 7, .int pv), (r0, 6, 8, .int pu), (r0, 6, 0, .ref wk), (r0, 6, 1, .ref wi), (r0, 6, 2, .ref wz), (r0, 6, 3, .ref jnx), (r0, 6, 4, .ref jkf), (r0, 6, 5, .ref jks), (r0, 6, 6, .ref jun)]) [0, 1, 2, 3, 4, 5, 6, 7, 8] rfl rfl (M1 := [(wk, 140, 1502, ca 1, fk), (wi, 141, 1502, ca 1, fi), (wz, 142, 1502, ca 1, fz), (jnx, 143, 1502, ca 1, fn), (jkf, 144, 1502, ca 1, fa), (jks, 145, 1502, ca 1, fs), (jun, 146, 3000, ca 1, fu)]) [0, 1, 2, 3, 4, 5, 6] rfl rfl (I1 := []) [] rfl rfl).more hb_75)
    clear hh_1 ht_7 hvm_7 hz_7 hk_7 hS_7 hb_71 hb_72 hb_73 hb_74 hb_75
    have hfl_9 := hfl_3.tr hbF_7 (by first | exact fun q h => h | (intro q h9; simp at h9 ⊢; exact h9) | (intro q h9; simp at h9))
    obtain ⟨hr_8b, hr_8p⟩ := hr_8
    obtain ⟨hr_8p_0, hr_8p_1⟩ := hr_8p
    have hu23 := hr_8p_0
    have hr_8' := jb_01 hr_8b
    refine lv_if_eq (tgt := 33) hx hb dX4_isText_26 (by decide) (fun c_10 => ?_) (fun c_10 => ?_)
    · skip
      have c_10' : r_8.toInt = 0 := jb_eq (rfl) ((by decide)) c_10
      first | (have hr_8p_0q := hr_8p_0.resolve_left (by omega); clear hr_8p_0) | (have hr_8p_0q := hr_8p_0.resolve_right (by omega); clear hr_8p_0) | try clear hr_8p_0
      refine lv_iconst (v := 0) hx hb dX4_isText_33 (by decide) ?_
      rw [hQ]
      exact W.zret (v := 0) hx hb hr (jb_nz (Or.inl rfl)) (fun t ht hW => ⟨⟨0, (), rfl, ⟨(Or.inl rfl), by refine ⟨Or.inl (by omega), ?_⟩; unfold jqI; rw [if_pos (by rw [← hr_2_1]; omega), hp4.2.1 _ hka.1 hka.2.1, hp4.2.2.1 _ hka.1 hka.2.1, ← hqz_5, ← hqz_6, ← hr_8p_1]; omega⟩, ⟨hh_7.rt (M1 := []) [] rfl ht, by rw [ht]; exact hfl_9⟩⟩, by rw [ht]; try exact hh_7.1.1, fun q h9 hq => by rw [ht]; try exact hh_7.1.2.1 q h9 hq⟩) hh_7.1.2.2 dX4_isText_34
    · skip
      have c_10' : r_8.toInt ≠ 0 := jb_eq_n (rfl) ((by decide)) c_10
      first | (have hr_8p_0q := hr_8p_0.resolve_left (by omega); clear hr_8p_0) | (have hr_8p_0q := hr_8p_0.resolve_right (by omega); clear hr_8p_0) | try clear hr_8p_0
      refine lv_iconst (v := 1) hx hb dX4_isText_29 (by decide) ?_
      refine lv_goto (tgt := 34) hx hb dX4_isText_30 (by decide) ?_
      rw [hQ]
      exact W.zret (v := 1) hx hb hr (jb_nz (Or.inr rfl)) (fun t ht hW => ⟨⟨1, (), rfl, ⟨(Or.inr rfl), by refine ⟨Or.inr ⟨hka.1, hka.2.1, by rw [← hp4.1 _ hka.1 hka.2.1, ← hka.2.2, ← hr_2_1]; omega, by have h9 := hu23; have h8 := hqz_6; omega⟩, ?_⟩; unfold jqI; rw [if_pos (by rw [← hr_2_1]; omega), hp4.2.1 _ hka.1 hka.2.1, hp4.2.2.1 _ hka.1 hka.2.1, ← hqz_5, ← hqz_6, ← hr_8p_1]; omega⟩, ⟨hh_7.rt (M1 := []) [] rfl ht, by rw [ht]; exact hfl_9⟩⟩, by rw [ht]; try exact hh_7.1.1, fun q h9 hq => by rw [ht]; try exact hh_7.1.2.1 q h9 hq⟩) hh_7.1.2.2 dX4_isText_34
end
section
-- p9: the open documents, by their number
theorem jLs.el2 {dC : Nat → ClassId} {dI : Nat → Nat → Nat} {ca : Nat → ClassId} {B : jF} {base : Nat} {G : jT} {k a c ek : Nat} {w : jWl9} {H : Heap} {L : List Nat} (h : jLs dC dI ca G k none w H) (ha : G a = some (1, c)) (hc : c ≠ 1) (hX : jX B base G L H) (hL : L = []) (hb : ∀ n G a H, B (220 + c) n G a H ↔ jAq (dC, dI) (ca 9) (jQn ek 0) n G a H) (hk : 220 + c < 1000) : ∀ b ∈ jWls c w, G b = some (ek, 0) := fun b hb1 => by
  subst hL
  obtain ⟨i, hi, e⟩ := List.mem_iff_getElem.mp hb1
  have e0 : (jWls c w)[i]? = some b := by rw [List.getElem?_eq_getElem hi, e]
  obtain ⟨z, x, -, -, h3, h4⟩ := h.at ha
  rcases h4 with ⟨-, -, -, g3⟩ | ⟨m, f, g1, -, g3, g4, -, -, g6⟩
  · rw [g3 hc] at e0; cases e0
  · obtain ⟨e1, e2⟩ := g6 hc
    obtain ⟨f1, q1, q2⟩ := (hb _ _ _ _).mp (hX.1 _ _ _ g1 hk (fun q => by cases q))
    have hz : (i : Int) < z.toInt := by omega
    have e3 : f i = f1 i := jQc_eq g4 q1 (by omega)
    have e4 : f1 i = some b := by rw [← e3, e2 i hz, e0]
    rcases q2 i (by omega) with e | ⟨y, e, hy⟩
    · rw [e4] at e; cases e
    · rw [e4] at e; cases e; exact hy
end
section
-- p9: what a message does
section
variable {T : Nat → Int → Int} {v p m : Int} {S S1 : Int × (Int → jdD)}
theorem jdNt.mg {br qb : Int} (h : jdNt T v p br qb S S1) (hb : br = 0) (hg : jdGd T v = 1) (hi : jdId T v < 0) : jdMg T v p S = (qb, p, S1) := by
  subst hb
  unfold jdMg
  rw [if_pos hg, if_neg (by omega)]
  rcases h with ⟨a, b, c⟩ | ⟨a, b, c⟩
  · rw [if_pos b, a, c]
  · rw [if_neg b, a, c]
end
section JR8
variable {dC : Nat → ClassId} {dI : Nat → Nat → Nat} {G : jT} {a nn yy : Nat} {P Q : Prop} {H : Heap}
end JR8
end
section
-- p8: the class: States and kept units as one entry; requests; ids
section J97
variable {dC : Nat → ClassId} {dI : Nat → Nat → Nat} {ca : Nat → ClassId} {G G1 : jT} {H : Heap} {r : Nat} {us rw : Nat → List Int}
end J97
-- requests: how many sentences are needed, the id, the document
section J98
variable {dC : Nat → ClassId} {dI : Nat → Nat → Nat} {ca : Nat → ClassId} {G G1 : jT} {H H1 : Heap} {x : Option Nat} {q : jRqG} {a : Nat} {nd : Int32} {iv ab : Value}
end J98
-- ids: Bytes of kind 17, their rows of kind 199
section J99
variable {dC : Nat → ClassId} {dI : Nat → Nat → Nat} {ca : Nat → ClassId} {G G1 : jT} {H H1 : Heap} {r xa xy xn : Nat} {ib : Nat → List Int}
/-- a field of the open one is written -/
theorem jIX2.cell (h : jIX2 dC dI ca G r xa xy xn ib H) (ha : G xa = some (17, 0)) (hfr : ∀ p, p ≠ xa → H1[p]? = H[p]?) : jIX2 dC dI ca G r xa xy xn ib H1 := by
  obtain ⟨Y, h1, h2⟩ := h
  refine ⟨Y, fun a hga hx => ⟨?_, (h1 a hga hx).2⟩, h2⟩
  have k := (h1 a hga hx).1
  obtain ⟨m, c, f, p0, p1, g, -⟩ := k
  exact (h1 a hga hx).1.kp (hfr a hx) (hfr _ (fun e => by rw [e, ha] at g; cases g))
/-- it has a newer row -/
theorem jIX2.nrow {y : Nat} (h : jIX2 dC dI ca G r xa xy xn ib H) (hy : xn ≤ y) : jIX2 dC dI ca G r xa y xn ib H := by
  obtain ⟨Y, h1, h2⟩ := h
  exact ⟨Y, fun a hga hx => ⟨(h1 a hga hx).1, Nat.ne_of_lt (Nat.lt_of_lt_of_le (h1 a hga hx).2.2 hy), (h1 a hga hx).2.2⟩, h2⟩
end J99
-- the State that stands ahead of all
end
section
-- p8: units of the open texts are not below 0
section J9T
variable {T : Nat → Int → Int} {v n c : Int} {g : Int → Int} {S : Int × (Int → jdD)} {t : jDtl} {w : jWl9}
theorem jdSu.cl (h : jdSu S) : jdSu (jdClose T v S) := by
  unfold jdClose
  split
  · intro d h0 h1 j
    have h1 : d < S.1 - 1 := h1
    show 0 ≤ (jdDn S.2 (jdWh T v S.1 S.2) d).2.2.1 j
    unfold jdDn
    split
    · exact h d h0 (by omega) j
    · exact h (d + 1) (by omega) (by omega) j
  · exact h
end J9T
end
section
-- p8: a request waits, or is cancelled: on the class's side
section J9V
variable {G G1 : jT} {s0 a d x i : Nat} {t : jDtl} {q : jKg} {w w1 : jWl9} {ho : Nat → Option Nat} {us rw : Nat → List Int} {qq qq1 : jRqG} {ib ib1 : Nat → List Int} {S : Int × (Int → jdD)} {Z : jwSt} {nd : Int} {id : jwI}
theorem jcZ.wts {W : List Nat} {Q : List jwQ} (h : jcZ G s0 t q w ho us rw qq ib S Z) (hle : jLe G G1) (h1 : w1 = w.s2 W) (hW : jzW (w.s2 W) qq1 ib1 Q) : jcZ G1 s0 t q w1 ho us rw qq1 ib1 S (Z.1, Z.2.1, Q, Z.2.2.2) := by
  subst h1
  obtain ⟨k1, k2, k3, k4, k5, k6, k7, k8, k9, k10, k11, k12, k13⟩ := h.up hle
  exact ⟨k1, k2, k3, k4, k5, k6, hW, k8, k9, k10, k11, k12, k13⟩
theorem jcZ.wait (h : jcZ G s0 t q w ho us rw qq ib S Z) (hle : jLe G G1) (hd : (d : Int) < w.1) (ha : w.2.1 d = some a) (x1 : qq1.ab x = .ref a) (x2 : (qq1.nd x).toInt = nd) (x3 : qq1.iv x = .ref i) (x4 : ib1 i = jpI id) (x5 : jpO id) (hq : ∀ z ∈ w.2.2.1, qq1.ab z = qq.ab z ∧ qq1.nd z = qq.nd z ∧ qq1.iv z = qq.iv z ∧ ∀ i, qq.iv z = .ref i → ib1 i = ib i) (h1 : w1 = w.s2 (w.2.2.1 ++ [x])) : jcZ G1 s0 t q w1 ho us rw qq1 ib1 S (Z.1, Z.2.1, Z.2.2.1 ++ [((d : Int), nd, id)], Z.2.2.2) := by
  have hW := h.2.2.2.2.2.2.1
  refine h.wts hle h1 ⟨?_, fun j z p hz hp => ?_⟩
  · show (w.2.2.1 ++ [x]).length = _
    rw [List.length_append, List.length_append, hW.1]
    rfl
  · have hz : (w.2.2.1 ++ [x])[j]? = some z := hz
    have el := hW.1
    by_cases c : j < w.2.2.1.length
    · rw [List.getElem?_append_left c] at hz
      rw [List.getElem?_append_left (by omega)] at hp
      obtain ⟨q1, q2, q3, q4⟩ := hq z (List.mem_of_getElem? hz)
      exact (hW.2 j z p hz hp).tr _ q1 q2 q3 q4
    · rw [List.getElem?_append_right (by omega)] at hz
      rw [List.getElem?_append_right (by omega)] at hp
      have e1 : j - w.2.2.1.length = 0 := by
        have := (List.getElem?_eq_some_iff.mp hz).1
        simp at this
        omega
      have e2 : j - Z.2.2.1.length = 0 := by omega
      rw [e1] at hz
      rw [e2] at hp
      cases hz
      cases hp
      exact ⟨d, a, i, hd, ha, x1, rfl, x2.symm, x3, x4, x5⟩
theorem jcZ.canc {k : Nat} (h : jcZ G s0 t q w ho us rw qq ib S Z) (hle : jLe G G1) (h1 : w1 = w.s2 (w.2.2.1.eraseIdx k)) : jcZ G1 s0 t q w1 ho us rw qq ib S (Z.1, Z.2.1, Z.2.2.1.eraseIdx k, Z.2.2.2) := by
  have hW := h.2.2.2.2.2.2.1
  refine h.wts hle h1 ⟨?_, fun j z p hz hp => ?_⟩
  · show (w.2.2.1.eraseIdx k).length = _
    rw [List.length_eraseIdx, List.length_eraseIdx, hW.1]
  · have hz : (w.2.2.1.eraseIdx k)[j]? = some z := hz
    rw [List.getElem?_eraseIdx] at hz hp
    by_cases c : j < k
    · rw [if_pos c] at hz hp
      exact (hW.2 j z p hz hp).tr _ rfl rfl rfl (fun _ _ => rfl)
    · rw [if_neg c] at hz hp
      exact (hW.2 (j + 1) z p hz hp).tr _ rfl rfl rfl (fun _ _ => rfl)
end J9V
end
section
-- p8: the units of strings that are read have no half pairs
theorem jpW.nn : ∀ (n : Nat) (L : List Int), L.length ≤ n → jpW L → ∀ c ∈ L, 0 ≤ c ∧ c ≤ 65535
  | _, [], _, _, c, hc => by cases hc
  | 0, u :: L, hn, _, _, _ => by simp at hn
  | n + 1, u :: L, hn, h, c, hc => by
    have hn : L.length + 1 ≤ n + 1 := hn
    rcases jpW.hd h with ⟨v, M, e, a, b, hM⟩ | ⟨u0, u1, u2, hL⟩
    · subst e
      have hn : M.length + 1 + 1 ≤ n + 1 := hn
      rcases List.mem_cons.mp hc with e | hc
      · rw [e]; unfold jpHi at a; omega
      · rcases List.mem_cons.mp hc with e | hc
        · rw [e]; unfold jpLo at b; omega
        · exact jpW.nn n M (by omega) hM c hc
    · rcases List.mem_cons.mp hc with e | hc
      · rw [e]; exact ⟨u0, u1⟩
      · exact jpW.nn n L (by omega) hL c hc
end
section
-- p8: bytes of ids, put behind each other
theorem jiP.l {ib i1 : Nat → List Int} {a : Nat} {L M : List Int} (h : jiP ib i1 a L) (e : L = M) : jiP ib i1 a M := by rw [← e]; exact h
theorem jb_shr6 {x z : Int32} (e : z = x >>> ((6 : Int32) &&& 31)) (h : 0 ≤ x.toInt) : z.toInt = x.toInt / 64 := by
  obtain ⟨n, hn, ex, ex2⟩ := jN_of h
  rw [e, ex, pk_shrN hn _ 6 (by decide), nI_toInt (by omega), ← ex, ex2]
  omega
theorem jb_shr12 {x z : Int32} (e : z = x >>> ((12 : Int32) &&& 31)) (h : 0 ≤ x.toInt) : z.toInt = x.toInt / 4096 := by
  obtain ⟨n, hn, ex, ex2⟩ := jN_of h
  rw [e, ex, pk_shrN hn _ 12 (by decide), nI_toInt (by omega), ← ex, ex2]
  omega
theorem jb_shr18 {x z : Int32} (e : z = x >>> ((18 : Int32) &&& 31)) (h : 0 ≤ x.toInt) : z.toInt = x.toInt / 262144 := by
  obtain ⟨n, hn, ex, ex2⟩ := jN_of h
  rw [e, ex, pk_shrN hn _ 18 (by decide), nI_toInt (by omega), ← ex, ex2]
  omega
theorem jb_shr4 {x z : Int32} (e : z = x >>> ((4 : Int32) &&& 31)) (h : 0 ≤ x.toInt) : z.toInt = x.toInt / 16 := by
  obtain ⟨n, hn, ex, ex2⟩ := jN_of h
  rw [e, ex, pk_shrN hn _ 4 (by decide), nI_toInt (by omega), ← ex, ex2]
  omega
/-- the bytes of a character -/
def jiC (c : Int) : List Int := if c < 128 then [c] else if c < 2048 then [192 + c / 64, 128 + c % 64] else if c < 65536 then [224 + c / 4096, 128 + c / 64 % 64, 128 + c % 64] else [240 + c / 262144, 128 + c / 4096 % 64, 128 + c / 64 % 64, 128 + c % 64]
section J9BV
variable {p : Program} {l : Launch} {e : Env} {R : Room} {s : State} {m : MethodId} {args : Array Value} {below : List Frame} {meth : Method} {c : Code} {H : Heap} {locs : List Loc} {cells slots : Nat} {Q : State → Prop}
variable {cc : ByteArray} {pc : Nat} {ls : Array Slot} {rest : List Value} {dC : Nat → ClassId} {dI : Nat → Nat → Nat} {ca : Nat → ClassId} {B : jF} {base : Nat} {G0 G : jT} {E : List (Nat × Nat)} {H0 : Heap} {zc zs : Nat} {L : List jPin} {M : List jCt} {I : List jIv} {a k n : Nat} {cA : ClassId} {tys : List (ClassId × FieldType)}
theorem j7_bastV (hexec : p.tables.exec = Jvm.exec) (hb : c.code = cc) (hK : va_K (dC, dI) vwCl tys s) (hh : jSt (dC, dI) B base G0 G E H0 zc zs L M I H locs) (hB : jBok B) (hBk : ∀ n G a H, B k n G a H ↔ jAr (dC, dI) cA jBf n a H) (t0 : Nat) (ht : tys[t0]? = some (cA, .byte)) (hk : k < 1000) (hk2 : 18 ≤ k) (hE : E.contains (k, 0) = true) (oj : Nat) {kk1 : Nat} {cB : ClassId} {f : Nat → Int32} (hj : M[oj]? = some (a, kk1, n, cB, f)) {M1 : List jCt} (js : List Nat) (hjs : js.map (fun i => M[i]?) = M1.map some) (hM : M1.all (fun q => !(q.2.1 == k)) = true) (hI : I.all (fun q => !(q.1.contains (k, 0))) = true) (ha : G a = some (k, n)) {i v : Int32} {x : Int} (hi : i.toInt = x) (h12 : 0 ≤ x ∧ x < n) (hdg : decode cc pc = .ok (.bastore, 1))
    (kk : ∀ (H1 : Heap) (locs1 : List Loc) (g : Nat → Int32), g x.toNat = vp_nar .byte v → (∀ j, j < n → j ≠ x.toNat → g j = f j) → (∀ q, q ≠ a → H1[q]? = H[q]?) → jSt (dC, dI) B base G0 G E H0 zc zs L ((a, k, n, cA, g) :: M1) I H1 locs1 → W p l e R s m args below meth c H1 locs1 cells slots Q (F0 m (pc + 1) ls rest)) : W p l e R s m args below meth c H locs cells slots Q (F0 m pc ls (.int v :: .int i :: .ref a :: rest)) := by
  obtain ⟨h1, h2⟩ := h12
  obtain ⟨f', g1, g2⟩ := hh.byt hBk hk ha
  obtain ⟨-, -, -, q4⟩ := hh.2.2.2.2.2.2.2.1 _ (List.mem_of_getElem? hj)
  have hh1 : jSt (dC, dI) B base G0 G E H0 zc zs L M1 I H locs := by
    obtain ⟨e1, e2, e3, e4, e5, e6, e7, e8, e9⟩ := hh
    exact ⟨e1, e2, e3, e4, e5, e6, e7, e8.sub js hjs, e9⟩
  refine j_bastV (A := jA base) hexec hb hK t0 g1 (hh.ab ha).1 hh.1.2.2 ht (jb_in hi h1 h2) hdg (fun H1 locs1 hat hsz hfr hT hL => ?_)
  have hfit : sb_Fit (upd f' i.toNatClampNeg (vp_nar .byte v)) := sb_fitU g2 (by rw [vp_nar_byte]; exact pk_fb v)
  have h9 := hh1.arr hB ha hk hk2 hE hM hI hsz hfr hT hL ((hBk _ _ _ _).mpr ⟨_, hat, fun j _ => hfit j⟩)
  refine kk H1 locs1 (upd f' i.toNatClampNeg (vp_nar .byte v)) (by rw [← jb_cl hi h1]; simp [upd]) (fun j hj' hne => ?_) hfr ?_
  · have : j ≠ i.toNatClampNeg := by rw [jb_cl hi h1]; exact hne
    simp only [upd, if_neg this]
    exact (jCt_eq q4 g1 hj').symm
  · obtain ⟨e1, e2, e3, e4, e5, e6, e7, e8, e9⟩ := h9
    refine ⟨e1, e2, e3, e4, e5, e6, e7, fun q hq => ?_, e9⟩
    rcases List.mem_cons.mp hq with e | e
    · subst e; exact ⟨ha, hk2, hk, hat⟩
    · exact e8 q e
end J9BV
end
