section
theorem dX4_member_0 : decode cX4_member 0 = .ok (.aload_n 0, 1) := by decide +kernel
theorem dX4_member_1 : decode cX4_member 1 = .ok (.iload_n 1, 1) := by decide +kernel
theorem dX4_member_2 : decode cX4_member 2 = .ok (.invokevirtual 63, 3) := by decide +kernel
theorem dX4_member_5 : decode cX4_member 5 = .ok (.iconst 1, 1) := by decide +kernel
theorem dX4_member_6 : decode cX4_member 6 = .ok (.if_icmp .eq 5, 3) := by decide +kernel
theorem dX4_member_9 : decode cX4_member 9 = .ok (.iconst (-1), 1) := by decide +kernel
theorem dX4_member_10 : decode cX4_member 10 = .ok (.ireturn, 1) := by decide +kernel
theorem dX4_member_11 : decode cX4_member 11 = .ok (.iconst (-1), 1) := by decide +kernel
theorem dX4_member_12 : decode cX4_member 12 = .ok (.istore_n 3, 1) := by decide +kernel
theorem dX4_member_13 : decode cX4_member 13 = .ok (.aload_n 0, 1) := by decide +kernel
theorem dX4_member_14 : decode cX4_member 14 = .ok (.getfield 15, 3) := by decide +kernel
theorem dX4_member_17 : decode cX4_member 17 = .ok (.iload_n 1, 1) := by decide +kernel
theorem dX4_member_18 : decode cX4_member 18 = .ok (.iaload, 1) := by decide +kernel
theorem dX4_member_19 : decode cX4_member 19 = .ok (.istore 4, 2) := by decide +kernel
theorem dX4_member_21 : decode cX4_member 21 = .ok (.iconst 0, 1) := by decide +kernel
theorem dX4_member_22 : decode cX4_member 22 = .ok (.istore 5, 2) := by decide +kernel
theorem dX4_member_24 : decode cX4_member 24 = .ok (.iload 5, 2) := by decide +kernel
theorem dX4_member_26 : decode cX4_member 26 = .ok (.aload_n 0, 1) := by decide +kernel
theorem dX4_member_27 : decode cX4_member 27 = .ok (.getfield 18, 3) := by decide +kernel
theorem dX4_member_30 : decode cX4_member 30 = .ok (.iload_n 1, 1) := by decide +kernel
theorem dX4_member_31 : decode cX4_member 31 = .ok (.iaload, 1) := by decide +kernel
theorem dX4_member_32 : decode cX4_member 32 = .ok (.if_icmp .ge 57, 3) := by decide +kernel
theorem dX4_member_35 : decode cX4_member 35 = .ok (.iload 4, 2) := by decide +kernel
theorem dX4_member_37 : decode cX4_member 37 = .ok (.ifCond .lt 52, 3) := by decide +kernel
theorem dX4_member_40 : decode cX4_member 40 = .ok (.iload 4, 2) := by decide +kernel
theorem dX4_member_42 : decode cX4_member 42 = .ok (.aload_n 0, 1) := by decide +kernel
theorem dX4_member_43 : decode cX4_member 43 = .ok (.getfield 50, 3) := by decide +kernel
theorem dX4_member_46 : decode cX4_member 46 = .ok (.if_icmp .ge 43, 3) := by decide +kernel
theorem dX4_member_49 : decode cX4_member 49 = .ok (.aload_n 0, 1) := by decide +kernel
theorem dX4_member_50 : decode cX4_member 50 = .ok (.aload_n 0, 1) := by decide +kernel
theorem dX4_member_51 : decode cX4_member 51 = .ok (.getfield 24, 3) := by decide +kernel
theorem dX4_member_54 : decode cX4_member 54 = .ok (.iload 4, 2) := by decide +kernel
theorem dX4_member_56 : decode cX4_member 56 = .ok (.iaload, 1) := by decide +kernel
theorem dX4_member_57 : decode cX4_member 57 = .ok (.aload_n 0, 1) := by decide +kernel
theorem dX4_member_58 : decode cX4_member 58 = .ok (.getfield 27, 3) := by decide +kernel
theorem dX4_member_61 : decode cX4_member 61 = .ok (.iload 4, 2) := by decide +kernel
theorem dX4_member_63 : decode cX4_member 63 = .ok (.iaload, 1) := by decide +kernel
theorem dX4_member_64 : decode cX4_member 64 = .ok (.aload_n 2, 1) := by decide +kernel
theorem dX4_member_65 : decode cX4_member 65 = .ok (.invokevirtual 66, 3) := by decide +kernel
theorem dX4_member_68 : decode cX4_member 68 = .ok (.ifCond .eq 6, 3) := by decide +kernel
theorem dX4_member_71 : decode cX4_member 71 = .ok (.iload 4, 2) := by decide +kernel
theorem dX4_member_73 : decode cX4_member 73 = .ok (.istore_n 3, 1) := by decide +kernel
theorem dX4_member_74 : decode cX4_member 74 = .ok (.aload_n 0, 1) := by decide +kernel
theorem dX4_member_75 : decode cX4_member 75 = .ok (.getfield 21, 3) := by decide +kernel
theorem dX4_member_78 : decode cX4_member 78 = .ok (.iload 4, 2) := by decide +kernel
theorem dX4_member_80 : decode cX4_member 80 = .ok (.iaload, 1) := by decide +kernel
theorem dX4_member_81 : decode cX4_member 81 = .ok (.istore 4, 2) := by decide +kernel
theorem dX4_member_83 : decode cX4_member 83 = .ok (.iinc 5 1, 3) := by decide +kernel
theorem dX4_member_86 : decode cX4_member 86 = .ok (.goto (-62), 3) := by decide +kernel
theorem dX4_member_89 : decode cX4_member 89 = .ok (.iload_n 3, 1) := by decide +kernel
theorem dX4_member_90 : decode cX4_member 90 = .ok (.ireturn, 1) := by decide +kernel
theorem dX4_areUnits_0 : decode cX4_areUnits 0 = .ok (.iload_n 2, 1) := by decide +kernel
theorem dX4_areUnits_1 : decode cX4_areUnits 1 = .ok (.aload_n 3, 1) := by decide +kernel
theorem dX4_areUnits_2 : decode cX4_areUnits 2 = .ok (.invokevirtual 70, 3) := by decide +kernel
theorem dX4_areUnits_5 : decode cX4_areUnits 5 = .ok (.if_icmp .ne 18, 3) := by decide +kernel
theorem dX4_areUnits_8 : decode cX4_areUnits 8 = .ok (.iload_n 1, 1) := by decide +kernel
theorem dX4_areUnits_9 : decode cX4_areUnits 9 = .ok (.ifCond .lt 14, 3) := by decide +kernel
theorem dX4_areUnits_12 : decode cX4_areUnits 12 = .ok (.iload_n 1, 1) := by decide +kernel
theorem dX4_areUnits_13 : decode cX4_areUnits 13 = .ok (.iload_n 2, 1) := by decide +kernel
theorem dX4_areUnits_14 : decode cX4_areUnits 14 = .ok (.iadd, 1) := by decide +kernel
theorem dX4_areUnits_15 : decode cX4_areUnits 15 = .ok (.aload_n 0, 1) := by decide +kernel
theorem dX4_areUnits_16 : decode cX4_areUnits 16 = .ok (.getfield 30, 3) := by decide +kernel
theorem dX4_areUnits_19 : decode cX4_areUnits 19 = .ok (.arraylength, 1) := by decide +kernel
theorem dX4_areUnits_20 : decode cX4_areUnits 20 = .ok (.if_icmp .le 5, 3) := by decide +kernel
theorem dX4_areUnits_23 : decode cX4_areUnits 23 = .ok (.iconst 0, 1) := by decide +kernel
theorem dX4_areUnits_24 : decode cX4_areUnits 24 = .ok (.ireturn, 1) := by decide +kernel
theorem dX4_areUnits_25 : decode cX4_areUnits 25 = .ok (.iconst 0, 1) := by decide +kernel
theorem dX4_areUnits_26 : decode cX4_areUnits 26 = .ok (.istore 4, 2) := by decide +kernel
theorem dX4_areUnits_28 : decode cX4_areUnits 28 = .ok (.iload 4, 2) := by decide +kernel
theorem dX4_areUnits_30 : decode cX4_areUnits 30 = .ok (.iload_n 2, 1) := by decide +kernel
theorem dX4_areUnits_31 : decode cX4_areUnits 31 = .ok (.if_icmp .ge 29, 3) := by decide +kernel
theorem dX4_areUnits_34 : decode cX4_areUnits 34 = .ok (.aload_n 0, 1) := by decide +kernel
theorem dX4_areUnits_35 : decode cX4_areUnits 35 = .ok (.getfield 30, 3) := by decide +kernel
theorem dX4_areUnits_38 : decode cX4_areUnits 38 = .ok (.iload_n 1, 1) := by decide +kernel
theorem dX4_areUnits_39 : decode cX4_areUnits 39 = .ok (.iload 4, 2) := by decide +kernel
theorem dX4_areUnits_41 : decode cX4_areUnits 41 = .ok (.iadd, 1) := by decide +kernel
theorem dX4_areUnits_42 : decode cX4_areUnits 42 = .ok (.iaload, 1) := by decide +kernel
theorem dX4_areUnits_43 : decode cX4_areUnits 43 = .ok (.aload_n 3, 1) := by decide +kernel
theorem dX4_areUnits_44 : decode cX4_areUnits 44 = .ok (.iload 4, 2) := by decide +kernel
theorem dX4_areUnits_46 : decode cX4_areUnits 46 = .ok (.invokevirtual 76, 3) := by decide +kernel
theorem dX4_areUnits_49 : decode cX4_areUnits 49 = .ok (.if_icmp .eq 5, 3) := by decide +kernel
theorem dX4_areUnits_52 : decode cX4_areUnits 52 = .ok (.iconst 0, 1) := by decide +kernel
theorem dX4_areUnits_53 : decode cX4_areUnits 53 = .ok (.ireturn, 1) := by decide +kernel
theorem dX4_areUnits_54 : decode cX4_areUnits 54 = .ok (.iinc 4 1, 3) := by decide +kernel
theorem dX4_areUnits_57 : decode cX4_areUnits 57 = .ok (.goto (-29), 3) := by decide +kernel
theorem dX4_areUnits_60 : decode cX4_areUnits 60 = .ok (.iconst 1, 1) := by decide +kernel
theorem dX4_areUnits_61 : decode cX4_areUnits 61 = .ok (.ireturn, 1) := by decide +kernel
theorem dX4_isUnits_0 : decode cX4_isUnits 0 = .ok (.aload_n 0, 1) := by decide +kernel
theorem dX4_isUnits_1 : decode cX4_isUnits 1 = .ok (.iload_n 1, 1) := by decide +kernel
theorem dX4_isUnits_2 : decode cX4_isUnits 2 = .ok (.invokevirtual 63, 3) := by decide +kernel
theorem dX4_isUnits_5 : decode cX4_isUnits 5 = .ok (.iconst 3, 1) := by decide +kernel
theorem dX4_isUnits_6 : decode cX4_isUnits 6 = .ok (.if_icmp .ne 14, 3) := by decide +kernel
theorem dX4_isUnits_9 : decode cX4_isUnits 9 = .ok (.aload_n 0, 1) := by decide +kernel
theorem dX4_isUnits_10 : decode cX4_isUnits 10 = .ok (.getfield 18, 3) := by decide +kernel
theorem dX4_isUnits_13 : decode cX4_isUnits 13 = .ok (.iload_n 1, 1) := by decide +kernel
theorem dX4_isUnits_14 : decode cX4_isUnits 14 = .ok (.iaload, 1) := by decide +kernel
theorem dX4_isUnits_15 : decode cX4_isUnits 15 = .ok (.aload_n 2, 1) := by decide +kernel
theorem dX4_isUnits_16 : decode cX4_isUnits 16 = .ok (.arraylength, 1) := by decide +kernel
theorem dX4_isUnits_17 : decode cX4_isUnits 17 = .ok (.if_icmp .eq 5, 3) := by decide +kernel
theorem dX4_isUnits_20 : decode cX4_isUnits 20 = .ok (.iconst 0, 1) := by decide +kernel
theorem dX4_isUnits_21 : decode cX4_isUnits 21 = .ok (.ireturn, 1) := by decide +kernel
theorem dX4_isUnits_22 : decode cX4_isUnits 22 = .ok (.iconst 0, 1) := by decide +kernel
theorem dX4_isUnits_23 : decode cX4_isUnits 23 = .ok (.istore_n 3, 1) := by decide +kernel
theorem dX4_isUnits_24 : decode cX4_isUnits 24 = .ok (.iload_n 3, 1) := by decide +kernel
theorem dX4_isUnits_25 : decode cX4_isUnits 25 = .ok (.aload_n 2, 1) := by decide +kernel
theorem dX4_isUnits_26 : decode cX4_isUnits 26 = .ok (.arraylength, 1) := by decide +kernel
theorem dX4_isUnits_27 : decode cX4_isUnits 27 = .ok (.if_icmp .ge 23, 3) := by decide +kernel
theorem dX4_isUnits_30 : decode cX4_isUnits 30 = .ok (.aload_n 0, 1) := by decide +kernel
theorem dX4_isUnits_31 : decode cX4_isUnits 31 = .ok (.iload_n 1, 1) := by decide +kernel
theorem dX4_isUnits_32 : decode cX4_isUnits 32 = .ok (.iload_n 3, 1) := by decide +kernel
theorem dX4_isUnits_33 : decode cX4_isUnits 33 = .ok (.invokevirtual 80, 3) := by decide +kernel
theorem dX4_isUnits_36 : decode cX4_isUnits 36 = .ok (.aload_n 2, 1) := by decide +kernel
theorem dX4_isUnits_37 : decode cX4_isUnits 37 = .ok (.iload_n 3, 1) := by decide +kernel
theorem dX4_isUnits_38 : decode cX4_isUnits 38 = .ok (.iaload, 1) := by decide +kernel
theorem dX4_isUnits_39 : decode cX4_isUnits 39 = .ok (.if_icmp .eq 5, 3) := by decide +kernel
theorem dX4_isUnits_42 : decode cX4_isUnits 42 = .ok (.iconst 0, 1) := by decide +kernel
theorem dX4_isUnits_43 : decode cX4_isUnits 43 = .ok (.ireturn, 1) := by decide +kernel
theorem dX4_isUnits_44 : decode cX4_isUnits 44 = .ok (.iinc 3 1, 3) := by decide +kernel
theorem dX4_isUnits_47 : decode cX4_isUnits 47 = .ok (.goto (-23), 3) := by decide +kernel
theorem dX4_isUnits_50 : decode cX4_isUnits 50 = .ok (.iconst 1, 1) := by decide +kernel
theorem dX4_isUnits_51 : decode cX4_isUnits 51 = .ok (.ireturn, 1) := by decide +kernel
end
section
theorem dX1_replace_0 : decode cX1_replace 0 = .ok (.aload_n 3, 1) := by decide +kernel
theorem dX1_replace_1 : decode cX1_replace 1 = .ok (.iload 4, 2) := by decide +kernel
theorem dX1_replace_3 : decode cX1_replace 3 = .ok (.invokevirtual 46, 3) := by decide +kernel
theorem dX1_replace_6 : decode cX1_replace 6 = .ok (.istore 5, 2) := by decide +kernel
theorem dX1_replace_8 : decode cX1_replace 8 = .ok (.aload_n 0, 1) := by decide +kernel
theorem dX1_replace_9 : decode cX1_replace 9 = .ok (.getfield 42, 3) := by decide +kernel
theorem dX1_replace_12 : decode cX1_replace 12 = .ok (.iload_n 2, 1) := by decide +kernel
theorem dX1_replace_13 : decode cX1_replace 13 = .ok (.isub, 1) := by decide +kernel
theorem dX1_replace_14 : decode cX1_replace 14 = .ok (.istore 6, 2) := by decide +kernel
theorem dX1_replace_16 : decode cX1_replace 16 = .ok (.iload_n 1, 1) := by decide +kernel
theorem dX1_replace_17 : decode cX1_replace 17 = .ok (.ifCond .lt 39, 3) := by decide +kernel
theorem dX1_replace_20 : decode cX1_replace 20 = .ok (.iload_n 2, 1) := by decide +kernel
theorem dX1_replace_21 : decode cX1_replace 21 = .ok (.iload_n 1, 1) := by decide +kernel
theorem dX1_replace_22 : decode cX1_replace 22 = .ok (.if_icmp .lt 34, 3) := by decide +kernel
theorem dX1_replace_25 : decode cX1_replace 25 = .ok (.iload 6, 2) := by decide +kernel
theorem dX1_replace_27 : decode cX1_replace 27 = .ok (.ifCond .lt 29, 3) := by decide +kernel
theorem dX1_replace_30 : decode cX1_replace 30 = .ok (.iload 5, 2) := by decide +kernel
theorem dX1_replace_32 : decode cX1_replace 32 = .ok (.ifCond .lt 24, 3) := by decide +kernel
theorem dX1_replace_35 : decode cX1_replace 35 = .ok (.iload 5, 2) := by decide +kernel
theorem dX1_replace_37 : decode cX1_replace 37 = .ok (.sipush 1500, 3) := by decide +kernel
theorem dX1_replace_40 : decode cX1_replace 40 = .ok (.if_icmp .gt 16, 3) := by decide +kernel
theorem dX1_replace_43 : decode cX1_replace 43 = .ok (.iload_n 1, 1) := by decide +kernel
theorem dX1_replace_44 : decode cX1_replace 44 = .ok (.iload 5, 2) := by decide +kernel
theorem dX1_replace_46 : decode cX1_replace 46 = .ok (.iadd, 1) := by decide +kernel
theorem dX1_replace_47 : decode cX1_replace 47 = .ok (.iload 6, 2) := by decide +kernel
theorem dX1_replace_49 : decode cX1_replace 49 = .ok (.iadd, 1) := by decide +kernel
theorem dX1_replace_50 : decode cX1_replace 50 = .ok (.sipush 1500, 3) := by decide +kernel
theorem dX1_replace_53 : decode cX1_replace 53 = .ok (.if_icmp .le 5, 3) := by decide +kernel
theorem dX1_replace_56 : decode cX1_replace 56 = .ok (.iconst 0, 1) := by decide +kernel
theorem dX1_replace_57 : decode cX1_replace 57 = .ok (.ireturn, 1) := by decide +kernel
theorem dX1_replace_58 : decode cX1_replace 58 = .ok (.aload_n 0, 1) := by decide +kernel
theorem dX1_replace_59 : decode cX1_replace 59 = .ok (.getfield 15, 3) := by decide +kernel
theorem dX1_replace_62 : decode cX1_replace 62 = .ok (.iload_n 2, 1) := by decide +kernel
theorem dX1_replace_63 : decode cX1_replace 63 = .ok (.aload_n 0, 1) := by decide +kernel
theorem dX1_replace_64 : decode cX1_replace 64 = .ok (.getfield 15, 3) := by decide +kernel
theorem dX1_replace_67 : decode cX1_replace 67 = .ok (.iload_n 1, 1) := by decide +kernel
theorem dX1_replace_68 : decode cX1_replace 68 = .ok (.iload 5, 2) := by decide +kernel
theorem dX1_replace_70 : decode cX1_replace 70 = .ok (.iadd, 1) := by decide +kernel
theorem dX1_replace_71 : decode cX1_replace 71 = .ok (.iload 6, 2) := by decide +kernel
theorem dX1_replace_73 : decode cX1_replace 73 = .ok (.invokestatic 36, 3) := by decide +kernel
theorem dX1_replace_76 : decode cX1_replace 76 = .ok (.iconst 0, 1) := by decide +kernel
theorem dX1_replace_77 : decode cX1_replace 77 = .ok (.istore 7, 2) := by decide +kernel
theorem dX1_replace_79 : decode cX1_replace 79 = .ok (.iload 7, 2) := by decide +kernel
theorem dX1_replace_81 : decode cX1_replace 81 = .ok (.iload 5, 2) := by decide +kernel
theorem dX1_replace_83 : decode cX1_replace 83 = .ok (.if_icmp .ge 26, 3) := by decide +kernel
theorem dX1_replace_86 : decode cX1_replace 86 = .ok (.aload_n 0, 1) := by decide +kernel
theorem dX1_replace_87 : decode cX1_replace 87 = .ok (.getfield 15, 3) := by decide +kernel
theorem dX1_replace_90 : decode cX1_replace 90 = .ok (.iload_n 1, 1) := by decide +kernel
theorem dX1_replace_91 : decode cX1_replace 91 = .ok (.iload 7, 2) := by decide +kernel
theorem dX1_replace_93 : decode cX1_replace 93 = .ok (.iadd, 1) := by decide +kernel
theorem dX1_replace_94 : decode cX1_replace 94 = .ok (.aload_n 3, 1) := by decide +kernel
theorem dX1_replace_95 : decode cX1_replace 95 = .ok (.iload 4, 2) := by decide +kernel
theorem dX1_replace_97 : decode cX1_replace 97 = .ok (.iload 7, 2) := by decide +kernel
theorem dX1_replace_99 : decode cX1_replace 99 = .ok (.invokevirtual 52, 3) := by decide +kernel
theorem dX1_replace_102 : decode cX1_replace 102 = .ok (.iastore, 1) := by decide +kernel
theorem dX1_replace_103 : decode cX1_replace 103 = .ok (.iinc 7 1, 3) := by decide +kernel
theorem dX1_replace_106 : decode cX1_replace 106 = .ok (.goto (-27), 3) := by decide +kernel
theorem dX1_replace_109 : decode cX1_replace 109 = .ok (.aload_n 0, 1) := by decide +kernel
theorem dX1_replace_110 : decode cX1_replace 110 = .ok (.iload_n 1, 1) := by decide +kernel
theorem dX1_replace_111 : decode cX1_replace 111 = .ok (.iload 5, 2) := by decide +kernel
theorem dX1_replace_113 : decode cX1_replace 113 = .ok (.iadd, 1) := by decide +kernel
theorem dX1_replace_114 : decode cX1_replace 114 = .ok (.iload 6, 2) := by decide +kernel
theorem dX1_replace_116 : decode cX1_replace 116 = .ok (.iadd, 1) := by decide +kernel
theorem dX1_replace_117 : decode cX1_replace 117 = .ok (.putfield 42, 3) := by decide +kernel
theorem dX1_replace_120 : decode cX1_replace 120 = .ok (.iconst 1, 1) := by decide +kernel
theorem dX1_replace_121 : decode cX1_replace 121 = .ok (.ireturn, 1) := by decide +kernel
end
section
-- lists: arrays of Object, the interface's calls
section J32
variable {p : Program} {l : Launch} {e : Env} {R : Room} {s : State} {m : MethodId} {args : Array Value} {below : List Frame} {meth : Method} {c : Code} {H : Heap} {locs : List Loc} {cells slots : Nat} {Q : State → Prop}
variable {cc : ByteArray} {pc : Nat} {ls : Array Slot} {rest : List Value} {dC : Nat → ClassId} {dI : Nat → Nat → Nat} {ca : Nat → ClassId} {B : jF} {base : Nat} {G0 G : jT} {E : List (Nat × Nat)} {H0 : Heap} {zc zs : Nat} {L : List jPin} {M : List jCt} {I : List jIv} {a a0 k k0 n n0 index : Nat} {tys tys0 : List (ClassId × FieldType)} {own C CE : String} {cA : ClassId}
/-- an object into an array of a wider class, its contents known -/
theorem j7_qastO {P : jT → Option Nat → Prop} (hexec : p.tables.exec = Jvm.exec) (hb : c.code = cc) (hK0 : va_K (dC, dI) vwCl tys0 s) (hK : va_K (dC, dI) vwCl tys s) (hh : jSt (dC, dI) B base G0 G E H0 zc zs L M I H locs) (hB : jBok B) (hBk : ∀ n G a H, B k n G a H ↔ jAq (dC, dI) cA P n G a H) (t0 : Nat) (ht : tys[t0]? = some (cA, .object CE)) (hk : k < 1000) (hk2 : 17 ≤ k) (hE : E.contains (k, 0) = true) (hM : M.all (fun q => !(q.2.1 == k)) = true) (hI : I.all (fun q => !(q.1.contains (k, 0))) = true) (ha : G a = some (k, n)) {i : Int32} {x : Int} (hi : i.toInt = x) (h12 : 0 ≤ x ∧ x < n)
    {v kv nv N : Nat} {T : u_T} {F : Nat → jT → List (Value → Prop)} (hBv : ∀ n G a H, B kv n G a H ↔ jOb (dC, dI) kv N (F n G) a H) (hc : vwCl[kv]? = some (C, T, N)) (hkv : kv < 1000) (hv : G v = some (kv, nv)) (hca : va_Nw (.castable C CE) s) (hP : P G (some v)) {f0 : Nat → Option Nat} {cB : ClassId} (hq0 : jQc dC dI cB a n f0 H) (hdg : decode cc pc = .ok (.aastore, 1))
    (kk : ∀ (H1 : Heap) (locs1 : List Loc) (g : Nat → Option Nat), g x.toNat = (some v) → (∀ j, j < n → j ≠ x.toNat → g j = f0 j) → jQc dC dI cA a n g H1 → (∀ q, q ≠ a → H1[q]? = H[q]?) → jSt (dC, dI) B base G0 G E H0 zc zs L M I H1 locs1 → W p l e R s m args below meth c H1 locs1 cells slots Q (F0 m (pc + 1) ls rest)) : W p l e R s m args below meth c H locs cells slots Q (F0 m pc ls (.ref v :: .int i :: .ref a :: rest)) := by
  obtain ⟨h1, h2⟩ := h12
  obtain ⟨f, g1, g2⟩ := hh.aq hBk hk ha
  obtain ⟨V, ⟨cellV, q1, q2, q3, q4⟩, hV⟩ := (hBv _ _ _ _).mp (hh.2.1.1 v kv nv hv hkv (fun h => by cases h))
  have hlt := jb_cl_lt hi h1 h2
  have hcl := jb_cl hi h1
  have hcls := (hK0.1 kv _ hc).2
  obtain ⟨kA, comp, k1, k2, k3, -⟩ := (hK.2 t0 _ ht).2
  obtain ⟨kE, hkE, -⟩ := Vm.findClass_spec k3
  obtain ⟨c0, t1, f1, f2, f3⟩ := Cond.castable_spec (va_Nw.use (A := args) rfl hca)
  cases hcls.1.symm.trans f1
  cases k3.symm.trans f2
  obtain ⟨kC, hkC, -⟩ := hcls.2
  have hff : ∀ j, j < n → f j = f0 j := fun j hj => jQc_eq g1 hq0 hj
  refine W.aast hexec hb g1 (fun q h => by cases h) (fun h => by cases h) k1 k2 rfl hkE ⟨jb_n0 hi h1, by show _ < (arrV _ _ _).slots.size; rw [arrV_size]; exact hlt⟩ q1 (fun q h => by rw [q3] at h; cases h) (by rw [q2]; exact hkC) (by rw [q2]; exact f3) rfl rfl hdg fun H1 e1 z oq => ?_
  have ha1 : H1[a]? = some (vp_cell cA (n, .inr (.inr (.inr (.inr (va_up f x.toNat (some v))))))) := by
    rw [e1, vp_cell_q, vp_cell_q, arrV_store, hcl]
    congr 2
    funext q
    by_cases hq : q = x.toNat
    · subst hq
      simp [updV, va_up, va_rf]
    · simp [updV, va_up, hq]
  refine kk H1 _ (va_up f x.toNat (some v)) (by simp [va_up]) (fun j hj hne => by rw [va_up_ne _ _ hne]; exact hff j hj) ha1 oq (hh.arr hB ha hk hk2 hE hM hI z oq (jTot_set z g1 e1 (jSet_sz _ _ _) oq) (fun q hq => ?_) ((hBk _ _ _ _).mpr ⟨va_up f x.toNat (some v), ha1, jAq_up g2 hP⟩))
  rcases List.mem_append.mp hq with h | h
  · exact hh.1.2.2 q h
  · cases List.mem_singleton.mp h; exact (hh.ab ha).1
theorem j7_qcopyR {kv nv N : Nat} {T : u_T} {F : Nat → jT → List (Value → Prop)} {f g : Nat → Option Nat} {cB : ClassId} (hexec : p.tables.exec = Jvm.exec) (hb : c.code = cc) (hml : c.maxLocals = ls.size) (hown : s.vm.findClass own = some m.cls) (hlink : (Cond.methodLink own index arraycopyName).before args s = true) (hnat : (Cond.native arraycopyName).before args s = true) (hstat : (Cond.static arraycopyName).before args s = true) (hini : (Cond.initialized "java/lang/System").before args s = true)
    (hK0 : va_K (dC, dI) vwCl tys0 s) (hK : va_K (dC, dI) vwCl tys s) (hh : jSt (dC, dI) B base G0 G E H0 zc zs L M I H locs) (hB : jBok B) (hBk : ∀ n G a H, B k n G a H ↔ jAq (dC, dI) cA (jQn kv nv) n G a H) (t0 : Nat) (ht : tys[t0]? = some (cA, .object CE)) (hk : k < 1000) (ha0 : G a0 = some (k, n0)) (hq0 : jQc dC dI cB a0 n0 f H) (hraw : va_at (dC, dI) vwCl (a, .inl (cA, n, .inr (.inr (.inr (.inr g))))) H) (hnr : ∀ t, G a ≠ some t) (hba : base ≤ a)
    (hBv : ∀ n G a H, B kv n G a H ↔ jOb (dC, dI) kv N (F n G) a H) (hc : vwCl[kv]? = some (C, T, N)) (hkv : kv < 1000) (hca : va_Nw (.castable C CE) s)
    {sp dp w : Int32} {x y z : Int} (hx : sp.toInt = x) (hy : dp.toInt = y) (hz : w.toInt = z) (h1 : 0 ≤ x ∧ 0 ≤ y ∧ 0 ≤ z ∧ x + z ≤ n0 ∧ y + z ≤ n)
    (hframes : 1 ≤ R.frames) (hlocals : (rest.map fun v => v.category).sum + (nativeFrameWords "java/lang/System" "arraycopy" 5 + 11) ≤ R.locals) (hdg : decode cc pc = .ok (.invokestatic index, 3))
    (kk : ∀ (H1 : Heap) (locs1 : List Loc) (g1 : Nat → Option Nat), (∀ j, j < n → g1 j = if y.toNat ≤ j ∧ j < y.toNat + z.toNat then f (x.toNat + (j - y.toNat)) else g j) → ((∀ j, j < n → jQn kv nv G (g j)) → ∀ j, j < n → jQn kv nv G (g1 j)) → va_at (dC, dI) vwCl (a, .inl (cA, n, .inr (.inr (.inr (.inr g1))))) H1 → (∀ q, q ≠ a → H1[q]? = H[q]?) → jSt (dC, dI) B base G0 G E H0 zc zs L M I H1 locs1 → W p l e R s m args below meth c H1 locs1 cells slots Q (F0 m (pc + 3) ls rest)) : W p l e R s m args below meth c H locs cells slots Q (F0 m pc ls (.int w :: .int dp :: .ref a :: .int sp :: .ref a0 :: rest)) := by
  obtain ⟨q1, q2, q3, q4, q5⟩ := h1
  obtain ⟨f', f1, f2⟩ := hh.aq hBk hk ha0
  have g1 := hraw
  have s0 : ¬ sp < 0 := jb_n0 hx q1
  have d0 : ¬ dp < 0 := jb_n0 hy q2
  have w0 : ¬ w < 0 := jb_n0 hz q3
  have es : sp.toNatClampNeg = x.toNat := jb_cl hx q1
  have ed : dp.toNatClampNeg = y.toNat := jb_cl hy q2
  have ew : w.toNatClampNeg = z.toNat := jb_cl hz q3
  have h4 : sp.toNatClampNeg + w.toNatClampNeg ≤ n0 := by rw [es, ew]; omega
  have c0 : H[a0]? = some (vp_cell cA (n0, .inr (.inr (.inr (.inr f'))))) := f1
  have c1 : H[a]? = some (vp_cell cA (n, .inr (.inr (.inr (.inr g))))) := g1
  have hcls := (hK0.1 kv _ hc).2
  intro T hT X
  obtain ⟨-, k9, hk9, cm9, hkk9⟩ := (hK.2 t0 _ ht).1 n0 (fun j => va_rf (f' j))
  obtain ⟨-, k8, hk8, cm8, hkk8⟩ := (hK.2 t0 _ ht).1 n (fun j => va_rf (g j))
  obtain ⟨vm', X', step⟩ := X.arraycopy hexec hown hlink hnat hstat hini (src := a0) (dst := a) (cs := vp_cell cA (n0, .inr (.inr (.inr (.inr f'))))) (cd := vp_cell cA (n, .inr (.inr (.inr (.inr g))))) (srcPos := sp) (destPos := dp) (n := w) (by rw [hT]; exact c0) (by rw [hT]; exact c1)
    (fun _ h => by cases h) (fun _ h => by cases h) (fun h => by cases h) (fun h => by cases h) hk9 hk8 hkk9 hkk8 rfl s0 d0 w0
    (by rw [hx, hz]; show ¬ _ > ((arrV cA n0 (fun j => va_rf (f' j))).slots.size : Int); rw [arrV_size]; omega)
    (by rw [hy, hz]; show ¬ _ > ((arrV cA n (fun j => va_rf (g j))).slots.size : Int); rw [arrV_size]; omega)
    (fun vm₁ hal i hi => by
      have e9 : (vp_cell cA (n0, .inr (.inr (.inr (.inr f'))))).slots.getD (sp.toNatClampNeg + i) .null = va_rf (f' (sp.toNatClampNeg + i)) := by
        show (arrV cA n0 (fun j => va_rf (f' j))).slots.getD _ _ = _
        rw [Array.getD_eq_getD_getElem?, arrV_read _ _ (by omega)]
        rfl
      rw [e9]
      cases hy9 : f' (sp.toNatClampNeg + i) with
      | none => exact ⟨rfl, trivial⟩
      | some y9 =>
        have hp9 := f2 (sp.toNatClampNeg + i) (by omega)
        rw [hy9] at hp9
        rcases hp9 with hp9 | ⟨x9, e8, hg9⟩
        · cases hp9
        · cases e8
          obtain ⟨V9, ⟨cellV, r1, r2, r3, r4⟩, -⟩ := (hBv _ _ _ _).mp (hh.2.1.1 y9 kv nv hg9 hkv (fun h => by cases h))
          obtain ⟨kA, comp, k1, k2, k3, -⟩ := (hK.2 t0 _ ht).2
          cases hk8.symm.trans k1
          cases hkk8.symm.trans k2
          obtain ⟨kE, hkE, -⟩ := Vm.findClass_spec k3
          obtain ⟨kC, hkC, -⟩ := hcls.2
          obtain ⟨kC', hkC', -⟩ := hal.2.2 _ _ hkC
          obtain ⟨kE', hkE', -⟩ := hal.2.2 _ _ hkE
          obtain ⟨c7, t7, w1, w2, w3⟩ := Cond.castable_spec (va_Nw.use (A := args) rfl hca)
          cases hcls.1.symm.trans w1
          cases k3.symm.trans w2
          refine ⟨rfl, cellV, (show T.heap[y9]? = some cellV by rw [hT]; exact r1), (fun q h => by rw [r3] at h; cases h), ⟨kC', by rw [r2]; exact hkC'⟩, ?_, ?_⟩
          · exact ⟨kE', hkE'⟩
          · show vm₁.assignable _ _ = true
            rw [hal.assignable, r2]
            exact w3)
    (g := F0 m pc ls (.int w :: .int dp :: .ref a :: .int sp :: .ref a0 :: rest)) rfl (by rw [hml]) (rest := rest) rfl (by rw [hb]; exact hdg) hframes (by show 2 * 0 + _ + _ ≤ _; omega)
  have e1 : copied (vp_cell cA (n0, .inr (.inr (.inr (.inr f'))))) (vp_cell cA (n, .inr (.inr (.inr (.inr g))))) sp dp w = vp_cell cA (n, .inr (.inr (.inr (.inr (va_cpy f' g sp.toNatClampNeg dp.toNatClampNeg w.toNatClampNeg))))) := by
    rw [vp_cell_q, vp_cell_q, vp_cell_q]
    exact va_copied (fun z => va_rf z) cA cA f' g h4
  rw [e1] at X' step
  have hl : a < H.size := (Array.getElem?_eq_some_iff.mp c1).1
  generalize hcp : va_cpy f' g sp.toNatClampNeg dp.toNatClampNeg w.toNatClampNeg = gn at X' step
  have hheap : ((T.setVm vm').setCell a (vp_cell cA (n, .inr (.inr (.inr (.inr gn)))))).heap = H.setIfInBounds a (vp_cell cA (n, .inr (.inr (.inr (.inr gn))))) := by rw [← hT]; rfl
  have oq : ∀ q : Nat, q ≠ a → (H.setIfInBounds a (vp_cell cA (n, .inr (.inr (.inr (.inr gn))))))[q]? = H[q]? := fun q hq => by simp [Array.getElem?_setIfInBounds, Ne.symm hq]
  have ha1 : (H.setIfInBounds a (vp_cell cA (n, .inr (.inr (.inr (.inr gn))))))[a]? = some (vp_cell cA (n, .inr (.inr (.inr (.inr gn))))) := by simp [Array.getElem?_setIfInBounds, hl]
  have hsz : (H.setIfInBounds a (vp_cell cA (n, .inr (.inr (.inr (.inr gn)))))).size = H.size := by simp
  have hgn : ∀ j, j < n → gn j = if y.toNat ≤ j ∧ j < y.toNat + z.toNat then f (x.toNat + (j - y.toNat)) else g j := fun j hj => by
    rw [← hcp]
    unfold va_cpy
    rw [es, ed, ew]
    split
    · rename_i hc9
      exact jQc_eq f1 hq0 (by omega)
    · rfl
  have hPn : (∀ j, j < n → jQn kv nv G (g j)) → ∀ j, j < n → jQn kv nv G (gn j) := fun g2 j hj => by
    rw [← hcp]
    unfold va_cpy
    split
    · rename_i hc9
      exact f2 _ (by omega)
    · exact g2 j hj
  obtain ⟨t, a1, b1⟩ := kk _ _ gn hgn hPn ha1 oq (hh.rawput hB hnr hba hsz oq (jTot_set hsz c1 ha1 (by rw [vp_cell_q, vp_cell_q, arrV_size, arrV_size]) oq) (fun q hq => by
      rcases List.mem_append.mp hq with h | h
      · exact hh.1.2.2 q h
      · obtain ⟨z9, -, hz9⟩ := List.mem_map.mp h
        rw [← hz9]
        exact hba)) _ hheap X'
  exact ⟨t, step t a1, b1⟩
/-- the class of such an array -/
theorem j7_getC {P : jT → Option Nat → Prop} (hexec : p.tables.exec = Jvm.exec) (hb : c.code = cc) (hml : c.maxLocals = ls.size) (hown : s.vm.findClass own = some m.cls) (hlink : (Cond.methodLink own index ⟨"java/lang/Object", "getClass", "()Ljava/lang/Class;"⟩).before args s = true) (hsel : (Cond.selects "[Ljava/lang/Object;" ⟨"java/lang/Object", "getClass", "()Ljava/lang/Class;"⟩ ⟨"java/lang/Object", "getClass", "()Ljava/lang/Class;"⟩).before args s = true) (hinst : (Cond.instanceMethod ⟨"java/lang/Object", "getClass", "()Ljava/lang/Class;"⟩).before args s = true) (hnat : (Cond.native ⟨"java/lang/Object", "getClass", "()Ljava/lang/Class;"⟩).before args s = true)
    (hK7 : jK7 dC dI ca base s) (hh : jSt (dC, dI) B base G0 G E H0 zc zs L M I H locs) (hBk : ∀ n G a H, B k n G a H ↔ jAq (dC, dI) (ca 9) P n G a H) (hk : k < 1000) (ha : G a = some (k, n)) (hframes : 1 ≤ R.frames) (hlocals : (rest.map fun v => v.category).sum + 14 ≤ R.locals) (hdg : decode cc pc = .ok (.invokevirtual index, 3))
    (kk : W p l e R s m args below meth c H locs cells slots Q (F0 m (pc + 3) ls (.ref (dI 99 1) :: rest))) : W p l e R s m args below meth c H locs cells slots Q (F0 m pc ls (.ref a :: rest)) := by
  obtain ⟨f, g1, -⟩ := hh.aq hBk hk ha
  have c1 : H[a]? = some (vp_cell (ca 9) (n, .inr (.inr (.inr (.inr f))))) := g1
  exact va_getC hexec hb hml hown hlink (va_Dc.use hK7.2.2.2.2.1) hsel hinst hnat hK7.2.2.2.1 ⟨_, c1, rfl, va_nmO (hK7.1.2 0 _ rfl).2 (by decide)⟩ hframes hlocals hdg kk
end J32
theorem jQz {f g g1 : Nat → Option Nat} {x y z : Int} {n n0 : Nat} (hc : ∀ j, j < n → g1 j = if y.toNat ≤ j ∧ j < y.toNat + z.toNat then f (x.toNat + (j - y.toNat)) else g j) (hx : x = 0) (hy : y = 0) (hz : z = n0) (hn : n0 ≤ n) : ∀ j, j < n0 → g1 j = f j := fun j hj => by
  rw [hc j (by omega), if_pos (by omega)]
  congr 1
  omega
end
section
-- an inherited field under its other name
section J34
variable {p : Program} {l : Launch} {e : Env} {R : Room} {s : State} {m : MethodId} {args : Array Value} {below : List Frame} {meth : Method} {c : Code} {H : Heap} {locs : List Loc} {cells slots : Nat} {Q : State → Prop}
variable {cc : ByteArray} {pc : Nat} {ls : Array Slot} {rest : List Value} {dC : Nat → ClassId} {dI : Nat → Nat → Nat} {B : jF} {base : Nat} {G0 G : jT} {E : List (Nat × Nat)} {H0 : Heap} {zc zs : Nat} {L : List jPin} {M : List jCt} {I : List jIv} {a k n i index N : Nat} {tys : List (ClassId × FieldType)} {own C : String} {T : u_T}
theorem j7_readS {ref : String} (hexec : p.tables.exec = Jvm.exec) (hb : c.code = cc) (hown : s.vm.findClass own = some m.cls) (hK : va_K (dC, dI) vwCl tys s) (hc : vwCl[k]? = some (C, T, N)) (hlay : (u_lay C T i).before args s = true) (hlink : (Cond.fieldLink own index ref (T i).2.1 (T i).2.2.1).before args s = true) (hsame : (Cond.sameField ref (T i).1 (T i).2.1 (T i).2.2.1).before args s = true) {v : Value} (hf : jf (dC, dI) k a i v H) (hdg : decode cc pc = .ok (.getfield index, 3))
    (kk : W p l e R s m args below meth c H locs cells slots Q (F0 m (pc + 3) ls (v :: rest))) : W p l e R s m args below meth c H locs cells slots Q (F0 m pc ls (.ref a :: rest)) := by
  obtain ⟨r, h1, hi, cell, q1, q2, q3, q4⟩ := hf
  have hr : r = (C, T, N) := Option.some.inj (h1.symm.trans hc)
  subst hr
  obtain ⟨hS, hfc, kC, hkC, hkind⟩ := hK.1 k _ hc
  obtain ⟨cf, kf, fi, f, hfi, hsl⟩ := hS i hi
  exact W.getf hexec hb hown hlink (u_same hsame _ hfi) (u_facts hfc hkC (j7_lay hlay) hfi).1 q1 (by rw [q3]; exact fun h => by cases h) (v := v) (by rw [hsl]; exact q4) rfl rfl hdg kk
theorem j7_putS {ref : String} (hexec : p.tables.exec = Jvm.exec) (hb : c.code = cc) (hown : s.vm.findClass own = some m.cls) (hK : va_K (dC, dI) vwCl tys s) (hh : jSt (dC, dI) B base G0 G E H0 zc zs L M I H locs) (hB : jBok B) (hAp : jAp (dC, dI)) {F : Nat → jT → List (Value → Prop)} (hBk : ∀ n G a H, B k n G a H ↔ jOb (dC, dI) k N (F n G) a H) (hc : vwCl[k]? = some (C, T, N)) (hk : k < 1000) (ha : G a = some (k, n)) (hi : i < N) (hlay : (u_lay C T i).before args s = true) (hfin : (T i).2.2.2 = false) (hlink : (Cond.fieldLink own index ref (T i).2.1 (T i).2.2.1).before args s = true) (hsame : (Cond.sameField ref (T i).1 (T i).2.1 (T i).2.2.1).before args s = true) {P : Value → Prop} (hp : (F n G)[i]? = some P) {ty : FieldType} {v : Value} (hd : parseFieldDescriptor (T i).2.2.1 = some ty) (hnar : narrow ty v = v) (hfit : fits ty v = true) (hv : P v) (hE : E.contains (k, i) = true)
    {L1 : List jPin} (is : List Nat) (hs : is.map (fun i => L[i]?) = L1.map some) (hn : L1.all (fun q => !(q.2.1 == k && q.2.2.1 == i)) = true) (hI : I.all (fun q => !(q.1.contains (k, i))) = true) (hdg : decode cc pc = .ok (.putfield index, 3))
    (kk : ∀ (H1 : Heap) (locs1 : List Loc), (∀ q, q ≠ a → H1[q]? = H[q]?) → jSt (dC, dI) B base G0 G E H0 zc zs ((a, k, i, v) :: L1) M I H1 locs1 → W p l e R s m args below meth c H1 locs1 cells slots Q (F0 m (pc + 3) ls rest)) : W p l e R s m args below meth c H locs cells slots Q (F0 m pc ls (v :: .ref a :: rest)) := by
  obtain ⟨V, ⟨cell, q1, q2, q3, q4⟩, hV⟩ := (hBk _ _ _ _).mp (hh.2.1.1 a k n ha hk (fun h => by cases h))
  obtain ⟨hS, hfc, kC, hkC, hkind⟩ := hK.1 k _ hc
  obtain ⟨cf, kf, fi, f, hfi, hsl⟩ := hS i hi
  have hst := (u_facts hfc hkC (j7_lay hlay) hfi).1
  unfold u_lay at hlay
  rw [if_neg (by rw [hfin]; decide)] at hlay
  have h6 := u_store hfc hkC hkind hlay hfi hd hnar hfit
  refine W.putK hexec hb (f := f) ⟨hown, hlink, ⟨_, _, _, u_same hsame _ hfi⟩, hst⟩ (by rw [q2]; exact h6) q1 q3 (by rw [hsl]; exact k2_hasslot (q4 i hi)) rfl rfl hdg fun H1 e1 e2 e3 => ?_
  rw [hsl] at e1 ⊢
  refine kk H1 _ e3 (hh.fld hB hAp hBk hc hk ha hi hp hv hE is hs hn hI q1 e1 e2 e3 (jTot_set e2 q1 e1 (jSet_sz _ _ _) e3) (fun q hq => ?_))
  rcases List.mem_append.mp hq with h | h
  · exact hh.1.2.2 q h
  · cases List.mem_singleton.mp h; exact (hh.ab ha).1
end J34
end
section
theorem dJx4a65c_grow_92f84_0 : decode cJx4a65c_grow_92f84 0 = .ok (.aload_n 0, 1) := by decide +kernel
theorem dJx4a65c_grow_92f84_1 : decode cJx4a65c_grow_92f84 1 = .ok (.getfield 9, 3) := by decide +kernel
theorem dJx4a65c_grow_92f84_4 : decode cJx4a65c_grow_92f84 4 = .ok (.arraylength, 1) := by decide +kernel
theorem dJx4a65c_grow_92f84_5 : decode cJx4a65c_grow_92f84 5 = .ok (.istore_n 2, 1) := by decide +kernel
theorem dJx4a65c_grow_92f84_6 : decode cJx4a65c_grow_92f84 6 = .ok (.iload_n 2, 1) := by decide +kernel
theorem dJx4a65c_grow_92f84_7 : decode cJx4a65c_grow_92f84 7 = .ok (.ifCond .gt 13, 3) := by decide +kernel
theorem dJx4a65c_grow_92f84_10 : decode cJx4a65c_grow_92f84 10 = .ok (.aload_n 0, 1) := by decide +kernel
theorem dJx4a65c_grow_92f84_11 : decode cJx4a65c_grow_92f84 11 = .ok (.getfield 9, 3) := by decide +kernel
theorem dJx4a65c_grow_92f84_14 : decode cJx4a65c_grow_92f84 14 = .ok (.getstatic 39, 3) := by decide +kernel
theorem dJx4a65c_grow_92f84_17 : decode cJx4a65c_grow_92f84 17 = .ok (.if_acmp .eq 28, 3) := by decide +kernel
theorem dJx4a65c_grow_92f84_20 : decode cJx4a65c_grow_92f84 20 = .ok (.iload_n 2, 1) := by decide +kernel
theorem dJx4a65c_grow_92f84_21 : decode cJx4a65c_grow_92f84 21 = .ok (.iload_n 1, 1) := by decide +kernel
theorem dJx4a65c_grow_92f84_22 : decode cJx4a65c_grow_92f84 22 = .ok (.iload_n 2, 1) := by decide +kernel
theorem dJx4a65c_grow_92f84_23 : decode cJx4a65c_grow_92f84 23 = .ok (.isub, 1) := by decide +kernel
theorem dJx4a65c_grow_92f84_24 : decode cJx4a65c_grow_92f84 24 = .ok (.iload_n 2, 1) := by decide +kernel
theorem dJx4a65c_grow_92f84_25 : decode cJx4a65c_grow_92f84 25 = .ok (.iconst 1, 1) := by decide +kernel
theorem dJx4a65c_grow_92f84_26 : decode cJx4a65c_grow_92f84 26 = .ok (.ishr, 1) := by decide +kernel
theorem dJx4a65c_grow_92f84_27 : decode cJx4a65c_grow_92f84 27 = .ok (.invokestatic 73, 3) := by decide +kernel
theorem dJx4a65c_grow_92f84_30 : decode cJx4a65c_grow_92f84 30 = .ok (.istore_n 3, 1) := by decide +kernel
theorem dJx4a65c_grow_92f84_31 : decode cJx4a65c_grow_92f84 31 = .ok (.aload_n 0, 1) := by decide +kernel
theorem dJx4a65c_grow_92f84_32 : decode cJx4a65c_grow_92f84 32 = .ok (.aload_n 0, 1) := by decide +kernel
theorem dJx4a65c_grow_92f84_33 : decode cJx4a65c_grow_92f84 33 = .ok (.getfield 9, 3) := by decide +kernel
theorem dJx4a65c_grow_92f84_36 : decode cJx4a65c_grow_92f84 36 = .ok (.iload_n 3, 1) := by decide +kernel
theorem dJx4a65c_grow_92f84_37 : decode cJx4a65c_grow_92f84 37 = .ok (.invokestatic 66, 3) := by decide +kernel
theorem dJx4a65c_grow_92f84_40 : decode cJx4a65c_grow_92f84 40 = .ok (.dup_x1, 1) := by decide +kernel
theorem dJx4a65c_grow_92f84_41 : decode cJx4a65c_grow_92f84 41 = .ok (.putfield 9, 3) := by decide +kernel
theorem dJx4a65c_grow_92f84_44 : decode cJx4a65c_grow_92f84 44 = .ok (.areturn, 1) := by decide +kernel
theorem dJx4a65c_grow_92f84_45 : decode cJx4a65c_grow_92f84 45 = .ok (.aload_n 0, 1) := by decide +kernel
theorem dJx4a65c_grow_92f84_46 : decode cJx4a65c_grow_92f84 46 = .ok (.bipush 10, 2) := by decide +kernel
theorem dJx4a65c_grow_92f84_48 : decode cJx4a65c_grow_92f84 48 = .ok (.iload_n 1, 1) := by decide +kernel
theorem dJx4a65c_grow_92f84_49 : decode cJx4a65c_grow_92f84 49 = .ok (.invokestatic 79, 3) := by decide +kernel
theorem dJx4a65c_grow_92f84_52 : decode cJx4a65c_grow_92f84 52 = .ok (.anewarray 7, 3) := by decide +kernel
theorem dJx4a65c_grow_92f84_55 : decode cJx4a65c_grow_92f84 55 = .ok (.dup_x1, 1) := by decide +kernel
theorem dJx4a65c_grow_92f84_56 : decode cJx4a65c_grow_92f84 56 = .ok (.putfield 9, 3) := by decide +kernel
theorem dJx4a65c_grow_92f84_59 : decode cJx4a65c_grow_92f84 59 = .ok (.areturn, 1) := by decide +kernel
theorem dJx4a65c_grow_d5877_0 : decode cJx4a65c_grow_d5877 0 = .ok (.aload_n 0, 1) := by decide +kernel
theorem dJx4a65c_grow_d5877_1 : decode cJx4a65c_grow_d5877 1 = .ok (.aload_n 0, 1) := by decide +kernel
theorem dJx4a65c_grow_d5877_2 : decode cJx4a65c_grow_d5877 2 = .ok (.getfield 48, 3) := by decide +kernel
theorem dJx4a65c_grow_d5877_5 : decode cJx4a65c_grow_d5877 5 = .ok (.iconst 1, 1) := by decide +kernel
theorem dJx4a65c_grow_d5877_6 : decode cJx4a65c_grow_d5877 6 = .ok (.iadd, 1) := by decide +kernel
theorem dJx4a65c_grow_d5877_7 : decode cJx4a65c_grow_d5877 7 = .ok (.invokevirtual 69, 3) := by decide +kernel
theorem dJx4a65c_grow_d5877_10 : decode cJx4a65c_grow_d5877 10 = .ok (.areturn, 1) := by decide +kernel
theorem dJx4a65c_add_72be8_0 : decode cJx4a65c_add_72be8 0 = .ok (.iload_n 3, 1) := by decide +kernel
theorem dJx4a65c_add_72be8_1 : decode cJx4a65c_add_72be8 1 = .ok (.aload_n 2, 1) := by decide +kernel
theorem dJx4a65c_add_72be8_2 : decode cJx4a65c_add_72be8 2 = .ok (.arraylength, 1) := by decide +kernel
theorem dJx4a65c_add_72be8_3 : decode cJx4a65c_add_72be8 3 = .ok (.if_icmp .ne 8, 3) := by decide +kernel
theorem dJx4a65c_add_72be8_6 : decode cJx4a65c_add_72be8 6 = .ok (.aload_n 0, 1) := by decide +kernel
theorem dJx4a65c_add_72be8_7 : decode cJx4a65c_add_72be8 7 = .ok (.invokevirtual 129, 3) := by decide +kernel
theorem dJx4a65c_add_72be8_10 : decode cJx4a65c_add_72be8 10 = .ok (.astore_n 2, 1) := by decide +kernel
theorem dJx4a65c_add_72be8_11 : decode cJx4a65c_add_72be8 11 = .ok (.aload_n 2, 1) := by decide +kernel
theorem dJx4a65c_add_72be8_12 : decode cJx4a65c_add_72be8 12 = .ok (.iload_n 3, 1) := by decide +kernel
theorem dJx4a65c_add_72be8_13 : decode cJx4a65c_add_72be8 13 = .ok (.aload_n 1, 1) := by decide +kernel
theorem dJx4a65c_add_72be8_14 : decode cJx4a65c_add_72be8 14 = .ok (.aastore, 1) := by decide +kernel
theorem dJx4a65c_add_72be8_15 : decode cJx4a65c_add_72be8 15 = .ok (.aload_n 0, 1) := by decide +kernel
theorem dJx4a65c_add_72be8_16 : decode cJx4a65c_add_72be8 16 = .ok (.iload_n 3, 1) := by decide +kernel
theorem dJx4a65c_add_72be8_17 : decode cJx4a65c_add_72be8 17 = .ok (.iconst 1, 1) := by decide +kernel
theorem dJx4a65c_add_72be8_18 : decode cJx4a65c_add_72be8 18 = .ok (.iadd, 1) := by decide +kernel
theorem dJx4a65c_add_72be8_19 : decode cJx4a65c_add_72be8 19 = .ok (.putfield 48, 3) := by decide +kernel
theorem dJx4a65c_add_72be8_22 : decode cJx4a65c_add_72be8 22 = .ok (.return_, 1) := by decide +kernel
theorem dJx4a65c_add_9ea2d_0 : decode cJx4a65c_add_9ea2d 0 = .ok (.aload_n 0, 1) := by decide +kernel
theorem dJx4a65c_add_9ea2d_1 : decode cJx4a65c_add_9ea2d 1 = .ok (.dup, 1) := by decide +kernel
theorem dJx4a65c_add_9ea2d_2 : decode cJx4a65c_add_9ea2d 2 = .ok (.getfield 63, 3) := by decide +kernel
theorem dJx4a65c_add_9ea2d_5 : decode cJx4a65c_add_9ea2d 5 = .ok (.iconst 1, 1) := by decide +kernel
theorem dJx4a65c_add_9ea2d_6 : decode cJx4a65c_add_9ea2d 6 = .ok (.iadd, 1) := by decide +kernel
theorem dJx4a65c_add_9ea2d_7 : decode cJx4a65c_add_9ea2d 7 = .ok (.putfield 63, 3) := by decide +kernel
theorem dJx4a65c_add_9ea2d_10 : decode cJx4a65c_add_9ea2d 10 = .ok (.aload_n 0, 1) := by decide +kernel
theorem dJx4a65c_add_9ea2d_11 : decode cJx4a65c_add_9ea2d 11 = .ok (.aload_n 1, 1) := by decide +kernel
theorem dJx4a65c_add_9ea2d_12 : decode cJx4a65c_add_9ea2d 12 = .ok (.aload_n 0, 1) := by decide +kernel
theorem dJx4a65c_add_9ea2d_13 : decode cJx4a65c_add_9ea2d 13 = .ok (.getfield 9, 3) := by decide +kernel
theorem dJx4a65c_add_9ea2d_16 : decode cJx4a65c_add_9ea2d 16 = .ok (.aload_n 0, 1) := by decide +kernel
theorem dJx4a65c_add_9ea2d_17 : decode cJx4a65c_add_9ea2d 17 = .ok (.getfield 48, 3) := by decide +kernel
theorem dJx4a65c_add_9ea2d_20 : decode cJx4a65c_add_9ea2d 20 = .ok (.invokevirtual 131, 3) := by decide +kernel
theorem dJx4a65c_add_9ea2d_23 : decode cJx4a65c_add_9ea2d 23 = .ok (.iconst 1, 1) := by decide +kernel
theorem dJx4a65c_add_9ea2d_24 : decode cJx4a65c_add_9ea2d 24 = .ok (.ireturn, 1) := by decide +kernel
theorem dJ7_copyOf_1904c_0 : decode cJ7_copyOf_1904c 0 = .ok (.aload_n 0, 1) := by decide +kernel
theorem dJ7_copyOf_1904c_1 : decode cJ7_copyOf_1904c 1 = .ok (.iload_n 1, 1) := by decide +kernel
theorem dJ7_copyOf_1904c_2 : decode cJ7_copyOf_1904c 2 = .ok (.aload_n 0, 1) := by decide +kernel
theorem dJ7_copyOf_1904c_3 : decode cJ7_copyOf_1904c 3 = .ok (.invokevirtual 86, 3) := by decide +kernel
theorem dJ7_copyOf_1904c_6 : decode cJ7_copyOf_1904c 6 = .ok (.invokestatic 300, 3) := by decide +kernel
theorem dJ7_copyOf_1904c_9 : decode cJ7_copyOf_1904c 9 = .ok (.areturn, 1) := by decide +kernel
theorem dJ7_copyOf_6403c_0 : decode cJ7_copyOf_6403c 0 = .ok (.aload_n 2, 1) := by decide +kernel
theorem dJ7_copyOf_6403c_1 : decode cJ7_copyOf_6403c 1 = .ok (.ldc 110, 2) := by decide +kernel
theorem dJ7_copyOf_6403c_3 : decode cJ7_copyOf_6403c 3 = .ok (.if_acmp .ne 10, 3) := by decide +kernel
theorem dJ7_copyOf_6403c_6 : decode cJ7_copyOf_6403c 6 = .ok (.iload_n 1, 1) := by decide +kernel
theorem dJ7_copyOf_6403c_7 : decode cJ7_copyOf_6403c 7 = .ok (.anewarray 2, 3) := by decide +kernel
theorem dJ7_copyOf_6403c_10 : decode cJ7_copyOf_6403c 10 = .ok (.goto 14, 3) := by decide +kernel
theorem dJ7_copyOf_6403c_24 : decode cJ7_copyOf_6403c 24 = .ok (.astore_n 3, 1) := by decide +kernel
theorem dJ7_copyOf_6403c_25 : decode cJ7_copyOf_6403c 25 = .ok (.aload_n 0, 1) := by decide +kernel
theorem dJ7_copyOf_6403c_26 : decode cJ7_copyOf_6403c 26 = .ok (.iconst 0, 1) := by decide +kernel
theorem dJ7_copyOf_6403c_27 : decode cJ7_copyOf_6403c 27 = .ok (.aload_n 3, 1) := by decide +kernel
theorem dJ7_copyOf_6403c_28 : decode cJ7_copyOf_6403c 28 = .ok (.iconst 0, 1) := by decide +kernel
theorem dJ7_copyOf_6403c_29 : decode cJ7_copyOf_6403c 29 = .ok (.aload_n 0, 1) := by decide +kernel
theorem dJ7_copyOf_6403c_30 : decode cJ7_copyOf_6403c 30 = .ok (.arraylength, 1) := by decide +kernel
theorem dJ7_copyOf_6403c_31 : decode cJ7_copyOf_6403c 31 = .ok (.iload_n 1, 1) := by decide +kernel
theorem dJ7_copyOf_6403c_32 : decode cJ7_copyOf_6403c 32 = .ok (.invokestatic 304, 3) := by decide +kernel
theorem dJ7_copyOf_6403c_35 : decode cJ7_copyOf_6403c 35 = .ok (.invokestatic 150, 3) := by decide +kernel
theorem dJ7_copyOf_6403c_38 : decode cJ7_copyOf_6403c 38 = .ok (.aload_n 3, 1) := by decide +kernel
theorem dJ7_copyOf_6403c_39 : decode cJ7_copyOf_6403c 39 = .ok (.areturn, 1) := by decide +kernel
def EJ7_copyOf_6403cL1 : List (Nat × Nat) := []
def EJ7_copyOf_1904cL1 : List (Nat × Nat) := []
def EJx4a65c_grow_92f84E1 : List (Nat × Nat) := [(1, 1)]
def EJx4a65c_grow_92f84L1 : List (Nat × Nat) := [(1, 1)]
def EJx4a65c_grow_d5877E1 : List (Nat × Nat) := [(1, 1)]
def EJx4a65c_grow_d5877L1 : List (Nat × Nat) := [(1, 1)]
def EJx4a65c_add_72be8E1 : List (Nat × Nat) := [(1, 1), (1, 2), (221, 0)]
def EJx4a65c_add_72be8L1 : List (Nat × Nat) := [(1, 1), (1, 2), (221, 0)]
def EJx4a65c_add_9ea2dL1 : List (Nat × Nat) := [(1, 0), (1, 1), (1, 2), (221, 0)]
set_option maxHeartbeats 4000000 in
set_option maxRecDepth 20000 in
theorem uJ7_copyOf_6403cL1 (l : Launch) (dC : Nat → ClassId) (dI : Nat → Nat → Nat) (ca : Nat → ClassId) (base : Nat) (B : jF) (hB : jBok B) (hAp : jAp (dC, dI)) (hB3 : ∀ n G a H, B 3 n G a H ↔ jOb (dC, dI) 3 17 (F3 n G) a H) (hB221 : ∀ n G a H, B 221 n G a H ↔ jAq (dC, dI) (ca 9) (jQn 3 0) n G a H) (G0 : jT) (H0 : Heap) (r0 : Nat) (a1 : Int32) (n0 : Nat) (fq : Nat → Option Nat) (LC LS : Nat) : Met l yJ7_copyOf_6403c (jw yJ7_copyOf_6403c cJ7_copyOf_6403c 4 (some (.array (.object "java/lang/Object")))) ({ frames := 1, cells := LC - H0.size, slots := LS - jTot H0, locals := 61 }) (va_Pc [.ref r0, .int a1, .ref (dI 99 1)] (fun U => U.heap = H0 ∧ jX B base G0 [] H0 ∧ jG dC dI ca base U ∧ jK7 dC dI ca base U ∧ G0 r0 = some (221, n0) ∧ jP (dC, dI) G0 H0 [] ∧ jIs (dC, dI) G0 H0 [([(221, 0)], jQc dC dI (ca 9) r0 n0 fq)] ∧ H0.size + 1 ≤ LC ∧ jTot H0 + a1.toInt.toNat ≤ LS ∧ n0 ≤ 40 ∧ n0 ≤ a1.toInt ∧ a1.toInt ≤ 40)) (jQx (S := Nat × Nat × jT) (fun v u => v = .ref u.1 ∧ jRf u.2.2 221 u.2.1 v ∧ jNwv v H0 ∧ u.2.1 = a1.toInt) (fun u t => jRa (dC, dI) B base G0 u.2.2 EJ7_copyOf_6403cL1 H0 (1) (u.2.1) [] t.heap ∧ (jNk [0, 1, 2, 3, 4, 5, 6, 7, 8, 9, 10, 11, 12, 13, 14, 15, 16]) G0 u.2.2 ∧ (∃ f : Nat → Option Nat, jQc dC dI (ca 9) u.1 u.2.1 f t.heap ∧ (∀ j, j < n0 → f j = fq j)) ∧ jKe G0 u.2.2 H0 t.heap) (jA base)) (LC - H0.size) (LS - jTot H0) (jA base) := by
  refine Met.ofW (cc := cJ7_copyOf_6403c) (maxL := 4) (ret := (some (.array (.object "java/lang/Object")))) (by decide) rfl ?_
  intro p e s m args below meth c s₁ Bd hml hv
  obtain ⟨rfl, hH0, hX, hG, hK7, hg_r0, hP0, hI0, hLC0, hLS0, hp0, hp1, hp2⟩ := hv
  have hK := hG.1
  have hx := Bd.exec
  have hb := Bd.bytes
  have hr := Bd.returns
  have hts := atoms_spec (ws := (jw yJ7_copyOf_6403c cJ7_copyOf_6403c 4 (some (.array (.object "java/lang/Object"))))) Bd.pre
  have htw : ∀ w ∈ jWl, w.before _ s = true := fun w h => hts w (List.mem_cons_of_mem _ h)
  have hown : s.vm.findClass RJ7 = some m.cls := findClass_of_methodNamed Bd.named
  have hlocks := Bd.notSynchronized
  obtain ⟨Q, hQ⟩ : ∃ Q, Q = MQ below (jQx (S := Nat × Nat × jT) (fun v u => v = .ref u.1 ∧ jRf u.2.2 221 u.2.1 v ∧ jNwv v H0 ∧ u.2.1 = a1.toInt) (fun u t => jRa (dC, dI) B base G0 u.2.2 EJ7_copyOf_6403cL1 H0 (1) (u.2.1) [] t.heap ∧ (jNk [0, 1, 2, 3, 4, 5, 6, 7, 8, 9, 10, 11, 12, 13, 14, 15, 16]) G0 u.2.2 ∧ (∃ f : Nat → Option Nat, jQc dC dI (ca 9) u.1 u.2.1 f t.heap ∧ (∀ j, j < n0 → f j = fq j)) ∧ jKe G0 u.2.2 H0 t.heap) (jA base)) ([.ref r0, .int a1, .ref (dI 99 1)] : List Value).toArray s (LC - H0.size) (LS - jTot H0) (jA base) := ⟨_, rfl⟩
  rw [← hQ]
  have hl := lv_entry ([.ref r0, .int a1, .ref (dI 99 1)]) (n := 4) (Nat.le_of_ble_eq_true rfl)
  rw [lg_entry_eq]
  generalize (lg_sl ([.ref r0, .int a1, .ref (dI 99 1)]) ++ List.replicate (4 - (lg_sl ([.ref r0, .int a1, .ref (dI 99 1)])).length) Slot.unset).toArray = ls at hl ⊢
  have hl : lv_has ls 4 [(0, .ref r0), (1, .int a1), (2, .ref (dI 99 1))] := hl
  generalize hR : (headSpec (jw yJ7_copyOf_6403c cJ7_copyOf_6403c 4 (some (.array (.object "java/lang/Object")))) ({ frames := 1, cells := LC - H0.size, slots := LS - jTot H0, locals := 61 })).room = R
  subst hH0
  have hh : jSt (dC, dI) B base G0 G0 EJ7_copyOf_6403cL1 s.heap 0 0 [] [] [([(221, 0)], jQc dC dI (ca 9) r0 n0 fq)] s.heap [] := jSt.start hX hP0 jMc.nil hI0
  clear hX hP0
  have hk0 : (0 : Int32).toInt = 0 := by decide
  have hk1 : (1 : Int32).toInt = 1 := by decide
  have hrg_a1 := jb_rng a1
  have hbs : base ≤ s.heap.size := Nat.le_of_lt (Nat.lt_of_le_of_lt (hh.ab hg_r0).1 (hh.ab hg_r0).2)
  have hRc : R.cells = LC - s.heap.size := by rw [← hR]; rfl
  have hRs : R.slots = LS - jTot s.heap := by rw [← hR]; rfl
  have hkp : jKe G0 G0 s.heap s.heap := jKe.rf
  refine lv_aload_n hx hb dJ7_copyOf_6403c_0 rfl (lv_at hl 2 rfl) ?_
  refine va_ldcM hx hb hown (htw (.classLink RJ7 110 "[Ljava/lang/Object;") (jWr_34 _ (List.mem_of_getElem? (i := 22) rfl))) hK7.2.2.2.1 dJ7_copyOf_6403c_1 ?_
  refine lv_acmp_ne (rx := (some (dI 99 1))) (ry := (some (dI 99 1))) (tgt := 13) hx hb dJ7_copyOf_6403c_3 (by decide) (fun c_1 => ?_) (fun c_1 => ?_)
  · skip
    exact absurd rfl c_1
  · skip
    refine lv_iload_n hx hb dJ7_copyOf_6403c_6 rfl (lv_at hl 1 rfl) ?_
    have hsz_2 := hh.2.2.2.2.2.1
    have htt_2 := hh.2.2.2.2.2.2.1
    have hsy_2 : s.heap.size ≤ s.heap.size := hh.1.1
    refine j7_newqR hx hb hown (htw (.classLink RJ7 2 "java/lang/Object") (jWr_34 _ (List.mem_of_getElem? (i := 23) rfl))) hK7.2.1 hK7.1 hh hB 0 rfl (x := a1.toInt) rfl (by omega) (by rw [hRc]; omega) (by rw [hRs]; omega) dJ7_copyOf_6403c_7 (fun H_2 hfr_2 hnr_2 hraw_2 hh_2 => ?_)
    have hke_2 : jKe G0 G0 s.heap H_2 := jKe.raw hfr_2
    have hbr_2 : base ≤ s.heap.size := Nat.le_trans hbs hsy_2
    obtain ⟨nq_2, hnq_2⟩ : ∃ q : Nat, q = (a1.toInt).toNat := ⟨_, rfl⟩
    rw [← hnq_2] at hraw_2 hh_2 ⊢
    clear hh
    have hkp_3 := hkp.tr hke_2
    refine lv_goto (tgt := 24) hx hb dJ7_copyOf_6403c_10 (by decide) ?_
    refine lv_astore_n (lv' := [(3, .ref s.heap.size), (0, .ref r0), (1, .int a1), (2, .ref (dI 99 1))]) hx hb dJ7_copyOf_6403c_24 rfl hl (by decide) rfl (fun ls hl => ?_)
    refine lv_aload_n hx hb dJ7_copyOf_6403c_25 rfl (lv_at hl 1 rfl) ?_
    refine lv_iconst (v := 0) hx hb dJ7_copyOf_6403c_26 (by decide) ?_
    refine lv_aload_n hx hb dJ7_copyOf_6403c_27 rfl (lv_at hl 0 rfl) ?_
    refine lv_iconst (v := 0) hx hb dJ7_copyOf_6403c_28 (by decide) ?_
    refine lv_aload_n hx hb dJ7_copyOf_6403c_29 rfl (lv_at hl 1 rfl) ?_
    refine j7_qlen hx hb hK7.1 hh_2 hB221 0 rfl (by decide) hg_r0 (by omega) dJ7_copyOf_6403c_30 (fun z_4 hz_4 => ?_)
    refine lv_iload_n hx hb dJ7_copyOf_6403c_31 rfl (lv_at hl 2 rfl) ?_
    have hsz_5 := hh_2.2.2.2.2.2.1
    have htt_5 := hh_2.2.2.2.2.2.2.1
    refine W.room (fun hrc_5 hrs_5 => ?_)
    refine va_mmin hx hb (by rw [hml]; exact hl.1.symm) hown (htw (.methodLink RJ7 304 Lib.Math.min.name) (jWr_16 _ (List.mem_of_getElem? (i := 15) rfl))) (htw (.static Lib.Math.min.name) (jWr_16 _ (List.mem_of_getElem? (i := 16) rfl))) (htw (.initialized "java/lang/Math") (jWr_3 _ (List.mem_of_getElem? (i := 7) rfl))) (htw (.code Lib.Math.min.name Lib.Math.min.code 2 (some .int)) (jWr_16 _ (List.mem_of_getElem? (i := 17) rfl))) (by rw [← hR]; exact Nat.le_of_ble_eq_true rfl) (by rw [← hR]; exact Nat.le_of_ble_eq_true rfl) (by rw [hRc]; omega) (by rw [hRs]; omega) dJ7_copyOf_6403c_32 ?_
    refine lv_topi (fun z_6 ez_6 => ?_)
    have hz_6 := jb_min ez_6
    refine j7_qcopyR hx hb (by rw [hml]; exact hl.1.symm) hown (htw (.methodLink RJ7 150 arraycopyName) (jWr_16 _ (List.mem_of_getElem? (i := 18) rfl))) (htw (.native arraycopyName) (jWr_16 _ (List.mem_of_getElem? (i := 19) rfl))) (htw (.static arraycopyName) (jWr_16 _ (List.mem_of_getElem? (i := 20) rfl))) (htw (.initialized "java/lang/System") (jWr_16 _ (List.mem_of_getElem? (i := 21) rfl))) hK hK7.1 hh_2 hB hB221 0 rfl (by decide) hg_r0 (hh_2.iv 0 rfl) hraw_2 hnr_2 hbr_2 hB3 (T := TX1) (N := 17) rfl (by decide) hK7.2.2.1.1.1 (x := 0) (y := 0) (z := z_6.toInt) (by decide) (by decide) rfl (by omega) (by rw [← hR]; exact Nat.le_of_ble_eq_true rfl) (by rw [← hR]; exact Nat.le_of_ble_eq_true rfl) dJ7_copyOf_6403c_35 (fun H_7 locs_7 gq_7 hc_7 hp_7 hraw_7 hr_7 hh_7 => ?_)
    have hkp_8 := hkp_3.st hsy_2 hr_7
    clear hr_7
    clear hh_2
    refine lv_aload_n hx hb dJ7_copyOf_6403c_38 rfl (lv_at hl 0 rfl) ?_
    have hsz_9 := hh_7.2.2.2.2.2.1
    have htt_9 := hh_7.2.2.2.2.2.2.1
    refine W.room (fun hrc_9 hrs_9 => ?_)
    refine W.widen (k := LC - s.heap.size) (n := LS - jTot s.heap) (by omega) (by omega) ?_
    rw [hQ]
    have hle_10 : jLe G0 (va_up G0 s.heap.size (some (221, nq_2))) := jLe.typ hnr_2
    have hh_10 := hh_7.typ (k := 221) (n := nq_2) hB hnr_2 hbr_2 hraw_7.lt (jAq.of hB221 hraw_7 (fun j hj => ((hp_7 (fun _ _ => Or.inl rfl)) j hj).up hle_10))
    have hgn_10 : (va_up G0 s.heap.size (some (221, nq_2))) s.heap.size = some (221, nq_2) := jUp_self
    have hN_10 : (jNk [0, 1, 2, 3, 4, 5, 6, 7, 8, 9, 10, 11, 12, 13, 14, 15, 16]) G0 (va_up G0 s.heap.size (some (221, nq_2))) := jNk.new (by decide)
    have hNn_10 : (jNk [0, 1, 2, 3, 4, 5, 6, 7, 8, 9, 10, 11, 12, 13, 14, 15, 16]) G0 (va_up G0 s.heap.size (some (221, nq_2))) := (jNk.rf).tr hN_10
    have hkp_11 := hkp_8.typn (t := some (221, nq_2)) hsy_2
    have hh_12 := hh_10.addI (jQc.ie hraw_7 hgn_10 (by decide) (by decide))
    clear hh_10
    exact W.aret (v := .ref s.heap.size) hx hb hr (Or.inr ⟨_, rfl⟩) (Or.inr ⟨_, rfl⟩) (fun t ht hW => ⟨⟨.ref s.heap.size, (s.heap.size, nq_2, (va_up G0 s.heap.size (some (221, nq_2)))), rfl, ⟨rfl, ⟨_, rfl, hgn_10⟩, ⟨_, rfl, hsy_2⟩, by (try dsimp only); first | omega | rfl | assumption | fail⟩, ⟨hh_12.ra (by first | omega | (simp only; omega)) (by first | omega | (simp only; omega)) (M1 := []) [] rfl ht, hNn_10, ⟨_, by rw [ht]; exact hh_12.iv 0 rfl, jQz hc_7 (by omega) (by omega) (by omega) (by omega)⟩, by rw [ht]; exact hkp_11⟩⟩, by rw [ht]; try exact hh_12.1.1, fun q h9 hq => by rw [ht]; try exact hh_12.1.2.1 q h9 hq⟩) hh_12.1.2.2 dJ7_copyOf_6403c_39
set_option maxHeartbeats 4000000 in
set_option maxRecDepth 20000 in
theorem uJ7_copyOf_1904cL1 (l : Launch) (dC : Nat → ClassId) (dI : Nat → Nat → Nat) (ca : Nat → ClassId) (base : Nat) (B : jF) (hB : jBok B) (hAp : jAp (dC, dI)) (hB3 : ∀ n G a H, B 3 n G a H ↔ jOb (dC, dI) 3 17 (F3 n G) a H) (hB221 : ∀ n G a H, B 221 n G a H ↔ jAq (dC, dI) (ca 9) (jQn 3 0) n G a H) (G0 : jT) (H0 : Heap) (r0 : Nat) (a1 : Int32) (n0 : Nat) (fq : Nat → Option Nat) (LC LS : Nat) : Met l yJ7_copyOf_1904c (jw yJ7_copyOf_1904c cJ7_copyOf_1904c 2 (some (.array (.object "java/lang/Object")))) ({ frames := 2, cells := LC - H0.size, slots := LS - jTot H0, locals := 84 }) (va_Pc [.ref r0, .int a1] (fun U => U.heap = H0 ∧ jX B base G0 [] H0 ∧ jG dC dI ca base U ∧ jK7 dC dI ca base U ∧ G0 r0 = some (221, n0) ∧ jP (dC, dI) G0 H0 [] ∧ jIs (dC, dI) G0 H0 [([(221, 0)], jQc dC dI (ca 9) r0 n0 fq)] ∧ H0.size + 1 ≤ LC ∧ jTot H0 + a1.toInt.toNat ≤ LS ∧ n0 ≤ 40 ∧ n0 ≤ a1.toInt ∧ a1.toInt ≤ 40)) (jQx (S := Nat × Nat × jT) (fun v u => v = .ref u.1 ∧ jRf u.2.2 221 u.2.1 v ∧ jNwv v H0 ∧ u.2.1 = a1.toInt) (fun u t => jRa (dC, dI) B base G0 u.2.2 EJ7_copyOf_1904cL1 H0 (1) (u.2.1) [] t.heap ∧ (jNk [0, 1, 2, 3, 4, 5, 6, 7, 8, 9, 10, 11, 12, 13, 14, 15, 16]) G0 u.2.2 ∧ (∃ f : Nat → Option Nat, jQc dC dI (ca 9) u.1 u.2.1 f t.heap ∧ (∀ j, j < n0 → f j = fq j)) ∧ jKe G0 u.2.2 H0 t.heap) (jA base)) (LC - H0.size) (LS - jTot H0) (jA base) := by
  refine Met.ofW (cc := cJ7_copyOf_1904c) (maxL := 2) (ret := (some (.array (.object "java/lang/Object")))) (by decide) rfl ?_
  intro p e s m args below meth c s₁ Bd hml hv
  obtain ⟨rfl, hH0, hX, hG, hK7, hg_r0, hP0, hI0, hLC0, hLS0, hp0, hp1, hp2⟩ := hv
  have hK := hG.1
  have hx := Bd.exec
  have hb := Bd.bytes
  have hr := Bd.returns
  have hts := atoms_spec (ws := (jw yJ7_copyOf_1904c cJ7_copyOf_1904c 2 (some (.array (.object "java/lang/Object"))))) Bd.pre
  have htw : ∀ w ∈ jWl, w.before _ s = true := fun w h => hts w (List.mem_cons_of_mem _ h)
  have hown : s.vm.findClass RJ7 = some m.cls := findClass_of_methodNamed Bd.named
  have hlocks := Bd.notSynchronized
  obtain ⟨Q, hQ⟩ : ∃ Q, Q = MQ below (jQx (S := Nat × Nat × jT) (fun v u => v = .ref u.1 ∧ jRf u.2.2 221 u.2.1 v ∧ jNwv v H0 ∧ u.2.1 = a1.toInt) (fun u t => jRa (dC, dI) B base G0 u.2.2 EJ7_copyOf_1904cL1 H0 (1) (u.2.1) [] t.heap ∧ (jNk [0, 1, 2, 3, 4, 5, 6, 7, 8, 9, 10, 11, 12, 13, 14, 15, 16]) G0 u.2.2 ∧ (∃ f : Nat → Option Nat, jQc dC dI (ca 9) u.1 u.2.1 f t.heap ∧ (∀ j, j < n0 → f j = fq j)) ∧ jKe G0 u.2.2 H0 t.heap) (jA base)) ([.ref r0, .int a1] : List Value).toArray s (LC - H0.size) (LS - jTot H0) (jA base) := ⟨_, rfl⟩
  rw [← hQ]
  have hl := lv_entry ([.ref r0, .int a1]) (n := 2) (Nat.le_of_ble_eq_true rfl)
  rw [lg_entry_eq]
  generalize (lg_sl ([.ref r0, .int a1]) ++ List.replicate (2 - (lg_sl ([.ref r0, .int a1])).length) Slot.unset).toArray = ls at hl ⊢
  have hl : lv_has ls 2 [(0, .ref r0), (1, .int a1)] := hl
  generalize hR : (headSpec (jw yJ7_copyOf_1904c cJ7_copyOf_1904c 2 (some (.array (.object "java/lang/Object")))) ({ frames := 2, cells := LC - H0.size, slots := LS - jTot H0, locals := 84 })).room = R
  subst hH0
  have hh : jSt (dC, dI) B base G0 G0 EJ7_copyOf_1904cL1 s.heap 0 0 [] [] [([(221, 0)], jQc dC dI (ca 9) r0 n0 fq)] s.heap [] := jSt.start hX hP0 jMc.nil hI0
  clear hX hP0
  have hk0 : (0 : Int32).toInt = 0 := by decide
  have hk1 : (1 : Int32).toInt = 1 := by decide
  have hrg_a1 := jb_rng a1
  have hbs : base ≤ s.heap.size := Nat.le_of_lt (Nat.lt_of_le_of_lt (hh.ab hg_r0).1 (hh.ab hg_r0).2)
  have hRc : R.cells = LC - s.heap.size := by rw [← hR]; rfl
  have hRs : R.slots = LS - jTot s.heap := by rw [← hR]; rfl
  have hkp : jKe G0 G0 s.heap s.heap := jKe.rf
  refine lv_aload_n hx hb dJ7_copyOf_1904c_0 rfl (lv_at hl 0 rfl) ?_
  refine lv_iload_n hx hb dJ7_copyOf_1904c_1 rfl (lv_at hl 1 rfl) ?_
  refine lv_aload_n hx hb dJ7_copyOf_1904c_2 rfl (lv_at hl 0 rfl) ?_
  refine j7_getC hx hb (by rw [hml]; exact hl.1.symm) hown (htw (.methodLink RJ7 86 ⟨"java/lang/Object", "getClass", "()Ljava/lang/Class;"⟩) (jWr_34 _ (List.mem_of_getElem? (i := 15) rfl))) (htw (.selects "[Ljava/lang/Object;" ⟨"java/lang/Object", "getClass", "()Ljava/lang/Class;"⟩ ⟨"java/lang/Object", "getClass", "()Ljava/lang/Class;"⟩) (jWr_34 _ (List.mem_of_getElem? (i := 16) rfl))) (htw (.instanceMethod ⟨"java/lang/Object", "getClass", "()Ljava/lang/Class;"⟩) (jWr_34 _ (List.mem_of_getElem? (i := 17) rfl))) (htw (.native ⟨"java/lang/Object", "getClass", "()Ljava/lang/Class;"⟩) (jWr_34 _ (List.mem_of_getElem? (i := 18) rfl))) hK7 hh hB221 (by decide) hg_r0 (by rw [← hR]; exact Nat.le_of_ble_eq_true rfl) (by rw [← hR]; exact Nat.le_of_ble_eq_true rfl) dJ7_copyOf_1904c_3 ?_
  have hsz_1 := hh.2.2.2.2.2.1
  have htt_1 := hh.2.2.2.2.2.2.1
  refine W.room (fun hrc_1 hrs_1 => ?_)
  refine j_callx (A0 := jA base) (H0 := s.heap) (va_runS (As := [.ref r0, .int a1, .ref (dI 99 1)]) (rest := []) ⟨hx, hb, hml, hown, hts⟩ (uJ7_copyOf_6403cL1 l dC dI ca base B hB hAp hB3 hB221 G0 s.heap r0 a1 n0 fq LC LS) (va_cwS 3 hts (jgS (jWr_34 _ (List.mem_of_getElem? (i := 19) rfl)) (jWr_34 _ (List.mem_of_getElem? (i := 20) rfl)) (jWr_16 _ (List.mem_of_getElem? (i := 7) rfl)) (jWr_34 _ (List.mem_of_getElem? (i := 21) rfl))) rfl rfl rfl (by decide +kernel) ⟨by rw [← hR]; exact Nat.le_of_ble_eq_true rfl, by rw [← hR]; exact Nat.le_of_ble_eq_true rfl⟩) ⟨fun a U g mk q => by obtain ⟨q0, q1, q2, qK, q10, q11, q12, q13, q14⟩ := q; exact ⟨q0, q1, q2, jG.calling g mk a qK, (jK7.calling g mk a q10), q11, q12, q13, q14⟩, fun U hU hW => ⟨rfl, hU, hh.2.1, hG.step hW hU hh.1, (hK7.step hW hU hh.1), hg_r0, jP.nil, (hh.2.2.2.2.2.2.2.2.sub (L1 := [([(221, 0)], jQc dC dI (ca 9) r0 n0 fq)]) [0] rfl), by first | omega | (refine ⟨?_, ?_, ?_⟩ <;> (first | omega | rfl | assumption | decide | exact Or.inl rfl | exact Or.inr rfl | (simp only; omega)))⟩⟩ rfl rfl hl.1 rfl (lv_room (Nat.le_of_ble_eq_true rfl)) dJ7_copyOf_1904c_6 ⟨by rw [hRc]; omega, by rw [hRs]; omega⟩) hh.1 (fun q _ h => h) (fun q h => h) (fun r_2 u_1 t_1 H_1 locs_1 ht_1 hvm_1 hr_2 hb_1 hz_1 hk_1 hS_1 => ?_)
  rw [ht_1] at hb_1
  obtain ⟨x_ret_1, m_ret_1, G_1⟩ := u_1
  simp only at hb_1
  obtain ⟨⟨hb_11, hb_12, hb_13, hb_14, hb_15, hb_16⟩, hN_1, hbQ_1, hbK_1⟩ := hb_1
  have hh_1 : jSt (dC, dI) B base G0 G_1 EJ7_copyOf_1904cL1 s.heap (0 + (1)) (0 + (m_ret_1)) [] [] [([(221, 0)], jQc dC dI (ca 9) r0 n0 fq)] H_1 locs_1 := (hh.callG hb_11 hb_12 hb_13 hb_14 hb_15 hS_1 rfl (L1 := []) [] rfl rfl (M1 := []) [] rfl rfl (I1 := [([(221, 0)], jQc dC dI (ca 9) r0 n0 fq)]) [0] rfl rfl).more hb_16
  have hNn_1 : (jNk [0, 1, 2, 3, 4, 5, 6, 7, 8, 9, 10, 11, 12, 13, 14, 15, 16]) G0 G_1 := (jNk.rf).tr hN_1
  have hg_3 := hb_12 _ _ hg_r0
  obtain ⟨rfl, hr_2, hr_2n, hr_2p⟩ := hr_2
  try simp only at hr_2p
  have hkp_5 := hkp.tr hbK_1
  have hgr_1 : G_1 x_ret_1 = some (221, m_ret_1) := by obtain ⟨y9, e9, h9⟩ := hr_2; cases e9; exact h9
  have hsy_1 : s.heap.size ≤ x_ret_1 := Nat.le_trans hh.1.1 hr_2n.le
  obtain ⟨fr_1, hqa_1, hqr_1⟩ := hbQ_1
  have hh_6 := hh_1.addI (jQc.ie hqa_1 hgr_1 (by decide) (by decide))
  clear hh_1
  have hsz_7 := hh_6.2.2.2.2.2.1
  have htt_7 := hh_6.2.2.2.2.2.2.1
  refine W.room (fun hrc_7 hrs_7 => ?_)
  refine W.widen (k := LC - s.heap.size) (n := LS - jTot s.heap) (by omega) (by omega) ?_
  rw [hQ]
  exact W.aret (v := .ref x_ret_1) hx hb hr (Or.inr ⟨_, rfl⟩) (Or.inr ⟨_, rfl⟩) (fun t ht hW => ⟨⟨.ref x_ret_1, (x_ret_1, m_ret_1, G_1), rfl, ⟨rfl, ⟨_, rfl, hgr_1⟩, ⟨_, rfl, hsy_1⟩, by (try dsimp only); first | omega | rfl | assumption | fail⟩, ⟨hh_6.ra (by first | omega | (simp only; omega)) (by first | omega | (simp only; omega)) (M1 := []) [] rfl ht, hNn_1, ⟨_, by rw [ht]; exact hh_6.iv 0 rfl, hqr_1⟩, by rw [ht]; exact hkp_5⟩⟩, by rw [ht]; try exact hh_6.1.1, fun q h9 hq => by rw [ht]; try exact hh_6.1.2.1 q h9 hq⟩) hh_6.1.2.2 dJ7_copyOf_1904c_9
set_option maxHeartbeats 4000000 in
set_option maxRecDepth 20000 in
theorem uJx4a65c_grow_92f84E1 (l : Launch) (dC : Nat → ClassId) (dI : Nat → Nat → Nat) (ca : Nat → ClassId) (base : Nat) (B : jF) (hB : jBok B) (hAp : jAp (dC, dI)) (hB1 : ∀ n G a H, B 1 n G a H ↔ jOb (dC, dI) 1 3 (F1 n G) a H) (hB3 : ∀ n G a H, B 3 n G a H ↔ jOb (dC, dI) 3 17 (F3 n G) a H) (hB221 : ∀ n G a H, B 221 n G a H ↔ jAq (dC, dI) (ca 9) (jQn 3 0) n G a H) (G0 : jT) (H0 : Heap) (r0 : Nat) (a1 : Int32) (lz : Int32) (wl : jWl9) (LC LS : Nat) : Met l yJx4a65c_grow_92f84 (jw yJx4a65c_grow_92f84 cJx4a65c_grow_92f84 4 (some (.array (.object "java/lang/Object")))) ({ frames := 3, cells := LC - H0.size, slots := LS - jTot H0, locals := 105 }) (va_Pc [.ref r0, .int a1] (fun U => U.heap = H0 ∧ jX B base G0 [] H0 ∧ jG dC dI ca base U ∧ jK7 dC dI ca base U ∧ G0 r0 = some (1, 1) ∧ jP (dC, dI) G0 H0 [(r0, 1, 1, .ref (dI 99 0)), (r0, 1, 2, .int lz)] ∧ jIs (dC, dI) G0 H0 [(jFl, jLs dC dI ca G0 3 none wl)] ∧ H0.size + 1 ≤ LC ∧ jTot H0 + 40 ≤ LS ∧ a1.toInt = 1 ∧ lz.toInt = 0)) (jQx (S := Nat × Nat × jT) (fun v u => v = .ref u.1 ∧ u.2.1 = 10) (fun u t => jRa (dC, dI) B base G0 u.2.2 EJx4a65c_grow_92f84E1 H0 (1) (40) [(r0, 1, 1, .ref u.1)] t.heap ∧ u.2.2 u.1 = some (221, u.2.1) ∧ (jNk [0, 1, 2, 3, 4, 5, 6, 7, 8, 9, 10, 11, 12, 13, 14, 15, 16]) G0 u.2.2 ∧ jIs (dC, dI) u.2.2 t.heap [(jFl, jLs dC dI ca u.2.2 3 none wl)]) (jA base)) (LC - H0.size) (LS - jTot H0) (jA base) := by
  refine Met.ofW (cc := cJx4a65c_grow_92f84) (maxL := 4) (ret := (some (.array (.object "java/lang/Object")))) (by decide) rfl ?_
  intro p e s m args below meth c s₁ Bd hml hv
  obtain ⟨rfl, hH0, hX, hG, hK7, hg_r0, hP0, hI0, hLC0, hLS0, hp0, hp1⟩ := hv
  have hK := hG.1
  have hx := Bd.exec
  have hb := Bd.bytes
  have hr := Bd.returns
  have hts := atoms_spec (ws := (jw yJx4a65c_grow_92f84 cJx4a65c_grow_92f84 4 (some (.array (.object "java/lang/Object"))))) Bd.pre
  have htw : ∀ w ∈ jWl, w.before _ s = true := fun w h => hts w (List.mem_cons_of_mem _ h)
  have hown : s.vm.findClass RJx4a65c = some m.cls := findClass_of_methodNamed Bd.named
  have hlocks := Bd.notSynchronized
  obtain ⟨Q, hQ⟩ : ∃ Q, Q = MQ below (jQx (S := Nat × Nat × jT) (fun v u => v = .ref u.1 ∧ u.2.1 = 10) (fun u t => jRa (dC, dI) B base G0 u.2.2 EJx4a65c_grow_92f84E1 H0 (1) (40) [(r0, 1, 1, .ref u.1)] t.heap ∧ u.2.2 u.1 = some (221, u.2.1) ∧ (jNk [0, 1, 2, 3, 4, 5, 6, 7, 8, 9, 10, 11, 12, 13, 14, 15, 16]) G0 u.2.2 ∧ jIs (dC, dI) u.2.2 t.heap [(jFl, jLs dC dI ca u.2.2 3 none wl)]) (jA base)) ([.ref r0, .int a1] : List Value).toArray s (LC - H0.size) (LS - jTot H0) (jA base) := ⟨_, rfl⟩
  rw [← hQ]
  have hl := lv_entry ([.ref r0, .int a1]) (n := 4) (Nat.le_of_ble_eq_true rfl)
  rw [lg_entry_eq]
  generalize (lg_sl ([.ref r0, .int a1]) ++ List.replicate (4 - (lg_sl ([.ref r0, .int a1])).length) Slot.unset).toArray = ls at hl ⊢
  have hl : lv_has ls 4 [(0, .ref r0), (1, .int a1)] := hl
  generalize hR : (headSpec (jw yJx4a65c_grow_92f84 cJx4a65c_grow_92f84 4 (some (.array (.object "java/lang/Object")))) ({ frames := 3, cells := LC - H0.size, slots := LS - jTot H0, locals := 105 })).room = R
  subst hH0
  have hh : jSt (dC, dI) B base G0 G0 EJx4a65c_grow_92f84E1 s.heap 0 0 [(r0, 1, 1, .ref (dI 99 0)), (r0, 1, 2, .int lz)] [] [(jFl, jLs dC dI ca G0 3 none wl)] s.heap [] := jSt.start hX hP0 jMc.nil hI0
  clear hX hP0
  have hk0 : (0 : Int32).toInt = 0 := by decide
  have hk1 : (1 : Int32).toInt = 1 := by decide
  have hk10 : (10 : Int32).toInt = 10 := by decide
  have hly_1_1 := htw (u_lay RJx4a65c TJx4a65c 1) (jWc_wsJx4a65c0 _ (u_in_lay (by decide)))
  have hlk_9 := (htw (.fieldLink RJx4a65c 9 "java/util/ArrayList" "elementData" "[Ljava/lang/Object;") (jWr_9 _ (List.mem_of_getElem? (i := 15) rfl)))
  have hrg_a1 := jb_rng a1
  have hbs : base ≤ s.heap.size := Nat.le_of_lt (Nat.lt_of_le_of_lt (hh.ab hg_r0).1 (hh.ab hg_r0).2)
  have hRc : R.cells = LC - s.heap.size := by rw [← hR]; rfl
  have hRs : R.slots = LS - jTot s.heap := by rw [← hR]; rfl
  obtain ⟨lz_1, lx_1, hl1_1, hl2_1, hl3_1, hl4_1⟩ := jLs.at (hh.iv 0 rfl) hg_r0
  obtain rfl : lz = lz_1 := Value.int.inj (jf.uniq (hh.at 1 rfl) hl1_1)
  have hl3_1 : 0 ≤ lz.toInt ∧ lz.toInt ≤ 3 := hl3_1
  obtain rfl : (dI 99 0) = lx_1 := Value.ref.inj (jf.uniq (hh.at 0 rfl) hl2_1)
  rcases hl4_1 with ⟨hl9_1, hl5_1, hl0_1⟩ | ⟨lm_1, lf_1, hg_lx_1, hlm_1, hl6_1, hl7_1, hl8_1, hlw_1⟩
  · skip
    have hd_2 := jLs.less (hh.iv 0 rfl) r0
    have hh_3 := hh.sub (L1 := [(r0, 1, 1, .ref (dI 99 0)), (r0, 1, 2, .int lz)]) [0, 1] rfl (M1 := []) [] rfl (I1 := []) [] rfl
    clear hh
    have hh_4 := hh_3.addI (jLs.ie hd_2)
    clear hh_3
    refine lv_aload_n hx hb dJx4a65c_grow_92f84_0 rfl (lv_at hl 0 rfl) ?_
    refine j7_read hx hb hown hK (C := RJx4a65c) (T := TJx4a65c) (N := 3) rfl hly_1_1 hlk_9 (hh_4.at 0 rfl) dJx4a65c_grow_92f84_1 ?_
    refine va_tlen hx hb hK7.2.2.2.2.2.2.2 hh_4.1 (v := Int32.ofNat 0) rfl dJx4a65c_grow_92f84_4 ?_
    refine lv_topi (fun z_5 ez_5 => ?_)
    have hz_5 : z_5.toInt = 0 := by rw [ez_5]; rfl
    refine lv_istore_n (lv' := [(2, .int z_5), (0, .ref r0), (1, .int a1)]) hx hb dJx4a65c_grow_92f84_5 rfl hl (by decide) rfl (fun ls hl => ?_)
    refine lv_iload_n hx hb dJx4a65c_grow_92f84_6 rfl (lv_at hl 0 rfl) ?_
    refine lv_if_gt (tgt := 20) hx hb dJx4a65c_grow_92f84_7 (by decide) (fun c_6 => ?_) (fun c_6 => ?_)
    · skip
      have c_6' : z_5.toInt > 0 := jb_gt (rfl) ((by decide)) c_6
      exact absurd c_6' (by omega)
    · skip
      have c_6' : z_5.toInt ≤ 0 := jb_gt_n (rfl) ((by decide)) c_6
      refine lv_aload_n hx hb dJx4a65c_grow_92f84_10 rfl (lv_at hl 1 rfl) ?_
      refine j7_read hx hb hown hK (C := RJx4a65c) (T := TJx4a65c) (N := 3) rfl hly_1_1 hlk_9 (hh_4.at 0 rfl) dJx4a65c_grow_92f84_11 ?_
      refine va_gets hx hb hK7.2.2.2.2.2.2.1 hh_4.1 hown (htw (.fieldLink RJx4a65c 39 "java/util/ArrayList" "DEFAULTCAPACITY_EMPTY_ELEMENTDATA" "[Ljava/lang/Object;") (jWr_9 _ (List.mem_of_getElem? (i := 14) rfl))) (fun _ h9 => h9) dJx4a65c_grow_92f84_14 ?_
      refine lv_acmp_eq (rx := (some (dI 99 0))) (ry := (some (dI 99 0))) (tgt := 45) hx hb dJx4a65c_grow_92f84_17 (by decide) (fun c_8 => ?_) (fun c_8 => ?_)
      · skip
        refine lv_aload_n hx hb dJx4a65c_grow_92f84_45 rfl (lv_at hl 1 rfl) ?_
        refine lv_bipush (v := 10) hx hb dJx4a65c_grow_92f84_46 (by decide) ?_
        refine lv_iload_n hx hb dJx4a65c_grow_92f84_48 rfl (lv_at hl 2 rfl) ?_
        have hsz_9 := hh_4.2.2.2.2.2.1
        have htt_9 := hh_4.2.2.2.2.2.2.1
        refine W.room (fun hrc_9 hrs_9 => ?_)
        refine va_mmax hx hb (by rw [hml]; exact hl.1.symm) hown (htw (.methodLink RJx4a65c 79 Lib.Math.max.name) (jWr_34 _ (List.mem_of_getElem? (i := 1) rfl))) (htw (.static Lib.Math.max.name) (jWr_3 _ (List.mem_of_getElem? (i := 6) rfl))) (htw (.initialized "java/lang/Math") (jWr_3 _ (List.mem_of_getElem? (i := 7) rfl))) (htw (.code Lib.Math.max.name Lib.Math.max.code 2 (some .int)) (jWr_3 _ (List.mem_of_getElem? (i := 8) rfl))) (by rw [← hR]; exact Nat.le_of_ble_eq_true rfl) (by rw [← hR]; exact Nat.le_of_ble_eq_true rfl) (by rw [hRc]; omega) (by rw [hRs]; omega) dJx4a65c_grow_92f84_49 ?_
        refine lv_topi (fun z_10 ez_10 => ?_)
        have hz_10 := jb_max ez_10
        have hsz_11 := hh_4.2.2.2.2.2.1
        have htt_11 := hh_4.2.2.2.2.2.2.1
        have hsy_11 : s.heap.size ≤ s.heap.size := hh_4.1.1
        refine j7_newqK hx hb hown (htw (.classLink RJx4a65c 7 "java/lang/Object") (jWr_34 _ (List.mem_of_getElem? (i := 2) rfl))) hK7.2.1 hK7.1 hh_4 hB hB221 0 rfl (by decide) hbs (x := z_10.toInt) rfl (by omega) (fun _ => Or.inl rfl) (by rw [hRc]; omega) (by rw [hRs]; omega) dJx4a65c_grow_92f84_52 (fun H_11 hfr_11 hh_11 hqn_11 => ?_)
        have hh_11 : jSt (dC, dI) B base G0 (va_up G0 s.heap.size (some (221, (z_10.toInt).toNat))) EJx4a65c_grow_92f84E1 s.heap (0 + 1) (0 + (z_10.toInt).toNat) [(r0, 1, 1, .ref (dI 99 0)), (r0, 1, 2, .int lz)] [] [(jFl, jLs dC dI ca G0 3 (some r0) wl)] H_11 [] := hh_11
        have hN_11 : (jNk [0, 1, 2, 3, 4, 5, 6, 7, 8, 9, 10, 11, 12, 13, 14, 15, 16]) G0 (va_up G0 s.heap.size (some (221, (z_10.toInt).toNat))) := jNk.new (by decide)
        have hgn_11 : (va_up G0 s.heap.size (some (221, (z_10.toInt).toNat))) s.heap.size = some (221, (z_10.toInt).toNat) := jUp_self
        have hle_11 : jLe G0 (va_up G0 s.heap.size (some (221, (z_10.toInt).toNat))) := jLe.new hh_4.2.1.fresh
        have hke_11 : jKe G0 (va_up G0 s.heap.size (some (221, (z_10.toInt).toNat))) s.heap H_11 := jKe.new hfr_11
        have hsy_11 : s.heap.size ≤ s.heap.size := hh_4.1.1
        generalize (va_up G0 s.heap.size (some (221, (z_10.toInt).toNat))) = G_11 at hN_11 hgn_11 hle_11 hke_11 hh_11
        generalize hnc_11 : (z_10.toInt).toNat = nc_11 at hgn_11 hh_11 ⊢
        clear hh_4
        have hNn_11 : (jNk [0, 1, 2, 3, 4, 5, 6, 7, 8, 9, 10, 11, 12, 13, 14, 15, 16]) G0 G_11 := (jNk.rf).tr hN_11
        have hg_12 := hle_11 _ _ hg_r0
        have hd_13 := jLs.grow (hh_11.iv 0 rfl) hle_11 hN_11 (by decide)
        have hh_14 := hh_11.sub (L1 := [(r0, 1, 1, .ref (dI 99 0)), (r0, 1, 2, .int lz)]) [0, 1] rfl (M1 := []) [] rfl (I1 := []) [] rfl
        clear hh_11
        have hh_15 := hh_14.addI (jLs.ie hd_13)
        clear hh_14
        refine lv_dup_x1 hx hb dJx4a65c_grow_92f84_55 rfl rfl ?_
        have hd_17 := hh_15.iv 0 rfl
        have hh_18 := hh_15.sub (L1 := [(r0, 1, 1, .ref (dI 99 0)), (r0, 1, 2, .int lz)]) [0, 1] rfl (M1 := []) [] rfl (I1 := []) [] rfl
        clear hh_15
        refine j7_putX hx hb hown hK hh_18 hB hAp hB1 (C := RJx4a65c) (T := TJx4a65c) (N := 3) rfl (by decide) hg_12 (i := 1) (by decide) hly_1_1 rfl hlk_9 rfl (ty := (.array (.object "java/lang/Object"))) (v := .ref s.heap.size) (by decide +kernel) rfl rfl (⟨_, rfl⟩) rfl (L1 := [(r0, 1, 2, .int lz)]) [1] rfl rfl rfl dJx4a65c_grow_92f84_56 (fun H_16 locs_16 hr_16 hh_16 => ?_)
        clear hh_18
        have hd_17n := jLs.fld hd_17 hg_12 hr_16
        have hh_19 := hh_16.addI (jLs.ie hd_17n)
        clear hh_16
        clear hd_17 hd_17n hr_16
        obtain ⟨fq_21, hfq_21a, hfq_21p⟩ := hh_19.aq hB221 (by decide) hgn_11
        have hd_20 := jLs.full (wn := wl) (hh_19.iv 0 rfl) hg_12 ⟨_, _, hh_19.at 1 rfl, hh_19.at 0 rfl, ⟨by omega, (show _ ≤ (3 : Int) by omega)⟩, Or.inr ⟨_, _, hgn_11, by omega, by omega, hfq_21a, (fun i h9 => absurd h9 (by omega)), (fun q => ⟨by have h8 := hl0_1 q; omega, fun i h9 => absurd h9 (by omega)⟩)⟩⟩ (fun q => absurd rfl q)
        have hh_22 := hh_19.sub (L1 := [(r0, 1, 1, .ref s.heap.size), (r0, 1, 2, .int lz)]) [0, 1] rfl (M1 := []) [] rfl (I1 := []) [] rfl
        clear hh_19
        have hh_23 := hh_22.addI (jLs.ie hd_20)
        clear hh_22
        have hsz_24 := hh_23.2.2.2.2.2.1
        have htt_24 := hh_23.2.2.2.2.2.2.1
        refine W.room (fun hrc_24 hrs_24 => ?_)
        refine W.widen (k := LC - s.heap.size) (n := LS - jTot s.heap) (by omega) (by omega) ?_
        rw [hQ]
        exact W.aret (v := .ref s.heap.size) hx hb hr (Or.inr ⟨_, rfl⟩) (Or.inr ⟨_, rfl⟩) (fun t ht hW => ⟨⟨.ref s.heap.size, (s.heap.size, nc_11, G_11), rfl, ⟨rfl, by (try dsimp only); first | omega | rfl | assumption | fail⟩, ⟨hh_23.ra (by first | (simp only; omega) | omega) (by first | (simp only; omega) | omega) (M1 := [(r0, 1, 1, .ref s.heap.size)]) [0] rfl ht, hgn_11, hNn_11, by rw [ht]; exact hh_23.2.2.2.2.2.2.2.2.sub (L1 := [(jFl, jLs dC dI ca G_11 3 none wl)]) [0] rfl⟩⟩, by rw [ht]; try exact hh_23.1.1, fun q h9 hq => by rw [ht]; try exact hh_23.1.2.1 q h9 hq⟩) hh_23.1.2.2 dJx4a65c_grow_92f84_59
      · skip
        exact absurd rfl c_8
  · skip
    exact absurd (hh.ab hg_lx_1).1 (va_T.out hK7.2.2.2.2.2.2.2)
set_option maxHeartbeats 4000000 in
set_option maxRecDepth 20000 in
theorem uJx4a65c_grow_92f84L1 (l : Launch) (dC : Nat → ClassId) (dI : Nat → Nat → Nat) (ca : Nat → ClassId) (base : Nat) (B : jF) (hB : jBok B) (hAp : jAp (dC, dI)) (hB1 : ∀ n G a H, B 1 n G a H ↔ jOb (dC, dI) 1 3 (F1 n G) a H) (hB3 : ∀ n G a H, B 3 n G a H ↔ jOb (dC, dI) 3 17 (F3 n G) a H) (hB221 : ∀ n G a H, B 221 n G a H ↔ jAq (dC, dI) (ca 9) (jQn 3 0) n G a H) (G0 : jT) (H0 : Heap) (r0 : Nat) (a1 : Int32) (ed : Nat) (n_ed : Nat) (lz : Int32) (wl : jWl9) (LC LS : Nat) : Met l yJx4a65c_grow_92f84 (jw yJx4a65c_grow_92f84 cJx4a65c_grow_92f84 4 (some (.array (.object "java/lang/Object")))) ({ frames := 3, cells := LC - H0.size, slots := LS - jTot H0, locals := 105 }) (va_Pc [.ref r0, .int a1] (fun U => U.heap = H0 ∧ jX B base G0 [] H0 ∧ jG dC dI ca base U ∧ jK7 dC dI ca base U ∧ G0 r0 = some (1, 1) ∧ G0 ed = some (221, n_ed) ∧ jP (dC, dI) G0 H0 [(r0, 1, 1, .ref ed), (r0, 1, 2, .int lz)] ∧ jIs (dC, dI) G0 H0 [(jFl, jLs dC dI ca G0 3 none wl)] ∧ H0.size + 1 ≤ LC ∧ jTot H0 + 40 ≤ LS ∧ a1.toInt = lz.toInt + 1 ∧ lz.toInt = n_ed ∧ lz.toInt ≤ 24)) (jQx (S := Nat × Nat × jT) (fun v u => v = .ref u.1 ∧ lz.toInt + 1 ≤ u.2.1 ∧ u.2.1 ≤ 40) (fun u t => jRa (dC, dI) B base G0 u.2.2 EJx4a65c_grow_92f84L1 H0 (1) (40) [(r0, 1, 1, .ref u.1)] t.heap ∧ u.2.2 u.1 = some (221, u.2.1) ∧ (jNk [0, 1, 2, 3, 4, 5, 6, 7, 8, 9, 10, 11, 12, 13, 14, 15, 16]) G0 u.2.2 ∧ jIs (dC, dI) u.2.2 t.heap [(jFl, jLs dC dI ca u.2.2 3 none wl)]) (jA base)) (LC - H0.size) (LS - jTot H0) (jA base) := by
  refine Met.ofW (cc := cJx4a65c_grow_92f84) (maxL := 4) (ret := (some (.array (.object "java/lang/Object")))) (by decide) rfl ?_
  intro p e s m args below meth c s₁ Bd hml hv
  obtain ⟨rfl, hH0, hX, hG, hK7, hg_r0, hg_ed, hP0, hI0, hLC0, hLS0, hp0, hp1, hp2⟩ := hv
  have hK := hG.1
  have hx := Bd.exec
  have hb := Bd.bytes
  have hr := Bd.returns
  have hts := atoms_spec (ws := (jw yJx4a65c_grow_92f84 cJx4a65c_grow_92f84 4 (some (.array (.object "java/lang/Object"))))) Bd.pre
  have htw : ∀ w ∈ jWl, w.before _ s = true := fun w h => hts w (List.mem_cons_of_mem _ h)
  have hown : s.vm.findClass RJx4a65c = some m.cls := findClass_of_methodNamed Bd.named
  have hlocks := Bd.notSynchronized
  obtain ⟨Q, hQ⟩ : ∃ Q, Q = MQ below (jQx (S := Nat × Nat × jT) (fun v u => v = .ref u.1 ∧ lz.toInt + 1 ≤ u.2.1 ∧ u.2.1 ≤ 40) (fun u t => jRa (dC, dI) B base G0 u.2.2 EJx4a65c_grow_92f84L1 H0 (1) (40) [(r0, 1, 1, .ref u.1)] t.heap ∧ u.2.2 u.1 = some (221, u.2.1) ∧ (jNk [0, 1, 2, 3, 4, 5, 6, 7, 8, 9, 10, 11, 12, 13, 14, 15, 16]) G0 u.2.2 ∧ jIs (dC, dI) u.2.2 t.heap [(jFl, jLs dC dI ca u.2.2 3 none wl)]) (jA base)) ([.ref r0, .int a1] : List Value).toArray s (LC - H0.size) (LS - jTot H0) (jA base) := ⟨_, rfl⟩
  rw [← hQ]
  have hl := lv_entry ([.ref r0, .int a1]) (n := 4) (Nat.le_of_ble_eq_true rfl)
  rw [lg_entry_eq]
  generalize (lg_sl ([.ref r0, .int a1]) ++ List.replicate (4 - (lg_sl ([.ref r0, .int a1])).length) Slot.unset).toArray = ls at hl ⊢
  have hl : lv_has ls 4 [(0, .ref r0), (1, .int a1)] := hl
  generalize hR : (headSpec (jw yJx4a65c_grow_92f84 cJx4a65c_grow_92f84 4 (some (.array (.object "java/lang/Object")))) ({ frames := 3, cells := LC - H0.size, slots := LS - jTot H0, locals := 105 })).room = R
  subst hH0
  have hh : jSt (dC, dI) B base G0 G0 EJx4a65c_grow_92f84L1 s.heap 0 0 [(r0, 1, 1, .ref ed), (r0, 1, 2, .int lz)] [] [(jFl, jLs dC dI ca G0 3 none wl)] s.heap [] := jSt.start hX hP0 jMc.nil hI0
  clear hX hP0
  have hk0 : (0 : Int32).toInt = 0 := by decide
  have hk1 : (1 : Int32).toInt = 1 := by decide
  have hk10 : (10 : Int32).toInt = 10 := by decide
  have hly_1_1 := htw (u_lay RJx4a65c TJx4a65c 1) (jWc_wsJx4a65c0 _ (u_in_lay (by decide)))
  have hlk_9 := (htw (.fieldLink RJx4a65c 9 "java/util/ArrayList" "elementData" "[Ljava/lang/Object;") (jWr_9 _ (List.mem_of_getElem? (i := 15) rfl)))
  have hrg_a1 := jb_rng a1
  have hbs : base ≤ s.heap.size := Nat.le_of_lt (Nat.lt_of_le_of_lt (hh.ab hg_r0).1 (hh.ab hg_r0).2)
  have hRc : R.cells = LC - s.heap.size := by rw [← hR]; rfl
  have hRs : R.slots = LS - jTot s.heap := by rw [← hR]; rfl
  obtain ⟨lz_1, lx_1, hl1_1, hl2_1, hl3_1, hl4_1⟩ := jLs.at (hh.iv 0 rfl) hg_r0
  obtain rfl : lz = lz_1 := Value.int.inj (jf.uniq (hh.at 1 rfl) hl1_1)
  have hl3_1 : 0 ≤ lz.toInt ∧ lz.toInt ≤ 3 := hl3_1
  obtain rfl : ed = lx_1 := Value.ref.inj (jf.uniq (hh.at 0 rfl) hl2_1)
  rcases hl4_1 with ⟨hl9_1, hl5_1, hl0_1⟩ | ⟨lm_1, lf_1, hg_lx_1, hlm_1, hl6_1, hl7_1, hl8_1, hlw_1⟩
  · skip
    exact absurd (show base ≤ dI 99 0 by rw [← hl9_1]; exact (hh.ab hg_ed).1) (va_T.out hK7.2.2.2.2.2.2.2)
  · skip
    obtain rfl : n_ed = lm_1 := by have h9 := Option.some.inj (hg_ed.symm.trans hg_lx_1); exact congrArg Prod.snd h9
    have hd_2 := jLs.less (hh.iv 0 rfl) r0
    have hh_3 := hh.sub (L1 := [(r0, 1, 1, .ref ed), (r0, 1, 2, .int lz)]) [0, 1] rfl (M1 := []) [] rfl (I1 := []) [] rfl
    clear hh
    have hh_4 := hh_3.addI (jLs.ie hd_2)
    clear hh_3
    have hh_5 := hh_4.addI (jQc.ie hl7_1 hg_lx_1 (by decide) (by decide))
    clear hh_4
    refine lv_aload_n hx hb dJx4a65c_grow_92f84_0 rfl (lv_at hl 0 rfl) ?_
    refine j7_read hx hb hown hK (C := RJx4a65c) (T := TJx4a65c) (N := 3) rfl hly_1_1 hlk_9 (hh_5.at 0 rfl) dJx4a65c_grow_92f84_1 ?_
    refine j7_qlen hx hb hK7.1 hh_5 hB221 0 rfl (by decide) hg_ed (by omega) dJx4a65c_grow_92f84_4 (fun z_6 hz_6 => ?_)
    refine lv_istore_n (lv' := [(2, .int z_6), (0, .ref r0), (1, .int a1)]) hx hb dJx4a65c_grow_92f84_5 rfl hl (by decide) rfl (fun ls hl => ?_)
    refine lv_iload_n hx hb dJx4a65c_grow_92f84_6 rfl (lv_at hl 0 rfl) ?_
    refine lv_if_gt (tgt := 20) hx hb dJx4a65c_grow_92f84_7 (by decide) (fun c_7 => ?_) (fun c_7 => ?_)
    · skip
      have c_7' : z_6.toInt > 0 := jb_gt (rfl) ((by decide)) c_7
      refine lv_iload_n hx hb dJx4a65c_grow_92f84_20 rfl (lv_at hl 0 rfl) ?_
      refine lv_iload_n hx hb dJx4a65c_grow_92f84_21 rfl (lv_at hl 2 rfl) ?_
      refine lv_iload_n hx hb dJx4a65c_grow_92f84_22 rfl (lv_at hl 0 rfl) ?_
      refine lv_isub hx hb dJx4a65c_grow_92f84_23 ?_
      refine lv_topi (fun z_8 ez_8 => ?_)
      have hz_8 : z_8.toInt = a1.toInt - z_6.toInt := by rw [ez_8]; exact jb_isub2 (rfl) (rfl) (by omega)
      refine lv_iload_n hx hb dJx4a65c_grow_92f84_24 rfl (lv_at hl 0 rfl) ?_
      refine lv_iconst (v := 1) hx hb dJx4a65c_grow_92f84_25 (by decide) ?_
      refine lv_ishr hx hb dJx4a65c_grow_92f84_26 ?_
      refine lv_topi (fun z_9 ez_9 => ?_)
      have hz_9 : z_9.toInt = z_6.toInt / 2 ^ 1 := by rw [ez_9]; exact jb_ishr 1 (rfl) (by decide)
      have hsz_10 := hh_5.2.2.2.2.2.1
      have htt_10 := hh_5.2.2.2.2.2.2.1
      refine W.room (fun hrc_10 hrs_10 => ?_)
      refine va_calli (A0 := jA base) (H0 := s.heap) (va_runS (As := [.int z_6, .int z_8, .int z_9]) (rest := []) ⟨hx, hb, hml, hown, hts⟩ (uJ8_newLength_cabcc l dC dI ca base B hB hAp G0 s.heap z_6 z_8 z_9) (va_cwS 3 hts (jgS (jWr_34 _ (List.mem_of_getElem? (i := 3) rfl)) (jWr_34 _ (List.mem_of_getElem? (i := 4) rfl)) (jWr_34 _ (List.mem_of_getElem? (i := 5) rfl)) (jWr_34 _ (List.mem_of_getElem? (i := 6) rfl))) rfl rfl rfl (by decide +kernel) ⟨by rw [← hR]; exact Nat.le_of_ble_eq_true rfl, by rw [← hR]; exact Nat.le_of_ble_eq_true rfl⟩) ⟨fun a U g mk q => by obtain ⟨q0, q1, q2, qK, q10, q11⟩ := q; exact ⟨q0, q1, q2, jG.calling g mk a qK, q10, q11⟩, fun U hU hW => ⟨rfl, hU, hh_5.2.1, hG.step hW hU hh_5.1, jP.nil, by first | omega | (refine ⟨?_, ?_, ?_, ?_, ?_, ?_⟩ <;> (first | omega | rfl | assumption | decide | exact Or.inl rfl | exact Or.inr rfl | (simp only; omega)))⟩⟩ rfl rfl hl.1 rfl (lv_room (Nat.le_of_ble_eq_true rfl)) dJx4a65c_grow_92f84_27 ⟨by rw [hRc]; show _ + 0 ≤ _; omega, by rw [hRs]; show _ + 0 ≤ _; omega⟩) hh_5.1 (fun q _ h => h) (fun q h => h) (fun r_11 u_10 t_10 H_10 locs_10 ht_10 hvm_10 hr_11 hb_10 hz_10 hk_10 hS_10 => ?_)
      rw [ht_10] at hb_10
      obtain ⟨hb_101, hb_102, hb_103, hb_104, hb_105⟩ := hb_10
      have hh_10 : jSt (dC, dI) B base G0 G0 EJx4a65c_grow_92f84L1 s.heap 0 0 [(r0, 1, 1, .ref ed), (r0, 1, 2, .int lz)] [] [([(221, 0)], jQc dC dI (ca 9) ed n_ed lf_1), (jFl, jLs dC dI ca G0 3 (some r0) wl)] H_10 locs_10 := ((hh_5.call hb_101 hb_102 hb_103 hb_104 hS_10 rfl (L1 := [(r0, 1, 1, .ref ed), (r0, 1, 2, .int lz)]) [0, 1] rfl rfl (M1 := []) [] rfl rfl (I1 := [([(221, 0)], jQc dC dI (ca 9) ed n_ed lf_1), (jFl, jLs dC dI ca G0 3 (some r0) wl)]) [0, 1] rfl rfl).more hb_105)
      clear hh_5 ht_10 hvm_10 hz_10 hk_10 hS_10 hb_101 hb_102 hb_103 hb_104 hb_105
      obtain ⟨hr_11_0, hr_11_1, hr_11_2⟩ := hr_11
      refine lv_istore_n (lv' := [(3, .int r_11), (2, .int z_6), (0, .ref r0), (1, .int a1)]) hx hb dJx4a65c_grow_92f84_30 rfl hl (by decide) rfl (fun ls hl => ?_)
      refine lv_aload_n hx hb dJx4a65c_grow_92f84_31 rfl (lv_at hl 2 rfl) ?_
      refine lv_aload_n hx hb dJx4a65c_grow_92f84_32 rfl (lv_at hl 2 rfl) ?_
      refine j7_read hx hb hown hK (C := RJx4a65c) (T := TJx4a65c) (N := 3) rfl hly_1_1 hlk_9 (hh_10.at 0 rfl) dJx4a65c_grow_92f84_33 ?_
      refine lv_iload_n hx hb dJx4a65c_grow_92f84_36 rfl (lv_at hl 0 rfl) ?_
      have hsz_12 := hh_10.2.2.2.2.2.1
      have htt_12 := hh_10.2.2.2.2.2.2.1
      refine W.room (fun hrc_12 hrs_12 => ?_)
      refine j_callx (A0 := jA base) (H0 := s.heap) (va_runS (As := [.ref ed, .int r_11]) (rest := [.ref r0]) ⟨hx, hb, hml, hown, hts⟩ (uJ7_copyOf_1904cL1 l dC dI ca base B hB hAp hB3 hB221 G0 H_10 ed r_11 n_ed lf_1 LC LS) (va_cwS 2 hts (jgS (jWr_34 _ (List.mem_of_getElem? (i := 12) rfl)) (jWr_34 _ (List.mem_of_getElem? (i := 13) rfl)) (jWr_16 _ (List.mem_of_getElem? (i := 7) rfl)) (jWr_34 _ (List.mem_of_getElem? (i := 14) rfl))) rfl rfl rfl (by decide +kernel) ⟨by rw [← hR]; exact Nat.le_of_ble_eq_true rfl, by rw [← hR]; exact Nat.le_of_ble_eq_true rfl⟩) ⟨fun a U g mk q => by obtain ⟨q0, q1, q2, qK, q10, q11, q12, q13, q14⟩ := q; exact ⟨q0, q1, q2, jG.calling g mk a qK, (jK7.calling g mk a q10), q11, q12, q13, q14⟩, fun U hU hW => ⟨rfl, hU, hh_10.2.1, hG.step hW hU hh_10.1, (hK7.step hW hU hh_10.1), hg_ed, jP.nil, (hh_10.2.2.2.2.2.2.2.2.sub (L1 := [([(221, 0)], jQc dC dI (ca 9) ed n_ed lf_1)]) [0] rfl), by first | omega | (refine ⟨?_, ?_, ?_⟩ <;> (first | omega | rfl | assumption | decide | exact Or.inl rfl | exact Or.inr rfl | (simp only; omega)))⟩⟩ rfl rfl hl.1 rfl (lv_room (Nat.le_of_ble_eq_true rfl)) dJx4a65c_grow_92f84_37 ⟨by rw [hRc]; omega, by rw [hRs]; omega⟩) hh_10.1 (fun q _ h => h) (fun q h => h) (fun r_13 u_12 t_12 H_12 locs_12 ht_12 hvm_12 hr_13 hb_12 hz_12 hk_12 hS_12 => ?_)
      rw [ht_12] at hb_12
      obtain ⟨x_ret_12, m_ret_12, G_12⟩ := u_12
      simp only at hb_12
      obtain ⟨⟨hb_121, hb_122, hb_123, hb_124, hb_125, hb_126⟩, hN_12, hbQ_12, hbK_12⟩ := hb_12
      have hh_12 : jSt (dC, dI) B base G0 G_12 EJx4a65c_grow_92f84L1 s.heap (0 + (1)) (0 + (m_ret_12)) [(r0, 1, 1, .ref ed), (r0, 1, 2, .int lz)] [] [([(221, 0)], jQc dC dI (ca 9) ed n_ed lf_1), (jFl, jLs dC dI ca G0 3 (some r0) wl)] H_12 locs_12 := (hh_10.callG hb_121 hb_122 hb_123 hb_124 hb_125 hS_12 rfl (L1 := [(r0, 1, 1, .ref ed), (r0, 1, 2, .int lz)]) [0, 1] rfl rfl (M1 := []) [] rfl rfl (I1 := [([(221, 0)], jQc dC dI (ca 9) ed n_ed lf_1), (jFl, jLs dC dI ca G0 3 (some r0) wl)]) [0, 1] rfl rfl).more hb_126
      have hNn_12 : (jNk [0, 1, 2, 3, 4, 5, 6, 7, 8, 9, 10, 11, 12, 13, 14, 15, 16]) G0 G_12 := (jNk.rf).tr hN_12
      have hg_14 := hb_122 _ _ hg_r0
      have hg_15 := hb_122 _ _ hg_ed
      have hd_17 := jLs.grow (hh_12.iv 1 rfl) hb_122 hN_12 (by decide)
      have hh_18 := hh_12.sub (L1 := [(r0, 1, 1, .ref ed), (r0, 1, 2, .int lz)]) [0, 1] rfl (M1 := []) [] rfl (I1 := [([(221, 0)], jQc dC dI (ca 9) ed n_ed lf_1)]) [0] rfl
      clear hh_12
      have hh_19 := hh_18.addI (jLs.ie hd_17)
      clear hh_18
      obtain ⟨rfl, hr_13, hr_13n, hr_13p⟩ := hr_13
      try simp only at hr_13p
      have hgr_12 : G_12 x_ret_12 = some (221, m_ret_12) := by obtain ⟨y9, e9, h9⟩ := hr_13; cases e9; exact h9
      have hsy_12 : s.heap.size ≤ x_ret_12 := Nat.le_trans hh_10.1.1 hr_13n.le
      obtain ⟨fr_12, hqa_12, hqr_12⟩ := hbQ_12
      have hh_20 := hh_19.addI (jQc.ie hqa_12 hgr_12 (by decide) (by decide))
      clear hh_19
      refine lv_dup_x1 hx hb dJx4a65c_grow_92f84_40 rfl rfl ?_
      have hd_22 := hh_20.iv 1 rfl
      have hh_23 := hh_20.sub (L1 := [(r0, 1, 1, .ref ed), (r0, 1, 2, .int lz)]) [0, 1] rfl (M1 := []) [] rfl (I1 := [([(221, 0)], jQc dC dI (ca 9) x_ret_12 m_ret_12 fr_12), ([(221, 0)], jQc dC dI (ca 9) ed n_ed lf_1)]) [0, 2] rfl
      clear hh_20
      refine j7_putX hx hb hown hK hh_23 hB hAp hB1 (C := RJx4a65c) (T := TJx4a65c) (N := 3) rfl (by decide) hg_14 (i := 1) (by decide) hly_1_1 rfl hlk_9 rfl (ty := (.array (.object "java/lang/Object"))) (v := .ref x_ret_12) (by decide +kernel) rfl rfl (⟨_, rfl⟩) rfl (L1 := [(r0, 1, 2, .int lz)]) [1] rfl rfl rfl dJx4a65c_grow_92f84_41 (fun H_21 locs_21 hr_21 hh_21 => ?_)
      clear hh_23
      have hd_22n := jLs.fld hd_22 hg_14 hr_21
      have hh_24 := hh_21.addI (jLs.ie hd_22n)
      clear hh_21
      clear hd_22 hd_22n hr_21
      have hd_25 := jLs.full (wn := wl) (hh_24.iv 0 rfl) hg_14 ⟨_, _, hh_24.at 1 rfl, hh_24.at 0 rfl, ⟨by omega, (show _ ≤ (3 : Int) by omega)⟩, Or.inr ⟨_, _, hgr_12, by omega, by omega, hh_24.iv 1 rfl, (fun i h9 => by rw [hqr_12 i (by omega)]; exact hl8_1 i (by omega)), (fun q => ⟨(hlw_1 q).1, fun i h9 => by rw [hqr_12 i (by omega)]; exact (hlw_1 q).2 i (by omega)⟩)⟩⟩ (fun q => absurd rfl q)
      have hh_26 := hh_24.sub (L1 := [(r0, 1, 1, .ref x_ret_12), (r0, 1, 2, .int lz)]) [0, 1] rfl (M1 := []) [] rfl (I1 := [([(221, 0)], jQc dC dI (ca 9) x_ret_12 m_ret_12 fr_12), ([(221, 0)], jQc dC dI (ca 9) ed n_ed lf_1)]) [1, 2] rfl
      clear hh_24
      have hh_27 := hh_26.addI (jLs.ie hd_25)
      clear hh_26
      have hsz_28 := hh_27.2.2.2.2.2.1
      have htt_28 := hh_27.2.2.2.2.2.2.1
      refine W.room (fun hrc_28 hrs_28 => ?_)
      refine W.widen (k := LC - s.heap.size) (n := LS - jTot s.heap) (by omega) (by omega) ?_
      rw [hQ]
      exact W.aret (v := .ref x_ret_12) hx hb hr (Or.inr ⟨_, rfl⟩) (Or.inr ⟨_, rfl⟩) (fun t ht hW => ⟨⟨.ref x_ret_12, (x_ret_12, m_ret_12, G_12), rfl, ⟨rfl, by (try dsimp only); exact ⟨(by first | omega | rfl | assumption | fail), (by first | omega | rfl | assumption | fail)⟩⟩, ⟨hh_27.ra (by first | (simp only; omega) | omega) (by first | (simp only; omega) | omega) (M1 := [(r0, 1, 1, .ref x_ret_12)]) [0] rfl ht, hgr_12, hNn_12, by rw [ht]; exact hh_27.2.2.2.2.2.2.2.2.sub (L1 := [(jFl, jLs dC dI ca G_12 3 none wl)]) [0] rfl⟩⟩, by rw [ht]; try exact hh_27.1.1, fun q h9 hq => by rw [ht]; try exact hh_27.1.2.1 q h9 hq⟩) hh_27.1.2.2 dJx4a65c_grow_92f84_44
    · skip
      have c_7' : z_6.toInt ≤ 0 := jb_gt_n (rfl) ((by decide)) c_7
      exact absurd c_7' (by omega)
set_option maxHeartbeats 4000000 in
set_option maxRecDepth 20000 in
theorem uJx4a65c_grow_d5877E1 (l : Launch) (dC : Nat → ClassId) (dI : Nat → Nat → Nat) (ca : Nat → ClassId) (base : Nat) (B : jF) (hB : jBok B) (hAp : jAp (dC, dI)) (hB1 : ∀ n G a H, B 1 n G a H ↔ jOb (dC, dI) 1 3 (F1 n G) a H) (hB3 : ∀ n G a H, B 3 n G a H ↔ jOb (dC, dI) 3 17 (F3 n G) a H) (hB221 : ∀ n G a H, B 221 n G a H ↔ jAq (dC, dI) (ca 9) (jQn 3 0) n G a H) (G0 : jT) (H0 : Heap) (r0 : Nat) (lz : Int32) (wl : jWl9) (LC LS : Nat) : Met l yJx4a65c_grow_d5877 (jw yJx4a65c_grow_d5877 cJx4a65c_grow_d5877 1 (some (.array (.object "java/lang/Object")))) ({ frames := 4, cells := LC - H0.size, slots := LS - jTot H0, locals := 128 }) (va_Pc [.ref r0] (fun U => U.heap = H0 ∧ jX B base G0 [] H0 ∧ jG dC dI ca base U ∧ jK7 dC dI ca base U ∧ G0 r0 = some (1, 1) ∧ jP (dC, dI) G0 H0 [(r0, 1, 1, .ref (dI 99 0)), (r0, 1, 2, .int lz)] ∧ jIs (dC, dI) G0 H0 [(jFl, jLs dC dI ca G0 3 none wl)] ∧ H0.size + 1 ≤ LC ∧ jTot H0 + 40 ≤ LS ∧ lz.toInt = 0)) (jQx (S := Nat × Nat × jT) (fun v u => v = .ref u.1 ∧ u.2.1 = 10) (fun u t => jRa (dC, dI) B base G0 u.2.2 EJx4a65c_grow_d5877E1 H0 (1) (40) [(r0, 1, 1, .ref u.1)] t.heap ∧ u.2.2 u.1 = some (221, u.2.1) ∧ (jNk [0, 1, 2, 3, 4, 5, 6, 7, 8, 9, 10, 11, 12, 13, 14, 15, 16]) G0 u.2.2 ∧ jIs (dC, dI) u.2.2 t.heap [(jFl, jLs dC dI ca u.2.2 3 none wl)]) (jA base)) (LC - H0.size) (LS - jTot H0) (jA base) := by
  refine Met.ofW (cc := cJx4a65c_grow_d5877) (maxL := 1) (ret := (some (.array (.object "java/lang/Object")))) (by decide) rfl ?_
  intro p e s m args below meth c s₁ Bd hml hv
  obtain ⟨rfl, hH0, hX, hG, hK7, hg_r0, hP0, hI0, hLC0, hLS0, hp0⟩ := hv
  have hK := hG.1
  have hx := Bd.exec
  have hb := Bd.bytes
  have hr := Bd.returns
  have hts := atoms_spec (ws := (jw yJx4a65c_grow_d5877 cJx4a65c_grow_d5877 1 (some (.array (.object "java/lang/Object"))))) Bd.pre
  have htw : ∀ w ∈ jWl, w.before _ s = true := fun w h => hts w (List.mem_cons_of_mem _ h)
  have hown : s.vm.findClass RJx4a65c = some m.cls := findClass_of_methodNamed Bd.named
  have hlocks := Bd.notSynchronized
  obtain ⟨Q, hQ⟩ : ∃ Q, Q = MQ below (jQx (S := Nat × Nat × jT) (fun v u => v = .ref u.1 ∧ u.2.1 = 10) (fun u t => jRa (dC, dI) B base G0 u.2.2 EJx4a65c_grow_d5877E1 H0 (1) (40) [(r0, 1, 1, .ref u.1)] t.heap ∧ u.2.2 u.1 = some (221, u.2.1) ∧ (jNk [0, 1, 2, 3, 4, 5, 6, 7, 8, 9, 10, 11, 12, 13, 14, 15, 16]) G0 u.2.2 ∧ jIs (dC, dI) u.2.2 t.heap [(jFl, jLs dC dI ca u.2.2 3 none wl)]) (jA base)) ([.ref r0] : List Value).toArray s (LC - H0.size) (LS - jTot H0) (jA base) := ⟨_, rfl⟩
  rw [← hQ]
  have hl := lv_entry ([.ref r0]) (n := 1) (Nat.le_of_ble_eq_true rfl)
  rw [lg_entry_eq]
  generalize (lg_sl ([.ref r0]) ++ List.replicate (1 - (lg_sl ([.ref r0])).length) Slot.unset).toArray = ls at hl ⊢
  have hl : lv_has ls 1 [(0, .ref r0)] := hl
  generalize hR : (headSpec (jw yJx4a65c_grow_d5877 cJx4a65c_grow_d5877 1 (some (.array (.object "java/lang/Object")))) ({ frames := 4, cells := LC - H0.size, slots := LS - jTot H0, locals := 128 })).room = R
  subst hH0
  have hh : jSt (dC, dI) B base G0 G0 EJx4a65c_grow_d5877E1 s.heap 0 0 [(r0, 1, 1, .ref (dI 99 0)), (r0, 1, 2, .int lz)] [] [(jFl, jLs dC dI ca G0 3 none wl)] s.heap [] := jSt.start hX hP0 jMc.nil hI0
  clear hX hP0
  have hk0 : (0 : Int32).toInt = 0 := by decide
  have hk1 : (1 : Int32).toInt = 1 := by decide
  have hly_1_2 := htw (u_lay RJx4a65c TJx4a65c 2) (jWc_wsJx4a65c0 _ (u_in_lay (by decide)))
  have hlk_48 := (htw (.fieldLink RJx4a65c 48 "java/util/ArrayList" "size" "I") (jWr_28 _ (List.mem_of_getElem? (i := 2) rfl)))
  have hbs : base ≤ s.heap.size := Nat.le_of_lt (Nat.lt_of_le_of_lt (hh.ab hg_r0).1 (hh.ab hg_r0).2)
  have hRc : R.cells = LC - s.heap.size := by rw [← hR]; rfl
  have hRs : R.slots = LS - jTot s.heap := by rw [← hR]; rfl
  refine lv_aload_n hx hb dJx4a65c_grow_d5877_0 rfl (lv_at hl 0 rfl) ?_
  refine lv_aload_n hx hb dJx4a65c_grow_d5877_1 rfl (lv_at hl 0 rfl) ?_
  refine j7_read hx hb hown hK (C := RJx4a65c) (T := TJx4a65c) (N := 3) rfl hly_1_2 hlk_48 (hh.at 1 rfl) dJx4a65c_grow_d5877_2 ?_
  refine lv_iconst (v := 1) hx hb dJx4a65c_grow_d5877_5 (by decide) ?_
  refine lv_iadd hx hb dJx4a65c_grow_d5877_6 ?_
  refine lv_topi (fun z_1 ez_1 => ?_)
  have hz_1 : z_1.toInt = lz.toInt + 1 := by rw [ez_1]; exact jb_iadd2 (rfl) ((by decide)) (by omega)
  have hsz_2 := hh.2.2.2.2.2.1
  have htt_2 := hh.2.2.2.2.2.2.1
  refine W.room (fun hrc_2 hrs_2 => ?_)
  refine j_callx (A0 := jA base) (H0 := s.heap) (va_runV (As := [.int z_1]) (rest := []) ⟨hx, hb, hml, hown, hts⟩ (uJx4a65c_grow_92f84E1 l dC dI ca base B hB hAp hB1 hB3 hB221 G0 s.heap r0 z_1 lz wl LC LS) (cwV 1 hts (jgV (jWr_33 _ (List.mem_of_getElem? (i := 21) rfl)) (jWr_33 _ (List.mem_of_getElem? (i := 22) rfl)) (jWr_33 _ (List.mem_of_getElem? (i := 23) rfl)) (jWr_2 _ (List.mem_of_getElem? (i := 13) rfl)) (jWr_34 _ (List.mem_of_getElem? (i := 0) rfl))) rfl rfl rfl (by decide +kernel) ⟨by rw [← hR]; exact Nat.le_of_ble_eq_true rfl, by rw [← hR]; exact Nat.le_of_ble_eq_true rfl⟩) ⟨fun a U g mk q => by obtain ⟨q0, q1, q2, qK, q10, q11, q12, q13, q14⟩ := q; exact ⟨q0, q1, q2, jG.calling g mk a qK, (jK7.calling g mk a q10), q11, q12, q13, q14⟩, hh.recv (C := RJx4a65c) (T := TJx4a65c) (N := 3) hB1 rfl (by decide) hg_r0 hK, fun U hU hW => ⟨rfl, hU, hh.2.1, hG.step hW hU hh.1, (hK7.step hW hU hh.1), hg_r0, (hh.2.2.1.sub (L1 := [(r0, 1, 1, .ref (dI 99 0)), (r0, 1, 2, .int lz)]) [0, 1] rfl), (hh.2.2.2.2.2.2.2.2.sub (L1 := [(jFl, jLs dC dI ca G0 3 none wl)]) [0] rfl), by first | omega | (refine ⟨?_, ?_⟩ <;> (first | omega | rfl | assumption | decide | exact Or.inl rfl | exact Or.inr rfl | (simp only; omega)))⟩⟩ rfl rfl hl.1 rfl (lv_room (Nat.le_of_ble_eq_true rfl)) dJx4a65c_grow_d5877_7 ⟨by rw [hRc]; omega, by rw [hRs]; omega⟩) hh.1 (fun q _ h => h) (fun q h => h) (fun r_3 u_2 t_2 H_2 locs_2 ht_2 hvm_2 hr_3 hb_2 hz_2 hk_2 hS_2 => ?_)
  rw [ht_2] at hb_2
  obtain ⟨qa_2, m_qa_2, G_2⟩ := u_2
  simp only at hb_2
  obtain ⟨⟨hb_21, hb_22, hb_23, hb_24, hb_25, hb_26⟩, hgq_2_0, hN_2, hbE_2⟩ := hb_2
  have hh_2 : jSt (dC, dI) B base G0 G_2 EJx4a65c_grow_d5877E1 s.heap (0 + (1)) (0 + (40)) [(r0, 1, 1, .ref qa_2), (r0, 1, 2, .int lz)] [] [] H_2 locs_2 := (hh.callG hb_21 hb_22 hb_23 hb_24 hb_25 hS_2 rfl (L1 := [(r0, 1, 2, .int lz)]) [1] rfl rfl (M1 := []) [] rfl rfl (I1 := []) [] rfl rfl).more hb_26
  have hNn_2 : (jNk [0, 1, 2, 3, 4, 5, 6, 7, 8, 9, 10, 11, 12, 13, 14, 15, 16]) G0 G_2 := (jNk.rf).tr hN_2
  have hg_4 := hb_22 _ _ hg_r0
  have hh_5 := hh_2.addIs hbE_2
  obtain ⟨rfl, hr_3p⟩ := hr_3
  try simp only at hr_3p
  have hsz_6 := hh_5.2.2.2.2.2.1
  have htt_6 := hh_5.2.2.2.2.2.2.1
  refine W.room (fun hrc_6 hrs_6 => ?_)
  refine W.widen (k := LC - s.heap.size) (n := LS - jTot s.heap) (by omega) (by omega) ?_
  rw [hQ]
  exact W.aret (v := .ref qa_2) hx hb hr (Or.inr ⟨_, rfl⟩) (Or.inr ⟨_, rfl⟩) (fun t ht hW => ⟨⟨.ref qa_2, (qa_2, m_qa_2, G_2), rfl, ⟨rfl, by (try dsimp only); first | omega | rfl | assumption | fail⟩, ⟨hh_5.ra (by first | (simp only; omega) | omega) (by first | (simp only; omega) | omega) (M1 := [(r0, 1, 1, .ref qa_2)]) [0] rfl ht, hgq_2_0, hNn_2, by rw [ht]; exact hh_5.2.2.2.2.2.2.2.2.sub (L1 := [(jFl, jLs dC dI ca G_2 3 none wl)]) [0] rfl⟩⟩, by rw [ht]; try exact hh_5.1.1, fun q h9 hq => by rw [ht]; try exact hh_5.1.2.1 q h9 hq⟩) hh_5.1.2.2 dJx4a65c_grow_d5877_10
set_option maxHeartbeats 4000000 in
set_option maxRecDepth 20000 in
theorem uJx4a65c_grow_d5877L1 (l : Launch) (dC : Nat → ClassId) (dI : Nat → Nat → Nat) (ca : Nat → ClassId) (base : Nat) (B : jF) (hB : jBok B) (hAp : jAp (dC, dI)) (hB1 : ∀ n G a H, B 1 n G a H ↔ jOb (dC, dI) 1 3 (F1 n G) a H) (hB3 : ∀ n G a H, B 3 n G a H ↔ jOb (dC, dI) 3 17 (F3 n G) a H) (hB221 : ∀ n G a H, B 221 n G a H ↔ jAq (dC, dI) (ca 9) (jQn 3 0) n G a H) (G0 : jT) (H0 : Heap) (r0 : Nat) (ed : Nat) (n_ed : Nat) (lz : Int32) (wl : jWl9) (LC LS : Nat) : Met l yJx4a65c_grow_d5877 (jw yJx4a65c_grow_d5877 cJx4a65c_grow_d5877 1 (some (.array (.object "java/lang/Object")))) ({ frames := 4, cells := LC - H0.size, slots := LS - jTot H0, locals := 128 }) (va_Pc [.ref r0] (fun U => U.heap = H0 ∧ jX B base G0 [] H0 ∧ jG dC dI ca base U ∧ jK7 dC dI ca base U ∧ G0 r0 = some (1, 1) ∧ G0 ed = some (221, n_ed) ∧ jP (dC, dI) G0 H0 [(r0, 1, 1, .ref ed), (r0, 1, 2, .int lz)] ∧ jIs (dC, dI) G0 H0 [(jFl, jLs dC dI ca G0 3 none wl)] ∧ H0.size + 1 ≤ LC ∧ jTot H0 + 40 ≤ LS ∧ lz.toInt = n_ed ∧ lz.toInt ≤ 24)) (jQx (S := Nat × Nat × jT) (fun v u => v = .ref u.1 ∧ lz.toInt + 1 ≤ u.2.1 ∧ u.2.1 ≤ 40) (fun u t => jRa (dC, dI) B base G0 u.2.2 EJx4a65c_grow_d5877L1 H0 (1) (40) [(r0, 1, 1, .ref u.1)] t.heap ∧ u.2.2 u.1 = some (221, u.2.1) ∧ (jNk [0, 1, 2, 3, 4, 5, 6, 7, 8, 9, 10, 11, 12, 13, 14, 15, 16]) G0 u.2.2 ∧ jIs (dC, dI) u.2.2 t.heap [(jFl, jLs dC dI ca u.2.2 3 none wl)]) (jA base)) (LC - H0.size) (LS - jTot H0) (jA base) := by
  refine Met.ofW (cc := cJx4a65c_grow_d5877) (maxL := 1) (ret := (some (.array (.object "java/lang/Object")))) (by decide) rfl ?_
  intro p e s m args below meth c s₁ Bd hml hv
  obtain ⟨rfl, hH0, hX, hG, hK7, hg_r0, hg_ed, hP0, hI0, hLC0, hLS0, hp0, hp1⟩ := hv
  have hK := hG.1
  have hx := Bd.exec
  have hb := Bd.bytes
  have hr := Bd.returns
  have hts := atoms_spec (ws := (jw yJx4a65c_grow_d5877 cJx4a65c_grow_d5877 1 (some (.array (.object "java/lang/Object"))))) Bd.pre
  have htw : ∀ w ∈ jWl, w.before _ s = true := fun w h => hts w (List.mem_cons_of_mem _ h)
  have hown : s.vm.findClass RJx4a65c = some m.cls := findClass_of_methodNamed Bd.named
  have hlocks := Bd.notSynchronized
  obtain ⟨Q, hQ⟩ : ∃ Q, Q = MQ below (jQx (S := Nat × Nat × jT) (fun v u => v = .ref u.1 ∧ lz.toInt + 1 ≤ u.2.1 ∧ u.2.1 ≤ 40) (fun u t => jRa (dC, dI) B base G0 u.2.2 EJx4a65c_grow_d5877L1 H0 (1) (40) [(r0, 1, 1, .ref u.1)] t.heap ∧ u.2.2 u.1 = some (221, u.2.1) ∧ (jNk [0, 1, 2, 3, 4, 5, 6, 7, 8, 9, 10, 11, 12, 13, 14, 15, 16]) G0 u.2.2 ∧ jIs (dC, dI) u.2.2 t.heap [(jFl, jLs dC dI ca u.2.2 3 none wl)]) (jA base)) ([.ref r0] : List Value).toArray s (LC - H0.size) (LS - jTot H0) (jA base) := ⟨_, rfl⟩
  rw [← hQ]
  have hl := lv_entry ([.ref r0]) (n := 1) (Nat.le_of_ble_eq_true rfl)
  rw [lg_entry_eq]
  generalize (lg_sl ([.ref r0]) ++ List.replicate (1 - (lg_sl ([.ref r0])).length) Slot.unset).toArray = ls at hl ⊢
  have hl : lv_has ls 1 [(0, .ref r0)] := hl
  generalize hR : (headSpec (jw yJx4a65c_grow_d5877 cJx4a65c_grow_d5877 1 (some (.array (.object "java/lang/Object")))) ({ frames := 4, cells := LC - H0.size, slots := LS - jTot H0, locals := 128 })).room = R
  subst hH0
  have hh : jSt (dC, dI) B base G0 G0 EJx4a65c_grow_d5877L1 s.heap 0 0 [(r0, 1, 1, .ref ed), (r0, 1, 2, .int lz)] [] [(jFl, jLs dC dI ca G0 3 none wl)] s.heap [] := jSt.start hX hP0 jMc.nil hI0
  clear hX hP0
  have hk0 : (0 : Int32).toInt = 0 := by decide
  have hk1 : (1 : Int32).toInt = 1 := by decide
  have hly_1_2 := htw (u_lay RJx4a65c TJx4a65c 2) (jWc_wsJx4a65c0 _ (u_in_lay (by decide)))
  have hlk_48 := (htw (.fieldLink RJx4a65c 48 "java/util/ArrayList" "size" "I") (jWr_28 _ (List.mem_of_getElem? (i := 2) rfl)))
  have hbs : base ≤ s.heap.size := Nat.le_of_lt (Nat.lt_of_le_of_lt (hh.ab hg_r0).1 (hh.ab hg_r0).2)
  have hRc : R.cells = LC - s.heap.size := by rw [← hR]; rfl
  have hRs : R.slots = LS - jTot s.heap := by rw [← hR]; rfl
  refine lv_aload_n hx hb dJx4a65c_grow_d5877_0 rfl (lv_at hl 0 rfl) ?_
  refine lv_aload_n hx hb dJx4a65c_grow_d5877_1 rfl (lv_at hl 0 rfl) ?_
  refine j7_read hx hb hown hK (C := RJx4a65c) (T := TJx4a65c) (N := 3) rfl hly_1_2 hlk_48 (hh.at 1 rfl) dJx4a65c_grow_d5877_2 ?_
  refine lv_iconst (v := 1) hx hb dJx4a65c_grow_d5877_5 (by decide) ?_
  refine lv_iadd hx hb dJx4a65c_grow_d5877_6 ?_
  refine lv_topi (fun z_1 ez_1 => ?_)
  have hz_1 : z_1.toInt = lz.toInt + 1 := by rw [ez_1]; exact jb_iadd2 (rfl) ((by decide)) (by omega)
  have hsz_2 := hh.2.2.2.2.2.1
  have htt_2 := hh.2.2.2.2.2.2.1
  refine W.room (fun hrc_2 hrs_2 => ?_)
  refine j_callx (A0 := jA base) (H0 := s.heap) (va_runV (As := [.int z_1]) (rest := []) ⟨hx, hb, hml, hown, hts⟩ (uJx4a65c_grow_92f84L1 l dC dI ca base B hB hAp hB1 hB3 hB221 G0 s.heap r0 z_1 ed n_ed lz wl LC LS) (cwV 1 hts (jgV (jWr_33 _ (List.mem_of_getElem? (i := 21) rfl)) (jWr_33 _ (List.mem_of_getElem? (i := 22) rfl)) (jWr_33 _ (List.mem_of_getElem? (i := 23) rfl)) (jWr_2 _ (List.mem_of_getElem? (i := 13) rfl)) (jWr_34 _ (List.mem_of_getElem? (i := 0) rfl))) rfl rfl rfl (by decide +kernel) ⟨by rw [← hR]; exact Nat.le_of_ble_eq_true rfl, by rw [← hR]; exact Nat.le_of_ble_eq_true rfl⟩) ⟨fun a U g mk q => by obtain ⟨q0, q1, q2, qK, q10, q11, q12, q13, q14, q15⟩ := q; exact ⟨q0, q1, q2, jG.calling g mk a qK, (jK7.calling g mk a q10), q11, q12, q13, q14, q15⟩, hh.recv (C := RJx4a65c) (T := TJx4a65c) (N := 3) hB1 rfl (by decide) hg_r0 hK, fun U hU hW => ⟨rfl, hU, hh.2.1, hG.step hW hU hh.1, (hK7.step hW hU hh.1), hg_r0, hg_ed, (hh.2.2.1.sub (L1 := [(r0, 1, 1, .ref ed), (r0, 1, 2, .int lz)]) [0, 1] rfl), (hh.2.2.2.2.2.2.2.2.sub (L1 := [(jFl, jLs dC dI ca G0 3 none wl)]) [0] rfl), by first | omega | (refine ⟨?_, ?_, ?_⟩ <;> (first | omega | rfl | assumption | decide | exact Or.inl rfl | exact Or.inr rfl | (simp only; omega)))⟩⟩ rfl rfl hl.1 rfl (lv_room (Nat.le_of_ble_eq_true rfl)) dJx4a65c_grow_d5877_7 ⟨by rw [hRc]; omega, by rw [hRs]; omega⟩) hh.1 (fun q _ h => h) (fun q h => h) (fun r_3 u_2 t_2 H_2 locs_2 ht_2 hvm_2 hr_3 hb_2 hz_2 hk_2 hS_2 => ?_)
  rw [ht_2] at hb_2
  obtain ⟨qa_2, m_qa_2, G_2⟩ := u_2
  simp only at hb_2
  obtain ⟨⟨hb_21, hb_22, hb_23, hb_24, hb_25, hb_26⟩, hgq_2_0, hN_2, hbE_2⟩ := hb_2
  have hh_2 : jSt (dC, dI) B base G0 G_2 EJx4a65c_grow_d5877L1 s.heap (0 + (1)) (0 + (40)) [(r0, 1, 1, .ref qa_2), (r0, 1, 2, .int lz)] [] [] H_2 locs_2 := (hh.callG hb_21 hb_22 hb_23 hb_24 hb_25 hS_2 rfl (L1 := [(r0, 1, 2, .int lz)]) [1] rfl rfl (M1 := []) [] rfl rfl (I1 := []) [] rfl rfl).more hb_26
  have hNn_2 : (jNk [0, 1, 2, 3, 4, 5, 6, 7, 8, 9, 10, 11, 12, 13, 14, 15, 16]) G0 G_2 := (jNk.rf).tr hN_2
  have hg_4 := hb_22 _ _ hg_r0
  have hh_5 := hh_2.addIs hbE_2
  obtain ⟨rfl, hr_3p⟩ := hr_3
  try simp only at hr_3p
  obtain ⟨hr_3p_0, hr_3p_1⟩ := hr_3p
  have hsz_6 := hh_5.2.2.2.2.2.1
  have htt_6 := hh_5.2.2.2.2.2.2.1
  refine W.room (fun hrc_6 hrs_6 => ?_)
  refine W.widen (k := LC - s.heap.size) (n := LS - jTot s.heap) (by omega) (by omega) ?_
  rw [hQ]
  exact W.aret (v := .ref qa_2) hx hb hr (Or.inr ⟨_, rfl⟩) (Or.inr ⟨_, rfl⟩) (fun t ht hW => ⟨⟨.ref qa_2, (qa_2, m_qa_2, G_2), rfl, ⟨rfl, by (try dsimp only); exact ⟨(by first | omega | rfl | assumption | fail), (by first | omega | rfl | assumption | fail)⟩⟩, ⟨hh_5.ra (by first | (simp only; omega) | omega) (by first | (simp only; omega) | omega) (M1 := [(r0, 1, 1, .ref qa_2)]) [0] rfl ht, hgq_2_0, hNn_2, by rw [ht]; exact hh_5.2.2.2.2.2.2.2.2.sub (L1 := [(jFl, jLs dC dI ca G_2 3 none wl)]) [0] rfl⟩⟩, by rw [ht]; try exact hh_5.1.1, fun q h9 hq => by rw [ht]; try exact hh_5.1.2.1 q h9 hq⟩) hh_5.1.2.2 dJx4a65c_grow_d5877_10
set_option maxHeartbeats 4000000 in
set_option maxRecDepth 20000 in
theorem uJx4a65c_add_72be8E1 (l : Launch) (dC : Nat → ClassId) (dI : Nat → Nat → Nat) (ca : Nat → ClassId) (base : Nat) (B : jF) (hB : jBok B) (hAp : jAp (dC, dI)) (hB1 : ∀ n G a H, B 1 n G a H ↔ jOb (dC, dI) 1 3 (F1 n G) a H) (hB3 : ∀ n G a H, B 3 n G a H ↔ jOb (dC, dI) 3 17 (F3 n G) a H) (hB221 : ∀ n G a H, B 221 n G a H ↔ jAq (dC, dI) (ca 9) (jQn 3 0) n G a H) (G0 : jT) (H0 : Heap) (r0 : Nat) (r1 : Nat) (a3 : Int32) (lz : Int32) (wl : jWl9) (LC LS : Nat) : Met l yJx4a65c_add_72be8 (jw yJx4a65c_add_72be8 cJx4a65c_add_72be8 4 none) ({ frames := 5, cells := LC - H0.size, slots := LS - jTot H0, locals := 148 }) (va_Pc [.ref r0, .ref r1, .ref (dI 99 0), .int a3] (fun U => U.heap = H0 ∧ jX B base G0 [] H0 ∧ jG dC dI ca base U ∧ jK7 dC dI ca base U ∧ G0 r0 = some (1, 1) ∧ G0 r1 = some (3, 0) ∧ jP (dC, dI) G0 H0 [(r0, 1, 1, .ref (dI 99 0)), (r0, 1, 2, .int lz)] ∧ jIs (dC, dI) G0 H0 [(jFl, jLs dC dI ca G0 3 none wl)] ∧ H0.size + 1 ≤ LC ∧ jTot H0 + 40 ≤ LS ∧ a3.toInt = lz.toInt ∧ lz.toInt = 0)) (va_Qv (S := Int32 × jT) (fun u => u.1.toInt = lz.toInt + 1) (fun u t => jRa (dC, dI) B base G0 u.2 EJx4a65c_add_72be8E1 H0 (1) (40) [(r0, 1, 2, .int u.1)] t.heap ∧ (jNk [0, 1, 2, 3, 4, 5, 6, 7, 8, 9, 10, 11, 12, 13, 14, 15, 16]) G0 u.2 ∧ jIs (dC, dI) u.2 t.heap [(jFl, jLs dC dI ca u.2 3 none (wl.1 + 1, jUf wl.2 (wl.1).toNat (some r1)))]) (jA base)) (LC - H0.size) (LS - jTot H0) (jA base) := by
  refine Met.ofW (cc := cJx4a65c_add_72be8) (maxL := 4) (ret := none) (by decide) rfl ?_
  intro p e s m args below meth c s₁ Bd hml hv
  obtain ⟨rfl, hH0, hX, hG, hK7, hg_r0, hg_r1, hP0, hI0, hLC0, hLS0, hp0, hp1⟩ := hv
  have hK := hG.1
  have hx := Bd.exec
  have hb := Bd.bytes
  have hr := Bd.returns
  have hts := atoms_spec (ws := (jw yJx4a65c_add_72be8 cJx4a65c_add_72be8 4 none)) Bd.pre
  have htw : ∀ w ∈ jWl, w.before _ s = true := fun w h => hts w (List.mem_cons_of_mem _ h)
  have hown : s.vm.findClass RJx4a65c = some m.cls := findClass_of_methodNamed Bd.named
  have hlocks := Bd.notSynchronized
  obtain ⟨Q, hQ⟩ : ∃ Q, Q = MQ below (va_Qv (S := Int32 × jT) (fun u => u.1.toInt = lz.toInt + 1) (fun u t => jRa (dC, dI) B base G0 u.2 EJx4a65c_add_72be8E1 H0 (1) (40) [(r0, 1, 2, .int u.1)] t.heap ∧ (jNk [0, 1, 2, 3, 4, 5, 6, 7, 8, 9, 10, 11, 12, 13, 14, 15, 16]) G0 u.2 ∧ jIs (dC, dI) u.2 t.heap [(jFl, jLs dC dI ca u.2 3 none (wl.1 + 1, jUf wl.2 (wl.1).toNat (some r1)))]) (jA base)) ([.ref r0, .ref r1, .ref (dI 99 0), .int a3] : List Value).toArray s (LC - H0.size) (LS - jTot H0) (jA base) := ⟨_, rfl⟩
  rw [← hQ]
  have hl := lv_entry ([.ref r0, .ref r1, .ref (dI 99 0), .int a3]) (n := 4) (Nat.le_of_ble_eq_true rfl)
  rw [lg_entry_eq]
  generalize (lg_sl ([.ref r0, .ref r1, .ref (dI 99 0), .int a3]) ++ List.replicate (4 - (lg_sl ([.ref r0, .ref r1, .ref (dI 99 0), .int a3])).length) Slot.unset).toArray = ls at hl ⊢
  have hl : lv_has ls 4 [(0, .ref r0), (1, .ref r1), (2, .ref (dI 99 0)), (3, .int a3)] := hl
  generalize hR : (headSpec (jw yJx4a65c_add_72be8 cJx4a65c_add_72be8 4 none) ({ frames := 5, cells := LC - H0.size, slots := LS - jTot H0, locals := 148 })).room = R
  subst hH0
  have hh : jSt (dC, dI) B base G0 G0 EJx4a65c_add_72be8E1 s.heap 0 0 [(r0, 1, 1, .ref (dI 99 0)), (r0, 1, 2, .int lz)] [] [(jFl, jLs dC dI ca G0 3 none wl)] s.heap [] := jSt.start hX hP0 jMc.nil hI0
  clear hX hP0
  have hk0 : (0 : Int32).toInt = 0 := by decide
  have hk1 : (1 : Int32).toInt = 1 := by decide
  have hly_1_2 := htw (u_lay RJx4a65c TJx4a65c 2) (jWc_wsJx4a65c0 _ (u_in_lay (by decide)))
  have hlk_48 := (htw (.fieldLink RJx4a65c 48 "java/util/ArrayList" "size" "I") (jWr_28 _ (List.mem_of_getElem? (i := 2) rfl)))
  have hrg_a3 := jb_rng a3
  have hbs : base ≤ s.heap.size := Nat.le_of_lt (Nat.lt_of_le_of_lt (hh.ab hg_r0).1 (hh.ab hg_r0).2)
  have hRc : R.cells = LC - s.heap.size := by rw [← hR]; rfl
  have hRs : R.slots = LS - jTot s.heap := by rw [← hR]; rfl
  refine lv_iload_n hx hb dJx4a65c_add_72be8_0 rfl (lv_at hl 3 rfl) ?_
  refine lv_aload_n hx hb dJx4a65c_add_72be8_1 rfl (lv_at hl 2 rfl) ?_
  refine va_tlen hx hb hK7.2.2.2.2.2.2.2 hh.1 (v := Int32.ofNat 0) rfl dJx4a65c_add_72be8_2 ?_
  refine lv_topi (fun z_1 ez_1 => ?_)
  have hz_1 : z_1.toInt = 0 := by rw [ez_1]; rfl
  refine lv_icmp_ne (tgt := 11) hx hb dJx4a65c_add_72be8_3 (by decide) (fun c_2 => ?_) (fun c_2 => ?_)
  · skip
    have c_2' : a3.toInt ≠ z_1.toInt := jb_ne (rfl) (rfl) c_2
    exact absurd c_2' (by omega)
  · skip
    have c_2' : a3.toInt = z_1.toInt := jb_ne_n (rfl) (rfl) c_2
    refine lv_aload_n hx hb dJx4a65c_add_72be8_6 rfl (lv_at hl 0 rfl) ?_
    have hsz_3 := hh.2.2.2.2.2.1
    have htt_3 := hh.2.2.2.2.2.2.1
    refine W.room (fun hrc_3 hrs_3 => ?_)
    refine j_callx (A0 := jA base) (H0 := s.heap) (va_runV (As := []) (rest := []) ⟨hx, hb, hml, hown, hts⟩ (uJx4a65c_grow_d5877E1 l dC dI ca base B hB hAp hB1 hB3 hB221 G0 s.heap r0 lz wl LC LS) (cwV 0 hts (jgV (jWr_33 _ (List.mem_of_getElem? (i := 17) rfl)) (jWr_33 _ (List.mem_of_getElem? (i := 18) rfl)) (jWr_33 _ (List.mem_of_getElem? (i := 19) rfl)) (jWr_2 _ (List.mem_of_getElem? (i := 13) rfl)) (jWr_33 _ (List.mem_of_getElem? (i := 20) rfl))) rfl rfl rfl (by decide +kernel) ⟨by rw [← hR]; exact Nat.le_of_ble_eq_true rfl, by rw [← hR]; exact Nat.le_of_ble_eq_true rfl⟩) ⟨fun a U g mk q => by obtain ⟨q0, q1, q2, qK, q10, q11, q12, q13, q14⟩ := q; exact ⟨q0, q1, q2, jG.calling g mk a qK, (jK7.calling g mk a q10), q11, q12, q13, q14⟩, hh.recv (C := RJx4a65c) (T := TJx4a65c) (N := 3) hB1 rfl (by decide) hg_r0 hK, fun U hU hW => ⟨rfl, hU, hh.2.1, hG.step hW hU hh.1, (hK7.step hW hU hh.1), hg_r0, (hh.2.2.1.sub (L1 := [(r0, 1, 1, .ref (dI 99 0)), (r0, 1, 2, .int lz)]) [0, 1] rfl), (hh.2.2.2.2.2.2.2.2.sub (L1 := [(jFl, jLs dC dI ca G0 3 none wl)]) [0] rfl), by first | omega | rfl | assumption | decide | exact Or.inl rfl | exact Or.inr rfl | (simp only; omega)⟩⟩ rfl rfl hl.1 rfl (lv_room (Nat.le_of_ble_eq_true rfl)) dJx4a65c_add_72be8_7 ⟨by rw [hRc]; omega, by rw [hRs]; omega⟩) hh.1 (fun q _ h => h) (fun q h => h) (fun r_4 u_3 t_3 H_3 locs_3 ht_3 hvm_3 hr_4 hb_3 hz_3 hk_3 hS_3 => ?_)
    rw [ht_3] at hb_3
    obtain ⟨qa_3, m_qa_3, G_3⟩ := u_3
    simp only at hb_3
    obtain ⟨⟨hb_31, hb_32, hb_33, hb_34, hb_35, hb_36⟩, hgq_3_0, hN_3, hbE_3⟩ := hb_3
    have hh_3 : jSt (dC, dI) B base G0 G_3 EJx4a65c_add_72be8E1 s.heap (0 + (1)) (0 + (40)) [(r0, 1, 1, .ref qa_3), (r0, 1, 2, .int lz)] [] [] H_3 locs_3 := (hh.callG hb_31 hb_32 hb_33 hb_34 hb_35 hS_3 rfl (L1 := [(r0, 1, 2, .int lz)]) [1] rfl rfl (M1 := []) [] rfl rfl (I1 := []) [] rfl rfl).more hb_36
    have hNn_3 : (jNk [0, 1, 2, 3, 4, 5, 6, 7, 8, 9, 10, 11, 12, 13, 14, 15, 16]) G0 G_3 := (jNk.rf).tr hN_3
    have hg_5 := hb_32 _ _ hg_r0
    have hg_6 := hb_32 _ _ hg_r1
    have hh_7 := hh_3.addIs hbE_3
    obtain ⟨rfl, hr_4p⟩ := hr_4
    try simp only at hr_4p
    refine lv_astore_n (lv' := [(2, .ref qa_3), (0, .ref r0), (1, .ref r1), (3, .int a3)]) hx hb dJx4a65c_add_72be8_10 rfl hl (by decide) rfl (fun ls hl => ?_)
    obtain ⟨lz_8, lx_8, hl1_8, hl2_8, hl3_8, hl4_8⟩ := jLs.at (hh_7.iv 0 rfl) hg_5
    obtain rfl : lz = lz_8 := Value.int.inj (jf.uniq (hh_7.at 1 rfl) hl1_8)
    have hl3_8 : 0 ≤ lz.toInt ∧ lz.toInt ≤ 3 := hl3_8
    obtain rfl : qa_3 = lx_8 := Value.ref.inj (jf.uniq (hh_7.at 0 rfl) hl2_8)
    rcases hl4_8 with ⟨hl9_8, hl5_8, hl0_8⟩ | ⟨lm_8, lf_8, hg_lx_8, hlm_8, hl6_8, hl7_8, hl8_8, hlw_8⟩
    · skip
      exact absurd (show base ≤ dI 99 0 by rw [← hl9_8]; exact (hh_7.ab hgq_3_0).1) (va_T.out hK7.2.2.2.2.2.2.2)
    · skip
      obtain rfl : m_qa_3 = lm_8 := by have h9 := Option.some.inj (hgq_3_0.symm.trans hg_lx_8); exact congrArg Prod.snd h9
      have hd_9 := jLs.less (hh_7.iv 0 rfl) r0
      have hh_10 := hh_7.sub (L1 := [(r0, 1, 1, .ref qa_3), (r0, 1, 2, .int lz)]) [0, 1] rfl (M1 := []) [] rfl (I1 := []) [] rfl
      clear hh_7
      have hh_11 := hh_10.addI (jLs.ie hd_9)
      clear hh_10
      have hh_12 := hh_11.addI (jQc.ie hl7_8 hg_lx_8 (by decide) (by decide))
      clear hh_11
      refine lv_aload_n hx hb dJx4a65c_add_72be8_11 rfl (lv_at hl 0 rfl) ?_
      refine lv_iload_n hx hb dJx4a65c_add_72be8_12 rfl (lv_at hl 3 rfl) ?_
      refine lv_aload_n hx hb dJx4a65c_add_72be8_13 rfl (lv_at hl 2 rfl) ?_
      have hd_14 := hh_12.iv 0 rfl
      have hd_15 := hh_12.iv 1 rfl
      have hh_17 := hh_12.sub (L1 := [(r0, 1, 1, .ref qa_3), (r0, 1, 2, .int lz)]) [0, 1] rfl (M1 := []) [] rfl (I1 := []) [] rfl
      clear hh_12
      refine j7_qastO hx hb hK hK7.1 hh_17 hB hB221 0 rfl (by decide) (by decide) rfl rfl rfl hgq_3_0 (x := a3.toInt) (rfl) (by omega) hB3 (T := TX1) (N := 17) rfl (by decide) hg_6 hK7.2.2.1.1.1 (Or.inr ⟨_, rfl, hg_6⟩) hd_14 dJx4a65c_add_72be8_14 (fun H_13 locs_13 fq_16 hv_13 ho_13 hq_13 hr_13 hh_13 => ?_)
      clear hh_17
      have hd_15n := jLs.arr hd_15 hg_5 hgq_3_0 hr_13
      have hh_18 := hh_13.addI (jLs.ie hd_15n)
      clear hh_13
      have hh_19 := hh_18.addI (hq_13.ie hgq_3_0 (by decide) (by decide))
      clear hh_18
      clear hd_14 hd_15 hd_15n hr_13
      refine lv_aload_n hx hb dJx4a65c_add_72be8_15 rfl (lv_at hl 1 rfl) ?_
      refine lv_iload_n hx hb dJx4a65c_add_72be8_16 rfl (lv_at hl 3 rfl) ?_
      refine lv_iconst (v := 1) hx hb dJx4a65c_add_72be8_17 (by decide) ?_
      refine lv_iadd hx hb dJx4a65c_add_72be8_18 ?_
      refine lv_topi (fun z_20 ez_20 => ?_)
      have hz_20 : z_20.toInt = a3.toInt + 1 := by rw [ez_20]; exact jb_iadd2 (rfl) ((by decide)) (by omega)
      have hd_22 := hh_19.iv 1 rfl
      have hh_23 := hh_19.sub (L1 := [(r0, 1, 1, .ref qa_3), (r0, 1, 2, .int lz)]) [0, 1] rfl (M1 := []) [] rfl (I1 := [([(221, 0)], jQc dC dI (ca 9) qa_3 m_qa_3 fq_16)]) [0] rfl
      clear hh_19
      refine j7_putX hx hb hown hK hh_23 hB hAp hB1 (C := RJx4a65c) (T := TJx4a65c) (N := 3) rfl (by decide) hg_5 (i := 2) (by decide) hly_1_2 rfl hlk_48 rfl (ty := .int) (v := .int z_20) (by decide +kernel) rfl rfl (⟨_, rfl, by omega, by omega⟩) rfl (L1 := [(r0, 1, 1, .ref qa_3)]) [0] rfl rfl rfl dJx4a65c_add_72be8_19 (fun H_21 locs_21 hr_21 hh_21 => ?_)
      clear hh_23
      have hd_22n := jLs.fld hd_22 hg_5 hr_21
      have hh_24 := hh_21.addI (jLs.ie hd_22n)
      clear hh_21
      clear hd_22 hd_22n hr_21
      have hd_25 := jLs.full (wn := (wl.1 + 1, jUf wl.2 (wl.1).toNat (some r1))) (hh_24.iv 0 rfl) hg_5 ⟨_, _, hh_24.at 0 rfl, hh_24.at 1 rfl, ⟨by omega, (show _ ≤ (3 : Int) by omega)⟩, Or.inr ⟨_, _, hgq_3_0, by omega, by omega, hh_24.iv 1 rfl, jAd.put hl8_8 (by omega) (by omega) (by omega) (by omega) hv_13 ho_13, jWk.put hlw_8 (by omega) (by omega) (by omega) (by omega) hv_13 ho_13⟩⟩ (fun q => absurd rfl q)
      have hh_26 := hh_24.sub (L1 := [(r0, 1, 2, .int z_20), (r0, 1, 1, .ref qa_3)]) [0, 1] rfl (M1 := []) [] rfl (I1 := [([(221, 0)], jQc dC dI (ca 9) qa_3 m_qa_3 fq_16)]) [1] rfl
      clear hh_24
      have hh_27 := hh_26.addI (jLs.ie hd_25)
      clear hh_26
      have hsz_28 := hh_27.2.2.2.2.2.1
      have htt_28 := hh_27.2.2.2.2.2.2.1
      refine W.room (fun hrc_28 hrs_28 => ?_)
      refine W.widen (k := LC - s.heap.size) (n := LS - jTot s.heap) (by omega) (by omega) ?_
      rw [hQ]
      exact W.vret hx hb hr (fun t ht hW => ⟨⟨(z_20, G_3), rfl, by (try dsimp only); first | omega | rfl | assumption | fail, ⟨hh_27.ra (by first | (simp only; omega) | omega) (by first | (simp only; omega) | omega) (M1 := [(r0, 1, 2, .int z_20)]) [0] rfl ht, hNn_3, by rw [ht]; exact hh_27.2.2.2.2.2.2.2.2.sub (L1 := [(jFl, jLs dC dI ca G_3 3 none (wl.1 + 1, jUf wl.2 (wl.1).toNat (some r1)))]) [0] rfl⟩⟩, by rw [ht]; try exact hh_27.1.1, fun q h9 hq => by rw [ht]; try exact hh_27.1.2.1 q h9 hq⟩) hh_27.1.2.2 dJx4a65c_add_72be8_22
set_option maxHeartbeats 4000000 in
set_option maxRecDepth 20000 in
theorem uJx4a65c_add_72be8L1 (l : Launch) (dC : Nat → ClassId) (dI : Nat → Nat → Nat) (ca : Nat → ClassId) (base : Nat) (B : jF) (hB : jBok B) (hAp : jAp (dC, dI)) (hB1 : ∀ n G a H, B 1 n G a H ↔ jOb (dC, dI) 1 3 (F1 n G) a H) (hB3 : ∀ n G a H, B 3 n G a H ↔ jOb (dC, dI) 3 17 (F3 n G) a H) (hB221 : ∀ n G a H, B 221 n G a H ↔ jAq (dC, dI) (ca 9) (jQn 3 0) n G a H) (G0 : jT) (H0 : Heap) (r0 : Nat) (r1 : Nat) (r2 : Nat) (a3 : Int32) (n2 : Nat) (lz : Int32) (wl : jWl9) (LC LS : Nat) : Met l yJx4a65c_add_72be8 (jw yJx4a65c_add_72be8 cJx4a65c_add_72be8 4 none) ({ frames := 5, cells := LC - H0.size, slots := LS - jTot H0, locals := 148 }) (va_Pc [.ref r0, .ref r1, .ref r2, .int a3] (fun U => U.heap = H0 ∧ jX B base G0 [] H0 ∧ jG dC dI ca base U ∧ jK7 dC dI ca base U ∧ G0 r0 = some (1, 1) ∧ G0 r1 = some (3, 0) ∧ G0 r2 = some (221, n2) ∧ jP (dC, dI) G0 H0 [(r0, 1, 1, .ref r2), (r0, 1, 2, .int lz)] ∧ jIs (dC, dI) G0 H0 [(jFl, jLs dC dI ca G0 3 none wl)] ∧ H0.size + 1 ≤ LC ∧ jTot H0 + 40 ≤ LS ∧ a3.toInt = lz.toInt ∧ 0 ≤ lz.toInt ∧ lz.toInt < 3 ∧ n2 ≤ 40)) (va_Qv (S := Int32 × jT) (fun u => u.1.toInt = lz.toInt + 1) (fun u t => jRa (dC, dI) B base G0 u.2 EJx4a65c_add_72be8L1 H0 (1) (40) [(r0, 1, 2, .int u.1)] t.heap ∧ (jNk [0, 1, 2, 3, 4, 5, 6, 7, 8, 9, 10, 11, 12, 13, 14, 15, 16]) G0 u.2 ∧ jIs (dC, dI) u.2 t.heap [(jFl, jLs dC dI ca u.2 3 none (wl.1 + 1, jUf wl.2 (wl.1).toNat (some r1)))]) (jA base)) (LC - H0.size) (LS - jTot H0) (jA base) := by
  refine Met.ofW (cc := cJx4a65c_add_72be8) (maxL := 4) (ret := none) (by decide) rfl ?_
  intro p e s m args below meth c s₁ Bd hml hv
  obtain ⟨rfl, hH0, hX, hG, hK7, hg_r0, hg_r1, hg_r2, hP0, hI0, hLC0, hLS0, hp0, hp1, hp2, hp3⟩ := hv
  have hK := hG.1
  have hx := Bd.exec
  have hb := Bd.bytes
  have hr := Bd.returns
  have hts := atoms_spec (ws := (jw yJx4a65c_add_72be8 cJx4a65c_add_72be8 4 none)) Bd.pre
  have htw : ∀ w ∈ jWl, w.before _ s = true := fun w h => hts w (List.mem_cons_of_mem _ h)
  have hown : s.vm.findClass RJx4a65c = some m.cls := findClass_of_methodNamed Bd.named
  have hlocks := Bd.notSynchronized
  obtain ⟨Q, hQ⟩ : ∃ Q, Q = MQ below (va_Qv (S := Int32 × jT) (fun u => u.1.toInt = lz.toInt + 1) (fun u t => jRa (dC, dI) B base G0 u.2 EJx4a65c_add_72be8L1 H0 (1) (40) [(r0, 1, 2, .int u.1)] t.heap ∧ (jNk [0, 1, 2, 3, 4, 5, 6, 7, 8, 9, 10, 11, 12, 13, 14, 15, 16]) G0 u.2 ∧ jIs (dC, dI) u.2 t.heap [(jFl, jLs dC dI ca u.2 3 none (wl.1 + 1, jUf wl.2 (wl.1).toNat (some r1)))]) (jA base)) ([.ref r0, .ref r1, .ref r2, .int a3] : List Value).toArray s (LC - H0.size) (LS - jTot H0) (jA base) := ⟨_, rfl⟩
  rw [← hQ]
  have hl := lv_entry ([.ref r0, .ref r1, .ref r2, .int a3]) (n := 4) (Nat.le_of_ble_eq_true rfl)
  rw [lg_entry_eq]
  generalize (lg_sl ([.ref r0, .ref r1, .ref r2, .int a3]) ++ List.replicate (4 - (lg_sl ([.ref r0, .ref r1, .ref r2, .int a3])).length) Slot.unset).toArray = ls at hl ⊢
  have hl : lv_has ls 4 [(0, .ref r0), (1, .ref r1), (2, .ref r2), (3, .int a3)] := hl
  generalize hR : (headSpec (jw yJx4a65c_add_72be8 cJx4a65c_add_72be8 4 none) ({ frames := 5, cells := LC - H0.size, slots := LS - jTot H0, locals := 148 })).room = R
  subst hH0
  have hh : jSt (dC, dI) B base G0 G0 EJx4a65c_add_72be8L1 s.heap 0 0 [(r0, 1, 1, .ref r2), (r0, 1, 2, .int lz)] [] [(jFl, jLs dC dI ca G0 3 none wl)] s.heap [] := jSt.start hX hP0 jMc.nil hI0
  clear hX hP0
  have hk0 : (0 : Int32).toInt = 0 := by decide
  have hk1 : (1 : Int32).toInt = 1 := by decide
  have hly_1_2 := htw (u_lay RJx4a65c TJx4a65c 2) (jWc_wsJx4a65c0 _ (u_in_lay (by decide)))
  have hlk_48 := (htw (.fieldLink RJx4a65c 48 "java/util/ArrayList" "size" "I") (jWr_28 _ (List.mem_of_getElem? (i := 2) rfl)))
  have hrg_a3 := jb_rng a3
  have hbs : base ≤ s.heap.size := Nat.le_of_lt (Nat.lt_of_le_of_lt (hh.ab hg_r0).1 (hh.ab hg_r0).2)
  have hRc : R.cells = LC - s.heap.size := by rw [← hR]; rfl
  have hRs : R.slots = LS - jTot s.heap := by rw [← hR]; rfl
  refine lv_iload_n hx hb dJx4a65c_add_72be8_0 rfl (lv_at hl 3 rfl) ?_
  refine lv_aload_n hx hb dJx4a65c_add_72be8_1 rfl (lv_at hl 2 rfl) ?_
  refine j7_qlen hx hb hK7.1 hh hB221 0 rfl (by decide) hg_r2 (by omega) dJx4a65c_add_72be8_2 (fun z_1 hz_1 => ?_)
  refine lv_icmp_ne (tgt := 11) hx hb dJx4a65c_add_72be8_3 (by decide) (fun c_2 => ?_) (fun c_2 => ?_)
  · skip
    have c_2' : a3.toInt ≠ z_1.toInt := jb_ne (rfl) (rfl) c_2
    obtain ⟨lz_3, lx_3, hl1_3, hl2_3, hl3_3, hl4_3⟩ := jLs.at (hh.iv 0 rfl) hg_r0
    obtain rfl : lz = lz_3 := Value.int.inj (jf.uniq (hh.at 1 rfl) hl1_3)
    have hl3_3 : 0 ≤ lz.toInt ∧ lz.toInt ≤ 3 := hl3_3
    obtain rfl : r2 = lx_3 := Value.ref.inj (jf.uniq (hh.at 0 rfl) hl2_3)
    rcases hl4_3 with ⟨hl9_3, hl5_3, hl0_3⟩ | ⟨lm_3, lf_3, hg_lx_3, hlm_3, hl6_3, hl7_3, hl8_3, hlw_3⟩
    · skip
      exact absurd (show base ≤ dI 99 0 by rw [← hl9_3]; exact (hh.ab hg_r2).1) (va_T.out hK7.2.2.2.2.2.2.2)
    · skip
      obtain rfl : n2 = lm_3 := by have h9 := Option.some.inj (hg_r2.symm.trans hg_lx_3); exact congrArg Prod.snd h9
      have hd_4 := jLs.less (hh.iv 0 rfl) r0
      have hh_5 := hh.sub (L1 := [(r0, 1, 1, .ref r2), (r0, 1, 2, .int lz)]) [0, 1] rfl (M1 := []) [] rfl (I1 := []) [] rfl
      clear hh
      have hh_6 := hh_5.addI (jLs.ie hd_4)
      clear hh_5
      have hh_7 := hh_6.addI (jQc.ie hl7_3 hg_lx_3 (by decide) (by decide))
      clear hh_6
      refine lv_aload_n hx hb dJx4a65c_add_72be8_11 rfl (lv_at hl 2 rfl) ?_
      refine lv_iload_n hx hb dJx4a65c_add_72be8_12 rfl (lv_at hl 3 rfl) ?_
      refine lv_aload_n hx hb dJx4a65c_add_72be8_13 rfl (lv_at hl 1 rfl) ?_
      have hd_9 := hh_7.iv 0 rfl
      have hd_10 := hh_7.iv 1 rfl
      have hh_12 := hh_7.sub (L1 := [(r0, 1, 1, .ref r2), (r0, 1, 2, .int lz)]) [0, 1] rfl (M1 := []) [] rfl (I1 := []) [] rfl
      clear hh_7
      refine j7_qastO hx hb hK hK7.1 hh_12 hB hB221 0 rfl (by decide) (by decide) rfl rfl rfl hg_r2 (x := a3.toInt) (rfl) (by omega) hB3 (T := TX1) (N := 17) rfl (by decide) hg_r1 hK7.2.2.1.1.1 (Or.inr ⟨_, rfl, hg_r1⟩) hd_9 dJx4a65c_add_72be8_14 (fun H_8 locs_8 fq_11 hv_8 ho_8 hq_8 hr_8 hh_8 => ?_)
      clear hh_12
      have hd_10n := jLs.arr hd_10 hg_r0 hg_r2 hr_8
      have hh_13 := hh_8.addI (jLs.ie hd_10n)
      clear hh_8
      have hh_14 := hh_13.addI (hq_8.ie hg_r2 (by decide) (by decide))
      clear hh_13
      clear hd_9 hd_10 hd_10n hr_8
      refine lv_aload_n hx hb dJx4a65c_add_72be8_15 rfl (lv_at hl 0 rfl) ?_
      refine lv_iload_n hx hb dJx4a65c_add_72be8_16 rfl (lv_at hl 3 rfl) ?_
      refine lv_iconst (v := 1) hx hb dJx4a65c_add_72be8_17 (by decide) ?_
      refine lv_iadd hx hb dJx4a65c_add_72be8_18 ?_
      refine lv_topi (fun z_15 ez_15 => ?_)
      have hz_15 : z_15.toInt = a3.toInt + 1 := by rw [ez_15]; exact jb_iadd2 (rfl) ((by decide)) (by omega)
      have hd_17 := hh_14.iv 1 rfl
      have hh_18 := hh_14.sub (L1 := [(r0, 1, 1, .ref r2), (r0, 1, 2, .int lz)]) [0, 1] rfl (M1 := []) [] rfl (I1 := [([(221, 0)], jQc dC dI (ca 9) r2 n2 fq_11)]) [0] rfl
      clear hh_14
      refine j7_putX hx hb hown hK hh_18 hB hAp hB1 (C := RJx4a65c) (T := TJx4a65c) (N := 3) rfl (by decide) hg_r0 (i := 2) (by decide) hly_1_2 rfl hlk_48 rfl (ty := .int) (v := .int z_15) (by decide +kernel) rfl rfl (⟨_, rfl, by omega, by omega⟩) rfl (L1 := [(r0, 1, 1, .ref r2)]) [0] rfl rfl rfl dJx4a65c_add_72be8_19 (fun H_16 locs_16 hr_16 hh_16 => ?_)
      clear hh_18
      have hd_17n := jLs.fld hd_17 hg_r0 hr_16
      have hh_19 := hh_16.addI (jLs.ie hd_17n)
      clear hh_16
      clear hd_17 hd_17n hr_16
      have hd_20 := jLs.full (wn := (wl.1 + 1, jUf wl.2 (wl.1).toNat (some r1))) (hh_19.iv 0 rfl) hg_r0 ⟨_, _, hh_19.at 0 rfl, hh_19.at 1 rfl, ⟨by omega, (show _ ≤ (3 : Int) by omega)⟩, Or.inr ⟨_, _, hg_r2, by omega, by omega, hh_19.iv 1 rfl, jAd.put hl8_3 (by omega) (by omega) (by omega) (by omega) hv_8 ho_8, jWk.put hlw_3 (by omega) (by omega) (by omega) (by omega) hv_8 ho_8⟩⟩ (fun q => absurd rfl q)
      have hh_21 := hh_19.sub (L1 := [(r0, 1, 2, .int z_15), (r0, 1, 1, .ref r2)]) [0, 1] rfl (M1 := []) [] rfl (I1 := [([(221, 0)], jQc dC dI (ca 9) r2 n2 fq_11)]) [1] rfl
      clear hh_19
      have hh_22 := hh_21.addI (jLs.ie hd_20)
      clear hh_21
      have hsz_23 := hh_22.2.2.2.2.2.1
      have htt_23 := hh_22.2.2.2.2.2.2.1
      refine W.room (fun hrc_23 hrs_23 => ?_)
      refine W.widen (k := LC - s.heap.size) (n := LS - jTot s.heap) (by omega) (by omega) ?_
      rw [hQ]
      exact W.vret hx hb hr (fun t ht hW => ⟨⟨(z_15, G0), rfl, by (try dsimp only); first | omega | rfl | assumption | fail, ⟨hh_22.ra (by first | (simp only; omega) | omega) (by first | (simp only; omega) | omega) (M1 := [(r0, 1, 2, .int z_15)]) [0] rfl ht, jNk.rf, by rw [ht]; exact hh_22.2.2.2.2.2.2.2.2.sub (L1 := [(jFl, jLs dC dI ca G0 3 none (wl.1 + 1, jUf wl.2 (wl.1).toNat (some r1)))]) [0] rfl⟩⟩, by rw [ht]; try exact hh_22.1.1, fun q h9 hq => by rw [ht]; try exact hh_22.1.2.1 q h9 hq⟩) hh_22.1.2.2 dJx4a65c_add_72be8_22
  · skip
    have c_2' : a3.toInt = z_1.toInt := jb_ne_n (rfl) (rfl) c_2
    refine lv_aload_n hx hb dJx4a65c_add_72be8_6 rfl (lv_at hl 0 rfl) ?_
    have hsz_24 := hh.2.2.2.2.2.1
    have htt_24 := hh.2.2.2.2.2.2.1
    refine W.room (fun hrc_24 hrs_24 => ?_)
    refine j_callx (A0 := jA base) (H0 := s.heap) (va_runV (As := []) (rest := []) ⟨hx, hb, hml, hown, hts⟩ (uJx4a65c_grow_d5877L1 l dC dI ca base B hB hAp hB1 hB3 hB221 G0 s.heap r0 r2 n2 lz wl LC LS) (cwV 0 hts (jgV (jWr_33 _ (List.mem_of_getElem? (i := 17) rfl)) (jWr_33 _ (List.mem_of_getElem? (i := 18) rfl)) (jWr_33 _ (List.mem_of_getElem? (i := 19) rfl)) (jWr_2 _ (List.mem_of_getElem? (i := 13) rfl)) (jWr_33 _ (List.mem_of_getElem? (i := 20) rfl))) rfl rfl rfl (by decide +kernel) ⟨by rw [← hR]; exact Nat.le_of_ble_eq_true rfl, by rw [← hR]; exact Nat.le_of_ble_eq_true rfl⟩) ⟨fun a U g mk q => by obtain ⟨q0, q1, q2, qK, q10, q11, q12, q13, q14, q15⟩ := q; exact ⟨q0, q1, q2, jG.calling g mk a qK, (jK7.calling g mk a q10), q11, q12, q13, q14, q15⟩, hh.recv (C := RJx4a65c) (T := TJx4a65c) (N := 3) hB1 rfl (by decide) hg_r0 hK, fun U hU hW => ⟨rfl, hU, hh.2.1, hG.step hW hU hh.1, (hK7.step hW hU hh.1), hg_r0, hg_r2, (hh.2.2.1.sub (L1 := [(r0, 1, 1, .ref r2), (r0, 1, 2, .int lz)]) [0, 1] rfl), (hh.2.2.2.2.2.2.2.2.sub (L1 := [(jFl, jLs dC dI ca G0 3 none wl)]) [0] rfl), by first | omega | (refine ⟨?_, ?_⟩ <;> (first | omega | rfl | assumption | decide | exact Or.inl rfl | exact Or.inr rfl | (simp only; omega)))⟩⟩ rfl rfl hl.1 rfl (lv_room (Nat.le_of_ble_eq_true rfl)) dJx4a65c_add_72be8_7 ⟨by rw [hRc]; omega, by rw [hRs]; omega⟩) hh.1 (fun q _ h => h) (fun q h => h) (fun r_25 u_24 t_24 H_24 locs_24 ht_24 hvm_24 hr_25 hb_24 hz_24 hk_24 hS_24 => ?_)
    rw [ht_24] at hb_24
    obtain ⟨qa_24, m_qa_24, G_24⟩ := u_24
    simp only at hb_24
    obtain ⟨⟨hb_241, hb_242, hb_243, hb_244, hb_245, hb_246⟩, hgq_24_0, hN_24, hbE_24⟩ := hb_24
    have hh_24 : jSt (dC, dI) B base G0 G_24 EJx4a65c_add_72be8L1 s.heap (0 + (1)) (0 + (40)) [(r0, 1, 1, .ref qa_24), (r0, 1, 2, .int lz)] [] [] H_24 locs_24 := (hh.callG hb_241 hb_242 hb_243 hb_244 hb_245 hS_24 rfl (L1 := [(r0, 1, 2, .int lz)]) [1] rfl rfl (M1 := []) [] rfl rfl (I1 := []) [] rfl rfl).more hb_246
    have hNn_24 : (jNk [0, 1, 2, 3, 4, 5, 6, 7, 8, 9, 10, 11, 12, 13, 14, 15, 16]) G0 G_24 := (jNk.rf).tr hN_24
    have hg_26 := hb_242 _ _ hg_r0
    have hg_27 := hb_242 _ _ hg_r1
    have hg_28 := hb_242 _ _ hg_r2
    have hh_29 := hh_24.addIs hbE_24
    obtain ⟨rfl, hr_25p⟩ := hr_25
    try simp only at hr_25p
    obtain ⟨hr_25p_0, hr_25p_1⟩ := hr_25p
    refine lv_astore_n (lv' := [(2, .ref qa_24), (0, .ref r0), (1, .ref r1), (3, .int a3)]) hx hb dJx4a65c_add_72be8_10 rfl hl (by decide) rfl (fun ls hl => ?_)
    obtain ⟨lz_30, lx_30, hl1_30, hl2_30, hl3_30, hl4_30⟩ := jLs.at (hh_29.iv 0 rfl) hg_26
    obtain rfl : lz = lz_30 := Value.int.inj (jf.uniq (hh_29.at 1 rfl) hl1_30)
    have hl3_30 : 0 ≤ lz.toInt ∧ lz.toInt ≤ 3 := hl3_30
    obtain rfl : qa_24 = lx_30 := Value.ref.inj (jf.uniq (hh_29.at 0 rfl) hl2_30)
    rcases hl4_30 with ⟨hl9_30, hl5_30, hl0_30⟩ | ⟨lm_30, lf_30, hg_lx_30, hlm_30, hl6_30, hl7_30, hl8_30, hlw_30⟩
    · skip
      exact absurd (show base ≤ dI 99 0 by rw [← hl9_30]; exact (hh_29.ab hgq_24_0).1) (va_T.out hK7.2.2.2.2.2.2.2)
    · skip
      obtain rfl : m_qa_24 = lm_30 := by have h9 := Option.some.inj (hgq_24_0.symm.trans hg_lx_30); exact congrArg Prod.snd h9
      have hd_31 := jLs.less (hh_29.iv 0 rfl) r0
      have hh_32 := hh_29.sub (L1 := [(r0, 1, 1, .ref qa_24), (r0, 1, 2, .int lz)]) [0, 1] rfl (M1 := []) [] rfl (I1 := []) [] rfl
      clear hh_29
      have hh_33 := hh_32.addI (jLs.ie hd_31)
      clear hh_32
      have hh_34 := hh_33.addI (jQc.ie hl7_30 hg_lx_30 (by decide) (by decide))
      clear hh_33
      refine lv_aload_n hx hb dJx4a65c_add_72be8_11 rfl (lv_at hl 0 rfl) ?_
      refine lv_iload_n hx hb dJx4a65c_add_72be8_12 rfl (lv_at hl 3 rfl) ?_
      refine lv_aload_n hx hb dJx4a65c_add_72be8_13 rfl (lv_at hl 2 rfl) ?_
      have hd_36 := hh_34.iv 0 rfl
      have hd_37 := hh_34.iv 1 rfl
      have hh_39 := hh_34.sub (L1 := [(r0, 1, 1, .ref qa_24), (r0, 1, 2, .int lz)]) [0, 1] rfl (M1 := []) [] rfl (I1 := []) [] rfl
      clear hh_34
      refine j7_qastO hx hb hK hK7.1 hh_39 hB hB221 0 rfl (by decide) (by decide) rfl rfl rfl hgq_24_0 (x := a3.toInt) (rfl) (by omega) hB3 (T := TX1) (N := 17) rfl (by decide) hg_27 hK7.2.2.1.1.1 (Or.inr ⟨_, rfl, hg_27⟩) hd_36 dJx4a65c_add_72be8_14 (fun H_35 locs_35 fq_38 hv_35 ho_35 hq_35 hr_35 hh_35 => ?_)
      clear hh_39
      have hd_37n := jLs.arr hd_37 hg_26 hgq_24_0 hr_35
      have hh_40 := hh_35.addI (jLs.ie hd_37n)
      clear hh_35
      have hh_41 := hh_40.addI (hq_35.ie hgq_24_0 (by decide) (by decide))
      clear hh_40
      clear hd_36 hd_37 hd_37n hr_35
      refine lv_aload_n hx hb dJx4a65c_add_72be8_15 rfl (lv_at hl 1 rfl) ?_
      refine lv_iload_n hx hb dJx4a65c_add_72be8_16 rfl (lv_at hl 3 rfl) ?_
      refine lv_iconst (v := 1) hx hb dJx4a65c_add_72be8_17 (by decide) ?_
      refine lv_iadd hx hb dJx4a65c_add_72be8_18 ?_
      refine lv_topi (fun z_42 ez_42 => ?_)
      have hz_42 : z_42.toInt = a3.toInt + 1 := by rw [ez_42]; exact jb_iadd2 (rfl) ((by decide)) (by omega)
      have hd_44 := hh_41.iv 1 rfl
      have hh_45 := hh_41.sub (L1 := [(r0, 1, 1, .ref qa_24), (r0, 1, 2, .int lz)]) [0, 1] rfl (M1 := []) [] rfl (I1 := [([(221, 0)], jQc dC dI (ca 9) qa_24 m_qa_24 fq_38)]) [0] rfl
      clear hh_41
      refine j7_putX hx hb hown hK hh_45 hB hAp hB1 (C := RJx4a65c) (T := TJx4a65c) (N := 3) rfl (by decide) hg_26 (i := 2) (by decide) hly_1_2 rfl hlk_48 rfl (ty := .int) (v := .int z_42) (by decide +kernel) rfl rfl (⟨_, rfl, by omega, by omega⟩) rfl (L1 := [(r0, 1, 1, .ref qa_24)]) [0] rfl rfl rfl dJx4a65c_add_72be8_19 (fun H_43 locs_43 hr_43 hh_43 => ?_)
      clear hh_45
      have hd_44n := jLs.fld hd_44 hg_26 hr_43
      have hh_46 := hh_43.addI (jLs.ie hd_44n)
      clear hh_43
      clear hd_44 hd_44n hr_43
      have hd_47 := jLs.full (wn := (wl.1 + 1, jUf wl.2 (wl.1).toNat (some r1))) (hh_46.iv 0 rfl) hg_26 ⟨_, _, hh_46.at 0 rfl, hh_46.at 1 rfl, ⟨by omega, (show _ ≤ (3 : Int) by omega)⟩, Or.inr ⟨_, _, hgq_24_0, by omega, by omega, hh_46.iv 1 rfl, jAd.put hl8_30 (by omega) (by omega) (by omega) (by omega) hv_35 ho_35, jWk.put hlw_30 (by omega) (by omega) (by omega) (by omega) hv_35 ho_35⟩⟩ (fun q => absurd rfl q)
      have hh_48 := hh_46.sub (L1 := [(r0, 1, 2, .int z_42), (r0, 1, 1, .ref qa_24)]) [0, 1] rfl (M1 := []) [] rfl (I1 := [([(221, 0)], jQc dC dI (ca 9) qa_24 m_qa_24 fq_38)]) [1] rfl
      clear hh_46
      have hh_49 := hh_48.addI (jLs.ie hd_47)
      clear hh_48
      have hsz_50 := hh_49.2.2.2.2.2.1
      have htt_50 := hh_49.2.2.2.2.2.2.1
      refine W.room (fun hrc_50 hrs_50 => ?_)
      refine W.widen (k := LC - s.heap.size) (n := LS - jTot s.heap) (by omega) (by omega) ?_
      rw [hQ]
      exact W.vret hx hb hr (fun t ht hW => ⟨⟨(z_42, G_24), rfl, by (try dsimp only); first | omega | rfl | assumption | fail, ⟨hh_49.ra (by first | (simp only; omega) | omega) (by first | (simp only; omega) | omega) (M1 := [(r0, 1, 2, .int z_42)]) [0] rfl ht, hNn_24, by rw [ht]; exact hh_49.2.2.2.2.2.2.2.2.sub (L1 := [(jFl, jLs dC dI ca G_24 3 none (wl.1 + 1, jUf wl.2 (wl.1).toNat (some r1)))]) [0] rfl⟩⟩, by rw [ht]; try exact hh_49.1.1, fun q h9 hq => by rw [ht]; try exact hh_49.1.2.1 q h9 hq⟩) hh_49.1.2.2 dJx4a65c_add_72be8_22
set_option maxHeartbeats 4000000 in
set_option maxRecDepth 20000 in
theorem uJx4a65c_add_9ea2dL1 (l : Launch) (dC : Nat → ClassId) (dI : Nat → Nat → Nat) (ca : Nat → ClassId) (base : Nat) (B : jF) (hB : jBok B) (hAp : jAp (dC, dI)) (hB1 : ∀ n G a H, B 1 n G a H ↔ jOb (dC, dI) 1 3 (F1 n G) a H) (hB3 : ∀ n G a H, B 3 n G a H ↔ jOb (dC, dI) 3 17 (F3 n G) a H) (hB221 : ∀ n G a H, B 221 n G a H ↔ jAq (dC, dI) (ca 9) (jQn 3 0) n G a H) (G0 : jT) (H0 : Heap) (r0 : Nat) (r1 : Nat) (lz : Int32) (wl : jWl9) (LC LS : Nat) : Met l yJx4a65c_add_9ea2d (jw yJx4a65c_add_9ea2d cJx4a65c_add_9ea2d 2 (some .boolean)) ({ frames := 6, cells := LC - H0.size, slots := LS - jTot H0, locals := 171 }) (va_Pc [.ref r0, .ref r1] (fun U => U.heap = H0 ∧ jX B base G0 [] H0 ∧ jG dC dI ca base U ∧ jK7 dC dI ca base U ∧ G0 r0 = some (1, 1) ∧ G0 r1 = some (3, 0) ∧ jP (dC, dI) G0 H0 [(r0, 1, 2, .int lz)] ∧ jIs (dC, dI) G0 H0 [(jFl, jLs dC dI ca G0 3 none wl)] ∧ H0.size + 1 ≤ LC ∧ jTot H0 + 40 ≤ LS ∧ 0 ≤ lz.toInt ∧ lz.toInt < 3)) (va_Qi (S := Int32 × jT) (fun r u => (r = 0 ∨ r = 1) ∧ (u.1.toInt = lz.toInt + 1)) (fun u t => jRa (dC, dI) B base G0 u.2 EJx4a65c_add_9ea2dL1 H0 (1) (40) [(r0, 1, 2, .int u.1)] t.heap ∧ (jNk [0, 1, 2, 3, 4, 5, 6, 7, 8, 9, 10, 11, 12, 13, 14, 15, 16]) G0 u.2 ∧ jIs (dC, dI) u.2 t.heap [(jFl, jLs dC dI ca u.2 3 none (wl.1 + 1, jUf wl.2 (wl.1).toNat (some r1)))]) (jA base)) (LC - H0.size) (LS - jTot H0) (jA base) := by
  refine Met.ofW (cc := cJx4a65c_add_9ea2d) (maxL := 2) (ret := (some .boolean)) (by decide) rfl ?_
  intro p e s m args below meth c s₁ Bd hml hv
  obtain ⟨rfl, hH0, hX, hG, hK7, hg_r0, hg_r1, hP0, hI0, hLC0, hLS0, hp0, hp1⟩ := hv
  have hK := hG.1
  have hx := Bd.exec
  have hb := Bd.bytes
  have hr := Bd.returns
  have hts := atoms_spec (ws := (jw yJx4a65c_add_9ea2d cJx4a65c_add_9ea2d 2 (some .boolean))) Bd.pre
  have htw : ∀ w ∈ jWl, w.before _ s = true := fun w h => hts w (List.mem_cons_of_mem _ h)
  have hown : s.vm.findClass RJx4a65c = some m.cls := findClass_of_methodNamed Bd.named
  have hlocks := Bd.notSynchronized
  obtain ⟨Q, hQ⟩ : ∃ Q, Q = MQ below (va_Qi (S := Int32 × jT) (fun r u => (r = 0 ∨ r = 1) ∧ (u.1.toInt = lz.toInt + 1)) (fun u t => jRa (dC, dI) B base G0 u.2 EJx4a65c_add_9ea2dL1 H0 (1) (40) [(r0, 1, 2, .int u.1)] t.heap ∧ (jNk [0, 1, 2, 3, 4, 5, 6, 7, 8, 9, 10, 11, 12, 13, 14, 15, 16]) G0 u.2 ∧ jIs (dC, dI) u.2 t.heap [(jFl, jLs dC dI ca u.2 3 none (wl.1 + 1, jUf wl.2 (wl.1).toNat (some r1)))]) (jA base)) ([.ref r0, .ref r1] : List Value).toArray s (LC - H0.size) (LS - jTot H0) (jA base) := ⟨_, rfl⟩
  rw [← hQ]
  have hl := lv_entry ([.ref r0, .ref r1]) (n := 2) (Nat.le_of_ble_eq_true rfl)
  rw [lg_entry_eq]
  generalize (lg_sl ([.ref r0, .ref r1]) ++ List.replicate (2 - (lg_sl ([.ref r0, .ref r1])).length) Slot.unset).toArray = ls at hl ⊢
  have hl : lv_has ls 2 [(0, .ref r0), (1, .ref r1)] := hl
  generalize hR : (headSpec (jw yJx4a65c_add_9ea2d cJx4a65c_add_9ea2d 2 (some .boolean)) ({ frames := 6, cells := LC - H0.size, slots := LS - jTot H0, locals := 171 })).room = R
  subst hH0
  have hh : jSt (dC, dI) B base G0 G0 EJx4a65c_add_9ea2dL1 s.heap 0 0 [(r0, 1, 2, .int lz)] [] [(jFl, jLs dC dI ca G0 3 none wl)] s.heap [] := jSt.start hX hP0 jMc.nil hI0
  clear hX hP0
  have hk0 : (0 : Int32).toInt = 0 := by decide
  have hk1 : (1 : Int32).toInt = 1 := by decide
  have hly_1_0 := htw (u_lay RJx4a65c TJx4a65c 0) (jWc_wsJx4a65c0 _ (u_in_lay (by decide)))
  have hly_1_1 := htw (u_lay RJx4a65c TJx4a65c 1) (jWc_wsJx4a65c0 _ (u_in_lay (by decide)))
  have hly_1_2 := htw (u_lay RJx4a65c TJx4a65c 2) (jWc_wsJx4a65c0 _ (u_in_lay (by decide)))
  have hlk_63 := (htw (.fieldLink RJx4a65c 63 "java/util/ArrayList" "modCount" "I") (jWr_33 _ (List.mem_of_getElem? (i := 11) rfl)))
  have hlk_9 := (htw (.fieldLink RJx4a65c 9 "java/util/ArrayList" "elementData" "[Ljava/lang/Object;") (jWr_9 _ (List.mem_of_getElem? (i := 15) rfl)))
  have hlk_48 := (htw (.fieldLink RJx4a65c 48 "java/util/ArrayList" "size" "I") (jWr_28 _ (List.mem_of_getElem? (i := 2) rfl)))
  have hbs : base ≤ s.heap.size := Nat.le_of_lt (Nat.lt_of_le_of_lt (hh.ab hg_r0).1 (hh.ab hg_r0).2)
  have hRc : R.cells = LC - s.heap.size := by rw [← hR]; rfl
  have hRs : R.slots = LS - jTot s.heap := by rw [← hR]; rfl
  refine lv_aload_n hx hb dJx4a65c_add_9ea2d_0 rfl (lv_at hl 0 rfl) ?_
  refine lv_dup hx hb dJx4a65c_add_9ea2d_1 rfl ?_
  obtain ⟨v_1, hv_1, hh_2⟩ := hh.pin (C := RJx4a65c) (T := TJx4a65c) (N := 3) hB1 rfl (by decide) hg_r0 (i := 0) (by decide) rfl
  clear hh
  obtain ⟨modCount_3, rfl⟩ := hv_1
  refine j7_readS hx hb hown hK (C := RJx4a65c) (T := TJx4a65c) (N := 3) rfl hly_1_0 hlk_63 (htw (.sameField "java/util/ArrayList" "java/util/AbstractList" "modCount" "I") (jWr_33 _ (List.mem_of_getElem? (i := 12) rfl))) (hh_2.at 0 rfl) dJx4a65c_add_9ea2d_2 ?_
  refine lv_iconst (v := 1) hx hb dJx4a65c_add_9ea2d_5 (by decide) ?_
  refine lv_iadd hx hb dJx4a65c_add_9ea2d_6 ?_
  refine lv_topi (fun z_4 ez_4 => ?_)
  refine j7_putS hx hb hown hK hh_2 hB hAp hB1 (C := RJx4a65c) (T := TJx4a65c) (N := 3) rfl (by decide) hg_r0 (i := 0) (by decide) hly_1_0 rfl hlk_63 (htw (.sameField "java/util/ArrayList" "java/util/AbstractList" "modCount" "I") (jWr_33 _ (List.mem_of_getElem? (i := 12) rfl))) rfl (ty := .int) (v := .int z_4) (by decide +kernel) rfl rfl (⟨_, rfl⟩) rfl (L1 := [(r0, 1, 2, .int lz)]) [1] rfl rfl rfl dJx4a65c_add_9ea2d_7 (fun H_5 locs_5 hr_5 hh_5 => ?_)
  clear hh_2
  clear hr_5
  obtain ⟨lz_6, lx_6, hl1_6, hl2_6, hl3_6, hl4_6⟩ := jLs.at (hh_5.iv 0 rfl) hg_r0
  obtain rfl : lz = lz_6 := Value.int.inj (jf.uniq (hh_5.at 1 rfl) hl1_6)
  have hl3_6 : 0 ≤ lz.toInt ∧ lz.toInt ≤ 3 := hl3_6
  rcases hl4_6 with ⟨rfl, hl5_6, hl0_6⟩ | ⟨lm_6, lf_6, hg_lx_6, hlm_6, hl6_6, hl7_6, hl8_6, hlw_6⟩
  · skip
    have hh_7 := hh_5.more (P1 := [(r0, 1, 1, .ref (dI 99 0))]) (jP.cons hg_r0 hl2_6 jP.nil)
    clear hh_5
    refine lv_aload_n hx hb dJx4a65c_add_9ea2d_10 rfl (lv_at hl 0 rfl) ?_
    refine lv_aload_n hx hb dJx4a65c_add_9ea2d_11 rfl (lv_at hl 1 rfl) ?_
    refine lv_aload_n hx hb dJx4a65c_add_9ea2d_12 rfl (lv_at hl 0 rfl) ?_
    refine j7_read hx hb hown hK (C := RJx4a65c) (T := TJx4a65c) (N := 3) rfl hly_1_1 hlk_9 (hh_7.at 0 rfl) dJx4a65c_add_9ea2d_13 ?_
    refine lv_aload_n hx hb dJx4a65c_add_9ea2d_16 rfl (lv_at hl 0 rfl) ?_
    refine j7_read hx hb hown hK (C := RJx4a65c) (T := TJx4a65c) (N := 3) rfl hly_1_2 hlk_48 (hh_7.at 2 rfl) dJx4a65c_add_9ea2d_17 ?_
    have hsz_8 := hh_7.2.2.2.2.2.1
    have htt_8 := hh_7.2.2.2.2.2.2.1
    refine W.room (fun hrc_8 hrs_8 => ?_)
    refine va_callv (A0 := jA base) (H0 := s.heap) (va_runV (As := [.ref r1, .ref (dI 99 0), .int lz]) (rest := []) ⟨hx, hb, hml, hown, hts⟩ (uJx4a65c_add_72be8E1 l dC dI ca base B hB hAp hB1 hB3 hB221 G0 H_5 r0 r1 lz lz wl LC LS) (cwV 3 hts (jgV (jWr_33 _ (List.mem_of_getElem? (i := 13) rfl)) (jWr_33 _ (List.mem_of_getElem? (i := 14) rfl)) (jWr_33 _ (List.mem_of_getElem? (i := 15) rfl)) (jWr_2 _ (List.mem_of_getElem? (i := 13) rfl)) (jWr_33 _ (List.mem_of_getElem? (i := 16) rfl))) rfl rfl rfl (by decide +kernel) ⟨by rw [← hR]; exact Nat.le_of_ble_eq_true rfl, by rw [← hR]; exact Nat.le_of_ble_eq_true rfl⟩) ⟨fun a U g mk q => by obtain ⟨q0, q1, q2, qK, q10, q11, q12, q13, q14, q15⟩ := q; exact ⟨q0, q1, q2, jG.calling g mk a qK, (jK7.calling g mk a q10), q11, q12, q13, q14, q15⟩, hh_7.recv (C := RJx4a65c) (T := TJx4a65c) (N := 3) hB1 rfl (by decide) hg_r0 hK, fun U hU hW => ⟨rfl, hU, hh_7.2.1, hG.step hW hU hh_7.1, (hK7.step hW hU hh_7.1), hg_r0, hg_r1, (hh_7.2.2.1.sub (L1 := [(r0, 1, 1, .ref (dI 99 0)), (r0, 1, 2, .int lz)]) [0, 2] rfl), (hh_7.2.2.2.2.2.2.2.2.sub (L1 := [(jFl, jLs dC dI ca G0 3 none wl)]) [0] rfl), by first | omega | (refine ⟨?_, ?_⟩ <;> (first | omega | rfl | assumption | decide | exact Or.inl rfl | exact Or.inr rfl | (simp only; omega)))⟩⟩ rfl rfl hl.1 rfl (lv_room (Nat.le_of_ble_eq_true rfl)) dJx4a65c_add_9ea2d_20 ⟨by rw [hRc]; omega, by rw [hRs]; omega⟩) hh_7.1 (fun q _ h => h) (fun q h => h) (fun u_8 t_8 H_8 locs_8 ht_8 hvm_8 hr_9 hb_8 hz_8 hk_8 hS_8 => ?_)
    obtain ⟨qz_8, G_8⟩ := u_8
    rw [ht_8] at hb_8
    simp only at hb_8
    obtain ⟨⟨hb_81, hb_82, hb_83, hb_84, hb_85, hb_86⟩, hN_8, hbE_8⟩ := hb_8
    have hh_8 : jSt (dC, dI) B base G0 G_8 EJx4a65c_add_9ea2dL1 s.heap (0 + (1)) (0 + (40)) [(r0, 1, 2, .int qz_8), (r0, 1, 0, .int z_4)] [] [] H_8 locs_8 := (hh_7.callG hb_81 hb_82 hb_83 hb_84 hb_85 hS_8 rfl (L1 := [(r0, 1, 0, .int z_4)]) [1] rfl rfl (M1 := []) [] rfl rfl (I1 := []) [] rfl rfl).more hb_86
    have hNn_8 : (jNk [0, 1, 2, 3, 4, 5, 6, 7, 8, 9, 10, 11, 12, 13, 14, 15, 16]) G0 G_8 := (jNk.rf).tr hN_8
    have hg_10 := hb_82 _ _ hg_r0
    have hg_11 := hb_82 _ _ hg_r1
    have hh_12 := hh_8.addIs hbE_8
    try simp only at hr_9
    refine lv_iconst (v := 1) hx hb dJx4a65c_add_9ea2d_23 (by decide) ?_
    have hsz_13 := hh_12.2.2.2.2.2.1
    have htt_13 := hh_12.2.2.2.2.2.2.1
    refine W.room (fun hrc_13 hrs_13 => ?_)
    refine W.widen (k := LC - s.heap.size) (n := LS - jTot s.heap) (by omega) (by omega) ?_
    rw [hQ]
    exact W.zret (v := 1) hx hb hr (jb_nz (Or.inr rfl)) (fun t ht hW => ⟨⟨1, (qz_8, G_8), rfl, ⟨(Or.inr rfl), by (try dsimp only); first | omega | rfl | assumption | fail⟩, ⟨hh_12.ra (by first | (simp only; omega) | omega) (by first | (simp only; omega) | omega) (M1 := [(r0, 1, 2, .int qz_8)]) [0] rfl ht, hNn_8, by rw [ht]; exact hh_12.2.2.2.2.2.2.2.2.sub (L1 := [(jFl, jLs dC dI ca G_8 3 none (wl.1 + 1, jUf wl.2 (wl.1).toNat (some r1)))]) [0] rfl⟩⟩, by rw [ht]; try exact hh_12.1.1, fun q h9 hq => by rw [ht]; try exact hh_12.1.2.1 q h9 hq⟩) hh_12.1.2.2 dJx4a65c_add_9ea2d_24
  · skip
    have hh_14 := hh_5.more (P1 := [(r0, 1, 1, .ref lx_6)]) (jP.cons hg_r0 hl2_6 jP.nil)
    clear hh_5
    have hh_15 := hh_14.addI (jQc.ie hl7_6 hg_lx_6 (by decide) (by decide))
    clear hh_14
    refine lv_aload_n hx hb dJx4a65c_add_9ea2d_10 rfl (lv_at hl 0 rfl) ?_
    refine lv_aload_n hx hb dJx4a65c_add_9ea2d_11 rfl (lv_at hl 1 rfl) ?_
    refine lv_aload_n hx hb dJx4a65c_add_9ea2d_12 rfl (lv_at hl 0 rfl) ?_
    refine j7_read hx hb hown hK (C := RJx4a65c) (T := TJx4a65c) (N := 3) rfl hly_1_1 hlk_9 (hh_15.at 0 rfl) dJx4a65c_add_9ea2d_13 ?_
    refine lv_aload_n hx hb dJx4a65c_add_9ea2d_16 rfl (lv_at hl 0 rfl) ?_
    refine j7_read hx hb hown hK (C := RJx4a65c) (T := TJx4a65c) (N := 3) rfl hly_1_2 hlk_48 (hh_15.at 2 rfl) dJx4a65c_add_9ea2d_17 ?_
    have hsz_16 := hh_15.2.2.2.2.2.1
    have htt_16 := hh_15.2.2.2.2.2.2.1
    refine W.room (fun hrc_16 hrs_16 => ?_)
    refine va_callv (A0 := jA base) (H0 := s.heap) (va_runV (As := [.ref r1, .ref lx_6, .int lz]) (rest := []) ⟨hx, hb, hml, hown, hts⟩ (uJx4a65c_add_72be8L1 l dC dI ca base B hB hAp hB1 hB3 hB221 G0 H_5 r0 r1 lx_6 lz lm_6 lz wl LC LS) (cwV 3 hts (jgV (jWr_33 _ (List.mem_of_getElem? (i := 13) rfl)) (jWr_33 _ (List.mem_of_getElem? (i := 14) rfl)) (jWr_33 _ (List.mem_of_getElem? (i := 15) rfl)) (jWr_2 _ (List.mem_of_getElem? (i := 13) rfl)) (jWr_33 _ (List.mem_of_getElem? (i := 16) rfl))) rfl rfl rfl (by decide +kernel) ⟨by rw [← hR]; exact Nat.le_of_ble_eq_true rfl, by rw [← hR]; exact Nat.le_of_ble_eq_true rfl⟩) ⟨fun a U g mk q => by obtain ⟨q0, q1, q2, qK, q10, q11, q12, q13, q14, q15, q16⟩ := q; exact ⟨q0, q1, q2, jG.calling g mk a qK, (jK7.calling g mk a q10), q11, q12, q13, q14, q15, q16⟩, hh_15.recv (C := RJx4a65c) (T := TJx4a65c) (N := 3) hB1 rfl (by decide) hg_r0 hK, fun U hU hW => ⟨rfl, hU, hh_15.2.1, hG.step hW hU hh_15.1, (hK7.step hW hU hh_15.1), hg_r0, hg_r1, hg_lx_6, (hh_15.2.2.1.sub (L1 := [(r0, 1, 1, .ref lx_6), (r0, 1, 2, .int lz)]) [0, 2] rfl), (hh_15.2.2.2.2.2.2.2.2.sub (L1 := [(jFl, jLs dC dI ca G0 3 none wl)]) [1] rfl), by first | omega | (refine ⟨?_, ?_, ?_, ?_⟩ <;> (first | omega | rfl | assumption | decide | exact Or.inl rfl | exact Or.inr rfl | (simp only; omega)))⟩⟩ rfl rfl hl.1 rfl (lv_room (Nat.le_of_ble_eq_true rfl)) dJx4a65c_add_9ea2d_20 ⟨by rw [hRc]; omega, by rw [hRs]; omega⟩) hh_15.1 (fun q _ h => h) (fun q h => h) (fun u_16 t_16 H_16 locs_16 ht_16 hvm_16 hr_17 hb_16 hz_16 hk_16 hS_16 => ?_)
    obtain ⟨qz_16, G_16⟩ := u_16
    rw [ht_16] at hb_16
    simp only at hb_16
    obtain ⟨⟨hb_161, hb_162, hb_163, hb_164, hb_165, hb_166⟩, hN_16, hbE_16⟩ := hb_16
    have hh_16 : jSt (dC, dI) B base G0 G_16 EJx4a65c_add_9ea2dL1 s.heap (0 + (1)) (0 + (40)) [(r0, 1, 2, .int qz_16), (r0, 1, 0, .int z_4)] [] [] H_16 locs_16 := (hh_15.callG hb_161 hb_162 hb_163 hb_164 hb_165 hS_16 rfl (L1 := [(r0, 1, 0, .int z_4)]) [1] rfl rfl (M1 := []) [] rfl rfl (I1 := []) [] rfl rfl).more hb_166
    have hNn_16 : (jNk [0, 1, 2, 3, 4, 5, 6, 7, 8, 9, 10, 11, 12, 13, 14, 15, 16]) G0 G_16 := (jNk.rf).tr hN_16
    have hg_18 := hb_162 _ _ hg_r0
    have hg_19 := hb_162 _ _ hg_r1
    have hh_20 := hh_16.addIs hbE_16
    try simp only at hr_17
    refine lv_iconst (v := 1) hx hb dJx4a65c_add_9ea2d_23 (by decide) ?_
    have hsz_21 := hh_20.2.2.2.2.2.1
    have htt_21 := hh_20.2.2.2.2.2.2.1
    refine W.room (fun hrc_21 hrs_21 => ?_)
    refine W.widen (k := LC - s.heap.size) (n := LS - jTot s.heap) (by omega) (by omega) ?_
    rw [hQ]
    exact W.zret (v := 1) hx hb hr (jb_nz (Or.inr rfl)) (fun t ht hW => ⟨⟨1, (qz_16, G_16), rfl, ⟨(Or.inr rfl), by (try dsimp only); first | omega | rfl | assumption | fail⟩, ⟨hh_20.ra (by first | (simp only; omega) | omega) (by first | (simp only; omega) | omega) (M1 := [(r0, 1, 2, .int qz_16)]) [0] rfl ht, hNn_16, by rw [ht]; exact hh_20.2.2.2.2.2.2.2.2.sub (L1 := [(jFl, jLs dC dI ca G_16 3 none (wl.1 + 1, jUf wl.2 (wl.1).toNat (some r1)))]) [0] rfl⟩⟩, by rw [ht]; try exact hh_20.1.1, fun q h9 hq => by rw [ht]; try exact hh_20.1.2.1 q h9 hq⟩) hh_20.1.2.2 dJx4a65c_add_9ea2d_24
end
section
theorem dX11_addressed_0 : decode cX11_addressed 0 = .ok (.aload_n 0, 1) := by decide +kernel
theorem dX11_addressed_1 : decode cX11_addressed 1 = .ok (.getfield 28, 3) := by decide +kernel
theorem dX11_addressed_4 : decode cX11_addressed 4 = .ok (.aload_n 0, 1) := by decide +kernel
theorem dX11_addressed_5 : decode cX11_addressed 5 = .ok (.getfield 28, 3) := by decide +kernel
theorem dX11_addressed_8 : decode cX11_addressed 8 = .ok (.aload_n 0, 1) := by decide +kernel
theorem dX11_addressed_9 : decode cX11_addressed 9 = .ok (.getfield 28, 3) := by decide +kernel
theorem dX11_addressed_12 : decode cX11_addressed 12 = .ok (.iconst 0, 1) := by decide +kernel
theorem dX11_addressed_13 : decode cX11_addressed 13 = .ok (.ldc_w 271, 3) := by decide +kernel
theorem dX11_addressed_16 : decode cX11_addressed 16 = .ok (.invokevirtual 260, 3) := by decide +kernel
theorem dX11_addressed_19 : decode cX11_addressed 19 = .ok (.ldc_w 344, 3) := by decide +kernel
theorem dX11_addressed_22 : decode cX11_addressed 22 = .ok (.invokevirtual 260, 3) := by decide +kernel
theorem dX11_addressed_25 : decode cX11_addressed 25 = .ok (.ldc_w 346, 3) := by decide +kernel
theorem dX11_addressed_28 : decode cX11_addressed 28 = .ok (.invokevirtual 260, 3) := by decide +kernel
theorem dX11_addressed_31 : decode cX11_addressed 31 = .ok (.istore_n 1, 1) := by decide +kernel
theorem dX11_addressed_32 : decode cX11_addressed 32 = .ok (.iconst 0, 1) := by decide +kernel
theorem dX11_addressed_33 : decode cX11_addressed 33 = .ok (.istore_n 2, 1) := by decide +kernel
theorem dX11_addressed_34 : decode cX11_addressed 34 = .ok (.iload_n 2, 1) := by decide +kernel
theorem dX11_addressed_35 : decode cX11_addressed 35 = .ok (.aload_n 0, 1) := by decide +kernel
theorem dX11_addressed_36 : decode cX11_addressed 36 = .ok (.getfield 61, 3) := by decide +kernel
theorem dX11_addressed_39 : decode cX11_addressed 39 = .ok (.invokeinterface 142 1, 5) := by decide +kernel
theorem dX11_addressed_44 : decode cX11_addressed 44 = .ok (.if_icmp .ge 50, 3) := by decide +kernel
theorem dX11_addressed_47 : decode cX11_addressed 47 = .ok (.aload_n 0, 1) := by decide +kernel
theorem dX11_addressed_48 : decode cX11_addressed 48 = .ok (.getfield 28, 3) := by decide +kernel
theorem dX11_addressed_51 : decode cX11_addressed 51 = .ok (.iload_n 1, 1) := by decide +kernel
theorem dX11_addressed_52 : decode cX11_addressed 52 = .ok (.aload_n 0, 1) := by decide +kernel
theorem dX11_addressed_53 : decode cX11_addressed 53 = .ok (.getfield 61, 3) := by decide +kernel
theorem dX11_addressed_56 : decode cX11_addressed 56 = .ok (.iload_n 2, 1) := by decide +kernel
theorem dX11_addressed_57 : decode cX11_addressed 57 = .ok (.invokeinterface 249 2, 5) := by decide +kernel
theorem dX11_addressed_62 : decode cX11_addressed 62 = .ok (.checkcast 71, 3) := by decide +kernel
theorem dX11_addressed_65 : decode cX11_addressed 65 = .ok (.getfield 348, 3) := by decide +kernel
theorem dX11_addressed_68 : decode cX11_addressed 68 = .ok (.invokevirtual 350, 3) := by decide +kernel
theorem dX11_addressed_71 : decode cX11_addressed 71 = .ok (.ifCond .eq 17, 3) := by decide +kernel
theorem dX11_addressed_74 : decode cX11_addressed 74 = .ok (.aload_n 0, 1) := by decide +kernel
theorem dX11_addressed_75 : decode cX11_addressed 75 = .ok (.getfield 61, 3) := by decide +kernel
theorem dX11_addressed_78 : decode cX11_addressed 78 = .ok (.iload_n 2, 1) := by decide +kernel
theorem dX11_addressed_79 : decode cX11_addressed 79 = .ok (.invokeinterface 249 2, 5) := by decide +kernel
theorem dX11_addressed_84 : decode cX11_addressed 84 = .ok (.checkcast 71, 3) := by decide +kernel
theorem dX11_addressed_87 : decode cX11_addressed 87 = .ok (.areturn, 1) := by decide +kernel
theorem dX11_addressed_88 : decode cX11_addressed 88 = .ok (.iinc 2 1, 3) := by decide +kernel
theorem dX11_addressed_91 : decode cX11_addressed 91 = .ok (.goto (-57), 3) := by decide +kernel
theorem dX11_addressed_94 : decode cX11_addressed 94 = .ok (.aconst_null, 1) := by decide +kernel
theorem dX11_addressed_95 : decode cX11_addressed 95 = .ok (.areturn, 1) := by decide +kernel
end
section
def EX1_sentenceBeginS : List (Nat × Nat) := []
def EX1_sentenceEndS : List (Nat × Nat) := []
set_option maxHeartbeats 4000000 in
set_option maxRecDepth 20000 in
theorem uX1_sentenceBeginS (l : Launch) (dC : Nat → ClassId) (dI : Nat → Nat → Nat) (ca : Nat → ClassId) (base : Nat) (B : jF) (hB : jBok B) (hAp : jAp (dC, dI)) (hB3 : ∀ n G a H, B 3 n G a H ↔ jOb (dC, dI) 3 17 (F3 n G) a H) (hB101 : ∀ n G a H, B 101 n G a H ↔ jAr (dC, dI) (ca 1) (fun j z => True) n a H) (hB173 : ∀ n G a H, B 173 n G a H ↔ jAr (dC, dI) (ca 1) (fun j z => True) n a H) (G0 : jT) (H0 : Heap) (r0 : Nat) (a1 : Int32) (n0 : Nat) (pl : Int32) : Met l yX1_sentenceBegin (jw yX1_sentenceBegin cX1_sentenceBegin 5 (some .int)) ({ frames := 2, cells := 0, slots := 0, locals := 46 }) (va_Pc [.ref r0, .int a1] (fun U => U.heap = H0 ∧ jX B base G0 [] H0 ∧ jG dC dI ca base U ∧ G0 r0 = some (3, n0) ∧ jP (dC, dI) G0 H0 [(r0, 3, 3, .int pl)] ∧ 0 ≤ a1.toInt ∧ a1.toInt ≤ pl.toInt ∧ pl.toInt ≤ 1500)) (va_Qi (S := Unit) (fun r u => (a1.toInt ≤ r.toInt ∧ r.toInt ≤ pl.toInt)) (fun u t => jRt (dC, dI) B base G0 EX1_sentenceBeginS H0 [] t.heap) (jA base)) 0 0 (jA base) := by
  refine Met.ofW (cc := cX1_sentenceBegin) (maxL := 5) (ret := (some .int)) (by decide) rfl ?_
  intro p e s m args below meth c s₁ Bd hml hv
  obtain ⟨rfl, hH0, hX, hG, hg_r0, hP0, hp0, hp1, hp2⟩ := hv
  have hK := hG.1
  have hx := Bd.exec
  have hb := Bd.bytes
  have hr := Bd.returns
  have hts := atoms_spec (ws := (jw yX1_sentenceBegin cX1_sentenceBegin 5 (some .int))) Bd.pre
  have htw : ∀ w ∈ jWl, w.before _ s = true := fun w h => hts w (List.mem_cons_of_mem _ h)
  have hown : s.vm.findClass RX1 = some m.cls := findClass_of_methodNamed Bd.named
  have hlocks := Bd.notSynchronized
  obtain ⟨Q, hQ⟩ : ∃ Q, Q = MQ below (va_Qi (S := Unit) (fun r u => (a1.toInt ≤ r.toInt ∧ r.toInt ≤ pl.toInt)) (fun u t => jRt (dC, dI) B base G0 EX1_sentenceBeginS H0 [] t.heap) (jA base)) ([.ref r0, .int a1] : List Value).toArray s 0 0 (jA base) := ⟨_, rfl⟩
  rw [← hQ]
  have hl := lv_entry ([.ref r0, .int a1]) (n := 5) (Nat.le_of_ble_eq_true rfl)
  rw [lg_entry_eq]
  generalize (lg_sl ([.ref r0, .int a1]) ++ List.replicate (5 - (lg_sl ([.ref r0, .int a1])).length) Slot.unset).toArray = ls at hl ⊢
  have hl : lv_has ls 5 [(0, .ref r0), (1, .int a1)] := hl
  generalize hR : (headSpec (jw yX1_sentenceBegin cX1_sentenceBegin 5 (some .int)) ({ frames := 2, cells := 0, slots := 0, locals := 46 })).room = R
  subst hH0
  have hh : jSt (dC, dI) B base G0 G0 EX1_sentenceBeginS s.heap 0 0 [(r0, 3, 3, .int pl)] [] [] s.heap [] := jSt.start hX hP0 jMc.nil jIs.nil
  clear hX hP0
  have hk0 : (0 : Int32).toInt = 0 := by decide
  have hk1 : (1 : Int32).toInt = 1 := by decide
  have hly_3_2 := htw (u_lay RX1 TX1 2) (jWc_wsX10 _ (u_in_lay (by decide)))
  have hly_3_3 := htw (u_lay RX1 TX1 3) (jWc_wsX10 _ (u_in_lay (by decide)))
  have hlk_42 := (htw (.fieldLink RX1 42 "ProofServer$Document" "length" "I") (jWr_29 _ (List.mem_of_getElem? (i := 5) rfl)))
  have hlk_15 := (htw (.fieldLink RX1 15 "ProofServer$Document" "text" "[I") (jWr_10 _ (List.mem_of_getElem? (i := 6) rfl)))
  have hrg_a1 := jb_rng a1
  refine lv_iload_n hx hb dX1_sentenceBegin_0 rfl (lv_at hl 1 rfl) ?_
  refine lv_istore_n (lv' := [(2, .int a1), (0, .ref r0), (1, .int a1)]) hx hb dX1_sentenceBegin_1 rfl hl (by decide) rfl (fun ls hl => ?_)
  refine lv_iconst (v := 0) hx hb dX1_sentenceBegin_2 (by decide) ?_
  refine lv_istore_n (lv' := [(3, .int 0), (2, .int a1), (0, .ref r0), (1, .int a1)]) hx hb dX1_sentenceBegin_3 rfl hl (by decide) rfl (fun ls hl => ?_)
  have L4 : ∀ (N : Nat) (v2_1 : Int32) (v3_1 : Int32) (H_1 : Heap) (locs_1 : List Loc), jSt (dC, dI) B base G0 G0 EX1_sentenceBeginS s.heap 0 0 [(r0, 3, 3, .int pl)] [] [] H_1 locs_1 → (a1.toInt ≤ v2_1.toInt ∧ v2_1.toInt ≤ pl.toInt ∧ 0 ≤ v3_1.toInt ∧ v3_1.toInt ≤ 1502) → (1502 - v3_1.toInt : Int) < N → ∀ ls : Array Slot, lv_has ls 5 [(0, .ref r0), (1, .int a1), (2, .int v2_1), (3, .int v3_1)] → W p l e R s m ([.ref r0, .int a1] : List Value).toArray below meth c H_1 locs_1 0 0 Q (F0 m 4 ls []) := by
    intro N
    induction N with
    | zero => intro v2_1 v3_1 H_1 locs_1 hh_1  hi_1 hm; exact absurd hm (by omega)
    | succ N L4 =>
      intro v2_1 v3_1 H_1 locs_1 hh_1  hi_1 hm_1 ls hl
      obtain ⟨hi_1_0, hi_1_1, hi_1_2, hi_1_3⟩ := hi_1
      refine lv_iload_n hx hb dX1_sentenceBegin_4 rfl (lv_at hl 3 rfl) ?_
      refine lv_aload_n hx hb dX1_sentenceBegin_5 rfl (lv_at hl 0 rfl) ?_
      refine j7_read hx hb hown hK (C := RX1) (T := TX1) (N := 17) rfl hly_3_3 hlk_42 (hh_1.at 0 rfl) dX1_sentenceBegin_6 ?_
      refine lv_icmp_gt (tgt := 68) hx hb dX1_sentenceBegin_9 (by decide) (fun c_2 => ?_) (fun c_2 => ?_)
      · skip
        have c_2' : v3_1.toInt > pl.toInt := jb_gt (rfl) (rfl) c_2
        refine lv_iload_n hx hb dX1_sentenceBegin_68 rfl (lv_at hl 2 rfl) ?_
        rw [hQ]
        exact W.iret (v := v2_1) hx hb hr (fun t ht hW => ⟨⟨v2_1, (), rfl, by first | omega | (refine ⟨?_, ?_⟩ <;> (first | omega | rfl | assumption | decide | exact Or.inl rfl | exact Or.inr rfl | (simp only; omega))), hh_1.rt (M1 := []) [] rfl ht⟩, by rw [ht]; try exact hh_1.1.1, fun q h9 hq => by rw [ht]; try exact hh_1.1.2.1 q h9 hq⟩) hh_1.1.2.2 dX1_sentenceBegin_69
      · skip
        have c_2' : v3_1.toInt ≤ pl.toInt := jb_gt_n (rfl) (rfl) c_2
        refine lv_iload_n hx hb dX1_sentenceBegin_12 rfl (lv_at hl 2 rfl) ?_
        refine lv_aload_n hx hb dX1_sentenceBegin_13 rfl (lv_at hl 0 rfl) ?_
        refine j7_read hx hb hown hK (C := RX1) (T := TX1) (N := 17) rfl hly_3_3 hlk_42 (hh_1.at 0 rfl) dX1_sentenceBegin_14 ?_
        refine lv_icmp_ge (tgt := 68) hx hb dX1_sentenceBegin_17 (by decide) (fun c_3 => ?_) (fun c_3 => ?_)
        · skip
          have c_3' : v2_1.toInt ≥ pl.toInt := jb_ge (rfl) (rfl) c_3
          refine lv_iload_n hx hb dX1_sentenceBegin_68 rfl (lv_at hl 2 rfl) ?_
          rw [hQ]
          exact W.iret (v := v2_1) hx hb hr (fun t ht hW => ⟨⟨v2_1, (), rfl, by first | omega | (refine ⟨?_, ?_⟩ <;> (first | omega | rfl | assumption | decide | exact Or.inl rfl | exact Or.inr rfl | (simp only; omega))), hh_1.rt (M1 := []) [] rfl ht⟩, by rw [ht]; try exact hh_1.1.1, fun q h9 hq => by rw [ht]; try exact hh_1.1.2.1 q h9 hq⟩) hh_1.1.2.2 dX1_sentenceBegin_69
        · skip
          have c_3' : v2_1.toInt < pl.toInt := jb_ge_n (rfl) (rfl) c_3
          refine lv_aload_n hx hb dX1_sentenceBegin_20 rfl (lv_at hl 0 rfl) ?_
          obtain ⟨v_4, hv_4, hh_5⟩ := hh_1.pin (C := RX1) (T := TX1) (N := 17) hB3 rfl (by decide) hg_r0 (i := 2) (by decide) rfl
          clear hh_1
          obtain ⟨text_6, rfl, hg_text_6⟩ := hv_4
          refine j7_read hx hb hown hK (C := RX1) (T := TX1) (N := 17) rfl hly_3_2 hlk_15 (hh_5.at 0 rfl) dX1_sentenceBegin_21 ?_
          refine lv_iload_n hx hb dX1_sentenceBegin_24 rfl (lv_at hl 2 rfl) ?_
          refine j7_iald hx hb hK hh_5 hB173 1 rfl (by decide) hg_text_6 (x := v2_1.toInt) (rfl) (by omega) dX1_sentenceBegin_25 (fun z_7 (hz_7 : True) => ?_)
          refine vp_callSi (va_Run.run (va_runSN (As := [.int z_7]) (rest := []) ⟨hx, hb, hml, hown, hts⟩ (wX11_isBlank l dC dI ca base H_1 z_7) ⟨va_cnB 1 hts (jgW (jWr_20 _ (List.mem_of_getElem? (i := 0) rfl))) rfl rfl rfl (hG.2.2.1 RX1 87 yX11_isBlank "ProofServer" (List.mem_of_getElem? (i := 1119) (by decide +kernel))) (htw (.initialized RX11) (jWr_1 _ (List.mem_of_getElem? (i := 2) rfl))) (by decide +kernel) ⟨by rw [← hR]; exact Nat.le_of_ble_eq_true rfl, by rw [← hR]; exact Nat.le_of_ble_eq_true rfl⟩, htw (.static yX11_isBlank) (jWr_19 _ (List.mem_of_getElem? (i := 23) rfl)), trivial⟩ ⟨fun a U g mk q => by obtain ⟨q0, q1, qK, q9⟩ := q; exact ⟨q0, q1, jG.calling g mk a qK, q9⟩, fun U hU hW => ⟨rfl, hU, hG.step hW hU hh_5.1, by first | trivial | omega | (constructor <;> omega)⟩⟩ rfl rfl hl.1 rfl (lv_room (Nat.le_of_ble_eq_true rfl)) dX1_sentenceBegin_26 ⟨Nat.zero_le _, Nat.zero_le _⟩)) (fun r_8 hr_8 => ?_)
          have hr_8' : r_8.toInt = 0 ∨ r_8.toInt = 1 := jb_01 hr_8
          refine lv_if_eq (tgt := 38) hx hb dX1_sentenceBegin_29 (by decide) (fun c_9 => ?_) (fun c_9 => ?_)
          · skip
            have c_9' : r_8.toInt = 0 := jb_eq (rfl) ((by decide)) c_9
            refine lv_aload_n hx hb dX1_sentenceBegin_38 rfl (lv_at hl 0 rfl) ?_
            refine j7_read hx hb hown hK (C := RX1) (T := TX1) (N := 17) rfl hly_3_2 hlk_15 (hh_5.at 0 rfl) dX1_sentenceBegin_39 ?_
            refine lv_iload_n hx hb dX1_sentenceBegin_42 rfl (lv_at hl 2 rfl) ?_
            refine lv_aload_n hx hb dX1_sentenceBegin_43 rfl (lv_at hl 0 rfl) ?_
            refine j7_read hx hb hown hK (C := RX1) (T := TX1) (N := 17) rfl hly_3_3 hlk_42 (hh_5.at 1 rfl) dX1_sentenceBegin_44 ?_
            refine va_calli (A0 := jA base) (H0 := s.heap) (va_runSN (As := [.ref text_6, .int v2_1, .int pl]) (rest := []) ⟨hx, hb, hml, hown, hts⟩ (uX11_commentEndt9 l dC dI ca base B hB hAp hB101 hB173 G0 H_1 text_6 v2_1 pl 1500) ⟨va_cnB 3 hts (jgW (jWr_36 _ (List.mem_of_getElem? (i := 11) rfl))) rfl rfl rfl (hG.2.2.1 RX1 91 yX11_commentEnd "ProofServer" (List.mem_of_getElem? (i := 1120) (by decide +kernel))) (htw (.initialized RX11) (jWr_1 _ (List.mem_of_getElem? (i := 2) rfl))) (by decide +kernel) ⟨by rw [← hR]; exact Nat.le_of_ble_eq_true rfl, by rw [← hR]; exact Nat.le_of_ble_eq_true rfl⟩, htw (.static yX11_commentEnd) (jWr_36 _ (List.mem_of_getElem? (i := 10) rfl)), trivial⟩ ⟨fun a U g mk q => by obtain ⟨q0, q1, q2, qK, q10, q11, q12⟩ := q; exact ⟨q0, q1, q2, jG.calling g mk a qK, q10, q11, q12⟩, fun U hU hW => ⟨rfl, hU, hh_5.2.1, hG.step hW hU hh_5.1, hg_text_6, jP.nil, by first | omega | (refine ⟨?_, ?_⟩ <;> (first | omega | rfl | assumption | decide | exact Or.inl rfl | exact Or.inr rfl | (simp only; omega)))⟩⟩ rfl rfl hl.1 rfl (lv_room (Nat.le_of_ble_eq_true rfl)) dX1_sentenceBegin_47 ⟨Nat.zero_le _, Nat.zero_le _⟩) hh_5.1 (fun q _ h => h) (fun q h => h) (fun r_11 u_10 t_10 H_10 locs_10 ht_10 hvm_10 hr_11 hb_10 hz_10 hk_10 hS_10 => ?_)
            rw [ht_10] at hb_10
            obtain ⟨hb_101, hb_102, hb_103, hb_104, hb_105⟩ := hb_10
            have hh_10 : jSt (dC, dI) B base G0 G0 EX1_sentenceBeginS s.heap 0 0 [(r0, 3, 2, .ref text_6), (r0, 3, 3, .int pl)] [] [] H_10 locs_10 := ((hh_5.call hb_101 hb_102 hb_103 hb_104 hS_10 rfl (L1 := [(r0, 3, 2, .ref text_6), (r0, 3, 3, .int pl)]) [0, 1] rfl rfl (M1 := []) [] rfl rfl (I1 := []) [] rfl rfl).more hb_105)
            clear hh_5 ht_10 hvm_10 hz_10 hk_10 hS_10 hb_101 hb_102 hb_103 hb_104 hb_105
            refine lv_istore (lv' := [(4, .int r_11), (0, .ref r0), (1, .int a1), (2, .int v2_1), (3, .int v3_1)]) hx hb dX1_sentenceBegin_50 hl (by decide) rfl (fun ls hl => ?_)
            refine lv_iload hx hb dX1_sentenceBegin_52 (lv_at hl 0 rfl) ?_
            refine lv_if_ge (tgt := 59) hx hb dX1_sentenceBegin_54 (by decide) (fun c_12 => ?_) (fun c_12 => ?_)
            · skip
              have c_12' : r_11.toInt ≥ 0 := jb_ge (rfl) ((by decide)) c_12
              first | (have hr_11q := hr_11.resolve_left (by omega); clear hr_11) | (have hr_11q := hr_11.resolve_right (by omega); clear hr_11) | skip
              refine lv_iload hx hb dX1_sentenceBegin_59 (lv_at hl 0 rfl) ?_
              refine lv_istore_n (lv' := [(2, .int r_11), (4, .int r_11), (0, .ref r0), (1, .int a1), (3, .int v3_1)]) hx hb dX1_sentenceBegin_61 rfl hl (by decide) rfl (fun ls hl => ?_)
              obtain ⟨z_13, ez_13⟩ : ∃ y : Int32, y = v3_1 + 1 := ⟨_, rfl⟩
              refine lv_iinc (v := z_13) (lv' := [(3, .int z_13), (2, .int r_11), (4, .int r_11), (0, .ref r0), (1, .int a1)]) hx hb dX1_sentenceBegin_62 hl (k := 4) rfl (by rw [ez_13]; rfl) (by decide) rfl (fun ls hl => ?_)
              have hz_13 : z_13.toInt = v3_1.toInt + 1 := by rw [ez_13]; exact jb_iadd2 (rfl) (by decide) (by omega)
              refine lv_goto (tgt := 4) hx hb dX1_sentenceBegin_65 (by decide) ?_
              exact L4 r_11 z_13 _ _ (hh_10.sub (L1 := [(r0, 3, 3, .int pl)]) [1] rfl (M1 := []) [] rfl (I1 := []) [] rfl) (by first | omega | (refine ⟨?_, ?_, ?_, ?_⟩ <;> (first | omega | rfl | assumption | decide | exact Or.inl rfl | exact Or.inr rfl | (simp only; omega)))) (by omega) _ (lv_sub hl [3, 4, 1, 0] rfl)
            · skip
              have c_12' : r_11.toInt < 0 := jb_ge_n (rfl) ((by decide)) c_12
              first | (have hr_11q := hr_11.resolve_left (by omega); clear hr_11) | (have hr_11q := hr_11.resolve_right (by omega); clear hr_11) | skip
              refine lv_iload_n hx hb dX1_sentenceBegin_57 rfl (lv_at hl 3 rfl) ?_
              rw [hQ]
              exact W.iret (v := v2_1) hx hb hr (fun t ht hW => ⟨⟨v2_1, (), rfl, by first | omega | (refine ⟨?_, ?_⟩ <;> (first | omega | rfl | assumption | decide | exact Or.inl rfl | exact Or.inr rfl | (simp only; omega))), hh_10.rt (M1 := []) [] rfl ht⟩, by rw [ht]; try exact hh_10.1.1, fun q h9 hq => by rw [ht]; try exact hh_10.1.2.1 q h9 hq⟩) hh_10.1.2.2 dX1_sentenceBegin_58
          · skip
            have c_9' : r_8.toInt ≠ 0 := jb_eq_n (rfl) ((by decide)) c_9
            obtain ⟨z_14, ez_14⟩ : ∃ y : Int32, y = v2_1 + 1 := ⟨_, rfl⟩
            refine lv_iinc (v := z_14) (lv' := [(2, .int z_14), (0, .ref r0), (1, .int a1), (3, .int v3_1)]) hx hb dX1_sentenceBegin_32 hl (k := 2) rfl (by rw [ez_14]; rfl) (by decide) rfl (fun ls hl => ?_)
            have hz_14 : z_14.toInt = v2_1.toInt + 1 := by rw [ez_14]; exact jb_iadd2 (rfl) (by decide) (by omega)
            refine lv_goto (tgt := 62) hx hb dX1_sentenceBegin_35 (by decide) ?_
            obtain ⟨z_15, ez_15⟩ : ∃ y : Int32, y = v3_1 + 1 := ⟨_, rfl⟩
            refine lv_iinc (v := z_15) (lv' := [(3, .int z_15), (2, .int z_14), (0, .ref r0), (1, .int a1)]) hx hb dX1_sentenceBegin_62 hl (k := 3) rfl (by rw [ez_15]; rfl) (by decide) rfl (fun ls hl => ?_)
            have hz_15 : z_15.toInt = v3_1.toInt + 1 := by rw [ez_15]; exact jb_iadd2 (rfl) (by decide) (by omega)
            refine lv_goto (tgt := 4) hx hb dX1_sentenceBegin_65 (by decide) ?_
            exact L4 z_14 z_15 _ _ (hh_5.sub (L1 := [(r0, 3, 3, .int pl)]) [1] rfl (M1 := []) [] rfl (I1 := []) [] rfl) (by first | omega | (refine ⟨?_, ?_, ?_, ?_⟩ <;> (first | omega | rfl | assumption | decide | exact Or.inl rfl | exact Or.inr rfl | (simp only; omega)))) (by omega) _ (lv_sub hl [2, 3, 1, 0] rfl)
  exact L4 (1502 - (0 : Int32).toInt : Int).toNat.succ a1 0 _ _ hh (by first | omega | (refine ⟨?_, ?_, ?_, ?_⟩ <;> (first | omega | rfl | assumption | decide | exact Or.inl rfl | exact Or.inr rfl | (simp only; omega)))) (by omega) _ (lv_sub hl [2, 3, 1, 0] rfl)
set_option maxHeartbeats 4000000 in
set_option maxRecDepth 20000 in
theorem uX1_sentenceEndS (l : Launch) (dC : Nat → ClassId) (dI : Nat → Nat → Nat) (ca : Nat → ClassId) (base : Nat) (B : jF) (hB : jBok B) (hAp : jAp (dC, dI)) (hB3 : ∀ n G a H, B 3 n G a H ↔ jOb (dC, dI) 3 17 (F3 n G) a H) (hB101 : ∀ n G a H, B 101 n G a H ↔ jAr (dC, dI) (ca 1) (fun j z => True) n a H) (hB173 : ∀ n G a H, B 173 n G a H ↔ jAr (dC, dI) (ca 1) (fun j z => True) n a H) (G0 : jT) (H0 : Heap) (r0 : Nat) (a1 : Int32) (n0 : Nat) (pl : Int32) : Met l yX1_sentenceEnd (jw yX1_sentenceEnd cX1_sentenceEnd 5 (some .int)) ({ frames := 2, cells := 0, slots := 0, locals := 46 }) (va_Pc [.ref r0, .int a1] (fun U => U.heap = H0 ∧ jX B base G0 [] H0 ∧ jG dC dI ca base U ∧ G0 r0 = some (3, n0) ∧ jP (dC, dI) G0 H0 [(r0, 3, 3, .int pl)] ∧ 0 ≤ a1.toInt ∧ a1.toInt < pl.toInt ∧ pl.toInt ≤ 1500)) (va_Qi (S := Unit) (fun r u => (r.toInt = -1 ∨ (a1.toInt < r.toInt ∧ r.toInt ≤ pl.toInt))) (fun u t => jRt (dC, dI) B base G0 EX1_sentenceEndS H0 [] t.heap) (jA base)) 0 0 (jA base) := by
  refine Met.ofW (cc := cX1_sentenceEnd) (maxL := 5) (ret := (some .int)) (by decide) rfl ?_
  intro p e s m args below meth c s₁ Bd hml hv
  obtain ⟨rfl, hH0, hX, hG, hg_r0, hP0, hp0, hp1, hp2⟩ := hv
  have hK := hG.1
  have hx := Bd.exec
  have hb := Bd.bytes
  have hr := Bd.returns
  have hts := atoms_spec (ws := (jw yX1_sentenceEnd cX1_sentenceEnd 5 (some .int))) Bd.pre
  have htw : ∀ w ∈ jWl, w.before _ s = true := fun w h => hts w (List.mem_cons_of_mem _ h)
  have hown : s.vm.findClass RX1 = some m.cls := findClass_of_methodNamed Bd.named
  have hlocks := Bd.notSynchronized
  obtain ⟨Q, hQ⟩ : ∃ Q, Q = MQ below (va_Qi (S := Unit) (fun r u => (r.toInt = -1 ∨ (a1.toInt < r.toInt ∧ r.toInt ≤ pl.toInt))) (fun u t => jRt (dC, dI) B base G0 EX1_sentenceEndS H0 [] t.heap) (jA base)) ([.ref r0, .int a1] : List Value).toArray s 0 0 (jA base) := ⟨_, rfl⟩
  rw [← hQ]
  have hl := lv_entry ([.ref r0, .int a1]) (n := 5) (Nat.le_of_ble_eq_true rfl)
  rw [lg_entry_eq]
  generalize (lg_sl ([.ref r0, .int a1]) ++ List.replicate (5 - (lg_sl ([.ref r0, .int a1])).length) Slot.unset).toArray = ls at hl ⊢
  have hl : lv_has ls 5 [(0, .ref r0), (1, .int a1)] := hl
  generalize hR : (headSpec (jw yX1_sentenceEnd cX1_sentenceEnd 5 (some .int)) ({ frames := 2, cells := 0, slots := 0, locals := 46 })).room = R
  subst hH0
  have hh : jSt (dC, dI) B base G0 G0 EX1_sentenceEndS s.heap 0 0 [(r0, 3, 3, .int pl)] [] [] s.heap [] := jSt.start hX hP0 jMc.nil jIs.nil
  clear hX hP0
  have hkm1 : ((-1) : Int32).toInt = (-1) := by decide
  have hk0 : (0 : Int32).toInt = 0 := by decide
  have hk1 : (1 : Int32).toInt = 1 := by decide
  have hk46 : (46 : Int32).toInt = 46 := by decide
  have hly_3_2 := htw (u_lay RX1 TX1 2) (jWc_wsX10 _ (u_in_lay (by decide)))
  have hly_3_3 := htw (u_lay RX1 TX1 3) (jWc_wsX10 _ (u_in_lay (by decide)))
  have hlk_42 := (htw (.fieldLink RX1 42 "ProofServer$Document" "length" "I") (jWr_29 _ (List.mem_of_getElem? (i := 5) rfl)))
  have hlk_15 := (htw (.fieldLink RX1 15 "ProofServer$Document" "text" "[I") (jWr_10 _ (List.mem_of_getElem? (i := 6) rfl)))
  have hrg_a1 := jb_rng a1
  refine lv_iload_n hx hb dX1_sentenceEnd_0 rfl (lv_at hl 1 rfl) ?_
  refine lv_istore_n (lv' := [(2, .int a1), (0, .ref r0), (1, .int a1)]) hx hb dX1_sentenceEnd_1 rfl hl (by decide) rfl (fun ls hl => ?_)
  refine lv_iconst (v := 0) hx hb dX1_sentenceEnd_2 (by decide) ?_
  refine lv_istore_n (lv' := [(3, .int 0), (2, .int a1), (0, .ref r0), (1, .int a1)]) hx hb dX1_sentenceEnd_3 rfl hl (by decide) rfl (fun ls hl => ?_)
  have L4 : ∀ (N : Nat) (v2_1 : Int32) (v3_1 : Int32) (H_1 : Heap) (locs_1 : List Loc), jSt (dC, dI) B base G0 G0 EX1_sentenceEndS s.heap 0 0 [(r0, 3, 3, .int pl)] [] [] H_1 locs_1 → (a1.toInt ≤ v2_1.toInt ∧ v2_1.toInt ≤ pl.toInt ∧ 0 ≤ v3_1.toInt ∧ v3_1.toInt ≤ 1502) → (1502 - v3_1.toInt : Int) < N → ∀ ls : Array Slot, lv_has ls 5 [(0, .ref r0), (1, .int a1), (2, .int v2_1), (3, .int v3_1)] → W p l e R s m ([.ref r0, .int a1] : List Value).toArray below meth c H_1 locs_1 0 0 Q (F0 m 4 ls []) := by
    intro N
    induction N with
    | zero => intro v2_1 v3_1 H_1 locs_1 hh_1  hi_1 hm; exact absurd hm (by omega)
    | succ N L4 =>
      intro v2_1 v3_1 H_1 locs_1 hh_1  hi_1 hm_1 ls hl
      obtain ⟨hi_1_0, hi_1_1, hi_1_2, hi_1_3⟩ := hi_1
      refine lv_iload_n hx hb dX1_sentenceEnd_4 rfl (lv_at hl 3 rfl) ?_
      refine lv_aload_n hx hb dX1_sentenceEnd_5 rfl (lv_at hl 0 rfl) ?_
      refine j7_read hx hb hown hK (C := RX1) (T := TX1) (N := 17) rfl hly_3_3 hlk_42 (hh_1.at 0 rfl) dX1_sentenceEnd_6 ?_
      refine lv_icmp_gt (tgt := 123) hx hb dX1_sentenceEnd_9 (by decide) (fun c_2 => ?_) (fun c_2 => ?_)
      · skip
        have c_2' : v3_1.toInt > pl.toInt := jb_gt (rfl) (rfl) c_2
        refine lv_iconst (v := (-1)) hx hb dX1_sentenceEnd_123 (by decide) ?_
        rw [hQ]
        exact W.iret (v := (-1)) hx hb hr (fun t ht hW => ⟨⟨(-1), (), rfl, by first | omega | rfl | assumption | decide | exact Or.inl rfl | exact Or.inr rfl | (simp only; omega), hh_1.rt (M1 := []) [] rfl ht⟩, by rw [ht]; try exact hh_1.1.1, fun q h9 hq => by rw [ht]; try exact hh_1.1.2.1 q h9 hq⟩) hh_1.1.2.2 dX1_sentenceEnd_124
      · skip
        have c_2' : v3_1.toInt ≤ pl.toInt := jb_gt_n (rfl) (rfl) c_2
        refine lv_iload_n hx hb dX1_sentenceEnd_12 rfl (lv_at hl 2 rfl) ?_
        refine lv_aload_n hx hb dX1_sentenceEnd_13 rfl (lv_at hl 0 rfl) ?_
        refine j7_read hx hb hown hK (C := RX1) (T := TX1) (N := 17) rfl hly_3_3 hlk_42 (hh_1.at 0 rfl) dX1_sentenceEnd_14 ?_
        refine lv_icmp_ge (tgt := 123) hx hb dX1_sentenceEnd_17 (by decide) (fun c_3 => ?_) (fun c_3 => ?_)
        · skip
          have c_3' : v2_1.toInt ≥ pl.toInt := jb_ge (rfl) (rfl) c_3
          refine lv_iconst (v := (-1)) hx hb dX1_sentenceEnd_123 (by decide) ?_
          rw [hQ]
          exact W.iret (v := (-1)) hx hb hr (fun t ht hW => ⟨⟨(-1), (), rfl, by first | omega | rfl | assumption | decide | exact Or.inl rfl | exact Or.inr rfl | (simp only; omega), hh_1.rt (M1 := []) [] rfl ht⟩, by rw [ht]; try exact hh_1.1.1, fun q h9 hq => by rw [ht]; try exact hh_1.1.2.1 q h9 hq⟩) hh_1.1.2.2 dX1_sentenceEnd_124
        · skip
          have c_3' : v2_1.toInt < pl.toInt := jb_ge_n (rfl) (rfl) c_3
          refine lv_aload_n hx hb dX1_sentenceEnd_20 rfl (lv_at hl 0 rfl) ?_
          obtain ⟨v_4, hv_4, hh_5⟩ := hh_1.pin (C := RX1) (T := TX1) (N := 17) hB3 rfl (by decide) hg_r0 (i := 2) (by decide) rfl
          clear hh_1
          obtain ⟨text_6, rfl, hg_text_6⟩ := hv_4
          refine j7_read hx hb hown hK (C := RX1) (T := TX1) (N := 17) rfl hly_3_2 hlk_15 (hh_5.at 0 rfl) dX1_sentenceEnd_21 ?_
          refine lv_iload_n hx hb dX1_sentenceEnd_24 rfl (lv_at hl 2 rfl) ?_
          refine lv_aload_n hx hb dX1_sentenceEnd_25 rfl (lv_at hl 0 rfl) ?_
          refine j7_read hx hb hown hK (C := RX1) (T := TX1) (N := 17) rfl hly_3_3 hlk_42 (hh_5.at 1 rfl) dX1_sentenceEnd_26 ?_
          refine va_calli (A0 := jA base) (H0 := s.heap) (va_runSN (As := [.ref text_6, .int v2_1, .int pl]) (rest := []) ⟨hx, hb, hml, hown, hts⟩ (uX11_opensCommentt9 l dC dI ca base B hB hAp hB173 G0 H_1 text_6 v2_1 pl 1500) ⟨va_cnB 3 hts (jgW (jWr_36 _ (List.mem_of_getElem? (i := 14) rfl))) rfl rfl rfl (hG.2.2.1 RX1 94 yX11_opensComment "ProofServer" (List.mem_of_getElem? (i := 1130) (by decide +kernel))) (htw (.initialized RX11) (jWr_1 _ (List.mem_of_getElem? (i := 2) rfl))) (by decide +kernel) ⟨by rw [← hR]; exact Nat.le_of_ble_eq_true rfl, by rw [← hR]; exact Nat.le_of_ble_eq_true rfl⟩, htw (.static yX11_opensComment) (jWr_36 _ (List.mem_of_getElem? (i := 13) rfl)), trivial⟩ ⟨fun a U g mk q => by obtain ⟨q0, q1, q2, qK, q10, q11, q12⟩ := q; exact ⟨q0, q1, q2, jG.calling g mk a qK, q10, q11, q12⟩, fun U hU hW => ⟨rfl, hU, hh_5.2.1, hG.step hW hU hh_5.1, hg_text_6, jP.nil, by first | omega | (refine ⟨?_, ?_⟩ <;> (first | omega | rfl | assumption | decide | exact Or.inl rfl | exact Or.inr rfl | (simp only; omega)))⟩⟩ rfl rfl hl.1 rfl (lv_room (Nat.le_of_ble_eq_true rfl)) dX1_sentenceEnd_29 ⟨Nat.zero_le _, Nat.zero_le _⟩) hh_5.1 (fun q _ h => h) (fun q h => h) (fun r_8 u_7 t_7 H_7 locs_7 ht_7 hvm_7 hr_8 hb_7 hz_7 hk_7 hS_7 => ?_)
          rw [ht_7] at hb_7
          obtain ⟨hb_71, hb_72, hb_73, hb_74, hb_75⟩ := hb_7
          have hh_7 : jSt (dC, dI) B base G0 G0 EX1_sentenceEndS s.heap 0 0 [(r0, 3, 2, .ref text_6), (r0, 3, 3, .int pl)] [] [] H_7 locs_7 := ((hh_5.call hb_71 hb_72 hb_73 hb_74 hS_7 rfl (L1 := [(r0, 3, 2, .ref text_6), (r0, 3, 3, .int pl)]) [0, 1] rfl rfl (M1 := []) [] rfl rfl (I1 := []) [] rfl rfl).more hb_75)
          clear hh_5 ht_7 hvm_7 hz_7 hk_7 hS_7 hb_71 hb_72 hb_73 hb_74 hb_75
          obtain ⟨hr_8b, hr_8p⟩ := hr_8
          have hr_8' := jb_01 hr_8b
          refine lv_if_eq (tgt := 54) hx hb dX1_sentenceEnd_32 (by decide) (fun c_9 => ?_) (fun c_9 => ?_)
          · skip
            have c_9' : r_8.toInt = 0 := jb_eq (rfl) ((by decide)) c_9
            first | (have hr_8pq := hr_8p.resolve_left (by omega); clear hr_8p) | (have hr_8pq := hr_8p.resolve_right (by omega); clear hr_8p) | try clear hr_8p
            refine lv_aload_n hx hb dX1_sentenceEnd_54 rfl (lv_at hl 0 rfl) ?_
            refine j7_read hx hb hown hK (C := RX1) (T := TX1) (N := 17) rfl hly_3_2 hlk_15 (hh_7.at 0 rfl) dX1_sentenceEnd_55 ?_
            refine lv_iload_n hx hb dX1_sentenceEnd_58 rfl (lv_at hl 2 rfl) ?_
            refine j7_iald hx hb hK hh_7 hB173 1 rfl (by decide) hg_text_6 (x := v2_1.toInt) (rfl) (by omega) dX1_sentenceEnd_59 (fun z_10 (hz_10 : True) => ?_)
            refine lv_bipush (v := 46) hx hb dX1_sentenceEnd_60 (by decide) ?_
            have C70 : ∀ (w0_11 : Int32) (H_11 : Heap) (locs_11 : List Loc), jSt (dC, dI) B base G0 G0 EX1_sentenceEndS s.heap 0 0 [(r0, 3, 2, .ref text_6), (r0, 3, 3, .int pl)] [] [] H_11 locs_11 → (w0_11 = 0 ∨ w0_11 = 1) → (True) → ∀ ls : Array Slot, lv_has ls 5 [(0, .ref r0), (1, .int a1), (2, .int v2_1), (3, .int v3_1)] → W p l e R s m ([.ref r0, .int a1] : List Value).toArray below meth c H_11 locs_11 0 0 Q (F0 m 70 ls [.int w0_11]) := by
              intro w0_11 H_11 locs_11 hh_11 hb_w0_11 hi_11 ls hl
              have hb_w0_11' := jb_01 hb_w0_11
              refine lv_istore (lv' := [(4, .int w0_11), (0, .ref r0), (1, .int a1), (2, .int v2_1), (3, .int v3_1)]) hx hb dX1_sentenceEnd_70 hl (by decide) rfl (fun ls hl => ?_)
              obtain ⟨z_12, ez_12⟩ : ∃ y : Int32, y = v2_1 + 1 := ⟨_, rfl⟩
              refine lv_iinc (v := z_12) (lv' := [(2, .int z_12), (4, .int w0_11), (0, .ref r0), (1, .int a1), (3, .int v3_1)]) hx hb dX1_sentenceEnd_72 hl (k := 3) rfl (by rw [ez_12]; rfl) (by decide) rfl (fun ls hl => ?_)
              have hz_12 : z_12.toInt = v2_1.toInt + 1 := by rw [ez_12]; exact jb_iadd2 (rfl) (by decide) (by omega)
              refine lv_iload hx hb dX1_sentenceEnd_75 (lv_at hl 1 rfl) ?_
              refine lv_if_eq (tgt := 117) hx hb dX1_sentenceEnd_77 (by decide) (fun c_13 => ?_) (fun c_13 => ?_)
              · skip
                have c_13' : w0_11.toInt = 0 := jb_eq (rfl) ((by decide)) c_13
                obtain ⟨z_14, ez_14⟩ : ∃ y : Int32, y = v3_1 + 1 := ⟨_, rfl⟩
                refine lv_iinc (v := z_14) (lv' := [(3, .int z_14), (2, .int z_12), (4, .int w0_11), (0, .ref r0), (1, .int a1)]) hx hb dX1_sentenceEnd_117 hl (k := 4) rfl (by rw [ez_14]; rfl) (by decide) rfl (fun ls hl => ?_)
                have hz_14 : z_14.toInt = v3_1.toInt + 1 := by rw [ez_14]; exact jb_iadd2 (rfl) (by decide) (by omega)
                refine lv_goto (tgt := 4) hx hb dX1_sentenceEnd_120 (by decide) ?_
                exact L4 z_12 z_14 _ _ (hh_11.sub (L1 := [(r0, 3, 3, .int pl)]) [1] rfl (M1 := []) [] rfl (I1 := []) [] rfl) (by first | omega | (refine ⟨?_, ?_, ?_, ?_⟩ <;> (first | omega | rfl | assumption | decide | exact Or.inl rfl | exact Or.inr rfl | (simp only; omega)))) (by omega) _ (lv_sub hl [3, 4, 1, 0] rfl)
              · skip
                have c_13' : w0_11.toInt ≠ 0 := jb_eq_n (rfl) ((by decide)) c_13
                refine lv_iload_n hx hb dX1_sentenceEnd_80 rfl (lv_at hl 0 rfl) ?_
                refine lv_aload_n hx hb dX1_sentenceEnd_81 rfl (lv_at hl 2 rfl) ?_
                refine j7_read hx hb hown hK (C := RX1) (T := TX1) (N := 17) rfl hly_3_3 hlk_42 (hh_11.at 1 rfl) dX1_sentenceEnd_82 ?_
                refine lv_icmp_eq (tgt := 115) hx hb dX1_sentenceEnd_85 (by decide) (fun c_15 => ?_) (fun c_15 => ?_)
                · skip
                  have c_15' : z_12.toInt = pl.toInt := jb_eq (rfl) (rfl) c_15
                  refine lv_iload_n hx hb dX1_sentenceEnd_115 rfl (lv_at hl 0 rfl) ?_
                  rw [hQ]
                  exact W.iret (v := z_12) hx hb hr (fun t ht hW => ⟨⟨z_12, (), rfl, by first | omega | rfl | assumption | decide | exact Or.inl rfl | exact Or.inr rfl | (simp only; omega), hh_11.rt (M1 := []) [] rfl ht⟩, by rw [ht]; try exact hh_11.1.1, fun q h9 hq => by rw [ht]; try exact hh_11.1.2.1 q h9 hq⟩) hh_11.1.2.2 dX1_sentenceEnd_116
                · skip
                  have c_15' : z_12.toInt ≠ pl.toInt := jb_eq_n (rfl) (rfl) c_15
                  refine lv_aload_n hx hb dX1_sentenceEnd_88 rfl (lv_at hl 2 rfl) ?_
                  refine j7_read hx hb hown hK (C := RX1) (T := TX1) (N := 17) rfl hly_3_2 hlk_15 (hh_11.at 0 rfl) dX1_sentenceEnd_89 ?_
                  refine lv_iload_n hx hb dX1_sentenceEnd_92 rfl (lv_at hl 0 rfl) ?_
                  refine j7_iald hx hb hK hh_11 hB173 1 rfl (by decide) hg_text_6 (x := z_12.toInt) (rfl) (by omega) dX1_sentenceEnd_93 (fun z_16 (hz_16 : True) => ?_)
                  refine vp_callSi (va_Run.run (va_runSN (As := [.int z_16]) (rest := []) ⟨hx, hb, hml, hown, hts⟩ (wX11_isBlank l dC dI ca base H_11 z_16) ⟨va_cnB 1 hts (jgW (jWr_20 _ (List.mem_of_getElem? (i := 0) rfl))) rfl rfl rfl (hG.2.2.1 RX1 87 yX11_isBlank "ProofServer" (List.mem_of_getElem? (i := 1119) (by decide +kernel))) (htw (.initialized RX11) (jWr_1 _ (List.mem_of_getElem? (i := 2) rfl))) (by decide +kernel) ⟨by rw [← hR]; exact Nat.le_of_ble_eq_true rfl, by rw [← hR]; exact Nat.le_of_ble_eq_true rfl⟩, htw (.static yX11_isBlank) (jWr_19 _ (List.mem_of_getElem? (i := 23) rfl)), trivial⟩ ⟨fun a U g mk q => by obtain ⟨q0, q1, qK, q9⟩ := q; exact ⟨q0, q1, jG.calling g mk a qK, q9⟩, fun U hU hW => ⟨rfl, hU, hG.step hW hU hh_11.1, by first | trivial | omega | (constructor <;> omega)⟩⟩ rfl rfl hl.1 rfl (lv_room (Nat.le_of_ble_eq_true rfl)) dX1_sentenceEnd_94 ⟨Nat.zero_le _, Nat.zero_le _⟩)) (fun r_17 hr_17 => ?_)
                  have hr_17' : r_17.toInt = 0 ∨ r_17.toInt = 1 := jb_01 hr_17
                  refine lv_if_ne (tgt := 115) hx hb dX1_sentenceEnd_97 (by decide) (fun c_18 => ?_) (fun c_18 => ?_)
                  · skip
                    have c_18' : r_17.toInt ≠ 0 := jb_ne (rfl) ((by decide)) c_18
                    refine lv_iload_n hx hb dX1_sentenceEnd_115 rfl (lv_at hl 0 rfl) ?_
                    rw [hQ]
                    exact W.iret (v := z_12) hx hb hr (fun t ht hW => ⟨⟨z_12, (), rfl, by first | omega | rfl | assumption | decide | exact Or.inl rfl | exact Or.inr rfl | (simp only; omega), hh_11.rt (M1 := []) [] rfl ht⟩, by rw [ht]; try exact hh_11.1.1, fun q h9 hq => by rw [ht]; try exact hh_11.1.2.1 q h9 hq⟩) hh_11.1.2.2 dX1_sentenceEnd_116
                  · skip
                    have c_18' : r_17.toInt = 0 := jb_ne_n (rfl) ((by decide)) c_18
                    refine lv_aload_n hx hb dX1_sentenceEnd_100 rfl (lv_at hl 2 rfl) ?_
                    refine j7_read hx hb hown hK (C := RX1) (T := TX1) (N := 17) rfl hly_3_2 hlk_15 (hh_11.at 0 rfl) dX1_sentenceEnd_101 ?_
                    refine lv_iload_n hx hb dX1_sentenceEnd_104 rfl (lv_at hl 0 rfl) ?_
                    refine lv_aload_n hx hb dX1_sentenceEnd_105 rfl (lv_at hl 2 rfl) ?_
                    refine j7_read hx hb hown hK (C := RX1) (T := TX1) (N := 17) rfl hly_3_3 hlk_42 (hh_11.at 1 rfl) dX1_sentenceEnd_106 ?_
                    refine va_calli (A0 := jA base) (H0 := s.heap) (va_runSN (As := [.ref text_6, .int z_12, .int pl]) (rest := []) ⟨hx, hb, hml, hown, hts⟩ (uX11_opensCommentt9 l dC dI ca base B hB hAp hB173 G0 H_11 text_6 z_12 pl 1500) ⟨va_cnB 3 hts (jgW (jWr_36 _ (List.mem_of_getElem? (i := 14) rfl))) rfl rfl rfl (hG.2.2.1 RX1 94 yX11_opensComment "ProofServer" (List.mem_of_getElem? (i := 1130) (by decide +kernel))) (htw (.initialized RX11) (jWr_1 _ (List.mem_of_getElem? (i := 2) rfl))) (by decide +kernel) ⟨by rw [← hR]; exact Nat.le_of_ble_eq_true rfl, by rw [← hR]; exact Nat.le_of_ble_eq_true rfl⟩, htw (.static yX11_opensComment) (jWr_36 _ (List.mem_of_getElem? (i := 13) rfl)), trivial⟩ ⟨fun a U g mk q => by obtain ⟨q0, q1, q2, qK, q10, q11, q12⟩ := q; exact ⟨q0, q1, q2, jG.calling g mk a qK, q10, q11, q12⟩, fun U hU hW => ⟨rfl, hU, hh_11.2.1, hG.step hW hU hh_11.1, hg_text_6, jP.nil, by first | omega | (refine ⟨?_, ?_⟩ <;> (first | omega | rfl | assumption | decide | exact Or.inl rfl | exact Or.inr rfl | (simp only; omega)))⟩⟩ rfl rfl hl.1 rfl (lv_room (Nat.le_of_ble_eq_true rfl)) dX1_sentenceEnd_109 ⟨Nat.zero_le _, Nat.zero_le _⟩) hh_11.1 (fun q _ h => h) (fun q h => h) (fun r_20 u_19 t_19 H_19 locs_19 ht_19 hvm_19 hr_20 hb_19 hz_19 hk_19 hS_19 => ?_)
                    rw [ht_19] at hb_19
                    obtain ⟨hb_191, hb_192, hb_193, hb_194, hb_195⟩ := hb_19
                    have hh_19 : jSt (dC, dI) B base G0 G0 EX1_sentenceEndS s.heap 0 0 [(r0, 3, 2, .ref text_6), (r0, 3, 3, .int pl)] [] [] H_19 locs_19 := ((hh_11.call hb_191 hb_192 hb_193 hb_194 hS_19 rfl (L1 := [(r0, 3, 2, .ref text_6), (r0, 3, 3, .int pl)]) [0, 1] rfl rfl (M1 := []) [] rfl rfl (I1 := []) [] rfl rfl).more hb_195)
                    clear hh_11 ht_19 hvm_19 hz_19 hk_19 hS_19 hb_191 hb_192 hb_193 hb_194 hb_195
                    obtain ⟨hr_20b, hr_20p⟩ := hr_20
                    have hr_20' := jb_01 hr_20b
                    refine lv_if_eq (tgt := 117) hx hb dX1_sentenceEnd_112 (by decide) (fun c_21 => ?_) (fun c_21 => ?_)
                    · skip
                      have c_21' : r_20.toInt = 0 := jb_eq (rfl) ((by decide)) c_21
                      first | (have hr_20pq := hr_20p.resolve_left (by omega); clear hr_20p) | (have hr_20pq := hr_20p.resolve_right (by omega); clear hr_20p) | try clear hr_20p
                      obtain ⟨z_22, ez_22⟩ : ∃ y : Int32, y = v3_1 + 1 := ⟨_, rfl⟩
                      refine lv_iinc (v := z_22) (lv' := [(3, .int z_22), (2, .int z_12), (4, .int w0_11), (0, .ref r0), (1, .int a1)]) hx hb dX1_sentenceEnd_117 hl (k := 4) rfl (by rw [ez_22]; rfl) (by decide) rfl (fun ls hl => ?_)
                      have hz_22 : z_22.toInt = v3_1.toInt + 1 := by rw [ez_22]; exact jb_iadd2 (rfl) (by decide) (by omega)
                      refine lv_goto (tgt := 4) hx hb dX1_sentenceEnd_120 (by decide) ?_
                      exact L4 z_12 z_22 _ _ (hh_19.sub (L1 := [(r0, 3, 3, .int pl)]) [1] rfl (M1 := []) [] rfl (I1 := []) [] rfl) (by first | omega | (refine ⟨?_, ?_, ?_, ?_⟩ <;> (first | omega | rfl | assumption | decide | exact Or.inl rfl | exact Or.inr rfl | (simp only; omega)))) (by omega) _ (lv_sub hl [3, 4, 1, 0] rfl)
                    · skip
                      have c_21' : r_20.toInt ≠ 0 := jb_eq_n (rfl) ((by decide)) c_21
                      first | (have hr_20pq := hr_20p.resolve_left (by omega); clear hr_20p) | (have hr_20pq := hr_20p.resolve_right (by omega); clear hr_20p) | try clear hr_20p
                      refine lv_iload_n hx hb dX1_sentenceEnd_115 rfl (lv_at hl 0 rfl) ?_
                      rw [hQ]
                      exact W.iret (v := z_12) hx hb hr (fun t ht hW => ⟨⟨z_12, (), rfl, by first | omega | rfl | assumption | decide | exact Or.inl rfl | exact Or.inr rfl | (simp only; omega), hh_19.rt (M1 := []) [] rfl ht⟩, by rw [ht]; try exact hh_19.1.1, fun q h9 hq => by rw [ht]; try exact hh_19.1.2.1 q h9 hq⟩) hh_19.1.2.2 dX1_sentenceEnd_116
            refine lv_icmp_ne (tgt := 69) hx hb dX1_sentenceEnd_62 (by decide) (fun c_23 => ?_) (fun c_23 => ?_)
            · skip
              have c_23' : z_10.toInt ≠ 46 := jb_ne (rfl) ((by decide)) c_23
              refine lv_iconst (v := 0) hx hb dX1_sentenceEnd_69 (by decide) ?_
              exact C70 0 _ _ hh_7 (Or.inl rfl) (trivial) _ (lv_sub hl [0, 1, 2, 3] rfl)
            · skip
              have c_23' : z_10.toInt = 46 := jb_ne_n (rfl) ((by decide)) c_23
              refine lv_iconst (v := 1) hx hb dX1_sentenceEnd_65 (by decide) ?_
              refine lv_goto (tgt := 70) hx hb dX1_sentenceEnd_66 (by decide) ?_
              exact C70 1 _ _ hh_7 (Or.inr rfl) (trivial) _ (lv_sub hl [0, 1, 2, 3] rfl)
          · skip
            have c_9' : r_8.toInt ≠ 0 := jb_eq_n (rfl) ((by decide)) c_9
            first | (have hr_8pq := hr_8p.resolve_left (by omega); clear hr_8p) | (have hr_8pq := hr_8p.resolve_right (by omega); clear hr_8p) | try clear hr_8p
            refine lv_aload_n hx hb dX1_sentenceEnd_35 rfl (lv_at hl 0 rfl) ?_
            refine j7_read hx hb hown hK (C := RX1) (T := TX1) (N := 17) rfl hly_3_2 hlk_15 (hh_7.at 0 rfl) dX1_sentenceEnd_36 ?_
            refine lv_iload_n hx hb dX1_sentenceEnd_39 rfl (lv_at hl 2 rfl) ?_
            refine lv_aload_n hx hb dX1_sentenceEnd_40 rfl (lv_at hl 0 rfl) ?_
            refine j7_read hx hb hown hK (C := RX1) (T := TX1) (N := 17) rfl hly_3_3 hlk_42 (hh_7.at 1 rfl) dX1_sentenceEnd_41 ?_
            refine va_calli (A0 := jA base) (H0 := s.heap) (va_runSN (As := [.ref text_6, .int v2_1, .int pl]) (rest := []) ⟨hx, hb, hml, hown, hts⟩ (uX11_commentEndt9 l dC dI ca base B hB hAp hB101 hB173 G0 H_7 text_6 v2_1 pl 1500) ⟨va_cnB 3 hts (jgW (jWr_36 _ (List.mem_of_getElem? (i := 11) rfl))) rfl rfl rfl (hG.2.2.1 RX1 91 yX11_commentEnd "ProofServer" (List.mem_of_getElem? (i := 1120) (by decide +kernel))) (htw (.initialized RX11) (jWr_1 _ (List.mem_of_getElem? (i := 2) rfl))) (by decide +kernel) ⟨by rw [← hR]; exact Nat.le_of_ble_eq_true rfl, by rw [← hR]; exact Nat.le_of_ble_eq_true rfl⟩, htw (.static yX11_commentEnd) (jWr_36 _ (List.mem_of_getElem? (i := 10) rfl)), trivial⟩ ⟨fun a U g mk q => by obtain ⟨q0, q1, q2, qK, q10, q11, q12⟩ := q; exact ⟨q0, q1, q2, jG.calling g mk a qK, q10, q11, q12⟩, fun U hU hW => ⟨rfl, hU, hh_7.2.1, hG.step hW hU hh_7.1, hg_text_6, jP.nil, by first | omega | (refine ⟨?_, ?_⟩ <;> (first | omega | rfl | assumption | decide | exact Or.inl rfl | exact Or.inr rfl | (simp only; omega)))⟩⟩ rfl rfl hl.1 rfl (lv_room (Nat.le_of_ble_eq_true rfl)) dX1_sentenceEnd_44 ⟨Nat.zero_le _, Nat.zero_le _⟩) hh_7.1 (fun q _ h => h) (fun q h => h) (fun r_25 u_24 t_24 H_24 locs_24 ht_24 hvm_24 hr_25 hb_24 hz_24 hk_24 hS_24 => ?_)
            rw [ht_24] at hb_24
            obtain ⟨hb_241, hb_242, hb_243, hb_244, hb_245⟩ := hb_24
            have hh_24 : jSt (dC, dI) B base G0 G0 EX1_sentenceEndS s.heap 0 0 [(r0, 3, 2, .ref text_6), (r0, 3, 3, .int pl)] [] [] H_24 locs_24 := ((hh_7.call hb_241 hb_242 hb_243 hb_244 hS_24 rfl (L1 := [(r0, 3, 2, .ref text_6), (r0, 3, 3, .int pl)]) [0, 1] rfl rfl (M1 := []) [] rfl rfl (I1 := []) [] rfl rfl).more hb_245)
            clear hh_7 ht_24 hvm_24 hz_24 hk_24 hS_24 hb_241 hb_242 hb_243 hb_244 hb_245
            refine lv_istore_n (lv' := [(2, .int r_25), (0, .ref r0), (1, .int a1), (3, .int v3_1)]) hx hb dX1_sentenceEnd_47 rfl hl (by decide) rfl (fun ls hl => ?_)
            refine lv_iload_n hx hb dX1_sentenceEnd_48 rfl (lv_at hl 0 rfl) ?_
            refine lv_if_ge (tgt := 117) hx hb dX1_sentenceEnd_49 (by decide) (fun c_26 => ?_) (fun c_26 => ?_)
            · skip
              have c_26' : r_25.toInt ≥ 0 := jb_ge (rfl) ((by decide)) c_26
              first | (have hr_25q := hr_25.resolve_left (by omega); clear hr_25) | (have hr_25q := hr_25.resolve_right (by omega); clear hr_25) | skip
              obtain ⟨z_27, ez_27⟩ : ∃ y : Int32, y = v3_1 + 1 := ⟨_, rfl⟩
              refine lv_iinc (v := z_27) (lv' := [(3, .int z_27), (2, .int r_25), (0, .ref r0), (1, .int a1)]) hx hb dX1_sentenceEnd_117 hl (k := 3) rfl (by rw [ez_27]; rfl) (by decide) rfl (fun ls hl => ?_)
              have hz_27 : z_27.toInt = v3_1.toInt + 1 := by rw [ez_27]; exact jb_iadd2 (rfl) (by decide) (by omega)
              refine lv_goto (tgt := 4) hx hb dX1_sentenceEnd_120 (by decide) ?_
              exact L4 r_25 z_27 _ _ (hh_24.sub (L1 := [(r0, 3, 3, .int pl)]) [1] rfl (M1 := []) [] rfl (I1 := []) [] rfl) (by first | omega | (refine ⟨?_, ?_, ?_, ?_⟩ <;> (first | omega | rfl | assumption | decide | exact Or.inl rfl | exact Or.inr rfl | (simp only; omega)))) (by omega) _ (lv_sub hl [2, 3, 1, 0] rfl)
            · skip
              have c_26' : r_25.toInt < 0 := jb_ge_n (rfl) ((by decide)) c_26
              first | (have hr_25q := hr_25.resolve_left (by omega); clear hr_25) | (have hr_25q := hr_25.resolve_right (by omega); clear hr_25) | skip
              refine lv_iconst (v := (-1)) hx hb dX1_sentenceEnd_52 (by decide) ?_
              rw [hQ]
              exact W.iret (v := (-1)) hx hb hr (fun t ht hW => ⟨⟨(-1), (), rfl, by first | omega | rfl | assumption | decide | exact Or.inl rfl | exact Or.inr rfl | (simp only; omega), hh_24.rt (M1 := []) [] rfl ht⟩, by rw [ht]; try exact hh_24.1.1, fun q h9 hq => by rw [ht]; try exact hh_24.1.2.1 q h9 hq⟩) hh_24.1.2.2 dX1_sentenceEnd_53
  exact L4 (1502 - (0 : Int32).toInt : Int).toNat.succ a1 0 _ _ hh (by first | omega | (refine ⟨?_, ?_, ?_, ?_⟩ <;> (first | omega | rfl | assumption | decide | exact Or.inl rfl | exact Or.inr rfl | (simp only; omega)))) (by omega) _ (lv_sub hl [2, 3, 1, 0] rfl)
end
section
-- the documents of the class: sentences in order, and what is still to be checked of the open ones
section J41
variable {dC : Nat → ClassId} {dI : Nat → Nat → Nat} {ca : Nat → ClassId} {G G1 : jT} {H H1 : Heap} {x : Option Nat} {ph : Nat}
theorem jPo.mkN {fe : Nat → Int32} {ps pk : Int} (h : pk ≤ ps) : jPo fe ps pk .null (575 * (ps - pk) + (1500 - jEd fe pk)).toNat := ⟨h, Or.inl ⟨rfl, Int.self_le_toNat _⟩⟩
end J41
end
