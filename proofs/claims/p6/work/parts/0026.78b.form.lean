section
theorem dX13_parts_0 : decode cX13_parts 0 = .ok (.aload_n 0, 1) := by decide +kernel
theorem dX13_parts_1 : decode cX13_parts 1 = .ok (.getfield 12, 3) := by decide +kernel
theorem dX13_parts_4 : decode cX13_parts 4 = .ok (.iload_n 1, 1) := by decide +kernel
theorem dX13_parts_5 : decode cX13_parts 5 = .ok (.iaload, 1) := by decide +kernel
theorem dX13_parts_6 : decode cX13_parts 6 = .ok (.istore_n 2, 1) := by decide +kernel
theorem dX13_parts_7 : decode cX13_parts 7 = .ok (.iload_n 2, 1) := by decide +kernel
theorem dX13_parts_8 : decode cX13_parts 8 = .ok (.bipush 7, 2) := by decide +kernel
theorem dX13_parts_10 : decode cX13_parts 10 = .ok (.if_icmp .eq 9, 3) := by decide +kernel
theorem dX13_parts_13 : decode cX13_parts 13 = .ok (.iload_n 2, 1) := by decide +kernel
theorem dX13_parts_14 : decode cX13_parts 14 = .ok (.bipush 8, 2) := by decide +kernel
theorem dX13_parts_16 : decode cX13_parts 16 = .ok (.if_icmp .ne 15, 3) := by decide +kernel
theorem dX13_parts_19 : decode cX13_parts 19 = .ok (.aload_n 0, 1) := by decide +kernel
theorem dX13_parts_20 : decode cX13_parts 20 = .ok (.getfield 44, 3) := by decide +kernel
theorem dX13_parts_23 : decode cX13_parts 23 = .ok (.aload_n 0, 1) := by decide +kernel
theorem dX13_parts_24 : decode cX13_parts 24 = .ok (.getfield 16, 3) := by decide +kernel
theorem dX13_parts_27 : decode cX13_parts 27 = .ok (.iload_n 1, 1) := by decide +kernel
theorem dX13_parts_28 : decode cX13_parts 28 = .ok (.iaload, 1) := by decide +kernel
theorem dX13_parts_29 : decode cX13_parts 29 = .ok (.iaload, 1) := by decide +kernel
theorem dX13_parts_30 : decode cX13_parts 30 = .ok (.ireturn, 1) := by decide +kernel
theorem dX13_parts_31 : decode cX13_parts 31 = .ok (.iload_n 2, 1) := by decide +kernel
theorem dX13_parts_32 : decode cX13_parts 32 = .ok (.iconst 2, 1) := by decide +kernel
theorem dX13_parts_33 : decode cX13_parts 33 = .ok (.if_icmp .le 9, 3) := by decide +kernel
theorem dX13_parts_36 : decode cX13_parts 36 = .ok (.iload_n 2, 1) := by decide +kernel
theorem dX13_parts_37 : decode cX13_parts 37 = .ok (.bipush 6, 2) := by decide +kernel
theorem dX13_parts_39 : decode cX13_parts 39 = .ok (.if_icmp .ne 7, 3) := by decide +kernel
theorem dX13_parts_42 : decode cX13_parts 42 = .ok (.iconst 2, 1) := by decide +kernel
theorem dX13_parts_43 : decode cX13_parts 43 = .ok (.goto 18, 3) := by decide +kernel
theorem dX13_parts_46 : decode cX13_parts 46 = .ok (.iload_n 2, 1) := by decide +kernel
theorem dX13_parts_47 : decode cX13_parts 47 = .ok (.iconst 4, 1) := by decide +kernel
theorem dX13_parts_48 : decode cX13_parts 48 = .ok (.if_icmp .eq 8, 3) := by decide +kernel
theorem dX13_parts_51 : decode cX13_parts 51 = .ok (.iload_n 2, 1) := by decide +kernel
theorem dX13_parts_52 : decode cX13_parts 52 = .ok (.iconst 5, 1) := by decide +kernel
theorem dX13_parts_53 : decode cX13_parts 53 = .ok (.if_icmp .ne 7, 3) := by decide +kernel
theorem dX13_parts_56 : decode cX13_parts 56 = .ok (.iconst 1, 1) := by decide +kernel
theorem dX13_parts_57 : decode cX13_parts 57 = .ok (.goto 4, 3) := by decide +kernel
theorem dX13_parts_60 : decode cX13_parts 60 = .ok (.iconst 0, 1) := by decide +kernel
theorem dX13_parts_61 : decode cX13_parts 61 = .ok (.ireturn, 1) := by decide +kernel
theorem dX13_size_0 : decode cX13_size 0 = .ok (.iconst 1, 1) := by decide +kernel
theorem dX13_size_1 : decode cX13_size 1 = .ok (.istore_n 2, 1) := by decide +kernel
theorem dX13_size_2 : decode cX13_size 2 = .ok (.iconst 0, 1) := by decide +kernel
theorem dX13_size_3 : decode cX13_size 3 = .ok (.istore_n 3, 1) := by decide +kernel
theorem dX13_size_4 : decode cX13_size 4 = .ok (.iload_n 3, 1) := by decide +kernel
theorem dX13_size_5 : decode cX13_size 5 = .ok (.aload_n 0, 1) := by decide +kernel
theorem dX13_size_6 : decode cX13_size 6 = .ok (.iload_n 1, 1) := by decide +kernel
theorem dX13_size_7 : decode cX13_size 7 = .ok (.invokevirtual 252, 3) := by decide +kernel
theorem dX13_size_10 : decode cX13_size 10 = .ok (.if_icmp .ge 22, 3) := by decide +kernel
theorem dX13_size_13 : decode cX13_size 13 = .ok (.iload_n 2, 1) := by decide +kernel
theorem dX13_size_14 : decode cX13_size 14 = .ok (.aload_n 0, 1) := by decide +kernel
theorem dX13_size_15 : decode cX13_size 15 = .ok (.aload_n 0, 1) := by decide +kernel
theorem dX13_size_16 : decode cX13_size 16 = .ok (.iload_n 1, 1) := by decide +kernel
theorem dX13_size_17 : decode cX13_size 17 = .ok (.iload_n 3, 1) := by decide +kernel
theorem dX13_size_18 : decode cX13_size 18 = .ok (.invokevirtual 255, 3) := by decide +kernel
theorem dX13_size_21 : decode cX13_size 21 = .ok (.invokevirtual 259, 3) := by decide +kernel
theorem dX13_size_24 : decode cX13_size 24 = .ok (.iadd, 1) := by decide +kernel
theorem dX13_size_25 : decode cX13_size 25 = .ok (.istore_n 2, 1) := by decide +kernel
theorem dX13_size_26 : decode cX13_size 26 = .ok (.iinc 3 1, 3) := by decide +kernel
theorem dX13_size_29 : decode cX13_size 29 = .ok (.goto (-25), 3) := by decide +kernel
theorem dX13_size_32 : decode cX13_size 32 = .ok (.iload_n 2, 1) := by decide +kernel
theorem dX13_size_33 : decode cX13_size 33 = .ok (.ireturn, 1) := by decide +kernel
theorem dX13_isSame_0 : decode cX13_isSame 0 = .ok (.iload_n 1, 1) := by decide +kernel
theorem dX13_isSame_1 : decode cX13_isSame 1 = .ok (.iload_n 2, 1) := by decide +kernel
theorem dX13_isSame_2 : decode cX13_isSame 2 = .ok (.if_icmp .ne 5, 3) := by decide +kernel
theorem dX13_isSame_5 : decode cX13_isSame 5 = .ok (.iconst 1, 1) := by decide +kernel
theorem dX13_isSame_6 : decode cX13_isSame 6 = .ok (.ireturn, 1) := by decide +kernel
theorem dX13_isSame_7 : decode cX13_isSame 7 = .ok (.aload_n 0, 1) := by decide +kernel
theorem dX13_isSame_8 : decode cX13_isSame 8 = .ok (.getfield 12, 3) := by decide +kernel
theorem dX13_isSame_11 : decode cX13_isSame 11 = .ok (.iload_n 1, 1) := by decide +kernel
theorem dX13_isSame_12 : decode cX13_isSame 12 = .ok (.iaload, 1) := by decide +kernel
theorem dX13_isSame_13 : decode cX13_isSame 13 = .ok (.aload_n 0, 1) := by decide +kernel
theorem dX13_isSame_14 : decode cX13_isSame 14 = .ok (.getfield 12, 3) := by decide +kernel
theorem dX13_isSame_17 : decode cX13_isSame 17 = .ok (.iload_n 2, 1) := by decide +kernel
theorem dX13_isSame_18 : decode cX13_isSame 18 = .ok (.iaload, 1) := by decide +kernel
theorem dX13_isSame_19 : decode cX13_isSame 19 = .ok (.if_icmp .eq 5, 3) := by decide +kernel
theorem dX13_isSame_22 : decode cX13_isSame 22 = .ok (.iconst 0, 1) := by decide +kernel
theorem dX13_isSame_23 : decode cX13_isSame 23 = .ok (.ireturn, 1) := by decide +kernel
theorem dX13_isSame_24 : decode cX13_isSame 24 = .ok (.aload_n 0, 1) := by decide +kernel
theorem dX13_isSame_25 : decode cX13_isSame 25 = .ok (.getfield 12, 3) := by decide +kernel
theorem dX13_isSame_28 : decode cX13_isSame 28 = .ok (.iload_n 1, 1) := by decide +kernel
theorem dX13_isSame_29 : decode cX13_isSame 29 = .ok (.iaload, 1) := by decide +kernel
theorem dX13_isSame_30 : decode cX13_isSame 30 = .ok (.istore_n 3, 1) := by decide +kernel
theorem dX13_isSame_31 : decode cX13_isSame 31 = .ok (.iload_n 3, 1) := by decide +kernel
theorem dX13_isSame_32 : decode cX13_isSame 32 = .ok (.bipush 7, 2) := by decide +kernel
theorem dX13_isSame_34 : decode cX13_isSame 34 = .ok (.if_icmp .eq 21, 3) := by decide +kernel
theorem dX13_isSame_37 : decode cX13_isSame 37 = .ok (.iload_n 3, 1) := by decide +kernel
theorem dX13_isSame_38 : decode cX13_isSame 38 = .ok (.bipush 8, 2) := by decide +kernel
theorem dX13_isSame_40 : decode cX13_isSame 40 = .ok (.if_icmp .eq 15, 3) := by decide +kernel
theorem dX13_isSame_43 : decode cX13_isSame 43 = .ok (.iload_n 3, 1) := by decide +kernel
theorem dX13_isSame_44 : decode cX13_isSame 44 = .ok (.bipush 9, 2) := by decide +kernel
theorem dX13_isSame_46 : decode cX13_isSame 46 = .ok (.if_icmp .eq 9, 3) := by decide +kernel
theorem dX13_isSame_49 : decode cX13_isSame 49 = .ok (.iload_n 3, 1) := by decide +kernel
theorem dX13_isSame_50 : decode cX13_isSame 50 = .ok (.bipush 10, 2) := by decide +kernel
theorem dX13_isSame_52 : decode cX13_isSame 52 = .ok (.if_icmp .ne 20, 3) := by decide +kernel
theorem dX13_isSame_55 : decode cX13_isSame 55 = .ok (.aload_n 0, 1) := by decide +kernel
theorem dX13_isSame_56 : decode cX13_isSame 56 = .ok (.getfield 16, 3) := by decide +kernel
theorem dX13_isSame_59 : decode cX13_isSame 59 = .ok (.iload_n 1, 1) := by decide +kernel
theorem dX13_isSame_60 : decode cX13_isSame 60 = .ok (.iaload, 1) := by decide +kernel
theorem dX13_isSame_61 : decode cX13_isSame 61 = .ok (.aload_n 0, 1) := by decide +kernel
theorem dX13_isSame_62 : decode cX13_isSame 62 = .ok (.getfield 16, 3) := by decide +kernel
theorem dX13_isSame_65 : decode cX13_isSame 65 = .ok (.iload_n 2, 1) := by decide +kernel
theorem dX13_isSame_66 : decode cX13_isSame 66 = .ok (.iaload, 1) := by decide +kernel
theorem dX13_isSame_67 : decode cX13_isSame 67 = .ok (.if_icmp .eq 5, 3) := by decide +kernel
theorem dX13_isSame_70 : decode cX13_isSame 70 = .ok (.iconst 0, 1) := by decide +kernel
theorem dX13_isSame_71 : decode cX13_isSame 71 = .ok (.ireturn, 1) := by decide +kernel
theorem dX13_isSame_72 : decode cX13_isSame 72 = .ok (.iconst 0, 1) := by decide +kernel
theorem dX13_isSame_73 : decode cX13_isSame 73 = .ok (.istore 4, 2) := by decide +kernel
theorem dX13_isSame_75 : decode cX13_isSame 75 = .ok (.iload 4, 2) := by decide +kernel
theorem dX13_isSame_77 : decode cX13_isSame 77 = .ok (.aload_n 0, 1) := by decide +kernel
theorem dX13_isSame_78 : decode cX13_isSame 78 = .ok (.iload_n 1, 1) := by decide +kernel
theorem dX13_isSame_79 : decode cX13_isSame 79 = .ok (.invokevirtual 252, 3) := by decide +kernel
theorem dX13_isSame_82 : decode cX13_isSame 82 = .ok (.if_icmp .ge 32, 3) := by decide +kernel
theorem dX13_isSame_85 : decode cX13_isSame 85 = .ok (.aload_n 0, 1) := by decide +kernel
theorem dX13_isSame_86 : decode cX13_isSame 86 = .ok (.aload_n 0, 1) := by decide +kernel
theorem dX13_isSame_87 : decode cX13_isSame 87 = .ok (.iload_n 1, 1) := by decide +kernel
theorem dX13_isSame_88 : decode cX13_isSame 88 = .ok (.iload 4, 2) := by decide +kernel
theorem dX13_isSame_90 : decode cX13_isSame 90 = .ok (.invokevirtual 255, 3) := by decide +kernel
theorem dX13_isSame_93 : decode cX13_isSame 93 = .ok (.aload_n 0, 1) := by decide +kernel
theorem dX13_isSame_94 : decode cX13_isSame 94 = .ok (.iload_n 2, 1) := by decide +kernel
theorem dX13_isSame_95 : decode cX13_isSame 95 = .ok (.iload 4, 2) := by decide +kernel
theorem dX13_isSame_97 : decode cX13_isSame 97 = .ok (.invokevirtual 255, 3) := by decide +kernel
theorem dX13_isSame_100 : decode cX13_isSame 100 = .ok (.invokevirtual 262, 3) := by decide +kernel
theorem dX13_isSame_103 : decode cX13_isSame 103 = .ok (.ifCond .ne 5, 3) := by decide +kernel
theorem dX13_isSame_106 : decode cX13_isSame 106 = .ok (.iconst 0, 1) := by decide +kernel
theorem dX13_isSame_107 : decode cX13_isSame 107 = .ok (.ireturn, 1) := by decide +kernel
theorem dX13_isSame_108 : decode cX13_isSame 108 = .ok (.iinc 4 1, 3) := by decide +kernel
theorem dX13_isSame_111 : decode cX13_isSame 111 = .ok (.goto (-36), 3) := by decide +kernel
theorem dX13_isSame_114 : decode cX13_isSame 114 = .ok (.iconst 1, 1) := by decide +kernel
theorem dX13_isSame_115 : decode cX13_isSame 115 = .ok (.ireturn, 1) := by decide +kernel
theorem dX13_hasBound_0 : decode cX13_hasBound 0 = .ok (.aload_n 0, 1) := by decide +kernel
theorem dX13_hasBound_1 : decode cX13_hasBound 1 = .ok (.getfield 12, 3) := by decide +kernel
theorem dX13_hasBound_4 : decode cX13_hasBound 4 = .ok (.iload_n 1, 1) := by decide +kernel
theorem dX13_hasBound_5 : decode cX13_hasBound 5 = .ok (.iaload, 1) := by decide +kernel
theorem dX13_hasBound_6 : decode cX13_hasBound 6 = .ok (.bipush 10, 2) := by decide +kernel
theorem dX13_hasBound_8 : decode cX13_hasBound 8 = .ok (.if_icmp .ne 5, 3) := by decide +kernel
theorem dX13_hasBound_11 : decode cX13_hasBound 11 = .ok (.iconst 1, 1) := by decide +kernel
theorem dX13_hasBound_12 : decode cX13_hasBound 12 = .ok (.ireturn, 1) := by decide +kernel
theorem dX13_hasBound_13 : decode cX13_hasBound 13 = .ok (.iconst 0, 1) := by decide +kernel
theorem dX13_hasBound_14 : decode cX13_hasBound 14 = .ok (.istore_n 2, 1) := by decide +kernel
theorem dX13_hasBound_15 : decode cX13_hasBound 15 = .ok (.iload_n 2, 1) := by decide +kernel
theorem dX13_hasBound_16 : decode cX13_hasBound 16 = .ok (.aload_n 0, 1) := by decide +kernel
theorem dX13_hasBound_17 : decode cX13_hasBound 17 = .ok (.iload_n 1, 1) := by decide +kernel
theorem dX13_hasBound_18 : decode cX13_hasBound 18 = .ok (.invokevirtual 252, 3) := by decide +kernel
theorem dX13_hasBound_21 : decode cX13_hasBound 21 = .ok (.if_icmp .ge 24, 3) := by decide +kernel
theorem dX13_hasBound_24 : decode cX13_hasBound 24 = .ok (.aload_n 0, 1) := by decide +kernel
theorem dX13_hasBound_25 : decode cX13_hasBound 25 = .ok (.aload_n 0, 1) := by decide +kernel
theorem dX13_hasBound_26 : decode cX13_hasBound 26 = .ok (.iload_n 1, 1) := by decide +kernel
theorem dX13_hasBound_27 : decode cX13_hasBound 27 = .ok (.iload_n 2, 1) := by decide +kernel
theorem dX13_hasBound_28 : decode cX13_hasBound 28 = .ok (.invokevirtual 255, 3) := by decide +kernel
theorem dX13_hasBound_31 : decode cX13_hasBound 31 = .ok (.invokevirtual 273, 3) := by decide +kernel
theorem dX13_hasBound_34 : decode cX13_hasBound 34 = .ok (.ifCond .eq 5, 3) := by decide +kernel
theorem dX13_hasBound_37 : decode cX13_hasBound 37 = .ok (.iconst 1, 1) := by decide +kernel
theorem dX13_hasBound_38 : decode cX13_hasBound 38 = .ok (.ireturn, 1) := by decide +kernel
theorem dX13_hasBound_39 : decode cX13_hasBound 39 = .ok (.iinc 2 1, 3) := by decide +kernel
theorem dX13_hasBound_42 : decode cX13_hasBound 42 = .ok (.goto (-27), 3) := by decide +kernel
theorem dX13_hasBound_45 : decode cX13_hasBound 45 = .ok (.iconst 0, 1) := by decide +kernel
theorem dX13_hasBound_46 : decode cX13_hasBound 46 = .ok (.ireturn, 1) := by decide +kernel
theorem dX13_countOf_0 : decode cX13_countOf 0 = .ok (.aload_n 0, 1) := by decide +kernel
theorem dX13_countOf_1 : decode cX13_countOf 1 = .ok (.iload_n 1, 1) := by decide +kernel
theorem dX13_countOf_2 : decode cX13_countOf 2 = .ok (.iload_n 2, 1) := by decide +kernel
theorem dX13_countOf_3 : decode cX13_countOf 3 = .ok (.invokevirtual 262, 3) := by decide +kernel
theorem dX13_countOf_6 : decode cX13_countOf 6 = .ok (.ifCond .eq 5, 3) := by decide +kernel
theorem dX13_countOf_9 : decode cX13_countOf 9 = .ok (.iconst 1, 1) := by decide +kernel
theorem dX13_countOf_10 : decode cX13_countOf 10 = .ok (.ireturn, 1) := by decide +kernel
theorem dX13_countOf_11 : decode cX13_countOf 11 = .ok (.iconst 0, 1) := by decide +kernel
theorem dX13_countOf_12 : decode cX13_countOf 12 = .ok (.istore_n 3, 1) := by decide +kernel
theorem dX13_countOf_13 : decode cX13_countOf 13 = .ok (.iconst 0, 1) := by decide +kernel
theorem dX13_countOf_14 : decode cX13_countOf 14 = .ok (.istore 4, 2) := by decide +kernel
theorem dX13_countOf_16 : decode cX13_countOf 16 = .ok (.iload 4, 2) := by decide +kernel
theorem dX13_countOf_18 : decode cX13_countOf 18 = .ok (.aload_n 0, 1) := by decide +kernel
theorem dX13_countOf_19 : decode cX13_countOf 19 = .ok (.iload_n 1, 1) := by decide +kernel
theorem dX13_countOf_20 : decode cX13_countOf 20 = .ok (.invokevirtual 252, 3) := by decide +kernel
theorem dX13_countOf_23 : decode cX13_countOf 23 = .ok (.if_icmp .ge 24, 3) := by decide +kernel
theorem dX13_countOf_26 : decode cX13_countOf 26 = .ok (.iload_n 3, 1) := by decide +kernel
theorem dX13_countOf_27 : decode cX13_countOf 27 = .ok (.aload_n 0, 1) := by decide +kernel
theorem dX13_countOf_28 : decode cX13_countOf 28 = .ok (.aload_n 0, 1) := by decide +kernel
theorem dX13_countOf_29 : decode cX13_countOf 29 = .ok (.iload_n 1, 1) := by decide +kernel
theorem dX13_countOf_30 : decode cX13_countOf 30 = .ok (.iload 4, 2) := by decide +kernel
theorem dX13_countOf_32 : decode cX13_countOf 32 = .ok (.invokevirtual 255, 3) := by decide +kernel
theorem dX13_countOf_35 : decode cX13_countOf 35 = .ok (.iload_n 2, 1) := by decide +kernel
theorem dX13_countOf_36 : decode cX13_countOf 36 = .ok (.invokevirtual 280, 3) := by decide +kernel
theorem dX13_countOf_39 : decode cX13_countOf 39 = .ok (.iadd, 1) := by decide +kernel
theorem dX13_countOf_40 : decode cX13_countOf 40 = .ok (.istore_n 3, 1) := by decide +kernel
theorem dX13_countOf_41 : decode cX13_countOf 41 = .ok (.iinc 4 1, 3) := by decide +kernel
theorem dX13_countOf_44 : decode cX13_countOf 44 = .ok (.goto (-28), 3) := by decide +kernel
theorem dX13_countOf_47 : decode cX13_countOf 47 = .ok (.iload_n 3, 1) := by decide +kernel
theorem dX13_countOf_48 : decode cX13_countOf 48 = .ok (.ireturn, 1) := by decide +kernel
def EX13_parts : List (Nat × Nat) := []
def EX13_partK : List (Nat × Nat) := []
def EX13_nodeK : List (Nat × Nat) := [(15, 5), (150, 0), (151, 0), (152, 0), (153, 0), (154, 0)]
def EX13_size : List (Nat × Nat) := []
def EX13_isSame : List (Nat × Nat) := []
def EX13_hasBound : List (Nat × Nat) := []
def EX13_countOf : List (Nat × Nat) := []
def qX13_size (l : Launch) (dC : Nat → ClassId) (dI : Nat → Nat → Nat) (ca : Nat → ClassId) (base : Nat) (B : jF) (d : Nat) : Prop := ∀ (G0 : jT) (H0 : Heap) (r0 : Nat) (a1 : Int32) (zs : Nat) (zn : Nat) (za : Nat) (zb : Nat) (zc : Nat) (zy : Nat) (C : jK), Met l yX13_size (jw yX13_size cX13_size 4 (some .int)) ({ frames := d + 3, cells := 0, slots := 0, locals := 40 * d + 200 }) (va_Pc [.ref r0, .int a1] (fun U => U.heap = H0 ∧ jX B base G0 [] H0 ∧ jG dC dI ca base U ∧ G0 r0 = some (15, 0) ∧ G0 zs = some (150, 120000) ∧ G0 zn = some (151, 120000) ∧ G0 za = some (152, 120000) ∧ G0 zb = some (153, 120000) ∧ G0 zc = some (154, 120000) ∧ G0 zy = some (165, 16) ∧ jP (dC, dI) G0 H0 [(r0, 15, 0, .ref zs), (r0, 15, 1, .ref zn), (r0, 15, 2, .ref za), (r0, 15, 3, .ref zb), (r0, 15, 4, .ref zc), (r0, 15, 14, .ref zy)] ∧ jMc (dC, dI) G0 H0 [(zs, 150, 120000, ca 1, C.s), (zn, 151, 120000, ca 1, C.n), (za, 152, 120000, ca 1, C.a), (zb, 153, 120000, ca 1, C.b), (zc, 154, 120000, ca 1, C.c), (zy, 165, 16, ca 1, C.y)] ∧ jTr C d a1.toInt ∧ d ≤ 2000 ∧ jsz C a1.toInt ≤ 1000000)) (va_Qi (S := Unit) (fun r u => (r.toInt = jsz C a1.toInt)) (fun u t => jRt (dC, dI) B base G0 EX13_size H0 [] t.heap) (jA base)) 0 0 (jA base)
def qX13_isSame (l : Launch) (dC : Nat → ClassId) (dI : Nat → Nat → Nat) (ca : Nat → ClassId) (base : Nat) (B : jF) (d : Nat) : Prop := ∀ (G0 : jT) (H0 : Heap) (r0 : Nat) (a1 : Int32) (a2 : Int32) (zs : Nat) (zn : Nat) (za : Nat) (zb : Nat) (zc : Nat) (zy : Nat) (C : jK), Met l yX13_isSame (jw yX13_isSame cX13_isSame 5 (some .boolean)) ({ frames := d + 3, cells := 0, slots := 0, locals := 40 * d + 200 }) (va_Pc [.ref r0, .int a1, .int a2] (fun U => U.heap = H0 ∧ jX B base G0 [] H0 ∧ jG dC dI ca base U ∧ G0 r0 = some (15, 0) ∧ G0 zs = some (150, 120000) ∧ G0 zn = some (151, 120000) ∧ G0 za = some (152, 120000) ∧ G0 zb = some (153, 120000) ∧ G0 zc = some (154, 120000) ∧ G0 zy = some (165, 16) ∧ jP (dC, dI) G0 H0 [(r0, 15, 0, .ref zs), (r0, 15, 1, .ref zn), (r0, 15, 2, .ref za), (r0, 15, 3, .ref zb), (r0, 15, 4, .ref zc), (r0, 15, 14, .ref zy)] ∧ jMc (dC, dI) G0 H0 [(zs, 150, 120000, ca 1, C.s), (zn, 151, 120000, ca 1, C.n), (za, 152, 120000, ca 1, C.a), (zb, 153, 120000, ca 1, C.b), (zc, 154, 120000, ca 1, C.c), (zy, 165, 16, ca 1, C.y)] ∧ jTr C d a1.toInt ∧ jTr C d a2.toInt ∧ d ≤ 2000)) (va_Qi (S := Unit) (fun r u => (r = 0 ∨ r = 1) ∧ (r.toInt = jSm C a1.toInt a2.toInt)) (fun u t => jRt (dC, dI) B base G0 EX13_isSame H0 [] t.heap) (jA base)) 0 0 (jA base)
def qX13_hasBound (l : Launch) (dC : Nat → ClassId) (dI : Nat → Nat → Nat) (ca : Nat → ClassId) (base : Nat) (B : jF) (d : Nat) : Prop := ∀ (G0 : jT) (H0 : Heap) (r0 : Nat) (a1 : Int32) (zs : Nat) (zn : Nat) (za : Nat) (zb : Nat) (zc : Nat) (zy : Nat) (C : jK), Met l yX13_hasBound (jw yX13_hasBound cX13_hasBound 3 (some .boolean)) ({ frames := d + 3, cells := 0, slots := 0, locals := 40 * d + 200 }) (va_Pc [.ref r0, .int a1] (fun U => U.heap = H0 ∧ jX B base G0 [] H0 ∧ jG dC dI ca base U ∧ G0 r0 = some (15, 0) ∧ G0 zs = some (150, 120000) ∧ G0 zn = some (151, 120000) ∧ G0 za = some (152, 120000) ∧ G0 zb = some (153, 120000) ∧ G0 zc = some (154, 120000) ∧ G0 zy = some (165, 16) ∧ jP (dC, dI) G0 H0 [(r0, 15, 0, .ref zs), (r0, 15, 1, .ref zn), (r0, 15, 2, .ref za), (r0, 15, 3, .ref zb), (r0, 15, 4, .ref zc), (r0, 15, 14, .ref zy)] ∧ jMc (dC, dI) G0 H0 [(zs, 150, 120000, ca 1, C.s), (zn, 151, 120000, ca 1, C.n), (za, 152, 120000, ca 1, C.a), (zb, 153, 120000, ca 1, C.b), (zc, 154, 120000, ca 1, C.c), (zy, 165, 16, ca 1, C.y)] ∧ jTr C d a1.toInt ∧ d ≤ 2000)) (va_Qi (S := Unit) (fun r u => (r = 0 ∨ r = 1) ∧ ((r.toInt = 0 → jNbF C d a1.toInt))) (fun u t => jRt (dC, dI) B base G0 EX13_hasBound H0 [] t.heap) (jA base)) 0 0 (jA base)
def qX13_countOf (l : Launch) (dC : Nat → ClassId) (dI : Nat → Nat → Nat) (ca : Nat → ClassId) (base : Nat) (B : jF) (d : Nat) : Prop := ∀ (G0 : jT) (H0 : Heap) (r0 : Nat) (a1 : Int32) (a2 : Int32) (zs : Nat) (zn : Nat) (za : Nat) (zb : Nat) (zc : Nat) (zy : Nat) (C : jK), Met l yX13_countOf (jw yX13_countOf cX13_countOf 5 (some .int)) ({ frames := d + 90, cells := 0, slots := 0, locals := 60 * d + 6000 }) (va_Pc [.ref r0, .int a1, .int a2] (fun U => U.heap = H0 ∧ jX B base G0 [] H0 ∧ jG dC dI ca base U ∧ G0 r0 = some (15, 0) ∧ G0 zs = some (150, 120000) ∧ G0 zn = some (151, 120000) ∧ G0 za = some (152, 120000) ∧ G0 zb = some (153, 120000) ∧ G0 zc = some (154, 120000) ∧ G0 zy = some (165, 16) ∧ jP (dC, dI) G0 H0 [(r0, 15, 0, .ref zs), (r0, 15, 1, .ref zn), (r0, 15, 2, .ref za), (r0, 15, 3, .ref zb), (r0, 15, 4, .ref zc), (r0, 15, 14, .ref zy)] ∧ jMc (dC, dI) G0 H0 [(zs, 150, 120000, ca 1, C.s), (zn, 151, 120000, ca 1, C.n), (za, 152, 120000, ca 1, C.a), (zb, 153, 120000, ca 1, C.b), (zc, 154, 120000, ca 1, C.c), (zy, 165, 16, ca 1, C.y)] ∧ jTr C d a1.toInt ∧ d ≤ 80 ∧ jTr C 80 a2.toInt ∧ jsz C a1.toInt ≤ 1000000)) (va_Qi (S := Unit) (fun r u => (r.toInt = jCn C a2.toInt a1.toInt)) (fun u t => jRt (dC, dI) B base G0 EX13_countOf H0 [] t.heap) (jA base)) 0 0 (jA base)
set_option maxHeartbeats 4000000 in
set_option maxRecDepth 20000 in
theorem uX13_parts (l : Launch) (dC : Nat → ClassId) (dI : Nat → Nat → Nat) (ca : Nat → ClassId) (base : Nat) (B : jF) (hB : jBok B) (hAp : jAp (dC, dI)) (hB15 : ∀ n G a H, B 15 n G a H ↔ jOb (dC, dI) 15 50 (F15 n G) a H) (hB150 : ∀ n G a H, B 150 n G a H ↔ jAr (dC, dI) (ca 1) (fun j z => True) n a H) (hB151 : ∀ n G a H, B 151 n G a H ↔ jAr (dC, dI) (ca 1) (fun j z => True) n a H) (hB152 : ∀ n G a H, B 152 n G a H ↔ jAr (dC, dI) (ca 1) (fun j z => True) n a H) (hB153 : ∀ n G a H, B 153 n G a H ↔ jAr (dC, dI) (ca 1) (fun j z => True) n a H) (hB154 : ∀ n G a H, B 154 n G a H ↔ jAr (dC, dI) (ca 1) (fun j z => True) n a H) (hB165 : ∀ n G a H, B 165 n G a H ↔ jAr (dC, dI) (ca 1) (fun j z => 0 ≤ z.toInt ∧ z.toInt ≤ 3) n a H) (G0 : jT) (H0 : Heap) (r0 : Nat) (a1 : Int32) (zs : Nat) (zn : Nat) (za : Nat) (zb : Nat) (zc : Nat) (zy : Nat) (C : jK) : Met l yX13_parts (jw yX13_parts cX13_parts 3 (some .int)) ({ frames := 0, cells := 0, slots := 0, locals := 0 }) (va_Pc [.ref r0, .int a1] (fun U => U.heap = H0 ∧ jX B base G0 [] H0 ∧ jG dC dI ca base U ∧ G0 r0 = some (15, 0) ∧ G0 zs = some (150, 120000) ∧ G0 zn = some (151, 120000) ∧ G0 za = some (152, 120000) ∧ G0 zb = some (153, 120000) ∧ G0 zc = some (154, 120000) ∧ G0 zy = some (165, 16) ∧ jP (dC, dI) G0 H0 [(r0, 15, 0, .ref zs), (r0, 15, 1, .ref zn), (r0, 15, 2, .ref za), (r0, 15, 3, .ref zb), (r0, 15, 4, .ref zc), (r0, 15, 14, .ref zy)] ∧ jMc (dC, dI) G0 H0 [(zs, 150, 120000, ca 1, C.s), (zn, 151, 120000, ca 1, C.n), (za, 152, 120000, ca 1, C.a), (zb, 153, 120000, ca 1, C.b), (zc, 154, 120000, ca 1, C.c), (zy, 165, 16, ca 1, C.y)] ∧ 0 ≤ a1.toInt ∧ a1.toInt < 120000 ∧ (jSo C.s a1.toInt = 7 ∨ jSo C.s a1.toInt = 8 → 0 ≤ jSo C.n a1.toInt ∧ jSo C.n a1.toInt < 16))) (va_Qi (S := Unit) (fun r u => (r.toInt = jPts C a1.toInt ∧ 0 ≤ r.toInt ∧ r.toInt ≤ 3)) (fun u t => jRt (dC, dI) B base G0 EX13_parts H0 [] t.heap) (jA base)) 0 0 (jA base) := by
  refine Met.ofW (cc := cX13_parts) (maxL := 3) (ret := (some .int)) (by decide) rfl ?_
  intro p e s m args below meth c s₁ Bd hml hv
  obtain ⟨rfl, hH0, hX, hG, hg_r0, hg_zs, hg_zn, hg_za, hg_zb, hg_zc, hg_zy, hP0, hM0, hp0, hp1, hp2⟩ := hv
  have hK := hG.1
  have hx := Bd.exec
  have hb := Bd.bytes
  have hr := Bd.returns
  have hts := atoms_spec (ws := (jw yX13_parts cX13_parts 3 (some .int))) Bd.pre
  have htw : ∀ w ∈ jWl, w.before _ s = true := fun w h => hts w (List.mem_cons_of_mem _ h)
  have hown : s.vm.findClass RX13 = some m.cls := findClass_of_methodNamed Bd.named
  have hlocks := Bd.notSynchronized
  obtain ⟨Q, hQ⟩ : ∃ Q, Q = MQ below (va_Qi (S := Unit) (fun r u => (r.toInt = jPts C a1.toInt ∧ 0 ≤ r.toInt ∧ r.toInt ≤ 3)) (fun u t => jRt (dC, dI) B base G0 EX13_parts H0 [] t.heap) (jA base)) ([.ref r0, .int a1] : List Value).toArray s 0 0 (jA base) := ⟨_, rfl⟩
  rw [← hQ]
  have hl := lv_entry ([.ref r0, .int a1]) (n := 3) (Nat.le_of_ble_eq_true rfl)
  rw [lg_entry_eq]
  generalize (lg_sl ([.ref r0, .int a1]) ++ List.replicate (3 - (lg_sl ([.ref r0, .int a1])).length) Slot.unset).toArray = ls at hl ⊢
  have hl : lv_has ls 3 [(0, .ref r0), (1, .int a1)] := hl
  generalize hR : (headSpec (jw yX13_parts cX13_parts 3 (some .int)) ({ frames := 0, cells := 0, slots := 0, locals := 0 })).room = R
  subst hH0
  have hh : jSt (dC, dI) B base G0 G0 EX13_parts s.heap 0 0 [(r0, 15, 0, .ref zs), (r0, 15, 1, .ref zn), (r0, 15, 2, .ref za), (r0, 15, 3, .ref zb), (r0, 15, 4, .ref zc), (r0, 15, 14, .ref zy)] [(zs, 150, 120000, ca 1, C.s), (zn, 151, 120000, ca 1, C.n), (za, 152, 120000, ca 1, C.a), (zb, 153, 120000, ca 1, C.b), (zc, 154, 120000, ca 1, C.c), (zy, 165, 16, ca 1, C.y)] [] s.heap [] := jSt.start hX hP0 hM0 jIs.nil
  clear hX hP0
  have hk0 : (0 : Int32).toInt = 0 := by decide
  have hk1 : (1 : Int32).toInt = 1 := by decide
  have hk2 : (2 : Int32).toInt = 2 := by decide
  have hk4 : (4 : Int32).toInt = 4 := by decide
  have hk5 : (5 : Int32).toInt = 5 := by decide
  have hk6 : (6 : Int32).toInt = 6 := by decide
  have hk7 : (7 : Int32).toInt = 7 := by decide
  have hk8 : (8 : Int32).toInt = 8 := by decide
  have hly_15_0 := htw (u_lay RX13 TX13 0) (jWc_wsX130 _ (u_in_lay (by decide)))
  have hly_15_1 := htw (u_lay RX13 TX13 1) (jWc_wsX130 _ (u_in_lay (by decide)))
  have hly_15_14 := htw (u_lay RX13 TX13 14) (jWc_wsX130 _ (u_in_lay (by decide)))
  have hlk_12 := (htw (.fieldLink RX13 12 "ProofServerModel$Kernel" "sort" "[I") (jWr_14 _ (List.mem_of_getElem? (i := 9) rfl)))
  have hlk_44 := (htw (.fieldLink RX13 44 "ProofServerModel$Kernel" "arity" "[I") (jWr_14 _ (List.mem_of_getElem? (i := 19) rfl)))
  have hlk_16 := (htw (.fieldLink RX13 16 "ProofServerModel$Kernel" "name" "[I") (jWr_14 _ (List.mem_of_getElem? (i := 10) rfl)))
  have hrg_a1 := jb_rng a1
  refine lv_aload_n hx hb dX13_parts_0 rfl (lv_at hl 0 rfl) ?_
  refine j7_read hx hb hown hK (C := RX13) (T := TX13) (N := 50) rfl hly_15_0 hlk_12 (hh.at 0 rfl) dX13_parts_1 ?_
  refine lv_iload_n hx hb dX13_parts_4 rfl (lv_at hl 1 rfl) ?_
  refine j7_ialdM hx hb hK hh hB150 1 rfl (by decide) hg_zs (x := a1.toInt) (rfl) (by omega) (j := 0) rfl dX13_parts_5 (fun z_1 ez_1 (hz_1 : True) => ?_)
  have hqz_1 : z_1.toInt = jSo C.s (a1.toInt) := by unfold jSo; rw [ez_1]
  refine lv_istore_n (lv' := [(2, .int z_1), (0, .ref r0), (1, .int a1)]) hx hb dX13_parts_6 rfl hl (by decide) rfl (fun ls hl => ?_)
  refine lv_iload_n hx hb dX13_parts_7 rfl (lv_at hl 0 rfl) ?_
  refine lv_bipush (v := 7) hx hb dX13_parts_8 (by decide) ?_
  refine lv_icmp_eq (tgt := 19) hx hb dX13_parts_10 (by decide) (fun c_2 => ?_) (fun c_2 => ?_)
  · skip
    have c_2' : z_1.toInt = 7 := jb_eq (rfl) ((by decide)) c_2
    refine lv_aload_n hx hb dX13_parts_19 rfl (lv_at hl 1 rfl) ?_
    refine j7_read hx hb hown hK (C := RX13) (T := TX13) (N := 50) rfl hly_15_14 hlk_44 (hh.at 5 rfl) dX13_parts_20 ?_
    refine lv_aload_n hx hb dX13_parts_23 rfl (lv_at hl 1 rfl) ?_
    refine j7_read hx hb hown hK (C := RX13) (T := TX13) (N := 50) rfl hly_15_1 hlk_16 (hh.at 1 rfl) dX13_parts_24 ?_
    refine lv_iload_n hx hb dX13_parts_27 rfl (lv_at hl 2 rfl) ?_
    refine j7_ialdM hx hb hK hh hB151 1 rfl (by decide) hg_zn (x := a1.toInt) (rfl) (by omega) (j := 1) rfl dX13_parts_28 (fun z_3 ez_3 (hz_3 : True) => ?_)
    have hqz_3 : z_3.toInt = jSo C.n (a1.toInt) := by unfold jSo; rw [ez_3]
    refine j7_ialdM hx hb hK hh hB165 1 rfl (by decide) hg_zy (x := z_3.toInt) (rfl) (by omega) (j := 5) rfl dX13_parts_29 (fun z_4 ez_4 (hz_4 : 0 ≤ z_4.toInt ∧ z_4.toInt ≤ 3) => ?_)
    have hqz_4 : z_4.toInt = jSo C.y (z_3.toInt) := by unfold jSo; rw [ez_4]
    rw [hQ]
    exact W.iret (v := z_4) hx hb hr (fun t ht hW => ⟨⟨z_4, (), rfl, by refine ⟨?_, by omega, by omega⟩; unfold jPts; first | (rw [if_pos (by omega), ← hqz_3]; exact hqz_4) | (rw [if_neg (by omega), if_pos (by omega)]; exact hk2) | (rw [if_neg (by omega), if_neg (by omega), if_pos (by omega)]; exact hk1) | (rw [if_neg (by omega), if_neg (by omega), if_neg (by omega)]; exact hk0), hh.rt (M1 := []) [] rfl ht⟩, by rw [ht]; try exact hh.1.1, fun q h9 hq => by rw [ht]; try exact hh.1.2.1 q h9 hq⟩) hh.1.2.2 dX13_parts_30
  · skip
    have c_2' : z_1.toInt ≠ 7 := jb_eq_n (rfl) ((by decide)) c_2
    refine lv_iload_n hx hb dX13_parts_13 rfl (lv_at hl 0 rfl) ?_
    refine lv_bipush (v := 8) hx hb dX13_parts_14 (by decide) ?_
    refine lv_icmp_ne (tgt := 31) hx hb dX13_parts_16 (by decide) (fun c_5 => ?_) (fun c_5 => ?_)
    · skip
      have c_5' : z_1.toInt ≠ 8 := jb_ne (rfl) ((by decide)) c_5
      refine lv_iload_n hx hb dX13_parts_31 rfl (lv_at hl 0 rfl) ?_
      refine lv_iconst (v := 2) hx hb dX13_parts_32 (by decide) ?_
      refine lv_icmp_le (tgt := 42) hx hb dX13_parts_33 (by decide) (fun c_6 => ?_) (fun c_6 => ?_)
      · skip
        have c_6' : z_1.toInt ≤ 2 := jb_le (rfl) ((by decide)) c_6
        refine lv_iconst (v := 2) hx hb dX13_parts_42 (by decide) ?_
        refine lv_goto (tgt := 61) hx hb dX13_parts_43 (by decide) ?_
        rw [hQ]
        exact W.iret (v := 2) hx hb hr (fun t ht hW => ⟨⟨2, (), rfl, by refine ⟨?_, by omega, by omega⟩; unfold jPts; first | (rw [if_pos (by omega), ← (zz_none)]; exact (zz_none)) | (rw [if_neg (by omega), if_pos (by omega)]; exact hk2) | (rw [if_neg (by omega), if_neg (by omega), if_pos (by omega)]; exact hk1) | (rw [if_neg (by omega), if_neg (by omega), if_neg (by omega)]; exact hk0), hh.rt (M1 := []) [] rfl ht⟩, by rw [ht]; try exact hh.1.1, fun q h9 hq => by rw [ht]; try exact hh.1.2.1 q h9 hq⟩) hh.1.2.2 dX13_parts_61
      · skip
        have c_6' : z_1.toInt > 2 := jb_le_n (rfl) ((by decide)) c_6
        refine lv_iload_n hx hb dX13_parts_36 rfl (lv_at hl 0 rfl) ?_
        refine lv_bipush (v := 6) hx hb dX13_parts_37 (by decide) ?_
        refine lv_icmp_ne (tgt := 46) hx hb dX13_parts_39 (by decide) (fun c_7 => ?_) (fun c_7 => ?_)
        · skip
          have c_7' : z_1.toInt ≠ 6 := jb_ne (rfl) ((by decide)) c_7
          refine lv_iload_n hx hb dX13_parts_46 rfl (lv_at hl 0 rfl) ?_
          refine lv_iconst (v := 4) hx hb dX13_parts_47 (by decide) ?_
          refine lv_icmp_eq (tgt := 56) hx hb dX13_parts_48 (by decide) (fun c_8 => ?_) (fun c_8 => ?_)
          · skip
            have c_8' : z_1.toInt = 4 := jb_eq (rfl) ((by decide)) c_8
            refine lv_iconst (v := 1) hx hb dX13_parts_56 (by decide) ?_
            refine lv_goto (tgt := 61) hx hb dX13_parts_57 (by decide) ?_
            rw [hQ]
            exact W.iret (v := 1) hx hb hr (fun t ht hW => ⟨⟨1, (), rfl, by refine ⟨?_, by omega, by omega⟩; unfold jPts; first | (rw [if_pos (by omega), ← (zz_none)]; exact (zz_none)) | (rw [if_neg (by omega), if_pos (by omega)]; exact hk2) | (rw [if_neg (by omega), if_neg (by omega), if_pos (by omega)]; exact hk1) | (rw [if_neg (by omega), if_neg (by omega), if_neg (by omega)]; exact hk0), hh.rt (M1 := []) [] rfl ht⟩, by rw [ht]; try exact hh.1.1, fun q h9 hq => by rw [ht]; try exact hh.1.2.1 q h9 hq⟩) hh.1.2.2 dX13_parts_61
          · skip
            have c_8' : z_1.toInt ≠ 4 := jb_eq_n (rfl) ((by decide)) c_8
            refine lv_iload_n hx hb dX13_parts_51 rfl (lv_at hl 0 rfl) ?_
            refine lv_iconst (v := 5) hx hb dX13_parts_52 (by decide) ?_
            refine lv_icmp_ne (tgt := 60) hx hb dX13_parts_53 (by decide) (fun c_9 => ?_) (fun c_9 => ?_)
            · skip
              have c_9' : z_1.toInt ≠ 5 := jb_ne (rfl) ((by decide)) c_9
              refine lv_iconst (v := 0) hx hb dX13_parts_60 (by decide) ?_
              rw [hQ]
              exact W.iret (v := 0) hx hb hr (fun t ht hW => ⟨⟨0, (), rfl, by refine ⟨?_, by omega, by omega⟩; unfold jPts; first | (rw [if_pos (by omega), ← (zz_none)]; exact (zz_none)) | (rw [if_neg (by omega), if_pos (by omega)]; exact hk2) | (rw [if_neg (by omega), if_neg (by omega), if_pos (by omega)]; exact hk1) | (rw [if_neg (by omega), if_neg (by omega), if_neg (by omega)]; exact hk0), hh.rt (M1 := []) [] rfl ht⟩, by rw [ht]; try exact hh.1.1, fun q h9 hq => by rw [ht]; try exact hh.1.2.1 q h9 hq⟩) hh.1.2.2 dX13_parts_61
            · skip
              have c_9' : z_1.toInt = 5 := jb_ne_n (rfl) ((by decide)) c_9
              refine lv_iconst (v := 1) hx hb dX13_parts_56 (by decide) ?_
              refine lv_goto (tgt := 61) hx hb dX13_parts_57 (by decide) ?_
              rw [hQ]
              exact W.iret (v := 1) hx hb hr (fun t ht hW => ⟨⟨1, (), rfl, by refine ⟨?_, by omega, by omega⟩; unfold jPts; first | (rw [if_pos (by omega), ← (zz_none)]; exact (zz_none)) | (rw [if_neg (by omega), if_pos (by omega)]; exact hk2) | (rw [if_neg (by omega), if_neg (by omega), if_pos (by omega)]; exact hk1) | (rw [if_neg (by omega), if_neg (by omega), if_neg (by omega)]; exact hk0), hh.rt (M1 := []) [] rfl ht⟩, by rw [ht]; try exact hh.1.1, fun q h9 hq => by rw [ht]; try exact hh.1.2.1 q h9 hq⟩) hh.1.2.2 dX13_parts_61
        · skip
          have c_7' : z_1.toInt = 6 := jb_ne_n (rfl) ((by decide)) c_7
          refine lv_iconst (v := 2) hx hb dX13_parts_42 (by decide) ?_
          refine lv_goto (tgt := 61) hx hb dX13_parts_43 (by decide) ?_
          rw [hQ]
          exact W.iret (v := 2) hx hb hr (fun t ht hW => ⟨⟨2, (), rfl, by refine ⟨?_, by omega, by omega⟩; unfold jPts; first | (rw [if_pos (by omega), ← (zz_none)]; exact (zz_none)) | (rw [if_neg (by omega), if_pos (by omega)]; exact hk2) | (rw [if_neg (by omega), if_neg (by omega), if_pos (by omega)]; exact hk1) | (rw [if_neg (by omega), if_neg (by omega), if_neg (by omega)]; exact hk0), hh.rt (M1 := []) [] rfl ht⟩, by rw [ht]; try exact hh.1.1, fun q h9 hq => by rw [ht]; try exact hh.1.2.1 q h9 hq⟩) hh.1.2.2 dX13_parts_61
    · skip
      have c_5' : z_1.toInt = 8 := jb_ne_n (rfl) ((by decide)) c_5
      refine lv_aload_n hx hb dX13_parts_19 rfl (lv_at hl 1 rfl) ?_
      refine j7_read hx hb hown hK (C := RX13) (T := TX13) (N := 50) rfl hly_15_14 hlk_44 (hh.at 5 rfl) dX13_parts_20 ?_
      refine lv_aload_n hx hb dX13_parts_23 rfl (lv_at hl 1 rfl) ?_
      refine j7_read hx hb hown hK (C := RX13) (T := TX13) (N := 50) rfl hly_15_1 hlk_16 (hh.at 1 rfl) dX13_parts_24 ?_
      refine lv_iload_n hx hb dX13_parts_27 rfl (lv_at hl 2 rfl) ?_
      refine j7_ialdM hx hb hK hh hB151 1 rfl (by decide) hg_zn (x := a1.toInt) (rfl) (by omega) (j := 1) rfl dX13_parts_28 (fun z_10 ez_10 (hz_10 : True) => ?_)
      have hqz_10 : z_10.toInt = jSo C.n (a1.toInt) := by unfold jSo; rw [ez_10]
      refine j7_ialdM hx hb hK hh hB165 1 rfl (by decide) hg_zy (x := z_10.toInt) (rfl) (by omega) (j := 5) rfl dX13_parts_29 (fun z_11 ez_11 (hz_11 : 0 ≤ z_11.toInt ∧ z_11.toInt ≤ 3) => ?_)
      have hqz_11 : z_11.toInt = jSo C.y (z_10.toInt) := by unfold jSo; rw [ez_11]
      rw [hQ]
      exact W.iret (v := z_11) hx hb hr (fun t ht hW => ⟨⟨z_11, (), rfl, by refine ⟨?_, by omega, by omega⟩; unfold jPts; first | (rw [if_pos (by omega), ← hqz_10]; exact hqz_11) | (rw [if_neg (by omega), if_pos (by omega)]; exact hk2) | (rw [if_neg (by omega), if_neg (by omega), if_pos (by omega)]; exact hk1) | (rw [if_neg (by omega), if_neg (by omega), if_neg (by omega)]; exact hk0), hh.rt (M1 := []) [] rfl ht⟩, by rw [ht]; try exact hh.1.1, fun q h9 hq => by rw [ht]; try exact hh.1.2.1 q h9 hq⟩) hh.1.2.2 dX13_parts_30
set_option maxHeartbeats 4000000 in
set_option maxRecDepth 20000 in
theorem uX13_partK (l : Launch) (dC : Nat → ClassId) (dI : Nat → Nat → Nat) (ca : Nat → ClassId) (base : Nat) (B : jF) (hB : jBok B) (hAp : jAp (dC, dI)) (hB15 : ∀ n G a H, B 15 n G a H ↔ jOb (dC, dI) 15 50 (F15 n G) a H) (hB150 : ∀ n G a H, B 150 n G a H ↔ jAr (dC, dI) (ca 1) (fun j z => True) n a H) (hB151 : ∀ n G a H, B 151 n G a H ↔ jAr (dC, dI) (ca 1) (fun j z => True) n a H) (hB152 : ∀ n G a H, B 152 n G a H ↔ jAr (dC, dI) (ca 1) (fun j z => True) n a H) (hB153 : ∀ n G a H, B 153 n G a H ↔ jAr (dC, dI) (ca 1) (fun j z => True) n a H) (hB154 : ∀ n G a H, B 154 n G a H ↔ jAr (dC, dI) (ca 1) (fun j z => True) n a H) (hB165 : ∀ n G a H, B 165 n G a H ↔ jAr (dC, dI) (ca 1) (fun j z => 0 ≤ z.toInt ∧ z.toInt ≤ 3) n a H) (G0 : jT) (H0 : Heap) (r0 : Nat) (a1 : Int32) (a2 : Int32) (zs : Nat) (zn : Nat) (za : Nat) (zb : Nat) (zc : Nat) (zy : Nat) (C : jK) : Met l yX13_part (jw yX13_part cX13_part 3 (some .int)) ({ frames := 0, cells := 0, slots := 0, locals := 0 }) (va_Pc [.ref r0, .int a1, .int a2] (fun U => U.heap = H0 ∧ jX B base G0 [] H0 ∧ jG dC dI ca base U ∧ G0 r0 = some (15, 0) ∧ G0 zs = some (150, 120000) ∧ G0 zn = some (151, 120000) ∧ G0 za = some (152, 120000) ∧ G0 zb = some (153, 120000) ∧ G0 zc = some (154, 120000) ∧ G0 zy = some (165, 16) ∧ jP (dC, dI) G0 H0 [(r0, 15, 0, .ref zs), (r0, 15, 1, .ref zn), (r0, 15, 2, .ref za), (r0, 15, 3, .ref zb), (r0, 15, 4, .ref zc), (r0, 15, 14, .ref zy)] ∧ jMc (dC, dI) G0 H0 [(zs, 150, 120000, ca 1, C.s), (zn, 151, 120000, ca 1, C.n), (za, 152, 120000, ca 1, C.a), (zb, 153, 120000, ca 1, C.b), (zc, 154, 120000, ca 1, C.c), (zy, 165, 16, ca 1, C.y)] ∧ 0 ≤ a1.toInt ∧ a1.toInt ≤ 119999)) (va_Qi (S := Unit) (fun r u => (r.toInt = jPr C a1.toInt a2.toInt)) (fun u t => jRt (dC, dI) B base G0 EX13_partK H0 [] t.heap) (jA base)) 0 0 (jA base) := by
  refine Met.ofW (cc := cX13_part) (maxL := 3) (ret := (some .int)) (by decide) rfl ?_
  intro p e s m args below meth c s₁ Bd hml hv
  obtain ⟨rfl, hH0, hX, hG, hg_r0, hg_zs, hg_zn, hg_za, hg_zb, hg_zc, hg_zy, hP0, hM0, hp0, hp1⟩ := hv
  have hK := hG.1
  have hx := Bd.exec
  have hb := Bd.bytes
  have hr := Bd.returns
  have hts := atoms_spec (ws := (jw yX13_part cX13_part 3 (some .int))) Bd.pre
  have htw : ∀ w ∈ jWl, w.before _ s = true := fun w h => hts w (List.mem_cons_of_mem _ h)
  have hown : s.vm.findClass RX13 = some m.cls := findClass_of_methodNamed Bd.named
  have hlocks := Bd.notSynchronized
  obtain ⟨Q, hQ⟩ : ∃ Q, Q = MQ below (va_Qi (S := Unit) (fun r u => (r.toInt = jPr C a1.toInt a2.toInt)) (fun u t => jRt (dC, dI) B base G0 EX13_partK H0 [] t.heap) (jA base)) ([.ref r0, .int a1, .int a2] : List Value).toArray s 0 0 (jA base) := ⟨_, rfl⟩
  rw [← hQ]
  have hl := lv_entry ([.ref r0, .int a1, .int a2]) (n := 3) (Nat.le_of_ble_eq_true rfl)
  rw [lg_entry_eq]
  generalize (lg_sl ([.ref r0, .int a1, .int a2]) ++ List.replicate (3 - (lg_sl ([.ref r0, .int a1, .int a2])).length) Slot.unset).toArray = ls at hl ⊢
  have hl : lv_has ls 3 [(0, .ref r0), (1, .int a1), (2, .int a2)] := hl
  generalize hR : (headSpec (jw yX13_part cX13_part 3 (some .int)) ({ frames := 0, cells := 0, slots := 0, locals := 0 })).room = R
  subst hH0
  have hh : jSt (dC, dI) B base G0 G0 EX13_partK s.heap 0 0 [(r0, 15, 0, .ref zs), (r0, 15, 1, .ref zn), (r0, 15, 2, .ref za), (r0, 15, 3, .ref zb), (r0, 15, 4, .ref zc), (r0, 15, 14, .ref zy)] [(zs, 150, 120000, ca 1, C.s), (zn, 151, 120000, ca 1, C.n), (za, 152, 120000, ca 1, C.a), (zb, 153, 120000, ca 1, C.b), (zc, 154, 120000, ca 1, C.c), (zy, 165, 16, ca 1, C.y)] [] s.heap [] := jSt.start hX hP0 hM0 jIs.nil
  clear hX hP0
  have hk0 : (0 : Int32).toInt = 0 := by decide
  have hk1 : (1 : Int32).toInt = 1 := by decide
  have hly_15_2 := htw (u_lay RX13 TX13 2) (jWc_wsX130 _ (u_in_lay (by decide)))
  have hly_15_3 := htw (u_lay RX13 TX13 3) (jWc_wsX130 _ (u_in_lay (by decide)))
  have hly_15_4 := htw (u_lay RX13 TX13 4) (jWc_wsX130 _ (u_in_lay (by decide)))
  have hlk_19 := (htw (.fieldLink RX13 19 "ProofServerModel$Kernel" "one" "[I") (jWr_14 _ (List.mem_of_getElem? (i := 11) rfl)))
  have hlk_22 := (htw (.fieldLink RX13 22 "ProofServerModel$Kernel" "two" "[I") (jWr_14 _ (List.mem_of_getElem? (i := 12) rfl)))
  have hlk_25 := (htw (.fieldLink RX13 25 "ProofServerModel$Kernel" "three" "[I") (jWr_14 _ (List.mem_of_getElem? (i := 13) rfl)))
  have hrg_a1 := jb_rng a1
  have hrg_a2 := jb_rng a2
  refine lv_iload_n hx hb dX13_part_0 rfl (lv_at hl 2 rfl) ?_
  refine lv_if_ne (tgt := 13) hx hb dX13_part_1 (by decide) (fun c_1 => ?_) (fun c_1 => ?_)
  · skip
    have c_1' : a2.toInt ≠ 0 := jb_ne (rfl) ((by decide)) c_1
    refine lv_iload_n hx hb dX13_part_13 rfl (lv_at hl 2 rfl) ?_
    refine lv_iconst (v := 1) hx hb dX13_part_14 (by decide) ?_
    refine lv_icmp_ne (tgt := 27) hx hb dX13_part_15 (by decide) (fun c_2 => ?_) (fun c_2 => ?_)
    · skip
      have c_2' : a2.toInt ≠ 1 := jb_ne (rfl) ((by decide)) c_2
      refine lv_aload_n hx hb dX13_part_27 rfl (lv_at hl 0 rfl) ?_
      refine j7_read hx hb hown hK (C := RX13) (T := TX13) (N := 50) rfl hly_15_4 hlk_25 (hh.at 4 rfl) dX13_part_28 ?_
      refine lv_iload_n hx hb dX13_part_31 rfl (lv_at hl 1 rfl) ?_
      refine j7_ialdM hx hb hK hh hB154 1 rfl (by decide) hg_zc (x := a1.toInt) (rfl) (by omega) (j := 4) rfl dX13_part_32 (fun z_3 ez_3 (hz_3 : True) => ?_)
      have hqz_3 : z_3.toInt = jSo C.c (a1.toInt) := by unfold jSo; rw [ez_3]
      rw [hQ]
      exact W.iret (v := z_3) hx hb hr (fun t ht hW => ⟨⟨z_3, (), rfl, by unfold jPr; first | (rw [if_pos (by omega)]; exact (zz_none)) | (rw [if_neg (by omega), if_pos (by omega)]; exact (zz_none)) | (rw [if_neg (by omega), if_neg (by omega)]; exact hqz_3), hh.rt (M1 := []) [] rfl ht⟩, by rw [ht]; try exact hh.1.1, fun q h9 hq => by rw [ht]; try exact hh.1.2.1 q h9 hq⟩) hh.1.2.2 dX13_part_33
    · skip
      have c_2' : a2.toInt = 1 := jb_ne_n (rfl) ((by decide)) c_2
      refine lv_aload_n hx hb dX13_part_18 rfl (lv_at hl 0 rfl) ?_
      refine j7_read hx hb hown hK (C := RX13) (T := TX13) (N := 50) rfl hly_15_3 hlk_22 (hh.at 3 rfl) dX13_part_19 ?_
      refine lv_iload_n hx hb dX13_part_22 rfl (lv_at hl 1 rfl) ?_
      refine j7_ialdM hx hb hK hh hB153 1 rfl (by decide) hg_zb (x := a1.toInt) (rfl) (by omega) (j := 3) rfl dX13_part_23 (fun z_4 ez_4 (hz_4 : True) => ?_)
      have hqz_4 : z_4.toInt = jSo C.b (a1.toInt) := by unfold jSo; rw [ez_4]
      refine lv_goto (tgt := 33) hx hb dX13_part_24 (by decide) ?_
      rw [hQ]
      exact W.iret (v := z_4) hx hb hr (fun t ht hW => ⟨⟨z_4, (), rfl, by unfold jPr; first | (rw [if_pos (by omega)]; exact (zz_none)) | (rw [if_neg (by omega), if_pos (by omega)]; exact hqz_4) | (rw [if_neg (by omega), if_neg (by omega)]; exact (zz_none)), hh.rt (M1 := []) [] rfl ht⟩, by rw [ht]; try exact hh.1.1, fun q h9 hq => by rw [ht]; try exact hh.1.2.1 q h9 hq⟩) hh.1.2.2 dX13_part_33
  · skip
    have c_1' : a2.toInt = 0 := jb_ne_n (rfl) ((by decide)) c_1
    refine lv_aload_n hx hb dX13_part_4 rfl (lv_at hl 0 rfl) ?_
    refine j7_read hx hb hown hK (C := RX13) (T := TX13) (N := 50) rfl hly_15_2 hlk_19 (hh.at 2 rfl) dX13_part_5 ?_
    refine lv_iload_n hx hb dX13_part_8 rfl (lv_at hl 1 rfl) ?_
    refine j7_ialdM hx hb hK hh hB152 1 rfl (by decide) hg_za (x := a1.toInt) (rfl) (by omega) (j := 2) rfl dX13_part_9 (fun z_5 ez_5 (hz_5 : True) => ?_)
    have hqz_5 : z_5.toInt = jSo C.a (a1.toInt) := by unfold jSo; rw [ez_5]
    refine lv_goto (tgt := 33) hx hb dX13_part_10 (by decide) ?_
    rw [hQ]
    exact W.iret (v := z_5) hx hb hr (fun t ht hW => ⟨⟨z_5, (), rfl, by unfold jPr; first | (rw [if_pos (by omega)]; exact hqz_5) | (rw [if_neg (by omega), if_pos (by omega)]; exact (zz_none)) | (rw [if_neg (by omega), if_neg (by omega)]; exact (zz_none)), hh.rt (M1 := []) [] rfl ht⟩, by rw [ht]; try exact hh.1.1, fun q h9 hq => by rw [ht]; try exact hh.1.2.1 q h9 hq⟩) hh.1.2.2 dX13_part_33
set_option maxHeartbeats 4000000 in
set_option maxRecDepth 20000 in
theorem uX13_nodeK (l : Launch) (dC : Nat → ClassId) (dI : Nat → Nat → Nat) (ca : Nat → ClassId) (base : Nat) (B : jF) (hB : jBok B) (hAp : jAp (dC, dI)) (hB15 : ∀ n G a H, B 15 n G a H ↔ jOb (dC, dI) 15 50 (F15 n G) a H) (hB150 : ∀ n G a H, B 150 n G a H ↔ jAr (dC, dI) (ca 1) (fun j z => True) n a H) (hB151 : ∀ n G a H, B 151 n G a H ↔ jAr (dC, dI) (ca 1) (fun j z => True) n a H) (hB152 : ∀ n G a H, B 152 n G a H ↔ jAr (dC, dI) (ca 1) (fun j z => True) n a H) (hB153 : ∀ n G a H, B 153 n G a H ↔ jAr (dC, dI) (ca 1) (fun j z => True) n a H) (hB154 : ∀ n G a H, B 154 n G a H ↔ jAr (dC, dI) (ca 1) (fun j z => True) n a H) (hB165 : ∀ n G a H, B 165 n G a H ↔ jAr (dC, dI) (ca 1) (fun j z => 0 ≤ z.toInt ∧ z.toInt ≤ 3) n a H) (G0 : jT) (H0 : Heap) (r0 : Nat) (a1 : Int32) (a2 : Int32) (a3 : Int32) (a4 : Int32) (a5 : Int32) (pn : Int32) (zs : Nat) (zn : Nat) (za : Nat) (zb : Nat) (zc : Nat) (zy : Nat) (C : jK) : Met l yX13_node (jw yX13_node cX13_node 6 (some .int)) ({ frames := 0, cells := 0, slots := 0, locals := 0 }) (va_Pc [.ref r0, .int a1, .int a2, .int a3, .int a4, .int a5] (fun U => U.heap = H0 ∧ jX B base G0 [] H0 ∧ jG dC dI ca base U ∧ G0 r0 = some (15, 0) ∧ G0 zs = some (150, 120000) ∧ G0 zn = some (151, 120000) ∧ G0 za = some (152, 120000) ∧ G0 zb = some (153, 120000) ∧ G0 zc = some (154, 120000) ∧ G0 zy = some (165, 16) ∧ jP (dC, dI) G0 H0 [(r0, 15, 5, .int pn), (r0, 15, 0, .ref zs), (r0, 15, 1, .ref zn), (r0, 15, 2, .ref za), (r0, 15, 3, .ref zb), (r0, 15, 4, .ref zc), (r0, 15, 14, .ref zy)] ∧ jMc (dC, dI) G0 H0 [(zs, 150, 120000, ca 1, C.s), (zn, 151, 120000, ca 1, C.n), (za, 152, 120000, ca 1, C.a), (zb, 153, 120000, ca 1, C.b), (zc, 154, 120000, ca 1, C.c), (zy, 165, 16, ca 1, C.y)] ∧ 0 ≤ pn.toInt ∧ pn.toInt ≤ 119999)) (va_Qi (S := Int32 × jK) (fun r u => (r.toInt = pn.toInt ∧ u.1.toInt = pn.toInt + 1 ∧ jNw C u.2 pn.toInt a1.toInt a2.toInt a3.toInt a4.toInt a5.toInt)) (fun u t => jRt (dC, dI) B base G0 EX13_nodeK H0 [(r0, 15, 5, .int u.1)] t.heap ∧ jMc (dC, dI) G0 t.heap [(zs, 150, 120000, ca 1, u.2.s), (zn, 151, 120000, ca 1, u.2.n), (za, 152, 120000, ca 1, u.2.a), (zb, 153, 120000, ca 1, u.2.b), (zc, 154, 120000, ca 1, u.2.c), (zy, 165, 16, ca 1, u.2.y)]) (jA base)) 0 0 (jA base) := by
  refine Met.ofW (cc := cX13_node) (maxL := 6) (ret := (some .int)) (by decide) rfl ?_
  intro p e s m args below meth c s₁ Bd hml hv
  obtain ⟨rfl, hH0, hX, hG, hg_r0, hg_zs, hg_zn, hg_za, hg_zb, hg_zc, hg_zy, hP0, hM0, hp0, hp1⟩ := hv
  have hK := hG.1
  have hx := Bd.exec
  have hb := Bd.bytes
  have hr := Bd.returns
  have hts := atoms_spec (ws := (jw yX13_node cX13_node 6 (some .int))) Bd.pre
  have htw : ∀ w ∈ jWl, w.before _ s = true := fun w h => hts w (List.mem_cons_of_mem _ h)
  have hown : s.vm.findClass RX13 = some m.cls := findClass_of_methodNamed Bd.named
  have hlocks := Bd.notSynchronized
  obtain ⟨Q, hQ⟩ : ∃ Q, Q = MQ below (va_Qi (S := Int32 × jK) (fun r u => (r.toInt = pn.toInt ∧ u.1.toInt = pn.toInt + 1 ∧ jNw C u.2 pn.toInt a1.toInt a2.toInt a3.toInt a4.toInt a5.toInt)) (fun u t => jRt (dC, dI) B base G0 EX13_nodeK H0 [(r0, 15, 5, .int u.1)] t.heap ∧ jMc (dC, dI) G0 t.heap [(zs, 150, 120000, ca 1, u.2.s), (zn, 151, 120000, ca 1, u.2.n), (za, 152, 120000, ca 1, u.2.a), (zb, 153, 120000, ca 1, u.2.b), (zc, 154, 120000, ca 1, u.2.c), (zy, 165, 16, ca 1, u.2.y)]) (jA base)) ([.ref r0, .int a1, .int a2, .int a3, .int a4, .int a5] : List Value).toArray s 0 0 (jA base) := ⟨_, rfl⟩
  rw [← hQ]
  have hl := lv_entry ([.ref r0, .int a1, .int a2, .int a3, .int a4, .int a5]) (n := 6) (Nat.le_of_ble_eq_true rfl)
  rw [lg_entry_eq]
  generalize (lg_sl ([.ref r0, .int a1, .int a2, .int a3, .int a4, .int a5]) ++ List.replicate (6 - (lg_sl ([.ref r0, .int a1, .int a2, .int a3, .int a4, .int a5])).length) Slot.unset).toArray = ls at hl ⊢
  have hl : lv_has ls 6 [(0, .ref r0), (1, .int a1), (2, .int a2), (3, .int a3), (4, .int a4), (5, .int a5)] := hl
  generalize hR : (headSpec (jw yX13_node cX13_node 6 (some .int)) ({ frames := 0, cells := 0, slots := 0, locals := 0 })).room = R
  subst hH0
  have hh : jSt (dC, dI) B base G0 G0 EX13_nodeK s.heap 0 0 [(r0, 15, 5, .int pn), (r0, 15, 0, .ref zs), (r0, 15, 1, .ref zn), (r0, 15, 2, .ref za), (r0, 15, 3, .ref zb), (r0, 15, 4, .ref zc), (r0, 15, 14, .ref zy)] [(zs, 150, 120000, ca 1, C.s), (zn, 151, 120000, ca 1, C.n), (za, 152, 120000, ca 1, C.a), (zb, 153, 120000, ca 1, C.b), (zc, 154, 120000, ca 1, C.c), (zy, 165, 16, ca 1, C.y)] [] s.heap [] := jSt.start hX hP0 hM0 jIs.nil
  clear hX hP0
  have hk0 : (0 : Int32).toInt = 0 := by decide
  have hk1 : (1 : Int32).toInt = 1 := by decide
  have hly_15_0 := htw (u_lay RX13 TX13 0) (jWc_wsX130 _ (u_in_lay (by decide)))
  have hly_15_1 := htw (u_lay RX13 TX13 1) (jWc_wsX130 _ (u_in_lay (by decide)))
  have hly_15_2 := htw (u_lay RX13 TX13 2) (jWc_wsX130 _ (u_in_lay (by decide)))
  have hly_15_3 := htw (u_lay RX13 TX13 3) (jWc_wsX130 _ (u_in_lay (by decide)))
  have hly_15_4 := htw (u_lay RX13 TX13 4) (jWc_wsX130 _ (u_in_lay (by decide)))
  have hly_15_5 := htw (u_lay RX13 TX13 5) (jWc_wsX130 _ (u_in_lay (by decide)))
  have hlk_12 := (htw (.fieldLink RX13 12 "ProofServerModel$Kernel" "sort" "[I") (jWr_14 _ (List.mem_of_getElem? (i := 9) rfl)))
  have hlk_99 := (htw (.fieldLink RX13 99 "ProofServerModel$Kernel" "nodes" "I") (jWr_59 _ (List.mem_of_getElem? (i := 14) rfl)))
  have hlk_16 := (htw (.fieldLink RX13 16 "ProofServerModel$Kernel" "name" "[I") (jWr_14 _ (List.mem_of_getElem? (i := 10) rfl)))
  have hlk_19 := (htw (.fieldLink RX13 19 "ProofServerModel$Kernel" "one" "[I") (jWr_14 _ (List.mem_of_getElem? (i := 11) rfl)))
  have hlk_22 := (htw (.fieldLink RX13 22 "ProofServerModel$Kernel" "two" "[I") (jWr_14 _ (List.mem_of_getElem? (i := 12) rfl)))
  have hlk_25 := (htw (.fieldLink RX13 25 "ProofServerModel$Kernel" "three" "[I") (jWr_14 _ (List.mem_of_getElem? (i := 13) rfl)))
  have hrg_a1 := jb_rng a1
  have hrg_a2 := jb_rng a2
  have hrg_a3 := jb_rng a3
  have hrg_a4 := jb_rng a4
  have hrg_a5 := jb_rng a5
  refine lv_aload_n hx hb dX13_node_0 rfl (lv_at hl 0 rfl) ?_
  refine j7_read hx hb hown hK (C := RX13) (T := TX13) (N := 50) rfl hly_15_0 hlk_12 (hh.at 1 rfl) dX13_node_1 ?_
  refine lv_aload_n hx hb dX13_node_4 rfl (lv_at hl 0 rfl) ?_
  refine j7_read hx hb hown hK (C := RX13) (T := TX13) (N := 50) rfl hly_15_5 hlk_99 (hh.at 0 rfl) dX13_node_5 ?_
  refine lv_iload_n hx hb dX13_node_8 rfl (lv_at hl 1 rfl) ?_
  refine j7_iastU hx hb hK hh hB hB150 1 rfl (by decide) (by decide) rfl 0 rfl (M1 := [(zn, 151, 120000, ca 1, C.n), (za, 152, 120000, ca 1, C.a), (zb, 153, 120000, ca 1, C.b), (zc, 154, 120000, ca 1, C.c), (zy, 165, 16, ca 1, C.y)]) [1, 2, 3, 4, 5] rfl rfl rfl hg_zs (x := pn.toInt) (rfl) (by omega) (trivial) dX13_node_9 (fun H_1 locs_1 fs_2 hv_1 ho_1 hh_1 => ?_)
  have hv_1 : jSo fs_2 (pn.toInt) = a1.toInt := by unfold jSo; rw [hv_1]; try exact rfl
  clear hh
  refine lv_aload_n hx hb dX13_node_10 rfl (lv_at hl 0 rfl) ?_
  refine j7_read hx hb hown hK (C := RX13) (T := TX13) (N := 50) rfl hly_15_1 hlk_16 (hh_1.at 2 rfl) dX13_node_11 ?_
  refine lv_aload_n hx hb dX13_node_14 rfl (lv_at hl 0 rfl) ?_
  refine j7_read hx hb hown hK (C := RX13) (T := TX13) (N := 50) rfl hly_15_5 hlk_99 (hh_1.at 0 rfl) dX13_node_15 ?_
  refine lv_iload_n hx hb dX13_node_18 rfl (lv_at hl 2 rfl) ?_
  refine j7_iastU hx hb hK hh_1 hB hB151 1 rfl (by decide) (by decide) rfl 1 rfl (M1 := [(zs, 150, 120000, ca 1, fs_2), (za, 152, 120000, ca 1, C.a), (zb, 153, 120000, ca 1, C.b), (zc, 154, 120000, ca 1, C.c), (zy, 165, 16, ca 1, C.y)]) [0, 2, 3, 4, 5] rfl rfl rfl hg_zn (x := pn.toInt) (rfl) (by omega) (trivial) dX13_node_19 (fun H_3 locs_3 fs_4 hv_3 ho_3 hh_3 => ?_)
  have hv_3 : jSo fs_4 (pn.toInt) = a2.toInt := by unfold jSo; rw [hv_3]; try exact rfl
  clear hh_1
  refine lv_aload_n hx hb dX13_node_20 rfl (lv_at hl 0 rfl) ?_
  refine j7_read hx hb hown hK (C := RX13) (T := TX13) (N := 50) rfl hly_15_2 hlk_19 (hh_3.at 3 rfl) dX13_node_21 ?_
  refine lv_aload_n hx hb dX13_node_24 rfl (lv_at hl 0 rfl) ?_
  refine j7_read hx hb hown hK (C := RX13) (T := TX13) (N := 50) rfl hly_15_5 hlk_99 (hh_3.at 0 rfl) dX13_node_25 ?_
  refine lv_iload_n hx hb dX13_node_28 rfl (lv_at hl 3 rfl) ?_
  refine j7_iastU hx hb hK hh_3 hB hB152 1 rfl (by decide) (by decide) rfl 2 rfl (M1 := [(zn, 151, 120000, ca 1, fs_4), (zs, 150, 120000, ca 1, fs_2), (zb, 153, 120000, ca 1, C.b), (zc, 154, 120000, ca 1, C.c), (zy, 165, 16, ca 1, C.y)]) [0, 1, 3, 4, 5] rfl rfl rfl hg_za (x := pn.toInt) (rfl) (by omega) (trivial) dX13_node_29 (fun H_5 locs_5 fs_6 hv_5 ho_5 hh_5 => ?_)
  have hv_5 : jSo fs_6 (pn.toInt) = a3.toInt := by unfold jSo; rw [hv_5]; try exact rfl
  clear hh_3
  refine lv_aload_n hx hb dX13_node_30 rfl (lv_at hl 0 rfl) ?_
  refine j7_read hx hb hown hK (C := RX13) (T := TX13) (N := 50) rfl hly_15_3 hlk_22 (hh_5.at 4 rfl) dX13_node_31 ?_
  refine lv_aload_n hx hb dX13_node_34 rfl (lv_at hl 0 rfl) ?_
  refine j7_read hx hb hown hK (C := RX13) (T := TX13) (N := 50) rfl hly_15_5 hlk_99 (hh_5.at 0 rfl) dX13_node_35 ?_
  refine lv_iload hx hb dX13_node_38 (lv_at hl 4 rfl) ?_
  refine j7_iastU hx hb hK hh_5 hB hB153 1 rfl (by decide) (by decide) rfl 3 rfl (M1 := [(za, 152, 120000, ca 1, fs_6), (zn, 151, 120000, ca 1, fs_4), (zs, 150, 120000, ca 1, fs_2), (zc, 154, 120000, ca 1, C.c), (zy, 165, 16, ca 1, C.y)]) [0, 1, 2, 4, 5] rfl rfl rfl hg_zb (x := pn.toInt) (rfl) (by omega) (trivial) dX13_node_40 (fun H_7 locs_7 fs_8 hv_7 ho_7 hh_7 => ?_)
  have hv_7 : jSo fs_8 (pn.toInt) = a4.toInt := by unfold jSo; rw [hv_7]; try exact rfl
  clear hh_5
  refine lv_aload_n hx hb dX13_node_41 rfl (lv_at hl 0 rfl) ?_
  refine j7_read hx hb hown hK (C := RX13) (T := TX13) (N := 50) rfl hly_15_4 hlk_25 (hh_7.at 5 rfl) dX13_node_42 ?_
  refine lv_aload_n hx hb dX13_node_45 rfl (lv_at hl 0 rfl) ?_
  refine j7_read hx hb hown hK (C := RX13) (T := TX13) (N := 50) rfl hly_15_5 hlk_99 (hh_7.at 0 rfl) dX13_node_46 ?_
  refine lv_iload hx hb dX13_node_49 (lv_at hl 5 rfl) ?_
  refine j7_iastU hx hb hK hh_7 hB hB154 1 rfl (by decide) (by decide) rfl 4 rfl (M1 := [(zb, 153, 120000, ca 1, fs_8), (za, 152, 120000, ca 1, fs_6), (zn, 151, 120000, ca 1, fs_4), (zs, 150, 120000, ca 1, fs_2), (zy, 165, 16, ca 1, C.y)]) [0, 1, 2, 3, 5] rfl rfl rfl hg_zc (x := pn.toInt) (rfl) (by omega) (trivial) dX13_node_51 (fun H_9 locs_9 fs_10 hv_9 ho_9 hh_9 => ?_)
  have hv_9 : jSo fs_10 (pn.toInt) = a5.toInt := by unfold jSo; rw [hv_9]; try exact rfl
  clear hh_7
  refine lv_aload_n hx hb dX13_node_52 rfl (lv_at hl 0 rfl) ?_
  refine lv_dup hx hb dX13_node_53 rfl ?_
  refine j7_read hx hb hown hK (C := RX13) (T := TX13) (N := 50) rfl hly_15_5 hlk_99 (hh_9.at 0 rfl) dX13_node_54 ?_
  refine lv_iconst (v := 1) hx hb dX13_node_57 (by decide) ?_
  refine lv_iadd hx hb dX13_node_58 ?_
  refine lv_topi (fun z_11 ez_11 => ?_)
  have hz_11 : z_11.toInt = pn.toInt + 1 := by rw [ez_11]; exact jb_iadd2 (rfl) ((by decide)) (by omega)
  refine j7_put hx hb hown hK hh_9 hB hAp hB15 (C := RX13) (T := TX13) (N := 50) rfl (by decide) hg_r0 (i := 5) (by decide) hly_15_5 rfl hlk_99 rfl (ty := .int) (v := .int z_11) (by decide +kernel) rfl rfl (⟨_, rfl, by omega, by omega⟩) rfl (L1 := [(r0, 15, 0, .ref zs), (r0, 15, 1, .ref zn), (r0, 15, 2, .ref za), (r0, 15, 3, .ref zb), (r0, 15, 4, .ref zc), (r0, 15, 14, .ref zy)]) [1, 2, 3, 4, 5, 6] rfl rfl rfl dX13_node_59 (fun H_12 locs_12 hh_12 => ?_)
  clear hh_9
  refine lv_aload_n hx hb dX13_node_62 rfl (lv_at hl 0 rfl) ?_
  refine j7_read hx hb hown hK (C := RX13) (T := TX13) (N := 50) rfl hly_15_5 hlk_99 (hh_12.at 0 rfl) dX13_node_63 ?_
  refine lv_iconst (v := 1) hx hb dX13_node_66 (by decide) ?_
  refine lv_isub hx hb dX13_node_67 ?_
  refine lv_topi (fun z_13 ez_13 => ?_)
  have hz_13 : z_13.toInt = z_11.toInt - 1 := by rw [ez_13]; exact jb_isub2 (rfl) ((by decide)) (by omega)
  rw [hQ]
  exact W.iret (v := z_13) hx hb hr (fun t ht hW => ⟨⟨z_13, (z_11, (jK.mk fs_2 fs_4 fs_6 fs_8 fs_10 C.y)), rfl, by (try dsimp only); refine ⟨by omega, by omega, ⟨fun j hj => ⟨?_, ?_, ?_, ?_, ?_⟩, fun _ => rfl⟩, ?_, ?_, ?_, ?_, ?_⟩ <;> first | exact ho_1 j (by omega) (by omega) | exact ho_3 j (by omega) (by omega) | exact ho_5 j (by omega) (by omega) | exact ho_7 j (by omega) (by omega) | exact ho_9 j (by omega) (by omega) | exact hv_1 | exact hv_3 | exact hv_5 | exact hv_7 | exact hv_9, ⟨hh_12.rt (M1 := [(r0, 15, 5, .int z_11)]) [0] rfl ht, by rw [ht]; exact hh_12.2.2.2.2.2.2.2.1.sub [4, 3, 2, 1, 0, 5] rfl⟩⟩, by rw [ht]; try exact hh_12.1.1, fun q h9 hq => by rw [ht]; try exact hh_12.1.2.1 q h9 hq⟩) hh_12.1.2.2 dX13_node_68
set_option maxHeartbeats 4000000 in
set_option maxRecDepth 20000 in
theorem uX13_size (l : Launch) (dC : Nat → ClassId) (dI : Nat → Nat → Nat) (ca : Nat → ClassId) (base : Nat) (B : jF) (hB : jBok B) (hAp : jAp (dC, dI)) (hB15 : ∀ n G a H, B 15 n G a H ↔ jOb (dC, dI) 15 50 (F15 n G) a H) (hB150 : ∀ n G a H, B 150 n G a H ↔ jAr (dC, dI) (ca 1) (fun j z => True) n a H) (hB151 : ∀ n G a H, B 151 n G a H ↔ jAr (dC, dI) (ca 1) (fun j z => True) n a H) (hB152 : ∀ n G a H, B 152 n G a H ↔ jAr (dC, dI) (ca 1) (fun j z => True) n a H) (hB153 : ∀ n G a H, B 153 n G a H ↔ jAr (dC, dI) (ca 1) (fun j z => True) n a H) (hB154 : ∀ n G a H, B 154 n G a H ↔ jAr (dC, dI) (ca 1) (fun j z => True) n a H) (hB165 : ∀ n G a H, B 165 n G a H ↔ jAr (dC, dI) (ca 1) (fun j z => 0 ≤ z.toInt ∧ z.toInt ≤ 3) n a H) (d : Nat) (ih : ∀ d1, d1 < d → qX13_size l dC dI ca base B d1) (G0 : jT) (H0 : Heap) (r0 : Nat) (a1 : Int32) (zs : Nat) (zn : Nat) (za : Nat) (zb : Nat) (zc : Nat) (zy : Nat) (C : jK) : Met l yX13_size (jw yX13_size cX13_size 4 (some .int)) ({ frames := d + 3, cells := 0, slots := 0, locals := 40 * d + 200 }) (va_Pc [.ref r0, .int a1] (fun U => U.heap = H0 ∧ jX B base G0 [] H0 ∧ jG dC dI ca base U ∧ G0 r0 = some (15, 0) ∧ G0 zs = some (150, 120000) ∧ G0 zn = some (151, 120000) ∧ G0 za = some (152, 120000) ∧ G0 zb = some (153, 120000) ∧ G0 zc = some (154, 120000) ∧ G0 zy = some (165, 16) ∧ jP (dC, dI) G0 H0 [(r0, 15, 0, .ref zs), (r0, 15, 1, .ref zn), (r0, 15, 2, .ref za), (r0, 15, 3, .ref zb), (r0, 15, 4, .ref zc), (r0, 15, 14, .ref zy)] ∧ jMc (dC, dI) G0 H0 [(zs, 150, 120000, ca 1, C.s), (zn, 151, 120000, ca 1, C.n), (za, 152, 120000, ca 1, C.a), (zb, 153, 120000, ca 1, C.b), (zc, 154, 120000, ca 1, C.c), (zy, 165, 16, ca 1, C.y)] ∧ jTr C d a1.toInt ∧ d ≤ 2000 ∧ jsz C a1.toInt ≤ 1000000)) (va_Qi (S := Unit) (fun r u => (r.toInt = jsz C a1.toInt)) (fun u t => jRt (dC, dI) B base G0 EX13_size H0 [] t.heap) (jA base)) 0 0 (jA base) := by
  refine Met.ofW (cc := cX13_size) (maxL := 4) (ret := (some .int)) (by decide) rfl ?_
  intro p e s m args below meth c s₁ Bd hml hv
  obtain ⟨rfl, hH0, hX, hG, hg_r0, hg_zs, hg_zn, hg_za, hg_zb, hg_zc, hg_zy, hP0, hM0, hp0, hp1, hp2⟩ := hv
  have hK := hG.1
  have hx := Bd.exec
  have hb := Bd.bytes
  have hr := Bd.returns
  have hts := atoms_spec (ws := (jw yX13_size cX13_size 4 (some .int))) Bd.pre
  have htw : ∀ w ∈ jWl, w.before _ s = true := fun w h => hts w (List.mem_cons_of_mem _ h)
  have hown : s.vm.findClass RX13 = some m.cls := findClass_of_methodNamed Bd.named
  have hlocks := Bd.notSynchronized
  obtain ⟨Q, hQ⟩ : ∃ Q, Q = MQ below (va_Qi (S := Unit) (fun r u => (r.toInt = jsz C a1.toInt)) (fun u t => jRt (dC, dI) B base G0 EX13_size H0 [] t.heap) (jA base)) ([.ref r0, .int a1] : List Value).toArray s 0 0 (jA base) := ⟨_, rfl⟩
  rw [← hQ]
  have hl := lv_entry ([.ref r0, .int a1]) (n := 4) (Nat.le_of_ble_eq_true rfl)
  rw [lg_entry_eq]
  generalize (lg_sl ([.ref r0, .int a1]) ++ List.replicate (4 - (lg_sl ([.ref r0, .int a1])).length) Slot.unset).toArray = ls at hl ⊢
  have hl : lv_has ls 4 [(0, .ref r0), (1, .int a1)] := hl
  generalize hR : (headSpec (jw yX13_size cX13_size 4 (some .int)) ({ frames := d + 3, cells := 0, slots := 0, locals := 40 * d + 200 })).room = R
  subst hH0
  have hh : jSt (dC, dI) B base G0 G0 EX13_size s.heap 0 0 [(r0, 15, 0, .ref zs), (r0, 15, 1, .ref zn), (r0, 15, 2, .ref za), (r0, 15, 3, .ref zb), (r0, 15, 4, .ref zc), (r0, 15, 14, .ref zy)] [(zs, 150, 120000, ca 1, C.s), (zn, 151, 120000, ca 1, C.n), (za, 152, 120000, ca 1, C.a), (zb, 153, 120000, ca 1, C.b), (zc, 154, 120000, ca 1, C.c), (zy, 165, 16, ca 1, C.y)] [] s.heap [] := jSt.start hX hP0 hM0 jIs.nil
  clear hX hP0
  have hk0 : (0 : Int32).toInt = 0 := by decide
  have hk1 : (1 : Int32).toInt = 1 := by decide
  have hrg_a1 := jb_rng a1
  obtain ⟨g1, g2, g3, g4, g5, g6, g7, g8⟩ := hp0.ok
  have hst := hp0.step (by omega)
  refine lv_iconst (v := 1) hx hb dX13_size_0 (by decide) ?_
  refine lv_istore_n (lv' := [(2, .int 1), (0, .ref r0), (1, .int a1)]) hx hb dX13_size_1 rfl hl (by decide) rfl (fun ls hl => ?_)
  refine lv_iconst (v := 0) hx hb dX13_size_2 (by decide) ?_
  refine lv_istore_n (lv' := [(3, .int 0), (2, .int 1), (0, .ref r0), (1, .int a1)]) hx hb dX13_size_3 rfl hl (by decide) rfl (fun ls hl => ?_)
  have L4 : ∀ (N : Nat) (v2_1 : Int32) (v3_1 : Int32) (H_1 : Heap) (locs_1 : List Loc), jSt (dC, dI) B base G0 G0 EX13_size s.heap 0 0 [(r0, 15, 0, .ref zs), (r0, 15, 1, .ref zn), (r0, 15, 2, .ref za), (r0, 15, 3, .ref zb), (r0, 15, 4, .ref zc), (r0, 15, 14, .ref zy)] [(zs, 150, 120000, ca 1, C.s), (zn, 151, 120000, ca 1, C.n), (za, 152, 120000, ca 1, C.a), (zb, 153, 120000, ca 1, C.b), (zc, 154, 120000, ca 1, C.c), (zy, 165, 16, ca 1, C.y)] [] H_1 locs_1 → (0 ≤ v3_1.toInt ∧ v3_1.toInt ≤ jPts C a1.toInt ∧ v2_1.toInt = jSzK C a1.toInt v3_1.toInt) → (3 - v3_1.toInt : Int) < N → ∀ ls : Array Slot, lv_has ls 4 [(0, .ref r0), (1, .int a1), (2, .int v2_1), (3, .int v3_1)] → W p l e R s m ([.ref r0, .int a1] : List Value).toArray below meth c H_1 locs_1 0 0 Q (F0 m 4 ls []) := by
    intro N
    induction N with
    | zero => intro v2_1 v3_1 H_1 locs_1 hh_1  hi_1 hm; exact absurd hm (by omega)
    | succ N L4 =>
      intro v2_1 v3_1 H_1 locs_1 hh_1  hi_1 hm_1 ls hl
      obtain ⟨hi_1_0, hi_1_1, hi_1_2⟩ := hi_1
      refine lv_iload_n hx hb dX13_size_4 rfl (lv_at hl 3 rfl) ?_
      refine lv_aload_n hx hb dX13_size_5 rfl (lv_at hl 0 rfl) ?_
      refine lv_iload_n hx hb dX13_size_6 rfl (lv_at hl 1 rfl) ?_
      refine va_calli (A0 := jA base) (H0 := s.heap) (va_runV (As := [.int a1]) (rest := [.int v3_1]) ⟨hx, hb, hml, hown, hts⟩ (uX13_parts l dC dI ca base B hB hAp hB15 hB150 hB151 hB152 hB153 hB154 hB165 G0 H_1 r0 a1 zs zn za zb zc zy C) (cwV 1 hts (jgV (jWr_65 _ (List.mem_of_getElem? (i := 15) rfl)) (jWr_65 _ (List.mem_of_getElem? (i := 16) rfl)) (jWr_65 _ (List.mem_of_getElem? (i := 17) rfl)) (jWr_12 _ (List.mem_of_getElem? (i := 12) rfl)) (jWr_65 _ (List.mem_of_getElem? (i := 18) rfl))) rfl rfl rfl (by decide +kernel) ⟨by rw [← hR]; show (0) + 1 ≤ d + 3; omega, by rw [← hR]; show 8 + (3 + 11) + (0) ≤ 40 * d + 200; omega⟩) ⟨fun a U g mk q => by obtain ⟨q0, q1, q2, qK, q10, q11, q12, q13, q14, q15, q16, q17, q18, q19⟩ := q; exact ⟨q0, q1, q2, jG.calling g mk a qK, q10, q11, q12, q13, q14, q15, q16, q17, q18, q19⟩, hh_1.recv (C := RX13) (T := TX13) (N := 50) hB15 rfl (by decide) hg_r0 hK, fun U hU hW => ⟨rfl, hU, hh_1.2.1, hG.step hW hU hh_1.1, hg_r0, hg_zs, hg_zn, hg_za, hg_zb, hg_zc, hg_zy, (hh_1.2.2.1.sub (L1 := [(r0, 15, 0, .ref zs), (r0, 15, 1, .ref zn), (r0, 15, 2, .ref za), (r0, 15, 3, .ref zb), (r0, 15, 4, .ref zc), (r0, 15, 14, .ref zy)]) [0, 1, 2, 3, 4, 5] rfl), (hh_1.2.2.2.2.2.2.2.1.sub (L1 := [(zs, 150, 120000, ca 1, C.s), (zn, 151, 120000, ca 1, C.n), (za, 152, 120000, ca 1, C.a), (zb, 153, 120000, ca 1, C.b), (zc, 154, 120000, ca 1, C.c), (zy, 165, 16, ca 1, C.y)]) [0, 1, 2, 3, 4, 5] rfl), by first | omega | (refine ⟨?_, ?_, ?_⟩ <;> (first | omega | rfl | assumption | decide | exact Or.inl rfl | exact Or.inr rfl | (simp only; omega)))⟩⟩ rfl rfl hl.1 rfl (lv_room (Nat.le_of_ble_eq_true rfl)) dX13_size_7 ⟨Nat.zero_le _, Nat.zero_le _⟩) hh_1.1 (fun q _ h => h) (fun q h => h) (fun r_3 u_2 t_2 H_2 locs_2 ht_2 hvm_2 hr_3 hb_2 hz_2 hk_2 hS_2 => ?_)
      rw [ht_2] at hb_2
      obtain ⟨hb_21, hb_22, hb_23, hb_24, hb_25⟩ := hb_2
      have hh_2 : jSt (dC, dI) B base G0 G0 EX13_size s.heap 0 0 [(r0, 15, 0, .ref zs), (r0, 15, 1, .ref zn), (r0, 15, 2, .ref za), (r0, 15, 3, .ref zb), (r0, 15, 4, .ref zc), (r0, 15, 14, .ref zy)] [(zs, 150, 120000, ca 1, C.s), (zn, 151, 120000, ca 1, C.n), (za, 152, 120000, ca 1, C.a), (zb, 153, 120000, ca 1, C.b), (zc, 154, 120000, ca 1, C.c), (zy, 165, 16, ca 1, C.y)] [] H_2 locs_2 := ((hh_1.call hb_21 hb_22 hb_23 hb_24 hS_2 rfl (L1 := [(r0, 15, 0, .ref zs), (r0, 15, 1, .ref zn), (r0, 15, 2, .ref za), (r0, 15, 3, .ref zb), (r0, 15, 4, .ref zc), (r0, 15, 14, .ref zy)]) [0, 1, 2, 3, 4, 5] rfl rfl (M1 := [(zs, 150, 120000, ca 1, C.s), (zn, 151, 120000, ca 1, C.n), (za, 152, 120000, ca 1, C.a), (zb, 153, 120000, ca 1, C.b), (zc, 154, 120000, ca 1, C.c), (zy, 165, 16, ca 1, C.y)]) [0, 1, 2, 3, 4, 5] rfl rfl (I1 := []) [] rfl rfl).more hb_25)
      clear hh_1 ht_2 hvm_2 hz_2 hk_2 hS_2 hb_21 hb_22 hb_23 hb_24 hb_25
      obtain ⟨hr_3_0, hr_3_1, hr_3_2⟩ := hr_3
      refine lv_icmp_ge (tgt := 32) hx hb dX13_size_10 (by decide) (fun c_4 => ?_) (fun c_4 => ?_)
      · skip
        have c_4' : v3_1.toInt ≥ r_3.toInt := jb_ge (rfl) (rfl) c_4
        refine lv_iload_n hx hb dX13_size_32 rfl (lv_at hl 2 rfl) ?_
        rw [hQ]
        exact W.iret (v := v2_1) hx hb hr (fun t ht hW => ⟨⟨v2_1, (), rfl, by rw [hst, show jPts C a1.toInt = v3_1.toInt by omega]; omega, hh_2.rt (M1 := []) [] rfl ht⟩, by rw [ht]; try exact hh_2.1.1, fun q h9 hq => by rw [ht]; try exact hh_2.1.2.1 q h9 hq⟩) hh_2.1.2.2 dX13_size_33
      · skip
        have c_4' : v3_1.toInt < r_3.toInt := jb_ge_n (rfl) (rfl) c_4
        refine lv_iload_n hx hb dX13_size_13 rfl (lv_at hl 2 rfl) ?_
        refine lv_aload_n hx hb dX13_size_14 rfl (lv_at hl 0 rfl) ?_
        refine lv_aload_n hx hb dX13_size_15 rfl (lv_at hl 0 rfl) ?_
        refine lv_iload_n hx hb dX13_size_16 rfl (lv_at hl 1 rfl) ?_
        refine lv_iload_n hx hb dX13_size_17 rfl (lv_at hl 3 rfl) ?_
        refine va_calli (A0 := jA base) (H0 := s.heap) (va_runV (As := [.int a1, .int v3_1]) (rest := [.ref r0, .int v2_1]) ⟨hx, hb, hml, hown, hts⟩ (uX13_partK l dC dI ca base B hB hAp hB15 hB150 hB151 hB152 hB153 hB154 hB165 G0 H_2 r0 a1 v3_1 zs zn za zb zc zy C) (cwV 2 hts (jgV (jWr_65 _ (List.mem_of_getElem? (i := 19) rfl)) (jWr_65 _ (List.mem_of_getElem? (i := 20) rfl)) (jWr_65 _ (List.mem_of_getElem? (i := 21) rfl)) (jWr_12 _ (List.mem_of_getElem? (i := 12) rfl)) (jWr_65 _ (List.mem_of_getElem? (i := 22) rfl))) rfl rfl rfl (by decide +kernel) ⟨by rw [← hR]; show (0) + 1 ≤ d + 3; omega, by rw [← hR]; show 8 + (3 + 11) + (0) ≤ 40 * d + 200; omega⟩) ⟨fun a U g mk q => by obtain ⟨q0, q1, q2, qK, q10, q11, q12, q13, q14, q15, q16, q17, q18, q19⟩ := q; exact ⟨q0, q1, q2, jG.calling g mk a qK, q10, q11, q12, q13, q14, q15, q16, q17, q18, q19⟩, hh_2.recv (C := RX13) (T := TX13) (N := 50) hB15 rfl (by decide) hg_r0 hK, fun U hU hW => ⟨rfl, hU, hh_2.2.1, hG.step hW hU hh_2.1, hg_r0, hg_zs, hg_zn, hg_za, hg_zb, hg_zc, hg_zy, (hh_2.2.2.1.sub (L1 := [(r0, 15, 0, .ref zs), (r0, 15, 1, .ref zn), (r0, 15, 2, .ref za), (r0, 15, 3, .ref zb), (r0, 15, 4, .ref zc), (r0, 15, 14, .ref zy)]) [0, 1, 2, 3, 4, 5] rfl), (hh_2.2.2.2.2.2.2.2.1.sub (L1 := [(zs, 150, 120000, ca 1, C.s), (zn, 151, 120000, ca 1, C.n), (za, 152, 120000, ca 1, C.a), (zb, 153, 120000, ca 1, C.b), (zc, 154, 120000, ca 1, C.c), (zy, 165, 16, ca 1, C.y)]) [0, 1, 2, 3, 4, 5] rfl), by first | omega | (refine ⟨?_, ?_⟩ <;> (first | omega | rfl | assumption | decide | exact Or.inl rfl | exact Or.inr rfl | (simp only; omega)))⟩⟩ rfl rfl hl.1 rfl (lv_room (Nat.le_of_ble_eq_true rfl)) dX13_size_18 ⟨Nat.zero_le _, Nat.zero_le _⟩) hh_2.1 (fun q _ h => h) (fun q h => h) (fun r_6 u_5 t_5 H_5 locs_5 ht_5 hvm_5 hr_6 hb_5 hz_5 hk_5 hS_5 => ?_)
        rw [ht_5] at hb_5
        obtain ⟨hb_51, hb_52, hb_53, hb_54, hb_55⟩ := hb_5
        have hh_5 : jSt (dC, dI) B base G0 G0 EX13_size s.heap 0 0 [(r0, 15, 0, .ref zs), (r0, 15, 1, .ref zn), (r0, 15, 2, .ref za), (r0, 15, 3, .ref zb), (r0, 15, 4, .ref zc), (r0, 15, 14, .ref zy)] [(zs, 150, 120000, ca 1, C.s), (zn, 151, 120000, ca 1, C.n), (za, 152, 120000, ca 1, C.a), (zb, 153, 120000, ca 1, C.b), (zc, 154, 120000, ca 1, C.c), (zy, 165, 16, ca 1, C.y)] [] H_5 locs_5 := ((hh_2.call hb_51 hb_52 hb_53 hb_54 hS_5 rfl (L1 := [(r0, 15, 0, .ref zs), (r0, 15, 1, .ref zn), (r0, 15, 2, .ref za), (r0, 15, 3, .ref zb), (r0, 15, 4, .ref zc), (r0, 15, 14, .ref zy)]) [0, 1, 2, 3, 4, 5] rfl rfl (M1 := [(zs, 150, 120000, ca 1, C.s), (zn, 151, 120000, ca 1, C.n), (za, 152, 120000, ca 1, C.a), (zb, 153, 120000, ca 1, C.b), (zc, 154, 120000, ca 1, C.c), (zy, 165, 16, ca 1, C.y)]) [0, 1, 2, 3, 4, 5] rfl rfl (I1 := []) [] rfl rfl).more hb_55)
        clear hh_2 ht_5 hvm_5 hz_5 hk_5 hS_5 hb_51 hb_52 hb_53 hb_54 hb_55
        refine va_calli (A0 := jA base) (H0 := s.heap) (va_runV (As := [.int r_6]) (rest := [.int v2_1]) ⟨hx, hb, hml, hown, hts⟩ (ih (d - 1) (by omega) G0 H_5 r0 r_6 zs zn za zb zc zy C) (cwV 1 hts (jgV (jWr_65 _ (List.mem_of_getElem? (i := 11) rfl)) (jWr_65 _ (List.mem_of_getElem? (i := 12) rfl)) (jWr_65 _ (List.mem_of_getElem? (i := 13) rfl)) (jWr_12 _ (List.mem_of_getElem? (i := 12) rfl)) (jWr_65 _ (List.mem_of_getElem? (i := 14) rfl))) rfl rfl rfl (by decide +kernel) ⟨by rw [← hR]; show (d - 1 + 3) + 1 ≤ d + 3; omega, by rw [← hR]; show 8 + (4 + 11) + (40 * (d - 1) + 200) ≤ 40 * d + 200; omega⟩) ⟨fun a U g mk q => by obtain ⟨q0, q1, q2, qK, q10, q11, q12, q13, q14, q15, q16, q17, q18, q19⟩ := q; exact ⟨q0, q1, q2, jG.calling g mk a qK, q10, q11, q12, q13, q14, q15, q16, q17, q18, q19⟩, hh_5.recv (C := RX13) (T := TX13) (N := 50) hB15 rfl (by decide) hg_r0 hK, fun U hU hW => ⟨rfl, hU, hh_5.2.1, hG.step hW hU hh_5.1, hg_r0, hg_zs, hg_zn, hg_za, hg_zb, hg_zc, hg_zy, (hh_5.2.2.1.sub (L1 := [(r0, 15, 0, .ref zs), (r0, 15, 1, .ref zn), (r0, 15, 2, .ref za), (r0, 15, 3, .ref zb), (r0, 15, 4, .ref zc), (r0, 15, 14, .ref zy)]) [0, 1, 2, 3, 4, 5] rfl), (hh_5.2.2.2.2.2.2.2.1.sub (L1 := [(zs, 150, 120000, ca 1, C.s), (zn, 151, 120000, ca 1, C.n), (za, 152, 120000, ca 1, C.a), (zb, 153, 120000, ca 1, C.b), (zc, 154, 120000, ca 1, C.c), (zy, 165, 16, ca 1, C.y)]) [0, 1, 2, 3, 4, 5] rfl), ⟨(by first | assumption | (rw [hr_6]; exact hp0.part (by omega) (by omega)) | (rw [hr_6]; have h9 := hp0.szp (by omega) (k := v3_1.toInt) (by omega) (by omega); omega) | omega), (by first | omega | rfl | assumption | (rw [hr_6]; exact hp0.part (by omega) (by omega)) | (rw [hr_6]; have h9 := hp0.szp (by omega) (k := v3_1.toInt) (by omega) (by omega); omega)), (by first | omega | rfl | assumption | (rw [hr_6]; exact hp0.part (by omega) (by omega)) | (rw [hr_6]; have h9 := hp0.szp (by omega) (k := v3_1.toInt) (by omega) (by omega); omega))⟩⟩⟩ rfl rfl hl.1 rfl (lv_room (Nat.le_of_ble_eq_true rfl)) dX13_size_21 ⟨Nat.zero_le _, Nat.zero_le _⟩) hh_5.1 (fun q _ h => h) (fun q h => h) (fun r_8 u_7 t_7 H_7 locs_7 ht_7 hvm_7 hr_8 hb_7 hz_7 hk_7 hS_7 => ?_)
        rw [ht_7] at hb_7
        obtain ⟨hb_71, hb_72, hb_73, hb_74, hb_75⟩ := hb_7
        have hh_7 : jSt (dC, dI) B base G0 G0 EX13_size s.heap 0 0 [(r0, 15, 0, .ref zs), (r0, 15, 1, .ref zn), (r0, 15, 2, .ref za), (r0, 15, 3, .ref zb), (r0, 15, 4, .ref zc), (r0, 15, 14, .ref zy)] [(zs, 150, 120000, ca 1, C.s), (zn, 151, 120000, ca 1, C.n), (za, 152, 120000, ca 1, C.a), (zb, 153, 120000, ca 1, C.b), (zc, 154, 120000, ca 1, C.c), (zy, 165, 16, ca 1, C.y)] [] H_7 locs_7 := ((hh_5.call hb_71 hb_72 hb_73 hb_74 hS_7 rfl (L1 := [(r0, 15, 0, .ref zs), (r0, 15, 1, .ref zn), (r0, 15, 2, .ref za), (r0, 15, 3, .ref zb), (r0, 15, 4, .ref zc), (r0, 15, 14, .ref zy)]) [0, 1, 2, 3, 4, 5] rfl rfl (M1 := [(zs, 150, 120000, ca 1, C.s), (zn, 151, 120000, ca 1, C.n), (za, 152, 120000, ca 1, C.a), (zb, 153, 120000, ca 1, C.b), (zc, 154, 120000, ca 1, C.c), (zy, 165, 16, ca 1, C.y)]) [0, 1, 2, 3, 4, 5] rfl rfl (I1 := []) [] rfl rfl).more hb_75)
        clear hh_5 ht_7 hvm_7 hz_7 hk_7 hS_7 hb_71 hb_72 hb_73 hb_74 hb_75
        rw [hr_6] at hr_8
        have hs1 := jSzK_s C a1.toInt (k := v3_1.toInt) (by omega) (by omega)
        have hs2 := jSzK_le C a1.toInt (k := v3_1.toInt + 1) (p := jPts C a1.toInt) (by omega) (by omega)
        have hs3 := jsz_nn C (jPr C a1.toInt v3_1.toInt)
        have hs4 := jSzK_le C a1.toInt (k := 0) (p := v3_1.toInt) (by omega) (by omega)
        rw [jSzK_0] at hs4
        refine lv_iadd hx hb dX13_size_24 ?_
        refine lv_topi (fun z_9 ez_9 => ?_)
        have hz_9 : z_9.toInt = v2_1.toInt + r_8.toInt := by rw [ez_9]; exact jb_iadd2 (rfl) (rfl) (by omega)
        refine lv_istore_n (lv' := [(2, .int z_9), (0, .ref r0), (1, .int a1), (3, .int v3_1)]) hx hb dX13_size_25 rfl hl (by decide) rfl (fun ls hl => ?_)
        obtain ⟨z_10, ez_10⟩ : ∃ y : Int32, y = v3_1 + 1 := ⟨_, rfl⟩
        refine lv_iinc (v := z_10) (lv' := [(3, .int z_10), (2, .int z_9), (0, .ref r0), (1, .int a1)]) hx hb dX13_size_26 hl (k := 3) rfl (by rw [ez_10]; rfl) (by decide) rfl (fun ls hl => ?_)
        have hz_10 : z_10.toInt = v3_1.toInt + 1 := by rw [ez_10]; exact jb_iadd2 (rfl) (by decide) (by omega)
        refine lv_goto (tgt := 4) hx hb dX13_size_29 (by decide) ?_
        exact L4 z_9 z_10 _ _ hh_7 (⟨(by first | omega | rfl | assumption | (rw [hk0, jSzK_0]; exact hk1) | (rw [show (z_10).toInt = v3_1.toInt + 1 by omega]; omega)), (by first | omega | rfl | assumption | (rw [hk0, jSzK_0]; exact hk1) | (rw [show (z_10).toInt = v3_1.toInt + 1 by omega]; omega)), (by first | omega | rfl | assumption | (rw [hk0, jSzK_0]; exact hk1) | (rw [show (z_10).toInt = v3_1.toInt + 1 by omega]; omega))⟩) (by omega) _ (lv_sub hl [2, 3, 1, 0] rfl)
  exact L4 (3 - (0 : Int32).toInt : Int).toNat.succ 1 0 _ _ hh (⟨(by first | omega | rfl | assumption | (rw [hk0, jSzK_0]; exact hk1) | (rw [show (0).toInt = (zz_none).toInt + 1 by omega]; omega)), (by first | omega | rfl | assumption | (rw [hk0, jSzK_0]; exact hk1) | (rw [show (0).toInt = (zz_none).toInt + 1 by omega]; omega)), (by first | omega | rfl | assumption | (rw [hk0, jSzK_0]; exact hk1) | (rw [show (0).toInt = (zz_none).toInt + 1 by omega]; omega))⟩) (by omega) _ (lv_sub hl [2, 3, 1, 0] rfl)
theorem aX13_size (l : Launch) (dC : Nat → ClassId) (dI : Nat → Nat → Nat) (ca : Nat → ClassId) (base : Nat) (B : jF) (hB : jBok B) (hAp : jAp (dC, dI)) (hB15 : ∀ n G a H, B 15 n G a H ↔ jOb (dC, dI) 15 50 (F15 n G) a H) (hB150 : ∀ n G a H, B 150 n G a H ↔ jAr (dC, dI) (ca 1) (fun j z => True) n a H) (hB151 : ∀ n G a H, B 151 n G a H ↔ jAr (dC, dI) (ca 1) (fun j z => True) n a H) (hB152 : ∀ n G a H, B 152 n G a H ↔ jAr (dC, dI) (ca 1) (fun j z => True) n a H) (hB153 : ∀ n G a H, B 153 n G a H ↔ jAr (dC, dI) (ca 1) (fun j z => True) n a H) (hB154 : ∀ n G a H, B 154 n G a H ↔ jAr (dC, dI) (ca 1) (fun j z => True) n a H) (hB165 : ∀ n G a H, B 165 n G a H ↔ jAr (dC, dI) (ca 1) (fun j z => 0 ≤ z.toInt ∧ z.toInt ≤ 3) n a H) : ∀ ef, qX13_size l dC dI ca base B ef := fun ef => Nat.strongRecOn ef (fun e ih => fun G0 H0 r0 a1 zs zn za zb zc zy C => uX13_size l dC dI ca base B hB hAp hB15 hB150 hB151 hB152 hB153 hB154 hB165 e ih G0 H0 r0 a1 zs zn za zb zc zy C)
set_option maxHeartbeats 4000000 in
set_option maxRecDepth 20000 in
theorem uX13_isSame (l : Launch) (dC : Nat → ClassId) (dI : Nat → Nat → Nat) (ca : Nat → ClassId) (base : Nat) (B : jF) (hB : jBok B) (hAp : jAp (dC, dI)) (hB15 : ∀ n G a H, B 15 n G a H ↔ jOb (dC, dI) 15 50 (F15 n G) a H) (hB150 : ∀ n G a H, B 150 n G a H ↔ jAr (dC, dI) (ca 1) (fun j z => True) n a H) (hB151 : ∀ n G a H, B 151 n G a H ↔ jAr (dC, dI) (ca 1) (fun j z => True) n a H) (hB152 : ∀ n G a H, B 152 n G a H ↔ jAr (dC, dI) (ca 1) (fun j z => True) n a H) (hB153 : ∀ n G a H, B 153 n G a H ↔ jAr (dC, dI) (ca 1) (fun j z => True) n a H) (hB154 : ∀ n G a H, B 154 n G a H ↔ jAr (dC, dI) (ca 1) (fun j z => True) n a H) (hB165 : ∀ n G a H, B 165 n G a H ↔ jAr (dC, dI) (ca 1) (fun j z => 0 ≤ z.toInt ∧ z.toInt ≤ 3) n a H) (d : Nat) (ih : ∀ d1, d1 < d → qX13_isSame l dC dI ca base B d1) (G0 : jT) (H0 : Heap) (r0 : Nat) (a1 : Int32) (a2 : Int32) (zs : Nat) (zn : Nat) (za : Nat) (zb : Nat) (zc : Nat) (zy : Nat) (C : jK) : Met l yX13_isSame (jw yX13_isSame cX13_isSame 5 (some .boolean)) ({ frames := d + 3, cells := 0, slots := 0, locals := 40 * d + 200 }) (va_Pc [.ref r0, .int a1, .int a2] (fun U => U.heap = H0 ∧ jX B base G0 [] H0 ∧ jG dC dI ca base U ∧ G0 r0 = some (15, 0) ∧ G0 zs = some (150, 120000) ∧ G0 zn = some (151, 120000) ∧ G0 za = some (152, 120000) ∧ G0 zb = some (153, 120000) ∧ G0 zc = some (154, 120000) ∧ G0 zy = some (165, 16) ∧ jP (dC, dI) G0 H0 [(r0, 15, 0, .ref zs), (r0, 15, 1, .ref zn), (r0, 15, 2, .ref za), (r0, 15, 3, .ref zb), (r0, 15, 4, .ref zc), (r0, 15, 14, .ref zy)] ∧ jMc (dC, dI) G0 H0 [(zs, 150, 120000, ca 1, C.s), (zn, 151, 120000, ca 1, C.n), (za, 152, 120000, ca 1, C.a), (zb, 153, 120000, ca 1, C.b), (zc, 154, 120000, ca 1, C.c), (zy, 165, 16, ca 1, C.y)] ∧ jTr C d a1.toInt ∧ jTr C d a2.toInt ∧ d ≤ 2000)) (va_Qi (S := Unit) (fun r u => (r = 0 ∨ r = 1) ∧ (r.toInt = jSm C a1.toInt a2.toInt)) (fun u t => jRt (dC, dI) B base G0 EX13_isSame H0 [] t.heap) (jA base)) 0 0 (jA base) := by
  refine Met.ofW (cc := cX13_isSame) (maxL := 5) (ret := (some .boolean)) (by decide) rfl ?_
  intro p e s m args below meth c s₁ Bd hml hv
  obtain ⟨rfl, hH0, hX, hG, hg_r0, hg_zs, hg_zn, hg_za, hg_zb, hg_zc, hg_zy, hP0, hM0, hp0, hp1, hp2⟩ := hv
  have hK := hG.1
  have hx := Bd.exec
  have hb := Bd.bytes
  have hr := Bd.returns
  have hts := atoms_spec (ws := (jw yX13_isSame cX13_isSame 5 (some .boolean))) Bd.pre
  have htw : ∀ w ∈ jWl, w.before _ s = true := fun w h => hts w (List.mem_cons_of_mem _ h)
  have hown : s.vm.findClass RX13 = some m.cls := findClass_of_methodNamed Bd.named
  have hlocks := Bd.notSynchronized
  obtain ⟨Q, hQ⟩ : ∃ Q, Q = MQ below (va_Qi (S := Unit) (fun r u => (r = 0 ∨ r = 1) ∧ (r.toInt = jSm C a1.toInt a2.toInt)) (fun u t => jRt (dC, dI) B base G0 EX13_isSame H0 [] t.heap) (jA base)) ([.ref r0, .int a1, .int a2] : List Value).toArray s 0 0 (jA base) := ⟨_, rfl⟩
  rw [← hQ]
  have hl := lv_entry ([.ref r0, .int a1, .int a2]) (n := 5) (Nat.le_of_ble_eq_true rfl)
  rw [lg_entry_eq]
  generalize (lg_sl ([.ref r0, .int a1, .int a2]) ++ List.replicate (5 - (lg_sl ([.ref r0, .int a1, .int a2])).length) Slot.unset).toArray = ls at hl ⊢
  have hl : lv_has ls 5 [(0, .ref r0), (1, .int a1), (2, .int a2)] := hl
  generalize hR : (headSpec (jw yX13_isSame cX13_isSame 5 (some .boolean)) ({ frames := d + 3, cells := 0, slots := 0, locals := 40 * d + 200 })).room = R
  subst hH0
  have hh : jSt (dC, dI) B base G0 G0 EX13_isSame s.heap 0 0 [(r0, 15, 0, .ref zs), (r0, 15, 1, .ref zn), (r0, 15, 2, .ref za), (r0, 15, 3, .ref zb), (r0, 15, 4, .ref zc), (r0, 15, 14, .ref zy)] [(zs, 150, 120000, ca 1, C.s), (zn, 151, 120000, ca 1, C.n), (za, 152, 120000, ca 1, C.a), (zb, 153, 120000, ca 1, C.b), (zc, 154, 120000, ca 1, C.c), (zy, 165, 16, ca 1, C.y)] [] s.heap [] := jSt.start hX hP0 hM0 jIs.nil
  clear hX hP0
  have hk0 : (0 : Int32).toInt = 0 := by decide
  have hk1 : (1 : Int32).toInt = 1 := by decide
  have hk7 : (7 : Int32).toInt = 7 := by decide
  have hk8 : (8 : Int32).toInt = 8 := by decide
  have hk9 : (9 : Int32).toInt = 9 := by decide
  have hk10 : (10 : Int32).toInt = 10 := by decide
  have hly_15_0 := htw (u_lay RX13 TX13 0) (jWc_wsX130 _ (u_in_lay (by decide)))
  have hly_15_1 := htw (u_lay RX13 TX13 1) (jWc_wsX130 _ (u_in_lay (by decide)))
  have hlk_12 := (htw (.fieldLink RX13 12 "ProofServerModel$Kernel" "sort" "[I") (jWr_14 _ (List.mem_of_getElem? (i := 9) rfl)))
  have hlk_16 := (htw (.fieldLink RX13 16 "ProofServerModel$Kernel" "name" "[I") (jWr_14 _ (List.mem_of_getElem? (i := 10) rfl)))
  have hrg_a1 := jb_rng a1
  have hrg_a2 := jb_rng a2
  obtain ⟨g1, g2, g3, g4, g5, g6, g7, g8⟩ := hp0.ok
  obtain ⟨e1, e2, e3, e4, e5, e6, e7, e8⟩ := hp1.ok
  have hst := hp0.sm (by omega) a2.toInt
  refine lv_iload_n hx hb dX13_isSame_0 rfl (lv_at hl 1 rfl) ?_
  refine lv_iload_n hx hb dX13_isSame_1 rfl (lv_at hl 2 rfl) ?_
  refine lv_icmp_ne (tgt := 7) hx hb dX13_isSame_2 (by decide) (fun c_1 => ?_) (fun c_1 => ?_)
  · skip
    have c_1' : a1.toInt ≠ a2.toInt := jb_ne (rfl) (rfl) c_1
    refine lv_aload_n hx hb dX13_isSame_7 rfl (lv_at hl 0 rfl) ?_
    refine j7_read hx hb hown hK (C := RX13) (T := TX13) (N := 50) rfl hly_15_0 hlk_12 (hh.at 0 rfl) dX13_isSame_8 ?_
    refine lv_iload_n hx hb dX13_isSame_11 rfl (lv_at hl 1 rfl) ?_
    refine j7_ialdM hx hb hK hh hB150 1 rfl (by decide) hg_zs (x := a1.toInt) (rfl) (by omega) (j := 0) rfl dX13_isSame_12 (fun z_2 ez_2 (hz_2 : True) => ?_)
    have hqz_2 : z_2.toInt = jSo C.s (a1.toInt) := by unfold jSo; rw [ez_2]
    refine lv_aload_n hx hb dX13_isSame_13 rfl (lv_at hl 0 rfl) ?_
    refine j7_read hx hb hown hK (C := RX13) (T := TX13) (N := 50) rfl hly_15_0 hlk_12 (hh.at 0 rfl) dX13_isSame_14 ?_
    refine lv_iload_n hx hb dX13_isSame_17 rfl (lv_at hl 2 rfl) ?_
    refine j7_ialdM hx hb hK hh hB150 1 rfl (by decide) hg_zs (x := a2.toInt) (rfl) (by omega) (j := 0) rfl dX13_isSame_18 (fun z_3 ez_3 (hz_3 : True) => ?_)
    have hqz_3 : z_3.toInt = jSo C.s (a2.toInt) := by unfold jSo; rw [ez_3]
    refine lv_icmp_eq (tgt := 24) hx hb dX13_isSame_19 (by decide) (fun c_4 => ?_) (fun c_4 => ?_)
    · skip
      have c_4' : z_2.toInt = z_3.toInt := jb_eq (rfl) (rfl) c_4
      refine lv_aload_n hx hb dX13_isSame_24 rfl (lv_at hl 0 rfl) ?_
      refine j7_read hx hb hown hK (C := RX13) (T := TX13) (N := 50) rfl hly_15_0 hlk_12 (hh.at 0 rfl) dX13_isSame_25 ?_
      refine lv_iload_n hx hb dX13_isSame_28 rfl (lv_at hl 1 rfl) ?_
      refine j7_ialdM hx hb hK hh hB150 1 rfl (by decide) hg_zs (x := a1.toInt) (rfl) (by omega) (j := 0) rfl dX13_isSame_29 (fun z_5 ez_5 (hz_5 : True) => ?_)
      have hqz_5 : z_5.toInt = jSo C.s (a1.toInt) := by unfold jSo; rw [ez_5]
      refine lv_istore_n (lv' := [(3, .int z_5), (0, .ref r0), (1, .int a1), (2, .int a2)]) hx hb dX13_isSame_30 rfl hl (by decide) rfl (fun ls hl => ?_)
      refine lv_iload_n hx hb dX13_isSame_31 rfl (lv_at hl 0 rfl) ?_
      refine lv_bipush (v := 7) hx hb dX13_isSame_32 (by decide) ?_
      have C72 : ∀ (H_6 : Heap) (locs_6 : List Loc), jSt (dC, dI) B base G0 G0 EX13_isSame s.heap 0 0 [(r0, 15, 0, .ref zs), (r0, 15, 1, .ref zn), (r0, 15, 2, .ref za), (r0, 15, 3, .ref zb), (r0, 15, 4, .ref zc), (r0, 15, 14, .ref zy)] [(zs, 150, 120000, ca 1, C.s), (zn, 151, 120000, ca 1, C.n), (za, 152, 120000, ca 1, C.a), (zb, 153, 120000, ca 1, C.b), (zc, 154, 120000, ca 1, C.c), (zy, 165, 16, ca 1, C.y)] [] H_6 locs_6 → ((7 ≤ jSo C.s a1.toInt ∧ jSo C.s a1.toInt ≤ 10 → jSo C.n a1.toInt = jSo C.n a2.toInt)) → ∀ ls : Array Slot, lv_has ls 5 [(0, .ref r0), (1, .int a1), (2, .int a2), (3, .int z_5)] → W p l e R s m ([.ref r0, .int a1, .int a2] : List Value).toArray below meth c H_6 locs_6 0 0 Q (F0 m 72 ls []) := by
        intro  H_6 locs_6 hh_6  hi_6 ls hl
        have hpq : jPts C a2.toInt = jPts C a1.toInt := jPts_like (D := C) (by omega) (fun _ => by omega) (fun _ => rfl)
        refine lv_iconst (v := 0) hx hb dX13_isSame_72 (by decide) ?_
        refine lv_istore (lv' := [(4, .int 0), (0, .ref r0), (1, .int a1), (2, .int a2), (3, .int z_5)]) hx hb dX13_isSame_73 hl (by decide) rfl (fun ls hl => ?_)
        have L75 : ∀ (N : Nat) (v4_7 : Int32) (H_7 : Heap) (locs_7 : List Loc), jSt (dC, dI) B base G0 G0 EX13_isSame s.heap 0 0 [(r0, 15, 0, .ref zs), (r0, 15, 1, .ref zn), (r0, 15, 2, .ref za), (r0, 15, 3, .ref zb), (r0, 15, 4, .ref zc), (r0, 15, 14, .ref zy)] [(zs, 150, 120000, ca 1, C.s), (zn, 151, 120000, ca 1, C.n), (za, 152, 120000, ca 1, C.a), (zb, 153, 120000, ca 1, C.b), (zc, 154, 120000, ca 1, C.c), (zy, 165, 16, ca 1, C.y)] [] H_7 locs_7 → (0 ≤ v4_7.toInt ∧ v4_7.toInt ≤ jPts C a1.toInt ∧ jSmK C a1.toInt a2.toInt v4_7.toInt = 1) → (3 - v4_7.toInt : Int) < N → ∀ ls : Array Slot, lv_has ls 5 [(0, .ref r0), (1, .int a1), (2, .int a2), (3, .int z_5), (4, .int v4_7)] → W p l e R s m ([.ref r0, .int a1, .int a2] : List Value).toArray below meth c H_7 locs_7 0 0 Q (F0 m 75 ls []) := by
          intro N
          induction N with
          | zero => intro v4_7 H_7 locs_7 hh_7  hi_7 hm; exact absurd hm (by omega)
          | succ N L75 =>
            intro v4_7 H_7 locs_7 hh_7  hi_7 hm_7 ls hl
            obtain ⟨hi_7_0, hi_7_1, hi_7_2⟩ := hi_7
            refine lv_iload hx hb dX13_isSame_75 (lv_at hl 4 rfl) ?_
            refine lv_aload_n hx hb dX13_isSame_77 rfl (lv_at hl 0 rfl) ?_
            refine lv_iload_n hx hb dX13_isSame_78 rfl (lv_at hl 1 rfl) ?_
            refine va_calli (A0 := jA base) (H0 := s.heap) (va_runV (As := [.int a1]) (rest := [.int v4_7]) ⟨hx, hb, hml, hown, hts⟩ (uX13_parts l dC dI ca base B hB hAp hB15 hB150 hB151 hB152 hB153 hB154 hB165 G0 H_7 r0 a1 zs zn za zb zc zy C) (cwV 1 hts (jgV (jWr_65 _ (List.mem_of_getElem? (i := 15) rfl)) (jWr_65 _ (List.mem_of_getElem? (i := 16) rfl)) (jWr_65 _ (List.mem_of_getElem? (i := 17) rfl)) (jWr_12 _ (List.mem_of_getElem? (i := 12) rfl)) (jWr_65 _ (List.mem_of_getElem? (i := 18) rfl))) rfl rfl rfl (by decide +kernel) ⟨by rw [← hR]; show (0) + 1 ≤ d + 3; omega, by rw [← hR]; show 8 + (3 + 11) + (0) ≤ 40 * d + 200; omega⟩) ⟨fun a U g mk q => by obtain ⟨q0, q1, q2, qK, q10, q11, q12, q13, q14, q15, q16, q17, q18, q19⟩ := q; exact ⟨q0, q1, q2, jG.calling g mk a qK, q10, q11, q12, q13, q14, q15, q16, q17, q18, q19⟩, hh_7.recv (C := RX13) (T := TX13) (N := 50) hB15 rfl (by decide) hg_r0 hK, fun U hU hW => ⟨rfl, hU, hh_7.2.1, hG.step hW hU hh_7.1, hg_r0, hg_zs, hg_zn, hg_za, hg_zb, hg_zc, hg_zy, (hh_7.2.2.1.sub (L1 := [(r0, 15, 0, .ref zs), (r0, 15, 1, .ref zn), (r0, 15, 2, .ref za), (r0, 15, 3, .ref zb), (r0, 15, 4, .ref zc), (r0, 15, 14, .ref zy)]) [0, 1, 2, 3, 4, 5] rfl), (hh_7.2.2.2.2.2.2.2.1.sub (L1 := [(zs, 150, 120000, ca 1, C.s), (zn, 151, 120000, ca 1, C.n), (za, 152, 120000, ca 1, C.a), (zb, 153, 120000, ca 1, C.b), (zc, 154, 120000, ca 1, C.c), (zy, 165, 16, ca 1, C.y)]) [0, 1, 2, 3, 4, 5] rfl), by first | omega | (refine ⟨?_, ?_, ?_⟩ <;> (first | omega | rfl | assumption | decide | exact Or.inl rfl | exact Or.inr rfl | (simp only; omega)))⟩⟩ rfl rfl hl.1 rfl (lv_room (Nat.le_of_ble_eq_true rfl)) dX13_isSame_79 ⟨Nat.zero_le _, Nat.zero_le _⟩) hh_7.1 (fun q _ h => h) (fun q h => h) (fun r_9 u_8 t_8 H_8 locs_8 ht_8 hvm_8 hr_9 hb_8 hz_8 hk_8 hS_8 => ?_)
            rw [ht_8] at hb_8
            obtain ⟨hb_81, hb_82, hb_83, hb_84, hb_85⟩ := hb_8
            have hh_8 : jSt (dC, dI) B base G0 G0 EX13_isSame s.heap 0 0 [(r0, 15, 0, .ref zs), (r0, 15, 1, .ref zn), (r0, 15, 2, .ref za), (r0, 15, 3, .ref zb), (r0, 15, 4, .ref zc), (r0, 15, 14, .ref zy)] [(zs, 150, 120000, ca 1, C.s), (zn, 151, 120000, ca 1, C.n), (za, 152, 120000, ca 1, C.a), (zb, 153, 120000, ca 1, C.b), (zc, 154, 120000, ca 1, C.c), (zy, 165, 16, ca 1, C.y)] [] H_8 locs_8 := ((hh_7.call hb_81 hb_82 hb_83 hb_84 hS_8 rfl (L1 := [(r0, 15, 0, .ref zs), (r0, 15, 1, .ref zn), (r0, 15, 2, .ref za), (r0, 15, 3, .ref zb), (r0, 15, 4, .ref zc), (r0, 15, 14, .ref zy)]) [0, 1, 2, 3, 4, 5] rfl rfl (M1 := [(zs, 150, 120000, ca 1, C.s), (zn, 151, 120000, ca 1, C.n), (za, 152, 120000, ca 1, C.a), (zb, 153, 120000, ca 1, C.b), (zc, 154, 120000, ca 1, C.c), (zy, 165, 16, ca 1, C.y)]) [0, 1, 2, 3, 4, 5] rfl rfl (I1 := []) [] rfl rfl).more hb_85)
            clear hh_7 ht_8 hvm_8 hz_8 hk_8 hS_8 hb_81 hb_82 hb_83 hb_84 hb_85
            obtain ⟨hr_9_0, hr_9_1, hr_9_2⟩ := hr_9
            refine lv_icmp_ge (tgt := 114) hx hb dX13_isSame_82 (by decide) (fun c_10 => ?_) (fun c_10 => ?_)
            · skip
              have c_10' : v4_7.toInt ≥ r_9.toInt := jb_ge (rfl) (rfl) c_10
              refine lv_iconst (v := 1) hx hb dX13_isSame_114 (by decide) ?_
              rw [hQ]
              exact W.zret (v := 1) hx hb hr (jb_nz (Or.inr rfl)) (fun t ht hW => ⟨⟨1, (), rfl, ⟨(Or.inr rfl), by rw [hst]; first | (rw [if_pos (by omega)]; exact hk1) | (rw [if_neg (by omega), if_pos (by omega)]; exact hk0) | (rw [if_neg (by omega), if_neg (by omega), if_pos (by omega)]; exact hk0) | (rw [if_neg (by omega), if_neg (by omega), if_neg (by omega), jSmK_z C a1.toInt a2.toInt (k := v4_7.toInt) (by omega) (by omega) (by omega) (by rw [← (zz_none), ← (zz_none)]; omega)]; exact hk0) | (rw [if_neg (by omega), if_neg (by omega), if_neg (by omega), show jPts C a1.toInt = v4_7.toInt by omega]; omega)⟩, hh_8.rt (M1 := []) [] rfl ht⟩, by rw [ht]; try exact hh_8.1.1, fun q h9 hq => by rw [ht]; try exact hh_8.1.2.1 q h9 hq⟩) hh_8.1.2.2 dX13_isSame_115
            · skip
              have c_10' : v4_7.toInt < r_9.toInt := jb_ge_n (rfl) (rfl) c_10
              refine lv_aload_n hx hb dX13_isSame_85 rfl (lv_at hl 0 rfl) ?_
              refine lv_aload_n hx hb dX13_isSame_86 rfl (lv_at hl 0 rfl) ?_
              refine lv_iload_n hx hb dX13_isSame_87 rfl (lv_at hl 1 rfl) ?_
              refine lv_iload hx hb dX13_isSame_88 (lv_at hl 4 rfl) ?_
              refine va_calli (A0 := jA base) (H0 := s.heap) (va_runV (As := [.int a1, .int v4_7]) (rest := [.ref r0]) ⟨hx, hb, hml, hown, hts⟩ (uX13_partK l dC dI ca base B hB hAp hB15 hB150 hB151 hB152 hB153 hB154 hB165 G0 H_8 r0 a1 v4_7 zs zn za zb zc zy C) (cwV 2 hts (jgV (jWr_65 _ (List.mem_of_getElem? (i := 19) rfl)) (jWr_65 _ (List.mem_of_getElem? (i := 20) rfl)) (jWr_65 _ (List.mem_of_getElem? (i := 21) rfl)) (jWr_12 _ (List.mem_of_getElem? (i := 12) rfl)) (jWr_65 _ (List.mem_of_getElem? (i := 22) rfl))) rfl rfl rfl (by decide +kernel) ⟨by rw [← hR]; show (0) + 1 ≤ d + 3; omega, by rw [← hR]; show 8 + (3 + 11) + (0) ≤ 40 * d + 200; omega⟩) ⟨fun a U g mk q => by obtain ⟨q0, q1, q2, qK, q10, q11, q12, q13, q14, q15, q16, q17, q18, q19⟩ := q; exact ⟨q0, q1, q2, jG.calling g mk a qK, q10, q11, q12, q13, q14, q15, q16, q17, q18, q19⟩, hh_8.recv (C := RX13) (T := TX13) (N := 50) hB15 rfl (by decide) hg_r0 hK, fun U hU hW => ⟨rfl, hU, hh_8.2.1, hG.step hW hU hh_8.1, hg_r0, hg_zs, hg_zn, hg_za, hg_zb, hg_zc, hg_zy, (hh_8.2.2.1.sub (L1 := [(r0, 15, 0, .ref zs), (r0, 15, 1, .ref zn), (r0, 15, 2, .ref za), (r0, 15, 3, .ref zb), (r0, 15, 4, .ref zc), (r0, 15, 14, .ref zy)]) [0, 1, 2, 3, 4, 5] rfl), (hh_8.2.2.2.2.2.2.2.1.sub (L1 := [(zs, 150, 120000, ca 1, C.s), (zn, 151, 120000, ca 1, C.n), (za, 152, 120000, ca 1, C.a), (zb, 153, 120000, ca 1, C.b), (zc, 154, 120000, ca 1, C.c), (zy, 165, 16, ca 1, C.y)]) [0, 1, 2, 3, 4, 5] rfl), by first | omega | (refine ⟨?_, ?_⟩ <;> (first | omega | rfl | assumption | decide | exact Or.inl rfl | exact Or.inr rfl | (simp only; omega)))⟩⟩ rfl rfl hl.1 rfl (lv_room (Nat.le_of_ble_eq_true rfl)) dX13_isSame_90 ⟨Nat.zero_le _, Nat.zero_le _⟩) hh_8.1 (fun q _ h => h) (fun q h => h) (fun r_12 u_11 t_11 H_11 locs_11 ht_11 hvm_11 hr_12 hb_11 hz_11 hk_11 hS_11 => ?_)
              rw [ht_11] at hb_11
              obtain ⟨hb_111, hb_112, hb_113, hb_114, hb_115⟩ := hb_11
              have hh_11 : jSt (dC, dI) B base G0 G0 EX13_isSame s.heap 0 0 [(r0, 15, 0, .ref zs), (r0, 15, 1, .ref zn), (r0, 15, 2, .ref za), (r0, 15, 3, .ref zb), (r0, 15, 4, .ref zc), (r0, 15, 14, .ref zy)] [(zs, 150, 120000, ca 1, C.s), (zn, 151, 120000, ca 1, C.n), (za, 152, 120000, ca 1, C.a), (zb, 153, 120000, ca 1, C.b), (zc, 154, 120000, ca 1, C.c), (zy, 165, 16, ca 1, C.y)] [] H_11 locs_11 := ((hh_8.call hb_111 hb_112 hb_113 hb_114 hS_11 rfl (L1 := [(r0, 15, 0, .ref zs), (r0, 15, 1, .ref zn), (r0, 15, 2, .ref za), (r0, 15, 3, .ref zb), (r0, 15, 4, .ref zc), (r0, 15, 14, .ref zy)]) [0, 1, 2, 3, 4, 5] rfl rfl (M1 := [(zs, 150, 120000, ca 1, C.s), (zn, 151, 120000, ca 1, C.n), (za, 152, 120000, ca 1, C.a), (zb, 153, 120000, ca 1, C.b), (zc, 154, 120000, ca 1, C.c), (zy, 165, 16, ca 1, C.y)]) [0, 1, 2, 3, 4, 5] rfl rfl (I1 := []) [] rfl rfl).more hb_115)
              clear hh_8 ht_11 hvm_11 hz_11 hk_11 hS_11 hb_111 hb_112 hb_113 hb_114 hb_115
              refine lv_aload_n hx hb dX13_isSame_93 rfl (lv_at hl 0 rfl) ?_
              refine lv_iload_n hx hb dX13_isSame_94 rfl (lv_at hl 2 rfl) ?_
              refine lv_iload hx hb dX13_isSame_95 (lv_at hl 4 rfl) ?_
              refine va_calli (A0 := jA base) (H0 := s.heap) (va_runV (As := [.int a2, .int v4_7]) (rest := [.int r_12, .ref r0]) ⟨hx, hb, hml, hown, hts⟩ (uX13_partK l dC dI ca base B hB hAp hB15 hB150 hB151 hB152 hB153 hB154 hB165 G0 H_11 r0 a2 v4_7 zs zn za zb zc zy C) (cwV 2 hts (jgV (jWr_65 _ (List.mem_of_getElem? (i := 19) rfl)) (jWr_65 _ (List.mem_of_getElem? (i := 20) rfl)) (jWr_65 _ (List.mem_of_getElem? (i := 21) rfl)) (jWr_12 _ (List.mem_of_getElem? (i := 12) rfl)) (jWr_65 _ (List.mem_of_getElem? (i := 22) rfl))) rfl rfl rfl (by decide +kernel) ⟨by rw [← hR]; show (0) + 1 ≤ d + 3; omega, by rw [← hR]; show 8 + (3 + 11) + (0) ≤ 40 * d + 200; omega⟩) ⟨fun a U g mk q => by obtain ⟨q0, q1, q2, qK, q10, q11, q12, q13, q14, q15, q16, q17, q18, q19⟩ := q; exact ⟨q0, q1, q2, jG.calling g mk a qK, q10, q11, q12, q13, q14, q15, q16, q17, q18, q19⟩, hh_11.recv (C := RX13) (T := TX13) (N := 50) hB15 rfl (by decide) hg_r0 hK, fun U hU hW => ⟨rfl, hU, hh_11.2.1, hG.step hW hU hh_11.1, hg_r0, hg_zs, hg_zn, hg_za, hg_zb, hg_zc, hg_zy, (hh_11.2.2.1.sub (L1 := [(r0, 15, 0, .ref zs), (r0, 15, 1, .ref zn), (r0, 15, 2, .ref za), (r0, 15, 3, .ref zb), (r0, 15, 4, .ref zc), (r0, 15, 14, .ref zy)]) [0, 1, 2, 3, 4, 5] rfl), (hh_11.2.2.2.2.2.2.2.1.sub (L1 := [(zs, 150, 120000, ca 1, C.s), (zn, 151, 120000, ca 1, C.n), (za, 152, 120000, ca 1, C.a), (zb, 153, 120000, ca 1, C.b), (zc, 154, 120000, ca 1, C.c), (zy, 165, 16, ca 1, C.y)]) [0, 1, 2, 3, 4, 5] rfl), by first | omega | (refine ⟨?_, ?_⟩ <;> (first | omega | rfl | assumption | decide | exact Or.inl rfl | exact Or.inr rfl | (simp only; omega)))⟩⟩ rfl rfl hl.1 rfl (lv_room (Nat.le_of_ble_eq_true rfl)) dX13_isSame_97 ⟨Nat.zero_le _, Nat.zero_le _⟩) hh_11.1 (fun q _ h => h) (fun q h => h) (fun r_14 u_13 t_13 H_13 locs_13 ht_13 hvm_13 hr_14 hb_13 hz_13 hk_13 hS_13 => ?_)
              rw [ht_13] at hb_13
              obtain ⟨hb_131, hb_132, hb_133, hb_134, hb_135⟩ := hb_13
              have hh_13 : jSt (dC, dI) B base G0 G0 EX13_isSame s.heap 0 0 [(r0, 15, 0, .ref zs), (r0, 15, 1, .ref zn), (r0, 15, 2, .ref za), (r0, 15, 3, .ref zb), (r0, 15, 4, .ref zc), (r0, 15, 14, .ref zy)] [(zs, 150, 120000, ca 1, C.s), (zn, 151, 120000, ca 1, C.n), (za, 152, 120000, ca 1, C.a), (zb, 153, 120000, ca 1, C.b), (zc, 154, 120000, ca 1, C.c), (zy, 165, 16, ca 1, C.y)] [] H_13 locs_13 := ((hh_11.call hb_131 hb_132 hb_133 hb_134 hS_13 rfl (L1 := [(r0, 15, 0, .ref zs), (r0, 15, 1, .ref zn), (r0, 15, 2, .ref za), (r0, 15, 3, .ref zb), (r0, 15, 4, .ref zc), (r0, 15, 14, .ref zy)]) [0, 1, 2, 3, 4, 5] rfl rfl (M1 := [(zs, 150, 120000, ca 1, C.s), (zn, 151, 120000, ca 1, C.n), (za, 152, 120000, ca 1, C.a), (zb, 153, 120000, ca 1, C.b), (zc, 154, 120000, ca 1, C.c), (zy, 165, 16, ca 1, C.y)]) [0, 1, 2, 3, 4, 5] rfl rfl (I1 := []) [] rfl rfl).more hb_135)
              clear hh_11 ht_13 hvm_13 hz_13 hk_13 hS_13 hb_131 hb_132 hb_133 hb_134 hb_135
              refine va_calli (A0 := jA base) (H0 := s.heap) (va_runV (As := [.int r_12, .int r_14]) (rest := []) ⟨hx, hb, hml, hown, hts⟩ (ih (d - 1) (by omega) G0 H_13 r0 r_12 r_14 zs zn za zb zc zy C) (cwV 2 hts (jgV (jWr_67 _ (List.mem_of_getElem? (i := 11) rfl)) (jWr_67 _ (List.mem_of_getElem? (i := 12) rfl)) (jWr_67 _ (List.mem_of_getElem? (i := 13) rfl)) (jWr_12 _ (List.mem_of_getElem? (i := 12) rfl)) (jWr_67 _ (List.mem_of_getElem? (i := 14) rfl))) rfl rfl rfl (by decide +kernel) ⟨by rw [← hR]; show (d - 1 + 3) + 1 ≤ d + 3; omega, by rw [← hR]; show 8 + (5 + 11) + (40 * (d - 1) + 200) ≤ 40 * d + 200; omega⟩) ⟨fun a U g mk q => by obtain ⟨q0, q1, q2, qK, q10, q11, q12, q13, q14, q15, q16, q17, q18, q19⟩ := q; exact ⟨q0, q1, q2, jG.calling g mk a qK, q10, q11, q12, q13, q14, q15, q16, q17, q18, q19⟩, hh_13.recv (C := RX13) (T := TX13) (N := 50) hB15 rfl (by decide) hg_r0 hK, fun U hU hW => ⟨rfl, hU, hh_13.2.1, hG.step hW hU hh_13.1, hg_r0, hg_zs, hg_zn, hg_za, hg_zb, hg_zc, hg_zy, (hh_13.2.2.1.sub (L1 := [(r0, 15, 0, .ref zs), (r0, 15, 1, .ref zn), (r0, 15, 2, .ref za), (r0, 15, 3, .ref zb), (r0, 15, 4, .ref zc), (r0, 15, 14, .ref zy)]) [0, 1, 2, 3, 4, 5] rfl), (hh_13.2.2.2.2.2.2.2.1.sub (L1 := [(zs, 150, 120000, ca 1, C.s), (zn, 151, 120000, ca 1, C.n), (za, 152, 120000, ca 1, C.a), (zb, 153, 120000, ca 1, C.b), (zc, 154, 120000, ca 1, C.c), (zy, 165, 16, ca 1, C.y)]) [0, 1, 2, 3, 4, 5] rfl), ⟨(by first | assumption | (rw [hr_12]; exact hp0.part (by omega) (by omega)) | (rw [hr_14]; exact hp1.part (by omega) (by omega)) | omega), (by first | assumption | (rw [hr_12]; exact hp0.part (by omega) (by omega)) | (rw [hr_14]; exact hp1.part (by omega) (by omega)) | omega), (by first | omega | rfl | assumption | (rw [hr_12]; exact hp0.part (by omega) (by omega)) | (rw [hr_14]; exact hp1.part (by omega) (by omega)))⟩⟩⟩ rfl rfl hl.1 rfl (lv_room (Nat.le_of_ble_eq_true rfl)) dX13_isSame_100 ⟨Nat.zero_le _, Nat.zero_le _⟩) hh_13.1 (fun q _ h => h) (fun q h => h) (fun r_16 u_15 t_15 H_15 locs_15 ht_15 hvm_15 hr_16 hb_15 hz_15 hk_15 hS_15 => ?_)
              rw [ht_15] at hb_15
              obtain ⟨hb_151, hb_152, hb_153, hb_154, hb_155⟩ := hb_15
              have hh_15 : jSt (dC, dI) B base G0 G0 EX13_isSame s.heap 0 0 [(r0, 15, 0, .ref zs), (r0, 15, 1, .ref zn), (r0, 15, 2, .ref za), (r0, 15, 3, .ref zb), (r0, 15, 4, .ref zc), (r0, 15, 14, .ref zy)] [(zs, 150, 120000, ca 1, C.s), (zn, 151, 120000, ca 1, C.n), (za, 152, 120000, ca 1, C.a), (zb, 153, 120000, ca 1, C.b), (zc, 154, 120000, ca 1, C.c), (zy, 165, 16, ca 1, C.y)] [] H_15 locs_15 := ((hh_13.call hb_151 hb_152 hb_153 hb_154 hS_15 rfl (L1 := [(r0, 15, 0, .ref zs), (r0, 15, 1, .ref zn), (r0, 15, 2, .ref za), (r0, 15, 3, .ref zb), (r0, 15, 4, .ref zc), (r0, 15, 14, .ref zy)]) [0, 1, 2, 3, 4, 5] rfl rfl (M1 := [(zs, 150, 120000, ca 1, C.s), (zn, 151, 120000, ca 1, C.n), (za, 152, 120000, ca 1, C.a), (zb, 153, 120000, ca 1, C.b), (zc, 154, 120000, ca 1, C.c), (zy, 165, 16, ca 1, C.y)]) [0, 1, 2, 3, 4, 5] rfl rfl (I1 := []) [] rfl rfl).more hb_155)
              clear hh_13 ht_15 hvm_15 hz_15 hk_15 hS_15 hb_151 hb_152 hb_153 hb_154 hb_155
              obtain ⟨hr_16b, hr_16p⟩ := hr_16
              have hr_16' := jb_01 hr_16b
              refine lv_if_ne (tgt := 108) hx hb dX13_isSame_103 (by decide) (fun c_17 => ?_) (fun c_17 => ?_)
              · skip
                have c_17' : r_16.toInt ≠ 0 := jb_ne (rfl) ((by decide)) c_17
                obtain ⟨z_18, ez_18⟩ : ∃ y : Int32, y = v4_7 + 1 := ⟨_, rfl⟩
                refine lv_iinc (v := z_18) (lv' := [(4, .int z_18), (0, .ref r0), (1, .int a1), (2, .int a2), (3, .int z_5)]) hx hb dX13_isSame_108 hl (k := 4) rfl (by rw [ez_18]; rfl) (by decide) rfl (fun ls hl => ?_)
                have hz_18 : z_18.toInt = v4_7.toInt + 1 := by rw [ez_18]; exact jb_iadd2 (rfl) (by decide) (by omega)
                refine lv_goto (tgt := 75) hx hb dX13_isSame_111 (by decide) ?_
                exact L75 z_18 _ _ hh_15 (⟨(by first | omega | rfl | assumption | (rw [hk0, jSmK_0]) | (rw [show (z_18).toInt = v4_7.toInt + 1 by omega, jSmK_s C a1.toInt a2.toInt (by omega) (by omega) (by rw [← hr_12, ← hr_14]; omega)]; omega)), (by first | omega | rfl | assumption | (rw [hk0, jSmK_0]) | (rw [show (z_18).toInt = v4_7.toInt + 1 by omega, jSmK_s C a1.toInt a2.toInt (by omega) (by omega) (by rw [← hr_12, ← hr_14]; omega)]; omega)), (by first | omega | rfl | assumption | (rw [hk0, jSmK_0]) | (rw [show (z_18).toInt = v4_7.toInt + 1 by omega, jSmK_s C a1.toInt a2.toInt (by omega) (by omega) (by rw [← hr_12, ← hr_14]; omega)]; omega))⟩) (by omega) _ (lv_sub hl [1, 2, 3, 4, 0] rfl)
              · skip
                have c_17' : r_16.toInt = 0 := jb_ne_n (rfl) ((by decide)) c_17
                refine lv_iconst (v := 0) hx hb dX13_isSame_106 (by decide) ?_
                rw [hQ]
                exact W.zret (v := 0) hx hb hr (jb_nz (Or.inl rfl)) (fun t ht hW => ⟨⟨0, (), rfl, ⟨(Or.inl rfl), by rw [hst]; first | (rw [if_pos (by omega)]; exact hk1) | (rw [if_neg (by omega), if_pos (by omega)]; exact hk0) | (rw [if_neg (by omega), if_neg (by omega), if_pos (by omega)]; exact hk0) | (rw [if_neg (by omega), if_neg (by omega), if_neg (by omega), jSmK_z C a1.toInt a2.toInt (k := v4_7.toInt) (by omega) (by omega) (by omega) (by rw [← hr_12, ← hr_14]; omega)]; exact hk0) | (rw [if_neg (by omega), if_neg (by omega), if_neg (by omega), show jPts C a1.toInt = v4_7.toInt by omega]; omega)⟩, hh_15.rt (M1 := []) [] rfl ht⟩, by rw [ht]; try exact hh_15.1.1, fun q h9 hq => by rw [ht]; try exact hh_15.1.2.1 q h9 hq⟩) hh_15.1.2.2 dX13_isSame_107
        exact L75 (3 - (0 : Int32).toInt : Int).toNat.succ 0 _ _ hh_6 (⟨(by first | omega | rfl | assumption | (rw [hk0, jSmK_0]) | (rw [show (0).toInt = (zz_none).toInt + 1 by omega, jSmK_s C a1.toInt a2.toInt (by omega) (by omega) (by rw [← hr_12, ← hr_14]; omega)]; omega)), (by first | omega | rfl | assumption | (rw [hk0, jSmK_0]) | (rw [show (0).toInt = (zz_none).toInt + 1 by omega, jSmK_s C a1.toInt a2.toInt (by omega) (by omega) (by rw [← hr_12, ← hr_14]; omega)]; omega)), (by first | omega | rfl | assumption | (rw [hk0, jSmK_0]) | (rw [show (0).toInt = (zz_none).toInt + 1 by omega, jSmK_s C a1.toInt a2.toInt (by omega) (by omega) (by rw [← hr_12, ← hr_14]; omega)]; omega))⟩) (by omega) _ (lv_sub hl [1, 2, 3, 4, 0] rfl)
      have C55 : ∀ (H_19 : Heap) (locs_19 : List Loc), jSt (dC, dI) B base G0 G0 EX13_isSame s.heap 0 0 [(r0, 15, 0, .ref zs), (r0, 15, 1, .ref zn), (r0, 15, 2, .ref za), (r0, 15, 3, .ref zb), (r0, 15, 4, .ref zc), (r0, 15, 14, .ref zy)] [(zs, 150, 120000, ca 1, C.s), (zn, 151, 120000, ca 1, C.n), (za, 152, 120000, ca 1, C.a), (zb, 153, 120000, ca 1, C.b), (zc, 154, 120000, ca 1, C.c), (zy, 165, 16, ca 1, C.y)] [] H_19 locs_19 → (7 ≤ jSo C.s a1.toInt ∧ jSo C.s a1.toInt ≤ 10) → ∀ ls : Array Slot, lv_has ls 5 [(0, .ref r0), (1, .int a1), (2, .int a2), (3, .int z_5)] → W p l e R s m ([.ref r0, .int a1, .int a2] : List Value).toArray below meth c H_19 locs_19 0 0 Q (F0 m 55 ls []) := by
        intro  H_19 locs_19 hh_19  hi_19 ls hl
        obtain ⟨hi_19_0, hi_19_1⟩ := hi_19
        refine lv_aload_n hx hb dX13_isSame_55 rfl (lv_at hl 0 rfl) ?_
        refine j7_read hx hb hown hK (C := RX13) (T := TX13) (N := 50) rfl hly_15_1 hlk_16 (hh_19.at 1 rfl) dX13_isSame_56 ?_
        refine lv_iload_n hx hb dX13_isSame_59 rfl (lv_at hl 1 rfl) ?_
        refine j7_ialdM hx hb hK hh_19 hB151 1 rfl (by decide) hg_zn (x := a1.toInt) (rfl) (by omega) (j := 1) rfl dX13_isSame_60 (fun z_20 ez_20 (hz_20 : True) => ?_)
        have hqz_20 : z_20.toInt = jSo C.n (a1.toInt) := by unfold jSo; rw [ez_20]
        refine lv_aload_n hx hb dX13_isSame_61 rfl (lv_at hl 0 rfl) ?_
        refine j7_read hx hb hown hK (C := RX13) (T := TX13) (N := 50) rfl hly_15_1 hlk_16 (hh_19.at 1 rfl) dX13_isSame_62 ?_
        refine lv_iload_n hx hb dX13_isSame_65 rfl (lv_at hl 2 rfl) ?_
        refine j7_ialdM hx hb hK hh_19 hB151 1 rfl (by decide) hg_zn (x := a2.toInt) (rfl) (by omega) (j := 1) rfl dX13_isSame_66 (fun z_21 ez_21 (hz_21 : True) => ?_)
        have hqz_21 : z_21.toInt = jSo C.n (a2.toInt) := by unfold jSo; rw [ez_21]
        refine lv_icmp_eq (tgt := 72) hx hb dX13_isSame_67 (by decide) (fun c_22 => ?_) (fun c_22 => ?_)
        · skip
          have c_22' : z_20.toInt = z_21.toInt := jb_eq (rfl) (rfl) c_22
          exact C72  _ _ hh_19 (by first | omega | rfl | assumption | decide | exact Or.inl rfl | exact Or.inr rfl | (simp only; omega)) _ (lv_sub hl [0, 1, 2, 3] rfl)
        · skip
          have c_22' : z_20.toInt ≠ z_21.toInt := jb_eq_n (rfl) (rfl) c_22
          refine lv_iconst (v := 0) hx hb dX13_isSame_70 (by decide) ?_
          rw [hQ]
          exact W.zret (v := 0) hx hb hr (jb_nz (Or.inl rfl)) (fun t ht hW => ⟨⟨0, (), rfl, ⟨(Or.inl rfl), by rw [hst]; first | (rw [if_pos (by omega)]; exact hk1) | (rw [if_neg (by omega), if_pos (by omega)]; exact hk0) | (rw [if_neg (by omega), if_neg (by omega), if_pos (by omega)]; exact hk0) | (rw [if_neg (by omega), if_neg (by omega), if_neg (by omega), jSmK_z C a1.toInt a2.toInt (k := (zz_none).toInt) (by omega) (by omega) (by omega) (by rw [← (zz_none), ← (zz_none)]; omega)]; exact hk0) | (rw [if_neg (by omega), if_neg (by omega), if_neg (by omega), show jPts C a1.toInt = (zz_none).toInt by omega]; omega)⟩, hh_19.rt (M1 := []) [] rfl ht⟩, by rw [ht]; try exact hh_19.1.1, fun q h9 hq => by rw [ht]; try exact hh_19.1.2.1 q h9 hq⟩) hh_19.1.2.2 dX13_isSame_71
      refine lv_icmp_eq (tgt := 55) hx hb dX13_isSame_34 (by decide) (fun c_23 => ?_) (fun c_23 => ?_)
      · skip
        have c_23' : z_5.toInt = 7 := jb_eq (rfl) ((by decide)) c_23
        exact C55  _ _ hh (by first | omega | (refine ⟨?_, ?_⟩ <;> (first | omega | rfl | assumption | decide | exact Or.inl rfl | exact Or.inr rfl | (simp only; omega)))) _ (lv_sub hl [1, 2, 3, 0] rfl)
      · skip
        have c_23' : z_5.toInt ≠ 7 := jb_eq_n (rfl) ((by decide)) c_23
        refine lv_iload_n hx hb dX13_isSame_37 rfl (lv_at hl 0 rfl) ?_
        refine lv_bipush (v := 8) hx hb dX13_isSame_38 (by decide) ?_
        refine lv_icmp_eq (tgt := 55) hx hb dX13_isSame_40 (by decide) (fun c_24 => ?_) (fun c_24 => ?_)
        · skip
          have c_24' : z_5.toInt = 8 := jb_eq (rfl) ((by decide)) c_24
          exact C55  _ _ hh (by first | omega | (refine ⟨?_, ?_⟩ <;> (first | omega | rfl | assumption | decide | exact Or.inl rfl | exact Or.inr rfl | (simp only; omega)))) _ (lv_sub hl [1, 2, 3, 0] rfl)
        · skip
          have c_24' : z_5.toInt ≠ 8 := jb_eq_n (rfl) ((by decide)) c_24
          refine lv_iload_n hx hb dX13_isSame_43 rfl (lv_at hl 0 rfl) ?_
          refine lv_bipush (v := 9) hx hb dX13_isSame_44 (by decide) ?_
          refine lv_icmp_eq (tgt := 55) hx hb dX13_isSame_46 (by decide) (fun c_25 => ?_) (fun c_25 => ?_)
          · skip
            have c_25' : z_5.toInt = 9 := jb_eq (rfl) ((by decide)) c_25
            exact C55  _ _ hh (by first | omega | (refine ⟨?_, ?_⟩ <;> (first | omega | rfl | assumption | decide | exact Or.inl rfl | exact Or.inr rfl | (simp only; omega)))) _ (lv_sub hl [1, 2, 3, 0] rfl)
          · skip
            have c_25' : z_5.toInt ≠ 9 := jb_eq_n (rfl) ((by decide)) c_25
            refine lv_iload_n hx hb dX13_isSame_49 rfl (lv_at hl 0 rfl) ?_
            refine lv_bipush (v := 10) hx hb dX13_isSame_50 (by decide) ?_
            refine lv_icmp_ne (tgt := 72) hx hb dX13_isSame_52 (by decide) (fun c_26 => ?_) (fun c_26 => ?_)
            · skip
              have c_26' : z_5.toInt ≠ 10 := jb_ne (rfl) ((by decide)) c_26
              exact C72  _ _ hh (by first | omega | rfl | assumption | decide | exact Or.inl rfl | exact Or.inr rfl | (simp only; omega)) _ (lv_sub hl [1, 2, 3, 0] rfl)
            · skip
              have c_26' : z_5.toInt = 10 := jb_ne_n (rfl) ((by decide)) c_26
              exact C55  _ _ hh (by first | omega | (refine ⟨?_, ?_⟩ <;> (first | omega | rfl | assumption | decide | exact Or.inl rfl | exact Or.inr rfl | (simp only; omega)))) _ (lv_sub hl [1, 2, 3, 0] rfl)
    · skip
      have c_4' : z_2.toInt ≠ z_3.toInt := jb_eq_n (rfl) (rfl) c_4
      refine lv_iconst (v := 0) hx hb dX13_isSame_22 (by decide) ?_
      rw [hQ]
      exact W.zret (v := 0) hx hb hr (jb_nz (Or.inl rfl)) (fun t ht hW => ⟨⟨0, (), rfl, ⟨(Or.inl rfl), by rw [hst]; first | (rw [if_pos (by omega)]; exact hk1) | (rw [if_neg (by omega), if_pos (by omega)]; exact hk0) | (rw [if_neg (by omega), if_neg (by omega), if_pos (by omega)]; exact hk0) | (rw [if_neg (by omega), if_neg (by omega), if_neg (by omega), jSmK_z C a1.toInt a2.toInt (k := (zz_none).toInt) (by omega) (by omega) (by omega) (by rw [← (zz_none), ← (zz_none)]; omega)]; exact hk0) | (rw [if_neg (by omega), if_neg (by omega), if_neg (by omega), show jPts C a1.toInt = (zz_none).toInt by omega]; omega)⟩, hh.rt (M1 := []) [] rfl ht⟩, by rw [ht]; try exact hh.1.1, fun q h9 hq => by rw [ht]; try exact hh.1.2.1 q h9 hq⟩) hh.1.2.2 dX13_isSame_23
  · skip
    have c_1' : a1.toInt = a2.toInt := jb_ne_n (rfl) (rfl) c_1
    refine lv_iconst (v := 1) hx hb dX13_isSame_5 (by decide) ?_
    rw [hQ]
    exact W.zret (v := 1) hx hb hr (jb_nz (Or.inr rfl)) (fun t ht hW => ⟨⟨1, (), rfl, ⟨(Or.inr rfl), by rw [hst]; first | (rw [if_pos (by omega)]; exact hk1) | (rw [if_neg (by omega), if_pos (by omega)]; exact hk0) | (rw [if_neg (by omega), if_neg (by omega), if_pos (by omega)]; exact hk0) | (rw [if_neg (by omega), if_neg (by omega), if_neg (by omega), jSmK_z C a1.toInt a2.toInt (k := (zz_none).toInt) (by omega) (by omega) (by omega) (by rw [← (zz_none), ← (zz_none)]; omega)]; exact hk0) | (rw [if_neg (by omega), if_neg (by omega), if_neg (by omega), show jPts C a1.toInt = (zz_none).toInt by omega]; omega)⟩, hh.rt (M1 := []) [] rfl ht⟩, by rw [ht]; try exact hh.1.1, fun q h9 hq => by rw [ht]; try exact hh.1.2.1 q h9 hq⟩) hh.1.2.2 dX13_isSame_6
theorem aX13_isSame (l : Launch) (dC : Nat → ClassId) (dI : Nat → Nat → Nat) (ca : Nat → ClassId) (base : Nat) (B : jF) (hB : jBok B) (hAp : jAp (dC, dI)) (hB15 : ∀ n G a H, B 15 n G a H ↔ jOb (dC, dI) 15 50 (F15 n G) a H) (hB150 : ∀ n G a H, B 150 n G a H ↔ jAr (dC, dI) (ca 1) (fun j z => True) n a H) (hB151 : ∀ n G a H, B 151 n G a H ↔ jAr (dC, dI) (ca 1) (fun j z => True) n a H) (hB152 : ∀ n G a H, B 152 n G a H ↔ jAr (dC, dI) (ca 1) (fun j z => True) n a H) (hB153 : ∀ n G a H, B 153 n G a H ↔ jAr (dC, dI) (ca 1) (fun j z => True) n a H) (hB154 : ∀ n G a H, B 154 n G a H ↔ jAr (dC, dI) (ca 1) (fun j z => True) n a H) (hB165 : ∀ n G a H, B 165 n G a H ↔ jAr (dC, dI) (ca 1) (fun j z => 0 ≤ z.toInt ∧ z.toInt ≤ 3) n a H) : ∀ ef, qX13_isSame l dC dI ca base B ef := fun ef => Nat.strongRecOn ef (fun e ih => fun G0 H0 r0 a1 a2 zs zn za zb zc zy C => uX13_isSame l dC dI ca base B hB hAp hB15 hB150 hB151 hB152 hB153 hB154 hB165 e ih G0 H0 r0 a1 a2 zs zn za zb zc zy C)
set_option maxHeartbeats 4000000 in
set_option maxRecDepth 20000 in
theorem uX13_hasBound (l : Launch) (dC : Nat → ClassId) (dI : Nat → Nat → Nat) (ca : Nat → ClassId) (base : Nat) (B : jF) (hB : jBok B) (hAp : jAp (dC, dI)) (hB15 : ∀ n G a H, B 15 n G a H ↔ jOb (dC, dI) 15 50 (F15 n G) a H) (hB150 : ∀ n G a H, B 150 n G a H ↔ jAr (dC, dI) (ca 1) (fun j z => True) n a H) (hB151 : ∀ n G a H, B 151 n G a H ↔ jAr (dC, dI) (ca 1) (fun j z => True) n a H) (hB152 : ∀ n G a H, B 152 n G a H ↔ jAr (dC, dI) (ca 1) (fun j z => True) n a H) (hB153 : ∀ n G a H, B 153 n G a H ↔ jAr (dC, dI) (ca 1) (fun j z => True) n a H) (hB154 : ∀ n G a H, B 154 n G a H ↔ jAr (dC, dI) (ca 1) (fun j z => True) n a H) (hB165 : ∀ n G a H, B 165 n G a H ↔ jAr (dC, dI) (ca 1) (fun j z => 0 ≤ z.toInt ∧ z.toInt ≤ 3) n a H) (d : Nat) (ih : ∀ d1, d1 < d → qX13_hasBound l dC dI ca base B d1) (G0 : jT) (H0 : Heap) (r0 : Nat) (a1 : Int32) (zs : Nat) (zn : Nat) (za : Nat) (zb : Nat) (zc : Nat) (zy : Nat) (C : jK) : Met l yX13_hasBound (jw yX13_hasBound cX13_hasBound 3 (some .boolean)) ({ frames := d + 3, cells := 0, slots := 0, locals := 40 * d + 200 }) (va_Pc [.ref r0, .int a1] (fun U => U.heap = H0 ∧ jX B base G0 [] H0 ∧ jG dC dI ca base U ∧ G0 r0 = some (15, 0) ∧ G0 zs = some (150, 120000) ∧ G0 zn = some (151, 120000) ∧ G0 za = some (152, 120000) ∧ G0 zb = some (153, 120000) ∧ G0 zc = some (154, 120000) ∧ G0 zy = some (165, 16) ∧ jP (dC, dI) G0 H0 [(r0, 15, 0, .ref zs), (r0, 15, 1, .ref zn), (r0, 15, 2, .ref za), (r0, 15, 3, .ref zb), (r0, 15, 4, .ref zc), (r0, 15, 14, .ref zy)] ∧ jMc (dC, dI) G0 H0 [(zs, 150, 120000, ca 1, C.s), (zn, 151, 120000, ca 1, C.n), (za, 152, 120000, ca 1, C.a), (zb, 153, 120000, ca 1, C.b), (zc, 154, 120000, ca 1, C.c), (zy, 165, 16, ca 1, C.y)] ∧ jTr C d a1.toInt ∧ d ≤ 2000)) (va_Qi (S := Unit) (fun r u => (r = 0 ∨ r = 1) ∧ ((r.toInt = 0 → jNbF C d a1.toInt))) (fun u t => jRt (dC, dI) B base G0 EX13_hasBound H0 [] t.heap) (jA base)) 0 0 (jA base) := by
  refine Met.ofW (cc := cX13_hasBound) (maxL := 3) (ret := (some .boolean)) (by decide) rfl ?_
  intro p e s m args below meth c s₁ Bd hml hv
  obtain ⟨rfl, hH0, hX, hG, hg_r0, hg_zs, hg_zn, hg_za, hg_zb, hg_zc, hg_zy, hP0, hM0, hp0, hp1⟩ := hv
  have hK := hG.1
  have hx := Bd.exec
  have hb := Bd.bytes
  have hr := Bd.returns
  have hts := atoms_spec (ws := (jw yX13_hasBound cX13_hasBound 3 (some .boolean))) Bd.pre
  have htw : ∀ w ∈ jWl, w.before _ s = true := fun w h => hts w (List.mem_cons_of_mem _ h)
  have hown : s.vm.findClass RX13 = some m.cls := findClass_of_methodNamed Bd.named
  have hlocks := Bd.notSynchronized
  obtain ⟨Q, hQ⟩ : ∃ Q, Q = MQ below (va_Qi (S := Unit) (fun r u => (r = 0 ∨ r = 1) ∧ ((r.toInt = 0 → jNbF C d a1.toInt))) (fun u t => jRt (dC, dI) B base G0 EX13_hasBound H0 [] t.heap) (jA base)) ([.ref r0, .int a1] : List Value).toArray s 0 0 (jA base) := ⟨_, rfl⟩
  rw [← hQ]
  have hl := lv_entry ([.ref r0, .int a1]) (n := 3) (Nat.le_of_ble_eq_true rfl)
  rw [lg_entry_eq]
  generalize (lg_sl ([.ref r0, .int a1]) ++ List.replicate (3 - (lg_sl ([.ref r0, .int a1])).length) Slot.unset).toArray = ls at hl ⊢
  have hl : lv_has ls 3 [(0, .ref r0), (1, .int a1)] := hl
  generalize hR : (headSpec (jw yX13_hasBound cX13_hasBound 3 (some .boolean)) ({ frames := d + 3, cells := 0, slots := 0, locals := 40 * d + 200 })).room = R
  subst hH0
  have hh : jSt (dC, dI) B base G0 G0 EX13_hasBound s.heap 0 0 [(r0, 15, 0, .ref zs), (r0, 15, 1, .ref zn), (r0, 15, 2, .ref za), (r0, 15, 3, .ref zb), (r0, 15, 4, .ref zc), (r0, 15, 14, .ref zy)] [(zs, 150, 120000, ca 1, C.s), (zn, 151, 120000, ca 1, C.n), (za, 152, 120000, ca 1, C.a), (zb, 153, 120000, ca 1, C.b), (zc, 154, 120000, ca 1, C.c), (zy, 165, 16, ca 1, C.y)] [] s.heap [] := jSt.start hX hP0 hM0 jIs.nil
  clear hX hP0
  have hk0 : (0 : Int32).toInt = 0 := by decide
  have hk1 : (1 : Int32).toInt = 1 := by decide
  have hk10 : (10 : Int32).toInt = 10 := by decide
  have hly_15_0 := htw (u_lay RX13 TX13 0) (jWc_wsX130 _ (u_in_lay (by decide)))
  have hlk_12 := (htw (.fieldLink RX13 12 "ProofServerModel$Kernel" "sort" "[I") (jWr_14 _ (List.mem_of_getElem? (i := 9) rfl)))
  have hrg_a1 := jb_rng a1
  obtain ⟨g1, g2, g3, g4, g5, g6, g7, g8⟩ := hp0.ok
  refine lv_aload_n hx hb dX13_hasBound_0 rfl (lv_at hl 0 rfl) ?_
  refine j7_read hx hb hown hK (C := RX13) (T := TX13) (N := 50) rfl hly_15_0 hlk_12 (hh.at 0 rfl) dX13_hasBound_1 ?_
  refine lv_iload_n hx hb dX13_hasBound_4 rfl (lv_at hl 1 rfl) ?_
  refine j7_ialdM hx hb hK hh hB150 1 rfl (by decide) hg_zs (x := a1.toInt) (rfl) (by omega) (j := 0) rfl dX13_hasBound_5 (fun z_1 ez_1 (hz_1 : True) => ?_)
  have hqz_1 : z_1.toInt = jSo C.s (a1.toInt) := by unfold jSo; rw [ez_1]
  refine lv_bipush (v := 10) hx hb dX13_hasBound_6 (by decide) ?_
  refine lv_icmp_ne (tgt := 13) hx hb dX13_hasBound_8 (by decide) (fun c_2 => ?_) (fun c_2 => ?_)
  · skip
    have c_2' : z_1.toInt ≠ 10 := jb_ne (rfl) ((by decide)) c_2
    refine lv_iconst (v := 0) hx hb dX13_hasBound_13 (by decide) ?_
    refine lv_istore_n (lv' := [(2, .int 0), (0, .ref r0), (1, .int a1)]) hx hb dX13_hasBound_14 rfl hl (by decide) rfl (fun ls hl => ?_)
    have L15 : ∀ (N : Nat) (v2_3 : Int32) (H_3 : Heap) (locs_3 : List Loc), jSt (dC, dI) B base G0 G0 EX13_hasBound s.heap 0 0 [(r0, 15, 0, .ref zs), (r0, 15, 1, .ref zn), (r0, 15, 2, .ref za), (r0, 15, 3, .ref zb), (r0, 15, 4, .ref zc), (r0, 15, 14, .ref zy)] [(zs, 150, 120000, ca 1, C.s), (zn, 151, 120000, ca 1, C.n), (za, 152, 120000, ca 1, C.a), (zb, 153, 120000, ca 1, C.b), (zc, 154, 120000, ca 1, C.c), (zy, 165, 16, ca 1, C.y)] [] H_3 locs_3 → (0 ≤ v2_3.toInt ∧ v2_3.toInt ≤ jPts C a1.toInt ∧ jNbK C (d - 1) a1.toInt v2_3.toInt) → (3 - v2_3.toInt : Int) < N → ∀ ls : Array Slot, lv_has ls 3 [(0, .ref r0), (1, .int a1), (2, .int v2_3)] → W p l e R s m ([.ref r0, .int a1] : List Value).toArray below meth c H_3 locs_3 0 0 Q (F0 m 15 ls []) := by
      intro N
      induction N with
      | zero => intro v2_3 H_3 locs_3 hh_3  hi_3 hm; exact absurd hm (by omega)
      | succ N L15 =>
        intro v2_3 H_3 locs_3 hh_3  hi_3 hm_3 ls hl
        obtain ⟨hi_3_0, hi_3_1, hi_3_2⟩ := hi_3
        refine lv_iload_n hx hb dX13_hasBound_15 rfl (lv_at hl 2 rfl) ?_
        refine lv_aload_n hx hb dX13_hasBound_16 rfl (lv_at hl 0 rfl) ?_
        refine lv_iload_n hx hb dX13_hasBound_17 rfl (lv_at hl 1 rfl) ?_
        refine va_calli (A0 := jA base) (H0 := s.heap) (va_runV (As := [.int a1]) (rest := [.int v2_3]) ⟨hx, hb, hml, hown, hts⟩ (uX13_parts l dC dI ca base B hB hAp hB15 hB150 hB151 hB152 hB153 hB154 hB165 G0 H_3 r0 a1 zs zn za zb zc zy C) (cwV 1 hts (jgV (jWr_65 _ (List.mem_of_getElem? (i := 15) rfl)) (jWr_65 _ (List.mem_of_getElem? (i := 16) rfl)) (jWr_65 _ (List.mem_of_getElem? (i := 17) rfl)) (jWr_12 _ (List.mem_of_getElem? (i := 12) rfl)) (jWr_65 _ (List.mem_of_getElem? (i := 18) rfl))) rfl rfl rfl (by decide +kernel) ⟨by rw [← hR]; show (0) + 1 ≤ d + 3; omega, by rw [← hR]; show 8 + (3 + 11) + (0) ≤ 40 * d + 200; omega⟩) ⟨fun a U g mk q => by obtain ⟨q0, q1, q2, qK, q10, q11, q12, q13, q14, q15, q16, q17, q18, q19⟩ := q; exact ⟨q0, q1, q2, jG.calling g mk a qK, q10, q11, q12, q13, q14, q15, q16, q17, q18, q19⟩, hh_3.recv (C := RX13) (T := TX13) (N := 50) hB15 rfl (by decide) hg_r0 hK, fun U hU hW => ⟨rfl, hU, hh_3.2.1, hG.step hW hU hh_3.1, hg_r0, hg_zs, hg_zn, hg_za, hg_zb, hg_zc, hg_zy, (hh_3.2.2.1.sub (L1 := [(r0, 15, 0, .ref zs), (r0, 15, 1, .ref zn), (r0, 15, 2, .ref za), (r0, 15, 3, .ref zb), (r0, 15, 4, .ref zc), (r0, 15, 14, .ref zy)]) [0, 1, 2, 3, 4, 5] rfl), (hh_3.2.2.2.2.2.2.2.1.sub (L1 := [(zs, 150, 120000, ca 1, C.s), (zn, 151, 120000, ca 1, C.n), (za, 152, 120000, ca 1, C.a), (zb, 153, 120000, ca 1, C.b), (zc, 154, 120000, ca 1, C.c), (zy, 165, 16, ca 1, C.y)]) [0, 1, 2, 3, 4, 5] rfl), by first | omega | (refine ⟨?_, ?_, ?_⟩ <;> (first | omega | rfl | assumption | decide | exact Or.inl rfl | exact Or.inr rfl | (simp only; omega)))⟩⟩ rfl rfl hl.1 rfl (lv_room (Nat.le_of_ble_eq_true rfl)) dX13_hasBound_18 ⟨Nat.zero_le _, Nat.zero_le _⟩) hh_3.1 (fun q _ h => h) (fun q h => h) (fun r_5 u_4 t_4 H_4 locs_4 ht_4 hvm_4 hr_5 hb_4 hz_4 hk_4 hS_4 => ?_)
        rw [ht_4] at hb_4
        obtain ⟨hb_41, hb_42, hb_43, hb_44, hb_45⟩ := hb_4
        have hh_4 : jSt (dC, dI) B base G0 G0 EX13_hasBound s.heap 0 0 [(r0, 15, 0, .ref zs), (r0, 15, 1, .ref zn), (r0, 15, 2, .ref za), (r0, 15, 3, .ref zb), (r0, 15, 4, .ref zc), (r0, 15, 14, .ref zy)] [(zs, 150, 120000, ca 1, C.s), (zn, 151, 120000, ca 1, C.n), (za, 152, 120000, ca 1, C.a), (zb, 153, 120000, ca 1, C.b), (zc, 154, 120000, ca 1, C.c), (zy, 165, 16, ca 1, C.y)] [] H_4 locs_4 := ((hh_3.call hb_41 hb_42 hb_43 hb_44 hS_4 rfl (L1 := [(r0, 15, 0, .ref zs), (r0, 15, 1, .ref zn), (r0, 15, 2, .ref za), (r0, 15, 3, .ref zb), (r0, 15, 4, .ref zc), (r0, 15, 14, .ref zy)]) [0, 1, 2, 3, 4, 5] rfl rfl (M1 := [(zs, 150, 120000, ca 1, C.s), (zn, 151, 120000, ca 1, C.n), (za, 152, 120000, ca 1, C.a), (zb, 153, 120000, ca 1, C.b), (zc, 154, 120000, ca 1, C.c), (zy, 165, 16, ca 1, C.y)]) [0, 1, 2, 3, 4, 5] rfl rfl (I1 := []) [] rfl rfl).more hb_45)
        clear hh_3 ht_4 hvm_4 hz_4 hk_4 hS_4 hb_41 hb_42 hb_43 hb_44 hb_45
        obtain ⟨hr_5_0, hr_5_1, hr_5_2⟩ := hr_5
        refine lv_icmp_ge (tgt := 45) hx hb dX13_hasBound_21 (by decide) (fun c_6 => ?_) (fun c_6 => ?_)
        · skip
          have c_6' : v2_3.toInt ≥ r_5.toInt := jb_ge (rfl) (rfl) c_6
          refine lv_iconst (v := 0) hx hb dX13_hasBound_45 (by decide) ?_
          rw [hQ]
          exact W.zret (v := 0) hx hb hr (jb_nz (Or.inl rfl)) (fun t ht hW => ⟨⟨0, (), rfl, ⟨(Or.inl rfl), by intro h9; first | exact absurd h9 (by omega) | exact jNbF_mk (by omega) (by omega) (by rw [show jPts C a1.toInt = v2_3.toInt by omega]; exact hi_3_2)⟩, hh_4.rt (M1 := []) [] rfl ht⟩, by rw [ht]; try exact hh_4.1.1, fun q h9 hq => by rw [ht]; try exact hh_4.1.2.1 q h9 hq⟩) hh_4.1.2.2 dX13_hasBound_46
        · skip
          have c_6' : v2_3.toInt < r_5.toInt := jb_ge_n (rfl) (rfl) c_6
          refine lv_aload_n hx hb dX13_hasBound_24 rfl (lv_at hl 0 rfl) ?_
          refine lv_aload_n hx hb dX13_hasBound_25 rfl (lv_at hl 0 rfl) ?_
          refine lv_iload_n hx hb dX13_hasBound_26 rfl (lv_at hl 1 rfl) ?_
          refine lv_iload_n hx hb dX13_hasBound_27 rfl (lv_at hl 2 rfl) ?_
          refine va_calli (A0 := jA base) (H0 := s.heap) (va_runV (As := [.int a1, .int v2_3]) (rest := [.ref r0]) ⟨hx, hb, hml, hown, hts⟩ (uX13_partK l dC dI ca base B hB hAp hB15 hB150 hB151 hB152 hB153 hB154 hB165 G0 H_4 r0 a1 v2_3 zs zn za zb zc zy C) (cwV 2 hts (jgV (jWr_65 _ (List.mem_of_getElem? (i := 19) rfl)) (jWr_65 _ (List.mem_of_getElem? (i := 20) rfl)) (jWr_65 _ (List.mem_of_getElem? (i := 21) rfl)) (jWr_12 _ (List.mem_of_getElem? (i := 12) rfl)) (jWr_65 _ (List.mem_of_getElem? (i := 22) rfl))) rfl rfl rfl (by decide +kernel) ⟨by rw [← hR]; show (0) + 1 ≤ d + 3; omega, by rw [← hR]; show 8 + (3 + 11) + (0) ≤ 40 * d + 200; omega⟩) ⟨fun a U g mk q => by obtain ⟨q0, q1, q2, qK, q10, q11, q12, q13, q14, q15, q16, q17, q18, q19⟩ := q; exact ⟨q0, q1, q2, jG.calling g mk a qK, q10, q11, q12, q13, q14, q15, q16, q17, q18, q19⟩, hh_4.recv (C := RX13) (T := TX13) (N := 50) hB15 rfl (by decide) hg_r0 hK, fun U hU hW => ⟨rfl, hU, hh_4.2.1, hG.step hW hU hh_4.1, hg_r0, hg_zs, hg_zn, hg_za, hg_zb, hg_zc, hg_zy, (hh_4.2.2.1.sub (L1 := [(r0, 15, 0, .ref zs), (r0, 15, 1, .ref zn), (r0, 15, 2, .ref za), (r0, 15, 3, .ref zb), (r0, 15, 4, .ref zc), (r0, 15, 14, .ref zy)]) [0, 1, 2, 3, 4, 5] rfl), (hh_4.2.2.2.2.2.2.2.1.sub (L1 := [(zs, 150, 120000, ca 1, C.s), (zn, 151, 120000, ca 1, C.n), (za, 152, 120000, ca 1, C.a), (zb, 153, 120000, ca 1, C.b), (zc, 154, 120000, ca 1, C.c), (zy, 165, 16, ca 1, C.y)]) [0, 1, 2, 3, 4, 5] rfl), by first | omega | (refine ⟨?_, ?_⟩ <;> (first | omega | rfl | assumption | decide | exact Or.inl rfl | exact Or.inr rfl | (simp only; omega)))⟩⟩ rfl rfl hl.1 rfl (lv_room (Nat.le_of_ble_eq_true rfl)) dX13_hasBound_28 ⟨Nat.zero_le _, Nat.zero_le _⟩) hh_4.1 (fun q _ h => h) (fun q h => h) (fun r_8 u_7 t_7 H_7 locs_7 ht_7 hvm_7 hr_8 hb_7 hz_7 hk_7 hS_7 => ?_)
          rw [ht_7] at hb_7
          obtain ⟨hb_71, hb_72, hb_73, hb_74, hb_75⟩ := hb_7
          have hh_7 : jSt (dC, dI) B base G0 G0 EX13_hasBound s.heap 0 0 [(r0, 15, 0, .ref zs), (r0, 15, 1, .ref zn), (r0, 15, 2, .ref za), (r0, 15, 3, .ref zb), (r0, 15, 4, .ref zc), (r0, 15, 14, .ref zy)] [(zs, 150, 120000, ca 1, C.s), (zn, 151, 120000, ca 1, C.n), (za, 152, 120000, ca 1, C.a), (zb, 153, 120000, ca 1, C.b), (zc, 154, 120000, ca 1, C.c), (zy, 165, 16, ca 1, C.y)] [] H_7 locs_7 := ((hh_4.call hb_71 hb_72 hb_73 hb_74 hS_7 rfl (L1 := [(r0, 15, 0, .ref zs), (r0, 15, 1, .ref zn), (r0, 15, 2, .ref za), (r0, 15, 3, .ref zb), (r0, 15, 4, .ref zc), (r0, 15, 14, .ref zy)]) [0, 1, 2, 3, 4, 5] rfl rfl (M1 := [(zs, 150, 120000, ca 1, C.s), (zn, 151, 120000, ca 1, C.n), (za, 152, 120000, ca 1, C.a), (zb, 153, 120000, ca 1, C.b), (zc, 154, 120000, ca 1, C.c), (zy, 165, 16, ca 1, C.y)]) [0, 1, 2, 3, 4, 5] rfl rfl (I1 := []) [] rfl rfl).more hb_75)
          clear hh_4 ht_7 hvm_7 hz_7 hk_7 hS_7 hb_71 hb_72 hb_73 hb_74 hb_75
          refine va_calli (A0 := jA base) (H0 := s.heap) (va_runV (As := [.int r_8]) (rest := []) ⟨hx, hb, hml, hown, hts⟩ (ih (d - 1) (by omega) G0 H_7 r0 r_8 zs zn za zb zc zy C) (cwV 1 hts (jgV (jWr_68 _ (List.mem_of_getElem? (i := 11) rfl)) (jWr_68 _ (List.mem_of_getElem? (i := 12) rfl)) (jWr_68 _ (List.mem_of_getElem? (i := 13) rfl)) (jWr_12 _ (List.mem_of_getElem? (i := 12) rfl)) (jWr_68 _ (List.mem_of_getElem? (i := 14) rfl))) rfl rfl rfl (by decide +kernel) ⟨by rw [← hR]; show (d - 1 + 3) + 1 ≤ d + 3; omega, by rw [← hR]; show 8 + (3 + 11) + (40 * (d - 1) + 200) ≤ 40 * d + 200; omega⟩) ⟨fun a U g mk q => by obtain ⟨q0, q1, q2, qK, q10, q11, q12, q13, q14, q15, q16, q17, q18, q19⟩ := q; exact ⟨q0, q1, q2, jG.calling g mk a qK, q10, q11, q12, q13, q14, q15, q16, q17, q18, q19⟩, hh_7.recv (C := RX13) (T := TX13) (N := 50) hB15 rfl (by decide) hg_r0 hK, fun U hU hW => ⟨rfl, hU, hh_7.2.1, hG.step hW hU hh_7.1, hg_r0, hg_zs, hg_zn, hg_za, hg_zb, hg_zc, hg_zy, (hh_7.2.2.1.sub (L1 := [(r0, 15, 0, .ref zs), (r0, 15, 1, .ref zn), (r0, 15, 2, .ref za), (r0, 15, 3, .ref zb), (r0, 15, 4, .ref zc), (r0, 15, 14, .ref zy)]) [0, 1, 2, 3, 4, 5] rfl), (hh_7.2.2.2.2.2.2.2.1.sub (L1 := [(zs, 150, 120000, ca 1, C.s), (zn, 151, 120000, ca 1, C.n), (za, 152, 120000, ca 1, C.a), (zb, 153, 120000, ca 1, C.b), (zc, 154, 120000, ca 1, C.c), (zy, 165, 16, ca 1, C.y)]) [0, 1, 2, 3, 4, 5] rfl), ⟨(by first | assumption | (rw [hr_8]; exact hp0.part (by omega) (by omega)) | omega), (by first | omega | rfl | assumption | (rw [hr_8]; exact hp0.part (by omega) (by omega)))⟩⟩⟩ rfl rfl hl.1 rfl (lv_room (Nat.le_of_ble_eq_true rfl)) dX13_hasBound_31 ⟨Nat.zero_le _, Nat.zero_le _⟩) hh_7.1 (fun q _ h => h) (fun q h => h) (fun r_10 u_9 t_9 H_9 locs_9 ht_9 hvm_9 hr_10 hb_9 hz_9 hk_9 hS_9 => ?_)
          rw [ht_9] at hb_9
          obtain ⟨hb_91, hb_92, hb_93, hb_94, hb_95⟩ := hb_9
          have hh_9 : jSt (dC, dI) B base G0 G0 EX13_hasBound s.heap 0 0 [(r0, 15, 0, .ref zs), (r0, 15, 1, .ref zn), (r0, 15, 2, .ref za), (r0, 15, 3, .ref zb), (r0, 15, 4, .ref zc), (r0, 15, 14, .ref zy)] [(zs, 150, 120000, ca 1, C.s), (zn, 151, 120000, ca 1, C.n), (za, 152, 120000, ca 1, C.a), (zb, 153, 120000, ca 1, C.b), (zc, 154, 120000, ca 1, C.c), (zy, 165, 16, ca 1, C.y)] [] H_9 locs_9 := ((hh_7.call hb_91 hb_92 hb_93 hb_94 hS_9 rfl (L1 := [(r0, 15, 0, .ref zs), (r0, 15, 1, .ref zn), (r0, 15, 2, .ref za), (r0, 15, 3, .ref zb), (r0, 15, 4, .ref zc), (r0, 15, 14, .ref zy)]) [0, 1, 2, 3, 4, 5] rfl rfl (M1 := [(zs, 150, 120000, ca 1, C.s), (zn, 151, 120000, ca 1, C.n), (za, 152, 120000, ca 1, C.a), (zb, 153, 120000, ca 1, C.b), (zc, 154, 120000, ca 1, C.c), (zy, 165, 16, ca 1, C.y)]) [0, 1, 2, 3, 4, 5] rfl rfl (I1 := []) [] rfl rfl).more hb_95)
          clear hh_7 ht_9 hvm_9 hz_9 hk_9 hS_9 hb_91 hb_92 hb_93 hb_94 hb_95
          obtain ⟨hr_10b, hr_10p⟩ := hr_10
          have hr_10' := jb_01 hr_10b
          refine lv_if_eq (tgt := 39) hx hb dX13_hasBound_34 (by decide) (fun c_11 => ?_) (fun c_11 => ?_)
          · skip
            have c_11' : r_10.toInt = 0 := jb_eq (rfl) ((by decide)) c_11
            obtain ⟨z_12, ez_12⟩ : ∃ y : Int32, y = v2_3 + 1 := ⟨_, rfl⟩
            refine lv_iinc (v := z_12) (lv' := [(2, .int z_12), (0, .ref r0), (1, .int a1)]) hx hb dX13_hasBound_39 hl (k := 2) rfl (by rw [ez_12]; rfl) (by decide) rfl (fun ls hl => ?_)
            have hz_12 : z_12.toInt = v2_3.toInt + 1 := by rw [ez_12]; exact jb_iadd2 (rfl) (by decide) (by omega)
            refine lv_goto (tgt := 15) hx hb dX13_hasBound_42 (by decide) ?_
            exact L15 z_12 _ _ hh_9 (⟨(by first | omega | rfl | assumption | (rw [hk0]; exact jNbK_0 _ _ _) | (rw [show (z_12).toInt = v2_3.toInt + 1 by omega]; exact jNbK_s hi_3_2 (by rw [← hr_8]; exact hr_10p (by omega)))), (by first | omega | rfl | assumption | (rw [hk0]; exact jNbK_0 _ _ _) | (rw [show (z_12).toInt = v2_3.toInt + 1 by omega]; exact jNbK_s hi_3_2 (by rw [← hr_8]; exact hr_10p (by omega)))), (by first | assumption | (rw [hk0]; exact jNbK_0 _ _ _) | (rw [show (z_12).toInt = v2_3.toInt + 1 by omega]; exact jNbK_s hi_3_2 (by rw [← hr_8]; exact hr_10p (by omega))) | omega)⟩) (by omega) _ (lv_sub hl [1, 2, 0] rfl)
          · skip
            have c_11' : r_10.toInt ≠ 0 := jb_eq_n (rfl) ((by decide)) c_11
            refine lv_iconst (v := 1) hx hb dX13_hasBound_37 (by decide) ?_
            rw [hQ]
            exact W.zret (v := 1) hx hb hr (jb_nz (Or.inr rfl)) (fun t ht hW => ⟨⟨1, (), rfl, ⟨(Or.inr rfl), by intro h9; first | exact absurd h9 (by omega) | exact jNbF_mk (by omega) (by omega) (by rw [show jPts C a1.toInt = v2_3.toInt by omega]; exact hi_3_2)⟩, hh_9.rt (M1 := []) [] rfl ht⟩, by rw [ht]; try exact hh_9.1.1, fun q h9 hq => by rw [ht]; try exact hh_9.1.2.1 q h9 hq⟩) hh_9.1.2.2 dX13_hasBound_38
    exact L15 (3 - (0 : Int32).toInt : Int).toNat.succ 0 _ _ hh (⟨(by first | omega | rfl | assumption | (rw [hk0]; exact jNbK_0 _ _ _) | (rw [show (0).toInt = (zz_none).toInt + 1 by omega]; exact jNbK_s (zz_none) (by rw [← hr_8]; exact hr_10p (by omega)))), (by first | omega | rfl | assumption | (rw [hk0]; exact jNbK_0 _ _ _) | (rw [show (0).toInt = (zz_none).toInt + 1 by omega]; exact jNbK_s (zz_none) (by rw [← hr_8]; exact hr_10p (by omega)))), (by first | assumption | (rw [hk0]; exact jNbK_0 _ _ _) | (rw [show (0).toInt = (zz_none).toInt + 1 by omega]; exact jNbK_s (zz_none) (by rw [← hr_8]; exact hr_10p (by omega))) | omega)⟩) (by omega) _ (lv_sub hl [1, 2, 0] rfl)
  · skip
    have c_2' : z_1.toInt = 10 := jb_ne_n (rfl) ((by decide)) c_2
    refine lv_iconst (v := 1) hx hb dX13_hasBound_11 (by decide) ?_
    rw [hQ]
    exact W.zret (v := 1) hx hb hr (jb_nz (Or.inr rfl)) (fun t ht hW => ⟨⟨1, (), rfl, ⟨(Or.inr rfl), by intro h9; first | exact absurd h9 (by omega) | exact jNbF_mk (by omega) (by omega) (by rw [show jPts C a1.toInt = (zz_none).toInt by omega]; exact (zz_none))⟩, hh.rt (M1 := []) [] rfl ht⟩, by rw [ht]; try exact hh.1.1, fun q h9 hq => by rw [ht]; try exact hh.1.2.1 q h9 hq⟩) hh.1.2.2 dX13_hasBound_12
theorem aX13_hasBound (l : Launch) (dC : Nat → ClassId) (dI : Nat → Nat → Nat) (ca : Nat → ClassId) (base : Nat) (B : jF) (hB : jBok B) (hAp : jAp (dC, dI)) (hB15 : ∀ n G a H, B 15 n G a H ↔ jOb (dC, dI) 15 50 (F15 n G) a H) (hB150 : ∀ n G a H, B 150 n G a H ↔ jAr (dC, dI) (ca 1) (fun j z => True) n a H) (hB151 : ∀ n G a H, B 151 n G a H ↔ jAr (dC, dI) (ca 1) (fun j z => True) n a H) (hB152 : ∀ n G a H, B 152 n G a H ↔ jAr (dC, dI) (ca 1) (fun j z => True) n a H) (hB153 : ∀ n G a H, B 153 n G a H ↔ jAr (dC, dI) (ca 1) (fun j z => True) n a H) (hB154 : ∀ n G a H, B 154 n G a H ↔ jAr (dC, dI) (ca 1) (fun j z => True) n a H) (hB165 : ∀ n G a H, B 165 n G a H ↔ jAr (dC, dI) (ca 1) (fun j z => 0 ≤ z.toInt ∧ z.toInt ≤ 3) n a H) : ∀ ef, qX13_hasBound l dC dI ca base B ef := fun ef => Nat.strongRecOn ef (fun e ih => fun G0 H0 r0 a1 zs zn za zb zc zy C => uX13_hasBound l dC dI ca base B hB hAp hB15 hB150 hB151 hB152 hB153 hB154 hB165 e ih G0 H0 r0 a1 zs zn za zb zc zy C)
set_option maxHeartbeats 4000000 in
set_option maxRecDepth 20000 in
theorem uX13_countOf (l : Launch) (dC : Nat → ClassId) (dI : Nat → Nat → Nat) (ca : Nat → ClassId) (base : Nat) (B : jF) (hB : jBok B) (hAp : jAp (dC, dI)) (hB15 : ∀ n G a H, B 15 n G a H ↔ jOb (dC, dI) 15 50 (F15 n G) a H) (hB150 : ∀ n G a H, B 150 n G a H ↔ jAr (dC, dI) (ca 1) (fun j z => True) n a H) (hB151 : ∀ n G a H, B 151 n G a H ↔ jAr (dC, dI) (ca 1) (fun j z => True) n a H) (hB152 : ∀ n G a H, B 152 n G a H ↔ jAr (dC, dI) (ca 1) (fun j z => True) n a H) (hB153 : ∀ n G a H, B 153 n G a H ↔ jAr (dC, dI) (ca 1) (fun j z => True) n a H) (hB154 : ∀ n G a H, B 154 n G a H ↔ jAr (dC, dI) (ca 1) (fun j z => True) n a H) (hB165 : ∀ n G a H, B 165 n G a H ↔ jAr (dC, dI) (ca 1) (fun j z => 0 ≤ z.toInt ∧ z.toInt ≤ 3) n a H) (d : Nat) (ih : ∀ d1, d1 < d → qX13_countOf l dC dI ca base B d1) (G0 : jT) (H0 : Heap) (r0 : Nat) (a1 : Int32) (a2 : Int32) (zs : Nat) (zn : Nat) (za : Nat) (zb : Nat) (zc : Nat) (zy : Nat) (C : jK) : Met l yX13_countOf (jw yX13_countOf cX13_countOf 5 (some .int)) ({ frames := d + 90, cells := 0, slots := 0, locals := 60 * d + 6000 }) (va_Pc [.ref r0, .int a1, .int a2] (fun U => U.heap = H0 ∧ jX B base G0 [] H0 ∧ jG dC dI ca base U ∧ G0 r0 = some (15, 0) ∧ G0 zs = some (150, 120000) ∧ G0 zn = some (151, 120000) ∧ G0 za = some (152, 120000) ∧ G0 zb = some (153, 120000) ∧ G0 zc = some (154, 120000) ∧ G0 zy = some (165, 16) ∧ jP (dC, dI) G0 H0 [(r0, 15, 0, .ref zs), (r0, 15, 1, .ref zn), (r0, 15, 2, .ref za), (r0, 15, 3, .ref zb), (r0, 15, 4, .ref zc), (r0, 15, 14, .ref zy)] ∧ jMc (dC, dI) G0 H0 [(zs, 150, 120000, ca 1, C.s), (zn, 151, 120000, ca 1, C.n), (za, 152, 120000, ca 1, C.a), (zb, 153, 120000, ca 1, C.b), (zc, 154, 120000, ca 1, C.c), (zy, 165, 16, ca 1, C.y)] ∧ jTr C d a1.toInt ∧ d ≤ 80 ∧ jTr C 80 a2.toInt ∧ jsz C a1.toInt ≤ 1000000)) (va_Qi (S := Unit) (fun r u => (r.toInt = jCn C a2.toInt a1.toInt)) (fun u t => jRt (dC, dI) B base G0 EX13_countOf H0 [] t.heap) (jA base)) 0 0 (jA base) := by
  refine Met.ofW (cc := cX13_countOf) (maxL := 5) (ret := (some .int)) (by decide) rfl ?_
  intro p e s m args below meth c s₁ Bd hml hv
  obtain ⟨rfl, hH0, hX, hG, hg_r0, hg_zs, hg_zn, hg_za, hg_zb, hg_zc, hg_zy, hP0, hM0, hp0, hp1, hp2, hp3⟩ := hv
  have hK := hG.1
  have hx := Bd.exec
  have hb := Bd.bytes
  have hr := Bd.returns
  have hts := atoms_spec (ws := (jw yX13_countOf cX13_countOf 5 (some .int))) Bd.pre
  have htw : ∀ w ∈ jWl, w.before _ s = true := fun w h => hts w (List.mem_cons_of_mem _ h)
  have hown : s.vm.findClass RX13 = some m.cls := findClass_of_methodNamed Bd.named
  have hlocks := Bd.notSynchronized
  obtain ⟨Q, hQ⟩ : ∃ Q, Q = MQ below (va_Qi (S := Unit) (fun r u => (r.toInt = jCn C a2.toInt a1.toInt)) (fun u t => jRt (dC, dI) B base G0 EX13_countOf H0 [] t.heap) (jA base)) ([.ref r0, .int a1, .int a2] : List Value).toArray s 0 0 (jA base) := ⟨_, rfl⟩
  rw [← hQ]
  have hl := lv_entry ([.ref r0, .int a1, .int a2]) (n := 5) (Nat.le_of_ble_eq_true rfl)
  rw [lg_entry_eq]
  generalize (lg_sl ([.ref r0, .int a1, .int a2]) ++ List.replicate (5 - (lg_sl ([.ref r0, .int a1, .int a2])).length) Slot.unset).toArray = ls at hl ⊢
  have hl : lv_has ls 5 [(0, .ref r0), (1, .int a1), (2, .int a2)] := hl
  generalize hR : (headSpec (jw yX13_countOf cX13_countOf 5 (some .int)) ({ frames := d + 90, cells := 0, slots := 0, locals := 60 * d + 6000 })).room = R
  subst hH0
  have hh : jSt (dC, dI) B base G0 G0 EX13_countOf s.heap 0 0 [(r0, 15, 0, .ref zs), (r0, 15, 1, .ref zn), (r0, 15, 2, .ref za), (r0, 15, 3, .ref zb), (r0, 15, 4, .ref zc), (r0, 15, 14, .ref zy)] [(zs, 150, 120000, ca 1, C.s), (zn, 151, 120000, ca 1, C.n), (za, 152, 120000, ca 1, C.a), (zb, 153, 120000, ca 1, C.b), (zc, 154, 120000, ca 1, C.c), (zy, 165, 16, ca 1, C.y)] [] s.heap [] := jSt.start hX hP0 hM0 jIs.nil
  clear hX hP0
  have hk0 : (0 : Int32).toInt = 0 := by decide
  have hk1 : (1 : Int32).toInt = 1 := by decide
  have hrg_a1 := jb_rng a1
  have hrg_a2 := jb_rng a2
  obtain ⟨g1, g2, g3, g4, g5, g6, g7, g8⟩ := hp0.ok
  have hst := hp0.cn (t := a2.toInt) (by omega)
  refine lv_aload_n hx hb dX13_countOf_0 rfl (lv_at hl 0 rfl) ?_
  refine lv_iload_n hx hb dX13_countOf_1 rfl (lv_at hl 1 rfl) ?_
  refine lv_iload_n hx hb dX13_countOf_2 rfl (lv_at hl 2 rfl) ?_
  refine va_calli (A0 := jA base) (H0 := s.heap) (va_runV (As := [.int a1, .int a2]) (rest := []) ⟨hx, hb, hml, hown, hts⟩ (aX13_isSame l dC dI ca base B hB hAp hB15 hB150 hB151 hB152 hB153 hB154 hB165 80 G0 s.heap r0 a1 a2 zs zn za zb zc zy C) (cwV 2 hts (jgV (jWr_67 _ (List.mem_of_getElem? (i := 11) rfl)) (jWr_67 _ (List.mem_of_getElem? (i := 12) rfl)) (jWr_67 _ (List.mem_of_getElem? (i := 13) rfl)) (jWr_12 _ (List.mem_of_getElem? (i := 12) rfl)) (jWr_67 _ (List.mem_of_getElem? (i := 14) rfl))) rfl rfl rfl (by decide +kernel) ⟨by rw [← hR]; show (83) + 1 ≤ d + 90; omega, by rw [← hR]; show 8 + (5 + 11) + (3400) ≤ 60 * d + 6000; omega⟩) ⟨fun a U g mk q => by obtain ⟨q0, q1, q2, qK, q10, q11, q12, q13, q14, q15, q16, q17, q18, q19⟩ := q; exact ⟨q0, q1, q2, jG.calling g mk a qK, q10, q11, q12, q13, q14, q15, q16, q17, q18, q19⟩, hh.recv (C := RX13) (T := TX13) (N := 50) hB15 rfl (by decide) hg_r0 hK, fun U hU hW => ⟨rfl, hU, hh.2.1, hG.step hW hU hh.1, hg_r0, hg_zs, hg_zn, hg_za, hg_zb, hg_zc, hg_zy, (hh.2.2.1.sub (L1 := [(r0, 15, 0, .ref zs), (r0, 15, 1, .ref zn), (r0, 15, 2, .ref za), (r0, 15, 3, .ref zb), (r0, 15, 4, .ref zc), (r0, 15, 14, .ref zy)]) [0, 1, 2, 3, 4, 5] rfl), (hh.2.2.2.2.2.2.2.1.sub (L1 := [(zs, 150, 120000, ca 1, C.s), (zn, 151, 120000, ca 1, C.n), (za, 152, 120000, ca 1, C.a), (zb, 153, 120000, ca 1, C.b), (zc, 154, 120000, ca 1, C.c), (zy, 165, 16, ca 1, C.y)]) [0, 1, 2, 3, 4, 5] rfl), ⟨(by first | assumption | exact hp0.mono (by omega) | omega), (by first | assumption | exact hp0.mono (by omega) | omega), (by first | omega | rfl | assumption | exact hp0.mono (by omega))⟩⟩⟩ rfl rfl hl.1 rfl (lv_room (Nat.le_of_ble_eq_true rfl)) dX13_countOf_3 ⟨Nat.zero_le _, Nat.zero_le _⟩) hh.1 (fun q _ h => h) (fun q h => h) (fun r_2 u_1 t_1 H_1 locs_1 ht_1 hvm_1 hr_2 hb_1 hz_1 hk_1 hS_1 => ?_)
  rw [ht_1] at hb_1
  obtain ⟨hb_11, hb_12, hb_13, hb_14, hb_15⟩ := hb_1
  have hh_1 : jSt (dC, dI) B base G0 G0 EX13_countOf s.heap 0 0 [(r0, 15, 0, .ref zs), (r0, 15, 1, .ref zn), (r0, 15, 2, .ref za), (r0, 15, 3, .ref zb), (r0, 15, 4, .ref zc), (r0, 15, 14, .ref zy)] [(zs, 150, 120000, ca 1, C.s), (zn, 151, 120000, ca 1, C.n), (za, 152, 120000, ca 1, C.a), (zb, 153, 120000, ca 1, C.b), (zc, 154, 120000, ca 1, C.c), (zy, 165, 16, ca 1, C.y)] [] H_1 locs_1 := ((hh.call hb_11 hb_12 hb_13 hb_14 hS_1 rfl (L1 := [(r0, 15, 0, .ref zs), (r0, 15, 1, .ref zn), (r0, 15, 2, .ref za), (r0, 15, 3, .ref zb), (r0, 15, 4, .ref zc), (r0, 15, 14, .ref zy)]) [0, 1, 2, 3, 4, 5] rfl rfl (M1 := [(zs, 150, 120000, ca 1, C.s), (zn, 151, 120000, ca 1, C.n), (za, 152, 120000, ca 1, C.a), (zb, 153, 120000, ca 1, C.b), (zc, 154, 120000, ca 1, C.c), (zy, 165, 16, ca 1, C.y)]) [0, 1, 2, 3, 4, 5] rfl rfl (I1 := []) [] rfl rfl).more hb_15)
  clear hh ht_1 hvm_1 hz_1 hk_1 hS_1 hb_11 hb_12 hb_13 hb_14 hb_15
  obtain ⟨hr_2b, hr_2p⟩ := hr_2
  have hr_2' := jb_01 hr_2b
  refine lv_if_eq (tgt := 11) hx hb dX13_countOf_6 (by decide) (fun c_3 => ?_) (fun c_3 => ?_)
  · skip
    have c_3' : r_2.toInt = 0 := jb_eq (rfl) ((by decide)) c_3
    refine lv_iconst (v := 0) hx hb dX13_countOf_11 (by decide) ?_
    refine lv_istore_n (lv' := [(3, .int 0), (0, .ref r0), (1, .int a1), (2, .int a2)]) hx hb dX13_countOf_12 rfl hl (by decide) rfl (fun ls hl => ?_)
    refine lv_iconst (v := 0) hx hb dX13_countOf_13 (by decide) ?_
    refine lv_istore (lv' := [(4, .int 0), (3, .int 0), (0, .ref r0), (1, .int a1), (2, .int a2)]) hx hb dX13_countOf_14 hl (by decide) rfl (fun ls hl => ?_)
    have L16 : ∀ (N : Nat) (v3_4 : Int32) (v4_4 : Int32) (H_4 : Heap) (locs_4 : List Loc), jSt (dC, dI) B base G0 G0 EX13_countOf s.heap 0 0 [(r0, 15, 0, .ref zs), (r0, 15, 1, .ref zn), (r0, 15, 2, .ref za), (r0, 15, 3, .ref zb), (r0, 15, 4, .ref zc), (r0, 15, 14, .ref zy)] [(zs, 150, 120000, ca 1, C.s), (zn, 151, 120000, ca 1, C.n), (za, 152, 120000, ca 1, C.a), (zb, 153, 120000, ca 1, C.b), (zc, 154, 120000, ca 1, C.c), (zy, 165, 16, ca 1, C.y)] [] H_4 locs_4 → (0 ≤ v4_4.toInt ∧ v4_4.toInt ≤ jPts C a1.toInt ∧ v3_4.toInt = jCnK C a2.toInt a1.toInt v4_4.toInt) → (3 - v4_4.toInt : Int) < N → ∀ ls : Array Slot, lv_has ls 5 [(0, .ref r0), (1, .int a1), (2, .int a2), (3, .int v3_4), (4, .int v4_4)] → W p l e R s m ([.ref r0, .int a1, .int a2] : List Value).toArray below meth c H_4 locs_4 0 0 Q (F0 m 16 ls []) := by
      intro N
      induction N with
      | zero => intro v3_4 v4_4 H_4 locs_4 hh_4  hi_4 hm; exact absurd hm (by omega)
      | succ N L16 =>
        intro v3_4 v4_4 H_4 locs_4 hh_4  hi_4 hm_4 ls hl
        obtain ⟨hi_4_0, hi_4_1, hi_4_2⟩ := hi_4
        refine lv_iload hx hb dX13_countOf_16 (lv_at hl 4 rfl) ?_
        refine lv_aload_n hx hb dX13_countOf_18 rfl (lv_at hl 0 rfl) ?_
        refine lv_iload_n hx hb dX13_countOf_19 rfl (lv_at hl 1 rfl) ?_
        refine va_calli (A0 := jA base) (H0 := s.heap) (va_runV (As := [.int a1]) (rest := [.int v4_4]) ⟨hx, hb, hml, hown, hts⟩ (uX13_parts l dC dI ca base B hB hAp hB15 hB150 hB151 hB152 hB153 hB154 hB165 G0 H_4 r0 a1 zs zn za zb zc zy C) (cwV 1 hts (jgV (jWr_65 _ (List.mem_of_getElem? (i := 15) rfl)) (jWr_65 _ (List.mem_of_getElem? (i := 16) rfl)) (jWr_65 _ (List.mem_of_getElem? (i := 17) rfl)) (jWr_12 _ (List.mem_of_getElem? (i := 12) rfl)) (jWr_65 _ (List.mem_of_getElem? (i := 18) rfl))) rfl rfl rfl (by decide +kernel) ⟨by rw [← hR]; show (0) + 1 ≤ d + 90; omega, by rw [← hR]; show 8 + (3 + 11) + (0) ≤ 60 * d + 6000; omega⟩) ⟨fun a U g mk q => by obtain ⟨q0, q1, q2, qK, q10, q11, q12, q13, q14, q15, q16, q17, q18, q19⟩ := q; exact ⟨q0, q1, q2, jG.calling g mk a qK, q10, q11, q12, q13, q14, q15, q16, q17, q18, q19⟩, hh_4.recv (C := RX13) (T := TX13) (N := 50) hB15 rfl (by decide) hg_r0 hK, fun U hU hW => ⟨rfl, hU, hh_4.2.1, hG.step hW hU hh_4.1, hg_r0, hg_zs, hg_zn, hg_za, hg_zb, hg_zc, hg_zy, (hh_4.2.2.1.sub (L1 := [(r0, 15, 0, .ref zs), (r0, 15, 1, .ref zn), (r0, 15, 2, .ref za), (r0, 15, 3, .ref zb), (r0, 15, 4, .ref zc), (r0, 15, 14, .ref zy)]) [0, 1, 2, 3, 4, 5] rfl), (hh_4.2.2.2.2.2.2.2.1.sub (L1 := [(zs, 150, 120000, ca 1, C.s), (zn, 151, 120000, ca 1, C.n), (za, 152, 120000, ca 1, C.a), (zb, 153, 120000, ca 1, C.b), (zc, 154, 120000, ca 1, C.c), (zy, 165, 16, ca 1, C.y)]) [0, 1, 2, 3, 4, 5] rfl), by first | omega | (refine ⟨?_, ?_, ?_⟩ <;> (first | omega | rfl | assumption | decide | exact Or.inl rfl | exact Or.inr rfl | (simp only; omega)))⟩⟩ rfl rfl hl.1 rfl (lv_room (Nat.le_of_ble_eq_true rfl)) dX13_countOf_20 ⟨Nat.zero_le _, Nat.zero_le _⟩) hh_4.1 (fun q _ h => h) (fun q h => h) (fun r_6 u_5 t_5 H_5 locs_5 ht_5 hvm_5 hr_6 hb_5 hz_5 hk_5 hS_5 => ?_)
        rw [ht_5] at hb_5
        obtain ⟨hb_51, hb_52, hb_53, hb_54, hb_55⟩ := hb_5
        have hh_5 : jSt (dC, dI) B base G0 G0 EX13_countOf s.heap 0 0 [(r0, 15, 0, .ref zs), (r0, 15, 1, .ref zn), (r0, 15, 2, .ref za), (r0, 15, 3, .ref zb), (r0, 15, 4, .ref zc), (r0, 15, 14, .ref zy)] [(zs, 150, 120000, ca 1, C.s), (zn, 151, 120000, ca 1, C.n), (za, 152, 120000, ca 1, C.a), (zb, 153, 120000, ca 1, C.b), (zc, 154, 120000, ca 1, C.c), (zy, 165, 16, ca 1, C.y)] [] H_5 locs_5 := ((hh_4.call hb_51 hb_52 hb_53 hb_54 hS_5 rfl (L1 := [(r0, 15, 0, .ref zs), (r0, 15, 1, .ref zn), (r0, 15, 2, .ref za), (r0, 15, 3, .ref zb), (r0, 15, 4, .ref zc), (r0, 15, 14, .ref zy)]) [0, 1, 2, 3, 4, 5] rfl rfl (M1 := [(zs, 150, 120000, ca 1, C.s), (zn, 151, 120000, ca 1, C.n), (za, 152, 120000, ca 1, C.a), (zb, 153, 120000, ca 1, C.b), (zc, 154, 120000, ca 1, C.c), (zy, 165, 16, ca 1, C.y)]) [0, 1, 2, 3, 4, 5] rfl rfl (I1 := []) [] rfl rfl).more hb_55)
        clear hh_4 ht_5 hvm_5 hz_5 hk_5 hS_5 hb_51 hb_52 hb_53 hb_54 hb_55
        obtain ⟨hr_6_0, hr_6_1, hr_6_2⟩ := hr_6
        refine lv_icmp_ge (tgt := 47) hx hb dX13_countOf_23 (by decide) (fun c_7 => ?_) (fun c_7 => ?_)
        · skip
          have c_7' : v4_4.toInt ≥ r_6.toInt := jb_ge (rfl) (rfl) c_7
          refine lv_iload_n hx hb dX13_countOf_47 rfl (lv_at hl 3 rfl) ?_
          rw [hQ]
          exact W.iret (v := v3_4) hx hb hr (fun t ht hW => ⟨⟨v3_4, (), rfl, by rw [hst]; first | (rw [if_pos (by omega)]; exact hk1) | (rw [if_neg (by omega), show jPts C a1.toInt = v4_4.toInt by omega]; omega), hh_5.rt (M1 := []) [] rfl ht⟩, by rw [ht]; try exact hh_5.1.1, fun q h9 hq => by rw [ht]; try exact hh_5.1.2.1 q h9 hq⟩) hh_5.1.2.2 dX13_countOf_48
        · skip
          have c_7' : v4_4.toInt < r_6.toInt := jb_ge_n (rfl) (rfl) c_7
          refine lv_iload_n hx hb dX13_countOf_26 rfl (lv_at hl 3 rfl) ?_
          refine lv_aload_n hx hb dX13_countOf_27 rfl (lv_at hl 0 rfl) ?_
          refine lv_aload_n hx hb dX13_countOf_28 rfl (lv_at hl 0 rfl) ?_
          refine lv_iload_n hx hb dX13_countOf_29 rfl (lv_at hl 1 rfl) ?_
          refine lv_iload hx hb dX13_countOf_30 (lv_at hl 4 rfl) ?_
          refine va_calli (A0 := jA base) (H0 := s.heap) (va_runV (As := [.int a1, .int v4_4]) (rest := [.ref r0, .int v3_4]) ⟨hx, hb, hml, hown, hts⟩ (uX13_partK l dC dI ca base B hB hAp hB15 hB150 hB151 hB152 hB153 hB154 hB165 G0 H_5 r0 a1 v4_4 zs zn za zb zc zy C) (cwV 2 hts (jgV (jWr_65 _ (List.mem_of_getElem? (i := 19) rfl)) (jWr_65 _ (List.mem_of_getElem? (i := 20) rfl)) (jWr_65 _ (List.mem_of_getElem? (i := 21) rfl)) (jWr_12 _ (List.mem_of_getElem? (i := 12) rfl)) (jWr_65 _ (List.mem_of_getElem? (i := 22) rfl))) rfl rfl rfl (by decide +kernel) ⟨by rw [← hR]; show (0) + 1 ≤ d + 90; omega, by rw [← hR]; show 8 + (3 + 11) + (0) ≤ 60 * d + 6000; omega⟩) ⟨fun a U g mk q => by obtain ⟨q0, q1, q2, qK, q10, q11, q12, q13, q14, q15, q16, q17, q18, q19⟩ := q; exact ⟨q0, q1, q2, jG.calling g mk a qK, q10, q11, q12, q13, q14, q15, q16, q17, q18, q19⟩, hh_5.recv (C := RX13) (T := TX13) (N := 50) hB15 rfl (by decide) hg_r0 hK, fun U hU hW => ⟨rfl, hU, hh_5.2.1, hG.step hW hU hh_5.1, hg_r0, hg_zs, hg_zn, hg_za, hg_zb, hg_zc, hg_zy, (hh_5.2.2.1.sub (L1 := [(r0, 15, 0, .ref zs), (r0, 15, 1, .ref zn), (r0, 15, 2, .ref za), (r0, 15, 3, .ref zb), (r0, 15, 4, .ref zc), (r0, 15, 14, .ref zy)]) [0, 1, 2, 3, 4, 5] rfl), (hh_5.2.2.2.2.2.2.2.1.sub (L1 := [(zs, 150, 120000, ca 1, C.s), (zn, 151, 120000, ca 1, C.n), (za, 152, 120000, ca 1, C.a), (zb, 153, 120000, ca 1, C.b), (zc, 154, 120000, ca 1, C.c), (zy, 165, 16, ca 1, C.y)]) [0, 1, 2, 3, 4, 5] rfl), by first | omega | (refine ⟨?_, ?_⟩ <;> (first | omega | rfl | assumption | decide | exact Or.inl rfl | exact Or.inr rfl | (simp only; omega)))⟩⟩ rfl rfl hl.1 rfl (lv_room (Nat.le_of_ble_eq_true rfl)) dX13_countOf_32 ⟨Nat.zero_le _, Nat.zero_le _⟩) hh_5.1 (fun q _ h => h) (fun q h => h) (fun r_9 u_8 t_8 H_8 locs_8 ht_8 hvm_8 hr_9 hb_8 hz_8 hk_8 hS_8 => ?_)
          rw [ht_8] at hb_8
          obtain ⟨hb_81, hb_82, hb_83, hb_84, hb_85⟩ := hb_8
          have hh_8 : jSt (dC, dI) B base G0 G0 EX13_countOf s.heap 0 0 [(r0, 15, 0, .ref zs), (r0, 15, 1, .ref zn), (r0, 15, 2, .ref za), (r0, 15, 3, .ref zb), (r0, 15, 4, .ref zc), (r0, 15, 14, .ref zy)] [(zs, 150, 120000, ca 1, C.s), (zn, 151, 120000, ca 1, C.n), (za, 152, 120000, ca 1, C.a), (zb, 153, 120000, ca 1, C.b), (zc, 154, 120000, ca 1, C.c), (zy, 165, 16, ca 1, C.y)] [] H_8 locs_8 := ((hh_5.call hb_81 hb_82 hb_83 hb_84 hS_8 rfl (L1 := [(r0, 15, 0, .ref zs), (r0, 15, 1, .ref zn), (r0, 15, 2, .ref za), (r0, 15, 3, .ref zb), (r0, 15, 4, .ref zc), (r0, 15, 14, .ref zy)]) [0, 1, 2, 3, 4, 5] rfl rfl (M1 := [(zs, 150, 120000, ca 1, C.s), (zn, 151, 120000, ca 1, C.n), (za, 152, 120000, ca 1, C.a), (zb, 153, 120000, ca 1, C.b), (zc, 154, 120000, ca 1, C.c), (zy, 165, 16, ca 1, C.y)]) [0, 1, 2, 3, 4, 5] rfl rfl (I1 := []) [] rfl rfl).more hb_85)
          clear hh_5 ht_8 hvm_8 hz_8 hk_8 hS_8 hb_81 hb_82 hb_83 hb_84 hb_85
          refine lv_iload_n hx hb dX13_countOf_35 rfl (lv_at hl 2 rfl) ?_
          refine va_calli (A0 := jA base) (H0 := s.heap) (va_runV (As := [.int r_9, .int a2]) (rest := [.int v3_4]) ⟨hx, hb, hml, hown, hts⟩ (ih (d - 1) (by omega) G0 H_8 r0 r_9 a2 zs zn za zb zc zy C) (cwV 2 hts (jgV (jWr_69 _ (List.mem_of_getElem? (i := 3) rfl)) (jWr_69 _ (List.mem_of_getElem? (i := 4) rfl)) (jWr_69 _ (List.mem_of_getElem? (i := 5) rfl)) (jWr_12 _ (List.mem_of_getElem? (i := 12) rfl)) (jWr_69 _ (List.mem_of_getElem? (i := 6) rfl))) rfl rfl rfl (by decide +kernel) ⟨by rw [← hR]; show (d - 1 + 90) + 1 ≤ d + 90; omega, by rw [← hR]; show 8 + (5 + 11) + (60 * (d - 1) + 6000) ≤ 60 * d + 6000; omega⟩) ⟨fun a U g mk q => by obtain ⟨q0, q1, q2, qK, q10, q11, q12, q13, q14, q15, q16, q17, q18, q19⟩ := q; exact ⟨q0, q1, q2, jG.calling g mk a qK, q10, q11, q12, q13, q14, q15, q16, q17, q18, q19⟩, hh_8.recv (C := RX13) (T := TX13) (N := 50) hB15 rfl (by decide) hg_r0 hK, fun U hU hW => ⟨rfl, hU, hh_8.2.1, hG.step hW hU hh_8.1, hg_r0, hg_zs, hg_zn, hg_za, hg_zb, hg_zc, hg_zy, (hh_8.2.2.1.sub (L1 := [(r0, 15, 0, .ref zs), (r0, 15, 1, .ref zn), (r0, 15, 2, .ref za), (r0, 15, 3, .ref zb), (r0, 15, 4, .ref zc), (r0, 15, 14, .ref zy)]) [0, 1, 2, 3, 4, 5] rfl), (hh_8.2.2.2.2.2.2.2.1.sub (L1 := [(zs, 150, 120000, ca 1, C.s), (zn, 151, 120000, ca 1, C.n), (za, 152, 120000, ca 1, C.a), (zb, 153, 120000, ca 1, C.b), (zc, 154, 120000, ca 1, C.c), (zy, 165, 16, ca 1, C.y)]) [0, 1, 2, 3, 4, 5] rfl), ⟨(by first | assumption | (rw [hr_9]; exact hp0.part (by omega) (by omega)) | (rw [hr_9]; have h9 := hp0.szp (by omega) (k := v4_4.toInt) (by omega) (by omega); omega) | omega), (by first | omega | rfl | assumption | (rw [hr_9]; exact hp0.part (by omega) (by omega)) | (rw [hr_9]; have h9 := hp0.szp (by omega) (k := v4_4.toInt) (by omega) (by omega); omega)), (by first | assumption | (rw [hr_9]; exact hp0.part (by omega) (by omega)) | (rw [hr_9]; have h9 := hp0.szp (by omega) (k := v4_4.toInt) (by omega) (by omega); omega) | omega), (by first | omega | rfl | assumption | (rw [hr_9]; exact hp0.part (by omega) (by omega)) | (rw [hr_9]; have h9 := hp0.szp (by omega) (k := v4_4.toInt) (by omega) (by omega); omega))⟩⟩⟩ rfl rfl hl.1 rfl (lv_room (Nat.le_of_ble_eq_true rfl)) dX13_countOf_36 ⟨Nat.zero_le _, Nat.zero_le _⟩) hh_8.1 (fun q _ h => h) (fun q h => h) (fun r_11 u_10 t_10 H_10 locs_10 ht_10 hvm_10 hr_11 hb_10 hz_10 hk_10 hS_10 => ?_)
          rw [ht_10] at hb_10
          obtain ⟨hb_101, hb_102, hb_103, hb_104, hb_105⟩ := hb_10
          have hh_10 : jSt (dC, dI) B base G0 G0 EX13_countOf s.heap 0 0 [(r0, 15, 0, .ref zs), (r0, 15, 1, .ref zn), (r0, 15, 2, .ref za), (r0, 15, 3, .ref zb), (r0, 15, 4, .ref zc), (r0, 15, 14, .ref zy)] [(zs, 150, 120000, ca 1, C.s), (zn, 151, 120000, ca 1, C.n), (za, 152, 120000, ca 1, C.a), (zb, 153, 120000, ca 1, C.b), (zc, 154, 120000, ca 1, C.c), (zy, 165, 16, ca 1, C.y)] [] H_10 locs_10 := ((hh_8.call hb_101 hb_102 hb_103 hb_104 hS_10 rfl (L1 := [(r0, 15, 0, .ref zs), (r0, 15, 1, .ref zn), (r0, 15, 2, .ref za), (r0, 15, 3, .ref zb), (r0, 15, 4, .ref zc), (r0, 15, 14, .ref zy)]) [0, 1, 2, 3, 4, 5] rfl rfl (M1 := [(zs, 150, 120000, ca 1, C.s), (zn, 151, 120000, ca 1, C.n), (za, 152, 120000, ca 1, C.a), (zb, 153, 120000, ca 1, C.b), (zc, 154, 120000, ca 1, C.c), (zy, 165, 16, ca 1, C.y)]) [0, 1, 2, 3, 4, 5] rfl rfl (I1 := []) [] rfl rfl).more hb_105)
          clear hh_8 ht_10 hvm_10 hz_10 hk_10 hS_10 hb_101 hb_102 hb_103 hb_104 hb_105
          rw [hr_9] at hr_11
          have hs1 := jCnK_s C a2.toInt a1.toInt (k := v4_4.toInt) (by omega) (by omega)
          have hs2 := hp0.cnk (t := a2.toInt) (k := v4_4.toInt + 1) (by omega) (by omega)
          have hs3 := hp0.cnk (t := a2.toInt) (k := v4_4.toInt) (by omega) (by omega)
          have hs4 := jCn_nn C a2.toInt (jPr C a1.toInt v4_4.toInt)
          refine lv_iadd hx hb dX13_countOf_39 ?_
          refine lv_topi (fun z_12 ez_12 => ?_)
          have hz_12 : z_12.toInt = v3_4.toInt + r_11.toInt := by rw [ez_12]; exact jb_iadd2 (rfl) (rfl) (by omega)
          refine lv_istore_n (lv' := [(3, .int z_12), (0, .ref r0), (1, .int a1), (2, .int a2), (4, .int v4_4)]) hx hb dX13_countOf_40 rfl hl (by decide) rfl (fun ls hl => ?_)
          obtain ⟨z_13, ez_13⟩ : ∃ y : Int32, y = v4_4 + 1 := ⟨_, rfl⟩
          refine lv_iinc (v := z_13) (lv' := [(4, .int z_13), (3, .int z_12), (0, .ref r0), (1, .int a1), (2, .int a2)]) hx hb dX13_countOf_41 hl (k := 4) rfl (by rw [ez_13]; rfl) (by decide) rfl (fun ls hl => ?_)
          have hz_13 : z_13.toInt = v4_4.toInt + 1 := by rw [ez_13]; exact jb_iadd2 (rfl) (by decide) (by omega)
          refine lv_goto (tgt := 16) hx hb dX13_countOf_44 (by decide) ?_
          exact L16 z_12 z_13 _ _ hh_10 (⟨(by first | omega | rfl | assumption | (rw [hk0, jCnK_0]) | (rw [show (z_13).toInt = v4_4.toInt + 1 by omega]; omega)), (by first | omega | rfl | assumption | (rw [hk0, jCnK_0]) | (rw [show (z_13).toInt = v4_4.toInt + 1 by omega]; omega)), (by first | omega | rfl | assumption | (rw [hk0, jCnK_0]) | (rw [show (z_13).toInt = v4_4.toInt + 1 by omega]; omega))⟩) (by omega) _ (lv_sub hl [2, 3, 4, 1, 0] rfl)
    exact L16 (3 - (0 : Int32).toInt : Int).toNat.succ 0 0 _ _ hh_1 (⟨(by first | omega | rfl | assumption | (rw [hk0, jCnK_0]) | (rw [show (0).toInt = (zz_none).toInt + 1 by omega]; omega)), (by first | omega | rfl | assumption | (rw [hk0, jCnK_0]) | (rw [show (0).toInt = (zz_none).toInt + 1 by omega]; omega)), (by first | omega | rfl | assumption | (rw [hk0, jCnK_0]) | (rw [show (0).toInt = (zz_none).toInt + 1 by omega]; omega))⟩) (by omega) _ (lv_sub hl [2, 3, 4, 1, 0] rfl)
  · skip
    have c_3' : r_2.toInt ≠ 0 := jb_eq_n (rfl) ((by decide)) c_3
    refine lv_iconst (v := 1) hx hb dX13_countOf_9 (by decide) ?_
    rw [hQ]
    exact W.iret (v := 1) hx hb hr (fun t ht hW => ⟨⟨1, (), rfl, by rw [hst]; first | (rw [if_pos (by omega)]; exact hk1) | (rw [if_neg (by omega), show jPts C a1.toInt = (zz_none).toInt by omega]; omega), hh_1.rt (M1 := []) [] rfl ht⟩, by rw [ht]; try exact hh_1.1.1, fun q h9 hq => by rw [ht]; try exact hh_1.1.2.1 q h9 hq⟩) hh_1.1.2.2 dX13_countOf_10
theorem aX13_countOf (l : Launch) (dC : Nat → ClassId) (dI : Nat → Nat → Nat) (ca : Nat → ClassId) (base : Nat) (B : jF) (hB : jBok B) (hAp : jAp (dC, dI)) (hB15 : ∀ n G a H, B 15 n G a H ↔ jOb (dC, dI) 15 50 (F15 n G) a H) (hB150 : ∀ n G a H, B 150 n G a H ↔ jAr (dC, dI) (ca 1) (fun j z => True) n a H) (hB151 : ∀ n G a H, B 151 n G a H ↔ jAr (dC, dI) (ca 1) (fun j z => True) n a H) (hB152 : ∀ n G a H, B 152 n G a H ↔ jAr (dC, dI) (ca 1) (fun j z => True) n a H) (hB153 : ∀ n G a H, B 153 n G a H ↔ jAr (dC, dI) (ca 1) (fun j z => True) n a H) (hB154 : ∀ n G a H, B 154 n G a H ↔ jAr (dC, dI) (ca 1) (fun j z => True) n a H) (hB165 : ∀ n G a H, B 165 n G a H ↔ jAr (dC, dI) (ca 1) (fun j z => 0 ≤ z.toInt ∧ z.toInt ≤ 3) n a H) : ∀ ef, qX13_countOf l dC dI ca base B ef := fun ef => Nat.strongRecOn ef (fun e ih => fun G0 H0 r0 a1 a2 zs zn za zb zc zy C => uX13_countOf l dC dI ca base B hB hAp hB15 hB150 hB151 hB152 hB153 hB154 hB165 e ih G0 H0 r0 a1 a2 zs zn za zb zc zy C)
end
section
theorem dX13_sizeWith_0 : decode cX13_sizeWith 0 = .ok (.aload_n 0, 1) := by decide +kernel
theorem dX13_sizeWith_1 : decode cX13_sizeWith 1 = .ok (.getfield 12, 3) := by decide +kernel
theorem dX13_sizeWith_4 : decode cX13_sizeWith 4 = .ok (.iload_n 1, 1) := by decide +kernel
theorem dX13_sizeWith_5 : decode cX13_sizeWith 5 = .ok (.iaload, 1) := by decide +kernel
theorem dX13_sizeWith_6 : decode cX13_sizeWith 6 = .ok (.bipush 10, 2) := by decide +kernel
theorem dX13_sizeWith_8 : decode cX13_sizeWith 8 = .ok (.if_icmp .ne 46, 3) := by decide +kernel
theorem dX13_sizeWith_11 : decode cX13_sizeWith 11 = .ok (.aload_n 0, 1) := by decide +kernel
theorem dX13_sizeWith_12 : decode cX13_sizeWith 12 = .ok (.getfield 16, 3) := by decide +kernel
theorem dX13_sizeWith_15 : decode cX13_sizeWith 15 = .ok (.iload_n 1, 1) := by decide +kernel
theorem dX13_sizeWith_16 : decode cX13_sizeWith 16 = .ok (.iaload, 1) := by decide +kernel
theorem dX13_sizeWith_17 : decode cX13_sizeWith 17 = .ok (.iload_n 2, 1) := by decide +kernel
theorem dX13_sizeWith_18 : decode cX13_sizeWith 18 = .ok (.if_icmp .lt 36, 3) := by decide +kernel
theorem dX13_sizeWith_21 : decode cX13_sizeWith 21 = .ok (.aload_n 0, 1) := by decide +kernel
theorem dX13_sizeWith_22 : decode cX13_sizeWith 22 = .ok (.getfield 16, 3) := by decide +kernel
theorem dX13_sizeWith_25 : decode cX13_sizeWith 25 = .ok (.iload_n 1, 1) := by decide +kernel
theorem dX13_sizeWith_26 : decode cX13_sizeWith 26 = .ok (.iaload, 1) := by decide +kernel
theorem dX13_sizeWith_27 : decode cX13_sizeWith 27 = .ok (.iload_n 2, 1) := by decide +kernel
theorem dX13_sizeWith_28 : decode cX13_sizeWith 28 = .ok (.iload 4, 2) := by decide +kernel
theorem dX13_sizeWith_30 : decode cX13_sizeWith 30 = .ok (.iadd, 1) := by decide +kernel
theorem dX13_sizeWith_31 : decode cX13_sizeWith 31 = .ok (.if_icmp .ge 23, 3) := by decide +kernel
theorem dX13_sizeWith_34 : decode cX13_sizeWith 34 = .ok (.aload_n 0, 1) := by decide +kernel
theorem dX13_sizeWith_35 : decode cX13_sizeWith 35 = .ok (.aload_n 3, 1) := by decide +kernel
theorem dX13_sizeWith_36 : decode cX13_sizeWith 36 = .ok (.iload 4, 2) := by decide +kernel
theorem dX13_sizeWith_38 : decode cX13_sizeWith 38 = .ok (.iconst 1, 1) := by decide +kernel
theorem dX13_sizeWith_39 : decode cX13_sizeWith 39 = .ok (.isub, 1) := by decide +kernel
theorem dX13_sizeWith_40 : decode cX13_sizeWith 40 = .ok (.aload_n 0, 1) := by decide +kernel
theorem dX13_sizeWith_41 : decode cX13_sizeWith 41 = .ok (.getfield 16, 3) := by decide +kernel
theorem dX13_sizeWith_44 : decode cX13_sizeWith 44 = .ok (.iload_n 1, 1) := by decide +kernel
theorem dX13_sizeWith_45 : decode cX13_sizeWith 45 = .ok (.iaload, 1) := by decide +kernel
theorem dX13_sizeWith_46 : decode cX13_sizeWith 46 = .ok (.isub, 1) := by decide +kernel
theorem dX13_sizeWith_47 : decode cX13_sizeWith 47 = .ok (.iload_n 2, 1) := by decide +kernel
theorem dX13_sizeWith_48 : decode cX13_sizeWith 48 = .ok (.iadd, 1) := by decide +kernel
theorem dX13_sizeWith_49 : decode cX13_sizeWith 49 = .ok (.iaload, 1) := by decide +kernel
theorem dX13_sizeWith_50 : decode cX13_sizeWith 50 = .ok (.invokevirtual 259, 3) := by decide +kernel
theorem dX13_sizeWith_53 : decode cX13_sizeWith 53 = .ok (.ireturn, 1) := by decide +kernel
theorem dX13_sizeWith_54 : decode cX13_sizeWith 54 = .ok (.iconst 1, 1) := by decide +kernel
theorem dX13_sizeWith_55 : decode cX13_sizeWith 55 = .ok (.istore 5, 2) := by decide +kernel
theorem dX13_sizeWith_57 : decode cX13_sizeWith 57 = .ok (.aload_n 0, 1) := by decide +kernel
theorem dX13_sizeWith_58 : decode cX13_sizeWith 58 = .ok (.getfield 12, 3) := by decide +kernel
theorem dX13_sizeWith_61 : decode cX13_sizeWith 61 = .ok (.iload_n 1, 1) := by decide +kernel
theorem dX13_sizeWith_62 : decode cX13_sizeWith 62 = .ok (.iaload, 1) := by decide +kernel
theorem dX13_sizeWith_63 : decode cX13_sizeWith 63 = .ok (.iconst 4, 1) := by decide +kernel
theorem dX13_sizeWith_64 : decode cX13_sizeWith 64 = .ok (.if_icmp .eq 13, 3) := by decide +kernel
theorem dX13_sizeWith_67 : decode cX13_sizeWith 67 = .ok (.aload_n 0, 1) := by decide +kernel
theorem dX13_sizeWith_68 : decode cX13_sizeWith 68 = .ok (.getfield 12, 3) := by decide +kernel
theorem dX13_sizeWith_71 : decode cX13_sizeWith 71 = .ok (.iload_n 1, 1) := by decide +kernel
theorem dX13_sizeWith_72 : decode cX13_sizeWith 72 = .ok (.iaload, 1) := by decide +kernel
theorem dX13_sizeWith_73 : decode cX13_sizeWith 73 = .ok (.iconst 5, 1) := by decide +kernel
theorem dX13_sizeWith_74 : decode cX13_sizeWith 74 = .ok (.if_icmp .ne 9, 3) := by decide +kernel
theorem dX13_sizeWith_77 : decode cX13_sizeWith 77 = .ok (.iload_n 2, 1) := by decide +kernel
theorem dX13_sizeWith_78 : decode cX13_sizeWith 78 = .ok (.iconst 1, 1) := by decide +kernel
theorem dX13_sizeWith_79 : decode cX13_sizeWith 79 = .ok (.iadd, 1) := by decide +kernel
theorem dX13_sizeWith_80 : decode cX13_sizeWith 80 = .ok (.goto 4, 3) := by decide +kernel
theorem dX13_sizeWith_83 : decode cX13_sizeWith 83 = .ok (.iload_n 2, 1) := by decide +kernel
theorem dX13_sizeWith_84 : decode cX13_sizeWith 84 = .ok (.istore 6, 2) := by decide +kernel
theorem dX13_sizeWith_86 : decode cX13_sizeWith 86 = .ok (.iconst 0, 1) := by decide +kernel
theorem dX13_sizeWith_87 : decode cX13_sizeWith 87 = .ok (.istore 7, 2) := by decide +kernel
theorem dX13_sizeWith_89 : decode cX13_sizeWith 89 = .ok (.iload 7, 2) := by decide +kernel
theorem dX13_sizeWith_91 : decode cX13_sizeWith 91 = .ok (.aload_n 0, 1) := by decide +kernel
theorem dX13_sizeWith_92 : decode cX13_sizeWith 92 = .ok (.iload_n 1, 1) := by decide +kernel
theorem dX13_sizeWith_93 : decode cX13_sizeWith 93 = .ok (.invokevirtual 252, 3) := by decide +kernel
theorem dX13_sizeWith_96 : decode cX13_sizeWith 96 = .ok (.if_icmp .ge 30, 3) := by decide +kernel
theorem dX13_sizeWith_99 : decode cX13_sizeWith 99 = .ok (.iload 5, 2) := by decide +kernel
theorem dX13_sizeWith_101 : decode cX13_sizeWith 101 = .ok (.aload_n 0, 1) := by decide +kernel
theorem dX13_sizeWith_102 : decode cX13_sizeWith 102 = .ok (.aload_n 0, 1) := by decide +kernel
theorem dX13_sizeWith_103 : decode cX13_sizeWith 103 = .ok (.iload_n 1, 1) := by decide +kernel
theorem dX13_sizeWith_104 : decode cX13_sizeWith 104 = .ok (.iload 7, 2) := by decide +kernel
theorem dX13_sizeWith_106 : decode cX13_sizeWith 106 = .ok (.invokevirtual 255, 3) := by decide +kernel
theorem dX13_sizeWith_109 : decode cX13_sizeWith 109 = .ok (.iload 6, 2) := by decide +kernel
theorem dX13_sizeWith_111 : decode cX13_sizeWith 111 = .ok (.aload_n 3, 1) := by decide +kernel
theorem dX13_sizeWith_112 : decode cX13_sizeWith 112 = .ok (.iload 4, 2) := by decide +kernel
theorem dX13_sizeWith_114 : decode cX13_sizeWith 114 = .ok (.invokevirtual 266, 3) := by decide +kernel
theorem dX13_sizeWith_117 : decode cX13_sizeWith 117 = .ok (.iadd, 1) := by decide +kernel
theorem dX13_sizeWith_118 : decode cX13_sizeWith 118 = .ok (.istore 5, 2) := by decide +kernel
theorem dX13_sizeWith_120 : decode cX13_sizeWith 120 = .ok (.iinc 7 1, 3) := by decide +kernel
theorem dX13_sizeWith_123 : decode cX13_sizeWith 123 = .ok (.goto (-34), 3) := by decide +kernel
theorem dX13_sizeWith_126 : decode cX13_sizeWith 126 = .ok (.iload 5, 2) := by decide +kernel
theorem dX13_sizeWith_128 : decode cX13_sizeWith 128 = .ok (.ireturn, 1) := by decide +kernel
def EX13_sizeWith : List (Nat × Nat) := []
def qX13_sizeWith (l : Launch) (dC : Nat → ClassId) (dI : Nat → Nat → Nat) (ca : Nat → ClassId) (base : Nat) (B : jF) (d : Nat) : Prop := ∀ (G0 : jT) (H0 : Heap) (r0 : Nat) (a1 : Int32) (a2 : Int32) (r3 : Nat) (a4 : Int32) (n3 : Nat) (zs : Nat) (zn : Nat) (za : Nat) (zb : Nat) (zc : Nat) (zy : Nat) (T : Nat → Int32) (C : jK), Met l yX13_sizeWith (jw yX13_sizeWith cX13_sizeWith 8 (some .int)) ({ frames := d + 1610, cells := 0, slots := 0, locals := 60 * d + 66000 }) (va_Pc [.ref r0, .int a1, .int a2, .ref r3, .int a4] (fun U => U.heap = H0 ∧ jX B base G0 [] H0 ∧ jG dC dI ca base U ∧ G0 r3 = some (169, n3) ∧ G0 r0 = some (15, 0) ∧ G0 zs = some (150, 120000) ∧ G0 zn = some (151, 120000) ∧ G0 za = some (152, 120000) ∧ G0 zb = some (153, 120000) ∧ G0 zc = some (154, 120000) ∧ G0 zy = some (165, 16) ∧ jP (dC, dI) G0 H0 [(r0, 15, 0, .ref zs), (r0, 15, 1, .ref zn), (r0, 15, 2, .ref za), (r0, 15, 3, .ref zb), (r0, 15, 4, .ref zc), (r0, 15, 14, .ref zy)] ∧ jMc (dC, dI) G0 H0 [(r3, 169, n3, ca 1, T), (zs, 150, 120000, ca 1, C.s), (zn, 151, 120000, ca 1, C.n), (za, 152, 120000, ca 1, C.a), (zb, 153, 120000, ca 1, C.b), (zc, 154, 120000, ca 1, C.c), (zy, 165, 16, ca 1, C.y)] ∧ jFm C 120000 16 d (a2.toInt + a4.toInt) a1.toInt ∧ jTs C 120000 16 1600 T a4.toInt ∧ d ≤ 100 ∧ 0 ≤ a2.toInt ∧ a2.toInt + d ≤ 2000 ∧ 0 ≤ a4.toInt ∧ a4.toInt ≤ n3 ∧ n3 ≤ 100 ∧ jsz C a1.toInt ≤ 1600)) (va_Qi (S := Unit) (fun r u => (r.toInt = jSw C T a4.toInt a2.toInt a1.toInt)) (fun u t => jRt (dC, dI) B base G0 EX13_sizeWith H0 [] t.heap) (jA base)) 0 0 (jA base)
set_option maxHeartbeats 4000000 in
set_option maxRecDepth 20000 in
theorem uX13_sizeWith (l : Launch) (dC : Nat → ClassId) (dI : Nat → Nat → Nat) (ca : Nat → ClassId) (base : Nat) (B : jF) (hB : jBok B) (hAp : jAp (dC, dI)) (hB15 : ∀ n G a H, B 15 n G a H ↔ jOb (dC, dI) 15 50 (F15 n G) a H) (hB150 : ∀ n G a H, B 150 n G a H ↔ jAr (dC, dI) (ca 1) (fun j z => True) n a H) (hB151 : ∀ n G a H, B 151 n G a H ↔ jAr (dC, dI) (ca 1) (fun j z => True) n a H) (hB152 : ∀ n G a H, B 152 n G a H ↔ jAr (dC, dI) (ca 1) (fun j z => True) n a H) (hB153 : ∀ n G a H, B 153 n G a H ↔ jAr (dC, dI) (ca 1) (fun j z => True) n a H) (hB154 : ∀ n G a H, B 154 n G a H ↔ jAr (dC, dI) (ca 1) (fun j z => True) n a H) (hB165 : ∀ n G a H, B 165 n G a H ↔ jAr (dC, dI) (ca 1) (fun j z => 0 ≤ z.toInt ∧ z.toInt ≤ 3) n a H) (hB169 : ∀ n G a H, B 169 n G a H ↔ jAr (dC, dI) (ca 1) (fun j z => True) n a H) (d : Nat) (ih : ∀ d1, d1 < d → qX13_sizeWith l dC dI ca base B d1) (G0 : jT) (H0 : Heap) (r0 : Nat) (a1 : Int32) (a2 : Int32) (r3 : Nat) (a4 : Int32) (n3 : Nat) (zs : Nat) (zn : Nat) (za : Nat) (zb : Nat) (zc : Nat) (zy : Nat) (T : Nat → Int32) (C : jK) : Met l yX13_sizeWith (jw yX13_sizeWith cX13_sizeWith 8 (some .int)) ({ frames := d + 1610, cells := 0, slots := 0, locals := 60 * d + 66000 }) (va_Pc [.ref r0, .int a1, .int a2, .ref r3, .int a4] (fun U => U.heap = H0 ∧ jX B base G0 [] H0 ∧ jG dC dI ca base U ∧ G0 r3 = some (169, n3) ∧ G0 r0 = some (15, 0) ∧ G0 zs = some (150, 120000) ∧ G0 zn = some (151, 120000) ∧ G0 za = some (152, 120000) ∧ G0 zb = some (153, 120000) ∧ G0 zc = some (154, 120000) ∧ G0 zy = some (165, 16) ∧ jP (dC, dI) G0 H0 [(r0, 15, 0, .ref zs), (r0, 15, 1, .ref zn), (r0, 15, 2, .ref za), (r0, 15, 3, .ref zb), (r0, 15, 4, .ref zc), (r0, 15, 14, .ref zy)] ∧ jMc (dC, dI) G0 H0 [(r3, 169, n3, ca 1, T), (zs, 150, 120000, ca 1, C.s), (zn, 151, 120000, ca 1, C.n), (za, 152, 120000, ca 1, C.a), (zb, 153, 120000, ca 1, C.b), (zc, 154, 120000, ca 1, C.c), (zy, 165, 16, ca 1, C.y)] ∧ jFm C 120000 16 d (a2.toInt + a4.toInt) a1.toInt ∧ jTs C 120000 16 1600 T a4.toInt ∧ d ≤ 100 ∧ 0 ≤ a2.toInt ∧ a2.toInt + d ≤ 2000 ∧ 0 ≤ a4.toInt ∧ a4.toInt ≤ n3 ∧ n3 ≤ 100 ∧ jsz C a1.toInt ≤ 1600)) (va_Qi (S := Unit) (fun r u => (r.toInt = jSw C T a4.toInt a2.toInt a1.toInt)) (fun u t => jRt (dC, dI) B base G0 EX13_sizeWith H0 [] t.heap) (jA base)) 0 0 (jA base) := by
  refine Met.ofW (cc := cX13_sizeWith) (maxL := 8) (ret := (some .int)) (by decide) rfl ?_
  intro p e s m args below meth c s₁ Bd hml hv
  obtain ⟨rfl, hH0, hX, hG, hg_r3, hg_r0, hg_zs, hg_zn, hg_za, hg_zb, hg_zc, hg_zy, hP0, hM0, hp0, hp1, hp2, hp3, hp4, hp5, hp6, hp7, hp8⟩ := hv
  have hK := hG.1
  have hx := Bd.exec
  have hb := Bd.bytes
  have hr := Bd.returns
  have hts := atoms_spec (ws := (jw yX13_sizeWith cX13_sizeWith 8 (some .int))) Bd.pre
  have htw : ∀ w ∈ jWl, w.before _ s = true := fun w h => hts w (List.mem_cons_of_mem _ h)
  have hown : s.vm.findClass RX13 = some m.cls := findClass_of_methodNamed Bd.named
  have hlocks := Bd.notSynchronized
  obtain ⟨Q, hQ⟩ : ∃ Q, Q = MQ below (va_Qi (S := Unit) (fun r u => (r.toInt = jSw C T a4.toInt a2.toInt a1.toInt)) (fun u t => jRt (dC, dI) B base G0 EX13_sizeWith H0 [] t.heap) (jA base)) ([.ref r0, .int a1, .int a2, .ref r3, .int a4] : List Value).toArray s 0 0 (jA base) := ⟨_, rfl⟩
  rw [← hQ]
  have hl := lv_entry ([.ref r0, .int a1, .int a2, .ref r3, .int a4]) (n := 8) (Nat.le_of_ble_eq_true rfl)
  rw [lg_entry_eq]
  generalize (lg_sl ([.ref r0, .int a1, .int a2, .ref r3, .int a4]) ++ List.replicate (8 - (lg_sl ([.ref r0, .int a1, .int a2, .ref r3, .int a4])).length) Slot.unset).toArray = ls at hl ⊢
  have hl : lv_has ls 8 [(0, .ref r0), (1, .int a1), (2, .int a2), (3, .ref r3), (4, .int a4)] := hl
  generalize hR : (headSpec (jw yX13_sizeWith cX13_sizeWith 8 (some .int)) ({ frames := d + 1610, cells := 0, slots := 0, locals := 60 * d + 66000 })).room = R
  subst hH0
  have hh : jSt (dC, dI) B base G0 G0 EX13_sizeWith s.heap 0 0 [(r0, 15, 0, .ref zs), (r0, 15, 1, .ref zn), (r0, 15, 2, .ref za), (r0, 15, 3, .ref zb), (r0, 15, 4, .ref zc), (r0, 15, 14, .ref zy)] [(r3, 169, n3, ca 1, T), (zs, 150, 120000, ca 1, C.s), (zn, 151, 120000, ca 1, C.n), (za, 152, 120000, ca 1, C.a), (zb, 153, 120000, ca 1, C.b), (zc, 154, 120000, ca 1, C.c), (zy, 165, 16, ca 1, C.y)] [] s.heap [] := jSt.start hX hP0 hM0 jIs.nil
  clear hX hP0
  have hk0 : (0 : Int32).toInt = 0 := by decide
  have hk1 : (1 : Int32).toInt = 1 := by decide
  have hk4 : (4 : Int32).toInt = 4 := by decide
  have hk5 : (5 : Int32).toInt = 5 := by decide
  have hk10 : (10 : Int32).toInt = 10 := by decide
  have hly_15_0 := htw (u_lay RX13 TX13 0) (jWc_wsX130 _ (u_in_lay (by decide)))
  have hly_15_1 := htw (u_lay RX13 TX13 1) (jWc_wsX130 _ (u_in_lay (by decide)))
  have hlk_12 := (htw (.fieldLink RX13 12 "ProofServerModel$Kernel" "sort" "[I") (jWr_14 _ (List.mem_of_getElem? (i := 9) rfl)))
  have hlk_16 := (htw (.fieldLink RX13 16 "ProofServerModel$Kernel" "name" "[I") (jWr_14 _ (List.mem_of_getElem? (i := 10) rfl)))
  have hrg_a1 := jb_rng a1
  have hrg_a2 := jb_rng a2
  have hrg_a4 := jb_rng a4
  obtain ⟨g1, g2, g3, g4, -, -, -, g8, g9⟩ := hp0.nd
  have hpos := hp0.pos
  have hle := jSw_le hp1 (by omega : d ≤ 4000) a2.toInt hp0
  refine lv_aload_n hx hb dX13_sizeWith_0 rfl (lv_at hl 0 rfl) ?_
  refine j7_read hx hb hown hK (C := RX13) (T := TX13) (N := 50) rfl hly_15_0 hlk_12 (hh.at 0 rfl) dX13_sizeWith_1 ?_
  refine lv_iload_n hx hb dX13_sizeWith_4 rfl (lv_at hl 1 rfl) ?_
  refine j7_ialdM hx hb hK hh hB150 1 rfl (by decide) hg_zs (x := a1.toInt) (rfl) (by omega) (j := 1) rfl dX13_sizeWith_5 (fun z_1 ez_1 (hz_1 : True) => ?_)
  have hqz_1 : z_1.toInt = jSo C.s (a1.toInt) := by unfold jSo; rw [ez_1]
  refine lv_bipush (v := 10) hx hb dX13_sizeWith_6 (by decide) ?_
  have C54 : ∀ (H_2 : Heap) (locs_2 : List Loc), jSt (dC, dI) B base G0 G0 EX13_sizeWith s.heap 0 0 [(r0, 15, 0, .ref zs), (r0, 15, 1, .ref zn), (r0, 15, 2, .ref za), (r0, 15, 3, .ref zb), (r0, 15, 4, .ref zc), (r0, 15, 14, .ref zy)] [(r3, 169, n3, ca 1, T), (zs, 150, 120000, ca 1, C.s), (zn, 151, 120000, ca 1, C.n), (za, 152, 120000, ca 1, C.a), (zb, 153, 120000, ca 1, C.b), (zc, 154, 120000, ca 1, C.c), (zy, 165, 16, ca 1, C.y)] [] H_2 locs_2 → ((jSo C.s a1.toInt = 10 → jSo C.n a1.toInt < a2.toInt)) → ∀ ls : Array Slot, lv_has ls 8 [(0, .ref r0), (1, .int a1), (2, .int a2), (3, .ref r3), (4, .int a4)] → W p l e R s m ([.ref r0, .int a1, .int a2, .ref r3, .int a4] : List Value).toArray below meth c H_2 locs_2 0 0 Q (F0 m 54 ls []) := by
    intro  H_2 locs_2 hh_2  hi_2 ls hl
    have hst := jSw_step (T := T) (m := a4.toInt) hp0 (by omega) a2.toInt
    rw [if_neg (by omega)] at hst
    refine lv_iconst (v := 1) hx hb dX13_sizeWith_54 (by decide) ?_
    refine lv_istore (lv' := [(5, .int 1), (0, .ref r0), (1, .int a1), (2, .int a2), (3, .ref r3), (4, .int a4)]) hx hb dX13_sizeWith_55 hl (by decide) rfl (fun ls hl => ?_)
    refine lv_aload_n hx hb dX13_sizeWith_57 rfl (lv_at hl 1 rfl) ?_
    refine j7_read hx hb hown hK (C := RX13) (T := TX13) (N := 50) rfl hly_15_0 hlk_12 (hh_2.at 0 rfl) dX13_sizeWith_58 ?_
    refine lv_iload_n hx hb dX13_sizeWith_61 rfl (lv_at hl 2 rfl) ?_
    refine j7_ialdM hx hb hK hh_2 hB150 1 rfl (by decide) hg_zs (x := a1.toInt) (rfl) (by omega) (j := 1) rfl dX13_sizeWith_62 (fun z_3 ez_3 (hz_3 : True) => ?_)
    have hqz_3 : z_3.toInt = jSo C.s (a1.toInt) := by unfold jSo; rw [ez_3]
    refine lv_iconst (v := 4) hx hb dX13_sizeWith_63 (by decide) ?_
    have C84 : ∀ (w0_4 : Int32) (H_4 : Heap) (locs_4 : List Loc), jSt (dC, dI) B base G0 G0 EX13_sizeWith s.heap 0 0 [(r0, 15, 0, .ref zs), (r0, 15, 1, .ref zn), (r0, 15, 2, .ref za), (r0, 15, 3, .ref zb), (r0, 15, 4, .ref zc), (r0, 15, 14, .ref zy)] [(r3, 169, n3, ca 1, T), (zs, 150, 120000, ca 1, C.s), (zn, 151, 120000, ca 1, C.n), (za, 152, 120000, ca 1, C.a), (zb, 153, 120000, ca 1, C.b), (zc, 154, 120000, ca 1, C.c), (zy, 165, 16, ca 1, C.y)] [] H_4 locs_4 → (w0_4.toInt = a2.toInt + jQf C a1.toInt) → ∀ ls : Array Slot, lv_has ls 8 [(0, .ref r0), (1, .int a1), (2, .int a2), (3, .ref r3), (4, .int a4), (5, .int 1)] → W p l e R s m ([.ref r0, .int a1, .int a2, .ref r3, .int a4] : List Value).toArray below meth c H_4 locs_4 0 0 Q (F0 m 84 ls [.int w0_4]) := by
      intro w0_4 H_4 locs_4 hh_4  hi_4 ls hl
      have hq01 := (jQf_ok C a1.toInt).2.2
      refine lv_istore (lv' := [(6, .int w0_4), (0, .ref r0), (1, .int a1), (2, .int a2), (3, .ref r3), (4, .int a4), (5, .int 1)]) hx hb dX13_sizeWith_84 hl (by decide) rfl (fun ls hl => ?_)
      refine lv_iconst (v := 0) hx hb dX13_sizeWith_86 (by decide) ?_
      refine lv_istore (lv' := [(7, .int 0), (6, .int w0_4), (0, .ref r0), (1, .int a1), (2, .int a2), (3, .ref r3), (4, .int a4), (5, .int 1)]) hx hb dX13_sizeWith_87 hl (by decide) rfl (fun ls hl => ?_)
      have L89 : ∀ (N : Nat) (v5_5 : Int32) (v7_5 : Int32) (H_5 : Heap) (locs_5 : List Loc), jSt (dC, dI) B base G0 G0 EX13_sizeWith s.heap 0 0 [(r0, 15, 0, .ref zs), (r0, 15, 1, .ref zn), (r0, 15, 2, .ref za), (r0, 15, 3, .ref zb), (r0, 15, 4, .ref zc), (r0, 15, 14, .ref zy)] [(r3, 169, n3, ca 1, T), (zs, 150, 120000, ca 1, C.s), (zn, 151, 120000, ca 1, C.n), (za, 152, 120000, ca 1, C.a), (zb, 153, 120000, ca 1, C.b), (zc, 154, 120000, ca 1, C.c), (zy, 165, 16, ca 1, C.y)] [] H_5 locs_5 → (0 ≤ v7_5.toInt ∧ v7_5.toInt ≤ jPts C a1.toInt ∧ v5_5.toInt = jSwK C T a4.toInt a2.toInt a1.toInt v7_5.toInt) → (3 - v7_5.toInt : Int) < N → ∀ ls : Array Slot, lv_has ls 8 [(0, .ref r0), (1, .int a1), (2, .int a2), (3, .ref r3), (4, .int a4), (5, .int v5_5), (6, .int w0_4), (7, .int v7_5)] → W p l e R s m ([.ref r0, .int a1, .int a2, .ref r3, .int a4] : List Value).toArray below meth c H_5 locs_5 0 0 Q (F0 m 89 ls []) := by
        intro N
        induction N with
        | zero => intro v5_5 v7_5 H_5 locs_5 hh_5  hi_5 hm; exact absurd hm (by omega)
        | succ N L89 =>
          intro v5_5 v7_5 H_5 locs_5 hh_5  hi_5 hm_5 ls hl
          obtain ⟨hi_5_0, hi_5_1, hi_5_2⟩ := hi_5
          refine lv_iload hx hb dX13_sizeWith_89 (lv_at hl 7 rfl) ?_
          refine lv_aload_n hx hb dX13_sizeWith_91 rfl (lv_at hl 0 rfl) ?_
          refine lv_iload_n hx hb dX13_sizeWith_92 rfl (lv_at hl 1 rfl) ?_
          refine va_calli (A0 := jA base) (H0 := s.heap) (va_runV (As := [.int a1]) (rest := [.int v7_5]) ⟨hx, hb, hml, hown, hts⟩ (uX13_parts l dC dI ca base B hB hAp hB15 hB150 hB151 hB152 hB153 hB154 hB165 G0 H_5 r0 a1 zs zn za zb zc zy C) (cwV 1 hts (jgV (jWr_65 _ (List.mem_of_getElem? (i := 15) rfl)) (jWr_65 _ (List.mem_of_getElem? (i := 16) rfl)) (jWr_65 _ (List.mem_of_getElem? (i := 17) rfl)) (jWr_12 _ (List.mem_of_getElem? (i := 12) rfl)) (jWr_65 _ (List.mem_of_getElem? (i := 18) rfl))) rfl rfl rfl (by decide +kernel) ⟨by rw [← hR]; show (0) + 1 ≤ d + 1610; omega, by rw [← hR]; show 8 + (3 + 11) + (0) ≤ 60 * d + 66000; omega⟩) ⟨fun a U g mk q => by obtain ⟨q0, q1, q2, qK, q10, q11, q12, q13, q14, q15, q16, q17, q18, q19⟩ := q; exact ⟨q0, q1, q2, jG.calling g mk a qK, q10, q11, q12, q13, q14, q15, q16, q17, q18, q19⟩, hh_5.recv (C := RX13) (T := TX13) (N := 50) hB15 rfl (by decide) hg_r0 hK, fun U hU hW => ⟨rfl, hU, hh_5.2.1, hG.step hW hU hh_5.1, hg_r0, hg_zs, hg_zn, hg_za, hg_zb, hg_zc, hg_zy, (hh_5.2.2.1.sub (L1 := [(r0, 15, 0, .ref zs), (r0, 15, 1, .ref zn), (r0, 15, 2, .ref za), (r0, 15, 3, .ref zb), (r0, 15, 4, .ref zc), (r0, 15, 14, .ref zy)]) [0, 1, 2, 3, 4, 5] rfl), (hh_5.2.2.2.2.2.2.2.1.sub (L1 := [(zs, 150, 120000, ca 1, C.s), (zn, 151, 120000, ca 1, C.n), (za, 152, 120000, ca 1, C.a), (zb, 153, 120000, ca 1, C.b), (zc, 154, 120000, ca 1, C.c), (zy, 165, 16, ca 1, C.y)]) [1, 2, 3, 4, 5, 6] rfl), ⟨(by first | omega | rfl | assumption | exact hp0.sym (by omega)), (by first | omega | rfl | assumption | exact hp0.sym (by omega)), (by first | assumption | exact hp0.sym (by omega) | omega)⟩⟩⟩ rfl rfl hl.1 rfl (lv_room (Nat.le_of_ble_eq_true rfl)) dX13_sizeWith_93 ⟨Nat.zero_le _, Nat.zero_le _⟩) hh_5.1 (fun q _ h => h) (fun q h => h) (fun r_7 u_6 t_6 H_6 locs_6 ht_6 hvm_6 hr_7 hb_6 hz_6 hk_6 hS_6 => ?_)
          rw [ht_6] at hb_6
          obtain ⟨hb_61, hb_62, hb_63, hb_64, hb_65⟩ := hb_6
          have hh_6 : jSt (dC, dI) B base G0 G0 EX13_sizeWith s.heap 0 0 [(r0, 15, 0, .ref zs), (r0, 15, 1, .ref zn), (r0, 15, 2, .ref za), (r0, 15, 3, .ref zb), (r0, 15, 4, .ref zc), (r0, 15, 14, .ref zy)] [(r3, 169, n3, ca 1, T), (zs, 150, 120000, ca 1, C.s), (zn, 151, 120000, ca 1, C.n), (za, 152, 120000, ca 1, C.a), (zb, 153, 120000, ca 1, C.b), (zc, 154, 120000, ca 1, C.c), (zy, 165, 16, ca 1, C.y)] [] H_6 locs_6 := ((hh_5.call hb_61 hb_62 hb_63 hb_64 hS_6 rfl (L1 := [(r0, 15, 0, .ref zs), (r0, 15, 1, .ref zn), (r0, 15, 2, .ref za), (r0, 15, 3, .ref zb), (r0, 15, 4, .ref zc), (r0, 15, 14, .ref zy)]) [0, 1, 2, 3, 4, 5] rfl rfl (M1 := [(r3, 169, n3, ca 1, T), (zs, 150, 120000, ca 1, C.s), (zn, 151, 120000, ca 1, C.n), (za, 152, 120000, ca 1, C.a), (zb, 153, 120000, ca 1, C.b), (zc, 154, 120000, ca 1, C.c), (zy, 165, 16, ca 1, C.y)]) [0, 1, 2, 3, 4, 5, 6] rfl rfl (I1 := []) [] rfl rfl).more hb_65)
          clear hh_5 ht_6 hvm_6 hz_6 hk_6 hS_6 hb_61 hb_62 hb_63 hb_64 hb_65
          obtain ⟨hr_7_0, hr_7_1, hr_7_2⟩ := hr_7
          refine lv_icmp_ge (tgt := 126) hx hb dX13_sizeWith_96 (by decide) (fun c_8 => ?_) (fun c_8 => ?_)
          · skip
            have c_8' : v7_5.toInt ≥ r_7.toInt := jb_ge (rfl) (rfl) c_8
            refine lv_iload hx hb dX13_sizeWith_126 (lv_at hl 5 rfl) ?_
            rw [hQ]
            exact W.iret (v := v5_5) hx hb hr (fun t ht hW => ⟨⟨v5_5, (), rfl, by show (v5_5).toInt = _; first | (rw [jSw_step (T := T) (m := a4.toInt) hp0 (by omega) a2.toInt, if_pos (by omega), (zz_none), (zz_none), (zz_none)]) | (rw [hst, show jPts C a1.toInt = v7_5.toInt by omega]; omega), hh_6.rt (M1 := []) [] rfl ht⟩, by rw [ht]; try exact hh_6.1.1, fun q h9 hq => by rw [ht]; try exact hh_6.1.2.1 q h9 hq⟩) hh_6.1.2.2 dX13_sizeWith_128
          · skip
            have c_8' : v7_5.toInt < r_7.toInt := jb_ge_n (rfl) (rfl) c_8
            refine lv_iload hx hb dX13_sizeWith_99 (lv_at hl 5 rfl) ?_
            refine lv_aload_n hx hb dX13_sizeWith_101 rfl (lv_at hl 0 rfl) ?_
            refine lv_aload_n hx hb dX13_sizeWith_102 rfl (lv_at hl 0 rfl) ?_
            refine lv_iload_n hx hb dX13_sizeWith_103 rfl (lv_at hl 1 rfl) ?_
            refine lv_iload hx hb dX13_sizeWith_104 (lv_at hl 7 rfl) ?_
            refine va_calli (A0 := jA base) (H0 := s.heap) (va_runV (As := [.int a1, .int v7_5]) (rest := [.ref r0, .int v5_5]) ⟨hx, hb, hml, hown, hts⟩ (uX13_partK l dC dI ca base B hB hAp hB15 hB150 hB151 hB152 hB153 hB154 hB165 G0 H_6 r0 a1 v7_5 zs zn za zb zc zy C) (cwV 2 hts (jgV (jWr_65 _ (List.mem_of_getElem? (i := 19) rfl)) (jWr_65 _ (List.mem_of_getElem? (i := 20) rfl)) (jWr_65 _ (List.mem_of_getElem? (i := 21) rfl)) (jWr_12 _ (List.mem_of_getElem? (i := 12) rfl)) (jWr_65 _ (List.mem_of_getElem? (i := 22) rfl))) rfl rfl rfl (by decide +kernel) ⟨by rw [← hR]; show (0) + 1 ≤ d + 1610; omega, by rw [← hR]; show 8 + (3 + 11) + (0) ≤ 60 * d + 66000; omega⟩) ⟨fun a U g mk q => by obtain ⟨q0, q1, q2, qK, q10, q11, q12, q13, q14, q15, q16, q17, q18, q19⟩ := q; exact ⟨q0, q1, q2, jG.calling g mk a qK, q10, q11, q12, q13, q14, q15, q16, q17, q18, q19⟩, hh_6.recv (C := RX13) (T := TX13) (N := 50) hB15 rfl (by decide) hg_r0 hK, fun U hU hW => ⟨rfl, hU, hh_6.2.1, hG.step hW hU hh_6.1, hg_r0, hg_zs, hg_zn, hg_za, hg_zb, hg_zc, hg_zy, (hh_6.2.2.1.sub (L1 := [(r0, 15, 0, .ref zs), (r0, 15, 1, .ref zn), (r0, 15, 2, .ref za), (r0, 15, 3, .ref zb), (r0, 15, 4, .ref zc), (r0, 15, 14, .ref zy)]) [0, 1, 2, 3, 4, 5] rfl), (hh_6.2.2.2.2.2.2.2.1.sub (L1 := [(zs, 150, 120000, ca 1, C.s), (zn, 151, 120000, ca 1, C.n), (za, 152, 120000, ca 1, C.a), (zb, 153, 120000, ca 1, C.b), (zc, 154, 120000, ca 1, C.c), (zy, 165, 16, ca 1, C.y)]) [1, 2, 3, 4, 5, 6] rfl), by first | omega | (refine ⟨?_, ?_⟩ <;> (first | omega | rfl | assumption | decide | exact Or.inl rfl | exact Or.inr rfl | (simp only; omega)))⟩⟩ rfl rfl hl.1 rfl (lv_room (Nat.le_of_ble_eq_true rfl)) dX13_sizeWith_106 ⟨Nat.zero_le _, Nat.zero_le _⟩) hh_6.1 (fun q _ h => h) (fun q h => h) (fun r_10 u_9 t_9 H_9 locs_9 ht_9 hvm_9 hr_10 hb_9 hz_9 hk_9 hS_9 => ?_)
            rw [ht_9] at hb_9
            obtain ⟨hb_91, hb_92, hb_93, hb_94, hb_95⟩ := hb_9
            have hh_9 : jSt (dC, dI) B base G0 G0 EX13_sizeWith s.heap 0 0 [(r0, 15, 0, .ref zs), (r0, 15, 1, .ref zn), (r0, 15, 2, .ref za), (r0, 15, 3, .ref zb), (r0, 15, 4, .ref zc), (r0, 15, 14, .ref zy)] [(r3, 169, n3, ca 1, T), (zs, 150, 120000, ca 1, C.s), (zn, 151, 120000, ca 1, C.n), (za, 152, 120000, ca 1, C.a), (zb, 153, 120000, ca 1, C.b), (zc, 154, 120000, ca 1, C.c), (zy, 165, 16, ca 1, C.y)] [] H_9 locs_9 := ((hh_6.call hb_91 hb_92 hb_93 hb_94 hS_9 rfl (L1 := [(r0, 15, 0, .ref zs), (r0, 15, 1, .ref zn), (r0, 15, 2, .ref za), (r0, 15, 3, .ref zb), (r0, 15, 4, .ref zc), (r0, 15, 14, .ref zy)]) [0, 1, 2, 3, 4, 5] rfl rfl (M1 := [(r3, 169, n3, ca 1, T), (zs, 150, 120000, ca 1, C.s), (zn, 151, 120000, ca 1, C.n), (za, 152, 120000, ca 1, C.a), (zb, 153, 120000, ca 1, C.b), (zc, 154, 120000, ca 1, C.c), (zy, 165, 16, ca 1, C.y)]) [0, 1, 2, 3, 4, 5, 6] rfl rfl (I1 := []) [] rfl rfl).more hb_95)
            clear hh_6 ht_9 hvm_9 hz_9 hk_9 hS_9 hb_91 hb_92 hb_93 hb_94 hb_95
            refine lv_iload hx hb dX13_sizeWith_109 (lv_at hl 6 rfl) ?_
            refine lv_aload_n hx hb dX13_sizeWith_111 rfl (lv_at hl 3 rfl) ?_
            refine lv_iload hx hb dX13_sizeWith_112 (lv_at hl 4 rfl) ?_
            refine va_calli (A0 := jA base) (H0 := s.heap) (va_runV (As := [.int r_10, .int w0_4, .ref r3, .int a4]) (rest := [.int v5_5]) ⟨hx, hb, hml, hown, hts⟩ (ih (d - 1) (by omega) G0 H_9 r0 r_10 w0_4 r3 a4 n3 zs zn za zb zc zy T C) (cwV 4 hts (jgV (jWr_67 _ (List.mem_of_getElem? (i := 3) rfl)) (jWr_67 _ (List.mem_of_getElem? (i := 4) rfl)) (jWr_67 _ (List.mem_of_getElem? (i := 5) rfl)) (jWr_12 _ (List.mem_of_getElem? (i := 12) rfl)) (jWr_67 _ (List.mem_of_getElem? (i := 6) rfl))) rfl rfl rfl (by decide +kernel) ⟨by rw [← hR]; show (d - 1 + 1610) + 1 ≤ d + 1610; omega, by rw [← hR]; show 8 + (8 + 11) + (60 * (d - 1) + 66000) ≤ 60 * d + 66000; omega⟩) ⟨fun a U g mk q => by obtain ⟨q0, q1, q2, qK, q10, q11, q12, q13, q14, q15, q16, q17, q18, q19, q20⟩ := q; exact ⟨q0, q1, q2, jG.calling g mk a qK, q10, q11, q12, q13, q14, q15, q16, q17, q18, q19, q20⟩, hh_9.recv (C := RX13) (T := TX13) (N := 50) hB15 rfl (by decide) hg_r0 hK, fun U hU hW => ⟨rfl, hU, hh_9.2.1, hG.step hW hU hh_9.1, hg_r3, hg_r0, hg_zs, hg_zn, hg_za, hg_zb, hg_zc, hg_zy, (hh_9.2.2.1.sub (L1 := [(r0, 15, 0, .ref zs), (r0, 15, 1, .ref zn), (r0, 15, 2, .ref za), (r0, 15, 3, .ref zb), (r0, 15, 4, .ref zc), (r0, 15, 14, .ref zy)]) [0, 1, 2, 3, 4, 5] rfl), (hh_9.2.2.2.2.2.2.2.1.sub (L1 := [(r3, 169, n3, ca 1, T), (zs, 150, 120000, ca 1, C.s), (zn, 151, 120000, ca 1, C.n), (za, 152, 120000, ca 1, C.a), (zb, 153, 120000, ca 1, C.b), (zc, 154, 120000, ca 1, C.c), (zy, 165, 16, ca 1, C.y)]) [0, 1, 2, 3, 4, 5, 6] rfl), ⟨(by first | assumption | (rw [hr_10]; exact (hp0.part (by omega) (by omega)).mono (Nat.le_refl _) (by omega)) | (rw [hr_10]; have h9 := jsz_part hp0 (by omega) (k := v7_5.toInt) (by omega) (by omega); omega) | omega), (by first | assumption | (rw [hr_10]; exact (hp0.part (by omega) (by omega)).mono (Nat.le_refl _) (by omega)) | (rw [hr_10]; have h9 := jsz_part hp0 (by omega) (k := v7_5.toInt) (by omega) (by omega); omega) | omega), (by first | omega | rfl | assumption | (rw [hr_10]; exact (hp0.part (by omega) (by omega)).mono (Nat.le_refl _) (by omega)) | (rw [hr_10]; have h9 := jsz_part hp0 (by omega) (k := v7_5.toInt) (by omega) (by omega); omega)), (by first | omega | rfl | assumption | (rw [hr_10]; exact (hp0.part (by omega) (by omega)).mono (Nat.le_refl _) (by omega)) | (rw [hr_10]; have h9 := jsz_part hp0 (by omega) (k := v7_5.toInt) (by omega) (by omega); omega)), (by first | omega | rfl | assumption | (rw [hr_10]; exact (hp0.part (by omega) (by omega)).mono (Nat.le_refl _) (by omega)) | (rw [hr_10]; have h9 := jsz_part hp0 (by omega) (k := v7_5.toInt) (by omega) (by omega); omega)), (by first | omega | rfl | assumption | (rw [hr_10]; exact (hp0.part (by omega) (by omega)).mono (Nat.le_refl _) (by omega)) | (rw [hr_10]; have h9 := jsz_part hp0 (by omega) (k := v7_5.toInt) (by omega) (by omega); omega)), (by first | omega | rfl | assumption | (rw [hr_10]; exact (hp0.part (by omega) (by omega)).mono (Nat.le_refl _) (by omega)) | (rw [hr_10]; have h9 := jsz_part hp0 (by omega) (k := v7_5.toInt) (by omega) (by omega); omega)), (by first | omega | rfl | assumption | (rw [hr_10]; exact (hp0.part (by omega) (by omega)).mono (Nat.le_refl _) (by omega)) | (rw [hr_10]; have h9 := jsz_part hp0 (by omega) (k := v7_5.toInt) (by omega) (by omega); omega)), (by first | omega | rfl | assumption | (rw [hr_10]; exact (hp0.part (by omega) (by omega)).mono (Nat.le_refl _) (by omega)) | (rw [hr_10]; have h9 := jsz_part hp0 (by omega) (k := v7_5.toInt) (by omega) (by omega); omega))⟩⟩⟩ rfl rfl hl.1 rfl (lv_room (Nat.le_of_ble_eq_true rfl)) dX13_sizeWith_114 ⟨Nat.zero_le _, Nat.zero_le _⟩) hh_9.1 (fun q _ h => h) (fun q h => h) (fun r_12 u_11 t_11 H_11 locs_11 ht_11 hvm_11 hr_12 hb_11 hz_11 hk_11 hS_11 => ?_)
            rw [ht_11] at hb_11
            obtain ⟨hb_111, hb_112, hb_113, hb_114, hb_115⟩ := hb_11
            have hh_11 : jSt (dC, dI) B base G0 G0 EX13_sizeWith s.heap 0 0 [(r0, 15, 0, .ref zs), (r0, 15, 1, .ref zn), (r0, 15, 2, .ref za), (r0, 15, 3, .ref zb), (r0, 15, 4, .ref zc), (r0, 15, 14, .ref zy)] [(r3, 169, n3, ca 1, T), (zs, 150, 120000, ca 1, C.s), (zn, 151, 120000, ca 1, C.n), (za, 152, 120000, ca 1, C.a), (zb, 153, 120000, ca 1, C.b), (zc, 154, 120000, ca 1, C.c), (zy, 165, 16, ca 1, C.y)] [] H_11 locs_11 := ((hh_9.call hb_111 hb_112 hb_113 hb_114 hS_11 rfl (L1 := [(r0, 15, 0, .ref zs), (r0, 15, 1, .ref zn), (r0, 15, 2, .ref za), (r0, 15, 3, .ref zb), (r0, 15, 4, .ref zc), (r0, 15, 14, .ref zy)]) [0, 1, 2, 3, 4, 5] rfl rfl (M1 := [(r3, 169, n3, ca 1, T), (zs, 150, 120000, ca 1, C.s), (zn, 151, 120000, ca 1, C.n), (za, 152, 120000, ca 1, C.a), (zb, 153, 120000, ca 1, C.b), (zc, 154, 120000, ca 1, C.c), (zy, 165, 16, ca 1, C.y)]) [0, 1, 2, 3, 4, 5, 6] rfl rfl (I1 := []) [] rfl rfl).more hb_115)
            clear hh_9 ht_11 hvm_11 hz_11 hk_11 hS_11 hb_111 hb_112 hb_113 hb_114 hb_115
            rw [hr_10, show w0_4.toInt = a2.toInt + jQf C a1.toInt by omega] at hr_12
            have hs1 := jSwK_s C T a4.toInt a2.toInt a1.toInt (k := v7_5.toInt) (by omega) (by omega)
            have hs2 := jSwK_le C T a4.toInt a2.toInt a1.toInt (k := v7_5.toInt + 1) (p := jPts C a1.toInt) (by omega)
            have hs3 := jSw_nn C T a4.toInt (a2.toInt + jQf C a1.toInt) (jPr C a1.toInt v7_5.toInt)
            have hs4 := jSwK_le C T a4.toInt a2.toInt a1.toInt (k := 0) (p := v7_5.toInt) (by omega)
            rw [jSwK_0] at hs4
            refine lv_iadd hx hb dX13_sizeWith_117 ?_
            refine lv_topi (fun z_13 ez_13 => ?_)
            have hz_13 : z_13.toInt = v5_5.toInt + r_12.toInt := by rw [ez_13]; exact jb_iadd2 (rfl) (rfl) (by omega)
            refine lv_istore (lv' := [(5, .int z_13), (0, .ref r0), (1, .int a1), (2, .int a2), (3, .ref r3), (4, .int a4), (6, .int w0_4), (7, .int v7_5)]) hx hb dX13_sizeWith_118 hl (by decide) rfl (fun ls hl => ?_)
            obtain ⟨z_14, ez_14⟩ : ∃ y : Int32, y = v7_5 + 1 := ⟨_, rfl⟩
            refine lv_iinc (v := z_14) (lv' := [(7, .int z_14), (5, .int z_13), (0, .ref r0), (1, .int a1), (2, .int a2), (3, .ref r3), (4, .int a4), (6, .int w0_4)]) hx hb dX13_sizeWith_120 hl (k := 7) rfl (by rw [ez_14]; rfl) (by decide) rfl (fun ls hl => ?_)
            have hz_14 : z_14.toInt = v7_5.toInt + 1 := by rw [ez_14]; exact jb_iadd2 (rfl) (by decide) (by omega)
            refine lv_goto (tgt := 89) hx hb dX13_sizeWith_123 (by decide) ?_
            exact L89 z_13 z_14 _ _ hh_11 (⟨(by first | omega | rfl | assumption | (rw [hk0, jSwK_0]; exact hk1) | (rw [show (z_14).toInt = v7_5.toInt + 1 by omega]; omega)), (by first | omega | rfl | assumption | (rw [hk0, jSwK_0]; exact hk1) | (rw [show (z_14).toInt = v7_5.toInt + 1 by omega]; omega)), (by first | omega | rfl | assumption | (rw [hk0, jSwK_0]; exact hk1) | (rw [show (z_14).toInt = v7_5.toInt + 1 by omega]; omega))⟩) (by omega) _ (lv_sub hl [2, 3, 4, 5, 6, 1, 7, 0] rfl)
      exact L89 (3 - (0 : Int32).toInt : Int).toNat.succ 1 0 _ _ hh_4 (⟨(by first | omega | rfl | assumption | (rw [hk0, jSwK_0]; exact hk1) | (rw [show (0).toInt = (zz_none).toInt + 1 by omega]; omega)), (by first | omega | rfl | assumption | (rw [hk0, jSwK_0]; exact hk1) | (rw [show (0).toInt = (zz_none).toInt + 1 by omega]; omega)), (by first | omega | rfl | assumption | (rw [hk0, jSwK_0]; exact hk1) | (rw [show (0).toInt = (zz_none).toInt + 1 by omega]; omega))⟩) (by omega) _ (lv_sub hl [2, 3, 4, 5, 6, 7, 1, 0] rfl)
    refine lv_icmp_eq (tgt := 77) hx hb dX13_sizeWith_64 (by decide) (fun c_15 => ?_) (fun c_15 => ?_)
    · skip
      have c_15' : z_3.toInt = 4 := jb_eq (rfl) ((by decide)) c_15
      have hqf := (jQf_ok C a1.toInt).1 (by omega)
      refine lv_iload_n hx hb dX13_sizeWith_77 rfl (lv_at hl 3 rfl) ?_
      refine lv_iconst (v := 1) hx hb dX13_sizeWith_78 (by decide) ?_
      refine lv_iadd hx hb dX13_sizeWith_79 ?_
      refine lv_topi (fun z_16 ez_16 => ?_)
      have hz_16 : z_16.toInt = a2.toInt + 1 := by rw [ez_16]; exact jb_iadd2 (rfl) ((by decide)) (by omega)
      refine lv_goto (tgt := 84) hx hb dX13_sizeWith_80 (by decide) ?_
      exact C84 z_16 _ _ hh_2 (by first | omega | rfl | assumption | decide | exact Or.inl rfl | exact Or.inr rfl | (simp only; omega)) _ (lv_sub hl [1, 2, 3, 4, 5, 0] rfl)
    · skip
      have c_15' : z_3.toInt ≠ 4 := jb_eq_n (rfl) ((by decide)) c_15
      refine lv_aload_n hx hb dX13_sizeWith_67 rfl (lv_at hl 1 rfl) ?_
      refine j7_read hx hb hown hK (C := RX13) (T := TX13) (N := 50) rfl hly_15_0 hlk_12 (hh_2.at 0 rfl) dX13_sizeWith_68 ?_
      refine lv_iload_n hx hb dX13_sizeWith_71 rfl (lv_at hl 2 rfl) ?_
      refine j7_ialdM hx hb hK hh_2 hB150 1 rfl (by decide) hg_zs (x := a1.toInt) (rfl) (by omega) (j := 1) rfl dX13_sizeWith_72 (fun z_17 ez_17 (hz_17 : True) => ?_)
      have hqz_17 : z_17.toInt = jSo C.s (a1.toInt) := by unfold jSo; rw [ez_17]
      refine lv_iconst (v := 5) hx hb dX13_sizeWith_73 (by decide) ?_
      refine lv_icmp_ne (tgt := 83) hx hb dX13_sizeWith_74 (by decide) (fun c_18 => ?_) (fun c_18 => ?_)
      · skip
        have c_18' : z_17.toInt ≠ 5 := jb_ne (rfl) ((by decide)) c_18
        have hqf := (jQf_ok C a1.toInt).2.1 (by omega)
        refine lv_iload_n hx hb dX13_sizeWith_83 rfl (lv_at hl 3 rfl) ?_
        exact C84 a2 _ _ hh_2 (by first | omega | rfl | assumption | decide | exact Or.inl rfl | exact Or.inr rfl | (simp only; omega)) _ (lv_sub hl [1, 2, 3, 4, 5, 0] rfl)
      · skip
        have c_18' : z_17.toInt = 5 := jb_ne_n (rfl) ((by decide)) c_18
        have hqf := (jQf_ok C a1.toInt).1 (by omega)
        refine lv_iload_n hx hb dX13_sizeWith_77 rfl (lv_at hl 3 rfl) ?_
        refine lv_iconst (v := 1) hx hb dX13_sizeWith_78 (by decide) ?_
        refine lv_iadd hx hb dX13_sizeWith_79 ?_
        refine lv_topi (fun z_19 ez_19 => ?_)
        have hz_19 : z_19.toInt = a2.toInt + 1 := by rw [ez_19]; exact jb_iadd2 (rfl) ((by decide)) (by omega)
        refine lv_goto (tgt := 84) hx hb dX13_sizeWith_80 (by decide) ?_
        exact C84 z_19 _ _ hh_2 (by first | omega | rfl | assumption | decide | exact Or.inl rfl | exact Or.inr rfl | (simp only; omega)) _ (lv_sub hl [1, 2, 3, 4, 5, 0] rfl)
  refine lv_icmp_ne (tgt := 54) hx hb dX13_sizeWith_8 (by decide) (fun c_20 => ?_) (fun c_20 => ?_)
  · skip
    have c_20' : z_1.toInt ≠ 10 := jb_ne (rfl) ((by decide)) c_20
    exact C54  _ _ hh (by first | omega | rfl | assumption | decide | exact Or.inl rfl | exact Or.inr rfl | (simp only; omega)) _ (lv_sub hl [0, 1, 2, 3, 4] rfl)
  · skip
    have c_20' : z_1.toInt = 10 := jb_ne_n (rfl) ((by decide)) c_20
    refine lv_aload_n hx hb dX13_sizeWith_11 rfl (lv_at hl 0 rfl) ?_
    refine j7_read hx hb hown hK (C := RX13) (T := TX13) (N := 50) rfl hly_15_1 hlk_16 (hh.at 1 rfl) dX13_sizeWith_12 ?_
    refine lv_iload_n hx hb dX13_sizeWith_15 rfl (lv_at hl 1 rfl) ?_
    refine j7_ialdM hx hb hK hh hB151 1 rfl (by decide) hg_zn (x := a1.toInt) (rfl) (by omega) (j := 2) rfl dX13_sizeWith_16 (fun z_21 ez_21 (hz_21 : True) => ?_)
    have hqz_21 : z_21.toInt = jSo C.n (a1.toInt) := by unfold jSo; rw [ez_21]
    refine lv_iload_n hx hb dX13_sizeWith_17 rfl (lv_at hl 2 rfl) ?_
    refine lv_icmp_lt (tgt := 54) hx hb dX13_sizeWith_18 (by decide) (fun c_22 => ?_) (fun c_22 => ?_)
    · skip
      have c_22' : z_21.toInt < a2.toInt := jb_lt (rfl) (rfl) c_22
      exact C54  _ _ hh (by first | omega | rfl | assumption | decide | exact Or.inl rfl | exact Or.inr rfl | (simp only; omega)) _ (lv_sub hl [0, 1, 2, 3, 4] rfl)
    · skip
      have c_22' : z_21.toInt ≥ a2.toInt := jb_lt_n (rfl) (rfl) c_22
      have hb10 := hp0.bnd (by omega)
      refine lv_aload_n hx hb dX13_sizeWith_21 rfl (lv_at hl 0 rfl) ?_
      refine j7_read hx hb hown hK (C := RX13) (T := TX13) (N := 50) rfl hly_15_1 hlk_16 (hh.at 1 rfl) dX13_sizeWith_22 ?_
      refine lv_iload_n hx hb dX13_sizeWith_25 rfl (lv_at hl 1 rfl) ?_
      refine j7_ialdM hx hb hK hh hB151 1 rfl (by decide) hg_zn (x := a1.toInt) (rfl) (by omega) (j := 2) rfl dX13_sizeWith_26 (fun z_23 ez_23 (hz_23 : True) => ?_)
      have hqz_23 : z_23.toInt = jSo C.n (a1.toInt) := by unfold jSo; rw [ez_23]
      refine lv_iload_n hx hb dX13_sizeWith_27 rfl (lv_at hl 2 rfl) ?_
      refine lv_iload hx hb dX13_sizeWith_28 (lv_at hl 4 rfl) ?_
      refine lv_iadd hx hb dX13_sizeWith_30 ?_
      refine lv_topi (fun z_24 ez_24 => ?_)
      have hz_24 : z_24.toInt = a2.toInt + a4.toInt := by rw [ez_24]; exact jb_iadd2 (rfl) (rfl) (by omega)
      refine lv_icmp_ge (tgt := 54) hx hb dX13_sizeWith_31 (by decide) (fun c_25 => ?_) (fun c_25 => ?_)
      · skip
        have c_25' : z_23.toInt ≥ z_24.toInt := jb_ge (rfl) (rfl) c_25
        exact C54  _ _ hh (by first | omega | rfl | assumption | decide | exact Or.inl rfl | exact Or.inr rfl | (simp only; omega)) _ (lv_sub hl [0, 1, 2, 3, 4] rfl)
      · skip
        have c_25' : z_23.toInt < z_24.toInt := jb_ge_n (rfl) (rfl) c_25
        refine lv_aload_n hx hb dX13_sizeWith_34 rfl (lv_at hl 0 rfl) ?_
        refine lv_aload_n hx hb dX13_sizeWith_35 rfl (lv_at hl 3 rfl) ?_
        refine lv_iload hx hb dX13_sizeWith_36 (lv_at hl 4 rfl) ?_
        refine lv_iconst (v := 1) hx hb dX13_sizeWith_38 (by decide) ?_
        refine lv_isub hx hb dX13_sizeWith_39 ?_
        refine lv_topi (fun z_26 ez_26 => ?_)
        have hz_26 : z_26.toInt = a4.toInt - 1 := by rw [ez_26]; exact jb_isub2 (rfl) ((by decide)) (by omega)
        refine lv_aload_n hx hb dX13_sizeWith_40 rfl (lv_at hl 0 rfl) ?_
        refine j7_read hx hb hown hK (C := RX13) (T := TX13) (N := 50) rfl hly_15_1 hlk_16 (hh.at 1 rfl) dX13_sizeWith_41 ?_
        refine lv_iload_n hx hb dX13_sizeWith_44 rfl (lv_at hl 1 rfl) ?_
        refine j7_ialdM hx hb hK hh hB151 1 rfl (by decide) hg_zn (x := a1.toInt) (rfl) (by omega) (j := 2) rfl dX13_sizeWith_45 (fun z_27 ez_27 (hz_27 : True) => ?_)
        have hqz_27 : z_27.toInt = jSo C.n (a1.toInt) := by unfold jSo; rw [ez_27]
        refine lv_isub hx hb dX13_sizeWith_46 ?_
        refine lv_topi (fun z_28 ez_28 => ?_)
        have hz_28 : z_28.toInt = z_26.toInt - z_27.toInt := by rw [ez_28]; exact jb_isub2 (rfl) (rfl) (by omega)
        refine lv_iload_n hx hb dX13_sizeWith_47 rfl (lv_at hl 2 rfl) ?_
        refine lv_iadd hx hb dX13_sizeWith_48 ?_
        refine lv_topi (fun z_29 ez_29 => ?_)
        have hz_29 : z_29.toInt = z_28.toInt + a2.toInt := by rw [ez_29]; exact jb_iadd2 (rfl) (rfl) (by omega)
        refine j7_ialdM hx hb hK hh hB169 1 rfl (by decide) hg_r3 (x := z_29.toInt) (rfl) (by omega) (j := 0) rfl dX13_sizeWith_49 (fun z_30 ez_30 (hz_30 : True) => ?_)
        have hqz_30 : z_30.toInt = jSo T ((((a4.toInt - 1) - z_27.toInt) + a2.toInt)) := by unfold jSo; rw [ez_30, show z_29.toInt = (((a4.toInt - 1) - z_27.toInt) + a2.toInt) by omega]
        refine va_calli (A0 := jA base) (H0 := s.heap) (va_runV (As := [.int z_30]) (rest := []) ⟨hx, hb, hml, hown, hts⟩ (aX13_size l dC dI ca base B hB hAp hB15 hB150 hB151 hB152 hB153 hB154 hB165 1600 G0 s.heap r0 z_30 zs zn za zb zc zy C) (cwV 1 hts (jgV (jWr_65 _ (List.mem_of_getElem? (i := 11) rfl)) (jWr_65 _ (List.mem_of_getElem? (i := 12) rfl)) (jWr_65 _ (List.mem_of_getElem? (i := 13) rfl)) (jWr_12 _ (List.mem_of_getElem? (i := 12) rfl)) (jWr_65 _ (List.mem_of_getElem? (i := 14) rfl))) rfl rfl rfl (by decide +kernel) ⟨by rw [← hR]; show (1603) + 1 ≤ d + 1610; omega, by rw [← hR]; show 8 + (4 + 11) + (64200) ≤ 60 * d + 66000; omega⟩) ⟨fun a U g mk q => by obtain ⟨q0, q1, q2, qK, q10, q11, q12, q13, q14, q15, q16, q17, q18, q19⟩ := q; exact ⟨q0, q1, q2, jG.calling g mk a qK, q10, q11, q12, q13, q14, q15, q16, q17, q18, q19⟩, hh.recv (C := RX13) (T := TX13) (N := 50) hB15 rfl (by decide) hg_r0 hK, fun U hU hW => ⟨rfl, hU, hh.2.1, hG.step hW hU hh.1, hg_r0, hg_zs, hg_zn, hg_za, hg_zb, hg_zc, hg_zy, (hh.2.2.1.sub (L1 := [(r0, 15, 0, .ref zs), (r0, 15, 1, .ref zn), (r0, 15, 2, .ref za), (r0, 15, 3, .ref zb), (r0, 15, 4, .ref zc), (r0, 15, 14, .ref zy)]) [0, 1, 2, 3, 4, 5] rfl), (hh.2.2.2.2.2.2.2.1.sub (L1 := [(zs, 150, 120000, ca 1, C.s), (zn, 151, 120000, ca 1, C.n), (za, 152, 120000, ca 1, C.a), (zb, 153, 120000, ca 1, C.b), (zc, 154, 120000, ca 1, C.c), (zy, 165, 16, ca 1, C.y)]) [1, 2, 3, 4, 5, 6] rfl), ⟨(by first | assumption | (rw [hqz_30]; exact ((hp1 _ (by omega) (by omega)).1.tr (by omega) (by omega))) | (rw [hqz_30]; exact Int.le_trans (hp1 _ (by omega) (by omega)).2 (by omega)) | omega), (by first | omega | rfl | assumption | (rw [hqz_30]; exact ((hp1 _ (by omega) (by omega)).1.tr (by omega) (by omega))) | (rw [hqz_30]; exact Int.le_trans (hp1 _ (by omega) (by omega)).2 (by omega))), (by first | omega | rfl | assumption | (rw [hqz_30]; exact ((hp1 _ (by omega) (by omega)).1.tr (by omega) (by omega))) | (rw [hqz_30]; exact Int.le_trans (hp1 _ (by omega) (by omega)).2 (by omega)))⟩⟩⟩ rfl rfl hl.1 rfl (lv_room (Nat.le_of_ble_eq_true rfl)) dX13_sizeWith_50 ⟨Nat.zero_le _, Nat.zero_le _⟩) hh.1 (fun q _ h => h) (fun q h => h) (fun r_32 u_31 t_31 H_31 locs_31 ht_31 hvm_31 hr_32 hb_31 hz_31 hk_31 hS_31 => ?_)
        rw [ht_31] at hb_31
        obtain ⟨hb_311, hb_312, hb_313, hb_314, hb_315⟩ := hb_31
        have hh_31 : jSt (dC, dI) B base G0 G0 EX13_sizeWith s.heap 0 0 [(r0, 15, 0, .ref zs), (r0, 15, 1, .ref zn), (r0, 15, 2, .ref za), (r0, 15, 3, .ref zb), (r0, 15, 4, .ref zc), (r0, 15, 14, .ref zy)] [(r3, 169, n3, ca 1, T), (zs, 150, 120000, ca 1, C.s), (zn, 151, 120000, ca 1, C.n), (za, 152, 120000, ca 1, C.a), (zb, 153, 120000, ca 1, C.b), (zc, 154, 120000, ca 1, C.c), (zy, 165, 16, ca 1, C.y)] [] H_31 locs_31 := ((hh.call hb_311 hb_312 hb_313 hb_314 hS_31 rfl (L1 := [(r0, 15, 0, .ref zs), (r0, 15, 1, .ref zn), (r0, 15, 2, .ref za), (r0, 15, 3, .ref zb), (r0, 15, 4, .ref zc), (r0, 15, 14, .ref zy)]) [0, 1, 2, 3, 4, 5] rfl rfl (M1 := [(r3, 169, n3, ca 1, T), (zs, 150, 120000, ca 1, C.s), (zn, 151, 120000, ca 1, C.n), (za, 152, 120000, ca 1, C.a), (zb, 153, 120000, ca 1, C.b), (zc, 154, 120000, ca 1, C.c), (zy, 165, 16, ca 1, C.y)]) [0, 1, 2, 3, 4, 5, 6] rfl rfl (I1 := []) [] rfl rfl).more hb_315)
        clear hh ht_31 hvm_31 hz_31 hk_31 hS_31 hb_311 hb_312 hb_313 hb_314 hb_315
        rw [hQ]
        exact W.iret (v := r_32) hx hb hr (fun t ht hW => ⟨⟨r_32, (), rfl, by show (r_32).toInt = _; first | (rw [jSw_step (T := T) (m := a4.toInt) hp0 (by omega) a2.toInt, if_pos (by omega), hr_32, hqz_30, hqz_27]) | (rw [hst, show jPts C a1.toInt = (zz_none).toInt by omega]; omega), hh_31.rt (M1 := []) [] rfl ht⟩, by rw [ht]; try exact hh_31.1.1, fun q h9 hq => by rw [ht]; try exact hh_31.1.2.1 q h9 hq⟩) hh_31.1.2.2 dX13_sizeWith_53
theorem aX13_sizeWith (l : Launch) (dC : Nat → ClassId) (dI : Nat → Nat → Nat) (ca : Nat → ClassId) (base : Nat) (B : jF) (hB : jBok B) (hAp : jAp (dC, dI)) (hB15 : ∀ n G a H, B 15 n G a H ↔ jOb (dC, dI) 15 50 (F15 n G) a H) (hB150 : ∀ n G a H, B 150 n G a H ↔ jAr (dC, dI) (ca 1) (fun j z => True) n a H) (hB151 : ∀ n G a H, B 151 n G a H ↔ jAr (dC, dI) (ca 1) (fun j z => True) n a H) (hB152 : ∀ n G a H, B 152 n G a H ↔ jAr (dC, dI) (ca 1) (fun j z => True) n a H) (hB153 : ∀ n G a H, B 153 n G a H ↔ jAr (dC, dI) (ca 1) (fun j z => True) n a H) (hB154 : ∀ n G a H, B 154 n G a H ↔ jAr (dC, dI) (ca 1) (fun j z => True) n a H) (hB165 : ∀ n G a H, B 165 n G a H ↔ jAr (dC, dI) (ca 1) (fun j z => 0 ≤ z.toInt ∧ z.toInt ≤ 3) n a H) (hB169 : ∀ n G a H, B 169 n G a H ↔ jAr (dC, dI) (ca 1) (fun j z => True) n a H) : ∀ ef, qX13_sizeWith l dC dI ca base B ef := fun ef => Nat.strongRecOn ef (fun e ih => fun G0 H0 r0 a1 a2 r3 a4 n3 zs zn za zb zc zy T C => uX13_sizeWith l dC dI ca base B hB hAp hB15 hB150 hB151 hB152 hB153 hB154 hB165 hB169 e ih G0 H0 r0 a1 a2 r3 a4 n3 zs zn za zb zc zy T C)
end
