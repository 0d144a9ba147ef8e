section
theorem dX14_feed_0 : decode cX14_feed 0 = .ok (.aload_n 0, 1) := by decide +kernel
theorem dX14_feed_1 : decode cX14_feed 1 = .ok (.getfield 217, 3) := by decide +kernel
theorem dX14_feed_4 : decode cX14_feed 4 = .ok (.bipush 20, 2) := by decide +kernel
theorem dX14_feed_6 : decode cX14_feed 6 = .ok (.iadd, 1) := by decide +kernel
theorem dX14_feed_7 : decode cX14_feed 7 = .ok (.sipush 4000, 3) := by decide +kernel
theorem dX14_feed_10 : decode cX14_feed 10 = .ok (.if_icmp .le 5, 3) := by decide +kernel
theorem dX14_feed_13 : decode cX14_feed 13 = .ok (.iconst (-1), 1) := by decide +kernel
theorem dX14_feed_14 : decode cX14_feed 14 = .ok (.ireturn, 1) := by decide +kernel
theorem dX14_feed_15 : decode cX14_feed 15 = .ok (.iconst 0, 1) := by decide +kernel
theorem dX14_feed_16 : decode cX14_feed 16 = .ok (.istore 6, 2) := by decide +kernel
theorem dX14_feed_18 : decode cX14_feed 18 = .ok (.iload 6, 2) := by decide +kernel
theorem dX14_feed_20 : decode cX14_feed 20 = .ok (.bipush 20, 2) := by decide +kernel
theorem dX14_feed_22 : decode cX14_feed 22 = .ok (.if_icmp .ge 86, 3) := by decide +kernel
theorem dX14_feed_25 : decode cX14_feed 25 = .ok (.iload 6, 2) := by decide +kernel
theorem dX14_feed_27 : decode cX14_feed 27 = .ok (.iconst 4, 1) := by decide +kernel
theorem dX14_feed_28 : decode cX14_feed 28 = .ok (.if_icmp .ge 7, 3) := by decide +kernel
theorem dX14_feed_31 : decode cX14_feed 31 = .ok (.iload_n 1, 1) := by decide +kernel
theorem dX14_feed_32 : decode cX14_feed 32 = .ok (.goto 39, 3) := by decide +kernel
theorem dX14_feed_35 : decode cX14_feed 35 = .ok (.iload 6, 2) := by decide +kernel
theorem dX14_feed_37 : decode cX14_feed 37 = .ok (.bipush 8, 2) := by decide +kernel
theorem dX14_feed_39 : decode cX14_feed 39 = .ok (.if_icmp .ge 7, 3) := by decide +kernel
theorem dX14_feed_42 : decode cX14_feed 42 = .ok (.iload_n 2, 1) := by decide +kernel
theorem dX14_feed_43 : decode cX14_feed 43 = .ok (.goto 28, 3) := by decide +kernel
theorem dX14_feed_46 : decode cX14_feed 46 = .ok (.iload 6, 2) := by decide +kernel
theorem dX14_feed_48 : decode cX14_feed 48 = .ok (.bipush 12, 2) := by decide +kernel
theorem dX14_feed_50 : decode cX14_feed 50 = .ok (.if_icmp .ge 7, 3) := by decide +kernel
theorem dX14_feed_53 : decode cX14_feed 53 = .ok (.iload_n 3, 1) := by decide +kernel
theorem dX14_feed_54 : decode cX14_feed 54 = .ok (.goto 17, 3) := by decide +kernel
theorem dX14_feed_57 : decode cX14_feed 57 = .ok (.iload 6, 2) := by decide +kernel
theorem dX14_feed_59 : decode cX14_feed 59 = .ok (.bipush 16, 2) := by decide +kernel
theorem dX14_feed_61 : decode cX14_feed 61 = .ok (.if_icmp .ge 8, 3) := by decide +kernel
theorem dX14_feed_64 : decode cX14_feed 64 = .ok (.iload 4, 2) := by decide +kernel
theorem dX14_feed_66 : decode cX14_feed 66 = .ok (.goto 5, 3) := by decide +kernel
theorem dX14_feed_69 : decode cX14_feed 69 = .ok (.iload 5, 2) := by decide +kernel
theorem dX14_feed_71 : decode cX14_feed 71 = .ok (.istore 7, 2) := by decide +kernel
theorem dX14_feed_73 : decode cX14_feed 73 = .ok (.aload_n 0, 1) := by decide +kernel
theorem dX14_feed_74 : decode cX14_feed 74 = .ok (.getfield 9, 3) := by decide +kernel
theorem dX14_feed_77 : decode cX14_feed 77 = .ok (.aload_n 0, 1) := by decide +kernel
theorem dX14_feed_78 : decode cX14_feed 78 = .ok (.getfield 217, 3) := by decide +kernel
theorem dX14_feed_81 : decode cX14_feed 81 = .ok (.iload 6, 2) := by decide +kernel
theorem dX14_feed_83 : decode cX14_feed 83 = .ok (.iadd, 1) := by decide +kernel
theorem dX14_feed_84 : decode cX14_feed 84 = .ok (.iload 7, 2) := by decide +kernel
theorem dX14_feed_86 : decode cX14_feed 86 = .ok (.bipush 24, 2) := by decide +kernel
theorem dX14_feed_88 : decode cX14_feed 88 = .ok (.bipush 8, 2) := by decide +kernel
theorem dX14_feed_90 : decode cX14_feed 90 = .ok (.iload 6, 2) := by decide +kernel
theorem dX14_feed_92 : decode cX14_feed 92 = .ok (.iconst 4, 1) := by decide +kernel
theorem dX14_feed_93 : decode cX14_feed 93 = .ok (.irem, 1) := by decide +kernel
theorem dX14_feed_94 : decode cX14_feed 94 = .ok (.imul, 1) := by decide +kernel
theorem dX14_feed_95 : decode cX14_feed 95 = .ok (.isub, 1) := by decide +kernel
theorem dX14_feed_96 : decode cX14_feed 96 = .ok (.ishr, 1) := by decide +kernel
theorem dX14_feed_97 : decode cX14_feed 97 = .ok (.sipush 255, 3) := by decide +kernel
theorem dX14_feed_100 : decode cX14_feed 100 = .ok (.iand, 1) := by decide +kernel
theorem dX14_feed_101 : decode cX14_feed 101 = .ok (.iastore, 1) := by decide +kernel
theorem dX14_feed_102 : decode cX14_feed 102 = .ok (.iinc 6 1, 3) := by decide +kernel
theorem dX14_feed_105 : decode cX14_feed 105 = .ok (.goto (-87), 3) := by decide +kernel
theorem dX14_feed_108 : decode cX14_feed 108 = .ok (.aload_n 0, 1) := by decide +kernel
theorem dX14_feed_109 : decode cX14_feed 109 = .ok (.dup, 1) := by decide +kernel
theorem dX14_feed_110 : decode cX14_feed 110 = .ok (.getfield 217, 3) := by decide +kernel
theorem dX14_feed_113 : decode cX14_feed 113 = .ok (.bipush 20, 2) := by decide +kernel
theorem dX14_feed_115 : decode cX14_feed 115 = .ok (.iadd, 1) := by decide +kernel
theorem dX14_feed_116 : decode cX14_feed 116 = .ok (.putfield 217, 3) := by decide +kernel
theorem dX14_feed_119 : decode cX14_feed 119 = .ok (.aload_n 0, 1) := by decide +kernel
theorem dX14_feed_120 : decode cX14_feed 120 = .ok (.getfield 217, 3) := by decide +kernel
theorem dX14_feed_123 : decode cX14_feed 123 = .ok (.ireturn, 1) := by decide +kernel
end
section
-- p11: bits; the tape on both sides; bytes read as UTF-8; the text that comes of them
/-- feed on one side -/
def jVff (f g : Nat → Int32) (p q a b c d e : Int) : Prop := (3980 < p ∧ q = p ∧ g = f) ∨ (p ≤ 3980 ∧ q = p + 20 ∧ jVfd f g p a b c d e 20)
section JP1
variable {p : Program} {l : Launch} {e : Env} {R : Room} {s : State} {m : MethodId} {args : Array Value} {below : List Frame} {meth : Method} {c : Code} {H : Heap} {locs : List Loc} {cells slots : Nat} {Q : State → Prop}
variable {cc : ByteArray} {pc : Nat} {ls : Array Slot} {rest : List Value} {D : va_G} {cl : List vw_C} {A : Nat → Prop} {a : Nat} {tys : List (ClassId × FieldType)}
end JP1
section JP2
variable {p : Program} {l : Launch} {e : Env} {R : Room} {s : State} {m : MethodId} {args : Array Value} {below : List Frame} {meth : Method} {c : Code} {H : Heap} {locs : List Loc} {cells slots : Nat} {Q : State → Prop}
variable {cc : ByteArray} {pc : Nat} {ls : Array Slot} {rest : List Value} {dC : Nat → ClassId} {dI : Nat → Nat → Nat} {ca : Nat → ClassId} {B : jF} {base : Nat} {G0 G : jT} {E : List (Nat × Nat)} {H0 : Heap} {zc zs : Nat} {L : List jPin} {M : List jCt} {I : List jIv} {a k n : Nat} {cA : ClassId} {tys : List (ClassId × FieldType)}
end JP2
end
