section
theorem jT90 : ∀ w ∈ jTl90, w ∈ jWl := fun w h => jT89 w (List.mem_append_right _ h)
theorem jT91 : ∀ w ∈ jTl91, w ∈ jWl := fun w h => jT90 w (List.mem_append_right _ h)
theorem jT92 : ∀ w ∈ jTl92, w ∈ jWl := fun w h => jT91 w (List.mem_append_right _ h)
theorem jT93 : ∀ w ∈ jTl93, w ∈ jWl := fun w h => jT92 w (List.mem_append_right _ h)
theorem jT94 : ∀ w ∈ jTl94, w ∈ jWl := fun w h => jT93 w (List.mem_append_right _ h)
theorem jWr_93 : ∀ w ∈ wsL_law_r93, w ∈ jWl := fun w h => jT93 w (List.mem_append_left _ h)
theorem jWr_94 : ∀ w ∈ wsL_law_r94, w ∈ jWl := fun w h => jT94 w (List.mem_append_left _ h)
end
section
theorem dX1_decode_0 : decode cX1_decode 0 = .ok (.aload_n 0, 1) := by decide +kernel
theorem dX1_decode_1 : decode cX1_decode 1 = .ok (.iconst 0, 1) := by decide +kernel
theorem dX1_decode_2 : decode cX1_decode 2 = .ok (.putfield 42, 3) := by decide +kernel
theorem dX1_decode_5 : decode cX1_decode 5 = .ok (.iconst 0, 1) := by decide +kernel
theorem dX1_decode_6 : decode cX1_decode 6 = .ok (.istore_n 3, 1) := by decide +kernel
theorem dX1_decode_7 : decode cX1_decode 7 = .ok (.iconst 0, 1) := by decide +kernel
theorem dX1_decode_8 : decode cX1_decode 8 = .ok (.istore 4, 2) := by decide +kernel
theorem dX1_decode_10 : decode cX1_decode 10 = .ok (.iload 4, 2) := by decide +kernel
theorem dX1_decode_12 : decode cX1_decode 12 = .ok (.iload_n 2, 1) := by decide +kernel
theorem dX1_decode_13 : decode cX1_decode 13 = .ok (.if_icmp .ge 152, 3) := by decide +kernel
theorem dX1_decode_16 : decode cX1_decode 16 = .ok (.iload_n 3, 1) := by decide +kernel
theorem dX1_decode_17 : decode cX1_decode 17 = .ok (.iload_n 2, 1) := by decide +kernel
theorem dX1_decode_18 : decode cX1_decode 18 = .ok (.if_icmp .ge 147, 3) := by decide +kernel
theorem dX1_decode_21 : decode cX1_decode 21 = .ok (.aload_n 1, 1) := by decide +kernel
theorem dX1_decode_22 : decode cX1_decode 22 = .ok (.iload_n 3, 1) := by decide +kernel
theorem dX1_decode_23 : decode cX1_decode 23 = .ok (.iload_n 2, 1) := by decide +kernel
theorem dX1_decode_24 : decode cX1_decode 24 = .ok (.invokestatic 56, 3) := by decide +kernel
theorem dX1_decode_27 : decode cX1_decode 27 = .ok (.istore 5, 2) := by decide +kernel
theorem dX1_decode_29 : decode cX1_decode 29 = .ok (.iload_n 3, 1) := by decide +kernel
theorem dX1_decode_30 : decode cX1_decode 30 = .ok (.iload 5, 2) := by decide +kernel
theorem dX1_decode_32 : decode cX1_decode 32 = .ok (.ifCond .ge 7, 3) := by decide +kernel
theorem dX1_decode_35 : decode cX1_decode 35 = .ok (.iconst 1, 1) := by decide +kernel
theorem dX1_decode_36 : decode cX1_decode 36 = .ok (.goto 8, 3) := by decide +kernel
theorem dX1_decode_39 : decode cX1_decode 39 = .ok (.iload 5, 2) := by decide +kernel
theorem dX1_decode_41 : decode cX1_decode 41 = .ok (.invokestatic 62, 3) := by decide +kernel
theorem dX1_decode_44 : decode cX1_decode 44 = .ok (.iadd, 1) := by decide +kernel
theorem dX1_decode_45 : decode cX1_decode 45 = .ok (.istore_n 3, 1) := by decide +kernel
theorem dX1_decode_46 : decode cX1_decode 46 = .ok (.iload 5, 2) := by decide +kernel
theorem dX1_decode_48 : decode cX1_decode 48 = .ok (.ldc 65, 2) := by decide +kernel
theorem dX1_decode_50 : decode cX1_decode 50 = .ok (.if_icmp .lt 7, 3) := by decide +kernel
theorem dX1_decode_53 : decode cX1_decode 53 = .ok (.iconst 2, 1) := by decide +kernel
theorem dX1_decode_54 : decode cX1_decode 54 = .ok (.goto 4, 3) := by decide +kernel
theorem dX1_decode_57 : decode cX1_decode 57 = .ok (.iconst 1, 1) := by decide +kernel
theorem dX1_decode_58 : decode cX1_decode 58 = .ok (.istore 6, 2) := by decide +kernel
theorem dX1_decode_60 : decode cX1_decode 60 = .ok (.aload_n 0, 1) := by decide +kernel
theorem dX1_decode_61 : decode cX1_decode 61 = .ok (.getfield 42, 3) := by decide +kernel
theorem dX1_decode_64 : decode cX1_decode 64 = .ok (.iload 6, 2) := by decide +kernel
theorem dX1_decode_66 : decode cX1_decode 66 = .ok (.iadd, 1) := by decide +kernel
theorem dX1_decode_67 : decode cX1_decode 67 = .ok (.sipush 1500, 3) := by decide +kernel
theorem dX1_decode_70 : decode cX1_decode 70 = .ok (.if_icmp .le 5, 3) := by decide +kernel
theorem dX1_decode_73 : decode cX1_decode 73 = .ok (.iconst 0, 1) := by decide +kernel
theorem dX1_decode_74 : decode cX1_decode 74 = .ok (.ireturn, 1) := by decide +kernel
theorem dX1_decode_75 : decode cX1_decode 75 = .ok (.iload 6, 2) := by decide +kernel
theorem dX1_decode_77 : decode cX1_decode 77 = .ok (.iconst 2, 1) := by decide +kernel
theorem dX1_decode_78 : decode cX1_decode 78 = .ok (.if_icmp .ne 49, 3) := by decide +kernel
theorem dX1_decode_81 : decode cX1_decode 81 = .ok (.aload_n 0, 1) := by decide +kernel
theorem dX1_decode_82 : decode cX1_decode 82 = .ok (.getfield 15, 3) := by decide +kernel
theorem dX1_decode_85 : decode cX1_decode 85 = .ok (.aload_n 0, 1) := by decide +kernel
theorem dX1_decode_86 : decode cX1_decode 86 = .ok (.getfield 42, 3) := by decide +kernel
theorem dX1_decode_89 : decode cX1_decode 89 = .ok (.ldc 66, 2) := by decide +kernel
theorem dX1_decode_91 : decode cX1_decode 91 = .ok (.iload 5, 2) := by decide +kernel
theorem dX1_decode_93 : decode cX1_decode 93 = .ok (.ldc 65, 2) := by decide +kernel
theorem dX1_decode_95 : decode cX1_decode 95 = .ok (.isub, 1) := by decide +kernel
theorem dX1_decode_96 : decode cX1_decode 96 = .ok (.bipush 10, 2) := by decide +kernel
theorem dX1_decode_98 : decode cX1_decode 98 = .ok (.ishr, 1) := by decide +kernel
theorem dX1_decode_99 : decode cX1_decode 99 = .ok (.iadd, 1) := by decide +kernel
theorem dX1_decode_100 : decode cX1_decode 100 = .ok (.iastore, 1) := by decide +kernel
theorem dX1_decode_101 : decode cX1_decode 101 = .ok (.aload_n 0, 1) := by decide +kernel
theorem dX1_decode_102 : decode cX1_decode 102 = .ok (.getfield 15, 3) := by decide +kernel
theorem dX1_decode_105 : decode cX1_decode 105 = .ok (.aload_n 0, 1) := by decide +kernel
theorem dX1_decode_106 : decode cX1_decode 106 = .ok (.getfield 42, 3) := by decide +kernel
theorem dX1_decode_109 : decode cX1_decode 109 = .ok (.iconst 1, 1) := by decide +kernel
theorem dX1_decode_110 : decode cX1_decode 110 = .ok (.iadd, 1) := by decide +kernel
theorem dX1_decode_111 : decode cX1_decode 111 = .ok (.ldc 67, 2) := by decide +kernel
theorem dX1_decode_113 : decode cX1_decode 113 = .ok (.iload 5, 2) := by decide +kernel
theorem dX1_decode_115 : decode cX1_decode 115 = .ok (.ldc 65, 2) := by decide +kernel
theorem dX1_decode_117 : decode cX1_decode 117 = .ok (.isub, 1) := by decide +kernel
theorem dX1_decode_118 : decode cX1_decode 118 = .ok (.sipush 1023, 3) := by decide +kernel
theorem dX1_decode_121 : decode cX1_decode 121 = .ok (.iand, 1) := by decide +kernel
theorem dX1_decode_122 : decode cX1_decode 122 = .ok (.iadd, 1) := by decide +kernel
theorem dX1_decode_123 : decode cX1_decode 123 = .ok (.iastore, 1) := by decide +kernel
theorem dX1_decode_124 : decode cX1_decode 124 = .ok (.goto 24, 3) := by decide +kernel
theorem dX1_decode_127 : decode cX1_decode 127 = .ok (.aload_n 0, 1) := by decide +kernel
theorem dX1_decode_128 : decode cX1_decode 128 = .ok (.getfield 15, 3) := by decide +kernel
theorem dX1_decode_131 : decode cX1_decode 131 = .ok (.aload_n 0, 1) := by decide +kernel
theorem dX1_decode_132 : decode cX1_decode 132 = .ok (.getfield 42, 3) := by decide +kernel
theorem dX1_decode_135 : decode cX1_decode 135 = .ok (.iload 5, 2) := by decide +kernel
theorem dX1_decode_137 : decode cX1_decode 137 = .ok (.ifCond .ge 8, 3) := by decide +kernel
theorem dX1_decode_140 : decode cX1_decode 140 = .ok (.ldc 68, 2) := by decide +kernel
theorem dX1_decode_142 : decode cX1_decode 142 = .ok (.goto 5, 3) := by decide +kernel
theorem dX1_decode_145 : decode cX1_decode 145 = .ok (.iload 5, 2) := by decide +kernel
theorem dX1_decode_147 : decode cX1_decode 147 = .ok (.iastore, 1) := by decide +kernel
theorem dX1_decode_148 : decode cX1_decode 148 = .ok (.aload_n 0, 1) := by decide +kernel
theorem dX1_decode_149 : decode cX1_decode 149 = .ok (.dup, 1) := by decide +kernel
theorem dX1_decode_150 : decode cX1_decode 150 = .ok (.getfield 42, 3) := by decide +kernel
theorem dX1_decode_153 : decode cX1_decode 153 = .ok (.iload 6, 2) := by decide +kernel
theorem dX1_decode_155 : decode cX1_decode 155 = .ok (.iadd, 1) := by decide +kernel
theorem dX1_decode_156 : decode cX1_decode 156 = .ok (.putfield 42, 3) := by decide +kernel
theorem dX1_decode_159 : decode cX1_decode 159 = .ok (.iinc 4 1, 3) := by decide +kernel
theorem dX1_decode_162 : decode cX1_decode 162 = .ok (.goto (-152), 3) := by decide +kernel
theorem dX1_decode_165 : decode cX1_decode 165 = .ok (.iconst 1, 1) := by decide +kernel
theorem dX1_decode_166 : decode cX1_decode 166 = .ok (.ireturn, 1) := by decide +kernel
end
section
-- the documents of the class: sentences in order, and what is still to be checked of the open ones
section J41
variable {dC : Nat → ClassId} {dI : Nat → Nat → Nat} {ca : Nat → ClassId} {G G1 : jT} {H H1 : Heap} {x : Option Nat} {ph : Nat}
theorem jEd.to {fe : Nat → Int32} {k k1 x : Int} (h : jEd fe (k + 1) = x) (e : k1 = k + 1) : jEd fe k1 = x := by
  rw [e]
  exact h
end J41
end
