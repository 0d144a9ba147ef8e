section
theorem jWr_11 : ∀ w ∈ wsL_law_r11, w ∈ jWl := fun w h => jT11 w (List.mem_append_left _ h)
theorem jWr_12 : ∀ w ∈ wsL_law_r12, w ∈ jWl := fun w h => jT12 w (List.mem_append_left _ h)
theorem jWr_13 : ∀ w ∈ wsL_law_r13, w ∈ jWl := fun w h => jT13 w (List.mem_append_left _ h)
theorem jWr_14 : ∀ w ∈ wsL_law_r14, w ∈ jWl := fun w h => jT14 w (List.mem_append_left _ h)
theorem jWc_wsX140 : ∀ w ∈ wsX140, w ∈ jWl := fun w h => (List.mem_append_left _ (List.mem_append_left _ (List.mem_append_left _ (List.mem_append_left _ (List.mem_append_left _ (List.mem_append_left _ (List.mem_append_left _ (List.mem_append_left _ (List.mem_append_left _ (List.mem_append_left _ (List.mem_append_left _ (List.mem_append_left _ (List.mem_append_left _ (List.mem_append_left _ (List.mem_append_left _ (List.mem_append_left _ (List.mem_append_right _ h)))))))))))))))))
theorem jWc_wsJ40 : ∀ w ∈ wsJ40, w ∈ jWl := fun w h => (List.mem_append_left _ (List.mem_append_left _ (List.mem_append_left _ (List.mem_append_left _ (List.mem_append_left _ (List.mem_append_right _ h))))))
theorem jWc_wsX120 : ∀ w ∈ wsX120, w ∈ jWl := fun w h => (List.mem_append_left _ (List.mem_append_left _ (List.mem_append_left _ (List.mem_append_left _ (List.mem_append_right _ h)))))
theorem jWc_wsX130 : ∀ w ∈ wsX130, w ∈ jWl := fun w h => (List.mem_append_left _ (List.mem_append_left _ (List.mem_append_left _ (List.mem_append_right _ h))))
end
section
-- formulas of the reference's kernel as rows of numbers: what a node is, its size, likeness, counting, putting in
section J12
variable {p : Program} {l : Launch} {e : Env} {R : Room} {s : State} {m : MethodId} {args : Array Value} {below : List Frame} {meth : Method} {c : Code} {H : Heap} {locs : List Loc} {cells slots : Nat} {Q : State → Prop}
variable {cc : ByteArray} {pc : Nat} {ls : Array Slot} {rest : List Value} {dC : Nat → ClassId} {dI : Nat → Nat → Nat} {ca : Nat → ClassId} {B : jF} {base : Nat} {G0 G : jT} {E : List (Nat × Nat)} {H0 : Heap} {zc zs : Nat} {L : List jPin} {M : List jCt} {I : List jIv} {a k n : Nat} {P : Nat → Int32 → Prop} {cA : ClassId} {tys : List (ClassId × FieldType)}
theorem jSt.moreM (hh : jSt (dC, dI) B base G0 G E H0 zc zs L M I H locs) {M1 : List jCt} (h : jMc (dC, dI) G H M1) : jSt (dC, dI) B base G0 G E H0 zc zs L (M1 ++ M) I H locs := by
  obtain ⟨h1, h2, h3, h4, h5, h6, h7, h8, h9⟩ := hh
  exact ⟨h1, h2, h3, h4, h5, h6, h7, fun q hq => (List.mem_append.mp hq).elim (h q) (h8 q), h9⟩
end J12
end
section
-- the kernel at the beginning
theorem jKi.zero {C : jK} {pn py pf pg pp pl : Int} {ff fg fh fp : Nat → Int32} (h1 : pn = 0) (h2 : py = 0) (h3 : pf = 0) (h4 : pg = 0) (h5 : pp = 0) : jKi C pn py pf pg pp pl ff fg fh fp := ⟨by omega, by omega, by omega, by omega, by omega, by omega, by omega, fun k q0 q1 => by omega, fun k q0 q1 => by omega, fun q => by omega⟩
end
section
-- new objects: raw while they are made, typed when they are whole
/-- an inner constructor, whose object came later -/
theorem jKx.in {r a : Nat} {G0 G G1 : jT} {H0 H H1 : Heap} (h : jKx r G0 G H0 H) (h1 : jKx a G G1 H H1) (ha : H0.size ≤ a) : jKx r G0 G1 H0 H1 :=
  ⟨fun q hq hn => (h1.1 q (jLtz hq (h.1 q hq hn)) (by omega)).trans (h.1 q hq hn), fun q t hq hn hg => h.2 q t hq hn (h1.2 q t (jLtz hq (h.1 q hq hn)) (by omega) hg)⟩
theorem jKe.in {a : Nat} {G0 G G1 : jT} {H0 H H1 : Heap} (h : jKe G0 G H0 H) (h1 : jKx a G G1 H H1) (ha : H0.size ≤ a) : jKe G0 G1 H0 H1 :=
  ⟨fun q hq => (h1.1 q (jLtz hq (h.1 q hq)) (by omega)).trans (h.1 q hq), fun q t hq hg => h.2 q t hq (h1.2 q t (jLtz hq (h.1 q hq)) (by omega) hg)⟩
section J20
variable {p : Program} {l : Launch} {e : Env} {R : Room} {s : State} {m : MethodId} {args : Array Value} {below : List Frame} {meth : Method} {c : Code} {H : Heap} {locs : List Loc} {cells slots : Nat} {Q : State → Prop}
variable {cc : ByteArray} {pc : Nat} {ls : Array Slot} {rest : List Value} {dC : Nat → ClassId} {dI : Nat → Nat → Nat} {ca : Nat → ClassId} {B : jF} {base : Nat} {G0 G : jT} {E : List (Nat × Nat)} {H0 : Heap} {zc zs : Nat} {L : List jPin} {M : List jCt} {I : List jIv} {a k n i index N : Nat} {tys : List (ClassId × FieldType)} {own C : String} {T : u_T} {fs : List Value}
end J20
-- all growing Bytes hold no more than they have room for
end
section
theorem dX12_init_0 : decode cX12_init 0 = .ok (.aload_n 0, 1) := by decide +kernel
theorem dX12_init_1 : decode cX12_init 1 = .ok (.invokespecial 3, 3) := by decide +kernel
theorem dX12_init_4 : decode cX12_init 4 = .ok (.aload_n 0, 1) := by decide +kernel
theorem dX12_init_5 : decode cX12_init 5 = .ok (.bipush 40, 2) := by decide +kernel
theorem dX12_init_7 : decode cX12_init 7 = .ok (.newarray .int, 2) := by decide +kernel
theorem dX12_init_9 : decode cX12_init 9 = .ok (.putfield 9, 3) := by decide +kernel
theorem dX12_init_12 : decode cX12_init 12 = .ok (.aload_n 0, 1) := by decide +kernel
theorem dX12_init_13 : decode cX12_init 13 = .ok (.sipush 1500, 3) := by decide +kernel
theorem dX12_init_16 : decode cX12_init 16 = .ok (.newarray .int, 2) := by decide +kernel
theorem dX12_init_18 : decode cX12_init 18 = .ok (.putfield 15, 3) := by decide +kernel
theorem dX12_init_21 : decode cX12_init 21 = .ok (.aload_n 0, 1) := by decide +kernel
theorem dX12_init_22 : decode cX12_init 22 = .ok (.bipush 40, 2) := by decide +kernel
theorem dX12_init_24 : decode cX12_init 24 = .ok (.newarray .int, 2) := by decide +kernel
theorem dX12_init_26 : decode cX12_init 26 = .ok (.putfield 18, 3) := by decide +kernel
theorem dX12_init_29 : decode cX12_init 29 = .ok (.aload_n 0, 1) := by decide +kernel
theorem dX12_init_30 : decode cX12_init 30 = .ok (.bipush 40, 2) := by decide +kernel
theorem dX12_init_32 : decode cX12_init 32 = .ok (.newarray .int, 2) := by decide +kernel
theorem dX12_init_34 : decode cX12_init 34 = .ok (.putfield 21, 3) := by decide +kernel
theorem dX12_init_37 : decode cX12_init 37 = .ok (.aload_n 0, 1) := by decide +kernel
theorem dX12_init_38 : decode cX12_init 38 = .ok (.bipush 40, 2) := by decide +kernel
theorem dX12_init_40 : decode cX12_init 40 = .ok (.newarray .int, 2) := by decide +kernel
theorem dX12_init_42 : decode cX12_init 42 = .ok (.putfield 24, 3) := by decide +kernel
theorem dX12_init_45 : decode cX12_init 45 = .ok (.aload_n 0, 1) := by decide +kernel
theorem dX12_init_46 : decode cX12_init 46 = .ok (.bipush 40, 2) := by decide +kernel
theorem dX12_init_48 : decode cX12_init 48 = .ok (.newarray .int, 2) := by decide +kernel
theorem dX12_init_50 : decode cX12_init 50 = .ok (.putfield 27, 3) := by decide +kernel
theorem dX12_init_53 : decode cX12_init 53 = .ok (.return_, 1) := by decide +kernel
theorem dX13_init_0 : decode cX13_init 0 = .ok (.aload_n 0, 1) := by decide +kernel
theorem dX13_init_1 : decode cX13_init 1 = .ok (.invokespecial 3, 3) := by decide +kernel
theorem dX13_init_4 : decode cX13_init 4 = .ok (.aload_n 0, 1) := by decide +kernel
theorem dX13_init_5 : decode cX13_init 5 = .ok (.ldc 11, 2) := by decide +kernel
theorem dX13_init_7 : decode cX13_init 7 = .ok (.newarray .int, 2) := by decide +kernel
theorem dX13_init_9 : decode cX13_init 9 = .ok (.putfield 12, 3) := by decide +kernel
theorem dX13_init_12 : decode cX13_init 12 = .ok (.aload_n 0, 1) := by decide +kernel
theorem dX13_init_13 : decode cX13_init 13 = .ok (.ldc 11, 2) := by decide +kernel
theorem dX13_init_15 : decode cX13_init 15 = .ok (.newarray .int, 2) := by decide +kernel
theorem dX13_init_17 : decode cX13_init 17 = .ok (.putfield 16, 3) := by decide +kernel
theorem dX13_init_20 : decode cX13_init 20 = .ok (.aload_n 0, 1) := by decide +kernel
theorem dX13_init_21 : decode cX13_init 21 = .ok (.ldc 11, 2) := by decide +kernel
theorem dX13_init_23 : decode cX13_init 23 = .ok (.newarray .int, 2) := by decide +kernel
theorem dX13_init_25 : decode cX13_init 25 = .ok (.putfield 19, 3) := by decide +kernel
theorem dX13_init_28 : decode cX13_init 28 = .ok (.aload_n 0, 1) := by decide +kernel
theorem dX13_init_29 : decode cX13_init 29 = .ok (.ldc 11, 2) := by decide +kernel
theorem dX13_init_31 : decode cX13_init 31 = .ok (.newarray .int, 2) := by decide +kernel
theorem dX13_init_33 : decode cX13_init 33 = .ok (.putfield 22, 3) := by decide +kernel
theorem dX13_init_36 : decode cX13_init 36 = .ok (.aload_n 0, 1) := by decide +kernel
theorem dX13_init_37 : decode cX13_init 37 = .ok (.ldc 11, 2) := by decide +kernel
theorem dX13_init_39 : decode cX13_init 39 = .ok (.newarray .int, 2) := by decide +kernel
theorem dX13_init_41 : decode cX13_init 41 = .ok (.putfield 25, 3) := by decide +kernel
theorem dX13_init_44 : decode cX13_init 44 = .ok (.aload_n 0, 1) := by decide +kernel
theorem dX13_init_45 : decode cX13_init 45 = .ok (.sipush 12000, 3) := by decide +kernel
theorem dX13_init_48 : decode cX13_init 48 = .ok (.newarray .int, 2) := by decide +kernel
theorem dX13_init_50 : decode cX13_init 50 = .ok (.putfield 28, 3) := by decide +kernel
theorem dX13_init_53 : decode cX13_init 53 = .ok (.aload_n 0, 1) := by decide +kernel
theorem dX13_init_54 : decode cX13_init 54 = .ok (.sipush 1600, 3) := by decide +kernel
theorem dX13_init_57 : decode cX13_init 57 = .ok (.newarray .int, 2) := by decide +kernel
theorem dX13_init_59 : decode cX13_init 59 = .ok (.putfield 31, 3) := by decide +kernel
theorem dX13_init_62 : decode cX13_init 62 = .ok (.aload_n 0, 1) := by decide +kernel
theorem dX13_init_63 : decode cX13_init 63 = .ok (.sipush 1600, 3) := by decide +kernel
theorem dX13_init_66 : decode cX13_init 66 = .ok (.newarray .int, 2) := by decide +kernel
theorem dX13_init_68 : decode cX13_init 68 = .ok (.putfield 34, 3) := by decide +kernel
theorem dX13_init_71 : decode cX13_init 71 = .ok (.aload_n 0, 1) := by decide +kernel
theorem dX13_init_72 : decode cX13_init 72 = .ok (.bipush 16, 2) := by decide +kernel
theorem dX13_init_74 : decode cX13_init 74 = .ok (.newarray .int, 2) := by decide +kernel
theorem dX13_init_76 : decode cX13_init 76 = .ok (.putfield 37, 3) := by decide +kernel
theorem dX13_init_79 : decode cX13_init 79 = .ok (.aload_n 0, 1) := by decide +kernel
theorem dX13_init_80 : decode cX13_init 80 = .ok (.bipush 16, 2) := by decide +kernel
theorem dX13_init_82 : decode cX13_init 82 = .ok (.newarray .boolean, 2) := by decide +kernel
theorem dX13_init_84 : decode cX13_init 84 = .ok (.putfield 40, 3) := by decide +kernel
theorem dX13_init_87 : decode cX13_init 87 = .ok (.aload_n 0, 1) := by decide +kernel
theorem dX13_init_88 : decode cX13_init 88 = .ok (.bipush 16, 2) := by decide +kernel
theorem dX13_init_90 : decode cX13_init 90 = .ok (.newarray .int, 2) := by decide +kernel
theorem dX13_init_92 : decode cX13_init 92 = .ok (.putfield 44, 3) := by decide +kernel
theorem dX13_init_95 : decode cX13_init 95 = .ok (.aload_n 0, 1) := by decide +kernel
theorem dX13_init_96 : decode cX13_init 96 = .ok (.bipush 16, 2) := by decide +kernel
theorem dX13_init_98 : decode cX13_init 98 = .ok (.newarray .int, 2) := by decide +kernel
theorem dX13_init_100 : decode cX13_init 100 = .ok (.putfield 47, 3) := by decide +kernel
theorem dX13_init_103 : decode cX13_init 103 = .ok (.aload_n 0, 1) := by decide +kernel
theorem dX13_init_104 : decode cX13_init 104 = .ok (.bipush 16, 2) := by decide +kernel
theorem dX13_init_106 : decode cX13_init 106 = .ok (.newarray .int, 2) := by decide +kernel
theorem dX13_init_108 : decode cX13_init 108 = .ok (.putfield 50, 3) := by decide +kernel
theorem dX13_init_111 : decode cX13_init 111 = .ok (.aload_n 0, 1) := by decide +kernel
theorem dX13_init_112 : decode cX13_init 112 = .ok (.bipush 46, 2) := by decide +kernel
theorem dX13_init_114 : decode cX13_init 114 = .ok (.newarray .int, 2) := by decide +kernel
theorem dX13_init_116 : decode cX13_init 116 = .ok (.putfield 53, 3) := by decide +kernel
theorem dX13_init_119 : decode cX13_init 119 = .ok (.aload_n 0, 1) := by decide +kernel
theorem dX13_init_120 : decode cX13_init 120 = .ok (.bipush 46, 2) := by decide +kernel
theorem dX13_init_122 : decode cX13_init 122 = .ok (.newarray .int, 2) := by decide +kernel
theorem dX13_init_124 : decode cX13_init 124 = .ok (.putfield 56, 3) := by decide +kernel
theorem dX13_init_127 : decode cX13_init 127 = .ok (.aload_n 0, 1) := by decide +kernel
theorem dX13_init_128 : decode cX13_init 128 = .ok (.sipush 276, 3) := by decide +kernel
theorem dX13_init_131 : decode cX13_init 131 = .ok (.newarray .int, 2) := by decide +kernel
theorem dX13_init_133 : decode cX13_init 133 = .ok (.putfield 59, 3) := by decide +kernel
theorem dX13_init_136 : decode cX13_init 136 = .ok (.aload_n 0, 1) := by decide +kernel
theorem dX13_init_137 : decode cX13_init 137 = .ok (.bipush 46, 2) := by decide +kernel
theorem dX13_init_139 : decode cX13_init 139 = .ok (.newarray .int, 2) := by decide +kernel
theorem dX13_init_141 : decode cX13_init 141 = .ok (.putfield 62, 3) := by decide +kernel
theorem dX13_init_144 : decode cX13_init 144 = .ok (.aload_n 0, 1) := by decide +kernel
theorem dX13_init_145 : decode cX13_init 145 = .ok (.sipush 368, 3) := by decide +kernel
theorem dX13_init_148 : decode cX13_init 148 = .ok (.newarray .int, 2) := by decide +kernel
theorem dX13_init_150 : decode cX13_init 150 = .ok (.putfield 65, 3) := by decide +kernel
theorem dX13_init_153 : decode cX13_init 153 = .ok (.aload_n 0, 1) := by decide +kernel
theorem dX13_init_154 : decode cX13_init 154 = .ok (.sipush 368, 3) := by decide +kernel
theorem dX13_init_157 : decode cX13_init 157 = .ok (.newarray .int, 2) := by decide +kernel
theorem dX13_init_159 : decode cX13_init 159 = .ok (.putfield 68, 3) := by decide +kernel
theorem dX13_init_162 : decode cX13_init 162 = .ok (.aload_n 0, 1) := by decide +kernel
theorem dX13_init_163 : decode cX13_init 163 = .ok (.sipush 1500, 3) := by decide +kernel
theorem dX13_init_166 : decode cX13_init 166 = .ok (.newarray .int, 2) := by decide +kernel
theorem dX13_init_168 : decode cX13_init 168 = .ok (.putfield 71, 3) := by decide +kernel
theorem dX13_init_171 : decode cX13_init 171 = .ok (.aload_n 0, 1) := by decide +kernel
theorem dX13_init_172 : decode cX13_init 172 = .ok (.sipush 1500, 3) := by decide +kernel
theorem dX13_init_175 : decode cX13_init 175 = .ok (.newarray .int, 2) := by decide +kernel
theorem dX13_init_177 : decode cX13_init 177 = .ok (.putfield 74, 3) := by decide +kernel
theorem dX13_init_180 : decode cX13_init 180 = .ok (.aload_n 0, 1) := by decide +kernel
theorem dX13_init_181 : decode cX13_init 181 = .ok (.sipush 200, 3) := by decide +kernel
theorem dX13_init_184 : decode cX13_init 184 = .ok (.newarray .int, 2) := by decide +kernel
theorem dX13_init_186 : decode cX13_init 186 = .ok (.putfield 77, 3) := by decide +kernel
theorem dX13_init_189 : decode cX13_init 189 = .ok (.aload_n 0, 1) := by decide +kernel
theorem dX13_init_190 : decode cX13_init 190 = .ok (.iconst 1, 1) := by decide +kernel
theorem dX13_init_191 : decode cX13_init 191 = .ok (.newarray .int, 2) := by decide +kernel
theorem dX13_init_193 : decode cX13_init 193 = .ok (.putfield 80, 3) := by decide +kernel
theorem dX13_init_196 : decode cX13_init 196 = .ok (.aload_n 0, 1) := by decide +kernel
theorem dX13_init_197 : decode cX13_init 197 = .ok (.bipush 100, 2) := by decide +kernel
theorem dX13_init_199 : decode cX13_init 199 = .ok (.newarray .int, 2) := by decide +kernel
theorem dX13_init_201 : decode cX13_init 201 = .ok (.putfield 83, 3) := by decide +kernel
theorem dX13_init_204 : decode cX13_init 204 = .ok (.aload_n 0, 1) := by decide +kernel
theorem dX13_init_205 : decode cX13_init 205 = .ok (.bipush 100, 2) := by decide +kernel
theorem dX13_init_207 : decode cX13_init 207 = .ok (.newarray .int, 2) := by decide +kernel
theorem dX13_init_209 : decode cX13_init 209 = .ok (.putfield 86, 3) := by decide +kernel
theorem dX13_init_212 : decode cX13_init 212 = .ok (.aload_n 0, 1) := by decide +kernel
theorem dX13_init_213 : decode cX13_init 213 = .ok (.ldc 89, 2) := by decide +kernel
theorem dX13_init_215 : decode cX13_init 215 = .ok (.newarray .int, 2) := by decide +kernel
theorem dX13_init_217 : decode cX13_init 217 = .ok (.putfield 90, 3) := by decide +kernel
theorem dX13_init_220 : decode cX13_init 220 = .ok (.aload_n 0, 1) := by decide +kernel
theorem dX13_init_221 : decode cX13_init 221 = .ok (.bipush 100, 2) := by decide +kernel
theorem dX13_init_223 : decode cX13_init 223 = .ok (.newarray .int, 2) := by decide +kernel
theorem dX13_init_225 : decode cX13_init 225 = .ok (.putfield 93, 3) := by decide +kernel
theorem dX13_init_228 : decode cX13_init 228 = .ok (.aload_n 0, 1) := by decide +kernel
theorem dX13_init_229 : decode cX13_init 229 = .ok (.bipush 100, 2) := by decide +kernel
theorem dX13_init_231 : decode cX13_init 231 = .ok (.newarray .int, 2) := by decide +kernel
theorem dX13_init_233 : decode cX13_init 233 = .ok (.putfield 96, 3) := by decide +kernel
theorem dX13_init_236 : decode cX13_init 236 = .ok (.return_, 1) := by decide +kernel
def EX13_init : List (Nat × Nat) := []
set_option maxHeartbeats 4000000 in
set_option maxRecDepth 20000 in
theorem uX13_init (l : Launch) (dC : Nat → ClassId) (dI : Nat → Nat → Nat) (ca : Nat → ClassId) (base : Nat) (B : jF) (hB : jBok B) (hAp : jAp (dC, dI)) (hB15 : ∀ n G a H, B 15 n G a H ↔ jOb (dC, dI) 15 50 (F15 n G) a H) (hB101 : ∀ n G a H, B 101 n G a H ↔ jAr (dC, dI) (ca 1) (fun j z => True) n a H) (hB103 : ∀ n G a H, B 103 n G a H ↔ jAr (dC, dI) (ca 3) (fun j z => (z = 0 ∨ z = 1)) n a H) (hB150 : ∀ n G a H, B 150 n G a H ↔ jAr (dC, dI) (ca 1) (fun j z => True) n a H) (hB151 : ∀ n G a H, B 151 n G a H ↔ jAr (dC, dI) (ca 1) (fun j z => True) n a H) (hB152 : ∀ n G a H, B 152 n G a H ↔ jAr (dC, dI) (ca 1) (fun j z => True) n a H) (hB153 : ∀ n G a H, B 153 n G a H ↔ jAr (dC, dI) (ca 1) (fun j z => True) n a H) (hB154 : ∀ n G a H, B 154 n G a H ↔ jAr (dC, dI) (ca 1) (fun j z => True) n a H) (hB155 : ∀ n G a H, B 155 n G a H ↔ jAr (dC, dI) (ca 1) (fun j z => 0 ≤ z.toInt ∧ z.toInt ≤ 11990) n a H) (hB156 : ∀ n G a H, B 156 n G a H ↔ jAr (dC, dI) (ca 1) (fun j z => 0 ≤ z.toInt ∧ z.toInt ≤ 10) n a H) (hB157 : ∀ n G a H, B 157 n G a H ↔ jAr (dC, dI) (ca 1) (fun j z => 0 ≤ z.toInt ∧ z.toInt ≤ 1599) n a H) (hB158 : ∀ n G a H, B 158 n G a H ↔ jAr (dC, dI) (ca 1) (fun j z => 0 ≤ z.toInt ∧ z.toInt ≤ 6) n a H) (hB159 : ∀ n G a H, B 159 n G a H ↔ jAr (dC, dI) (ca 1) (fun j z => 0 ≤ z.toInt ∧ z.toInt ≤ 8) n a H) (hB160 : ∀ n G a H, B 160 n G a H ↔ jAr (dC, dI) (ca 1) (fun j z => 0 ≤ z.toInt ∧ z.toInt ≤ 119999) n a H) (hB161 : ∀ n G a H, B 161 n G a H ↔ jAr (dC, dI) (ca 1) (fun j z => 0 ≤ z.toInt ∧ z.toInt ≤ 119999) n a H) (hB162 : ∀ n G a H, B 162 n G a H ↔ jAr (dC, dI) (ca 1) (fun j z => 0 ≤ z.toInt ∧ z.toInt ≤ 119999) n a H) (hB163 : ∀ n G a H, B 163 n G a H ↔ jAr (dC, dI) (ca 1) (fun j z => 0 ≤ z.toInt ∧ z.toInt ≤ 1599) n a H) (hB164 : ∀ n G a H, B 164 n G a H ↔ jAr (dC, dI) (ca 1) (fun j z => 0 ≤ z.toInt ∧ z.toInt ≤ 100000) n a H) (hB165 : ∀ n G a H, B 165 n G a H ↔ jAr (dC, dI) (ca 1) (fun j z => 0 ≤ z.toInt ∧ z.toInt ≤ 3) n a H) (hB166 : ∀ n G a H, B 166 n G a H ↔ jAr (dC, dI) (ca 1) (fun j z => True) n a H) (hB167 : ∀ n G a H, B 167 n G a H ↔ jAr (dC, dI) (ca 1) (fun j z => True) n a H) (hB168 : ∀ n G a H, B 168 n G a H ↔ jAr (dC, dI) (ca 1) (fun j z => 0 ≤ z.toInt ∧ z.toInt ≤ 119999) n a H) (hB169 : ∀ n G a H, B 169 n G a H ↔ jAr (dC, dI) (ca 1) (fun j z => True) n a H) (G0 : jT) (H0 : Heap) (r0 : Nat) (LC LS : Nat) : Met l yX13_init (jw yX13_init cX13_init 1 none) ({ frames := 1, cells := LC - H0.size, slots := LS - jTot H0, locals := 31 }) (va_Pc [.ref r0] (fun U => U.heap = H0 ∧ jX B base G0 [] H0 ∧ jG dC dI ca base U ∧ va_at (dC, dI) vwCl (r0, .inr (15, [.null, .null, .null, .null, .null, .int 0, .null, .int 0, .null, .null, .int 0, .int 0, .null, .null, .null, .int 0, .null, .null, .int 0, .int 0, .int 0, .int 0, .null, .null, .null, .null, .null, .null, .null, .null, .int 0, .int 0, .int 0, .int 0, .int 0, .null, .int 0, .null, .int 0, .int 0, .int 0, .int 0, .int 0, .null, .null, .null, .int 0, .null, .null, .int 0])) H0 ∧ (∀ t, G0 r0 ≠ some t) ∧ base ≤ r0 ∧ jP (dC, dI) G0 H0 [] ∧ H0.size + 28 ≤ LC ∧ jTot H0 + 720031 ≤ LS ∧ True)) (va_Qv (S := jT) (fun u => True) (fun u t => jRa (dC, dI) B base G0 u EX13_init H0 (28) (720031) [] t.heap ∧ (jNk [0, 1, 2, 3, 4, 5, 6, 7, 8, 9, 10, 11, 12, 13, 14, 16]) G0 u ∧ u r0 = some (15, 0) ∧ jKx r0 G0 u H0 t.heap) (jA base)) (LC - H0.size) (LS - jTot H0) (jA base) := by
  refine Met.ofW (cc := cX13_init) (maxL := 1) (ret := none) (by decide) rfl ?_
  intro p e s m args below meth c s₁ Bd hml hv
  obtain ⟨rfl, hH0, hX, hG, hraw0, hnr0, hbr0, hP0, hLC0, hLS0, hp0⟩ := hv
  have hK := hG.1
  have hx := Bd.exec
  have hb := Bd.bytes
  have hr := Bd.returns
  have hts := atoms_spec (ws := (jw yX13_init cX13_init 1 none)) Bd.pre
  have htw : ∀ w ∈ jWl, w.before _ s = true := fun w h => hts w (List.mem_cons_of_mem _ h)
  have hown : s.vm.findClass RX13 = some m.cls := findClass_of_methodNamed Bd.named
  have hlocks := Bd.notSynchronized
  obtain ⟨Q, hQ⟩ : ∃ Q, Q = MQ below (va_Qv (S := jT) (fun u => True) (fun u t => jRa (dC, dI) B base G0 u EX13_init H0 (28) (720031) [] t.heap ∧ (jNk [0, 1, 2, 3, 4, 5, 6, 7, 8, 9, 10, 11, 12, 13, 14, 16]) G0 u ∧ u r0 = some (15, 0) ∧ jKx r0 G0 u H0 t.heap) (jA base)) ([.ref r0] : List Value).toArray s (LC - H0.size) (LS - jTot H0) (jA base) := ⟨_, rfl⟩
  rw [← hQ]
  have hl := lv_entry ([.ref r0]) (n := 1) (Nat.le_of_ble_eq_true rfl)
  rw [lg_entry_eq]
  generalize (lg_sl ([.ref r0]) ++ List.replicate (1 - (lg_sl ([.ref r0])).length) Slot.unset).toArray = ls at hl ⊢
  have hl : lv_has ls 1 [(0, .ref r0)] := hl
  generalize hR : (headSpec (jw yX13_init cX13_init 1 none) ({ frames := 1, cells := LC - H0.size, slots := LS - jTot H0, locals := 31 })).room = R
  subst hH0
  have hh : jSt (dC, dI) B base G0 G0 EX13_init s.heap 0 0 [] [] [] s.heap [] := jSt.start hX hP0 jMc.nil jIs.nil
  clear hX hP0
  have hk0 : (0 : Int32).toInt = 0 := by decide
  have hk1 : (1 : Int32).toInt = 1 := by decide
  have hk16 : (16 : Int32).toInt = 16 := by decide
  have hk46 : (46 : Int32).toInt = 46 := by decide
  have hk100 : (100 : Int32).toInt = 100 := by decide
  have hk200 : (200 : Int32).toInt = 200 := by decide
  have hk276 : (276 : Int32).toInt = 276 := by decide
  have hk368 : (368 : Int32).toInt = 368 := by decide
  have hk1500 : (1500 : Int32).toInt = 1500 := by decide
  have hk1600 : (1600 : Int32).toInt = 1600 := by decide
  have hk12000 : (12000 : Int32).toInt = 12000 := by decide
  have hk100000 : (100000 : Int32).toInt = 100000 := by decide
  have hk120000 : (120000 : Int32).toInt = 120000 := by decide
  have hly_15_0 := htw (u_lay RX13 TX13 0) (jWc_wsX130 _ (u_in_lay (by decide)))
  have hly_15_1 := htw (u_lay RX13 TX13 1) (jWc_wsX130 _ (u_in_lay (by decide)))
  have hly_15_2 := htw (u_lay RX13 TX13 2) (jWc_wsX130 _ (u_in_lay (by decide)))
  have hly_15_3 := htw (u_lay RX13 TX13 3) (jWc_wsX130 _ (u_in_lay (by decide)))
  have hly_15_4 := htw (u_lay RX13 TX13 4) (jWc_wsX130 _ (u_in_lay (by decide)))
  have hly_15_6 := htw (u_lay RX13 TX13 6) (jWc_wsX130 _ (u_in_lay (by decide)))
  have hly_15_8 := htw (u_lay RX13 TX13 8) (jWc_wsX130 _ (u_in_lay (by decide)))
  have hly_15_9 := htw (u_lay RX13 TX13 9) (jWc_wsX130 _ (u_in_lay (by decide)))
  have hly_15_12 := htw (u_lay RX13 TX13 12) (jWc_wsX130 _ (u_in_lay (by decide)))
  have hly_15_13 := htw (u_lay RX13 TX13 13) (jWc_wsX130 _ (u_in_lay (by decide)))
  have hly_15_14 := htw (u_lay RX13 TX13 14) (jWc_wsX130 _ (u_in_lay (by decide)))
  have hly_15_16 := htw (u_lay RX13 TX13 16) (jWc_wsX130 _ (u_in_lay (by decide)))
  have hly_15_17 := htw (u_lay RX13 TX13 17) (jWc_wsX130 _ (u_in_lay (by decide)))
  have hly_15_22 := htw (u_lay RX13 TX13 22) (jWc_wsX130 _ (u_in_lay (by decide)))
  have hly_15_23 := htw (u_lay RX13 TX13 23) (jWc_wsX130 _ (u_in_lay (by decide)))
  have hly_15_24 := htw (u_lay RX13 TX13 24) (jWc_wsX130 _ (u_in_lay (by decide)))
  have hly_15_25 := htw (u_lay RX13 TX13 25) (jWc_wsX130 _ (u_in_lay (by decide)))
  have hly_15_26 := htw (u_lay RX13 TX13 26) (jWc_wsX130 _ (u_in_lay (by decide)))
  have hly_15_27 := htw (u_lay RX13 TX13 27) (jWc_wsX130 _ (u_in_lay (by decide)))
  have hly_15_28 := htw (u_lay RX13 TX13 28) (jWc_wsX130 _ (u_in_lay (by decide)))
  have hly_15_29 := htw (u_lay RX13 TX13 29) (jWc_wsX130 _ (u_in_lay (by decide)))
  have hly_15_35 := htw (u_lay RX13 TX13 35) (jWc_wsX130 _ (u_in_lay (by decide)))
  have hly_15_37 := htw (u_lay RX13 TX13 37) (jWc_wsX130 _ (u_in_lay (by decide)))
  have hly_15_43 := htw (u_lay RX13 TX13 43) (jWc_wsX130 _ (u_in_lay (by decide)))
  have hly_15_44 := htw (u_lay RX13 TX13 44) (jWc_wsX130 _ (u_in_lay (by decide)))
  have hly_15_45 := htw (u_lay RX13 TX13 45) (jWc_wsX130 _ (u_in_lay (by decide)))
  have hly_15_47 := htw (u_lay RX13 TX13 47) (jWc_wsX130 _ (u_in_lay (by decide)))
  have hly_15_48 := htw (u_lay RX13 TX13 48) (jWc_wsX130 _ (u_in_lay (by decide)))
  have hcs_11 := htw (.constant RX13 11 120000) (jWr_14 _ (List.mem_of_getElem? (i := 8) rfl))
  have hlk_12 := (htw (.fieldLink RX13 12 "ProofServerModel$Kernel" "sort" "[I") (jWr_14 _ (List.mem_of_getElem? (i := 9) rfl)))
  have hlk_16 := (htw (.fieldLink RX13 16 "ProofServerModel$Kernel" "name" "[I") (jWr_14 _ (List.mem_of_getElem? (i := 10) rfl)))
  have hlk_19 := (htw (.fieldLink RX13 19 "ProofServerModel$Kernel" "one" "[I") (jWr_14 _ (List.mem_of_getElem? (i := 11) rfl)))
  have hlk_22 := (htw (.fieldLink RX13 22 "ProofServerModel$Kernel" "two" "[I") (jWr_14 _ (List.mem_of_getElem? (i := 12) rfl)))
  have hlk_25 := (htw (.fieldLink RX13 25 "ProofServerModel$Kernel" "three" "[I") (jWr_14 _ (List.mem_of_getElem? (i := 13) rfl)))
  have hlk_28 := (htw (.fieldLink RX13 28 "ProofServerModel$Kernel" "signs" "[I") (jWr_14 _ (List.mem_of_getElem? (i := 14) rfl)))
  have hlk_31 := (htw (.fieldLink RX13 31 "ProofServerModel$Kernel" "nameAt" "[I") (jWr_14 _ (List.mem_of_getElem? (i := 15) rfl)))
  have hlk_34 := (htw (.fieldLink RX13 34 "ProofServerModel$Kernel" "nameLength" "[I") (jWr_14 _ (List.mem_of_getElem? (i := 16) rfl)))
  have hlk_37 := (htw (.fieldLink RX13 37 "ProofServerModel$Kernel" "symbol" "[I") (jWr_14 _ (List.mem_of_getElem? (i := 17) rfl)))
  have hlk_40 := (htw (.fieldLink RX13 40 "ProofServerModel$Kernel" "predicate" "[Z") (jWr_14 _ (List.mem_of_getElem? (i := 18) rfl)))
  have hlk_44 := (htw (.fieldLink RX13 44 "ProofServerModel$Kernel" "arity" "[I") (jWr_14 _ (List.mem_of_getElem? (i := 19) rfl)))
  have hlk_47 := (htw (.fieldLink RX13 47 "ProofServerModel$Kernel" "factName" "[I") (jWr_14 _ (List.mem_of_getElem? (i := 20) rfl)))
  have hlk_50 := (htw (.fieldLink RX13 50 "ProofServerModel$Kernel" "fact" "[I") (jWr_14 _ (List.mem_of_getElem? (i := 21) rfl)))
  have hlk_53 := (htw (.fieldLink RX13 53 "ProofServerModel$Kernel" "goal" "[I") (jWr_14 _ (List.mem_of_getElem? (i := 22) rfl)))
  have hlk_56 := (htw (.fieldLink RX13 56 "ProofServerModel$Kernel" "vars" "[I") (jWr_14 _ (List.mem_of_getElem? (i := 23) rfl)))
  have hlk_59 := (htw (.fieldLink RX13 59 "ProofServerModel$Kernel" "varName" "[I") (jWr_15 _ (List.mem_of_getElem? (i := 0) rfl)))
  have hlk_62 := (htw (.fieldLink RX13 62 "ProofServerModel$Kernel" "hyps" "[I") (jWr_15 _ (List.mem_of_getElem? (i := 1) rfl)))
  have hlk_65 := (htw (.fieldLink RX13 65 "ProofServerModel$Kernel" "hypName" "[I") (jWr_15 _ (List.mem_of_getElem? (i := 2) rfl)))
  have hlk_68 := (htw (.fieldLink RX13 68 "ProofServerModel$Kernel" "hyp" "[I") (jWr_15 _ (List.mem_of_getElem? (i := 3) rfl)))
  have hlk_71 := (htw (.fieldLink RX13 71 "ProofServerModel$Kernel" "kind" "[I") (jWr_15 _ (List.mem_of_getElem? (i := 4) rfl)))
  have hlk_74 := (htw (.fieldLink RX13 74 "ProofServerModel$Kernel" "what" "[I") (jWr_15 _ (List.mem_of_getElem? (i := 5) rfl)))
  have hlk_77 := (htw (.fieldLink RX13 77 "ProofServerModel$Kernel" "binder" "[I") (jWr_15 _ (List.mem_of_getElem? (i := 6) rfl)))
  have hlk_80 := (htw (.fieldLink RX13 80 "ProofServerModel$Kernel" "single" "[I") (jWr_15 _ (List.mem_of_getElem? (i := 7) rfl)))
  have hlk_83 := (htw (.fieldLink RX13 83 "ProofServerModel$Kernel" "terms" "[I") (jWr_15 _ (List.mem_of_getElem? (i := 8) rfl)))
  have hlk_86 := (htw (.fieldLink RX13 86 "ProofServerModel$Kernel" "newGoals" "[I") (jWr_15 _ (List.mem_of_getElem? (i := 9) rfl)))
  have hcs_89 := htw (.constant RX13 89 100000) (jWr_15 _ (List.mem_of_getElem? (i := 10) rfl))
  have hlk_90 := (htw (.fieldLink RX13 90 "ProofServerModel$Kernel" "line" "[I") (jWr_15 _ (List.mem_of_getElem? (i := 11) rfl)))
  have hlk_93 := (htw (.fieldLink RX13 93 "ProofServerModel$Kernel" "writtenName" "[I") (jWr_15 _ (List.mem_of_getElem? (i := 12) rfl)))
  have hlk_96 := (htw (.fieldLink RX13 96 "ProofServerModel$Kernel" "writtenMarks" "[I") (jWr_15 _ (List.mem_of_getElem? (i := 13) rfl)))
  have hbs : base ≤ s.heap.size := Nat.le_of_lt (Nat.lt_of_le_of_lt hbr0 hraw0.lt)
  have hRc : R.cells = LC - s.heap.size := by rw [← hR]; rfl
  have hRs : R.slots = LS - jTot s.heap := by rw [← hR]; rfl
  have hin2 : meth.name = "<init>" := (name_of_methodNamed Bd.named Bd.method).1
  have hkp : jKx r0 G0 G0 s.heap s.heap := jKx.rf
  refine lv_aload_n hx hb dX13_init_0 rfl (lv_at hl 0 rfl) ?_
  refine W.objInit hx hb hown (htw (.methodLink RX13 3 objectInit) (jWr_14 _ (List.mem_of_getElem? (i := 7) rfl))) (htw (.instanceMethod objectInit) (jWr_1 _ (List.mem_of_getElem? (i := 10) rfl))) (htw (.code objectInit ⟨#[0xb1]⟩ 1 none) (jWr_1 _ (List.mem_of_getElem? (i := 11) rfl))) rfl (by rw [hml]; exact hl.1) rfl dX13_init_1 (by rw [← hR]; exact Nat.le_of_ble_eq_true rfl) (by rw [← hR]; exact Nat.le_of_ble_eq_true rfl) ?_
  refine W.eq (g2 := F0 m 4 ls []) rfl ?_
  refine lv_aload_n hx hb dX13_init_4 rfl (lv_at hl 0 rfl) ?_
  refine lv_ldc hx hb hown hcs_11 dX13_init_5 ?_
  have hsz_1 := hh.2.2.2.2.2.1
  have htt_1 := hh.2.2.2.2.2.2.1
  refine j7_newiK hx hb hK hh hB (atype := .int) (ty := .int) (htw (.arrayClass .int) (jWr_3 _ (List.mem_of_getElem? (i := 20) rfl))) rfl rfl (fun _ h => h) hB150 1 rfl (by decide) (by decide) hbs (x := 120000) (by decide) (by omega) (fun j => by first | trivial | decide | rfl | exact Or.inl rfl | (refine ⟨?_, ?_⟩ <;> decide)) (by rw [hRc]; omega) (by rw [hRs]; omega) dX13_init_7 (fun H_1 hfr_1 hh_1 => ?_)
  have hh_1 : jSt (dC, dI) B base G0 (va_up G0 s.heap.size (some (150, 120000))) EX13_init s.heap (0 + 1) (0 + 120000) [] [] [] H_1 [] := hh_1
  have hN_1 : (jNk [0, 1, 2, 3, 4, 5, 6, 7, 8, 9, 10, 11, 12, 13, 14, 16]) G0 (va_up G0 s.heap.size (some (150, 120000))) := jNk.new (by decide)
  have hgn_1 : (va_up G0 s.heap.size (some (150, 120000))) s.heap.size = some (150, 120000) := jUp_self
  have hle_1 : jLe G0 (va_up G0 s.heap.size (some (150, 120000))) := jLe.new hh.2.1.fresh
  have hke_1 : jKe G0 (va_up G0 s.heap.size (some (150, 120000))) s.heap H_1 := jKe.new hfr_1
  have hsy_1 : s.heap.size ≤ s.heap.size := hh.1.1
  generalize (va_up G0 s.heap.size (some (150, 120000))) = G_1 at hN_1 hgn_1 hle_1 hke_1 hh_1
  clear hh
  have hNn_1 : (jNk [0, 1, 2, 3, 4, 5, 6, 7, 8, 9, 10, 11, 12, 13, 14, 16]) G0 G_1 := (jNk.rf).tr hN_1
  have hkp_2 := hkp.tr hke_1
  have hraw_3n := hke_1.nr hraw0.lt hnr0
  have hraw_3 := hraw0.kept (hke_1.1 _ hraw0.lt)
  refine j7_putRF hx hb hown hK hh_1 hB hAp hraw_3 hraw_3n hbr0 (C := RX13) (T := TX13) (N := 50) rfl (i := 0) (by decide) (Nat.le_of_ble_eq_true rfl) hly_15_0 rfl hin2 rfl hlk_12 (ty := (.array .int)) (v := .ref s.heap.size) (by decide +kernel) rfl rfl dX13_init_9 (fun H_4 locs_4 hraw_4 hr_4 hh_4 => ?_)
  have hraw_4 : va_at (dC, dI) vwCl (r0, .inr (15, [.ref s.heap.size, .null, .null, .null, .null, .int 0, .null, .int 0, .null, .null, .int 0, .int 0, .null, .null, .null, .int 0, .null, .null, .int 0, .int 0, .int 0, .int 0, .null, .null, .null, .null, .null, .null, .null, .null, .int 0, .int 0, .int 0, .int 0, .int 0, .null, .int 0, .null, .int 0, .int 0, .int 0, .int 0, .int 0, .null, .null, .null, .int 0, .null, .null, .int 0])) H_4 := hraw_4
  have hkp_5 := hkp_2.put hr_4
  clear hh_1
  refine lv_aload_n hx hb dX13_init_12 rfl (lv_at hl 0 rfl) ?_
  refine lv_ldc hx hb hown hcs_11 dX13_init_13 ?_
  have hsz_6 := hh_4.2.2.2.2.2.1
  have htt_6 := hh_4.2.2.2.2.2.2.1
  refine j7_newiK hx hb hK hh_4 hB (atype := .int) (ty := .int) (htw (.arrayClass .int) (jWr_3 _ (List.mem_of_getElem? (i := 20) rfl))) rfl rfl (fun _ h => h) hB151 1 rfl (by decide) (by decide) hbs (x := 120000) (by decide) (by omega) (fun j => by first | trivial | decide | rfl | exact Or.inl rfl | (refine ⟨?_, ?_⟩ <;> decide)) (by rw [hRc]; omega) (by rw [hRs]; omega) dX13_init_15 (fun H_6 hfr_6 hh_6 => ?_)
  have hh_6 : jSt (dC, dI) B base G0 (va_up G_1 H_4.size (some (151, 120000))) EX13_init s.heap ((0 + 1) + 1) ((0 + 120000) + 120000) [] [] [] H_6 locs_4 := hh_6
  have hN_6 : (jNk [0, 1, 2, 3, 4, 5, 6, 7, 8, 9, 10, 11, 12, 13, 14, 16]) G_1 (va_up G_1 H_4.size (some (151, 120000))) := jNk.new (by decide)
  have hgn_6 : (va_up G_1 H_4.size (some (151, 120000))) H_4.size = some (151, 120000) := jUp_self
  have hle_6 : jLe G_1 (va_up G_1 H_4.size (some (151, 120000))) := jLe.new hh_4.2.1.fresh
  have hke_6 : jKe G_1 (va_up G_1 H_4.size (some (151, 120000))) H_4 H_6 := jKe.new hfr_6
  have hsy_6 : s.heap.size ≤ H_4.size := hh_4.1.1
  generalize (va_up G_1 H_4.size (some (151, 120000))) = G_6 at hN_6 hgn_6 hle_6 hke_6 hh_6
  clear hh_4
  have hNn_6 : (jNk [0, 1, 2, 3, 4, 5, 6, 7, 8, 9, 10, 11, 12, 13, 14, 16]) G0 G_6 := (hNn_1).tr hN_6
  have hkp_7 := hkp_5.tr hke_6
  have hraw_8n := hke_6.nr hraw_4.lt hraw_3n
  have hraw_8 := hraw_4.kept (hke_6.1 _ hraw_4.lt)
  refine j7_putRF hx hb hown hK hh_6 hB hAp hraw_8 hraw_8n hbr0 (C := RX13) (T := TX13) (N := 50) rfl (i := 1) (by decide) (Nat.le_of_ble_eq_true rfl) hly_15_1 rfl hin2 rfl hlk_16 (ty := (.array .int)) (v := .ref H_4.size) (by decide +kernel) rfl rfl dX13_init_17 (fun H_9 locs_9 hraw_9 hr_9 hh_9 => ?_)
  have hraw_9 : va_at (dC, dI) vwCl (r0, .inr (15, [.ref s.heap.size, .ref H_4.size, .null, .null, .null, .int 0, .null, .int 0, .null, .null, .int 0, .int 0, .null, .null, .null, .int 0, .null, .null, .int 0, .int 0, .int 0, .int 0, .null, .null, .null, .null, .null, .null, .null, .null, .int 0, .int 0, .int 0, .int 0, .int 0, .null, .int 0, .null, .int 0, .int 0, .int 0, .int 0, .int 0, .null, .null, .null, .int 0, .null, .null, .int 0])) H_9 := hraw_9
  have hkp_10 := hkp_7.put hr_9
  clear hh_6
  refine lv_aload_n hx hb dX13_init_20 rfl (lv_at hl 0 rfl) ?_
  refine lv_ldc hx hb hown hcs_11 dX13_init_21 ?_
  have hsz_11 := hh_9.2.2.2.2.2.1
  have htt_11 := hh_9.2.2.2.2.2.2.1
  refine j7_newiK hx hb hK hh_9 hB (atype := .int) (ty := .int) (htw (.arrayClass .int) (jWr_3 _ (List.mem_of_getElem? (i := 20) rfl))) rfl rfl (fun _ h => h) hB152 1 rfl (by decide) (by decide) hbs (x := 120000) (by decide) (by omega) (fun j => by first | trivial | decide | rfl | exact Or.inl rfl | (refine ⟨?_, ?_⟩ <;> decide)) (by rw [hRc]; omega) (by rw [hRs]; omega) dX13_init_23 (fun H_11 hfr_11 hh_11 => ?_)
  have hh_11 : jSt (dC, dI) B base G0 (va_up G_6 H_9.size (some (152, 120000))) EX13_init s.heap (((0 + 1) + 1) + 1) (((0 + 120000) + 120000) + 120000) [] [] [] H_11 locs_9 := hh_11
  have hN_11 : (jNk [0, 1, 2, 3, 4, 5, 6, 7, 8, 9, 10, 11, 12, 13, 14, 16]) G_6 (va_up G_6 H_9.size (some (152, 120000))) := jNk.new (by decide)
  have hgn_11 : (va_up G_6 H_9.size (some (152, 120000))) H_9.size = some (152, 120000) := jUp_self
  have hle_11 : jLe G_6 (va_up G_6 H_9.size (some (152, 120000))) := jLe.new hh_9.2.1.fresh
  have hke_11 : jKe G_6 (va_up G_6 H_9.size (some (152, 120000))) H_9 H_11 := jKe.new hfr_11
  have hsy_11 : s.heap.size ≤ H_9.size := hh_9.1.1
  generalize (va_up G_6 H_9.size (some (152, 120000))) = G_11 at hN_11 hgn_11 hle_11 hke_11 hh_11
  clear hh_9
  have hNn_11 : (jNk [0, 1, 2, 3, 4, 5, 6, 7, 8, 9, 10, 11, 12, 13, 14, 16]) G0 G_11 := (hNn_6).tr hN_11
  have hkp_12 := hkp_10.tr hke_11
  have hraw_13n := hke_11.nr hraw_9.lt hraw_8n
  have hraw_13 := hraw_9.kept (hke_11.1 _ hraw_9.lt)
  refine j7_putRF hx hb hown hK hh_11 hB hAp hraw_13 hraw_13n hbr0 (C := RX13) (T := TX13) (N := 50) rfl (i := 2) (by decide) (Nat.le_of_ble_eq_true rfl) hly_15_2 rfl hin2 rfl hlk_19 (ty := (.array .int)) (v := .ref H_9.size) (by decide +kernel) rfl rfl dX13_init_25 (fun H_14 locs_14 hraw_14 hr_14 hh_14 => ?_)
  have hraw_14 : va_at (dC, dI) vwCl (r0, .inr (15, [.ref s.heap.size, .ref H_4.size, .ref H_9.size, .null, .null, .int 0, .null, .int 0, .null, .null, .int 0, .int 0, .null, .null, .null, .int 0, .null, .null, .int 0, .int 0, .int 0, .int 0, .null, .null, .null, .null, .null, .null, .null, .null, .int 0, .int 0, .int 0, .int 0, .int 0, .null, .int 0, .null, .int 0, .int 0, .int 0, .int 0, .int 0, .null, .null, .null, .int 0, .null, .null, .int 0])) H_14 := hraw_14
  have hkp_15 := hkp_12.put hr_14
  clear hh_11
  refine lv_aload_n hx hb dX13_init_28 rfl (lv_at hl 0 rfl) ?_
  refine lv_ldc hx hb hown hcs_11 dX13_init_29 ?_
  have hsz_16 := hh_14.2.2.2.2.2.1
  have htt_16 := hh_14.2.2.2.2.2.2.1
  refine j7_newiK hx hb hK hh_14 hB (atype := .int) (ty := .int) (htw (.arrayClass .int) (jWr_3 _ (List.mem_of_getElem? (i := 20) rfl))) rfl rfl (fun _ h => h) hB153 1 rfl (by decide) (by decide) hbs (x := 120000) (by decide) (by omega) (fun j => by first | trivial | decide | rfl | exact Or.inl rfl | (refine ⟨?_, ?_⟩ <;> decide)) (by rw [hRc]; omega) (by rw [hRs]; omega) dX13_init_31 (fun H_16 hfr_16 hh_16 => ?_)
  have hh_16 : jSt (dC, dI) B base G0 (va_up G_11 H_14.size (some (153, 120000))) EX13_init s.heap ((((0 + 1) + 1) + 1) + 1) ((((0 + 120000) + 120000) + 120000) + 120000) [] [] [] H_16 locs_14 := hh_16
  have hN_16 : (jNk [0, 1, 2, 3, 4, 5, 6, 7, 8, 9, 10, 11, 12, 13, 14, 16]) G_11 (va_up G_11 H_14.size (some (153, 120000))) := jNk.new (by decide)
  have hgn_16 : (va_up G_11 H_14.size (some (153, 120000))) H_14.size = some (153, 120000) := jUp_self
  have hle_16 : jLe G_11 (va_up G_11 H_14.size (some (153, 120000))) := jLe.new hh_14.2.1.fresh
  have hke_16 : jKe G_11 (va_up G_11 H_14.size (some (153, 120000))) H_14 H_16 := jKe.new hfr_16
  have hsy_16 : s.heap.size ≤ H_14.size := hh_14.1.1
  generalize (va_up G_11 H_14.size (some (153, 120000))) = G_16 at hN_16 hgn_16 hle_16 hke_16 hh_16
  clear hh_14
  have hNn_16 : (jNk [0, 1, 2, 3, 4, 5, 6, 7, 8, 9, 10, 11, 12, 13, 14, 16]) G0 G_16 := (hNn_11).tr hN_16
  have hkp_17 := hkp_15.tr hke_16
  have hraw_18n := hke_16.nr hraw_14.lt hraw_13n
  have hraw_18 := hraw_14.kept (hke_16.1 _ hraw_14.lt)
  refine j7_putRF hx hb hown hK hh_16 hB hAp hraw_18 hraw_18n hbr0 (C := RX13) (T := TX13) (N := 50) rfl (i := 3) (by decide) (Nat.le_of_ble_eq_true rfl) hly_15_3 rfl hin2 rfl hlk_22 (ty := (.array .int)) (v := .ref H_14.size) (by decide +kernel) rfl rfl dX13_init_33 (fun H_19 locs_19 hraw_19 hr_19 hh_19 => ?_)
  have hraw_19 : va_at (dC, dI) vwCl (r0, .inr (15, [.ref s.heap.size, .ref H_4.size, .ref H_9.size, .ref H_14.size, .null, .int 0, .null, .int 0, .null, .null, .int 0, .int 0, .null, .null, .null, .int 0, .null, .null, .int 0, .int 0, .int 0, .int 0, .null, .null, .null, .null, .null, .null, .null, .null, .int 0, .int 0, .int 0, .int 0, .int 0, .null, .int 0, .null, .int 0, .int 0, .int 0, .int 0, .int 0, .null, .null, .null, .int 0, .null, .null, .int 0])) H_19 := hraw_19
  have hkp_20 := hkp_17.put hr_19
  clear hh_16
  refine lv_aload_n hx hb dX13_init_36 rfl (lv_at hl 0 rfl) ?_
  refine lv_ldc hx hb hown hcs_11 dX13_init_37 ?_
  have hsz_21 := hh_19.2.2.2.2.2.1
  have htt_21 := hh_19.2.2.2.2.2.2.1
  refine j7_newiK hx hb hK hh_19 hB (atype := .int) (ty := .int) (htw (.arrayClass .int) (jWr_3 _ (List.mem_of_getElem? (i := 20) rfl))) rfl rfl (fun _ h => h) hB154 1 rfl (by decide) (by decide) hbs (x := 120000) (by decide) (by omega) (fun j => by first | trivial | decide | rfl | exact Or.inl rfl | (refine ⟨?_, ?_⟩ <;> decide)) (by rw [hRc]; omega) (by rw [hRs]; omega) dX13_init_39 (fun H_21 hfr_21 hh_21 => ?_)
  have hh_21 : jSt (dC, dI) B base G0 (va_up G_16 H_19.size (some (154, 120000))) EX13_init s.heap (((((0 + 1) + 1) + 1) + 1) + 1) (((((0 + 120000) + 120000) + 120000) + 120000) + 120000) [] [] [] H_21 locs_19 := hh_21
  have hN_21 : (jNk [0, 1, 2, 3, 4, 5, 6, 7, 8, 9, 10, 11, 12, 13, 14, 16]) G_16 (va_up G_16 H_19.size (some (154, 120000))) := jNk.new (by decide)
  have hgn_21 : (va_up G_16 H_19.size (some (154, 120000))) H_19.size = some (154, 120000) := jUp_self
  have hle_21 : jLe G_16 (va_up G_16 H_19.size (some (154, 120000))) := jLe.new hh_19.2.1.fresh
  have hke_21 : jKe G_16 (va_up G_16 H_19.size (some (154, 120000))) H_19 H_21 := jKe.new hfr_21
  have hsy_21 : s.heap.size ≤ H_19.size := hh_19.1.1
  generalize (va_up G_16 H_19.size (some (154, 120000))) = G_21 at hN_21 hgn_21 hle_21 hke_21 hh_21
  clear hh_19
  have hNn_21 : (jNk [0, 1, 2, 3, 4, 5, 6, 7, 8, 9, 10, 11, 12, 13, 14, 16]) G0 G_21 := (hNn_16).tr hN_21
  have hkp_22 := hkp_20.tr hke_21
  have hraw_23n := hke_21.nr hraw_19.lt hraw_18n
  have hraw_23 := hraw_19.kept (hke_21.1 _ hraw_19.lt)
  refine j7_putRF hx hb hown hK hh_21 hB hAp hraw_23 hraw_23n hbr0 (C := RX13) (T := TX13) (N := 50) rfl (i := 4) (by decide) (Nat.le_of_ble_eq_true rfl) hly_15_4 rfl hin2 rfl hlk_25 (ty := (.array .int)) (v := .ref H_19.size) (by decide +kernel) rfl rfl dX13_init_41 (fun H_24 locs_24 hraw_24 hr_24 hh_24 => ?_)
  have hraw_24 : va_at (dC, dI) vwCl (r0, .inr (15, [.ref s.heap.size, .ref H_4.size, .ref H_9.size, .ref H_14.size, .ref H_19.size, .int 0, .null, .int 0, .null, .null, .int 0, .int 0, .null, .null, .null, .int 0, .null, .null, .int 0, .int 0, .int 0, .int 0, .null, .null, .null, .null, .null, .null, .null, .null, .int 0, .int 0, .int 0, .int 0, .int 0, .null, .int 0, .null, .int 0, .int 0, .int 0, .int 0, .int 0, .null, .null, .null, .int 0, .null, .null, .int 0])) H_24 := hraw_24
  have hkp_25 := hkp_22.put hr_24
  clear hh_21
  refine lv_aload_n hx hb dX13_init_44 rfl (lv_at hl 0 rfl) ?_
  refine lv_sipush (v := 12000) hx hb dX13_init_45 (by decide) ?_
  have hsz_26 := hh_24.2.2.2.2.2.1
  have htt_26 := hh_24.2.2.2.2.2.2.1
  refine j7_newiK hx hb hK hh_24 hB (atype := .int) (ty := .int) (htw (.arrayClass .int) (jWr_3 _ (List.mem_of_getElem? (i := 20) rfl))) rfl rfl (fun _ h => h) hB166 1 rfl (by decide) (by decide) hbs (x := 12000) (by decide) (by omega) (fun j => by first | trivial | decide | rfl | exact Or.inl rfl | (refine ⟨?_, ?_⟩ <;> decide)) (by rw [hRc]; omega) (by rw [hRs]; omega) dX13_init_48 (fun H_26 hfr_26 hh_26 => ?_)
  have hh_26 : jSt (dC, dI) B base G0 (va_up G_21 H_24.size (some (166, 12000))) EX13_init s.heap ((((((0 + 1) + 1) + 1) + 1) + 1) + 1) ((((((0 + 120000) + 120000) + 120000) + 120000) + 120000) + 12000) [] [] [] H_26 locs_24 := hh_26
  have hN_26 : (jNk [0, 1, 2, 3, 4, 5, 6, 7, 8, 9, 10, 11, 12, 13, 14, 16]) G_21 (va_up G_21 H_24.size (some (166, 12000))) := jNk.new (by decide)
  have hgn_26 : (va_up G_21 H_24.size (some (166, 12000))) H_24.size = some (166, 12000) := jUp_self
  have hle_26 : jLe G_21 (va_up G_21 H_24.size (some (166, 12000))) := jLe.new hh_24.2.1.fresh
  have hke_26 : jKe G_21 (va_up G_21 H_24.size (some (166, 12000))) H_24 H_26 := jKe.new hfr_26
  have hsy_26 : s.heap.size ≤ H_24.size := hh_24.1.1
  generalize (va_up G_21 H_24.size (some (166, 12000))) = G_26 at hN_26 hgn_26 hle_26 hke_26 hh_26
  clear hh_24
  have hNn_26 : (jNk [0, 1, 2, 3, 4, 5, 6, 7, 8, 9, 10, 11, 12, 13, 14, 16]) G0 G_26 := (hNn_21).tr hN_26
  have hkp_27 := hkp_25.tr hke_26
  have hraw_28n := hke_26.nr hraw_24.lt hraw_23n
  have hraw_28 := hraw_24.kept (hke_26.1 _ hraw_24.lt)
  refine j7_putRF hx hb hown hK hh_26 hB hAp hraw_28 hraw_28n hbr0 (C := RX13) (T := TX13) (N := 50) rfl (i := 6) (by decide) (Nat.le_of_ble_eq_true rfl) hly_15_6 rfl hin2 rfl hlk_28 (ty := (.array .int)) (v := .ref H_24.size) (by decide +kernel) rfl rfl dX13_init_50 (fun H_29 locs_29 hraw_29 hr_29 hh_29 => ?_)
  have hraw_29 : va_at (dC, dI) vwCl (r0, .inr (15, [.ref s.heap.size, .ref H_4.size, .ref H_9.size, .ref H_14.size, .ref H_19.size, .int 0, .ref H_24.size, .int 0, .null, .null, .int 0, .int 0, .null, .null, .null, .int 0, .null, .null, .int 0, .int 0, .int 0, .int 0, .null, .null, .null, .null, .null, .null, .null, .null, .int 0, .int 0, .int 0, .int 0, .int 0, .null, .int 0, .null, .int 0, .int 0, .int 0, .int 0, .int 0, .null, .null, .null, .int 0, .null, .null, .int 0])) H_29 := hraw_29
  have hkp_30 := hkp_27.put hr_29
  clear hh_26
  refine lv_aload_n hx hb dX13_init_53 rfl (lv_at hl 0 rfl) ?_
  refine lv_sipush (v := 1600) hx hb dX13_init_54 (by decide) ?_
  have hsz_31 := hh_29.2.2.2.2.2.1
  have htt_31 := hh_29.2.2.2.2.2.2.1
  refine j7_newiK hx hb hK hh_29 hB (atype := .int) (ty := .int) (htw (.arrayClass .int) (jWr_3 _ (List.mem_of_getElem? (i := 20) rfl))) rfl rfl (fun _ h => h) hB155 1 rfl (by decide) (by decide) hbs (x := 1600) (by decide) (by omega) (fun j => by first | trivial | decide | rfl | exact Or.inl rfl | (refine ⟨?_, ?_⟩ <;> decide)) (by rw [hRc]; omega) (by rw [hRs]; omega) dX13_init_57 (fun H_31 hfr_31 hh_31 => ?_)
  have hh_31 : jSt (dC, dI) B base G0 (va_up G_26 H_29.size (some (155, 1600))) EX13_init s.heap (((((((0 + 1) + 1) + 1) + 1) + 1) + 1) + 1) (((((((0 + 120000) + 120000) + 120000) + 120000) + 120000) + 12000) + 1600) [] [] [] H_31 locs_29 := hh_31
  have hN_31 : (jNk [0, 1, 2, 3, 4, 5, 6, 7, 8, 9, 10, 11, 12, 13, 14, 16]) G_26 (va_up G_26 H_29.size (some (155, 1600))) := jNk.new (by decide)
  have hgn_31 : (va_up G_26 H_29.size (some (155, 1600))) H_29.size = some (155, 1600) := jUp_self
  have hle_31 : jLe G_26 (va_up G_26 H_29.size (some (155, 1600))) := jLe.new hh_29.2.1.fresh
  have hke_31 : jKe G_26 (va_up G_26 H_29.size (some (155, 1600))) H_29 H_31 := jKe.new hfr_31
  have hsy_31 : s.heap.size ≤ H_29.size := hh_29.1.1
  generalize (va_up G_26 H_29.size (some (155, 1600))) = G_31 at hN_31 hgn_31 hle_31 hke_31 hh_31
  clear hh_29
  have hNn_31 : (jNk [0, 1, 2, 3, 4, 5, 6, 7, 8, 9, 10, 11, 12, 13, 14, 16]) G0 G_31 := (hNn_26).tr hN_31
  have hkp_32 := hkp_30.tr hke_31
  have hraw_33n := hke_31.nr hraw_29.lt hraw_28n
  have hraw_33 := hraw_29.kept (hke_31.1 _ hraw_29.lt)
  refine j7_putRF hx hb hown hK hh_31 hB hAp hraw_33 hraw_33n hbr0 (C := RX13) (T := TX13) (N := 50) rfl (i := 8) (by decide) (Nat.le_of_ble_eq_true rfl) hly_15_8 rfl hin2 rfl hlk_31 (ty := (.array .int)) (v := .ref H_29.size) (by decide +kernel) rfl rfl dX13_init_59 (fun H_34 locs_34 hraw_34 hr_34 hh_34 => ?_)
  have hraw_34 : va_at (dC, dI) vwCl (r0, .inr (15, [.ref s.heap.size, .ref H_4.size, .ref H_9.size, .ref H_14.size, .ref H_19.size, .int 0, .ref H_24.size, .int 0, .ref H_29.size, .null, .int 0, .int 0, .null, .null, .null, .int 0, .null, .null, .int 0, .int 0, .int 0, .int 0, .null, .null, .null, .null, .null, .null, .null, .null, .int 0, .int 0, .int 0, .int 0, .int 0, .null, .int 0, .null, .int 0, .int 0, .int 0, .int 0, .int 0, .null, .null, .null, .int 0, .null, .null, .int 0])) H_34 := hraw_34
  have hkp_35 := hkp_32.put hr_34
  clear hh_31
  refine lv_aload_n hx hb dX13_init_62 rfl (lv_at hl 0 rfl) ?_
  refine lv_sipush (v := 1600) hx hb dX13_init_63 (by decide) ?_
  have hsz_36 := hh_34.2.2.2.2.2.1
  have htt_36 := hh_34.2.2.2.2.2.2.1
  refine j7_newiK hx hb hK hh_34 hB (atype := .int) (ty := .int) (htw (.arrayClass .int) (jWr_3 _ (List.mem_of_getElem? (i := 20) rfl))) rfl rfl (fun _ h => h) hB156 1 rfl (by decide) (by decide) hbs (x := 1600) (by decide) (by omega) (fun j => by first | trivial | decide | rfl | exact Or.inl rfl | (refine ⟨?_, ?_⟩ <;> decide)) (by rw [hRc]; omega) (by rw [hRs]; omega) dX13_init_66 (fun H_36 hfr_36 hh_36 => ?_)
  have hh_36 : jSt (dC, dI) B base G0 (va_up G_31 H_34.size (some (156, 1600))) EX13_init s.heap ((((((((0 + 1) + 1) + 1) + 1) + 1) + 1) + 1) + 1) ((((((((0 + 120000) + 120000) + 120000) + 120000) + 120000) + 12000) + 1600) + 1600) [] [] [] H_36 locs_34 := hh_36
  have hN_36 : (jNk [0, 1, 2, 3, 4, 5, 6, 7, 8, 9, 10, 11, 12, 13, 14, 16]) G_31 (va_up G_31 H_34.size (some (156, 1600))) := jNk.new (by decide)
  have hgn_36 : (va_up G_31 H_34.size (some (156, 1600))) H_34.size = some (156, 1600) := jUp_self
  have hle_36 : jLe G_31 (va_up G_31 H_34.size (some (156, 1600))) := jLe.new hh_34.2.1.fresh
  have hke_36 : jKe G_31 (va_up G_31 H_34.size (some (156, 1600))) H_34 H_36 := jKe.new hfr_36
  have hsy_36 : s.heap.size ≤ H_34.size := hh_34.1.1
  generalize (va_up G_31 H_34.size (some (156, 1600))) = G_36 at hN_36 hgn_36 hle_36 hke_36 hh_36
  clear hh_34
  have hNn_36 : (jNk [0, 1, 2, 3, 4, 5, 6, 7, 8, 9, 10, 11, 12, 13, 14, 16]) G0 G_36 := (hNn_31).tr hN_36
  have hkp_37 := hkp_35.tr hke_36
  have hraw_38n := hke_36.nr hraw_34.lt hraw_33n
  have hraw_38 := hraw_34.kept (hke_36.1 _ hraw_34.lt)
  refine j7_putRF hx hb hown hK hh_36 hB hAp hraw_38 hraw_38n hbr0 (C := RX13) (T := TX13) (N := 50) rfl (i := 9) (by decide) (Nat.le_of_ble_eq_true rfl) hly_15_9 rfl hin2 rfl hlk_34 (ty := (.array .int)) (v := .ref H_34.size) (by decide +kernel) rfl rfl dX13_init_68 (fun H_39 locs_39 hraw_39 hr_39 hh_39 => ?_)
  have hraw_39 : va_at (dC, dI) vwCl (r0, .inr (15, [.ref s.heap.size, .ref H_4.size, .ref H_9.size, .ref H_14.size, .ref H_19.size, .int 0, .ref H_24.size, .int 0, .ref H_29.size, .ref H_34.size, .int 0, .int 0, .null, .null, .null, .int 0, .null, .null, .int 0, .int 0, .int 0, .int 0, .null, .null, .null, .null, .null, .null, .null, .null, .int 0, .int 0, .int 0, .int 0, .int 0, .null, .int 0, .null, .int 0, .int 0, .int 0, .int 0, .int 0, .null, .null, .null, .int 0, .null, .null, .int 0])) H_39 := hraw_39
  have hkp_40 := hkp_37.put hr_39
  clear hh_36
  refine lv_aload_n hx hb dX13_init_71 rfl (lv_at hl 0 rfl) ?_
  refine lv_bipush (v := 16) hx hb dX13_init_72 (by decide) ?_
  have hsz_41 := hh_39.2.2.2.2.2.1
  have htt_41 := hh_39.2.2.2.2.2.2.1
  refine j7_newiK hx hb hK hh_39 hB (atype := .int) (ty := .int) (htw (.arrayClass .int) (jWr_3 _ (List.mem_of_getElem? (i := 20) rfl))) rfl rfl (fun _ h => h) hB163 1 rfl (by decide) (by decide) hbs (x := 16) (by decide) (by omega) (fun j => by first | trivial | decide | rfl | exact Or.inl rfl | (refine ⟨?_, ?_⟩ <;> decide)) (by rw [hRc]; omega) (by rw [hRs]; omega) dX13_init_74 (fun H_41 hfr_41 hh_41 => ?_)
  have hh_41 : jSt (dC, dI) B base G0 (va_up G_36 H_39.size (some (163, 16))) EX13_init s.heap (((((((((0 + 1) + 1) + 1) + 1) + 1) + 1) + 1) + 1) + 1) (((((((((0 + 120000) + 120000) + 120000) + 120000) + 120000) + 12000) + 1600) + 1600) + 16) [] [] [] H_41 locs_39 := hh_41
  have hN_41 : (jNk [0, 1, 2, 3, 4, 5, 6, 7, 8, 9, 10, 11, 12, 13, 14, 16]) G_36 (va_up G_36 H_39.size (some (163, 16))) := jNk.new (by decide)
  have hgn_41 : (va_up G_36 H_39.size (some (163, 16))) H_39.size = some (163, 16) := jUp_self
  have hle_41 : jLe G_36 (va_up G_36 H_39.size (some (163, 16))) := jLe.new hh_39.2.1.fresh
  have hke_41 : jKe G_36 (va_up G_36 H_39.size (some (163, 16))) H_39 H_41 := jKe.new hfr_41
  have hsy_41 : s.heap.size ≤ H_39.size := hh_39.1.1
  generalize (va_up G_36 H_39.size (some (163, 16))) = G_41 at hN_41 hgn_41 hle_41 hke_41 hh_41
  clear hh_39
  have hNn_41 : (jNk [0, 1, 2, 3, 4, 5, 6, 7, 8, 9, 10, 11, 12, 13, 14, 16]) G0 G_41 := (hNn_36).tr hN_41
  have hkp_42 := hkp_40.tr hke_41
  have hraw_43n := hke_41.nr hraw_39.lt hraw_38n
  have hraw_43 := hraw_39.kept (hke_41.1 _ hraw_39.lt)
  refine j7_putRF hx hb hown hK hh_41 hB hAp hraw_43 hraw_43n hbr0 (C := RX13) (T := TX13) (N := 50) rfl (i := 12) (by decide) (Nat.le_of_ble_eq_true rfl) hly_15_12 rfl hin2 rfl hlk_37 (ty := (.array .int)) (v := .ref H_39.size) (by decide +kernel) rfl rfl dX13_init_76 (fun H_44 locs_44 hraw_44 hr_44 hh_44 => ?_)
  have hraw_44 : va_at (dC, dI) vwCl (r0, .inr (15, [.ref s.heap.size, .ref H_4.size, .ref H_9.size, .ref H_14.size, .ref H_19.size, .int 0, .ref H_24.size, .int 0, .ref H_29.size, .ref H_34.size, .int 0, .int 0, .ref H_39.size, .null, .null, .int 0, .null, .null, .int 0, .int 0, .int 0, .int 0, .null, .null, .null, .null, .null, .null, .null, .null, .int 0, .int 0, .int 0, .int 0, .int 0, .null, .int 0, .null, .int 0, .int 0, .int 0, .int 0, .int 0, .null, .null, .null, .int 0, .null, .null, .int 0])) H_44 := hraw_44
  have hkp_45 := hkp_42.put hr_44
  clear hh_41
  refine lv_aload_n hx hb dX13_init_79 rfl (lv_at hl 0 rfl) ?_
  refine lv_bipush (v := 16) hx hb dX13_init_80 (by decide) ?_
  have hsz_46 := hh_44.2.2.2.2.2.1
  have htt_46 := hh_44.2.2.2.2.2.2.1
  refine j7_newiK hx hb hK hh_44 hB (atype := .boolean) (ty := .boolean) (htw (.arrayClass .boolean) (jWr_11 _ (List.mem_of_getElem? (i := 11) rfl))) rfl rfl (fun _ h => h) hB103 3 rfl (by decide) (by decide) hbs (x := 16) (by decide) (by omega) (fun j => by first | trivial | decide | rfl | exact Or.inl rfl | (refine ⟨?_, ?_⟩ <;> decide)) (by rw [hRc]; omega) (by rw [hRs]; omega) dX13_init_82 (fun H_46 hfr_46 hh_46 => ?_)
  have hh_46 : jSt (dC, dI) B base G0 (va_up G_41 H_44.size (some (103, 16))) EX13_init s.heap ((((((((((0 + 1) + 1) + 1) + 1) + 1) + 1) + 1) + 1) + 1) + 1) ((((((((((0 + 120000) + 120000) + 120000) + 120000) + 120000) + 12000) + 1600) + 1600) + 16) + 16) [] [] [] H_46 locs_44 := hh_46
  have hN_46 : (jNk [0, 1, 2, 3, 4, 5, 6, 7, 8, 9, 10, 11, 12, 13, 14, 16]) G_41 (va_up G_41 H_44.size (some (103, 16))) := jNk.new (by decide)
  have hgn_46 : (va_up G_41 H_44.size (some (103, 16))) H_44.size = some (103, 16) := jUp_self
  have hle_46 : jLe G_41 (va_up G_41 H_44.size (some (103, 16))) := jLe.new hh_44.2.1.fresh
  have hke_46 : jKe G_41 (va_up G_41 H_44.size (some (103, 16))) H_44 H_46 := jKe.new hfr_46
  have hsy_46 : s.heap.size ≤ H_44.size := hh_44.1.1
  generalize (va_up G_41 H_44.size (some (103, 16))) = G_46 at hN_46 hgn_46 hle_46 hke_46 hh_46
  clear hh_44
  have hNn_46 : (jNk [0, 1, 2, 3, 4, 5, 6, 7, 8, 9, 10, 11, 12, 13, 14, 16]) G0 G_46 := (hNn_41).tr hN_46
  have hkp_47 := hkp_45.tr hke_46
  have hraw_48n := hke_46.nr hraw_44.lt hraw_43n
  have hraw_48 := hraw_44.kept (hke_46.1 _ hraw_44.lt)
  refine j7_putRF hx hb hown hK hh_46 hB hAp hraw_48 hraw_48n hbr0 (C := RX13) (T := TX13) (N := 50) rfl (i := 13) (by decide) (Nat.le_of_ble_eq_true rfl) hly_15_13 rfl hin2 rfl hlk_40 (ty := (.array .boolean)) (v := .ref H_44.size) (by decide +kernel) rfl rfl dX13_init_84 (fun H_49 locs_49 hraw_49 hr_49 hh_49 => ?_)
  have hraw_49 : va_at (dC, dI) vwCl (r0, .inr (15, [.ref s.heap.size, .ref H_4.size, .ref H_9.size, .ref H_14.size, .ref H_19.size, .int 0, .ref H_24.size, .int 0, .ref H_29.size, .ref H_34.size, .int 0, .int 0, .ref H_39.size, .ref H_44.size, .null, .int 0, .null, .null, .int 0, .int 0, .int 0, .int 0, .null, .null, .null, .null, .null, .null, .null, .null, .int 0, .int 0, .int 0, .int 0, .int 0, .null, .int 0, .null, .int 0, .int 0, .int 0, .int 0, .int 0, .null, .null, .null, .int 0, .null, .null, .int 0])) H_49 := hraw_49
  have hkp_50 := hkp_47.put hr_49
  clear hh_46
  refine lv_aload_n hx hb dX13_init_87 rfl (lv_at hl 0 rfl) ?_
  refine lv_bipush (v := 16) hx hb dX13_init_88 (by decide) ?_
  have hsz_51 := hh_49.2.2.2.2.2.1
  have htt_51 := hh_49.2.2.2.2.2.2.1
  refine j7_newiK hx hb hK hh_49 hB (atype := .int) (ty := .int) (htw (.arrayClass .int) (jWr_3 _ (List.mem_of_getElem? (i := 20) rfl))) rfl rfl (fun _ h => h) hB165 1 rfl (by decide) (by decide) hbs (x := 16) (by decide) (by omega) (fun j => by first | trivial | decide | rfl | exact Or.inl rfl | (refine ⟨?_, ?_⟩ <;> decide)) (by rw [hRc]; omega) (by rw [hRs]; omega) dX13_init_90 (fun H_51 hfr_51 hh_51 => ?_)
  have hh_51 : jSt (dC, dI) B base G0 (va_up G_46 H_49.size (some (165, 16))) EX13_init s.heap (((((((((((0 + 1) + 1) + 1) + 1) + 1) + 1) + 1) + 1) + 1) + 1) + 1) (((((((((((0 + 120000) + 120000) + 120000) + 120000) + 120000) + 12000) + 1600) + 1600) + 16) + 16) + 16) [] [] [] H_51 locs_49 := hh_51
  have hN_51 : (jNk [0, 1, 2, 3, 4, 5, 6, 7, 8, 9, 10, 11, 12, 13, 14, 16]) G_46 (va_up G_46 H_49.size (some (165, 16))) := jNk.new (by decide)
  have hgn_51 : (va_up G_46 H_49.size (some (165, 16))) H_49.size = some (165, 16) := jUp_self
  have hle_51 : jLe G_46 (va_up G_46 H_49.size (some (165, 16))) := jLe.new hh_49.2.1.fresh
  have hke_51 : jKe G_46 (va_up G_46 H_49.size (some (165, 16))) H_49 H_51 := jKe.new hfr_51
  have hsy_51 : s.heap.size ≤ H_49.size := hh_49.1.1
  generalize (va_up G_46 H_49.size (some (165, 16))) = G_51 at hN_51 hgn_51 hle_51 hke_51 hh_51
  clear hh_49
  have hNn_51 : (jNk [0, 1, 2, 3, 4, 5, 6, 7, 8, 9, 10, 11, 12, 13, 14, 16]) G0 G_51 := (hNn_46).tr hN_51
  have hkp_52 := hkp_50.tr hke_51
  have hraw_53n := hke_51.nr hraw_49.lt hraw_48n
  have hraw_53 := hraw_49.kept (hke_51.1 _ hraw_49.lt)
  refine j7_putRF hx hb hown hK hh_51 hB hAp hraw_53 hraw_53n hbr0 (C := RX13) (T := TX13) (N := 50) rfl (i := 14) (by decide) (Nat.le_of_ble_eq_true rfl) hly_15_14 rfl hin2 rfl hlk_44 (ty := (.array .int)) (v := .ref H_49.size) (by decide +kernel) rfl rfl dX13_init_92 (fun H_54 locs_54 hraw_54 hr_54 hh_54 => ?_)
  have hraw_54 : va_at (dC, dI) vwCl (r0, .inr (15, [.ref s.heap.size, .ref H_4.size, .ref H_9.size, .ref H_14.size, .ref H_19.size, .int 0, .ref H_24.size, .int 0, .ref H_29.size, .ref H_34.size, .int 0, .int 0, .ref H_39.size, .ref H_44.size, .ref H_49.size, .int 0, .null, .null, .int 0, .int 0, .int 0, .int 0, .null, .null, .null, .null, .null, .null, .null, .null, .int 0, .int 0, .int 0, .int 0, .int 0, .null, .int 0, .null, .int 0, .int 0, .int 0, .int 0, .int 0, .null, .null, .null, .int 0, .null, .null, .int 0])) H_54 := hraw_54
  have hkp_55 := hkp_52.put hr_54
  clear hh_51
  refine lv_aload_n hx hb dX13_init_95 rfl (lv_at hl 0 rfl) ?_
  refine lv_bipush (v := 16) hx hb dX13_init_96 (by decide) ?_
  have hsz_56 := hh_54.2.2.2.2.2.1
  have htt_56 := hh_54.2.2.2.2.2.2.1
  refine j7_newiK hx hb hK hh_54 hB (atype := .int) (ty := .int) (htw (.arrayClass .int) (jWr_3 _ (List.mem_of_getElem? (i := 20) rfl))) rfl rfl (fun _ h => h) hB163 1 rfl (by decide) (by decide) hbs (x := 16) (by decide) (by omega) (fun j => by first | trivial | decide | rfl | exact Or.inl rfl | (refine ⟨?_, ?_⟩ <;> decide)) (by rw [hRc]; omega) (by rw [hRs]; omega) dX13_init_98 (fun H_56 hfr_56 hh_56 => ?_)
  have hh_56 : jSt (dC, dI) B base G0 (va_up G_51 H_54.size (some (163, 16))) EX13_init s.heap ((((((((((((0 + 1) + 1) + 1) + 1) + 1) + 1) + 1) + 1) + 1) + 1) + 1) + 1) ((((((((((((0 + 120000) + 120000) + 120000) + 120000) + 120000) + 12000) + 1600) + 1600) + 16) + 16) + 16) + 16) [] [] [] H_56 locs_54 := hh_56
  have hN_56 : (jNk [0, 1, 2, 3, 4, 5, 6, 7, 8, 9, 10, 11, 12, 13, 14, 16]) G_51 (va_up G_51 H_54.size (some (163, 16))) := jNk.new (by decide)
  have hgn_56 : (va_up G_51 H_54.size (some (163, 16))) H_54.size = some (163, 16) := jUp_self
  have hle_56 : jLe G_51 (va_up G_51 H_54.size (some (163, 16))) := jLe.new hh_54.2.1.fresh
  have hke_56 : jKe G_51 (va_up G_51 H_54.size (some (163, 16))) H_54 H_56 := jKe.new hfr_56
  have hsy_56 : s.heap.size ≤ H_54.size := hh_54.1.1
  generalize (va_up G_51 H_54.size (some (163, 16))) = G_56 at hN_56 hgn_56 hle_56 hke_56 hh_56
  clear hh_54
  have hNn_56 : (jNk [0, 1, 2, 3, 4, 5, 6, 7, 8, 9, 10, 11, 12, 13, 14, 16]) G0 G_56 := (hNn_51).tr hN_56
  have hkp_57 := hkp_55.tr hke_56
  have hraw_58n := hke_56.nr hraw_54.lt hraw_53n
  have hraw_58 := hraw_54.kept (hke_56.1 _ hraw_54.lt)
  refine j7_putRF hx hb hown hK hh_56 hB hAp hraw_58 hraw_58n hbr0 (C := RX13) (T := TX13) (N := 50) rfl (i := 16) (by decide) (Nat.le_of_ble_eq_true rfl) hly_15_16 rfl hin2 rfl hlk_47 (ty := (.array .int)) (v := .ref H_54.size) (by decide +kernel) rfl rfl dX13_init_100 (fun H_59 locs_59 hraw_59 hr_59 hh_59 => ?_)
  have hraw_59 : va_at (dC, dI) vwCl (r0, .inr (15, [.ref s.heap.size, .ref H_4.size, .ref H_9.size, .ref H_14.size, .ref H_19.size, .int 0, .ref H_24.size, .int 0, .ref H_29.size, .ref H_34.size, .int 0, .int 0, .ref H_39.size, .ref H_44.size, .ref H_49.size, .int 0, .ref H_54.size, .null, .int 0, .int 0, .int 0, .int 0, .null, .null, .null, .null, .null, .null, .null, .null, .int 0, .int 0, .int 0, .int 0, .int 0, .null, .int 0, .null, .int 0, .int 0, .int 0, .int 0, .int 0, .null, .null, .null, .int 0, .null, .null, .int 0])) H_59 := hraw_59
  have hkp_60 := hkp_57.put hr_59
  clear hh_56
  refine lv_aload_n hx hb dX13_init_103 rfl (lv_at hl 0 rfl) ?_
  refine lv_bipush (v := 16) hx hb dX13_init_104 (by decide) ?_
  have hsz_61 := hh_59.2.2.2.2.2.1
  have htt_61 := hh_59.2.2.2.2.2.2.1
  refine j7_newiK hx hb hK hh_59 hB (atype := .int) (ty := .int) (htw (.arrayClass .int) (jWr_3 _ (List.mem_of_getElem? (i := 20) rfl))) rfl rfl (fun _ h => h) hB160 1 rfl (by decide) (by decide) hbs (x := 16) (by decide) (by omega) (fun j => by first | trivial | decide | rfl | exact Or.inl rfl | (refine ⟨?_, ?_⟩ <;> decide)) (by rw [hRc]; omega) (by rw [hRs]; omega) dX13_init_106 (fun H_61 hfr_61 hh_61 => ?_)
  have hh_61 : jSt (dC, dI) B base G0 (va_up G_56 H_59.size (some (160, 16))) EX13_init s.heap (((((((((((((0 + 1) + 1) + 1) + 1) + 1) + 1) + 1) + 1) + 1) + 1) + 1) + 1) + 1) (((((((((((((0 + 120000) + 120000) + 120000) + 120000) + 120000) + 12000) + 1600) + 1600) + 16) + 16) + 16) + 16) + 16) [] [] [] H_61 locs_59 := hh_61
  have hN_61 : (jNk [0, 1, 2, 3, 4, 5, 6, 7, 8, 9, 10, 11, 12, 13, 14, 16]) G_56 (va_up G_56 H_59.size (some (160, 16))) := jNk.new (by decide)
  have hgn_61 : (va_up G_56 H_59.size (some (160, 16))) H_59.size = some (160, 16) := jUp_self
  have hle_61 : jLe G_56 (va_up G_56 H_59.size (some (160, 16))) := jLe.new hh_59.2.1.fresh
  have hke_61 : jKe G_56 (va_up G_56 H_59.size (some (160, 16))) H_59 H_61 := jKe.new hfr_61
  have hsy_61 : s.heap.size ≤ H_59.size := hh_59.1.1
  generalize (va_up G_56 H_59.size (some (160, 16))) = G_61 at hN_61 hgn_61 hle_61 hke_61 hh_61
  clear hh_59
  have hNn_61 : (jNk [0, 1, 2, 3, 4, 5, 6, 7, 8, 9, 10, 11, 12, 13, 14, 16]) G0 G_61 := (hNn_56).tr hN_61
  have hkp_62 := hkp_60.tr hke_61
  have hraw_63n := hke_61.nr hraw_59.lt hraw_58n
  have hraw_63 := hraw_59.kept (hke_61.1 _ hraw_59.lt)
  refine j7_putRF hx hb hown hK hh_61 hB hAp hraw_63 hraw_63n hbr0 (C := RX13) (T := TX13) (N := 50) rfl (i := 17) (by decide) (Nat.le_of_ble_eq_true rfl) hly_15_17 rfl hin2 rfl hlk_50 (ty := (.array .int)) (v := .ref H_59.size) (by decide +kernel) rfl rfl dX13_init_108 (fun H_64 locs_64 hraw_64 hr_64 hh_64 => ?_)
  have hraw_64 : va_at (dC, dI) vwCl (r0, .inr (15, [.ref s.heap.size, .ref H_4.size, .ref H_9.size, .ref H_14.size, .ref H_19.size, .int 0, .ref H_24.size, .int 0, .ref H_29.size, .ref H_34.size, .int 0, .int 0, .ref H_39.size, .ref H_44.size, .ref H_49.size, .int 0, .ref H_54.size, .ref H_59.size, .int 0, .int 0, .int 0, .int 0, .null, .null, .null, .null, .null, .null, .null, .null, .int 0, .int 0, .int 0, .int 0, .int 0, .null, .int 0, .null, .int 0, .int 0, .int 0, .int 0, .int 0, .null, .null, .null, .int 0, .null, .null, .int 0])) H_64 := hraw_64
  have hkp_65 := hkp_62.put hr_64
  clear hh_61
  refine lv_aload_n hx hb dX13_init_111 rfl (lv_at hl 0 rfl) ?_
  refine lv_bipush (v := 46) hx hb dX13_init_112 (by decide) ?_
  have hsz_66 := hh_64.2.2.2.2.2.1
  have htt_66 := hh_64.2.2.2.2.2.2.1
  refine j7_newiK hx hb hK hh_64 hB (atype := .int) (ty := .int) (htw (.arrayClass .int) (jWr_3 _ (List.mem_of_getElem? (i := 20) rfl))) rfl rfl (fun _ h => h) hB161 1 rfl (by decide) (by decide) hbs (x := 46) (by decide) (by omega) (fun j => by first | trivial | decide | rfl | exact Or.inl rfl | (refine ⟨?_, ?_⟩ <;> decide)) (by rw [hRc]; omega) (by rw [hRs]; omega) dX13_init_114 (fun H_66 hfr_66 hh_66 => ?_)
  have hh_66 : jSt (dC, dI) B base G0 (va_up G_61 H_64.size (some (161, 46))) EX13_init s.heap ((((((((((((((0 + 1) + 1) + 1) + 1) + 1) + 1) + 1) + 1) + 1) + 1) + 1) + 1) + 1) + 1) ((((((((((((((0 + 120000) + 120000) + 120000) + 120000) + 120000) + 12000) + 1600) + 1600) + 16) + 16) + 16) + 16) + 16) + 46) [] [] [] H_66 locs_64 := hh_66
  have hN_66 : (jNk [0, 1, 2, 3, 4, 5, 6, 7, 8, 9, 10, 11, 12, 13, 14, 16]) G_61 (va_up G_61 H_64.size (some (161, 46))) := jNk.new (by decide)
  have hgn_66 : (va_up G_61 H_64.size (some (161, 46))) H_64.size = some (161, 46) := jUp_self
  have hle_66 : jLe G_61 (va_up G_61 H_64.size (some (161, 46))) := jLe.new hh_64.2.1.fresh
  have hke_66 : jKe G_61 (va_up G_61 H_64.size (some (161, 46))) H_64 H_66 := jKe.new hfr_66
  have hsy_66 : s.heap.size ≤ H_64.size := hh_64.1.1
  generalize (va_up G_61 H_64.size (some (161, 46))) = G_66 at hN_66 hgn_66 hle_66 hke_66 hh_66
  clear hh_64
  have hNn_66 : (jNk [0, 1, 2, 3, 4, 5, 6, 7, 8, 9, 10, 11, 12, 13, 14, 16]) G0 G_66 := (hNn_61).tr hN_66
  have hkp_67 := hkp_65.tr hke_66
  have hraw_68n := hke_66.nr hraw_64.lt hraw_63n
  have hraw_68 := hraw_64.kept (hke_66.1 _ hraw_64.lt)
  refine j7_putRF hx hb hown hK hh_66 hB hAp hraw_68 hraw_68n hbr0 (C := RX13) (T := TX13) (N := 50) rfl (i := 22) (by decide) (Nat.le_of_ble_eq_true rfl) hly_15_22 rfl hin2 rfl hlk_53 (ty := (.array .int)) (v := .ref H_64.size) (by decide +kernel) rfl rfl dX13_init_116 (fun H_69 locs_69 hraw_69 hr_69 hh_69 => ?_)
  have hraw_69 : va_at (dC, dI) vwCl (r0, .inr (15, [.ref s.heap.size, .ref H_4.size, .ref H_9.size, .ref H_14.size, .ref H_19.size, .int 0, .ref H_24.size, .int 0, .ref H_29.size, .ref H_34.size, .int 0, .int 0, .ref H_39.size, .ref H_44.size, .ref H_49.size, .int 0, .ref H_54.size, .ref H_59.size, .int 0, .int 0, .int 0, .int 0, .ref H_64.size, .null, .null, .null, .null, .null, .null, .null, .int 0, .int 0, .int 0, .int 0, .int 0, .null, .int 0, .null, .int 0, .int 0, .int 0, .int 0, .int 0, .null, .null, .null, .int 0, .null, .null, .int 0])) H_69 := hraw_69
  have hkp_70 := hkp_67.put hr_69
  clear hh_66
  refine lv_aload_n hx hb dX13_init_119 rfl (lv_at hl 0 rfl) ?_
  refine lv_bipush (v := 46) hx hb dX13_init_120 (by decide) ?_
  have hsz_71 := hh_69.2.2.2.2.2.1
  have htt_71 := hh_69.2.2.2.2.2.2.1
  refine j7_newiK hx hb hK hh_69 hB (atype := .int) (ty := .int) (htw (.arrayClass .int) (jWr_3 _ (List.mem_of_getElem? (i := 20) rfl))) rfl rfl (fun _ h => h) hB158 1 rfl (by decide) (by decide) hbs (x := 46) (by decide) (by omega) (fun j => by first | trivial | decide | rfl | exact Or.inl rfl | (refine ⟨?_, ?_⟩ <;> decide)) (by rw [hRc]; omega) (by rw [hRs]; omega) dX13_init_122 (fun H_71 hfr_71 hh_71 => ?_)
  have hh_71 : jSt (dC, dI) B base G0 (va_up G_66 H_69.size (some (158, 46))) EX13_init s.heap (((((((((((((((0 + 1) + 1) + 1) + 1) + 1) + 1) + 1) + 1) + 1) + 1) + 1) + 1) + 1) + 1) + 1) (((((((((((((((0 + 120000) + 120000) + 120000) + 120000) + 120000) + 12000) + 1600) + 1600) + 16) + 16) + 16) + 16) + 16) + 46) + 46) [] [] [] H_71 locs_69 := hh_71
  have hN_71 : (jNk [0, 1, 2, 3, 4, 5, 6, 7, 8, 9, 10, 11, 12, 13, 14, 16]) G_66 (va_up G_66 H_69.size (some (158, 46))) := jNk.new (by decide)
  have hgn_71 : (va_up G_66 H_69.size (some (158, 46))) H_69.size = some (158, 46) := jUp_self
  have hle_71 : jLe G_66 (va_up G_66 H_69.size (some (158, 46))) := jLe.new hh_69.2.1.fresh
  have hke_71 : jKe G_66 (va_up G_66 H_69.size (some (158, 46))) H_69 H_71 := jKe.new hfr_71
  have hsy_71 : s.heap.size ≤ H_69.size := hh_69.1.1
  generalize (va_up G_66 H_69.size (some (158, 46))) = G_71 at hN_71 hgn_71 hle_71 hke_71 hh_71
  clear hh_69
  have hNn_71 : (jNk [0, 1, 2, 3, 4, 5, 6, 7, 8, 9, 10, 11, 12, 13, 14, 16]) G0 G_71 := (hNn_66).tr hN_71
  have hkp_72 := hkp_70.tr hke_71
  have hraw_73n := hke_71.nr hraw_69.lt hraw_68n
  have hraw_73 := hraw_69.kept (hke_71.1 _ hraw_69.lt)
  refine j7_putRF hx hb hown hK hh_71 hB hAp hraw_73 hraw_73n hbr0 (C := RX13) (T := TX13) (N := 50) rfl (i := 23) (by decide) (Nat.le_of_ble_eq_true rfl) hly_15_23 rfl hin2 rfl hlk_56 (ty := (.array .int)) (v := .ref H_69.size) (by decide +kernel) rfl rfl dX13_init_124 (fun H_74 locs_74 hraw_74 hr_74 hh_74 => ?_)
  have hraw_74 : va_at (dC, dI) vwCl (r0, .inr (15, [.ref s.heap.size, .ref H_4.size, .ref H_9.size, .ref H_14.size, .ref H_19.size, .int 0, .ref H_24.size, .int 0, .ref H_29.size, .ref H_34.size, .int 0, .int 0, .ref H_39.size, .ref H_44.size, .ref H_49.size, .int 0, .ref H_54.size, .ref H_59.size, .int 0, .int 0, .int 0, .int 0, .ref H_64.size, .ref H_69.size, .null, .null, .null, .null, .null, .null, .int 0, .int 0, .int 0, .int 0, .int 0, .null, .int 0, .null, .int 0, .int 0, .int 0, .int 0, .int 0, .null, .null, .null, .int 0, .null, .null, .int 0])) H_74 := hraw_74
  have hkp_75 := hkp_72.put hr_74
  clear hh_71
  refine lv_aload_n hx hb dX13_init_127 rfl (lv_at hl 0 rfl) ?_
  refine lv_sipush (v := 276) hx hb dX13_init_128 (by decide) ?_
  have hsz_76 := hh_74.2.2.2.2.2.1
  have htt_76 := hh_74.2.2.2.2.2.2.1
  refine j7_newiK hx hb hK hh_74 hB (atype := .int) (ty := .int) (htw (.arrayClass .int) (jWr_3 _ (List.mem_of_getElem? (i := 20) rfl))) rfl rfl (fun _ h => h) hB163 1 rfl (by decide) (by decide) hbs (x := 276) (by decide) (by omega) (fun j => by first | trivial | decide | rfl | exact Or.inl rfl | (refine ⟨?_, ?_⟩ <;> decide)) (by rw [hRc]; omega) (by rw [hRs]; omega) dX13_init_131 (fun H_76 hfr_76 hh_76 => ?_)
  have hh_76 : jSt (dC, dI) B base G0 (va_up G_71 H_74.size (some (163, 276))) EX13_init s.heap ((((((((((((((((0 + 1) + 1) + 1) + 1) + 1) + 1) + 1) + 1) + 1) + 1) + 1) + 1) + 1) + 1) + 1) + 1) ((((((((((((((((0 + 120000) + 120000) + 120000) + 120000) + 120000) + 12000) + 1600) + 1600) + 16) + 16) + 16) + 16) + 16) + 46) + 46) + 276) [] [] [] H_76 locs_74 := hh_76
  have hN_76 : (jNk [0, 1, 2, 3, 4, 5, 6, 7, 8, 9, 10, 11, 12, 13, 14, 16]) G_71 (va_up G_71 H_74.size (some (163, 276))) := jNk.new (by decide)
  have hgn_76 : (va_up G_71 H_74.size (some (163, 276))) H_74.size = some (163, 276) := jUp_self
  have hle_76 : jLe G_71 (va_up G_71 H_74.size (some (163, 276))) := jLe.new hh_74.2.1.fresh
  have hke_76 : jKe G_71 (va_up G_71 H_74.size (some (163, 276))) H_74 H_76 := jKe.new hfr_76
  have hsy_76 : s.heap.size ≤ H_74.size := hh_74.1.1
  generalize (va_up G_71 H_74.size (some (163, 276))) = G_76 at hN_76 hgn_76 hle_76 hke_76 hh_76
  clear hh_74
  have hNn_76 : (jNk [0, 1, 2, 3, 4, 5, 6, 7, 8, 9, 10, 11, 12, 13, 14, 16]) G0 G_76 := (hNn_71).tr hN_76
  have hkp_77 := hkp_75.tr hke_76
  have hraw_78n := hke_76.nr hraw_74.lt hraw_73n
  have hraw_78 := hraw_74.kept (hke_76.1 _ hraw_74.lt)
  refine j7_putRF hx hb hown hK hh_76 hB hAp hraw_78 hraw_78n hbr0 (C := RX13) (T := TX13) (N := 50) rfl (i := 24) (by decide) (Nat.le_of_ble_eq_true rfl) hly_15_24 rfl hin2 rfl hlk_59 (ty := (.array .int)) (v := .ref H_74.size) (by decide +kernel) rfl rfl dX13_init_133 (fun H_79 locs_79 hraw_79 hr_79 hh_79 => ?_)
  have hraw_79 : va_at (dC, dI) vwCl (r0, .inr (15, [.ref s.heap.size, .ref H_4.size, .ref H_9.size, .ref H_14.size, .ref H_19.size, .int 0, .ref H_24.size, .int 0, .ref H_29.size, .ref H_34.size, .int 0, .int 0, .ref H_39.size, .ref H_44.size, .ref H_49.size, .int 0, .ref H_54.size, .ref H_59.size, .int 0, .int 0, .int 0, .int 0, .ref H_64.size, .ref H_69.size, .ref H_74.size, .null, .null, .null, .null, .null, .int 0, .int 0, .int 0, .int 0, .int 0, .null, .int 0, .null, .int 0, .int 0, .int 0, .int 0, .int 0, .null, .null, .null, .int 0, .null, .null, .int 0])) H_79 := hraw_79
  have hkp_80 := hkp_77.put hr_79
  clear hh_76
  refine lv_aload_n hx hb dX13_init_136 rfl (lv_at hl 0 rfl) ?_
  refine lv_bipush (v := 46) hx hb dX13_init_137 (by decide) ?_
  have hsz_81 := hh_79.2.2.2.2.2.1
  have htt_81 := hh_79.2.2.2.2.2.2.1
  refine j7_newiK hx hb hK hh_79 hB (atype := .int) (ty := .int) (htw (.arrayClass .int) (jWr_3 _ (List.mem_of_getElem? (i := 20) rfl))) rfl rfl (fun _ h => h) hB159 1 rfl (by decide) (by decide) hbs (x := 46) (by decide) (by omega) (fun j => by first | trivial | decide | rfl | exact Or.inl rfl | (refine ⟨?_, ?_⟩ <;> decide)) (by rw [hRc]; omega) (by rw [hRs]; omega) dX13_init_139 (fun H_81 hfr_81 hh_81 => ?_)
  have hh_81 : jSt (dC, dI) B base G0 (va_up G_76 H_79.size (some (159, 46))) EX13_init s.heap (((((((((((((((((0 + 1) + 1) + 1) + 1) + 1) + 1) + 1) + 1) + 1) + 1) + 1) + 1) + 1) + 1) + 1) + 1) + 1) (((((((((((((((((0 + 120000) + 120000) + 120000) + 120000) + 120000) + 12000) + 1600) + 1600) + 16) + 16) + 16) + 16) + 16) + 46) + 46) + 276) + 46) [] [] [] H_81 locs_79 := hh_81
  have hN_81 : (jNk [0, 1, 2, 3, 4, 5, 6, 7, 8, 9, 10, 11, 12, 13, 14, 16]) G_76 (va_up G_76 H_79.size (some (159, 46))) := jNk.new (by decide)
  have hgn_81 : (va_up G_76 H_79.size (some (159, 46))) H_79.size = some (159, 46) := jUp_self
  have hle_81 : jLe G_76 (va_up G_76 H_79.size (some (159, 46))) := jLe.new hh_79.2.1.fresh
  have hke_81 : jKe G_76 (va_up G_76 H_79.size (some (159, 46))) H_79 H_81 := jKe.new hfr_81
  have hsy_81 : s.heap.size ≤ H_79.size := hh_79.1.1
  generalize (va_up G_76 H_79.size (some (159, 46))) = G_81 at hN_81 hgn_81 hle_81 hke_81 hh_81
  clear hh_79
  have hNn_81 : (jNk [0, 1, 2, 3, 4, 5, 6, 7, 8, 9, 10, 11, 12, 13, 14, 16]) G0 G_81 := (hNn_76).tr hN_81
  have hkp_82 := hkp_80.tr hke_81
  have hraw_83n := hke_81.nr hraw_79.lt hraw_78n
  have hraw_83 := hraw_79.kept (hke_81.1 _ hraw_79.lt)
  refine j7_putRF hx hb hown hK hh_81 hB hAp hraw_83 hraw_83n hbr0 (C := RX13) (T := TX13) (N := 50) rfl (i := 25) (by decide) (Nat.le_of_ble_eq_true rfl) hly_15_25 rfl hin2 rfl hlk_62 (ty := (.array .int)) (v := .ref H_79.size) (by decide +kernel) rfl rfl dX13_init_141 (fun H_84 locs_84 hraw_84 hr_84 hh_84 => ?_)
  have hraw_84 : va_at (dC, dI) vwCl (r0, .inr (15, [.ref s.heap.size, .ref H_4.size, .ref H_9.size, .ref H_14.size, .ref H_19.size, .int 0, .ref H_24.size, .int 0, .ref H_29.size, .ref H_34.size, .int 0, .int 0, .ref H_39.size, .ref H_44.size, .ref H_49.size, .int 0, .ref H_54.size, .ref H_59.size, .int 0, .int 0, .int 0, .int 0, .ref H_64.size, .ref H_69.size, .ref H_74.size, .ref H_79.size, .null, .null, .null, .null, .int 0, .int 0, .int 0, .int 0, .int 0, .null, .int 0, .null, .int 0, .int 0, .int 0, .int 0, .int 0, .null, .null, .null, .int 0, .null, .null, .int 0])) H_84 := hraw_84
  have hkp_85 := hkp_82.put hr_84
  clear hh_81
  refine lv_aload_n hx hb dX13_init_144 rfl (lv_at hl 0 rfl) ?_
  refine lv_sipush (v := 368) hx hb dX13_init_145 (by decide) ?_
  have hsz_86 := hh_84.2.2.2.2.2.1
  have htt_86 := hh_84.2.2.2.2.2.2.1
  refine j7_newiK hx hb hK hh_84 hB (atype := .int) (ty := .int) (htw (.arrayClass .int) (jWr_3 _ (List.mem_of_getElem? (i := 20) rfl))) rfl rfl (fun _ h => h) hB163 1 rfl (by decide) (by decide) hbs (x := 368) (by decide) (by omega) (fun j => by first | trivial | decide | rfl | exact Or.inl rfl | (refine ⟨?_, ?_⟩ <;> decide)) (by rw [hRc]; omega) (by rw [hRs]; omega) dX13_init_148 (fun H_86 hfr_86 hh_86 => ?_)
  have hh_86 : jSt (dC, dI) B base G0 (va_up G_81 H_84.size (some (163, 368))) EX13_init s.heap ((((((((((((((((((0 + 1) + 1) + 1) + 1) + 1) + 1) + 1) + 1) + 1) + 1) + 1) + 1) + 1) + 1) + 1) + 1) + 1) + 1) ((((((((((((((((((0 + 120000) + 120000) + 120000) + 120000) + 120000) + 12000) + 1600) + 1600) + 16) + 16) + 16) + 16) + 16) + 46) + 46) + 276) + 46) + 368) [] [] [] H_86 locs_84 := hh_86
  have hN_86 : (jNk [0, 1, 2, 3, 4, 5, 6, 7, 8, 9, 10, 11, 12, 13, 14, 16]) G_81 (va_up G_81 H_84.size (some (163, 368))) := jNk.new (by decide)
  have hgn_86 : (va_up G_81 H_84.size (some (163, 368))) H_84.size = some (163, 368) := jUp_self
  have hle_86 : jLe G_81 (va_up G_81 H_84.size (some (163, 368))) := jLe.new hh_84.2.1.fresh
  have hke_86 : jKe G_81 (va_up G_81 H_84.size (some (163, 368))) H_84 H_86 := jKe.new hfr_86
  have hsy_86 : s.heap.size ≤ H_84.size := hh_84.1.1
  generalize (va_up G_81 H_84.size (some (163, 368))) = G_86 at hN_86 hgn_86 hle_86 hke_86 hh_86
  clear hh_84
  have hNn_86 : (jNk [0, 1, 2, 3, 4, 5, 6, 7, 8, 9, 10, 11, 12, 13, 14, 16]) G0 G_86 := (hNn_81).tr hN_86
  have hkp_87 := hkp_85.tr hke_86
  have hraw_88n := hke_86.nr hraw_84.lt hraw_83n
  have hraw_88 := hraw_84.kept (hke_86.1 _ hraw_84.lt)
  refine j7_putRF hx hb hown hK hh_86 hB hAp hraw_88 hraw_88n hbr0 (C := RX13) (T := TX13) (N := 50) rfl (i := 26) (by decide) (Nat.le_of_ble_eq_true rfl) hly_15_26 rfl hin2 rfl hlk_65 (ty := (.array .int)) (v := .ref H_84.size) (by decide +kernel) rfl rfl dX13_init_150 (fun H_89 locs_89 hraw_89 hr_89 hh_89 => ?_)
  have hraw_89 : va_at (dC, dI) vwCl (r0, .inr (15, [.ref s.heap.size, .ref H_4.size, .ref H_9.size, .ref H_14.size, .ref H_19.size, .int 0, .ref H_24.size, .int 0, .ref H_29.size, .ref H_34.size, .int 0, .int 0, .ref H_39.size, .ref H_44.size, .ref H_49.size, .int 0, .ref H_54.size, .ref H_59.size, .int 0, .int 0, .int 0, .int 0, .ref H_64.size, .ref H_69.size, .ref H_74.size, .ref H_79.size, .ref H_84.size, .null, .null, .null, .int 0, .int 0, .int 0, .int 0, .int 0, .null, .int 0, .null, .int 0, .int 0, .int 0, .int 0, .int 0, .null, .null, .null, .int 0, .null, .null, .int 0])) H_89 := hraw_89
  have hkp_90 := hkp_87.put hr_89
  clear hh_86
  refine lv_aload_n hx hb dX13_init_153 rfl (lv_at hl 0 rfl) ?_
  refine lv_sipush (v := 368) hx hb dX13_init_154 (by decide) ?_
  have hsz_91 := hh_89.2.2.2.2.2.1
  have htt_91 := hh_89.2.2.2.2.2.2.1
  refine j7_newiK hx hb hK hh_89 hB (atype := .int) (ty := .int) (htw (.arrayClass .int) (jWr_3 _ (List.mem_of_getElem? (i := 20) rfl))) rfl rfl (fun _ h => h) hB162 1 rfl (by decide) (by decide) hbs (x := 368) (by decide) (by omega) (fun j => by first | trivial | decide | rfl | exact Or.inl rfl | (refine ⟨?_, ?_⟩ <;> decide)) (by rw [hRc]; omega) (by rw [hRs]; omega) dX13_init_157 (fun H_91 hfr_91 hh_91 => ?_)
  have hh_91 : jSt (dC, dI) B base G0 (va_up G_86 H_89.size (some (162, 368))) EX13_init s.heap (((((((((((((((((((0 + 1) + 1) + 1) + 1) + 1) + 1) + 1) + 1) + 1) + 1) + 1) + 1) + 1) + 1) + 1) + 1) + 1) + 1) + 1) (((((((((((((((((((0 + 120000) + 120000) + 120000) + 120000) + 120000) + 12000) + 1600) + 1600) + 16) + 16) + 16) + 16) + 16) + 46) + 46) + 276) + 46) + 368) + 368) [] [] [] H_91 locs_89 := hh_91
  have hN_91 : (jNk [0, 1, 2, 3, 4, 5, 6, 7, 8, 9, 10, 11, 12, 13, 14, 16]) G_86 (va_up G_86 H_89.size (some (162, 368))) := jNk.new (by decide)
  have hgn_91 : (va_up G_86 H_89.size (some (162, 368))) H_89.size = some (162, 368) := jUp_self
  have hle_91 : jLe G_86 (va_up G_86 H_89.size (some (162, 368))) := jLe.new hh_89.2.1.fresh
  have hke_91 : jKe G_86 (va_up G_86 H_89.size (some (162, 368))) H_89 H_91 := jKe.new hfr_91
  have hsy_91 : s.heap.size ≤ H_89.size := hh_89.1.1
  generalize (va_up G_86 H_89.size (some (162, 368))) = G_91 at hN_91 hgn_91 hle_91 hke_91 hh_91
  clear hh_89
  have hNn_91 : (jNk [0, 1, 2, 3, 4, 5, 6, 7, 8, 9, 10, 11, 12, 13, 14, 16]) G0 G_91 := (hNn_86).tr hN_91
  have hkp_92 := hkp_90.tr hke_91
  have hraw_93n := hke_91.nr hraw_89.lt hraw_88n
  have hraw_93 := hraw_89.kept (hke_91.1 _ hraw_89.lt)
  refine j7_putRF hx hb hown hK hh_91 hB hAp hraw_93 hraw_93n hbr0 (C := RX13) (T := TX13) (N := 50) rfl (i := 27) (by decide) (Nat.le_of_ble_eq_true rfl) hly_15_27 rfl hin2 rfl hlk_68 (ty := (.array .int)) (v := .ref H_89.size) (by decide +kernel) rfl rfl dX13_init_159 (fun H_94 locs_94 hraw_94 hr_94 hh_94 => ?_)
  have hraw_94 : va_at (dC, dI) vwCl (r0, .inr (15, [.ref s.heap.size, .ref H_4.size, .ref H_9.size, .ref H_14.size, .ref H_19.size, .int 0, .ref H_24.size, .int 0, .ref H_29.size, .ref H_34.size, .int 0, .int 0, .ref H_39.size, .ref H_44.size, .ref H_49.size, .int 0, .ref H_54.size, .ref H_59.size, .int 0, .int 0, .int 0, .int 0, .ref H_64.size, .ref H_69.size, .ref H_74.size, .ref H_79.size, .ref H_84.size, .ref H_89.size, .null, .null, .int 0, .int 0, .int 0, .int 0, .int 0, .null, .int 0, .null, .int 0, .int 0, .int 0, .int 0, .int 0, .null, .null, .null, .int 0, .null, .null, .int 0])) H_94 := hraw_94
  have hkp_95 := hkp_92.put hr_94
  clear hh_91
  refine lv_aload_n hx hb dX13_init_162 rfl (lv_at hl 0 rfl) ?_
  refine lv_sipush (v := 1500) hx hb dX13_init_163 (by decide) ?_
  have hsz_96 := hh_94.2.2.2.2.2.1
  have htt_96 := hh_94.2.2.2.2.2.2.1
  refine j7_newiK hx hb hK hh_94 hB (atype := .int) (ty := .int) (htw (.arrayClass .int) (jWr_3 _ (List.mem_of_getElem? (i := 20) rfl))) rfl rfl (fun _ h => h) hB167 1 rfl (by decide) (by decide) hbs (x := 1500) (by decide) (by omega) (fun j => by first | trivial | decide | rfl | exact Or.inl rfl | (refine ⟨?_, ?_⟩ <;> decide)) (by rw [hRc]; omega) (by rw [hRs]; omega) dX13_init_166 (fun H_96 hfr_96 hh_96 => ?_)
  have hh_96 : jSt (dC, dI) B base G0 (va_up G_91 H_94.size (some (167, 1500))) EX13_init s.heap ((((((((((((((((((((0 + 1) + 1) + 1) + 1) + 1) + 1) + 1) + 1) + 1) + 1) + 1) + 1) + 1) + 1) + 1) + 1) + 1) + 1) + 1) + 1) ((((((((((((((((((((0 + 120000) + 120000) + 120000) + 120000) + 120000) + 12000) + 1600) + 1600) + 16) + 16) + 16) + 16) + 16) + 46) + 46) + 276) + 46) + 368) + 368) + 1500) [] [] [] H_96 locs_94 := hh_96
  have hN_96 : (jNk [0, 1, 2, 3, 4, 5, 6, 7, 8, 9, 10, 11, 12, 13, 14, 16]) G_91 (va_up G_91 H_94.size (some (167, 1500))) := jNk.new (by decide)
  have hgn_96 : (va_up G_91 H_94.size (some (167, 1500))) H_94.size = some (167, 1500) := jUp_self
  have hle_96 : jLe G_91 (va_up G_91 H_94.size (some (167, 1500))) := jLe.new hh_94.2.1.fresh
  have hke_96 : jKe G_91 (va_up G_91 H_94.size (some (167, 1500))) H_94 H_96 := jKe.new hfr_96
  have hsy_96 : s.heap.size ≤ H_94.size := hh_94.1.1
  generalize (va_up G_91 H_94.size (some (167, 1500))) = G_96 at hN_96 hgn_96 hle_96 hke_96 hh_96
  clear hh_94
  have hNn_96 : (jNk [0, 1, 2, 3, 4, 5, 6, 7, 8, 9, 10, 11, 12, 13, 14, 16]) G0 G_96 := (hNn_91).tr hN_96
  have hkp_97 := hkp_95.tr hke_96
  have hraw_98n := hke_96.nr hraw_94.lt hraw_93n
  have hraw_98 := hraw_94.kept (hke_96.1 _ hraw_94.lt)
  refine j7_putRF hx hb hown hK hh_96 hB hAp hraw_98 hraw_98n hbr0 (C := RX13) (T := TX13) (N := 50) rfl (i := 28) (by decide) (Nat.le_of_ble_eq_true rfl) hly_15_28 rfl hin2 rfl hlk_71 (ty := (.array .int)) (v := .ref H_94.size) (by decide +kernel) rfl rfl dX13_init_168 (fun H_99 locs_99 hraw_99 hr_99 hh_99 => ?_)
  have hraw_99 : va_at (dC, dI) vwCl (r0, .inr (15, [.ref s.heap.size, .ref H_4.size, .ref H_9.size, .ref H_14.size, .ref H_19.size, .int 0, .ref H_24.size, .int 0, .ref H_29.size, .ref H_34.size, .int 0, .int 0, .ref H_39.size, .ref H_44.size, .ref H_49.size, .int 0, .ref H_54.size, .ref H_59.size, .int 0, .int 0, .int 0, .int 0, .ref H_64.size, .ref H_69.size, .ref H_74.size, .ref H_79.size, .ref H_84.size, .ref H_89.size, .ref H_94.size, .null, .int 0, .int 0, .int 0, .int 0, .int 0, .null, .int 0, .null, .int 0, .int 0, .int 0, .int 0, .int 0, .null, .null, .null, .int 0, .null, .null, .int 0])) H_99 := hraw_99
  have hkp_100 := hkp_97.put hr_99
  clear hh_96
  refine lv_aload_n hx hb dX13_init_171 rfl (lv_at hl 0 rfl) ?_
  refine lv_sipush (v := 1500) hx hb dX13_init_172 (by decide) ?_
  have hsz_101 := hh_99.2.2.2.2.2.1
  have htt_101 := hh_99.2.2.2.2.2.2.1
  refine j7_newiK hx hb hK hh_99 hB (atype := .int) (ty := .int) (htw (.arrayClass .int) (jWr_3 _ (List.mem_of_getElem? (i := 20) rfl))) rfl rfl (fun _ h => h) hB157 1 rfl (by decide) (by decide) hbs (x := 1500) (by decide) (by omega) (fun j => by first | trivial | decide | rfl | exact Or.inl rfl | (refine ⟨?_, ?_⟩ <;> decide)) (by rw [hRc]; omega) (by rw [hRs]; omega) dX13_init_175 (fun H_101 hfr_101 hh_101 => ?_)
  have hh_101 : jSt (dC, dI) B base G0 (va_up G_96 H_99.size (some (157, 1500))) EX13_init s.heap (((((((((((((((((((((0 + 1) + 1) + 1) + 1) + 1) + 1) + 1) + 1) + 1) + 1) + 1) + 1) + 1) + 1) + 1) + 1) + 1) + 1) + 1) + 1) + 1) (((((((((((((((((((((0 + 120000) + 120000) + 120000) + 120000) + 120000) + 12000) + 1600) + 1600) + 16) + 16) + 16) + 16) + 16) + 46) + 46) + 276) + 46) + 368) + 368) + 1500) + 1500) [] [] [] H_101 locs_99 := hh_101
  have hN_101 : (jNk [0, 1, 2, 3, 4, 5, 6, 7, 8, 9, 10, 11, 12, 13, 14, 16]) G_96 (va_up G_96 H_99.size (some (157, 1500))) := jNk.new (by decide)
  have hgn_101 : (va_up G_96 H_99.size (some (157, 1500))) H_99.size = some (157, 1500) := jUp_self
  have hle_101 : jLe G_96 (va_up G_96 H_99.size (some (157, 1500))) := jLe.new hh_99.2.1.fresh
  have hke_101 : jKe G_96 (va_up G_96 H_99.size (some (157, 1500))) H_99 H_101 := jKe.new hfr_101
  have hsy_101 : s.heap.size ≤ H_99.size := hh_99.1.1
  generalize (va_up G_96 H_99.size (some (157, 1500))) = G_101 at hN_101 hgn_101 hle_101 hke_101 hh_101
  clear hh_99
  have hNn_101 : (jNk [0, 1, 2, 3, 4, 5, 6, 7, 8, 9, 10, 11, 12, 13, 14, 16]) G0 G_101 := (hNn_96).tr hN_101
  have hkp_102 := hkp_100.tr hke_101
  have hraw_103n := hke_101.nr hraw_99.lt hraw_98n
  have hraw_103 := hraw_99.kept (hke_101.1 _ hraw_99.lt)
  refine j7_putRF hx hb hown hK hh_101 hB hAp hraw_103 hraw_103n hbr0 (C := RX13) (T := TX13) (N := 50) rfl (i := 29) (by decide) (Nat.le_of_ble_eq_true rfl) hly_15_29 rfl hin2 rfl hlk_74 (ty := (.array .int)) (v := .ref H_99.size) (by decide +kernel) rfl rfl dX13_init_177 (fun H_104 locs_104 hraw_104 hr_104 hh_104 => ?_)
  have hraw_104 : va_at (dC, dI) vwCl (r0, .inr (15, [.ref s.heap.size, .ref H_4.size, .ref H_9.size, .ref H_14.size, .ref H_19.size, .int 0, .ref H_24.size, .int 0, .ref H_29.size, .ref H_34.size, .int 0, .int 0, .ref H_39.size, .ref H_44.size, .ref H_49.size, .int 0, .ref H_54.size, .ref H_59.size, .int 0, .int 0, .int 0, .int 0, .ref H_64.size, .ref H_69.size, .ref H_74.size, .ref H_79.size, .ref H_84.size, .ref H_89.size, .ref H_94.size, .ref H_99.size, .int 0, .int 0, .int 0, .int 0, .int 0, .null, .int 0, .null, .int 0, .int 0, .int 0, .int 0, .int 0, .null, .null, .null, .int 0, .null, .null, .int 0])) H_104 := hraw_104
  have hkp_105 := hkp_102.put hr_104
  clear hh_101
  refine lv_aload_n hx hb dX13_init_180 rfl (lv_at hl 0 rfl) ?_
  refine lv_sipush (v := 200) hx hb dX13_init_181 (by decide) ?_
  have hsz_106 := hh_104.2.2.2.2.2.1
  have htt_106 := hh_104.2.2.2.2.2.2.1
  refine j7_newiK hx hb hK hh_104 hB (atype := .int) (ty := .int) (htw (.arrayClass .int) (jWr_3 _ (List.mem_of_getElem? (i := 20) rfl))) rfl rfl (fun _ h => h) hB163 1 rfl (by decide) (by decide) hbs (x := 200) (by decide) (by omega) (fun j => by first | trivial | decide | rfl | exact Or.inl rfl | (refine ⟨?_, ?_⟩ <;> decide)) (by rw [hRc]; omega) (by rw [hRs]; omega) dX13_init_184 (fun H_106 hfr_106 hh_106 => ?_)
  have hh_106 : jSt (dC, dI) B base G0 (va_up G_101 H_104.size (some (163, 200))) EX13_init s.heap ((((((((((((((((((((((0 + 1) + 1) + 1) + 1) + 1) + 1) + 1) + 1) + 1) + 1) + 1) + 1) + 1) + 1) + 1) + 1) + 1) + 1) + 1) + 1) + 1) + 1) ((((((((((((((((((((((0 + 120000) + 120000) + 120000) + 120000) + 120000) + 12000) + 1600) + 1600) + 16) + 16) + 16) + 16) + 16) + 46) + 46) + 276) + 46) + 368) + 368) + 1500) + 1500) + 200) [] [] [] H_106 locs_104 := hh_106
  have hN_106 : (jNk [0, 1, 2, 3, 4, 5, 6, 7, 8, 9, 10, 11, 12, 13, 14, 16]) G_101 (va_up G_101 H_104.size (some (163, 200))) := jNk.new (by decide)
  have hgn_106 : (va_up G_101 H_104.size (some (163, 200))) H_104.size = some (163, 200) := jUp_self
  have hle_106 : jLe G_101 (va_up G_101 H_104.size (some (163, 200))) := jLe.new hh_104.2.1.fresh
  have hke_106 : jKe G_101 (va_up G_101 H_104.size (some (163, 200))) H_104 H_106 := jKe.new hfr_106
  have hsy_106 : s.heap.size ≤ H_104.size := hh_104.1.1
  generalize (va_up G_101 H_104.size (some (163, 200))) = G_106 at hN_106 hgn_106 hle_106 hke_106 hh_106
  clear hh_104
  have hNn_106 : (jNk [0, 1, 2, 3, 4, 5, 6, 7, 8, 9, 10, 11, 12, 13, 14, 16]) G0 G_106 := (hNn_101).tr hN_106
  have hkp_107 := hkp_105.tr hke_106
  have hraw_108n := hke_106.nr hraw_104.lt hraw_103n
  have hraw_108 := hraw_104.kept (hke_106.1 _ hraw_104.lt)
  refine j7_putRF hx hb hown hK hh_106 hB hAp hraw_108 hraw_108n hbr0 (C := RX13) (T := TX13) (N := 50) rfl (i := 35) (by decide) (Nat.le_of_ble_eq_true rfl) hly_15_35 rfl hin2 rfl hlk_77 (ty := (.array .int)) (v := .ref H_104.size) (by decide +kernel) rfl rfl dX13_init_186 (fun H_109 locs_109 hraw_109 hr_109 hh_109 => ?_)
  have hraw_109 : va_at (dC, dI) vwCl (r0, .inr (15, [.ref s.heap.size, .ref H_4.size, .ref H_9.size, .ref H_14.size, .ref H_19.size, .int 0, .ref H_24.size, .int 0, .ref H_29.size, .ref H_34.size, .int 0, .int 0, .ref H_39.size, .ref H_44.size, .ref H_49.size, .int 0, .ref H_54.size, .ref H_59.size, .int 0, .int 0, .int 0, .int 0, .ref H_64.size, .ref H_69.size, .ref H_74.size, .ref H_79.size, .ref H_84.size, .ref H_89.size, .ref H_94.size, .ref H_99.size, .int 0, .int 0, .int 0, .int 0, .int 0, .ref H_104.size, .int 0, .null, .int 0, .int 0, .int 0, .int 0, .int 0, .null, .null, .null, .int 0, .null, .null, .int 0])) H_109 := hraw_109
  have hkp_110 := hkp_107.put hr_109
  clear hh_106
  refine lv_aload_n hx hb dX13_init_189 rfl (lv_at hl 0 rfl) ?_
  refine lv_iconst (v := 1) hx hb dX13_init_190 (by decide) ?_
  have hsz_111 := hh_109.2.2.2.2.2.1
  have htt_111 := hh_109.2.2.2.2.2.2.1
  refine j7_newiK hx hb hK hh_109 hB (atype := .int) (ty := .int) (htw (.arrayClass .int) (jWr_3 _ (List.mem_of_getElem? (i := 20) rfl))) rfl rfl (fun _ h => h) hB169 1 rfl (by decide) (by decide) hbs (x := 1) (by decide) (by omega) (fun j => by first | trivial | decide | rfl | exact Or.inl rfl | (refine ⟨?_, ?_⟩ <;> decide)) (by rw [hRc]; omega) (by rw [hRs]; omega) dX13_init_191 (fun H_111 hfr_111 hh_111 => ?_)
  have hh_111 : jSt (dC, dI) B base G0 (va_up G_106 H_109.size (some (169, 1))) EX13_init s.heap (((((((((((((((((((((((0 + 1) + 1) + 1) + 1) + 1) + 1) + 1) + 1) + 1) + 1) + 1) + 1) + 1) + 1) + 1) + 1) + 1) + 1) + 1) + 1) + 1) + 1) + 1) (((((((((((((((((((((((0 + 120000) + 120000) + 120000) + 120000) + 120000) + 12000) + 1600) + 1600) + 16) + 16) + 16) + 16) + 16) + 46) + 46) + 276) + 46) + 368) + 368) + 1500) + 1500) + 200) + 1) [] [] [] H_111 locs_109 := hh_111
  have hN_111 : (jNk [0, 1, 2, 3, 4, 5, 6, 7, 8, 9, 10, 11, 12, 13, 14, 16]) G_106 (va_up G_106 H_109.size (some (169, 1))) := jNk.new (by decide)
  have hgn_111 : (va_up G_106 H_109.size (some (169, 1))) H_109.size = some (169, 1) := jUp_self
  have hle_111 : jLe G_106 (va_up G_106 H_109.size (some (169, 1))) := jLe.new hh_109.2.1.fresh
  have hke_111 : jKe G_106 (va_up G_106 H_109.size (some (169, 1))) H_109 H_111 := jKe.new hfr_111
  have hsy_111 : s.heap.size ≤ H_109.size := hh_109.1.1
  generalize (va_up G_106 H_109.size (some (169, 1))) = G_111 at hN_111 hgn_111 hle_111 hke_111 hh_111
  clear hh_109
  have hNn_111 : (jNk [0, 1, 2, 3, 4, 5, 6, 7, 8, 9, 10, 11, 12, 13, 14, 16]) G0 G_111 := (hNn_106).tr hN_111
  have hkp_112 := hkp_110.tr hke_111
  have hraw_113n := hke_111.nr hraw_109.lt hraw_108n
  have hraw_113 := hraw_109.kept (hke_111.1 _ hraw_109.lt)
  refine j7_putRF hx hb hown hK hh_111 hB hAp hraw_113 hraw_113n hbr0 (C := RX13) (T := TX13) (N := 50) rfl (i := 37) (by decide) (Nat.le_of_ble_eq_true rfl) hly_15_37 rfl hin2 rfl hlk_80 (ty := (.array .int)) (v := .ref H_109.size) (by decide +kernel) rfl rfl dX13_init_193 (fun H_114 locs_114 hraw_114 hr_114 hh_114 => ?_)
  have hraw_114 : va_at (dC, dI) vwCl (r0, .inr (15, [.ref s.heap.size, .ref H_4.size, .ref H_9.size, .ref H_14.size, .ref H_19.size, .int 0, .ref H_24.size, .int 0, .ref H_29.size, .ref H_34.size, .int 0, .int 0, .ref H_39.size, .ref H_44.size, .ref H_49.size, .int 0, .ref H_54.size, .ref H_59.size, .int 0, .int 0, .int 0, .int 0, .ref H_64.size, .ref H_69.size, .ref H_74.size, .ref H_79.size, .ref H_84.size, .ref H_89.size, .ref H_94.size, .ref H_99.size, .int 0, .int 0, .int 0, .int 0, .int 0, .ref H_104.size, .int 0, .ref H_109.size, .int 0, .int 0, .int 0, .int 0, .int 0, .null, .null, .null, .int 0, .null, .null, .int 0])) H_114 := hraw_114
  have hkp_115 := hkp_112.put hr_114
  clear hh_111
  refine lv_aload_n hx hb dX13_init_196 rfl (lv_at hl 0 rfl) ?_
  refine lv_bipush (v := 100) hx hb dX13_init_197 (by decide) ?_
  have hsz_116 := hh_114.2.2.2.2.2.1
  have htt_116 := hh_114.2.2.2.2.2.2.1
  refine j7_newiK hx hb hK hh_114 hB (atype := .int) (ty := .int) (htw (.arrayClass .int) (jWr_3 _ (List.mem_of_getElem? (i := 20) rfl))) rfl rfl (fun _ h => h) hB169 1 rfl (by decide) (by decide) hbs (x := 100) (by decide) (by omega) (fun j => by first | trivial | decide | rfl | exact Or.inl rfl | (refine ⟨?_, ?_⟩ <;> decide)) (by rw [hRc]; omega) (by rw [hRs]; omega) dX13_init_199 (fun H_116 hfr_116 hh_116 => ?_)
  have hh_116 : jSt (dC, dI) B base G0 (va_up G_111 H_114.size (some (169, 100))) EX13_init s.heap ((((((((((((((((((((((((0 + 1) + 1) + 1) + 1) + 1) + 1) + 1) + 1) + 1) + 1) + 1) + 1) + 1) + 1) + 1) + 1) + 1) + 1) + 1) + 1) + 1) + 1) + 1) + 1) ((((((((((((((((((((((((0 + 120000) + 120000) + 120000) + 120000) + 120000) + 12000) + 1600) + 1600) + 16) + 16) + 16) + 16) + 16) + 46) + 46) + 276) + 46) + 368) + 368) + 1500) + 1500) + 200) + 1) + 100) [] [] [] H_116 locs_114 := hh_116
  have hN_116 : (jNk [0, 1, 2, 3, 4, 5, 6, 7, 8, 9, 10, 11, 12, 13, 14, 16]) G_111 (va_up G_111 H_114.size (some (169, 100))) := jNk.new (by decide)
  have hgn_116 : (va_up G_111 H_114.size (some (169, 100))) H_114.size = some (169, 100) := jUp_self
  have hle_116 : jLe G_111 (va_up G_111 H_114.size (some (169, 100))) := jLe.new hh_114.2.1.fresh
  have hke_116 : jKe G_111 (va_up G_111 H_114.size (some (169, 100))) H_114 H_116 := jKe.new hfr_116
  have hsy_116 : s.heap.size ≤ H_114.size := hh_114.1.1
  generalize (va_up G_111 H_114.size (some (169, 100))) = G_116 at hN_116 hgn_116 hle_116 hke_116 hh_116
  clear hh_114
  have hNn_116 : (jNk [0, 1, 2, 3, 4, 5, 6, 7, 8, 9, 10, 11, 12, 13, 14, 16]) G0 G_116 := (hNn_111).tr hN_116
  have hkp_117 := hkp_115.tr hke_116
  have hraw_118n := hke_116.nr hraw_114.lt hraw_113n
  have hraw_118 := hraw_114.kept (hke_116.1 _ hraw_114.lt)
  refine j7_putRF hx hb hown hK hh_116 hB hAp hraw_118 hraw_118n hbr0 (C := RX13) (T := TX13) (N := 50) rfl (i := 43) (by decide) (Nat.le_of_ble_eq_true rfl) hly_15_43 rfl hin2 rfl hlk_83 (ty := (.array .int)) (v := .ref H_114.size) (by decide +kernel) rfl rfl dX13_init_201 (fun H_119 locs_119 hraw_119 hr_119 hh_119 => ?_)
  have hraw_119 : va_at (dC, dI) vwCl (r0, .inr (15, [.ref s.heap.size, .ref H_4.size, .ref H_9.size, .ref H_14.size, .ref H_19.size, .int 0, .ref H_24.size, .int 0, .ref H_29.size, .ref H_34.size, .int 0, .int 0, .ref H_39.size, .ref H_44.size, .ref H_49.size, .int 0, .ref H_54.size, .ref H_59.size, .int 0, .int 0, .int 0, .int 0, .ref H_64.size, .ref H_69.size, .ref H_74.size, .ref H_79.size, .ref H_84.size, .ref H_89.size, .ref H_94.size, .ref H_99.size, .int 0, .int 0, .int 0, .int 0, .int 0, .ref H_104.size, .int 0, .ref H_109.size, .int 0, .int 0, .int 0, .int 0, .int 0, .ref H_114.size, .null, .null, .int 0, .null, .null, .int 0])) H_119 := hraw_119
  have hkp_120 := hkp_117.put hr_119
  clear hh_116
  refine lv_aload_n hx hb dX13_init_204 rfl (lv_at hl 0 rfl) ?_
  refine lv_bipush (v := 100) hx hb dX13_init_205 (by decide) ?_
  have hsz_121 := hh_119.2.2.2.2.2.1
  have htt_121 := hh_119.2.2.2.2.2.2.1
  refine j7_newiK hx hb hK hh_119 hB (atype := .int) (ty := .int) (htw (.arrayClass .int) (jWr_3 _ (List.mem_of_getElem? (i := 20) rfl))) rfl rfl (fun _ h => h) hB168 1 rfl (by decide) (by decide) hbs (x := 100) (by decide) (by omega) (fun j => by first | trivial | decide | rfl | exact Or.inl rfl | (refine ⟨?_, ?_⟩ <;> decide)) (by rw [hRc]; omega) (by rw [hRs]; omega) dX13_init_207 (fun H_121 hfr_121 hh_121 => ?_)
  have hh_121 : jSt (dC, dI) B base G0 (va_up G_116 H_119.size (some (168, 100))) EX13_init s.heap (((((((((((((((((((((((((0 + 1) + 1) + 1) + 1) + 1) + 1) + 1) + 1) + 1) + 1) + 1) + 1) + 1) + 1) + 1) + 1) + 1) + 1) + 1) + 1) + 1) + 1) + 1) + 1) + 1) (((((((((((((((((((((((((0 + 120000) + 120000) + 120000) + 120000) + 120000) + 12000) + 1600) + 1600) + 16) + 16) + 16) + 16) + 16) + 46) + 46) + 276) + 46) + 368) + 368) + 1500) + 1500) + 200) + 1) + 100) + 100) [] [] [] H_121 locs_119 := hh_121
  have hN_121 : (jNk [0, 1, 2, 3, 4, 5, 6, 7, 8, 9, 10, 11, 12, 13, 14, 16]) G_116 (va_up G_116 H_119.size (some (168, 100))) := jNk.new (by decide)
  have hgn_121 : (va_up G_116 H_119.size (some (168, 100))) H_119.size = some (168, 100) := jUp_self
  have hle_121 : jLe G_116 (va_up G_116 H_119.size (some (168, 100))) := jLe.new hh_119.2.1.fresh
  have hke_121 : jKe G_116 (va_up G_116 H_119.size (some (168, 100))) H_119 H_121 := jKe.new hfr_121
  have hsy_121 : s.heap.size ≤ H_119.size := hh_119.1.1
  generalize (va_up G_116 H_119.size (some (168, 100))) = G_121 at hN_121 hgn_121 hle_121 hke_121 hh_121
  clear hh_119
  have hNn_121 : (jNk [0, 1, 2, 3, 4, 5, 6, 7, 8, 9, 10, 11, 12, 13, 14, 16]) G0 G_121 := (hNn_116).tr hN_121
  have hkp_122 := hkp_120.tr hke_121
  have hraw_123n := hke_121.nr hraw_119.lt hraw_118n
  have hraw_123 := hraw_119.kept (hke_121.1 _ hraw_119.lt)
  refine j7_putRF hx hb hown hK hh_121 hB hAp hraw_123 hraw_123n hbr0 (C := RX13) (T := TX13) (N := 50) rfl (i := 44) (by decide) (Nat.le_of_ble_eq_true rfl) hly_15_44 rfl hin2 rfl hlk_86 (ty := (.array .int)) (v := .ref H_119.size) (by decide +kernel) rfl rfl dX13_init_209 (fun H_124 locs_124 hraw_124 hr_124 hh_124 => ?_)
  have hraw_124 : va_at (dC, dI) vwCl (r0, .inr (15, [.ref s.heap.size, .ref H_4.size, .ref H_9.size, .ref H_14.size, .ref H_19.size, .int 0, .ref H_24.size, .int 0, .ref H_29.size, .ref H_34.size, .int 0, .int 0, .ref H_39.size, .ref H_44.size, .ref H_49.size, .int 0, .ref H_54.size, .ref H_59.size, .int 0, .int 0, .int 0, .int 0, .ref H_64.size, .ref H_69.size, .ref H_74.size, .ref H_79.size, .ref H_84.size, .ref H_89.size, .ref H_94.size, .ref H_99.size, .int 0, .int 0, .int 0, .int 0, .int 0, .ref H_104.size, .int 0, .ref H_109.size, .int 0, .int 0, .int 0, .int 0, .int 0, .ref H_114.size, .ref H_119.size, .null, .int 0, .null, .null, .int 0])) H_124 := hraw_124
  have hkp_125 := hkp_122.put hr_124
  clear hh_121
  refine lv_aload_n hx hb dX13_init_212 rfl (lv_at hl 0 rfl) ?_
  refine lv_ldc hx hb hown hcs_89 dX13_init_213 ?_
  have hsz_126 := hh_124.2.2.2.2.2.1
  have htt_126 := hh_124.2.2.2.2.2.2.1
  refine j7_newiK hx hb hK hh_124 hB (atype := .int) (ty := .int) (htw (.arrayClass .int) (jWr_3 _ (List.mem_of_getElem? (i := 20) rfl))) rfl rfl (fun _ h => h) hB101 1 rfl (by decide) (by decide) hbs (x := 100000) (by decide) (by omega) (fun j => by first | trivial | decide | rfl | exact Or.inl rfl | (refine ⟨?_, ?_⟩ <;> decide)) (by rw [hRc]; omega) (by rw [hRs]; omega) dX13_init_215 (fun H_126 hfr_126 hh_126 => ?_)
  have hh_126 : jSt (dC, dI) B base G0 (va_up G_121 H_124.size (some (101, 100000))) EX13_init s.heap ((((((((((((((((((((((((((0 + 1) + 1) + 1) + 1) + 1) + 1) + 1) + 1) + 1) + 1) + 1) + 1) + 1) + 1) + 1) + 1) + 1) + 1) + 1) + 1) + 1) + 1) + 1) + 1) + 1) + 1) ((((((((((((((((((((((((((0 + 120000) + 120000) + 120000) + 120000) + 120000) + 12000) + 1600) + 1600) + 16) + 16) + 16) + 16) + 16) + 46) + 46) + 276) + 46) + 368) + 368) + 1500) + 1500) + 200) + 1) + 100) + 100) + 100000) [] [] [] H_126 locs_124 := hh_126
  have hN_126 : (jNk [0, 1, 2, 3, 4, 5, 6, 7, 8, 9, 10, 11, 12, 13, 14, 16]) G_121 (va_up G_121 H_124.size (some (101, 100000))) := jNk.new (by decide)
  have hgn_126 : (va_up G_121 H_124.size (some (101, 100000))) H_124.size = some (101, 100000) := jUp_self
  have hle_126 : jLe G_121 (va_up G_121 H_124.size (some (101, 100000))) := jLe.new hh_124.2.1.fresh
  have hke_126 : jKe G_121 (va_up G_121 H_124.size (some (101, 100000))) H_124 H_126 := jKe.new hfr_126
  have hsy_126 : s.heap.size ≤ H_124.size := hh_124.1.1
  generalize (va_up G_121 H_124.size (some (101, 100000))) = G_126 at hN_126 hgn_126 hle_126 hke_126 hh_126
  clear hh_124
  have hNn_126 : (jNk [0, 1, 2, 3, 4, 5, 6, 7, 8, 9, 10, 11, 12, 13, 14, 16]) G0 G_126 := (hNn_121).tr hN_126
  have hkp_127 := hkp_125.tr hke_126
  have hraw_128n := hke_126.nr hraw_124.lt hraw_123n
  have hraw_128 := hraw_124.kept (hke_126.1 _ hraw_124.lt)
  refine j7_putRF hx hb hown hK hh_126 hB hAp hraw_128 hraw_128n hbr0 (C := RX13) (T := TX13) (N := 50) rfl (i := 45) (by decide) (Nat.le_of_ble_eq_true rfl) hly_15_45 rfl hin2 rfl hlk_90 (ty := (.array .int)) (v := .ref H_124.size) (by decide +kernel) rfl rfl dX13_init_217 (fun H_129 locs_129 hraw_129 hr_129 hh_129 => ?_)
  have hraw_129 : va_at (dC, dI) vwCl (r0, .inr (15, [.ref s.heap.size, .ref H_4.size, .ref H_9.size, .ref H_14.size, .ref H_19.size, .int 0, .ref H_24.size, .int 0, .ref H_29.size, .ref H_34.size, .int 0, .int 0, .ref H_39.size, .ref H_44.size, .ref H_49.size, .int 0, .ref H_54.size, .ref H_59.size, .int 0, .int 0, .int 0, .int 0, .ref H_64.size, .ref H_69.size, .ref H_74.size, .ref H_79.size, .ref H_84.size, .ref H_89.size, .ref H_94.size, .ref H_99.size, .int 0, .int 0, .int 0, .int 0, .int 0, .ref H_104.size, .int 0, .ref H_109.size, .int 0, .int 0, .int 0, .int 0, .int 0, .ref H_114.size, .ref H_119.size, .ref H_124.size, .int 0, .null, .null, .int 0])) H_129 := hraw_129
  have hkp_130 := hkp_127.put hr_129
  clear hh_126
  refine lv_aload_n hx hb dX13_init_220 rfl (lv_at hl 0 rfl) ?_
  refine lv_bipush (v := 100) hx hb dX13_init_221 (by decide) ?_
  have hsz_131 := hh_129.2.2.2.2.2.1
  have htt_131 := hh_129.2.2.2.2.2.2.1
  refine j7_newiK hx hb hK hh_129 hB (atype := .int) (ty := .int) (htw (.arrayClass .int) (jWr_3 _ (List.mem_of_getElem? (i := 20) rfl))) rfl rfl (fun _ h => h) hB163 1 rfl (by decide) (by decide) hbs (x := 100) (by decide) (by omega) (fun j => by first | trivial | decide | rfl | exact Or.inl rfl | (refine ⟨?_, ?_⟩ <;> decide)) (by rw [hRc]; omega) (by rw [hRs]; omega) dX13_init_223 (fun H_131 hfr_131 hh_131 => ?_)
  have hh_131 : jSt (dC, dI) B base G0 (va_up G_126 H_129.size (some (163, 100))) EX13_init s.heap (((((((((((((((((((((((((((0 + 1) + 1) + 1) + 1) + 1) + 1) + 1) + 1) + 1) + 1) + 1) + 1) + 1) + 1) + 1) + 1) + 1) + 1) + 1) + 1) + 1) + 1) + 1) + 1) + 1) + 1) + 1) (((((((((((((((((((((((((((0 + 120000) + 120000) + 120000) + 120000) + 120000) + 12000) + 1600) + 1600) + 16) + 16) + 16) + 16) + 16) + 46) + 46) + 276) + 46) + 368) + 368) + 1500) + 1500) + 200) + 1) + 100) + 100) + 100000) + 100) [] [] [] H_131 locs_129 := hh_131
  have hN_131 : (jNk [0, 1, 2, 3, 4, 5, 6, 7, 8, 9, 10, 11, 12, 13, 14, 16]) G_126 (va_up G_126 H_129.size (some (163, 100))) := jNk.new (by decide)
  have hgn_131 : (va_up G_126 H_129.size (some (163, 100))) H_129.size = some (163, 100) := jUp_self
  have hle_131 : jLe G_126 (va_up G_126 H_129.size (some (163, 100))) := jLe.new hh_129.2.1.fresh
  have hke_131 : jKe G_126 (va_up G_126 H_129.size (some (163, 100))) H_129 H_131 := jKe.new hfr_131
  have hsy_131 : s.heap.size ≤ H_129.size := hh_129.1.1
  generalize (va_up G_126 H_129.size (some (163, 100))) = G_131 at hN_131 hgn_131 hle_131 hke_131 hh_131
  clear hh_129
  have hNn_131 : (jNk [0, 1, 2, 3, 4, 5, 6, 7, 8, 9, 10, 11, 12, 13, 14, 16]) G0 G_131 := (hNn_126).tr hN_131
  have hkp_132 := hkp_130.tr hke_131
  have hraw_133n := hke_131.nr hraw_129.lt hraw_128n
  have hraw_133 := hraw_129.kept (hke_131.1 _ hraw_129.lt)
  refine j7_putRF hx hb hown hK hh_131 hB hAp hraw_133 hraw_133n hbr0 (C := RX13) (T := TX13) (N := 50) rfl (i := 47) (by decide) (Nat.le_of_ble_eq_true rfl) hly_15_47 rfl hin2 rfl hlk_93 (ty := (.array .int)) (v := .ref H_129.size) (by decide +kernel) rfl rfl dX13_init_225 (fun H_134 locs_134 hraw_134 hr_134 hh_134 => ?_)
  have hraw_134 : va_at (dC, dI) vwCl (r0, .inr (15, [.ref s.heap.size, .ref H_4.size, .ref H_9.size, .ref H_14.size, .ref H_19.size, .int 0, .ref H_24.size, .int 0, .ref H_29.size, .ref H_34.size, .int 0, .int 0, .ref H_39.size, .ref H_44.size, .ref H_49.size, .int 0, .ref H_54.size, .ref H_59.size, .int 0, .int 0, .int 0, .int 0, .ref H_64.size, .ref H_69.size, .ref H_74.size, .ref H_79.size, .ref H_84.size, .ref H_89.size, .ref H_94.size, .ref H_99.size, .int 0, .int 0, .int 0, .int 0, .int 0, .ref H_104.size, .int 0, .ref H_109.size, .int 0, .int 0, .int 0, .int 0, .int 0, .ref H_114.size, .ref H_119.size, .ref H_124.size, .int 0, .ref H_129.size, .null, .int 0])) H_134 := hraw_134
  have hkp_135 := hkp_132.put hr_134
  clear hh_131
  refine lv_aload_n hx hb dX13_init_228 rfl (lv_at hl 0 rfl) ?_
  refine lv_bipush (v := 100) hx hb dX13_init_229 (by decide) ?_
  have hsz_136 := hh_134.2.2.2.2.2.1
  have htt_136 := hh_134.2.2.2.2.2.2.1
  refine j7_newiK hx hb hK hh_134 hB (atype := .int) (ty := .int) (htw (.arrayClass .int) (jWr_3 _ (List.mem_of_getElem? (i := 20) rfl))) rfl rfl (fun _ h => h) hB164 1 rfl (by decide) (by decide) hbs (x := 100) (by decide) (by omega) (fun j => by first | trivial | decide | rfl | exact Or.inl rfl | (refine ⟨?_, ?_⟩ <;> decide)) (by rw [hRc]; omega) (by rw [hRs]; omega) dX13_init_231 (fun H_136 hfr_136 hh_136 => ?_)
  have hh_136 : jSt (dC, dI) B base G0 (va_up G_131 H_134.size (some (164, 100))) EX13_init s.heap ((((((((((((((((((((((((((((0 + 1) + 1) + 1) + 1) + 1) + 1) + 1) + 1) + 1) + 1) + 1) + 1) + 1) + 1) + 1) + 1) + 1) + 1) + 1) + 1) + 1) + 1) + 1) + 1) + 1) + 1) + 1) + 1) ((((((((((((((((((((((((((((0 + 120000) + 120000) + 120000) + 120000) + 120000) + 12000) + 1600) + 1600) + 16) + 16) + 16) + 16) + 16) + 46) + 46) + 276) + 46) + 368) + 368) + 1500) + 1500) + 200) + 1) + 100) + 100) + 100000) + 100) + 100) [] [] [] H_136 locs_134 := hh_136
  have hN_136 : (jNk [0, 1, 2, 3, 4, 5, 6, 7, 8, 9, 10, 11, 12, 13, 14, 16]) G_131 (va_up G_131 H_134.size (some (164, 100))) := jNk.new (by decide)
  have hgn_136 : (va_up G_131 H_134.size (some (164, 100))) H_134.size = some (164, 100) := jUp_self
  have hle_136 : jLe G_131 (va_up G_131 H_134.size (some (164, 100))) := jLe.new hh_134.2.1.fresh
  have hke_136 : jKe G_131 (va_up G_131 H_134.size (some (164, 100))) H_134 H_136 := jKe.new hfr_136
  have hsy_136 : s.heap.size ≤ H_134.size := hh_134.1.1
  generalize (va_up G_131 H_134.size (some (164, 100))) = G_136 at hN_136 hgn_136 hle_136 hke_136 hh_136
  clear hh_134
  have hNn_136 : (jNk [0, 1, 2, 3, 4, 5, 6, 7, 8, 9, 10, 11, 12, 13, 14, 16]) G0 G_136 := (hNn_131).tr hN_136
  have hkp_137 := hkp_135.tr hke_136
  have hraw_138n := hke_136.nr hraw_134.lt hraw_133n
  have hraw_138 := hraw_134.kept (hke_136.1 _ hraw_134.lt)
  refine j7_putRF hx hb hown hK hh_136 hB hAp hraw_138 hraw_138n hbr0 (C := RX13) (T := TX13) (N := 50) rfl (i := 48) (by decide) (Nat.le_of_ble_eq_true rfl) hly_15_48 rfl hin2 rfl hlk_96 (ty := (.array .int)) (v := .ref H_134.size) (by decide +kernel) rfl rfl dX13_init_233 (fun H_139 locs_139 hraw_139 hr_139 hh_139 => ?_)
  have hraw_139 : va_at (dC, dI) vwCl (r0, .inr (15, [.ref s.heap.size, .ref H_4.size, .ref H_9.size, .ref H_14.size, .ref H_19.size, .int 0, .ref H_24.size, .int 0, .ref H_29.size, .ref H_34.size, .int 0, .int 0, .ref H_39.size, .ref H_44.size, .ref H_49.size, .int 0, .ref H_54.size, .ref H_59.size, .int 0, .int 0, .int 0, .int 0, .ref H_64.size, .ref H_69.size, .ref H_74.size, .ref H_79.size, .ref H_84.size, .ref H_89.size, .ref H_94.size, .ref H_99.size, .int 0, .int 0, .int 0, .int 0, .int 0, .ref H_104.size, .int 0, .ref H_109.size, .int 0, .int 0, .int 0, .int 0, .int 0, .ref H_114.size, .ref H_119.size, .ref H_124.size, .int 0, .ref H_129.size, .ref H_134.size, .int 0])) H_139 := hraw_139
  have hkp_140 := hkp_137.put hr_139
  clear hh_136
  have hsz_141 := hh_139.2.2.2.2.2.1
  have htt_141 := hh_139.2.2.2.2.2.2.1
  refine W.room (fun hrc_141 hrs_141 => ?_)
  refine W.widen (k := LC - s.heap.size) (n := LS - jTot s.heap) (by omega) (by omega) ?_
  rw [hQ]
  have hle_142 : jLe G_136 (va_up G_136 r0 (some (15, 0))) := jLe.typ hraw_138n
  have hg_143 := (((((((((((((((((((((((((((hle_6).tr hle_11).tr hle_16).tr hle_21).tr hle_26).tr hle_31).tr hle_36).tr hle_41).tr hle_46).tr hle_51).tr hle_56).tr hle_61).tr hle_66).tr hle_71).tr hle_76).tr hle_81).tr hle_86).tr hle_91).tr hle_96).tr hle_101).tr hle_106).tr hle_111).tr hle_116).tr hle_121).tr hle_126).tr hle_131).tr hle_136).tr hle_142 _ _ hgn_1
  have hg_144 := ((((((((((((((((((((((((((hle_11).tr hle_16).tr hle_21).tr hle_26).tr hle_31).tr hle_36).tr hle_41).tr hle_46).tr hle_51).tr hle_56).tr hle_61).tr hle_66).tr hle_71).tr hle_76).tr hle_81).tr hle_86).tr hle_91).tr hle_96).tr hle_101).tr hle_106).tr hle_111).tr hle_116).tr hle_121).tr hle_126).tr hle_131).tr hle_136).tr hle_142 _ _ hgn_6
  have hg_145 := (((((((((((((((((((((((((hle_16).tr hle_21).tr hle_26).tr hle_31).tr hle_36).tr hle_41).tr hle_46).tr hle_51).tr hle_56).tr hle_61).tr hle_66).tr hle_71).tr hle_76).tr hle_81).tr hle_86).tr hle_91).tr hle_96).tr hle_101).tr hle_106).tr hle_111).tr hle_116).tr hle_121).tr hle_126).tr hle_131).tr hle_136).tr hle_142 _ _ hgn_11
  have hg_146 := ((((((((((((((((((((((((hle_21).tr hle_26).tr hle_31).tr hle_36).tr hle_41).tr hle_46).tr hle_51).tr hle_56).tr hle_61).tr hle_66).tr hle_71).tr hle_76).tr hle_81).tr hle_86).tr hle_91).tr hle_96).tr hle_101).tr hle_106).tr hle_111).tr hle_116).tr hle_121).tr hle_126).tr hle_131).tr hle_136).tr hle_142 _ _ hgn_16
  have hg_147 := (((((((((((((((((((((((hle_26).tr hle_31).tr hle_36).tr hle_41).tr hle_46).tr hle_51).tr hle_56).tr hle_61).tr hle_66).tr hle_71).tr hle_76).tr hle_81).tr hle_86).tr hle_91).tr hle_96).tr hle_101).tr hle_106).tr hle_111).tr hle_116).tr hle_121).tr hle_126).tr hle_131).tr hle_136).tr hle_142 _ _ hgn_21
  have hg_148 := ((((((((((((((((((((((hle_31).tr hle_36).tr hle_41).tr hle_46).tr hle_51).tr hle_56).tr hle_61).tr hle_66).tr hle_71).tr hle_76).tr hle_81).tr hle_86).tr hle_91).tr hle_96).tr hle_101).tr hle_106).tr hle_111).tr hle_116).tr hle_121).tr hle_126).tr hle_131).tr hle_136).tr hle_142 _ _ hgn_26
  have hg_149 := (((((((((((((((((((((hle_36).tr hle_41).tr hle_46).tr hle_51).tr hle_56).tr hle_61).tr hle_66).tr hle_71).tr hle_76).tr hle_81).tr hle_86).tr hle_91).tr hle_96).tr hle_101).tr hle_106).tr hle_111).tr hle_116).tr hle_121).tr hle_126).tr hle_131).tr hle_136).tr hle_142 _ _ hgn_31
  have hg_150 := ((((((((((((((((((((hle_41).tr hle_46).tr hle_51).tr hle_56).tr hle_61).tr hle_66).tr hle_71).tr hle_76).tr hle_81).tr hle_86).tr hle_91).tr hle_96).tr hle_101).tr hle_106).tr hle_111).tr hle_116).tr hle_121).tr hle_126).tr hle_131).tr hle_136).tr hle_142 _ _ hgn_36
  have hg_151 := (((((((((((((((((((hle_46).tr hle_51).tr hle_56).tr hle_61).tr hle_66).tr hle_71).tr hle_76).tr hle_81).tr hle_86).tr hle_91).tr hle_96).tr hle_101).tr hle_106).tr hle_111).tr hle_116).tr hle_121).tr hle_126).tr hle_131).tr hle_136).tr hle_142 _ _ hgn_41
  have hg_152 := ((((((((((((((((((hle_51).tr hle_56).tr hle_61).tr hle_66).tr hle_71).tr hle_76).tr hle_81).tr hle_86).tr hle_91).tr hle_96).tr hle_101).tr hle_106).tr hle_111).tr hle_116).tr hle_121).tr hle_126).tr hle_131).tr hle_136).tr hle_142 _ _ hgn_46
  have hg_153 := (((((((((((((((((hle_56).tr hle_61).tr hle_66).tr hle_71).tr hle_76).tr hle_81).tr hle_86).tr hle_91).tr hle_96).tr hle_101).tr hle_106).tr hle_111).tr hle_116).tr hle_121).tr hle_126).tr hle_131).tr hle_136).tr hle_142 _ _ hgn_51
  have hg_154 := ((((((((((((((((hle_61).tr hle_66).tr hle_71).tr hle_76).tr hle_81).tr hle_86).tr hle_91).tr hle_96).tr hle_101).tr hle_106).tr hle_111).tr hle_116).tr hle_121).tr hle_126).tr hle_131).tr hle_136).tr hle_142 _ _ hgn_56
  have hg_155 := (((((((((((((((hle_66).tr hle_71).tr hle_76).tr hle_81).tr hle_86).tr hle_91).tr hle_96).tr hle_101).tr hle_106).tr hle_111).tr hle_116).tr hle_121).tr hle_126).tr hle_131).tr hle_136).tr hle_142 _ _ hgn_61
  have hg_156 := ((((((((((((((hle_71).tr hle_76).tr hle_81).tr hle_86).tr hle_91).tr hle_96).tr hle_101).tr hle_106).tr hle_111).tr hle_116).tr hle_121).tr hle_126).tr hle_131).tr hle_136).tr hle_142 _ _ hgn_66
  have hg_157 := (((((((((((((hle_76).tr hle_81).tr hle_86).tr hle_91).tr hle_96).tr hle_101).tr hle_106).tr hle_111).tr hle_116).tr hle_121).tr hle_126).tr hle_131).tr hle_136).tr hle_142 _ _ hgn_71
  have hg_158 := ((((((((((((hle_81).tr hle_86).tr hle_91).tr hle_96).tr hle_101).tr hle_106).tr hle_111).tr hle_116).tr hle_121).tr hle_126).tr hle_131).tr hle_136).tr hle_142 _ _ hgn_76
  have hg_159 := (((((((((((hle_86).tr hle_91).tr hle_96).tr hle_101).tr hle_106).tr hle_111).tr hle_116).tr hle_121).tr hle_126).tr hle_131).tr hle_136).tr hle_142 _ _ hgn_81
  have hg_160 := ((((((((((hle_91).tr hle_96).tr hle_101).tr hle_106).tr hle_111).tr hle_116).tr hle_121).tr hle_126).tr hle_131).tr hle_136).tr hle_142 _ _ hgn_86
  have hg_161 := (((((((((hle_96).tr hle_101).tr hle_106).tr hle_111).tr hle_116).tr hle_121).tr hle_126).tr hle_131).tr hle_136).tr hle_142 _ _ hgn_91
  have hg_162 := ((((((((hle_101).tr hle_106).tr hle_111).tr hle_116).tr hle_121).tr hle_126).tr hle_131).tr hle_136).tr hle_142 _ _ hgn_96
  have hg_163 := (((((((hle_106).tr hle_111).tr hle_116).tr hle_121).tr hle_126).tr hle_131).tr hle_136).tr hle_142 _ _ hgn_101
  have hg_164 := ((((((hle_111).tr hle_116).tr hle_121).tr hle_126).tr hle_131).tr hle_136).tr hle_142 _ _ hgn_106
  have hg_165 := (((((hle_116).tr hle_121).tr hle_126).tr hle_131).tr hle_136).tr hle_142 _ _ hgn_111
  have hg_166 := ((((hle_121).tr hle_126).tr hle_131).tr hle_136).tr hle_142 _ _ hgn_116
  have hg_167 := (((hle_126).tr hle_131).tr hle_136).tr hle_142 _ _ hgn_121
  have hg_168 := ((hle_131).tr hle_136).tr hle_142 _ _ hgn_126
  have hg_169 := (hle_136).tr hle_142 _ _ hgn_131
  have hg_170 := (jLe.rf).tr hle_142 _ _ hgn_136
  have hfa_142 : jRf (va_up G_136 r0 (some (15, 0))) 150 120000 (.ref s.heap.size) ∧ jRf (va_up G_136 r0 (some (15, 0))) 151 120000 (.ref H_4.size) ∧ jRf (va_up G_136 r0 (some (15, 0))) 152 120000 (.ref H_9.size) ∧ jRf (va_up G_136 r0 (some (15, 0))) 153 120000 (.ref H_14.size) ∧ jRf (va_up G_136 r0 (some (15, 0))) 154 120000 (.ref H_19.size) ∧ jI 0 120000 (.int 0) ∧ jRf (va_up G_136 r0 (some (15, 0))) 166 12000 (.ref H_24.size) ∧ jI 0 12000 (.int 0) ∧ jRf (va_up G_136 r0 (some (15, 0))) 155 1600 (.ref H_29.size) ∧ jRf (va_up G_136 r0 (some (15, 0))) 156 1600 (.ref H_34.size) ∧ jI 0 1600 (.int 0) ∧ jI 0 16 (.int 0) ∧ jRf (va_up G_136 r0 (some (15, 0))) 163 16 (.ref H_39.size) ∧ jRf (va_up G_136 r0 (some (15, 0))) 103 16 (.ref H_44.size) ∧ jRf (va_up G_136 r0 (some (15, 0))) 165 16 (.ref H_49.size) ∧ jI 0 16 (.int 0) ∧ jRf (va_up G_136 r0 (some (15, 0))) 163 16 (.ref H_54.size) ∧ jRf (va_up G_136 r0 (some (15, 0))) 160 16 (.ref H_59.size) ∧ jZb (.int 0) ∧ jI 0 1599 (.int 0) ∧ jI 0 119999 (.int 0) ∧ jI 0 6 (.int 0) ∧ jRf (va_up G_136 r0 (some (15, 0))) 161 46 (.ref H_64.size) ∧ jRf (va_up G_136 r0 (some (15, 0))) 158 46 (.ref H_69.size) ∧ jRf (va_up G_136 r0 (some (15, 0))) 163 276 (.ref H_74.size) ∧ jRf (va_up G_136 r0 (some (15, 0))) 159 46 (.ref H_79.size) ∧ jRf (va_up G_136 r0 (some (15, 0))) 163 368 (.ref H_84.size) ∧ jRf (va_up G_136 r0 (some (15, 0))) 162 368 (.ref H_89.size) ∧ jRf (va_up G_136 r0 (some (15, 0))) 167 1500 (.ref H_94.size) ∧ jRf (va_up G_136 r0 (some (15, 0))) 157 1500 (.ref H_99.size) ∧ jI 0 1500 (.int 0) ∧ jIa (.int 0) ∧ jI 0 1600 (.int 0) ∧ jZb (.int 0) ∧ jI 0 9 (.int 0) ∧ jRf (va_up G_136 r0 (some (15, 0))) 163 200 (.ref H_104.size) ∧ jI 0 200 (.int 0) ∧ jRf (va_up G_136 r0 (some (15, 0))) 169 1 (.ref H_109.size) ∧ jI 0 1599 (.int 0) ∧ jI 0 1599 (.int 0) ∧ jI 0 1599 (.int 0) ∧ jI 0 3 (.int 0) ∧ jI 0 119999 (.int 0) ∧ jRf (va_up G_136 r0 (some (15, 0))) 169 100 (.ref H_114.size) ∧ jRf (va_up G_136 r0 (some (15, 0))) 168 100 (.ref H_119.size) ∧ jRf (va_up G_136 r0 (some (15, 0))) 101 100000 (.ref H_124.size) ∧ jI 0 100000 (.int 0) ∧ jRf (va_up G_136 r0 (some (15, 0))) 163 100 (.ref H_129.size) ∧ jRf (va_up G_136 r0 (some (15, 0))) 164 100 (.ref H_134.size) ∧ jI 0 100 (.int 0) ∧ True := ⟨⟨_, rfl, hg_143⟩, ⟨_, rfl, hg_144⟩, ⟨_, rfl, hg_145⟩, ⟨_, rfl, hg_146⟩, ⟨_, rfl, hg_147⟩, ⟨_, rfl, by omega, by omega⟩, ⟨_, rfl, hg_148⟩, ⟨_, rfl, by omega, by omega⟩, ⟨_, rfl, hg_149⟩, ⟨_, rfl, hg_150⟩, ⟨_, rfl, by omega, by omega⟩, ⟨_, rfl, by omega, by omega⟩, ⟨_, rfl, hg_151⟩, ⟨_, rfl, hg_152⟩, ⟨_, rfl, hg_153⟩, ⟨_, rfl, by omega, by omega⟩, ⟨_, rfl, hg_154⟩, ⟨_, rfl, hg_155⟩, ⟨_, rfl, Or.inl rfl⟩, ⟨_, rfl, by omega, by omega⟩, ⟨_, rfl, by omega, by omega⟩, ⟨_, rfl, by omega, by omega⟩, ⟨_, rfl, hg_156⟩, ⟨_, rfl, hg_157⟩, ⟨_, rfl, hg_158⟩, ⟨_, rfl, hg_159⟩, ⟨_, rfl, hg_160⟩, ⟨_, rfl, hg_161⟩, ⟨_, rfl, hg_162⟩, ⟨_, rfl, hg_163⟩, ⟨_, rfl, by omega, by omega⟩, ⟨_, rfl⟩, ⟨_, rfl, by omega, by omega⟩, ⟨_, rfl, Or.inl rfl⟩, ⟨_, rfl, by omega, by omega⟩, ⟨_, rfl, hg_164⟩, ⟨_, rfl, by omega, by omega⟩, ⟨_, rfl, hg_165⟩, ⟨_, rfl, by omega, by omega⟩, ⟨_, rfl, by omega, by omega⟩, ⟨_, rfl, by omega, by omega⟩, ⟨_, rfl, by omega, by omega⟩, ⟨_, rfl, by omega, by omega⟩, ⟨_, rfl, hg_166⟩, ⟨_, rfl, hg_167⟩, ⟨_, rfl, hg_168⟩, ⟨_, rfl, by omega, by omega⟩, ⟨_, rfl, hg_169⟩, ⟨_, rfl, hg_170⟩, ⟨_, rfl, by omega, by omega⟩, trivial⟩
  have hh_142 := hh_139.typ (k := 15) (n := 0) hB hraw_138n hbr0 hraw_139.lt (jOb.of (C := RX13) (T := TX13) (N := 50) (F := F15) hB15 rfl hraw_139 (show jFx (F15 0 (va_up G_136 r0 (some (15, 0)))) [.ref s.heap.size, .ref H_4.size, .ref H_9.size, .ref H_14.size, .ref H_19.size, .int 0, .ref H_24.size, .int 0, .ref H_29.size, .ref H_34.size, .int 0, .int 0, .ref H_39.size, .ref H_44.size, .ref H_49.size, .int 0, .ref H_54.size, .ref H_59.size, .int 0, .int 0, .int 0, .int 0, .ref H_64.size, .ref H_69.size, .ref H_74.size, .ref H_79.size, .ref H_84.size, .ref H_89.size, .ref H_94.size, .ref H_99.size, .int 0, .int 0, .int 0, .int 0, .int 0, .ref H_104.size, .int 0, .ref H_109.size, .int 0, .int 0, .int 0, .int 0, .int 0, .ref H_114.size, .ref H_119.size, .ref H_124.size, .int 0, .ref H_129.size, .ref H_134.size, .int 0] from hfa_142))
  have hgn_142 : (va_up G_136 r0 (some (15, 0))) r0 = some (15, 0) := jUp_self
  have hN_142 : (jNk [0, 1, 2, 3, 4, 5, 6, 7, 8, 9, 10, 11, 12, 13, 14, 16]) G_136 (va_up G_136 r0 (some (15, 0))) := jNk.new (by decide)
  have hNn_142 : (jNk [0, 1, 2, 3, 4, 5, 6, 7, 8, 9, 10, 11, 12, 13, 14, 16]) G0 (va_up G_136 r0 (some (15, 0))) := (hNn_136).tr hN_142
  have hkp_171 := hkp_140.typ (t := some (15, 0))
  exact W.vret hx hb hr (fun t ht hW => ⟨⟨(va_up G_136 r0 (some (15, 0))), rfl, trivial, ⟨hh_142.ra (by first | omega | (simp only; omega)) (by first | omega | (simp only; omega)) (M1 := []) [] rfl ht, hNn_142, hgn_142, by rw [ht]; exact hkp_171⟩⟩, by rw [ht]; try exact hh_142.1.1, fun q h9 hq => by rw [ht]; try exact hh_142.1.2.1 q h9 hq⟩) hh_142.1.2.2 dX13_init_236
end
section
-- arrays of references that get their kind when they are filled; arrays of arrays of ints
section J22
variable {p : Program} {l : Launch} {e : Env} {R : Room} {s : State} {m : MethodId} {args : Array Value} {below : List Frame} {meth : Method} {c : Code} {H : Heap} {locs : List Loc} {cells slots : Nat} {Q : State → Prop}
variable {cc : ByteArray} {pc : Nat} {ls : Array Slot} {rest : List Value} {dC : Nat → ClassId} {dI : Nat → Nat → Nat} {ca : Nat → ClassId} {B : jF} {base : Nat} {G0 G : jT} {E : List (Nat × Nat)} {H0 : Heap} {zc zs : Nat} {L : List jPin} {M : List jCt} {I : List jIv} {a k n index : Nat} {tys : List (ClassId × FieldType)} {own C : String} {cA : ClassId} {f : Nat → Option Nat}
/-- an object into an array that has no kind yet -/
theorem j7_qastR (hexec : p.tables.exec = Jvm.exec) (hb : c.code = cc) (hK : va_K (dC, dI) vwCl tys s) (hh : jSt (dC, dI) B base G0 G E H0 zc zs L M I H locs) (hB : jBok B) (hraw : va_at (dC, dI) vwCl (a, .inl (cA, n, .inr (.inr (.inr (.inr f))))) H) (hnr : ∀ t, G a ≠ some t) (hba : base ≤ a) (t0 : Nat) (ht : tys[t0]? = some (cA, .object C)) {i : Int32} {x : Int} (hi : i.toInt = x) (h12 : 0 ≤ x ∧ x < n)
    {v kv nv N : Nat} {T : u_T} {F : Nat → jT → List (Value → Prop)} (hBv : ∀ n G a H, B kv n G a H ↔ jOb (dC, dI) kv N (F n G) a H) (hc : vwCl[kv]? = some (C, T, N)) (hkv : kv < 1000) (hv : G v = some (kv, nv)) (hdg : decode cc pc = .ok (.aastore, 1))
    (kk : ∀ (H1 : Heap) (locs1 : List Loc), va_at (dC, dI) vwCl (a, .inl (cA, n, .inr (.inr (.inr (.inr (va_up f x.toNat (some v))))))) H1 → (∀ q, q ≠ a → H1[q]? = H[q]?) → jSt (dC, dI) B base G0 G E H0 zc zs L M I H1 locs1 → W p l e R s m args below meth c H1 locs1 cells slots Q (F0 m (pc + 1) ls rest)) : W p l e R s m args below meth c H locs cells slots Q (F0 m pc ls (.ref v :: .int i :: .ref a :: rest)) := by
  obtain ⟨h1, h2⟩ := h12
  have g1 : H[a]? = some (vp_cell cA (n, .inr (.inr (.inr (.inr f))))) := hraw
  obtain ⟨V, ⟨cellV, q1, q2, q3, q4⟩, hV⟩ := (hBv _ _ _ _).mp (hh.2.1.1 v kv nv hv hkv (fun h => by cases h))
  have hlt := jb_cl_lt hi h1 h2
  have hcl := jb_cl hi h1
  have hcls := (hK.1 kv _ hc).2
  obtain ⟨kA, comp, k1, k2, k3, -⟩ := (hK.2 t0 _ ht).2
  have hcomp : comp = dC kv := Option.some.inj (k3.symm.trans hcls.1)
  subst hcomp
  obtain ⟨kC, hkC, -⟩ := hcls.2
  refine W.aast hexec hb g1 (fun q h => by cases h) (fun h => by cases h) k1 k2 rfl hkC ⟨jb_n0 hi h1, by show _ < (arrV _ _ _).slots.size; rw [arrV_size]; exact hlt⟩ q1 (fun q h => by rw [q3] at h; cases h) (by rw [q2]; exact hkC) (by rw [q2]; exact va_assign hcls) rfl rfl hdg fun H1 e1 z oq => ?_
  refine kk H1 _ ?_ oq (hh.rawput hB hnr hba z oq (jTot_set z g1 e1 (jSet_sz _ _ _) oq) (fun q hq => ?_))
  · show H1[a]? = some (vp_cell _ _)
    rw [e1, vp_cell_q, vp_cell_q, arrV_store, hcl]
    congr 2
    funext q
    by_cases hq : q = x.toNat
    · subst hq
      simp [updV, va_up, va_rf]
    · simp [updV, va_up, hq]
  · rcases List.mem_append.mp hq with h | h
    · exact hh.1.2.2 q h
    · cases List.mem_singleton.mp h; exact hba
end J22
end
section
-- a constructor that another one calls for its own object
theorem jKx.self {r : Nat} {G0 G G1 : jT} {H0 H H1 : Heap} (h : jKx r G0 G H0 H) (h1 : jKx r G G1 H H1) : jKx r G0 G1 H0 H1 :=
  ⟨fun q hq hn => (h1.1 q (jLtz hq (h.1 q hq hn)) hn).trans (h.1 q hq hn), fun q t hq hn hg => h.2 q t hq hn (h1.2 q t (jLtz hq (h.1 q hq hn)) hn hg)⟩
end
section
theorem dJ5_init_d00df_0 : decode cJ5_init_d00df 0 = .ok (.aload_n 0, 1) := by decide +kernel
theorem dJ5_init_d00df_1 : decode cJ5_init_d00df 1 = .ok (.invokespecial 3, 3) := by decide +kernel
theorem dJ5_init_d00df_4 : decode cJ5_init_d00df 4 = .ok (.getstatic 18, 3) := by decide +kernel
theorem dJ5_init_d00df_7 : decode cJ5_init_d00df 7 = .ok (.ifCond .eq 18, 3) := by decide +kernel
theorem dJ5_init_d00df_10 : decode cJ5_init_d00df 10 = .ok (.aload_n 0, 1) := by decide +kernel
theorem dJ5_init_d00df_11 : decode cJ5_init_d00df 11 = .ok (.iload_n 1, 1) := by decide +kernel
theorem dJ5_init_d00df_12 : decode cJ5_init_d00df 12 = .ok (.newarray .byte, 2) := by decide +kernel
theorem dJ5_init_d00df_14 : decode cJ5_init_d00df 14 = .ok (.putfield 15, 3) := by decide +kernel
theorem dJ5_init_d00df_17 : decode cJ5_init_d00df 17 = .ok (.aload_n 0, 1) := by decide +kernel
theorem dJ5_init_d00df_18 : decode cJ5_init_d00df 18 = .ok (.iconst 0, 1) := by decide +kernel
theorem dJ5_init_d00df_19 : decode cJ5_init_d00df 19 = .ok (.putfield 22, 3) := by decide +kernel
theorem dJ5_init_d00df_22 : decode cJ5_init_d00df 22 = .ok (.goto 16, 3) := by decide +kernel
theorem dJ5_init_d00df_38 : decode cJ5_init_d00df 38 = .ok (.return_, 1) := by decide +kernel
theorem dJ4_init_da8c8_0 : decode cJ4_init_da8c8 0 = .ok (.aload_n 0, 1) := by decide +kernel
theorem dJ4_init_da8c8_1 : decode cJ4_init_da8c8 1 = .ok (.bipush 16, 2) := by decide +kernel
theorem dJ4_init_da8c8_3 : decode cJ4_init_da8c8 3 = .ok (.invokespecial 1, 3) := by decide +kernel
theorem dJ4_init_da8c8_6 : decode cJ4_init_da8c8 6 = .ok (.return_, 1) := by decide +kernel
end
section
-- an array of arrays gets its kind
theorem jFq.zero {G : jT} {f : Nat → Option Nat} {i : Int} (h : i ≤ 0) : jFq G f i := fun j hj => by omega
end
section
-- what the kernel's walks need: raw arrays of ints, arrays whose last element is null, states, new goals
section J30
variable {p : Program} {l : Launch} {e : Env} {R : Room} {s : State} {m : MethodId} {args : Array Value} {below : List Frame} {meth : Method} {c : Code} {H : Heap} {locs : List Loc} {cells slots : Nat} {Q : State → Prop}
variable {cc : ByteArray} {pc : Nat} {ls : Array Slot} {rest : List Value} {dC : Nat → ClassId} {dI : Nat → Nat → Nat} {ca : Nat → ClassId} {B : jF} {base : Nat} {G0 G : jT} {E : List (Nat × Nat)} {H0 : Heap} {zc zs : Nat} {L : List jPin} {M : List jCt} {I : List jIv} {a a0 k k0 n n0 index : Nat} {tys : List (ClassId × FieldType)} {own C : String} {cA : ClassId}
theorem j7_newiR {cA : ClassId} (hexec : p.tables.exec = Jvm.exec) (hb : c.code = cc) (hK : va_K (dC, dI) vwCl tys s) (hh : jSt (dC, dI) B base G0 G E s.heap zc zs L M I H locs) (hB : jBok B) {atype : ArrayType} {ty : FieldType} (harr : (Cond.arrayClass ty).before args s = true) (hty : newarray.typeOf atype = ty) (hd : defaultValue ty = .int 0) (hra : ∀ cA, va_RA s cA ty → s.vm.findClass ("[" ++ ty.toString) = some cA) (t0 : Nat) (ht : tys[t0]? = some (cA, ty)) (hcb : componentBytes ty ≤ 8) {z : Int32} {x : Int} (hi : z.toInt = x) (h0 : 0 ≤ x ∧ x ≤ 200000) (hR : zc + 1 ≤ R.cells) (hR2 : zs + x.toNat ≤ R.slots) (hdg : decode cc pc = .ok (.newarray atype, 2))
    (kk : ∀ (H1 : Heap), (∀ q, q < H.size → H1[q]? = H[q]?) → (∀ t, G H.size ≠ some t) → va_at (dC, dI) vwCl (H.size, .inl (cA, x.toNat, .inl (fun _ => 0))) H1 → jSt (dC, dI) B base G0 G E s.heap (zc + 1) (zs + x.toNat) L M I H1 locs → W p l e R s m args below meth c H1 locs (zc + 1) (zs + x.toNat) Q (F0 m (pc + 2) ls (.ref H.size :: rest))) : W p l e R s m args below meth c H locs cells slots Q (F0 m pc ls (.int z :: rest)) := by
  have hn0 : ¬ z < 0 := jb_n0 hi h0.1
  have hcl : z.toNatClampNeg = x.toNat := jb_cl hi h0.1
  have hmu : x.toNat * componentBytes ty ≤ 200000 * 8 := Nat.mul_le_mul (by omega) hcb
  refine W.tight (c2 := zc) (n2 := zs) hh.2.2.2.2.2.1 hh.2.2.2.2.2.2.1 ?_
  refine j_newi hexec hb harr hty hd hra hK t0 ht hn0 hcl (by omega) hR hR2 hdg (fun H1 hat hz1 hfr hT => ?_)
  exact kk H1 hfr (fun t => by rw [hh.2.1.fresh]; exact fun h => by cases h) hat (hh.newR hB hz1 hfr hT)
end J30
theorem jFp.zero : jFp (fun _ => 0) := fun _ => (by decide : (-1 : Int) ≤ (0 : Int32).toInt)
theorem jZe.zero {g : Nat → Int32} {n : Int} (h : n ≤ 0) : jZe g n := fun l h0 h1 => by omega
theorem jTa.zero {g : Nat → Int32} {b : Int} (h : b ≤ 0) : jTa g b := fun l h0 h1 => by omega
theorem jPqk.zero {f g : Nat → Int32} {b i0 i s : Int} (h : i = i0) (hs : s = 0) : jPqk f g b i0 i s := ⟨by omega, by rw [hs, h, Int.sub_self]; rfl⟩
theorem jGq.zero {G : jT} {f : Nat → Option Nat} {i : Int} (h : i ≤ 0) : jGq G f i := fun j hj => by omega
end
section
-- the places where a term stands, counted as the scan goes
theorem jSaB.in {f g : Nat → Int32} {n m : Nat} {a b w : Int} (h : jSaB f n g m a b w = true) : 0 ≤ a ∧ a + w ≤ n := by
  unfold jSaB at h
  rw [Bool.and_eq_true, Bool.and_eq_true, Bool.and_eq_true] at h
  exact ⟨of_decide_eq_true h.1, of_decide_eq_true h.2.2.1⟩
theorem jSq.zero {f g : Nat → Int32} {a b i : Int} (h : i ≤ 0) : jSq f g a b i := fun j h0 h1 => by omega
theorem jR1.zero {f g : Nat → Int32} {n m : Nat} {w i c : Int} (hi : i = 0) (hc : c = 0) : jR1 f n g m w i c := by
  subst hi; subst hc
  exact ⟨by omega, by omega, by omega, Int.zero_add _⟩
/-- the second pass: i is reached, at are written -/
def jR2 (f : Nat → Int32) (n : Nat) (g : Nat → Int32) (m : Nat) (w b i at_ : Int) : Prop := 0 ≤ i ∧ i ≤ n ∧ at_ = i + (jTn (jSp f n g m w) w n 0 - jTn (jSp f n g m w) w n i) * (b - w)
theorem jR2.zero {f g : Nat → Int32} {n m : Nat} {w b i t : Int} (hi : i = 0) (ht : t = 0) : jR2 f n g m w b i t := by
  subst hi; subst ht
  refine ⟨by omega, by omega, ?_⟩
  rw [Int.sub_self, Int.zero_mul]
  rfl
end
section
-- what reading JSON leaves: the strings and keys of the values stand apart among the units, and take bytes
theorem jSb.put {f g : Nat → Int32} (r N : Nat) (ho : ∀ i, i < N → i ≠ r → g i = f i) (h0 : (f r).toInt = 0) : ∀ n : Nat, n ≤ N → jSb g n ≤ jSb f n + (if 1 ≤ (g r).toInt ∧ r < n then 3 else 0)
  | 0, _ => by show (0 : Int) ≤ 0 + _; split <;> omega
  | n + 1, hn => by
    have h1 := jSb.put r N ho h0 n (by omega)
    show jSb g n + _ ≤ jSb f n + _ + _
    by_cases e : n = r
    · subst e
      rw [h0, if_neg (by omega : ¬ (1 : Int) ≤ 0)]
      rw [if_neg (by omega : ¬ (1 ≤ (g n).toInt ∧ n < n))] at h1
      by_cases q : 1 ≤ (g n).toInt
      · rw [if_pos q, if_pos ⟨q, by omega⟩]; omega
      · rw [if_neg q, if_neg (fun x => q x.1)]; omega
    · rw [ho n (by omega) e]
      by_cases q : 1 ≤ (g r).toInt ∧ r < n
      · rw [if_pos q] at h1
        rw [if_pos (⟨q.1, by omega⟩ : 1 ≤ (g r).toInt ∧ r < n + 1)]
        omega
      · rw [if_neg q] at h1
        rw [if_neg (fun x => q ⟨x.1, by omega⟩ : ¬ (1 ≤ (g r).toInt ∧ r < n + 1))]
        omega
/-- what a store leaves -/
theorem jst {f g : Nat → Int32} {x : Int} {N : Nat} (ho : ∀ j, j < N → j ≠ x.toNat → g j = f j) (i : Int) (h0 : 0 ≤ i) (hN : i < N) (hx : 0 ≤ x) (hne : i ≠ x) : jSo g i = jSo f i := by
  unfold jSo
  rw [ho i.toNat (by omega) (by omega)]
end
section
-- the sentences of a document of the class: in order, none empty
theorem jSn.zero {b e : Nat → Int32} {s u : Int} (h : s ≤ 0) : jSn b e s u := fun k a c => by omega
theorem jSn.put {b e b1 e1 : Nat → Int32} {s u x y n1 : Int} (h : jSn b e s u) (hl : s = 0 ∨ jSo e (s - 1) ≤ x) (hb : jSo b1 s = x) (hbo : ∀ j, j < 40 → j ≠ s.toNat → b1 j = b j) (he : jSo e1 s = y) (heo : ∀ j, j < 40 → j ≠ s.toNat → e1 j = e j) (h0 : 0 ≤ s) (h4 : s < 40) (hx : 0 ≤ x) (hxy : x < y) (hy : y ≤ u) (hn : n1 = s + 1) : jSn b1 e1 n1 u := by
  subst hn
  intro k k0 k1
  by_cases q : k = s
  · subst q
    rw [hb, he]
    exact ⟨hx, hxy, hy, fun z => by omega⟩
  · have g := h k k0 (by omega)
    rw [jst hbo k k0 (by omega) h0 q, jst heo k k0 (by omega) h0 q]
    refine ⟨g.1, g.2.1, g.2.2.1, fun z => ?_⟩
    by_cases q2 : k + 1 = s
    · rw [q2, hb]
      rcases hl with hl | hl
      · omega
      · rw [show s - 1 = k by omega] at hl
        exact hl
    · rw [jst hbo (k + 1) (by omega) (by omega) h0 q2]
      exact g.2.2.2 (by omega)
end
section
-- the documents of the class: sentences in order, and what is still to be checked of the open ones
theorem jSmm.less {G : jT} {W : Nat → Nat} {a : Nat} (ha : G a = some (3, 0)) : ∀ N, jSmm G (some a) W N + (if a < N then W a else 0) = jSmm G none W N
  | 0 => rfl
  | N + 1 => by
    have h := jSmm.less (W := W) ha N
    show jSmm G (some a) W N + (if G N = some (3, 0) ∧ some a ≠ some N then W N else 0) + _ = jSmm G none W N + (if G N = some (3, 0) ∧ none ≠ some N then W N else 0)
    by_cases e : a = N
    · subst e
      rw [if_neg (by omega : ¬ a < a)] at h
      rw [if_neg (fun q => q.2 rfl), if_pos (by omega : a < a + 1), if_pos ⟨ha, fun q => by cases q⟩]
      omega
    · have e2 : (if G N = some (3, 0) ∧ some a ≠ some N then W N else 0) = (if G N = some (3, 0) ∧ none ≠ some N then W N else 0) := by
        by_cases q : G N = some (3, 0)
        · rw [if_pos ⟨q, fun z => e (Option.some.inj z)⟩, if_pos ⟨q, fun z => by cases z⟩]
        · rw [if_neg (fun z => q z.1), if_neg (fun z => q z.1)]
      rw [e2]
      by_cases q : a < N
      · rw [if_pos q] at h
        rw [if_pos (by omega : a < N + 1)]
        omega
      · rw [if_neg q] at h
        rw [if_neg (by omega : ¬ a < N + 1)]
        omega
section J41
variable {dC : Nat → ClassId} {dI : Nat → Nat → Nat} {ca : Nat → ClassId} {G G1 : jT} {H H1 : Heap} {x : Option Nat} {ph : Nat}
/-- a new document -/
theorem jDcc.typ {r n yb ye : Nat} {fb fe : Nat → Int32} (h : jDcc dC dI ca G none ph H) (hn : ∀ t, G r ≠ some t) (h4 : jf (dC, dI) 3 r 4 (.int 0) H) (h10 : jf (dC, dI) 3 r 10 (.int 0) H) (h11 : jf (dC, dI) 3 r 11 .null H) (h5 : jf (dC, dI) 3 r 5 (.ref yb) H) (h6 : jf (dC, dI) 3 r 6 (.ref ye) H) (hb : G yb = some (171, 40)) (he : G ye = some (172, 40)) (hM : jMc (dC, dI) G H [(yb, 171, 40, ca 1, fb), (ye, 172, 40, ca 1, fe)])
    (hd : ∀ a m, G a = some (3, m) → ∀ y, (jf (dC, dI) 3 a 5 (.ref y) H → y ≠ yb) ∧ (jf (dC, dI) 3 a 6 (.ref y) H → y ≠ ye)) {ph1 : Nat} (hp : ph ≤ ph1) (hw : n = 0 → ph + 1500 ≤ ph1) : jDcc dC dI ca (va_up G r (some (3, n))) none ph1 H := by
  have hle : jLe G (va_up G r (some (3, n))) := jLe.typ hn
  obtain ⟨Yb, Ye, W, g1, g2, g3, g4, g5⟩ := h
  have key : ∀ a m, va_up G r (some (3, n)) a = some (3, m) → (a = r ∧ m = n) ∨ (a ≠ r ∧ G a = some (3, m)) := fun a m ha => by
    by_cases e : a = r
    · subst e
      have e1 : some (3, n) = some (3, m) := jUp_self.symm.trans ha
      exact Or.inl ⟨rfl, (congrArg Prod.snd (Option.some.inj e1)).symm⟩
    · rw [va_up_ne _ _ e] at ha
      exact Or.inr ⟨e, ha⟩
  refine ⟨fun b => if b = r then yb else Yb b, fun b => if b = r then ye else Ye b, fun b => if b = r then 1500 else W b, fun a m ha => ?_, fun a b m m' ha hb1 e => ?_, fun a b m m' ha hb1 e => ?_, fun a m ha _ => ?_, fun N => ?_⟩
  · rcases key a m ha with ⟨rfl, rfl⟩ | ⟨ne, ha1⟩
    · simp only [if_pos]
      exact ⟨h5, h6, hle _ _ hb, hle _ _ he⟩
    · obtain ⟨q1, q2, q3, q4⟩ := g1 a m ha1
      simp only [if_neg ne]
      exact ⟨q1, q2, hle _ _ q3, hle _ _ q4⟩
  · rcases key a m ha with ⟨rfl, rfl⟩ | ⟨ne, ha1⟩
    · rcases key b m' hb1 with ⟨rfl, -⟩ | ⟨ne', hb2⟩
      · rfl
      · simp only [if_pos, if_neg ne'] at e
        exact absurd e.symm (((hd b m' hb2 (Yb b)).1) (g1 b m' hb2).1)
    · rcases key b m' hb1 with ⟨rfl, -⟩ | ⟨ne', hb2⟩
      · simp only [if_pos, if_neg ne] at e
        exact absurd e (((hd a m ha1 (Yb a)).1) (g1 a m ha1).1)
      · simp only [if_neg ne, if_neg ne'] at e
        exact g2 a b m m' ha1 hb2 e
  · rcases key a m ha with ⟨rfl, rfl⟩ | ⟨ne, ha1⟩
    · rcases key b m' hb1 with ⟨rfl, -⟩ | ⟨ne', hb2⟩
      · rfl
      · simp only [if_pos, if_neg ne'] at e
        exact absurd e.symm (((hd b m' hb2 (Ye b)).2) (g1 b m' hb2).2.1)
    · rcases key b m' hb1 with ⟨rfl, -⟩ | ⟨ne', hb2⟩
      · simp only [if_pos, if_neg ne] at e
        exact absurd e (((hd a m ha1 (Ye a)).2) (g1 a m ha1).2.1)
      · simp only [if_neg ne, if_neg ne'] at e
        exact g3 a b m m' ha1 hb2 e
  · rcases key a m ha with ⟨rfl, rfl⟩ | ⟨ne, ha1⟩
    · simp only [if_pos]
      refine ⟨fb, fe, 0, 0, .null, ⟨fun q hq => ?_, fun q hq => ?_, jSn.zero (by decide), by decide⟩, fun _ => ⟨by decide, Or.inl ⟨rfl, by show (575 : Int) * (0 - 0) + (1500 - jEd fe 0) ≤ 1500; unfold jEd; rw [if_pos (by omega)]; omega⟩⟩⟩
      · simp only [List.mem_cons, List.not_mem_nil, or_false] at hq
        rcases hq with rfl | rfl | rfl
        · exact ⟨⟨_, ha⟩, h4⟩
        · exact ⟨⟨_, ha⟩, h10⟩
        · exact ⟨⟨_, ha⟩, h11⟩
      · obtain ⟨q1, q2⟩ := hM q hq
        exact ⟨hle _ _ q1, q2⟩
    · obtain ⟨fb1, fe1, ps1, pk1, vc1, q, qp⟩ := g4 a m ha1 (fun q => by cases q)
      simp only [if_neg ne]
      exact ⟨fb1, fe1, ps1, pk1, vc1, q.up hle, qp⟩
  · have hr0 : G r ≠ some (3, 0) := hn _
    have c1 : ∀ M, jSmm (va_up G r (some (3, n))) (some r) (fun b => if b = r then 1500 else W b) M = jSmm G (some r) W M := jSmm.cg (fun M => ⟨fun q => ⟨by rw [va_up_ne _ _ (fun z => q.2 (by rw [z]))] at q; exact q.1, q.2⟩, fun q => ⟨by rw [va_up_ne _ _ (fun z => q.2 (by rw [z]))]; exact q.1, q.2⟩⟩) (fun M hM => if_neg (fun z => hM (by rw [z])))
    have c2 := g5 N
    rw [← jSmm.ne hr0 N, ← c1 N] at c2
    by_cases e : n = 0
    · subst e
      have m := jSmm.less (W := fun b => if b = r then 1500 else W b) (a := r) (G := va_up G r (some (3, 0))) jUp_self N
      have m6 := hw rfl
      have m7 : (if r < N then (if r = r then 1500 else W r) else 0) ≤ 1500 := by
        by_cases q : r < N
        · rw [if_pos q, if_pos rfl]; exact Nat.le_refl _
        · rw [if_neg q]; omega
      omega
    · rw [← jSmm.ne (a := r) (G := va_up G r (some (3, n))) (fun q => e (congrArg Prod.snd (Option.some.inj (jUp_self.symm.trans q)))) N]
      exact Nat.le_trans c2 hp
/-- the arrays of the older documents are older -/
theorem jDcc.fresh {G0 : jT} {H0 : Heap} {r yb ye : Nat} (h : jDcc dC dI ca G0 none ph H0) (hab : ∀ a t, G0 a = some t → a < H0.size) (hr : ∀ t, G0 r ≠ some t) (hn : jNk [3] G0 G) (hk : jKx r G0 G H0 H) (hb : H0.size ≤ yb) (he : H0.size ≤ ye) : ∀ a m, G a = some (3, m) → ∀ y, (jf (dC, dI) 3 a 5 (.ref y) H → y ≠ yb) ∧ (jf (dC, dI) 3 a 6 (.ref y) H → y ≠ ye) := fun a m ha y => by
  have h0 := hn a 3 m ha rfl
  obtain ⟨Yb, Ye, W, h1, -⟩ := h
  obtain ⟨q1, q2, q3, q4⟩ := h1 a m h0
  have c : H[a]? = H0[a]? := hk.1 a (hab _ _ h0) (fun e => hr _ (by rw [← e]; exact h0))
  have l1 := hab _ _ q3
  have l2 := hab _ _ q4
  refine ⟨fun g => ?_, fun g => ?_⟩
  · have e := jf.uniq g (q1.kept c)
    cases e
    exact Nat.ne_of_lt (Nat.lt_of_lt_of_le l1 hb)
  · have e := jf.uniq g (q2.kept c)
    cases e
    exact Nat.ne_of_lt (Nat.lt_of_lt_of_le l2 he)
end J41
end
section
-- how many bytes a message has at least: its strings and keys stand apart
def jSuu (D : jC) : List Nat → Int
  | [] => 0
  | e :: es => jln D e + jSuu D es
end
section
-- p11: bits; the tape on both sides; bytes read as UTF-8; the text that comes of them
theorem jb_a31 {x z : Int32} (e : z = x &&& 31) : z.toInt = x.toInt % 32 := by
  have h := pk_and x (m := 31) 5 (by decide)
  have hb := x.toBitVec.isLt
  have hx := ji_toInt x
  rw [e, h, nI_toInt (by omega), hx]
  split <;> omega
theorem jb_a7 {x z : Int32} (e : z = x &&& 7) : z.toInt = x.toInt % 8 := by
  have h := pk_and x (m := 7) 3 (by decide)
  have hb := x.toBitVec.isLt
  have hx := ji_toInt x
  rw [e, h, nI_toInt (by omega), hx]
  split <;> omega
theorem jb_s63 {k s z : Int32} (e : z = (63 : Int32) >>> (s &&& 31)) (h : s.toInt = 1 ∨ s.toInt = 2 ∨ s.toInt = 3) : (s.toInt = 1 ∧ z = 31) ∨ (s.toInt = 2 ∧ z = 15) ∨ (s.toInt = 3 ∧ z = 7) := by
  rcases h with h | h | h
  · obtain rfl : s = 1 := Int32.toInt_inj.mp (by rw [h]; decide)
    exact Or.inl ⟨h, by rw [e]; decide⟩
  · obtain rfl : s = 2 := Int32.toInt_inj.mp (by rw [h]; decide)
    exact Or.inr (Or.inl ⟨h, by rw [e]; decide⟩)
  · obtain rfl : s = 3 := Int32.toInt_inj.mp (by rw [h]; decide)
    exact Or.inr (Or.inr ⟨h, by rw [e]; decide⟩)
theorem jVby.of {x s z : Int32} {k : Int} (e : z = x >>> (s &&& 31)) (h : s.toInt = k) (hk : k = 24 ∨ k = 16 ∨ k = 8 ∨ k = 0) : z.toInt % 256 = jVby x.toInt k := by
  unfold jVby
  rcases hk with hk | hk | hk | hk
  · obtain rfl : s = 24 := Int32.toInt_inj.mp (by rw [h, hk]; decide)
    rw [e, pk_shr _ _ 24 (by decide), Int.shiftRight_eq_div_pow, hk]; first | rfl | (simp; done)
  · obtain rfl : s = 16 := Int32.toInt_inj.mp (by rw [h, hk]; decide)
    rw [e, pk_shr _ _ 16 (by decide), Int.shiftRight_eq_div_pow, hk]; first | rfl | (simp; done)
  · obtain rfl : s = 8 := Int32.toInt_inj.mp (by rw [h, hk]; decide)
    rw [e, pk_shr _ _ 8 (by decide), Int.shiftRight_eq_div_pow, hk]; first | rfl | (simp; done)
  · obtain rfl : s = 0 := Int32.toInt_inj.mp (by rw [h, hk]; decide)
    rw [e, pk_shr _ _ 0 (by decide), Int.shiftRight_eq_div_pow, hk]; first | rfl | (simp; done)
theorem jTe.zero (f g : Nat → Int32) : jTe f g 0 := fun j h0 h1 => by omega
theorem jUm.of {x m : Int} (h : (240 ≤ x ∧ m = 3) ∨ (224 ≤ x ∧ x < 240 ∧ m = 2) ∨ (x < 224 ∧ m = 1)) (h1 : 194 ≤ x) (h2 : x ≤ 244) : m = jUm x := by
  unfold jUm
  rcases h with ⟨a, b⟩ | ⟨a, b, c⟩ | ⟨a, b⟩
  · rw [if_neg (by omega), if_neg (by omega), if_pos (by omega)]; exact b
  · rw [if_neg (by omega), if_pos (by omega)]; exact c
  · rw [if_pos (by omega)]; exact b
theorem jU0.of {x y z s : Int32} {m : Int} (e : y = (63 : Int32) >>> (s &&& 31)) (e2 : z = x &&& y) (hs : s.toInt = m) (hm : m = 1 ∨ m = 2 ∨ m = 3) : z.toInt = jU0 x.toInt m := by
  unfold jU0
  rcases jb_s63 (k := 0) e (by omega) with ⟨a, b⟩ | ⟨a, b⟩ | ⟨a, b⟩
  · rw [if_pos (by omega)]; exact jb_a31 (by rw [e2, b])
  · rw [if_neg (by omega), if_pos (by omega), e2, b]; exact jb_and15 x
  · rw [if_neg (by omega), if_neg (by omega)]; exact jb_a7 (by rw [e2, b])
def jUq (b : Int → Int) (i n r q : Int) : Prop := (r = 0 ∧ jUc b i n < 0) ∨ (1 ≤ r ∧ r ≤ 4 ∧ i + r ≤ n ∧ 0 ≤ q ∧ q = jUc b i n ∧ r = jUz q)
/-- what both make of utfLength's answer: the char, its bytes -/
theorem jUq.of {b : Int → Int} {i n r q : Int} (h : jUq b i n r q) : (r = 0 ∧ jUc b i n < 0 ∧ jUs (jUc b i n) = 1) ∨ (1 ≤ r ∧ 0 ≤ q ∧ q = jUc b i n ∧ jUs (jUc b i n) = r) := by
  rcases h with ⟨a, c⟩ | ⟨a, c, d, e, f, g⟩
  · exact Or.inl ⟨a, c, by unfold jUs; rw [if_pos c]⟩
  · exact Or.inr ⟨a, e, f, by unfold jUs; rw [← f, if_neg (by omega), ← g]⟩
section JP1
variable {p : Program} {l : Launch} {e : Env} {R : Room} {s : State} {m : MethodId} {args : Array Value} {below : List Frame} {meth : Method} {c : Code} {H : Heap} {locs : List Loc} {cells slots : Nat} {Q : State → Prop}
variable {cc : ByteArray} {pc : Nat} {ls : Array Slot} {rest : List Value} {D : va_G} {cl : List vw_C} {A : Nat → Prop} {a : Nat} {tys : List (ClassId × FieldType)}
end JP1
section JP2
variable {p : Program} {l : Launch} {e : Env} {R : Room} {s : State} {m : MethodId} {args : Array Value} {below : List Frame} {meth : Method} {c : Code} {H : Heap} {locs : List Loc} {cells slots : Nat} {Q : State → Prop}
variable {cc : ByteArray} {pc : Nat} {ls : Array Slot} {rest : List Value} {dC : Nat → ClassId} {dI : Nat → Nat → Nat} {ca : Nat → ClassId} {B : jF} {base : Nat} {G0 G : jT} {E : List (Nat × Nat)} {H0 : Heap} {zc zs : Nat} {L : List jPin} {M : List jCt} {I : List jIv} {a k n : Nat} {cA : ClassId} {tys : List (ClassId × FieldType)}
end JP2
end
section
-- nothing is there yet
section J51
variable {dC : Nat → ClassId} {dI : Nat → Nat → Nat} {ca : Nat → ClassId} {B : jF} {base : Nat} {G : jT} {H : Heap}
theorem jYb.zero (h : ∀ a t, G a ≠ some t) : jYb dC dI G H := fun a ha => absurd ha (h _ _)
theorem jSef.zero (h : ∀ a t, G a ≠ some t) : jSef dC dI G H := fun a ha => absurd ha (h _ _)
theorem jLs.zero (h : ∀ a t, G a ≠ some t) : jLs dC dI ca G 0 none H := ⟨fun a _ _ ha => absurd ha (h _ _), fun a _ ha => absurd ha (h _ _), fun a _ ha => absurd ha (h _ _)⟩
theorem jSmm.zero (h : ∀ a t, G a ≠ some t) : ∀ N, jSmm G none (fun _ => 0) N = 0
  | 0 => rfl
  | N + 1 => by
    show jSmm G none (fun _ => 0) N + (if G N = some (3, 0) ∧ none ≠ some N then 0 else 0) = 0
    rw [jSmm.zero h N, if_neg (fun q => h _ _ q.1)]
theorem jDcc.zero (h : ∀ a t, G a ≠ some t) : jDcc dC dI ca G none 0 H := ⟨fun _ => 0, fun _ => 0, fun _ => 0, fun a _ ha => absurd ha (h _ _), fun a _ _ _ ha => absurd ha (h _ _), fun a _ _ _ ha => absurd ha (h _ _), fun a _ ha => absurd ha (h _ _), fun N => Nat.le_of_eq (jSmm.zero h N)⟩
end J51
end
section
-- the start: what the Statement gives, as the contracts ask for it
theorem jZ.of {args : Array Value} {s : State} {base : Nat} (hF : ∀ c ∈ flatC narrow_1, c.before args s = true) (hT : ∀ w ∈ tables_1, w.before args s = true) (hb : base = s.heap.size) : jZ base s s.heap := by
  have hA : ∀ a : Nat, a < s.heap.size → ¬ jA base a := fun a ha h => by
    have h9 : base ≤ a := h
    omega
  obtain ⟨t11, e11, h11⟩ := va_Tof (tm := (.static "ProofServer$Syntax" "CHAIN_SIGNS" "[I")) (ty := .int) (N := 3) (f := fun j => .int (([62, 43, 42] : List Int32).getD j 0)) (A := jA base) (by decide) (hF (.arrayOf (.static "ProofServer$Syntax" "CHAIN_SIGNS" "[I") .int) (List.mem_of_getElem? (i := 12) (by decide +kernel))) (va_eqt (hF (.eq (.length (.static "ProofServer$Syntax" "CHAIN_SIGNS" "[I")) (.int 3)) (List.mem_of_getElem? (i := 13) (by decide +kernel)))) (fun j hj => by
    rcases (by omega : j = 0 ∨ j = 1 ∨ j = 2) with rfl | rfl | rfl
    · exact va_eqt (hF (.eq (.elem (.static "ProofServer$Syntax" "CHAIN_SIGNS" "[I") (.int 0)) (.int 62)) (List.mem_of_getElem? (i := 14) (by decide +kernel)))
    · exact va_eqt (hF (.eq (.elem (.static "ProofServer$Syntax" "CHAIN_SIGNS" "[I") (.int 1)) (.int 43)) (List.mem_of_getElem? (i := 15) (by decide +kernel)))
    · exact va_eqt (hF (.eq (.elem (.static "ProofServer$Syntax" "CHAIN_SIGNS" "[I") (.int 2)) (.int 42)) (List.mem_of_getElem? (i := 16) (by decide +kernel)))) hA
  obtain ⟨t17, e17, h17⟩ := va_Tof (tm := (.static "ProofServer$Syntax" "CHAIN_NODES" "[I")) (ty := .int) (N := 3) (f := fun j => .int (([1, 3, 2] : List Int32).getD j 0)) (A := jA base) (by decide) (hF (.arrayOf (.static "ProofServer$Syntax" "CHAIN_NODES" "[I") .int) (List.mem_of_getElem? (i := 18) (by decide +kernel))) (va_eqt (hF (.eq (.length (.static "ProofServer$Syntax" "CHAIN_NODES" "[I")) (.int 3)) (List.mem_of_getElem? (i := 19) (by decide +kernel)))) (fun j hj => by
    rcases (by omega : j = 0 ∨ j = 1 ∨ j = 2) with rfl | rfl | rfl
    · exact va_eqt (hF (.eq (.elem (.static "ProofServer$Syntax" "CHAIN_NODES" "[I") (.int 0)) (.int 1)) (List.mem_of_getElem? (i := 20) (by decide +kernel)))
    · exact va_eqt (hF (.eq (.elem (.static "ProofServer$Syntax" "CHAIN_NODES" "[I") (.int 1)) (.int 3)) (List.mem_of_getElem? (i := 21) (by decide +kernel)))
    · exact va_eqt (hF (.eq (.elem (.static "ProofServer$Syntax" "CHAIN_NODES" "[I") (.int 2)) (.int 2)) (List.mem_of_getElem? (i := 22) (by decide +kernel)))) hA
  refine ⟨va_Zof (hT (.laysStatic "java/lang/String" "COMPACT_STRINGS" "Z") (List.mem_of_getElem? (i := 174) (by decide +kernel))) (hT (.initialized "java/lang/String") (List.mem_of_getElem? (i := 8) (by decide +kernel))) (va_eqt (hF (.eq (.static "java/lang/String" "COMPACT_STRINGS" "Z") (.int 1)) (List.mem_of_getElem? (i := 2) (by decide +kernel)))) hA, ⟨t11, fun j => ([62, 43, 42] : List Int32).getD j 0, va_Zref (hT (.laysStatic "ProofServer$Syntax" "CHAIN_SIGNS" "[I") (List.mem_of_getElem? (i := 1418) (by decide +kernel))) (hT (.initialized "ProofServer$Syntax") (List.mem_of_getElem? (i := 12) (by decide +kernel))) e11 hA, h11, fun j hj => by rcases (by omega : j = 0 ∨ j = 1 ∨ j = 2) with rfl | rfl | rfl <;> decide⟩, ⟨t17, fun j => ([1, 3, 2] : List Int32).getD j 0, va_Zref (hT (.laysStatic "ProofServer$Syntax" "CHAIN_NODES" "[I") (List.mem_of_getElem? (i := 1436) (by decide +kernel))) (hT (.initialized "ProofServer$Syntax") (List.mem_of_getElem? (i := 12) (by decide +kernel))) e17 hA, h17, fun j hj => by rcases (by omega : j = 0 ∨ j = 1 ∨ j = 2) with rfl | rfl | rfl <;> decide⟩, va_Zqof (hT (.laysStatic "jdk/internal/util/Preconditions" "SIOOBE_FORMATTER" "Ljava/util/function/BiFunction;") (List.mem_of_getElem? (i := 190) (by decide +kernel))) (hT (.initialized "jdk/internal/util/Preconditions") (List.mem_of_getElem? (i := 10) (by decide +kernel))) (hF (.isRef (.static "jdk/internal/util/Preconditions" "SIOOBE_FORMATTER" "Ljava/util/function/BiFunction;")) (List.mem_of_getElem? (i := 3) (by decide +kernel))) hA⟩
end
section
-- how long a message is at least that opens or changes a document
def jEs : List Nat → List Nat
  | [] => []
  | i :: is => (2 * i) :: (2 * i + 1) :: jEs is
def jWs (D : jC) : List Int → Int
  | [] => 0
  | i :: is => (if jSo D.1 i = 3 then jSo D.2.2.1 i else 0) + jSo D.2.2.2.2 i + jWs D is
theorem jWs.eq {D : jC} : ∀ (is : List Int), (∀ i ∈ is, 0 ≤ i) → jSuu D (jEs (is.map Int.toNat)) = jWs D is
  | [], _ => rfl
  | i :: is, h => by
    have h1 := jWs.eq (D := D) is (fun x hx => h x (List.mem_cons_of_mem _ hx))
    have h2 := h i List.mem_cons_self
    show jln D (2 * i.toNat) + (jln D (2 * i.toNat + 1) + jSuu D (jEs (is.map Int.toNat))) = (if jSo D.1 i = 3 then jSo D.2.2.1 i else 0) + jSo D.2.2.2.2 i + jWs D is
    have n1 : jln D (2 * i.toNat) = (if jSo D.1 i = 3 then jSo D.2.2.1 i else 0) := by
      unfold jln
      rw [if_pos (by omega), show (((2 * i.toNat) / 2 : Nat) : Int) = i by omega]
    have n2 : jln D (2 * i.toNat + 1) = jSo D.2.2.2.2 i := by
      unfold jln
      rw [if_neg (by omega), show (((2 * i.toNat + 1) / 2 : Nat) : Int) = i by omega]
    rw [n1, n2, h1]
    omega
/-- a value that has a key -/
def jNde (D : jC) (pv i k z : Int) : Prop := 0 ≤ i ∧ i < pv ∧ jSo D.1 i = k ∧ jSo D.2.2.2.2 i = z
theorem jNde.of {fk fi fz fa fs : Nat → Int32} {pv i k z : Int} (h0 : 0 ≤ i) (h1 : i < pv) (h2 : jSo fk i = k) (h3 : jSo fs i = z) : jNde (fk, fi, fz, fa, fs) pv i k z := ⟨h0, h1, h2, h3⟩
def jMh (D : jC) (pv pu n : Int) : Prop := (∃ C : jC, jJr C 0 0 D pv pu) ∧ jUd D pv pu n
theorem jMh.of {C : jC} {gk gi gz ga gs : Nat → Int32} {qv qu n : Int} (h : jJr C 0 0 (gk, gi, gz, ga, gs) qv qu) (g : jUd (gk, gi, gz, ga, gs) qv qu n) : jMh (gk, gi, gz, ga, gs) qv qu n := ⟨⟨C, h⟩, g⟩
/-- one or the other, hidden until it is resolved -/
def jOr (p q : Prop) : Prop := p ∨ q
theorem jOr.of {p q : Prop} (h : p ∨ q) : jOr p q := h
end
section
-- the documents of the reference while it is made
abbrev jFz9 : List (Nat × Nat) := [(14, 5), (14, 6), (14, 7), (14, 9), (190, 0), (191, 0)]
def jDZ (dC : Nat → ClassId) (dI : Nat → Nat → Nat) (G : jT) (H : Heap) : Prop := ∃ Yb Ye : Nat → Nat, (∀ a, G a = some (14, 0) → jf (dC, dI) 14 a 6 (.ref (Yb a)) H ∧ jf (dC, dI) 14 a 7 (.ref (Ye a)) H ∧ G (Yb a) = some (190, 40) ∧ G (Ye a) = some (191, 40)) ∧ (∀ a b, G a = some (14, 0) → G b = some (14, 0) → Yb a = Yb b → a = b) ∧ (∀ a b, G a = some (14, 0) → G b = some (14, 0) → Ye a = Ye b → a = b) ∧ ∀ a, G a = some (14, 0) → jf (dC, dI) 14 a 5 (.int 0) H ∧ jf (dC, dI) 14 a 9 (.int 0) H
section J45
variable {dC : Nat → ClassId} {dI : Nat → Nat → Nat} {ca : Nat → ClassId} {G G1 : jT} {H : Heap}
theorem jDZ.zero (h : ∀ a t, G a ≠ some t) : jDZ dC dI G H := ⟨fun _ => 0, fun _ => 0, fun a ha => absurd ha (h _ _), fun a _ ha => absurd ha (h _ _), fun a _ ha => absurd ha (h _ _), fun a ha => absurd ha (h _ _)⟩
theorem jDZ.ie (h : jDZ dC dI G H) : ((jFz9, jDZ dC dI G) : jIv).2 H ∧ ∀ H1 H2 : Heap, jAg (dC, dI) G ((jFz9, jDZ dC dI G) : jIv).1 H1 H2 → ((jFz9, jDZ dC dI G) : jIv).2 H1 → ((jFz9, jDZ dC dI G) : jIv).2 H2 := by
  refine ⟨h, fun H1 H2 hA hq => ?_⟩
  obtain ⟨Yb, Ye, h1, h2, h3, h4⟩ := hq
  refine ⟨Yb, Ye, fun a ha => ?_, h2, h3, fun a ha => ?_⟩
  · obtain ⟨g1, g2, g3, g4⟩ := h1 a ha
    exact ⟨hA.1 a 14 0 6 _ ha rfl g1, hA.1 a 14 0 7 _ ha rfl g2, g3, g4⟩
  · obtain ⟨g1, g2⟩ := h4 a ha
    exact ⟨hA.1 a 14 0 5 _ ha rfl g1, hA.1 a 14 0 9 _ ha rfl g2⟩
theorem jDZ.grow (h : jDZ dC dI G H) (hle : jLe G G1) (hn : jN14 G G1) : jDZ dC dI G1 H := by
  obtain ⟨Yb, Ye, h1, h2, h3, h4⟩ := h
  refine ⟨Yb, Ye, fun a ha => ?_, fun a b ha hb => h2 a b (hn a ha) (hn b hb), fun a b ha hb => h3 a b (hn a ha) (hn b hb), fun a ha => h4 a (hn a ha)⟩
  obtain ⟨g1, g2, g3, g4⟩ := h1 a (hn a ha)
  exact ⟨g1, g2, hle _ _ g3, hle _ _ g4⟩
theorem jDZ.typ {r yb ye : Nat} (h : jDZ dC dI G H) (hn : ∀ t, G r ≠ some t) (h5 : jf (dC, dI) 14 r 5 (.int 0) H) (h9 : jf (dC, dI) 14 r 9 (.int 0) H) (h6 : jf (dC, dI) 14 r 6 (.ref yb) H) (h7 : jf (dC, dI) 14 r 7 (.ref ye) H) (hb : G yb = some (190, 40)) (he : G ye = some (191, 40))
    (hd : ∀ a, G a = some (14, 0) → ∀ y, (jf (dC, dI) 14 a 6 (.ref y) H → y ≠ yb) ∧ (jf (dC, dI) 14 a 7 (.ref y) H → y ≠ ye)) : jDZ dC dI (va_up G r (some (14, 0))) H := by
  have hle : jLe G (va_up G r (some (14, 0))) := jLe.typ hn
  obtain ⟨Yb, Ye, g1, g2, g3, g4⟩ := h
  have key : ∀ a, va_up G r (some (14, 0)) a = some (14, 0) → a = r ∨ (a ≠ r ∧ G a = some (14, 0)) := fun a ha => by
    by_cases e : a = r
    · exact Or.inl e
    · rw [va_up_ne _ _ e] at ha
      exact Or.inr ⟨e, ha⟩
  refine ⟨fun b => if b = r then yb else Yb b, fun b => if b = r then ye else Ye b, fun a ha => ?_, fun a b ha hb1 e => ?_, fun a b ha hb1 e => ?_, fun a ha => ?_⟩
  · rcases key a ha with rfl | ⟨ne, ha1⟩
    · simp only [if_pos]
      exact ⟨h6, h7, hle _ _ hb, hle _ _ he⟩
    · obtain ⟨q1, q2, q3, q4⟩ := g1 a ha1
      simp only [if_neg ne]
      exact ⟨q1, q2, hle _ _ q3, hle _ _ q4⟩
  · rcases key a ha with rfl | ⟨ne, ha1⟩
    · rcases key b hb1 with rfl | ⟨ne', hb2⟩
      · rfl
      · simp only [if_pos, if_neg ne'] at e
        exact absurd e.symm (((hd b hb2 (Yb b)).1) (g1 b hb2).1)
    · rcases key b hb1 with rfl | ⟨ne', hb2⟩
      · simp only [if_pos, if_neg ne] at e
        exact absurd e (((hd a ha1 (Yb a)).1) (g1 a ha1).1)
      · simp only [if_neg ne, if_neg ne'] at e
        exact g2 a b ha1 hb2 e
  · rcases key a ha with rfl | ⟨ne, ha1⟩
    · rcases key b hb1 with rfl | ⟨ne', hb2⟩
      · rfl
      · simp only [if_pos, if_neg ne'] at e
        exact absurd e.symm (((hd b hb2 (Ye b)).2) (g1 b hb2).2.1)
    · rcases key b hb1 with rfl | ⟨ne', hb2⟩
      · simp only [if_pos, if_neg ne] at e
        exact absurd e (((hd a ha1 (Ye a)).2) (g1 a ha1).2.1)
      · simp only [if_neg ne, if_neg ne'] at e
        exact g3 a b ha1 hb2 e
  · rcases key a ha with rfl | ⟨ne, ha1⟩
    · exact ⟨h5, h9⟩
    · exact g4 a ha1
theorem jDZ.fresh {G0 : jT} {H0 : Heap} {r yb ye : Nat} (h : jDZ dC dI G0 H0) (hab : ∀ a t, G0 a = some t → a < H0.size) (hr : ∀ t, G0 r ≠ some t) (hn : jN14 G0 G) (hk : jKx r G0 G H0 H) (hb : H0.size ≤ yb) (he : H0.size ≤ ye) : ∀ a, G a = some (14, 0) → ∀ y, (jf (dC, dI) 14 a 6 (.ref y) H → y ≠ yb) ∧ (jf (dC, dI) 14 a 7 (.ref y) H → y ≠ ye) := fun a ha y => by
  have h0 := hn a ha
  obtain ⟨Yb, Ye, h1, -⟩ := h
  obtain ⟨q1, q2, q3, q4⟩ := h1 a h0
  have c : H[a]? = H0[a]? := hk.1 a (hab _ _ h0) (fun e => hr _ (by rw [← e]; exact h0))
  have l1 := hab _ _ q3
  have l2 := hab _ _ q4
  refine ⟨fun g => ?_, fun g => ?_⟩
  · have e := jf.uniq g (q1.kept c)
    cases e
    exact Nat.ne_of_lt (Nat.lt_of_lt_of_le l1 hb)
  · have e := jf.uniq g (q2.kept c)
    cases e
    exact Nat.ne_of_lt (Nat.lt_of_lt_of_le l2 he)
theorem jDZ.dy {B : jF} {base : Nat} {P Q : Nat → Int32 → Prop} (h : jDZ dC dI G H) (hX : jX B base G [] H) (hb : ∀ n G a H, B 190 n G a H ↔ jAr (dC, dI) (ca 1) P n a H) (he : ∀ n G a H, B 191 n G a H ↔ jAr (dC, dI) (ca 1) Q n a H) : jDY dC dI ca G none (fun _ => 0) H := by
  obtain ⟨Yb, Ye, h1, h2, h3, h4⟩ := h
  refine ⟨Yb, Ye, h1, h2, h3, fun a ha _ => ?_⟩
  obtain ⟨g1, g2, g3, g4⟩ := h1 a ha
  obtain ⟨fb, b1, -⟩ := (hb _ _ _ _).mp (hX.1 _ _ _ g3 (by decide) (fun q => by cases q))
  obtain ⟨fe, e1, -⟩ := (he _ _ _ _).mp (hX.1 _ _ _ g4 (by decide) (fun q => by cases q))
  have hsr : jSrt fb fe ((0 : Int32)).toInt 1500 := by
    rw [show (0 : Int32).toInt = 0 by decide]
    exact jSrt.nil _ _ _
  refine ⟨fb, fe, g3, g4, fun q hq => ?_, fun q hq => ?_, hsr, (by show (0 : Int) ≤ (0 : Int32).toInt; decide), (by show (0 : Int32).toInt ≤ 40; decide)⟩
  · simp only [List.mem_cons, List.not_mem_nil, or_false] at hq
    rcases hq with rfl | rfl | rfl
    · exact ⟨⟨_, ha⟩, g1⟩
    · exact ⟨⟨_, ha⟩, g2⟩
    · exact ⟨⟨_, ha⟩, (h4 a ha).1⟩
  · simp only [List.mem_cons, List.not_mem_nil, or_false] at hq
    rcases hq with rfl | rfl
    · exact ⟨g3, (by show (17 : Nat) ≤ 190; decide), (by show (190 : Nat) < 1000; decide), b1⟩
    · exact ⟨g4, (by show (17 : Nat) ≤ 191; decide), (by show (191 : Nat) < 1000; decide), e1⟩
theorem jDZ.vl (h : jDZ dC dI G H) : jVl dC dI G 9 (fun _ => 0) H := by
  obtain ⟨Yb, Ye, h1, h2, h3, h4⟩ := h
  exact fun a ha => (h4 a ha).2
theorem jPu.zero {fd fo : Nat → Option Nat} {fs : Nat → Int32} {dc : Int} {a b c ol nw td : Nat} (h0 : fd 0 = some a) (h1 : fd 1 = some b) (h2 : fd 2 = some c) (ha : a < b) (hb : b < c) (hc : c < ol) (ho : ol < nw) (hn : nw < td) (hf : ∀ w, w < 2 → fo w = none) : jPu (fun _ => 0) (fun _ => 0) fd fo fs dc ol nw td := by
  have c3 : ∀ i, i < 3 → i = 0 ∨ i = 1 ∨ i = 2 := fun i h => by omega
  refine ⟨fun i hi => ?_, fun i j hi hj e => ?_, fun i a hi _ => Int.le_refl _, fun w hw => Or.inl (hf w hw)⟩
  · rcases c3 i hi with rfl | rfl | rfl
    · rw [h0]; exact ⟨fun e => by cases e; omega, fun e => by cases e; omega, fun e => by cases e; omega⟩
    · rw [h1]; exact ⟨fun e => by cases e; omega, fun e => by cases e; omega, fun e => by cases e; omega⟩
    · rw [h2]; exact ⟨fun e => by cases e; omega, fun e => by cases e; omega, fun e => by cases e; omega⟩
  · rcases c3 i hi with rfl | rfl | rfl <;> rcases c3 j hj with rfl | rfl | rfl <;> first | rfl | (simp only [h0, h1, h2, Option.some.injEq] at e; omega)
theorem jQs3 {G1 : jT} {k n a b c : Nat} (hle : jLe G G1) (ha : G a = some (k, n)) (hb : G b = some (k, n)) (hc : G c = some (k, n)) : ∀ j, j < 3 → jQs k n G1 (va_up (va_up (va_up (fun _ => none) 0 (some a)) 1 (some b)) 2 (some c) j) := fun j hj => by
  rcases (by omega : j = 0 ∨ j = 1 ∨ j = 2) with rfl | rfl | rfl
  · exact ⟨a, by simp [va_up], hle _ _ ha⟩
  · exact ⟨b, by simp [va_up], hle _ _ hb⟩
  · exact ⟨c, by simp [va_up], hle _ _ hc⟩
/-- what the reference's constructor leaves of its documents and of its JSON -/
def jRo (dC : Nat → ClassId) (dI : Nat → Nat → Nat) (ca : Nat → ClassId) (G : jT) (r : Nat) (H : Heap) : Prop := ∃ dd co cs ol nw td xb xe : Nat, G dd = some (201, 3) ∧ G co = some (208, 2) ∧ G cs = some (207, 2) ∧ G ol = some (14, 0) ∧ G nw = some (14, 0) ∧ G td = some (14, 0) ∧ G xb = some (122, 3100) ∧ G xe = some (123, 3100) ∧ jDV dC dI ca G r dd co cs ol nw td H ∧ jP (dC, dI) G H [(r, 16, 22, .ref xb), (r, 16, 23, .ref xe)] ∧ jIs (dC, dI) G H [(jFt, jFT dC dI ca G xb xe)]
end J45
end
section
-- the row 'next' of the reference's JSON: once a value was made, the first one has none behind it
theorem jNrU {G : jT} {a b : Nat} {t : Option (Nat × Nat)} (hn : ∀ t, G a ≠ some t) (hne : a ≠ b) : ∀ u, va_up G b t a ≠ some u := fun u e => hn u (by rw [← e]; simp [va_up, hne])
end
section
def EX12_initE : List (Nat × Nat) := []
def EJ5_init_d00dfW : List (Nat × Nat) := []
def EJ4_init_da8c8W : List (Nat × Nat) := []
set_option maxHeartbeats 4000000 in
set_option maxRecDepth 20000 in
theorem uX12_initE (l : Launch) (dC : Nat → ClassId) (dI : Nat → Nat → Nat) (ca : Nat → ClassId) (base : Nat) (B : jF) (hB : jBok B) (hAp : jAp (dC, dI)) (hB14 : ∀ n G a H, B 14 n G a H ↔ jOb (dC, dI) 14 11 (F14 n G) a H) (hB101 : ∀ n G a H, B 101 n G a H ↔ jAr (dC, dI) (ca 1) (fun j z => True) n a H) (hB190 : ∀ n G a H, B 190 n G a H ↔ jAr (dC, dI) (ca 1) (fun j z => 0 ≤ z.toInt ∧ z.toInt ≤ 1500) n a H) (hB191 : ∀ n G a H, B 191 n G a H ↔ jAr (dC, dI) (ca 1) (fun j z => 0 ≤ z.toInt ∧ z.toInt ≤ 1500) n a H) (hB192 : ∀ n G a H, B 192 n G a H ↔ jAr (dC, dI) (ca 1) (fun j z => 0 ≤ z.toInt ∧ z.toInt ≤ 2) n a H) (hB193 : ∀ n G a H, B 193 n G a H ↔ jAr (dC, dI) (ca 1) (fun j z => True) n a H) (G0 : jT) (H0 : Heap) (r0 : Nat) (LC LS : Nat) : Met l yX12_init (jw yX12_init cX12_init 1 none) ({ frames := 1, cells := LC - H0.size, slots := LS - jTot H0, locals := 31 }) (va_Pc [.ref r0] (fun U => U.heap = H0 ∧ jX B base G0 [] H0 ∧ jG dC dI ca base U ∧ va_at (dC, dI) vwCl (r0, .inr (14, [.null, .int 0, .int 0, .null, .int 0, .int 0, .null, .null, .null, .int 0, .null])) H0 ∧ (∀ t, G0 r0 ≠ some t) ∧ base ≤ r0 ∧ jP (dC, dI) G0 H0 [] ∧ jIs (dC, dI) G0 H0 [(jFz9, jDZ dC dI G0)] ∧ H0.size + 6 ≤ LC ∧ jTot H0 + 1700 ≤ LS ∧ True)) (va_Qv (S := jT) (fun u => True) (fun u t => jRa (dC, dI) B base G0 u EX12_initE H0 (6) (1700) [] t.heap ∧ (jNk [0, 1, 2, 3, 4, 5, 6, 7, 8, 9, 10, 11, 12, 13, 15, 16]) G0 u ∧ u r0 = some (14, 0) ∧ jKx r0 G0 u H0 t.heap ∧ jIs (dC, dI) u t.heap [(jFz9, jDZ dC dI u)]) (jA base)) (LC - H0.size) (LS - jTot H0) (jA base) := by
  refine Met.ofW (cc := cX12_init) (maxL := 1) (ret := none) (by decide) rfl ?_
  intro p e s m args below meth c s₁ Bd hml hv
  obtain ⟨rfl, hH0, hX, hG, hraw0, hnr0, hbr0, hP0, hI0, hLC0, hLS0, hp0⟩ := hv
  have hK := hG.1
  have hx := Bd.exec
  have hb := Bd.bytes
  have hr := Bd.returns
  have hts := atoms_spec (ws := (jw yX12_init cX12_init 1 none)) Bd.pre
  have htw : ∀ w ∈ jWl, w.before _ s = true := fun w h => hts w (List.mem_cons_of_mem _ h)
  have hown : s.vm.findClass RX12 = some m.cls := findClass_of_methodNamed Bd.named
  have hlocks := Bd.notSynchronized
  obtain ⟨Q, hQ⟩ : ∃ Q, Q = MQ below (va_Qv (S := jT) (fun u => True) (fun u t => jRa (dC, dI) B base G0 u EX12_initE H0 (6) (1700) [] t.heap ∧ (jNk [0, 1, 2, 3, 4, 5, 6, 7, 8, 9, 10, 11, 12, 13, 15, 16]) G0 u ∧ u r0 = some (14, 0) ∧ jKx r0 G0 u H0 t.heap ∧ jIs (dC, dI) u t.heap [(jFz9, jDZ dC dI u)]) (jA base)) ([.ref r0] : List Value).toArray s (LC - H0.size) (LS - jTot H0) (jA base) := ⟨_, rfl⟩
  rw [← hQ]
  have hl := lv_entry ([.ref r0]) (n := 1) (Nat.le_of_ble_eq_true rfl)
  rw [lg_entry_eq]
  generalize (lg_sl ([.ref r0]) ++ List.replicate (1 - (lg_sl ([.ref r0])).length) Slot.unset).toArray = ls at hl ⊢
  have hl : lv_has ls 1 [(0, .ref r0)] := hl
  generalize hR : (headSpec (jw yX12_init cX12_init 1 none) ({ frames := 1, cells := LC - H0.size, slots := LS - jTot H0, locals := 31 })).room = R
  subst hH0
  have hh : jSt (dC, dI) B base G0 G0 EX12_initE s.heap 0 0 [] [] [(jFz9, jDZ dC dI G0)] s.heap [] := jSt.start hX hP0 jMc.nil hI0
  clear hX hP0
  have hk0 : (0 : Int32).toInt = 0 := by decide
  have hk1 : (1 : Int32).toInt = 1 := by decide
  have hk40 : (40 : Int32).toInt = 40 := by decide
  have hk1500 : (1500 : Int32).toInt = 1500 := by decide
  have hly_14_0 := htw (u_lay RX12 TX12 0) (jWc_wsX120 _ (u_in_lay (by decide)))
  have hly_14_3 := htw (u_lay RX12 TX12 3) (jWc_wsX120 _ (u_in_lay (by decide)))
  have hly_14_6 := htw (u_lay RX12 TX12 6) (jWc_wsX120 _ (u_in_lay (by decide)))
  have hly_14_7 := htw (u_lay RX12 TX12 7) (jWc_wsX120 _ (u_in_lay (by decide)))
  have hly_14_8 := htw (u_lay RX12 TX12 8) (jWc_wsX120 _ (u_in_lay (by decide)))
  have hly_14_10 := htw (u_lay RX12 TX12 10) (jWc_wsX120 _ (u_in_lay (by decide)))
  have hlk_9 := (htw (.fieldLink RX12 9 "ProofServerModel$Document" "uri" "[I") (jWr_13 _ (List.mem_of_getElem? (i := 23) rfl)))
  have hlk_15 := (htw (.fieldLink RX12 15 "ProofServerModel$Document" "text" "[I") (jWr_14 _ (List.mem_of_getElem? (i := 0) rfl)))
  have hlk_18 := (htw (.fieldLink RX12 18 "ProofServerModel$Document" "begin" "[I") (jWr_14 _ (List.mem_of_getElem? (i := 1) rfl)))
  have hlk_21 := (htw (.fieldLink RX12 21 "ProofServerModel$Document" "end" "[I") (jWr_14 _ (List.mem_of_getElem? (i := 2) rfl)))
  have hlk_24 := (htw (.fieldLink RX12 24 "ProofServerModel$Document" "flaw" "[I") (jWr_14 _ (List.mem_of_getElem? (i := 3) rfl)))
  have hlk_27 := (htw (.fieldLink RX12 27 "ProofServerModel$Document" "fault" "[I") (jWr_14 _ (List.mem_of_getElem? (i := 4) rfl)))
  have hbs : base ≤ s.heap.size := Nat.le_of_lt (Nat.lt_of_le_of_lt hbr0 hraw0.lt)
  have hRc : R.cells = LC - s.heap.size := by rw [← hR]; rfl
  have hRs : R.slots = LS - jTot s.heap := by rw [← hR]; rfl
  have hE0 := hh.iv 0 rfl
  have hab0 : ∀ {a : Nat} {t : Nat × Nat}, G0 a = some t → a < s.heap.size := fun ht => (hh.ab ht).2
  have hin2 : meth.name = "<init>" := (name_of_methodNamed Bd.named Bd.method).1
  have hkp : jKx r0 G0 G0 s.heap s.heap := jKx.rf
  refine lv_aload_n hx hb dX12_init_0 rfl (lv_at hl 0 rfl) ?_
  refine W.objInit hx hb hown (htw (.methodLink RX12 3 objectInit) (jWr_13 _ (List.mem_of_getElem? (i := 22) rfl))) (htw (.instanceMethod objectInit) (jWr_1 _ (List.mem_of_getElem? (i := 10) rfl))) (htw (.code objectInit ⟨#[0xb1]⟩ 1 none) (jWr_1 _ (List.mem_of_getElem? (i := 11) rfl))) rfl (by rw [hml]; exact hl.1) rfl dX12_init_1 (by rw [← hR]; exact Nat.le_of_ble_eq_true rfl) (by rw [← hR]; exact Nat.le_of_ble_eq_true rfl) ?_
  refine W.eq (g2 := F0 m 4 ls []) rfl ?_
  refine lv_aload_n hx hb dX12_init_4 rfl (lv_at hl 0 rfl) ?_
  refine lv_bipush (v := 40) hx hb dX12_init_5 (by decide) ?_
  have hsz_1 := hh.2.2.2.2.2.1
  have htt_1 := hh.2.2.2.2.2.2.1
  refine j7_newiK hx hb hK hh hB (atype := .int) (ty := .int) (htw (.arrayClass .int) (jWr_3 _ (List.mem_of_getElem? (i := 20) rfl))) rfl rfl (fun _ h => h) hB101 1 rfl (by decide) (by decide) hbs (x := 40) (by decide) (by omega) (fun j => by first | trivial | decide | rfl | exact Or.inl rfl | (refine ⟨?_, ?_⟩ <;> decide)) (by rw [hRc]; omega) (by rw [hRs]; omega) dX12_init_7 (fun H_1 hfr_1 hh_1 => ?_)
  have hh_1 : jSt (dC, dI) B base G0 (va_up G0 s.heap.size (some (101, 40))) EX12_initE s.heap (0 + 1) (0 + 40) [] [] [(jFz9, jDZ dC dI G0)] H_1 [] := hh_1
  have hZ_1 : jN14 G0 (va_up G0 s.heap.size (some (101, 40))) := jN14.new (by decide)
  have hN_1 : (jNk [0, 1, 2, 3, 4, 5, 6, 7, 8, 9, 10, 11, 12, 13, 15, 16]) G0 (va_up G0 s.heap.size (some (101, 40))) := jNk.new (by decide)
  have hgn_1 : (va_up G0 s.heap.size (some (101, 40))) s.heap.size = some (101, 40) := jUp_self
  have hle_1 : jLe G0 (va_up G0 s.heap.size (some (101, 40))) := jLe.new hh.2.1.fresh
  have hke_1 : jKe G0 (va_up G0 s.heap.size (some (101, 40))) s.heap H_1 := jKe.new hfr_1
  have hsy_1 : s.heap.size ≤ s.heap.size := hh.1.1
  generalize (va_up G0 s.heap.size (some (101, 40))) = G_1 at hN_1 hgn_1 hle_1 hke_1 hh_1 hZ_1
  clear hh
  have hNn_1 : (jNk [0, 1, 2, 3, 4, 5, 6, 7, 8, 9, 10, 11, 12, 13, 15, 16]) G0 G_1 := (jNk.rf).tr hN_1
  have hkp_2 := hkp.tr hke_1
  have hraw_3n := hke_1.nr hraw0.lt hnr0
  have hraw_3 := hraw0.kept (hke_1.1 _ hraw0.lt)
  have hz14_1 : jN14 G0 G_1 := (jN14.rf).tr hZ_1
  have hd_4 := jDZ.grow (hh_1.iv 0 rfl) hle_1 hZ_1
  have hh_5 := hh_1.sub (L1 := []) [] rfl (M1 := []) [] rfl (I1 := []) [] rfl
  clear hh_1
  have hh_6 := hh_5.addI (jDZ.ie hd_4)
  clear hh_5
  refine j7_putRF hx hb hown hK hh_6 hB hAp hraw_3 hraw_3n hbr0 (C := RX12) (T := TX12) (N := 11) rfl (i := 0) (by decide) (Nat.le_of_ble_eq_true rfl) hly_14_0 rfl hin2 rfl hlk_9 (ty := (.array .int)) (v := .ref s.heap.size) (by decide +kernel) rfl rfl dX12_init_9 (fun H_7 locs_7 hraw_7 hr_7 hh_7 => ?_)
  have hraw_7 : va_at (dC, dI) vwCl (r0, .inr (14, [.ref s.heap.size, .int 0, .int 0, .null, .int 0, .int 0, .null, .null, .null, .int 0, .null])) H_7 := hraw_7
  have hkp_8 := hkp_2.put hr_7
  clear hh_6
  refine lv_aload_n hx hb dX12_init_12 rfl (lv_at hl 0 rfl) ?_
  refine lv_sipush (v := 1500) hx hb dX12_init_13 (by decide) ?_
  have hsz_9 := hh_7.2.2.2.2.2.1
  have htt_9 := hh_7.2.2.2.2.2.2.1
  refine j7_newiK hx hb hK hh_7 hB (atype := .int) (ty := .int) (htw (.arrayClass .int) (jWr_3 _ (List.mem_of_getElem? (i := 20) rfl))) rfl rfl (fun _ h => h) hB101 1 rfl (by decide) (by decide) hbs (x := 1500) (by decide) (by omega) (fun j => by first | trivial | decide | rfl | exact Or.inl rfl | (refine ⟨?_, ?_⟩ <;> decide)) (by rw [hRc]; omega) (by rw [hRs]; omega) dX12_init_16 (fun H_9 hfr_9 hh_9 => ?_)
  have hh_9 : jSt (dC, dI) B base G0 (va_up G_1 H_7.size (some (101, 1500))) EX12_initE s.heap ((0 + 1) + 1) ((0 + 40) + 1500) [] [] [(jFz9, jDZ dC dI G_1)] H_9 locs_7 := hh_9
  have hZ_9 : jN14 G_1 (va_up G_1 H_7.size (some (101, 1500))) := jN14.new (by decide)
  have hN_9 : (jNk [0, 1, 2, 3, 4, 5, 6, 7, 8, 9, 10, 11, 12, 13, 15, 16]) G_1 (va_up G_1 H_7.size (some (101, 1500))) := jNk.new (by decide)
  have hgn_9 : (va_up G_1 H_7.size (some (101, 1500))) H_7.size = some (101, 1500) := jUp_self
  have hle_9 : jLe G_1 (va_up G_1 H_7.size (some (101, 1500))) := jLe.new hh_7.2.1.fresh
  have hke_9 : jKe G_1 (va_up G_1 H_7.size (some (101, 1500))) H_7 H_9 := jKe.new hfr_9
  have hsy_9 : s.heap.size ≤ H_7.size := hh_7.1.1
  generalize (va_up G_1 H_7.size (some (101, 1500))) = G_9 at hN_9 hgn_9 hle_9 hke_9 hh_9 hZ_9
  clear hh_7
  have hNn_9 : (jNk [0, 1, 2, 3, 4, 5, 6, 7, 8, 9, 10, 11, 12, 13, 15, 16]) G0 G_9 := (hNn_1).tr hN_9
  have hkp_10 := hkp_8.tr hke_9
  have hraw_11n := hke_9.nr hraw_7.lt hraw_3n
  have hraw_11 := hraw_7.kept (hke_9.1 _ hraw_7.lt)
  have hz14_9 : jN14 G0 G_9 := (hz14_1).tr hZ_9
  have hd_12 := jDZ.grow (hh_9.iv 0 rfl) hle_9 hZ_9
  have hh_13 := hh_9.sub (L1 := []) [] rfl (M1 := []) [] rfl (I1 := []) [] rfl
  clear hh_9
  have hh_14 := hh_13.addI (jDZ.ie hd_12)
  clear hh_13
  refine j7_putRF hx hb hown hK hh_14 hB hAp hraw_11 hraw_11n hbr0 (C := RX12) (T := TX12) (N := 11) rfl (i := 3) (by decide) (Nat.le_of_ble_eq_true rfl) hly_14_3 rfl hin2 rfl hlk_15 (ty := (.array .int)) (v := .ref H_7.size) (by decide +kernel) rfl rfl dX12_init_18 (fun H_15 locs_15 hraw_15 hr_15 hh_15 => ?_)
  have hraw_15 : va_at (dC, dI) vwCl (r0, .inr (14, [.ref s.heap.size, .int 0, .int 0, .ref H_7.size, .int 0, .int 0, .null, .null, .null, .int 0, .null])) H_15 := hraw_15
  have hkp_16 := hkp_10.put hr_15
  clear hh_14
  refine lv_aload_n hx hb dX12_init_21 rfl (lv_at hl 0 rfl) ?_
  refine lv_bipush (v := 40) hx hb dX12_init_22 (by decide) ?_
  have hsz_17 := hh_15.2.2.2.2.2.1
  have htt_17 := hh_15.2.2.2.2.2.2.1
  refine j7_newiK hx hb hK hh_15 hB (atype := .int) (ty := .int) (htw (.arrayClass .int) (jWr_3 _ (List.mem_of_getElem? (i := 20) rfl))) rfl rfl (fun _ h => h) hB190 1 rfl (by decide) (by decide) hbs (x := 40) (by decide) (by omega) (fun j => by first | trivial | decide | rfl | exact Or.inl rfl | (refine ⟨?_, ?_⟩ <;> decide)) (by rw [hRc]; omega) (by rw [hRs]; omega) dX12_init_24 (fun H_17 hfr_17 hh_17 => ?_)
  have hh_17 : jSt (dC, dI) B base G0 (va_up G_9 H_15.size (some (190, 40))) EX12_initE s.heap (((0 + 1) + 1) + 1) (((0 + 40) + 1500) + 40) [] [] [(jFz9, jDZ dC dI G_9)] H_17 locs_15 := hh_17
  have hZ_17 : jN14 G_9 (va_up G_9 H_15.size (some (190, 40))) := jN14.new (by decide)
  have hN_17 : (jNk [0, 1, 2, 3, 4, 5, 6, 7, 8, 9, 10, 11, 12, 13, 15, 16]) G_9 (va_up G_9 H_15.size (some (190, 40))) := jNk.new (by decide)
  have hgn_17 : (va_up G_9 H_15.size (some (190, 40))) H_15.size = some (190, 40) := jUp_self
  have hle_17 : jLe G_9 (va_up G_9 H_15.size (some (190, 40))) := jLe.new hh_15.2.1.fresh
  have hke_17 : jKe G_9 (va_up G_9 H_15.size (some (190, 40))) H_15 H_17 := jKe.new hfr_17
  have hsy_17 : s.heap.size ≤ H_15.size := hh_15.1.1
  generalize (va_up G_9 H_15.size (some (190, 40))) = G_17 at hN_17 hgn_17 hle_17 hke_17 hh_17 hZ_17
  clear hh_15
  have hNn_17 : (jNk [0, 1, 2, 3, 4, 5, 6, 7, 8, 9, 10, 11, 12, 13, 15, 16]) G0 G_17 := (hNn_9).tr hN_17
  have hkp_18 := hkp_16.tr hke_17
  have hraw_19n := hke_17.nr hraw_15.lt hraw_11n
  have hraw_19 := hraw_15.kept (hke_17.1 _ hraw_15.lt)
  have hz14_17 : jN14 G0 G_17 := (hz14_9).tr hZ_17
  have hd_20 := jDZ.grow (hh_17.iv 0 rfl) hle_17 hZ_17
  have hh_21 := hh_17.sub (L1 := []) [] rfl (M1 := []) [] rfl (I1 := []) [] rfl
  clear hh_17
  have hh_22 := hh_21.addI (jDZ.ie hd_20)
  clear hh_21
  refine j7_putRF hx hb hown hK hh_22 hB hAp hraw_19 hraw_19n hbr0 (C := RX12) (T := TX12) (N := 11) rfl (i := 6) (by decide) (Nat.le_of_ble_eq_true rfl) hly_14_6 rfl hin2 rfl hlk_18 (ty := (.array .int)) (v := .ref H_15.size) (by decide +kernel) rfl rfl dX12_init_26 (fun H_23 locs_23 hraw_23 hr_23 hh_23 => ?_)
  have hraw_23 : va_at (dC, dI) vwCl (r0, .inr (14, [.ref s.heap.size, .int 0, .int 0, .ref H_7.size, .int 0, .int 0, .ref H_15.size, .null, .null, .int 0, .null])) H_23 := hraw_23
  have hkp_24 := hkp_18.put hr_23
  clear hh_22
  refine lv_aload_n hx hb dX12_init_29 rfl (lv_at hl 0 rfl) ?_
  refine lv_bipush (v := 40) hx hb dX12_init_30 (by decide) ?_
  have hsz_25 := hh_23.2.2.2.2.2.1
  have htt_25 := hh_23.2.2.2.2.2.2.1
  refine j7_newiK hx hb hK hh_23 hB (atype := .int) (ty := .int) (htw (.arrayClass .int) (jWr_3 _ (List.mem_of_getElem? (i := 20) rfl))) rfl rfl (fun _ h => h) hB191 1 rfl (by decide) (by decide) hbs (x := 40) (by decide) (by omega) (fun j => by first | trivial | decide | rfl | exact Or.inl rfl | (refine ⟨?_, ?_⟩ <;> decide)) (by rw [hRc]; omega) (by rw [hRs]; omega) dX12_init_32 (fun H_25 hfr_25 hh_25 => ?_)
  have hh_25 : jSt (dC, dI) B base G0 (va_up G_17 H_23.size (some (191, 40))) EX12_initE s.heap ((((0 + 1) + 1) + 1) + 1) ((((0 + 40) + 1500) + 40) + 40) [] [] [(jFz9, jDZ dC dI G_17)] H_25 locs_23 := hh_25
  have hZ_25 : jN14 G_17 (va_up G_17 H_23.size (some (191, 40))) := jN14.new (by decide)
  have hN_25 : (jNk [0, 1, 2, 3, 4, 5, 6, 7, 8, 9, 10, 11, 12, 13, 15, 16]) G_17 (va_up G_17 H_23.size (some (191, 40))) := jNk.new (by decide)
  have hgn_25 : (va_up G_17 H_23.size (some (191, 40))) H_23.size = some (191, 40) := jUp_self
  have hle_25 : jLe G_17 (va_up G_17 H_23.size (some (191, 40))) := jLe.new hh_23.2.1.fresh
  have hke_25 : jKe G_17 (va_up G_17 H_23.size (some (191, 40))) H_23 H_25 := jKe.new hfr_25
  have hsy_25 : s.heap.size ≤ H_23.size := hh_23.1.1
  generalize (va_up G_17 H_23.size (some (191, 40))) = G_25 at hN_25 hgn_25 hle_25 hke_25 hh_25 hZ_25
  clear hh_23
  have hNn_25 : (jNk [0, 1, 2, 3, 4, 5, 6, 7, 8, 9, 10, 11, 12, 13, 15, 16]) G0 G_25 := (hNn_17).tr hN_25
  have hkp_26 := hkp_24.tr hke_25
  have hraw_27n := hke_25.nr hraw_23.lt hraw_19n
  have hraw_27 := hraw_23.kept (hke_25.1 _ hraw_23.lt)
  have hz14_25 : jN14 G0 G_25 := (hz14_17).tr hZ_25
  have hd_28 := jDZ.grow (hh_25.iv 0 rfl) hle_25 hZ_25
  have hh_29 := hh_25.sub (L1 := []) [] rfl (M1 := []) [] rfl (I1 := []) [] rfl
  clear hh_25
  have hh_30 := hh_29.addI (jDZ.ie hd_28)
  clear hh_29
  refine j7_putRF hx hb hown hK hh_30 hB hAp hraw_27 hraw_27n hbr0 (C := RX12) (T := TX12) (N := 11) rfl (i := 7) (by decide) (Nat.le_of_ble_eq_true rfl) hly_14_7 rfl hin2 rfl hlk_21 (ty := (.array .int)) (v := .ref H_23.size) (by decide +kernel) rfl rfl dX12_init_34 (fun H_31 locs_31 hraw_31 hr_31 hh_31 => ?_)
  have hraw_31 : va_at (dC, dI) vwCl (r0, .inr (14, [.ref s.heap.size, .int 0, .int 0, .ref H_7.size, .int 0, .int 0, .ref H_15.size, .ref H_23.size, .null, .int 0, .null])) H_31 := hraw_31
  have hkp_32 := hkp_26.put hr_31
  clear hh_30
  refine lv_aload_n hx hb dX12_init_37 rfl (lv_at hl 0 rfl) ?_
  refine lv_bipush (v := 40) hx hb dX12_init_38 (by decide) ?_
  have hsz_33 := hh_31.2.2.2.2.2.1
  have htt_33 := hh_31.2.2.2.2.2.2.1
  refine j7_newiK hx hb hK hh_31 hB (atype := .int) (ty := .int) (htw (.arrayClass .int) (jWr_3 _ (List.mem_of_getElem? (i := 20) rfl))) rfl rfl (fun _ h => h) hB192 1 rfl (by decide) (by decide) hbs (x := 40) (by decide) (by omega) (fun j => by first | trivial | decide | rfl | exact Or.inl rfl | (refine ⟨?_, ?_⟩ <;> decide)) (by rw [hRc]; omega) (by rw [hRs]; omega) dX12_init_40 (fun H_33 hfr_33 hh_33 => ?_)
  have hh_33 : jSt (dC, dI) B base G0 (va_up G_25 H_31.size (some (192, 40))) EX12_initE s.heap (((((0 + 1) + 1) + 1) + 1) + 1) (((((0 + 40) + 1500) + 40) + 40) + 40) [] [] [(jFz9, jDZ dC dI G_25)] H_33 locs_31 := hh_33
  have hZ_33 : jN14 G_25 (va_up G_25 H_31.size (some (192, 40))) := jN14.new (by decide)
  have hN_33 : (jNk [0, 1, 2, 3, 4, 5, 6, 7, 8, 9, 10, 11, 12, 13, 15, 16]) G_25 (va_up G_25 H_31.size (some (192, 40))) := jNk.new (by decide)
  have hgn_33 : (va_up G_25 H_31.size (some (192, 40))) H_31.size = some (192, 40) := jUp_self
  have hle_33 : jLe G_25 (va_up G_25 H_31.size (some (192, 40))) := jLe.new hh_31.2.1.fresh
  have hke_33 : jKe G_25 (va_up G_25 H_31.size (some (192, 40))) H_31 H_33 := jKe.new hfr_33
  have hsy_33 : s.heap.size ≤ H_31.size := hh_31.1.1
  generalize (va_up G_25 H_31.size (some (192, 40))) = G_33 at hN_33 hgn_33 hle_33 hke_33 hh_33 hZ_33
  clear hh_31
  have hNn_33 : (jNk [0, 1, 2, 3, 4, 5, 6, 7, 8, 9, 10, 11, 12, 13, 15, 16]) G0 G_33 := (hNn_25).tr hN_33
  have hkp_34 := hkp_32.tr hke_33
  have hraw_35n := hke_33.nr hraw_31.lt hraw_27n
  have hraw_35 := hraw_31.kept (hke_33.1 _ hraw_31.lt)
  have hz14_33 : jN14 G0 G_33 := (hz14_25).tr hZ_33
  have hd_36 := jDZ.grow (hh_33.iv 0 rfl) hle_33 hZ_33
  have hh_37 := hh_33.sub (L1 := []) [] rfl (M1 := []) [] rfl (I1 := []) [] rfl
  clear hh_33
  have hh_38 := hh_37.addI (jDZ.ie hd_36)
  clear hh_37
  refine j7_putRF hx hb hown hK hh_38 hB hAp hraw_35 hraw_35n hbr0 (C := RX12) (T := TX12) (N := 11) rfl (i := 8) (by decide) (Nat.le_of_ble_eq_true rfl) hly_14_8 rfl hin2 rfl hlk_24 (ty := (.array .int)) (v := .ref H_31.size) (by decide +kernel) rfl rfl dX12_init_42 (fun H_39 locs_39 hraw_39 hr_39 hh_39 => ?_)
  have hraw_39 : va_at (dC, dI) vwCl (r0, .inr (14, [.ref s.heap.size, .int 0, .int 0, .ref H_7.size, .int 0, .int 0, .ref H_15.size, .ref H_23.size, .ref H_31.size, .int 0, .null])) H_39 := hraw_39
  have hkp_40 := hkp_34.put hr_39
  clear hh_38
  refine lv_aload_n hx hb dX12_init_45 rfl (lv_at hl 0 rfl) ?_
  refine lv_bipush (v := 40) hx hb dX12_init_46 (by decide) ?_
  have hsz_41 := hh_39.2.2.2.2.2.1
  have htt_41 := hh_39.2.2.2.2.2.2.1
  refine j7_newiK hx hb hK hh_39 hB (atype := .int) (ty := .int) (htw (.arrayClass .int) (jWr_3 _ (List.mem_of_getElem? (i := 20) rfl))) rfl rfl (fun _ h => h) hB193 1 rfl (by decide) (by decide) hbs (x := 40) (by decide) (by omega) (fun j => by first | trivial | decide | rfl | exact Or.inl rfl | (refine ⟨?_, ?_⟩ <;> decide)) (by rw [hRc]; omega) (by rw [hRs]; omega) dX12_init_48 (fun H_41 hfr_41 hh_41 => ?_)
  have hh_41 : jSt (dC, dI) B base G0 (va_up G_33 H_39.size (some (193, 40))) EX12_initE s.heap ((((((0 + 1) + 1) + 1) + 1) + 1) + 1) ((((((0 + 40) + 1500) + 40) + 40) + 40) + 40) [] [] [(jFz9, jDZ dC dI G_33)] H_41 locs_39 := hh_41
  have hZ_41 : jN14 G_33 (va_up G_33 H_39.size (some (193, 40))) := jN14.new (by decide)
  have hN_41 : (jNk [0, 1, 2, 3, 4, 5, 6, 7, 8, 9, 10, 11, 12, 13, 15, 16]) G_33 (va_up G_33 H_39.size (some (193, 40))) := jNk.new (by decide)
  have hgn_41 : (va_up G_33 H_39.size (some (193, 40))) H_39.size = some (193, 40) := jUp_self
  have hle_41 : jLe G_33 (va_up G_33 H_39.size (some (193, 40))) := jLe.new hh_39.2.1.fresh
  have hke_41 : jKe G_33 (va_up G_33 H_39.size (some (193, 40))) H_39 H_41 := jKe.new hfr_41
  have hsy_41 : s.heap.size ≤ H_39.size := hh_39.1.1
  generalize (va_up G_33 H_39.size (some (193, 40))) = G_41 at hN_41 hgn_41 hle_41 hke_41 hh_41 hZ_41
  clear hh_39
  have hNn_41 : (jNk [0, 1, 2, 3, 4, 5, 6, 7, 8, 9, 10, 11, 12, 13, 15, 16]) G0 G_41 := (hNn_33).tr hN_41
  have hkp_42 := hkp_40.tr hke_41
  have hraw_43n := hke_41.nr hraw_39.lt hraw_35n
  have hraw_43 := hraw_39.kept (hke_41.1 _ hraw_39.lt)
  have hz14_41 : jN14 G0 G_41 := (hz14_33).tr hZ_41
  have hd_44 := jDZ.grow (hh_41.iv 0 rfl) hle_41 hZ_41
  have hh_45 := hh_41.sub (L1 := []) [] rfl (M1 := []) [] rfl (I1 := []) [] rfl
  clear hh_41
  have hh_46 := hh_45.addI (jDZ.ie hd_44)
  clear hh_45
  refine j7_putRF hx hb hown hK hh_46 hB hAp hraw_43 hraw_43n hbr0 (C := RX12) (T := TX12) (N := 11) rfl (i := 10) (by decide) (Nat.le_of_ble_eq_true rfl) hly_14_10 rfl hin2 rfl hlk_27 (ty := (.array .int)) (v := .ref H_39.size) (by decide +kernel) rfl rfl dX12_init_50 (fun H_47 locs_47 hraw_47 hr_47 hh_47 => ?_)
  have hraw_47 : va_at (dC, dI) vwCl (r0, .inr (14, [.ref s.heap.size, .int 0, .int 0, .ref H_7.size, .int 0, .int 0, .ref H_15.size, .ref H_23.size, .ref H_31.size, .int 0, .ref H_39.size])) H_47 := hraw_47
  have hkp_48 := hkp_42.put hr_47
  clear hh_46
  have hsz_49 := hh_47.2.2.2.2.2.1
  have htt_49 := hh_47.2.2.2.2.2.2.1
  refine W.room (fun hrc_49 hrs_49 => ?_)
  refine W.widen (k := LC - s.heap.size) (n := LS - jTot s.heap) (by omega) (by omega) ?_
  rw [hQ]
  have hg_50 := (((hle_25).tr hle_33).tr hle_41) _ _ hgn_17
  have hg_51 := ((hle_33).tr hle_41) _ _ hgn_25
  have hd_52 := jDZ.typ (hh_47.iv 0 rfl) hraw_43n (jf.raw (C := RX12) (T := TX12) (N := 11) rfl hraw_47 (i := 5) (by decide)) (jf.raw (C := RX12) (T := TX12) (N := 11) rfl hraw_47 (i := 9) (by decide)) (jf.raw (C := RX12) (T := TX12) (N := 11) rfl hraw_47 (i := 6) (by decide)) (jf.raw (C := RX12) (T := TX12) (N := 11) rfl hraw_47 (i := 7) (by decide)) hg_50 hg_51 (jDZ.fresh hE0 (fun a t ht => hab0 ht) hnr0 hz14_41 hkp_48 hsy_17 hsy_25)
  have hh_53 := hh_47.sub (L1 := []) [] rfl (M1 := []) [] rfl (I1 := []) [] rfl
  clear hh_47
  have hle_54 : jLe G_41 (va_up G_41 r0 (some (14, 0))) := jLe.typ hraw_43n
  have hg_55 := (((((hle_9).tr hle_17).tr hle_25).tr hle_33).tr hle_41).tr hle_54 _ _ hgn_1
  have hg_56 := ((((hle_17).tr hle_25).tr hle_33).tr hle_41).tr hle_54 _ _ hgn_9
  have hg_57 := (((hle_25).tr hle_33).tr hle_41).tr hle_54 _ _ hgn_17
  have hg_58 := ((hle_33).tr hle_41).tr hle_54 _ _ hgn_25
  have hg_59 := (hle_41).tr hle_54 _ _ hgn_33
  have hg_60 := (jLe.rf).tr hle_54 _ _ hgn_41
  have hfa_54 : jRf (va_up G_41 r0 (some (14, 0))) 101 40 (.ref s.heap.size) ∧ jI 0 40 (.int 0) ∧ jIa (.int 0) ∧ jRf (va_up G_41 r0 (some (14, 0))) 101 1500 (.ref H_7.size) ∧ jI 0 1500 (.int 0) ∧ jI 0 40 (.int 0) ∧ jRf (va_up G_41 r0 (some (14, 0))) 190 40 (.ref H_15.size) ∧ jRf (va_up G_41 r0 (some (14, 0))) 191 40 (.ref H_23.size) ∧ jRf (va_up G_41 r0 (some (14, 0))) 192 40 (.ref H_31.size) ∧ jI 0 40 (.int 0) ∧ jRf (va_up G_41 r0 (some (14, 0))) 193 40 (.ref H_39.size) ∧ True := ⟨⟨_, rfl, hg_55⟩, ⟨_, rfl, by omega, by omega⟩, ⟨_, rfl⟩, ⟨_, rfl, hg_56⟩, ⟨_, rfl, by omega, by omega⟩, ⟨_, rfl, by omega, by omega⟩, ⟨_, rfl, hg_57⟩, ⟨_, rfl, hg_58⟩, ⟨_, rfl, hg_59⟩, ⟨_, rfl, by omega, by omega⟩, ⟨_, rfl, hg_60⟩, trivial⟩
  have hh_54 := hh_53.typ (k := 14) (n := 0) hB hraw_43n hbr0 hraw_47.lt (jOb.of (C := RX12) (T := TX12) (N := 11) (F := F14) hB14 rfl hraw_47 (show jFx (F14 0 (va_up G_41 r0 (some (14, 0)))) [.ref s.heap.size, .int 0, .int 0, .ref H_7.size, .int 0, .int 0, .ref H_15.size, .ref H_23.size, .ref H_31.size, .int 0, .ref H_39.size] from hfa_54))
  have hgn_54 : (va_up G_41 r0 (some (14, 0))) r0 = some (14, 0) := jUp_self
  have hN_54 : (jNk [0, 1, 2, 3, 4, 5, 6, 7, 8, 9, 10, 11, 12, 13, 15, 16]) G_41 (va_up G_41 r0 (some (14, 0))) := jNk.new (by decide)
  have hNn_54 : (jNk [0, 1, 2, 3, 4, 5, 6, 7, 8, 9, 10, 11, 12, 13, 15, 16]) G0 (va_up G_41 r0 (some (14, 0))) := (hNn_41).tr hN_54
  have hkp_61 := hkp_48.typ (t := some (14, 0))
  have hh_62 := hh_54.addI (jDZ.ie hd_52)
  clear hh_54
  exact W.vret hx hb hr (fun t ht hW => ⟨⟨(va_up G_41 r0 (some (14, 0))), rfl, trivial, ⟨hh_62.ra (by first | (simp only; omega) | omega) (by first | (simp only; omega) | omega) (M1 := []) [] rfl ht, hNn_54, hgn_54, by rw [ht]; exact hkp_61, by rw [ht]; exact hh_62.2.2.2.2.2.2.2.2.sub (L1 := [(jFz9, jDZ dC dI (va_up G_41 r0 (some (14, 0))))]) [0] rfl⟩⟩, by rw [ht]; try exact hh_62.1.1, fun q h9 hq => by rw [ht]; try exact hh_62.1.2.1 q h9 hq⟩) hh_62.1.2.2 dX12_init_53
set_option maxHeartbeats 4000000 in
set_option maxRecDepth 20000 in
theorem uJ5_init_d00dfW (l : Launch) (dC : Nat → ClassId) (dI : Nat → Nat → Nat) (ca : Nat → ClassId) (base : Nat) (B : jF) (hB : jBok B) (hAp : jAp (dC, dI)) (hB0 : ∀ n G a H, B 0 n G a H ↔ jOb (dC, dI) 0 4 (Fz0 n G) a H) (hB196 : ∀ n G a H, B 196 n G a H ↔ jAr (dC, dI) (ca 0) (fun j z => jBf j z) n a H) (G0 : jT) (H0 : Heap) (r0 : Nat) (a1 : Int32) (LC LS : Nat) : Met l yJ5_init_d00df (jw yJ5_init_d00df cJ5_init_d00df 2 none) ({ frames := 1, cells := LC - H0.size, slots := LS - jTot H0, locals := 31 }) (va_Pc [.ref r0, .int a1] (fun U => U.heap = H0 ∧ jX B base G0 [] H0 ∧ jG dC dI ca base U ∧ va_at (dC, dI) vwCl (r0, .inr (0, [.null, .int 0, .int 0, .int 0])) H0 ∧ (∀ t, G0 r0 ≠ some t) ∧ base ≤ r0 ∧ jP (dC, dI) G0 H0 [] ∧ H0.size + 1 ≤ LC ∧ jTot H0 + a1.toInt.toNat ≤ LS ∧ 1 ≤ a1.toInt ∧ a1.toInt ≤ 400)) (va_Qv (S := Int32 × Nat × Nat × jT) (fun u => u.1.toInt = 0 ∧ u.2.2.1 = a1.toInt) (fun u t => jRa (dC, dI) B base G0 u.2.2.2 EJ5_init_d00dfW H0 (1) (a1.toInt.toNat) [(r0, 0, 3, .int u.1), (r0, 0, 0, .ref u.2.1)] t.heap ∧ u.2.2.2 u.2.1 = some (196, u.2.2.1) ∧ (jNk [1, 2, 3, 4, 5, 6, 7, 8, 9, 10, 11, 12, 13, 14, 15, 16]) G0 u.2.2.2 ∧ u.2.2.2 r0 = some (0, 0) ∧ jKx r0 G0 u.2.2.2 H0 t.heap) (jA base)) (LC - H0.size) (LS - jTot H0) (jA base) := by
  refine Met.ofW (cc := cJ5_init_d00df) (maxL := 2) (ret := none) (by decide) rfl ?_
  intro p e s m args below meth c s₁ Bd hml hv
  obtain ⟨rfl, hH0, hX, hG, hraw0, hnr0, hbr0, hP0, hLC0, hLS0, hp0, hp1⟩ := hv
  have hK := hG.1
  have hx := Bd.exec
  have hb := Bd.bytes
  have hr := Bd.returns
  have hts := atoms_spec (ws := (jw yJ5_init_d00df cJ5_init_d00df 2 none)) Bd.pre
  have htw : ∀ w ∈ jWl, w.before _ s = true := fun w h => hts w (List.mem_cons_of_mem _ h)
  have hown : s.vm.findClass RJ5 = some m.cls := findClass_of_methodNamed Bd.named
  have hlocks := Bd.notSynchronized
  obtain ⟨Q, hQ⟩ : ∃ Q, Q = MQ below (va_Qv (S := Int32 × Nat × Nat × jT) (fun u => u.1.toInt = 0 ∧ u.2.2.1 = a1.toInt) (fun u t => jRa (dC, dI) B base G0 u.2.2.2 EJ5_init_d00dfW H0 (1) (a1.toInt.toNat) [(r0, 0, 3, .int u.1), (r0, 0, 0, .ref u.2.1)] t.heap ∧ u.2.2.2 u.2.1 = some (196, u.2.2.1) ∧ (jNk [1, 2, 3, 4, 5, 6, 7, 8, 9, 10, 11, 12, 13, 14, 15, 16]) G0 u.2.2.2 ∧ u.2.2.2 r0 = some (0, 0) ∧ jKx r0 G0 u.2.2.2 H0 t.heap) (jA base)) ([.ref r0, .int a1] : List Value).toArray s (LC - H0.size) (LS - jTot H0) (jA base) := ⟨_, rfl⟩
  rw [← hQ]
  have hl := lv_entry ([.ref r0, .int a1]) (n := 2) (Nat.le_of_ble_eq_true rfl)
  rw [lg_entry_eq]
  generalize (lg_sl ([.ref r0, .int a1]) ++ List.replicate (2 - (lg_sl ([.ref r0, .int a1])).length) Slot.unset).toArray = ls at hl ⊢
  have hl : lv_has ls 2 [(0, .ref r0), (1, .int a1)] := hl
  generalize hR : (headSpec (jw yJ5_init_d00df cJ5_init_d00df 2 none) ({ frames := 1, cells := LC - H0.size, slots := LS - jTot H0, locals := 31 })).room = R
  subst hH0
  have hh : jSt (dC, dI) B base G0 G0 EJ5_init_d00dfW s.heap 0 0 [] [] [] s.heap [] := jSt.start hX hP0 jMc.nil jIs.nil
  clear hX hP0
  have hk0 : (0 : Int32).toInt = 0 := by decide
  have hk1 : (1 : Int32).toInt = 1 := by decide
  have hly_0_0 := htw (u_lay RJ4 TJ4 0) (jWc_wsJ40 _ (u_in_lay (by decide)))
  have hly_0_1 := htw (u_lay RJ4 TJ4 1) (jWc_wsJ40 _ (u_in_lay (by decide)))
  have hlk_15 := (htw (.fieldLink RJ5 15 "java/lang/AbstractStringBuilder" "value" "[B") (jWr_13 _ (List.mem_of_getElem? (i := 11) rfl)))
  have hlk_22 := (htw (.fieldLink RJ5 22 "java/lang/AbstractStringBuilder" "coder" "B") (jWr_13 _ (List.mem_of_getElem? (i := 12) rfl)))
  have hrg_a1 := jb_rng a1
  have hbs : base ≤ s.heap.size := Nat.le_of_lt (Nat.lt_of_le_of_lt hbr0 hraw0.lt)
  have hRc : R.cells = LC - s.heap.size := by rw [← hR]; rfl
  have hRs : R.slots = LS - jTot s.heap := by rw [← hR]; rfl
  have hin2 : meth.name = "<init>" := (name_of_methodNamed Bd.named Bd.method).1
  have hkp : jKx r0 G0 G0 s.heap s.heap := jKx.rf
  refine lv_aload_n hx hb dJ5_init_d00df_0 rfl (lv_at hl 0 rfl) ?_
  refine W.objInit hx hb hown (htw (.methodLink RJ5 3 objectInit) (jWr_13 _ (List.mem_of_getElem? (i := 9) rfl))) (htw (.instanceMethod objectInit) (jWr_1 _ (List.mem_of_getElem? (i := 10) rfl))) (htw (.code objectInit ⟨#[0xb1]⟩ 1 none) (jWr_1 _ (List.mem_of_getElem? (i := 11) rfl))) rfl (by rw [hml]; exact hl.1) rfl dJ5_init_d00df_1 (by rw [← hR]; exact Nat.le_of_ble_eq_true rfl) (by rw [← hR]; exact Nat.le_of_ble_eq_true rfl) ?_
  refine W.eq (g2 := F0 m 4 ls []) rfl ?_
  refine va_gets hx hb hG.2.2.2.2.1 hh.1 hown (htw (.fieldLink RJ5 18 "java/lang/String" "COMPACT_STRINGS" "Z") (jWr_13 _ (List.mem_of_getElem? (i := 10) rfl))) (fun _ h9 => h9) dJ5_init_d00df_4 ?_
  refine lv_if_eq (tgt := 25) hx hb dJ5_init_d00df_7 (by decide) (fun c_2 => ?_) (fun c_2 => ?_)
  · skip
    exact absurd c_2 (by decide)
  · skip
    refine lv_aload_n hx hb dJ5_init_d00df_10 rfl (lv_at hl 0 rfl) ?_
    refine lv_iload_n hx hb dJ5_init_d00df_11 rfl (lv_at hl 1 rfl) ?_
    have hsz_3 := hh.2.2.2.2.2.1
    have htt_3 := hh.2.2.2.2.2.2.1
    refine j7_newiK hx hb hK hh hB (atype := .byte) (ty := .byte) (htw (.arrayClass .byte) (jWr_3 _ (List.mem_of_getElem? (i := 9) rfl))) rfl rfl (fun _ h => h) hB196 0 rfl (by decide) (by decide) hbs (x := a1.toInt) rfl (by omega) (fun j => by first | trivial | decide | rfl | exact Or.inl rfl | (refine ⟨?_, ?_⟩ <;> decide)) (by rw [hRc]; omega) (by rw [hRs]; omega) dJ5_init_d00df_12 (fun H_3 hfr_3 hh_3 => ?_)
    have hh_3 : jSt (dC, dI) B base G0 (va_up G0 s.heap.size (some (196, (a1.toInt).toNat))) EJ5_init_d00dfW s.heap (0 + 1) (0 + (a1.toInt).toNat) [] [] [] H_3 [] := hh_3
    have hN_3 : (jNk [1, 2, 3, 4, 5, 6, 7, 8, 9, 10, 11, 12, 13, 14, 15, 16]) G0 (va_up G0 s.heap.size (some (196, (a1.toInt).toNat))) := jNk.new (by decide)
    have hgn_3 : (va_up G0 s.heap.size (some (196, (a1.toInt).toNat))) s.heap.size = some (196, (a1.toInt).toNat) := jUp_self
    have hle_3 : jLe G0 (va_up G0 s.heap.size (some (196, (a1.toInt).toNat))) := jLe.new hh.2.1.fresh
    have hke_3 : jKe G0 (va_up G0 s.heap.size (some (196, (a1.toInt).toNat))) s.heap H_3 := jKe.new hfr_3
    have hsy_3 : s.heap.size ≤ s.heap.size := hh.1.1
    generalize (va_up G0 s.heap.size (some (196, (a1.toInt).toNat))) = G_3 at hN_3 hgn_3 hle_3 hke_3 hh_3
    generalize hnc_3 : (a1.toInt).toNat = nc_3 at hgn_3 hh_3 ⊢
    clear hh
    have hNn_3 : (jNk [1, 2, 3, 4, 5, 6, 7, 8, 9, 10, 11, 12, 13, 14, 15, 16]) G0 G_3 := (jNk.rf).tr hN_3
    have hkp_4 := hkp.tr hke_3
    have hraw_5n := hke_3.nr hraw0.lt hnr0
    have hraw_5 := hraw0.kept (hke_3.1 _ hraw0.lt)
    refine j7_putR hx hb hown hK hh_3 hB hAp hraw_5 hraw_5n hbr0 (C := RJ4) (T := TJ4) (N := 4) rfl (i := 0) (by decide) (Nat.le_of_ble_eq_true rfl) hly_0_0 rfl hlk_15 (ty := (.array .byte)) (v := .ref s.heap.size) (by decide +kernel) rfl rfl dJ5_init_d00df_14 (fun H_6 locs_6 hraw_6 hr_6 hh_6 => ?_)
    have hraw_6 : va_at (dC, dI) vwCl (r0, .inr (0, [.ref s.heap.size, .int 0, .int 0, .int 0])) H_6 := hraw_6
    have hkp_7 := hkp_4.put hr_6
    clear hh_3
    refine lv_aload_n hx hb dJ5_init_d00df_17 rfl (lv_at hl 0 rfl) ?_
    refine lv_iconst (v := 0) hx hb dJ5_init_d00df_18 (by decide) ?_
    refine j7_putR hx hb hown hK hh_6 hB hAp hraw_6 hraw_5n hbr0 (C := RJ4) (T := TJ4) (N := 4) rfl (i := 1) (by decide) (Nat.le_of_ble_eq_true rfl) hly_0_1 rfl hlk_22 (ty := .byte) (v := .int 0) (by decide +kernel) rfl rfl dJ5_init_d00df_19 (fun H_8 locs_8 hraw_8 hr_8 hh_8 => ?_)
    have hraw_8 : va_at (dC, dI) vwCl (r0, .inr (0, [.ref s.heap.size, .int 0, .int 0, .int 0])) H_8 := hraw_8
    have hkp_9 := hkp_7.put hr_8
    clear hh_6
    refine lv_goto (tgt := 38) hx hb dJ5_init_d00df_22 (by decide) ?_
    have hsz_10 := hh_8.2.2.2.2.2.1
    have htt_10 := hh_8.2.2.2.2.2.2.1
    refine W.room (fun hrc_10 hrs_10 => ?_)
    refine W.widen (k := LC - s.heap.size) (n := LS - jTot s.heap) (by omega) (by omega) ?_
    rw [hQ]
    have hle_11 : jLe G_3 (va_up G_3 r0 (some (0, 0))) := jLe.typ hraw_5n
    have hg_12 := (jLe.rf).tr hle_11 _ _ hgn_3
    have hfa_11 : jRk (va_up G_3 r0 (some (0, 0))) 196 1000 (.ref s.heap.size) ∧ jI 0 0 (.int 0) ∧ jZb (.int 0) ∧ jI 0 1000 (.int 0) ∧ True := ⟨⟨_, _, rfl, hg_12, by omega⟩, ⟨_, rfl, by omega, by omega⟩, ⟨_, rfl, Or.inl rfl⟩, ⟨_, rfl, by omega, by omega⟩, trivial⟩
    have hh_11 := hh_8.typ (k := 0) (n := 0) hB hraw_5n hbr0 hraw_8.lt (jOb.of (C := RJ4) (T := TJ4) (N := 4) (F := Fz0) hB0 rfl hraw_8 (show jFx (Fz0 0 (va_up G_3 r0 (some (0, 0)))) [.ref s.heap.size, .int 0, .int 0, .int 0] from hfa_11))
    have hgn_11 : (va_up G_3 r0 (some (0, 0))) r0 = some (0, 0) := jUp_self
    have hN_11 : (jNk [1, 2, 3, 4, 5, 6, 7, 8, 9, 10, 11, 12, 13, 14, 15, 16]) G_3 (va_up G_3 r0 (some (0, 0))) := jNk.new (by decide)
    have hNn_11 : (jNk [1, 2, 3, 4, 5, 6, 7, 8, 9, 10, 11, 12, 13, 14, 15, 16]) G0 (va_up G_3 r0 (some (0, 0))) := (hNn_3).tr hN_11
    have hkp_13 := hkp_9.typ (t := some (0, 0))
    have hg_14 := (hle_11) _ _ hgn_3
    have hh_15 := hh_11.more (P1 := [(r0, 0, 3, .int 0), (r0, 0, 0, .ref s.heap.size)]) (jP.cons hgn_11 (jf.raw (C := RJ4) (T := TJ4) (N := 4) rfl hraw_8 (i := 3) (by decide)) (jP.cons hgn_11 (jf.raw (C := RJ4) (T := TJ4) (N := 4) rfl hraw_8 (i := 0) (by decide)) jP.nil))
    exact W.vret hx hb hr (fun t ht hW => ⟨⟨(0, s.heap.size, nc_3, (va_up G_3 r0 (some (0, 0)))), rfl, by (try dsimp only); exact ⟨(by first | omega | rfl | assumption | fail), (by first | omega | rfl | assumption | fail)⟩, ⟨hh_15.ra (by first | (simp only; omega) | omega) (by first | (simp only; omega) | omega) (M1 := [(r0, 0, 3, .int 0), (r0, 0, 0, .ref s.heap.size)]) [0, 1] rfl ht, hg_14, hNn_11, hgn_11, by rw [ht]; exact hkp_13⟩⟩, by rw [ht]; try exact hh_15.1.1, fun q h9 hq => by rw [ht]; try exact hh_15.1.2.1 q h9 hq⟩) hh_15.1.2.2 dJ5_init_d00df_38
set_option maxHeartbeats 4000000 in
set_option maxRecDepth 20000 in
theorem uJ4_init_da8c8W (l : Launch) (dC : Nat → ClassId) (dI : Nat → Nat → Nat) (ca : Nat → ClassId) (base : Nat) (B : jF) (hB : jBok B) (hAp : jAp (dC, dI)) (hB0 : ∀ n G a H, B 0 n G a H ↔ jOb (dC, dI) 0 4 (Fz0 n G) a H) (hB196 : ∀ n G a H, B 196 n G a H ↔ jAr (dC, dI) (ca 0) (fun j z => jBf j z) n a H) (G0 : jT) (H0 : Heap) (r0 : Nat) (LC LS : Nat) : Met l yJ4_init_da8c8 (jw yJ4_init_da8c8 cJ4_init_da8c8 1 none) ({ frames := 2, cells := LC - H0.size, slots := LS - jTot H0, locals := 52 }) (va_Pc [.ref r0] (fun U => U.heap = H0 ∧ jX B base G0 [] H0 ∧ jG dC dI ca base U ∧ va_at (dC, dI) vwCl (r0, .inr (0, [.null, .int 0, .int 0, .int 0])) H0 ∧ (∀ t, G0 r0 ≠ some t) ∧ base ≤ r0 ∧ jP (dC, dI) G0 H0 [] ∧ H0.size + 1 ≤ LC ∧ jTot H0 + 16 ≤ LS ∧ True)) (va_Qv (S := Int32 × Nat × Nat × jT) (fun u => u.1.toInt = 0 ∧ u.2.2.1 = 16) (fun u t => jRa (dC, dI) B base G0 u.2.2.2 EJ4_init_da8c8W H0 (1) (16) [(r0, 0, 3, .int u.1), (r0, 0, 0, .ref u.2.1)] t.heap ∧ u.2.2.2 u.2.1 = some (196, u.2.2.1) ∧ (jNk [1, 2, 3, 4, 5, 6, 7, 8, 9, 10, 11, 12, 13, 14, 15, 16]) G0 u.2.2.2 ∧ u.2.2.2 r0 = some (0, 0) ∧ jKx r0 G0 u.2.2.2 H0 t.heap) (jA base)) (LC - H0.size) (LS - jTot H0) (jA base) := by
  refine Met.ofW (cc := cJ4_init_da8c8) (maxL := 1) (ret := none) (by decide) rfl ?_
  intro p e s m args below meth c s₁ Bd hml hv
  obtain ⟨rfl, hH0, hX, hG, hraw0, hnr0, hbr0, hP0, hLC0, hLS0, hp0⟩ := hv
  have hK := hG.1
  have hx := Bd.exec
  have hb := Bd.bytes
  have hr := Bd.returns
  have hts := atoms_spec (ws := (jw yJ4_init_da8c8 cJ4_init_da8c8 1 none)) Bd.pre
  have htw : ∀ w ∈ jWl, w.before _ s = true := fun w h => hts w (List.mem_cons_of_mem _ h)
  have hown : s.vm.findClass RJ4 = some m.cls := findClass_of_methodNamed Bd.named
  have hlocks := Bd.notSynchronized
  obtain ⟨Q, hQ⟩ : ∃ Q, Q = MQ below (va_Qv (S := Int32 × Nat × Nat × jT) (fun u => u.1.toInt = 0 ∧ u.2.2.1 = 16) (fun u t => jRa (dC, dI) B base G0 u.2.2.2 EJ4_init_da8c8W H0 (1) (16) [(r0, 0, 3, .int u.1), (r0, 0, 0, .ref u.2.1)] t.heap ∧ u.2.2.2 u.2.1 = some (196, u.2.2.1) ∧ (jNk [1, 2, 3, 4, 5, 6, 7, 8, 9, 10, 11, 12, 13, 14, 15, 16]) G0 u.2.2.2 ∧ u.2.2.2 r0 = some (0, 0) ∧ jKx r0 G0 u.2.2.2 H0 t.heap) (jA base)) ([.ref r0] : List Value).toArray s (LC - H0.size) (LS - jTot H0) (jA base) := ⟨_, rfl⟩
  rw [← hQ]
  have hl := lv_entry ([.ref r0]) (n := 1) (Nat.le_of_ble_eq_true rfl)
  rw [lg_entry_eq]
  generalize (lg_sl ([.ref r0]) ++ List.replicate (1 - (lg_sl ([.ref r0])).length) Slot.unset).toArray = ls at hl ⊢
  have hl : lv_has ls 1 [(0, .ref r0)] := hl
  generalize hR : (headSpec (jw yJ4_init_da8c8 cJ4_init_da8c8 1 none) ({ frames := 2, cells := LC - H0.size, slots := LS - jTot H0, locals := 52 })).room = R
  subst hH0
  have hh : jSt (dC, dI) B base G0 G0 EJ4_init_da8c8W s.heap 0 0 [] [] [] s.heap [] := jSt.start hX hP0 jMc.nil jIs.nil
  clear hX hP0
  have hk0 : (0 : Int32).toInt = 0 := by decide
  have hk1 : (1 : Int32).toInt = 1 := by decide
  have hk16 : (16 : Int32).toInt = 16 := by decide
  have hbs : base ≤ s.heap.size := Nat.le_of_lt (Nat.lt_of_le_of_lt hbr0 hraw0.lt)
  have hRc : R.cells = LC - s.heap.size := by rw [← hR]; rfl
  have hRs : R.slots = LS - jTot s.heap := by rw [← hR]; rfl
  have hin2 : meth.name = "<init>" := (name_of_methodNamed Bd.named Bd.method).1
  have hkp : jKx r0 G0 G0 s.heap s.heap := jKx.rf
  refine lv_aload_n hx hb dJ4_init_da8c8_0 rfl (lv_at hl 0 rfl) ?_
  refine lv_bipush (v := 16) hx hb dJ4_init_da8c8_1 (by decide) ?_
  have hsz_1 := hh.2.2.2.2.2.1
  have htt_1 := hh.2.2.2.2.2.2.1
  refine W.room (fun hrc_1 hrs_1 => ?_)
  refine va_callv (A0 := jA base) (H0 := s.heap) (va_runI (As := [.int 16]) (rest := []) ⟨hx, hb, hml, hown, hts⟩ (uJ5_init_d00dfW l dC dI ca base B hB hAp hB0 hB196 G0 s.heap r0 16 LC LS) (cwI 1 hts (jgW (jWr_13 _ (List.mem_of_getElem? (i := 8) rfl))) rfl rfl rfl (htw (.initialized RJ5) (jWr_13 _ (List.mem_of_getElem? (i := 7) rfl))) (htw (.methodLink RJ4 1 yJ5_init_d00df) (jWr_13 _ (List.mem_of_getElem? (i := 5) rfl))) (htw (.instanceMethod yJ5_init_d00df) (jWr_13 _ (List.mem_of_getElem? (i := 6) rfl))) rfl (by decide +kernel) ⟨by rw [← hR]; exact Nat.le_of_ble_eq_true rfl, by rw [← hR]; exact Nat.le_of_ble_eq_true rfl⟩) ⟨fun a U g mk q => by obtain ⟨q0, q1, q2, qK, q10, q11, q12, q13, q14⟩ := q; exact ⟨q0, q1, q2, jG.calling g mk a qK, q10, q11, q12, q13, q14⟩, fun U hU hW => ⟨rfl, hU, hh.2.1, hG.step hW hU hh.1, hraw0, hnr0, hbr0, jP.nil, (by omega), (by omega), by first | omega | (refine ⟨?_, ?_⟩ <;> (first | omega | rfl | assumption | decide | exact Or.inl rfl | exact Or.inr rfl | (simp only; omega)))⟩⟩ rfl rfl hl.1 rfl (lv_room (Nat.le_of_ble_eq_true rfl)) dJ4_init_da8c8_3 ⟨by rw [hRc]; omega, by rw [hRs]; omega⟩) hh.1 (fun q _ h => h) (fun q h => h) (fun u_1 t_1 H_1 locs_1 ht_1 hvm_1 hr_2 hb_1 hz_1 hk_1 hS_1 => ?_)
  obtain ⟨qc_1, xa_1, m_xa_1, G_1⟩ := u_1
  rw [ht_1] at hb_1
  simp only at hb_1
  obtain ⟨⟨hb_11, hb_12, hb_13, hb_14, hb_15, hb_16⟩, hgq_1_0, hN_1, hgc_1, hbX_1⟩ := hb_1
  have hh_1 : jSt (dC, dI) B base G0 G_1 EJ4_init_da8c8W s.heap (0 + (1)) (0 + ((16 : Int).toNat)) [(r0, 0, 3, .int qc_1), (r0, 0, 0, .ref xa_1)] [] [] H_1 locs_1 := (hh.callG hb_11 hb_12 hb_13 hb_14 hb_15 hS_1 rfl (L1 := []) [] rfl rfl (M1 := []) [] rfl rfl (I1 := []) [] rfl rfl).more hb_16
  have hNn_1 : (jNk [1, 2, 3, 4, 5, 6, 7, 8, 9, 10, 11, 12, 13, 14, 15, 16]) G0 G_1 := (jNk.rf).tr hN_1
  try simp only at hr_2
  obtain ⟨hr_2_0, hr_2_1⟩ := hr_2
  have hkp_3 := hkp.self hbX_1
  have hsz_4 := hh_1.2.2.2.2.2.1
  have htt_4 := hh_1.2.2.2.2.2.2.1
  refine W.room (fun hrc_4 hrs_4 => ?_)
  refine W.widen (k := LC - s.heap.size) (n := LS - jTot s.heap) (by omega) (by omega) ?_
  rw [hQ]
  exact W.vret hx hb hr (fun t ht hW => ⟨⟨(qc_1, xa_1, m_xa_1, G_1), rfl, by (try dsimp only); exact ⟨(by first | omega | rfl | assumption | fail), (by first | omega | rfl | assumption | fail)⟩, ⟨hh_1.ra (by first | (simp only; omega) | omega) (by first | (simp only; omega) | omega) (M1 := [(r0, 0, 3, .int qc_1), (r0, 0, 0, .ref xa_1)]) [0, 1] rfl ht, hgq_1_0, hNn_1, hgc_1, by rw [ht]; exact hkp_3⟩⟩, by rw [ht]; try exact hh_1.1.1, fun q h9 hq => by rw [ht]; try exact hh_1.1.2.1 q h9 hq⟩) hh_1.1.2.2 dJ4_init_da8c8_6
end
