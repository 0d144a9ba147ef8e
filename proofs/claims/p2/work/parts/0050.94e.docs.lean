section
theorem dX14_batch_0 : decode cX14_batch 0 = .ok (.iload_n 1, 1) := by decide +kernel
theorem dX14_batch_1 : decode cX14_batch 1 = .ok (.ifCond .lt 11, 3) := by decide +kernel
theorem dX14_batch_4 : decode cX14_batch 4 = .ok (.iload_n 1, 1) := by decide +kernel
theorem dX14_batch_5 : decode cX14_batch 5 = .ok (.aload_n 0, 1) := by decide +kernel
theorem dX14_batch_6 : decode cX14_batch 6 = .ok (.getfield 217, 3) := by decide +kernel
theorem dX14_batch_9 : decode cX14_batch 9 = .ok (.if_icmp .le 5, 3) := by decide +kernel
theorem dX14_batch_12 : decode cX14_batch 12 = .ok (.iconst (-1), 1) := by decide +kernel
theorem dX14_batch_13 : decode cX14_batch 13 = .ok (.ireturn, 1) := by decide +kernel
theorem dX14_batch_14 : decode cX14_batch 14 = .ok (.aload_n 0, 1) := by decide +kernel
theorem dX14_batch_15 : decode cX14_batch 15 = .ok (.iconst 0, 1) := by decide +kernel
theorem dX14_batch_16 : decode cX14_batch 16 = .ok (.putfield 217, 3) := by decide +kernel
theorem dX14_batch_19 : decode cX14_batch 19 = .ok (.iconst 0, 1) := by decide +kernel
theorem dX14_batch_20 : decode cX14_batch 20 = .ok (.istore_n 2, 1) := by decide +kernel
theorem dX14_batch_21 : decode cX14_batch 21 = .ok (.iconst 0, 1) := by decide +kernel
theorem dX14_batch_22 : decode cX14_batch 22 = .ok (.istore_n 3, 1) := by decide +kernel
theorem dX14_batch_23 : decode cX14_batch 23 = .ok (.iload_n 3, 1) := by decide +kernel
theorem dX14_batch_24 : decode cX14_batch 24 = .ok (.iload_n 1, 1) := by decide +kernel
theorem dX14_batch_25 : decode cX14_batch 25 = .ok (.if_icmp .ge 115, 3) := by decide +kernel
theorem dX14_batch_28 : decode cX14_batch 28 = .ok (.aload_n 0, 1) := by decide +kernel
theorem dX14_batch_29 : decode cX14_batch 29 = .ok (.aload_n 0, 1) := by decide +kernel
theorem dX14_batch_30 : decode cX14_batch 30 = .ok (.getfield 9, 3) := by decide +kernel
theorem dX14_batch_33 : decode cX14_batch 33 = .ok (.iload_n 3, 1) := by decide +kernel
theorem dX14_batch_34 : decode cX14_batch 34 = .ok (.iload_n 1, 1) := by decide +kernel
theorem dX14_batch_35 : decode cX14_batch 35 = .ok (.invokevirtual 353, 3) := by decide +kernel
theorem dX14_batch_38 : decode cX14_batch 38 = .ok (.istore 4, 2) := by decide +kernel
theorem dX14_batch_40 : decode cX14_batch 40 = .ok (.iload 4, 2) := by decide +kernel
theorem dX14_batch_42 : decode cX14_batch 42 = .ok (.ifCond .ne 8, 3) := by decide +kernel
theorem dX14_batch_45 : decode cX14_batch 45 = .ok (.ldc 201, 2) := by decide +kernel
theorem dX14_batch_47 : decode cX14_batch 47 = .ok (.goto 7, 3) := by decide +kernel
theorem dX14_batch_50 : decode cX14_batch 50 = .ok (.aload_n 0, 1) := by decide +kernel
theorem dX14_batch_51 : decode cX14_batch 51 = .ok (.getfield 357, 3) := by decide +kernel
theorem dX14_batch_54 : decode cX14_batch 54 = .ok (.istore 5, 2) := by decide +kernel
theorem dX14_batch_56 : decode cX14_batch 56 = .ok (.iload_n 3, 1) := by decide +kernel
theorem dX14_batch_57 : decode cX14_batch 57 = .ok (.iload 4, 2) := by decide +kernel
theorem dX14_batch_59 : decode cX14_batch 59 = .ok (.ifCond .ne 7, 3) := by decide +kernel
theorem dX14_batch_62 : decode cX14_batch 62 = .ok (.iconst 1, 1) := by decide +kernel
theorem dX14_batch_63 : decode cX14_batch 63 = .ok (.goto 5, 3) := by decide +kernel
theorem dX14_batch_66 : decode cX14_batch 66 = .ok (.iload 4, 2) := by decide +kernel
theorem dX14_batch_68 : decode cX14_batch 68 = .ok (.iadd, 1) := by decide +kernel
theorem dX14_batch_69 : decode cX14_batch 69 = .ok (.istore_n 3, 1) := by decide +kernel
theorem dX14_batch_70 : decode cX14_batch 70 = .ok (.iload_n 2, 1) := by decide +kernel
theorem dX14_batch_71 : decode cX14_batch 71 = .ok (.iconst 2, 1) := by decide +kernel
theorem dX14_batch_72 : decode cX14_batch 72 = .ok (.iadd, 1) := by decide +kernel
theorem dX14_batch_73 : decode cX14_batch 73 = .ok (.aload_n 0, 1) := by decide +kernel
theorem dX14_batch_74 : decode cX14_batch 74 = .ok (.getfield 78, 3) := by decide +kernel
theorem dX14_batch_77 : decode cX14_batch 77 = .ok (.arraylength, 1) := by decide +kernel
theorem dX14_batch_78 : decode cX14_batch 78 = .ok (.if_icmp .le 6, 3) := by decide +kernel
theorem dX14_batch_81 : decode cX14_batch 81 = .ok (.goto 59, 3) := by decide +kernel
theorem dX14_batch_84 : decode cX14_batch 84 = .ok (.iload 5, 2) := by decide +kernel
theorem dX14_batch_86 : decode cX14_batch 86 = .ok (.ldc_w 333, 3) := by decide +kernel
theorem dX14_batch_89 : decode cX14_batch 89 = .ok (.if_icmp .le 37, 3) := by decide +kernel
theorem dX14_batch_92 : decode cX14_batch 92 = .ok (.aload_n 0, 1) := by decide +kernel
theorem dX14_batch_93 : decode cX14_batch 93 = .ok (.getfield 78, 3) := by decide +kernel
theorem dX14_batch_96 : decode cX14_batch 96 = .ok (.iload_n 2, 1) := by decide +kernel
theorem dX14_batch_97 : decode cX14_batch 97 = .ok (.ldc 179, 2) := by decide +kernel
theorem dX14_batch_99 : decode cX14_batch 99 = .ok (.iload 5, 2) := by decide +kernel
theorem dX14_batch_101 : decode cX14_batch 101 = .ok (.ldc 197, 2) := by decide +kernel
theorem dX14_batch_103 : decode cX14_batch 103 = .ok (.isub, 1) := by decide +kernel
theorem dX14_batch_104 : decode cX14_batch 104 = .ok (.bipush 10, 2) := by decide +kernel
theorem dX14_batch_106 : decode cX14_batch 106 = .ok (.ishr, 1) := by decide +kernel
theorem dX14_batch_107 : decode cX14_batch 107 = .ok (.iadd, 1) := by decide +kernel
theorem dX14_batch_108 : decode cX14_batch 108 = .ok (.iastore, 1) := by decide +kernel
theorem dX14_batch_109 : decode cX14_batch 109 = .ok (.iinc 2 1, 3) := by decide +kernel
theorem dX14_batch_112 : decode cX14_batch 112 = .ok (.ldc 185, 2) := by decide +kernel
theorem dX14_batch_114 : decode cX14_batch 114 = .ok (.iload 5, 2) := by decide +kernel
theorem dX14_batch_116 : decode cX14_batch 116 = .ok (.ldc 197, 2) := by decide +kernel
theorem dX14_batch_118 : decode cX14_batch 118 = .ok (.isub, 1) := by decide +kernel
theorem dX14_batch_119 : decode cX14_batch 119 = .ok (.sipush 1023, 3) := by decide +kernel
theorem dX14_batch_122 : decode cX14_batch 122 = .ok (.iand, 1) := by decide +kernel
theorem dX14_batch_123 : decode cX14_batch 123 = .ok (.iadd, 1) := by decide +kernel
theorem dX14_batch_124 : decode cX14_batch 124 = .ok (.istore 5, 2) := by decide +kernel
theorem dX14_batch_126 : decode cX14_batch 126 = .ok (.aload_n 0, 1) := by decide +kernel
theorem dX14_batch_127 : decode cX14_batch 127 = .ok (.getfield 78, 3) := by decide +kernel
theorem dX14_batch_130 : decode cX14_batch 130 = .ok (.iload_n 2, 1) := by decide +kernel
theorem dX14_batch_131 : decode cX14_batch 131 = .ok (.iload 5, 2) := by decide +kernel
theorem dX14_batch_133 : decode cX14_batch 133 = .ok (.iastore, 1) := by decide +kernel
theorem dX14_batch_134 : decode cX14_batch 134 = .ok (.iinc 2 1, 3) := by decide +kernel
theorem dX14_batch_137 : decode cX14_batch 137 = .ok (.goto (-114), 3) := by decide +kernel
theorem dX14_batch_140 : decode cX14_batch 140 = .ok (.iload_n 2, 1) := by decide +kernel
theorem dX14_batch_141 : decode cX14_batch 141 = .ok (.sipush 1500, 3) := by decide +kernel
theorem dX14_batch_144 : decode cX14_batch 144 = .ok (.if_icmp .le 6, 3) := by decide +kernel
theorem dX14_batch_147 : decode cX14_batch 147 = .ok (.bipush (-2), 2) := by decide +kernel
theorem dX14_batch_149 : decode cX14_batch 149 = .ok (.ireturn, 1) := by decide +kernel
theorem dX14_batch_150 : decode cX14_batch 150 = .ok (.aload_n 0, 1) := by decide +kernel
theorem dX14_batch_151 : decode cX14_batch 151 = .ok (.getfield 151, 3) := by decide +kernel
theorem dX14_batch_154 : decode cX14_batch 154 = .ok (.iload_n 2, 1) := by decide +kernel
theorem dX14_batch_155 : decode cX14_batch 155 = .ok (.putfield 526, 3) := by decide +kernel
theorem dX14_batch_158 : decode cX14_batch 158 = .ok (.iconst 0, 1) := by decide +kernel
theorem dX14_batch_159 : decode cX14_batch 159 = .ok (.istore 4, 2) := by decide +kernel
theorem dX14_batch_161 : decode cX14_batch 161 = .ok (.iload 4, 2) := by decide +kernel
theorem dX14_batch_163 : decode cX14_batch 163 = .ok (.iload_n 2, 1) := by decide +kernel
theorem dX14_batch_164 : decode cX14_batch 164 = .ok (.if_icmp .ge 26, 3) := by decide +kernel
theorem dX14_batch_167 : decode cX14_batch 167 = .ok (.aload_n 0, 1) := by decide +kernel
theorem dX14_batch_168 : decode cX14_batch 168 = .ok (.getfield 151, 3) := by decide +kernel
theorem dX14_batch_171 : decode cX14_batch 171 = .ok (.getfield 529, 3) := by decide +kernel
theorem dX14_batch_174 : decode cX14_batch 174 = .ok (.iload 4, 2) := by decide +kernel
theorem dX14_batch_176 : decode cX14_batch 176 = .ok (.aload_n 0, 1) := by decide +kernel
theorem dX14_batch_177 : decode cX14_batch 177 = .ok (.getfield 78, 3) := by decide +kernel
theorem dX14_batch_180 : decode cX14_batch 180 = .ok (.iload 4, 2) := by decide +kernel
theorem dX14_batch_182 : decode cX14_batch 182 = .ok (.iaload, 1) := by decide +kernel
theorem dX14_batch_183 : decode cX14_batch 183 = .ok (.iastore, 1) := by decide +kernel
theorem dX14_batch_184 : decode cX14_batch 184 = .ok (.iinc 4 1, 3) := by decide +kernel
theorem dX14_batch_187 : decode cX14_batch 187 = .ok (.goto (-26), 3) := by decide +kernel
theorem dX14_batch_190 : decode cX14_batch 190 = .ok (.aload_n 0, 1) := by decide +kernel
theorem dX14_batch_191 : decode cX14_batch 191 = .ok (.getfield 151, 3) := by decide +kernel
theorem dX14_batch_194 : decode cX14_batch 194 = .ok (.invokestatic 534, 3) := by decide +kernel
theorem dX14_batch_197 : decode cX14_batch 197 = .ok (.aload_n 0, 1) := by decide +kernel
theorem dX14_batch_198 : decode cX14_batch 198 = .ok (.getfield 122, 3) := by decide +kernel
theorem dX14_batch_201 : decode cX14_batch 201 = .ok (.invokevirtual 627, 3) := by decide +kernel
theorem dX14_batch_204 : decode cX14_batch 204 = .ok (.iconst 0, 1) := by decide +kernel
theorem dX14_batch_205 : decode cX14_batch 205 = .ok (.istore 4, 2) := by decide +kernel
theorem dX14_batch_207 : decode cX14_batch 207 = .ok (.iload 4, 2) := by decide +kernel
theorem dX14_batch_209 : decode cX14_batch 209 = .ok (.aload_n 0, 1) := by decide +kernel
theorem dX14_batch_210 : decode cX14_batch 210 = .ok (.getfield 151, 3) := by decide +kernel
theorem dX14_batch_213 : decode cX14_batch 213 = .ok (.getfield 587, 3) := by decide +kernel
theorem dX14_batch_216 : decode cX14_batch 216 = .ok (.if_icmp .ge 105, 3) := by decide +kernel
theorem dX14_batch_219 : decode cX14_batch 219 = .ok (.aload_n 0, 1) := by decide +kernel
theorem dX14_batch_220 : decode cX14_batch 220 = .ok (.getfield 151, 3) := by decide +kernel
theorem dX14_batch_223 : decode cX14_batch 223 = .ok (.getfield 751, 3) := by decide +kernel
theorem dX14_batch_226 : decode cX14_batch 226 = .ok (.iload 4, 2) := by decide +kernel
theorem dX14_batch_228 : decode cX14_batch 228 = .ok (.aload_n 0, 1) := by decide +kernel
theorem dX14_batch_229 : decode cX14_batch 229 = .ok (.getfield 122, 3) := by decide +kernel
theorem dX14_batch_232 : decode cX14_batch 232 = .ok (.aload_n 0, 1) := by decide +kernel
theorem dX14_batch_233 : decode cX14_batch 233 = .ok (.getfield 151, 3) := by decide +kernel
theorem dX14_batch_236 : decode cX14_batch 236 = .ok (.getfield 529, 3) := by decide +kernel
theorem dX14_batch_239 : decode cX14_batch 239 = .ok (.aload_n 0, 1) := by decide +kernel
theorem dX14_batch_240 : decode cX14_batch 240 = .ok (.getfield 151, 3) := by decide +kernel
theorem dX14_batch_243 : decode cX14_batch 243 = .ok (.getfield 596, 3) := by decide +kernel
theorem dX14_batch_246 : decode cX14_batch 246 = .ok (.iload 4, 2) := by decide +kernel
theorem dX14_batch_248 : decode cX14_batch 248 = .ok (.iaload, 1) := by decide +kernel
theorem dX14_batch_249 : decode cX14_batch 249 = .ok (.aload_n 0, 1) := by decide +kernel
theorem dX14_batch_250 : decode cX14_batch 250 = .ok (.getfield 151, 3) := by decide +kernel
theorem dX14_batch_253 : decode cX14_batch 253 = .ok (.getfield 594, 3) := by decide +kernel
theorem dX14_batch_256 : decode cX14_batch 256 = .ok (.iload 4, 2) := by decide +kernel
theorem dX14_batch_258 : decode cX14_batch 258 = .ok (.iaload, 1) := by decide +kernel
theorem dX14_batch_259 : decode cX14_batch 259 = .ok (.aload_n 0, 1) := by decide +kernel
theorem dX14_batch_260 : decode cX14_batch 260 = .ok (.getfield 151, 3) := by decide +kernel
theorem dX14_batch_263 : decode cX14_batch 263 = .ok (.getfield 599, 3) := by decide +kernel
theorem dX14_batch_266 : decode cX14_batch 266 = .ok (.iload 4, 2) := by decide +kernel
theorem dX14_batch_268 : decode cX14_batch 268 = .ok (.iaload, 1) := by decide +kernel
theorem dX14_batch_269 : decode cX14_batch 269 = .ok (.invokevirtual 629, 3) := by decide +kernel
theorem dX14_batch_272 : decode cX14_batch 272 = .ok (.iastore, 1) := by decide +kernel
theorem dX14_batch_273 : decode cX14_batch 273 = .ok (.aload_n 0, 1) := by decide +kernel
theorem dX14_batch_274 : decode cX14_batch 274 = .ok (.getfield 154, 3) := by decide +kernel
theorem dX14_batch_277 : decode cX14_batch 277 = .ok (.iload 4, 2) := by decide +kernel
theorem dX14_batch_279 : decode cX14_batch 279 = .ok (.aload_n 0, 1) := by decide +kernel
theorem dX14_batch_280 : decode cX14_batch 280 = .ok (.getfield 122, 3) := by decide +kernel
theorem dX14_batch_283 : decode cX14_batch 283 = .ok (.getfield 637, 3) := by decide +kernel
theorem dX14_batch_286 : decode cX14_batch 286 = .ok (.ifCond .eq 13, 3) := by decide +kernel
theorem dX14_batch_289 : decode cX14_batch 289 = .ok (.aload_n 0, 1) := by decide +kernel
theorem dX14_batch_290 : decode cX14_batch 290 = .ok (.getfield 122, 3) := by decide +kernel
theorem dX14_batch_293 : decode cX14_batch 293 = .ok (.getfield 653, 3) := by decide +kernel
theorem dX14_batch_296 : decode cX14_batch 296 = .ok (.goto 4, 3) := by decide +kernel
theorem dX14_batch_299 : decode cX14_batch 299 = .ok (.iconst (-1), 1) := by decide +kernel
theorem dX14_batch_300 : decode cX14_batch 300 = .ok (.iastore, 1) := by decide +kernel
theorem dX14_batch_301 : decode cX14_batch 301 = .ok (.aload_n 0, 1) := by decide +kernel
theorem dX14_batch_302 : decode cX14_batch 302 = .ok (.getfield 157, 3) := by decide +kernel
theorem dX14_batch_305 : decode cX14_batch 305 = .ok (.iload 4, 2) := by decide +kernel
theorem dX14_batch_307 : decode cX14_batch 307 = .ok (.aload_n 0, 1) := by decide +kernel
theorem dX14_batch_308 : decode cX14_batch 308 = .ok (.getfield 122, 3) := by decide +kernel
theorem dX14_batch_311 : decode cX14_batch 311 = .ok (.getfield 661, 3) := by decide +kernel
theorem dX14_batch_314 : decode cX14_batch 314 = .ok (.iastore, 1) := by decide +kernel
theorem dX14_batch_315 : decode cX14_batch 315 = .ok (.iinc 4 1, 3) := by decide +kernel
theorem dX14_batch_318 : decode cX14_batch 318 = .ok (.goto (-111), 3) := by decide +kernel
theorem dX14_batch_321 : decode cX14_batch 321 = .ok (.aload_n 0, 1) := by decide +kernel
theorem dX14_batch_322 : decode cX14_batch 322 = .ok (.getfield 151, 3) := by decide +kernel
theorem dX14_batch_325 : decode cX14_batch 325 = .ok (.getfield 587, 3) := by decide +kernel
theorem dX14_batch_328 : decode cX14_batch 328 = .ok (.ireturn, 1) := by decide +kernel
end
section
-- an array of arrays gets its kind
theorem jFq.zero {G : jT} {f : Nat → Option Nat} {i : Int} (h : i ≤ 0) : jFq G f i := fun j hj => by omega
end
section
-- what the kernel's walks need: raw arrays of ints, arrays whose last element is null, states, new goals
section J30
variable {p : Program} {l : Launch} {e : Env} {R : Room} {s : State} {m : MethodId} {args : Array Value} {below : List Frame} {meth : Method} {c : Code} {H : Heap} {locs : List Loc} {cells slots : Nat} {Q : State → Prop}
variable {cc : ByteArray} {pc : Nat} {ls : Array Slot} {rest : List Value} {dC : Nat → ClassId} {dI : Nat → Nat → Nat} {ca : Nat → ClassId} {B : jF} {base : Nat} {G0 G : jT} {E : List (Nat × Nat)} {H0 : Heap} {zc zs : Nat} {L : List jPin} {M : List jCt} {I : List jIv} {a a0 k k0 n n0 index : Nat} {tys : List (ClassId × FieldType)} {own C : String} {cA : ClassId}
end J30
theorem jFp.zero : jFp (fun _ => 0) := fun _ => (by decide : (-1 : Int) ≤ (0 : Int32).toInt)
theorem jZe.zero {g : Nat → Int32} {n : Int} (h : n ≤ 0) : jZe g n := fun l h0 h1 => by omega
theorem jTa.zero {g : Nat → Int32} {b : Int} (h : b ≤ 0) : jTa g b := fun l h0 h1 => by omega
theorem jPqk.zero {f g : Nat → Int32} {b i0 i s : Int} (h : i = i0) (hs : s = 0) : jPqk f g b i0 i s := ⟨by omega, by rw [hs, h, Int.sub_self]; rfl⟩
theorem jGq.zero {G : jT} {f : Nat → Option Nat} {i : Int} (h : i ≤ 0) : jGq G f i := fun j hj => by omega
end
section
-- the places where a term stands, counted as the scan goes
theorem jSq.zero {f g : Nat → Int32} {a b i : Int} (h : i ≤ 0) : jSq f g a b i := fun j h0 h1 => by omega
theorem jR1.zero {f g : Nat → Int32} {n m : Nat} {w i c : Int} (hi : i = 0) (hc : c = 0) : jR1 f n g m w i c := by
  subst hi; subst hc
  exact ⟨by omega, by omega, by omega, Int.zero_add _⟩
/-- the second pass: i is reached, at are written -/
def jR2 (f : Nat → Int32) (n : Nat) (g : Nat → Int32) (m : Nat) (w b i at_ : Int) : Prop := 0 ≤ i ∧ i ≤ n ∧ at_ = i + (jTn (jSp f n g m w) w n 0 - jTn (jSp f n g m w) w n i) * (b - w)
theorem jR2.zero {f g : Nat → Int32} {n m : Nat} {w b i t : Int} (hi : i = 0) (ht : t = 0) : jR2 f n g m w b i t := by
  subst hi; subst ht
  refine ⟨by omega, by omega, ?_⟩
  rw [Int.sub_self, Int.zero_mul]
  rfl
end
section
-- the sentences of a document of the class: in order, none empty
theorem jSn.zero {b e : Nat → Int32} {s u : Int} (h : s ≤ 0) : jSn b e s u := fun k a c => by omega
end
section
-- nothing is there yet
section J51
variable {dC : Nat → ClassId} {dI : Nat → Nat → Nat} {ca : Nat → ClassId} {B : jF} {base : Nat} {G : jT} {H : Heap}
theorem jYb.zero (h : ∀ a t, G a ≠ some t) : jYb dC dI G H := fun a ha => absurd ha (h _ _)
theorem jSef.zero (h : ∀ a t, G a ≠ some t) : jSef dC dI G H := fun a ha => absurd ha (h _ _)
theorem jLs.zero (h : ∀ a t, G a ≠ some t) : jLs dC dI ca G 0 none H := ⟨fun a _ _ ha => absurd ha (h _ _), fun a _ ha => absurd ha (h _ _), fun a _ ha => absurd ha (h _ _)⟩
theorem jSmm.zero (h : ∀ a t, G a ≠ some t) : ∀ N, jSmm G none (fun _ => 0) N = 0
  | 0 => rfl
  | N + 1 => by
    show jSmm G none (fun _ => 0) N + (if G N = some (3, 0) ∧ none ≠ some N then 0 else 0) = 0
    rw [jSmm.zero h N, if_neg (fun q => h _ _ q.1)]
theorem jDcc.zero (h : ∀ a t, G a ≠ some t) : jDcc dC dI ca G none 0 H := ⟨fun _ => 0, fun _ => 0, fun _ => 0, fun a _ ha => absurd ha (h _ _), fun a _ _ _ ha => absurd ha (h _ _), fun a _ _ _ ha => absurd ha (h _ _), fun a _ ha => absurd ha (h _ _), fun N => Nat.le_of_eq (jSmm.zero h N)⟩
end J51
end
section
-- the documents of the reference while it is made
section J45
variable {dC : Nat → ClassId} {dI : Nat → Nat → Nat} {ca : Nat → ClassId} {G G1 : jT} {H : Heap}
theorem jDZ.zero (h : ∀ a t, G a ≠ some t) : jDZ dC dI G H := ⟨fun _ => 0, fun _ => 0, fun a ha => absurd ha (h _ _), fun a _ ha => absurd ha (h _ _), fun a _ ha => absurd ha (h _ _), fun a ha => absurd ha (h _ _)⟩
theorem jPu.zero {fd fo : Nat → Option Nat} {fs : Nat → Int32} {dc : Int} {a b c ol nw td : Nat} (h0 : fd 0 = some a) (h1 : fd 1 = some b) (h2 : fd 2 = some c) (ha : a < b) (hb : b < c) (hc : c < ol) (ho : ol < nw) (hn : nw < td) (hf : ∀ w, w < 2 → fo w = none) : jPu (fun _ => 0) (fun _ => 0) fd fo fs dc ol nw td := by
  have c3 : ∀ i, i < 3 → i = 0 ∨ i = 1 ∨ i = 2 := fun i h => by omega
  refine ⟨fun i hi => ?_, fun i j hi hj e => ?_, fun i a hi _ => Int.le_refl _, fun w hw => Or.inl (hf w hw)⟩
  · rcases c3 i hi with rfl | rfl | rfl
    · rw [h0]; exact ⟨fun e => by cases e; omega, fun e => by cases e; omega, fun e => by cases e; omega⟩
    · rw [h1]; exact ⟨fun e => by cases e; omega, fun e => by cases e; omega, fun e => by cases e; omega⟩
    · rw [h2]; exact ⟨fun e => by cases e; omega, fun e => by cases e; omega, fun e => by cases e; omega⟩
  · rcases c3 i hi with rfl | rfl | rfl <;> rcases c3 j hj with rfl | rfl | rfl <;> first | rfl | (simp only [h0, h1, h2, Option.some.injEq] at e; omega)
end J45
end
