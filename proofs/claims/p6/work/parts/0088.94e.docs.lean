section
theorem dX14_batch_0 : decode cX14_batch 0 = .ok (.iload_n 1, 1) := by decide +kernel
theorem dX14_batch_1 : decode cX14_batch 1 = .ok (.ifCond .lt 11, 3) := by decide +kernel
theorem dX14_batch_4 : decode cX14_batch 4 = .ok (.iload_n 1, 1) := by decide +kernel
theorem dX14_batch_5 : decode cX14_batch 5 = .ok (.aload_n 0, 1) := by decide +kernel
theorem dX14_batch_6 : decode cX14_batch 6 = .ok (.getfield 217, 3) := by decide +kernel
theorem dX14_batch_9 : decode cX14_batch 9 = .ok (.if_icmp .le 5, 3) := by decide +kernel
theorem dX14_batch_12 : decode cX14_batch 12 = .ok (.iconst (-1), 1) := by decide +kernel
theorem dX14_batch_13 : decode cX14_batch 13 = .ok (.ireturn, 1) := by decide +kernel
theorem dX14_batch_14 : decode cX14_batch 14 = .ok (.aload_n 0, 1) := by decide +kernel
theorem dX14_batch_15 : decode cX14_batch 15 = .ok (.iconst 0, 1) := by decide +kernel
theorem dX14_batch_16 : decode cX14_batch 16 = .ok (.putfield 217, 3) := by decide +kernel
theorem dX14_batch_19 : decode cX14_batch 19 = .ok (.iconst 0, 1) := by decide +kernel
theorem dX14_batch_20 : decode cX14_batch 20 = .ok (.istore_n 2, 1) := by decide +kernel
theorem dX14_batch_21 : decode cX14_batch 21 = .ok (.iconst 0, 1) := by decide +kernel
theorem dX14_batch_22 : decode cX14_batch 22 = .ok (.istore_n 3, 1) := by decide +kernel
theorem dX14_batch_23 : decode cX14_batch 23 = .ok (.iload_n 3, 1) := by decide +kernel
theorem dX14_batch_24 : decode cX14_batch 24 = .ok (.iload_n 1, 1) := by decide +kernel
theorem dX14_batch_25 : decode cX14_batch 25 = .ok (.if_icmp .ge 115, 3) := by decide +kernel
theorem dX14_batch_28 : decode cX14_batch 28 = .ok (.aload_n 0, 1) := by decide +kernel
theorem dX14_batch_29 : decode cX14_batch 29 = .ok (.aload_n 0, 1) := by decide +kernel
theorem dX14_batch_30 : decode cX14_batch 30 = .ok (.getfield 9, 3) := by decide +kernel
theorem dX14_batch_33 : decode cX14_batch 33 = .ok (.iload_n 3, 1) := by decide +kernel
theorem dX14_batch_34 : decode cX14_batch 34 = .ok (.iload_n 1, 1) := by decide +kernel
theorem dX14_batch_35 : decode cX14_batch 35 = .ok (.invokevirtual 353, 3) := by decide +kernel
theorem dX14_batch_38 : decode cX14_batch 38 = .ok (.istore 4, 2) := by decide +kernel
theorem dX14_batch_40 : decode cX14_batch 40 = .ok (.iload 4, 2) := by decide +kernel
theorem dX14_batch_42 : decode cX14_batch 42 = .ok (.ifCond .ne 8, 3) := by decide +kernel
theorem dX14_batch_45 : decode cX14_batch 45 = .ok (.ldc 201, 2) := by decide +kernel
theorem dX14_batch_47 : decode cX14_batch 47 = .ok (.goto 7, 3) := by decide +kernel
theorem dX14_batch_50 : decode cX14_batch 50 = .ok (.aload_n 0, 1) := by decide +kernel
theorem dX14_batch_51 : decode cX14_batch 51 = .ok (.getfield 357, 3) := by decide +kernel
theorem dX14_batch_54 : decode cX14_batch 54 = .ok (.istore 5, 2) := by decide +kernel
theorem dX14_batch_56 : decode cX14_batch 56 = .ok (.iload_n 3, 1) := by decide +kernel
theorem dX14_batch_57 : decode cX14_batch 57 = .ok (.iload 4, 2) := by decide +kernel
theorem dX14_batch_59 : decode cX14_batch 59 = .ok (.ifCond .ne 7, 3) := by decide +kernel
theorem dX14_batch_62 : decode cX14_batch 62 = .ok (.iconst 1, 1) := by decide +kernel
theorem dX14_batch_63 : decode cX14_batch 63 = .ok (.goto 5, 3) := by decide +kernel
theorem dX14_batch_66 : decode cX14_batch 66 = .ok (.iload 4, 2) := by decide +kernel
theorem dX14_batch_68 : decode cX14_batch 68 = .ok (.iadd, 1) := by decide +kernel
theorem dX14_batch_69 : decode cX14_batch 69 = .ok (.istore_n 3, 1) := by decide +kernel
theorem dX14_batch_70 : decode cX14_batch 70 = .ok (.iload_n 2, 1) := by decide +kernel
theorem dX14_batch_71 : decode cX14_batch 71 = .ok (.iconst 2, 1) := by decide +kernel
theorem dX14_batch_72 : decode cX14_batch 72 = .ok (.iadd, 1) := by decide +kernel
theorem dX14_batch_73 : decode cX14_batch 73 = .ok (.aload_n 0, 1) := by decide +kernel
theorem dX14_batch_74 : decode cX14_batch 74 = .ok (.getfield 78, 3) := by decide +kernel
theorem dX14_batch_77 : decode cX14_batch 77 = .ok (.arraylength, 1) := by decide +kernel
theorem dX14_batch_78 : decode cX14_batch 78 = .ok (.if_icmp .le 6, 3) := by decide +kernel
theorem dX14_batch_81 : decode cX14_batch 81 = .ok (.goto 59, 3) := by decide +kernel
theorem dX14_batch_84 : decode cX14_batch 84 = .ok (.iload 5, 2) := by decide +kernel
theorem dX14_batch_86 : decode cX14_batch 86 = .ok (.ldc_w 333, 3) := by decide +kernel
theorem dX14_batch_89 : decode cX14_batch 89 = .ok (.if_icmp .le 37, 3) := by decide +kernel
theorem dX14_batch_92 : decode cX14_batch 92 = .ok (.aload_n 0, 1) := by decide +kernel
theorem dX14_batch_93 : decode cX14_batch 93 = .ok (.getfield 78, 3) := by decide +kernel
theorem dX14_batch_96 : decode cX14_batch 96 = .ok (.iload_n 2, 1) := by decide +kernel
theorem dX14_batch_97 : decode cX14_batch 97 = .ok (.ldc 179, 2) := by decide +kernel
theorem dX14_batch_99 : decode cX14_batch 99 = .ok (.iload 5, 2) := by decide +kernel
theorem dX14_batch_101 : decode cX14_batch 101 = .ok (.ldc 197, 2) := by decide +kernel
theorem dX14_batch_103 : decode cX14_batch 103 = .ok (.isub, 1) := by decide +kernel
theorem dX14_batch_104 : decode cX14_batch 104 = .ok (.bipush 10, 2) := by decide +kernel
theorem dX14_batch_106 : decode cX14_batch 106 = .ok (.ishr, 1) := by decide +kernel
theorem dX14_batch_107 : decode cX14_batch 107 = .ok (.iadd, 1) := by decide +kernel
theorem dX14_batch_108 : decode cX14_batch 108 = .ok (.iastore, 1) := by decide +kernel
theorem dX14_batch_109 : decode cX14_batch 109 = .ok (.iinc 2 1, 3) := by decide +kernel
theorem dX14_batch_112 : decode cX14_batch 112 = .ok (.ldc 185, 2) := by decide +kernel
theorem dX14_batch_114 : decode cX14_batch 114 = .ok (.iload 5, 2) := by decide +kernel
theorem dX14_batch_116 : decode cX14_batch 116 = .ok (.ldc 197, 2) := by decide +kernel
theorem dX14_batch_118 : decode cX14_batch 118 = .ok (.isub, 1) := by decide +kernel
theorem dX14_batch_119 : decode cX14_batch 119 = .ok (.sipush 1023, 3) := by decide +kernel
theorem dX14_batch_122 : decode cX14_batch 122 = .ok (.iand, 1) := by decide +kernel
theorem dX14_batch_123 : decode cX14_batch 123 = .ok (.iadd, 1) := by decide +kernel
theorem dX14_batch_124 : decode cX14_batch 124 = .ok (.istore 5, 2) := by decide +kernel
theorem dX14_batch_126 : decode cX14_batch 126 = .ok (.aload_n 0, 1) := by decide +kernel
theorem dX14_batch_127 : decode cX14_batch 127 = .ok (.getfield 78, 3) := by decide +kernel
theorem dX14_batch_130 : decode cX14_batch 130 = .ok (.iload_n 2, 1) := by decide +kernel
theorem dX14_batch_131 : decode cX14_batch 131 = .ok (.iload 5, 2) := by decide +kernel
theorem dX14_batch_133 : decode cX14_batch 133 = .ok (.iastore, 1) := by decide +kernel
theorem dX14_batch_134 : decode cX14_batch 134 = .ok (.iinc 2 1, 3) := by decide +kernel
theorem dX14_batch_137 : decode cX14_batch 137 = .ok (.goto (-114), 3) := by decide +kernel
theorem dX14_batch_140 : decode cX14_batch 140 = .ok (.iload_n 2, 1) := by decide +kernel
theorem dX14_batch_141 : decode cX14_batch 141 = .ok (.sipush 1500, 3) := by decide +kernel
theorem dX14_batch_144 : decode cX14_batch 144 = .ok (.if_icmp .le 6, 3) := by decide +kernel
theorem dX14_batch_147 : decode cX14_batch 147 = .ok (.bipush (-2), 2) := by decide +kernel
theorem dX14_batch_149 : decode cX14_batch 149 = .ok (.ireturn, 1) := by decide +kernel
theorem dX14_batch_150 : decode cX14_batch 150 = .ok (.aload_n 0, 1) := by decide +kernel
theorem dX14_batch_151 : decode cX14_batch 151 = .ok (.getfield 151, 3) := by decide +kernel
theorem dX14_batch_154 : decode cX14_batch 154 = .ok (.iload_n 2, 1) := by decide +kernel
theorem dX14_batch_155 : decode cX14_batch 155 = .ok (.putfield 526, 3) := by decide +kernel
theorem dX14_batch_158 : decode cX14_batch 158 = .ok (.iconst 0, 1) := by decide +kernel
theorem dX14_batch_159 : decode cX14_batch 159 = .ok (.istore 4, 2) := by decide +kernel
theorem dX14_batch_161 : decode cX14_batch 161 = .ok (.iload 4, 2) := by decide +kernel
theorem dX14_batch_163 : decode cX14_batch 163 = .ok (.iload_n 2, 1) := by decide +kernel
theorem dX14_batch_164 : decode cX14_batch 164 = .ok (.if_icmp .ge 26, 3) := by decide +kernel
theorem dX14_batch_167 : decode cX14_batch 167 = .ok (.aload_n 0, 1) := by decide +kernel
theorem dX14_batch_168 : decode cX14_batch 168 = .ok (.getfield 151, 3) := by decide +kernel
theorem dX14_batch_171 : decode cX14_batch 171 = .ok (.getfield 529, 3) := by decide +kernel
theorem dX14_batch_174 : decode cX14_batch 174 = .ok (.iload 4, 2) := by decide +kernel
theorem dX14_batch_176 : decode cX14_batch 176 = .ok (.aload_n 0, 1) := by decide +kernel
theorem dX14_batch_177 : decode cX14_batch 177 = .ok (.getfield 78, 3) := by decide +kernel
theorem dX14_batch_180 : decode cX14_batch 180 = .ok (.iload 4, 2) := by decide +kernel
theorem dX14_batch_182 : decode cX14_batch 182 = .ok (.iaload, 1) := by decide +kernel
theorem dX14_batch_183 : decode cX14_batch 183 = .ok (.iastore, 1) := by decide +kernel
theorem dX14_batch_184 : decode cX14_batch 184 = .ok (.iinc 4 1, 3) := by decide +kernel
theorem dX14_batch_187 : decode cX14_batch 187 = .ok (.goto (-26), 3) := by decide +kernel
theorem dX14_batch_190 : decode cX14_batch 190 = .ok (.aload_n 0, 1) := by decide +kernel
theorem dX14_batch_191 : decode cX14_batch 191 = .ok (.getfield 151, 3) := by decide +kernel
theorem dX14_batch_194 : decode cX14_batch 194 = .ok (.invokestatic 534, 3) := by decide +kernel
theorem dX14_batch_197 : decode cX14_batch 197 = .ok (.aload_n 0, 1) := by decide +kernel
theorem dX14_batch_198 : decode cX14_batch 198 = .ok (.getfield 122, 3) := by decide +kernel
theorem dX14_batch_201 : decode cX14_batch 201 = .ok (.invokevirtual 627, 3) := by decide +kernel
theorem dX14_batch_204 : decode cX14_batch 204 = .ok (.iconst 0, 1) := by decide +kernel
theorem dX14_batch_205 : decode cX14_batch 205 = .ok (.istore 4, 2) := by decide +kernel
theorem dX14_batch_207 : decode cX14_batch 207 = .ok (.iload 4, 2) := by decide +kernel
theorem dX14_batch_209 : decode cX14_batch 209 = .ok (.aload_n 0, 1) := by decide +kernel
theorem dX14_batch_210 : decode cX14_batch 210 = .ok (.getfield 151, 3) := by decide +kernel
theorem dX14_batch_213 : decode cX14_batch 213 = .ok (.getfield 587, 3) := by decide +kernel
theorem dX14_batch_216 : decode cX14_batch 216 = .ok (.if_icmp .ge 105, 3) := by decide +kernel
theorem dX14_batch_219 : decode cX14_batch 219 = .ok (.aload_n 0, 1) := by decide +kernel
theorem dX14_batch_220 : decode cX14_batch 220 = .ok (.getfield 151, 3) := by decide +kernel
theorem dX14_batch_223 : decode cX14_batch 223 = .ok (.getfield 751, 3) := by decide +kernel
theorem dX14_batch_226 : decode cX14_batch 226 = .ok (.iload 4, 2) := by decide +kernel
theorem dX14_batch_228 : decode cX14_batch 228 = .ok (.aload_n 0, 1) := by decide +kernel
theorem dX14_batch_229 : decode cX14_batch 229 = .ok (.getfield 122, 3) := by decide +kernel
theorem dX14_batch_232 : decode cX14_batch 232 = .ok (.aload_n 0, 1) := by decide +kernel
theorem dX14_batch_233 : decode cX14_batch 233 = .ok (.getfield 151, 3) := by decide +kernel
theorem dX14_batch_236 : decode cX14_batch 236 = .ok (.getfield 529, 3) := by decide +kernel
theorem dX14_batch_239 : decode cX14_batch 239 = .ok (.aload_n 0, 1) := by decide +kernel
theorem dX14_batch_240 : decode cX14_batch 240 = .ok (.getfield 151, 3) := by decide +kernel
theorem dX14_batch_243 : decode cX14_batch 243 = .ok (.getfield 596, 3) := by decide +kernel
theorem dX14_batch_246 : decode cX14_batch 246 = .ok (.iload 4, 2) := by decide +kernel
theorem dX14_batch_248 : decode cX14_batch 248 = .ok (.iaload, 1) := by decide +kernel
theorem dX14_batch_249 : decode cX14_batch 249 = .ok (.aload_n 0, 1) := by decide +kernel
theorem dX14_batch_250 : decode cX14_batch 250 = .ok (.getfield 151, 3) := by decide +kernel
theorem dX14_batch_253 : decode cX14_batch 253 = .ok (.getfield 594, 3) := by decide +kernel
theorem dX14_batch_256 : decode cX14_batch 256 = .ok (.iload 4, 2) := by decide +kernel
theorem dX14_batch_258 : decode cX14_batch 258 = .ok (.iaload, 1) := by decide +kernel
theorem dX14_batch_259 : decode cX14_batch 259 = .ok (.aload_n 0, 1) := by decide +kernel
theorem dX14_batch_260 : decode cX14_batch 260 = .ok (.getfield 151, 3) := by decide +kernel
theorem dX14_batch_263 : decode cX14_batch 263 = .ok (.getfield 599, 3) := by decide +kernel
theorem dX14_batch_266 : decode cX14_batch 266 = .ok (.iload 4, 2) := by decide +kernel
theorem dX14_batch_268 : decode cX14_batch 268 = .ok (.iaload, 1) := by decide +kernel
theorem dX14_batch_269 : decode cX14_batch 269 = .ok (.invokevirtual 629, 3) := by decide +kernel
theorem dX14_batch_272 : decode cX14_batch 272 = .ok (.iastore, 1) := by decide +kernel
theorem dX14_batch_273 : decode cX14_batch 273 = .ok (.aload_n 0, 1) := by decide +kernel
theorem dX14_batch_274 : decode cX14_batch 274 = .ok (.getfield 154, 3) := by decide +kernel
theorem dX14_batch_277 : decode cX14_batch 277 = .ok (.iload 4, 2) := by decide +kernel
theorem dX14_batch_279 : decode cX14_batch 279 = .ok (.aload_n 0, 1) := by decide +kernel
theorem dX14_batch_280 : decode cX14_batch 280 = .ok (.getfield 122, 3) := by decide +kernel
theorem dX14_batch_283 : decode cX14_batch 283 = .ok (.getfield 637, 3) := by decide +kernel
theorem dX14_batch_286 : decode cX14_batch 286 = .ok (.ifCond .eq 13, 3) := by decide +kernel
theorem dX14_batch_289 : decode cX14_batch 289 = .ok (.aload_n 0, 1) := by decide +kernel
theorem dX14_batch_290 : decode cX14_batch 290 = .ok (.getfield 122, 3) := by decide +kernel
theorem dX14_batch_293 : decode cX14_batch 293 = .ok (.getfield 653, 3) := by decide +kernel
theorem dX14_batch_296 : decode cX14_batch 296 = .ok (.goto 4, 3) := by decide +kernel
theorem dX14_batch_299 : decode cX14_batch 299 = .ok (.iconst (-1), 1) := by decide +kernel
theorem dX14_batch_300 : decode cX14_batch 300 = .ok (.iastore, 1) := by decide +kernel
theorem dX14_batch_301 : decode cX14_batch 301 = .ok (.aload_n 0, 1) := by decide +kernel
theorem dX14_batch_302 : decode cX14_batch 302 = .ok (.getfield 157, 3) := by decide +kernel
theorem dX14_batch_305 : decode cX14_batch 305 = .ok (.iload 4, 2) := by decide +kernel
theorem dX14_batch_307 : decode cX14_batch 307 = .ok (.aload_n 0, 1) := by decide +kernel
theorem dX14_batch_308 : decode cX14_batch 308 = .ok (.getfield 122, 3) := by decide +kernel
theorem dX14_batch_311 : decode cX14_batch 311 = .ok (.getfield 661, 3) := by decide +kernel
theorem dX14_batch_314 : decode cX14_batch 314 = .ok (.iastore, 1) := by decide +kernel
theorem dX14_batch_315 : decode cX14_batch 315 = .ok (.iinc 4 1, 3) := by decide +kernel
theorem dX14_batch_318 : decode cX14_batch 318 = .ok (.goto (-111), 3) := by decide +kernel
theorem dX14_batch_321 : decode cX14_batch 321 = .ok (.aload_n 0, 1) := by decide +kernel
theorem dX14_batch_322 : decode cX14_batch 322 = .ok (.getfield 151, 3) := by decide +kernel
theorem dX14_batch_325 : decode cX14_batch 325 = .ok (.getfield 587, 3) := by decide +kernel
theorem dX14_batch_328 : decode cX14_batch 328 = .ok (.ireturn, 1) := by decide +kernel
end
section
-- the workers of a document that has changed; a document that is opened; closed
section J16
variable {p : Program} {l : Launch} {e : Env} {R : Room} {s : State} {m : MethodId} {args : Array Value} {below : List Frame} {meth : Method} {c : Code} {H : Heap} {locs : List Loc} {cells slots : Nat} {Q : State → Prop}
variable {cc : ByteArray} {pc : Nat} {ls : Array Slot} {rest : List Value} {dC : Nat → ClassId} {dI : Nat → Nat → Nat} {ca : Nat → ClassId} {B : jF} {base : Nat} {G0 G : jT} {E : List (Nat × Nat)} {H0 : Heap} {zc zs : Nat} {L : List jPin} {M : List jCt} {I : List jIv} {a k n : Nat} {cA : ClassId} {tys : List (ClassId × FieldType)}
/-- a store into an array: contents of arrays of other kinds, or of other lengths, stay -/
theorem j7_iastL {P : Nat → Int32 → Prop} (hexec : p.tables.exec = Jvm.exec) (hb : c.code = cc) (hK : va_K (dC, dI) vwCl tys s) (hh : jSt (dC, dI) B base G0 G E H0 zc zs L M I H locs) (hB : jBok B) (hBk : ∀ n G a H, B k n G a H ↔ jAr (dC, dI) cA P n a H) (t0 : Nat) (ht : tys[t0]? = some (cA, .int)) (hk : k < 1000) (hk2 : 18 ≤ k) (hE : E.contains (k, 0) = true) (hM : M.all (fun q => !(q.2.1 == k && q.2.2.1 == n)) = true) (hI : I.all (fun q => !(q.1.contains (k, 0))) = true) (ha : G a = some (k, n)) {i v : Int32} {x : Int} (hi : i.toInt = x) (h12 : 0 ≤ x ∧ x < n) (hv : P x.toNat v) (hdg : decode cc pc = .ok (.iastore, 1))
    (kk : ∀ (H1 : Heap) (locs1 : List Loc) (g : Nat → Int32), g x.toNat = v → (∀ f : Nat → Int32, va_at (dC, dI) vwCl (a, .inl (cA, n, .inl f)) H → ∀ j, j < n → j ≠ x.toNat → g j = f j) → jSt (dC, dI) B base G0 G E H0 zc zs L ((a, k, n, cA, g) :: M) I H1 locs1 → W p l e R s m args below meth c H1 locs1 cells slots Q (F0 m (pc + 1) ls rest)) : W p l e R s m args below meth c H locs cells slots Q (F0 m pc ls (.int v :: .int i :: .ref a :: rest)) := by
  obtain ⟨h1, h2⟩ := h12
  obtain ⟨f', g1, g2⟩ := hh.ar hBk hk ha
  refine j_iast (A := jA base) hexec hb hK t0 g1 (hh.ab ha).1 hh.1.2.2 ht (jb_in hi h1 h2) hdg (fun H1 locs1 hat hsz hfr hT hL => ?_)
  have hh1 : jSt (dC, dI) B base G0 G E H0 zc zs L [] I H locs := by
    obtain ⟨e1, e2, e3, e4, e5, e6, e7, e8, e9⟩ := hh
    exact ⟨e1, e2, e3, e4, e5, e6, e7, jMc.nil, e9⟩
  have h9 := hh1.arr hB ha hk hk2 hE rfl hI hsz hfr hT hL ((hBk _ _ _ _).mpr ⟨_, hat, jAr_upd g2 hi h1 hv⟩)
  refine kk H1 locs1 (upd f' i.toNatClampNeg v) (by rw [← jb_cl hi h1]; simp [upd]) (fun f q4 j hj' hne => ?_) ?_
  · have : j ≠ i.toNatClampNeg := by rw [jb_cl hi h1]; exact hne
    simp only [upd, if_neg this]
    exact (jCt_eq q4 g1 hj').symm
  · obtain ⟨e1, e2, e3, e4, e5, e6, e7, e8, e9⟩ := h9
    refine ⟨e1, e2, e3, e4, e5, e6, e7, fun q hq => ?_, e9⟩
    rcases List.mem_cons.mp hq with e | e
    · subst e; exact ⟨ha, hk2, hk, hat⟩
    · obtain ⟨q1, q2, q3, q4⟩ := hh.2.2.2.2.2.2.2.1 q e
      refine ⟨q1, q2, q3, q4.kept (hfr _ (fun w => ?_))⟩
      have hm9 := List.all_eq_true.mp hM q e
      rw [w, ha] at q1
      have e2 := Prod.mk.inj (Option.some.inj q1)
      rw [← e2.1, ← e2.2] at hm9
      simp at hm9
end J16
end
section
-- what the kernel's walks need: raw arrays of ints, arrays whose last element is null, states, new goals
section J30
variable {p : Program} {l : Launch} {e : Env} {R : Room} {s : State} {m : MethodId} {args : Array Value} {below : List Frame} {meth : Method} {c : Code} {H : Heap} {locs : List Loc} {cells slots : Nat} {Q : State → Prop}
variable {cc : ByteArray} {pc : Nat} {ls : Array Slot} {rest : List Value} {dC : Nat → ClassId} {dI : Nat → Nat → Nat} {ca : Nat → ClassId} {B : jF} {base : Nat} {G0 G : jT} {E : List (Nat × Nat)} {H0 : Heap} {zc zs : Nat} {L : List jPin} {M : List jCt} {I : List jIv} {a a0 k k0 n n0 index : Nat} {tys : List (ClassId × FieldType)} {own C : String} {cA : ClassId}
end J30
theorem jZe.tt {f g : Nat → Int32} {n : Nat} {m : Int} (h : jZe g m) (hm : 13 ≤ m) : jTt f g n := fun l h0 h1 h2 => by
  have := h l h0 (by omega)
  omega
end
section
-- how many bytes a message has at least: its strings and keys stand apart
theorem jSb.many {f : Nat → Int32} {is : List Nat} (hp : is.Pairwise (· ≠ ·)) (hf : ∀ i ∈ is, 1 ≤ (f i).toInt) : ∀ n : Nat, jCi n is + 2 * (n : Int) ≤ jSb f n
  | 0 => by
    have z : ∀ is : List Nat, jCi 0 is = 0 := fun is => by
      induction is with
      | nil => rfl
      | cons i is ih => show (if i < 0 then (3 : Int) else 0) + jCi 0 is = 0; rw [if_neg (by omega), ih]; rfl
    rw [z is]
    show (0 : Int) + 2 * 0 ≤ 0
    omega
  | n + 1 => by
    have h1 := jSb.many hp hf n
    have h2 := jCi.suc (n := n) (f := f) is hp hf
    show jCi (n + 1) is + 2 * ((n + 1 : Nat) : Int) ≤ jSb f n + (if 1 ≤ (f n).toInt then 5 else 2)
    by_cases q : 1 ≤ (f n).toInt
    · rw [if_pos q] at h2 ⊢; omega
    · rw [if_neg q] at h2 ⊢; omega
end
section
def EX14_utfLengthP : List (Nat × Nat) := [(16, 33)]
set_option maxHeartbeats 4000000 in
set_option maxRecDepth 20000 in
theorem uX14_utfLengthP (l : Launch) (dC : Nat → ClassId) (dI : Nat → Nat → Nat) (ca : Nat → ClassId) (base : Nat) (B : jF) (hB : jBok B) (hAp : jAp (dC, dI)) (hB16 : ∀ n G a H, B 16 n G a H ↔ jOb (dC, dI) 16 74 (F16 n G) a H) (hB111 : ∀ n G a H, B 111 n G a H ↔ jAr (dC, dI) (ca 1) (fun j z => 0 ≤ z.toInt ∧ z.toInt ≤ 255) n a H) (G0 : jT) (H0 : Heap) (r0 : Nat) (r1 : Nat) (a2 : Int32) (a3 : Int32) (n1 : Nat) (fb : Nat → Int32) : Met l yX14_utfLength (jw yX14_utfLength cX14_utfLength 8 (some .int)) ({ frames := 1, cells := 0, slots := 0, locals := 22 }) (va_Pc [.ref r0, .ref r1, .int a2, .int a3] (fun U => U.heap = H0 ∧ jX B base G0 [] H0 ∧ jG dC dI ca base U ∧ G0 r1 = some (111, n1) ∧ G0 r0 = some (16, 0) ∧ jP (dC, dI) G0 H0 [] ∧ jMc (dC, dI) G0 H0 [(r1, 111, n1, ca 1, fb)] ∧ 0 ≤ a2.toInt ∧ a2.toInt < a3.toInt ∧ a3.toInt ≤ n1 ∧ n1 ≤ 4000)) (va_Qi (S := Int32) (fun r u => (jUq (jB8 fb) a2.toInt a3.toInt r.toInt u.toInt ∧ (r.toInt = 0 ∨ (1 ≤ r.toInt ∧ r.toInt ≤ 4 ∧ a2.toInt + r.toInt ≤ a3.toInt ∧ (u.toInt ≤ 65535 ∨ 2 ≤ r.toInt))))) (fun u t => jRt (dC, dI) B base G0 EX14_utfLengthP H0 [(r0, 16, 33, .int u)] t.heap) (jA base)) 0 0 (jA base) := by
  refine Met.ofW (cc := cX14_utfLength) (maxL := 8) (ret := (some .int)) (by decide) rfl ?_
  intro p e s m args below meth c s₁ Bd hml hv
  obtain ⟨rfl, hH0, hX, hG, hg_r1, hg_r0, hP0, hM0, hp0, hp1, hp2, hp3⟩ := hv
  have hK := hG.1
  have hx := Bd.exec
  have hb := Bd.bytes
  have hr := Bd.returns
  have hts := atoms_spec (ws := (jw yX14_utfLength cX14_utfLength 8 (some .int))) Bd.pre
  have htw : ∀ w ∈ jWl, w.before _ s = true := fun w h => hts w (List.mem_cons_of_mem _ h)
  have hown : s.vm.findClass RX14 = some m.cls := findClass_of_methodNamed Bd.named
  have hlocks := Bd.notSynchronized
  obtain ⟨Q, hQ⟩ : ∃ Q, Q = MQ below (va_Qi (S := Int32) (fun r u => (jUq (jB8 fb) a2.toInt a3.toInt r.toInt u.toInt ∧ (r.toInt = 0 ∨ (1 ≤ r.toInt ∧ r.toInt ≤ 4 ∧ a2.toInt + r.toInt ≤ a3.toInt ∧ (u.toInt ≤ 65535 ∨ 2 ≤ r.toInt))))) (fun u t => jRt (dC, dI) B base G0 EX14_utfLengthP H0 [(r0, 16, 33, .int u)] t.heap) (jA base)) ([.ref r0, .ref r1, .int a2, .int a3] : List Value).toArray s 0 0 (jA base) := ⟨_, rfl⟩
  rw [← hQ]
  have hl := lv_entry ([.ref r0, .ref r1, .int a2, .int a3]) (n := 8) (Nat.le_of_ble_eq_true rfl)
  rw [lg_entry_eq]
  generalize (lg_sl ([.ref r0, .ref r1, .int a2, .int a3]) ++ List.replicate (8 - (lg_sl ([.ref r0, .ref r1, .int a2, .int a3])).length) Slot.unset).toArray = ls at hl ⊢
  have hl : lv_has ls 8 [(0, .ref r0), (1, .ref r1), (2, .int a2), (3, .int a3)] := hl
  generalize hR : (headSpec (jw yX14_utfLength cX14_utfLength 8 (some .int)) ({ frames := 1, cells := 0, slots := 0, locals := 22 })).room = R
  subst hH0
  have hh : jSt (dC, dI) B base G0 G0 EX14_utfLengthP s.heap 0 0 [] [(r1, 111, n1, ca 1, fb)] [] s.heap [] := jSt.start hX hP0 hM0 jIs.nil
  clear hX hP0
  have hk0 : (0 : Int32).toInt = 0 := by decide
  have hk1 : (1 : Int32).toInt = 1 := by decide
  have hk2 : (2 : Int32).toInt = 2 := by decide
  have hk3 : (3 : Int32).toInt = 3 := by decide
  have hk4 : (4 : Int32).toInt = 4 := by decide
  have hk6 : (6 : Int32).toInt = 6 := by decide
  have hk7 : (7 : Int32).toInt = 7 := by decide
  have hk15 : (15 : Int32).toInt = 15 := by decide
  have hk31 : (31 : Int32).toInt = 31 := by decide
  have hk63 : (63 : Int32).toInt = 63 := by decide
  have hk128 : (128 : Int32).toInt = 128 := by decide
  have hk191 : (191 : Int32).toInt = 191 := by decide
  have hk194 : (194 : Int32).toInt = 194 := by decide
  have hk223 : (223 : Int32).toInt = 223 := by decide
  have hk224 : (224 : Int32).toInt = 224 := by decide
  have hk239 : (239 : Int32).toInt = 239 := by decide
  have hk240 : (240 : Int32).toInt = 240 := by decide
  have hk244 : (244 : Int32).toInt = 244 := by decide
  have hk2048 : (2048 : Int32).toInt = 2048 := by decide
  have hk55296 : (55296 : Int32).toInt = 55296 := by decide
  have hk57343 : (57343 : Int32).toInt = 57343 := by decide
  have hk65536 : (65536 : Int32).toInt = 65536 := by decide
  have hk1114111 : (1114111 : Int32).toInt = 1114111 := by decide
  have hly_16_33 := htw (u_lay RX14 TX14 33) (jWc_wsX140 _ (u_in_lay (by decide)))
  have hlk_357 := (htw (.fieldLink RX14 357 "ProofServerModel" "utfChar" "I") (jWr_51 _ (List.mem_of_getElem? (i := 11) rfl)))
  have hcs_197 := htw (.constant RX14 197 65536) (jWr_52 _ (List.mem_of_getElem? (i := 2) rfl))
  have hcs_179 := htw (.constant RX14 179 55296) (jWr_51 _ (List.mem_of_getElem? (i := 18) rfl))
  have hcs_186 := htw (.constant RX14 186 57343) (jWr_51 _ (List.mem_of_getElem? (i := 17) rfl))
  have hcs_360 := htw (.constant RX14 360 1114111) (jWr_52 _ (List.mem_of_getElem? (i := 18) rfl))
  have hrg_a2 := jb_rng a2
  have hrg_a3 := jb_rng a3
  refine lv_aload_n hx hb dX14_utfLength_0 rfl (lv_at hl 1 rfl) ?_
  refine lv_iload_n hx hb dX14_utfLength_1 rfl (lv_at hl 2 rfl) ?_
  refine j7_ialdM hx hb hK hh hB111 1 rfl (by decide) hg_r1 (x := a2.toInt) (rfl) (by omega) (j := 0) rfl dX14_utfLength_2 (fun z_1 ez_1 (hz_1 : 0 ≤ z_1.toInt ∧ z_1.toInt ≤ 255) => ?_)
  have hqz_1 : z_1.toInt = jSo fb (a2.toInt) := by unfold jSo; rw [ez_1]
  have hb4 : z_1.toInt = jB8 fb a2.toInt := by unfold jB8; rw [← hqz_1]; omega
  refine lv_istore (lv' := [(4, .int z_1), (0, .ref r0), (1, .ref r1), (2, .int a2), (3, .int a3)]) hx hb dX14_utfLength_3 hl (by decide) rfl (fun ls hl => ?_)
  refine lv_aload_n hx hb dX14_utfLength_5 rfl (lv_at hl 1 rfl) ?_
  refine lv_iload hx hb dX14_utfLength_6 (lv_at hl 0 rfl) ?_
  refine j7_put hx hb hown hK hh hB hAp hB16 (C := RX14) (T := TX14) (N := 74) rfl (by decide) hg_r0 (i := 33) (by decide) hly_16_33 rfl hlk_357 rfl (ty := .int) (v := .int z_1) (by decide +kernel) rfl rfl (⟨_, rfl⟩) rfl (L1 := []) [] rfl rfl rfl dX14_utfLength_8 (fun H_2 locs_2 hh_2 => ?_)
  clear hh
  refine lv_iload hx hb dX14_utfLength_11 (lv_at hl 0 rfl) ?_
  refine lv_sipush (v := 128) hx hb dX14_utfLength_13 (by decide) ?_
  refine lv_icmp_ge (tgt := 21) hx hb dX14_utfLength_16 (by decide) (fun c_3 => ?_) (fun c_3 => ?_)
  · skip
    have c_3' : z_1.toInt ≥ 128 := jb_ge (rfl) ((by decide)) c_3
    refine lv_iload hx hb dX14_utfLength_21 (lv_at hl 0 rfl) ?_
    refine lv_sipush (v := 194) hx hb dX14_utfLength_23 (by decide) ?_
    refine lv_sipush (v := 223) hx hb dX14_utfLength_26 (by decide) ?_
    refine va_calli (A0 := jA base) (H0 := s.heap) (va_runS (As := [.int z_1, .int 194, .int 223]) (rest := []) ⟨hx, hb, hml, hown, hts⟩ (uX14_in l dC dI ca base B hB hAp G0 H_2 z_1 194 223) (va_cwS 3 hts (jgS (jWr_48 _ (List.mem_of_getElem? (i := 10) rfl)) (jWr_48 _ (List.mem_of_getElem? (i := 11) rfl)) (jWr_1 _ (List.mem_of_getElem? (i := 5) rfl)) (jWr_48 _ (List.mem_of_getElem? (i := 12) rfl))) rfl rfl rfl (by decide +kernel) ⟨by rw [← hR]; exact Nat.le_of_ble_eq_true rfl, by rw [← hR]; exact Nat.le_of_ble_eq_true rfl⟩) ⟨fun a U g mk q => by obtain ⟨q0, q1, q2, qK, q10, q11⟩ := q; exact ⟨q0, q1, q2, jG.calling g mk a qK, q10, q11⟩, fun U hU hW => ⟨rfl, hU, hh_2.2.1, hG.step hW hU hh_2.1, jP.nil, trivial⟩⟩ rfl rfl hl.1 rfl (lv_room (Nat.le_of_ble_eq_true rfl)) dX14_utfLength_29 ⟨Nat.zero_le _, Nat.zero_le _⟩) hh_2.1 (fun q _ h => h) (fun q h => h) (fun r_5 u_4 t_4 H_4 locs_4 ht_4 hvm_4 hr_5 hb_4 hz_4 hk_4 hS_4 => ?_)
    rw [ht_4] at hb_4
    obtain ⟨hb_41, hb_42, hb_43, hb_44, hb_45⟩ := hb_4
    have hh_4 : jSt (dC, dI) B base G0 G0 EX14_utfLengthP s.heap 0 0 [(r0, 16, 33, .int z_1)] [(r1, 111, n1, ca 1, fb)] [] H_4 locs_4 := ((hh_2.call hb_41 hb_42 hb_43 hb_44 hS_4 rfl (L1 := [(r0, 16, 33, .int z_1)]) [0] rfl rfl (M1 := [(r1, 111, n1, ca 1, fb)]) [0] rfl rfl (I1 := []) [] rfl rfl).more hb_45)
    clear hh_2 ht_4 hvm_4 hz_4 hk_4 hS_4 hb_41 hb_42 hb_43 hb_44 hb_45
    obtain ⟨hr_5b, hr_5p⟩ := hr_5
    obtain ⟨hr_5p_0, hr_5p_1, hr_5p_2⟩ := hr_5p
    have hr_5' := jb_01 hr_5b
    have C76 : ∀ (w0_6 : Int32) (H_6 : Heap) (locs_6 : List Loc), jSt (dC, dI) B base G0 G0 EX14_utfLengthP s.heap 0 0 [(r0, 16, 33, .int z_1)] [(r1, 111, n1, ca 1, fb)] [] H_6 locs_6 → (((194 ≤ z_1.toInt ∧ z_1.toInt ≤ 223 ∧ w0_6.toInt = 2) ∨ (224 ≤ z_1.toInt ∧ z_1.toInt ≤ 239 ∧ w0_6.toInt = 3) ∨ (240 ≤ z_1.toInt ∧ z_1.toInt ≤ 244 ∧ w0_6.toInt = 4) ∨ ((z_1.toInt < 194 ∨ 244 < z_1.toInt) ∧ w0_6.toInt = 0))) → ∀ ls : Array Slot, lv_has ls 8 [(0, .ref r0), (1, .ref r1), (2, .int a2), (3, .int a3), (4, .int z_1)] → W p l e R s m ([.ref r0, .ref r1, .int a2, .int a3] : List Value).toArray below meth c H_6 locs_6 0 0 Q (F0 m 76 ls [.int w0_6]) := by
      intro w0_6 H_6 locs_6 hh_6  hi_6 ls hl
      refine lv_istore (lv' := [(5, .int w0_6), (0, .ref r0), (1, .ref r1), (2, .int a2), (3, .int a3), (4, .int z_1)]) hx hb dX14_utfLength_76 hl (by decide) rfl (fun ls hl => ?_)
      refine lv_iload hx hb dX14_utfLength_78 (lv_at hl 0 rfl) ?_
      refine lv_if_eq (tgt := 91) hx hb dX14_utfLength_80 (by decide) (fun c_7 => ?_) (fun c_7 => ?_)
      · skip
        have c_7' : w0_6.toInt = 0 := jb_eq (rfl) ((by decide)) c_7
        refine lv_iconst (v := 0) hx hb dX14_utfLength_91 (by decide) ?_
        rw [hQ]
        exact W.iret (v := 0) hx hb hr (fun t ht hW => ⟨⟨0, z_1, rfl, by (try dsimp only); refine ⟨?_, by omega⟩; exact jUq.no rfl (jUc_m hb4 (by omega) rfl (by first | exact Or.inl (jUm.none (by omega)) | (have h9 := jUm.ref (x := z_1.toInt) (n := w0_6.toInt) (by omega); omega)) rfl), hh_6.rt (M1 := [(r0, 16, 33, .int z_1)]) [0] rfl ht⟩, by rw [ht]; try exact hh_6.1.1, fun q h9 hq => by rw [ht]; try exact hh_6.1.2.1 q h9 hq⟩) hh_6.1.2.2 dX14_utfLength_92
      · skip
        have c_7' : w0_6.toInt ≠ 0 := jb_eq_n (rfl) ((by decide)) c_7
        refine lv_iload_n hx hb dX14_utfLength_83 rfl (lv_at hl 3 rfl) ?_
        refine lv_iload hx hb dX14_utfLength_84 (lv_at hl 0 rfl) ?_
        refine lv_iadd hx hb dX14_utfLength_86 ?_
        refine lv_topi (fun z_8 ez_8 => ?_)
        have hz_8 : z_8.toInt = a2.toInt + w0_6.toInt := by rw [ez_8]; exact jb_iadd2 (rfl) (rfl) (by omega)
        refine lv_iload_n hx hb dX14_utfLength_87 rfl (lv_at hl 4 rfl) ?_
        refine lv_icmp_le (tgt := 93) hx hb dX14_utfLength_88 (by decide) (fun c_9 => ?_) (fun c_9 => ?_)
        · skip
          have c_9' : z_8.toInt ≤ a3.toInt := jb_le (rfl) (rfl) c_9
          have hm5 := jUm.ref (x := z_1.toInt) (n := w0_6.toInt) (by omega)
          refine lv_iload hx hb dX14_utfLength_93 (lv_at hl 0 rfl) ?_
          refine lv_iconst (v := 2) hx hb dX14_utfLength_95 (by decide) ?_
          have C126 : ∀ (w0_10 : Int32) (H_10 : Heap) (locs_10 : List Loc), jSt (dC, dI) B base G0 G0 EX14_utfLengthP s.heap 0 0 [(r0, 16, 33, .int z_1)] [(r1, 111, n1, ca 1, fb)] [] H_10 locs_10 → (0 ≤ w0_6.toInt ∧ w0_10.toInt = jU0 z_1.toInt (w0_6.toInt - 1)) → ∀ ls : Array Slot, lv_has ls 8 [(0, .ref r0), (1, .ref r1), (2, .int a2), (3, .int a3), (4, .int z_1), (5, .int w0_6)] → W p l e R s m ([.ref r0, .ref r1, .int a2, .int a3] : List Value).toArray below meth c H_10 locs_10 0 0 Q (F0 m 126 ls [.int w0_10]) := by
            intro w0_10 H_10 locs_10 hh_10  hi_10 ls hl
            obtain ⟨hi_10_0, hi_10_1⟩ := hi_10
            refine lv_istore (lv' := [(6, .int w0_10), (0, .ref r0), (1, .ref r1), (2, .int a2), (3, .int a3), (4, .int z_1), (5, .int w0_6)]) hx hb dX14_utfLength_126 hl (by decide) rfl (fun ls hl => ?_)
            refine lv_iconst (v := 1) hx hb dX14_utfLength_128 (by decide) ?_
            refine lv_istore (lv' := [(7, .int 1), (6, .int w0_10), (0, .ref r0), (1, .ref r1), (2, .int a2), (3, .int a3), (4, .int z_1), (5, .int w0_6)]) hx hb dX14_utfLength_129 hl (by decide) rfl (fun ls hl => ?_)
            have L131 : ∀ (N : Nat) (v6_11 : Int32) (v7_11 : Int32) (H_11 : Heap) (locs_11 : List Loc), jSt (dC, dI) B base G0 G0 EX14_utfLengthP s.heap 0 0 [(r0, 16, 33, .int z_1)] [(r1, 111, n1, ca 1, fb)] [] H_11 locs_11 → (1 ≤ v7_11.toInt ∧ v7_11.toInt ≤ w0_6.toInt ∧ jUb w0_6.toInt v7_11.toInt v6_11.toInt ∧ jUr (jB8 fb) (w0_6.toInt - v7_11.toInt).toNat (a2.toInt + v7_11.toInt) v6_11.toInt = jUr (jB8 fb) (w0_6.toInt - 1).toNat (a2.toInt + 1) (jU0 z_1.toInt (w0_6.toInt - 1))) → (w0_6.toInt - v7_11.toInt : Int) < N → ∀ ls : Array Slot, lv_has ls 8 [(0, .ref r0), (1, .ref r1), (2, .int a2), (3, .int a3), (4, .int z_1), (5, .int w0_6), (6, .int v6_11), (7, .int v7_11)] → W p l e R s m ([.ref r0, .ref r1, .int a2, .int a3] : List Value).toArray below meth c H_11 locs_11 0 0 Q (F0 m 131 ls []) := by
              intro N
              induction N with
              | zero => intro v6_11 v7_11 H_11 locs_11 hh_11  hi_11 hm; exact absurd hm (by omega)
              | succ N L131 =>
                intro v6_11 v7_11 H_11 locs_11 hh_11  hi_11 hm_11 ls hl
                obtain ⟨hi_11_0, hi_11_1, hi_11_2, hi_11_3⟩ := hi_11
                refine lv_iload hx hb dX14_utfLength_131 (lv_at hl 7 rfl) ?_
                refine lv_iload hx hb dX14_utfLength_133 (lv_at hl 5 rfl) ?_
                refine lv_icmp_ge (tgt := 181) hx hb dX14_utfLength_135 (by decide) (fun c_12 => ?_) (fun c_12 => ?_)
                · skip
                  have c_12' : v7_11.toInt ≥ w0_6.toInt := jb_ge (rfl) (rfl) c_12
                  have hbe := hi_11_2.end (by omega)
                  refine lv_iload hx hb dX14_utfLength_181 (lv_at hl 5 rfl) ?_
                  refine lv_iconst (v := 3) hx hb dX14_utfLength_183 (by decide) ?_
                  refine lv_icmp_ne (tgt := 195) hx hb dX14_utfLength_184 (by decide) (fun c_13 => ?_) (fun c_13 => ?_)
                  · skip
                    have c_13' : w0_6.toInt ≠ 3 := jb_ne (rfl) ((by decide)) c_13
                    refine lv_iload hx hb dX14_utfLength_195 (lv_at hl 5 rfl) ?_
                    refine lv_iconst (v := 4) hx hb dX14_utfLength_197 (by decide) ?_
                    refine lv_icmp_ne (tgt := 208) hx hb dX14_utfLength_198 (by decide) (fun c_14 => ?_) (fun c_14 => ?_)
                    · skip
                      have c_14' : w0_6.toInt ≠ 4 := jb_ne (rfl) ((by decide)) c_14
                      refine lv_iload hx hb dX14_utfLength_208 (lv_at hl 6 rfl) ?_
                      refine lv_ldc hx hb hown hcs_179 dX14_utfLength_210 ?_
                      refine lv_ldc hx hb hown hcs_186 dX14_utfLength_212 ?_
                      refine va_calli (A0 := jA base) (H0 := s.heap) (va_runS (As := [.int v6_11, .int 55296, .int 57343]) (rest := []) ⟨hx, hb, hml, hown, hts⟩ (uX14_in l dC dI ca base B hB hAp G0 H_11 v6_11 55296 57343) (va_cwS 3 hts (jgS (jWr_48 _ (List.mem_of_getElem? (i := 10) rfl)) (jWr_48 _ (List.mem_of_getElem? (i := 11) rfl)) (jWr_1 _ (List.mem_of_getElem? (i := 5) rfl)) (jWr_48 _ (List.mem_of_getElem? (i := 12) rfl))) rfl rfl rfl (by decide +kernel) ⟨by rw [← hR]; exact Nat.le_of_ble_eq_true rfl, by rw [← hR]; exact Nat.le_of_ble_eq_true rfl⟩) ⟨fun a U g mk q => by obtain ⟨q0, q1, q2, qK, q10, q11⟩ := q; exact ⟨q0, q1, q2, jG.calling g mk a qK, q10, q11⟩, fun U hU hW => ⟨rfl, hU, hh_11.2.1, hG.step hW hU hh_11.1, jP.nil, trivial⟩⟩ rfl rfl hl.1 rfl (lv_room (Nat.le_of_ble_eq_true rfl)) dX14_utfLength_214 ⟨Nat.zero_le _, Nat.zero_le _⟩) hh_11.1 (fun q _ h => h) (fun q h => h) (fun r_16 u_15 t_15 H_15 locs_15 ht_15 hvm_15 hr_16 hb_15 hz_15 hk_15 hS_15 => ?_)
                      rw [ht_15] at hb_15
                      obtain ⟨hb_151, hb_152, hb_153, hb_154, hb_155⟩ := hb_15
                      have hh_15 : jSt (dC, dI) B base G0 G0 EX14_utfLengthP s.heap 0 0 [(r0, 16, 33, .int z_1)] [(r1, 111, n1, ca 1, fb)] [] H_15 locs_15 := ((hh_11.call hb_151 hb_152 hb_153 hb_154 hS_15 rfl (L1 := [(r0, 16, 33, .int z_1)]) [0] rfl rfl (M1 := [(r1, 111, n1, ca 1, fb)]) [0] rfl rfl (I1 := []) [] rfl rfl).more hb_155)
                      clear hh_11 ht_15 hvm_15 hz_15 hk_15 hS_15 hb_151 hb_152 hb_153 hb_154 hb_155
                      obtain ⟨hr_16b, hr_16p⟩ := hr_16
                      obtain ⟨hr_16p_0, hr_16p_1, hr_16p_2⟩ := hr_16p
                      have hr_16' := jb_01 hr_16b
                      have hi5 := jIn.or v6_11.toInt (55296 : Int32).toInt (57343 : Int32).toInt
                      refine lv_if_ne (tgt := 228) hx hb dX14_utfLength_217 (by decide) (fun c_17 => ?_) (fun c_17 => ?_)
                      · skip
                        have c_17' : r_16.toInt ≠ 0 := jb_ne (rfl) ((by decide)) c_17
                        refine lv_iconst (v := 0) hx hb dX14_utfLength_228 (by decide) ?_
                        rw [hQ]
                        exact W.iret (v := 0) hx hb hr (fun t ht hW => ⟨⟨0, z_1, rfl, by (try dsimp only); refine ⟨?_, by omega⟩; exact jUq.no rfl (jUc_k hb4 (by omega) hm5 (by omega) (by omega) (hi_11_3.symm.trans (jUr_z (by omega))) (jUk_x (by omega) rfl)), hh_15.rt (M1 := [(r0, 16, 33, .int z_1)]) [0] rfl ht⟩, by rw [ht]; try exact hh_15.1.1, fun q h9 hq => by rw [ht]; try exact hh_15.1.2.1 q h9 hq⟩) hh_15.1.2.2 dX14_utfLength_229
                      · skip
                        have c_17' : r_16.toInt = 0 := jb_ne_n (rfl) ((by decide)) c_17
                        refine lv_iload hx hb dX14_utfLength_220 (lv_at hl 6 rfl) ?_
                        refine lv_ldcw hx hb hown hcs_360 dX14_utfLength_222 ?_
                        refine lv_icmp_le (tgt := 230) hx hb dX14_utfLength_225 (by decide) (fun c_18 => ?_) (fun c_18 => ?_)
                        · skip
                          have c_18' : v6_11.toInt ≤ 1114111 := jb_le (rfl) ((by decide)) c_18
                          refine lv_aload_n hx hb dX14_utfLength_230 rfl (lv_at hl 0 rfl) ?_
                          refine lv_iload hx hb dX14_utfLength_231 (lv_at hl 6 rfl) ?_
                          refine j7_put hx hb hown hK hh_15 hB hAp hB16 (C := RX14) (T := TX14) (N := 74) rfl (by decide) hg_r0 (i := 33) (by decide) hly_16_33 rfl hlk_357 rfl (ty := .int) (v := .int v6_11) (by decide +kernel) rfl rfl (⟨_, rfl⟩) rfl (L1 := []) [] rfl rfl rfl dX14_utfLength_233 (fun H_19 locs_19 hh_19 => ?_)
                          clear hh_15
                          refine lv_iload hx hb dX14_utfLength_236 (lv_at hl 5 rfl) ?_
                          rw [hQ]
                          exact W.iret (v := w0_6) hx hb hr (fun t ht hW => ⟨⟨w0_6, v6_11, rfl, by (try dsimp only); refine ⟨?_, by omega⟩; exact jUq.yes (by omega) (by omega) (by omega) (by omega) (jUc_k hb4 (by omega) hm5 (by omega) (by omega) (hi_11_3.symm.trans (jUr_z (by omega))) (jUk_v (by omega) (by omega) (by omega) (by omega) (by omega) rfl)) (by omega), hh_19.rt (M1 := [(r0, 16, 33, .int v6_11)]) [0] rfl ht⟩, by rw [ht]; try exact hh_19.1.1, fun q h9 hq => by rw [ht]; try exact hh_19.1.2.1 q h9 hq⟩) hh_19.1.2.2 dX14_utfLength_238
                        · skip
                          have c_18' : v6_11.toInt > 1114111 := jb_le_n (rfl) ((by decide)) c_18
                          refine lv_iconst (v := 0) hx hb dX14_utfLength_228 (by decide) ?_
                          rw [hQ]
                          exact W.iret (v := 0) hx hb hr (fun t ht hW => ⟨⟨0, z_1, rfl, by (try dsimp only); refine ⟨?_, by omega⟩; exact jUq.no rfl (jUc_k hb4 (by omega) hm5 (by omega) (by omega) (hi_11_3.symm.trans (jUr_z (by omega))) (jUk_x (by omega) rfl)), hh_15.rt (M1 := [(r0, 16, 33, .int z_1)]) [0] rfl ht⟩, by rw [ht]; try exact hh_15.1.1, fun q h9 hq => by rw [ht]; try exact hh_15.1.2.1 q h9 hq⟩) hh_15.1.2.2 dX14_utfLength_229
                    · skip
                      have c_14' : w0_6.toInt = 4 := jb_ne_n (rfl) ((by decide)) c_14
                      refine lv_iload hx hb dX14_utfLength_201 (lv_at hl 6 rfl) ?_
                      refine lv_ldc hx hb hown hcs_197 dX14_utfLength_203 ?_
                      refine lv_icmp_lt (tgt := 228) hx hb dX14_utfLength_205 (by decide) (fun c_20 => ?_) (fun c_20 => ?_)
                      · skip
                        have c_20' : v6_11.toInt < 65536 := jb_lt (rfl) ((by decide)) c_20
                        refine lv_iconst (v := 0) hx hb dX14_utfLength_228 (by decide) ?_
                        rw [hQ]
                        exact W.iret (v := 0) hx hb hr (fun t ht hW => ⟨⟨0, z_1, rfl, by (try dsimp only); refine ⟨?_, by omega⟩; exact jUq.no rfl (jUc_k hb4 (by omega) hm5 (by omega) (by omega) (hi_11_3.symm.trans (jUr_z (by omega))) (jUk_x (by omega) rfl)), hh_11.rt (M1 := [(r0, 16, 33, .int z_1)]) [0] rfl ht⟩, by rw [ht]; try exact hh_11.1.1, fun q h9 hq => by rw [ht]; try exact hh_11.1.2.1 q h9 hq⟩) hh_11.1.2.2 dX14_utfLength_229
                      · skip
                        have c_20' : v6_11.toInt ≥ 65536 := jb_lt_n (rfl) ((by decide)) c_20
                        refine lv_iload hx hb dX14_utfLength_208 (lv_at hl 6 rfl) ?_
                        refine lv_ldc hx hb hown hcs_179 dX14_utfLength_210 ?_
                        refine lv_ldc hx hb hown hcs_186 dX14_utfLength_212 ?_
                        refine va_calli (A0 := jA base) (H0 := s.heap) (va_runS (As := [.int v6_11, .int 55296, .int 57343]) (rest := []) ⟨hx, hb, hml, hown, hts⟩ (uX14_in l dC dI ca base B hB hAp G0 H_11 v6_11 55296 57343) (va_cwS 3 hts (jgS (jWr_48 _ (List.mem_of_getElem? (i := 10) rfl)) (jWr_48 _ (List.mem_of_getElem? (i := 11) rfl)) (jWr_1 _ (List.mem_of_getElem? (i := 5) rfl)) (jWr_48 _ (List.mem_of_getElem? (i := 12) rfl))) rfl rfl rfl (by decide +kernel) ⟨by rw [← hR]; exact Nat.le_of_ble_eq_true rfl, by rw [← hR]; exact Nat.le_of_ble_eq_true rfl⟩) ⟨fun a U g mk q => by obtain ⟨q0, q1, q2, qK, q10, q11⟩ := q; exact ⟨q0, q1, q2, jG.calling g mk a qK, q10, q11⟩, fun U hU hW => ⟨rfl, hU, hh_11.2.1, hG.step hW hU hh_11.1, jP.nil, trivial⟩⟩ rfl rfl hl.1 rfl (lv_room (Nat.le_of_ble_eq_true rfl)) dX14_utfLength_214 ⟨Nat.zero_le _, Nat.zero_le _⟩) hh_11.1 (fun q _ h => h) (fun q h => h) (fun r_22 u_21 t_21 H_21 locs_21 ht_21 hvm_21 hr_22 hb_21 hz_21 hk_21 hS_21 => ?_)
                        rw [ht_21] at hb_21
                        obtain ⟨hb_211, hb_212, hb_213, hb_214, hb_215⟩ := hb_21
                        have hh_21 : jSt (dC, dI) B base G0 G0 EX14_utfLengthP s.heap 0 0 [(r0, 16, 33, .int z_1)] [(r1, 111, n1, ca 1, fb)] [] H_21 locs_21 := ((hh_11.call hb_211 hb_212 hb_213 hb_214 hS_21 rfl (L1 := [(r0, 16, 33, .int z_1)]) [0] rfl rfl (M1 := [(r1, 111, n1, ca 1, fb)]) [0] rfl rfl (I1 := []) [] rfl rfl).more hb_215)
                        clear hh_11 ht_21 hvm_21 hz_21 hk_21 hS_21 hb_211 hb_212 hb_213 hb_214 hb_215
                        obtain ⟨hr_22b, hr_22p⟩ := hr_22
                        obtain ⟨hr_22p_0, hr_22p_1, hr_22p_2⟩ := hr_22p
                        have hr_22' := jb_01 hr_22b
                        have hi5 := jIn.or v6_11.toInt (55296 : Int32).toInt (57343 : Int32).toInt
                        refine lv_if_ne (tgt := 228) hx hb dX14_utfLength_217 (by decide) (fun c_23 => ?_) (fun c_23 => ?_)
                        · skip
                          have c_23' : r_22.toInt ≠ 0 := jb_ne (rfl) ((by decide)) c_23
                          refine lv_iconst (v := 0) hx hb dX14_utfLength_228 (by decide) ?_
                          rw [hQ]
                          exact W.iret (v := 0) hx hb hr (fun t ht hW => ⟨⟨0, z_1, rfl, by (try dsimp only); refine ⟨?_, by omega⟩; exact jUq.no rfl (jUc_k hb4 (by omega) hm5 (by omega) (by omega) (hi_11_3.symm.trans (jUr_z (by omega))) (jUk_x (by omega) rfl)), hh_21.rt (M1 := [(r0, 16, 33, .int z_1)]) [0] rfl ht⟩, by rw [ht]; try exact hh_21.1.1, fun q h9 hq => by rw [ht]; try exact hh_21.1.2.1 q h9 hq⟩) hh_21.1.2.2 dX14_utfLength_229
                        · skip
                          have c_23' : r_22.toInt = 0 := jb_ne_n (rfl) ((by decide)) c_23
                          refine lv_iload hx hb dX14_utfLength_220 (lv_at hl 6 rfl) ?_
                          refine lv_ldcw hx hb hown hcs_360 dX14_utfLength_222 ?_
                          refine lv_icmp_le (tgt := 230) hx hb dX14_utfLength_225 (by decide) (fun c_24 => ?_) (fun c_24 => ?_)
                          · skip
                            have c_24' : v6_11.toInt ≤ 1114111 := jb_le (rfl) ((by decide)) c_24
                            refine lv_aload_n hx hb dX14_utfLength_230 rfl (lv_at hl 0 rfl) ?_
                            refine lv_iload hx hb dX14_utfLength_231 (lv_at hl 6 rfl) ?_
                            refine j7_put hx hb hown hK hh_21 hB hAp hB16 (C := RX14) (T := TX14) (N := 74) rfl (by decide) hg_r0 (i := 33) (by decide) hly_16_33 rfl hlk_357 rfl (ty := .int) (v := .int v6_11) (by decide +kernel) rfl rfl (⟨_, rfl⟩) rfl (L1 := []) [] rfl rfl rfl dX14_utfLength_233 (fun H_25 locs_25 hh_25 => ?_)
                            clear hh_21
                            refine lv_iload hx hb dX14_utfLength_236 (lv_at hl 5 rfl) ?_
                            rw [hQ]
                            exact W.iret (v := w0_6) hx hb hr (fun t ht hW => ⟨⟨w0_6, v6_11, rfl, by (try dsimp only); refine ⟨?_, by omega⟩; exact jUq.yes (by omega) (by omega) (by omega) (by omega) (jUc_k hb4 (by omega) hm5 (by omega) (by omega) (hi_11_3.symm.trans (jUr_z (by omega))) (jUk_v (by omega) (by omega) (by omega) (by omega) (by omega) rfl)) (by omega), hh_25.rt (M1 := [(r0, 16, 33, .int v6_11)]) [0] rfl ht⟩, by rw [ht]; try exact hh_25.1.1, fun q h9 hq => by rw [ht]; try exact hh_25.1.2.1 q h9 hq⟩) hh_25.1.2.2 dX14_utfLength_238
                          · skip
                            have c_24' : v6_11.toInt > 1114111 := jb_le_n (rfl) ((by decide)) c_24
                            refine lv_iconst (v := 0) hx hb dX14_utfLength_228 (by decide) ?_
                            rw [hQ]
                            exact W.iret (v := 0) hx hb hr (fun t ht hW => ⟨⟨0, z_1, rfl, by (try dsimp only); refine ⟨?_, by omega⟩; exact jUq.no rfl (jUc_k hb4 (by omega) hm5 (by omega) (by omega) (hi_11_3.symm.trans (jUr_z (by omega))) (jUk_x (by omega) rfl)), hh_21.rt (M1 := [(r0, 16, 33, .int z_1)]) [0] rfl ht⟩, by rw [ht]; try exact hh_21.1.1, fun q h9 hq => by rw [ht]; try exact hh_21.1.2.1 q h9 hq⟩) hh_21.1.2.2 dX14_utfLength_229
                  · skip
                    have c_13' : w0_6.toInt = 3 := jb_ne_n (rfl) ((by decide)) c_13
                    refine lv_iload hx hb dX14_utfLength_187 (lv_at hl 6 rfl) ?_
                    refine lv_sipush (v := 2048) hx hb dX14_utfLength_189 (by decide) ?_
                    refine lv_icmp_lt (tgt := 228) hx hb dX14_utfLength_192 (by decide) (fun c_26 => ?_) (fun c_26 => ?_)
                    · skip
                      have c_26' : v6_11.toInt < 2048 := jb_lt (rfl) ((by decide)) c_26
                      refine lv_iconst (v := 0) hx hb dX14_utfLength_228 (by decide) ?_
                      rw [hQ]
                      exact W.iret (v := 0) hx hb hr (fun t ht hW => ⟨⟨0, z_1, rfl, by (try dsimp only); refine ⟨?_, by omega⟩; exact jUq.no rfl (jUc_k hb4 (by omega) hm5 (by omega) (by omega) (hi_11_3.symm.trans (jUr_z (by omega))) (jUk_x (by omega) rfl)), hh_11.rt (M1 := [(r0, 16, 33, .int z_1)]) [0] rfl ht⟩, by rw [ht]; try exact hh_11.1.1, fun q h9 hq => by rw [ht]; try exact hh_11.1.2.1 q h9 hq⟩) hh_11.1.2.2 dX14_utfLength_229
                    · skip
                      have c_26' : v6_11.toInt ≥ 2048 := jb_lt_n (rfl) ((by decide)) c_26
                      refine lv_iload hx hb dX14_utfLength_195 (lv_at hl 5 rfl) ?_
                      refine lv_iconst (v := 4) hx hb dX14_utfLength_197 (by decide) ?_
                      refine lv_icmp_ne (tgt := 208) hx hb dX14_utfLength_198 (by decide) (fun c_27 => ?_) (fun c_27 => ?_)
                      · skip
                        have c_27' : w0_6.toInt ≠ 4 := jb_ne (rfl) ((by decide)) c_27
                        refine lv_iload hx hb dX14_utfLength_208 (lv_at hl 6 rfl) ?_
                        refine lv_ldc hx hb hown hcs_179 dX14_utfLength_210 ?_
                        refine lv_ldc hx hb hown hcs_186 dX14_utfLength_212 ?_
                        refine va_calli (A0 := jA base) (H0 := s.heap) (va_runS (As := [.int v6_11, .int 55296, .int 57343]) (rest := []) ⟨hx, hb, hml, hown, hts⟩ (uX14_in l dC dI ca base B hB hAp G0 H_11 v6_11 55296 57343) (va_cwS 3 hts (jgS (jWr_48 _ (List.mem_of_getElem? (i := 10) rfl)) (jWr_48 _ (List.mem_of_getElem? (i := 11) rfl)) (jWr_1 _ (List.mem_of_getElem? (i := 5) rfl)) (jWr_48 _ (List.mem_of_getElem? (i := 12) rfl))) rfl rfl rfl (by decide +kernel) ⟨by rw [← hR]; exact Nat.le_of_ble_eq_true rfl, by rw [← hR]; exact Nat.le_of_ble_eq_true rfl⟩) ⟨fun a U g mk q => by obtain ⟨q0, q1, q2, qK, q10, q11⟩ := q; exact ⟨q0, q1, q2, jG.calling g mk a qK, q10, q11⟩, fun U hU hW => ⟨rfl, hU, hh_11.2.1, hG.step hW hU hh_11.1, jP.nil, trivial⟩⟩ rfl rfl hl.1 rfl (lv_room (Nat.le_of_ble_eq_true rfl)) dX14_utfLength_214 ⟨Nat.zero_le _, Nat.zero_le _⟩) hh_11.1 (fun q _ h => h) (fun q h => h) (fun r_29 u_28 t_28 H_28 locs_28 ht_28 hvm_28 hr_29 hb_28 hz_28 hk_28 hS_28 => ?_)
                        rw [ht_28] at hb_28
                        obtain ⟨hb_281, hb_282, hb_283, hb_284, hb_285⟩ := hb_28
                        have hh_28 : jSt (dC, dI) B base G0 G0 EX14_utfLengthP s.heap 0 0 [(r0, 16, 33, .int z_1)] [(r1, 111, n1, ca 1, fb)] [] H_28 locs_28 := ((hh_11.call hb_281 hb_282 hb_283 hb_284 hS_28 rfl (L1 := [(r0, 16, 33, .int z_1)]) [0] rfl rfl (M1 := [(r1, 111, n1, ca 1, fb)]) [0] rfl rfl (I1 := []) [] rfl rfl).more hb_285)
                        clear hh_11 ht_28 hvm_28 hz_28 hk_28 hS_28 hb_281 hb_282 hb_283 hb_284 hb_285
                        obtain ⟨hr_29b, hr_29p⟩ := hr_29
                        obtain ⟨hr_29p_0, hr_29p_1, hr_29p_2⟩ := hr_29p
                        have hr_29' := jb_01 hr_29b
                        have hi5 := jIn.or v6_11.toInt (55296 : Int32).toInt (57343 : Int32).toInt
                        refine lv_if_ne (tgt := 228) hx hb dX14_utfLength_217 (by decide) (fun c_30 => ?_) (fun c_30 => ?_)
                        · skip
                          have c_30' : r_29.toInt ≠ 0 := jb_ne (rfl) ((by decide)) c_30
                          refine lv_iconst (v := 0) hx hb dX14_utfLength_228 (by decide) ?_
                          rw [hQ]
                          exact W.iret (v := 0) hx hb hr (fun t ht hW => ⟨⟨0, z_1, rfl, by (try dsimp only); refine ⟨?_, by omega⟩; exact jUq.no rfl (jUc_k hb4 (by omega) hm5 (by omega) (by omega) (hi_11_3.symm.trans (jUr_z (by omega))) (jUk_x (by omega) rfl)), hh_28.rt (M1 := [(r0, 16, 33, .int z_1)]) [0] rfl ht⟩, by rw [ht]; try exact hh_28.1.1, fun q h9 hq => by rw [ht]; try exact hh_28.1.2.1 q h9 hq⟩) hh_28.1.2.2 dX14_utfLength_229
                        · skip
                          have c_30' : r_29.toInt = 0 := jb_ne_n (rfl) ((by decide)) c_30
                          refine lv_iload hx hb dX14_utfLength_220 (lv_at hl 6 rfl) ?_
                          refine lv_ldcw hx hb hown hcs_360 dX14_utfLength_222 ?_
                          refine lv_icmp_le (tgt := 230) hx hb dX14_utfLength_225 (by decide) (fun c_31 => ?_) (fun c_31 => ?_)
                          · skip
                            have c_31' : v6_11.toInt ≤ 1114111 := jb_le (rfl) ((by decide)) c_31
                            refine lv_aload_n hx hb dX14_utfLength_230 rfl (lv_at hl 0 rfl) ?_
                            refine lv_iload hx hb dX14_utfLength_231 (lv_at hl 6 rfl) ?_
                            refine j7_put hx hb hown hK hh_28 hB hAp hB16 (C := RX14) (T := TX14) (N := 74) rfl (by decide) hg_r0 (i := 33) (by decide) hly_16_33 rfl hlk_357 rfl (ty := .int) (v := .int v6_11) (by decide +kernel) rfl rfl (⟨_, rfl⟩) rfl (L1 := []) [] rfl rfl rfl dX14_utfLength_233 (fun H_32 locs_32 hh_32 => ?_)
                            clear hh_28
                            refine lv_iload hx hb dX14_utfLength_236 (lv_at hl 5 rfl) ?_
                            rw [hQ]
                            exact W.iret (v := w0_6) hx hb hr (fun t ht hW => ⟨⟨w0_6, v6_11, rfl, by (try dsimp only); refine ⟨?_, by omega⟩; exact jUq.yes (by omega) (by omega) (by omega) (by omega) (jUc_k hb4 (by omega) hm5 (by omega) (by omega) (hi_11_3.symm.trans (jUr_z (by omega))) (jUk_v (by omega) (by omega) (by omega) (by omega) (by omega) rfl)) (by omega), hh_32.rt (M1 := [(r0, 16, 33, .int v6_11)]) [0] rfl ht⟩, by rw [ht]; try exact hh_32.1.1, fun q h9 hq => by rw [ht]; try exact hh_32.1.2.1 q h9 hq⟩) hh_32.1.2.2 dX14_utfLength_238
                          · skip
                            have c_31' : v6_11.toInt > 1114111 := jb_le_n (rfl) ((by decide)) c_31
                            refine lv_iconst (v := 0) hx hb dX14_utfLength_228 (by decide) ?_
                            rw [hQ]
                            exact W.iret (v := 0) hx hb hr (fun t ht hW => ⟨⟨0, z_1, rfl, by (try dsimp only); refine ⟨?_, by omega⟩; exact jUq.no rfl (jUc_k hb4 (by omega) hm5 (by omega) (by omega) (hi_11_3.symm.trans (jUr_z (by omega))) (jUk_x (by omega) rfl)), hh_28.rt (M1 := [(r0, 16, 33, .int z_1)]) [0] rfl ht⟩, by rw [ht]; try exact hh_28.1.1, fun q h9 hq => by rw [ht]; try exact hh_28.1.2.1 q h9 hq⟩) hh_28.1.2.2 dX14_utfLength_229
                      · skip
                        have c_27' : w0_6.toInt = 4 := jb_ne_n (rfl) ((by decide)) c_27
                        refine lv_iload hx hb dX14_utfLength_201 (lv_at hl 6 rfl) ?_
                        refine lv_ldc hx hb hown hcs_197 dX14_utfLength_203 ?_
                        refine lv_icmp_lt (tgt := 228) hx hb dX14_utfLength_205 (by decide) (fun c_33 => ?_) (fun c_33 => ?_)
                        · skip
                          have c_33' : v6_11.toInt < 65536 := jb_lt (rfl) ((by decide)) c_33
                          refine lv_iconst (v := 0) hx hb dX14_utfLength_228 (by decide) ?_
                          rw [hQ]
                          exact W.iret (v := 0) hx hb hr (fun t ht hW => ⟨⟨0, z_1, rfl, by (try dsimp only); refine ⟨?_, by omega⟩; exact jUq.no rfl (jUc_k hb4 (by omega) hm5 (by omega) (by omega) (hi_11_3.symm.trans (jUr_z (by omega))) (jUk_x (by omega) rfl)), hh_11.rt (M1 := [(r0, 16, 33, .int z_1)]) [0] rfl ht⟩, by rw [ht]; try exact hh_11.1.1, fun q h9 hq => by rw [ht]; try exact hh_11.1.2.1 q h9 hq⟩) hh_11.1.2.2 dX14_utfLength_229
                        · skip
                          have c_33' : v6_11.toInt ≥ 65536 := jb_lt_n (rfl) ((by decide)) c_33
                          refine lv_iload hx hb dX14_utfLength_208 (lv_at hl 6 rfl) ?_
                          refine lv_ldc hx hb hown hcs_179 dX14_utfLength_210 ?_
                          refine lv_ldc hx hb hown hcs_186 dX14_utfLength_212 ?_
                          refine va_calli (A0 := jA base) (H0 := s.heap) (va_runS (As := [.int v6_11, .int 55296, .int 57343]) (rest := []) ⟨hx, hb, hml, hown, hts⟩ (uX14_in l dC dI ca base B hB hAp G0 H_11 v6_11 55296 57343) (va_cwS 3 hts (jgS (jWr_48 _ (List.mem_of_getElem? (i := 10) rfl)) (jWr_48 _ (List.mem_of_getElem? (i := 11) rfl)) (jWr_1 _ (List.mem_of_getElem? (i := 5) rfl)) (jWr_48 _ (List.mem_of_getElem? (i := 12) rfl))) rfl rfl rfl (by decide +kernel) ⟨by rw [← hR]; exact Nat.le_of_ble_eq_true rfl, by rw [← hR]; exact Nat.le_of_ble_eq_true rfl⟩) ⟨fun a U g mk q => by obtain ⟨q0, q1, q2, qK, q10, q11⟩ := q; exact ⟨q0, q1, q2, jG.calling g mk a qK, q10, q11⟩, fun U hU hW => ⟨rfl, hU, hh_11.2.1, hG.step hW hU hh_11.1, jP.nil, trivial⟩⟩ rfl rfl hl.1 rfl (lv_room (Nat.le_of_ble_eq_true rfl)) dX14_utfLength_214 ⟨Nat.zero_le _, Nat.zero_le _⟩) hh_11.1 (fun q _ h => h) (fun q h => h) (fun r_35 u_34 t_34 H_34 locs_34 ht_34 hvm_34 hr_35 hb_34 hz_34 hk_34 hS_34 => ?_)
                          rw [ht_34] at hb_34
                          obtain ⟨hb_341, hb_342, hb_343, hb_344, hb_345⟩ := hb_34
                          have hh_34 : jSt (dC, dI) B base G0 G0 EX14_utfLengthP s.heap 0 0 [(r0, 16, 33, .int z_1)] [(r1, 111, n1, ca 1, fb)] [] H_34 locs_34 := ((hh_11.call hb_341 hb_342 hb_343 hb_344 hS_34 rfl (L1 := [(r0, 16, 33, .int z_1)]) [0] rfl rfl (M1 := [(r1, 111, n1, ca 1, fb)]) [0] rfl rfl (I1 := []) [] rfl rfl).more hb_345)
                          clear hh_11 ht_34 hvm_34 hz_34 hk_34 hS_34 hb_341 hb_342 hb_343 hb_344 hb_345
                          obtain ⟨hr_35b, hr_35p⟩ := hr_35
                          obtain ⟨hr_35p_0, hr_35p_1, hr_35p_2⟩ := hr_35p
                          have hr_35' := jb_01 hr_35b
                          have hi5 := jIn.or v6_11.toInt (55296 : Int32).toInt (57343 : Int32).toInt
                          refine lv_if_ne (tgt := 228) hx hb dX14_utfLength_217 (by decide) (fun c_36 => ?_) (fun c_36 => ?_)
                          · skip
                            have c_36' : r_35.toInt ≠ 0 := jb_ne (rfl) ((by decide)) c_36
                            refine lv_iconst (v := 0) hx hb dX14_utfLength_228 (by decide) ?_
                            rw [hQ]
                            exact W.iret (v := 0) hx hb hr (fun t ht hW => ⟨⟨0, z_1, rfl, by (try dsimp only); refine ⟨?_, by omega⟩; exact jUq.no rfl (jUc_k hb4 (by omega) hm5 (by omega) (by omega) (hi_11_3.symm.trans (jUr_z (by omega))) (jUk_x (by omega) rfl)), hh_34.rt (M1 := [(r0, 16, 33, .int z_1)]) [0] rfl ht⟩, by rw [ht]; try exact hh_34.1.1, fun q h9 hq => by rw [ht]; try exact hh_34.1.2.1 q h9 hq⟩) hh_34.1.2.2 dX14_utfLength_229
                          · skip
                            have c_36' : r_35.toInt = 0 := jb_ne_n (rfl) ((by decide)) c_36
                            refine lv_iload hx hb dX14_utfLength_220 (lv_at hl 6 rfl) ?_
                            refine lv_ldcw hx hb hown hcs_360 dX14_utfLength_222 ?_
                            refine lv_icmp_le (tgt := 230) hx hb dX14_utfLength_225 (by decide) (fun c_37 => ?_) (fun c_37 => ?_)
                            · skip
                              have c_37' : v6_11.toInt ≤ 1114111 := jb_le (rfl) ((by decide)) c_37
                              refine lv_aload_n hx hb dX14_utfLength_230 rfl (lv_at hl 0 rfl) ?_
                              refine lv_iload hx hb dX14_utfLength_231 (lv_at hl 6 rfl) ?_
                              refine j7_put hx hb hown hK hh_34 hB hAp hB16 (C := RX14) (T := TX14) (N := 74) rfl (by decide) hg_r0 (i := 33) (by decide) hly_16_33 rfl hlk_357 rfl (ty := .int) (v := .int v6_11) (by decide +kernel) rfl rfl (⟨_, rfl⟩) rfl (L1 := []) [] rfl rfl rfl dX14_utfLength_233 (fun H_38 locs_38 hh_38 => ?_)
                              clear hh_34
                              refine lv_iload hx hb dX14_utfLength_236 (lv_at hl 5 rfl) ?_
                              rw [hQ]
                              exact W.iret (v := w0_6) hx hb hr (fun t ht hW => ⟨⟨w0_6, v6_11, rfl, by (try dsimp only); refine ⟨?_, by omega⟩; exact jUq.yes (by omega) (by omega) (by omega) (by omega) (jUc_k hb4 (by omega) hm5 (by omega) (by omega) (hi_11_3.symm.trans (jUr_z (by omega))) (jUk_v (by omega) (by omega) (by omega) (by omega) (by omega) rfl)) (by omega), hh_38.rt (M1 := [(r0, 16, 33, .int v6_11)]) [0] rfl ht⟩, by rw [ht]; try exact hh_38.1.1, fun q h9 hq => by rw [ht]; try exact hh_38.1.2.1 q h9 hq⟩) hh_38.1.2.2 dX14_utfLength_238
                            · skip
                              have c_37' : v6_11.toInt > 1114111 := jb_le_n (rfl) ((by decide)) c_37
                              refine lv_iconst (v := 0) hx hb dX14_utfLength_228 (by decide) ?_
                              rw [hQ]
                              exact W.iret (v := 0) hx hb hr (fun t ht hW => ⟨⟨0, z_1, rfl, by (try dsimp only); refine ⟨?_, by omega⟩; exact jUq.no rfl (jUc_k hb4 (by omega) hm5 (by omega) (by omega) (hi_11_3.symm.trans (jUr_z (by omega))) (jUk_x (by omega) rfl)), hh_34.rt (M1 := [(r0, 16, 33, .int z_1)]) [0] rfl ht⟩, by rw [ht]; try exact hh_34.1.1, fun q h9 hq => by rw [ht]; try exact hh_34.1.2.1 q h9 hq⟩) hh_34.1.2.2 dX14_utfLength_229
                · skip
                  have c_12' : v7_11.toInt < w0_6.toInt := jb_ge_n (rfl) (rfl) c_12
                  refine lv_aload_n hx hb dX14_utfLength_138 rfl (lv_at hl 1 rfl) ?_
                  refine lv_iload_n hx hb dX14_utfLength_139 rfl (lv_at hl 2 rfl) ?_
                  refine lv_iload hx hb dX14_utfLength_140 (lv_at hl 7 rfl) ?_
                  refine lv_iadd hx hb dX14_utfLength_142 ?_
                  refine lv_topi (fun z_39 ez_39 => ?_)
                  have hz_39 : z_39.toInt = a2.toInt + v7_11.toInt := by rw [ez_39]; exact jb_iadd2 (rfl) (rfl) (by omega)
                  refine j7_ialdM hx hb hK hh_11 hB111 1 rfl (by decide) hg_r1 (x := z_39.toInt) (rfl) (by omega) (j := 0) rfl dX14_utfLength_143 (fun z_40 ez_40 (hz_40 : 0 ≤ z_40.toInt ∧ z_40.toInt ≤ 255) => ?_)
                  have hqz_40 : z_40.toInt = jSo fb ((a2.toInt + v7_11.toInt)) := by unfold jSo; rw [ez_40, show z_39.toInt = (a2.toInt + v7_11.toInt) by omega]
                  have hb7 : z_40.toInt = jB8 fb (a2.toInt + v7_11.toInt) := by unfold jB8; rw [← hqz_40]; omega
                  have hbr := hi_11_2.r (by omega)
                  refine lv_sipush (v := 128) hx hb dX14_utfLength_144 (by decide) ?_
                  refine lv_sipush (v := 191) hx hb dX14_utfLength_147 (by decide) ?_
                  refine va_calli (A0 := jA base) (H0 := s.heap) (va_runS (As := [.int z_40, .int 128, .int 191]) (rest := []) ⟨hx, hb, hml, hown, hts⟩ (uX14_in l dC dI ca base B hB hAp G0 H_11 z_40 128 191) (va_cwS 3 hts (jgS (jWr_48 _ (List.mem_of_getElem? (i := 10) rfl)) (jWr_48 _ (List.mem_of_getElem? (i := 11) rfl)) (jWr_1 _ (List.mem_of_getElem? (i := 5) rfl)) (jWr_48 _ (List.mem_of_getElem? (i := 12) rfl))) rfl rfl rfl (by decide +kernel) ⟨by rw [← hR]; exact Nat.le_of_ble_eq_true rfl, by rw [← hR]; exact Nat.le_of_ble_eq_true rfl⟩) ⟨fun a U g mk q => by obtain ⟨q0, q1, q2, qK, q10, q11⟩ := q; exact ⟨q0, q1, q2, jG.calling g mk a qK, q10, q11⟩, fun U hU hW => ⟨rfl, hU, hh_11.2.1, hG.step hW hU hh_11.1, jP.nil, trivial⟩⟩ rfl rfl hl.1 rfl (lv_room (Nat.le_of_ble_eq_true rfl)) dX14_utfLength_150 ⟨Nat.zero_le _, Nat.zero_le _⟩) hh_11.1 (fun q _ h => h) (fun q h => h) (fun r_42 u_41 t_41 H_41 locs_41 ht_41 hvm_41 hr_42 hb_41 hz_41 hk_41 hS_41 => ?_)
                  rw [ht_41] at hb_41
                  obtain ⟨hb_411, hb_412, hb_413, hb_414, hb_415⟩ := hb_41
                  have hh_41 : jSt (dC, dI) B base G0 G0 EX14_utfLengthP s.heap 0 0 [(r0, 16, 33, .int z_1)] [(r1, 111, n1, ca 1, fb)] [] H_41 locs_41 := ((hh_11.call hb_411 hb_412 hb_413 hb_414 hS_41 rfl (L1 := [(r0, 16, 33, .int z_1)]) [0] rfl rfl (M1 := [(r1, 111, n1, ca 1, fb)]) [0] rfl rfl (I1 := []) [] rfl rfl).more hb_415)
                  clear hh_11 ht_41 hvm_41 hz_41 hk_41 hS_41 hb_411 hb_412 hb_413 hb_414 hb_415
                  obtain ⟨hr_42b, hr_42p⟩ := hr_42
                  obtain ⟨hr_42p_0, hr_42p_1, hr_42p_2⟩ := hr_42p
                  have hr_42' := jb_01 hr_42b
                  have hi4 := jIn.or z_40.toInt (128 : Int32).toInt (191 : Int32).toInt
                  refine lv_if_ne (tgt := 158) hx hb dX14_utfLength_153 (by decide) (fun c_43 => ?_) (fun c_43 => ?_)
                  · skip
                    have c_43' : r_42.toInt ≠ 0 := jb_ne (rfl) ((by decide)) c_43
                    refine lv_iload hx hb dX14_utfLength_158 (lv_at hl 6 rfl) ?_
                    refine lv_bipush (v := 6) hx hb dX14_utfLength_160 (by decide) ?_
                    refine lv_ishl hx hb dX14_utfLength_162 ?_
                    refine lv_topi (fun z_44 ez_44 => ?_)
                    have hbz_44 := jb_shlc 6 64 ez_44 (by decide) (by decide) (by omega) (by omega)
                    refine lv_aload_n hx hb dX14_utfLength_163 rfl (lv_at hl 1 rfl) ?_
                    refine lv_iload_n hx hb dX14_utfLength_164 rfl (lv_at hl 2 rfl) ?_
                    refine lv_iload hx hb dX14_utfLength_165 (lv_at hl 7 rfl) ?_
                    refine lv_iadd hx hb dX14_utfLength_167 ?_
                    refine lv_topi (fun z_45 ez_45 => ?_)
                    have hz_45 : z_45.toInt = a2.toInt + v7_11.toInt := by rw [ez_45]; exact jb_iadd2 (rfl) (rfl) (by omega)
                    refine j7_ialdM hx hb hK hh_41 hB111 1 rfl (by decide) hg_r1 (x := z_45.toInt) (rfl) (by omega) (j := 0) rfl dX14_utfLength_168 (fun z_46 ez_46 (hz_46 : 0 ≤ z_46.toInt ∧ z_46.toInt ≤ 255) => ?_)
                    have hqz_46 : z_46.toInt = jSo fb ((a2.toInt + v7_11.toInt)) := by unfold jSo; rw [ez_46, show z_45.toInt = (a2.toInt + v7_11.toInt) by omega]
                    refine lv_bipush (v := 63) hx hb dX14_utfLength_169 (by decide) ?_
                    refine lv_iand hx hb dX14_utfLength_171 ?_
                    refine lv_topi (fun z_47 ez_47 => ?_)
                    have hz_47 : 0 ≤ z_47.toInt ∧ z_47.toInt ≤ 63 := by rw [ez_47]; exact jb_and z_46 (m := 63) (k := 6) (by decide) (by decide)
                    refine lv_ior hx hb dX14_utfLength_172 ?_
                    refine lv_topi (fun z_48 ez_48 => ?_)
                    have hb8 : z_46.toInt = z_40.toInt := by rw [hqz_46, hqz_40]
                    have hy7 := jb_a63 ez_47
                    have hz5 := jb_or64 ez_48 v6_11.toInt (by omega) (by omega) (by omega) (by omega) (by omega)
                    refine lv_istore (lv' := [(6, .int z_48), (0, .ref r0), (1, .ref r1), (2, .int a2), (3, .int a3), (4, .int z_1), (5, .int w0_6), (7, .int v7_11)]) hx hb dX14_utfLength_173 hl (by decide) rfl (fun ls hl => ?_)
                    obtain ⟨z_49, ez_49⟩ : ∃ y : Int32, y = v7_11 + 1 := ⟨_, rfl⟩
                    refine lv_iinc (v := z_49) (lv' := [(7, .int z_49), (6, .int z_48), (0, .ref r0), (1, .ref r1), (2, .int a2), (3, .int a3), (4, .int z_1), (5, .int w0_6)]) hx hb dX14_utfLength_175 hl (k := 7) rfl (by rw [ez_49]; rfl) (by decide) rfl (fun ls hl => ?_)
                    have hz_49 : z_49.toInt = v7_11.toInt + 1 := by rw [ez_49]; exact jb_iadd2 (rfl) (by decide) (by omega)
                    refine lv_goto (tgt := 131) hx hb dX14_utfLength_178 (by decide) ?_
                    exact L131 z_48 z_49 _ _ hh_41 (by refine ⟨by omega, by omega, hi_11_2.step (y := z_47.toInt) (by omega) (by omega) (by omega) (by omega) (by omega), ?_⟩; exact ((jUr_e (by omega) (by omega) rfl).trans (jUr_n (by omega) hb7 (by omega) (by omega) rfl (by omega))).trans hi_11_3) (by omega) _ (lv_sub hl [2, 3, 4, 5, 6, 7, 1, 0] rfl)
                  · skip
                    have c_43' : r_42.toInt = 0 := jb_ne_n (rfl) ((by decide)) c_43
                    refine lv_iconst (v := 0) hx hb dX14_utfLength_156 (by decide) ?_
                    rw [hQ]
                    exact W.iret (v := 0) hx hb hr (fun t ht hW => ⟨⟨0, z_1, rfl, by (try dsimp only); refine ⟨?_, by omega⟩; exact jUq.no rfl (jUc_k hb4 (by omega) hm5 (by omega) (by omega) (hi_11_3.symm.trans (jUr_x (by omega) hb7 (by omega))) (jUk_x (Or.inl (by decide)) rfl)), hh_41.rt (M1 := [(r0, 16, 33, .int z_1)]) [0] rfl ht⟩, by rw [ht]; try exact hh_41.1.1, fun q h9 hq => by rw [ht]; try exact hh_41.1.2.1 q h9 hq⟩) hh_41.1.2.2 dX14_utfLength_157
            exact L131 (w0_6.toInt - (1 : Int32).toInt : Int).toNat.succ w0_10 1 _ _ hh_10 (by refine ⟨by omega, by omega, jUb.start hm5 (by omega) (by omega) (by omega) (by omega) (by omega) hi_10_1, ?_⟩; exact jUr_e (by omega) (by omega) hi_10_1) (by omega) _ (lv_sub hl [2, 3, 4, 5, 6, 7, 1, 0] rfl)
          refine lv_icmp_ne (tgt := 107) hx hb dX14_utfLength_96 (by decide) (fun c_50 => ?_) (fun c_50 => ?_)
          · skip
            have c_50' : w0_6.toInt ≠ 2 := jb_ne (rfl) ((by decide)) c_50
            refine lv_iload hx hb dX14_utfLength_107 (lv_at hl 0 rfl) ?_
            refine lv_iconst (v := 3) hx hb dX14_utfLength_109 (by decide) ?_
            refine lv_icmp_ne (tgt := 121) hx hb dX14_utfLength_110 (by decide) (fun c_51 => ?_) (fun c_51 => ?_)
            · skip
              have c_51' : w0_6.toInt ≠ 3 := jb_ne (rfl) ((by decide)) c_51
              refine lv_iload hx hb dX14_utfLength_121 (lv_at hl 5 rfl) ?_
              refine lv_bipush (v := 7) hx hb dX14_utfLength_123 (by decide) ?_
              refine lv_iand hx hb dX14_utfLength_125 ?_
              refine lv_topi (fun z_52 ez_52 => ?_)
              have hz_52 : 0 ≤ z_52.toInt ∧ z_52.toInt ≤ 7 := by rw [ez_52]; exact jb_and z_1 (m := 7) (k := 3) (by decide) (by decide)
              exact C126 z_52 _ _ hh_6 (⟨(by first | omega | rfl | assumption | (unfold jU0; rw [if_pos (by omega)]; exact jb_a31 (zz_none)) | (unfold jU0; rw [if_neg (by omega), if_pos (by omega), (zz_none)]; exact jb_and15 _) | (unfold jU0; rw [if_neg (by omega), if_neg (by omega)]; exact jb_a7 ez_52)), (by first | omega | rfl | assumption | (unfold jU0; rw [if_pos (by omega)]; exact jb_a31 (zz_none)) | (unfold jU0; rw [if_neg (by omega), if_pos (by omega), (zz_none)]; exact jb_and15 _) | (unfold jU0; rw [if_neg (by omega), if_neg (by omega)]; exact jb_a7 ez_52))⟩) _ (lv_sub hl [1, 2, 3, 4, 5, 0] rfl)
            · skip
              have c_51' : w0_6.toInt = 3 := jb_ne_n (rfl) ((by decide)) c_51
              refine lv_iload hx hb dX14_utfLength_113 (lv_at hl 5 rfl) ?_
              refine lv_bipush (v := 15) hx hb dX14_utfLength_115 (by decide) ?_
              refine lv_iand hx hb dX14_utfLength_117 ?_
              refine lv_topi (fun z_53 ez_53 => ?_)
              have hz_53 : 0 ≤ z_53.toInt ∧ z_53.toInt ≤ 15 := by rw [ez_53]; exact jb_and z_1 (m := 15) (k := 4) (by decide) (by decide)
              refine lv_goto (tgt := 126) hx hb dX14_utfLength_118 (by decide) ?_
              exact C126 z_53 _ _ hh_6 (⟨(by first | omega | rfl | assumption | (unfold jU0; rw [if_pos (by omega)]; exact jb_a31 (zz_none)) | (unfold jU0; rw [if_neg (by omega), if_pos (by omega), ez_53]; exact jb_and15 _) | (unfold jU0; rw [if_neg (by omega), if_neg (by omega)]; exact jb_a7 ez_52)), (by first | omega | rfl | assumption | (unfold jU0; rw [if_pos (by omega)]; exact jb_a31 (zz_none)) | (unfold jU0; rw [if_neg (by omega), if_pos (by omega), ez_53]; exact jb_and15 _) | (unfold jU0; rw [if_neg (by omega), if_neg (by omega)]; exact jb_a7 ez_52))⟩) _ (lv_sub hl [1, 2, 3, 4, 5, 0] rfl)
          · skip
            have c_50' : w0_6.toInt = 2 := jb_ne_n (rfl) ((by decide)) c_50
            refine lv_iload hx hb dX14_utfLength_99 (lv_at hl 5 rfl) ?_
            refine lv_bipush (v := 31) hx hb dX14_utfLength_101 (by decide) ?_
            refine lv_iand hx hb dX14_utfLength_103 ?_
            refine lv_topi (fun z_54 ez_54 => ?_)
            have hz_54 : 0 ≤ z_54.toInt ∧ z_54.toInt ≤ 31 := by rw [ez_54]; exact jb_and z_1 (m := 31) (k := 5) (by decide) (by decide)
            refine lv_goto (tgt := 126) hx hb dX14_utfLength_104 (by decide) ?_
            exact C126 z_54 _ _ hh_6 (⟨(by first | omega | rfl | assumption | (unfold jU0; rw [if_pos (by omega)]; exact jb_a31 ez_54) | (unfold jU0; rw [if_neg (by omega), if_pos (by omega), ez_53]; exact jb_and15 _) | (unfold jU0; rw [if_neg (by omega), if_neg (by omega)]; exact jb_a7 ez_52)), (by first | omega | rfl | assumption | (unfold jU0; rw [if_pos (by omega)]; exact jb_a31 ez_54) | (unfold jU0; rw [if_neg (by omega), if_pos (by omega), ez_53]; exact jb_and15 _) | (unfold jU0; rw [if_neg (by omega), if_neg (by omega)]; exact jb_a7 ez_52))⟩) _ (lv_sub hl [1, 2, 3, 4, 5, 0] rfl)
        · skip
          have c_9' : z_8.toInt > a3.toInt := jb_le_n (rfl) (rfl) c_9
          refine lv_iconst (v := 0) hx hb dX14_utfLength_91 (by decide) ?_
          rw [hQ]
          exact W.iret (v := 0) hx hb hr (fun t ht hW => ⟨⟨0, z_1, rfl, by (try dsimp only); refine ⟨?_, by omega⟩; exact jUq.no rfl (jUc_m hb4 (by omega) rfl (by first | exact Or.inl (jUm.none (by omega)) | (have h9 := jUm.ref (x := z_1.toInt) (n := w0_6.toInt) (by omega); omega)) rfl), hh_6.rt (M1 := [(r0, 16, 33, .int z_1)]) [0] rfl ht⟩, by rw [ht]; try exact hh_6.1.1, fun q h9 hq => by rw [ht]; try exact hh_6.1.2.1 q h9 hq⟩) hh_6.1.2.2 dX14_utfLength_92
    have hi1 := jIn.or z_1.toInt (194 : Int32).toInt (223 : Int32).toInt
    refine lv_if_eq (tgt := 39) hx hb dX14_utfLength_32 (by decide) (fun c_55 => ?_) (fun c_55 => ?_)
    · skip
      have c_55' : r_5.toInt = 0 := jb_eq (rfl) ((by decide)) c_55
      refine lv_iload hx hb dX14_utfLength_39 (lv_at hl 0 rfl) ?_
      refine lv_sipush (v := 224) hx hb dX14_utfLength_41 (by decide) ?_
      refine lv_sipush (v := 239) hx hb dX14_utfLength_44 (by decide) ?_
      refine va_calli (A0 := jA base) (H0 := s.heap) (va_runS (As := [.int z_1, .int 224, .int 239]) (rest := []) ⟨hx, hb, hml, hown, hts⟩ (uX14_in l dC dI ca base B hB hAp G0 H_4 z_1 224 239) (va_cwS 3 hts (jgS (jWr_48 _ (List.mem_of_getElem? (i := 10) rfl)) (jWr_48 _ (List.mem_of_getElem? (i := 11) rfl)) (jWr_1 _ (List.mem_of_getElem? (i := 5) rfl)) (jWr_48 _ (List.mem_of_getElem? (i := 12) rfl))) rfl rfl rfl (by decide +kernel) ⟨by rw [← hR]; exact Nat.le_of_ble_eq_true rfl, by rw [← hR]; exact Nat.le_of_ble_eq_true rfl⟩) ⟨fun a U g mk q => by obtain ⟨q0, q1, q2, qK, q10, q11⟩ := q; exact ⟨q0, q1, q2, jG.calling g mk a qK, q10, q11⟩, fun U hU hW => ⟨rfl, hU, hh_4.2.1, hG.step hW hU hh_4.1, jP.nil, trivial⟩⟩ rfl rfl hl.1 rfl (lv_room (Nat.le_of_ble_eq_true rfl)) dX14_utfLength_47 ⟨Nat.zero_le _, Nat.zero_le _⟩) hh_4.1 (fun q _ h => h) (fun q h => h) (fun r_57 u_56 t_56 H_56 locs_56 ht_56 hvm_56 hr_57 hb_56 hz_56 hk_56 hS_56 => ?_)
      rw [ht_56] at hb_56
      obtain ⟨hb_561, hb_562, hb_563, hb_564, hb_565⟩ := hb_56
      have hh_56 : jSt (dC, dI) B base G0 G0 EX14_utfLengthP s.heap 0 0 [(r0, 16, 33, .int z_1)] [(r1, 111, n1, ca 1, fb)] [] H_56 locs_56 := ((hh_4.call hb_561 hb_562 hb_563 hb_564 hS_56 rfl (L1 := [(r0, 16, 33, .int z_1)]) [0] rfl rfl (M1 := [(r1, 111, n1, ca 1, fb)]) [0] rfl rfl (I1 := []) [] rfl rfl).more hb_565)
      clear hh_4 ht_56 hvm_56 hz_56 hk_56 hS_56 hb_561 hb_562 hb_563 hb_564 hb_565
      obtain ⟨hr_57b, hr_57p⟩ := hr_57
      obtain ⟨hr_57p_0, hr_57p_1, hr_57p_2⟩ := hr_57p
      have hr_57' := jb_01 hr_57b
      have hi2 := jIn.or z_1.toInt (224 : Int32).toInt (239 : Int32).toInt
      refine lv_if_eq (tgt := 57) hx hb dX14_utfLength_50 (by decide) (fun c_58 => ?_) (fun c_58 => ?_)
      · skip
        have c_58' : r_57.toInt = 0 := jb_eq (rfl) ((by decide)) c_58
        refine lv_iload hx hb dX14_utfLength_57 (lv_at hl 0 rfl) ?_
        refine lv_sipush (v := 240) hx hb dX14_utfLength_59 (by decide) ?_
        refine lv_sipush (v := 244) hx hb dX14_utfLength_62 (by decide) ?_
        refine va_calli (A0 := jA base) (H0 := s.heap) (va_runS (As := [.int z_1, .int 240, .int 244]) (rest := []) ⟨hx, hb, hml, hown, hts⟩ (uX14_in l dC dI ca base B hB hAp G0 H_56 z_1 240 244) (va_cwS 3 hts (jgS (jWr_48 _ (List.mem_of_getElem? (i := 10) rfl)) (jWr_48 _ (List.mem_of_getElem? (i := 11) rfl)) (jWr_1 _ (List.mem_of_getElem? (i := 5) rfl)) (jWr_48 _ (List.mem_of_getElem? (i := 12) rfl))) rfl rfl rfl (by decide +kernel) ⟨by rw [← hR]; exact Nat.le_of_ble_eq_true rfl, by rw [← hR]; exact Nat.le_of_ble_eq_true rfl⟩) ⟨fun a U g mk q => by obtain ⟨q0, q1, q2, qK, q10, q11⟩ := q; exact ⟨q0, q1, q2, jG.calling g mk a qK, q10, q11⟩, fun U hU hW => ⟨rfl, hU, hh_56.2.1, hG.step hW hU hh_56.1, jP.nil, trivial⟩⟩ rfl rfl hl.1 rfl (lv_room (Nat.le_of_ble_eq_true rfl)) dX14_utfLength_65 ⟨Nat.zero_le _, Nat.zero_le _⟩) hh_56.1 (fun q _ h => h) (fun q h => h) (fun r_60 u_59 t_59 H_59 locs_59 ht_59 hvm_59 hr_60 hb_59 hz_59 hk_59 hS_59 => ?_)
        rw [ht_59] at hb_59
        obtain ⟨hb_591, hb_592, hb_593, hb_594, hb_595⟩ := hb_59
        have hh_59 : jSt (dC, dI) B base G0 G0 EX14_utfLengthP s.heap 0 0 [(r0, 16, 33, .int z_1)] [(r1, 111, n1, ca 1, fb)] [] H_59 locs_59 := ((hh_56.call hb_591 hb_592 hb_593 hb_594 hS_59 rfl (L1 := [(r0, 16, 33, .int z_1)]) [0] rfl rfl (M1 := [(r1, 111, n1, ca 1, fb)]) [0] rfl rfl (I1 := []) [] rfl rfl).more hb_595)
        clear hh_56 ht_59 hvm_59 hz_59 hk_59 hS_59 hb_591 hb_592 hb_593 hb_594 hb_595
        obtain ⟨hr_60b, hr_60p⟩ := hr_60
        obtain ⟨hr_60p_0, hr_60p_1, hr_60p_2⟩ := hr_60p
        have hr_60' := jb_01 hr_60b
        have hi3 := jIn.or z_1.toInt (240 : Int32).toInt (244 : Int32).toInt
        refine lv_if_eq (tgt := 75) hx hb dX14_utfLength_68 (by decide) (fun c_61 => ?_) (fun c_61 => ?_)
        · skip
          have c_61' : r_60.toInt = 0 := jb_eq (rfl) ((by decide)) c_61
          refine lv_iconst (v := 0) hx hb dX14_utfLength_75 (by decide) ?_
          exact C76 0 _ _ hh_59 (by first | omega | rfl | assumption | decide | exact Or.inl rfl | exact Or.inr rfl | (simp only; omega)) _ (lv_sub hl [1, 2, 3, 4, 0] rfl)
        · skip
          have c_61' : r_60.toInt ≠ 0 := jb_eq_n (rfl) ((by decide)) c_61
          refine lv_iconst (v := 4) hx hb dX14_utfLength_71 (by decide) ?_
          refine lv_goto (tgt := 76) hx hb dX14_utfLength_72 (by decide) ?_
          exact C76 4 _ _ hh_59 (by first | omega | rfl | assumption | decide | exact Or.inl rfl | exact Or.inr rfl | (simp only; omega)) _ (lv_sub hl [1, 2, 3, 4, 0] rfl)
      · skip
        have c_58' : r_57.toInt ≠ 0 := jb_eq_n (rfl) ((by decide)) c_58
        refine lv_iconst (v := 3) hx hb dX14_utfLength_53 (by decide) ?_
        refine lv_goto (tgt := 76) hx hb dX14_utfLength_54 (by decide) ?_
        exact C76 3 _ _ hh_56 (by first | omega | rfl | assumption | decide | exact Or.inl rfl | exact Or.inr rfl | (simp only; omega)) _ (lv_sub hl [1, 2, 3, 4, 0] rfl)
    · skip
      have c_55' : r_5.toInt ≠ 0 := jb_eq_n (rfl) ((by decide)) c_55
      refine lv_iconst (v := 2) hx hb dX14_utfLength_35 (by decide) ?_
      refine lv_goto (tgt := 76) hx hb dX14_utfLength_36 (by decide) ?_
      exact C76 2 _ _ hh_4 (by first | omega | rfl | assumption | decide | exact Or.inl rfl | exact Or.inr rfl | (simp only; omega)) _ (lv_sub hl [1, 2, 3, 4, 0] rfl)
  · skip
    have c_3' : z_1.toInt < 128 := jb_ge_n (rfl) ((by decide)) c_3
    refine lv_iconst (v := 1) hx hb dX14_utfLength_19 (by decide) ?_
    rw [hQ]
    exact W.iret (v := 1) hx hb hr (fun t ht hW => ⟨⟨1, z_1, rfl, by (try dsimp only); refine ⟨?_, by omega⟩; exact jUq.yes (by omega) (by omega) (by omega) (by omega) (jUc_a hb4 (by omega)) (by omega), hh_2.rt (M1 := [(r0, 16, 33, .int z_1)]) [0] rfl ht⟩, by rw [ht]; try exact hh_2.1.1, fun q h9 hq => by rw [ht]; try exact hh_2.1.2.1 q h9 hq⟩) hh_2.1.2.2 dX14_utfLength_20
end
section
-- p9: what both sides hold between two calls
section
variable {a0 a1 a2 a3 a4 a5 a6 a7 a8 z bk m h l b cn cv zr : Int} {fb fn fv fk : Nat → Int32} {t t1 : jDtl} {w w1 : jWl9} {S : Int × (Int → jdD)}
theorem jlI.tt (q : jlI a0 a1 a2 a3 a4 a5 a6 a7 a8 fb z t w bk m h l b fn cn fv cv fk zr S) (e : jdCs t1 w1 = jdCs t w) : jlI a0 a1 a2 a3 a4 a5 a6 a7 a8 fb z t1 w1 bk m h l b fn cn fv cv fk zr S := by
  obtain ⟨s, h1, h2, h3, h4, h5⟩ := q
  exact ⟨s, h1, h2, h3, h4.trans e.symm, h5⟩
end
end
