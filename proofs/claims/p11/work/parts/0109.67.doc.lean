section
theorem dX1_decode_0 : decode cX1_decode 0 = .ok (.aload_n 0, 1) := by decide +kernel
theorem dX1_decode_1 : decode cX1_decode 1 = .ok (.iconst 0, 1) := by decide +kernel
theorem dX1_decode_2 : decode cX1_decode 2 = .ok (.putfield 42, 3) := by decide +kernel
theorem dX1_decode_5 : decode cX1_decode 5 = .ok (.iconst 0, 1) := by decide +kernel
theorem dX1_decode_6 : decode cX1_decode 6 = .ok (.istore_n 3, 1) := by decide +kernel
theorem dX1_decode_7 : decode cX1_decode 7 = .ok (.iconst 0, 1) := by decide +kernel
theorem dX1_decode_8 : decode cX1_decode 8 = .ok (.istore 4, 2) := by decide +kernel
theorem dX1_decode_10 : decode cX1_decode 10 = .ok (.iload 4, 2) := by decide +kernel
theorem dX1_decode_12 : decode cX1_decode 12 = .ok (.iload_n 2, 1) := by decide +kernel
theorem dX1_decode_13 : decode cX1_decode 13 = .ok (.if_icmp .ge 152, 3) := by decide +kernel
theorem dX1_decode_16 : decode cX1_decode 16 = .ok (.iload_n 3, 1) := by decide +kernel
theorem dX1_decode_17 : decode cX1_decode 17 = .ok (.iload_n 2, 1) := by decide +kernel
theorem dX1_decode_18 : decode cX1_decode 18 = .ok (.if_icmp .ge 147, 3) := by decide +kernel
theorem dX1_decode_21 : decode cX1_decode 21 = .ok (.aload_n 1, 1) := by decide +kernel
theorem dX1_decode_22 : decode cX1_decode 22 = .ok (.iload_n 3, 1) := by decide +kernel
theorem dX1_decode_23 : decode cX1_decode 23 = .ok (.iload_n 2, 1) := by decide +kernel
theorem dX1_decode_24 : decode cX1_decode 24 = .ok (.invokestatic 56, 3) := by decide +kernel
theorem dX1_decode_27 : decode cX1_decode 27 = .ok (.istore 5, 2) := by decide +kernel
theorem dX1_decode_29 : decode cX1_decode 29 = .ok (.iload_n 3, 1) := by decide +kernel
theorem dX1_decode_30 : decode cX1_decode 30 = .ok (.iload 5, 2) := by decide +kernel
theorem dX1_decode_32 : decode cX1_decode 32 = .ok (.ifCond .ge 7, 3) := by decide +kernel
theorem dX1_decode_35 : decode cX1_decode 35 = .ok (.iconst 1, 1) := by decide +kernel
theorem dX1_decode_36 : decode cX1_decode 36 = .ok (.goto 8, 3) := by decide +kernel
theorem dX1_decode_39 : decode cX1_decode 39 = .ok (.iload 5, 2) := by decide +kernel
theorem dX1_decode_41 : decode cX1_decode 41 = .ok (.invokestatic 62, 3) := by decide +kernel
theorem dX1_decode_44 : decode cX1_decode 44 = .ok (.iadd, 1) := by decide +kernel
theorem dX1_decode_45 : decode cX1_decode 45 = .ok (.istore_n 3, 1) := by decide +kernel
theorem dX1_decode_46 : decode cX1_decode 46 = .ok (.iload 5, 2) := by decide +kernel
theorem dX1_decode_48 : decode cX1_decode 48 = .ok (.ldc 65, 2) := by decide +kernel
theorem dX1_decode_50 : decode cX1_decode 50 = .ok (.if_icmp .lt 7, 3) := by decide +kernel
theorem dX1_decode_53 : decode cX1_decode 53 = .ok (.iconst 2, 1) := by decide +kernel
theorem dX1_decode_54 : decode cX1_decode 54 = .ok (.goto 4, 3) := by decide +kernel
theorem dX1_decode_57 : decode cX1_decode 57 = .ok (.iconst 1, 1) := by decide +kernel
theorem dX1_decode_58 : decode cX1_decode 58 = .ok (.istore 6, 2) := by decide +kernel
theorem dX1_decode_60 : decode cX1_decode 60 = .ok (.aload_n 0, 1) := by decide +kernel
theorem dX1_decode_61 : decode cX1_decode 61 = .ok (.getfield 42, 3) := by decide +kernel
theorem dX1_decode_64 : decode cX1_decode 64 = .ok (.iload 6, 2) := by decide +kernel
theorem dX1_decode_66 : decode cX1_decode 66 = .ok (.iadd, 1) := by decide +kernel
theorem dX1_decode_67 : decode cX1_decode 67 = .ok (.sipush 1500, 3) := by decide +kernel
theorem dX1_decode_70 : decode cX1_decode 70 = .ok (.if_icmp .le 5, 3) := by decide +kernel
theorem dX1_decode_73 : decode cX1_decode 73 = .ok (.iconst 0, 1) := by decide +kernel
theorem dX1_decode_74 : decode cX1_decode 74 = .ok (.ireturn, 1) := by decide +kernel
theorem dX1_decode_75 : decode cX1_decode 75 = .ok (.iload 6, 2) := by decide +kernel
theorem dX1_decode_77 : decode cX1_decode 77 = .ok (.iconst 2, 1) := by decide +kernel
theorem dX1_decode_78 : decode cX1_decode 78 = .ok (.if_icmp .ne 49, 3) := by decide +kernel
theorem dX1_decode_81 : decode cX1_decode 81 = .ok (.aload_n 0, 1) := by decide +kernel
theorem dX1_decode_82 : decode cX1_decode 82 = .ok (.getfield 15, 3) := by decide +kernel
theorem dX1_decode_85 : decode cX1_decode 85 = .ok (.aload_n 0, 1) := by decide +kernel
theorem dX1_decode_86 : decode cX1_decode 86 = .ok (.getfield 42, 3) := by decide +kernel
theorem dX1_decode_89 : decode cX1_decode 89 = .ok (.ldc 66, 2) := by decide +kernel
theorem dX1_decode_91 : decode cX1_decode 91 = .ok (.iload 5, 2) := by decide +kernel
theorem dX1_decode_93 : decode cX1_decode 93 = .ok (.ldc 65, 2) := by decide +kernel
theorem dX1_decode_95 : decode cX1_decode 95 = .ok (.isub, 1) := by decide +kernel
theorem dX1_decode_96 : decode cX1_decode 96 = .ok (.bipush 10, 2) := by decide +kernel
theorem dX1_decode_98 : decode cX1_decode 98 = .ok (.ishr, 1) := by decide +kernel
theorem dX1_decode_99 : decode cX1_decode 99 = .ok (.iadd, 1) := by decide +kernel
theorem dX1_decode_100 : decode cX1_decode 100 = .ok (.iastore, 1) := by decide +kernel
theorem dX1_decode_101 : decode cX1_decode 101 = .ok (.aload_n 0, 1) := by decide +kernel
theorem dX1_decode_102 : decode cX1_decode 102 = .ok (.getfield 15, 3) := by decide +kernel
theorem dX1_decode_105 : decode cX1_decode 105 = .ok (.aload_n 0, 1) := by decide +kernel
theorem dX1_decode_106 : decode cX1_decode 106 = .ok (.getfield 42, 3) := by decide +kernel
theorem dX1_decode_109 : decode cX1_decode 109 = .ok (.iconst 1, 1) := by decide +kernel
theorem dX1_decode_110 : decode cX1_decode 110 = .ok (.iadd, 1) := by decide +kernel
theorem dX1_decode_111 : decode cX1_decode 111 = .ok (.ldc 67, 2) := by decide +kernel
theorem dX1_decode_113 : decode cX1_decode 113 = .ok (.iload 5, 2) := by decide +kernel
theorem dX1_decode_115 : decode cX1_decode 115 = .ok (.ldc 65, 2) := by decide +kernel
theorem dX1_decode_117 : decode cX1_decode 117 = .ok (.isub, 1) := by decide +kernel
theorem dX1_decode_118 : decode cX1_decode 118 = .ok (.sipush 1023, 3) := by decide +kernel
theorem dX1_decode_121 : decode cX1_decode 121 = .ok (.iand, 1) := by decide +kernel
theorem dX1_decode_122 : decode cX1_decode 122 = .ok (.iadd, 1) := by decide +kernel
theorem dX1_decode_123 : decode cX1_decode 123 = .ok (.iastore, 1) := by decide +kernel
theorem dX1_decode_124 : decode cX1_decode 124 = .ok (.goto 24, 3) := by decide +kernel
theorem dX1_decode_127 : decode cX1_decode 127 = .ok (.aload_n 0, 1) := by decide +kernel
theorem dX1_decode_128 : decode cX1_decode 128 = .ok (.getfield 15, 3) := by decide +kernel
theorem dX1_decode_131 : decode cX1_decode 131 = .ok (.aload_n 0, 1) := by decide +kernel
theorem dX1_decode_132 : decode cX1_decode 132 = .ok (.getfield 42, 3) := by decide +kernel
theorem dX1_decode_135 : decode cX1_decode 135 = .ok (.iload 5, 2) := by decide +kernel
theorem dX1_decode_137 : decode cX1_decode 137 = .ok (.ifCond .ge 8, 3) := by decide +kernel
theorem dX1_decode_140 : decode cX1_decode 140 = .ok (.ldc 68, 2) := by decide +kernel
theorem dX1_decode_142 : decode cX1_decode 142 = .ok (.goto 5, 3) := by decide +kernel
theorem dX1_decode_145 : decode cX1_decode 145 = .ok (.iload 5, 2) := by decide +kernel
theorem dX1_decode_147 : decode cX1_decode 147 = .ok (.iastore, 1) := by decide +kernel
theorem dX1_decode_148 : decode cX1_decode 148 = .ok (.aload_n 0, 1) := by decide +kernel
theorem dX1_decode_149 : decode cX1_decode 149 = .ok (.dup, 1) := by decide +kernel
theorem dX1_decode_150 : decode cX1_decode 150 = .ok (.getfield 42, 3) := by decide +kernel
theorem dX1_decode_153 : decode cX1_decode 153 = .ok (.iload 6, 2) := by decide +kernel
theorem dX1_decode_155 : decode cX1_decode 155 = .ok (.iadd, 1) := by decide +kernel
theorem dX1_decode_156 : decode cX1_decode 156 = .ok (.putfield 42, 3) := by decide +kernel
theorem dX1_decode_159 : decode cX1_decode 159 = .ok (.iinc 4 1, 3) := by decide +kernel
theorem dX1_decode_162 : decode cX1_decode 162 = .ok (.goto (-152), 3) := by decide +kernel
theorem dX1_decode_165 : decode cX1_decode 165 = .ok (.iconst 1, 1) := by decide +kernel
theorem dX1_decode_166 : decode cX1_decode 166 = .ok (.ireturn, 1) := by decide +kernel
end
section
-- the documents of the class: sentences in order, and what is still to be checked of the open ones
section J41
variable {dC : Nat → ClassId} {dI : Nat → Nat → Nat} {ca : Nat → ClassId} {G G1 : jT} {H H1 : Heap} {x : Option Nat} {ph : Nat}
theorem jEd.to {fe : Nat → Int32} {k k1 x : Int} (h : jEd fe (k + 1) = x) (e : k1 = k + 1) : jEd fe k1 = x := by
  rw [e]
  exact h
end J41
end
section
-- p11: bits; the tape on both sides; bytes read as UTF-8; the text that comes of them
theorem jb_a255 {x z : Int32} (e : z = x &&& 255) : z.toInt = x.toInt % 256 := by
  have h := pk_and x (m := 255) 8 (by decide)
  have hb := x.toBitVec.isLt
  have hx := ji_toInt x
  rw [e, h, nI_toInt (by omega), hx]
  split <;> omega
theorem jb_c0 : ∀ n : Nat, n < 256 → (((nI n) &&& 192).toInt = 128 ↔ (128 ≤ n ∧ n ≤ 191)) := by decide +kernel
theorem jb_a192 {x z : Int32} (e : z = x &&& 192) (h0 : 0 ≤ x.toInt) (h1 : x.toInt < 256) : (z.toInt = 128 ∧ 128 ≤ x.toInt ∧ x.toInt ≤ 191) ∨ (z.toInt ≠ 128 ∧ (x.toInt < 128 ∨ 191 < x.toInt)) := by
  obtain ⟨n, hn, ex, ex2⟩ := jN_of h0
  have h := jb_c0 n (by omega)
  rw [e, ex2]
  rw [← ex] at h
  by_cases q : 128 ≤ n ∧ n ≤ 191
  · exact Or.inl ⟨h.mpr q, by omega, by omega⟩
  · exact Or.inr ⟨fun w => q (h.mp w), by omega⟩
theorem jUm.bad {x m i n : Int} (h : (240 ≤ x ∧ m = 3) ∨ (224 ≤ x ∧ x < 240 ∧ m = 2) ∨ (x < 224 ∧ m = 1)) (q : x < 194 ∨ 244 < x ∨ n ≤ i + m) : jUm x = 0 ∨ n ≤ i + jUm x := by
  by_cases h1 : 194 ≤ x ∧ x ≤ 244
  · rw [← jUm.of h h1.1 h1.2]; exact Or.inr (by omega)
  · refine Or.inl ?_
    unfold jUm
    rw [if_neg (by omega), if_neg (by omega), if_neg (by omega)]
theorem jBc_near {f : Nat → Int32} {n i d r : Int} {k : Nat} (hk : n - i < k) (hi : i ≤ n) (h : n ≤ i + 1) (e : r = -1) : r = jBc f n k i d := by
  by_cases q : i < n
  · have h1 : jOpI f i n = 0 := by unfold jOpI; rw [if_neg (by omega)]
    have h2 : jClI f i n = 0 := by unfold jClI; rw [if_neg (by omega)]
    rw [jBc_s (by omega), if_pos q, if_neg (by omega), if_neg (by omega), jBc_s (by omega), if_neg (by omega), e]
  · rw [jBc_s (by omega), if_neg q, e]
theorem jUz4 {c : Int} (h : 65536 ≤ c) : jUz c = 4 := by unfold jUz; rw [if_neg (by omega), if_neg (by omega), if_neg (by omega)]
theorem jDe.oneC {b : Int → Int} {n w i c u w1 i1 : Int} {g g1 : Nat → Int32} (h : jDe b n g w i) (hi : i < n) (hc : c = jUc b i n) (h1 : c < 65536) (ho : ∀ j : Int, 0 ≤ j → j < w → jSo g1 j = jSo g j) (hv : jSo g1 w = u) (hu : (c < 0 ∧ u = 65533) ∨ (0 ≤ c ∧ u = c)) (ei : (c < 0 ∧ i1 = i + 1) ∨ (0 ≤ c ∧ i1 = i + jUz c)) (ew : w1 = w + 1) : jDe b n g1 w1 i1 := by
  refine h.one hi hc h1 ho hv ?_ ?_ ew
  · by_cases q : c < 0
    · rw [if_pos q]; omega
    · rw [if_neg q]; omega
  · unfold jUs
    by_cases q : c < 0
    · rw [if_pos q]; omega
    · rw [if_neg q]; omega
theorem jDe.twoC {b : Int → Int} {n w i c u v w1 i1 : Int} {g g1 : Nat → Int32} (h : jDe b n g w i) (hi : i < n) (hc : c = jUc b i n) (h1 : 65536 ≤ c) (ho : ∀ j : Int, 0 ≤ j → j < w → jSo g1 j = jSo g j) (hu : jSo g1 w = u) (hv : jSo g1 (w + 1) = v) (eu : u = 55296 + (c - 65536) / 1024) (ev : v = 56320 + (c - 65536) % 1024) (ei : i1 = i + 4) (ew : w1 = w + 2) : jDe b n g1 w1 i1 :=
  h.two hi hc h1 ho hu hv eu ev (by unfold jUs; rw [if_neg (by omega), jUz4 h1]; exact ei) ew
theorem jUc.ret {b : Int → Int} {i n r : Int} (h0 : 0 ≤ b i) (h : r = jUc b i n) : r = jUc b i n ∧ -1 ≤ r ∧ r ≤ 1114111 := by
  have h1 := jUc.r (n := n) h0
  exact ⟨h, by omega, by omega⟩
section JP1
variable {p : Program} {l : Launch} {e : Env} {R : Room} {s : State} {m : MethodId} {args : Array Value} {below : List Frame} {meth : Method} {c : Code} {H : Heap} {locs : List Loc} {cells slots : Nat} {Q : State → Prop}
variable {cc : ByteArray} {pc : Nat} {ls : Array Slot} {rest : List Value} {D : va_G} {cl : List vw_C} {A : Nat → Prop} {a : Nat} {tys : List (ClassId × FieldType)}
end JP1
section JP2
variable {p : Program} {l : Launch} {e : Env} {R : Room} {s : State} {m : MethodId} {args : Array Value} {below : List Frame} {meth : Method} {c : Code} {H : Heap} {locs : List Loc} {cells slots : Nat} {Q : State → Prop}
variable {cc : ByteArray} {pc : Nat} {ls : Array Slot} {rest : List Value} {dC : Nat → ClassId} {dI : Nat → Nat → Nat} {ca : Nat → ClassId} {B : jF} {base : Nat} {G0 G : jT} {E : List (Nat × Nat)} {H0 : Heap} {zc zs : Nat} {L : List jPin} {M : List jCt} {I : List jIv} {a k n : Nat} {cA : ClassId} {tys : List (ClassId × FieldType)}
end JP2
end
section
def EX0_decodedP : List (Nat × Nat) := []
def EX0_decodedSizeP : List (Nat × Nat) := []
def EX1_decodeP : List (Nat × Nat) := [(3, 3), (101, 0)]
set_option maxHeartbeats 4000000 in
set_option maxRecDepth 20000 in
theorem uX0_decodedP (l : Launch) (dC : Nat → ClassId) (dI : Nat → Nat → Nat) (ca : Nat → ClassId) (base : Nat) (B : jF) (hB : jBok B) (hAp : jAp (dC, dI)) (hB197 : ∀ n G a H, B 197 n G a H ↔ jAr (dC, dI) (ca 0) (fun j z => jBf j z) n a H) (G0 : jT) (H0 : Heap) (r0 : Nat) (a1 : Int32) (a2 : Int32) (fb : Nat → Int32) : Met l yX0_decoded (jw yX0_decoded cX0_decoded 8 (some .int)) ({ frames := 0, cells := 0, slots := 0, locals := 0 }) (va_Pc [.ref r0, .int a1, .int a2] (fun U => U.heap = H0 ∧ jX B base G0 [] H0 ∧ jG dC dI ca base U ∧ G0 r0 = some (197, 4000) ∧ jP (dC, dI) G0 H0 [] ∧ jMc (dC, dI) G0 H0 [(r0, 197, 4000, ca 0, fb)] ∧ 0 ≤ a1.toInt ∧ a1.toInt < a2.toInt ∧ a2.toInt ≤ 4000)) (va_Qi (S := Unit) (fun r u => (r.toInt = jUc (jB8 fb) a1.toInt a2.toInt ∧ -1 ≤ r.toInt ∧ r.toInt ≤ 1114111)) (fun u t => jRt (dC, dI) B base G0 EX0_decodedP H0 [] t.heap) (jA base)) 0 0 (jA base) := by
  refine Met.ofW (cc := cX0_decoded) (maxL := 8) (ret := (some .int)) (by decide) rfl ?_
  intro p e s m args below meth c s₁ Bd hml hv
  obtain ⟨rfl, hH0, hX, hG, hg_r0, hP0, hM0, hp0, hp1, hp2⟩ := hv
  have hK := hG.1
  have hx := Bd.exec
  have hb := Bd.bytes
  have hr := Bd.returns
  have hts := atoms_spec (ws := (jw yX0_decoded cX0_decoded 8 (some .int))) Bd.pre
  have htw : ∀ w ∈ jWl, w.before _ s = true := fun w h => hts w (List.mem_cons_of_mem _ h)
  have hown : s.vm.findClass RX0 = some m.cls := findClass_of_methodNamed Bd.named
  have hlocks := Bd.notSynchronized
  obtain ⟨Q, hQ⟩ : ∃ Q, Q = MQ below (va_Qi (S := Unit) (fun r u => (r.toInt = jUc (jB8 fb) a1.toInt a2.toInt ∧ -1 ≤ r.toInt ∧ r.toInt ≤ 1114111)) (fun u t => jRt (dC, dI) B base G0 EX0_decodedP H0 [] t.heap) (jA base)) ([.ref r0, .int a1, .int a2] : List Value).toArray s 0 0 (jA base) := ⟨_, rfl⟩
  rw [← hQ]
  have hl := lv_entry ([.ref r0, .int a1, .int a2]) (n := 8) (Nat.le_of_ble_eq_true rfl)
  rw [lg_entry_eq]
  generalize (lg_sl ([.ref r0, .int a1, .int a2]) ++ List.replicate (8 - (lg_sl ([.ref r0, .int a1, .int a2])).length) Slot.unset).toArray = ls at hl ⊢
  have hl : lv_has ls 8 [(0, .ref r0), (1, .int a1), (2, .int a2)] := hl
  generalize hR : (headSpec (jw yX0_decoded cX0_decoded 8 (some .int)) ({ frames := 0, cells := 0, slots := 0, locals := 0 })).room = R
  subst hH0
  have hh : jSt (dC, dI) B base G0 G0 EX0_decodedP s.heap 0 0 [] [(r0, 197, 4000, ca 0, fb)] [] s.heap [] := jSt.start hX hP0 hM0 jIs.nil
  clear hX hP0
  have hkm1 : ((-1) : Int32).toInt = (-1) := by decide
  have hk0 : (0 : Int32).toInt = 0 := by decide
  have hk1 : (1 : Int32).toInt = 1 := by decide
  have hk2 : (2 : Int32).toInt = 2 := by decide
  have hk3 : (3 : Int32).toInt = 3 := by decide
  have hk6 : (6 : Int32).toInt = 6 := by decide
  have hk63 : (63 : Int32).toInt = 63 := by decide
  have hk128 : (128 : Int32).toInt = 128 := by decide
  have hk192 : (192 : Int32).toInt = 192 := by decide
  have hk194 : (194 : Int32).toInt = 194 := by decide
  have hk224 : (224 : Int32).toInt = 224 := by decide
  have hk240 : (240 : Int32).toInt = 240 := by decide
  have hk244 : (244 : Int32).toInt = 244 := by decide
  have hk255 : (255 : Int32).toInt = 255 := by decide
  have hk2048 : (2048 : Int32).toInt = 2048 := by decide
  have hk55296 : (55296 : Int32).toInt = 55296 := by decide
  have hk57344 : (57344 : Int32).toInt = 57344 := by decide
  have hk65536 : (65536 : Int32).toInt = 65536 := by decide
  have hk1114111 : (1114111 : Int32).toInt = 1114111 := by decide
  have hcs_60 := htw (.constant RX0 60 65536) (jWr_20 _ (List.mem_of_getElem? (i := 15) rfl))
  have hcs_74 := htw (.constant RX0 74 1114111) (jWr_20 _ (List.mem_of_getElem? (i := 16) rfl))
  have hcs_61 := htw (.constant RX0 61 55296) (jWr_20 _ (List.mem_of_getElem? (i := 17) rfl))
  have hcs_73 := htw (.constant RX0 73 57344) (jWr_20 _ (List.mem_of_getElem? (i := 18) rfl))
  have hrg_a1 := jb_rng a1
  have hrg_a2 := jb_rng a2
  refine lv_iload_n hx hb dX0_decoded_0 rfl (lv_at hl 1 rfl) ?_
  refine lv_if_lt (tgt := 15) hx hb dX0_decoded_1 (by decide) (fun c_1 => ?_) (fun c_1 => ?_)
  · skip
    have c_1' : a1.toInt < 0 := jb_lt (rfl) ((by decide)) c_1
    exact absurd c_1' (by omega)
  · skip
    have c_1' : a1.toInt ≥ 0 := jb_lt_n (rfl) ((by decide)) c_1
    refine lv_iload_n hx hb dX0_decoded_4 rfl (lv_at hl 1 rfl) ?_
    refine lv_iload_n hx hb dX0_decoded_5 rfl (lv_at hl 2 rfl) ?_
    refine lv_icmp_ge (tgt := 15) hx hb dX0_decoded_6 (by decide) (fun c_2 => ?_) (fun c_2 => ?_)
    · skip
      have c_2' : a1.toInt ≥ a2.toInt := jb_ge (rfl) (rfl) c_2
      exact absurd c_2' (by omega)
    · skip
      have c_2' : a1.toInt < a2.toInt := jb_ge_n (rfl) (rfl) c_2
      refine lv_iload_n hx hb dX0_decoded_9 rfl (lv_at hl 2 rfl) ?_
      refine lv_aload_n hx hb dX0_decoded_10 rfl (lv_at hl 0 rfl) ?_
      refine j7_len hx hb hK hh hB197 0 rfl (by decide) hg_r0 (by omega) dX0_decoded_11 (fun z_3 hz_3 => ?_)
      refine lv_icmp_le (tgt := 17) hx hb dX0_decoded_12 (by decide) (fun c_4 => ?_) (fun c_4 => ?_)
      · skip
        have c_4' : a2.toInt ≤ z_3.toInt := jb_le (rfl) (rfl) c_4
        refine lv_aload_n hx hb dX0_decoded_17 rfl (lv_at hl 0 rfl) ?_
        refine lv_iload_n hx hb dX0_decoded_18 rfl (lv_at hl 1 rfl) ?_
        refine j7_baldM hx hb hK hh hB197 0 rfl (by decide) hg_r0 (x := a1.toInt) (rfl) (by omega) (j := 0) rfl dX0_decoded_19 (fun z_5 ez_5 (hz_5 : jBf (a1.toInt).toNat z_5) => ?_)
        have hqz_5 : z_5.toInt = jSo fb (a1.toInt) := by unfold jSo; rw [ez_5]
        refine lv_sipush (v := 255) hx hb dX0_decoded_20 (by decide) ?_
        refine lv_iand hx hb dX0_decoded_23 ?_
        refine lv_topi (fun z_6 ez_6 => ?_)
        have hz_6 : 0 ≤ z_6.toInt ∧ z_6.toInt ≤ 255 := by rw [ez_6]; exact jb_and z_5 (m := 255) (k := 8) (by decide) (by decide)
        have hb3 : z_6.toInt = jB8 fb a1.toInt := (jb_a255 ez_6).trans (by rw [hqz_5]; rfl)
        have hb3r := jB8.r fb a1.toInt
        refine lv_istore_n (lv' := [(3, .int z_6), (0, .ref r0), (1, .int a1), (2, .int a2)]) hx hb dX0_decoded_24 rfl hl (by decide) rfl (fun ls hl => ?_)
        refine lv_iload_n hx hb dX0_decoded_25 rfl (lv_at hl 0 rfl) ?_
        refine lv_sipush (v := 128) hx hb dX0_decoded_26 (by decide) ?_
        refine lv_icmp_ge (tgt := 34) hx hb dX0_decoded_29 (by decide) (fun c_7 => ?_) (fun c_7 => ?_)
        · skip
          have c_7' : z_6.toInt ≥ 128 := jb_ge (rfl) ((by decide)) c_7
          refine lv_iload_n hx hb dX0_decoded_34 rfl (lv_at hl 0 rfl) ?_
          refine lv_sipush (v := 240) hx hb dX0_decoded_35 (by decide) ?_
          have C57 : ∀ (w0_8 : Int32) (H_8 : Heap) (locs_8 : List Loc), jSt (dC, dI) B base G0 G0 EX0_decodedP s.heap 0 0 [] [(r0, 197, 4000, ca 0, fb)] [] H_8 locs_8 → (0 ≤ w0_8.toInt ∧ ((240 ≤ z_6.toInt ∧ w0_8.toInt = 3) ∨ (224 ≤ z_6.toInt ∧ z_6.toInt < 240 ∧ w0_8.toInt = 2) ∨ (z_6.toInt < 224 ∧ w0_8.toInt = 1))) → ∀ ls : Array Slot, lv_has ls 8 [(0, .ref r0), (1, .int a1), (2, .int a2), (3, .int z_6)] → W p l e R s m ([.ref r0, .int a1, .int a2] : List Value).toArray below meth c H_8 locs_8 0 0 Q (F0 m 57 ls [.int w0_8]) := by
            intro w0_8 H_8 locs_8 hh_8  hi_8 ls hl
            obtain ⟨hi_8_0, hi_8_1⟩ := hi_8
            refine lv_istore (lv' := [(4, .int w0_8), (0, .ref r0), (1, .int a1), (2, .int a2), (3, .int z_6)]) hx hb dX0_decoded_57 hl (by decide) rfl (fun ls hl => ?_)
            refine lv_iload_n hx hb dX0_decoded_59 rfl (lv_at hl 4 rfl) ?_
            refine lv_sipush (v := 194) hx hb dX0_decoded_60 (by decide) ?_
            refine lv_icmp_lt (tgt := 81) hx hb dX0_decoded_63 (by decide) (fun c_9 => ?_) (fun c_9 => ?_)
            · skip
              have c_9' : z_6.toInt < 194 := jb_lt (rfl) ((by decide)) c_9
              refine lv_iconst (v := (-1)) hx hb dX0_decoded_81 (by decide) ?_
              rw [hQ]
              exact W.iret (v := (-1)) hx hb hr (fun t ht hW => ⟨⟨(-1), (), rfl, by refine jUc.ret (jB8.r _ _).1 ?_; exact jUc_m hb3 (by omega) rfl (jUm.bad (i := a1.toInt) (n := a2.toInt) hi_8_1 (by omega)) rfl, hh_8.rt (M1 := []) [] rfl ht⟩, by rw [ht]; try exact hh_8.1.1, fun q h9 hq => by rw [ht]; try exact hh_8.1.2.1 q h9 hq⟩) hh_8.1.2.2 dX0_decoded_82
            · skip
              have c_9' : z_6.toInt ≥ 194 := jb_lt_n (rfl) ((by decide)) c_9
              refine lv_iload_n hx hb dX0_decoded_66 rfl (lv_at hl 4 rfl) ?_
              refine lv_sipush (v := 244) hx hb dX0_decoded_67 (by decide) ?_
              refine lv_icmp_gt (tgt := 81) hx hb dX0_decoded_70 (by decide) (fun c_10 => ?_) (fun c_10 => ?_)
              · skip
                have c_10' : z_6.toInt > 244 := jb_gt (rfl) ((by decide)) c_10
                refine lv_iconst (v := (-1)) hx hb dX0_decoded_81 (by decide) ?_
                rw [hQ]
                exact W.iret (v := (-1)) hx hb hr (fun t ht hW => ⟨⟨(-1), (), rfl, by refine jUc.ret (jB8.r _ _).1 ?_; exact jUc_m hb3 (by omega) rfl (jUm.bad (i := a1.toInt) (n := a2.toInt) hi_8_1 (by omega)) rfl, hh_8.rt (M1 := []) [] rfl ht⟩, by rw [ht]; try exact hh_8.1.1, fun q h9 hq => by rw [ht]; try exact hh_8.1.2.1 q h9 hq⟩) hh_8.1.2.2 dX0_decoded_82
              · skip
                have c_10' : z_6.toInt ≤ 244 := jb_gt_n (rfl) ((by decide)) c_10
                refine lv_iload hx hb dX0_decoded_73 (lv_at hl 0 rfl) ?_
                refine lv_iload_n hx hb dX0_decoded_75 rfl (lv_at hl 3 rfl) ?_
                refine lv_iload_n hx hb dX0_decoded_76 rfl (lv_at hl 2 rfl) ?_
                refine lv_isub hx hb dX0_decoded_77 ?_
                refine lv_topi (fun z_11 ez_11 => ?_)
                have hz_11 : z_11.toInt = a2.toInt - a1.toInt := by rw [ez_11]; exact jb_isub2 (rfl) (rfl) (by omega)
                refine lv_icmp_lt (tgt := 83) hx hb dX0_decoded_78 (by decide) (fun c_12 => ?_) (fun c_12 => ?_)
                · skip
                  have c_12' : w0_8.toInt < z_11.toInt := jb_lt (rfl) (rfl) c_12
                  have hm4 := jUm.of hi_8_1 (by omega) (by omega)
                  refine lv_iload_n hx hb dX0_decoded_83 rfl (lv_at hl 4 rfl) ?_
                  refine lv_bipush (v := 63) hx hb dX0_decoded_84 (by decide) ?_
                  refine lv_iload hx hb dX0_decoded_86 (lv_at hl 0 rfl) ?_
                  refine lv_ishr hx hb dX0_decoded_88 ?_
                  refine lv_topi (fun z_13 ez_13 => ?_)
                  refine lv_iand hx hb dX0_decoded_89 ?_
                  refine lv_topi (fun z_14 ez_14 => ?_)
                  have hu0 : z_14.toInt = jU0 z_6.toInt w0_8.toInt := jU0.of ez_13 ez_14 rfl (by omega)
                  refine lv_istore (lv' := [(5, .int z_14), (4, .int w0_8), (0, .ref r0), (1, .int a1), (2, .int a2), (3, .int z_6)]) hx hb dX0_decoded_90 hl (by decide) rfl (fun ls hl => ?_)
                  refine lv_iconst (v := 1) hx hb dX0_decoded_92 (by decide) ?_
                  refine lv_istore (lv' := [(6, .int 1), (5, .int z_14), (4, .int w0_8), (0, .ref r0), (1, .int a1), (2, .int a2), (3, .int z_6)]) hx hb dX0_decoded_93 hl (by decide) rfl (fun ls hl => ?_)
                  have L95 : ∀ (N : Nat) (v5_15 : Int32) (v6_15 : Int32) (H_15 : Heap) (locs_15 : List Loc), jSt (dC, dI) B base G0 G0 EX0_decodedP s.heap 0 0 [] [(r0, 197, 4000, ca 0, fb)] [] H_15 locs_15 → (1 ≤ v6_15.toInt ∧ v6_15.toInt ≤ w0_8.toInt + 1 ∧ jUb (w0_8.toInt + 1) v6_15.toInt v5_15.toInt ∧ jUr (jB8 fb) (w0_8.toInt + 1 - v6_15.toInt).toNat (a1.toInt + v6_15.toInt) v5_15.toInt = jUr (jB8 fb) (w0_8.toInt).toNat (a1.toInt + 1) (jU0 z_6.toInt w0_8.toInt)) → (w0_8.toInt + 1 - v6_15.toInt : Int) < N → ∀ ls : Array Slot, lv_has ls 8 [(0, .ref r0), (1, .int a1), (2, .int a2), (3, .int z_6), (4, .int w0_8), (5, .int v5_15), (6, .int v6_15)] → W p l e R s m ([.ref r0, .int a1, .int a2] : List Value).toArray below meth c H_15 locs_15 0 0 Q (F0 m 95 ls []) := by
                    intro N
                    induction N with
                    | zero => intro v5_15 v6_15 H_15 locs_15 hh_15  hi_15 hm; exact absurd hm (by omega)
                    | succ N L95 =>
                      intro v5_15 v6_15 H_15 locs_15 hh_15  hi_15 hm_15 ls hl
                      obtain ⟨hi_15_0, hi_15_1, hi_15_2, hi_15_3⟩ := hi_15
                      refine lv_iload hx hb dX0_decoded_95 (lv_at hl 6 rfl) ?_
                      refine lv_iload hx hb dX0_decoded_97 (lv_at hl 4 rfl) ?_
                      refine lv_icmp_gt (tgt := 147) hx hb dX0_decoded_99 (by decide) (fun c_16 => ?_) (fun c_16 => ?_)
                      · skip
                        have c_16' : v6_15.toInt > w0_8.toInt := jb_gt (rfl) (rfl) c_16
                        have hbe := hi_15_2.end (by omega)
                        refine lv_iload hx hb dX0_decoded_147 (lv_at hl 4 rfl) ?_
                        refine lv_iconst (v := 2) hx hb dX0_decoded_149 (by decide) ?_
                        have C179 : ∀ (w0_17 : Int32) (H_17 : Heap) (locs_17 : List Loc), jSt (dC, dI) B base G0 G0 EX0_decodedP s.heap 0 0 [] [(r0, 197, 4000, ca 0, fb)] [] H_17 locs_17 → (w0_17 = 0 ∨ w0_17 = 1) → ((w0_17.toInt = 1 ∧ (w0_8.toInt = 2 ∧ v5_15.toInt < 2048 ∨ w0_8.toInt = 3 ∧ v5_15.toInt < 65536)) ∨ (w0_17.toInt = 0 ∧ (w0_8.toInt ≠ 2 ∨ 2048 ≤ v5_15.toInt) ∧ (w0_8.toInt ≠ 3 ∨ 65536 ≤ v5_15.toInt))) → ∀ ls : Array Slot, lv_has ls 8 [(0, .ref r0), (1, .int a1), (2, .int a2), (3, .int z_6), (4, .int w0_8), (5, .int v5_15), (6, .int v6_15)] → W p l e R s m ([.ref r0, .int a1, .int a2] : List Value).toArray below meth c H_17 locs_17 0 0 Q (F0 m 179 ls [.int w0_17]) := by
                          intro w0_17 H_17 locs_17 hh_17 hb_w0_17 hi_17 ls hl
                          have hb_w0_17' := jb_01 hb_w0_17
                          refine lv_istore (lv' := [(6, .int w0_17), (0, .ref r0), (1, .int a1), (2, .int a2), (3, .int z_6), (4, .int w0_8), (5, .int v5_15)]) hx hb dX0_decoded_179 hl (by decide) rfl (fun ls hl => ?_)
                          refine lv_iload hx hb dX0_decoded_181 (lv_at hl 0 rfl) ?_
                          refine lv_if_ne (tgt := 207) hx hb dX0_decoded_183 (by decide) (fun c_18 => ?_) (fun c_18 => ?_)
                          · skip
                            have c_18' : w0_17.toInt ≠ 0 := jb_ne (rfl) ((by decide)) c_18
                            refine lv_iconst (v := (-1)) hx hb dX0_decoded_207 (by decide) ?_
                            refine lv_goto (tgt := 213) hx hb dX0_decoded_208 (by decide) ?_
                            rw [hQ]
                            exact W.iret (v := (-1)) hx hb hr (fun t ht hW => ⟨⟨(-1), (), rfl, by refine jUc.ret (jB8.r _ _).1 ?_; exact jUc_k hb3 (by omega) hm4 (by omega) (by omega) (hi_15_3.symm.trans (jUr_z (by omega))) (jUk_x (by omega) rfl), hh_17.rt (M1 := []) [] rfl ht⟩, by rw [ht]; try exact hh_17.1.1, fun q h9 hq => by rw [ht]; try exact hh_17.1.2.1 q h9 hq⟩) hh_17.1.2.2 dX0_decoded_213
                          · skip
                            have c_18' : w0_17.toInt = 0 := jb_ne_n (rfl) ((by decide)) c_18
                            refine lv_iload hx hb dX0_decoded_186 (lv_at hl 6 rfl) ?_
                            refine lv_ldc hx hb hown hcs_74 dX0_decoded_188 ?_
                            refine lv_icmp_gt (tgt := 207) hx hb dX0_decoded_190 (by decide) (fun c_19 => ?_) (fun c_19 => ?_)
                            · skip
                              have c_19' : v5_15.toInt > 1114111 := jb_gt (rfl) ((by decide)) c_19
                              refine lv_iconst (v := (-1)) hx hb dX0_decoded_207 (by decide) ?_
                              refine lv_goto (tgt := 213) hx hb dX0_decoded_208 (by decide) ?_
                              rw [hQ]
                              exact W.iret (v := (-1)) hx hb hr (fun t ht hW => ⟨⟨(-1), (), rfl, by refine jUc.ret (jB8.r _ _).1 ?_; exact jUc_k hb3 (by omega) hm4 (by omega) (by omega) (hi_15_3.symm.trans (jUr_z (by omega))) (jUk_x (by omega) rfl), hh_17.rt (M1 := []) [] rfl ht⟩, by rw [ht]; try exact hh_17.1.1, fun q h9 hq => by rw [ht]; try exact hh_17.1.2.1 q h9 hq⟩) hh_17.1.2.2 dX0_decoded_213
                            · skip
                              have c_19' : v5_15.toInt ≤ 1114111 := jb_gt_n (rfl) ((by decide)) c_19
                              refine lv_iload hx hb dX0_decoded_193 (lv_at hl 6 rfl) ?_
                              refine lv_ldc hx hb hown hcs_61 dX0_decoded_195 ?_
                              refine lv_icmp_lt (tgt := 211) hx hb dX0_decoded_197 (by decide) (fun c_20 => ?_) (fun c_20 => ?_)
                              · skip
                                have c_20' : v5_15.toInt < 55296 := jb_lt (rfl) ((by decide)) c_20
                                refine lv_iload hx hb dX0_decoded_211 (lv_at hl 6 rfl) ?_
                                rw [hQ]
                                exact W.iret (v := v5_15) hx hb hr (fun t ht hW => ⟨⟨v5_15, (), rfl, by refine jUc.ret (jB8.r _ _).1 ?_; exact jUc_k hb3 (by omega) hm4 (by omega) (by omega) (hi_15_3.symm.trans (jUr_z (by omega))) (jUk_v (by omega) (by omega) (by omega) (by omega) (by omega) rfl), hh_17.rt (M1 := []) [] rfl ht⟩, by rw [ht]; try exact hh_17.1.1, fun q h9 hq => by rw [ht]; try exact hh_17.1.2.1 q h9 hq⟩) hh_17.1.2.2 dX0_decoded_213
                              · skip
                                have c_20' : v5_15.toInt ≥ 55296 := jb_lt_n (rfl) ((by decide)) c_20
                                refine lv_iload hx hb dX0_decoded_200 (lv_at hl 6 rfl) ?_
                                refine lv_ldc hx hb hown hcs_73 dX0_decoded_202 ?_
                                refine lv_icmp_ge (tgt := 211) hx hb dX0_decoded_204 (by decide) (fun c_21 => ?_) (fun c_21 => ?_)
                                · skip
                                  have c_21' : v5_15.toInt ≥ 57344 := jb_ge (rfl) ((by decide)) c_21
                                  refine lv_iload hx hb dX0_decoded_211 (lv_at hl 6 rfl) ?_
                                  rw [hQ]
                                  exact W.iret (v := v5_15) hx hb hr (fun t ht hW => ⟨⟨v5_15, (), rfl, by refine jUc.ret (jB8.r _ _).1 ?_; exact jUc_k hb3 (by omega) hm4 (by omega) (by omega) (hi_15_3.symm.trans (jUr_z (by omega))) (jUk_v (by omega) (by omega) (by omega) (by omega) (by omega) rfl), hh_17.rt (M1 := []) [] rfl ht⟩, by rw [ht]; try exact hh_17.1.1, fun q h9 hq => by rw [ht]; try exact hh_17.1.2.1 q h9 hq⟩) hh_17.1.2.2 dX0_decoded_213
                                · skip
                                  have c_21' : v5_15.toInt < 57344 := jb_ge_n (rfl) ((by decide)) c_21
                                  refine lv_iconst (v := (-1)) hx hb dX0_decoded_207 (by decide) ?_
                                  refine lv_goto (tgt := 213) hx hb dX0_decoded_208 (by decide) ?_
                                  rw [hQ]
                                  exact W.iret (v := (-1)) hx hb hr (fun t ht hW => ⟨⟨(-1), (), rfl, by refine jUc.ret (jB8.r _ _).1 ?_; exact jUc_k hb3 (by omega) hm4 (by omega) (by omega) (hi_15_3.symm.trans (jUr_z (by omega))) (jUk_x (by omega) rfl), hh_17.rt (M1 := []) [] rfl ht⟩, by rw [ht]; try exact hh_17.1.1, fun q h9 hq => by rw [ht]; try exact hh_17.1.2.1 q h9 hq⟩) hh_17.1.2.2 dX0_decoded_213
                        refine lv_icmp_ne (tgt := 161) hx hb dX0_decoded_150 (by decide) (fun c_22 => ?_) (fun c_22 => ?_)
                        · skip
                          have c_22' : w0_8.toInt ≠ 2 := jb_ne (rfl) ((by decide)) c_22
                          refine lv_iload hx hb dX0_decoded_161 (lv_at hl 4 rfl) ?_
                          refine lv_iconst (v := 3) hx hb dX0_decoded_163 (by decide) ?_
                          refine lv_icmp_ne (tgt := 178) hx hb dX0_decoded_164 (by decide) (fun c_23 => ?_) (fun c_23 => ?_)
                          · skip
                            have c_23' : w0_8.toInt ≠ 3 := jb_ne (rfl) ((by decide)) c_23
                            refine lv_iconst (v := 0) hx hb dX0_decoded_178 (by decide) ?_
                            exact C179 0 _ _ hh_15 (Or.inl rfl) (by first | omega | rfl | assumption | decide | exact Or.inl rfl | exact Or.inr rfl | (simp only; omega)) _ (lv_sub hl [0, 1, 2, 3, 4, 5, 6] rfl)
                          · skip
                            have c_23' : w0_8.toInt = 3 := jb_ne_n (rfl) ((by decide)) c_23
                            refine lv_iload hx hb dX0_decoded_167 (lv_at hl 5 rfl) ?_
                            refine lv_ldc hx hb hown hcs_60 dX0_decoded_169 ?_
                            refine lv_icmp_ge (tgt := 178) hx hb dX0_decoded_171 (by decide) (fun c_24 => ?_) (fun c_24 => ?_)
                            · skip
                              have c_24' : v5_15.toInt ≥ 65536 := jb_ge (rfl) ((by decide)) c_24
                              refine lv_iconst (v := 0) hx hb dX0_decoded_178 (by decide) ?_
                              exact C179 0 _ _ hh_15 (Or.inl rfl) (by first | omega | rfl | assumption | decide | exact Or.inl rfl | exact Or.inr rfl | (simp only; omega)) _ (lv_sub hl [0, 1, 2, 3, 4, 5, 6] rfl)
                            · skip
                              have c_24' : v5_15.toInt < 65536 := jb_ge_n (rfl) ((by decide)) c_24
                              refine lv_iconst (v := 1) hx hb dX0_decoded_174 (by decide) ?_
                              refine lv_goto (tgt := 179) hx hb dX0_decoded_175 (by decide) ?_
                              exact C179 1 _ _ hh_15 (Or.inr rfl) (by first | omega | rfl | assumption | decide | exact Or.inl rfl | exact Or.inr rfl | (simp only; omega)) _ (lv_sub hl [0, 1, 2, 3, 4, 5, 6] rfl)
                        · skip
                          have c_22' : w0_8.toInt = 2 := jb_ne_n (rfl) ((by decide)) c_22
                          refine lv_iload hx hb dX0_decoded_153 (lv_at hl 5 rfl) ?_
                          refine lv_sipush (v := 2048) hx hb dX0_decoded_155 (by decide) ?_
                          refine lv_icmp_lt (tgt := 174) hx hb dX0_decoded_158 (by decide) (fun c_25 => ?_) (fun c_25 => ?_)
                          · skip
                            have c_25' : v5_15.toInt < 2048 := jb_lt (rfl) ((by decide)) c_25
                            refine lv_iconst (v := 1) hx hb dX0_decoded_174 (by decide) ?_
                            refine lv_goto (tgt := 179) hx hb dX0_decoded_175 (by decide) ?_
                            exact C179 1 _ _ hh_15 (Or.inr rfl) (by first | omega | rfl | assumption | decide | exact Or.inl rfl | exact Or.inr rfl | (simp only; omega)) _ (lv_sub hl [0, 1, 2, 3, 4, 5, 6] rfl)
                          · skip
                            have c_25' : v5_15.toInt ≥ 2048 := jb_lt_n (rfl) ((by decide)) c_25
                            refine lv_iload hx hb dX0_decoded_161 (lv_at hl 4 rfl) ?_
                            refine lv_iconst (v := 3) hx hb dX0_decoded_163 (by decide) ?_
                            refine lv_icmp_ne (tgt := 178) hx hb dX0_decoded_164 (by decide) (fun c_26 => ?_) (fun c_26 => ?_)
                            · skip
                              have c_26' : w0_8.toInt ≠ 3 := jb_ne (rfl) ((by decide)) c_26
                              refine lv_iconst (v := 0) hx hb dX0_decoded_178 (by decide) ?_
                              exact C179 0 _ _ hh_15 (Or.inl rfl) (by first | omega | rfl | assumption | decide | exact Or.inl rfl | exact Or.inr rfl | (simp only; omega)) _ (lv_sub hl [0, 1, 2, 3, 4, 5, 6] rfl)
                            · skip
                              have c_26' : w0_8.toInt = 3 := jb_ne_n (rfl) ((by decide)) c_26
                              refine lv_iload hx hb dX0_decoded_167 (lv_at hl 5 rfl) ?_
                              refine lv_ldc hx hb hown hcs_60 dX0_decoded_169 ?_
                              refine lv_icmp_ge (tgt := 178) hx hb dX0_decoded_171 (by decide) (fun c_27 => ?_) (fun c_27 => ?_)
                              · skip
                                have c_27' : v5_15.toInt ≥ 65536 := jb_ge (rfl) ((by decide)) c_27
                                refine lv_iconst (v := 0) hx hb dX0_decoded_178 (by decide) ?_
                                exact C179 0 _ _ hh_15 (Or.inl rfl) (by first | omega | rfl | assumption | decide | exact Or.inl rfl | exact Or.inr rfl | (simp only; omega)) _ (lv_sub hl [0, 1, 2, 3, 4, 5, 6] rfl)
                              · skip
                                have c_27' : v5_15.toInt < 65536 := jb_ge_n (rfl) ((by decide)) c_27
                                refine lv_iconst (v := 1) hx hb dX0_decoded_174 (by decide) ?_
                                refine lv_goto (tgt := 179) hx hb dX0_decoded_175 (by decide) ?_
                                exact C179 1 _ _ hh_15 (Or.inr rfl) (by first | omega | rfl | assumption | decide | exact Or.inl rfl | exact Or.inr rfl | (simp only; omega)) _ (lv_sub hl [0, 1, 2, 3, 4, 5, 6] rfl)
                      · skip
                        have c_16' : v6_15.toInt ≤ w0_8.toInt := jb_gt_n (rfl) (rfl) c_16
                        refine lv_aload_n hx hb dX0_decoded_102 rfl (lv_at hl 0 rfl) ?_
                        refine lv_iload_n hx hb dX0_decoded_103 rfl (lv_at hl 1 rfl) ?_
                        refine lv_iload hx hb dX0_decoded_104 (lv_at hl 6 rfl) ?_
                        refine lv_iadd hx hb dX0_decoded_106 ?_
                        refine lv_topi (fun z_28 ez_28 => ?_)
                        have hz_28 : z_28.toInt = a1.toInt + v6_15.toInt := by rw [ez_28]; exact jb_iadd2 (rfl) (rfl) (by omega)
                        refine j7_baldM hx hb hK hh_15 hB197 0 rfl (by decide) hg_r0 (x := z_28.toInt) (rfl) (by omega) (j := 0) rfl dX0_decoded_107 (fun z_29 ez_29 (hz_29 : jBf (z_28.toInt).toNat z_29) => ?_)
                        have hqz_29 : z_29.toInt = jSo fb ((a1.toInt + v6_15.toInt)) := by unfold jSo; rw [ez_29, show z_28.toInt = (a1.toInt + v6_15.toInt) by omega]
                        refine lv_sipush (v := 255) hx hb dX0_decoded_108 (by decide) ?_
                        refine lv_iand hx hb dX0_decoded_111 ?_
                        refine lv_topi (fun z_30 ez_30 => ?_)
                        have hz_30 : 0 ≤ z_30.toInt ∧ z_30.toInt ≤ 255 := by rw [ez_30]; exact jb_and z_29 (m := 255) (k := 8) (by decide) (by decide)
                        have hb7 : z_30.toInt = jB8 fb (a1.toInt + v6_15.toInt) := (jb_a255 ez_30).trans (by rw [hqz_29]; rfl)
                        have hb7r := jB8.r fb (a1.toInt + v6_15.toInt)
                        have hbr := hi_15_2.r (by omega)
                        refine lv_istore (lv' := [(7, .int z_30), (0, .ref r0), (1, .int a1), (2, .int a2), (3, .int z_6), (4, .int w0_8), (5, .int v5_15), (6, .int v6_15)]) hx hb dX0_decoded_112 hl (by decide) rfl (fun ls hl => ?_)
                        refine lv_iload hx hb dX0_decoded_114 (lv_at hl 0 rfl) ?_
                        refine lv_sipush (v := 192) hx hb dX0_decoded_116 (by decide) ?_
                        refine lv_iand hx hb dX0_decoded_119 ?_
                        refine lv_topi (fun z_31 ez_31 => ?_)
                        have hc7 := jb_a192 ez_31 (by omega) (by omega)
                        refine lv_sipush (v := 128) hx hb dX0_decoded_120 (by decide) ?_
                        refine lv_icmp_eq (tgt := 128) hx hb dX0_decoded_123 (by decide) (fun c_32 => ?_) (fun c_32 => ?_)
                        · skip
                          have c_32' : z_31.toInt = 128 := jb_eq (rfl) ((by decide)) c_32
                          refine lv_iload hx hb dX0_decoded_128 (lv_at hl 6 rfl) ?_
                          refine lv_bipush (v := 6) hx hb dX0_decoded_130 (by decide) ?_
                          refine lv_ishl hx hb dX0_decoded_132 ?_
                          refine lv_topi (fun z_33 ez_33 => ?_)
                          have hbz_33 := jb_shlc 6 64 ez_33 (by decide) (by decide) (by omega) (by omega)
                          refine lv_iload hx hb dX0_decoded_133 (lv_at hl 0 rfl) ?_
                          refine lv_bipush (v := 63) hx hb dX0_decoded_135 (by decide) ?_
                          refine lv_iand hx hb dX0_decoded_137 ?_
                          refine lv_topi (fun z_34 ez_34 => ?_)
                          have hz_34 : 0 ≤ z_34.toInt ∧ z_34.toInt ≤ 63 := by rw [ez_34]; exact jb_and z_30 (m := 63) (k := 6) (by decide) (by decide)
                          refine lv_ior hx hb dX0_decoded_138 ?_
                          refine lv_topi (fun z_35 ez_35 => ?_)
                          have hy7 := jb_a63 ez_34
                          have hz5 := jb_or64 ez_35 v5_15.toInt (by omega) (by omega) (by omega) (by omega) (by omega)
                          refine lv_istore (lv' := [(5, .int z_35), (7, .int z_30), (0, .ref r0), (1, .int a1), (2, .int a2), (3, .int z_6), (4, .int w0_8), (6, .int v6_15)]) hx hb dX0_decoded_139 hl (by decide) rfl (fun ls hl => ?_)
                          obtain ⟨z_36, ez_36⟩ : ∃ y : Int32, y = v6_15 + 1 := ⟨_, rfl⟩
                          refine lv_iinc (v := z_36) (lv' := [(6, .int z_36), (5, .int z_35), (7, .int z_30), (0, .ref r0), (1, .int a1), (2, .int a2), (3, .int z_6), (4, .int w0_8)]) hx hb dX0_decoded_141 hl (k := 7) rfl (by rw [ez_36]; rfl) (by decide) rfl (fun ls hl => ?_)
                          have hz_36 : z_36.toInt = v6_15.toInt + 1 := by rw [ez_36]; exact jb_iadd2 (rfl) (by decide) (by omega)
                          refine lv_goto (tgt := 95) hx hb dX0_decoded_144 (by decide) ?_
                          exact L95 z_35 z_36 _ _ hh_15 (by refine ⟨by omega, by omega, hi_15_2.step (y := z_34.toInt) (by omega) (by omega) (by omega) (by omega) (by omega), ?_⟩; exact ((jUr_e (by omega) (by omega) rfl).trans (jUr_n (by omega) hb7 (by omega) (by omega) rfl (by omega))).trans hi_15_3) (by omega) _ (lv_sub hl [3, 4, 5, 6, 7, 1, 0] rfl)
                        · skip
                          have c_32' : z_31.toInt ≠ 128 := jb_eq_n (rfl) ((by decide)) c_32
                          refine lv_iconst (v := (-1)) hx hb dX0_decoded_126 (by decide) ?_
                          rw [hQ]
                          exact W.iret (v := (-1)) hx hb hr (fun t ht hW => ⟨⟨(-1), (), rfl, by refine jUc.ret (jB8.r _ _).1 ?_; exact jUc_k hb3 (by omega) hm4 (by omega) (by omega) (hi_15_3.symm.trans (jUr_x (by omega) hb7 (by omega))) (jUk_x (Or.inl (by decide)) rfl), hh_15.rt (M1 := []) [] rfl ht⟩, by rw [ht]; try exact hh_15.1.1, fun q h9 hq => by rw [ht]; try exact hh_15.1.2.1 q h9 hq⟩) hh_15.1.2.2 dX0_decoded_127
                  exact L95 (w0_8.toInt + 1 - (1 : Int32).toInt : Int).toNat.succ z_14 1 _ _ hh_8 (by refine ⟨by omega, by omega, jUb.start hm4 (by omega) (by omega) rfl (by omega) (by omega) hu0, ?_⟩; exact jUr_e (by omega) (by omega) hu0) (by omega) _ (lv_sub hl [3, 4, 5, 6, 2, 1, 0] rfl)
                · skip
                  have c_12' : w0_8.toInt ≥ z_11.toInt := jb_lt_n (rfl) (rfl) c_12
                  refine lv_iconst (v := (-1)) hx hb dX0_decoded_81 (by decide) ?_
                  rw [hQ]
                  exact W.iret (v := (-1)) hx hb hr (fun t ht hW => ⟨⟨(-1), (), rfl, by refine jUc.ret (jB8.r _ _).1 ?_; exact jUc_m hb3 (by omega) rfl (jUm.bad (i := a1.toInt) (n := a2.toInt) hi_8_1 (by omega)) rfl, hh_8.rt (M1 := []) [] rfl ht⟩, by rw [ht]; try exact hh_8.1.1, fun q h9 hq => by rw [ht]; try exact hh_8.1.2.1 q h9 hq⟩) hh_8.1.2.2 dX0_decoded_82
          refine lv_icmp_lt (tgt := 45) hx hb dX0_decoded_38 (by decide) (fun c_37 => ?_) (fun c_37 => ?_)
          · skip
            have c_37' : z_6.toInt < 240 := jb_lt (rfl) ((by decide)) c_37
            refine lv_iload_n hx hb dX0_decoded_45 rfl (lv_at hl 0 rfl) ?_
            refine lv_sipush (v := 224) hx hb dX0_decoded_46 (by decide) ?_
            refine lv_icmp_lt (tgt := 56) hx hb dX0_decoded_49 (by decide) (fun c_38 => ?_) (fun c_38 => ?_)
            · skip
              have c_38' : z_6.toInt < 224 := jb_lt (rfl) ((by decide)) c_38
              refine lv_iconst (v := 1) hx hb dX0_decoded_56 (by decide) ?_
              exact C57 1 _ _ hh (by first | omega | (refine ⟨?_, ?_⟩ <;> (first | omega | rfl | assumption | decide | exact Or.inl rfl | exact Or.inr rfl | (simp only; omega)))) _ (lv_sub hl [1, 2, 3, 0] rfl)
            · skip
              have c_38' : z_6.toInt ≥ 224 := jb_lt_n (rfl) ((by decide)) c_38
              refine lv_iconst (v := 2) hx hb dX0_decoded_52 (by decide) ?_
              refine lv_goto (tgt := 57) hx hb dX0_decoded_53 (by decide) ?_
              exact C57 2 _ _ hh (by first | omega | (refine ⟨?_, ?_⟩ <;> (first | omega | rfl | assumption | decide | exact Or.inl rfl | exact Or.inr rfl | (simp only; omega)))) _ (lv_sub hl [1, 2, 3, 0] rfl)
          · skip
            have c_37' : z_6.toInt ≥ 240 := jb_lt_n (rfl) ((by decide)) c_37
            refine lv_iconst (v := 3) hx hb dX0_decoded_41 (by decide) ?_
            refine lv_goto (tgt := 57) hx hb dX0_decoded_42 (by decide) ?_
            exact C57 3 _ _ hh (by first | omega | (refine ⟨?_, ?_⟩ <;> (first | omega | rfl | assumption | decide | exact Or.inl rfl | exact Or.inr rfl | (simp only; omega)))) _ (lv_sub hl [1, 2, 3, 0] rfl)
        · skip
          have c_7' : z_6.toInt < 128 := jb_ge_n (rfl) ((by decide)) c_7
          refine lv_iload_n hx hb dX0_decoded_32 rfl (lv_at hl 0 rfl) ?_
          rw [hQ]
          exact W.iret (v := z_6) hx hb hr (fun t ht hW => ⟨⟨z_6, (), rfl, by refine jUc.ret (jB8.r _ _).1 ?_; exact jUc_a hb3 (by omega), hh.rt (M1 := []) [] rfl ht⟩, by rw [ht]; try exact hh.1.1, fun q h9 hq => by rw [ht]; try exact hh.1.2.1 q h9 hq⟩) hh.1.2.2 dX0_decoded_33
      · skip
        have c_4' : a2.toInt > z_3.toInt := jb_le_n (rfl) (rfl) c_4
        exact absurd c_4' (by omega)
set_option maxHeartbeats 4000000 in
set_option maxRecDepth 20000 in
theorem uX0_decodedSizeP (l : Launch) (dC : Nat → ClassId) (dI : Nat → Nat → Nat) (ca : Nat → ClassId) (base : Nat) (B : jF) (hB : jBok B) (hAp : jAp (dC, dI)) (G0 : jT) (H0 : Heap) (a0 : Int32) : Met l yX0_decodedSize (jw yX0_decodedSize cX0_decodedSize 1 (some .int)) ({ frames := 0, cells := 0, slots := 0, locals := 0 }) (va_Pc [.int a0] (fun U => U.heap = H0 ∧ jX B base G0 [] H0 ∧ jG dC dI ca base U ∧ jP (dC, dI) G0 H0 [] ∧ True)) (va_Qi (S := Unit) (fun r u => (r.toInt = jUz a0.toInt ∧ 1 ≤ r.toInt ∧ r.toInt ≤ 4 ∧ (a0.toInt < 65536 ∨ r.toInt = 4))) (fun u t => jRt (dC, dI) B base G0 EX0_decodedSizeP H0 [] t.heap) (jA base)) 0 0 (jA base) := by
  refine Met.ofW (cc := cX0_decodedSize) (maxL := 1) (ret := (some .int)) (by decide) rfl ?_
  intro p e s m args below meth c s₁ Bd hml hv
  obtain ⟨rfl, hH0, hX, hG, hP0, hp0⟩ := hv
  have hK := hG.1
  have hx := Bd.exec
  have hb := Bd.bytes
  have hr := Bd.returns
  have hts := atoms_spec (ws := (jw yX0_decodedSize cX0_decodedSize 1 (some .int))) Bd.pre
  have htw : ∀ w ∈ jWl, w.before _ s = true := fun w h => hts w (List.mem_cons_of_mem _ h)
  have hown : s.vm.findClass RX0 = some m.cls := findClass_of_methodNamed Bd.named
  have hlocks := Bd.notSynchronized
  obtain ⟨Q, hQ⟩ : ∃ Q, Q = MQ below (va_Qi (S := Unit) (fun r u => (r.toInt = jUz a0.toInt ∧ 1 ≤ r.toInt ∧ r.toInt ≤ 4 ∧ (a0.toInt < 65536 ∨ r.toInt = 4))) (fun u t => jRt (dC, dI) B base G0 EX0_decodedSizeP H0 [] t.heap) (jA base)) ([.int a0] : List Value).toArray s 0 0 (jA base) := ⟨_, rfl⟩
  rw [← hQ]
  have hl := lv_entry ([.int a0]) (n := 1) (Nat.le_of_ble_eq_true rfl)
  rw [lg_entry_eq]
  generalize (lg_sl ([.int a0]) ++ List.replicate (1 - (lg_sl ([.int a0])).length) Slot.unset).toArray = ls at hl ⊢
  have hl : lv_has ls 1 [(0, .int a0)] := hl
  generalize hR : (headSpec (jw yX0_decodedSize cX0_decodedSize 1 (some .int)) ({ frames := 0, cells := 0, slots := 0, locals := 0 })).room = R
  subst hH0
  have hh : jSt (dC, dI) B base G0 G0 EX0_decodedSizeP s.heap 0 0 [] [] [] s.heap [] := jSt.start hX hP0 jMc.nil jIs.nil
  clear hX hP0
  have hk0 : (0 : Int32).toInt = 0 := by decide
  have hk1 : (1 : Int32).toInt = 1 := by decide
  have hk2 : (2 : Int32).toInt = 2 := by decide
  have hk3 : (3 : Int32).toInt = 3 := by decide
  have hk4 : (4 : Int32).toInt = 4 := by decide
  have hk128 : (128 : Int32).toInt = 128 := by decide
  have hk2048 : (2048 : Int32).toInt = 2048 := by decide
  have hk65536 : (65536 : Int32).toInt = 65536 := by decide
  have hcs_60 := htw (.constant RX0 60 65536) (jWr_20 _ (List.mem_of_getElem? (i := 15) rfl))
  have hrg_a0 := jb_rng a0
  refine lv_iload_n hx hb dX0_decodedSize_0 rfl (lv_at hl 0 rfl) ?_
  refine lv_sipush (v := 128) hx hb dX0_decodedSize_1 (by decide) ?_
  refine lv_icmp_ge (tgt := 11) hx hb dX0_decodedSize_4 (by decide) (fun c_1 => ?_) (fun c_1 => ?_)
  · skip
    have c_1' : a0.toInt ≥ 128 := jb_ge (rfl) ((by decide)) c_1
    refine lv_iload_n hx hb dX0_decodedSize_11 rfl (lv_at hl 0 rfl) ?_
    refine lv_sipush (v := 2048) hx hb dX0_decodedSize_12 (by decide) ?_
    refine lv_icmp_ge (tgt := 22) hx hb dX0_decodedSize_15 (by decide) (fun c_2 => ?_) (fun c_2 => ?_)
    · skip
      have c_2' : a0.toInt ≥ 2048 := jb_ge (rfl) ((by decide)) c_2
      refine lv_iload_n hx hb dX0_decodedSize_22 rfl (lv_at hl 0 rfl) ?_
      refine lv_ldc hx hb hown hcs_60 dX0_decodedSize_23 ?_
      refine lv_icmp_ge (tgt := 32) hx hb dX0_decodedSize_25 (by decide) (fun c_3 => ?_) (fun c_3 => ?_)
      · skip
        have c_3' : a0.toInt ≥ 65536 := jb_ge (rfl) ((by decide)) c_3
        refine lv_iconst (v := 4) hx hb dX0_decodedSize_32 (by decide) ?_
        rw [hQ]
        exact W.iret (v := 4) hx hb hr (fun t ht hW => ⟨⟨4, (), rfl, by refine ⟨?_, by omega, by omega, by omega⟩; unfold jUz; first | (rw [if_pos (by omega)]; rfl) | (rw [if_neg (by omega), if_pos (by omega)]; rfl) | (rw [if_neg (by omega), if_neg (by omega), if_pos (by omega)]; rfl) | (rw [if_neg (by omega), if_neg (by omega), if_neg (by omega)]; rfl), hh.rt (M1 := []) [] rfl ht⟩, by rw [ht]; try exact hh.1.1, fun q h9 hq => by rw [ht]; try exact hh.1.2.1 q h9 hq⟩) hh.1.2.2 dX0_decodedSize_33
      · skip
        have c_3' : a0.toInt < 65536 := jb_ge_n (rfl) ((by decide)) c_3
        refine lv_iconst (v := 3) hx hb dX0_decodedSize_28 (by decide) ?_
        refine lv_goto (tgt := 33) hx hb dX0_decodedSize_29 (by decide) ?_
        rw [hQ]
        exact W.iret (v := 3) hx hb hr (fun t ht hW => ⟨⟨3, (), rfl, by refine ⟨?_, by omega, by omega, by omega⟩; unfold jUz; first | (rw [if_pos (by omega)]; rfl) | (rw [if_neg (by omega), if_pos (by omega)]; rfl) | (rw [if_neg (by omega), if_neg (by omega), if_pos (by omega)]; rfl) | (rw [if_neg (by omega), if_neg (by omega), if_neg (by omega)]; rfl), hh.rt (M1 := []) [] rfl ht⟩, by rw [ht]; try exact hh.1.1, fun q h9 hq => by rw [ht]; try exact hh.1.2.1 q h9 hq⟩) hh.1.2.2 dX0_decodedSize_33
    · skip
      have c_2' : a0.toInt < 2048 := jb_ge_n (rfl) ((by decide)) c_2
      refine lv_iconst (v := 2) hx hb dX0_decodedSize_18 (by decide) ?_
      refine lv_goto (tgt := 33) hx hb dX0_decodedSize_19 (by decide) ?_
      rw [hQ]
      exact W.iret (v := 2) hx hb hr (fun t ht hW => ⟨⟨2, (), rfl, by refine ⟨?_, by omega, by omega, by omega⟩; unfold jUz; first | (rw [if_pos (by omega)]; rfl) | (rw [if_neg (by omega), if_pos (by omega)]; rfl) | (rw [if_neg (by omega), if_neg (by omega), if_pos (by omega)]; rfl) | (rw [if_neg (by omega), if_neg (by omega), if_neg (by omega)]; rfl), hh.rt (M1 := []) [] rfl ht⟩, by rw [ht]; try exact hh.1.1, fun q h9 hq => by rw [ht]; try exact hh.1.2.1 q h9 hq⟩) hh.1.2.2 dX0_decodedSize_33
  · skip
    have c_1' : a0.toInt < 128 := jb_ge_n (rfl) ((by decide)) c_1
    refine lv_iconst (v := 1) hx hb dX0_decodedSize_7 (by decide) ?_
    refine lv_goto (tgt := 33) hx hb dX0_decodedSize_8 (by decide) ?_
    rw [hQ]
    exact W.iret (v := 1) hx hb hr (fun t ht hW => ⟨⟨1, (), rfl, by refine ⟨?_, by omega, by omega, by omega⟩; unfold jUz; first | (rw [if_pos (by omega)]; rfl) | (rw [if_neg (by omega), if_pos (by omega)]; rfl) | (rw [if_neg (by omega), if_neg (by omega), if_pos (by omega)]; rfl) | (rw [if_neg (by omega), if_neg (by omega), if_neg (by omega)]; rfl), hh.rt (M1 := []) [] rfl ht⟩, by rw [ht]; try exact hh.1.1, fun q h9 hq => by rw [ht]; try exact hh.1.2.1 q h9 hq⟩) hh.1.2.2 dX0_decodedSize_33
set_option maxHeartbeats 4000000 in
set_option maxRecDepth 20000 in
theorem uX1_decodeP (l : Launch) (dC : Nat → ClassId) (dI : Nat → Nat → Nat) (ca : Nat → ClassId) (base : Nat) (B : jF) (hB : jBok B) (hAp : jAp (dC, dI)) (hB3 : ∀ n G a H, B 3 n G a H ↔ jOb (dC, dI) 3 17 (F3 n G) a H) (hB100 : ∀ n G a H, B 100 n G a H ↔ jAr (dC, dI) (ca 0) (fun j z => True) n a H) (hB101 : ∀ n G a H, B 101 n G a H ↔ jAr (dC, dI) (ca 1) (fun j z => True) n a H) (hB197 : ∀ n G a H, B 197 n G a H ↔ jAr (dC, dI) (ca 0) (fun j z => jBf j z) n a H) (G0 : jT) (H0 : Heap) (r0 : Nat) (r1 : Nat) (a2 : Int32) (n0 : Nat) (tx_ : Nat) (fb : Nat → Int32) (ft : Nat → Int32) : Met l yX1_decode (jw yX1_decode cX1_decode 7 (some .boolean)) ({ frames := 1, cells := 0, slots := 0, locals := 27 }) (va_Pc [.ref r0, .ref r1, .int a2] (fun U => U.heap = H0 ∧ jX B base G0 [] H0 ∧ jG dC dI ca base U ∧ G0 r0 = some (3, n0) ∧ G0 r1 = some (197, 4000) ∧ G0 tx_ = some (101, 1500) ∧ jP (dC, dI) G0 H0 [(r0, 3, 2, .ref tx_)] ∧ jMc (dC, dI) G0 H0 [(r1, 197, 4000, ca 0, fb), (tx_, 101, 1500, ca 1, ft)] ∧ 0 ≤ a2.toInt ∧ a2.toInt ≤ 4000)) (va_Qi (S := Int32 × (Nat → Int32)) (fun r u => (r = 0 ∨ r = 1) ∧ (0 ≤ u.1.toInt ∧ u.1.toInt ≤ 1500 ∧ u.1.toInt ≤ a2.toInt + 3 ∧ jVdc (jB8 fb) a2.toInt r.toInt u.1.toInt u.2)) (fun u t => jRt (dC, dI) B base G0 EX1_decodeP H0 [(r0, 3, 3, .int u.1)] t.heap ∧ jMc (dC, dI) G0 t.heap [(tx_, 101, 1500, ca 1, u.2)]) (jA base)) 0 0 (jA base) := by
  refine Met.ofW (cc := cX1_decode) (maxL := 7) (ret := (some .boolean)) (by decide) rfl ?_
  intro p e s m args below meth c s₁ Bd hml hv
  obtain ⟨rfl, hH0, hX, hG, hg_r0, hg_r1, hg_tx_, hP0, hM0, hp0, hp1⟩ := hv
  have hK := hG.1
  have hx := Bd.exec
  have hb := Bd.bytes
  have hr := Bd.returns
  have hts := atoms_spec (ws := (jw yX1_decode cX1_decode 7 (some .boolean))) Bd.pre
  have htw : ∀ w ∈ jWl, w.before _ s = true := fun w h => hts w (List.mem_cons_of_mem _ h)
  have hown : s.vm.findClass RX1 = some m.cls := findClass_of_methodNamed Bd.named
  have hlocks := Bd.notSynchronized
  obtain ⟨Q, hQ⟩ : ∃ Q, Q = MQ below (va_Qi (S := Int32 × (Nat → Int32)) (fun r u => (r = 0 ∨ r = 1) ∧ (0 ≤ u.1.toInt ∧ u.1.toInt ≤ 1500 ∧ u.1.toInt ≤ a2.toInt + 3 ∧ jVdc (jB8 fb) a2.toInt r.toInt u.1.toInt u.2)) (fun u t => jRt (dC, dI) B base G0 EX1_decodeP H0 [(r0, 3, 3, .int u.1)] t.heap ∧ jMc (dC, dI) G0 t.heap [(tx_, 101, 1500, ca 1, u.2)]) (jA base)) ([.ref r0, .ref r1, .int a2] : List Value).toArray s 0 0 (jA base) := ⟨_, rfl⟩
  rw [← hQ]
  have hl := lv_entry ([.ref r0, .ref r1, .int a2]) (n := 7) (Nat.le_of_ble_eq_true rfl)
  rw [lg_entry_eq]
  generalize (lg_sl ([.ref r0, .ref r1, .int a2]) ++ List.replicate (7 - (lg_sl ([.ref r0, .ref r1, .int a2])).length) Slot.unset).toArray = ls at hl ⊢
  have hl : lv_has ls 7 [(0, .ref r0), (1, .ref r1), (2, .int a2)] := hl
  generalize hR : (headSpec (jw yX1_decode cX1_decode 7 (some .boolean)) ({ frames := 1, cells := 0, slots := 0, locals := 27 })).room = R
  subst hH0
  have hh : jSt (dC, dI) B base G0 G0 EX1_decodeP s.heap 0 0 [(r0, 3, 2, .ref tx_)] [(r1, 197, 4000, ca 0, fb), (tx_, 101, 1500, ca 1, ft)] [] s.heap [] := jSt.start hX hP0 hM0 jIs.nil
  clear hX hP0
  have hk0 : (0 : Int32).toInt = 0 := by decide
  have hk1 : (1 : Int32).toInt = 1 := by decide
  have hk2 : (2 : Int32).toInt = 2 := by decide
  have hk10 : (10 : Int32).toInt = 10 := by decide
  have hk1023 : (1023 : Int32).toInt = 1023 := by decide
  have hk1500 : (1500 : Int32).toInt = 1500 := by decide
  have hk55296 : (55296 : Int32).toInt = 55296 := by decide
  have hk56320 : (56320 : Int32).toInt = 56320 := by decide
  have hk65533 : (65533 : Int32).toInt = 65533 := by decide
  have hk65536 : (65536 : Int32).toInt = 65536 := by decide
  have hly_3_2 := htw (u_lay RX1 TX1 2) (jWc_wsX10 _ (u_in_lay (by decide)))
  have hly_3_3 := htw (u_lay RX1 TX1 3) (jWc_wsX10 _ (u_in_lay (by decide)))
  have hlk_42 := (htw (.fieldLink RX1 42 "ProofServer$Document" "length" "I") (jWr_29 _ (List.mem_of_getElem? (i := 5) rfl)))
  have hcs_65 := htw (.constant RX1 65 65536) (jWr_93 _ (List.mem_of_getElem? (i := 20) rfl))
  have hlk_15 := (htw (.fieldLink RX1 15 "ProofServer$Document" "text" "[I") (jWr_10 _ (List.mem_of_getElem? (i := 6) rfl)))
  have hcs_66 := htw (.constant RX1 66 55296) (jWr_93 _ (List.mem_of_getElem? (i := 21) rfl))
  have hcs_67 := htw (.constant RX1 67 56320) (jWr_93 _ (List.mem_of_getElem? (i := 22) rfl))
  have hcs_68 := htw (.constant RX1 68 65533) (jWr_93 _ (List.mem_of_getElem? (i := 23) rfl))
  have hrg_a2 := jb_rng a2
  refine lv_aload_n hx hb dX1_decode_0 rfl (lv_at hl 0 rfl) ?_
  refine lv_iconst (v := 0) hx hb dX1_decode_1 (by decide) ?_
  refine j7_put hx hb hown hK hh hB hAp hB3 (C := RX1) (T := TX1) (N := 17) rfl (by decide) hg_r0 (i := 3) (by decide) hly_3_3 rfl hlk_42 rfl (ty := .int) (v := .int 0) (by decide +kernel) rfl rfl (⟨_, rfl, by omega, by omega⟩) rfl (L1 := [(r0, 3, 2, .ref tx_)]) [0] rfl rfl rfl dX1_decode_2 (fun H_1 locs_1 hh_1 => ?_)
  clear hh
  refine lv_iconst (v := 0) hx hb dX1_decode_5 (by decide) ?_
  refine lv_istore_n (lv' := [(3, .int 0), (0, .ref r0), (1, .ref r1), (2, .int a2)]) hx hb dX1_decode_6 rfl hl (by decide) rfl (fun ls hl => ?_)
  refine lv_iconst (v := 0) hx hb dX1_decode_7 (by decide) ?_
  refine lv_istore (lv' := [(4, .int 0), (3, .int 0), (0, .ref r0), (1, .ref r1), (2, .int a2)]) hx hb dX1_decode_8 hl (by decide) rfl (fun ls hl => ?_)
  have L10 : ∀ (N : Nat) (v3_2 : Int32) (v4_2 : Int32) (wl_2 : Int32) (ft_2 : Nat → Int32) (H_2 : Heap) (locs_2 : List Loc), jSt (dC, dI) B base G0 G0 EX1_decodeP s.heap 0 0 [(r0, 3, 3, .int wl_2), (r0, 3, 2, .ref tx_)] [(tx_, 101, 1500, ca 1, ft_2), (r1, 197, 4000, ca 0, fb)] [] H_2 locs_2 → (0 ≤ v4_2.toInt ∧ v4_2.toInt ≤ v3_2.toInt ∧ v3_2.toInt ≤ a2.toInt + 3 ∧ 0 ≤ wl_2.toInt ∧ wl_2.toInt ≤ 1500 ∧ wl_2.toInt ≤ v3_2.toInt ∧ jDe (jB8 fb) a2.toInt ft_2 wl_2.toInt v3_2.toInt) → (((a2.toInt - v4_2.toInt).toNat : Int) : Int) < N → ∀ ls : Array Slot, lv_has ls 7 [(0, .ref r0), (1, .ref r1), (2, .int a2), (3, .int v3_2), (4, .int v4_2)] → W p l e R s m ([.ref r0, .ref r1, .int a2] : List Value).toArray below meth c H_2 locs_2 0 0 Q (F0 m 10 ls []) := by
    intro N
    induction N with
    | zero => intro v3_2 v4_2 wl_2 ft_2 H_2 locs_2 hh_2  hi_2 hm; exact absurd hm (by omega)
    | succ N L10 =>
      intro v3_2 v4_2 wl_2 ft_2 H_2 locs_2 hh_2  hi_2 hm_2 ls hl
      obtain ⟨hi_2_0, hi_2_1, hi_2_2, hi_2_3, hi_2_4, hi_2_5, hi_2_6⟩ := hi_2
      refine lv_iload hx hb dX1_decode_10 (lv_at hl 4 rfl) ?_
      refine lv_iload_n hx hb dX1_decode_12 rfl (lv_at hl 2 rfl) ?_
      refine lv_icmp_ge (tgt := 165) hx hb dX1_decode_13 (by decide) (fun c_3 => ?_) (fun c_3 => ?_)
      · skip
        have c_3' : v4_2.toInt ≥ a2.toInt := jb_ge (rfl) (rfl) c_3
        refine lv_iconst (v := 1) hx hb dX1_decode_165 (by decide) ?_
        rw [hQ]
        exact W.zret (v := 1) hx hb hr (jb_nz (Or.inr rfl)) (fun t ht hW => ⟨⟨1, (wl_2, ft_2), rfl, ⟨(Or.inr rfl), by (try dsimp only); refine ⟨by omega, by omega, by omega, ?_⟩; exact Or.inr ⟨by omega, hi_2_6.done (by omega)⟩⟩, ⟨hh_2.rt (M1 := [(r0, 3, 3, .int wl_2)]) [0] rfl ht, by rw [ht]; exact hh_2.2.2.2.2.2.2.2.1.sub [0] rfl⟩⟩, by rw [ht]; try exact hh_2.1.1, fun q h9 hq => by rw [ht]; try exact hh_2.1.2.1 q h9 hq⟩) hh_2.1.2.2 dX1_decode_166
      · skip
        have c_3' : v4_2.toInt < a2.toInt := jb_ge_n (rfl) (rfl) c_3
        refine lv_iload_n hx hb dX1_decode_16 rfl (lv_at hl 3 rfl) ?_
        refine lv_iload_n hx hb dX1_decode_17 rfl (lv_at hl 2 rfl) ?_
        refine lv_icmp_ge (tgt := 165) hx hb dX1_decode_18 (by decide) (fun c_4 => ?_) (fun c_4 => ?_)
        · skip
          have c_4' : v3_2.toInt ≥ a2.toInt := jb_ge (rfl) (rfl) c_4
          refine lv_iconst (v := 1) hx hb dX1_decode_165 (by decide) ?_
          rw [hQ]
          exact W.zret (v := 1) hx hb hr (jb_nz (Or.inr rfl)) (fun t ht hW => ⟨⟨1, (wl_2, ft_2), rfl, ⟨(Or.inr rfl), by (try dsimp only); refine ⟨by omega, by omega, by omega, ?_⟩; exact Or.inr ⟨by omega, hi_2_6.done (by omega)⟩⟩, ⟨hh_2.rt (M1 := [(r0, 3, 3, .int wl_2)]) [0] rfl ht, by rw [ht]; exact hh_2.2.2.2.2.2.2.2.1.sub [0] rfl⟩⟩, by rw [ht]; try exact hh_2.1.1, fun q h9 hq => by rw [ht]; try exact hh_2.1.2.1 q h9 hq⟩) hh_2.1.2.2 dX1_decode_166
        · skip
          have c_4' : v3_2.toInt < a2.toInt := jb_ge_n (rfl) (rfl) c_4
          refine lv_aload_n hx hb dX1_decode_21 rfl (lv_at hl 1 rfl) ?_
          refine lv_iload_n hx hb dX1_decode_22 rfl (lv_at hl 3 rfl) ?_
          refine lv_iload_n hx hb dX1_decode_23 rfl (lv_at hl 2 rfl) ?_
          refine va_calli (A0 := jA base) (H0 := s.heap) (va_runS (As := [.ref r1, .int v3_2, .int a2]) (rest := []) ⟨hx, hb, hml, hown, hts⟩ (uX0_decodedP l dC dI ca base B hB hAp hB197 G0 H_2 r1 v3_2 a2 fb) (va_cwS 3 hts (jgS (jWr_94 _ (List.mem_of_getElem? (i := 0) rfl)) (jWr_20 _ (List.mem_of_getElem? (i := 13) rfl)) (jWr_1 _ (List.mem_of_getElem? (i := 14) rfl)) (jWr_20 _ (List.mem_of_getElem? (i := 14) rfl))) rfl rfl rfl (by decide +kernel) ⟨by rw [← hR]; exact Nat.le_of_ble_eq_true rfl, by rw [← hR]; exact Nat.le_of_ble_eq_true rfl⟩) ⟨fun a U g mk q => by obtain ⟨q0, q1, q2, qK, q10, q11, q12, q13⟩ := q; exact ⟨q0, q1, q2, jG.calling g mk a qK, q10, q11, q12, q13⟩, fun U hU hW => ⟨rfl, hU, hh_2.2.1, hG.step hW hU hh_2.1, hg_r1, jP.nil, (hh_2.2.2.2.2.2.2.2.1.sub (L1 := [(r1, 197, 4000, ca 0, fb)]) [1] rfl), by first | omega | (refine ⟨?_, ?_, ?_⟩ <;> (first | omega | rfl | assumption | decide | exact Or.inl rfl | exact Or.inr rfl | (simp only; omega)))⟩⟩ rfl rfl hl.1 rfl (lv_room (Nat.le_of_ble_eq_true rfl)) dX1_decode_24 ⟨Nat.zero_le _, Nat.zero_le _⟩) hh_2.1 (fun q _ h => h) (fun q h => h) (fun r_6 u_5 t_5 H_5 locs_5 ht_5 hvm_5 hr_6 hb_5 hz_5 hk_5 hS_5 => ?_)
          rw [ht_5] at hb_5
          obtain ⟨hb_51, hb_52, hb_53, hb_54, hb_55⟩ := hb_5
          have hh_5 : jSt (dC, dI) B base G0 G0 EX1_decodeP s.heap 0 0 [(r0, 3, 3, .int wl_2), (r0, 3, 2, .ref tx_)] [(tx_, 101, 1500, ca 1, ft_2), (r1, 197, 4000, ca 0, fb)] [] H_5 locs_5 := ((hh_2.call hb_51 hb_52 hb_53 hb_54 hS_5 rfl (L1 := [(r0, 3, 3, .int wl_2), (r0, 3, 2, .ref tx_)]) [0, 1] rfl rfl (M1 := [(tx_, 101, 1500, ca 1, ft_2), (r1, 197, 4000, ca 0, fb)]) [0, 1] rfl rfl (I1 := []) [] rfl rfl).more hb_55)
          clear hh_2 ht_5 hvm_5 hz_5 hk_5 hS_5 hb_51 hb_52 hb_53 hb_54 hb_55
          obtain ⟨hr_6_0, hr_6_1, hr_6_2⟩ := hr_6
          refine lv_istore (lv' := [(5, .int r_6), (0, .ref r0), (1, .ref r1), (2, .int a2), (3, .int v3_2), (4, .int v4_2)]) hx hb dX1_decode_27 hl (by decide) rfl (fun ls hl => ?_)
          refine lv_iload_n hx hb dX1_decode_29 rfl (lv_at hl 4 rfl) ?_
          refine lv_iload hx hb dX1_decode_30 (lv_at hl 0 rfl) ?_
          refine lv_if_ge (tgt := 39) hx hb dX1_decode_32 (by decide) (fun c_7 => ?_) (fun c_7 => ?_)
          · skip
            have c_7' : r_6.toInt ≥ 0 := jb_ge (rfl) ((by decide)) c_7
            refine lv_iload hx hb dX1_decode_39 (lv_at hl 0 rfl) ?_
            refine va_calli (A0 := jA base) (H0 := s.heap) (va_runS (As := [.int r_6]) (rest := [.int v3_2]) ⟨hx, hb, hml, hown, hts⟩ (uX0_decodedSizeP l dC dI ca base B hB hAp G0 H_5 r_6) (va_cwS 1 hts (jgS (jWr_94 _ (List.mem_of_getElem? (i := 1) rfl)) (jWr_22 _ (List.mem_of_getElem? (i := 1) rfl)) (jWr_1 _ (List.mem_of_getElem? (i := 14) rfl)) (jWr_22 _ (List.mem_of_getElem? (i := 2) rfl))) rfl rfl rfl (by decide +kernel) ⟨by rw [← hR]; exact Nat.le_of_ble_eq_true rfl, by rw [← hR]; exact Nat.le_of_ble_eq_true rfl⟩) ⟨fun a U g mk q => by obtain ⟨q0, q1, q2, qK, q10, q11⟩ := q; exact ⟨q0, q1, q2, jG.calling g mk a qK, q10, q11⟩, fun U hU hW => ⟨rfl, hU, hh_5.2.1, hG.step hW hU hh_5.1, jP.nil, trivial⟩⟩ rfl rfl hl.1 rfl (lv_room (Nat.le_of_ble_eq_true rfl)) dX1_decode_41 ⟨Nat.zero_le _, Nat.zero_le _⟩) hh_5.1 (fun q _ h => h) (fun q h => h) (fun r_9 u_8 t_8 H_8 locs_8 ht_8 hvm_8 hr_9 hb_8 hz_8 hk_8 hS_8 => ?_)
            rw [ht_8] at hb_8
            obtain ⟨hb_81, hb_82, hb_83, hb_84, hb_85⟩ := hb_8
            have hh_8 : jSt (dC, dI) B base G0 G0 EX1_decodeP s.heap 0 0 [(r0, 3, 3, .int wl_2), (r0, 3, 2, .ref tx_)] [(tx_, 101, 1500, ca 1, ft_2), (r1, 197, 4000, ca 0, fb)] [] H_8 locs_8 := ((hh_5.call hb_81 hb_82 hb_83 hb_84 hS_8 rfl (L1 := [(r0, 3, 3, .int wl_2), (r0, 3, 2, .ref tx_)]) [0, 1] rfl rfl (M1 := [(tx_, 101, 1500, ca 1, ft_2), (r1, 197, 4000, ca 0, fb)]) [0, 1] rfl rfl (I1 := []) [] rfl rfl).more hb_85)
            clear hh_5 ht_8 hvm_8 hz_8 hk_8 hS_8 hb_81 hb_82 hb_83 hb_84 hb_85
            obtain ⟨hr_9_0, hr_9_1, hr_9_2, hr_9_3⟩ := hr_9
            refine lv_iadd hx hb dX1_decode_44 ?_
            refine lv_topi (fun z_10 ez_10 => ?_)
            have hz_10 : z_10.toInt = v3_2.toInt + r_9.toInt := by rw [ez_10]; exact jb_iadd2 (rfl) (rfl) (by omega)
            refine lv_istore_n (lv' := [(3, .int z_10), (5, .int r_6), (0, .ref r0), (1, .ref r1), (2, .int a2), (4, .int v4_2)]) hx hb dX1_decode_45 rfl hl (by decide) rfl (fun ls hl => ?_)
            refine lv_iload hx hb dX1_decode_46 (lv_at hl 1 rfl) ?_
            refine lv_ldc hx hb hown hcs_65 dX1_decode_48 ?_
            refine lv_icmp_lt (tgt := 57) hx hb dX1_decode_50 (by decide) (fun c_11 => ?_) (fun c_11 => ?_)
            · skip
              have c_11' : r_6.toInt < 65536 := jb_lt (rfl) ((by decide)) c_11
              first | (have hr_9_3q := hr_9_3.resolve_left (by omega); clear hr_9_3) | (have hr_9_3q := hr_9_3.resolve_right (by omega); clear hr_9_3) | try clear hr_9_3
              refine lv_iconst (v := 1) hx hb dX1_decode_57 (by decide) ?_
              refine lv_istore (lv' := [(6, .int 1), (3, .int z_10), (5, .int r_6), (0, .ref r0), (1, .ref r1), (2, .int a2), (4, .int v4_2)]) hx hb dX1_decode_58 hl (by decide) rfl (fun ls hl => ?_)
              refine lv_aload_n hx hb dX1_decode_60 rfl (lv_at hl 3 rfl) ?_
              refine j7_read hx hb hown hK (C := RX1) (T := TX1) (N := 17) rfl hly_3_3 hlk_42 (hh_8.at 0 rfl) dX1_decode_61 ?_
              refine lv_iload hx hb dX1_decode_64 (lv_at hl 0 rfl) ?_
              refine lv_iadd hx hb dX1_decode_66 ?_
              refine lv_topi (fun z_12 ez_12 => ?_)
              have hz_12 : z_12.toInt = wl_2.toInt + 1 := by rw [ez_12]; exact jb_iadd2 (rfl) ((by decide)) (by omega)
              refine lv_sipush (v := 1500) hx hb dX1_decode_67 (by decide) ?_
              refine lv_icmp_le (tgt := 75) hx hb dX1_decode_70 (by decide) (fun c_13 => ?_) (fun c_13 => ?_)
              · skip
                have c_13' : z_12.toInt ≤ 1500 := jb_le (rfl) ((by decide)) c_13
                refine lv_iload hx hb dX1_decode_75 (lv_at hl 0 rfl) ?_
                refine lv_iconst (v := 2) hx hb dX1_decode_77 (by decide) ?_
                refine lv_icmp_ne (tgt := 127) hx hb dX1_decode_78 (by decide) (fun c_14 => ?_) (fun c_14 => ?_)
                · skip
                  refine lv_aload_n hx hb dX1_decode_127 rfl (lv_at hl 3 rfl) ?_
                  refine j7_read hx hb hown hK (C := RX1) (T := TX1) (N := 17) rfl hly_3_2 hlk_15 (hh_8.at 1 rfl) dX1_decode_128 ?_
                  refine lv_aload_n hx hb dX1_decode_131 rfl (lv_at hl 3 rfl) ?_
                  refine j7_read hx hb hown hK (C := RX1) (T := TX1) (N := 17) rfl hly_3_3 hlk_42 (hh_8.at 0 rfl) dX1_decode_132 ?_
                  refine lv_iload hx hb dX1_decode_135 (lv_at hl 2 rfl) ?_
                  refine lv_if_ge (tgt := 145) hx hb dX1_decode_137 (by decide) (fun c_15 => ?_) (fun c_15 => ?_)
                  · skip
                    have c_15' : r_6.toInt ≥ 0 := jb_ge (rfl) ((by decide)) c_15
                    refine lv_iload hx hb dX1_decode_145 (lv_at hl 2 rfl) ?_
                    refine j7_iastU hx hb hK hh_8 hB hB101 1 rfl (by decide) (by decide) rfl 0 rfl (M1 := [(r1, 197, 4000, ca 0, fb)]) [1] rfl rfl rfl hg_tx_ (x := wl_2.toInt) (rfl) (by omega) (trivial) dX1_decode_147 (fun H_16 locs_16 fs_17 hv_16 ho_16 hh_16 => ?_)
                    have hv_16 : jSo fs_17 (wl_2.toInt) = r_6.toInt := by unfold jSo; rw [hv_16]; try exact rfl
                    clear hh_8
                    refine lv_aload_n hx hb dX1_decode_148 rfl (lv_at hl 3 rfl) ?_
                    refine lv_dup hx hb dX1_decode_149 rfl ?_
                    refine j7_read hx hb hown hK (C := RX1) (T := TX1) (N := 17) rfl hly_3_3 hlk_42 (hh_16.at 0 rfl) dX1_decode_150 ?_
                    refine lv_iload hx hb dX1_decode_153 (lv_at hl 0 rfl) ?_
                    refine lv_iadd hx hb dX1_decode_155 ?_
                    refine lv_topi (fun z_18 ez_18 => ?_)
                    have hz_18 : z_18.toInt = wl_2.toInt + 1 := by rw [ez_18]; exact jb_iadd2 (rfl) ((by decide)) (by omega)
                    refine j7_put hx hb hown hK hh_16 hB hAp hB3 (C := RX1) (T := TX1) (N := 17) rfl (by decide) hg_r0 (i := 3) (by decide) hly_3_3 rfl hlk_42 rfl (ty := .int) (v := .int z_18) (by decide +kernel) rfl rfl (⟨_, rfl, by omega, by omega⟩) rfl (L1 := [(r0, 3, 2, .ref tx_)]) [1] rfl rfl rfl dX1_decode_156 (fun H_19 locs_19 hh_19 => ?_)
                    clear hh_16
                    obtain ⟨z_20, ez_20⟩ : ∃ y : Int32, y = v4_2 + 1 := ⟨_, rfl⟩
                    refine lv_iinc (v := z_20) (lv' := [(4, .int z_20), (6, .int 1), (3, .int z_10), (5, .int r_6), (0, .ref r0), (1, .ref r1), (2, .int a2)]) hx hb dX1_decode_159 hl (k := 6) rfl (by rw [ez_20]; rfl) (by decide) rfl (fun ls hl => ?_)
                    have hz_20 : z_20.toInt = v4_2.toInt + 1 := by rw [ez_20]; exact jb_iadd2 (rfl) (by decide) (by omega)
                    refine lv_goto (tgt := 10) hx hb dX1_decode_162 (by decide) ?_
                    exact L10 z_10 z_20 z_18 fs_17 _ _ hh_19 (by refine ⟨by omega, by omega, by omega, by omega, by omega, by omega, ?_⟩; first | (exfalso; omega) | (exact hi_2_6.oneC (by omega) hr_6_0 (by omega) (jOth.ho (jOth.mk (n := 1500) ho_16 rfl (by omega)) rfl (by omega)) hv_16 (by omega) (by omega) (by omega))) (by omega) _ (lv_sub hl [4, 5, 6, 2, 0] rfl)
                  · skip
                    have c_15' : r_6.toInt < 0 := jb_ge_n (rfl) ((by decide)) c_15
                    refine lv_ldc hx hb hown hcs_68 dX1_decode_140 ?_
                    refine lv_goto (tgt := 147) hx hb dX1_decode_142 (by decide) ?_
                    refine j7_iastU hx hb hK hh_8 hB hB101 1 rfl (by decide) (by decide) rfl 0 rfl (M1 := [(r1, 197, 4000, ca 0, fb)]) [1] rfl rfl rfl hg_tx_ (x := wl_2.toInt) (rfl) (by omega) (trivial) dX1_decode_147 (fun H_21 locs_21 fs_22 hv_21 ho_21 hh_21 => ?_)
                    have hv_21 : jSo fs_22 (wl_2.toInt) = 65533 := by unfold jSo; rw [hv_21]; try exact (by decide)
                    clear hh_8
                    refine lv_aload_n hx hb dX1_decode_148 rfl (lv_at hl 3 rfl) ?_
                    refine lv_dup hx hb dX1_decode_149 rfl ?_
                    refine j7_read hx hb hown hK (C := RX1) (T := TX1) (N := 17) rfl hly_3_3 hlk_42 (hh_21.at 0 rfl) dX1_decode_150 ?_
                    refine lv_iload hx hb dX1_decode_153 (lv_at hl 0 rfl) ?_
                    refine lv_iadd hx hb dX1_decode_155 ?_
                    refine lv_topi (fun z_23 ez_23 => ?_)
                    have hz_23 : z_23.toInt = wl_2.toInt + 1 := by rw [ez_23]; exact jb_iadd2 (rfl) ((by decide)) (by omega)
                    refine j7_put hx hb hown hK hh_21 hB hAp hB3 (C := RX1) (T := TX1) (N := 17) rfl (by decide) hg_r0 (i := 3) (by decide) hly_3_3 rfl hlk_42 rfl (ty := .int) (v := .int z_23) (by decide +kernel) rfl rfl (⟨_, rfl, by omega, by omega⟩) rfl (L1 := [(r0, 3, 2, .ref tx_)]) [1] rfl rfl rfl dX1_decode_156 (fun H_24 locs_24 hh_24 => ?_)
                    clear hh_21
                    obtain ⟨z_25, ez_25⟩ : ∃ y : Int32, y = v4_2 + 1 := ⟨_, rfl⟩
                    refine lv_iinc (v := z_25) (lv' := [(4, .int z_25), (6, .int 1), (3, .int z_10), (5, .int r_6), (0, .ref r0), (1, .ref r1), (2, .int a2)]) hx hb dX1_decode_159 hl (k := 6) rfl (by rw [ez_25]; rfl) (by decide) rfl (fun ls hl => ?_)
                    have hz_25 : z_25.toInt = v4_2.toInt + 1 := by rw [ez_25]; exact jb_iadd2 (rfl) (by decide) (by omega)
                    refine lv_goto (tgt := 10) hx hb dX1_decode_162 (by decide) ?_
                    exact L10 z_10 z_25 z_23 fs_22 _ _ hh_24 (by refine ⟨by omega, by omega, by omega, by omega, by omega, by omega, ?_⟩; first | (exfalso; omega) | (exact hi_2_6.oneC (by omega) hr_6_0 (by omega) (jOth.ho (jOth.mk (n := 1500) ho_21 rfl (by omega)) rfl (by omega)) hv_21 (by omega) (by omega) (by omega))) (by omega) _ (lv_sub hl [4, 5, 6, 2, 0] rfl)
                · skip
                  exact absurd c_14 (by decide)
              · skip
                have c_13' : z_12.toInt > 1500 := jb_le_n (rfl) ((by decide)) c_13
                refine lv_iconst (v := 0) hx hb dX1_decode_73 (by decide) ?_
                rw [hQ]
                exact W.zret (v := 0) hx hb hr (jb_nz (Or.inl rfl)) (fun t ht hW => ⟨⟨0, (wl_2, ft_2), rfl, ⟨(Or.inl rfl), by (try dsimp only); refine ⟨by omega, by omega, by omega, ?_⟩; exact Or.inl ⟨by omega, hi_2_6.long (by omega) hr_6_0 (s := 1) (by omega) (by omega)⟩⟩, ⟨hh_8.rt (M1 := [(r0, 3, 3, .int wl_2)]) [0] rfl ht, by rw [ht]; exact hh_8.2.2.2.2.2.2.2.1.sub [0] rfl⟩⟩, by rw [ht]; try exact hh_8.1.1, fun q h9 hq => by rw [ht]; try exact hh_8.1.2.1 q h9 hq⟩) hh_8.1.2.2 dX1_decode_74
            · skip
              have c_11' : r_6.toInt ≥ 65536 := jb_lt_n (rfl) ((by decide)) c_11
              first | (have hr_9_3q := hr_9_3.resolve_left (by omega); clear hr_9_3) | (have hr_9_3q := hr_9_3.resolve_right (by omega); clear hr_9_3) | try clear hr_9_3
              refine lv_iconst (v := 2) hx hb dX1_decode_53 (by decide) ?_
              refine lv_goto (tgt := 58) hx hb dX1_decode_54 (by decide) ?_
              refine lv_istore (lv' := [(6, .int 2), (3, .int z_10), (5, .int r_6), (0, .ref r0), (1, .ref r1), (2, .int a2), (4, .int v4_2)]) hx hb dX1_decode_58 hl (by decide) rfl (fun ls hl => ?_)
              refine lv_aload_n hx hb dX1_decode_60 rfl (lv_at hl 3 rfl) ?_
              refine j7_read hx hb hown hK (C := RX1) (T := TX1) (N := 17) rfl hly_3_3 hlk_42 (hh_8.at 0 rfl) dX1_decode_61 ?_
              refine lv_iload hx hb dX1_decode_64 (lv_at hl 0 rfl) ?_
              refine lv_iadd hx hb dX1_decode_66 ?_
              refine lv_topi (fun z_26 ez_26 => ?_)
              have hz_26 : z_26.toInt = wl_2.toInt + 2 := by rw [ez_26]; exact jb_iadd2 (rfl) ((by decide)) (by omega)
              refine lv_sipush (v := 1500) hx hb dX1_decode_67 (by decide) ?_
              refine lv_icmp_le (tgt := 75) hx hb dX1_decode_70 (by decide) (fun c_27 => ?_) (fun c_27 => ?_)
              · skip
                have c_27' : z_26.toInt ≤ 1500 := jb_le (rfl) ((by decide)) c_27
                refine lv_iload hx hb dX1_decode_75 (lv_at hl 0 rfl) ?_
                refine lv_iconst (v := 2) hx hb dX1_decode_77 (by decide) ?_
                refine lv_icmp_ne (tgt := 127) hx hb dX1_decode_78 (by decide) (fun c_28 => ?_) (fun c_28 => ?_)
                · skip
                  exact absurd c_28 (by decide)
                · skip
                  refine lv_aload_n hx hb dX1_decode_81 rfl (lv_at hl 3 rfl) ?_
                  refine j7_read hx hb hown hK (C := RX1) (T := TX1) (N := 17) rfl hly_3_2 hlk_15 (hh_8.at 1 rfl) dX1_decode_82 ?_
                  refine lv_aload_n hx hb dX1_decode_85 rfl (lv_at hl 3 rfl) ?_
                  refine j7_read hx hb hown hK (C := RX1) (T := TX1) (N := 17) rfl hly_3_3 hlk_42 (hh_8.at 0 rfl) dX1_decode_86 ?_
                  refine lv_ldc hx hb hown hcs_66 dX1_decode_89 ?_
                  refine lv_iload hx hb dX1_decode_91 (lv_at hl 2 rfl) ?_
                  refine lv_ldc hx hb hown hcs_65 dX1_decode_93 ?_
                  refine lv_isub hx hb dX1_decode_95 ?_
                  refine lv_topi (fun z_29 ez_29 => ?_)
                  have hz_29 : z_29.toInt = r_6.toInt - 65536 := by rw [ez_29]; exact jb_isub2 (rfl) ((by decide)) (by omega)
                  refine lv_bipush (v := 10) hx hb dX1_decode_96 (by decide) ?_
                  refine lv_ishr hx hb dX1_decode_98 ?_
                  refine lv_topi (fun z_30 ez_30 => ?_)
                  have hz_30 : z_30.toInt = z_29.toInt / 2 ^ 10 := by rw [ez_30]; exact jb_ishr 10 (rfl) (by decide)
                  have hsr := jb_shr10 ez_30 (by omega)
                  refine lv_iadd hx hb dX1_decode_99 ?_
                  refine lv_topi (fun z_31 ez_31 => ?_)
                  have hz_31 : z_31.toInt = 55296 + z_30.toInt := by rw [ez_31]; exact jb_iadd2 ((by decide)) (rfl) (by omega)
                  refine j7_iastU hx hb hK hh_8 hB hB101 1 rfl (by decide) (by decide) rfl 0 rfl (M1 := [(r1, 197, 4000, ca 0, fb)]) [1] rfl rfl rfl hg_tx_ (x := wl_2.toInt) (rfl) (by omega) (trivial) dX1_decode_100 (fun H_32 locs_32 fs_33 hv_32 ho_32 hh_32 => ?_)
                  have hv_32 : jSo fs_33 (wl_2.toInt) = z_31.toInt := by unfold jSo; rw [hv_32]; try exact rfl
                  clear hh_8
                  refine lv_aload_n hx hb dX1_decode_101 rfl (lv_at hl 3 rfl) ?_
                  refine j7_read hx hb hown hK (C := RX1) (T := TX1) (N := 17) rfl hly_3_2 hlk_15 (hh_32.at 1 rfl) dX1_decode_102 ?_
                  refine lv_aload_n hx hb dX1_decode_105 rfl (lv_at hl 3 rfl) ?_
                  refine j7_read hx hb hown hK (C := RX1) (T := TX1) (N := 17) rfl hly_3_3 hlk_42 (hh_32.at 0 rfl) dX1_decode_106 ?_
                  refine lv_iconst (v := 1) hx hb dX1_decode_109 (by decide) ?_
                  refine lv_iadd hx hb dX1_decode_110 ?_
                  refine lv_topi (fun z_34 ez_34 => ?_)
                  have hz_34 : z_34.toInt = wl_2.toInt + 1 := by rw [ez_34]; exact jb_iadd2 (rfl) ((by decide)) (by omega)
                  refine lv_ldc hx hb hown hcs_67 dX1_decode_111 ?_
                  refine lv_iload hx hb dX1_decode_113 (lv_at hl 2 rfl) ?_
                  refine lv_ldc hx hb hown hcs_65 dX1_decode_115 ?_
                  refine lv_isub hx hb dX1_decode_117 ?_
                  refine lv_topi (fun z_35 ez_35 => ?_)
                  have hz_35 : z_35.toInt = r_6.toInt - 65536 := by rw [ez_35]; exact jb_isub2 (rfl) ((by decide)) (by omega)
                  refine lv_sipush (v := 1023) hx hb dX1_decode_118 (by decide) ?_
                  refine lv_iand hx hb dX1_decode_121 ?_
                  refine lv_topi (fun z_36 ez_36 => ?_)
                  have hz_36 : 0 ≤ z_36.toInt ∧ z_36.toInt ≤ 1023 := by rw [ez_36]; exact jb_and z_35 (m := 1023) (k := 10) (by decide) (by decide)
                  have had := jb_a1023 ez_36
                  refine lv_iadd hx hb dX1_decode_122 ?_
                  refine lv_topi (fun z_37 ez_37 => ?_)
                  have hz_37 : z_37.toInt = 56320 + z_36.toInt := by rw [ez_37]; exact jb_iadd2 ((by decide)) (rfl) (by omega)
                  refine j7_iastU hx hb hK hh_32 hB hB101 1 rfl (by decide) (by decide) rfl 0 rfl (M1 := [(r1, 197, 4000, ca 0, fb)]) [1] rfl rfl rfl hg_tx_ (x := z_34.toInt) (rfl) (by omega) (trivial) dX1_decode_123 (fun H_38 locs_38 fs_39 hv_38 ho_38 hh_38 => ?_)
                  have hv_38 : jSo fs_39 (z_34.toInt) = z_37.toInt := by unfold jSo; rw [hv_38]; try exact rfl
                  rw [show z_34.toInt = (wl_2.toInt + 1) by omega] at hv_38 ho_38
                  clear hh_32
                  refine lv_goto (tgt := 148) hx hb dX1_decode_124 (by decide) ?_
                  refine lv_aload_n hx hb dX1_decode_148 rfl (lv_at hl 3 rfl) ?_
                  refine lv_dup hx hb dX1_decode_149 rfl ?_
                  refine j7_read hx hb hown hK (C := RX1) (T := TX1) (N := 17) rfl hly_3_3 hlk_42 (hh_38.at 0 rfl) dX1_decode_150 ?_
                  refine lv_iload hx hb dX1_decode_153 (lv_at hl 0 rfl) ?_
                  refine lv_iadd hx hb dX1_decode_155 ?_
                  refine lv_topi (fun z_40 ez_40 => ?_)
                  have hz_40 : z_40.toInt = wl_2.toInt + 2 := by rw [ez_40]; exact jb_iadd2 (rfl) ((by decide)) (by omega)
                  refine j7_put hx hb hown hK hh_38 hB hAp hB3 (C := RX1) (T := TX1) (N := 17) rfl (by decide) hg_r0 (i := 3) (by decide) hly_3_3 rfl hlk_42 rfl (ty := .int) (v := .int z_40) (by decide +kernel) rfl rfl (⟨_, rfl, by omega, by omega⟩) rfl (L1 := [(r0, 3, 2, .ref tx_)]) [1] rfl rfl rfl dX1_decode_156 (fun H_41 locs_41 hh_41 => ?_)
                  clear hh_38
                  obtain ⟨z_42, ez_42⟩ : ∃ y : Int32, y = v4_2 + 1 := ⟨_, rfl⟩
                  refine lv_iinc (v := z_42) (lv' := [(4, .int z_42), (6, .int 2), (3, .int z_10), (5, .int r_6), (0, .ref r0), (1, .ref r1), (2, .int a2)]) hx hb dX1_decode_159 hl (k := 6) rfl (by rw [ez_42]; rfl) (by decide) rfl (fun ls hl => ?_)
                  have hz_42 : z_42.toInt = v4_2.toInt + 1 := by rw [ez_42]; exact jb_iadd2 (rfl) (by decide) (by omega)
                  refine lv_goto (tgt := 10) hx hb dX1_decode_162 (by decide) ?_
                  exact L10 z_10 z_42 z_40 fs_39 _ _ hh_41 (by refine ⟨by omega, by omega, by omega, by omega, by omega, by omega, ?_⟩; first | (exfalso; omega) | (exact hi_2_6.twoC (by omega) hr_6_0 (by omega) (jOth.ho2 (jOth.mk (n := 1500) ho_32 rfl (by omega)) (jOth.mk (n := 1500) ho_38 rfl (by omega)) rfl (by omega) (by omega)) (((jOth.mk (n := 1500) ho_38 rfl (by omega) : jOth 1500 _ _ _) _ (by omega) (by omega) (by omega)).trans hv_32) (jSoA hv_38 (by omega)) (by omega) (by omega) (by omega) (by omega))) (by omega) _ (lv_sub hl [4, 5, 6, 2, 0] rfl)
              · skip
                have c_27' : z_26.toInt > 1500 := jb_le_n (rfl) ((by decide)) c_27
                refine lv_iconst (v := 0) hx hb dX1_decode_73 (by decide) ?_
                rw [hQ]
                exact W.zret (v := 0) hx hb hr (jb_nz (Or.inl rfl)) (fun t ht hW => ⟨⟨0, (wl_2, ft_2), rfl, ⟨(Or.inl rfl), by (try dsimp only); refine ⟨by omega, by omega, by omega, ?_⟩; exact Or.inl ⟨by omega, hi_2_6.long (by omega) hr_6_0 (s := 2) (by omega) (by omega)⟩⟩, ⟨hh_8.rt (M1 := [(r0, 3, 3, .int wl_2)]) [0] rfl ht, by rw [ht]; exact hh_8.2.2.2.2.2.2.2.1.sub [0] rfl⟩⟩, by rw [ht]; try exact hh_8.1.1, fun q h9 hq => by rw [ht]; try exact hh_8.1.2.1 q h9 hq⟩) hh_8.1.2.2 dX1_decode_74
          · skip
            have c_7' : r_6.toInt < 0 := jb_ge_n (rfl) ((by decide)) c_7
            refine lv_iconst (v := 1) hx hb dX1_decode_35 (by decide) ?_
            refine lv_goto (tgt := 44) hx hb dX1_decode_36 (by decide) ?_
            refine lv_iadd hx hb dX1_decode_44 ?_
            refine lv_topi (fun z_43 ez_43 => ?_)
            have hz_43 : z_43.toInt = v3_2.toInt + 1 := by rw [ez_43]; exact jb_iadd2 (rfl) ((by decide)) (by omega)
            refine lv_istore_n (lv' := [(3, .int z_43), (5, .int r_6), (0, .ref r0), (1, .ref r1), (2, .int a2), (4, .int v4_2)]) hx hb dX1_decode_45 rfl hl (by decide) rfl (fun ls hl => ?_)
            refine lv_iload hx hb dX1_decode_46 (lv_at hl 1 rfl) ?_
            refine lv_ldc hx hb hown hcs_65 dX1_decode_48 ?_
            refine lv_icmp_lt (tgt := 57) hx hb dX1_decode_50 (by decide) (fun c_44 => ?_) (fun c_44 => ?_)
            · skip
              have c_44' : r_6.toInt < 65536 := jb_lt (rfl) ((by decide)) c_44
              refine lv_iconst (v := 1) hx hb dX1_decode_57 (by decide) ?_
              refine lv_istore (lv' := [(6, .int 1), (3, .int z_43), (5, .int r_6), (0, .ref r0), (1, .ref r1), (2, .int a2), (4, .int v4_2)]) hx hb dX1_decode_58 hl (by decide) rfl (fun ls hl => ?_)
              refine lv_aload_n hx hb dX1_decode_60 rfl (lv_at hl 3 rfl) ?_
              refine j7_read hx hb hown hK (C := RX1) (T := TX1) (N := 17) rfl hly_3_3 hlk_42 (hh_5.at 0 rfl) dX1_decode_61 ?_
              refine lv_iload hx hb dX1_decode_64 (lv_at hl 0 rfl) ?_
              refine lv_iadd hx hb dX1_decode_66 ?_
              refine lv_topi (fun z_45 ez_45 => ?_)
              have hz_45 : z_45.toInt = wl_2.toInt + 1 := by rw [ez_45]; exact jb_iadd2 (rfl) ((by decide)) (by omega)
              refine lv_sipush (v := 1500) hx hb dX1_decode_67 (by decide) ?_
              refine lv_icmp_le (tgt := 75) hx hb dX1_decode_70 (by decide) (fun c_46 => ?_) (fun c_46 => ?_)
              · skip
                have c_46' : z_45.toInt ≤ 1500 := jb_le (rfl) ((by decide)) c_46
                refine lv_iload hx hb dX1_decode_75 (lv_at hl 0 rfl) ?_
                refine lv_iconst (v := 2) hx hb dX1_decode_77 (by decide) ?_
                refine lv_icmp_ne (tgt := 127) hx hb dX1_decode_78 (by decide) (fun c_47 => ?_) (fun c_47 => ?_)
                · skip
                  refine lv_aload_n hx hb dX1_decode_127 rfl (lv_at hl 3 rfl) ?_
                  refine j7_read hx hb hown hK (C := RX1) (T := TX1) (N := 17) rfl hly_3_2 hlk_15 (hh_5.at 1 rfl) dX1_decode_128 ?_
                  refine lv_aload_n hx hb dX1_decode_131 rfl (lv_at hl 3 rfl) ?_
                  refine j7_read hx hb hown hK (C := RX1) (T := TX1) (N := 17) rfl hly_3_3 hlk_42 (hh_5.at 0 rfl) dX1_decode_132 ?_
                  refine lv_iload hx hb dX1_decode_135 (lv_at hl 2 rfl) ?_
                  refine lv_if_ge (tgt := 145) hx hb dX1_decode_137 (by decide) (fun c_48 => ?_) (fun c_48 => ?_)
                  · skip
                    have c_48' : r_6.toInt ≥ 0 := jb_ge (rfl) ((by decide)) c_48
                    refine lv_iload hx hb dX1_decode_145 (lv_at hl 2 rfl) ?_
                    refine j7_iastU hx hb hK hh_5 hB hB101 1 rfl (by decide) (by decide) rfl 0 rfl (M1 := [(r1, 197, 4000, ca 0, fb)]) [1] rfl rfl rfl hg_tx_ (x := wl_2.toInt) (rfl) (by omega) (trivial) dX1_decode_147 (fun H_49 locs_49 fs_50 hv_49 ho_49 hh_49 => ?_)
                    have hv_49 : jSo fs_50 (wl_2.toInt) = r_6.toInt := by unfold jSo; rw [hv_49]; try exact rfl
                    clear hh_5
                    refine lv_aload_n hx hb dX1_decode_148 rfl (lv_at hl 3 rfl) ?_
                    refine lv_dup hx hb dX1_decode_149 rfl ?_
                    refine j7_read hx hb hown hK (C := RX1) (T := TX1) (N := 17) rfl hly_3_3 hlk_42 (hh_49.at 0 rfl) dX1_decode_150 ?_
                    refine lv_iload hx hb dX1_decode_153 (lv_at hl 0 rfl) ?_
                    refine lv_iadd hx hb dX1_decode_155 ?_
                    refine lv_topi (fun z_51 ez_51 => ?_)
                    have hz_51 : z_51.toInt = wl_2.toInt + 1 := by rw [ez_51]; exact jb_iadd2 (rfl) ((by decide)) (by omega)
                    refine j7_put hx hb hown hK hh_49 hB hAp hB3 (C := RX1) (T := TX1) (N := 17) rfl (by decide) hg_r0 (i := 3) (by decide) hly_3_3 rfl hlk_42 rfl (ty := .int) (v := .int z_51) (by decide +kernel) rfl rfl (⟨_, rfl, by omega, by omega⟩) rfl (L1 := [(r0, 3, 2, .ref tx_)]) [1] rfl rfl rfl dX1_decode_156 (fun H_52 locs_52 hh_52 => ?_)
                    clear hh_49
                    obtain ⟨z_53, ez_53⟩ : ∃ y : Int32, y = v4_2 + 1 := ⟨_, rfl⟩
                    refine lv_iinc (v := z_53) (lv' := [(4, .int z_53), (6, .int 1), (3, .int z_43), (5, .int r_6), (0, .ref r0), (1, .ref r1), (2, .int a2)]) hx hb dX1_decode_159 hl (k := 6) rfl (by rw [ez_53]; rfl) (by decide) rfl (fun ls hl => ?_)
                    have hz_53 : z_53.toInt = v4_2.toInt + 1 := by rw [ez_53]; exact jb_iadd2 (rfl) (by decide) (by omega)
                    refine lv_goto (tgt := 10) hx hb dX1_decode_162 (by decide) ?_
                    exact L10 z_43 z_53 z_51 fs_50 _ _ hh_52 (by refine ⟨by omega, by omega, by omega, by omega, by omega, by omega, ?_⟩; first | (exfalso; omega) | (exact hi_2_6.oneC (by omega) hr_6_0 (by omega) (jOth.ho (jOth.mk (n := 1500) ho_49 rfl (by omega)) rfl (by omega)) hv_49 (by omega) (by omega) (by omega))) (by omega) _ (lv_sub hl [4, 5, 6, 2, 0] rfl)
                  · skip
                    have c_48' : r_6.toInt < 0 := jb_ge_n (rfl) ((by decide)) c_48
                    refine lv_ldc hx hb hown hcs_68 dX1_decode_140 ?_
                    refine lv_goto (tgt := 147) hx hb dX1_decode_142 (by decide) ?_
                    refine j7_iastU hx hb hK hh_5 hB hB101 1 rfl (by decide) (by decide) rfl 0 rfl (M1 := [(r1, 197, 4000, ca 0, fb)]) [1] rfl rfl rfl hg_tx_ (x := wl_2.toInt) (rfl) (by omega) (trivial) dX1_decode_147 (fun H_54 locs_54 fs_55 hv_54 ho_54 hh_54 => ?_)
                    have hv_54 : jSo fs_55 (wl_2.toInt) = 65533 := by unfold jSo; rw [hv_54]; try exact (by decide)
                    clear hh_5
                    refine lv_aload_n hx hb dX1_decode_148 rfl (lv_at hl 3 rfl) ?_
                    refine lv_dup hx hb dX1_decode_149 rfl ?_
                    refine j7_read hx hb hown hK (C := RX1) (T := TX1) (N := 17) rfl hly_3_3 hlk_42 (hh_54.at 0 rfl) dX1_decode_150 ?_
                    refine lv_iload hx hb dX1_decode_153 (lv_at hl 0 rfl) ?_
                    refine lv_iadd hx hb dX1_decode_155 ?_
                    refine lv_topi (fun z_56 ez_56 => ?_)
                    have hz_56 : z_56.toInt = wl_2.toInt + 1 := by rw [ez_56]; exact jb_iadd2 (rfl) ((by decide)) (by omega)
                    refine j7_put hx hb hown hK hh_54 hB hAp hB3 (C := RX1) (T := TX1) (N := 17) rfl (by decide) hg_r0 (i := 3) (by decide) hly_3_3 rfl hlk_42 rfl (ty := .int) (v := .int z_56) (by decide +kernel) rfl rfl (⟨_, rfl, by omega, by omega⟩) rfl (L1 := [(r0, 3, 2, .ref tx_)]) [1] rfl rfl rfl dX1_decode_156 (fun H_57 locs_57 hh_57 => ?_)
                    clear hh_54
                    obtain ⟨z_58, ez_58⟩ : ∃ y : Int32, y = v4_2 + 1 := ⟨_, rfl⟩
                    refine lv_iinc (v := z_58) (lv' := [(4, .int z_58), (6, .int 1), (3, .int z_43), (5, .int r_6), (0, .ref r0), (1, .ref r1), (2, .int a2)]) hx hb dX1_decode_159 hl (k := 6) rfl (by rw [ez_58]; rfl) (by decide) rfl (fun ls hl => ?_)
                    have hz_58 : z_58.toInt = v4_2.toInt + 1 := by rw [ez_58]; exact jb_iadd2 (rfl) (by decide) (by omega)
                    refine lv_goto (tgt := 10) hx hb dX1_decode_162 (by decide) ?_
                    exact L10 z_43 z_58 z_56 fs_55 _ _ hh_57 (by refine ⟨by omega, by omega, by omega, by omega, by omega, by omega, ?_⟩; first | (exfalso; omega) | (exact hi_2_6.oneC (by omega) hr_6_0 (by omega) (jOth.ho (jOth.mk (n := 1500) ho_54 rfl (by omega)) rfl (by omega)) hv_54 (by omega) (by omega) (by omega))) (by omega) _ (lv_sub hl [4, 5, 6, 2, 0] rfl)
                · skip
                  exact absurd c_47 (by decide)
              · skip
                have c_46' : z_45.toInt > 1500 := jb_le_n (rfl) ((by decide)) c_46
                refine lv_iconst (v := 0) hx hb dX1_decode_73 (by decide) ?_
                rw [hQ]
                exact W.zret (v := 0) hx hb hr (jb_nz (Or.inl rfl)) (fun t ht hW => ⟨⟨0, (wl_2, ft_2), rfl, ⟨(Or.inl rfl), by (try dsimp only); refine ⟨by omega, by omega, by omega, ?_⟩; exact Or.inl ⟨by omega, hi_2_6.long (by omega) hr_6_0 (s := 1) (by omega) (by omega)⟩⟩, ⟨hh_5.rt (M1 := [(r0, 3, 3, .int wl_2)]) [0] rfl ht, by rw [ht]; exact hh_5.2.2.2.2.2.2.2.1.sub [0] rfl⟩⟩, by rw [ht]; try exact hh_5.1.1, fun q h9 hq => by rw [ht]; try exact hh_5.1.2.1 q h9 hq⟩) hh_5.1.2.2 dX1_decode_74
            · skip
              have c_44' : r_6.toInt ≥ 65536 := jb_lt_n (rfl) ((by decide)) c_44
              refine lv_iconst (v := 2) hx hb dX1_decode_53 (by decide) ?_
              refine lv_goto (tgt := 58) hx hb dX1_decode_54 (by decide) ?_
              refine lv_istore (lv' := [(6, .int 2), (3, .int z_43), (5, .int r_6), (0, .ref r0), (1, .ref r1), (2, .int a2), (4, .int v4_2)]) hx hb dX1_decode_58 hl (by decide) rfl (fun ls hl => ?_)
              refine lv_aload_n hx hb dX1_decode_60 rfl (lv_at hl 3 rfl) ?_
              refine j7_read hx hb hown hK (C := RX1) (T := TX1) (N := 17) rfl hly_3_3 hlk_42 (hh_5.at 0 rfl) dX1_decode_61 ?_
              refine lv_iload hx hb dX1_decode_64 (lv_at hl 0 rfl) ?_
              refine lv_iadd hx hb dX1_decode_66 ?_
              refine lv_topi (fun z_59 ez_59 => ?_)
              have hz_59 : z_59.toInt = wl_2.toInt + 2 := by rw [ez_59]; exact jb_iadd2 (rfl) ((by decide)) (by omega)
              refine lv_sipush (v := 1500) hx hb dX1_decode_67 (by decide) ?_
              refine lv_icmp_le (tgt := 75) hx hb dX1_decode_70 (by decide) (fun c_60 => ?_) (fun c_60 => ?_)
              · skip
                have c_60' : z_59.toInt ≤ 1500 := jb_le (rfl) ((by decide)) c_60
                refine lv_iload hx hb dX1_decode_75 (lv_at hl 0 rfl) ?_
                refine lv_iconst (v := 2) hx hb dX1_decode_77 (by decide) ?_
                refine lv_icmp_ne (tgt := 127) hx hb dX1_decode_78 (by decide) (fun c_61 => ?_) (fun c_61 => ?_)
                · skip
                  exact absurd c_61 (by decide)
                · skip
                  refine lv_aload_n hx hb dX1_decode_81 rfl (lv_at hl 3 rfl) ?_
                  refine j7_read hx hb hown hK (C := RX1) (T := TX1) (N := 17) rfl hly_3_2 hlk_15 (hh_5.at 1 rfl) dX1_decode_82 ?_
                  refine lv_aload_n hx hb dX1_decode_85 rfl (lv_at hl 3 rfl) ?_
                  refine j7_read hx hb hown hK (C := RX1) (T := TX1) (N := 17) rfl hly_3_3 hlk_42 (hh_5.at 0 rfl) dX1_decode_86 ?_
                  refine lv_ldc hx hb hown hcs_66 dX1_decode_89 ?_
                  refine lv_iload hx hb dX1_decode_91 (lv_at hl 2 rfl) ?_
                  refine lv_ldc hx hb hown hcs_65 dX1_decode_93 ?_
                  refine lv_isub hx hb dX1_decode_95 ?_
                  refine lv_topi (fun z_62 ez_62 => ?_)
                  have hz_62 : z_62.toInt = r_6.toInt - 65536 := by rw [ez_62]; exact jb_isub2 (rfl) ((by decide)) (by omega)
                  refine lv_bipush (v := 10) hx hb dX1_decode_96 (by decide) ?_
                  refine lv_ishr hx hb dX1_decode_98 ?_
                  refine lv_topi (fun z_63 ez_63 => ?_)
                  have hz_63 : z_63.toInt = z_62.toInt / 2 ^ 10 := by rw [ez_63]; exact jb_ishr 10 (rfl) (by decide)
                  have hsr := jb_shr10 ez_63 (by omega)
                  refine lv_iadd hx hb dX1_decode_99 ?_
                  refine lv_topi (fun z_64 ez_64 => ?_)
                  have hz_64 : z_64.toInt = 55296 + z_63.toInt := by rw [ez_64]; exact jb_iadd2 ((by decide)) (rfl) (by omega)
                  refine j7_iastU hx hb hK hh_5 hB hB101 1 rfl (by decide) (by decide) rfl 0 rfl (M1 := [(r1, 197, 4000, ca 0, fb)]) [1] rfl rfl rfl hg_tx_ (x := wl_2.toInt) (rfl) (by omega) (trivial) dX1_decode_100 (fun H_65 locs_65 fs_66 hv_65 ho_65 hh_65 => ?_)
                  have hv_65 : jSo fs_66 (wl_2.toInt) = z_64.toInt := by unfold jSo; rw [hv_65]; try exact rfl
                  clear hh_5
                  refine lv_aload_n hx hb dX1_decode_101 rfl (lv_at hl 3 rfl) ?_
                  refine j7_read hx hb hown hK (C := RX1) (T := TX1) (N := 17) rfl hly_3_2 hlk_15 (hh_65.at 1 rfl) dX1_decode_102 ?_
                  refine lv_aload_n hx hb dX1_decode_105 rfl (lv_at hl 3 rfl) ?_
                  refine j7_read hx hb hown hK (C := RX1) (T := TX1) (N := 17) rfl hly_3_3 hlk_42 (hh_65.at 0 rfl) dX1_decode_106 ?_
                  refine lv_iconst (v := 1) hx hb dX1_decode_109 (by decide) ?_
                  refine lv_iadd hx hb dX1_decode_110 ?_
                  refine lv_topi (fun z_67 ez_67 => ?_)
                  have hz_67 : z_67.toInt = wl_2.toInt + 1 := by rw [ez_67]; exact jb_iadd2 (rfl) ((by decide)) (by omega)
                  refine lv_ldc hx hb hown hcs_67 dX1_decode_111 ?_
                  refine lv_iload hx hb dX1_decode_113 (lv_at hl 2 rfl) ?_
                  refine lv_ldc hx hb hown hcs_65 dX1_decode_115 ?_
                  refine lv_isub hx hb dX1_decode_117 ?_
                  refine lv_topi (fun z_68 ez_68 => ?_)
                  have hz_68 : z_68.toInt = r_6.toInt - 65536 := by rw [ez_68]; exact jb_isub2 (rfl) ((by decide)) (by omega)
                  refine lv_sipush (v := 1023) hx hb dX1_decode_118 (by decide) ?_
                  refine lv_iand hx hb dX1_decode_121 ?_
                  refine lv_topi (fun z_69 ez_69 => ?_)
                  have hz_69 : 0 ≤ z_69.toInt ∧ z_69.toInt ≤ 1023 := by rw [ez_69]; exact jb_and z_68 (m := 1023) (k := 10) (by decide) (by decide)
                  have had := jb_a1023 ez_69
                  refine lv_iadd hx hb dX1_decode_122 ?_
                  refine lv_topi (fun z_70 ez_70 => ?_)
                  have hz_70 : z_70.toInt = 56320 + z_69.toInt := by rw [ez_70]; exact jb_iadd2 ((by decide)) (rfl) (by omega)
                  refine j7_iastU hx hb hK hh_65 hB hB101 1 rfl (by decide) (by decide) rfl 0 rfl (M1 := [(r1, 197, 4000, ca 0, fb)]) [1] rfl rfl rfl hg_tx_ (x := z_67.toInt) (rfl) (by omega) (trivial) dX1_decode_123 (fun H_71 locs_71 fs_72 hv_71 ho_71 hh_71 => ?_)
                  have hv_71 : jSo fs_72 (z_67.toInt) = z_70.toInt := by unfold jSo; rw [hv_71]; try exact rfl
                  rw [show z_67.toInt = (wl_2.toInt + 1) by omega] at hv_71 ho_71
                  clear hh_65
                  refine lv_goto (tgt := 148) hx hb dX1_decode_124 (by decide) ?_
                  refine lv_aload_n hx hb dX1_decode_148 rfl (lv_at hl 3 rfl) ?_
                  refine lv_dup hx hb dX1_decode_149 rfl ?_
                  refine j7_read hx hb hown hK (C := RX1) (T := TX1) (N := 17) rfl hly_3_3 hlk_42 (hh_71.at 0 rfl) dX1_decode_150 ?_
                  refine lv_iload hx hb dX1_decode_153 (lv_at hl 0 rfl) ?_
                  refine lv_iadd hx hb dX1_decode_155 ?_
                  refine lv_topi (fun z_73 ez_73 => ?_)
                  have hz_73 : z_73.toInt = wl_2.toInt + 2 := by rw [ez_73]; exact jb_iadd2 (rfl) ((by decide)) (by omega)
                  refine j7_put hx hb hown hK hh_71 hB hAp hB3 (C := RX1) (T := TX1) (N := 17) rfl (by decide) hg_r0 (i := 3) (by decide) hly_3_3 rfl hlk_42 rfl (ty := .int) (v := .int z_73) (by decide +kernel) rfl rfl (⟨_, rfl, by omega, by omega⟩) rfl (L1 := [(r0, 3, 2, .ref tx_)]) [1] rfl rfl rfl dX1_decode_156 (fun H_74 locs_74 hh_74 => ?_)
                  clear hh_71
                  obtain ⟨z_75, ez_75⟩ : ∃ y : Int32, y = v4_2 + 1 := ⟨_, rfl⟩
                  refine lv_iinc (v := z_75) (lv' := [(4, .int z_75), (6, .int 2), (3, .int z_43), (5, .int r_6), (0, .ref r0), (1, .ref r1), (2, .int a2)]) hx hb dX1_decode_159 hl (k := 6) rfl (by rw [ez_75]; rfl) (by decide) rfl (fun ls hl => ?_)
                  have hz_75 : z_75.toInt = v4_2.toInt + 1 := by rw [ez_75]; exact jb_iadd2 (rfl) (by decide) (by omega)
                  refine lv_goto (tgt := 10) hx hb dX1_decode_162 (by decide) ?_
                  exact L10 z_43 z_75 z_73 fs_72 _ _ hh_74 (by refine ⟨by omega, by omega, by omega, by omega, by omega, by omega, ?_⟩; first | (exfalso; omega) | (exact hi_2_6.twoC (by omega) hr_6_0 (by omega) (jOth.ho2 (jOth.mk (n := 1500) ho_65 rfl (by omega)) (jOth.mk (n := 1500) ho_71 rfl (by omega)) rfl (by omega) (by omega)) (((jOth.mk (n := 1500) ho_71 rfl (by omega) : jOth 1500 _ _ _) _ (by omega) (by omega) (by omega)).trans hv_65) (jSoA hv_71 (by omega)) (by omega) (by omega) (by omega) (by omega))) (by omega) _ (lv_sub hl [4, 5, 6, 2, 0] rfl)
              · skip
                have c_60' : z_59.toInt > 1500 := jb_le_n (rfl) ((by decide)) c_60
                refine lv_iconst (v := 0) hx hb dX1_decode_73 (by decide) ?_
                rw [hQ]
                exact W.zret (v := 0) hx hb hr (jb_nz (Or.inl rfl)) (fun t ht hW => ⟨⟨0, (wl_2, ft_2), rfl, ⟨(Or.inl rfl), by (try dsimp only); refine ⟨by omega, by omega, by omega, ?_⟩; exact Or.inl ⟨by omega, hi_2_6.long (by omega) hr_6_0 (s := 2) (by omega) (by omega)⟩⟩, ⟨hh_5.rt (M1 := [(r0, 3, 3, .int wl_2)]) [0] rfl ht, by rw [ht]; exact hh_5.2.2.2.2.2.2.2.1.sub [0] rfl⟩⟩, by rw [ht]; try exact hh_5.1.1, fun q h9 hq => by rw [ht]; try exact hh_5.1.2.1 q h9 hq⟩) hh_5.1.2.2 dX1_decode_74
  exact L10 (((a2.toInt - (0 : Int32).toInt).toNat : Int) : Int).toNat.succ 0 0 0 ft _ _ (hh_1.sub (L1 := [(r0, 3, 3, .int 0), (r0, 3, 2, .ref tx_)]) [0, 1] rfl (M1 := [(tx_, 101, 1500, ca 1, ft), (r1, 197, 4000, ca 0, fb)]) [1, 0] rfl (I1 := []) [] rfl) (by refine ⟨by omega, by omega, by omega, by omega, by omega, by omega, jDe.start _ _ _ (by omega) (by omega)⟩) (by omega) _ (lv_sub hl [2, 3, 4, 1, 0] rfl)
end
