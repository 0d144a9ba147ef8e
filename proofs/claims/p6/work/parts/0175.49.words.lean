section
theorem jT93 : ∀ w ∈ jTl93, w ∈ jWl := fun w h => jT92 w (List.mem_append_right _ h)
theorem jT94 : ∀ w ∈ jTl94, w ∈ jWl := fun w h => jT93 w (List.mem_append_right _ h)
theorem jWr_93 : ∀ w ∈ wsL_law_r93, w ∈ jWl := fun w h => jT93 w (List.mem_append_left _ h)
theorem jWr_94 : ∀ w ∈ wsL_law_r94, w ∈ jWl := fun w h => jT94 w (List.mem_append_left _ h)
end
section
theorem dX1_decode_0 : decode cX1_decode 0 = .ok (.aload_n 0, 1) := by decide +kernel
theorem dX1_decode_1 : decode cX1_decode 1 = .ok (.iconst 0, 1) := by decide +kernel
theorem dX1_decode_2 : decode cX1_decode 2 = .ok (.putfield 42, 3) := by decide +kernel
theorem dX1_decode_5 : decode cX1_decode 5 = .ok (.iconst 0, 1) := by decide +kernel
theorem dX1_decode_6 : decode cX1_decode 6 = .ok (.istore_n 3, 1) := by decide +kernel
theorem dX1_decode_7 : decode cX1_decode 7 = .ok (.iconst 0, 1) := by decide +kernel
theorem dX1_decode_8 : decode cX1_decode 8 = .ok (.istore 4, 2) := by decide +kernel
theorem dX1_decode_10 : decode cX1_decode 10 = .ok (.iload 4, 2) := by decide +kernel
theorem dX1_decode_12 : decode cX1_decode 12 = .ok (.iload_n 2, 1) := by decide +kernel
theorem dX1_decode_13 : decode cX1_decode 13 = .ok (.if_icmp .ge 152, 3) := by decide +kernel
theorem dX1_decode_16 : decode cX1_decode 16 = .ok (.iload_n 3, 1) := by decide +kernel
theorem dX1_decode_17 : decode cX1_decode 17 = .ok (.iload_n 2, 1) := by decide +kernel
theorem dX1_decode_18 : decode cX1_decode 18 = .ok (.if_icmp .ge 147, 3) := by decide +kernel
theorem dX1_decode_21 : decode cX1_decode 21 = .ok (.aload_n 1, 1) := by decide +kernel
theorem dX1_decode_22 : decode cX1_decode 22 = .ok (.iload_n 3, 1) := by decide +kernel
theorem dX1_decode_23 : decode cX1_decode 23 = .ok (.iload_n 2, 1) := by decide +kernel
theorem dX1_decode_24 : decode cX1_decode 24 = .ok (.invokestatic 56, 3) := by decide +kernel
theorem dX1_decode_27 : decode cX1_decode 27 = .ok (.istore 5, 2) := by decide +kernel
theorem dX1_decode_29 : decode cX1_decode 29 = .ok (.iload_n 3, 1) := by decide +kernel
theorem dX1_decode_30 : decode cX1_decode 30 = .ok (.iload 5, 2) := by decide +kernel
theorem dX1_decode_32 : decode cX1_decode 32 = .ok (.ifCond .ge 7, 3) := by decide +kernel
theorem dX1_decode_35 : decode cX1_decode 35 = .ok (.iconst 1, 1) := by decide +kernel
theorem dX1_decode_36 : decode cX1_decode 36 = .ok (.goto 8, 3) := by decide +kernel
theorem dX1_decode_39 : decode cX1_decode 39 = .ok (.iload 5, 2) := by decide +kernel
theorem dX1_decode_41 : decode cX1_decode 41 = .ok (.invokestatic 62, 3) := by decide +kernel
theorem dX1_decode_44 : decode cX1_decode 44 = .ok (.iadd, 1) := by decide +kernel
theorem dX1_decode_45 : decode cX1_decode 45 = .ok (.istore_n 3, 1) := by decide +kernel
theorem dX1_decode_46 : decode cX1_decode 46 = .ok (.iload 5, 2) := by decide +kernel
theorem dX1_decode_48 : decode cX1_decode 48 = .ok (.ldc 65, 2) := by decide +kernel
theorem dX1_decode_50 : decode cX1_decode 50 = .ok (.if_icmp .lt 7, 3) := by decide +kernel
theorem dX1_decode_53 : decode cX1_decode 53 = .ok (.iconst 2, 1) := by decide +kernel
theorem dX1_decode_54 : decode cX1_decode 54 = .ok (.goto 4, 3) := by decide +kernel
theorem dX1_decode_57 : decode cX1_decode 57 = .ok (.iconst 1, 1) := by decide +kernel
theorem dX1_decode_58 : decode cX1_decode 58 = .ok (.istore 6, 2) := by decide +kernel
theorem dX1_decode_60 : decode cX1_decode 60 = .ok (.aload_n 0, 1) := by decide +kernel
theorem dX1_decode_61 : decode cX1_decode 61 = .ok (.getfield 42, 3) := by decide +kernel
theorem dX1_decode_64 : decode cX1_decode 64 = .ok (.iload 6, 2) := by decide +kernel
theorem dX1_decode_66 : decode cX1_decode 66 = .ok (.iadd, 1) := by decide +kernel
theorem dX1_decode_67 : decode cX1_decode 67 = .ok (.sipush 1500, 3) := by decide +kernel
theorem dX1_decode_70 : decode cX1_decode 70 = .ok (.if_icmp .le 5, 3) := by decide +kernel
theorem dX1_decode_73 : decode cX1_decode 73 = .ok (.iconst 0, 1) := by decide +kernel
theorem dX1_decode_74 : decode cX1_decode 74 = .ok (.ireturn, 1) := by decide +kernel
theorem dX1_decode_75 : decode cX1_decode 75 = .ok (.iload 6, 2) := by decide +kernel
theorem dX1_decode_77 : decode cX1_decode 77 = .ok (.iconst 2, 1) := by decide +kernel
theorem dX1_decode_78 : decode cX1_decode 78 = .ok (.if_icmp .ne 49, 3) := by decide +kernel
theorem dX1_decode_81 : decode cX1_decode 81 = .ok (.aload_n 0, 1) := by decide +kernel
theorem dX1_decode_82 : decode cX1_decode 82 = .ok (.getfield 15, 3) := by decide +kernel
theorem dX1_decode_85 : decode cX1_decode 85 = .ok (.aload_n 0, 1) := by decide +kernel
theorem dX1_decode_86 : decode cX1_decode 86 = .ok (.getfield 42, 3) := by decide +kernel
theorem dX1_decode_89 : decode cX1_decode 89 = .ok (.ldc 66, 2) := by decide +kernel
theorem dX1_decode_91 : decode cX1_decode 91 = .ok (.iload 5, 2) := by decide +kernel
theorem dX1_decode_93 : decode cX1_decode 93 = .ok (.ldc 65, 2) := by decide +kernel
theorem dX1_decode_95 : decode cX1_decode 95 = .ok (.isub, 1) := by decide +kernel
theorem dX1_decode_96 : decode cX1_decode 96 = .ok (.bipush 10, 2) := by decide +kernel
theorem dX1_decode_98 : decode cX1_decode 98 = .ok (.ishr, 1) := by decide +kernel
theorem dX1_decode_99 : decode cX1_decode 99 = .ok (.iadd, 1) := by decide +kernel
theorem dX1_decode_100 : decode cX1_decode 100 = .ok (.iastore, 1) := by decide +kernel
theorem dX1_decode_101 : decode cX1_decode 101 = .ok (.aload_n 0, 1) := by decide +kernel
theorem dX1_decode_102 : decode cX1_decode 102 = .ok (.getfield 15, 3) := by decide +kernel
theorem dX1_decode_105 : decode cX1_decode 105 = .ok (.aload_n 0, 1) := by decide +kernel
theorem dX1_decode_106 : decode cX1_decode 106 = .ok (.getfield 42, 3) := by decide +kernel
theorem dX1_decode_109 : decode cX1_decode 109 = .ok (.iconst 1, 1) := by decide +kernel
theorem dX1_decode_110 : decode cX1_decode 110 = .ok (.iadd, 1) := by decide +kernel
theorem dX1_decode_111 : decode cX1_decode 111 = .ok (.ldc 67, 2) := by decide +kernel
theorem dX1_decode_113 : decode cX1_decode 113 = .ok (.iload 5, 2) := by decide +kernel
theorem dX1_decode_115 : decode cX1_decode 115 = .ok (.ldc 65, 2) := by decide +kernel
theorem dX1_decode_117 : decode cX1_decode 117 = .ok (.isub, 1) := by decide +kernel
theorem dX1_decode_118 : decode cX1_decode 118 = .ok (.sipush 1023, 3) := by decide +kernel
theorem dX1_decode_121 : decode cX1_decode 121 = .ok (.iand, 1) := by decide +kernel
theorem dX1_decode_122 : decode cX1_decode 122 = .ok (.iadd, 1) := by decide +kernel
theorem dX1_decode_123 : decode cX1_decode 123 = .ok (.iastore, 1) := by decide +kernel
theorem dX1_decode_124 : decode cX1_decode 124 = .ok (.goto 24, 3) := by decide +kernel
theorem dX1_decode_127 : decode cX1_decode 127 = .ok (.aload_n 0, 1) := by decide +kernel
theorem dX1_decode_128 : decode cX1_decode 128 = .ok (.getfield 15, 3) := by decide +kernel
theorem dX1_decode_131 : decode cX1_decode 131 = .ok (.aload_n 0, 1) := by decide +kernel
theorem dX1_decode_132 : decode cX1_decode 132 = .ok (.getfield 42, 3) := by decide +kernel
theorem dX1_decode_135 : decode cX1_decode 135 = .ok (.iload 5, 2) := by decide +kernel
theorem dX1_decode_137 : decode cX1_decode 137 = .ok (.ifCond .ge 8, 3) := by decide +kernel
theorem dX1_decode_140 : decode cX1_decode 140 = .ok (.ldc 68, 2) := by decide +kernel
theorem dX1_decode_142 : decode cX1_decode 142 = .ok (.goto 5, 3) := by decide +kernel
theorem dX1_decode_145 : decode cX1_decode 145 = .ok (.iload 5, 2) := by decide +kernel
theorem dX1_decode_147 : decode cX1_decode 147 = .ok (.iastore, 1) := by decide +kernel
theorem dX1_decode_148 : decode cX1_decode 148 = .ok (.aload_n 0, 1) := by decide +kernel
theorem dX1_decode_149 : decode cX1_decode 149 = .ok (.dup, 1) := by decide +kernel
theorem dX1_decode_150 : decode cX1_decode 150 = .ok (.getfield 42, 3) := by decide +kernel
theorem dX1_decode_153 : decode cX1_decode 153 = .ok (.iload 6, 2) := by decide +kernel
theorem dX1_decode_155 : decode cX1_decode 155 = .ok (.iadd, 1) := by decide +kernel
theorem dX1_decode_156 : decode cX1_decode 156 = .ok (.putfield 42, 3) := by decide +kernel
theorem dX1_decode_159 : decode cX1_decode 159 = .ok (.iinc 4 1, 3) := by decide +kernel
theorem dX1_decode_162 : decode cX1_decode 162 = .ok (.goto (-152), 3) := by decide +kernel
theorem dX1_decode_165 : decode cX1_decode 165 = .ok (.iconst 1, 1) := by decide +kernel
theorem dX1_decode_166 : decode cX1_decode 166 = .ok (.ireturn, 1) := by decide +kernel
end
section
-- p11: bits; the tape on both sides; bytes read as UTF-8; the text that comes of them
theorem jBa.part {b : Int → Int} {n r w : Int} {g : Nat → Int32} (hw : w = (jTl b n).length) (h : w ≤ 1500) (hx : jVtx g (jTl b n)) (e : r = jPar g w) : jBa b n r := Or.inr ⟨by omega, g, hx, by rw [e, hw]⟩
theorem jOth.ho {n x w : Int} {f g : Nat → Int32} (h : jOth n f g x) (hw : w = x) (hn : x ≤ n) : ∀ j : Int, 0 ≤ j → j < w → jSo g j = jSo f j := fun j q0 q1 => h j q0 (by omega) (by omega)
theorem jOth.ho2 {n x y w : Int} {f g g1 : Nat → Int32} (h : jOth n f g x) (h1 : jOth n g g1 y) (hw : w = x) (hy : y = x + 1) (hn : y ≤ n) : ∀ j : Int, 0 ≤ j → j < w → jSo g1 j = jSo f j := fun j q0 q1 => (h1 j q0 (by omega) (by omega)).trans (h j q0 (by omega) (by omega))
theorem jUz4 {c : Int} (h : 65536 ≤ c) : jUz c = 4 := by unfold jUz; rw [if_neg (by omega), if_neg (by omega), if_neg (by omega)]
theorem jDe.oneC {b : Int → Int} {n w i c u w1 i1 : Int} {g g1 : Nat → Int32} (h : jDe b n g w i) (hi : i < n) (hc : c = jUc b i n) (h1 : c < 65536) (ho : ∀ j : Int, 0 ≤ j → j < w → jSo g1 j = jSo g j) (hv : jSo g1 w = u) (hu : (c < 0 ∧ u = 65533) ∨ (0 ≤ c ∧ u = c)) (ei : (c < 0 ∧ i1 = i + 1) ∨ (0 ≤ c ∧ i1 = i + jUz c)) (ew : w1 = w + 1) : jDe b n g1 w1 i1 := by
  refine h.one hi hc h1 ho hv ?_ ?_ ew
  · by_cases q : c < 0
    · rw [if_pos q]; omega
    · rw [if_neg q]; omega
  · unfold jUs
    by_cases q : c < 0
    · rw [if_pos q]; omega
    · rw [if_neg q]; omega
theorem jDe.twoC {b : Int → Int} {n w i c u v w1 i1 : Int} {g g1 : Nat → Int32} (h : jDe b n g w i) (hi : i < n) (hc : c = jUc b i n) (h1 : 65536 ≤ c) (ho : ∀ j : Int, 0 ≤ j → j < w → jSo g1 j = jSo g j) (hu : jSo g1 w = u) (hv : jSo g1 (w + 1) = v) (eu : u = 55296 + (c - 65536) / 1024) (ev : v = 56320 + (c - 65536) % 1024) (ei : i1 = i + 4) (ew : w1 = w + 2) : jDe b n g1 w1 i1 :=
  h.two hi hc h1 ho hu hv eu ev (by unfold jUs; rw [if_neg (by omega), jUz4 h1]; exact ei) ew
section JP1
variable {p : Program} {l : Launch} {e : Env} {R : Room} {s : State} {m : MethodId} {args : Array Value} {below : List Frame} {meth : Method} {c : Code} {H : Heap} {locs : List Loc} {cells slots : Nat} {Q : State → Prop}
variable {cc : ByteArray} {pc : Nat} {ls : Array Slot} {rest : List Value} {D : va_G} {cl : List vw_C} {A : Nat → Prop} {a : Nat} {tys : List (ClassId × FieldType)}
end JP1
section JP2
variable {p : Program} {l : Launch} {e : Env} {R : Room} {s : State} {m : MethodId} {args : Array Value} {below : List Frame} {meth : Method} {c : Code} {H : Heap} {locs : List Loc} {cells slots : Nat} {Q : State → Prop}
variable {cc : ByteArray} {pc : Nat} {ls : Array Slot} {rest : List Value} {dC : Nat → ClassId} {dI : Nat → Nat → Nat} {ca : Nat → ClassId} {B : jF} {base : Nat} {G0 G : jT} {E : List (Nat × Nat)} {H0 : Heap} {zc zs : Nat} {L : List jPin} {M : List jCt} {I : List jIv} {a k n : Nat} {cA : ClassId} {tys : List (ClassId × FieldType)}
end JP2
end
section
def EX0_decodedP : List (Nat × Nat) := []
set_option maxHeartbeats 4000000 in
set_option maxRecDepth 20000 in
theorem uX0_decodedP (l : Launch) (dC : Nat → ClassId) (dI : Nat → Nat → Nat) (ca : Nat → ClassId) (base : Nat) (B : jF) (hB : jBok B) (hAp : jAp (dC, dI)) (hB197 : ∀ n G a H, B 197 n G a H ↔ jAr (dC, dI) (ca 0) (fun j z => jBf j z) n a H) (G0 : jT) (H0 : Heap) (r0 : Nat) (a1 : Int32) (a2 : Int32) (fb : Nat → Int32) : Met l yX0_decoded (jw yX0_decoded cX0_decoded 8 (some .int)) ({ frames := 0, cells := 0, slots := 0, locals := 0 }) (va_Pc [.ref r0, .int a1, .int a2] (fun U => U.heap = H0 ∧ jX B base G0 [] H0 ∧ jG dC dI ca base U ∧ G0 r0 = some (197, 4000) ∧ jP (dC, dI) G0 H0 [] ∧ jMc (dC, dI) G0 H0 [(r0, 197, 4000, ca 0, fb)] ∧ 0 ≤ a1.toInt ∧ a1.toInt < a2.toInt ∧ a2.toInt ≤ 4000)) (va_Qi (S := Unit) (fun r u => (r.toInt = jUc (jB8 fb) a1.toInt a2.toInt ∧ -1 ≤ r.toInt ∧ r.toInt ≤ 1114111)) (fun u t => jRt (dC, dI) B base G0 EX0_decodedP H0 [] t.heap) (jA base)) 0 0 (jA base) := by
  refine Met.ofW (cc := cX0_decoded) (maxL := 8) (ret := (some .int)) (by decide) rfl ?_
  intro p e s m args below meth c s₁ Bd hml hv
  obtain ⟨rfl, hH0, hX, hG, hg_r0, hP0, hM0, hp0, hp1, hp2⟩ := hv
  have hK := hG.1
  have hx := Bd.exec
  have hb := Bd.bytes
  have hr := Bd.returns
  have hts := atoms_spec (ws := (jw yX0_decoded cX0_decoded 8 (some .int))) Bd.pre
  have htw : ∀ w ∈ jWl, w.before _ s = true := fun w h => hts w (List.mem_cons_of_mem _ h)
  have hown : s.vm.findClass RX0 = some m.cls := findClass_of_methodNamed Bd.named
  have hlocks := Bd.notSynchronized
  obtain ⟨Q, hQ⟩ : ∃ Q, Q = MQ below (va_Qi (S := Unit) (fun r u => (r.toInt = jUc (jB8 fb) a1.toInt a2.toInt ∧ -1 ≤ r.toInt ∧ r.toInt ≤ 1114111)) (fun u t => jRt (dC, dI) B base G0 EX0_decodedP H0 [] t.heap) (jA base)) ([.ref r0, .int a1, .int a2] : List Value).toArray s 0 0 (jA base) := ⟨_, rfl⟩
  rw [← hQ]
  have hl := lv_entry ([.ref r0, .int a1, .int a2]) (n := 8) (Nat.le_of_ble_eq_true rfl)
  rw [lg_entry_eq]
  generalize (lg_sl ([.ref r0, .int a1, .int a2]) ++ List.replicate (8 - (lg_sl ([.ref r0, .int a1, .int a2])).length) Slot.unset).toArray = ls at hl ⊢
  have hl : lv_has ls 8 [(0, .ref r0), (1, .int a1), (2, .int a2)] := hl
  generalize hR : (headSpec (jw yX0_decoded cX0_decoded 8 (some .int)) ({ frames := 0, cells := 0, slots := 0, locals := 0 })).room = R
  subst hH0
  have hh : jSt (dC, dI) B base G0 G0 EX0_decodedP s.heap 0 0 [] [(r0, 197, 4000, ca 0, fb)] [] s.heap [] := jSt.start hX hP0 hM0 jIs.nil
  clear hX hP0
  have hkm1 : ((-1) : Int32).toInt = (-1) := by decide
  have hk0 : (0 : Int32).toInt = 0 := by decide
  have hk1 : (1 : Int32).toInt = 1 := by decide
  have hk2 : (2 : Int32).toInt = 2 := by decide
  have hk3 : (3 : Int32).toInt = 3 := by decide
  have hk6 : (6 : Int32).toInt = 6 := by decide
  have hk63 : (63 : Int32).toInt = 63 := by decide
  have hk128 : (128 : Int32).toInt = 128 := by decide
  have hk192 : (192 : Int32).toInt = 192 := by decide
  have hk194 : (194 : Int32).toInt = 194 := by decide
  have hk224 : (224 : Int32).toInt = 224 := by decide
  have hk240 : (240 : Int32).toInt = 240 := by decide
  have hk244 : (244 : Int32).toInt = 244 := by decide
  have hk255 : (255 : Int32).toInt = 255 := by decide
  have hk2048 : (2048 : Int32).toInt = 2048 := by decide
  have hk55296 : (55296 : Int32).toInt = 55296 := by decide
  have hk57344 : (57344 : Int32).toInt = 57344 := by decide
  have hk65536 : (65536 : Int32).toInt = 65536 := by decide
  have hk1114111 : (1114111 : Int32).toInt = 1114111 := by decide
  have hcs_60 := htw (.constant RX0 60 65536) (jWr_20 _ (List.mem_of_getElem? (i := 15) rfl))
  have hcs_74 := htw (.constant RX0 74 1114111) (jWr_20 _ (List.mem_of_getElem? (i := 16) rfl))
  have hcs_61 := htw (.constant RX0 61 55296) (jWr_20 _ (List.mem_of_getElem? (i := 17) rfl))
  have hcs_73 := htw (.constant RX0 73 57344) (jWr_20 _ (List.mem_of_getElem? (i := 18) rfl))
  have hrg_a1 := jb_rng a1
  have hrg_a2 := jb_rng a2
  refine lv_iload_n hx hb dX0_decoded_0 rfl (lv_at hl 1 rfl) ?_
  refine lv_if_lt (tgt := 15) hx hb dX0_decoded_1 (by decide) (fun c_1 => ?_) (fun c_1 => ?_)
  · skip
    have c_1' : a1.toInt < 0 := jb_lt (rfl) ((by decide)) c_1
    exact absurd c_1' (by omega)
  · skip
    have c_1' : a1.toInt ≥ 0 := jb_lt_n (rfl) ((by decide)) c_1
    refine lv_iload_n hx hb dX0_decoded_4 rfl (lv_at hl 1 rfl) ?_
    refine lv_iload_n hx hb dX0_decoded_5 rfl (lv_at hl 2 rfl) ?_
    refine lv_icmp_ge (tgt := 15) hx hb dX0_decoded_6 (by decide) (fun c_2 => ?_) (fun c_2 => ?_)
    · skip
      have c_2' : a1.toInt ≥ a2.toInt := jb_ge (rfl) (rfl) c_2
      exact absurd c_2' (by omega)
    · skip
      have c_2' : a1.toInt < a2.toInt := jb_ge_n (rfl) (rfl) c_2
      refine lv_iload_n hx hb dX0_decoded_9 rfl (lv_at hl 2 rfl) ?_
      refine lv_aload_n hx hb dX0_decoded_10 rfl (lv_at hl 0 rfl) ?_
      refine j7_len hx hb hK hh hB197 0 rfl (by decide) hg_r0 (by omega) dX0_decoded_11 (fun z_3 hz_3 => ?_)
      refine lv_icmp_le (tgt := 17) hx hb dX0_decoded_12 (by decide) (fun c_4 => ?_) (fun c_4 => ?_)
      · skip
        have c_4' : a2.toInt ≤ z_3.toInt := jb_le (rfl) (rfl) c_4
        refine lv_aload_n hx hb dX0_decoded_17 rfl (lv_at hl 0 rfl) ?_
        refine lv_iload_n hx hb dX0_decoded_18 rfl (lv_at hl 1 rfl) ?_
        refine j7_baldM hx hb hK hh hB197 0 rfl (by decide) hg_r0 (x := a1.toInt) (rfl) (by omega) (j := 0) rfl dX0_decoded_19 (fun z_5 ez_5 (hz_5 : jBf (a1.toInt).toNat z_5) => ?_)
        have hqz_5 : z_5.toInt = jSo fb (a1.toInt) := by unfold jSo; rw [ez_5]
        refine lv_sipush (v := 255) hx hb dX0_decoded_20 (by decide) ?_
        refine lv_iand hx hb dX0_decoded_23 ?_
        refine lv_topi (fun z_6 ez_6 => ?_)
        have hz_6 : 0 ≤ z_6.toInt ∧ z_6.toInt ≤ 255 := by rw [ez_6]; exact jb_and z_5 (m := 255) (k := 8) (by decide) (by decide)
        have hb3 : z_6.toInt = jB8 fb a1.toInt := (jb_a255 ez_6).trans (by rw [hqz_5]; rfl)
        have hb3r := jB8.r fb a1.toInt
        refine lv_istore_n (lv' := [(3, .int z_6), (0, .ref r0), (1, .int a1), (2, .int a2)]) hx hb dX0_decoded_24 rfl hl (by decide) rfl (fun ls hl => ?_)
        refine lv_iload_n hx hb dX0_decoded_25 rfl (lv_at hl 0 rfl) ?_
        refine lv_sipush (v := 128) hx hb dX0_decoded_26 (by decide) ?_
        refine lv_icmp_ge (tgt := 34) hx hb dX0_decoded_29 (by decide) (fun c_7 => ?_) (fun c_7 => ?_)
        · skip
          have c_7' : z_6.toInt ≥ 128 := jb_ge (rfl) ((by decide)) c_7
          refine lv_iload_n hx hb dX0_decoded_34 rfl (lv_at hl 0 rfl) ?_
          refine lv_sipush (v := 240) hx hb dX0_decoded_35 (by decide) ?_
          have C57 : ∀ (w0_8 : Int32) (H_8 : Heap) (locs_8 : List Loc), jSt (dC, dI) B base G0 G0 EX0_decodedP s.heap 0 0 [] [(r0, 197, 4000, ca 0, fb)] [] H_8 locs_8 → (0 ≤ w0_8.toInt ∧ ((240 ≤ z_6.toInt ∧ w0_8.toInt = 3) ∨ (224 ≤ z_6.toInt ∧ z_6.toInt < 240 ∧ w0_8.toInt = 2) ∨ (z_6.toInt < 224 ∧ w0_8.toInt = 1))) → ∀ ls : Array Slot, lv_has ls 8 [(0, .ref r0), (1, .int a1), (2, .int a2), (3, .int z_6)] → W p l e R s m ([.ref r0, .int a1, .int a2] : List Value).toArray below meth c H_8 locs_8 0 0 Q (F0 m 57 ls [.int w0_8]) := by
            intro w0_8 H_8 locs_8 hh_8  hi_8 ls hl
            obtain ⟨hi_8_0, hi_8_1⟩ := hi_8
            refine lv_istore (lv' := [(4, .int w0_8), (0, .ref r0), (1, .int a1), (2, .int a2), (3, .int z_6)]) hx hb dX0_decoded_57 hl (by decide) rfl (fun ls hl => ?_)
            refine lv_iload_n hx hb dX0_decoded_59 rfl (lv_at hl 4 rfl) ?_
            refine lv_sipush (v := 194) hx hb dX0_decoded_60 (by decide) ?_
            refine lv_icmp_lt (tgt := 81) hx hb dX0_decoded_63 (by decide) (fun c_9 => ?_) (fun c_9 => ?_)
            · skip
              have c_9' : z_6.toInt < 194 := jb_lt (rfl) ((by decide)) c_9
              refine lv_iconst (v := (-1)) hx hb dX0_decoded_81 (by decide) ?_
              rw [hQ]
              exact W.iret (v := (-1)) hx hb hr (fun t ht hW => ⟨⟨(-1), (), rfl, by refine jUc.ret (jB8.r _ _).1 ?_; exact jUc_m hb3 (by omega) rfl (jUm.bad (i := a1.toInt) (n := a2.toInt) hi_8_1 (by omega)) rfl, hh_8.rt (M1 := []) [] rfl ht⟩, by rw [ht]; try exact hh_8.1.1, fun q h9 hq => by rw [ht]; try exact hh_8.1.2.1 q h9 hq⟩) hh_8.1.2.2 dX0_decoded_82
            · skip
              have c_9' : z_6.toInt ≥ 194 := jb_lt_n (rfl) ((by decide)) c_9
              refine lv_iload_n hx hb dX0_decoded_66 rfl (lv_at hl 4 rfl) ?_
              refine lv_sipush (v := 244) hx hb dX0_decoded_67 (by decide) ?_
              refine lv_icmp_gt (tgt := 81) hx hb dX0_decoded_70 (by decide) (fun c_10 => ?_) (fun c_10 => ?_)
              · skip
                have c_10' : z_6.toInt > 244 := jb_gt (rfl) ((by decide)) c_10
                refine lv_iconst (v := (-1)) hx hb dX0_decoded_81 (by decide) ?_
                rw [hQ]
                exact W.iret (v := (-1)) hx hb hr (fun t ht hW => ⟨⟨(-1), (), rfl, by refine jUc.ret (jB8.r _ _).1 ?_; exact jUc_m hb3 (by omega) rfl (jUm.bad (i := a1.toInt) (n := a2.toInt) hi_8_1 (by omega)) rfl, hh_8.rt (M1 := []) [] rfl ht⟩, by rw [ht]; try exact hh_8.1.1, fun q h9 hq => by rw [ht]; try exact hh_8.1.2.1 q h9 hq⟩) hh_8.1.2.2 dX0_decoded_82
              · skip
                have c_10' : z_6.toInt ≤ 244 := jb_gt_n (rfl) ((by decide)) c_10
                refine lv_iload hx hb dX0_decoded_73 (lv_at hl 0 rfl) ?_
                refine lv_iload_n hx hb dX0_decoded_75 rfl (lv_at hl 3 rfl) ?_
                refine lv_iload_n hx hb dX0_decoded_76 rfl (lv_at hl 2 rfl) ?_
                refine lv_isub hx hb dX0_decoded_77 ?_
                refine lv_topi (fun z_11 ez_11 => ?_)
                have hz_11 : z_11.toInt = a2.toInt - a1.toInt := by rw [ez_11]; exact jb_isub2 (rfl) (rfl) (by omega)
                refine lv_icmp_lt (tgt := 83) hx hb dX0_decoded_78 (by decide) (fun c_12 => ?_) (fun c_12 => ?_)
                · skip
                  have c_12' : w0_8.toInt < z_11.toInt := jb_lt (rfl) (rfl) c_12
                  have hm4 := jUm.of hi_8_1 (by omega) (by omega)
                  refine lv_iload_n hx hb dX0_decoded_83 rfl (lv_at hl 4 rfl) ?_
                  refine lv_bipush (v := 63) hx hb dX0_decoded_84 (by decide) ?_
                  refine lv_iload hx hb dX0_decoded_86 (lv_at hl 0 rfl) ?_
                  refine lv_ishr hx hb dX0_decoded_88 ?_
                  refine lv_topi (fun z_13 ez_13 => ?_)
                  refine lv_iand hx hb dX0_decoded_89 ?_
                  refine lv_topi (fun z_14 ez_14 => ?_)
                  have hu0 : z_14.toInt = jU0 z_6.toInt w0_8.toInt := jU0.of ez_13 ez_14 rfl (by omega)
                  refine lv_istore (lv' := [(5, .int z_14), (4, .int w0_8), (0, .ref r0), (1, .int a1), (2, .int a2), (3, .int z_6)]) hx hb dX0_decoded_90 hl (by decide) rfl (fun ls hl => ?_)
                  refine lv_iconst (v := 1) hx hb dX0_decoded_92 (by decide) ?_
                  refine lv_istore (lv' := [(6, .int 1), (5, .int z_14), (4, .int w0_8), (0, .ref r0), (1, .int a1), (2, .int a2), (3, .int z_6)]) hx hb dX0_decoded_93 hl (by decide) rfl (fun ls hl => ?_)
                  have L95 : ∀ (N : Nat) (v5_15 : Int32) (v6_15 : Int32) (H_15 : Heap) (locs_15 : List Loc), jSt (dC, dI) B base G0 G0 EX0_decodedP s.heap 0 0 [] [(r0, 197, 4000, ca 0, fb)] [] H_15 locs_15 → (1 ≤ v6_15.toInt ∧ v6_15.toInt ≤ w0_8.toInt + 1 ∧ jUb (w0_8.toInt + 1) v6_15.toInt v5_15.toInt ∧ jUr (jB8 fb) (w0_8.toInt + 1 - v6_15.toInt).toNat (a1.toInt + v6_15.toInt) v5_15.toInt = jUr (jB8 fb) (w0_8.toInt).toNat (a1.toInt + 1) (jU0 z_6.toInt w0_8.toInt)) → (w0_8.toInt + 1 - v6_15.toInt : Int) < N → ∀ ls : Array Slot, lv_has ls 8 [(0, .ref r0), (1, .int a1), (2, .int a2), (3, .int z_6), (4, .int w0_8), (5, .int v5_15), (6, .int v6_15)] → W p l e R s m ([.ref r0, .int a1, .int a2] : List Value).toArray below meth c H_15 locs_15 0 0 Q (F0 m 95 ls []) := by
                    intro N
                    induction N with
                    | zero => intro v5_15 v6_15 H_15 locs_15 hh_15  hi_15 hm; exact absurd hm (by omega)
                    | succ N L95 =>
                      intro v5_15 v6_15 H_15 locs_15 hh_15  hi_15 hm_15 ls hl
                      obtain ⟨hi_15_0, hi_15_1, hi_15_2, hi_15_3⟩ := hi_15
                      refine lv_iload hx hb dX0_decoded_95 (lv_at hl 6 rfl) ?_
                      refine lv_iload hx hb dX0_decoded_97 (lv_at hl 4 rfl) ?_
                      refine lv_icmp_gt (tgt := 147) hx hb dX0_decoded_99 (by decide) (fun c_16 => ?_) (fun c_16 => ?_)
                      · skip
                        have c_16' : v6_15.toInt > w0_8.toInt := jb_gt (rfl) (rfl) c_16
                        have hbe := hi_15_2.end (by omega)
                        refine lv_iload hx hb dX0_decoded_147 (lv_at hl 4 rfl) ?_
                        refine lv_iconst (v := 2) hx hb dX0_decoded_149 (by decide) ?_
                        have C179 : ∀ (w0_17 : Int32) (H_17 : Heap) (locs_17 : List Loc), jSt (dC, dI) B base G0 G0 EX0_decodedP s.heap 0 0 [] [(r0, 197, 4000, ca 0, fb)] [] H_17 locs_17 → (w0_17 = 0 ∨ w0_17 = 1) → ((w0_17.toInt = 1 ∧ (w0_8.toInt = 2 ∧ v5_15.toInt < 2048 ∨ w0_8.toInt = 3 ∧ v5_15.toInt < 65536)) ∨ (w0_17.toInt = 0 ∧ (w0_8.toInt ≠ 2 ∨ 2048 ≤ v5_15.toInt) ∧ (w0_8.toInt ≠ 3 ∨ 65536 ≤ v5_15.toInt))) → ∀ ls : Array Slot, lv_has ls 8 [(0, .ref r0), (1, .int a1), (2, .int a2), (3, .int z_6), (4, .int w0_8), (5, .int v5_15), (6, .int v6_15)] → W p l e R s m ([.ref r0, .int a1, .int a2] : List Value).toArray below meth c H_17 locs_17 0 0 Q (F0 m 179 ls [.int w0_17]) := by
                          intro w0_17 H_17 locs_17 hh_17 hb_w0_17 hi_17 ls hl
                          have hb_w0_17' := jb_01 hb_w0_17
                          refine lv_istore (lv' := [(6, .int w0_17), (0, .ref r0), (1, .int a1), (2, .int a2), (3, .int z_6), (4, .int w0_8), (5, .int v5_15)]) hx hb dX0_decoded_179 hl (by decide) rfl (fun ls hl => ?_)
                          refine lv_iload hx hb dX0_decoded_181 (lv_at hl 0 rfl) ?_
                          refine lv_if_ne (tgt := 207) hx hb dX0_decoded_183 (by decide) (fun c_18 => ?_) (fun c_18 => ?_)
                          · skip
                            have c_18' : w0_17.toInt ≠ 0 := jb_ne (rfl) ((by decide)) c_18
                            refine lv_iconst (v := (-1)) hx hb dX0_decoded_207 (by decide) ?_
                            refine lv_goto (tgt := 213) hx hb dX0_decoded_208 (by decide) ?_
                            rw [hQ]
                            exact W.iret (v := (-1)) hx hb hr (fun t ht hW => ⟨⟨(-1), (), rfl, by refine jUc.ret (jB8.r _ _).1 ?_; exact jUc_k hb3 (by omega) hm4 (by omega) (by omega) (hi_15_3.symm.trans (jUr_z (by omega))) (jUk_x (by omega) rfl), hh_17.rt (M1 := []) [] rfl ht⟩, by rw [ht]; try exact hh_17.1.1, fun q h9 hq => by rw [ht]; try exact hh_17.1.2.1 q h9 hq⟩) hh_17.1.2.2 dX0_decoded_213
                          · skip
                            have c_18' : w0_17.toInt = 0 := jb_ne_n (rfl) ((by decide)) c_18
                            refine lv_iload hx hb dX0_decoded_186 (lv_at hl 6 rfl) ?_
                            refine lv_ldc hx hb hown hcs_74 dX0_decoded_188 ?_
                            refine lv_icmp_gt (tgt := 207) hx hb dX0_decoded_190 (by decide) (fun c_19 => ?_) (fun c_19 => ?_)
                            · skip
                              have c_19' : v5_15.toInt > 1114111 := jb_gt (rfl) ((by decide)) c_19
                              refine lv_iconst (v := (-1)) hx hb dX0_decoded_207 (by decide) ?_
                              refine lv_goto (tgt := 213) hx hb dX0_decoded_208 (by decide) ?_
                              rw [hQ]
                              exact W.iret (v := (-1)) hx hb hr (fun t ht hW => ⟨⟨(-1), (), rfl, by refine jUc.ret (jB8.r _ _).1 ?_; exact jUc_k hb3 (by omega) hm4 (by omega) (by omega) (hi_15_3.symm.trans (jUr_z (by omega))) (jUk_x (by omega) rfl), hh_17.rt (M1 := []) [] rfl ht⟩, by rw [ht]; try exact hh_17.1.1, fun q h9 hq => by rw [ht]; try exact hh_17.1.2.1 q h9 hq⟩) hh_17.1.2.2 dX0_decoded_213
                            · skip
                              have c_19' : v5_15.toInt ≤ 1114111 := jb_gt_n (rfl) ((by decide)) c_19
                              refine lv_iload hx hb dX0_decoded_193 (lv_at hl 6 rfl) ?_
                              refine lv_ldc hx hb hown hcs_61 dX0_decoded_195 ?_
                              refine lv_icmp_lt (tgt := 211) hx hb dX0_decoded_197 (by decide) (fun c_20 => ?_) (fun c_20 => ?_)
                              · skip
                                have c_20' : v5_15.toInt < 55296 := jb_lt (rfl) ((by decide)) c_20
                                refine lv_iload hx hb dX0_decoded_211 (lv_at hl 6 rfl) ?_
                                rw [hQ]
                                exact W.iret (v := v5_15) hx hb hr (fun t ht hW => ⟨⟨v5_15, (), rfl, by refine jUc.ret (jB8.r _ _).1 ?_; exact jUc_k hb3 (by omega) hm4 (by omega) (by omega) (hi_15_3.symm.trans (jUr_z (by omega))) (jUk_v (by omega) (by omega) (by omega) (by omega) (by omega) rfl), hh_17.rt (M1 := []) [] rfl ht⟩, by rw [ht]; try exact hh_17.1.1, fun q h9 hq => by rw [ht]; try exact hh_17.1.2.1 q h9 hq⟩) hh_17.1.2.2 dX0_decoded_213
                              · skip
                                have c_20' : v5_15.toInt ≥ 55296 := jb_lt_n (rfl) ((by decide)) c_20
                                refine lv_iload hx hb dX0_decoded_200 (lv_at hl 6 rfl) ?_
                                refine lv_ldc hx hb hown hcs_73 dX0_decoded_202 ?_
                                refine lv_icmp_ge (tgt := 211) hx hb dX0_decoded_204 (by decide) (fun c_21 => ?_) (fun c_21 => ?_)
                                · skip
                                  have c_21' : v5_15.toInt ≥ 57344 := jb_ge (rfl) ((by decide)) c_21
                                  refine lv_iload hx hb dX0_decoded_211 (lv_at hl 6 rfl) ?_
                                  rw [hQ]
                                  exact W.iret (v := v5_15) hx hb hr (fun t ht hW => ⟨⟨v5_15, (), rfl, by refine jUc.ret (jB8.r _ _).1 ?_; exact jUc_k hb3 (by omega) hm4 (by omega) (by omega) (hi_15_3.symm.trans (jUr_z (by omega))) (jUk_v (by omega) (by omega) (by omega) (by omega) (by omega) rfl), hh_17.rt (M1 := []) [] rfl ht⟩, by rw [ht]; try exact hh_17.1.1, fun q h9 hq => by rw [ht]; try exact hh_17.1.2.1 q h9 hq⟩) hh_17.1.2.2 dX0_decoded_213
                                · skip
                                  have c_21' : v5_15.toInt < 57344 := jb_ge_n (rfl) ((by decide)) c_21
                                  refine lv_iconst (v := (-1)) hx hb dX0_decoded_207 (by decide) ?_
                                  refine lv_goto (tgt := 213) hx hb dX0_decoded_208 (by decide) ?_
                                  rw [hQ]
                                  exact W.iret (v := (-1)) hx hb hr (fun t ht hW => ⟨⟨(-1), (), rfl, by refine jUc.ret (jB8.r _ _).1 ?_; exact jUc_k hb3 (by omega) hm4 (by omega) (by omega) (hi_15_3.symm.trans (jUr_z (by omega))) (jUk_x (by omega) rfl), hh_17.rt (M1 := []) [] rfl ht⟩, by rw [ht]; try exact hh_17.1.1, fun q h9 hq => by rw [ht]; try exact hh_17.1.2.1 q h9 hq⟩) hh_17.1.2.2 dX0_decoded_213
                        refine lv_icmp_ne (tgt := 161) hx hb dX0_decoded_150 (by decide) (fun c_22 => ?_) (fun c_22 => ?_)
                        · skip
                          have c_22' : w0_8.toInt ≠ 2 := jb_ne (rfl) ((by decide)) c_22
                          refine lv_iload hx hb dX0_decoded_161 (lv_at hl 4 rfl) ?_
                          refine lv_iconst (v := 3) hx hb dX0_decoded_163 (by decide) ?_
                          refine lv_icmp_ne (tgt := 178) hx hb dX0_decoded_164 (by decide) (fun c_23 => ?_) (fun c_23 => ?_)
                          · skip
                            have c_23' : w0_8.toInt ≠ 3 := jb_ne (rfl) ((by decide)) c_23
                            refine lv_iconst (v := 0) hx hb dX0_decoded_178 (by decide) ?_
                            exact C179 0 _ _ hh_15 (Or.inl rfl) (by first | omega | rfl | assumption | decide | exact Or.inl rfl | exact Or.inr rfl | (simp only; omega)) _ (lv_sub hl [0, 1, 2, 3, 4, 5, 6] rfl)
                          · skip
                            have c_23' : w0_8.toInt = 3 := jb_ne_n (rfl) ((by decide)) c_23
                            refine lv_iload hx hb dX0_decoded_167 (lv_at hl 5 rfl) ?_
                            refine lv_ldc hx hb hown hcs_60 dX0_decoded_169 ?_
                            refine lv_icmp_ge (tgt := 178) hx hb dX0_decoded_171 (by decide) (fun c_24 => ?_) (fun c_24 => ?_)
                            · skip
                              have c_24' : v5_15.toInt ≥ 65536 := jb_ge (rfl) ((by decide)) c_24
                              refine lv_iconst (v := 0) hx hb dX0_decoded_178 (by decide) ?_
                              exact C179 0 _ _ hh_15 (Or.inl rfl) (by first | omega | rfl | assumption | decide | exact Or.inl rfl | exact Or.inr rfl | (simp only; omega)) _ (lv_sub hl [0, 1, 2, 3, 4, 5, 6] rfl)
                            · skip
                              have c_24' : v5_15.toInt < 65536 := jb_ge_n (rfl) ((by decide)) c_24
                              refine lv_iconst (v := 1) hx hb dX0_decoded_174 (by decide) ?_
                              refine lv_goto (tgt := 179) hx hb dX0_decoded_175 (by decide) ?_
                              exact C179 1 _ _ hh_15 (Or.inr rfl) (by first | omega | rfl | assumption | decide | exact Or.inl rfl | exact Or.inr rfl | (simp only; omega)) _ (lv_sub hl [0, 1, 2, 3, 4, 5, 6] rfl)
                        · skip
                          have c_22' : w0_8.toInt = 2 := jb_ne_n (rfl) ((by decide)) c_22
                          refine lv_iload hx hb dX0_decoded_153 (lv_at hl 5 rfl) ?_
                          refine lv_sipush (v := 2048) hx hb dX0_decoded_155 (by decide) ?_
                          refine lv_icmp_lt (tgt := 174) hx hb dX0_decoded_158 (by decide) (fun c_25 => ?_) (fun c_25 => ?_)
                          · skip
                            have c_25' : v5_15.toInt < 2048 := jb_lt (rfl) ((by decide)) c_25
                            refine lv_iconst (v := 1) hx hb dX0_decoded_174 (by decide) ?_
                            refine lv_goto (tgt := 179) hx hb dX0_decoded_175 (by decide) ?_
                            exact C179 1 _ _ hh_15 (Or.inr rfl) (by first | omega | rfl | assumption | decide | exact Or.inl rfl | exact Or.inr rfl | (simp only; omega)) _ (lv_sub hl [0, 1, 2, 3, 4, 5, 6] rfl)
                          · skip
                            have c_25' : v5_15.toInt ≥ 2048 := jb_lt_n (rfl) ((by decide)) c_25
                            refine lv_iload hx hb dX0_decoded_161 (lv_at hl 4 rfl) ?_
                            refine lv_iconst (v := 3) hx hb dX0_decoded_163 (by decide) ?_
                            refine lv_icmp_ne (tgt := 178) hx hb dX0_decoded_164 (by decide) (fun c_26 => ?_) (fun c_26 => ?_)
                            · skip
                              have c_26' : w0_8.toInt ≠ 3 := jb_ne (rfl) ((by decide)) c_26
                              refine lv_iconst (v := 0) hx hb dX0_decoded_178 (by decide) ?_
                              exact C179 0 _ _ hh_15 (Or.inl rfl) (by first | omega | rfl | assumption | decide | exact Or.inl rfl | exact Or.inr rfl | (simp only; omega)) _ (lv_sub hl [0, 1, 2, 3, 4, 5, 6] rfl)
                            · skip
                              have c_26' : w0_8.toInt = 3 := jb_ne_n (rfl) ((by decide)) c_26
                              refine lv_iload hx hb dX0_decoded_167 (lv_at hl 5 rfl) ?_
                              refine lv_ldc hx hb hown hcs_60 dX0_decoded_169 ?_
                              refine lv_icmp_ge (tgt := 178) hx hb dX0_decoded_171 (by decide) (fun c_27 => ?_) (fun c_27 => ?_)
                              · skip
                                have c_27' : v5_15.toInt ≥ 65536 := jb_ge (rfl) ((by decide)) c_27
                                refine lv_iconst (v := 0) hx hb dX0_decoded_178 (by decide) ?_
                                exact C179 0 _ _ hh_15 (Or.inl rfl) (by first | omega | rfl | assumption | decide | exact Or.inl rfl | exact Or.inr rfl | (simp only; omega)) _ (lv_sub hl [0, 1, 2, 3, 4, 5, 6] rfl)
                              · skip
                                have c_27' : v5_15.toInt < 65536 := jb_ge_n (rfl) ((by decide)) c_27
                                refine lv_iconst (v := 1) hx hb dX0_decoded_174 (by decide) ?_
                                refine lv_goto (tgt := 179) hx hb dX0_decoded_175 (by decide) ?_
                                exact C179 1 _ _ hh_15 (Or.inr rfl) (by first | omega | rfl | assumption | decide | exact Or.inl rfl | exact Or.inr rfl | (simp only; omega)) _ (lv_sub hl [0, 1, 2, 3, 4, 5, 6] rfl)
                      · skip
                        have c_16' : v6_15.toInt ≤ w0_8.toInt := jb_gt_n (rfl) (rfl) c_16
                        refine lv_aload_n hx hb dX0_decoded_102 rfl (lv_at hl 0 rfl) ?_
                        refine lv_iload_n hx hb dX0_decoded_103 rfl (lv_at hl 1 rfl) ?_
                        refine lv_iload hx hb dX0_decoded_104 (lv_at hl 6 rfl) ?_
                        refine lv_iadd hx hb dX0_decoded_106 ?_
                        refine lv_topi (fun z_28 ez_28 => ?_)
                        have hz_28 : z_28.toInt = a1.toInt + v6_15.toInt := by rw [ez_28]; exact jb_iadd2 (rfl) (rfl) (by omega)
                        refine j7_baldM hx hb hK hh_15 hB197 0 rfl (by decide) hg_r0 (x := z_28.toInt) (rfl) (by omega) (j := 0) rfl dX0_decoded_107 (fun z_29 ez_29 (hz_29 : jBf (z_28.toInt).toNat z_29) => ?_)
                        have hqz_29 : z_29.toInt = jSo fb ((a1.toInt + v6_15.toInt)) := by unfold jSo; rw [ez_29, show z_28.toInt = (a1.toInt + v6_15.toInt) by omega]
                        refine lv_sipush (v := 255) hx hb dX0_decoded_108 (by decide) ?_
                        refine lv_iand hx hb dX0_decoded_111 ?_
                        refine lv_topi (fun z_30 ez_30 => ?_)
                        have hz_30 : 0 ≤ z_30.toInt ∧ z_30.toInt ≤ 255 := by rw [ez_30]; exact jb_and z_29 (m := 255) (k := 8) (by decide) (by decide)
                        have hb7 : z_30.toInt = jB8 fb (a1.toInt + v6_15.toInt) := (jb_a255 ez_30).trans (by rw [hqz_29]; rfl)
                        have hb7r := jB8.r fb (a1.toInt + v6_15.toInt)
                        have hbr := hi_15_2.r (by omega)
                        refine lv_istore (lv' := [(7, .int z_30), (0, .ref r0), (1, .int a1), (2, .int a2), (3, .int z_6), (4, .int w0_8), (5, .int v5_15), (6, .int v6_15)]) hx hb dX0_decoded_112 hl (by decide) rfl (fun ls hl => ?_)
                        refine lv_iload hx hb dX0_decoded_114 (lv_at hl 0 rfl) ?_
                        refine lv_sipush (v := 192) hx hb dX0_decoded_116 (by decide) ?_
                        refine lv_iand hx hb dX0_decoded_119 ?_
                        refine lv_topi (fun z_31 ez_31 => ?_)
                        have hc7 := jb_a192 ez_31 (by omega) (by omega)
                        refine lv_sipush (v := 128) hx hb dX0_decoded_120 (by decide) ?_
                        refine lv_icmp_eq (tgt := 128) hx hb dX0_decoded_123 (by decide) (fun c_32 => ?_) (fun c_32 => ?_)
                        · skip
                          have c_32' : z_31.toInt = 128 := jb_eq (rfl) ((by decide)) c_32
                          refine lv_iload hx hb dX0_decoded_128 (lv_at hl 6 rfl) ?_
                          refine lv_bipush (v := 6) hx hb dX0_decoded_130 (by decide) ?_
                          refine lv_ishl hx hb dX0_decoded_132 ?_
                          refine lv_topi (fun z_33 ez_33 => ?_)
                          have hbz_33 := jb_shlc 6 64 ez_33 (by decide) (by decide) (by omega) (by omega)
                          refine lv_iload hx hb dX0_decoded_133 (lv_at hl 0 rfl) ?_
                          refine lv_bipush (v := 63) hx hb dX0_decoded_135 (by decide) ?_
                          refine lv_iand hx hb dX0_decoded_137 ?_
                          refine lv_topi (fun z_34 ez_34 => ?_)
                          have hz_34 : 0 ≤ z_34.toInt ∧ z_34.toInt ≤ 63 := by rw [ez_34]; exact jb_and z_30 (m := 63) (k := 6) (by decide) (by decide)
                          refine lv_ior hx hb dX0_decoded_138 ?_
                          refine lv_topi (fun z_35 ez_35 => ?_)
                          have hy7 := jb_a63 ez_34
                          have hz5 := jb_or64 ez_35 v5_15.toInt (by omega) (by omega) (by omega) (by omega) (by omega)
                          refine lv_istore (lv' := [(5, .int z_35), (7, .int z_30), (0, .ref r0), (1, .int a1), (2, .int a2), (3, .int z_6), (4, .int w0_8), (6, .int v6_15)]) hx hb dX0_decoded_139 hl (by decide) rfl (fun ls hl => ?_)
                          obtain ⟨z_36, ez_36⟩ : ∃ y : Int32, y = v6_15 + 1 := ⟨_, rfl⟩
                          refine lv_iinc (v := z_36) (lv' := [(6, .int z_36), (5, .int z_35), (7, .int z_30), (0, .ref r0), (1, .int a1), (2, .int a2), (3, .int z_6), (4, .int w0_8)]) hx hb dX0_decoded_141 hl (k := 7) rfl (by rw [ez_36]; rfl) (by decide) rfl (fun ls hl => ?_)
                          have hz_36 : z_36.toInt = v6_15.toInt + 1 := by rw [ez_36]; exact jb_iadd2 (rfl) (by decide) (by omega)
                          refine lv_goto (tgt := 95) hx hb dX0_decoded_144 (by decide) ?_
                          exact L95 z_35 z_36 _ _ hh_15 (by refine ⟨by omega, by omega, hi_15_2.step (y := z_34.toInt) (by omega) (by omega) (by omega) (by omega) (by omega), ?_⟩; exact ((jUr_e (by omega) (by omega) rfl).trans (jUr_n (by omega) hb7 (by omega) (by omega) rfl (by omega))).trans hi_15_3) (by omega) _ (lv_sub hl [3, 4, 5, 6, 7, 1, 0] rfl)
                        · skip
                          have c_32' : z_31.toInt ≠ 128 := jb_eq_n (rfl) ((by decide)) c_32
                          refine lv_iconst (v := (-1)) hx hb dX0_decoded_126 (by decide) ?_
                          rw [hQ]
                          exact W.iret (v := (-1)) hx hb hr (fun t ht hW => ⟨⟨(-1), (), rfl, by refine jUc.ret (jB8.r _ _).1 ?_; exact jUc_k hb3 (by omega) hm4 (by omega) (by omega) (hi_15_3.symm.trans (jUr_x (by omega) hb7 (by omega))) (jUk_x (Or.inl (by decide)) rfl), hh_15.rt (M1 := []) [] rfl ht⟩, by rw [ht]; try exact hh_15.1.1, fun q h9 hq => by rw [ht]; try exact hh_15.1.2.1 q h9 hq⟩) hh_15.1.2.2 dX0_decoded_127
                  exact L95 (w0_8.toInt + 1 - (1 : Int32).toInt : Int).toNat.succ z_14 1 _ _ hh_8 (by refine ⟨by omega, by omega, jUb.start hm4 (by omega) (by omega) rfl (by omega) (by omega) hu0, ?_⟩; exact jUr_e (by omega) (by omega) hu0) (by omega) _ (lv_sub hl [3, 4, 5, 6, 2, 1, 0] rfl)
                · skip
                  have c_12' : w0_8.toInt ≥ z_11.toInt := jb_lt_n (rfl) (rfl) c_12
                  refine lv_iconst (v := (-1)) hx hb dX0_decoded_81 (by decide) ?_
                  rw [hQ]
                  exact W.iret (v := (-1)) hx hb hr (fun t ht hW => ⟨⟨(-1), (), rfl, by refine jUc.ret (jB8.r _ _).1 ?_; exact jUc_m hb3 (by omega) rfl (jUm.bad (i := a1.toInt) (n := a2.toInt) hi_8_1 (by omega)) rfl, hh_8.rt (M1 := []) [] rfl ht⟩, by rw [ht]; try exact hh_8.1.1, fun q h9 hq => by rw [ht]; try exact hh_8.1.2.1 q h9 hq⟩) hh_8.1.2.2 dX0_decoded_82
          refine lv_icmp_lt (tgt := 45) hx hb dX0_decoded_38 (by decide) (fun c_37 => ?_) (fun c_37 => ?_)
          · skip
            have c_37' : z_6.toInt < 240 := jb_lt (rfl) ((by decide)) c_37
            refine lv_iload_n hx hb dX0_decoded_45 rfl (lv_at hl 0 rfl) ?_
            refine lv_sipush (v := 224) hx hb dX0_decoded_46 (by decide) ?_
            refine lv_icmp_lt (tgt := 56) hx hb dX0_decoded_49 (by decide) (fun c_38 => ?_) (fun c_38 => ?_)
            · skip
              have c_38' : z_6.toInt < 224 := jb_lt (rfl) ((by decide)) c_38
              refine lv_iconst (v := 1) hx hb dX0_decoded_56 (by decide) ?_
              exact C57 1 _ _ hh (by first | omega | (refine ⟨?_, ?_⟩ <;> (first | omega | rfl | assumption | decide | exact Or.inl rfl | exact Or.inr rfl | (simp only; omega)))) _ (lv_sub hl [1, 2, 3, 0] rfl)
            · skip
              have c_38' : z_6.toInt ≥ 224 := jb_lt_n (rfl) ((by decide)) c_38
              refine lv_iconst (v := 2) hx hb dX0_decoded_52 (by decide) ?_
              refine lv_goto (tgt := 57) hx hb dX0_decoded_53 (by decide) ?_
              exact C57 2 _ _ hh (by first | omega | (refine ⟨?_, ?_⟩ <;> (first | omega | rfl | assumption | decide | exact Or.inl rfl | exact Or.inr rfl | (simp only; omega)))) _ (lv_sub hl [1, 2, 3, 0] rfl)
          · skip
            have c_37' : z_6.toInt ≥ 240 := jb_lt_n (rfl) ((by decide)) c_37
            refine lv_iconst (v := 3) hx hb dX0_decoded_41 (by decide) ?_
            refine lv_goto (tgt := 57) hx hb dX0_decoded_42 (by decide) ?_
            exact C57 3 _ _ hh (by first | omega | (refine ⟨?_, ?_⟩ <;> (first | omega | rfl | assumption | decide | exact Or.inl rfl | exact Or.inr rfl | (simp only; omega)))) _ (lv_sub hl [1, 2, 3, 0] rfl)
        · skip
          have c_7' : z_6.toInt < 128 := jb_ge_n (rfl) ((by decide)) c_7
          refine lv_iload_n hx hb dX0_decoded_32 rfl (lv_at hl 0 rfl) ?_
          rw [hQ]
          exact W.iret (v := z_6) hx hb hr (fun t ht hW => ⟨⟨z_6, (), rfl, by refine jUc.ret (jB8.r _ _).1 ?_; exact jUc_a hb3 (by omega), hh.rt (M1 := []) [] rfl ht⟩, by rw [ht]; try exact hh.1.1, fun q h9 hq => by rw [ht]; try exact hh.1.2.1 q h9 hq⟩) hh.1.2.2 dX0_decoded_33
      · skip
        have c_4' : a2.toInt > z_3.toInt := jb_le_n (rfl) (rfl) c_4
        exact absurd c_4' (by omega)
end
section
-- p9: the open documents of the class: what holds of them, how they change
theorem jDnw.cs {t t1 : jDtl} {w : jWl9} {a : Nat} (h : jDnw t t1 a) (hn : ∀ i : Nat, (i : Int) < w.1 → w.2.1 i ≠ some a) : jdCs t1 w = jdCs t w := by
  obtain ⟨f, g, rfl⟩ := h
  exact jdCs.put hn
end
section
-- p9: what a message does
section
variable {T : Nat → Int → Int} {v p m : Int} {S S1 : Int × (Int → jdD)}
end
section JR8
variable {dC : Nat → ClassId} {dI : Nat → Nat → Nat} {G : jT} {a nn yy : Nat} {P Q : Prop} {H : Heap}
theorem jRi.to (h : jRi dC dI G a P H) (e : P ↔ Q) : jRi dC dI G a Q H := by
  rcases h with ⟨p, x⟩ | ⟨p, x⟩
  · exact Or.inl ⟨e.mp p, x⟩
  · exact Or.inr ⟨fun q => p (e.mpr q), x⟩
end JR8
end
section
-- p8: a batch leaves the open documents, their States and rows as they are
theorem jnE.m2 : ¬ jnE [-2] := fun h => by
  rcases h with h | ⟨p, h⟩
  · cases h
  · have h1 := congrArg List.reverse h
    rw [List.reverse_append] at h1
    have h2 : [(-2 : Int)] = -1 :: p.reverse := h1
    cases h2
section J9BT
variable {G G1 : jT} {s0 x : Nat} {t t1 t2 : jDtl} {q q1 q2 : jKg} {w : jWl9} {ho : Nat → Option Nat} {us us1 us2 rw rw1 : Nat → List Int} {qq : jRqG} {ib : Nat → List Int} {S : Int × (Int → jdD)} {Z : jwSt}
theorem jzBt.nw (h : jzBt w t t1) (hn : ∀ i : Nat, (i : Int) < w.1 → w.2.1 i ≠ some x) (e : jDnw t1 t2 x) : jzBt w t t2 := by
  obtain ⟨f, g, e⟩ := e
  exact h.put hn e
theorem jzBn.nw (h : jzBn w q q1) (hn : ∀ i : Nat, (i : Int) < w.1 → w.2.1 i ≠ some x) (e : jKnw q1 q2 x) : jzBn w q q2 := by
  obtain ⟨sb, se, sc, bh, e⟩ := e
  exact h.put hn e
theorem jzBs.uu {l : List Int} (h : jzBs G us us1 rw rw1) (hx : ∀ z m, G z = some (175, m) → z ≠ x) (e : us2 = jUf us1 x l) : jzBs G us us2 rw rw1 := ⟨fun z m hz => by rw [e, jUf_n _ _ (hx z m hz)]; exact h.1 z m hz, h.2⟩
theorem jzBs.rr {l : List Int} (h : jzBs G us us1 rw rw1) (hx : ∀ z, G1 z = some (11, 0) → z ≠ x) (hle : jLe G G1) : jzBs G us us1 rw (jUf rw1 x l) := ⟨h.1, fun z hz => by rw [jUf_n _ _ (hx z (hle _ _ hz))]; exact h.2 z hz⟩
theorem jcZ.bat (h : jcZ G s0 t q w ho us rw qq ib S Z) (hle : jLe G G1) (ht : jzBt w t t1) (hI : jdIv t1 w) (hS : jdCs t1 w = jdCs t w) (hK : jzBn w q q1) (hs : jzBs G us us1 rw rw1) : jcZ G1 s0 t1 q1 w ho us1 rw1 qq ib S Z := by
  obtain ⟨k1, k2, k3, k4, k5, k6, k7, k8, k9, k10, k11, k12, k13⟩ := h.ts ht hI (hS.trans h.2.1)
  refine jcZ.up (G := G) ⟨k1, k2, fun d a hd ha => ?_, fun i hi => ?_, fun d a hd ha h0 h1 => ?_, k6, k7, ?_, k9, k10, ?_, fun y hy => ?_, k13⟩ hle
  · obtain ⟨g1, g2, g3, g4, g5, g6, g7, g8, g9⟩ := hK d a hd ha
    obtain ⟨r1, r2, r3, r4, r5, r6, r7, r8, r9⟩ := k3 d a hd ha
    unfold jzD
    rw [g1, g2, g5, g6, g7, g8, g9]
    refine ⟨r1, r2, r3, r4, r5, r6, r7, fun i hi => ?_, r9⟩
    obtain ⟨y, e1, e2, e3⟩ := r8 i hi
    exact ⟨y, e1, e2, (hs.2 y e2).trans e3⟩
  · rcases k4 i hi with c | ⟨d, a, y, g1, g2, g3, g4, g5, ⟨m, g6⟩, g7⟩
    · exact Or.inl c
    · obtain ⟨a1, a2, a3, a4, -⟩ := hK d a g1 g2
      exact Or.inr ⟨d, a, y, g1, g2, g3, by rw [a3]; exact g4, by rw [a4]; exact g5, ⟨m, g6⟩, (hs.1 y m g6).trans g7⟩
  · rw [(hK d a hd ha).2.2.2.1]
    exact k5 d a hd ha h0 h1
  · rw [k8]
    exact (List.map_congr_left (fun y hy => hs.2 y (k12 y hy).1)).symm
  · rw [hs.2 s0 k10]
    exact k11
  · rw [hs.2 y (k12 y hy).1]
    exact k12 y hy
end J9BT
end
