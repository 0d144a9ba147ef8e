section
theorem dX0_decodedSize_0 : decode cX0_decodedSize 0 = .ok (.iload_n 0, 1) := by decide +kernel
theorem dX0_decodedSize_1 : decode cX0_decodedSize 1 = .ok (.sipush 128, 3) := by decide +kernel
theorem dX0_decodedSize_4 : decode cX0_decodedSize 4 = .ok (.if_icmp .ge 7, 3) := by decide +kernel
theorem dX0_decodedSize_7 : decode cX0_decodedSize 7 = .ok (.iconst 1, 1) := by decide +kernel
theorem dX0_decodedSize_8 : decode cX0_decodedSize 8 = .ok (.goto 25, 3) := by decide +kernel
theorem dX0_decodedSize_11 : decode cX0_decodedSize 11 = .ok (.iload_n 0, 1) := by decide +kernel
theorem dX0_decodedSize_12 : decode cX0_decodedSize 12 = .ok (.sipush 2048, 3) := by decide +kernel
theorem dX0_decodedSize_15 : decode cX0_decodedSize 15 = .ok (.if_icmp .ge 7, 3) := by decide +kernel
theorem dX0_decodedSize_18 : decode cX0_decodedSize 18 = .ok (.iconst 2, 1) := by decide +kernel
theorem dX0_decodedSize_19 : decode cX0_decodedSize 19 = .ok (.goto 14, 3) := by decide +kernel
theorem dX0_decodedSize_22 : decode cX0_decodedSize 22 = .ok (.iload_n 0, 1) := by decide +kernel
theorem dX0_decodedSize_23 : decode cX0_decodedSize 23 = .ok (.ldc 60, 2) := by decide +kernel
theorem dX0_decodedSize_25 : decode cX0_decodedSize 25 = .ok (.if_icmp .ge 7, 3) := by decide +kernel
theorem dX0_decodedSize_28 : decode cX0_decodedSize 28 = .ok (.iconst 3, 1) := by decide +kernel
theorem dX0_decodedSize_29 : decode cX0_decodedSize 29 = .ok (.goto 4, 3) := by decide +kernel
theorem dX0_decodedSize_32 : decode cX0_decodedSize 32 = .ok (.iconst 4, 1) := by decide +kernel
theorem dX0_decodedSize_33 : decode cX0_decodedSize 33 = .ok (.ireturn, 1) := by decide +kernel
end
section
theorem dX0_decoded_0 : decode cX0_decoded 0 = .ok (.iload_n 1, 1) := by decide +kernel
theorem dX0_decoded_1 : decode cX0_decoded 1 = .ok (.ifCond .lt 14, 3) := by decide +kernel
theorem dX0_decoded_4 : decode cX0_decoded 4 = .ok (.iload_n 1, 1) := by decide +kernel
theorem dX0_decoded_5 : decode cX0_decoded 5 = .ok (.iload_n 2, 1) := by decide +kernel
theorem dX0_decoded_6 : decode cX0_decoded 6 = .ok (.if_icmp .ge 9, 3) := by decide +kernel
theorem dX0_decoded_9 : decode cX0_decoded 9 = .ok (.iload_n 2, 1) := by decide +kernel
theorem dX0_decoded_10 : decode cX0_decoded 10 = .ok (.aload_n 0, 1) := by decide +kernel
theorem dX0_decoded_11 : decode cX0_decoded 11 = .ok (.arraylength, 1) := by decide +kernel
theorem dX0_decoded_12 : decode cX0_decoded 12 = .ok (.if_icmp .le 5, 3) := by decide +kernel
theorem dX0_decoded_15 : decode cX0_decoded 15 = .ok (.iconst (-1), 1) := by decide +kernel
theorem dX0_decoded_16 : decode cX0_decoded 16 = .ok (.ireturn, 1) := by decide +kernel
theorem dX0_decoded_17 : decode cX0_decoded 17 = .ok (.aload_n 0, 1) := by decide +kernel
theorem dX0_decoded_18 : decode cX0_decoded 18 = .ok (.iload_n 1, 1) := by decide +kernel
theorem dX0_decoded_19 : decode cX0_decoded 19 = .ok (.baload, 1) := by decide +kernel
theorem dX0_decoded_20 : decode cX0_decoded 20 = .ok (.sipush 255, 3) := by decide +kernel
theorem dX0_decoded_23 : decode cX0_decoded 23 = .ok (.iand, 1) := by decide +kernel
theorem dX0_decoded_24 : decode cX0_decoded 24 = .ok (.istore_n 3, 1) := by decide +kernel
theorem dX0_decoded_25 : decode cX0_decoded 25 = .ok (.iload_n 3, 1) := by decide +kernel
theorem dX0_decoded_26 : decode cX0_decoded 26 = .ok (.sipush 128, 3) := by decide +kernel
theorem dX0_decoded_29 : decode cX0_decoded 29 = .ok (.if_icmp .ge 5, 3) := by decide +kernel
theorem dX0_decoded_32 : decode cX0_decoded 32 = .ok (.iload_n 3, 1) := by decide +kernel
theorem dX0_decoded_33 : decode cX0_decoded 33 = .ok (.ireturn, 1) := by decide +kernel
theorem dX0_decoded_34 : decode cX0_decoded 34 = .ok (.iload_n 3, 1) := by decide +kernel
theorem dX0_decoded_35 : decode cX0_decoded 35 = .ok (.sipush 240, 3) := by decide +kernel
theorem dX0_decoded_38 : decode cX0_decoded 38 = .ok (.if_icmp .lt 7, 3) := by decide +kernel
theorem dX0_decoded_41 : decode cX0_decoded 41 = .ok (.iconst 3, 1) := by decide +kernel
theorem dX0_decoded_42 : decode cX0_decoded 42 = .ok (.goto 15, 3) := by decide +kernel
theorem dX0_decoded_45 : decode cX0_decoded 45 = .ok (.iload_n 3, 1) := by decide +kernel
theorem dX0_decoded_46 : decode cX0_decoded 46 = .ok (.sipush 224, 3) := by decide +kernel
theorem dX0_decoded_49 : decode cX0_decoded 49 = .ok (.if_icmp .lt 7, 3) := by decide +kernel
theorem dX0_decoded_52 : decode cX0_decoded 52 = .ok (.iconst 2, 1) := by decide +kernel
theorem dX0_decoded_53 : decode cX0_decoded 53 = .ok (.goto 4, 3) := by decide +kernel
theorem dX0_decoded_56 : decode cX0_decoded 56 = .ok (.iconst 1, 1) := by decide +kernel
theorem dX0_decoded_57 : decode cX0_decoded 57 = .ok (.istore 4, 2) := by decide +kernel
theorem dX0_decoded_59 : decode cX0_decoded 59 = .ok (.iload_n 3, 1) := by decide +kernel
theorem dX0_decoded_60 : decode cX0_decoded 60 = .ok (.sipush 194, 3) := by decide +kernel
theorem dX0_decoded_63 : decode cX0_decoded 63 = .ok (.if_icmp .lt 18, 3) := by decide +kernel
theorem dX0_decoded_66 : decode cX0_decoded 66 = .ok (.iload_n 3, 1) := by decide +kernel
theorem dX0_decoded_67 : decode cX0_decoded 67 = .ok (.sipush 244, 3) := by decide +kernel
theorem dX0_decoded_70 : decode cX0_decoded 70 = .ok (.if_icmp .gt 11, 3) := by decide +kernel
theorem dX0_decoded_73 : decode cX0_decoded 73 = .ok (.iload 4, 2) := by decide +kernel
theorem dX0_decoded_75 : decode cX0_decoded 75 = .ok (.iload_n 2, 1) := by decide +kernel
theorem dX0_decoded_76 : decode cX0_decoded 76 = .ok (.iload_n 1, 1) := by decide +kernel
theorem dX0_decoded_77 : decode cX0_decoded 77 = .ok (.isub, 1) := by decide +kernel
theorem dX0_decoded_78 : decode cX0_decoded 78 = .ok (.if_icmp .lt 5, 3) := by decide +kernel
theorem dX0_decoded_81 : decode cX0_decoded 81 = .ok (.iconst (-1), 1) := by decide +kernel
theorem dX0_decoded_82 : decode cX0_decoded 82 = .ok (.ireturn, 1) := by decide +kernel
theorem dX0_decoded_83 : decode cX0_decoded 83 = .ok (.iload_n 3, 1) := by decide +kernel
theorem dX0_decoded_84 : decode cX0_decoded 84 = .ok (.bipush 63, 2) := by decide +kernel
theorem dX0_decoded_86 : decode cX0_decoded 86 = .ok (.iload 4, 2) := by decide +kernel
theorem dX0_decoded_88 : decode cX0_decoded 88 = .ok (.ishr, 1) := by decide +kernel
theorem dX0_decoded_89 : decode cX0_decoded 89 = .ok (.iand, 1) := by decide +kernel
theorem dX0_decoded_90 : decode cX0_decoded 90 = .ok (.istore 5, 2) := by decide +kernel
theorem dX0_decoded_92 : decode cX0_decoded 92 = .ok (.iconst 1, 1) := by decide +kernel
theorem dX0_decoded_93 : decode cX0_decoded 93 = .ok (.istore 6, 2) := by decide +kernel
theorem dX0_decoded_95 : decode cX0_decoded 95 = .ok (.iload 6, 2) := by decide +kernel
theorem dX0_decoded_97 : decode cX0_decoded 97 = .ok (.iload 4, 2) := by decide +kernel
theorem dX0_decoded_99 : decode cX0_decoded 99 = .ok (.if_icmp .gt 48, 3) := by decide +kernel
theorem dX0_decoded_102 : decode cX0_decoded 102 = .ok (.aload_n 0, 1) := by decide +kernel
theorem dX0_decoded_103 : decode cX0_decoded 103 = .ok (.iload_n 1, 1) := by decide +kernel
theorem dX0_decoded_104 : decode cX0_decoded 104 = .ok (.iload 6, 2) := by decide +kernel
theorem dX0_decoded_106 : decode cX0_decoded 106 = .ok (.iadd, 1) := by decide +kernel
theorem dX0_decoded_107 : decode cX0_decoded 107 = .ok (.baload, 1) := by decide +kernel
theorem dX0_decoded_108 : decode cX0_decoded 108 = .ok (.sipush 255, 3) := by decide +kernel
theorem dX0_decoded_111 : decode cX0_decoded 111 = .ok (.iand, 1) := by decide +kernel
theorem dX0_decoded_112 : decode cX0_decoded 112 = .ok (.istore 7, 2) := by decide +kernel
theorem dX0_decoded_114 : decode cX0_decoded 114 = .ok (.iload 7, 2) := by decide +kernel
theorem dX0_decoded_116 : decode cX0_decoded 116 = .ok (.sipush 192, 3) := by decide +kernel
theorem dX0_decoded_119 : decode cX0_decoded 119 = .ok (.iand, 1) := by decide +kernel
theorem dX0_decoded_120 : decode cX0_decoded 120 = .ok (.sipush 128, 3) := by decide +kernel
theorem dX0_decoded_123 : decode cX0_decoded 123 = .ok (.if_icmp .eq 5, 3) := by decide +kernel
theorem dX0_decoded_126 : decode cX0_decoded 126 = .ok (.iconst (-1), 1) := by decide +kernel
theorem dX0_decoded_127 : decode cX0_decoded 127 = .ok (.ireturn, 1) := by decide +kernel
theorem dX0_decoded_128 : decode cX0_decoded 128 = .ok (.iload 5, 2) := by decide +kernel
theorem dX0_decoded_130 : decode cX0_decoded 130 = .ok (.bipush 6, 2) := by decide +kernel
theorem dX0_decoded_132 : decode cX0_decoded 132 = .ok (.ishl, 1) := by decide +kernel
theorem dX0_decoded_133 : decode cX0_decoded 133 = .ok (.iload 7, 2) := by decide +kernel
theorem dX0_decoded_135 : decode cX0_decoded 135 = .ok (.bipush 63, 2) := by decide +kernel
theorem dX0_decoded_137 : decode cX0_decoded 137 = .ok (.iand, 1) := by decide +kernel
theorem dX0_decoded_138 : decode cX0_decoded 138 = .ok (.ior, 1) := by decide +kernel
theorem dX0_decoded_139 : decode cX0_decoded 139 = .ok (.istore 5, 2) := by decide +kernel
theorem dX0_decoded_141 : decode cX0_decoded 141 = .ok (.iinc 6 1, 3) := by decide +kernel
theorem dX0_decoded_144 : decode cX0_decoded 144 = .ok (.goto (-49), 3) := by decide +kernel
theorem dX0_decoded_147 : decode cX0_decoded 147 = .ok (.iload 4, 2) := by decide +kernel
theorem dX0_decoded_149 : decode cX0_decoded 149 = .ok (.iconst 2, 1) := by decide +kernel
theorem dX0_decoded_150 : decode cX0_decoded 150 = .ok (.if_icmp .ne 11, 3) := by decide +kernel
theorem dX0_decoded_153 : decode cX0_decoded 153 = .ok (.iload 5, 2) := by decide +kernel
theorem dX0_decoded_155 : decode cX0_decoded 155 = .ok (.sipush 2048, 3) := by decide +kernel
theorem dX0_decoded_158 : decode cX0_decoded 158 = .ok (.if_icmp .lt 16, 3) := by decide +kernel
theorem dX0_decoded_161 : decode cX0_decoded 161 = .ok (.iload 4, 2) := by decide +kernel
theorem dX0_decoded_163 : decode cX0_decoded 163 = .ok (.iconst 3, 1) := by decide +kernel
theorem dX0_decoded_164 : decode cX0_decoded 164 = .ok (.if_icmp .ne 14, 3) := by decide +kernel
theorem dX0_decoded_167 : decode cX0_decoded 167 = .ok (.iload 5, 2) := by decide +kernel
theorem dX0_decoded_169 : decode cX0_decoded 169 = .ok (.ldc 60, 2) := by decide +kernel
theorem dX0_decoded_171 : decode cX0_decoded 171 = .ok (.if_icmp .ge 7, 3) := by decide +kernel
theorem dX0_decoded_174 : decode cX0_decoded 174 = .ok (.iconst 1, 1) := by decide +kernel
theorem dX0_decoded_175 : decode cX0_decoded 175 = .ok (.goto 4, 3) := by decide +kernel
theorem dX0_decoded_178 : decode cX0_decoded 178 = .ok (.iconst 0, 1) := by decide +kernel
theorem dX0_decoded_179 : decode cX0_decoded 179 = .ok (.istore 6, 2) := by decide +kernel
theorem dX0_decoded_181 : decode cX0_decoded 181 = .ok (.iload 6, 2) := by decide +kernel
theorem dX0_decoded_183 : decode cX0_decoded 183 = .ok (.ifCond .ne 24, 3) := by decide +kernel
theorem dX0_decoded_186 : decode cX0_decoded 186 = .ok (.iload 5, 2) := by decide +kernel
theorem dX0_decoded_188 : decode cX0_decoded 188 = .ok (.ldc 74, 2) := by decide +kernel
theorem dX0_decoded_190 : decode cX0_decoded 190 = .ok (.if_icmp .gt 17, 3) := by decide +kernel
theorem dX0_decoded_193 : decode cX0_decoded 193 = .ok (.iload 5, 2) := by decide +kernel
theorem dX0_decoded_195 : decode cX0_decoded 195 = .ok (.ldc 61, 2) := by decide +kernel
theorem dX0_decoded_197 : decode cX0_decoded 197 = .ok (.if_icmp .lt 14, 3) := by decide +kernel
theorem dX0_decoded_200 : decode cX0_decoded 200 = .ok (.iload 5, 2) := by decide +kernel
theorem dX0_decoded_202 : decode cX0_decoded 202 = .ok (.ldc 73, 2) := by decide +kernel
theorem dX0_decoded_204 : decode cX0_decoded 204 = .ok (.if_icmp .ge 7, 3) := by decide +kernel
theorem dX0_decoded_207 : decode cX0_decoded 207 = .ok (.iconst (-1), 1) := by decide +kernel
theorem dX0_decoded_208 : decode cX0_decoded 208 = .ok (.goto 5, 3) := by decide +kernel
theorem dX0_decoded_211 : decode cX0_decoded 211 = .ok (.iload 5, 2) := by decide +kernel
theorem dX0_decoded_213 : decode cX0_decoded 213 = .ok (.ireturn, 1) := by decide +kernel
end
section
theorem jWr_18 : ∀ w ∈ wsL_law_r18, w ∈ jWl := fun w h => jT18 w (List.mem_append_left _ h)
end
section
-- the refined heap: every field of a typed object holds a value of its own predicate, every element of a typed array too; what is known of a field just now is a pin (address, kind, field, value)
section J7
variable {p : Program} {l : Launch} {e : Env} {R : Room} {s : State} {m : MethodId} {args : Array Value} {below : List Frame} {meth : Method} {c : Code} {H : Heap} {locs : List Loc} {cells slots : Nat} {Q : State → Prop}
variable {cc : ByteArray} {pc : Nat} {ls : Array Slot} {rest : List Value} {dC : Nat → ClassId} {dI : Nat → Nat → Nat} {ca : Nat → ClassId} {B : jF} {base : Nat} {G0 G : jT} {E : List (Nat × Nat)} {H0 : Heap} {zc zs : Nat} {L : List jPin} {M : List jCt} {I : List jIv} {a k n i index N : Nat} {tys : List (ClassId × FieldType)} {own C : String} {T : u_T}
end J7
section J8
variable {p : Program} {l : Launch} {e : Env} {R : Room} {s : State} {m : MethodId} {args : Array Value} {below : List Frame} {meth : Method} {c : Code} {H : Heap} {locs : List Loc} {cells slots : Nat} {Q : State → Prop}
variable {cc : ByteArray} {pc : Nat} {ls : Array Slot} {rest : List Value} {dC : Nat → ClassId} {dI : Nat → Nat → Nat} {ca : Nat → ClassId} {B : jF} {base : Nat} {G0 G : jT} {E : List (Nat × Nat)} {H0 : Heap} {zc zs : Nat} {L : List jPin} {M : List jCt} {I : List jIv} {a k n : Nat} {P : Nat → Int32 → Prop} {cA : ClassId} {tys : List (ClassId × FieldType)}
theorem j7_bast (hexec : p.tables.exec = Jvm.exec) (hb : c.code = cc) (hK : va_K (dC, dI) vwCl tys s) (hh : jSt (dC, dI) B base G0 G E H0 zc zs L M I H locs) (hB : jBok B) (hBk : ∀ n G a H, B k n G a H ↔ jAr (dC, dI) cA P n a H) (t0 : Nat) (ht : tys[t0]? = some (cA, .byte)) (hk : k < 1000) (hk2 : 17 ≤ k) (hE : E.contains (k, 0) = true) (hM : M.all (fun q => !(q.2.1 == k)) = true) (hI : I.all (fun q => !(q.1.contains (k, 0))) = true) (ha : G a = some (k, n)) {i v : Int32} {x : Int} (hi : i.toInt = x) (h12 : 0 ≤ x ∧ x < n) (hP : ∀ j z, P j z) (hdg : decode cc pc = .ok (.bastore, 1))
    (kk : ∀ (H1 : Heap) (locs1 : List Loc), jSt (dC, dI) B base G0 G E H0 zc zs L M I H1 locs1 → W p l e R s m args below meth c H1 locs1 cells slots Q (F0 m (pc + 1) ls rest)) : W p l e R s m args below meth c H locs cells slots Q (F0 m pc ls (.int v :: .int i :: .ref a :: rest)) := by
  obtain ⟨h1, h2⟩ := h12
  obtain ⟨f, g1, g2⟩ := hh.ar hBk hk ha
  exact j_bast (A := jA base) hexec hb hK t0 g1 (hh.ab ha).1 hh.1.2.2 ht (jb_in hi h1 h2) hdg (fun H1 locs1 f1 _ hat hsz hfr hT hL => kk H1 locs1 (hh.arr hB ha hk hk2 hE hM hI hsz hfr hT hL ((hBk _ _ _ _).mpr ⟨f1, hat, fun _ _ => hP _ _⟩)))
end J8
end
section
set_option maxHeartbeats 4000000 in
set_option maxRecDepth 20000 in
theorem wX11_isDigit (l : Launch) (dC : Nat → ClassId) (dI : Nat → Nat → Nat) (ca : Nat → ClassId) (base : Nat) (H0 : Heap) (a0 : Int32) : Met l yX11_isDigit (jw yX11_isDigit cX11_isDigit 1 (some .boolean)) ({ frames := 0, cells := 0, slots := 0, locals := 0 }) (va_Pc [.int a0] (fun U => U.heap = H0 ∧ jG dC dI ca base U ∧ (True))) (vp_Si (fun r => r = 0 ∨ r = 1)) 0 0 (fun _ => False) := by
  refine Met.ofW (cc := cX11_isDigit) (maxL := 1) (ret := (some .boolean)) (by decide) rfl ?_
  intro p e s m args below meth c s₁ B hml hv
  obtain ⟨rfl, hH0, hG, hpre⟩ := hv
  have hK := hG.1
  have hx := B.exec
  have hb := B.bytes
  have hr := B.returns
  have hts := atoms_spec (ws := (jw yX11_isDigit cX11_isDigit 1 (some .boolean))) B.pre
  have htw : ∀ w ∈ jWl, w.before _ s = true := fun w h => hts w (List.mem_cons_of_mem _ h)
  have hown : s.vm.findClass RX11 = some m.cls := findClass_of_methodNamed B.named
  have hlocks := B.notSynchronized
  obtain ⟨Q, hQ⟩ : ∃ Q, Q = MQ below (vp_Si (fun r => r = 0 ∨ r = 1)) ([.int a0] : List Value).toArray s 0 0 (fun _ => False) := ⟨_, rfl⟩
  rw [← hQ]
  have hl := lv_entry ([.int a0]) (n := 1) (Nat.le_of_ble_eq_true rfl)
  rw [lg_entry_eq]
  generalize (lg_sl ([.int a0]) ++ List.replicate (1 - (lg_sl ([.int a0])).length) Slot.unset).toArray = ls at hl ⊢
  have hl : lv_has ls 1 [(0, .int a0)] := hl
  generalize hR : (headSpec (jw yX11_isDigit cX11_isDigit 1 (some .boolean)) ({ frames := 0, cells := 0, slots := 0, locals := 0 })).room = R
  subst hH0
  have hS : va_S (jA base) s.heap s.heap [] := va_S.rf
  have hk0 : (0 : Int32).toInt = 0 := by decide
  have hk1 : (1 : Int32).toInt = 1 := by decide
  have hk48 : (48 : Int32).toInt = 48 := by decide
  have hk57 : (57 : Int32).toInt = 57 := by decide
  refine lv_iload_n hx hb dX11_isDigit_0 rfl (lv_at hl 0 rfl) ?_
  refine lv_bipush (v := 48) hx hb dX11_isDigit_1 (by decide) ?_
  refine lv_icmp_lt (tgt := 16) hx hb dX11_isDigit_3 (by decide) (fun c_1 => ?_) (fun c_1 => ?_)
  · skip
    have c_1' : a0.toInt < 48 := jb_lt (rfl) ((by decide)) c_1
    refine lv_iconst (v := 0) hx hb dX11_isDigit_16 (by decide) ?_
    rw [hQ]
    exact W.zret (v := 0) hx hb hr (jb_nz (Or.inl rfl)) (fun t ht hW => ⟨0, rfl, by first | exact Or.inl rfl | exact Or.inr rfl | assumption, ht⟩) (fun _ h => nomatch h) dX11_isDigit_17
  · skip
    have c_1' : a0.toInt ≥ 48 := jb_lt_n (rfl) ((by decide)) c_1
    refine lv_iload_n hx hb dX11_isDigit_6 rfl (lv_at hl 0 rfl) ?_
    refine lv_bipush (v := 57) hx hb dX11_isDigit_7 (by decide) ?_
    refine lv_icmp_gt (tgt := 16) hx hb dX11_isDigit_9 (by decide) (fun c_2 => ?_) (fun c_2 => ?_)
    · skip
      have c_2' : a0.toInt > 57 := jb_gt (rfl) ((by decide)) c_2
      refine lv_iconst (v := 0) hx hb dX11_isDigit_16 (by decide) ?_
      rw [hQ]
      exact W.zret (v := 0) hx hb hr (jb_nz (Or.inl rfl)) (fun t ht hW => ⟨0, rfl, by first | exact Or.inl rfl | exact Or.inr rfl | assumption, ht⟩) (fun _ h => nomatch h) dX11_isDigit_17
    · skip
      have c_2' : a0.toInt ≤ 57 := jb_gt_n (rfl) ((by decide)) c_2
      refine lv_iconst (v := 1) hx hb dX11_isDigit_12 (by decide) ?_
      refine lv_goto (tgt := 17) hx hb dX11_isDigit_13 (by decide) ?_
      rw [hQ]
      exact W.zret (v := 1) hx hb hr (jb_nz (Or.inr rfl)) (fun t ht hW => ⟨1, rfl, by first | exact Or.inl rfl | exact Or.inr rfl | assumption, ht⟩) (fun _ h => nomatch h) dX11_isDigit_17
end
section
theorem dX4_peek_0 : decode cX4_peek 0 = .ok (.aload_n 0, 1) := by decide +kernel
theorem dX4_peek_1 : decode cX4_peek 1 = .ok (.getfield 47, 3) := by decide +kernel
theorem dX4_peek_4 : decode cX4_peek 4 = .ok (.ifCond .lt 30, 3) := by decide +kernel
theorem dX4_peek_7 : decode cX4_peek 7 = .ok (.aload_n 0, 1) := by decide +kernel
theorem dX4_peek_8 : decode cX4_peek 8 = .ok (.getfield 47, 3) := by decide +kernel
theorem dX4_peek_11 : decode cX4_peek 11 = .ok (.aload_n 0, 1) := by decide +kernel
theorem dX4_peek_12 : decode cX4_peek 12 = .ok (.getfield 43, 3) := by decide +kernel
theorem dX4_peek_15 : decode cX4_peek 15 = .ok (.if_icmp .ge 19, 3) := by decide +kernel
theorem dX4_peek_18 : decode cX4_peek 18 = .ok (.aload_n 0, 1) := by decide +kernel
theorem dX4_peek_19 : decode cX4_peek 19 = .ok (.getfield 33, 3) := by decide +kernel
theorem dX4_peek_22 : decode cX4_peek 22 = .ok (.aload_n 0, 1) := by decide +kernel
theorem dX4_peek_23 : decode cX4_peek 23 = .ok (.getfield 47, 3) := by decide +kernel
theorem dX4_peek_26 : decode cX4_peek 26 = .ok (.baload, 1) := by decide +kernel
theorem dX4_peek_27 : decode cX4_peek 27 = .ok (.sipush 255, 3) := by decide +kernel
theorem dX4_peek_30 : decode cX4_peek 30 = .ok (.iand, 1) := by decide +kernel
theorem dX4_peek_31 : decode cX4_peek 31 = .ok (.goto 4, 3) := by decide +kernel
theorem dX4_peek_34 : decode cX4_peek 34 = .ok (.iconst (-1), 1) := by decide +kernel
theorem dX4_peek_35 : decode cX4_peek 35 = .ok (.ireturn, 1) := by decide +kernel
theorem dX4_skipBlanks_0 : decode cX4_skipBlanks 0 = .ok (.aload_n 0, 1) := by decide +kernel
theorem dX4_skipBlanks_1 : decode cX4_skipBlanks 1 = .ok (.getfield 47, 3) := by decide +kernel
theorem dX4_skipBlanks_4 : decode cX4_skipBlanks 4 = .ok (.aload_n 0, 1) := by decide +kernel
theorem dX4_skipBlanks_5 : decode cX4_skipBlanks 5 = .ok (.getfield 43, 3) := by decide +kernel
theorem dX4_skipBlanks_8 : decode cX4_skipBlanks 8 = .ok (.if_icmp .ge 26, 3) := by decide +kernel
theorem dX4_skipBlanks_11 : decode cX4_skipBlanks 11 = .ok (.aload_n 0, 1) := by decide +kernel
theorem dX4_skipBlanks_12 : decode cX4_skipBlanks 12 = .ok (.invokevirtual 89, 3) := by decide +kernel
theorem dX4_skipBlanks_15 : decode cX4_skipBlanks 15 = .ok (.invokestatic 92, 3) := by decide +kernel
theorem dX4_skipBlanks_18 : decode cX4_skipBlanks 18 = .ok (.ifCond .eq 16, 3) := by decide +kernel
theorem dX4_skipBlanks_21 : decode cX4_skipBlanks 21 = .ok (.aload_n 0, 1) := by decide +kernel
theorem dX4_skipBlanks_22 : decode cX4_skipBlanks 22 = .ok (.dup, 1) := by decide +kernel
theorem dX4_skipBlanks_23 : decode cX4_skipBlanks 23 = .ok (.getfield 47, 3) := by decide +kernel
theorem dX4_skipBlanks_26 : decode cX4_skipBlanks 26 = .ok (.iconst 1, 1) := by decide +kernel
theorem dX4_skipBlanks_27 : decode cX4_skipBlanks 27 = .ok (.iadd, 1) := by decide +kernel
theorem dX4_skipBlanks_28 : decode cX4_skipBlanks 28 = .ok (.putfield 47, 3) := by decide +kernel
theorem dX4_skipBlanks_31 : decode cX4_skipBlanks 31 = .ok (.goto (-31), 3) := by decide +kernel
theorem dX4_skipBlanks_34 : decode cX4_skipBlanks 34 = .ok (.return_, 1) := by decide +kernel
theorem dX4_make_0 : decode cX4_make 0 = .ok (.aload_n 0, 1) := by decide +kernel
theorem dX4_make_1 : decode cX4_make 1 = .ok (.getfield 50, 3) := by decide +kernel
theorem dX4_make_4 : decode cX4_make 4 = .ok (.sipush 1502, 3) := by decide +kernel
theorem dX4_make_7 : decode cX4_make 7 = .ok (.if_icmp .lt 5, 3) := by decide +kernel
theorem dX4_make_10 : decode cX4_make 10 = .ok (.iconst (-1), 1) := by decide +kernel
theorem dX4_make_11 : decode cX4_make 11 = .ok (.ireturn, 1) := by decide +kernel
theorem dX4_make_12 : decode cX4_make 12 = .ok (.aload_n 0, 1) := by decide +kernel
theorem dX4_make_13 : decode cX4_make 13 = .ok (.getfield 11, 3) := by decide +kernel
theorem dX4_make_16 : decode cX4_make 16 = .ok (.aload_n 0, 1) := by decide +kernel
theorem dX4_make_17 : decode cX4_make 17 = .ok (.getfield 50, 3) := by decide +kernel
theorem dX4_make_20 : decode cX4_make 20 = .ok (.iload_n 1, 1) := by decide +kernel
theorem dX4_make_21 : decode cX4_make 21 = .ok (.iastore, 1) := by decide +kernel
theorem dX4_make_22 : decode cX4_make 22 = .ok (.aload_n 0, 1) := by decide +kernel
theorem dX4_make_23 : decode cX4_make 23 = .ok (.getfield 15, 3) := by decide +kernel
theorem dX4_make_26 : decode cX4_make 26 = .ok (.aload_n 0, 1) := by decide +kernel
theorem dX4_make_27 : decode cX4_make 27 = .ok (.getfield 50, 3) := by decide +kernel
theorem dX4_make_30 : decode cX4_make 30 = .ok (.iload_n 2, 1) := by decide +kernel
theorem dX4_make_31 : decode cX4_make 31 = .ok (.iastore, 1) := by decide +kernel
theorem dX4_make_32 : decode cX4_make 32 = .ok (.aload_n 0, 1) := by decide +kernel
theorem dX4_make_33 : decode cX4_make 33 = .ok (.getfield 18, 3) := by decide +kernel
theorem dX4_make_36 : decode cX4_make 36 = .ok (.aload_n 0, 1) := by decide +kernel
theorem dX4_make_37 : decode cX4_make 37 = .ok (.getfield 50, 3) := by decide +kernel
theorem dX4_make_40 : decode cX4_make 40 = .ok (.iload_n 3, 1) := by decide +kernel
theorem dX4_make_41 : decode cX4_make 41 = .ok (.iastore, 1) := by decide +kernel
theorem dX4_make_42 : decode cX4_make 42 = .ok (.aload_n 0, 1) := by decide +kernel
theorem dX4_make_43 : decode cX4_make 43 = .ok (.getfield 21, 3) := by decide +kernel
theorem dX4_make_46 : decode cX4_make 46 = .ok (.aload_n 0, 1) := by decide +kernel
theorem dX4_make_47 : decode cX4_make 47 = .ok (.getfield 50, 3) := by decide +kernel
theorem dX4_make_50 : decode cX4_make 50 = .ok (.iconst (-1), 1) := by decide +kernel
theorem dX4_make_51 : decode cX4_make 51 = .ok (.iastore, 1) := by decide +kernel
theorem dX4_make_52 : decode cX4_make 52 = .ok (.aload_n 0, 1) := by decide +kernel
theorem dX4_make_53 : decode cX4_make 53 = .ok (.getfield 24, 3) := by decide +kernel
theorem dX4_make_56 : decode cX4_make 56 = .ok (.aload_n 0, 1) := by decide +kernel
theorem dX4_make_57 : decode cX4_make 57 = .ok (.getfield 50, 3) := by decide +kernel
theorem dX4_make_60 : decode cX4_make 60 = .ok (.iconst 0, 1) := by decide +kernel
theorem dX4_make_61 : decode cX4_make 61 = .ok (.iastore, 1) := by decide +kernel
theorem dX4_make_62 : decode cX4_make 62 = .ok (.aload_n 0, 1) := by decide +kernel
theorem dX4_make_63 : decode cX4_make 63 = .ok (.getfield 27, 3) := by decide +kernel
theorem dX4_make_66 : decode cX4_make 66 = .ok (.aload_n 0, 1) := by decide +kernel
theorem dX4_make_67 : decode cX4_make 67 = .ok (.getfield 50, 3) := by decide +kernel
theorem dX4_make_70 : decode cX4_make 70 = .ok (.iconst 0, 1) := by decide +kernel
theorem dX4_make_71 : decode cX4_make 71 = .ok (.iastore, 1) := by decide +kernel
theorem dX4_make_72 : decode cX4_make 72 = .ok (.aload_n 0, 1) := by decide +kernel
theorem dX4_make_73 : decode cX4_make 73 = .ok (.dup, 1) := by decide +kernel
theorem dX4_make_74 : decode cX4_make 74 = .ok (.getfield 50, 3) := by decide +kernel
theorem dX4_make_77 : decode cX4_make 77 = .ok (.iconst 1, 1) := by decide +kernel
theorem dX4_make_78 : decode cX4_make 78 = .ok (.iadd, 1) := by decide +kernel
theorem dX4_make_79 : decode cX4_make 79 = .ok (.putfield 50, 3) := by decide +kernel
theorem dX4_make_82 : decode cX4_make 82 = .ok (.aload_n 0, 1) := by decide +kernel
theorem dX4_make_83 : decode cX4_make 83 = .ok (.getfield 50, 3) := by decide +kernel
theorem dX4_make_86 : decode cX4_make 86 = .ok (.iconst 1, 1) := by decide +kernel
theorem dX4_make_87 : decode cX4_make 87 = .ok (.isub, 1) := by decide +kernel
theorem dX4_make_88 : decode cX4_make 88 = .ok (.ireturn, 1) := by decide +kernel
theorem dX4_addChar_0 : decode cX4_addChar 0 = .ok (.iload_n 1, 1) := by decide +kernel
theorem dX4_addChar_1 : decode cX4_addChar 1 = .ok (.ldc 161, 2) := by decide +kernel
theorem dX4_addChar_3 : decode cX4_addChar 3 = .ok (.if_icmp .lt 35, 3) := by decide +kernel
theorem dX4_addChar_6 : decode cX4_addChar 6 = .ok (.aload_n 0, 1) := by decide +kernel
theorem dX4_addChar_7 : decode cX4_addChar 7 = .ok (.ldc 162, 2) := by decide +kernel
theorem dX4_addChar_9 : decode cX4_addChar 9 = .ok (.iload_n 1, 1) := by decide +kernel
theorem dX4_addChar_10 : decode cX4_addChar 10 = .ok (.ldc 161, 2) := by decide +kernel
theorem dX4_addChar_12 : decode cX4_addChar 12 = .ok (.isub, 1) := by decide +kernel
theorem dX4_addChar_13 : decode cX4_addChar 13 = .ok (.bipush 10, 2) := by decide +kernel
theorem dX4_addChar_15 : decode cX4_addChar 15 = .ok (.ishr, 1) := by decide +kernel
theorem dX4_addChar_16 : decode cX4_addChar 16 = .ok (.iadd, 1) := by decide +kernel
theorem dX4_addChar_17 : decode cX4_addChar 17 = .ok (.invokevirtual 163, 3) := by decide +kernel
theorem dX4_addChar_20 : decode cX4_addChar 20 = .ok (.aload_n 0, 1) := by decide +kernel
theorem dX4_addChar_21 : decode cX4_addChar 21 = .ok (.ldc 166, 2) := by decide +kernel
theorem dX4_addChar_23 : decode cX4_addChar 23 = .ok (.iload_n 1, 1) := by decide +kernel
theorem dX4_addChar_24 : decode cX4_addChar 24 = .ok (.ldc 161, 2) := by decide +kernel
theorem dX4_addChar_26 : decode cX4_addChar 26 = .ok (.isub, 1) := by decide +kernel
theorem dX4_addChar_27 : decode cX4_addChar 27 = .ok (.sipush 1023, 3) := by decide +kernel
theorem dX4_addChar_30 : decode cX4_addChar 30 = .ok (.iand, 1) := by decide +kernel
theorem dX4_addChar_31 : decode cX4_addChar 31 = .ok (.iadd, 1) := by decide +kernel
theorem dX4_addChar_32 : decode cX4_addChar 32 = .ok (.invokevirtual 163, 3) := by decide +kernel
theorem dX4_addChar_35 : decode cX4_addChar 35 = .ok (.goto 8, 3) := by decide +kernel
theorem dX4_addChar_38 : decode cX4_addChar 38 = .ok (.aload_n 0, 1) := by decide +kernel
theorem dX4_addChar_39 : decode cX4_addChar 39 = .ok (.iload_n 1, 1) := by decide +kernel
theorem dX4_addChar_40 : decode cX4_addChar 40 = .ok (.invokevirtual 163, 3) := by decide +kernel
theorem dX4_addChar_43 : decode cX4_addChar 43 = .ok (.return_, 1) := by decide +kernel
theorem dX4_addUnit_0 : decode cX4_addUnit 0 = .ok (.aload_n 0, 1) := by decide +kernel
theorem dX4_addUnit_1 : decode cX4_addUnit 1 = .ok (.getfield 53, 3) := by decide +kernel
theorem dX4_addUnit_4 : decode cX4_addUnit 4 = .ok (.aload_n 0, 1) := by decide +kernel
theorem dX4_addUnit_5 : decode cX4_addUnit 5 = .ok (.getfield 30, 3) := by decide +kernel
theorem dX4_addUnit_8 : decode cX4_addUnit 8 = .ok (.arraylength, 1) := by decide +kernel
theorem dX4_addUnit_9 : decode cX4_addUnit 9 = .ok (.if_icmp .ge 23, 3) := by decide +kernel
theorem dX4_addUnit_12 : decode cX4_addUnit 12 = .ok (.aload_n 0, 1) := by decide +kernel
theorem dX4_addUnit_13 : decode cX4_addUnit 13 = .ok (.getfield 30, 3) := by decide +kernel
theorem dX4_addUnit_16 : decode cX4_addUnit 16 = .ok (.aload_n 0, 1) := by decide +kernel
theorem dX4_addUnit_17 : decode cX4_addUnit 17 = .ok (.getfield 53, 3) := by decide +kernel
theorem dX4_addUnit_20 : decode cX4_addUnit 20 = .ok (.iload_n 1, 1) := by decide +kernel
theorem dX4_addUnit_21 : decode cX4_addUnit 21 = .ok (.iastore, 1) := by decide +kernel
theorem dX4_addUnit_22 : decode cX4_addUnit 22 = .ok (.aload_n 0, 1) := by decide +kernel
theorem dX4_addUnit_23 : decode cX4_addUnit 23 = .ok (.dup, 1) := by decide +kernel
theorem dX4_addUnit_24 : decode cX4_addUnit 24 = .ok (.getfield 53, 3) := by decide +kernel
theorem dX4_addUnit_27 : decode cX4_addUnit 27 = .ok (.iconst 1, 1) := by decide +kernel
theorem dX4_addUnit_28 : decode cX4_addUnit 28 = .ok (.iadd, 1) := by decide +kernel
theorem dX4_addUnit_29 : decode cX4_addUnit 29 = .ok (.putfield 53, 3) := by decide +kernel
theorem dX4_addUnit_32 : decode cX4_addUnit 32 = .ok (.return_, 1) := by decide +kernel
def EX0_decoded : List (Nat × Nat) := []
def EX4_peek : List (Nat × Nat) := []
def EX4_skipBlanks : List (Nat × Nat) := [(6, 11)]
set_option maxHeartbeats 4000000 in
set_option maxRecDepth 20000 in
theorem uX0_decoded (l : Launch) (dC : Nat → ClassId) (dI : Nat → Nat → Nat) (ca : Nat → ClassId) (base : Nat) (B : jF) (hB : jBok B) (hAp : jAp (dC, dI)) (hB100 : ∀ n G a H, B 100 n G a H ↔ jAr (dC, dI) (ca 0) (fun j z => True) n a H) (G0 : jT) (H0 : Heap) (r0 : Nat) (a1 : Int32) (a2 : Int32) (n0 : Nat) : Met l yX0_decoded (jw yX0_decoded cX0_decoded 8 (some .int)) ({ frames := 0, cells := 0, slots := 0, locals := 0 }) (va_Pc [.ref r0, .int a1, .int a2] (fun U => U.heap = H0 ∧ jX B base G0 [] H0 ∧ jG dC dI ca base U ∧ G0 r0 = some (100, n0) ∧ jP (dC, dI) G0 H0 [] ∧ n0 < 1000000 ∧ a2.toInt ≤ 1000000)) (va_Qi (S := Unit) (fun r u => (True)) (fun u t => jRt (dC, dI) B base G0 EX0_decoded H0 [] t.heap) (jA base)) 0 0 (jA base) := by
  refine Met.ofW (cc := cX0_decoded) (maxL := 8) (ret := (some .int)) (by decide) rfl ?_
  intro p e s m args below meth c s₁ Bd hml hv
  obtain ⟨rfl, hH0, hX, hG, hg_r0, hP0, hp0, hp1⟩ := hv
  have hK := hG.1
  have hx := Bd.exec
  have hb := Bd.bytes
  have hr := Bd.returns
  have hts := atoms_spec (ws := (jw yX0_decoded cX0_decoded 8 (some .int))) Bd.pre
  have htw : ∀ w ∈ jWl, w.before _ s = true := fun w h => hts w (List.mem_cons_of_mem _ h)
  have hown : s.vm.findClass RX0 = some m.cls := findClass_of_methodNamed Bd.named
  have hlocks := Bd.notSynchronized
  obtain ⟨Q, hQ⟩ : ∃ Q, Q = MQ below (va_Qi (S := Unit) (fun r u => (True)) (fun u t => jRt (dC, dI) B base G0 EX0_decoded H0 [] t.heap) (jA base)) ([.ref r0, .int a1, .int a2] : List Value).toArray s 0 0 (jA base) := ⟨_, rfl⟩
  rw [← hQ]
  have hl := lv_entry ([.ref r0, .int a1, .int a2]) (n := 8) (Nat.le_of_ble_eq_true rfl)
  rw [lg_entry_eq]
  generalize (lg_sl ([.ref r0, .int a1, .int a2]) ++ List.replicate (8 - (lg_sl ([.ref r0, .int a1, .int a2])).length) Slot.unset).toArray = ls at hl ⊢
  have hl : lv_has ls 8 [(0, .ref r0), (1, .int a1), (2, .int a2)] := hl
  generalize hR : (headSpec (jw yX0_decoded cX0_decoded 8 (some .int)) ({ frames := 0, cells := 0, slots := 0, locals := 0 })).room = R
  subst hH0
  have hh : jSt (dC, dI) B base G0 G0 EX0_decoded s.heap 0 0 [] [] [] s.heap [] := jSt.start hX hP0 jMc.nil jIs.nil
  clear hX hP0
  have hkm1 : ((-1) : Int32).toInt = (-1) := by decide
  have hk0 : (0 : Int32).toInt = 0 := by decide
  have hk1 : (1 : Int32).toInt = 1 := by decide
  have hk2 : (2 : Int32).toInt = 2 := by decide
  have hk3 : (3 : Int32).toInt = 3 := by decide
  have hk6 : (6 : Int32).toInt = 6 := by decide
  have hk63 : (63 : Int32).toInt = 63 := by decide
  have hk128 : (128 : Int32).toInt = 128 := by decide
  have hk192 : (192 : Int32).toInt = 192 := by decide
  have hk194 : (194 : Int32).toInt = 194 := by decide
  have hk224 : (224 : Int32).toInt = 224 := by decide
  have hk240 : (240 : Int32).toInt = 240 := by decide
  have hk244 : (244 : Int32).toInt = 244 := by decide
  have hk255 : (255 : Int32).toInt = 255 := by decide
  have hk2048 : (2048 : Int32).toInt = 2048 := by decide
  have hk55296 : (55296 : Int32).toInt = 55296 := by decide
  have hk57344 : (57344 : Int32).toInt = 57344 := by decide
  have hk65536 : (65536 : Int32).toInt = 65536 := by decide
  have hk1114111 : (1114111 : Int32).toInt = 1114111 := by decide
  have hcs_60 := htw (.constant RX0 60 65536) (jWr_20 _ (List.mem_of_getElem? (i := 15) rfl))
  have hcs_74 := htw (.constant RX0 74 1114111) (jWr_20 _ (List.mem_of_getElem? (i := 16) rfl))
  have hcs_61 := htw (.constant RX0 61 55296) (jWr_20 _ (List.mem_of_getElem? (i := 17) rfl))
  have hcs_73 := htw (.constant RX0 73 57344) (jWr_20 _ (List.mem_of_getElem? (i := 18) rfl))
  have hrg_a1 := jb_rng a1
  have hrg_a2 := jb_rng a2
  refine lv_iload_n hx hb dX0_decoded_0 rfl (lv_at hl 1 rfl) ?_
  refine lv_if_lt (tgt := 15) hx hb dX0_decoded_1 (by decide) (fun c_1 => ?_) (fun c_1 => ?_)
  · skip
    have c_1' : a1.toInt < 0 := jb_lt (rfl) ((by decide)) c_1
    refine lv_iconst (v := (-1)) hx hb dX0_decoded_15 (by decide) ?_
    rw [hQ]
    exact W.iret (v := (-1)) hx hb hr (fun t ht hW => ⟨⟨(-1), (), rfl, trivial, hh.rt (M1 := []) [] rfl ht⟩, by rw [ht]; try exact hh.1.1, fun q h9 hq => by rw [ht]; try exact hh.1.2.1 q h9 hq⟩) hh.1.2.2 dX0_decoded_16
  · skip
    have c_1' : a1.toInt ≥ 0 := jb_lt_n (rfl) ((by decide)) c_1
    refine lv_iload_n hx hb dX0_decoded_4 rfl (lv_at hl 1 rfl) ?_
    refine lv_iload_n hx hb dX0_decoded_5 rfl (lv_at hl 2 rfl) ?_
    refine lv_icmp_ge (tgt := 15) hx hb dX0_decoded_6 (by decide) (fun c_2 => ?_) (fun c_2 => ?_)
    · skip
      have c_2' : a1.toInt ≥ a2.toInt := jb_ge (rfl) (rfl) c_2
      refine lv_iconst (v := (-1)) hx hb dX0_decoded_15 (by decide) ?_
      rw [hQ]
      exact W.iret (v := (-1)) hx hb hr (fun t ht hW => ⟨⟨(-1), (), rfl, trivial, hh.rt (M1 := []) [] rfl ht⟩, by rw [ht]; try exact hh.1.1, fun q h9 hq => by rw [ht]; try exact hh.1.2.1 q h9 hq⟩) hh.1.2.2 dX0_decoded_16
    · skip
      have c_2' : a1.toInt < a2.toInt := jb_ge_n (rfl) (rfl) c_2
      refine lv_iload_n hx hb dX0_decoded_9 rfl (lv_at hl 2 rfl) ?_
      refine lv_aload_n hx hb dX0_decoded_10 rfl (lv_at hl 0 rfl) ?_
      refine j7_len hx hb hK hh hB100 0 rfl (by decide) hg_r0 (by omega) dX0_decoded_11 (fun z_3 hz_3 => ?_)
      refine lv_icmp_le (tgt := 17) hx hb dX0_decoded_12 (by decide) (fun c_4 => ?_) (fun c_4 => ?_)
      · skip
        have c_4' : a2.toInt ≤ z_3.toInt := jb_le (rfl) (rfl) c_4
        refine lv_aload_n hx hb dX0_decoded_17 rfl (lv_at hl 0 rfl) ?_
        refine lv_iload_n hx hb dX0_decoded_18 rfl (lv_at hl 1 rfl) ?_
        refine j7_bald hx hb hK hh hB100 0 rfl (by decide) hg_r0 (x := a1.toInt) (rfl) (by omega) dX0_decoded_19 (fun z_5 (hz_5 : True) => ?_)
        refine lv_sipush (v := 255) hx hb dX0_decoded_20 (by decide) ?_
        refine lv_iand hx hb dX0_decoded_23 ?_
        refine lv_topi (fun z_6 ez_6 => ?_)
        have hz_6 : 0 ≤ z_6.toInt ∧ z_6.toInt ≤ 255 := by rw [ez_6]; exact jb_and z_5 (m := 255) (k := 8) (by decide) (by decide)
        refine lv_istore_n (lv' := [(3, .int z_6), (0, .ref r0), (1, .int a1), (2, .int a2)]) hx hb dX0_decoded_24 rfl hl (by decide) rfl (fun ls hl => ?_)
        refine lv_iload_n hx hb dX0_decoded_25 rfl (lv_at hl 0 rfl) ?_
        refine lv_sipush (v := 128) hx hb dX0_decoded_26 (by decide) ?_
        refine lv_icmp_ge (tgt := 34) hx hb dX0_decoded_29 (by decide) (fun c_7 => ?_) (fun c_7 => ?_)
        · skip
          have c_7' : z_6.toInt ≥ 128 := jb_ge (rfl) ((by decide)) c_7
          refine lv_iload_n hx hb dX0_decoded_34 rfl (lv_at hl 0 rfl) ?_
          refine lv_sipush (v := 240) hx hb dX0_decoded_35 (by decide) ?_
          have C57 : ∀ (w0_8 : Int32) (H_8 : Heap) (locs_8 : List Loc), jSt (dC, dI) B base G0 G0 EX0_decoded s.heap 0 0 [] [] [] H_8 locs_8 → (1 ≤ w0_8.toInt ∧ w0_8.toInt ≤ 3) → ∀ ls : Array Slot, lv_has ls 8 [(0, .ref r0), (1, .int a1), (2, .int a2), (3, .int z_6)] → W p l e R s m ([.ref r0, .int a1, .int a2] : List Value).toArray below meth c H_8 locs_8 0 0 Q (F0 m 57 ls [.int w0_8]) := by
            intro w0_8 H_8 locs_8 hh_8  hi_8 ls hl
            obtain ⟨hi_8_0, hi_8_1⟩ := hi_8
            refine lv_istore (lv' := [(4, .int w0_8), (0, .ref r0), (1, .int a1), (2, .int a2), (3, .int z_6)]) hx hb dX0_decoded_57 hl (by decide) rfl (fun ls hl => ?_)
            refine lv_iload_n hx hb dX0_decoded_59 rfl (lv_at hl 4 rfl) ?_
            refine lv_sipush (v := 194) hx hb dX0_decoded_60 (by decide) ?_
            refine lv_icmp_lt (tgt := 81) hx hb dX0_decoded_63 (by decide) (fun c_9 => ?_) (fun c_9 => ?_)
            · skip
              have c_9' : z_6.toInt < 194 := jb_lt (rfl) ((by decide)) c_9
              refine lv_iconst (v := (-1)) hx hb dX0_decoded_81 (by decide) ?_
              rw [hQ]
              exact W.iret (v := (-1)) hx hb hr (fun t ht hW => ⟨⟨(-1), (), rfl, trivial, hh_8.rt (M1 := []) [] rfl ht⟩, by rw [ht]; try exact hh_8.1.1, fun q h9 hq => by rw [ht]; try exact hh_8.1.2.1 q h9 hq⟩) hh_8.1.2.2 dX0_decoded_82
            · skip
              have c_9' : z_6.toInt ≥ 194 := jb_lt_n (rfl) ((by decide)) c_9
              refine lv_iload_n hx hb dX0_decoded_66 rfl (lv_at hl 4 rfl) ?_
              refine lv_sipush (v := 244) hx hb dX0_decoded_67 (by decide) ?_
              refine lv_icmp_gt (tgt := 81) hx hb dX0_decoded_70 (by decide) (fun c_10 => ?_) (fun c_10 => ?_)
              · skip
                have c_10' : z_6.toInt > 244 := jb_gt (rfl) ((by decide)) c_10
                refine lv_iconst (v := (-1)) hx hb dX0_decoded_81 (by decide) ?_
                rw [hQ]
                exact W.iret (v := (-1)) hx hb hr (fun t ht hW => ⟨⟨(-1), (), rfl, trivial, hh_8.rt (M1 := []) [] rfl ht⟩, by rw [ht]; try exact hh_8.1.1, fun q h9 hq => by rw [ht]; try exact hh_8.1.2.1 q h9 hq⟩) hh_8.1.2.2 dX0_decoded_82
              · skip
                have c_10' : z_6.toInt ≤ 244 := jb_gt_n (rfl) ((by decide)) c_10
                refine lv_iload hx hb dX0_decoded_73 (lv_at hl 0 rfl) ?_
                refine lv_iload_n hx hb dX0_decoded_75 rfl (lv_at hl 3 rfl) ?_
                refine lv_iload_n hx hb dX0_decoded_76 rfl (lv_at hl 2 rfl) ?_
                refine lv_isub hx hb dX0_decoded_77 ?_
                refine lv_topi (fun z_11 ez_11 => ?_)
                have hz_11 : z_11.toInt = a2.toInt - a1.toInt := by rw [ez_11]; exact jb_isub2 (rfl) (rfl) (by omega)
                refine lv_icmp_lt (tgt := 83) hx hb dX0_decoded_78 (by decide) (fun c_12 => ?_) (fun c_12 => ?_)
                · skip
                  have c_12' : w0_8.toInt < z_11.toInt := jb_lt (rfl) (rfl) c_12
                  refine lv_iload_n hx hb dX0_decoded_83 rfl (lv_at hl 4 rfl) ?_
                  refine lv_bipush (v := 63) hx hb dX0_decoded_84 (by decide) ?_
                  refine lv_iload hx hb dX0_decoded_86 (lv_at hl 0 rfl) ?_
                  refine lv_ishr hx hb dX0_decoded_88 ?_
                  refine lv_topi (fun z_13 ez_13 => ?_)
                  refine lv_iand hx hb dX0_decoded_89 ?_
                  refine lv_topi (fun z_14 ez_14 => ?_)
                  refine lv_istore (lv' := [(5, .int z_14), (4, .int w0_8), (0, .ref r0), (1, .int a1), (2, .int a2), (3, .int z_6)]) hx hb dX0_decoded_90 hl (by decide) rfl (fun ls hl => ?_)
                  refine lv_iconst (v := 1) hx hb dX0_decoded_92 (by decide) ?_
                  refine lv_istore (lv' := [(6, .int 1), (5, .int z_14), (4, .int w0_8), (0, .ref r0), (1, .int a1), (2, .int a2), (3, .int z_6)]) hx hb dX0_decoded_93 hl (by decide) rfl (fun ls hl => ?_)
                  have L95 : ∀ (N : Nat) (v5_15 : Int32) (v6_15 : Int32) (H_15 : Heap) (locs_15 : List Loc), jSt (dC, dI) B base G0 G0 EX0_decoded s.heap 0 0 [] [] [] H_15 locs_15 → (1 ≤ v6_15.toInt ∧ v6_15.toInt ≤ w0_8.toInt + 1) → (w0_8.toInt + 1 - v6_15.toInt : Int) < N → ∀ ls : Array Slot, lv_has ls 8 [(0, .ref r0), (1, .int a1), (2, .int a2), (3, .int z_6), (4, .int w0_8), (5, .int v5_15), (6, .int v6_15)] → W p l e R s m ([.ref r0, .int a1, .int a2] : List Value).toArray below meth c H_15 locs_15 0 0 Q (F0 m 95 ls []) := by
                    intro N
                    induction N with
                    | zero => intro v5_15 v6_15 H_15 locs_15 hh_15  hi_15 hm; exact absurd hm (by omega)
                    | succ N L95 =>
                      intro v5_15 v6_15 H_15 locs_15 hh_15  hi_15 hm_15 ls hl
                      obtain ⟨hi_15_0, hi_15_1⟩ := hi_15
                      refine lv_iload hx hb dX0_decoded_95 (lv_at hl 6 rfl) ?_
                      refine lv_iload hx hb dX0_decoded_97 (lv_at hl 4 rfl) ?_
                      refine lv_icmp_gt (tgt := 147) hx hb dX0_decoded_99 (by decide) (fun c_16 => ?_) (fun c_16 => ?_)
                      · skip
                        have c_16' : v6_15.toInt > w0_8.toInt := jb_gt (rfl) (rfl) c_16
                        refine lv_iload hx hb dX0_decoded_147 (lv_at hl 4 rfl) ?_
                        refine lv_iconst (v := 2) hx hb dX0_decoded_149 (by decide) ?_
                        refine lv_icmp_ne (tgt := 161) hx hb dX0_decoded_150 (by decide) (fun c_17 => ?_) (fun c_17 => ?_)
                        · skip
                          have c_17' : w0_8.toInt ≠ 2 := jb_ne (rfl) ((by decide)) c_17
                          refine lv_iload hx hb dX0_decoded_161 (lv_at hl 4 rfl) ?_
                          refine lv_iconst (v := 3) hx hb dX0_decoded_163 (by decide) ?_
                          refine lv_icmp_ne (tgt := 178) hx hb dX0_decoded_164 (by decide) (fun c_18 => ?_) (fun c_18 => ?_)
                          · skip
                            have c_18' : w0_8.toInt ≠ 3 := jb_ne (rfl) ((by decide)) c_18
                            refine lv_iconst (v := 0) hx hb dX0_decoded_178 (by decide) ?_
                            refine lv_istore (lv' := [(6, .int 0), (0, .ref r0), (1, .int a1), (2, .int a2), (3, .int z_6), (4, .int w0_8), (5, .int v5_15)]) hx hb dX0_decoded_179 hl (by decide) rfl (fun ls hl => ?_)
                            refine lv_iload hx hb dX0_decoded_181 (lv_at hl 0 rfl) ?_
                            refine lv_if_ne (tgt := 207) hx hb dX0_decoded_183 (by decide) (fun c_19 => ?_) (fun c_19 => ?_)
                            · skip
                              exact absurd c_19 (by decide)
                            · skip
                              refine lv_iload hx hb dX0_decoded_186 (lv_at hl 6 rfl) ?_
                              refine lv_ldc hx hb hown hcs_74 dX0_decoded_188 ?_
                              refine lv_icmp_gt (tgt := 207) hx hb dX0_decoded_190 (by decide) (fun c_20 => ?_) (fun c_20 => ?_)
                              · skip
                                have c_20' : v5_15.toInt > 1114111 := jb_gt (rfl) ((by decide)) c_20
                                refine lv_iconst (v := (-1)) hx hb dX0_decoded_207 (by decide) ?_
                                refine lv_goto (tgt := 213) hx hb dX0_decoded_208 (by decide) ?_
                                rw [hQ]
                                exact W.iret (v := (-1)) hx hb hr (fun t ht hW => ⟨⟨(-1), (), rfl, trivial, hh_15.rt (M1 := []) [] rfl ht⟩, by rw [ht]; try exact hh_15.1.1, fun q h9 hq => by rw [ht]; try exact hh_15.1.2.1 q h9 hq⟩) hh_15.1.2.2 dX0_decoded_213
                              · skip
                                have c_20' : v5_15.toInt ≤ 1114111 := jb_gt_n (rfl) ((by decide)) c_20
                                refine lv_iload hx hb dX0_decoded_193 (lv_at hl 6 rfl) ?_
                                refine lv_ldc hx hb hown hcs_61 dX0_decoded_195 ?_
                                refine lv_icmp_lt (tgt := 211) hx hb dX0_decoded_197 (by decide) (fun c_21 => ?_) (fun c_21 => ?_)
                                · skip
                                  have c_21' : v5_15.toInt < 55296 := jb_lt (rfl) ((by decide)) c_21
                                  refine lv_iload hx hb dX0_decoded_211 (lv_at hl 6 rfl) ?_
                                  rw [hQ]
                                  exact W.iret (v := v5_15) hx hb hr (fun t ht hW => ⟨⟨v5_15, (), rfl, trivial, hh_15.rt (M1 := []) [] rfl ht⟩, by rw [ht]; try exact hh_15.1.1, fun q h9 hq => by rw [ht]; try exact hh_15.1.2.1 q h9 hq⟩) hh_15.1.2.2 dX0_decoded_213
                                · skip
                                  have c_21' : v5_15.toInt ≥ 55296 := jb_lt_n (rfl) ((by decide)) c_21
                                  refine lv_iload hx hb dX0_decoded_200 (lv_at hl 6 rfl) ?_
                                  refine lv_ldc hx hb hown hcs_73 dX0_decoded_202 ?_
                                  refine lv_icmp_ge (tgt := 211) hx hb dX0_decoded_204 (by decide) (fun c_22 => ?_) (fun c_22 => ?_)
                                  · skip
                                    have c_22' : v5_15.toInt ≥ 57344 := jb_ge (rfl) ((by decide)) c_22
                                    refine lv_iload hx hb dX0_decoded_211 (lv_at hl 6 rfl) ?_
                                    rw [hQ]
                                    exact W.iret (v := v5_15) hx hb hr (fun t ht hW => ⟨⟨v5_15, (), rfl, trivial, hh_15.rt (M1 := []) [] rfl ht⟩, by rw [ht]; try exact hh_15.1.1, fun q h9 hq => by rw [ht]; try exact hh_15.1.2.1 q h9 hq⟩) hh_15.1.2.2 dX0_decoded_213
                                  · skip
                                    have c_22' : v5_15.toInt < 57344 := jb_ge_n (rfl) ((by decide)) c_22
                                    refine lv_iconst (v := (-1)) hx hb dX0_decoded_207 (by decide) ?_
                                    refine lv_goto (tgt := 213) hx hb dX0_decoded_208 (by decide) ?_
                                    rw [hQ]
                                    exact W.iret (v := (-1)) hx hb hr (fun t ht hW => ⟨⟨(-1), (), rfl, trivial, hh_15.rt (M1 := []) [] rfl ht⟩, by rw [ht]; try exact hh_15.1.1, fun q h9 hq => by rw [ht]; try exact hh_15.1.2.1 q h9 hq⟩) hh_15.1.2.2 dX0_decoded_213
                          · skip
                            have c_18' : w0_8.toInt = 3 := jb_ne_n (rfl) ((by decide)) c_18
                            refine lv_iload hx hb dX0_decoded_167 (lv_at hl 5 rfl) ?_
                            refine lv_ldc hx hb hown hcs_60 dX0_decoded_169 ?_
                            refine lv_icmp_ge (tgt := 178) hx hb dX0_decoded_171 (by decide) (fun c_23 => ?_) (fun c_23 => ?_)
                            · skip
                              have c_23' : v5_15.toInt ≥ 65536 := jb_ge (rfl) ((by decide)) c_23
                              refine lv_iconst (v := 0) hx hb dX0_decoded_178 (by decide) ?_
                              refine lv_istore (lv' := [(6, .int 0), (0, .ref r0), (1, .int a1), (2, .int a2), (3, .int z_6), (4, .int w0_8), (5, .int v5_15)]) hx hb dX0_decoded_179 hl (by decide) rfl (fun ls hl => ?_)
                              refine lv_iload hx hb dX0_decoded_181 (lv_at hl 0 rfl) ?_
                              refine lv_if_ne (tgt := 207) hx hb dX0_decoded_183 (by decide) (fun c_24 => ?_) (fun c_24 => ?_)
                              · skip
                                exact absurd c_24 (by decide)
                              · skip
                                refine lv_iload hx hb dX0_decoded_186 (lv_at hl 6 rfl) ?_
                                refine lv_ldc hx hb hown hcs_74 dX0_decoded_188 ?_
                                refine lv_icmp_gt (tgt := 207) hx hb dX0_decoded_190 (by decide) (fun c_25 => ?_) (fun c_25 => ?_)
                                · skip
                                  have c_25' : v5_15.toInt > 1114111 := jb_gt (rfl) ((by decide)) c_25
                                  refine lv_iconst (v := (-1)) hx hb dX0_decoded_207 (by decide) ?_
                                  refine lv_goto (tgt := 213) hx hb dX0_decoded_208 (by decide) ?_
                                  rw [hQ]
                                  exact W.iret (v := (-1)) hx hb hr (fun t ht hW => ⟨⟨(-1), (), rfl, trivial, hh_15.rt (M1 := []) [] rfl ht⟩, by rw [ht]; try exact hh_15.1.1, fun q h9 hq => by rw [ht]; try exact hh_15.1.2.1 q h9 hq⟩) hh_15.1.2.2 dX0_decoded_213
                                · skip
                                  have c_25' : v5_15.toInt ≤ 1114111 := jb_gt_n (rfl) ((by decide)) c_25
                                  refine lv_iload hx hb dX0_decoded_193 (lv_at hl 6 rfl) ?_
                                  refine lv_ldc hx hb hown hcs_61 dX0_decoded_195 ?_
                                  refine lv_icmp_lt (tgt := 211) hx hb dX0_decoded_197 (by decide) (fun c_26 => ?_) (fun c_26 => ?_)
                                  · skip
                                    have c_26' : v5_15.toInt < 55296 := jb_lt (rfl) ((by decide)) c_26
                                    refine lv_iload hx hb dX0_decoded_211 (lv_at hl 6 rfl) ?_
                                    rw [hQ]
                                    exact W.iret (v := v5_15) hx hb hr (fun t ht hW => ⟨⟨v5_15, (), rfl, trivial, hh_15.rt (M1 := []) [] rfl ht⟩, by rw [ht]; try exact hh_15.1.1, fun q h9 hq => by rw [ht]; try exact hh_15.1.2.1 q h9 hq⟩) hh_15.1.2.2 dX0_decoded_213
                                  · skip
                                    have c_26' : v5_15.toInt ≥ 55296 := jb_lt_n (rfl) ((by decide)) c_26
                                    refine lv_iload hx hb dX0_decoded_200 (lv_at hl 6 rfl) ?_
                                    refine lv_ldc hx hb hown hcs_73 dX0_decoded_202 ?_
                                    refine lv_icmp_ge (tgt := 211) hx hb dX0_decoded_204 (by decide) (fun c_27 => ?_) (fun c_27 => ?_)
                                    · skip
                                      have c_27' : v5_15.toInt ≥ 57344 := jb_ge (rfl) ((by decide)) c_27
                                      refine lv_iload hx hb dX0_decoded_211 (lv_at hl 6 rfl) ?_
                                      rw [hQ]
                                      exact W.iret (v := v5_15) hx hb hr (fun t ht hW => ⟨⟨v5_15, (), rfl, trivial, hh_15.rt (M1 := []) [] rfl ht⟩, by rw [ht]; try exact hh_15.1.1, fun q h9 hq => by rw [ht]; try exact hh_15.1.2.1 q h9 hq⟩) hh_15.1.2.2 dX0_decoded_213
                                    · skip
                                      have c_27' : v5_15.toInt < 57344 := jb_ge_n (rfl) ((by decide)) c_27
                                      refine lv_iconst (v := (-1)) hx hb dX0_decoded_207 (by decide) ?_
                                      refine lv_goto (tgt := 213) hx hb dX0_decoded_208 (by decide) ?_
                                      rw [hQ]
                                      exact W.iret (v := (-1)) hx hb hr (fun t ht hW => ⟨⟨(-1), (), rfl, trivial, hh_15.rt (M1 := []) [] rfl ht⟩, by rw [ht]; try exact hh_15.1.1, fun q h9 hq => by rw [ht]; try exact hh_15.1.2.1 q h9 hq⟩) hh_15.1.2.2 dX0_decoded_213
                            · skip
                              have c_23' : v5_15.toInt < 65536 := jb_ge_n (rfl) ((by decide)) c_23
                              refine lv_iconst (v := 1) hx hb dX0_decoded_174 (by decide) ?_
                              refine lv_goto (tgt := 179) hx hb dX0_decoded_175 (by decide) ?_
                              refine lv_istore (lv' := [(6, .int 1), (0, .ref r0), (1, .int a1), (2, .int a2), (3, .int z_6), (4, .int w0_8), (5, .int v5_15)]) hx hb dX0_decoded_179 hl (by decide) rfl (fun ls hl => ?_)
                              refine lv_iload hx hb dX0_decoded_181 (lv_at hl 0 rfl) ?_
                              refine lv_if_ne (tgt := 207) hx hb dX0_decoded_183 (by decide) (fun c_28 => ?_) (fun c_28 => ?_)
                              · skip
                                refine lv_iconst (v := (-1)) hx hb dX0_decoded_207 (by decide) ?_
                                refine lv_goto (tgt := 213) hx hb dX0_decoded_208 (by decide) ?_
                                rw [hQ]
                                exact W.iret (v := (-1)) hx hb hr (fun t ht hW => ⟨⟨(-1), (), rfl, trivial, hh_15.rt (M1 := []) [] rfl ht⟩, by rw [ht]; try exact hh_15.1.1, fun q h9 hq => by rw [ht]; try exact hh_15.1.2.1 q h9 hq⟩) hh_15.1.2.2 dX0_decoded_213
                              · skip
                                exact absurd c_28 (by decide)
                        · skip
                          have c_17' : w0_8.toInt = 2 := jb_ne_n (rfl) ((by decide)) c_17
                          refine lv_iload hx hb dX0_decoded_153 (lv_at hl 5 rfl) ?_
                          refine lv_sipush (v := 2048) hx hb dX0_decoded_155 (by decide) ?_
                          refine lv_icmp_lt (tgt := 174) hx hb dX0_decoded_158 (by decide) (fun c_29 => ?_) (fun c_29 => ?_)
                          · skip
                            have c_29' : v5_15.toInt < 2048 := jb_lt (rfl) ((by decide)) c_29
                            refine lv_iconst (v := 1) hx hb dX0_decoded_174 (by decide) ?_
                            refine lv_goto (tgt := 179) hx hb dX0_decoded_175 (by decide) ?_
                            refine lv_istore (lv' := [(6, .int 1), (0, .ref r0), (1, .int a1), (2, .int a2), (3, .int z_6), (4, .int w0_8), (5, .int v5_15)]) hx hb dX0_decoded_179 hl (by decide) rfl (fun ls hl => ?_)
                            refine lv_iload hx hb dX0_decoded_181 (lv_at hl 0 rfl) ?_
                            refine lv_if_ne (tgt := 207) hx hb dX0_decoded_183 (by decide) (fun c_30 => ?_) (fun c_30 => ?_)
                            · skip
                              refine lv_iconst (v := (-1)) hx hb dX0_decoded_207 (by decide) ?_
                              refine lv_goto (tgt := 213) hx hb dX0_decoded_208 (by decide) ?_
                              rw [hQ]
                              exact W.iret (v := (-1)) hx hb hr (fun t ht hW => ⟨⟨(-1), (), rfl, trivial, hh_15.rt (M1 := []) [] rfl ht⟩, by rw [ht]; try exact hh_15.1.1, fun q h9 hq => by rw [ht]; try exact hh_15.1.2.1 q h9 hq⟩) hh_15.1.2.2 dX0_decoded_213
                            · skip
                              exact absurd c_30 (by decide)
                          · skip
                            have c_29' : v5_15.toInt ≥ 2048 := jb_lt_n (rfl) ((by decide)) c_29
                            refine lv_iload hx hb dX0_decoded_161 (lv_at hl 4 rfl) ?_
                            refine lv_iconst (v := 3) hx hb dX0_decoded_163 (by decide) ?_
                            refine lv_icmp_ne (tgt := 178) hx hb dX0_decoded_164 (by decide) (fun c_31 => ?_) (fun c_31 => ?_)
                            · skip
                              have c_31' : w0_8.toInt ≠ 3 := jb_ne (rfl) ((by decide)) c_31
                              refine lv_iconst (v := 0) hx hb dX0_decoded_178 (by decide) ?_
                              refine lv_istore (lv' := [(6, .int 0), (0, .ref r0), (1, .int a1), (2, .int a2), (3, .int z_6), (4, .int w0_8), (5, .int v5_15)]) hx hb dX0_decoded_179 hl (by decide) rfl (fun ls hl => ?_)
                              refine lv_iload hx hb dX0_decoded_181 (lv_at hl 0 rfl) ?_
                              refine lv_if_ne (tgt := 207) hx hb dX0_decoded_183 (by decide) (fun c_32 => ?_) (fun c_32 => ?_)
                              · skip
                                exact absurd c_32 (by decide)
                              · skip
                                refine lv_iload hx hb dX0_decoded_186 (lv_at hl 6 rfl) ?_
                                refine lv_ldc hx hb hown hcs_74 dX0_decoded_188 ?_
                                refine lv_icmp_gt (tgt := 207) hx hb dX0_decoded_190 (by decide) (fun c_33 => ?_) (fun c_33 => ?_)
                                · skip
                                  have c_33' : v5_15.toInt > 1114111 := jb_gt (rfl) ((by decide)) c_33
                                  refine lv_iconst (v := (-1)) hx hb dX0_decoded_207 (by decide) ?_
                                  refine lv_goto (tgt := 213) hx hb dX0_decoded_208 (by decide) ?_
                                  rw [hQ]
                                  exact W.iret (v := (-1)) hx hb hr (fun t ht hW => ⟨⟨(-1), (), rfl, trivial, hh_15.rt (M1 := []) [] rfl ht⟩, by rw [ht]; try exact hh_15.1.1, fun q h9 hq => by rw [ht]; try exact hh_15.1.2.1 q h9 hq⟩) hh_15.1.2.2 dX0_decoded_213
                                · skip
                                  have c_33' : v5_15.toInt ≤ 1114111 := jb_gt_n (rfl) ((by decide)) c_33
                                  refine lv_iload hx hb dX0_decoded_193 (lv_at hl 6 rfl) ?_
                                  refine lv_ldc hx hb hown hcs_61 dX0_decoded_195 ?_
                                  refine lv_icmp_lt (tgt := 211) hx hb dX0_decoded_197 (by decide) (fun c_34 => ?_) (fun c_34 => ?_)
                                  · skip
                                    have c_34' : v5_15.toInt < 55296 := jb_lt (rfl) ((by decide)) c_34
                                    refine lv_iload hx hb dX0_decoded_211 (lv_at hl 6 rfl) ?_
                                    rw [hQ]
                                    exact W.iret (v := v5_15) hx hb hr (fun t ht hW => ⟨⟨v5_15, (), rfl, trivial, hh_15.rt (M1 := []) [] rfl ht⟩, by rw [ht]; try exact hh_15.1.1, fun q h9 hq => by rw [ht]; try exact hh_15.1.2.1 q h9 hq⟩) hh_15.1.2.2 dX0_decoded_213
                                  · skip
                                    have c_34' : v5_15.toInt ≥ 55296 := jb_lt_n (rfl) ((by decide)) c_34
                                    refine lv_iload hx hb dX0_decoded_200 (lv_at hl 6 rfl) ?_
                                    refine lv_ldc hx hb hown hcs_73 dX0_decoded_202 ?_
                                    refine lv_icmp_ge (tgt := 211) hx hb dX0_decoded_204 (by decide) (fun c_35 => ?_) (fun c_35 => ?_)
                                    · skip
                                      have c_35' : v5_15.toInt ≥ 57344 := jb_ge (rfl) ((by decide)) c_35
                                      refine lv_iload hx hb dX0_decoded_211 (lv_at hl 6 rfl) ?_
                                      rw [hQ]
                                      exact W.iret (v := v5_15) hx hb hr (fun t ht hW => ⟨⟨v5_15, (), rfl, trivial, hh_15.rt (M1 := []) [] rfl ht⟩, by rw [ht]; try exact hh_15.1.1, fun q h9 hq => by rw [ht]; try exact hh_15.1.2.1 q h9 hq⟩) hh_15.1.2.2 dX0_decoded_213
                                    · skip
                                      have c_35' : v5_15.toInt < 57344 := jb_ge_n (rfl) ((by decide)) c_35
                                      refine lv_iconst (v := (-1)) hx hb dX0_decoded_207 (by decide) ?_
                                      refine lv_goto (tgt := 213) hx hb dX0_decoded_208 (by decide) ?_
                                      rw [hQ]
                                      exact W.iret (v := (-1)) hx hb hr (fun t ht hW => ⟨⟨(-1), (), rfl, trivial, hh_15.rt (M1 := []) [] rfl ht⟩, by rw [ht]; try exact hh_15.1.1, fun q h9 hq => by rw [ht]; try exact hh_15.1.2.1 q h9 hq⟩) hh_15.1.2.2 dX0_decoded_213
                            · skip
                              have c_31' : w0_8.toInt = 3 := jb_ne_n (rfl) ((by decide)) c_31
                              refine lv_iload hx hb dX0_decoded_167 (lv_at hl 5 rfl) ?_
                              refine lv_ldc hx hb hown hcs_60 dX0_decoded_169 ?_
                              refine lv_icmp_ge (tgt := 178) hx hb dX0_decoded_171 (by decide) (fun c_36 => ?_) (fun c_36 => ?_)
                              · skip
                                have c_36' : v5_15.toInt ≥ 65536 := jb_ge (rfl) ((by decide)) c_36
                                refine lv_iconst (v := 0) hx hb dX0_decoded_178 (by decide) ?_
                                refine lv_istore (lv' := [(6, .int 0), (0, .ref r0), (1, .int a1), (2, .int a2), (3, .int z_6), (4, .int w0_8), (5, .int v5_15)]) hx hb dX0_decoded_179 hl (by decide) rfl (fun ls hl => ?_)
                                refine lv_iload hx hb dX0_decoded_181 (lv_at hl 0 rfl) ?_
                                refine lv_if_ne (tgt := 207) hx hb dX0_decoded_183 (by decide) (fun c_37 => ?_) (fun c_37 => ?_)
                                · skip
                                  exact absurd c_37 (by decide)
                                · skip
                                  refine lv_iload hx hb dX0_decoded_186 (lv_at hl 6 rfl) ?_
                                  refine lv_ldc hx hb hown hcs_74 dX0_decoded_188 ?_
                                  refine lv_icmp_gt (tgt := 207) hx hb dX0_decoded_190 (by decide) (fun c_38 => ?_) (fun c_38 => ?_)
                                  · skip
                                    have c_38' : v5_15.toInt > 1114111 := jb_gt (rfl) ((by decide)) c_38
                                    refine lv_iconst (v := (-1)) hx hb dX0_decoded_207 (by decide) ?_
                                    refine lv_goto (tgt := 213) hx hb dX0_decoded_208 (by decide) ?_
                                    rw [hQ]
                                    exact W.iret (v := (-1)) hx hb hr (fun t ht hW => ⟨⟨(-1), (), rfl, trivial, hh_15.rt (M1 := []) [] rfl ht⟩, by rw [ht]; try exact hh_15.1.1, fun q h9 hq => by rw [ht]; try exact hh_15.1.2.1 q h9 hq⟩) hh_15.1.2.2 dX0_decoded_213
                                  · skip
                                    have c_38' : v5_15.toInt ≤ 1114111 := jb_gt_n (rfl) ((by decide)) c_38
                                    refine lv_iload hx hb dX0_decoded_193 (lv_at hl 6 rfl) ?_
                                    refine lv_ldc hx hb hown hcs_61 dX0_decoded_195 ?_
                                    refine lv_icmp_lt (tgt := 211) hx hb dX0_decoded_197 (by decide) (fun c_39 => ?_) (fun c_39 => ?_)
                                    · skip
                                      have c_39' : v5_15.toInt < 55296 := jb_lt (rfl) ((by decide)) c_39
                                      refine lv_iload hx hb dX0_decoded_211 (lv_at hl 6 rfl) ?_
                                      rw [hQ]
                                      exact W.iret (v := v5_15) hx hb hr (fun t ht hW => ⟨⟨v5_15, (), rfl, trivial, hh_15.rt (M1 := []) [] rfl ht⟩, by rw [ht]; try exact hh_15.1.1, fun q h9 hq => by rw [ht]; try exact hh_15.1.2.1 q h9 hq⟩) hh_15.1.2.2 dX0_decoded_213
                                    · skip
                                      have c_39' : v5_15.toInt ≥ 55296 := jb_lt_n (rfl) ((by decide)) c_39
                                      refine lv_iload hx hb dX0_decoded_200 (lv_at hl 6 rfl) ?_
                                      refine lv_ldc hx hb hown hcs_73 dX0_decoded_202 ?_
                                      refine lv_icmp_ge (tgt := 211) hx hb dX0_decoded_204 (by decide) (fun c_40 => ?_) (fun c_40 => ?_)
                                      · skip
                                        have c_40' : v5_15.toInt ≥ 57344 := jb_ge (rfl) ((by decide)) c_40
                                        refine lv_iload hx hb dX0_decoded_211 (lv_at hl 6 rfl) ?_
                                        rw [hQ]
                                        exact W.iret (v := v5_15) hx hb hr (fun t ht hW => ⟨⟨v5_15, (), rfl, trivial, hh_15.rt (M1 := []) [] rfl ht⟩, by rw [ht]; try exact hh_15.1.1, fun q h9 hq => by rw [ht]; try exact hh_15.1.2.1 q h9 hq⟩) hh_15.1.2.2 dX0_decoded_213
                                      · skip
                                        have c_40' : v5_15.toInt < 57344 := jb_ge_n (rfl) ((by decide)) c_40
                                        refine lv_iconst (v := (-1)) hx hb dX0_decoded_207 (by decide) ?_
                                        refine lv_goto (tgt := 213) hx hb dX0_decoded_208 (by decide) ?_
                                        rw [hQ]
                                        exact W.iret (v := (-1)) hx hb hr (fun t ht hW => ⟨⟨(-1), (), rfl, trivial, hh_15.rt (M1 := []) [] rfl ht⟩, by rw [ht]; try exact hh_15.1.1, fun q h9 hq => by rw [ht]; try exact hh_15.1.2.1 q h9 hq⟩) hh_15.1.2.2 dX0_decoded_213
                              · skip
                                have c_36' : v5_15.toInt < 65536 := jb_ge_n (rfl) ((by decide)) c_36
                                refine lv_iconst (v := 1) hx hb dX0_decoded_174 (by decide) ?_
                                refine lv_goto (tgt := 179) hx hb dX0_decoded_175 (by decide) ?_
                                refine lv_istore (lv' := [(6, .int 1), (0, .ref r0), (1, .int a1), (2, .int a2), (3, .int z_6), (4, .int w0_8), (5, .int v5_15)]) hx hb dX0_decoded_179 hl (by decide) rfl (fun ls hl => ?_)
                                refine lv_iload hx hb dX0_decoded_181 (lv_at hl 0 rfl) ?_
                                refine lv_if_ne (tgt := 207) hx hb dX0_decoded_183 (by decide) (fun c_41 => ?_) (fun c_41 => ?_)
                                · skip
                                  refine lv_iconst (v := (-1)) hx hb dX0_decoded_207 (by decide) ?_
                                  refine lv_goto (tgt := 213) hx hb dX0_decoded_208 (by decide) ?_
                                  rw [hQ]
                                  exact W.iret (v := (-1)) hx hb hr (fun t ht hW => ⟨⟨(-1), (), rfl, trivial, hh_15.rt (M1 := []) [] rfl ht⟩, by rw [ht]; try exact hh_15.1.1, fun q h9 hq => by rw [ht]; try exact hh_15.1.2.1 q h9 hq⟩) hh_15.1.2.2 dX0_decoded_213
                                · skip
                                  exact absurd c_41 (by decide)
                      · skip
                        have c_16' : v6_15.toInt ≤ w0_8.toInt := jb_gt_n (rfl) (rfl) c_16
                        refine lv_aload_n hx hb dX0_decoded_102 rfl (lv_at hl 0 rfl) ?_
                        refine lv_iload_n hx hb dX0_decoded_103 rfl (lv_at hl 1 rfl) ?_
                        refine lv_iload hx hb dX0_decoded_104 (lv_at hl 6 rfl) ?_
                        refine lv_iadd hx hb dX0_decoded_106 ?_
                        refine lv_topi (fun z_42 ez_42 => ?_)
                        have hz_42 : z_42.toInt = a1.toInt + v6_15.toInt := by rw [ez_42]; exact jb_iadd2 (rfl) (rfl) (by omega)
                        refine j7_bald hx hb hK hh_15 hB100 0 rfl (by decide) hg_r0 (x := z_42.toInt) (rfl) (by omega) dX0_decoded_107 (fun z_43 (hz_43 : True) => ?_)
                        refine lv_sipush (v := 255) hx hb dX0_decoded_108 (by decide) ?_
                        refine lv_iand hx hb dX0_decoded_111 ?_
                        refine lv_topi (fun z_44 ez_44 => ?_)
                        have hz_44 : 0 ≤ z_44.toInt ∧ z_44.toInt ≤ 255 := by rw [ez_44]; exact jb_and z_43 (m := 255) (k := 8) (by decide) (by decide)
                        refine lv_istore (lv' := [(7, .int z_44), (0, .ref r0), (1, .int a1), (2, .int a2), (3, .int z_6), (4, .int w0_8), (5, .int v5_15), (6, .int v6_15)]) hx hb dX0_decoded_112 hl (by decide) rfl (fun ls hl => ?_)
                        refine lv_iload hx hb dX0_decoded_114 (lv_at hl 0 rfl) ?_
                        refine lv_sipush (v := 192) hx hb dX0_decoded_116 (by decide) ?_
                        refine lv_iand hx hb dX0_decoded_119 ?_
                        refine lv_topi (fun z_45 ez_45 => ?_)
                        refine lv_sipush (v := 128) hx hb dX0_decoded_120 (by decide) ?_
                        refine lv_icmp_eq (tgt := 128) hx hb dX0_decoded_123 (by decide) (fun c_46 => ?_) (fun c_46 => ?_)
                        · skip
                          have c_46' : z_45.toInt = 128 := jb_eq (rfl) ((by decide)) c_46
                          refine lv_iload hx hb dX0_decoded_128 (lv_at hl 6 rfl) ?_
                          refine lv_bipush (v := 6) hx hb dX0_decoded_130 (by decide) ?_
                          refine lv_ishl hx hb dX0_decoded_132 ?_
                          refine lv_topi (fun z_47 ez_47 => ?_)
                          refine lv_iload hx hb dX0_decoded_133 (lv_at hl 0 rfl) ?_
                          refine lv_bipush (v := 63) hx hb dX0_decoded_135 (by decide) ?_
                          refine lv_iand hx hb dX0_decoded_137 ?_
                          refine lv_topi (fun z_48 ez_48 => ?_)
                          have hz_48 : 0 ≤ z_48.toInt ∧ z_48.toInt ≤ 63 := by rw [ez_48]; exact jb_and z_44 (m := 63) (k := 6) (by decide) (by decide)
                          refine lv_ior hx hb dX0_decoded_138 ?_
                          refine lv_topi (fun z_49 ez_49 => ?_)
                          refine lv_istore (lv' := [(5, .int z_49), (7, .int z_44), (0, .ref r0), (1, .int a1), (2, .int a2), (3, .int z_6), (4, .int w0_8), (6, .int v6_15)]) hx hb dX0_decoded_139 hl (by decide) rfl (fun ls hl => ?_)
                          obtain ⟨z_50, ez_50⟩ : ∃ y : Int32, y = v6_15 + 1 := ⟨_, rfl⟩
                          refine lv_iinc (v := z_50) (lv' := [(6, .int z_50), (5, .int z_49), (7, .int z_44), (0, .ref r0), (1, .int a1), (2, .int a2), (3, .int z_6), (4, .int w0_8)]) hx hb dX0_decoded_141 hl (k := 7) rfl (by rw [ez_50]; rfl) (by decide) rfl (fun ls hl => ?_)
                          have hz_50 : z_50.toInt = v6_15.toInt + 1 := by rw [ez_50]; exact jb_iadd2 (rfl) (by decide) (by omega)
                          refine lv_goto (tgt := 95) hx hb dX0_decoded_144 (by decide) ?_
                          exact L95 z_49 z_50 _ _ hh_15 (by first | omega | (refine ⟨?_, ?_⟩ <;> (first | omega | rfl | assumption | decide | exact Or.inl rfl | exact Or.inr rfl | (simp only; omega)))) (by omega) _ (lv_sub hl [3, 4, 5, 6, 7, 1, 0] rfl)
                        · skip
                          have c_46' : z_45.toInt ≠ 128 := jb_eq_n (rfl) ((by decide)) c_46
                          refine lv_iconst (v := (-1)) hx hb dX0_decoded_126 (by decide) ?_
                          rw [hQ]
                          exact W.iret (v := (-1)) hx hb hr (fun t ht hW => ⟨⟨(-1), (), rfl, trivial, hh_15.rt (M1 := []) [] rfl ht⟩, by rw [ht]; try exact hh_15.1.1, fun q h9 hq => by rw [ht]; try exact hh_15.1.2.1 q h9 hq⟩) hh_15.1.2.2 dX0_decoded_127
                  exact L95 (w0_8.toInt + 1 - (1 : Int32).toInt : Int).toNat.succ z_14 1 _ _ hh_8 (by first | omega | (refine ⟨?_, ?_⟩ <;> (first | omega | rfl | assumption | decide | exact Or.inl rfl | exact Or.inr rfl | (simp only; omega)))) (by omega) _ (lv_sub hl [3, 4, 5, 6, 2, 1, 0] rfl)
                · skip
                  have c_12' : w0_8.toInt ≥ z_11.toInt := jb_lt_n (rfl) (rfl) c_12
                  refine lv_iconst (v := (-1)) hx hb dX0_decoded_81 (by decide) ?_
                  rw [hQ]
                  exact W.iret (v := (-1)) hx hb hr (fun t ht hW => ⟨⟨(-1), (), rfl, trivial, hh_8.rt (M1 := []) [] rfl ht⟩, by rw [ht]; try exact hh_8.1.1, fun q h9 hq => by rw [ht]; try exact hh_8.1.2.1 q h9 hq⟩) hh_8.1.2.2 dX0_decoded_82
          refine lv_icmp_lt (tgt := 45) hx hb dX0_decoded_38 (by decide) (fun c_51 => ?_) (fun c_51 => ?_)
          · skip
            have c_51' : z_6.toInt < 240 := jb_lt (rfl) ((by decide)) c_51
            refine lv_iload_n hx hb dX0_decoded_45 rfl (lv_at hl 0 rfl) ?_
            refine lv_sipush (v := 224) hx hb dX0_decoded_46 (by decide) ?_
            refine lv_icmp_lt (tgt := 56) hx hb dX0_decoded_49 (by decide) (fun c_52 => ?_) (fun c_52 => ?_)
            · skip
              have c_52' : z_6.toInt < 224 := jb_lt (rfl) ((by decide)) c_52
              refine lv_iconst (v := 1) hx hb dX0_decoded_56 (by decide) ?_
              exact C57 1 _ _ hh (by first | omega | (refine ⟨?_, ?_⟩ <;> (first | omega | rfl | assumption | decide | exact Or.inl rfl | exact Or.inr rfl | (simp only; omega)))) _ (lv_sub hl [1, 2, 3, 0] rfl)
            · skip
              have c_52' : z_6.toInt ≥ 224 := jb_lt_n (rfl) ((by decide)) c_52
              refine lv_iconst (v := 2) hx hb dX0_decoded_52 (by decide) ?_
              refine lv_goto (tgt := 57) hx hb dX0_decoded_53 (by decide) ?_
              exact C57 2 _ _ hh (by first | omega | (refine ⟨?_, ?_⟩ <;> (first | omega | rfl | assumption | decide | exact Or.inl rfl | exact Or.inr rfl | (simp only; omega)))) _ (lv_sub hl [1, 2, 3, 0] rfl)
          · skip
            have c_51' : z_6.toInt ≥ 240 := jb_lt_n (rfl) ((by decide)) c_51
            refine lv_iconst (v := 3) hx hb dX0_decoded_41 (by decide) ?_
            refine lv_goto (tgt := 57) hx hb dX0_decoded_42 (by decide) ?_
            exact C57 3 _ _ hh (by first | omega | (refine ⟨?_, ?_⟩ <;> (first | omega | rfl | assumption | decide | exact Or.inl rfl | exact Or.inr rfl | (simp only; omega)))) _ (lv_sub hl [1, 2, 3, 0] rfl)
        · skip
          have c_7' : z_6.toInt < 128 := jb_ge_n (rfl) ((by decide)) c_7
          refine lv_iload_n hx hb dX0_decoded_32 rfl (lv_at hl 0 rfl) ?_
          rw [hQ]
          exact W.iret (v := z_6) hx hb hr (fun t ht hW => ⟨⟨z_6, (), rfl, trivial, hh.rt (M1 := []) [] rfl ht⟩, by rw [ht]; try exact hh.1.1, fun q h9 hq => by rw [ht]; try exact hh.1.2.1 q h9 hq⟩) hh.1.2.2 dX0_decoded_33
      · skip
        have c_4' : a2.toInt > z_3.toInt := jb_le_n (rfl) (rfl) c_4
        refine lv_iconst (v := (-1)) hx hb dX0_decoded_15 (by decide) ?_
        rw [hQ]
        exact W.iret (v := (-1)) hx hb hr (fun t ht hW => ⟨⟨(-1), (), rfl, trivial, hh.rt (M1 := []) [] rfl ht⟩, by rw [ht]; try exact hh.1.1, fun q h9 hq => by rw [ht]; try exact hh.1.2.1 q h9 hq⟩) hh.1.2.2 dX0_decoded_16
set_option maxHeartbeats 4000000 in
set_option maxRecDepth 20000 in
theorem uX4_peek (l : Launch) (dC : Nat → ClassId) (dI : Nat → Nat → Nat) (ca : Nat → ClassId) (base : Nat) (B : jF) (hB : jBok B) (hAp : jAp (dC, dI)) (hB6 : ∀ n G a H, B 6 n G a H ↔ jOb (dC, dI) 6 12 (F6 n G) a H) (hB100 : ∀ n G a H, B 100 n G a H ↔ jAr (dC, dI) (ca 0) (fun j z => True) n a H) (G0 : jT) (H0 : Heap) (r0 : Nat) (rb : Nat) (n_rb : Nat) (pe : Int32) (pt : Int32) : Met l yX4_peek (jw yX4_peek cX4_peek 1 (some .int)) ({ frames := 0, cells := 0, slots := 0, locals := 0 }) (va_Pc [.ref r0] (fun U => U.heap = H0 ∧ jX B base G0 [] H0 ∧ jG dC dI ca base U ∧ G0 r0 = some (6, 0) ∧ G0 rb = some (100, n_rb) ∧ jP (dC, dI) G0 H0 [(r0, 6, 9, .ref rb), (r0, 6, 10, .int pe), (r0, 6, 11, .int pt)] ∧ 0 ≤ pe.toInt ∧ pe.toInt ≤ n_rb ∧ n_rb ≤ 3000 ∧ 0 ≤ pt.toInt ∧ pt.toInt ≤ 19000)) (va_Qi (S := Unit) (fun r u => (-1 ≤ r.toInt ∧ r.toInt ≤ 255 ∧ (r.toInt = -1 ∨ pt.toInt < pe.toInt))) (fun u t => jRt (dC, dI) B base G0 EX4_peek H0 [] t.heap) (jA base)) 0 0 (jA base) := by
  refine Met.ofW (cc := cX4_peek) (maxL := 1) (ret := (some .int)) (by decide) rfl ?_
  intro p e s m args below meth c s₁ Bd hml hv
  obtain ⟨rfl, hH0, hX, hG, hg_r0, hg_rb, hP0, hp0, hp1, hp2, hp3, hp4⟩ := hv
  have hK := hG.1
  have hx := Bd.exec
  have hb := Bd.bytes
  have hr := Bd.returns
  have hts := atoms_spec (ws := (jw yX4_peek cX4_peek 1 (some .int))) Bd.pre
  have htw : ∀ w ∈ jWl, w.before _ s = true := fun w h => hts w (List.mem_cons_of_mem _ h)
  have hown : s.vm.findClass RX4 = some m.cls := findClass_of_methodNamed Bd.named
  have hlocks := Bd.notSynchronized
  obtain ⟨Q, hQ⟩ : ∃ Q, Q = MQ below (va_Qi (S := Unit) (fun r u => (-1 ≤ r.toInt ∧ r.toInt ≤ 255 ∧ (r.toInt = -1 ∨ pt.toInt < pe.toInt))) (fun u t => jRt (dC, dI) B base G0 EX4_peek H0 [] t.heap) (jA base)) ([.ref r0] : List Value).toArray s 0 0 (jA base) := ⟨_, rfl⟩
  rw [← hQ]
  have hl := lv_entry ([.ref r0]) (n := 1) (Nat.le_of_ble_eq_true rfl)
  rw [lg_entry_eq]
  generalize (lg_sl ([.ref r0]) ++ List.replicate (1 - (lg_sl ([.ref r0])).length) Slot.unset).toArray = ls at hl ⊢
  have hl : lv_has ls 1 [(0, .ref r0)] := hl
  generalize hR : (headSpec (jw yX4_peek cX4_peek 1 (some .int)) ({ frames := 0, cells := 0, slots := 0, locals := 0 })).room = R
  subst hH0
  have hh : jSt (dC, dI) B base G0 G0 EX4_peek s.heap 0 0 [(r0, 6, 9, .ref rb), (r0, 6, 10, .int pe), (r0, 6, 11, .int pt)] [] [] s.heap [] := jSt.start hX hP0 jMc.nil jIs.nil
  clear hX hP0
  have hkm1 : ((-1) : Int32).toInt = (-1) := by decide
  have hk0 : (0 : Int32).toInt = 0 := by decide
  have hk1 : (1 : Int32).toInt = 1 := by decide
  have hk255 : (255 : Int32).toInt = 255 := by decide
  have hly_6_9 := htw (u_lay RX4 TX4 9) (jWc_wsX40 _ (u_in_lay (by decide)))
  have hly_6_10 := htw (u_lay RX4 TX4 10) (jWc_wsX40 _ (u_in_lay (by decide)))
  have hly_6_11 := htw (u_lay RX4 TX4 11) (jWc_wsX40 _ (u_in_lay (by decide)))
  have hlk_47 := (htw (.fieldLink RX4 47 "ProofServer$Json" "at" "I") (jWr_19 _ (List.mem_of_getElem? (i := 12) rfl)))
  have hlk_43 := (htw (.fieldLink RX4 43 "ProofServer$Json" "end" "I") (jWr_19 _ (List.mem_of_getElem? (i := 11) rfl)))
  have hlk_33 := (htw (.fieldLink RX4 33 "ProofServer$Json" "bytes" "[B") (jWr_4 _ (List.mem_of_getElem? (i := 4) rfl)))
  refine lv_aload_n hx hb dX4_peek_0 rfl (lv_at hl 0 rfl) ?_
  refine j7_read hx hb hown hK (C := RX4) (T := TX4) (N := 12) rfl hly_6_11 hlk_47 (hh.at 2 rfl) dX4_peek_1 ?_
  refine lv_if_lt (tgt := 34) hx hb dX4_peek_4 (by decide) (fun c_1 => ?_) (fun c_1 => ?_)
  · skip
    have c_1' : pt.toInt < 0 := jb_lt (rfl) ((by decide)) c_1
    refine lv_iconst (v := (-1)) hx hb dX4_peek_34 (by decide) ?_
    rw [hQ]
    exact W.iret (v := (-1)) hx hb hr (fun t ht hW => ⟨⟨(-1), (), rfl, by first | omega | (refine ⟨?_, ?_, ?_⟩ <;> (first | omega | rfl | assumption | decide | exact Or.inl rfl | exact Or.inr rfl | (simp only; omega))), hh.rt (M1 := []) [] rfl ht⟩, by rw [ht]; try exact hh.1.1, fun q h9 hq => by rw [ht]; try exact hh.1.2.1 q h9 hq⟩) hh.1.2.2 dX4_peek_35
  · skip
    have c_1' : pt.toInt ≥ 0 := jb_lt_n (rfl) ((by decide)) c_1
    refine lv_aload_n hx hb dX4_peek_7 rfl (lv_at hl 0 rfl) ?_
    refine j7_read hx hb hown hK (C := RX4) (T := TX4) (N := 12) rfl hly_6_11 hlk_47 (hh.at 2 rfl) dX4_peek_8 ?_
    refine lv_aload_n hx hb dX4_peek_11 rfl (lv_at hl 0 rfl) ?_
    refine j7_read hx hb hown hK (C := RX4) (T := TX4) (N := 12) rfl hly_6_10 hlk_43 (hh.at 1 rfl) dX4_peek_12 ?_
    refine lv_icmp_ge (tgt := 34) hx hb dX4_peek_15 (by decide) (fun c_2 => ?_) (fun c_2 => ?_)
    · skip
      have c_2' : pt.toInt ≥ pe.toInt := jb_ge (rfl) (rfl) c_2
      refine lv_iconst (v := (-1)) hx hb dX4_peek_34 (by decide) ?_
      rw [hQ]
      exact W.iret (v := (-1)) hx hb hr (fun t ht hW => ⟨⟨(-1), (), rfl, by first | omega | (refine ⟨?_, ?_, ?_⟩ <;> (first | omega | rfl | assumption | decide | exact Or.inl rfl | exact Or.inr rfl | (simp only; omega))), hh.rt (M1 := []) [] rfl ht⟩, by rw [ht]; try exact hh.1.1, fun q h9 hq => by rw [ht]; try exact hh.1.2.1 q h9 hq⟩) hh.1.2.2 dX4_peek_35
    · skip
      have c_2' : pt.toInt < pe.toInt := jb_ge_n (rfl) (rfl) c_2
      refine lv_aload_n hx hb dX4_peek_18 rfl (lv_at hl 0 rfl) ?_
      refine j7_read hx hb hown hK (C := RX4) (T := TX4) (N := 12) rfl hly_6_9 hlk_33 (hh.at 0 rfl) dX4_peek_19 ?_
      refine lv_aload_n hx hb dX4_peek_22 rfl (lv_at hl 0 rfl) ?_
      refine j7_read hx hb hown hK (C := RX4) (T := TX4) (N := 12) rfl hly_6_11 hlk_47 (hh.at 2 rfl) dX4_peek_23 ?_
      refine j7_bald hx hb hK hh hB100 0 rfl (by decide) hg_rb (x := pt.toInt) (rfl) (by omega) dX4_peek_26 (fun z_3 (hz_3 : True) => ?_)
      refine lv_sipush (v := 255) hx hb dX4_peek_27 (by decide) ?_
      refine lv_iand hx hb dX4_peek_30 ?_
      refine lv_topi (fun z_4 ez_4 => ?_)
      have hz_4 : 0 ≤ z_4.toInt ∧ z_4.toInt ≤ 255 := by rw [ez_4]; exact jb_and z_3 (m := 255) (k := 8) (by decide) (by decide)
      refine lv_goto (tgt := 35) hx hb dX4_peek_31 (by decide) ?_
      rw [hQ]
      exact W.iret (v := z_4) hx hb hr (fun t ht hW => ⟨⟨z_4, (), rfl, by first | omega | (refine ⟨?_, ?_, ?_⟩ <;> (first | omega | rfl | assumption | decide | exact Or.inl rfl | exact Or.inr rfl | (simp only; omega))), hh.rt (M1 := []) [] rfl ht⟩, by rw [ht]; try exact hh.1.1, fun q h9 hq => by rw [ht]; try exact hh.1.2.1 q h9 hq⟩) hh.1.2.2 dX4_peek_35
set_option maxHeartbeats 4000000 in
set_option maxRecDepth 20000 in
theorem uX4_skipBlanks (l : Launch) (dC : Nat → ClassId) (dI : Nat → Nat → Nat) (ca : Nat → ClassId) (base : Nat) (B : jF) (hB : jBok B) (hAp : jAp (dC, dI)) (hB6 : ∀ n G a H, B 6 n G a H ↔ jOb (dC, dI) 6 12 (F6 n G) a H) (hB100 : ∀ n G a H, B 100 n G a H ↔ jAr (dC, dI) (ca 0) (fun j z => True) n a H) (G0 : jT) (H0 : Heap) (r0 : Nat) (rb : Nat) (n_rb : Nat) (pe : Int32) (pt : Int32) (kb : Int) : Met l yX4_skipBlanks (jw yX4_skipBlanks cX4_skipBlanks 1 none) ({ frames := 1, cells := 0, slots := 0, locals := 20 }) (va_Pc [.ref r0] (fun U => U.heap = H0 ∧ jX B base G0 [] H0 ∧ jG dC dI ca base U ∧ G0 r0 = some (6, 0) ∧ G0 rb = some (100, n_rb) ∧ jP (dC, dI) G0 H0 [(r0, 6, 9, .ref rb), (r0, 6, 10, .int pe), (r0, 6, 11, .int pt)] ∧ 0 ≤ pe.toInt ∧ pe.toInt ≤ n_rb ∧ n_rb ≤ 3000 ∧ 0 ≤ pt.toInt ∧ pt.toInt ≤ 19000 ∧ pt.toInt ≤ kb ∧ pe.toInt ≤ kb ∧ kb ≤ 19000)) (va_Qv (S := Int32) (fun u => pt.toInt ≤ u.toInt ∧ u.toInt ≤ kb) (fun u t => jRt (dC, dI) B base G0 EX4_skipBlanks H0 [(r0, 6, 11, .int u)] t.heap) (jA base)) 0 0 (jA base) := by
  refine Met.ofW (cc := cX4_skipBlanks) (maxL := 1) (ret := none) (by decide) rfl ?_
  intro p e s m args below meth c s₁ Bd hml hv
  obtain ⟨rfl, hH0, hX, hG, hg_r0, hg_rb, hP0, hp0, hp1, hp2, hp3, hp4, hp5, hp6, hp7⟩ := hv
  have hK := hG.1
  have hx := Bd.exec
  have hb := Bd.bytes
  have hr := Bd.returns
  have hts := atoms_spec (ws := (jw yX4_skipBlanks cX4_skipBlanks 1 none)) Bd.pre
  have htw : ∀ w ∈ jWl, w.before _ s = true := fun w h => hts w (List.mem_cons_of_mem _ h)
  have hown : s.vm.findClass RX4 = some m.cls := findClass_of_methodNamed Bd.named
  have hlocks := Bd.notSynchronized
  obtain ⟨Q, hQ⟩ : ∃ Q, Q = MQ below (va_Qv (S := Int32) (fun u => pt.toInt ≤ u.toInt ∧ u.toInt ≤ kb) (fun u t => jRt (dC, dI) B base G0 EX4_skipBlanks H0 [(r0, 6, 11, .int u)] t.heap) (jA base)) ([.ref r0] : List Value).toArray s 0 0 (jA base) := ⟨_, rfl⟩
  rw [← hQ]
  have hl := lv_entry ([.ref r0]) (n := 1) (Nat.le_of_ble_eq_true rfl)
  rw [lg_entry_eq]
  generalize (lg_sl ([.ref r0]) ++ List.replicate (1 - (lg_sl ([.ref r0])).length) Slot.unset).toArray = ls at hl ⊢
  have hl : lv_has ls 1 [(0, .ref r0)] := hl
  generalize hR : (headSpec (jw yX4_skipBlanks cX4_skipBlanks 1 none) ({ frames := 1, cells := 0, slots := 0, locals := 20 })).room = R
  subst hH0
  have hh : jSt (dC, dI) B base G0 G0 EX4_skipBlanks s.heap 0 0 [(r0, 6, 9, .ref rb), (r0, 6, 10, .int pe), (r0, 6, 11, .int pt)] [] [] s.heap [] := jSt.start hX hP0 jMc.nil jIs.nil
  clear hX hP0
  have hk0 : (0 : Int32).toInt = 0 := by decide
  have hk1 : (1 : Int32).toInt = 1 := by decide
  have hly_6_10 := htw (u_lay RX4 TX4 10) (jWc_wsX40 _ (u_in_lay (by decide)))
  have hly_6_11 := htw (u_lay RX4 TX4 11) (jWc_wsX40 _ (u_in_lay (by decide)))
  have hlk_47 := (htw (.fieldLink RX4 47 "ProofServer$Json" "at" "I") (jWr_19 _ (List.mem_of_getElem? (i := 12) rfl)))
  have hlk_43 := (htw (.fieldLink RX4 43 "ProofServer$Json" "end" "I") (jWr_19 _ (List.mem_of_getElem? (i := 11) rfl)))
  have L0 : ∀ (N : Nat) (wt_1 : Int32) (H_1 : Heap) (locs_1 : List Loc), jSt (dC, dI) B base G0 G0 EX4_skipBlanks s.heap 0 0 [(r0, 6, 11, .int wt_1), (r0, 6, 9, .ref rb), (r0, 6, 10, .int pe)] [] [] H_1 locs_1 → (pt.toInt ≤ wt_1.toInt ∧ wt_1.toInt ≤ kb) → (((pe.toInt - wt_1.toInt).toNat : Int) : Int) < N → ∀ ls : Array Slot, lv_has ls 1 [(0, .ref r0)] → W p l e R s m ([.ref r0] : List Value).toArray below meth c H_1 locs_1 0 0 Q (F0 m 0 ls []) := by
    intro N
    induction N with
    | zero => intro wt_1 H_1 locs_1 hh_1  hi_1 hm; exact absurd hm (by omega)
    | succ N L0 =>
      intro wt_1 H_1 locs_1 hh_1  hi_1 hm_1 ls hl
      obtain ⟨hi_1_0, hi_1_1⟩ := hi_1
      refine lv_aload_n hx hb dX4_skipBlanks_0 rfl (lv_at hl 0 rfl) ?_
      refine j7_read hx hb hown hK (C := RX4) (T := TX4) (N := 12) rfl hly_6_11 hlk_47 (hh_1.at 0 rfl) dX4_skipBlanks_1 ?_
      refine lv_aload_n hx hb dX4_skipBlanks_4 rfl (lv_at hl 0 rfl) ?_
      refine j7_read hx hb hown hK (C := RX4) (T := TX4) (N := 12) rfl hly_6_10 hlk_43 (hh_1.at 2 rfl) dX4_skipBlanks_5 ?_
      refine lv_icmp_ge (tgt := 34) hx hb dX4_skipBlanks_8 (by decide) (fun c_2 => ?_) (fun c_2 => ?_)
      · skip
        have c_2' : wt_1.toInt ≥ pe.toInt := jb_ge (rfl) (rfl) c_2
        rw [hQ]
        exact W.vret hx hb hr (fun t ht hW => ⟨⟨wt_1, rfl, by first | omega | (refine ⟨?_, ?_⟩ <;> (first | omega | rfl | assumption | decide | exact Or.inl rfl | exact Or.inr rfl | (simp only; omega))), hh_1.rt (M1 := [(r0, 6, 11, .int wt_1)]) [0] rfl ht⟩, by rw [ht]; try exact hh_1.1.1, fun q h9 hq => by rw [ht]; try exact hh_1.1.2.1 q h9 hq⟩) hh_1.1.2.2 dX4_skipBlanks_34
      · skip
        have c_2' : wt_1.toInt < pe.toInt := jb_ge_n (rfl) (rfl) c_2
        refine lv_aload_n hx hb dX4_skipBlanks_11 rfl (lv_at hl 0 rfl) ?_
        refine va_calli (A0 := jA base) (H0 := s.heap) (va_runV (As := []) (rest := []) ⟨hx, hb, hml, hown, hts⟩ (uX4_peek l dC dI ca base B hB hAp hB6 hB100 G0 H_1 r0 rb n_rb pe wt_1) (cwV 0 hts (jgV (jWr_19 _ (List.mem_of_getElem? (i := 19) rfl)) (jWr_19 _ (List.mem_of_getElem? (i := 20) rfl)) (jWr_19 _ (List.mem_of_getElem? (i := 21) rfl)) (jWr_1 _ (List.mem_of_getElem? (i := 22) rfl)) (jWr_19 _ (List.mem_of_getElem? (i := 22) rfl))) rfl rfl rfl (by decide +kernel) ⟨by rw [← hR]; exact Nat.le_of_ble_eq_true rfl, by rw [← hR]; exact Nat.le_of_ble_eq_true rfl⟩) ⟨fun a U g mk q => by obtain ⟨q0, q1, q2, qK, q10, q11, q12, q13⟩ := q; exact ⟨q0, q1, q2, jG.calling g mk a qK, q10, q11, q12, q13⟩, hh_1.recv (C := RX4) (T := TX4) (N := 12) hB6 rfl (by decide) hg_r0 hK, fun U hU hW => ⟨rfl, hU, hh_1.2.1, hG.step hW hU hh_1.1, hg_r0, hg_rb, (hh_1.2.2.1.sub (L1 := [(r0, 6, 9, .ref rb), (r0, 6, 10, .int pe), (r0, 6, 11, .int wt_1)]) [1, 2, 0] rfl), by first | omega | (refine ⟨?_, ?_, ?_, ?_, ?_⟩ <;> (first | omega | rfl | assumption | decide | exact Or.inl rfl | exact Or.inr rfl | (simp only; omega)))⟩⟩ rfl rfl hl.1 rfl (lv_room (Nat.le_of_ble_eq_true rfl)) dX4_skipBlanks_12 ⟨Nat.zero_le _, Nat.zero_le _⟩) hh_1.1 (fun q _ h => h) (fun q h => h) (fun r_4 u_3 t_3 H_3 locs_3 ht_3 hvm_3 hr_4 hb_3 hz_3 hk_3 hS_3 => ?_)
        rw [ht_3] at hb_3
        obtain ⟨hb_31, hb_32, hb_33, hb_34, hb_35⟩ := hb_3
        have hh_3 : jSt (dC, dI) B base G0 G0 EX4_skipBlanks s.heap 0 0 [(r0, 6, 11, .int wt_1), (r0, 6, 9, .ref rb), (r0, 6, 10, .int pe)] [] [] H_3 locs_3 := ((hh_1.call hb_31 hb_32 hb_33 hb_34 hS_3 rfl (L1 := [(r0, 6, 11, .int wt_1), (r0, 6, 9, .ref rb), (r0, 6, 10, .int pe)]) [0, 1, 2] rfl rfl (M1 := []) [] rfl rfl (I1 := []) [] rfl rfl).more hb_35)
        clear hh_1 ht_3 hvm_3 hz_3 hk_3 hS_3 hb_31 hb_32 hb_33 hb_34 hb_35
        obtain ⟨hr_4_0, hr_4_1, hr_4_2⟩ := hr_4
        refine vp_callSi (va_Run.run (va_runSN (As := [.int r_4]) (rest := []) ⟨hx, hb, hml, hown, hts⟩ (wX11_isBlank l dC dI ca base H_3 r_4) ⟨va_cnB 1 hts (jgW (jWr_20 _ (List.mem_of_getElem? (i := 0) rfl))) rfl rfl rfl (hG.2.2.1 RX4 92 yX11_isBlank "ProofServer" (List.mem_of_getElem? (i := 641) (by decide +kernel))) (htw (.initialized RX11) (jWr_1 _ (List.mem_of_getElem? (i := 2) rfl))) (by decide +kernel) ⟨by rw [← hR]; exact Nat.le_of_ble_eq_true rfl, by rw [← hR]; exact Nat.le_of_ble_eq_true rfl⟩, htw (.static yX11_isBlank) (jWr_19 _ (List.mem_of_getElem? (i := 23) rfl)), trivial⟩ ⟨fun a U g mk q => by obtain ⟨q0, q1, qK, q9⟩ := q; exact ⟨q0, q1, jG.calling g mk a qK, q9⟩, fun U hU hW => ⟨rfl, hU, hG.step hW hU hh_3.1, by first | trivial | omega | (constructor <;> omega)⟩⟩ rfl rfl hl.1 rfl (lv_room (Nat.le_of_ble_eq_true rfl)) dX4_skipBlanks_15 ⟨Nat.zero_le _, Nat.zero_le _⟩)) (fun r_5 hr_5 => ?_)
        have hr_5' : r_5.toInt = 0 ∨ r_5.toInt = 1 := jb_01 hr_5
        refine lv_if_eq (tgt := 34) hx hb dX4_skipBlanks_18 (by decide) (fun c_6 => ?_) (fun c_6 => ?_)
        · skip
          have c_6' : r_5.toInt = 0 := jb_eq (rfl) ((by decide)) c_6
          rw [hQ]
          exact W.vret hx hb hr (fun t ht hW => ⟨⟨wt_1, rfl, by first | omega | (refine ⟨?_, ?_⟩ <;> (first | omega | rfl | assumption | decide | exact Or.inl rfl | exact Or.inr rfl | (simp only; omega))), hh_3.rt (M1 := [(r0, 6, 11, .int wt_1)]) [0] rfl ht⟩, by rw [ht]; try exact hh_3.1.1, fun q h9 hq => by rw [ht]; try exact hh_3.1.2.1 q h9 hq⟩) hh_3.1.2.2 dX4_skipBlanks_34
        · skip
          have c_6' : r_5.toInt ≠ 0 := jb_eq_n (rfl) ((by decide)) c_6
          refine lv_aload_n hx hb dX4_skipBlanks_21 rfl (lv_at hl 0 rfl) ?_
          refine lv_dup hx hb dX4_skipBlanks_22 rfl ?_
          refine j7_read hx hb hown hK (C := RX4) (T := TX4) (N := 12) rfl hly_6_11 hlk_47 (hh_3.at 0 rfl) dX4_skipBlanks_23 ?_
          refine lv_iconst (v := 1) hx hb dX4_skipBlanks_26 (by decide) ?_
          refine lv_iadd hx hb dX4_skipBlanks_27 ?_
          refine lv_topi (fun z_7 ez_7 => ?_)
          have hz_7 : z_7.toInt = wt_1.toInt + 1 := by rw [ez_7]; exact jb_iadd2 (rfl) ((by decide)) (by omega)
          refine j7_put hx hb hown hK hh_3 hB hAp hB6 (C := RX4) (T := TX4) (N := 12) rfl (by decide) hg_r0 (i := 11) (by decide) hly_6_11 rfl hlk_47 rfl (ty := .int) (v := .int z_7) (by decide +kernel) rfl rfl (⟨_, rfl, by omega, by omega⟩) rfl (L1 := [(r0, 6, 9, .ref rb), (r0, 6, 10, .int pe)]) [1, 2] rfl rfl rfl dX4_skipBlanks_28 (fun H_8 locs_8 hh_8 => ?_)
          clear hh_3
          refine lv_goto (tgt := 0) hx hb dX4_skipBlanks_31 (by decide) ?_
          exact L0 z_7 _ _ hh_8 (by first | omega | (refine ⟨?_, ?_⟩ <;> (first | omega | rfl | assumption | decide | exact Or.inl rfl | exact Or.inr rfl | (simp only; omega)))) (by omega) _ (lv_sub hl [0] rfl)
  exact L0 (((pe.toInt - (pt : Int32).toInt).toNat : Int) : Int).toNat.succ pt _ _ (hh.sub (L1 := [(r0, 6, 11, .int pt), (r0, 6, 9, .ref rb), (r0, 6, 10, .int pe)]) [2, 0, 1] rfl (M1 := []) [] rfl (I1 := []) [] rfl) (by first | omega | (refine ⟨?_, ?_⟩ <;> (first | omega | rfl | assumption | decide | exact Or.inl rfl | exact Or.inr rfl | (simp only; omega)))) (by omega) _ (lv_sub hl [0] rfl)
end
section
theorem dX4_isColon_0 : decode cX4_isColon 0 = .ok (.aload_n 0, 1) := by decide +kernel
theorem dX4_isColon_1 : decode cX4_isColon 1 = .ok (.invokevirtual 56, 3) := by decide +kernel
theorem dX4_isColon_4 : decode cX4_isColon 4 = .ok (.aload_n 0, 1) := by decide +kernel
theorem dX4_isColon_5 : decode cX4_isColon 5 = .ok (.invokevirtual 89, 3) := by decide +kernel
theorem dX4_isColon_8 : decode cX4_isColon 8 = .ok (.bipush 58, 2) := by decide +kernel
theorem dX4_isColon_10 : decode cX4_isColon 10 = .ok (.if_icmp .ne 7, 3) := by decide +kernel
theorem dX4_isColon_13 : decode cX4_isColon 13 = .ok (.iconst 1, 1) := by decide +kernel
theorem dX4_isColon_14 : decode cX4_isColon 14 = .ok (.goto 4, 3) := by decide +kernel
theorem dX4_isColon_17 : decode cX4_isColon 17 = .ok (.iconst 0, 1) := by decide +kernel
theorem dX4_isColon_18 : decode cX4_isColon 18 = .ok (.istore_n 1, 1) := by decide +kernel
theorem dX4_isColon_19 : decode cX4_isColon 19 = .ok (.aload_n 0, 1) := by decide +kernel
theorem dX4_isColon_20 : decode cX4_isColon 20 = .ok (.dup, 1) := by decide +kernel
theorem dX4_isColon_21 : decode cX4_isColon 21 = .ok (.getfield 47, 3) := by decide +kernel
theorem dX4_isColon_24 : decode cX4_isColon 24 = .ok (.iconst 1, 1) := by decide +kernel
theorem dX4_isColon_25 : decode cX4_isColon 25 = .ok (.iadd, 1) := by decide +kernel
theorem dX4_isColon_26 : decode cX4_isColon 26 = .ok (.putfield 47, 3) := by decide +kernel
theorem dX4_isColon_29 : decode cX4_isColon 29 = .ok (.aload_n 0, 1) := by decide +kernel
theorem dX4_isColon_30 : decode cX4_isColon 30 = .ok (.invokevirtual 56, 3) := by decide +kernel
theorem dX4_isColon_33 : decode cX4_isColon 33 = .ok (.iload_n 1, 1) := by decide +kernel
theorem dX4_isColon_34 : decode cX4_isColon 34 = .ok (.ireturn, 1) := by decide +kernel
theorem dX4_isWord_0 : decode cX4_isWord 0 = .ok (.iconst 0, 1) := by decide +kernel
theorem dX4_isWord_1 : decode cX4_isWord 1 = .ok (.istore_n 2, 1) := by decide +kernel
theorem dX4_isWord_2 : decode cX4_isWord 2 = .ok (.iload_n 2, 1) := by decide +kernel
theorem dX4_isWord_3 : decode cX4_isWord 3 = .ok (.aload_n 1, 1) := by decide +kernel
theorem dX4_isWord_4 : decode cX4_isWord 4 = .ok (.invokevirtual 70, 3) := by decide +kernel
theorem dX4_isWord_7 : decode cX4_isWord 7 = .ok (.if_icmp .ge 43, 3) := by decide +kernel
theorem dX4_isWord_10 : decode cX4_isWord 10 = .ok (.aload_n 0, 1) := by decide +kernel
theorem dX4_isWord_11 : decode cX4_isWord 11 = .ok (.getfield 47, 3) := by decide +kernel
theorem dX4_isWord_14 : decode cX4_isWord 14 = .ok (.iload_n 2, 1) := by decide +kernel
theorem dX4_isWord_15 : decode cX4_isWord 15 = .ok (.iadd, 1) := by decide +kernel
theorem dX4_isWord_16 : decode cX4_isWord 16 = .ok (.aload_n 0, 1) := by decide +kernel
theorem dX4_isWord_17 : decode cX4_isWord 17 = .ok (.getfield 43, 3) := by decide +kernel
theorem dX4_isWord_20 : decode cX4_isWord 20 = .ok (.if_icmp .ge 22, 3) := by decide +kernel
theorem dX4_isWord_23 : decode cX4_isWord 23 = .ok (.aload_n 0, 1) := by decide +kernel
theorem dX4_isWord_24 : decode cX4_isWord 24 = .ok (.getfield 33, 3) := by decide +kernel
theorem dX4_isWord_27 : decode cX4_isWord 27 = .ok (.aload_n 0, 1) := by decide +kernel
theorem dX4_isWord_28 : decode cX4_isWord 28 = .ok (.getfield 47, 3) := by decide +kernel
theorem dX4_isWord_31 : decode cX4_isWord 31 = .ok (.iload_n 2, 1) := by decide +kernel
theorem dX4_isWord_32 : decode cX4_isWord 32 = .ok (.iadd, 1) := by decide +kernel
theorem dX4_isWord_33 : decode cX4_isWord 33 = .ok (.baload, 1) := by decide +kernel
theorem dX4_isWord_34 : decode cX4_isWord 34 = .ok (.aload_n 1, 1) := by decide +kernel
theorem dX4_isWord_35 : decode cX4_isWord 35 = .ok (.iload_n 2, 1) := by decide +kernel
theorem dX4_isWord_36 : decode cX4_isWord 36 = .ok (.invokevirtual 76, 3) := by decide +kernel
theorem dX4_isWord_39 : decode cX4_isWord 39 = .ok (.if_icmp .eq 5, 3) := by decide +kernel
theorem dX4_isWord_42 : decode cX4_isWord 42 = .ok (.iconst 0, 1) := by decide +kernel
theorem dX4_isWord_43 : decode cX4_isWord 43 = .ok (.ireturn, 1) := by decide +kernel
theorem dX4_isWord_44 : decode cX4_isWord 44 = .ok (.iinc 2 1, 3) := by decide +kernel
theorem dX4_isWord_47 : decode cX4_isWord 47 = .ok (.goto (-45), 3) := by decide +kernel
theorem dX4_isWord_50 : decode cX4_isWord 50 = .ok (.aload_n 0, 1) := by decide +kernel
theorem dX4_isWord_51 : decode cX4_isWord 51 = .ok (.dup, 1) := by decide +kernel
theorem dX4_isWord_52 : decode cX4_isWord 52 = .ok (.getfield 47, 3) := by decide +kernel
theorem dX4_isWord_55 : decode cX4_isWord 55 = .ok (.aload_n 1, 1) := by decide +kernel
theorem dX4_isWord_56 : decode cX4_isWord 56 = .ok (.invokevirtual 70, 3) := by decide +kernel
theorem dX4_isWord_59 : decode cX4_isWord 59 = .ok (.iadd, 1) := by decide +kernel
theorem dX4_isWord_60 : decode cX4_isWord 60 = .ok (.putfield 47, 3) := by decide +kernel
theorem dX4_isWord_63 : decode cX4_isWord 63 = .ok (.iconst 1, 1) := by decide +kernel
theorem dX4_isWord_64 : decode cX4_isWord 64 = .ok (.ireturn, 1) := by decide +kernel
theorem dX4_number_0 : decode cX4_number 0 = .ok (.aload_n 0, 1) := by decide +kernel
theorem dX4_number_1 : decode cX4_number 1 = .ok (.invokevirtual 89, 3) := by decide +kernel
theorem dX4_number_4 : decode cX4_number 4 = .ok (.bipush 45, 2) := by decide +kernel
theorem dX4_number_6 : decode cX4_number 6 = .ok (.if_icmp .ne 7, 3) := by decide +kernel
theorem dX4_number_9 : decode cX4_number 9 = .ok (.iconst 1, 1) := by decide +kernel
theorem dX4_number_10 : decode cX4_number 10 = .ok (.goto 4, 3) := by decide +kernel
theorem dX4_number_13 : decode cX4_number 13 = .ok (.iconst 0, 1) := by decide +kernel
theorem dX4_number_14 : decode cX4_number 14 = .ok (.istore_n 1, 1) := by decide +kernel
theorem dX4_number_15 : decode cX4_number 15 = .ok (.iload_n 1, 1) := by decide +kernel
theorem dX4_number_16 : decode cX4_number 16 = .ok (.ifCond .eq 13, 3) := by decide +kernel
theorem dX4_number_19 : decode cX4_number 19 = .ok (.aload_n 0, 1) := by decide +kernel
theorem dX4_number_20 : decode cX4_number 20 = .ok (.dup, 1) := by decide +kernel
theorem dX4_number_21 : decode cX4_number 21 = .ok (.getfield 47, 3) := by decide +kernel
theorem dX4_number_24 : decode cX4_number 24 = .ok (.iconst 1, 1) := by decide +kernel
theorem dX4_number_25 : decode cX4_number 25 = .ok (.iadd, 1) := by decide +kernel
theorem dX4_number_26 : decode cX4_number 26 = .ok (.putfield 47, 3) := by decide +kernel
theorem dX4_number_29 : decode cX4_number 29 = .ok (.aload_n 0, 1) := by decide +kernel
theorem dX4_number_30 : decode cX4_number 30 = .ok (.getfield 47, 3) := by decide +kernel
theorem dX4_number_33 : decode cX4_number 33 = .ok (.istore_n 2, 1) := by decide +kernel
theorem dX4_number_34 : decode cX4_number 34 = .ok (.aload_n 0, 1) := by decide +kernel
theorem dX4_number_35 : decode cX4_number 35 = .ok (.invokevirtual 127, 3) := by decide +kernel
theorem dX4_number_38 : decode cX4_number 38 = .ok (.istore_n 3, 1) := by decide +kernel
theorem dX4_number_39 : decode cX4_number 39 = .ok (.iload_n 3, 1) := by decide +kernel
theorem dX4_number_40 : decode cX4_number 40 = .ok (.ifCond .eq 19, 3) := by decide +kernel
theorem dX4_number_43 : decode cX4_number 43 = .ok (.iload_n 3, 1) := by decide +kernel
theorem dX4_number_44 : decode cX4_number 44 = .ok (.iconst 1, 1) := by decide +kernel
theorem dX4_number_45 : decode cX4_number 45 = .ok (.if_icmp .le 16, 3) := by decide +kernel
theorem dX4_number_48 : decode cX4_number 48 = .ok (.aload_n 0, 1) := by decide +kernel
theorem dX4_number_49 : decode cX4_number 49 = .ok (.getfield 33, 3) := by decide +kernel
theorem dX4_number_52 : decode cX4_number 52 = .ok (.iload_n 2, 1) := by decide +kernel
theorem dX4_number_53 : decode cX4_number 53 = .ok (.baload, 1) := by decide +kernel
theorem dX4_number_54 : decode cX4_number 54 = .ok (.bipush 48, 2) := by decide +kernel
theorem dX4_number_56 : decode cX4_number 56 = .ok (.if_icmp .ne 5, 3) := by decide +kernel
theorem dX4_number_59 : decode cX4_number 59 = .ok (.iconst (-1), 1) := by decide +kernel
theorem dX4_number_60 : decode cX4_number 60 = .ok (.ireturn, 1) := by decide +kernel
theorem dX4_number_61 : decode cX4_number 61 = .ok (.iconst 1, 1) := by decide +kernel
theorem dX4_number_62 : decode cX4_number 62 = .ok (.istore 4, 2) := by decide +kernel
theorem dX4_number_64 : decode cX4_number 64 = .ok (.aload_n 0, 1) := by decide +kernel
theorem dX4_number_65 : decode cX4_number 65 = .ok (.invokevirtual 89, 3) := by decide +kernel
theorem dX4_number_68 : decode cX4_number 68 = .ok (.bipush 46, 2) := by decide +kernel
theorem dX4_number_70 : decode cX4_number 70 = .ok (.if_icmp .ne 25, 3) := by decide +kernel
theorem dX4_number_73 : decode cX4_number 73 = .ok (.iconst 0, 1) := by decide +kernel
theorem dX4_number_74 : decode cX4_number 74 = .ok (.istore 4, 2) := by decide +kernel
theorem dX4_number_76 : decode cX4_number 76 = .ok (.aload_n 0, 1) := by decide +kernel
theorem dX4_number_77 : decode cX4_number 77 = .ok (.dup, 1) := by decide +kernel
theorem dX4_number_78 : decode cX4_number 78 = .ok (.getfield 47, 3) := by decide +kernel
theorem dX4_number_81 : decode cX4_number 81 = .ok (.iconst 1, 1) := by decide +kernel
theorem dX4_number_82 : decode cX4_number 82 = .ok (.iadd, 1) := by decide +kernel
theorem dX4_number_83 : decode cX4_number 83 = .ok (.putfield 47, 3) := by decide +kernel
theorem dX4_number_86 : decode cX4_number 86 = .ok (.aload_n 0, 1) := by decide +kernel
theorem dX4_number_87 : decode cX4_number 87 = .ok (.invokevirtual 127, 3) := by decide +kernel
theorem dX4_number_90 : decode cX4_number 90 = .ok (.ifCond .ne 5, 3) := by decide +kernel
theorem dX4_number_93 : decode cX4_number 93 = .ok (.iconst (-1), 1) := by decide +kernel
theorem dX4_number_94 : decode cX4_number 94 = .ok (.ireturn, 1) := by decide +kernel
theorem dX4_number_95 : decode cX4_number 95 = .ok (.aload_n 0, 1) := by decide +kernel
theorem dX4_number_96 : decode cX4_number 96 = .ok (.invokevirtual 89, 3) := by decide +kernel
theorem dX4_number_99 : decode cX4_number 99 = .ok (.bipush 101, 2) := by decide +kernel
theorem dX4_number_101 : decode cX4_number 101 = .ok (.if_icmp .eq 12, 3) := by decide +kernel
theorem dX4_number_104 : decode cX4_number 104 = .ok (.aload_n 0, 1) := by decide +kernel
theorem dX4_number_105 : decode cX4_number 105 = .ok (.invokevirtual 89, 3) := by decide +kernel
theorem dX4_number_108 : decode cX4_number 108 = .ok (.bipush 69, 2) := by decide +kernel
theorem dX4_number_110 : decode cX4_number 110 = .ok (.if_icmp .ne 53, 3) := by decide +kernel
theorem dX4_number_113 : decode cX4_number 113 = .ok (.iconst 0, 1) := by decide +kernel
theorem dX4_number_114 : decode cX4_number 114 = .ok (.istore 4, 2) := by decide +kernel
theorem dX4_number_116 : decode cX4_number 116 = .ok (.aload_n 0, 1) := by decide +kernel
theorem dX4_number_117 : decode cX4_number 117 = .ok (.dup, 1) := by decide +kernel
theorem dX4_number_118 : decode cX4_number 118 = .ok (.getfield 47, 3) := by decide +kernel
theorem dX4_number_121 : decode cX4_number 121 = .ok (.iconst 1, 1) := by decide +kernel
theorem dX4_number_122 : decode cX4_number 122 = .ok (.iadd, 1) := by decide +kernel
theorem dX4_number_123 : decode cX4_number 123 = .ok (.putfield 47, 3) := by decide +kernel
theorem dX4_number_126 : decode cX4_number 126 = .ok (.aload_n 0, 1) := by decide +kernel
theorem dX4_number_127 : decode cX4_number 127 = .ok (.invokevirtual 89, 3) := by decide +kernel
theorem dX4_number_130 : decode cX4_number 130 = .ok (.bipush 43, 2) := by decide +kernel
theorem dX4_number_132 : decode cX4_number 132 = .ok (.if_icmp .eq 12, 3) := by decide +kernel
theorem dX4_number_135 : decode cX4_number 135 = .ok (.aload_n 0, 1) := by decide +kernel
theorem dX4_number_136 : decode cX4_number 136 = .ok (.invokevirtual 89, 3) := by decide +kernel
theorem dX4_number_139 : decode cX4_number 139 = .ok (.bipush 45, 2) := by decide +kernel
theorem dX4_number_141 : decode cX4_number 141 = .ok (.if_icmp .ne 13, 3) := by decide +kernel
theorem dX4_number_144 : decode cX4_number 144 = .ok (.aload_n 0, 1) := by decide +kernel
theorem dX4_number_145 : decode cX4_number 145 = .ok (.dup, 1) := by decide +kernel
theorem dX4_number_146 : decode cX4_number 146 = .ok (.getfield 47, 3) := by decide +kernel
theorem dX4_number_149 : decode cX4_number 149 = .ok (.iconst 1, 1) := by decide +kernel
theorem dX4_number_150 : decode cX4_number 150 = .ok (.iadd, 1) := by decide +kernel
theorem dX4_number_151 : decode cX4_number 151 = .ok (.putfield 47, 3) := by decide +kernel
theorem dX4_number_154 : decode cX4_number 154 = .ok (.aload_n 0, 1) := by decide +kernel
theorem dX4_number_155 : decode cX4_number 155 = .ok (.invokevirtual 127, 3) := by decide +kernel
theorem dX4_number_158 : decode cX4_number 158 = .ok (.ifCond .ne 5, 3) := by decide +kernel
theorem dX4_number_161 : decode cX4_number 161 = .ok (.iconst (-1), 1) := by decide +kernel
theorem dX4_number_162 : decode cX4_number 162 = .ok (.ireturn, 1) := by decide +kernel
theorem dX4_number_163 : decode cX4_number 163 = .ok (.lconst 0, 1) := by decide +kernel
theorem dX4_number_164 : decode cX4_number 164 = .ok (.lstore 5, 2) := by decide +kernel
theorem dX4_number_166 : decode cX4_number 166 = .ok (.iload_n 2, 1) := by decide +kernel
theorem dX4_number_167 : decode cX4_number 167 = .ok (.istore 7, 2) := by decide +kernel
theorem dX4_number_169 : decode cX4_number 169 = .ok (.iload 7, 2) := by decide +kernel
theorem dX4_number_171 : decode cX4_number 171 = .ok (.iload_n 2, 1) := by decide +kernel
theorem dX4_number_172 : decode cX4_number 172 = .ok (.iload_n 3, 1) := by decide +kernel
theorem dX4_number_173 : decode cX4_number 173 = .ok (.iadd, 1) := by decide +kernel
theorem dX4_number_174 : decode cX4_number 174 = .ok (.if_icmp .ge 39, 3) := by decide +kernel
theorem dX4_number_177 : decode cX4_number 177 = .ok (.lload 5, 2) := by decide +kernel
theorem dX4_number_179 : decode cX4_number 179 = .ok (.ldc2_w 130, 3) := by decide +kernel
theorem dX4_number_182 : decode cX4_number 182 = .ok (.lcmp, 1) := by decide +kernel
theorem dX4_number_183 : decode cX4_number 183 = .ok (.ifCond .gt 30, 3) := by decide +kernel
theorem dX4_number_186 : decode cX4_number 186 = .ok (.lload 5, 2) := by decide +kernel
theorem dX4_number_188 : decode cX4_number 188 = .ok (.ldc2_w 132, 3) := by decide +kernel
theorem dX4_number_191 : decode cX4_number 191 = .ok (.lmul, 1) := by decide +kernel
theorem dX4_number_192 : decode cX4_number 192 = .ok (.aload_n 0, 1) := by decide +kernel
theorem dX4_number_193 : decode cX4_number 193 = .ok (.getfield 33, 3) := by decide +kernel
theorem dX4_number_196 : decode cX4_number 196 = .ok (.iload 7, 2) := by decide +kernel
theorem dX4_number_198 : decode cX4_number 198 = .ok (.baload, 1) := by decide +kernel
theorem dX4_number_199 : decode cX4_number 199 = .ok (.i2l, 1) := by decide +kernel
theorem dX4_number_200 : decode cX4_number 200 = .ok (.ladd, 1) := by decide +kernel
theorem dX4_number_201 : decode cX4_number 201 = .ok (.ldc2_w 134, 3) := by decide +kernel
theorem dX4_number_204 : decode cX4_number 204 = .ok (.lsub, 1) := by decide +kernel
theorem dX4_number_205 : decode cX4_number 205 = .ok (.lstore 5, 2) := by decide +kernel
theorem dX4_number_207 : decode cX4_number 207 = .ok (.iinc 7 1, 3) := by decide +kernel
theorem dX4_number_210 : decode cX4_number 210 = .ok (.goto (-41), 3) := by decide +kernel
theorem dX4_number_213 : decode cX4_number 213 = .ok (.iload_n 1, 1) := by decide +kernel
theorem dX4_number_214 : decode cX4_number 214 = .ok (.ifCond .eq 9, 3) := by decide +kernel
theorem dX4_number_217 : decode cX4_number 217 = .ok (.lload 5, 2) := by decide +kernel
theorem dX4_number_219 : decode cX4_number 219 = .ok (.lneg, 1) := by decide +kernel
theorem dX4_number_220 : decode cX4_number 220 = .ok (.goto 5, 3) := by decide +kernel
theorem dX4_number_223 : decode cX4_number 223 = .ok (.lload 5, 2) := by decide +kernel
theorem dX4_number_225 : decode cX4_number 225 = .ok (.lstore 5, 2) := by decide +kernel
theorem dX4_number_227 : decode cX4_number 227 = .ok (.iload 4, 2) := by decide +kernel
theorem dX4_number_229 : decode cX4_number 229 = .ok (.ifCond .eq 25, 3) := by decide +kernel
theorem dX4_number_232 : decode cX4_number 232 = .ok (.lload 5, 2) := by decide +kernel
theorem dX4_number_234 : decode cX4_number 234 = .ok (.ldc2_w 136, 3) := by decide +kernel
theorem dX4_number_237 : decode cX4_number 237 = .ok (.lcmp, 1) := by decide +kernel
theorem dX4_number_238 : decode cX4_number 238 = .ok (.ifCond .lt 16, 3) := by decide +kernel
theorem dX4_number_241 : decode cX4_number 241 = .ok (.lload 5, 2) := by decide +kernel
theorem dX4_number_243 : decode cX4_number 243 = .ok (.ldc2_w 138, 3) := by decide +kernel
theorem dX4_number_246 : decode cX4_number 246 = .ok (.lcmp, 1) := by decide +kernel
theorem dX4_number_247 : decode cX4_number 247 = .ok (.ifCond .gt 7, 3) := by decide +kernel
theorem dX4_number_250 : decode cX4_number 250 = .ok (.iconst 1, 1) := by decide +kernel
theorem dX4_number_251 : decode cX4_number 251 = .ok (.goto 4, 3) := by decide +kernel
theorem dX4_number_254 : decode cX4_number 254 = .ok (.iconst 0, 1) := by decide +kernel
theorem dX4_number_255 : decode cX4_number 255 = .ok (.istore 4, 2) := by decide +kernel
theorem dX4_number_257 : decode cX4_number 257 = .ok (.iload 4, 2) := by decide +kernel
theorem dX4_number_259 : decode cX4_number 259 = .ok (.ifCond .eq 15, 3) := by decide +kernel
theorem dX4_number_262 : decode cX4_number 262 = .ok (.aload_n 0, 1) := by decide +kernel
theorem dX4_number_263 : decode cX4_number 263 = .ok (.iconst 4, 1) := by decide +kernel
theorem dX4_number_264 : decode cX4_number 264 = .ok (.lload 5, 2) := by decide +kernel
theorem dX4_number_266 : decode cX4_number 266 = .ok (.l2i, 1) := by decide +kernel
theorem dX4_number_267 : decode cX4_number 267 = .ok (.iconst 0, 1) := by decide +kernel
theorem dX4_number_268 : decode cX4_number 268 = .ok (.invokevirtual 104, 3) := by decide +kernel
theorem dX4_number_271 : decode cX4_number 271 = .ok (.goto 10, 3) := by decide +kernel
theorem dX4_number_274 : decode cX4_number 274 = .ok (.aload_n 0, 1) := by decide +kernel
theorem dX4_number_275 : decode cX4_number 275 = .ok (.iconst 5, 1) := by decide +kernel
theorem dX4_number_276 : decode cX4_number 276 = .ok (.iconst 0, 1) := by decide +kernel
theorem dX4_number_277 : decode cX4_number 277 = .ok (.iconst 0, 1) := by decide +kernel
theorem dX4_number_278 : decode cX4_number 278 = .ok (.invokevirtual 104, 3) := by decide +kernel
theorem dX4_number_281 : decode cX4_number 281 = .ok (.ireturn, 1) := by decide +kernel
theorem dX4_digits_0 : decode cX4_digits 0 = .ok (.aload_n 0, 1) := by decide +kernel
theorem dX4_digits_1 : decode cX4_digits 1 = .ok (.getfield 47, 3) := by decide +kernel
theorem dX4_digits_4 : decode cX4_digits 4 = .ok (.istore_n 1, 1) := by decide +kernel
theorem dX4_digits_5 : decode cX4_digits 5 = .ok (.aload_n 0, 1) := by decide +kernel
theorem dX4_digits_6 : decode cX4_digits 6 = .ok (.getfield 47, 3) := by decide +kernel
theorem dX4_digits_9 : decode cX4_digits 9 = .ok (.aload_n 0, 1) := by decide +kernel
theorem dX4_digits_10 : decode cX4_digits 10 = .ok (.getfield 43, 3) := by decide +kernel
theorem dX4_digits_13 : decode cX4_digits 13 = .ok (.if_icmp .ge 26, 3) := by decide +kernel
theorem dX4_digits_16 : decode cX4_digits 16 = .ok (.aload_n 0, 1) := by decide +kernel
theorem dX4_digits_17 : decode cX4_digits 17 = .ok (.invokevirtual 89, 3) := by decide +kernel
theorem dX4_digits_20 : decode cX4_digits 20 = .ok (.invokestatic 108, 3) := by decide +kernel
theorem dX4_digits_23 : decode cX4_digits 23 = .ok (.ifCond .eq 16, 3) := by decide +kernel
theorem dX4_digits_26 : decode cX4_digits 26 = .ok (.aload_n 0, 1) := by decide +kernel
theorem dX4_digits_27 : decode cX4_digits 27 = .ok (.dup, 1) := by decide +kernel
theorem dX4_digits_28 : decode cX4_digits 28 = .ok (.getfield 47, 3) := by decide +kernel
theorem dX4_digits_31 : decode cX4_digits 31 = .ok (.iconst 1, 1) := by decide +kernel
theorem dX4_digits_32 : decode cX4_digits 32 = .ok (.iadd, 1) := by decide +kernel
theorem dX4_digits_33 : decode cX4_digits 33 = .ok (.putfield 47, 3) := by decide +kernel
theorem dX4_digits_36 : decode cX4_digits 36 = .ok (.goto (-31), 3) := by decide +kernel
theorem dX4_digits_39 : decode cX4_digits 39 = .ok (.aload_n 0, 1) := by decide +kernel
theorem dX4_digits_40 : decode cX4_digits 40 = .ok (.getfield 47, 3) := by decide +kernel
theorem dX4_digits_43 : decode cX4_digits 43 = .ok (.iload_n 1, 1) := by decide +kernel
theorem dX4_digits_44 : decode cX4_digits 44 = .ok (.isub, 1) := by decide +kernel
theorem dX4_digits_45 : decode cX4_digits 45 = .ok (.ireturn, 1) := by decide +kernel
theorem dX4_isString_0 : decode cX4_isString 0 = .ok (.aload_n 0, 1) := by decide +kernel
theorem dX4_isString_1 : decode cX4_isString 1 = .ok (.invokevirtual 89, 3) := by decide +kernel
theorem dX4_isString_4 : decode cX4_isString 4 = .ok (.bipush 34, 2) := by decide +kernel
theorem dX4_isString_6 : decode cX4_isString 6 = .ok (.if_icmp .eq 5, 3) := by decide +kernel
theorem dX4_isString_9 : decode cX4_isString 9 = .ok (.iconst 0, 1) := by decide +kernel
theorem dX4_isString_10 : decode cX4_isString 10 = .ok (.ireturn, 1) := by decide +kernel
theorem dX4_isString_11 : decode cX4_isString 11 = .ok (.aload_n 0, 1) := by decide +kernel
theorem dX4_isString_12 : decode cX4_isString 12 = .ok (.dup, 1) := by decide +kernel
theorem dX4_isString_13 : decode cX4_isString 13 = .ok (.getfield 47, 3) := by decide +kernel
theorem dX4_isString_16 : decode cX4_isString 16 = .ok (.iconst 1, 1) := by decide +kernel
theorem dX4_isString_17 : decode cX4_isString 17 = .ok (.iadd, 1) := by decide +kernel
theorem dX4_isString_18 : decode cX4_isString 18 = .ok (.putfield 47, 3) := by decide +kernel
theorem dX4_isString_21 : decode cX4_isString 21 = .ok (.iconst 0, 1) := by decide +kernel
theorem dX4_isString_22 : decode cX4_isString 22 = .ok (.istore_n 1, 1) := by decide +kernel
theorem dX4_isString_23 : decode cX4_isString 23 = .ok (.iload_n 1, 1) := by decide +kernel
theorem dX4_isString_24 : decode cX4_isString 24 = .ok (.aload_n 0, 1) := by decide +kernel
theorem dX4_isString_25 : decode cX4_isString 25 = .ok (.getfield 43, 3) := by decide +kernel
theorem dX4_isString_28 : decode cX4_isString 28 = .ok (.if_icmp .ge 116, 3) := by decide +kernel
theorem dX4_isString_31 : decode cX4_isString 31 = .ok (.aload_n 0, 1) := by decide +kernel
theorem dX4_isString_32 : decode cX4_isString 32 = .ok (.getfield 47, 3) := by decide +kernel
theorem dX4_isString_35 : decode cX4_isString 35 = .ok (.aload_n 0, 1) := by decide +kernel
theorem dX4_isString_36 : decode cX4_isString 36 = .ok (.getfield 43, 3) := by decide +kernel
theorem dX4_isString_39 : decode cX4_isString 39 = .ok (.if_icmp .ge 105, 3) := by decide +kernel
theorem dX4_isString_42 : decode cX4_isString 42 = .ok (.aload_n 0, 1) := by decide +kernel
theorem dX4_isString_43 : decode cX4_isString 43 = .ok (.getfield 33, 3) := by decide +kernel
theorem dX4_isString_46 : decode cX4_isString 46 = .ok (.aload_n 0, 1) := by decide +kernel
theorem dX4_isString_47 : decode cX4_isString 47 = .ok (.getfield 47, 3) := by decide +kernel
theorem dX4_isString_50 : decode cX4_isString 50 = .ok (.aload_n 0, 1) := by decide +kernel
theorem dX4_isString_51 : decode cX4_isString 51 = .ok (.getfield 43, 3) := by decide +kernel
theorem dX4_isString_54 : decode cX4_isString 54 = .ok (.invokestatic 140, 3) := by decide +kernel
theorem dX4_isString_57 : decode cX4_isString 57 = .ok (.istore_n 2, 1) := by decide +kernel
theorem dX4_isString_58 : decode cX4_isString 58 = .ok (.iload_n 2, 1) := by decide +kernel
theorem dX4_isString_59 : decode cX4_isString 59 = .ok (.bipush 34, 2) := by decide +kernel
theorem dX4_isString_61 : decode cX4_isString 61 = .ok (.if_icmp .ne 15, 3) := by decide +kernel
theorem dX4_isString_64 : decode cX4_isString 64 = .ok (.aload_n 0, 1) := by decide +kernel
theorem dX4_isString_65 : decode cX4_isString 65 = .ok (.dup, 1) := by decide +kernel
theorem dX4_isString_66 : decode cX4_isString 66 = .ok (.getfield 47, 3) := by decide +kernel
theorem dX4_isString_69 : decode cX4_isString 69 = .ok (.iconst 1, 1) := by decide +kernel
theorem dX4_isString_70 : decode cX4_isString 70 = .ok (.iadd, 1) := by decide +kernel
theorem dX4_isString_71 : decode cX4_isString 71 = .ok (.putfield 47, 3) := by decide +kernel
theorem dX4_isString_74 : decode cX4_isString 74 = .ok (.iconst 1, 1) := by decide +kernel
theorem dX4_isString_75 : decode cX4_isString 75 = .ok (.ireturn, 1) := by decide +kernel
theorem dX4_isString_76 : decode cX4_isString 76 = .ok (.iload_n 2, 1) := by decide +kernel
theorem dX4_isString_77 : decode cX4_isString 77 = .ok (.bipush 32, 2) := by decide +kernel
theorem dX4_isString_79 : decode cX4_isString 79 = .ok (.if_icmp .ge 5, 3) := by decide +kernel
theorem dX4_isString_82 : decode cX4_isString 82 = .ok (.iconst 0, 1) := by decide +kernel
theorem dX4_isString_83 : decode cX4_isString 83 = .ok (.ireturn, 1) := by decide +kernel
theorem dX4_isString_84 : decode cX4_isString 84 = .ok (.iload_n 2, 1) := by decide +kernel
theorem dX4_isString_85 : decode cX4_isString 85 = .ok (.bipush 92, 2) := by decide +kernel
theorem dX4_isString_87 : decode cX4_isString 87 = .ok (.if_icmp .ne 33, 3) := by decide +kernel
theorem dX4_isString_90 : decode cX4_isString 90 = .ok (.aload_n 0, 1) := by decide +kernel
theorem dX4_isString_91 : decode cX4_isString 91 = .ok (.ldc 146, 2) := by decide +kernel
theorem dX4_isString_93 : decode cX4_isString 93 = .ok (.invokevirtual 116, 3) := by decide +kernel
theorem dX4_isString_96 : decode cX4_isString 96 = .ok (.ifCond .eq 10, 3) := by decide +kernel
theorem dX4_isString_99 : decode cX4_isString 99 = .ok (.aload_n 0, 1) := by decide +kernel
theorem dX4_isString_100 : decode cX4_isString 100 = .ok (.invokevirtual 148, 3) := by decide +kernel
theorem dX4_isString_103 : decode cX4_isString 103 = .ok (.goto 7, 3) := by decide +kernel
theorem dX4_isString_106 : decode cX4_isString 106 = .ok (.aload_n 0, 1) := by decide +kernel
theorem dX4_isString_107 : decode cX4_isString 107 = .ok (.invokevirtual 151, 3) := by decide +kernel
theorem dX4_isString_110 : decode cX4_isString 110 = .ok (.istore_n 3, 1) := by decide +kernel
theorem dX4_isString_111 : decode cX4_isString 111 = .ok (.iload_n 3, 1) := by decide +kernel
theorem dX4_isString_112 : decode cX4_isString 112 = .ok (.ifCond .ne 5, 3) := by decide +kernel
theorem dX4_isString_115 : decode cX4_isString 115 = .ok (.iconst 0, 1) := by decide +kernel
theorem dX4_isString_116 : decode cX4_isString 116 = .ok (.ireturn, 1) := by decide +kernel
theorem dX4_isString_117 : decode cX4_isString 117 = .ok (.goto 21, 3) := by decide +kernel
theorem dX4_isString_120 : decode cX4_isString 120 = .ok (.aload_n 0, 1) := by decide +kernel
theorem dX4_isString_121 : decode cX4_isString 121 = .ok (.dup, 1) := by decide +kernel
theorem dX4_isString_122 : decode cX4_isString 122 = .ok (.getfield 47, 3) := by decide +kernel
theorem dX4_isString_125 : decode cX4_isString 125 = .ok (.iload_n 2, 1) := by decide +kernel
theorem dX4_isString_126 : decode cX4_isString 126 = .ok (.invokestatic 154, 3) := by decide +kernel
theorem dX4_isString_129 : decode cX4_isString 129 = .ok (.iadd, 1) := by decide +kernel
theorem dX4_isString_130 : decode cX4_isString 130 = .ok (.putfield 47, 3) := by decide +kernel
theorem dX4_isString_133 : decode cX4_isString 133 = .ok (.aload_n 0, 1) := by decide +kernel
theorem dX4_isString_134 : decode cX4_isString 134 = .ok (.iload_n 2, 1) := by decide +kernel
theorem dX4_isString_135 : decode cX4_isString 135 = .ok (.invokevirtual 157, 3) := by decide +kernel
theorem dX4_isString_138 : decode cX4_isString 138 = .ok (.iinc 1 1, 3) := by decide +kernel
theorem dX4_isString_141 : decode cX4_isString 141 = .ok (.goto (-118), 3) := by decide +kernel
theorem dX4_isString_144 : decode cX4_isString 144 = .ok (.iconst 0, 1) := by decide +kernel
theorem dX4_isString_145 : decode cX4_isString 145 = .ok (.ireturn, 1) := by decide +kernel
theorem dX4_isEscape_0 : decode cX4_isEscape 0 = .ok (.aload_n 0, 1) := by decide +kernel
theorem dX4_isEscape_1 : decode cX4_isEscape 1 = .ok (.dup, 1) := by decide +kernel
theorem dX4_isEscape_2 : decode cX4_isEscape 2 = .ok (.getfield 47, 3) := by decide +kernel
theorem dX4_isEscape_5 : decode cX4_isEscape 5 = .ok (.iconst 1, 1) := by decide +kernel
theorem dX4_isEscape_6 : decode cX4_isEscape 6 = .ok (.iadd, 1) := by decide +kernel
theorem dX4_isEscape_7 : decode cX4_isEscape 7 = .ok (.putfield 47, 3) := by decide +kernel
theorem dX4_isEscape_10 : decode cX4_isEscape 10 = .ok (.aload_n 0, 1) := by decide +kernel
theorem dX4_isEscape_11 : decode cX4_isEscape 11 = .ok (.invokevirtual 89, 3) := by decide +kernel
theorem dX4_isEscape_14 : decode cX4_isEscape 14 = .ok (.istore_n 1, 1) := by decide +kernel
theorem dX4_isEscape_15 : decode cX4_isEscape 15 = .ok (.aload_n 0, 1) := by decide +kernel
theorem dX4_isEscape_16 : decode cX4_isEscape 16 = .ok (.dup, 1) := by decide +kernel
theorem dX4_isEscape_17 : decode cX4_isEscape 17 = .ok (.getfield 47, 3) := by decide +kernel
theorem dX4_isEscape_20 : decode cX4_isEscape 20 = .ok (.iconst 1, 1) := by decide +kernel
theorem dX4_isEscape_21 : decode cX4_isEscape 21 = .ok (.iadd, 1) := by decide +kernel
theorem dX4_isEscape_22 : decode cX4_isEscape 22 = .ok (.putfield 47, 3) := by decide +kernel
theorem dX4_isEscape_25 : decode cX4_isEscape 25 = .ok (.iload_n 1, 1) := by decide +kernel
theorem dX4_isEscape_26 : decode cX4_isEscape 26 = .ok (.lookupswitch 121 #[(34, 74), (47, 74), (92, 74), (98, 81), (102, 89), (110, 97), (114, 105), (116, 113)], 74) := by decide +kernel
theorem dX4_isEscape_100 : decode cX4_isEscape 100 = .ok (.aload_n 0, 1) := by decide +kernel
theorem dX4_isEscape_101 : decode cX4_isEscape 101 = .ok (.iload_n 1, 1) := by decide +kernel
theorem dX4_isEscape_102 : decode cX4_isEscape 102 = .ok (.invokevirtual 163, 3) := by decide +kernel
theorem dX4_isEscape_105 : decode cX4_isEscape 105 = .ok (.iconst 1, 1) := by decide +kernel
theorem dX4_isEscape_106 : decode cX4_isEscape 106 = .ok (.ireturn, 1) := by decide +kernel
theorem dX4_isEscape_107 : decode cX4_isEscape 107 = .ok (.aload_n 0, 1) := by decide +kernel
theorem dX4_isEscape_108 : decode cX4_isEscape 108 = .ok (.bipush 8, 2) := by decide +kernel
theorem dX4_isEscape_110 : decode cX4_isEscape 110 = .ok (.invokevirtual 163, 3) := by decide +kernel
theorem dX4_isEscape_113 : decode cX4_isEscape 113 = .ok (.iconst 1, 1) := by decide +kernel
theorem dX4_isEscape_114 : decode cX4_isEscape 114 = .ok (.ireturn, 1) := by decide +kernel
theorem dX4_isEscape_115 : decode cX4_isEscape 115 = .ok (.aload_n 0, 1) := by decide +kernel
theorem dX4_isEscape_116 : decode cX4_isEscape 116 = .ok (.bipush 12, 2) := by decide +kernel
theorem dX4_isEscape_118 : decode cX4_isEscape 118 = .ok (.invokevirtual 163, 3) := by decide +kernel
theorem dX4_isEscape_121 : decode cX4_isEscape 121 = .ok (.iconst 1, 1) := by decide +kernel
theorem dX4_isEscape_122 : decode cX4_isEscape 122 = .ok (.ireturn, 1) := by decide +kernel
theorem dX4_isEscape_123 : decode cX4_isEscape 123 = .ok (.aload_n 0, 1) := by decide +kernel
theorem dX4_isEscape_124 : decode cX4_isEscape 124 = .ok (.bipush 10, 2) := by decide +kernel
theorem dX4_isEscape_126 : decode cX4_isEscape 126 = .ok (.invokevirtual 163, 3) := by decide +kernel
theorem dX4_isEscape_129 : decode cX4_isEscape 129 = .ok (.iconst 1, 1) := by decide +kernel
theorem dX4_isEscape_130 : decode cX4_isEscape 130 = .ok (.ireturn, 1) := by decide +kernel
theorem dX4_isEscape_131 : decode cX4_isEscape 131 = .ok (.aload_n 0, 1) := by decide +kernel
theorem dX4_isEscape_132 : decode cX4_isEscape 132 = .ok (.bipush 13, 2) := by decide +kernel
theorem dX4_isEscape_134 : decode cX4_isEscape 134 = .ok (.invokevirtual 163, 3) := by decide +kernel
theorem dX4_isEscape_137 : decode cX4_isEscape 137 = .ok (.iconst 1, 1) := by decide +kernel
theorem dX4_isEscape_138 : decode cX4_isEscape 138 = .ok (.ireturn, 1) := by decide +kernel
theorem dX4_isEscape_139 : decode cX4_isEscape 139 = .ok (.aload_n 0, 1) := by decide +kernel
theorem dX4_isEscape_140 : decode cX4_isEscape 140 = .ok (.bipush 9, 2) := by decide +kernel
theorem dX4_isEscape_142 : decode cX4_isEscape 142 = .ok (.invokevirtual 163, 3) := by decide +kernel
theorem dX4_isEscape_145 : decode cX4_isEscape 145 = .ok (.iconst 1, 1) := by decide +kernel
theorem dX4_isEscape_146 : decode cX4_isEscape 146 = .ok (.ireturn, 1) := by decide +kernel
theorem dX4_isEscape_147 : decode cX4_isEscape 147 = .ok (.iconst 0, 1) := by decide +kernel
theorem dX4_isEscape_148 : decode cX4_isEscape 148 = .ok (.ireturn, 1) := by decide +kernel
theorem dX4_isUnitEscape_0 : decode cX4_isUnitEscape 0 = .ok (.aload_n 0, 1) := by decide +kernel
theorem dX4_isUnitEscape_1 : decode cX4_isUnitEscape 1 = .ok (.invokevirtual 167, 3) := by decide +kernel
theorem dX4_isUnitEscape_4 : decode cX4_isUnitEscape 4 = .ok (.istore_n 1, 1) := by decide +kernel
theorem dX4_isUnitEscape_5 : decode cX4_isUnitEscape 5 = .ok (.iload_n 1, 1) := by decide +kernel
theorem dX4_isUnitEscape_6 : decode cX4_isUnitEscape 6 = .ok (.ifCond .lt 10, 3) := by decide +kernel
theorem dX4_isUnitEscape_9 : decode cX4_isUnitEscape 9 = .ok (.iload_n 1, 1) := by decide +kernel
theorem dX4_isUnitEscape_10 : decode cX4_isUnitEscape 10 = .ok (.invokestatic 170, 3) := by decide +kernel
theorem dX4_isUnitEscape_13 : decode cX4_isUnitEscape 13 = .ok (.ifCond .eq 5, 3) := by decide +kernel
theorem dX4_isUnitEscape_16 : decode cX4_isUnitEscape 16 = .ok (.iconst 0, 1) := by decide +kernel
theorem dX4_isUnitEscape_17 : decode cX4_isUnitEscape 17 = .ok (.ireturn, 1) := by decide +kernel
theorem dX4_isUnitEscape_18 : decode cX4_isUnitEscape 18 = .ok (.aload_n 0, 1) := by decide +kernel
theorem dX4_isUnitEscape_19 : decode cX4_isUnitEscape 19 = .ok (.iload_n 1, 1) := by decide +kernel
theorem dX4_isUnitEscape_20 : decode cX4_isUnitEscape 20 = .ok (.invokevirtual 163, 3) := by decide +kernel
theorem dX4_isUnitEscape_23 : decode cX4_isUnitEscape 23 = .ok (.iload_n 1, 1) := by decide +kernel
theorem dX4_isUnitEscape_24 : decode cX4_isUnitEscape 24 = .ok (.invokestatic 173, 3) := by decide +kernel
theorem dX4_isUnitEscape_27 : decode cX4_isUnitEscape 27 = .ok (.ifCond .ne 5, 3) := by decide +kernel
theorem dX4_isUnitEscape_30 : decode cX4_isUnitEscape 30 = .ok (.iconst 1, 1) := by decide +kernel
theorem dX4_isUnitEscape_31 : decode cX4_isUnitEscape 31 = .ok (.ireturn, 1) := by decide +kernel
theorem dX4_isUnitEscape_32 : decode cX4_isUnitEscape 32 = .ok (.aload_n 0, 1) := by decide +kernel
theorem dX4_isUnitEscape_33 : decode cX4_isUnitEscape 33 = .ok (.ldc 146, 2) := by decide +kernel
theorem dX4_isUnitEscape_35 : decode cX4_isUnitEscape 35 = .ok (.invokevirtual 116, 3) := by decide +kernel
theorem dX4_isUnitEscape_38 : decode cX4_isUnitEscape 38 = .ok (.ifCond .ne 5, 3) := by decide +kernel
theorem dX4_isUnitEscape_41 : decode cX4_isUnitEscape 41 = .ok (.iconst 0, 1) := by decide +kernel
theorem dX4_isUnitEscape_42 : decode cX4_isUnitEscape 42 = .ok (.ireturn, 1) := by decide +kernel
theorem dX4_isUnitEscape_43 : decode cX4_isUnitEscape 43 = .ok (.aload_n 0, 1) := by decide +kernel
theorem dX4_isUnitEscape_44 : decode cX4_isUnitEscape 44 = .ok (.invokevirtual 167, 3) := by decide +kernel
theorem dX4_isUnitEscape_47 : decode cX4_isUnitEscape 47 = .ok (.istore_n 2, 1) := by decide +kernel
theorem dX4_isUnitEscape_48 : decode cX4_isUnitEscape 48 = .ok (.aload_n 0, 1) := by decide +kernel
theorem dX4_isUnitEscape_49 : decode cX4_isUnitEscape 49 = .ok (.iload_n 2, 1) := by decide +kernel
theorem dX4_isUnitEscape_50 : decode cX4_isUnitEscape 50 = .ok (.invokevirtual 163, 3) := by decide +kernel
theorem dX4_isUnitEscape_53 : decode cX4_isUnitEscape 53 = .ok (.iload_n 2, 1) := by decide +kernel
theorem dX4_isUnitEscape_54 : decode cX4_isUnitEscape 54 = .ok (.invokestatic 170, 3) := by decide +kernel
theorem dX4_isUnitEscape_57 : decode cX4_isUnitEscape 57 = .ok (.ireturn, 1) := by decide +kernel
theorem dX4_fourDigits_0 : decode cX4_fourDigits 0 = .ok (.iconst 0, 1) := by decide +kernel
theorem dX4_fourDigits_1 : decode cX4_fourDigits 1 = .ok (.istore_n 1, 1) := by decide +kernel
theorem dX4_fourDigits_2 : decode cX4_fourDigits 2 = .ok (.iconst 0, 1) := by decide +kernel
theorem dX4_fourDigits_3 : decode cX4_fourDigits 3 = .ok (.istore_n 2, 1) := by decide +kernel
theorem dX4_fourDigits_4 : decode cX4_fourDigits 4 = .ok (.iload_n 2, 1) := by decide +kernel
theorem dX4_fourDigits_5 : decode cX4_fourDigits 5 = .ok (.iconst 4, 1) := by decide +kernel
theorem dX4_fourDigits_6 : decode cX4_fourDigits 6 = .ok (.if_icmp .ge 131, 3) := by decide +kernel
theorem dX4_fourDigits_9 : decode cX4_fourDigits 9 = .ok (.aload_n 0, 1) := by decide +kernel
theorem dX4_fourDigits_10 : decode cX4_fourDigits 10 = .ok (.getfield 47, 3) := by decide +kernel
theorem dX4_fourDigits_13 : decode cX4_fourDigits 13 = .ok (.aload_n 0, 1) := by decide +kernel
theorem dX4_fourDigits_14 : decode cX4_fourDigits 14 = .ok (.getfield 43, 3) := by decide +kernel
theorem dX4_fourDigits_17 : decode cX4_fourDigits 17 = .ok (.if_icmp .ge 15, 3) := by decide +kernel
theorem dX4_fourDigits_20 : decode cX4_fourDigits 20 = .ok (.aload_n 0, 1) := by decide +kernel
theorem dX4_fourDigits_21 : decode cX4_fourDigits 21 = .ok (.getfield 33, 3) := by decide +kernel
theorem dX4_fourDigits_24 : decode cX4_fourDigits 24 = .ok (.aload_n 0, 1) := by decide +kernel
theorem dX4_fourDigits_25 : decode cX4_fourDigits 25 = .ok (.getfield 47, 3) := by decide +kernel
theorem dX4_fourDigits_28 : decode cX4_fourDigits 28 = .ok (.baload, 1) := by decide +kernel
theorem dX4_fourDigits_29 : decode cX4_fourDigits 29 = .ok (.goto 4, 3) := by decide +kernel
theorem dX4_fourDigits_32 : decode cX4_fourDigits 32 = .ok (.iconst (-1), 1) := by decide +kernel
theorem dX4_fourDigits_33 : decode cX4_fourDigits 33 = .ok (.istore_n 3, 1) := by decide +kernel
theorem dX4_fourDigits_34 : decode cX4_fourDigits 34 = .ok (.iload_n 3, 1) := by decide +kernel
theorem dX4_fourDigits_35 : decode cX4_fourDigits 35 = .ok (.bipush 65, 2) := by decide +kernel
theorem dX4_fourDigits_37 : decode cX4_fourDigits 37 = .ok (.if_icmp .lt 16, 3) := by decide +kernel
theorem dX4_fourDigits_40 : decode cX4_fourDigits 40 = .ok (.iload_n 3, 1) := by decide +kernel
theorem dX4_fourDigits_41 : decode cX4_fourDigits 41 = .ok (.bipush 70, 2) := by decide +kernel
theorem dX4_fourDigits_43 : decode cX4_fourDigits 43 = .ok (.if_icmp .gt 10, 3) := by decide +kernel
theorem dX4_fourDigits_46 : decode cX4_fourDigits 46 = .ok (.iload_n 3, 1) := by decide +kernel
theorem dX4_fourDigits_47 : decode cX4_fourDigits 47 = .ok (.bipush 32, 2) := by decide +kernel
theorem dX4_fourDigits_49 : decode cX4_fourDigits 49 = .ok (.iadd, 1) := by decide +kernel
theorem dX4_fourDigits_50 : decode cX4_fourDigits 50 = .ok (.goto 4, 3) := by decide +kernel
theorem dX4_fourDigits_53 : decode cX4_fourDigits 53 = .ok (.iload_n 3, 1) := by decide +kernel
theorem dX4_fourDigits_54 : decode cX4_fourDigits 54 = .ok (.istore 4, 2) := by decide +kernel
theorem dX4_fourDigits_56 : decode cX4_fourDigits 56 = .ok (.iload 4, 2) := by decide +kernel
theorem dX4_fourDigits_58 : decode cX4_fourDigits 58 = .ok (.bipush 97, 2) := by decide +kernel
theorem dX4_fourDigits_60 : decode cX4_fourDigits 60 = .ok (.if_icmp .lt 14, 3) := by decide +kernel
theorem dX4_fourDigits_63 : decode cX4_fourDigits 63 = .ok (.iload 4, 2) := by decide +kernel
theorem dX4_fourDigits_65 : decode cX4_fourDigits 65 = .ok (.bipush 102, 2) := by decide +kernel
theorem dX4_fourDigits_67 : decode cX4_fourDigits 67 = .ok (.if_icmp .gt 7, 3) := by decide +kernel
theorem dX4_fourDigits_70 : decode cX4_fourDigits 70 = .ok (.iconst 1, 1) := by decide +kernel
theorem dX4_fourDigits_71 : decode cX4_fourDigits 71 = .ok (.goto 4, 3) := by decide +kernel
theorem dX4_fourDigits_74 : decode cX4_fourDigits 74 = .ok (.iconst 0, 1) := by decide +kernel
theorem dX4_fourDigits_75 : decode cX4_fourDigits 75 = .ok (.istore 5, 2) := by decide +kernel
theorem dX4_fourDigits_77 : decode cX4_fourDigits 77 = .ok (.iload 5, 2) := by decide +kernel
theorem dX4_fourDigits_79 : decode cX4_fourDigits 79 = .ok (.ifCond .ne 17, 3) := by decide +kernel
theorem dX4_fourDigits_82 : decode cX4_fourDigits 82 = .ok (.iload_n 3, 1) := by decide +kernel
theorem dX4_fourDigits_83 : decode cX4_fourDigits 83 = .ok (.bipush 48, 2) := by decide +kernel
theorem dX4_fourDigits_85 : decode cX4_fourDigits 85 = .ok (.if_icmp .lt 9, 3) := by decide +kernel
theorem dX4_fourDigits_88 : decode cX4_fourDigits 88 = .ok (.iload_n 3, 1) := by decide +kernel
theorem dX4_fourDigits_89 : decode cX4_fourDigits 89 = .ok (.bipush 57, 2) := by decide +kernel
theorem dX4_fourDigits_91 : decode cX4_fourDigits 91 = .ok (.if_icmp .le 5, 3) := by decide +kernel
theorem dX4_fourDigits_94 : decode cX4_fourDigits 94 = .ok (.iconst (-1), 1) := by decide +kernel
theorem dX4_fourDigits_95 : decode cX4_fourDigits 95 = .ok (.ireturn, 1) := by decide +kernel
theorem dX4_fourDigits_96 : decode cX4_fourDigits 96 = .ok (.iload_n 1, 1) := by decide +kernel
theorem dX4_fourDigits_97 : decode cX4_fourDigits 97 = .ok (.iconst 4, 1) := by decide +kernel
theorem dX4_fourDigits_98 : decode cX4_fourDigits 98 = .ok (.ishl, 1) := by decide +kernel
theorem dX4_fourDigits_99 : decode cX4_fourDigits 99 = .ok (.iload 5, 2) := by decide +kernel
theorem dX4_fourDigits_101 : decode cX4_fourDigits 101 = .ok (.ifCond .eq 14, 3) := by decide +kernel
theorem dX4_fourDigits_104 : decode cX4_fourDigits 104 = .ok (.iload 4, 2) := by decide +kernel
theorem dX4_fourDigits_106 : decode cX4_fourDigits 106 = .ok (.bipush 97, 2) := by decide +kernel
theorem dX4_fourDigits_108 : decode cX4_fourDigits 108 = .ok (.isub, 1) := by decide +kernel
theorem dX4_fourDigits_109 : decode cX4_fourDigits 109 = .ok (.bipush 10, 2) := by decide +kernel
theorem dX4_fourDigits_111 : decode cX4_fourDigits 111 = .ok (.iadd, 1) := by decide +kernel
theorem dX4_fourDigits_112 : decode cX4_fourDigits 112 = .ok (.goto 7, 3) := by decide +kernel
theorem dX4_fourDigits_115 : decode cX4_fourDigits 115 = .ok (.iload_n 3, 1) := by decide +kernel
theorem dX4_fourDigits_116 : decode cX4_fourDigits 116 = .ok (.bipush 48, 2) := by decide +kernel
theorem dX4_fourDigits_118 : decode cX4_fourDigits 118 = .ok (.isub, 1) := by decide +kernel
theorem dX4_fourDigits_119 : decode cX4_fourDigits 119 = .ok (.ior, 1) := by decide +kernel
theorem dX4_fourDigits_120 : decode cX4_fourDigits 120 = .ok (.istore_n 1, 1) := by decide +kernel
theorem dX4_fourDigits_121 : decode cX4_fourDigits 121 = .ok (.aload_n 0, 1) := by decide +kernel
theorem dX4_fourDigits_122 : decode cX4_fourDigits 122 = .ok (.dup, 1) := by decide +kernel
theorem dX4_fourDigits_123 : decode cX4_fourDigits 123 = .ok (.getfield 47, 3) := by decide +kernel
theorem dX4_fourDigits_126 : decode cX4_fourDigits 126 = .ok (.iconst 1, 1) := by decide +kernel
theorem dX4_fourDigits_127 : decode cX4_fourDigits 127 = .ok (.iadd, 1) := by decide +kernel
theorem dX4_fourDigits_128 : decode cX4_fourDigits 128 = .ok (.putfield 47, 3) := by decide +kernel
theorem dX4_fourDigits_131 : decode cX4_fourDigits 131 = .ok (.iinc 2 1, 3) := by decide +kernel
theorem dX4_fourDigits_134 : decode cX4_fourDigits 134 = .ok (.goto (-130), 3) := by decide +kernel
theorem dX4_fourDigits_137 : decode cX4_fourDigits 137 = .ok (.iload_n 1, 1) := by decide +kernel
theorem dX4_fourDigits_138 : decode cX4_fourDigits 138 = .ok (.ireturn, 1) := by decide +kernel
def EX4_isWord : List (Nat × Nat) := [(6, 11)]
def EX4_digits : List (Nat × Nat) := [(6, 11)]
set_option maxHeartbeats 4000000 in
set_option maxRecDepth 20000 in
theorem uX4_isWord (l : Launch) (dC : Nat → ClassId) (dI : Nat → Nat → Nat) (ca : Nat → ClassId) (base : Nat) (B : jF) (hB : jBok B) (hAp : jAp (dC, dI)) (hB6 : ∀ n G a H, B 6 n G a H ↔ jOb (dC, dI) 6 12 (F6 n G) a H) (hB100 : ∀ n G a H, B 100 n G a H ↔ jAr (dC, dI) (ca 0) (fun j z => True) n a H) (G0 : jT) (H0 : Heap) (r0 : Nat) (r1 : Nat) (n1 : Nat) (rb : Nat) (n_rb : Nat) (pe : Int32) (pt : Int32) : Met l yX4_isWord (jw yX4_isWord cX4_isWord 3 (some .boolean)) ({ frames := 4, cells := 0, slots := 0, locals := 141 }) (va_Pc [.ref r0, .ref r1] (fun U => U.heap = H0 ∧ jX B base G0 [] H0 ∧ jG dC dI ca base U ∧ jStr base r1 n1 U H0 ∧ G0 r0 = some (6, 0) ∧ G0 rb = some (100, n_rb) ∧ jP (dC, dI) G0 H0 [(r0, 6, 9, .ref rb), (r0, 6, 10, .int pe), (r0, 6, 11, .int pt)] ∧ 0 ≤ pe.toInt ∧ pe.toInt ≤ n_rb ∧ n_rb ≤ 3000 ∧ 0 ≤ pt.toInt ∧ pt.toInt ≤ 19000 ∧ pt.toInt ≤ pe.toInt ∧ 1 ≤ n1 ∧ n1 ≤ 1000)) (va_Qi (S := Int32) (fun r u => (r = 0 ∨ r = 1) ∧ (pt.toInt + r.toInt ≤ u.toInt ∧ u.toInt ≤ pt.toInt + 1000 * r.toInt ∧ u.toInt ≤ pe.toInt)) (fun u t => jRt (dC, dI) B base G0 EX4_isWord H0 [(r0, 6, 11, .int u)] t.heap) (jA base)) 0 0 (jA base) := by
  refine Met.ofW (cc := cX4_isWord) (maxL := 3) (ret := (some .boolean)) (by decide) rfl ?_
  intro p e s m args below meth c s₁ Bd hml hv
  obtain ⟨rfl, hH0, hX, hG, hstr_r1, hg_r0, hg_rb, hP0, hp0, hp1, hp2, hp3, hp4, hp5, hp6, hp7⟩ := hv
  have hK := hG.1
  have hx := Bd.exec
  have hb := Bd.bytes
  have hr := Bd.returns
  have hts := atoms_spec (ws := (jw yX4_isWord cX4_isWord 3 (some .boolean))) Bd.pre
  have htw : ∀ w ∈ jWl, w.before _ s = true := fun w h => hts w (List.mem_cons_of_mem _ h)
  have hown : s.vm.findClass RX4 = some m.cls := findClass_of_methodNamed Bd.named
  have hlocks := Bd.notSynchronized
  obtain ⟨Q, hQ⟩ : ∃ Q, Q = MQ below (va_Qi (S := Int32) (fun r u => (r = 0 ∨ r = 1) ∧ (pt.toInt + r.toInt ≤ u.toInt ∧ u.toInt ≤ pt.toInt + 1000 * r.toInt ∧ u.toInt ≤ pe.toInt)) (fun u t => jRt (dC, dI) B base G0 EX4_isWord H0 [(r0, 6, 11, .int u)] t.heap) (jA base)) ([.ref r0, .ref r1] : List Value).toArray s 0 0 (jA base) := ⟨_, rfl⟩
  rw [← hQ]
  have hl := lv_entry ([.ref r0, .ref r1]) (n := 3) (Nat.le_of_ble_eq_true rfl)
  rw [lg_entry_eq]
  generalize (lg_sl ([.ref r0, .ref r1]) ++ List.replicate (3 - (lg_sl ([.ref r0, .ref r1])).length) Slot.unset).toArray = ls at hl ⊢
  have hl : lv_has ls 3 [(0, .ref r0), (1, .ref r1)] := hl
  generalize hR : (headSpec (jw yX4_isWord cX4_isWord 3 (some .boolean)) ({ frames := 4, cells := 0, slots := 0, locals := 141 })).room = R
  subst hH0
  have hh : jSt (dC, dI) B base G0 G0 EX4_isWord s.heap 0 0 [(r0, 6, 9, .ref rb), (r0, 6, 10, .int pe), (r0, 6, 11, .int pt)] [] [] s.heap [] := jSt.start hX hP0 jMc.nil jIs.nil
  clear hX hP0
  have hk0 : (0 : Int32).toInt = 0 := by decide
  have hk1 : (1 : Int32).toInt = 1 := by decide
  have hly_6_9 := htw (u_lay RX4 TX4 9) (jWc_wsX40 _ (u_in_lay (by decide)))
  have hly_6_10 := htw (u_lay RX4 TX4 10) (jWc_wsX40 _ (u_in_lay (by decide)))
  have hly_6_11 := htw (u_lay RX4 TX4 11) (jWc_wsX40 _ (u_in_lay (by decide)))
  have hlk_47 := (htw (.fieldLink RX4 47 "ProofServer$Json" "at" "I") (jWr_19 _ (List.mem_of_getElem? (i := 12) rfl)))
  have hlk_43 := (htw (.fieldLink RX4 43 "ProofServer$Json" "end" "I") (jWr_19 _ (List.mem_of_getElem? (i := 11) rfl)))
  have hlk_33 := (htw (.fieldLink RX4 33 "ProofServer$Json" "bytes" "[B") (jWr_4 _ (List.mem_of_getElem? (i := 4) rfl)))
  refine lv_iconst (v := 0) hx hb dX4_isWord_0 (by decide) ?_
  refine lv_istore_n (lv' := [(2, .int 0), (0, .ref r0), (1, .ref r1)]) hx hb dX4_isWord_1 rfl hl (by decide) rfl (fun ls hl => ?_)
  have L2 : ∀ (N : Nat) (v2_1 : Int32) (H_1 : Heap) (locs_1 : List Loc), jSt (dC, dI) B base G0 G0 EX4_isWord s.heap 0 0 [(r0, 6, 9, .ref rb), (r0, 6, 10, .int pe), (r0, 6, 11, .int pt)] [] [] H_1 locs_1 → (0 ≤ v2_1.toInt ∧ v2_1.toInt ≤ n1 ∧ pt.toInt + v2_1.toInt ≤ pe.toInt) → (n1 - v2_1.toInt : Int) < N → ∀ ls : Array Slot, lv_has ls 3 [(0, .ref r0), (1, .ref r1), (2, .int v2_1)] → W p l e R s m ([.ref r0, .ref r1] : List Value).toArray below meth c H_1 locs_1 0 0 Q (F0 m 2 ls []) := by
    intro N
    induction N with
    | zero => intro v2_1 H_1 locs_1 hh_1  hi_1 hm; exact absurd hm (by omega)
    | succ N L2 =>
      intro v2_1 H_1 locs_1 hh_1  hi_1 hm_1 ls hl
      obtain ⟨hi_1_0, hi_1_1, hi_1_2⟩ := hi_1
      refine lv_iload_n hx hb dX4_isWord_2 rfl (lv_at hl 2 rfl) ?_
      refine lv_aload_n hx hb dX4_isWord_3 rfl (lv_at hl 1 rfl) ?_
      refine vp_callSi (W.runV (As := []) (rest := [.int v2_1]) ⟨hx, hb, hml, hown, hts⟩ (wJ0_length_8abf5 l dC dI ca base H_1 r1 n1) (cwV 0 hts (jgV (jWr_20 _ (List.mem_of_getElem? (i := 23) rfl)) (jWr_5 _ (List.mem_of_getElem? (i := 13) rfl)) (jWr_5 _ (List.mem_of_getElem? (i := 14) rfl)) (jWr_5 _ (List.mem_of_getElem? (i := 15) rfl)) (jWr_5 _ (List.mem_of_getElem? (i := 16) rfl))) rfl rfl rfl (by decide +kernel) ⟨by rw [← hR]; exact Nat.le_of_ble_eq_true rfl, by rw [← hR]; exact Nat.le_of_ble_eq_true rfl⟩) ⟨fun a U g mk q => by obtain ⟨q0, q1, q2, qK, q9⟩ := q; exact ⟨q0, q1, (q2.moved (Vm.Alike.refl U.vm)), jG.calling g mk a qK, q9⟩, jStr_recv hstr_r1 hh_1.1, fun U hU hW => ⟨rfl, hU, (hstr_r1.moved hW.alike).kept hh_1.1.2.1, hG.step hW hU hh_1.1, by omega⟩⟩ rfl rfl hl.1 rfl (lv_room (Nat.le_of_ble_eq_true rfl)) dX4_isWord_4 ⟨Nat.zero_le _, Nat.zero_le _⟩) (fun r_2 hr_2 => ?_)
      refine lv_icmp_ge (tgt := 50) hx hb dX4_isWord_7 (by decide) (fun c_3 => ?_) (fun c_3 => ?_)
      · skip
        have c_3' : v2_1.toInt ≥ r_2.toInt := jb_ge (rfl) (rfl) c_3
        refine lv_aload_n hx hb dX4_isWord_50 rfl (lv_at hl 0 rfl) ?_
        refine lv_dup hx hb dX4_isWord_51 rfl ?_
        refine j7_read hx hb hown hK (C := RX4) (T := TX4) (N := 12) rfl hly_6_11 hlk_47 (hh_1.at 2 rfl) dX4_isWord_52 ?_
        refine lv_aload_n hx hb dX4_isWord_55 rfl (lv_at hl 1 rfl) ?_
        refine vp_callSi (W.runV (As := []) (rest := [.int pt, .ref r0]) ⟨hx, hb, hml, hown, hts⟩ (wJ0_length_8abf5 l dC dI ca base H_1 r1 n1) (cwV 0 hts (jgV (jWr_20 _ (List.mem_of_getElem? (i := 23) rfl)) (jWr_5 _ (List.mem_of_getElem? (i := 13) rfl)) (jWr_5 _ (List.mem_of_getElem? (i := 14) rfl)) (jWr_5 _ (List.mem_of_getElem? (i := 15) rfl)) (jWr_5 _ (List.mem_of_getElem? (i := 16) rfl))) rfl rfl rfl (by decide +kernel) ⟨by rw [← hR]; exact Nat.le_of_ble_eq_true rfl, by rw [← hR]; exact Nat.le_of_ble_eq_true rfl⟩) ⟨fun a U g mk q => by obtain ⟨q0, q1, q2, qK, q9⟩ := q; exact ⟨q0, q1, (q2.moved (Vm.Alike.refl U.vm)), jG.calling g mk a qK, q9⟩, jStr_recv hstr_r1 hh_1.1, fun U hU hW => ⟨rfl, hU, (hstr_r1.moved hW.alike).kept hh_1.1.2.1, hG.step hW hU hh_1.1, by omega⟩⟩ rfl rfl hl.1 rfl (lv_room (Nat.le_of_ble_eq_true rfl)) dX4_isWord_56 ⟨Nat.zero_le _, Nat.zero_le _⟩) (fun r_4 hr_4 => ?_)
        refine lv_iadd hx hb dX4_isWord_59 ?_
        refine lv_topi (fun z_5 ez_5 => ?_)
        have hz_5 : z_5.toInt = pt.toInt + r_4.toInt := by rw [ez_5]; exact jb_iadd2 (rfl) (rfl) (by omega)
        refine j7_put hx hb hown hK hh_1 hB hAp hB6 (C := RX4) (T := TX4) (N := 12) rfl (by decide) hg_r0 (i := 11) (by decide) hly_6_11 rfl hlk_47 rfl (ty := .int) (v := .int z_5) (by decide +kernel) rfl rfl (⟨_, rfl, by omega, by omega⟩) rfl (L1 := [(r0, 6, 9, .ref rb), (r0, 6, 10, .int pe)]) [0, 1] rfl rfl rfl dX4_isWord_60 (fun H_6 locs_6 hh_6 => ?_)
        clear hh_1
        refine lv_iconst (v := 1) hx hb dX4_isWord_63 (by decide) ?_
        rw [hQ]
        exact W.zret (v := 1) hx hb hr (jb_nz (Or.inr rfl)) (fun t ht hW => ⟨⟨1, z_5, rfl, ⟨(Or.inr rfl), by first | omega | (refine ⟨?_, ?_, ?_⟩ <;> (first | omega | rfl | assumption | decide | exact Or.inl rfl | exact Or.inr rfl | (simp only; omega)))⟩, hh_6.rt (M1 := [(r0, 6, 11, .int z_5)]) [0] rfl ht⟩, by rw [ht]; try exact hh_6.1.1, fun q h9 hq => by rw [ht]; try exact hh_6.1.2.1 q h9 hq⟩) hh_6.1.2.2 dX4_isWord_64
      · skip
        have c_3' : v2_1.toInt < r_2.toInt := jb_ge_n (rfl) (rfl) c_3
        refine lv_aload_n hx hb dX4_isWord_10 rfl (lv_at hl 0 rfl) ?_
        refine j7_read hx hb hown hK (C := RX4) (T := TX4) (N := 12) rfl hly_6_11 hlk_47 (hh_1.at 2 rfl) dX4_isWord_11 ?_
        refine lv_iload_n hx hb dX4_isWord_14 rfl (lv_at hl 2 rfl) ?_
        refine lv_iadd hx hb dX4_isWord_15 ?_
        refine lv_topi (fun z_7 ez_7 => ?_)
        have hz_7 : z_7.toInt = pt.toInt + v2_1.toInt := by rw [ez_7]; exact jb_iadd2 (rfl) (rfl) (by omega)
        refine lv_aload_n hx hb dX4_isWord_16 rfl (lv_at hl 0 rfl) ?_
        refine j7_read hx hb hown hK (C := RX4) (T := TX4) (N := 12) rfl hly_6_10 hlk_43 (hh_1.at 1 rfl) dX4_isWord_17 ?_
        refine lv_icmp_ge (tgt := 42) hx hb dX4_isWord_20 (by decide) (fun c_8 => ?_) (fun c_8 => ?_)
        · skip
          have c_8' : z_7.toInt ≥ pe.toInt := jb_ge (rfl) (rfl) c_8
          refine lv_iconst (v := 0) hx hb dX4_isWord_42 (by decide) ?_
          rw [hQ]
          exact W.zret (v := 0) hx hb hr (jb_nz (Or.inl rfl)) (fun t ht hW => ⟨⟨0, pt, rfl, ⟨(Or.inl rfl), by first | omega | (refine ⟨?_, ?_, ?_⟩ <;> (first | omega | rfl | assumption | decide | exact Or.inl rfl | exact Or.inr rfl | (simp only; omega)))⟩, hh_1.rt (M1 := [(r0, 6, 11, .int pt)]) [2] rfl ht⟩, by rw [ht]; try exact hh_1.1.1, fun q h9 hq => by rw [ht]; try exact hh_1.1.2.1 q h9 hq⟩) hh_1.1.2.2 dX4_isWord_43
        · skip
          have c_8' : z_7.toInt < pe.toInt := jb_ge_n (rfl) (rfl) c_8
          refine lv_aload_n hx hb dX4_isWord_23 rfl (lv_at hl 0 rfl) ?_
          refine j7_read hx hb hown hK (C := RX4) (T := TX4) (N := 12) rfl hly_6_9 hlk_33 (hh_1.at 0 rfl) dX4_isWord_24 ?_
          refine lv_aload_n hx hb dX4_isWord_27 rfl (lv_at hl 0 rfl) ?_
          refine j7_read hx hb hown hK (C := RX4) (T := TX4) (N := 12) rfl hly_6_11 hlk_47 (hh_1.at 2 rfl) dX4_isWord_28 ?_
          refine lv_iload_n hx hb dX4_isWord_31 rfl (lv_at hl 2 rfl) ?_
          refine lv_iadd hx hb dX4_isWord_32 ?_
          refine lv_topi (fun z_9 ez_9 => ?_)
          have hz_9 : z_9.toInt = pt.toInt + v2_1.toInt := by rw [ez_9]; exact jb_iadd2 (rfl) (rfl) (by omega)
          refine j7_bald hx hb hK hh_1 hB100 0 rfl (by decide) hg_rb (x := z_9.toInt) (rfl) (by omega) dX4_isWord_33 (fun z_10 (hz_10 : True) => ?_)
          refine lv_aload_n hx hb dX4_isWord_34 rfl (lv_at hl 1 rfl) ?_
          refine lv_iload_n hx hb dX4_isWord_35 rfl (lv_at hl 2 rfl) ?_
          refine vp_callSi (W.runV (As := [.int v2_1]) (rest := [.int z_10]) ⟨hx, hb, hml, hown, hts⟩ (wJ0_charAt_5068e l dC dI ca base H_1 r1 n1 v2_1) (cwV 1 hts (jgV (jWr_21 _ (List.mem_of_getElem? (i := 0) rfl)) (jWr_6 _ (List.mem_of_getElem? (i := 1) rfl)) (jWr_6 _ (List.mem_of_getElem? (i := 2) rfl)) (jWr_5 _ (List.mem_of_getElem? (i := 15) rfl)) (jWr_6 _ (List.mem_of_getElem? (i := 3) rfl))) rfl rfl rfl (by decide +kernel) ⟨by rw [← hR]; exact Nat.le_of_ble_eq_true rfl, by rw [← hR]; exact Nat.le_of_ble_eq_true rfl⟩) ⟨fun a U g mk q => by obtain ⟨q0, q1, q2, qK, q9⟩ := q; exact ⟨q0, q1, (q2.moved (Vm.Alike.refl U.vm)), jG.calling g mk a qK, q9⟩, jStr_recv hstr_r1 hh_1.1, fun U hU hW => ⟨rfl, hU, (hstr_r1.moved hW.alike).kept hh_1.1.2.1, hG.step hW hU hh_1.1, ⟨by omega, by omega, by omega⟩⟩⟩ rfl rfl hl.1 rfl (lv_room (Nat.le_of_ble_eq_true rfl)) dX4_isWord_36 ⟨Nat.zero_le _, Nat.zero_le _⟩) (fun r_11 hr_11 => ?_)
          refine lv_icmp_eq (tgt := 44) hx hb dX4_isWord_39 (by decide) (fun c_12 => ?_) (fun c_12 => ?_)
          · skip
            have c_12' : z_10.toInt = r_11.toInt := jb_eq (rfl) (rfl) c_12
            obtain ⟨z_13, ez_13⟩ : ∃ y : Int32, y = v2_1 + 1 := ⟨_, rfl⟩
            refine lv_iinc (v := z_13) (lv' := [(2, .int z_13), (0, .ref r0), (1, .ref r1)]) hx hb dX4_isWord_44 hl (k := 2) rfl (by rw [ez_13]; rfl) (by decide) rfl (fun ls hl => ?_)
            have hz_13 : z_13.toInt = v2_1.toInt + 1 := by rw [ez_13]; exact jb_iadd2 (rfl) (by decide) (by omega)
            refine lv_goto (tgt := 2) hx hb dX4_isWord_47 (by decide) ?_
            exact L2 z_13 _ _ hh_1 (by first | omega | (refine ⟨?_, ?_, ?_⟩ <;> (first | omega | rfl | assumption | decide | exact Or.inl rfl | exact Or.inr rfl | (simp only; omega)))) (by omega) _ (lv_sub hl [1, 2, 0] rfl)
          · skip
            have c_12' : z_10.toInt ≠ r_11.toInt := jb_eq_n (rfl) (rfl) c_12
            refine lv_iconst (v := 0) hx hb dX4_isWord_42 (by decide) ?_
            rw [hQ]
            exact W.zret (v := 0) hx hb hr (jb_nz (Or.inl rfl)) (fun t ht hW => ⟨⟨0, pt, rfl, ⟨(Or.inl rfl), by first | omega | (refine ⟨?_, ?_, ?_⟩ <;> (first | omega | rfl | assumption | decide | exact Or.inl rfl | exact Or.inr rfl | (simp only; omega)))⟩, hh_1.rt (M1 := [(r0, 6, 11, .int pt)]) [2] rfl ht⟩, by rw [ht]; try exact hh_1.1.1, fun q h9 hq => by rw [ht]; try exact hh_1.1.2.1 q h9 hq⟩) hh_1.1.2.2 dX4_isWord_43
  exact L2 (n1 - (0 : Int32).toInt : Int).toNat.succ 0 _ _ hh (by first | omega | (refine ⟨?_, ?_, ?_⟩ <;> (first | omega | rfl | assumption | decide | exact Or.inl rfl | exact Or.inr rfl | (simp only; omega)))) (by omega) _ (lv_sub hl [1, 2, 0] rfl)
set_option maxHeartbeats 4000000 in
set_option maxRecDepth 20000 in
theorem uX4_digits (l : Launch) (dC : Nat → ClassId) (dI : Nat → Nat → Nat) (ca : Nat → ClassId) (base : Nat) (B : jF) (hB : jBok B) (hAp : jAp (dC, dI)) (hB6 : ∀ n G a H, B 6 n G a H ↔ jOb (dC, dI) 6 12 (F6 n G) a H) (hB100 : ∀ n G a H, B 100 n G a H ↔ jAr (dC, dI) (ca 0) (fun j z => True) n a H) (G0 : jT) (H0 : Heap) (r0 : Nat) (rb : Nat) (n_rb : Nat) (pe : Int32) (pt : Int32) : Met l yX4_digits (jw yX4_digits cX4_digits 2 (some .int)) ({ frames := 1, cells := 0, slots := 0, locals := 20 }) (va_Pc [.ref r0] (fun U => U.heap = H0 ∧ jX B base G0 [] H0 ∧ jG dC dI ca base U ∧ G0 r0 = some (6, 0) ∧ G0 rb = some (100, n_rb) ∧ jP (dC, dI) G0 H0 [(r0, 6, 9, .ref rb), (r0, 6, 10, .int pe), (r0, 6, 11, .int pt)] ∧ 0 ≤ pe.toInt ∧ pe.toInt ≤ n_rb ∧ n_rb ≤ 3000 ∧ 0 ≤ pt.toInt ∧ pt.toInt ≤ 19000 ∧ pt.toInt ≤ pe.toInt)) (va_Qi (S := Int32) (fun r u => (r.toInt = u.toInt - pt.toInt ∧ pt.toInt ≤ u.toInt ∧ u.toInt ≤ pe.toInt)) (fun u t => jRt (dC, dI) B base G0 EX4_digits H0 [(r0, 6, 11, .int u)] t.heap) (jA base)) 0 0 (jA base) := by
  refine Met.ofW (cc := cX4_digits) (maxL := 2) (ret := (some .int)) (by decide) rfl ?_
  intro p e s m args below meth c s₁ Bd hml hv
  obtain ⟨rfl, hH0, hX, hG, hg_r0, hg_rb, hP0, hp0, hp1, hp2, hp3, hp4, hp5⟩ := hv
  have hK := hG.1
  have hx := Bd.exec
  have hb := Bd.bytes
  have hr := Bd.returns
  have hts := atoms_spec (ws := (jw yX4_digits cX4_digits 2 (some .int))) Bd.pre
  have htw : ∀ w ∈ jWl, w.before _ s = true := fun w h => hts w (List.mem_cons_of_mem _ h)
  have hown : s.vm.findClass RX4 = some m.cls := findClass_of_methodNamed Bd.named
  have hlocks := Bd.notSynchronized
  obtain ⟨Q, hQ⟩ : ∃ Q, Q = MQ below (va_Qi (S := Int32) (fun r u => (r.toInt = u.toInt - pt.toInt ∧ pt.toInt ≤ u.toInt ∧ u.toInt ≤ pe.toInt)) (fun u t => jRt (dC, dI) B base G0 EX4_digits H0 [(r0, 6, 11, .int u)] t.heap) (jA base)) ([.ref r0] : List Value).toArray s 0 0 (jA base) := ⟨_, rfl⟩
  rw [← hQ]
  have hl := lv_entry ([.ref r0]) (n := 2) (Nat.le_of_ble_eq_true rfl)
  rw [lg_entry_eq]
  generalize (lg_sl ([.ref r0]) ++ List.replicate (2 - (lg_sl ([.ref r0])).length) Slot.unset).toArray = ls at hl ⊢
  have hl : lv_has ls 2 [(0, .ref r0)] := hl
  generalize hR : (headSpec (jw yX4_digits cX4_digits 2 (some .int)) ({ frames := 1, cells := 0, slots := 0, locals := 20 })).room = R
  subst hH0
  have hh : jSt (dC, dI) B base G0 G0 EX4_digits s.heap 0 0 [(r0, 6, 9, .ref rb), (r0, 6, 10, .int pe), (r0, 6, 11, .int pt)] [] [] s.heap [] := jSt.start hX hP0 jMc.nil jIs.nil
  clear hX hP0
  have hk0 : (0 : Int32).toInt = 0 := by decide
  have hk1 : (1 : Int32).toInt = 1 := by decide
  have hly_6_10 := htw (u_lay RX4 TX4 10) (jWc_wsX40 _ (u_in_lay (by decide)))
  have hly_6_11 := htw (u_lay RX4 TX4 11) (jWc_wsX40 _ (u_in_lay (by decide)))
  have hlk_47 := (htw (.fieldLink RX4 47 "ProofServer$Json" "at" "I") (jWr_19 _ (List.mem_of_getElem? (i := 12) rfl)))
  have hlk_43 := (htw (.fieldLink RX4 43 "ProofServer$Json" "end" "I") (jWr_19 _ (List.mem_of_getElem? (i := 11) rfl)))
  refine lv_aload_n hx hb dX4_digits_0 rfl (lv_at hl 0 rfl) ?_
  refine j7_read hx hb hown hK (C := RX4) (T := TX4) (N := 12) rfl hly_6_11 hlk_47 (hh.at 2 rfl) dX4_digits_1 ?_
  refine lv_istore_n (lv' := [(1, .int pt), (0, .ref r0)]) hx hb dX4_digits_4 rfl hl (by decide) rfl (fun ls hl => ?_)
  have L5 : ∀ (N : Nat) (wt_1 : Int32) (H_1 : Heap) (locs_1 : List Loc), jSt (dC, dI) B base G0 G0 EX4_digits s.heap 0 0 [(r0, 6, 11, .int wt_1), (r0, 6, 9, .ref rb), (r0, 6, 10, .int pe)] [] [] H_1 locs_1 → (pt.toInt ≤ wt_1.toInt ∧ wt_1.toInt ≤ pe.toInt) → (pe.toInt - wt_1.toInt : Int) < N → ∀ ls : Array Slot, lv_has ls 2 [(0, .ref r0), (1, .int pt)] → W p l e R s m ([.ref r0] : List Value).toArray below meth c H_1 locs_1 0 0 Q (F0 m 5 ls []) := by
    intro N
    induction N with
    | zero => intro wt_1 H_1 locs_1 hh_1  hi_1 hm; exact absurd hm (by omega)
    | succ N L5 =>
      intro wt_1 H_1 locs_1 hh_1  hi_1 hm_1 ls hl
      obtain ⟨hi_1_0, hi_1_1⟩ := hi_1
      refine lv_aload_n hx hb dX4_digits_5 rfl (lv_at hl 0 rfl) ?_
      refine j7_read hx hb hown hK (C := RX4) (T := TX4) (N := 12) rfl hly_6_11 hlk_47 (hh_1.at 0 rfl) dX4_digits_6 ?_
      refine lv_aload_n hx hb dX4_digits_9 rfl (lv_at hl 0 rfl) ?_
      refine j7_read hx hb hown hK (C := RX4) (T := TX4) (N := 12) rfl hly_6_10 hlk_43 (hh_1.at 2 rfl) dX4_digits_10 ?_
      refine lv_icmp_ge (tgt := 39) hx hb dX4_digits_13 (by decide) (fun c_2 => ?_) (fun c_2 => ?_)
      · skip
        have c_2' : wt_1.toInt ≥ pe.toInt := jb_ge (rfl) (rfl) c_2
        refine lv_aload_n hx hb dX4_digits_39 rfl (lv_at hl 0 rfl) ?_
        refine j7_read hx hb hown hK (C := RX4) (T := TX4) (N := 12) rfl hly_6_11 hlk_47 (hh_1.at 0 rfl) dX4_digits_40 ?_
        refine lv_iload_n hx hb dX4_digits_43 rfl (lv_at hl 1 rfl) ?_
        refine lv_isub hx hb dX4_digits_44 ?_
        refine lv_topi (fun z_3 ez_3 => ?_)
        have hz_3 : z_3.toInt = wt_1.toInt - pt.toInt := by rw [ez_3]; exact jb_isub2 (rfl) (rfl) (by omega)
        rw [hQ]
        exact W.iret (v := z_3) hx hb hr (fun t ht hW => ⟨⟨z_3, wt_1, rfl, by first | omega | (refine ⟨?_, ?_, ?_⟩ <;> (first | omega | rfl | assumption | decide | exact Or.inl rfl | exact Or.inr rfl | (simp only; omega))), hh_1.rt (M1 := [(r0, 6, 11, .int wt_1)]) [0] rfl ht⟩, by rw [ht]; try exact hh_1.1.1, fun q h9 hq => by rw [ht]; try exact hh_1.1.2.1 q h9 hq⟩) hh_1.1.2.2 dX4_digits_45
      · skip
        have c_2' : wt_1.toInt < pe.toInt := jb_ge_n (rfl) (rfl) c_2
        refine lv_aload_n hx hb dX4_digits_16 rfl (lv_at hl 0 rfl) ?_
        refine va_calli (A0 := jA base) (H0 := s.heap) (va_runV (As := []) (rest := []) ⟨hx, hb, hml, hown, hts⟩ (uX4_peek l dC dI ca base B hB hAp hB6 hB100 G0 H_1 r0 rb n_rb pe wt_1) (cwV 0 hts (jgV (jWr_19 _ (List.mem_of_getElem? (i := 19) rfl)) (jWr_19 _ (List.mem_of_getElem? (i := 20) rfl)) (jWr_19 _ (List.mem_of_getElem? (i := 21) rfl)) (jWr_1 _ (List.mem_of_getElem? (i := 22) rfl)) (jWr_19 _ (List.mem_of_getElem? (i := 22) rfl))) rfl rfl rfl (by decide +kernel) ⟨by rw [← hR]; exact Nat.le_of_ble_eq_true rfl, by rw [← hR]; exact Nat.le_of_ble_eq_true rfl⟩) ⟨fun a U g mk q => by obtain ⟨q0, q1, q2, qK, q10, q11, q12, q13⟩ := q; exact ⟨q0, q1, q2, jG.calling g mk a qK, q10, q11, q12, q13⟩, hh_1.recv (C := RX4) (T := TX4) (N := 12) hB6 rfl (by decide) hg_r0 hK, fun U hU hW => ⟨rfl, hU, hh_1.2.1, hG.step hW hU hh_1.1, hg_r0, hg_rb, (hh_1.2.2.1.sub (L1 := [(r0, 6, 9, .ref rb), (r0, 6, 10, .int pe), (r0, 6, 11, .int wt_1)]) [1, 2, 0] rfl), by first | omega | (refine ⟨?_, ?_, ?_, ?_, ?_⟩ <;> (first | omega | rfl | assumption | decide | exact Or.inl rfl | exact Or.inr rfl | (simp only; omega)))⟩⟩ rfl rfl hl.1 rfl (lv_room (Nat.le_of_ble_eq_true rfl)) dX4_digits_17 ⟨Nat.zero_le _, Nat.zero_le _⟩) hh_1.1 (fun q _ h => h) (fun q h => h) (fun r_5 u_4 t_4 H_4 locs_4 ht_4 hvm_4 hr_5 hb_4 hz_4 hk_4 hS_4 => ?_)
        rw [ht_4] at hb_4
        obtain ⟨hb_41, hb_42, hb_43, hb_44, hb_45⟩ := hb_4
        have hh_4 : jSt (dC, dI) B base G0 G0 EX4_digits s.heap 0 0 [(r0, 6, 11, .int wt_1), (r0, 6, 9, .ref rb), (r0, 6, 10, .int pe)] [] [] H_4 locs_4 := ((hh_1.call hb_41 hb_42 hb_43 hb_44 hS_4 rfl (L1 := [(r0, 6, 11, .int wt_1), (r0, 6, 9, .ref rb), (r0, 6, 10, .int pe)]) [0, 1, 2] rfl rfl (M1 := []) [] rfl rfl (I1 := []) [] rfl rfl).more hb_45)
        clear hh_1 ht_4 hvm_4 hz_4 hk_4 hS_4 hb_41 hb_42 hb_43 hb_44 hb_45
        obtain ⟨hr_5_0, hr_5_1, hr_5_2⟩ := hr_5
        refine vp_callSi (va_Run.run (va_runSN (As := [.int r_5]) (rest := []) ⟨hx, hb, hml, hown, hts⟩ (wX11_isDigit l dC dI ca base H_4 r_5) ⟨va_cnB 1 hts (jgW (jWr_22 _ (List.mem_of_getElem? (i := 15) rfl))) rfl rfl rfl (hG.2.2.1 RX4 108 yX11_isDigit "ProofServer" (List.mem_of_getElem? (i := 711) (by decide +kernel))) (htw (.initialized RX11) (jWr_1 _ (List.mem_of_getElem? (i := 2) rfl))) (by decide +kernel) ⟨by rw [← hR]; exact Nat.le_of_ble_eq_true rfl, by rw [← hR]; exact Nat.le_of_ble_eq_true rfl⟩, htw (.static yX11_isDigit) (jWr_22 _ (List.mem_of_getElem? (i := 14) rfl)), trivial⟩ ⟨fun a U g mk q => by obtain ⟨q0, q1, qK, q9⟩ := q; exact ⟨q0, q1, jG.calling g mk a qK, q9⟩, fun U hU hW => ⟨rfl, hU, hG.step hW hU hh_4.1, by first | trivial | omega | (constructor <;> omega)⟩⟩ rfl rfl hl.1 rfl (lv_room (Nat.le_of_ble_eq_true rfl)) dX4_digits_20 ⟨Nat.zero_le _, Nat.zero_le _⟩)) (fun r_6 hr_6 => ?_)
        have hr_6' : r_6.toInt = 0 ∨ r_6.toInt = 1 := jb_01 hr_6
        refine lv_if_eq (tgt := 39) hx hb dX4_digits_23 (by decide) (fun c_7 => ?_) (fun c_7 => ?_)
        · skip
          have c_7' : r_6.toInt = 0 := jb_eq (rfl) ((by decide)) c_7
          refine lv_aload_n hx hb dX4_digits_39 rfl (lv_at hl 0 rfl) ?_
          refine j7_read hx hb hown hK (C := RX4) (T := TX4) (N := 12) rfl hly_6_11 hlk_47 (hh_4.at 0 rfl) dX4_digits_40 ?_
          refine lv_iload_n hx hb dX4_digits_43 rfl (lv_at hl 1 rfl) ?_
          refine lv_isub hx hb dX4_digits_44 ?_
          refine lv_topi (fun z_8 ez_8 => ?_)
          have hz_8 : z_8.toInt = wt_1.toInt - pt.toInt := by rw [ez_8]; exact jb_isub2 (rfl) (rfl) (by omega)
          rw [hQ]
          exact W.iret (v := z_8) hx hb hr (fun t ht hW => ⟨⟨z_8, wt_1, rfl, by first | omega | (refine ⟨?_, ?_, ?_⟩ <;> (first | omega | rfl | assumption | decide | exact Or.inl rfl | exact Or.inr rfl | (simp only; omega))), hh_4.rt (M1 := [(r0, 6, 11, .int wt_1)]) [0] rfl ht⟩, by rw [ht]; try exact hh_4.1.1, fun q h9 hq => by rw [ht]; try exact hh_4.1.2.1 q h9 hq⟩) hh_4.1.2.2 dX4_digits_45
        · skip
          have c_7' : r_6.toInt ≠ 0 := jb_eq_n (rfl) ((by decide)) c_7
          refine lv_aload_n hx hb dX4_digits_26 rfl (lv_at hl 0 rfl) ?_
          refine lv_dup hx hb dX4_digits_27 rfl ?_
          refine j7_read hx hb hown hK (C := RX4) (T := TX4) (N := 12) rfl hly_6_11 hlk_47 (hh_4.at 0 rfl) dX4_digits_28 ?_
          refine lv_iconst (v := 1) hx hb dX4_digits_31 (by decide) ?_
          refine lv_iadd hx hb dX4_digits_32 ?_
          refine lv_topi (fun z_9 ez_9 => ?_)
          have hz_9 : z_9.toInt = wt_1.toInt + 1 := by rw [ez_9]; exact jb_iadd2 (rfl) ((by decide)) (by omega)
          refine j7_put hx hb hown hK hh_4 hB hAp hB6 (C := RX4) (T := TX4) (N := 12) rfl (by decide) hg_r0 (i := 11) (by decide) hly_6_11 rfl hlk_47 rfl (ty := .int) (v := .int z_9) (by decide +kernel) rfl rfl (⟨_, rfl, by omega, by omega⟩) rfl (L1 := [(r0, 6, 9, .ref rb), (r0, 6, 10, .int pe)]) [1, 2] rfl rfl rfl dX4_digits_33 (fun H_10 locs_10 hh_10 => ?_)
          clear hh_4
          refine lv_goto (tgt := 5) hx hb dX4_digits_36 (by decide) ?_
          exact L5 z_9 _ _ hh_10 (by first | omega | (refine ⟨?_, ?_⟩ <;> (first | omega | rfl | assumption | decide | exact Or.inl rfl | exact Or.inr rfl | (simp only; omega)))) (by omega) _ (lv_sub hl [0, 1] rfl)
  exact L5 (pe.toInt - (pt : Int32).toInt : Int).toNat.succ pt _ _ (hh.sub (L1 := [(r0, 6, 11, .int pt), (r0, 6, 9, .ref rb), (r0, 6, 10, .int pe)]) [2, 0, 1] rfl (M1 := []) [] rfl (I1 := []) [] rfl) (by first | omega | (refine ⟨?_, ?_⟩ <;> (first | omega | rfl | assumption | decide | exact Or.inl rfl | exact Or.inr rfl | (simp only; omega)))) (by omega) _ (lv_sub hl [1, 0] rfl)
end
section
theorem dX4_value_0 : decode cX4_value 0 = .ok (.aload_n 0, 1) := by decide +kernel
theorem dX4_value_1 : decode cX4_value 1 = .ok (.invokevirtual 89, 3) := by decide +kernel
theorem dX4_value_4 : decode cX4_value 4 = .ok (.istore_n 2, 1) := by decide +kernel
theorem dX4_value_5 : decode cX4_value 5 = .ok (.iload_n 2, 1) := by decide +kernel
theorem dX4_value_6 : decode cX4_value 6 = .ok (.bipush 123, 2) := by decide +kernel
theorem dX4_value_8 : decode cX4_value 8 = .ok (.if_icmp .eq 9, 3) := by decide +kernel
theorem dX4_value_11 : decode cX4_value 11 = .ok (.iload_n 2, 1) := by decide +kernel
theorem dX4_value_12 : decode cX4_value 12 = .ok (.bipush 91, 2) := by decide +kernel
theorem dX4_value_14 : decode cX4_value 14 = .ok (.if_icmp .ne 32, 3) := by decide +kernel
theorem dX4_value_17 : decode cX4_value 17 = .ok (.iload_n 1, 1) := by decide +kernel
theorem dX4_value_18 : decode cX4_value 18 = .ok (.bipush 10, 2) := by decide +kernel
theorem dX4_value_20 : decode cX4_value 20 = .ok (.if_icmp .ge 24, 3) := by decide +kernel
theorem dX4_value_23 : decode cX4_value 23 = .ok (.aload_n 0, 1) := by decide +kernel
theorem dX4_value_24 : decode cX4_value 24 = .ok (.iload_n 1, 1) := by decide +kernel
theorem dX4_value_25 : decode cX4_value 25 = .ok (.iconst 1, 1) := by decide +kernel
theorem dX4_value_26 : decode cX4_value 26 = .ok (.iadd, 1) := by decide +kernel
theorem dX4_value_27 : decode cX4_value 27 = .ok (.iload_n 2, 1) := by decide +kernel
theorem dX4_value_28 : decode cX4_value 28 = .ok (.bipush 123, 2) := by decide +kernel
theorem dX4_value_30 : decode cX4_value 30 = .ok (.if_icmp .ne 7, 3) := by decide +kernel
theorem dX4_value_33 : decode cX4_value 33 = .ok (.iconst 1, 1) := by decide +kernel
theorem dX4_value_34 : decode cX4_value 34 = .ok (.goto 4, 3) := by decide +kernel
theorem dX4_value_37 : decode cX4_value 37 = .ok (.iconst 0, 1) := by decide +kernel
theorem dX4_value_38 : decode cX4_value 38 = .ok (.invokevirtual 96, 3) := by decide +kernel
theorem dX4_value_41 : decode cX4_value 41 = .ok (.goto 4, 3) := by decide +kernel
theorem dX4_value_44 : decode cX4_value 44 = .ok (.iconst (-1), 1) := by decide +kernel
theorem dX4_value_45 : decode cX4_value 45 = .ok (.ireturn, 1) := by decide +kernel
theorem dX4_value_46 : decode cX4_value 46 = .ok (.iload_n 2, 1) := by decide +kernel
theorem dX4_value_47 : decode cX4_value 47 = .ok (.bipush 34, 2) := by decide +kernel
theorem dX4_value_49 : decode cX4_value 49 = .ok (.if_icmp .ne 32, 3) := by decide +kernel
theorem dX4_value_52 : decode cX4_value 52 = .ok (.aload_n 0, 1) := by decide +kernel
theorem dX4_value_53 : decode cX4_value 53 = .ok (.getfield 53, 3) := by decide +kernel
theorem dX4_value_56 : decode cX4_value 56 = .ok (.istore_n 3, 1) := by decide +kernel
theorem dX4_value_57 : decode cX4_value 57 = .ok (.aload_n 0, 1) := by decide +kernel
theorem dX4_value_58 : decode cX4_value 58 = .ok (.invokevirtual 100, 3) := by decide +kernel
theorem dX4_value_61 : decode cX4_value 61 = .ok (.ifCond .eq 18, 3) := by decide +kernel
theorem dX4_value_64 : decode cX4_value 64 = .ok (.aload_n 0, 1) := by decide +kernel
theorem dX4_value_65 : decode cX4_value 65 = .ok (.iconst 3, 1) := by decide +kernel
theorem dX4_value_66 : decode cX4_value 66 = .ok (.iload_n 3, 1) := by decide +kernel
theorem dX4_value_67 : decode cX4_value 67 = .ok (.aload_n 0, 1) := by decide +kernel
theorem dX4_value_68 : decode cX4_value 68 = .ok (.getfield 53, 3) := by decide +kernel
theorem dX4_value_71 : decode cX4_value 71 = .ok (.iload_n 3, 1) := by decide +kernel
theorem dX4_value_72 : decode cX4_value 72 = .ok (.isub, 1) := by decide +kernel
theorem dX4_value_73 : decode cX4_value 73 = .ok (.invokevirtual 104, 3) := by decide +kernel
theorem dX4_value_76 : decode cX4_value 76 = .ok (.goto 4, 3) := by decide +kernel
theorem dX4_value_79 : decode cX4_value 79 = .ok (.iconst (-1), 1) := by decide +kernel
theorem dX4_value_80 : decode cX4_value 80 = .ok (.ireturn, 1) := by decide +kernel
theorem dX4_value_81 : decode cX4_value 81 = .ok (.iload_n 2, 1) := by decide +kernel
theorem dX4_value_82 : decode cX4_value 82 = .ok (.bipush 45, 2) := by decide +kernel
theorem dX4_value_84 : decode cX4_value 84 = .ok (.if_icmp .eq 10, 3) := by decide +kernel
theorem dX4_value_87 : decode cX4_value 87 = .ok (.iload_n 2, 1) := by decide +kernel
theorem dX4_value_88 : decode cX4_value 88 = .ok (.invokestatic 108, 3) := by decide +kernel
theorem dX4_value_91 : decode cX4_value 91 = .ok (.ifCond .eq 8, 3) := by decide +kernel
theorem dX4_value_94 : decode cX4_value 94 = .ok (.aload_n 0, 1) := by decide +kernel
theorem dX4_value_95 : decode cX4_value 95 = .ok (.invokevirtual 111, 3) := by decide +kernel
theorem dX4_value_98 : decode cX4_value 98 = .ok (.ireturn, 1) := by decide +kernel
theorem dX4_value_99 : decode cX4_value 99 = .ok (.aload_n 0, 1) := by decide +kernel
theorem dX4_value_100 : decode cX4_value 100 = .ok (.ldc 114, 2) := by decide +kernel
theorem dX4_value_102 : decode cX4_value 102 = .ok (.invokevirtual 116, 3) := by decide +kernel
theorem dX4_value_105 : decode cX4_value 105 = .ok (.ifCond .ne 21, 3) := by decide +kernel
theorem dX4_value_108 : decode cX4_value 108 = .ok (.aload_n 0, 1) := by decide +kernel
theorem dX4_value_109 : decode cX4_value 109 = .ok (.ldc 120, 2) := by decide +kernel
theorem dX4_value_111 : decode cX4_value 111 = .ok (.invokevirtual 116, 3) := by decide +kernel
theorem dX4_value_114 : decode cX4_value 114 = .ok (.ifCond .ne 12, 3) := by decide +kernel
theorem dX4_value_117 : decode cX4_value 117 = .ok (.aload_n 0, 1) := by decide +kernel
theorem dX4_value_118 : decode cX4_value 118 = .ok (.ldc 122, 2) := by decide +kernel
theorem dX4_value_120 : decode cX4_value 120 = .ok (.invokevirtual 116, 3) := by decide +kernel
theorem dX4_value_123 : decode cX4_value 123 = .ok (.ifCond .eq 7, 3) := by decide +kernel
theorem dX4_value_126 : decode cX4_value 126 = .ok (.iconst 1, 1) := by decide +kernel
theorem dX4_value_127 : decode cX4_value 127 = .ok (.goto 4, 3) := by decide +kernel
theorem dX4_value_130 : decode cX4_value 130 = .ok (.iconst 0, 1) := by decide +kernel
theorem dX4_value_131 : decode cX4_value 131 = .ok (.istore_n 3, 1) := by decide +kernel
theorem dX4_value_132 : decode cX4_value 132 = .ok (.iload_n 3, 1) := by decide +kernel
theorem dX4_value_133 : decode cX4_value 133 = .ok (.ifCond .eq 13, 3) := by decide +kernel
theorem dX4_value_136 : decode cX4_value 136 = .ok (.aload_n 0, 1) := by decide +kernel
theorem dX4_value_137 : decode cX4_value 137 = .ok (.iconst 5, 1) := by decide +kernel
theorem dX4_value_138 : decode cX4_value 138 = .ok (.iconst 0, 1) := by decide +kernel
theorem dX4_value_139 : decode cX4_value 139 = .ok (.iconst 0, 1) := by decide +kernel
theorem dX4_value_140 : decode cX4_value 140 = .ok (.invokevirtual 104, 3) := by decide +kernel
theorem dX4_value_143 : decode cX4_value 143 = .ok (.goto 4, 3) := by decide +kernel
theorem dX4_value_146 : decode cX4_value 146 = .ok (.iconst (-1), 1) := by decide +kernel
theorem dX4_value_147 : decode cX4_value 147 = .ok (.ireturn, 1) := by decide +kernel
theorem dX4_holder_0 : decode cX4_holder 0 = .ok (.aload_n 0, 1) := by decide +kernel
theorem dX4_holder_1 : decode cX4_holder 1 = .ok (.iload_n 2, 1) := by decide +kernel
theorem dX4_holder_2 : decode cX4_holder 2 = .ok (.ifCond .eq 7, 3) := by decide +kernel
theorem dX4_holder_5 : decode cX4_holder 5 = .ok (.iconst 1, 1) := by decide +kernel
theorem dX4_holder_6 : decode cX4_holder 6 = .ok (.goto 4, 3) := by decide +kernel
theorem dX4_holder_9 : decode cX4_holder 9 = .ok (.iconst 2, 1) := by decide +kernel
theorem dX4_holder_10 : decode cX4_holder 10 = .ok (.iconst (-1), 1) := by decide +kernel
theorem dX4_holder_11 : decode cX4_holder 11 = .ok (.iconst 0, 1) := by decide +kernel
theorem dX4_holder_12 : decode cX4_holder 12 = .ok (.invokevirtual 104, 3) := by decide +kernel
theorem dX4_holder_15 : decode cX4_holder 15 = .ok (.istore_n 3, 1) := by decide +kernel
theorem dX4_holder_16 : decode cX4_holder 16 = .ok (.iload_n 2, 1) := by decide +kernel
theorem dX4_holder_17 : decode cX4_holder 17 = .ok (.ifCond .eq 8, 3) := by decide +kernel
theorem dX4_holder_20 : decode cX4_holder 20 = .ok (.bipush 125, 2) := by decide +kernel
theorem dX4_holder_22 : decode cX4_holder 22 = .ok (.goto 5, 3) := by decide +kernel
theorem dX4_holder_25 : decode cX4_holder 25 = .ok (.bipush 93, 2) := by decide +kernel
theorem dX4_holder_27 : decode cX4_holder 27 = .ok (.istore 4, 2) := by decide +kernel
theorem dX4_holder_29 : decode cX4_holder 29 = .ok (.aload_n 0, 1) := by decide +kernel
theorem dX4_holder_30 : decode cX4_holder 30 = .ok (.dup, 1) := by decide +kernel
theorem dX4_holder_31 : decode cX4_holder 31 = .ok (.getfield 47, 3) := by decide +kernel
theorem dX4_holder_34 : decode cX4_holder 34 = .ok (.iconst 1, 1) := by decide +kernel
theorem dX4_holder_35 : decode cX4_holder 35 = .ok (.iadd, 1) := by decide +kernel
theorem dX4_holder_36 : decode cX4_holder 36 = .ok (.putfield 47, 3) := by decide +kernel
theorem dX4_holder_39 : decode cX4_holder 39 = .ok (.aload_n 0, 1) := by decide +kernel
theorem dX4_holder_40 : decode cX4_holder 40 = .ok (.invokevirtual 56, 3) := by decide +kernel
theorem dX4_holder_43 : decode cX4_holder 43 = .ok (.aload_n 0, 1) := by decide +kernel
theorem dX4_holder_44 : decode cX4_holder 44 = .ok (.invokevirtual 89, 3) := by decide +kernel
theorem dX4_holder_47 : decode cX4_holder 47 = .ok (.iload 4, 2) := by decide +kernel
theorem dX4_holder_49 : decode cX4_holder 49 = .ok (.if_icmp .ne 15, 3) := by decide +kernel
theorem dX4_holder_52 : decode cX4_holder 52 = .ok (.aload_n 0, 1) := by decide +kernel
theorem dX4_holder_53 : decode cX4_holder 53 = .ok (.dup, 1) := by decide +kernel
theorem dX4_holder_54 : decode cX4_holder 54 = .ok (.getfield 47, 3) := by decide +kernel
theorem dX4_holder_57 : decode cX4_holder 57 = .ok (.iconst 1, 1) := by decide +kernel
theorem dX4_holder_58 : decode cX4_holder 58 = .ok (.iadd, 1) := by decide +kernel
theorem dX4_holder_59 : decode cX4_holder 59 = .ok (.putfield 47, 3) := by decide +kernel
theorem dX4_holder_62 : decode cX4_holder 62 = .ok (.iload_n 3, 1) := by decide +kernel
theorem dX4_holder_63 : decode cX4_holder 63 = .ok (.ireturn, 1) := by decide +kernel
theorem dX4_holder_64 : decode cX4_holder 64 = .ok (.iconst (-1), 1) := by decide +kernel
theorem dX4_holder_65 : decode cX4_holder 65 = .ok (.istore 5, 2) := by decide +kernel
theorem dX4_holder_67 : decode cX4_holder 67 = .ok (.iconst 0, 1) := by decide +kernel
theorem dX4_holder_68 : decode cX4_holder 68 = .ok (.istore 6, 2) := by decide +kernel
theorem dX4_holder_70 : decode cX4_holder 70 = .ok (.iload 6, 2) := by decide +kernel
theorem dX4_holder_72 : decode cX4_holder 72 = .ok (.sipush 1502, 3) := by decide +kernel
theorem dX4_holder_75 : decode cX4_holder 75 = .ok (.if_icmp .ge 169, 3) := by decide +kernel
theorem dX4_holder_78 : decode cX4_holder 78 = .ok (.iload_n 3, 1) := by decide +kernel
theorem dX4_holder_79 : decode cX4_holder 79 = .ok (.ifCond .lt 165, 3) := by decide +kernel
theorem dX4_holder_82 : decode cX4_holder 82 = .ok (.aload_n 0, 1) := by decide +kernel
theorem dX4_holder_83 : decode cX4_holder 83 = .ok (.getfield 53, 3) := by decide +kernel
theorem dX4_holder_86 : decode cX4_holder 86 = .ok (.istore 7, 2) := by decide +kernel
theorem dX4_holder_88 : decode cX4_holder 88 = .ok (.iload_n 2, 1) := by decide +kernel
theorem dX4_holder_89 : decode cX4_holder 89 = .ok (.ifCond .eq 12, 3) := by decide +kernel
theorem dX4_holder_92 : decode cX4_holder 92 = .ok (.aload_n 0, 1) := by decide +kernel
theorem dX4_holder_93 : decode cX4_holder 93 = .ok (.invokevirtual 100, 3) := by decide +kernel
theorem dX4_holder_96 : decode cX4_holder 96 = .ok (.ifCond .ne 5, 3) := by decide +kernel
theorem dX4_holder_99 : decode cX4_holder 99 = .ok (.iconst (-1), 1) := by decide +kernel
theorem dX4_holder_100 : decode cX4_holder 100 = .ok (.ireturn, 1) := by decide +kernel
theorem dX4_holder_101 : decode cX4_holder 101 = .ok (.aload_n 0, 1) := by decide +kernel
theorem dX4_holder_102 : decode cX4_holder 102 = .ok (.getfield 53, 3) := by decide +kernel
theorem dX4_holder_105 : decode cX4_holder 105 = .ok (.iload 7, 2) := by decide +kernel
theorem dX4_holder_107 : decode cX4_holder 107 = .ok (.isub, 1) := by decide +kernel
theorem dX4_holder_108 : decode cX4_holder 108 = .ok (.istore 8, 2) := by decide +kernel
theorem dX4_holder_110 : decode cX4_holder 110 = .ok (.iload_n 2, 1) := by decide +kernel
theorem dX4_holder_111 : decode cX4_holder 111 = .ok (.ifCond .eq 12, 3) := by decide +kernel
theorem dX4_holder_114 : decode cX4_holder 114 = .ok (.aload_n 0, 1) := by decide +kernel
theorem dX4_holder_115 : decode cX4_holder 115 = .ok (.invokevirtual 124, 3) := by decide +kernel
theorem dX4_holder_118 : decode cX4_holder 118 = .ok (.ifCond .ne 5, 3) := by decide +kernel
theorem dX4_holder_121 : decode cX4_holder 121 = .ok (.iconst (-1), 1) := by decide +kernel
theorem dX4_holder_122 : decode cX4_holder 122 = .ok (.ireturn, 1) := by decide +kernel
theorem dX4_holder_123 : decode cX4_holder 123 = .ok (.aload_n 0, 1) := by decide +kernel
theorem dX4_holder_124 : decode cX4_holder 124 = .ok (.iload_n 1, 1) := by decide +kernel
theorem dX4_holder_125 : decode cX4_holder 125 = .ok (.invokevirtual 59, 3) := by decide +kernel
theorem dX4_holder_128 : decode cX4_holder 128 = .ok (.istore 9, 2) := by decide +kernel
theorem dX4_holder_130 : decode cX4_holder 130 = .ok (.iload 9, 2) := by decide +kernel
theorem dX4_holder_132 : decode cX4_holder 132 = .ok (.ifCond .ge 5, 3) := by decide +kernel
theorem dX4_holder_135 : decode cX4_holder 135 = .ok (.iconst (-1), 1) := by decide +kernel
theorem dX4_holder_136 : decode cX4_holder 136 = .ok (.ireturn, 1) := by decide +kernel
theorem dX4_holder_137 : decode cX4_holder 137 = .ok (.aload_n 0, 1) := by decide +kernel
theorem dX4_holder_138 : decode cX4_holder 138 = .ok (.getfield 24, 3) := by decide +kernel
theorem dX4_holder_141 : decode cX4_holder 141 = .ok (.iload 9, 2) := by decide +kernel
theorem dX4_holder_143 : decode cX4_holder 143 = .ok (.iload 7, 2) := by decide +kernel
theorem dX4_holder_145 : decode cX4_holder 145 = .ok (.iastore, 1) := by decide +kernel
theorem dX4_holder_146 : decode cX4_holder 146 = .ok (.aload_n 0, 1) := by decide +kernel
theorem dX4_holder_147 : decode cX4_holder 147 = .ok (.getfield 27, 3) := by decide +kernel
theorem dX4_holder_150 : decode cX4_holder 150 = .ok (.iload 9, 2) := by decide +kernel
theorem dX4_holder_152 : decode cX4_holder 152 = .ok (.iload 8, 2) := by decide +kernel
theorem dX4_holder_154 : decode cX4_holder 154 = .ok (.iastore, 1) := by decide +kernel
theorem dX4_holder_155 : decode cX4_holder 155 = .ok (.iload 5, 2) := by decide +kernel
theorem dX4_holder_157 : decode cX4_holder 157 = .ok (.ifCond .ge 14, 3) := by decide +kernel
theorem dX4_holder_160 : decode cX4_holder 160 = .ok (.aload_n 0, 1) := by decide +kernel
theorem dX4_holder_161 : decode cX4_holder 161 = .ok (.getfield 15, 3) := by decide +kernel
theorem dX4_holder_164 : decode cX4_holder 164 = .ok (.iload_n 3, 1) := by decide +kernel
theorem dX4_holder_165 : decode cX4_holder 165 = .ok (.iload 9, 2) := by decide +kernel
theorem dX4_holder_167 : decode cX4_holder 167 = .ok (.iastore, 1) := by decide +kernel
theorem dX4_holder_168 : decode cX4_holder 168 = .ok (.goto 12, 3) := by decide +kernel
theorem dX4_holder_171 : decode cX4_holder 171 = .ok (.aload_n 0, 1) := by decide +kernel
theorem dX4_holder_172 : decode cX4_holder 172 = .ok (.getfield 21, 3) := by decide +kernel
theorem dX4_holder_175 : decode cX4_holder 175 = .ok (.iload 5, 2) := by decide +kernel
theorem dX4_holder_177 : decode cX4_holder 177 = .ok (.iload 9, 2) := by decide +kernel
theorem dX4_holder_179 : decode cX4_holder 179 = .ok (.iastore, 1) := by decide +kernel
theorem dX4_holder_180 : decode cX4_holder 180 = .ok (.iload 9, 2) := by decide +kernel
theorem dX4_holder_182 : decode cX4_holder 182 = .ok (.istore 5, 2) := by decide +kernel
theorem dX4_holder_184 : decode cX4_holder 184 = .ok (.aload_n 0, 1) := by decide +kernel
theorem dX4_holder_185 : decode cX4_holder 185 = .ok (.getfield 18, 3) := by decide +kernel
theorem dX4_holder_188 : decode cX4_holder 188 = .ok (.iload_n 3, 1) := by decide +kernel
theorem dX4_holder_189 : decode cX4_holder 189 = .ok (.dup2, 1) := by decide +kernel
theorem dX4_holder_190 : decode cX4_holder 190 = .ok (.iaload, 1) := by decide +kernel
theorem dX4_holder_191 : decode cX4_holder 191 = .ok (.iconst 1, 1) := by decide +kernel
theorem dX4_holder_192 : decode cX4_holder 192 = .ok (.iadd, 1) := by decide +kernel
theorem dX4_holder_193 : decode cX4_holder 193 = .ok (.iastore, 1) := by decide +kernel
theorem dX4_holder_194 : decode cX4_holder 194 = .ok (.aload_n 0, 1) := by decide +kernel
theorem dX4_holder_195 : decode cX4_holder 195 = .ok (.invokevirtual 56, 3) := by decide +kernel
theorem dX4_holder_198 : decode cX4_holder 198 = .ok (.aload_n 0, 1) := by decide +kernel
theorem dX4_holder_199 : decode cX4_holder 199 = .ok (.invokevirtual 89, 3) := by decide +kernel
theorem dX4_holder_202 : decode cX4_holder 202 = .ok (.istore 10, 2) := by decide +kernel
theorem dX4_holder_204 : decode cX4_holder 204 = .ok (.aload_n 0, 1) := by decide +kernel
theorem dX4_holder_205 : decode cX4_holder 205 = .ok (.dup, 1) := by decide +kernel
theorem dX4_holder_206 : decode cX4_holder 206 = .ok (.getfield 47, 3) := by decide +kernel
theorem dX4_holder_209 : decode cX4_holder 209 = .ok (.iconst 1, 1) := by decide +kernel
theorem dX4_holder_210 : decode cX4_holder 210 = .ok (.iadd, 1) := by decide +kernel
theorem dX4_holder_211 : decode cX4_holder 211 = .ok (.putfield 47, 3) := by decide +kernel
theorem dX4_holder_214 : decode cX4_holder 214 = .ok (.iload 10, 2) := by decide +kernel
theorem dX4_holder_216 : decode cX4_holder 216 = .ok (.bipush 44, 2) := by decide +kernel
theorem dX4_holder_218 : decode cX4_holder 218 = .ok (.if_icmp .eq 16, 3) := by decide +kernel
theorem dX4_holder_221 : decode cX4_holder 221 = .ok (.iload 10, 2) := by decide +kernel
theorem dX4_holder_223 : decode cX4_holder 223 = .ok (.iload 4, 2) := by decide +kernel
theorem dX4_holder_225 : decode cX4_holder 225 = .ok (.if_icmp .ne 7, 3) := by decide +kernel
theorem dX4_holder_228 : decode cX4_holder 228 = .ok (.iload_n 3, 1) := by decide +kernel
theorem dX4_holder_229 : decode cX4_holder 229 = .ok (.goto 4, 3) := by decide +kernel
theorem dX4_holder_232 : decode cX4_holder 232 = .ok (.iconst (-1), 1) := by decide +kernel
theorem dX4_holder_233 : decode cX4_holder 233 = .ok (.ireturn, 1) := by decide +kernel
theorem dX4_holder_234 : decode cX4_holder 234 = .ok (.aload_n 0, 1) := by decide +kernel
theorem dX4_holder_235 : decode cX4_holder 235 = .ok (.invokevirtual 56, 3) := by decide +kernel
theorem dX4_holder_238 : decode cX4_holder 238 = .ok (.iinc 6 1, 3) := by decide +kernel
theorem dX4_holder_241 : decode cX4_holder 241 = .ok (.goto (-171), 3) := by decide +kernel
theorem dX4_holder_244 : decode cX4_holder 244 = .ok (.iconst (-1), 1) := by decide +kernel
theorem dX4_holder_245 : decode cX4_holder 245 = .ok (.ireturn, 1) := by decide +kernel
end
section
theorem dX4_read_0 : decode cX4_read 0 = .ok (.aload_n 0, 1) := by decide +kernel
theorem dX4_read_1 : decode cX4_read 1 = .ok (.aload_n 1, 1) := by decide +kernel
theorem dX4_read_2 : decode cX4_read 2 = .ok (.putfield 33, 3) := by decide +kernel
theorem dX4_read_5 : decode cX4_read 5 = .ok (.aload_n 0, 1) := by decide +kernel
theorem dX4_read_6 : decode cX4_read 6 = .ok (.iload_n 2, 1) := by decide +kernel
theorem dX4_read_7 : decode cX4_read 7 = .ok (.aload_n 1, 1) := by decide +kernel
theorem dX4_read_8 : decode cX4_read 8 = .ok (.arraylength, 1) := by decide +kernel
theorem dX4_read_9 : decode cX4_read 9 = .ok (.invokestatic 37, 3) := by decide +kernel
theorem dX4_read_12 : decode cX4_read 12 = .ok (.putfield 43, 3) := by decide +kernel
theorem dX4_read_15 : decode cX4_read 15 = .ok (.aload_n 0, 1) := by decide +kernel
theorem dX4_read_16 : decode cX4_read 16 = .ok (.iconst 0, 1) := by decide +kernel
theorem dX4_read_17 : decode cX4_read 17 = .ok (.putfield 47, 3) := by decide +kernel
theorem dX4_read_20 : decode cX4_read 20 = .ok (.aload_n 0, 1) := by decide +kernel
theorem dX4_read_21 : decode cX4_read 21 = .ok (.iconst 0, 1) := by decide +kernel
theorem dX4_read_22 : decode cX4_read 22 = .ok (.putfield 50, 3) := by decide +kernel
theorem dX4_read_25 : decode cX4_read 25 = .ok (.aload_n 0, 1) := by decide +kernel
theorem dX4_read_26 : decode cX4_read 26 = .ok (.iconst 0, 1) := by decide +kernel
theorem dX4_read_27 : decode cX4_read 27 = .ok (.putfield 53, 3) := by decide +kernel
theorem dX4_read_30 : decode cX4_read 30 = .ok (.aload_n 0, 1) := by decide +kernel
theorem dX4_read_31 : decode cX4_read 31 = .ok (.invokevirtual 56, 3) := by decide +kernel
theorem dX4_read_34 : decode cX4_read 34 = .ok (.aload_n 0, 1) := by decide +kernel
theorem dX4_read_35 : decode cX4_read 35 = .ok (.iconst 0, 1) := by decide +kernel
theorem dX4_read_36 : decode cX4_read 36 = .ok (.invokevirtual 59, 3) := by decide +kernel
theorem dX4_read_39 : decode cX4_read 39 = .ok (.istore_n 3, 1) := by decide +kernel
theorem dX4_read_40 : decode cX4_read 40 = .ok (.aload_n 0, 1) := by decide +kernel
theorem dX4_read_41 : decode cX4_read 41 = .ok (.invokevirtual 56, 3) := by decide +kernel
theorem dX4_read_44 : decode cX4_read 44 = .ok (.iload_n 3, 1) := by decide +kernel
theorem dX4_read_45 : decode cX4_read 45 = .ok (.ifCond .ne 18, 3) := by decide +kernel
theorem dX4_read_48 : decode cX4_read 48 = .ok (.aload_n 0, 1) := by decide +kernel
theorem dX4_read_49 : decode cX4_read 49 = .ok (.getfield 47, 3) := by decide +kernel
theorem dX4_read_52 : decode cX4_read 52 = .ok (.aload_n 0, 1) := by decide +kernel
theorem dX4_read_53 : decode cX4_read 53 = .ok (.getfield 43, 3) := by decide +kernel
theorem dX4_read_56 : decode cX4_read 56 = .ok (.if_icmp .ne 7, 3) := by decide +kernel
theorem dX4_read_59 : decode cX4_read 59 = .ok (.iconst 1, 1) := by decide +kernel
theorem dX4_read_60 : decode cX4_read 60 = .ok (.goto 4, 3) := by decide +kernel
theorem dX4_read_63 : decode cX4_read 63 = .ok (.iconst 0, 1) := by decide +kernel
theorem dX4_read_64 : decode cX4_read 64 = .ok (.ireturn, 1) := by decide +kernel
end
