theorem dX7_signText_0 : decode cX7_signText 0 = .ok (.iload_n 0, 1) := by decide +kernel
theorem dX7_signText_1 : decode cX7_signText 1 = .ok (.tableswitch 114 1 18 #[87, 90, 93, 96, 99, 102, 114, 114, 114, 114, 114, 114, 114, 114, 114, 105, 108, 111], 87) := by decide +kernel
theorem dX7_signText_88 : decode cX7_signText 88 = .ok (.ldc 126, 2) := by decide +kernel
theorem dX7_signText_90 : decode cX7_signText 90 = .ok (.areturn, 1) := by decide +kernel
theorem dX7_signText_91 : decode cX7_signText 91 = .ok (.ldc 128, 2) := by decide +kernel
theorem dX7_signText_93 : decode cX7_signText 93 = .ok (.areturn, 1) := by decide +kernel
theorem dX7_signText_94 : decode cX7_signText 94 = .ok (.ldc 130, 2) := by decide +kernel
theorem dX7_signText_96 : decode cX7_signText 96 = .ok (.areturn, 1) := by decide +kernel
theorem dX7_signText_97 : decode cX7_signText 97 = .ok (.ldc 132, 2) := by decide +kernel
theorem dX7_signText_99 : decode cX7_signText 99 = .ok (.areturn, 1) := by decide +kernel
theorem dX7_signText_100 : decode cX7_signText 100 = .ok (.ldc 134, 2) := by decide +kernel
theorem dX7_signText_102 : decode cX7_signText 102 = .ok (.areturn, 1) := by decide +kernel
theorem dX7_signText_103 : decode cX7_signText 103 = .ok (.ldc 136, 2) := by decide +kernel
theorem dX7_signText_105 : decode cX7_signText 105 = .ok (.areturn, 1) := by decide +kernel
theorem dX7_signText_106 : decode cX7_signText 106 = .ok (.ldc 138, 2) := by decide +kernel
theorem dX7_signText_108 : decode cX7_signText 108 = .ok (.areturn, 1) := by decide +kernel
theorem dX7_signText_109 : decode cX7_signText 109 = .ok (.ldc 140, 2) := by decide +kernel
theorem dX7_signText_111 : decode cX7_signText 111 = .ok (.areturn, 1) := by decide +kernel
theorem dX7_signText_112 : decode cX7_signText 112 = .ok (.ldc 78, 2) := by decide +kernel
theorem dX7_signText_114 : decode cX7_signText 114 = .ok (.areturn, 1) := by decide +kernel
theorem dX7_signText_115 : decode cX7_signText 115 = .ok (.ldc 142, 2) := by decide +kernel
theorem dX7_signText_117 : decode cX7_signText 117 = .ok (.areturn, 1) := by decide +kernel
theorem dX11_errorText_0 : decode cX11_errorText 0 = .ok (.iload_n 0, 1) := by decide +kernel
theorem dX11_errorText_1 : decode cX11_errorText 1 = .ok (.lookupswitch 83 #[(-32800, 79), (-32700, 59), (-32602, 71), (-32601, 67), (-32600, 63), (-32002, 75)], 59) := by decide +kernel
theorem dX11_errorText_60 : decode cX11_errorText 60 = .ok (.ldc_w 477, 3) := by decide +kernel
theorem dX11_errorText_63 : decode cX11_errorText 63 = .ok (.areturn, 1) := by decide +kernel
theorem dX11_errorText_64 : decode cX11_errorText 64 = .ok (.ldc_w 479, 3) := by decide +kernel
theorem dX11_errorText_67 : decode cX11_errorText 67 = .ok (.areturn, 1) := by decide +kernel
theorem dX11_errorText_68 : decode cX11_errorText 68 = .ok (.ldc_w 481, 3) := by decide +kernel
theorem dX11_errorText_71 : decode cX11_errorText 71 = .ok (.areturn, 1) := by decide +kernel
theorem dX11_errorText_72 : decode cX11_errorText 72 = .ok (.ldc_w 483, 3) := by decide +kernel
theorem dX11_errorText_75 : decode cX11_errorText 75 = .ok (.areturn, 1) := by decide +kernel
theorem dX11_errorText_76 : decode cX11_errorText 76 = .ok (.ldc_w 485, 3) := by decide +kernel
theorem dX11_errorText_79 : decode cX11_errorText 79 = .ok (.areturn, 1) := by decide +kernel
theorem dX11_errorText_80 : decode cX11_errorText 80 = .ok (.ldc_w 487, 3) := by decide +kernel
theorem dX11_errorText_83 : decode cX11_errorText 83 = .ok (.areturn, 1) := by decide +kernel
theorem dX11_errorText_84 : decode cX11_errorText 84 = .ok (.ldc_w 489, 3) := by decide +kernel
theorem dX11_errorText_87 : decode cX11_errorText 87 = .ok (.areturn, 1) := by decide +kernel
theorem dX11_faultText_0 : decode cX11_faultText 0 = .ok (.iload_n 0, 1) := by decide +kernel
theorem dX11_faultText_1 : decode cX11_faultText 1 = .ok (.tableswitch 79 1 8 #[47, 51, 55, 59, 63, 67, 71, 75], 47) := by decide +kernel
theorem dX11_faultText_48 : decode cX11_faultText 48 = .ok (.ldc_w 543, 3) := by decide +kernel
theorem dX11_faultText_51 : decode cX11_faultText 51 = .ok (.areturn, 1) := by decide +kernel
theorem dX11_faultText_52 : decode cX11_faultText 52 = .ok (.ldc_w 545, 3) := by decide +kernel
theorem dX11_faultText_55 : decode cX11_faultText 55 = .ok (.areturn, 1) := by decide +kernel
theorem dX11_faultText_56 : decode cX11_faultText 56 = .ok (.ldc_w 547, 3) := by decide +kernel
theorem dX11_faultText_59 : decode cX11_faultText 59 = .ok (.areturn, 1) := by decide +kernel
theorem dX11_faultText_60 : decode cX11_faultText 60 = .ok (.ldc_w 548, 3) := by decide +kernel
theorem dX11_faultText_63 : decode cX11_faultText 63 = .ok (.areturn, 1) := by decide +kernel
theorem dX11_faultText_64 : decode cX11_faultText 64 = .ok (.ldc_w 550, 3) := by decide +kernel
theorem dX11_faultText_67 : decode cX11_faultText 67 = .ok (.areturn, 1) := by decide +kernel
theorem dX11_faultText_68 : decode cX11_faultText 68 = .ok (.ldc_w 552, 3) := by decide +kernel
theorem dX11_faultText_71 : decode cX11_faultText 71 = .ok (.areturn, 1) := by decide +kernel
theorem dX11_faultText_72 : decode cX11_faultText 72 = .ok (.ldc_w 554, 3) := by decide +kernel
theorem dX11_faultText_75 : decode cX11_faultText 75 = .ok (.areturn, 1) := by decide +kernel
theorem dX11_faultText_76 : decode cX11_faultText 76 = .ok (.ldc_w 556, 3) := by decide +kernel
theorem dX11_faultText_79 : decode cX11_faultText 79 = .ok (.areturn, 1) := by decide +kernel
theorem dX11_faultText_80 : decode cX11_faultText 80 = .ok (.ldc_w 558, 3) := by decide +kernel
theorem dX11_faultText_83 : decode cX11_faultText 83 = .ok (.areturn, 1) := by decide +kernel
def EX11_errorText : List (Nat × Nat) := []
def EX11_faultText : List (Nat × Nat) := []
def EX7_signText : List (Nat × Nat) := []
def qtx842 : String := match tables_1[842]? with | some (Jvm.Cond.stringRef _ _ t) => t | _ => ""
def qtx1246 : String := match tables_1[1246]? with | some (Jvm.Cond.stringRef _ _ t) => t | _ => ""
def qtx1242 : String := match tables_1[1242]? with | some (Jvm.Cond.stringRef _ _ t) => t | _ => ""
set_option maxHeartbeats 4000000 in
set_option maxRecDepth 20000 in
theorem uX11_errorText (l : Launch) (dC : Nat → ClassId) (dI : Nat → Nat → Nat) (ca : Nat → ClassId) (base : Nat) (B : jF) (hB : jBok B) (hAp : jAp (dC, dI)) (G0 : jT) (H0 : Heap) (a0 : Int32) : Met l yX11_errorText (jw yX11_errorText cX11_errorText 1 (some (.object "java/lang/String"))) ({ frames := 0, cells := 0, slots := 0, locals := 0 }) (va_Pc [.int a0] (fun U => U.heap = H0 ∧ jX B base G0 [] H0 ∧ jG dC dI ca base U ∧ jP (dC, dI) G0 H0 [] ∧ True)) (jQx (S := Nat × Nat) (fun v u => v = .ref u.1 ∧ u.2 < 2147483648) (fun u t => jRt (dC, dI) B base G0 EX11_errorText H0 [] t.heap ∧ jStr base u.1 u.2 t t.heap) (jA base)) 0 0 (jA base) := by
  refine Met.ofW (cc := cX11_errorText) (maxL := 1) (ret := (some (.object "java/lang/String"))) (by decide) rfl ?_
  intro p e s m args below meth c s₁ Bd hml hv
  obtain ⟨rfl, hH0, hX, hG, hP0, hp0⟩ := hv
  have hK := hG.1
  have hx := Bd.exec
  have hb := Bd.bytes
  have hr := Bd.returns
  have hts := atoms_spec (ws := (jw yX11_errorText cX11_errorText 1 (some (.object "java/lang/String")))) Bd.pre
  have htw : ∀ w ∈ jWl, w.before _ s = true := fun w h => hts w (List.mem_cons_of_mem _ h)
  have hown : s.vm.findClass RX11 = some m.cls := findClass_of_methodNamed Bd.named
  have hlocks := Bd.notSynchronized
  obtain ⟨Q, hQ⟩ : ∃ Q, Q = MQ below (jQx (S := Nat × Nat) (fun v u => v = .ref u.1 ∧ u.2 < 2147483648) (fun u t => jRt (dC, dI) B base G0 EX11_errorText H0 [] t.heap ∧ jStr base u.1 u.2 t t.heap) (jA base)) ([.int a0] : List Value).toArray s 0 0 (jA base) := ⟨_, rfl⟩
  rw [← hQ]
  have hl := lv_entry ([.int a0]) (n := 1) (Nat.le_of_ble_eq_true rfl)
  rw [lg_entry_eq]
  generalize (lg_sl ([.int a0]) ++ List.replicate (1 - (lg_sl ([.int a0])).length) Slot.unset).toArray = ls at hl ⊢
  have hl : lv_has ls 1 [(0, .int a0)] := hl
  generalize hR : (headSpec (jw yX11_errorText cX11_errorText 1 (some (.object "java/lang/String"))) ({ frames := 0, cells := 0, slots := 0, locals := 0 })).room = R
  subst hH0
  have hh : jSt (dC, dI) B base G0 G0 EX11_errorText s.heap 0 0 [] [] [] s.heap [] := jSt.start hX hP0 jMc.nil jIs.nil
  clear hX hP0
  have hk0 : (0 : Int32).toInt = 0 := by decide
  have hk1 : (1 : Int32).toInt = 1 := by decide
  obtain ⟨str477, rstr477, hstr4770⟩ := hG.str (o := RX11) (k := 477) (tx := "not json") (List.mem_of_getElem? (i := 838) (by decide +kernel))
  have hstr477 : jStr base str477 8 s s.heap := hstr4770
  obtain ⟨str479, rstr479, hstr4790⟩ := hG.str (o := RX11) (k := 479) (tx := "no request") (List.mem_of_getElem? (i := 839) (by decide +kernel))
  have hstr479 : jStr base str479 10 s s.heap := hstr4790
  obtain ⟨str481, rstr481, hstr4810⟩ := hG.str (o := RX11) (k := 481) (tx := "no method") (List.mem_of_getElem? (i := 840) (by decide +kernel))
  have hstr481 : jStr base str481 9 s s.heap := hstr4810
  obtain ⟨str483, rstr483, hstr4830⟩ := hG.str (o := RX11) (k := 483) (tx := "bad params") (List.mem_of_getElem? (i := 841) (by decide +kernel))
  have hstr483 : jStr base str483 10 s s.heap := hstr4830
  obtain ⟨str485, rstr485, hstr4850⟩ := hG.str (o := RX11) (k := 485) (tx := qtx842) (List.mem_of_getElem? (i := 842) (by decide +kernel))
  have h9str485 : qtx842.length = 15 := by decide +kernel
  have hstr485 : jStr base str485 15 s s.heap := by rw [h9str485] at hstr4850; exact hstr4850
  obtain ⟨str487, rstr487, hstr4870⟩ := hG.str (o := RX11) (k := 487) (tx := "cancelled") (List.mem_of_getElem? (i := 843) (by decide +kernel))
  have hstr487 : jStr base str487 9 s s.heap := hstr4870
  obtain ⟨str489, rstr489, hstr4890⟩ := hG.str (o := RX11) (k := 489) (tx := "modified") (List.mem_of_getElem? (i := 844) (by decide +kernel))
  have hstr489 : jStr base str489 8 s s.heap := hstr4890
  have hrg_a0 := jb_rng a0
  refine lv_iload_n hx hb dX11_errorText_0 rfl (lv_at hl 0 rfl) ?_
  rcases (by omega : (a0.toInt ≠ (-32800) ∧ a0.toInt ≠ (-32700) ∧ a0.toInt ≠ (-32602) ∧ a0.toInt ≠ (-32601) ∧ a0.toInt ≠ (-32600) ∧ a0.toInt ≠ (-32002)) ∨ a0.toInt = (-32800) ∨ a0.toInt = (-32700) ∨ a0.toInt = (-32602) ∨ a0.toInt = (-32601) ∨ a0.toInt = (-32600) ∨ a0.toInt = (-32002)) with c_1 | c_1 | c_1 | c_1 | c_1 | c_1 | c_1
  · refine lv_lookup (off := 83) (tgt := 84) hx hb dX11_errorText_1 (by decide) (by show Op.lookupswitch.offset [((-32800), 79), ((-32700), 59), ((-32602), 71), ((-32601), 67), ((-32600), 63), ((-32002), 75)] 83 a0.toInt = 83; simp only [Op.lookupswitch.offset]; rw [if_neg (by omega), if_neg (by omega), if_neg (by omega), if_neg (by omega), if_neg (by omega), if_neg (by omega)]) (by decide) ?_
    refine j_ldcSw hx hb hown rstr489 dX11_errorText_84 ?_
    rw [hQ]
    exact W.aret (v := .ref str489) hx hb hr (Or.inl ⟨_, rfl⟩) (Or.inr ⟨_, rfl⟩) (fun t ht hW => ⟨⟨.ref str489, (str489, 8), rfl, ⟨rfl, by show (8 : Nat) < 2147483648; omega⟩, ⟨hh.rt (M1 := []) [] rfl ht, by rw [ht]; exact (hstr489.moved hW.alike).kept hh.1.2.1⟩⟩, by rw [ht]; try exact hh.1.1, fun q h9 hq => by rw [ht]; try exact hh.1.2.1 q h9 hq⟩) hh.1.2.2 dX11_errorText_87
  · refine lv_lookup (off := 79) (tgt := 80) hx hb dX11_errorText_1 (by decide) (by rw [c_1]; rfl) (by decide) ?_
    refine j_ldcSw hx hb hown rstr487 dX11_errorText_80 ?_
    rw [hQ]
    exact W.aret (v := .ref str487) hx hb hr (Or.inl ⟨_, rfl⟩) (Or.inr ⟨_, rfl⟩) (fun t ht hW => ⟨⟨.ref str487, (str487, 9), rfl, ⟨rfl, by show (9 : Nat) < 2147483648; omega⟩, ⟨hh.rt (M1 := []) [] rfl ht, by rw [ht]; exact (hstr487.moved hW.alike).kept hh.1.2.1⟩⟩, by rw [ht]; try exact hh.1.1, fun q h9 hq => by rw [ht]; try exact hh.1.2.1 q h9 hq⟩) hh.1.2.2 dX11_errorText_83
  · refine lv_lookup (off := 59) (tgt := 60) hx hb dX11_errorText_1 (by decide) (by rw [c_1]; rfl) (by decide) ?_
    refine j_ldcSw hx hb hown rstr477 dX11_errorText_60 ?_
    rw [hQ]
    exact W.aret (v := .ref str477) hx hb hr (Or.inl ⟨_, rfl⟩) (Or.inr ⟨_, rfl⟩) (fun t ht hW => ⟨⟨.ref str477, (str477, 8), rfl, ⟨rfl, by show (8 : Nat) < 2147483648; omega⟩, ⟨hh.rt (M1 := []) [] rfl ht, by rw [ht]; exact (hstr477.moved hW.alike).kept hh.1.2.1⟩⟩, by rw [ht]; try exact hh.1.1, fun q h9 hq => by rw [ht]; try exact hh.1.2.1 q h9 hq⟩) hh.1.2.2 dX11_errorText_63
  · refine lv_lookup (off := 71) (tgt := 72) hx hb dX11_errorText_1 (by decide) (by rw [c_1]; rfl) (by decide) ?_
    refine j_ldcSw hx hb hown rstr483 dX11_errorText_72 ?_
    rw [hQ]
    exact W.aret (v := .ref str483) hx hb hr (Or.inl ⟨_, rfl⟩) (Or.inr ⟨_, rfl⟩) (fun t ht hW => ⟨⟨.ref str483, (str483, 10), rfl, ⟨rfl, by show (10 : Nat) < 2147483648; omega⟩, ⟨hh.rt (M1 := []) [] rfl ht, by rw [ht]; exact (hstr483.moved hW.alike).kept hh.1.2.1⟩⟩, by rw [ht]; try exact hh.1.1, fun q h9 hq => by rw [ht]; try exact hh.1.2.1 q h9 hq⟩) hh.1.2.2 dX11_errorText_75
  · refine lv_lookup (off := 67) (tgt := 68) hx hb dX11_errorText_1 (by decide) (by rw [c_1]; rfl) (by decide) ?_
    refine j_ldcSw hx hb hown rstr481 dX11_errorText_68 ?_
    rw [hQ]
    exact W.aret (v := .ref str481) hx hb hr (Or.inl ⟨_, rfl⟩) (Or.inr ⟨_, rfl⟩) (fun t ht hW => ⟨⟨.ref str481, (str481, 9), rfl, ⟨rfl, by show (9 : Nat) < 2147483648; omega⟩, ⟨hh.rt (M1 := []) [] rfl ht, by rw [ht]; exact (hstr481.moved hW.alike).kept hh.1.2.1⟩⟩, by rw [ht]; try exact hh.1.1, fun q h9 hq => by rw [ht]; try exact hh.1.2.1 q h9 hq⟩) hh.1.2.2 dX11_errorText_71
  · refine lv_lookup (off := 63) (tgt := 64) hx hb dX11_errorText_1 (by decide) (by rw [c_1]; rfl) (by decide) ?_
    refine j_ldcSw hx hb hown rstr479 dX11_errorText_64 ?_
    rw [hQ]
    exact W.aret (v := .ref str479) hx hb hr (Or.inl ⟨_, rfl⟩) (Or.inr ⟨_, rfl⟩) (fun t ht hW => ⟨⟨.ref str479, (str479, 10), rfl, ⟨rfl, by show (10 : Nat) < 2147483648; omega⟩, ⟨hh.rt (M1 := []) [] rfl ht, by rw [ht]; exact (hstr479.moved hW.alike).kept hh.1.2.1⟩⟩, by rw [ht]; try exact hh.1.1, fun q h9 hq => by rw [ht]; try exact hh.1.2.1 q h9 hq⟩) hh.1.2.2 dX11_errorText_67
  · refine lv_lookup (off := 75) (tgt := 76) hx hb dX11_errorText_1 (by decide) (by rw [c_1]; rfl) (by decide) ?_
    refine j_ldcSw hx hb hown rstr485 dX11_errorText_76 ?_
    rw [hQ]
    exact W.aret (v := .ref str485) hx hb hr (Or.inl ⟨_, rfl⟩) (Or.inr ⟨_, rfl⟩) (fun t ht hW => ⟨⟨.ref str485, (str485, 15), rfl, ⟨rfl, by show (15 : Nat) < 2147483648; omega⟩, ⟨hh.rt (M1 := []) [] rfl ht, by rw [ht]; exact (hstr485.moved hW.alike).kept hh.1.2.1⟩⟩, by rw [ht]; try exact hh.1.1, fun q h9 hq => by rw [ht]; try exact hh.1.2.1 q h9 hq⟩) hh.1.2.2 dX11_errorText_79
set_option maxHeartbeats 4000000 in
set_option maxRecDepth 20000 in
theorem uX11_faultText (l : Launch) (dC : Nat → ClassId) (dI : Nat → Nat → Nat) (ca : Nat → ClassId) (base : Nat) (B : jF) (hB : jBok B) (hAp : jAp (dC, dI)) (G0 : jT) (H0 : Heap) (a0 : Int32) : Met l yX11_faultText (jw yX11_faultText cX11_faultText 1 (some (.object "java/lang/String"))) ({ frames := 0, cells := 0, slots := 0, locals := 0 }) (va_Pc [.int a0] (fun U => U.heap = H0 ∧ jX B base G0 [] H0 ∧ jG dC dI ca base U ∧ jP (dC, dI) G0 H0 [] ∧ True)) (jQx (S := Nat × Nat) (fun v u => v = .ref u.1 ∧ u.2 < 2147483648) (fun u t => jRt (dC, dI) B base G0 EX11_faultText H0 [] t.heap ∧ jStr base u.1 u.2 t t.heap) (jA base)) 0 0 (jA base) := by
  refine Met.ofW (cc := cX11_faultText) (maxL := 1) (ret := (some (.object "java/lang/String"))) (by decide) rfl ?_
  intro p e s m args below meth c s₁ Bd hml hv
  obtain ⟨rfl, hH0, hX, hG, hP0, hp0⟩ := hv
  have hK := hG.1
  have hx := Bd.exec
  have hb := Bd.bytes
  have hr := Bd.returns
  have hts := atoms_spec (ws := (jw yX11_faultText cX11_faultText 1 (some (.object "java/lang/String")))) Bd.pre
  have htw : ∀ w ∈ jWl, w.before _ s = true := fun w h => hts w (List.mem_cons_of_mem _ h)
  have hown : s.vm.findClass RX11 = some m.cls := findClass_of_methodNamed Bd.named
  have hlocks := Bd.notSynchronized
  obtain ⟨Q, hQ⟩ : ∃ Q, Q = MQ below (jQx (S := Nat × Nat) (fun v u => v = .ref u.1 ∧ u.2 < 2147483648) (fun u t => jRt (dC, dI) B base G0 EX11_faultText H0 [] t.heap ∧ jStr base u.1 u.2 t t.heap) (jA base)) ([.int a0] : List Value).toArray s 0 0 (jA base) := ⟨_, rfl⟩
  rw [← hQ]
  have hl := lv_entry ([.int a0]) (n := 1) (Nat.le_of_ble_eq_true rfl)
  rw [lg_entry_eq]
  generalize (lg_sl ([.int a0]) ++ List.replicate (1 - (lg_sl ([.int a0])).length) Slot.unset).toArray = ls at hl ⊢
  have hl : lv_has ls 1 [(0, .int a0)] := hl
  generalize hR : (headSpec (jw yX11_faultText cX11_faultText 1 (some (.object "java/lang/String"))) ({ frames := 0, cells := 0, slots := 0, locals := 0 })).room = R
  subst hH0
  have hh : jSt (dC, dI) B base G0 G0 EX11_faultText s.heap 0 0 [] [] [] s.heap [] := jSt.start hX hP0 jMc.nil jIs.nil
  clear hX hP0
  have hk0 : (0 : Int32).toInt = 0 := by decide
  have hk1 : (1 : Int32).toInt = 1 := by decide
  obtain ⟨str543, rstr543, hstr5430⟩ := hG.str (o := RX11) (k := 543) (tx := "unfinished") (List.mem_of_getElem? (i := 1240) (by decide +kernel))
  have hstr543 : jStr base str543 10 s s.heap := hstr5430
  obtain ⟨str545, rstr545, hstr5450⟩ := hG.str (o := RX11) (k := 545) (tx := "too much") (List.mem_of_getElem? (i := 1241) (by decide +kernel))
  have hstr545 : jStr base str545 8 s s.heap := hstr5450
  obtain ⟨str547, rstr547, hstr5470⟩ := hG.str (o := RX11) (k := 547) (tx := qtx1242) (List.mem_of_getElem? (i := 1242) (by decide +kernel))
  have h9str547 : qtx1242.length = 6 := by decide +kernel
  have hstr547 : jStr base str547 6 s s.heap := by rw [h9str547] at hstr5470; exact hstr5470
  obtain ⟨str548, rstr548, hstr5480⟩ := hG.str (o := RX11) (k := 548) (tx := "not here") (List.mem_of_getElem? (i := 1243) (by decide +kernel))
  have hstr548 : jStr base str548 8 s s.heap := hstr5480
  obtain ⟨str550, rstr550, hstr5500⟩ := hG.str (o := RX11) (k := 550) (tx := "unknown") (List.mem_of_getElem? (i := 1244) (by decide +kernel))
  have hstr550 : jStr base str550 7 s s.heap := hstr5500
  obtain ⟨str552, rstr552, hstr5520⟩ := hG.str (o := RX11) (k := 552) (tx := "taken") (List.mem_of_getElem? (i := 1245) (by decide +kernel))
  have hstr552 : jStr base str552 5 s s.heap := hstr5520
  obtain ⟨str554, rstr554, hstr5540⟩ := hG.str (o := RX11) (k := 554) (tx := qtx1246) (List.mem_of_getElem? (i := 1246) (by decide +kernel))
  have h9str554 : qtx1246.length = 10 := by decide +kernel
  have hstr554 : jStr base str554 10 s s.heap := by rw [h9str554] at hstr5540; exact hstr5540
  obtain ⟨str556, rstr556, hstr5560⟩ := hG.str (o := RX11) (k := 556) (tx := "no match") (List.mem_of_getElem? (i := 1247) (by decide +kernel))
  have hstr556 : jStr base str556 8 s s.heap := hstr5560
  obtain ⟨str558, rstr558, hstr5580⟩ := hG.str (o := RX11) (k := 558) (tx := "too large") (List.mem_of_getElem? (i := 1248) (by decide +kernel))
  have hstr558 : jStr base str558 9 s s.heap := hstr5580
  have hrg_a0 := jb_rng a0
  refine lv_iload_n hx hb dX11_faultText_0 rfl (lv_at hl 0 rfl) ?_
  rcases (by omega : (a0.toInt < 1 ∨ 8 < a0.toInt) ∨ a0.toInt = 1 ∨ a0.toInt = 2 ∨ a0.toInt = 3 ∨ a0.toInt = 4 ∨ a0.toInt = 5 ∨ a0.toInt = 6 ∨ a0.toInt = 7 ∨ a0.toInt = 8) with c_1 | c_1 | c_1 | c_1 | c_1 | c_1 | c_1 | c_1 | c_1
  · refine lv_tableOut (tgt := 80) hx hb dX11_faultText_1 c_1 (by decide) ?_
    refine j_ldcSw hx hb hown rstr558 dX11_faultText_80 ?_
    rw [hQ]
    exact W.aret (v := .ref str558) hx hb hr (Or.inl ⟨_, rfl⟩) (Or.inr ⟨_, rfl⟩) (fun t ht hW => ⟨⟨.ref str558, (str558, 9), rfl, ⟨rfl, by show (9 : Nat) < 2147483648; omega⟩, ⟨hh.rt (M1 := []) [] rfl ht, by rw [ht]; exact (hstr558.moved hW.alike).kept hh.1.2.1⟩⟩, by rw [ht]; try exact hh.1.1, fun q h9 hq => by rw [ht]; try exact hh.1.2.1 q h9 hq⟩) hh.1.2.2 dX11_faultText_83
  · refine lv_tableIn (off := 47) (tgt := 48) hx hb dX11_faultText_1 (by omega) (by omega) (by rw [c_1]; rfl) (by decide) ?_
    refine j_ldcSw hx hb hown rstr543 dX11_faultText_48 ?_
    rw [hQ]
    exact W.aret (v := .ref str543) hx hb hr (Or.inl ⟨_, rfl⟩) (Or.inr ⟨_, rfl⟩) (fun t ht hW => ⟨⟨.ref str543, (str543, 10), rfl, ⟨rfl, by show (10 : Nat) < 2147483648; omega⟩, ⟨hh.rt (M1 := []) [] rfl ht, by rw [ht]; exact (hstr543.moved hW.alike).kept hh.1.2.1⟩⟩, by rw [ht]; try exact hh.1.1, fun q h9 hq => by rw [ht]; try exact hh.1.2.1 q h9 hq⟩) hh.1.2.2 dX11_faultText_51
  · refine lv_tableIn (off := 51) (tgt := 52) hx hb dX11_faultText_1 (by omega) (by omega) (by rw [c_1]; rfl) (by decide) ?_
    refine j_ldcSw hx hb hown rstr545 dX11_faultText_52 ?_
    rw [hQ]
    exact W.aret (v := .ref str545) hx hb hr (Or.inl ⟨_, rfl⟩) (Or.inr ⟨_, rfl⟩) (fun t ht hW => ⟨⟨.ref str545, (str545, 8), rfl, ⟨rfl, by show (8 : Nat) < 2147483648; omega⟩, ⟨hh.rt (M1 := []) [] rfl ht, by rw [ht]; exact (hstr545.moved hW.alike).kept hh.1.2.1⟩⟩, by rw [ht]; try exact hh.1.1, fun q h9 hq => by rw [ht]; try exact hh.1.2.1 q h9 hq⟩) hh.1.2.2 dX11_faultText_55
  · refine lv_tableIn (off := 55) (tgt := 56) hx hb dX11_faultText_1 (by omega) (by omega) (by rw [c_1]; rfl) (by decide) ?_
    refine j_ldcSw hx hb hown rstr547 dX11_faultText_56 ?_
    rw [hQ]
    exact W.aret (v := .ref str547) hx hb hr (Or.inl ⟨_, rfl⟩) (Or.inr ⟨_, rfl⟩) (fun t ht hW => ⟨⟨.ref str547, (str547, 6), rfl, ⟨rfl, by show (6 : Nat) < 2147483648; omega⟩, ⟨hh.rt (M1 := []) [] rfl ht, by rw [ht]; exact (hstr547.moved hW.alike).kept hh.1.2.1⟩⟩, by rw [ht]; try exact hh.1.1, fun q h9 hq => by rw [ht]; try exact hh.1.2.1 q h9 hq⟩) hh.1.2.2 dX11_faultText_59
  · refine lv_tableIn (off := 59) (tgt := 60) hx hb dX11_faultText_1 (by omega) (by omega) (by rw [c_1]; rfl) (by decide) ?_
    refine j_ldcSw hx hb hown rstr548 dX11_faultText_60 ?_
    rw [hQ]
    exact W.aret (v := .ref str548) hx hb hr (Or.inl ⟨_, rfl⟩) (Or.inr ⟨_, rfl⟩) (fun t ht hW => ⟨⟨.ref str548, (str548, 8), rfl, ⟨rfl, by show (8 : Nat) < 2147483648; omega⟩, ⟨hh.rt (M1 := []) [] rfl ht, by rw [ht]; exact (hstr548.moved hW.alike).kept hh.1.2.1⟩⟩, by rw [ht]; try exact hh.1.1, fun q h9 hq => by rw [ht]; try exact hh.1.2.1 q h9 hq⟩) hh.1.2.2 dX11_faultText_63
  · refine lv_tableIn (off := 63) (tgt := 64) hx hb dX11_faultText_1 (by omega) (by omega) (by rw [c_1]; rfl) (by decide) ?_
    refine j_ldcSw hx hb hown rstr550 dX11_faultText_64 ?_
    rw [hQ]
    exact W.aret (v := .ref str550) hx hb hr (Or.inl ⟨_, rfl⟩) (Or.inr ⟨_, rfl⟩) (fun t ht hW => ⟨⟨.ref str550, (str550, 7), rfl, ⟨rfl, by show (7 : Nat) < 2147483648; omega⟩, ⟨hh.rt (M1 := []) [] rfl ht, by rw [ht]; exact (hstr550.moved hW.alike).kept hh.1.2.1⟩⟩, by rw [ht]; try exact hh.1.1, fun q h9 hq => by rw [ht]; try exact hh.1.2.1 q h9 hq⟩) hh.1.2.2 dX11_faultText_67
  · refine lv_tableIn (off := 67) (tgt := 68) hx hb dX11_faultText_1 (by omega) (by omega) (by rw [c_1]; rfl) (by decide) ?_
    refine j_ldcSw hx hb hown rstr552 dX11_faultText_68 ?_
    rw [hQ]
    exact W.aret (v := .ref str552) hx hb hr (Or.inl ⟨_, rfl⟩) (Or.inr ⟨_, rfl⟩) (fun t ht hW => ⟨⟨.ref str552, (str552, 5), rfl, ⟨rfl, by show (5 : Nat) < 2147483648; omega⟩, ⟨hh.rt (M1 := []) [] rfl ht, by rw [ht]; exact (hstr552.moved hW.alike).kept hh.1.2.1⟩⟩, by rw [ht]; try exact hh.1.1, fun q h9 hq => by rw [ht]; try exact hh.1.2.1 q h9 hq⟩) hh.1.2.2 dX11_faultText_71
  · refine lv_tableIn (off := 71) (tgt := 72) hx hb dX11_faultText_1 (by omega) (by omega) (by rw [c_1]; rfl) (by decide) ?_
    refine j_ldcSw hx hb hown rstr554 dX11_faultText_72 ?_
    rw [hQ]
    exact W.aret (v := .ref str554) hx hb hr (Or.inl ⟨_, rfl⟩) (Or.inr ⟨_, rfl⟩) (fun t ht hW => ⟨⟨.ref str554, (str554, 10), rfl, ⟨rfl, by show (10 : Nat) < 2147483648; omega⟩, ⟨hh.rt (M1 := []) [] rfl ht, by rw [ht]; exact (hstr554.moved hW.alike).kept hh.1.2.1⟩⟩, by rw [ht]; try exact hh.1.1, fun q h9 hq => by rw [ht]; try exact hh.1.2.1 q h9 hq⟩) hh.1.2.2 dX11_faultText_75
  · refine lv_tableIn (off := 75) (tgt := 76) hx hb dX11_faultText_1 (by omega) (by omega) (by rw [c_1]; rfl) (by decide) ?_
    refine j_ldcSw hx hb hown rstr556 dX11_faultText_76 ?_
    rw [hQ]
    exact W.aret (v := .ref str556) hx hb hr (Or.inl ⟨_, rfl⟩) (Or.inr ⟨_, rfl⟩) (fun t ht hW => ⟨⟨.ref str556, (str556, 8), rfl, ⟨rfl, by show (8 : Nat) < 2147483648; omega⟩, ⟨hh.rt (M1 := []) [] rfl ht, by rw [ht]; exact (hstr556.moved hW.alike).kept hh.1.2.1⟩⟩, by rw [ht]; try exact hh.1.1, fun q h9 hq => by rw [ht]; try exact hh.1.2.1 q h9 hq⟩) hh.1.2.2 dX11_faultText_79
set_option maxHeartbeats 4000000 in
set_option maxRecDepth 20000 in
theorem uX7_signText (l : Launch) (dC : Nat → ClassId) (dI : Nat → Nat → Nat) (ca : Nat → ClassId) (base : Nat) (B : jF) (hB : jBok B) (hAp : jAp (dC, dI)) (G0 : jT) (H0 : Heap) (a0 : Int32) : Met l yX7_signText (jw yX7_signText cX7_signText 1 (some (.object "java/lang/String"))) ({ frames := 0, cells := 0, slots := 0, locals := 0 }) (va_Pc [.int a0] (fun U => U.heap = H0 ∧ jX B base G0 [] H0 ∧ jG dC dI ca base U ∧ jP (dC, dI) G0 H0 [] ∧ True)) (jQx (S := Nat × Nat) (fun v u => v = .ref u.1 ∧ u.2 < 2147483648) (fun u t => jRt (dC, dI) B base G0 EX7_signText H0 [] t.heap ∧ jStr base u.1 u.2 t t.heap) (jA base)) 0 0 (jA base) := by
  refine Met.ofW (cc := cX7_signText) (maxL := 1) (ret := (some (.object "java/lang/String"))) (by decide) rfl ?_
  intro p e s m args below meth c s₁ Bd hml hv
  obtain ⟨rfl, hH0, hX, hG, hP0, hp0⟩ := hv
  have hK := hG.1
  have hx := Bd.exec
  have hb := Bd.bytes
  have hr := Bd.returns
  have hts := atoms_spec (ws := (jw yX7_signText cX7_signText 1 (some (.object "java/lang/String")))) Bd.pre
  have htw : ∀ w ∈ jWl, w.before _ s = true := fun w h => hts w (List.mem_cons_of_mem _ h)
  have hown : s.vm.findClass RX7 = some m.cls := findClass_of_methodNamed Bd.named
  have hlocks := Bd.notSynchronized
  obtain ⟨Q, hQ⟩ : ∃ Q, Q = MQ below (jQx (S := Nat × Nat) (fun v u => v = .ref u.1 ∧ u.2 < 2147483648) (fun u t => jRt (dC, dI) B base G0 EX7_signText H0 [] t.heap ∧ jStr base u.1 u.2 t t.heap) (jA base)) ([.int a0] : List Value).toArray s 0 0 (jA base) := ⟨_, rfl⟩
  rw [← hQ]
  have hl := lv_entry ([.int a0]) (n := 1) (Nat.le_of_ble_eq_true rfl)
  rw [lg_entry_eq]
  generalize (lg_sl ([.int a0]) ++ List.replicate (1 - (lg_sl ([.int a0])).length) Slot.unset).toArray = ls at hl ⊢
  have hl : lv_has ls 1 [(0, .int a0)] := hl
  generalize hR : (headSpec (jw yX7_signText cX7_signText 1 (some (.object "java/lang/String"))) ({ frames := 0, cells := 0, slots := 0, locals := 0 })).room = R
  subst hH0
  have hh : jSt (dC, dI) B base G0 G0 EX7_signText s.heap 0 0 [] [] [] s.heap [] := jSt.start hX hP0 jMc.nil jIs.nil
  clear hX hP0
  have hk0 : (0 : Int32).toInt = 0 := by decide
  have hk1 : (1 : Int32).toInt = 1 := by decide
  obtain ⟨str126, rstr126, hstr1260⟩ := hG.str (o := RX7) (k := 126) (tx := " -> ") (List.mem_of_getElem? (i := 971) (by decide +kernel))
  have hstr126 : jStr base str126 4 s s.heap := hstr1260
  obtain ⟨str128, rstr128, hstr1280⟩ := hG.str (o := RX7) (k := 128) (tx := " * ") (List.mem_of_getElem? (i := 972) (by decide +kernel))
  have hstr128 : jStr base str128 3 s s.heap := hstr1280
  obtain ⟨str130, rstr130, hstr1300⟩ := hG.str (o := RX7) (k := 130) (tx := " + ") (List.mem_of_getElem? (i := 973) (by decide +kernel))
  have hstr130 : jStr base str130 3 s s.heap := hstr1300
  obtain ⟨str132, rstr132, hstr1320⟩ := hG.str (o := RX7) (k := 132) (tx := " = ") (List.mem_of_getElem? (i := 974) (by decide +kernel))
  have hstr132 : jStr base str132 3 s s.heap := hstr1320
  obtain ⟨str134, rstr134, hstr1340⟩ := hG.str (o := RX7) (k := 134) (tx := "forall ") (List.mem_of_getElem? (i := 975) (by decide +kernel))
  have hstr134 : jStr base str134 7 s s.heap := hstr1340
  obtain ⟨str136, rstr136, hstr1360⟩ := hG.str (o := RX7) (k := 136) (tx := "exists ") (List.mem_of_getElem? (i := 976) (by decide +kernel))
  have hstr136 : jStr base str136 7 s s.heap := hstr1360
  obtain ⟨str138, rstr138, hstr1380⟩ := hG.str (o := RX7) (k := 138) (tx := ")") (List.mem_of_getElem? (i := 977) (by decide +kernel))
  have hstr138 : jStr base str138 1 s s.heap := hstr1380
  obtain ⟨str140, rstr140, hstr1400⟩ := hG.str (o := RX7) (k := 140) (tx := "(") (List.mem_of_getElem? (i := 978) (by decide +kernel))
  have hstr140 : jStr base str140 1 s s.heap := hstr1400
  obtain ⟨str78, rstr78, hstr780⟩ := hG.str (o := RX7) (k := 78) (tx := ", ") (List.mem_of_getElem? (i := 979) (by decide +kernel))
  have hstr78 : jStr base str78 2 s s.heap := hstr780
  obtain ⟨str142, rstr142, hstr1420⟩ := hG.str (o := RX7) (k := 142) (tx := "False") (List.mem_of_getElem? (i := 980) (by decide +kernel))
  have hstr142 : jStr base str142 5 s s.heap := hstr1420
  have hrg_a0 := jb_rng a0
  refine lv_iload_n hx hb dX7_signText_0 rfl (lv_at hl 0 rfl) ?_
  rcases (by omega : (a0.toInt < 1 ∨ 18 < a0.toInt) ∨ a0.toInt = 1 ∨ a0.toInt = 2 ∨ a0.toInt = 3 ∨ a0.toInt = 4 ∨ a0.toInt = 5 ∨ a0.toInt = 6 ∨ a0.toInt = 7 ∨ a0.toInt = 8 ∨ a0.toInt = 9 ∨ a0.toInt = 10 ∨ a0.toInt = 11 ∨ a0.toInt = 12 ∨ a0.toInt = 13 ∨ a0.toInt = 14 ∨ a0.toInt = 15 ∨ a0.toInt = 16 ∨ a0.toInt = 17 ∨ a0.toInt = 18) with c_1 | c_1 | c_1 | c_1 | c_1 | c_1 | c_1 | c_1 | c_1 | c_1 | c_1 | c_1 | c_1 | c_1 | c_1 | c_1 | c_1 | c_1 | c_1
  · refine lv_tableOut (tgt := 115) hx hb dX7_signText_1 c_1 (by decide) ?_
    refine va_ldcS hx hb hown rstr142 dX7_signText_115 ?_
    rw [hQ]
    exact W.aret (v := .ref str142) hx hb hr (Or.inl ⟨_, rfl⟩) (Or.inr ⟨_, rfl⟩) (fun t ht hW => ⟨⟨.ref str142, (str142, 5), rfl, ⟨rfl, by show (5 : Nat) < 2147483648; omega⟩, ⟨hh.rt (M1 := []) [] rfl ht, by rw [ht]; exact (hstr142.moved hW.alike).kept hh.1.2.1⟩⟩, by rw [ht]; try exact hh.1.1, fun q h9 hq => by rw [ht]; try exact hh.1.2.1 q h9 hq⟩) hh.1.2.2 dX7_signText_117
  · refine lv_tableIn (off := 87) (tgt := 88) hx hb dX7_signText_1 (by omega) (by omega) (by rw [c_1]; rfl) (by decide) ?_
    refine va_ldcS hx hb hown rstr126 dX7_signText_88 ?_
    rw [hQ]
    exact W.aret (v := .ref str126) hx hb hr (Or.inl ⟨_, rfl⟩) (Or.inr ⟨_, rfl⟩) (fun t ht hW => ⟨⟨.ref str126, (str126, 4), rfl, ⟨rfl, by show (4 : Nat) < 2147483648; omega⟩, ⟨hh.rt (M1 := []) [] rfl ht, by rw [ht]; exact (hstr126.moved hW.alike).kept hh.1.2.1⟩⟩, by rw [ht]; try exact hh.1.1, fun q h9 hq => by rw [ht]; try exact hh.1.2.1 q h9 hq⟩) hh.1.2.2 dX7_signText_90
  · refine lv_tableIn (off := 90) (tgt := 91) hx hb dX7_signText_1 (by omega) (by omega) (by rw [c_1]; rfl) (by decide) ?_
    refine va_ldcS hx hb hown rstr128 dX7_signText_91 ?_
    rw [hQ]
    exact W.aret (v := .ref str128) hx hb hr (Or.inl ⟨_, rfl⟩) (Or.inr ⟨_, rfl⟩) (fun t ht hW => ⟨⟨.ref str128, (str128, 3), rfl, ⟨rfl, by show (3 : Nat) < 2147483648; omega⟩, ⟨hh.rt (M1 := []) [] rfl ht, by rw [ht]; exact (hstr128.moved hW.alike).kept hh.1.2.1⟩⟩, by rw [ht]; try exact hh.1.1, fun q h9 hq => by rw [ht]; try exact hh.1.2.1 q h9 hq⟩) hh.1.2.2 dX7_signText_93
  · refine lv_tableIn (off := 93) (tgt := 94) hx hb dX7_signText_1 (by omega) (by omega) (by rw [c_1]; rfl) (by decide) ?_
    refine va_ldcS hx hb hown rstr130 dX7_signText_94 ?_
    rw [hQ]
    exact W.aret (v := .ref str130) hx hb hr (Or.inl ⟨_, rfl⟩) (Or.inr ⟨_, rfl⟩) (fun t ht hW => ⟨⟨.ref str130, (str130, 3), rfl, ⟨rfl, by show (3 : Nat) < 2147483648; omega⟩, ⟨hh.rt (M1 := []) [] rfl ht, by rw [ht]; exact (hstr130.moved hW.alike).kept hh.1.2.1⟩⟩, by rw [ht]; try exact hh.1.1, fun q h9 hq => by rw [ht]; try exact hh.1.2.1 q h9 hq⟩) hh.1.2.2 dX7_signText_96
  · refine lv_tableIn (off := 96) (tgt := 97) hx hb dX7_signText_1 (by omega) (by omega) (by rw [c_1]; rfl) (by decide) ?_
    refine va_ldcS hx hb hown rstr132 dX7_signText_97 ?_
    rw [hQ]
    exact W.aret (v := .ref str132) hx hb hr (Or.inl ⟨_, rfl⟩) (Or.inr ⟨_, rfl⟩) (fun t ht hW => ⟨⟨.ref str132, (str132, 3), rfl, ⟨rfl, by show (3 : Nat) < 2147483648; omega⟩, ⟨hh.rt (M1 := []) [] rfl ht, by rw [ht]; exact (hstr132.moved hW.alike).kept hh.1.2.1⟩⟩, by rw [ht]; try exact hh.1.1, fun q h9 hq => by rw [ht]; try exact hh.1.2.1 q h9 hq⟩) hh.1.2.2 dX7_signText_99
  · refine lv_tableIn (off := 99) (tgt := 100) hx hb dX7_signText_1 (by omega) (by omega) (by rw [c_1]; rfl) (by decide) ?_
    refine va_ldcS hx hb hown rstr134 dX7_signText_100 ?_
    rw [hQ]
    exact W.aret (v := .ref str134) hx hb hr (Or.inl ⟨_, rfl⟩) (Or.inr ⟨_, rfl⟩) (fun t ht hW => ⟨⟨.ref str134, (str134, 7), rfl, ⟨rfl, by show (7 : Nat) < 2147483648; omega⟩, ⟨hh.rt (M1 := []) [] rfl ht, by rw [ht]; exact (hstr134.moved hW.alike).kept hh.1.2.1⟩⟩, by rw [ht]; try exact hh.1.1, fun q h9 hq => by rw [ht]; try exact hh.1.2.1 q h9 hq⟩) hh.1.2.2 dX7_signText_102
  · refine lv_tableIn (off := 102) (tgt := 103) hx hb dX7_signText_1 (by omega) (by omega) (by rw [c_1]; rfl) (by decide) ?_
    refine va_ldcS hx hb hown rstr136 dX7_signText_103 ?_
    rw [hQ]
    exact W.aret (v := .ref str136) hx hb hr (Or.inl ⟨_, rfl⟩) (Or.inr ⟨_, rfl⟩) (fun t ht hW => ⟨⟨.ref str136, (str136, 7), rfl, ⟨rfl, by show (7 : Nat) < 2147483648; omega⟩, ⟨hh.rt (M1 := []) [] rfl ht, by rw [ht]; exact (hstr136.moved hW.alike).kept hh.1.2.1⟩⟩, by rw [ht]; try exact hh.1.1, fun q h9 hq => by rw [ht]; try exact hh.1.2.1 q h9 hq⟩) hh.1.2.2 dX7_signText_105
  · refine lv_tableIn (off := 114) (tgt := 115) hx hb dX7_signText_1 (by omega) (by omega) (by rw [c_1]; rfl) (by decide) ?_
    refine va_ldcS hx hb hown rstr142 dX7_signText_115 ?_
    rw [hQ]
    exact W.aret (v := .ref str142) hx hb hr (Or.inl ⟨_, rfl⟩) (Or.inr ⟨_, rfl⟩) (fun t ht hW => ⟨⟨.ref str142, (str142, 5), rfl, ⟨rfl, by show (5 : Nat) < 2147483648; omega⟩, ⟨hh.rt (M1 := []) [] rfl ht, by rw [ht]; exact (hstr142.moved hW.alike).kept hh.1.2.1⟩⟩, by rw [ht]; try exact hh.1.1, fun q h9 hq => by rw [ht]; try exact hh.1.2.1 q h9 hq⟩) hh.1.2.2 dX7_signText_117
  · refine lv_tableIn (off := 114) (tgt := 115) hx hb dX7_signText_1 (by omega) (by omega) (by rw [c_1]; rfl) (by decide) ?_
    refine va_ldcS hx hb hown rstr142 dX7_signText_115 ?_
    rw [hQ]
    exact W.aret (v := .ref str142) hx hb hr (Or.inl ⟨_, rfl⟩) (Or.inr ⟨_, rfl⟩) (fun t ht hW => ⟨⟨.ref str142, (str142, 5), rfl, ⟨rfl, by show (5 : Nat) < 2147483648; omega⟩, ⟨hh.rt (M1 := []) [] rfl ht, by rw [ht]; exact (hstr142.moved hW.alike).kept hh.1.2.1⟩⟩, by rw [ht]; try exact hh.1.1, fun q h9 hq => by rw [ht]; try exact hh.1.2.1 q h9 hq⟩) hh.1.2.2 dX7_signText_117
  · refine lv_tableIn (off := 114) (tgt := 115) hx hb dX7_signText_1 (by omega) (by omega) (by rw [c_1]; rfl) (by decide) ?_
    refine va_ldcS hx hb hown rstr142 dX7_signText_115 ?_
    rw [hQ]
    exact W.aret (v := .ref str142) hx hb hr (Or.inl ⟨_, rfl⟩) (Or.inr ⟨_, rfl⟩) (fun t ht hW => ⟨⟨.ref str142, (str142, 5), rfl, ⟨rfl, by show (5 : Nat) < 2147483648; omega⟩, ⟨hh.rt (M1 := []) [] rfl ht, by rw [ht]; exact (hstr142.moved hW.alike).kept hh.1.2.1⟩⟩, by rw [ht]; try exact hh.1.1, fun q h9 hq => by rw [ht]; try exact hh.1.2.1 q h9 hq⟩) hh.1.2.2 dX7_signText_117
  · refine lv_tableIn (off := 114) (tgt := 115) hx hb dX7_signText_1 (by omega) (by omega) (by rw [c_1]; rfl) (by decide) ?_
    refine va_ldcS hx hb hown rstr142 dX7_signText_115 ?_
    rw [hQ]
    exact W.aret (v := .ref str142) hx hb hr (Or.inl ⟨_, rfl⟩) (Or.inr ⟨_, rfl⟩) (fun t ht hW => ⟨⟨.ref str142, (str142, 5), rfl, ⟨rfl, by show (5 : Nat) < 2147483648; omega⟩, ⟨hh.rt (M1 := []) [] rfl ht, by rw [ht]; exact (hstr142.moved hW.alike).kept hh.1.2.1⟩⟩, by rw [ht]; try exact hh.1.1, fun q h9 hq => by rw [ht]; try exact hh.1.2.1 q h9 hq⟩) hh.1.2.2 dX7_signText_117
  · refine lv_tableIn (off := 114) (tgt := 115) hx hb dX7_signText_1 (by omega) (by omega) (by rw [c_1]; rfl) (by decide) ?_
    refine va_ldcS hx hb hown rstr142 dX7_signText_115 ?_
    rw [hQ]
    exact W.aret (v := .ref str142) hx hb hr (Or.inl ⟨_, rfl⟩) (Or.inr ⟨_, rfl⟩) (fun t ht hW => ⟨⟨.ref str142, (str142, 5), rfl, ⟨rfl, by show (5 : Nat) < 2147483648; omega⟩, ⟨hh.rt (M1 := []) [] rfl ht, by rw [ht]; exact (hstr142.moved hW.alike).kept hh.1.2.1⟩⟩, by rw [ht]; try exact hh.1.1, fun q h9 hq => by rw [ht]; try exact hh.1.2.1 q h9 hq⟩) hh.1.2.2 dX7_signText_117
  · refine lv_tableIn (off := 114) (tgt := 115) hx hb dX7_signText_1 (by omega) (by omega) (by rw [c_1]; rfl) (by decide) ?_
    refine va_ldcS hx hb hown rstr142 dX7_signText_115 ?_
    rw [hQ]
    exact W.aret (v := .ref str142) hx hb hr (Or.inl ⟨_, rfl⟩) (Or.inr ⟨_, rfl⟩) (fun t ht hW => ⟨⟨.ref str142, (str142, 5), rfl, ⟨rfl, by show (5 : Nat) < 2147483648; omega⟩, ⟨hh.rt (M1 := []) [] rfl ht, by rw [ht]; exact (hstr142.moved hW.alike).kept hh.1.2.1⟩⟩, by rw [ht]; try exact hh.1.1, fun q h9 hq => by rw [ht]; try exact hh.1.2.1 q h9 hq⟩) hh.1.2.2 dX7_signText_117
  · refine lv_tableIn (off := 114) (tgt := 115) hx hb dX7_signText_1 (by omega) (by omega) (by rw [c_1]; rfl) (by decide) ?_
    refine va_ldcS hx hb hown rstr142 dX7_signText_115 ?_
    rw [hQ]
    exact W.aret (v := .ref str142) hx hb hr (Or.inl ⟨_, rfl⟩) (Or.inr ⟨_, rfl⟩) (fun t ht hW => ⟨⟨.ref str142, (str142, 5), rfl, ⟨rfl, by show (5 : Nat) < 2147483648; omega⟩, ⟨hh.rt (M1 := []) [] rfl ht, by rw [ht]; exact (hstr142.moved hW.alike).kept hh.1.2.1⟩⟩, by rw [ht]; try exact hh.1.1, fun q h9 hq => by rw [ht]; try exact hh.1.2.1 q h9 hq⟩) hh.1.2.2 dX7_signText_117
  · refine lv_tableIn (off := 114) (tgt := 115) hx hb dX7_signText_1 (by omega) (by omega) (by rw [c_1]; rfl) (by decide) ?_
    refine va_ldcS hx hb hown rstr142 dX7_signText_115 ?_
    rw [hQ]
    exact W.aret (v := .ref str142) hx hb hr (Or.inl ⟨_, rfl⟩) (Or.inr ⟨_, rfl⟩) (fun t ht hW => ⟨⟨.ref str142, (str142, 5), rfl, ⟨rfl, by show (5 : Nat) < 2147483648; omega⟩, ⟨hh.rt (M1 := []) [] rfl ht, by rw [ht]; exact (hstr142.moved hW.alike).kept hh.1.2.1⟩⟩, by rw [ht]; try exact hh.1.1, fun q h9 hq => by rw [ht]; try exact hh.1.2.1 q h9 hq⟩) hh.1.2.2 dX7_signText_117
  · refine lv_tableIn (off := 114) (tgt := 115) hx hb dX7_signText_1 (by omega) (by omega) (by rw [c_1]; rfl) (by decide) ?_
    refine va_ldcS hx hb hown rstr142 dX7_signText_115 ?_
    rw [hQ]
    exact W.aret (v := .ref str142) hx hb hr (Or.inl ⟨_, rfl⟩) (Or.inr ⟨_, rfl⟩) (fun t ht hW => ⟨⟨.ref str142, (str142, 5), rfl, ⟨rfl, by show (5 : Nat) < 2147483648; omega⟩, ⟨hh.rt (M1 := []) [] rfl ht, by rw [ht]; exact (hstr142.moved hW.alike).kept hh.1.2.1⟩⟩, by rw [ht]; try exact hh.1.1, fun q h9 hq => by rw [ht]; try exact hh.1.2.1 q h9 hq⟩) hh.1.2.2 dX7_signText_117
  · refine lv_tableIn (off := 105) (tgt := 106) hx hb dX7_signText_1 (by omega) (by omega) (by rw [c_1]; rfl) (by decide) ?_
    refine va_ldcS hx hb hown rstr138 dX7_signText_106 ?_
    rw [hQ]
    exact W.aret (v := .ref str138) hx hb hr (Or.inl ⟨_, rfl⟩) (Or.inr ⟨_, rfl⟩) (fun t ht hW => ⟨⟨.ref str138, (str138, 1), rfl, ⟨rfl, by show (1 : Nat) < 2147483648; omega⟩, ⟨hh.rt (M1 := []) [] rfl ht, by rw [ht]; exact (hstr138.moved hW.alike).kept hh.1.2.1⟩⟩, by rw [ht]; try exact hh.1.1, fun q h9 hq => by rw [ht]; try exact hh.1.2.1 q h9 hq⟩) hh.1.2.2 dX7_signText_108
  · refine lv_tableIn (off := 108) (tgt := 109) hx hb dX7_signText_1 (by omega) (by omega) (by rw [c_1]; rfl) (by decide) ?_
    refine va_ldcS hx hb hown rstr140 dX7_signText_109 ?_
    rw [hQ]
    exact W.aret (v := .ref str140) hx hb hr (Or.inl ⟨_, rfl⟩) (Or.inr ⟨_, rfl⟩) (fun t ht hW => ⟨⟨.ref str140, (str140, 1), rfl, ⟨rfl, by show (1 : Nat) < 2147483648; omega⟩, ⟨hh.rt (M1 := []) [] rfl ht, by rw [ht]; exact (hstr140.moved hW.alike).kept hh.1.2.1⟩⟩, by rw [ht]; try exact hh.1.1, fun q h9 hq => by rw [ht]; try exact hh.1.2.1 q h9 hq⟩) hh.1.2.2 dX7_signText_111
  · refine lv_tableIn (off := 111) (tgt := 112) hx hb dX7_signText_1 (by omega) (by omega) (by rw [c_1]; rfl) (by decide) ?_
    refine va_ldcS hx hb hown rstr78 dX7_signText_112 ?_
    rw [hQ]
    exact W.aret (v := .ref str78) hx hb hr (Or.inl ⟨_, rfl⟩) (Or.inr ⟨_, rfl⟩) (fun t ht hW => ⟨⟨.ref str78, (str78, 2), rfl, ⟨rfl, by show (2 : Nat) < 2147483648; omega⟩, ⟨hh.rt (M1 := []) [] rfl ht, by rw [ht]; exact (hstr78.moved hW.alike).kept hh.1.2.1⟩⟩, by rw [ht]; try exact hh.1.1, fun q h9 hq => by rw [ht]; try exact hh.1.2.1 q h9 hq⟩) hh.1.2.2 dX7_signText_114
