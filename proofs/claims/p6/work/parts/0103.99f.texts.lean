section
theorem dX7_signText_0 : decode cX7_signText 0 = .ok (.iload_n 0, 1) := by decide +kernel
theorem dX7_signText_1 : decode cX7_signText 1 = .ok (.tableswitch 114 1 18 #[87, 90, 93, 96, 99, 102, 114, 114, 114, 114, 114, 114, 114, 114, 114, 105, 108, 111], 87) := by decide +kernel
theorem dX7_signText_88 : decode cX7_signText 88 = .ok (.ldc 126, 2) := by decide +kernel
theorem dX7_signText_90 : decode cX7_signText 90 = .ok (.areturn, 1) := by decide +kernel
theorem dX7_signText_91 : decode cX7_signText 91 = .ok (.ldc 128, 2) := by decide +kernel
theorem dX7_signText_93 : decode cX7_signText 93 = .ok (.areturn, 1) := by decide +kernel
theorem dX7_signText_94 : decode cX7_signText 94 = .ok (.ldc 130, 2) := by decide +kernel
theorem dX7_signText_96 : decode cX7_signText 96 = .ok (.areturn, 1) := by decide +kernel
theorem dX7_signText_97 : decode cX7_signText 97 = .ok (.ldc 132, 2) := by decide +kernel
theorem dX7_signText_99 : decode cX7_signText 99 = .ok (.areturn, 1) := by decide +kernel
theorem dX7_signText_100 : decode cX7_signText 100 = .ok (.ldc 134, 2) := by decide +kernel
theorem dX7_signText_102 : decode cX7_signText 102 = .ok (.areturn, 1) := by decide +kernel
theorem dX7_signText_103 : decode cX7_signText 103 = .ok (.ldc 136, 2) := by decide +kernel
theorem dX7_signText_105 : decode cX7_signText 105 = .ok (.areturn, 1) := by decide +kernel
theorem dX7_signText_106 : decode cX7_signText 106 = .ok (.ldc 138, 2) := by decide +kernel
theorem dX7_signText_108 : decode cX7_signText 108 = .ok (.areturn, 1) := by decide +kernel
theorem dX7_signText_109 : decode cX7_signText 109 = .ok (.ldc 140, 2) := by decide +kernel
theorem dX7_signText_111 : decode cX7_signText 111 = .ok (.areturn, 1) := by decide +kernel
theorem dX7_signText_112 : decode cX7_signText 112 = .ok (.ldc 78, 2) := by decide +kernel
theorem dX7_signText_114 : decode cX7_signText 114 = .ok (.areturn, 1) := by decide +kernel
theorem dX7_signText_115 : decode cX7_signText 115 = .ok (.ldc 142, 2) := by decide +kernel
theorem dX7_signText_117 : decode cX7_signText 117 = .ok (.areturn, 1) := by decide +kernel
theorem dX11_faultText_0 : decode cX11_faultText 0 = .ok (.iload_n 0, 1) := by decide +kernel
theorem dX11_faultText_1 : decode cX11_faultText 1 = .ok (.tableswitch 79 1 8 #[47, 51, 55, 59, 63, 67, 71, 75], 47) := by decide +kernel
theorem dX11_faultText_48 : decode cX11_faultText 48 = .ok (.ldc_w 543, 3) := by decide +kernel
theorem dX11_faultText_51 : decode cX11_faultText 51 = .ok (.areturn, 1) := by decide +kernel
theorem dX11_faultText_52 : decode cX11_faultText 52 = .ok (.ldc_w 545, 3) := by decide +kernel
theorem dX11_faultText_55 : decode cX11_faultText 55 = .ok (.areturn, 1) := by decide +kernel
theorem dX11_faultText_56 : decode cX11_faultText 56 = .ok (.ldc_w 547, 3) := by decide +kernel
theorem dX11_faultText_59 : decode cX11_faultText 59 = .ok (.areturn, 1) := by decide +kernel
theorem dX11_faultText_60 : decode cX11_faultText 60 = .ok (.ldc_w 548, 3) := by decide +kernel
theorem dX11_faultText_63 : decode cX11_faultText 63 = .ok (.areturn, 1) := by decide +kernel
theorem dX11_faultText_64 : decode cX11_faultText 64 = .ok (.ldc_w 550, 3) := by decide +kernel
theorem dX11_faultText_67 : decode cX11_faultText 67 = .ok (.areturn, 1) := by decide +kernel
theorem dX11_faultText_68 : decode cX11_faultText 68 = .ok (.ldc_w 552, 3) := by decide +kernel
theorem dX11_faultText_71 : decode cX11_faultText 71 = .ok (.areturn, 1) := by decide +kernel
theorem dX11_faultText_72 : decode cX11_faultText 72 = .ok (.ldc_w 554, 3) := by decide +kernel
theorem dX11_faultText_75 : decode cX11_faultText 75 = .ok (.areturn, 1) := by decide +kernel
theorem dX11_faultText_76 : decode cX11_faultText 76 = .ok (.ldc_w 556, 3) := by decide +kernel
theorem dX11_faultText_79 : decode cX11_faultText 79 = .ok (.areturn, 1) := by decide +kernel
theorem dX11_faultText_80 : decode cX11_faultText 80 = .ok (.ldc_w 558, 3) := by decide +kernel
theorem dX11_faultText_83 : decode cX11_faultText 83 = .ok (.areturn, 1) := by decide +kernel
def EX11_faultText : List (Nat × Nat) := []
def EX7_signText : List (Nat × Nat) := []
def qtx1246 : String := match tables_1[1246]? with | some (Jvm.Cond.stringRef _ _ t) => t | _ => ""
def qtx1242 : String := match tables_1[1242]? with | some (Jvm.Cond.stringRef _ _ t) => t | _ => ""
set_option maxHeartbeats 4000000 in
set_option maxRecDepth 20000 in
theorem uX11_faultText (l : Launch) (dC : Nat → ClassId) (dI : Nat → Nat → Nat) (ca : Nat → ClassId) (base : Nat) (B : jF) (hB : jBok B) (hAp : jAp (dC, dI)) (G0 : jT) (H0 : Heap) (a0 : Int32) : Met l yX11_faultText (jw yX11_faultText cX11_faultText 1 (some (.object "java/lang/String"))) ({ frames := 0, cells := 0, slots := 0, locals := 0 }) (va_Pc [.int a0] (fun U => U.heap = H0 ∧ jX B base G0 [] H0 ∧ jG dC dI ca base U ∧ jP (dC, dI) G0 H0 [] ∧ True)) (jQx (S := Nat × Nat) (fun v u => v = .ref u.1 ∧ u.2 < 2147483648) (fun u t => jRt (dC, dI) B base G0 EX11_faultText H0 [] t.heap ∧ jStr base u.1 u.2 t t.heap) (jA base)) 0 0 (jA base) := by
  refine Met.ofW (cc := cX11_faultText) (maxL := 1) (ret := (some (.object "java/lang/String"))) (by decide) rfl ?_
  intro p e s m args below meth c s₁ Bd hml hv
  obtain ⟨rfl, hH0, hX, hG, hP0, hp0⟩ := hv
  have hK := hG.1
  have hx := Bd.exec
  have hb := Bd.bytes
  have hr := Bd.returns
  have hts := atoms_spec (ws := (jw yX11_faultText cX11_faultText 1 (some (.object "java/lang/String")))) Bd.pre
  have htw : ∀ w ∈ jWl, w.before _ s = true := fun w h => hts w (List.mem_cons_of_mem _ h)
  have hown : s.vm.findClass RX11 = some m.cls := findClass_of_methodNamed Bd.named
  have hlocks := Bd.notSynchronized
  obtain ⟨Q, hQ⟩ : ∃ Q, Q = MQ below (jQx (S := Nat × Nat) (fun v u => v = .ref u.1 ∧ u.2 < 2147483648) (fun u t => jRt (dC, dI) B base G0 EX11_faultText H0 [] t.heap ∧ jStr base u.1 u.2 t t.heap) (jA base)) ([.int a0] : List Value).toArray s 0 0 (jA base) := ⟨_, rfl⟩
  rw [← hQ]
  have hl := lv_entry ([.int a0]) (n := 1) (Nat.le_of_ble_eq_true rfl)
  rw [lg_entry_eq]
  generalize (lg_sl ([.int a0]) ++ List.replicate (1 - (lg_sl ([.int a0])).length) Slot.unset).toArray = ls at hl ⊢
  have hl : lv_has ls 1 [(0, .int a0)] := hl
  generalize hR : (headSpec (jw yX11_faultText cX11_faultText 1 (some (.object "java/lang/String"))) ({ frames := 0, cells := 0, slots := 0, locals := 0 })).room = R
  subst hH0
  have hh : jSt (dC, dI) B base G0 G0 EX11_faultText s.heap 0 0 [] [] [] s.heap [] := jSt.start hX hP0 jMc.nil jIs.nil
  clear hX hP0
  have hk0 : (0 : Int32).toInt = 0 := by decide
  have hk1 : (1 : Int32).toInt = 1 := by decide
  obtain ⟨str543, rstr543, hstr5430⟩ := hG.str (o := RX11) (k := 543) (tx := "unfinished") (List.mem_of_getElem? (i := 1240) (by decide +kernel))
  have hstr543 : jStr base str543 10 s s.heap := hstr5430
  obtain ⟨str545, rstr545, hstr5450⟩ := hG.str (o := RX11) (k := 545) (tx := "too much") (List.mem_of_getElem? (i := 1241) (by decide +kernel))
  have hstr545 : jStr base str545 8 s s.heap := hstr5450
  obtain ⟨str547, rstr547, hstr5470⟩ := hG.str (o := RX11) (k := 547) (tx := qtx1242) (List.mem_of_getElem? (i := 1242) (by decide +kernel))
  have h9str547 : qtx1242.length = 6 := by decide +kernel
  have hstr547 : jStr base str547 6 s s.heap := by rw [h9str547] at hstr5470; exact hstr5470
  obtain ⟨str548, rstr548, hstr5480⟩ := hG.str (o := RX11) (k := 548) (tx := "not here") (List.mem_of_getElem? (i := 1243) (by decide +kernel))
  have hstr548 : jStr base str548 8 s s.heap := hstr5480
  obtain ⟨str550, rstr550, hstr5500⟩ := hG.str (o := RX11) (k := 550) (tx := "unknown") (List.mem_of_getElem? (i := 1244) (by decide +kernel))
  have hstr550 : jStr base str550 7 s s.heap := hstr5500
  obtain ⟨str552, rstr552, hstr5520⟩ := hG.str (o := RX11) (k := 552) (tx := "taken") (List.mem_of_getElem? (i := 1245) (by decide +kernel))
  have hstr552 : jStr base str552 5 s s.heap := hstr5520
  obtain ⟨str554, rstr554, hstr5540⟩ := hG.str (o := RX11) (k := 554) (tx := qtx1246) (List.mem_of_getElem? (i := 1246) (by decide +kernel))
  have h9str554 : qtx1246.length = 10 := by decide +kernel
  have hstr554 : jStr base str554 10 s s.heap := by rw [h9str554] at hstr5540; exact hstr5540
  obtain ⟨str556, rstr556, hstr5560⟩ := hG.str (o := RX11) (k := 556) (tx := "no match") (List.mem_of_getElem? (i := 1247) (by decide +kernel))
  have hstr556 : jStr base str556 8 s s.heap := hstr5560
  obtain ⟨str558, rstr558, hstr5580⟩ := hG.str (o := RX11) (k := 558) (tx := "too large") (List.mem_of_getElem? (i := 1248) (by decide +kernel))
  have hstr558 : jStr base str558 9 s s.heap := hstr5580
  have hrg_a0 := jb_rng a0
  refine lv_iload_n hx hb dX11_faultText_0 rfl (lv_at hl 0 rfl) ?_
  rcases (by omega : (a0.toInt < 1 ∨ 8 < a0.toInt) ∨ a0.toInt = 1 ∨ a0.toInt = 2 ∨ a0.toInt = 3 ∨ a0.toInt = 4 ∨ a0.toInt = 5 ∨ a0.toInt = 6 ∨ a0.toInt = 7 ∨ a0.toInt = 8) with c_1 | c_1 | c_1 | c_1 | c_1 | c_1 | c_1 | c_1 | c_1
  · refine lv_tableOut (tgt := 80) hx hb dX11_faultText_1 c_1 (by decide) ?_
    refine j_ldcSw hx hb hown rstr558 dX11_faultText_80 ?_
    rw [hQ]
    exact W.aret (v := .ref str558) hx hb hr (Or.inl ⟨_, rfl⟩) (Or.inr ⟨_, rfl⟩) (fun t ht hW => ⟨⟨.ref str558, (str558, 9), rfl, ⟨rfl, by show (9 : Nat) < 2147483648; omega⟩, ⟨hh.rt (M1 := []) [] rfl ht, by rw [ht]; exact (hstr558.moved hW.alike).kept hh.1.2.1⟩⟩, by rw [ht]; try exact hh.1.1, fun q h9 hq => by rw [ht]; try exact hh.1.2.1 q h9 hq⟩) hh.1.2.2 dX11_faultText_83
  · refine lv_tableIn (off := 47) (tgt := 48) hx hb dX11_faultText_1 (by omega) (by omega) (by rw [c_1]; rfl) (by decide) ?_
    refine j_ldcSw hx hb hown rstr543 dX11_faultText_48 ?_
    rw [hQ]
    exact W.aret (v := .ref str543) hx hb hr (Or.inl ⟨_, rfl⟩) (Or.inr ⟨_, rfl⟩) (fun t ht hW => ⟨⟨.ref str543, (str543, 10), rfl, ⟨rfl, by show (10 : Nat) < 2147483648; omega⟩, ⟨hh.rt (M1 := []) [] rfl ht, by rw [ht]; exact (hstr543.moved hW.alike).kept hh.1.2.1⟩⟩, by rw [ht]; try exact hh.1.1, fun q h9 hq => by rw [ht]; try exact hh.1.2.1 q h9 hq⟩) hh.1.2.2 dX11_faultText_51
  · refine lv_tableIn (off := 51) (tgt := 52) hx hb dX11_faultText_1 (by omega) (by omega) (by rw [c_1]; rfl) (by decide) ?_
    refine j_ldcSw hx hb hown rstr545 dX11_faultText_52 ?_
    rw [hQ]
    exact W.aret (v := .ref str545) hx hb hr (Or.inl ⟨_, rfl⟩) (Or.inr ⟨_, rfl⟩) (fun t ht hW => ⟨⟨.ref str545, (str545, 8), rfl, ⟨rfl, by show (8 : Nat) < 2147483648; omega⟩, ⟨hh.rt (M1 := []) [] rfl ht, by rw [ht]; exact (hstr545.moved hW.alike).kept hh.1.2.1⟩⟩, by rw [ht]; try exact hh.1.1, fun q h9 hq => by rw [ht]; try exact hh.1.2.1 q h9 hq⟩) hh.1.2.2 dX11_faultText_55
  · refine lv_tableIn (off := 55) (tgt := 56) hx hb dX11_faultText_1 (by omega) (by omega) (by rw [c_1]; rfl) (by decide) ?_
    refine j_ldcSw hx hb hown rstr547 dX11_faultText_56 ?_
    rw [hQ]
    exact W.aret (v := .ref str547) hx hb hr (Or.inl ⟨_, rfl⟩) (Or.inr ⟨_, rfl⟩) (fun t ht hW => ⟨⟨.ref str547, (str547, 6), rfl, ⟨rfl, by show (6 : Nat) < 2147483648; omega⟩, ⟨hh.rt (M1 := []) [] rfl ht, by rw [ht]; exact (hstr547.moved hW.alike).kept hh.1.2.1⟩⟩, by rw [ht]; try exact hh.1.1, fun q h9 hq => by rw [ht]; try exact hh.1.2.1 q h9 hq⟩) hh.1.2.2 dX11_faultText_59
  · refine lv_tableIn (off := 59) (tgt := 60) hx hb dX11_faultText_1 (by omega) (by omega) (by rw [c_1]; rfl) (by decide) ?_
    refine j_ldcSw hx hb hown rstr548 dX11_faultText_60 ?_
    rw [hQ]
    exact W.aret (v := .ref str548) hx hb hr (Or.inl ⟨_, rfl⟩) (Or.inr ⟨_, rfl⟩) (fun t ht hW => ⟨⟨.ref str548, (str548, 8), rfl, ⟨rfl, by show (8 : Nat) < 2147483648; omega⟩, ⟨hh.rt (M1 := []) [] rfl ht, by rw [ht]; exact (hstr548.moved hW.alike).kept hh.1.2.1⟩⟩, by rw [ht]; try exact hh.1.1, fun q h9 hq => by rw [ht]; try exact hh.1.2.1 q h9 hq⟩) hh.1.2.2 dX11_faultText_63
  · refine lv_tableIn (off := 63) (tgt := 64) hx hb dX11_faultText_1 (by omega) (by omega) (by rw [c_1]; rfl) (by decide) ?_
    refine j_ldcSw hx hb hown rstr550 dX11_faultText_64 ?_
    rw [hQ]
    exact W.aret (v := .ref str550) hx hb hr (Or.inl ⟨_, rfl⟩) (Or.inr ⟨_, rfl⟩) (fun t ht hW => ⟨⟨.ref str550, (str550, 7), rfl, ⟨rfl, by show (7 : Nat) < 2147483648; omega⟩, ⟨hh.rt (M1 := []) [] rfl ht, by rw [ht]; exact (hstr550.moved hW.alike).kept hh.1.2.1⟩⟩, by rw [ht]; try exact hh.1.1, fun q h9 hq => by rw [ht]; try exact hh.1.2.1 q h9 hq⟩) hh.1.2.2 dX11_faultText_67
  · refine lv_tableIn (off := 67) (tgt := 68) hx hb dX11_faultText_1 (by omega) (by omega) (by rw [c_1]; rfl) (by decide) ?_
    refine j_ldcSw hx hb hown rstr552 dX11_faultText_68 ?_
    rw [hQ]
    exact W.aret (v := .ref str552) hx hb hr (Or.inl ⟨_, rfl⟩) (Or.inr ⟨_, rfl⟩) (fun t ht hW => ⟨⟨.ref str552, (str552, 5), rfl, ⟨rfl, by show (5 : Nat) < 2147483648; omega⟩, ⟨hh.rt (M1 := []) [] rfl ht, by rw [ht]; exact (hstr552.moved hW.alike).kept hh.1.2.1⟩⟩, by rw [ht]; try exact hh.1.1, fun q h9 hq => by rw [ht]; try exact hh.1.2.1 q h9 hq⟩) hh.1.2.2 dX11_faultText_71
  · refine lv_tableIn (off := 71) (tgt := 72) hx hb dX11_faultText_1 (by omega) (by omega) (by rw [c_1]; rfl) (by decide) ?_
    refine j_ldcSw hx hb hown rstr554 dX11_faultText_72 ?_
    rw [hQ]
    exact W.aret (v := .ref str554) hx hb hr (Or.inl ⟨_, rfl⟩) (Or.inr ⟨_, rfl⟩) (fun t ht hW => ⟨⟨.ref str554, (str554, 10), rfl, ⟨rfl, by show (10 : Nat) < 2147483648; omega⟩, ⟨hh.rt (M1 := []) [] rfl ht, by rw [ht]; exact (hstr554.moved hW.alike).kept hh.1.2.1⟩⟩, by rw [ht]; try exact hh.1.1, fun q h9 hq => by rw [ht]; try exact hh.1.2.1 q h9 hq⟩) hh.1.2.2 dX11_faultText_75
  · refine lv_tableIn (off := 75) (tgt := 76) hx hb dX11_faultText_1 (by omega) (by omega) (by rw [c_1]; rfl) (by decide) ?_
    refine j_ldcSw hx hb hown rstr556 dX11_faultText_76 ?_
    rw [hQ]
    exact W.aret (v := .ref str556) hx hb hr (Or.inl ⟨_, rfl⟩) (Or.inr ⟨_, rfl⟩) (fun t ht hW => ⟨⟨.ref str556, (str556, 8), rfl, ⟨rfl, by show (8 : Nat) < 2147483648; omega⟩, ⟨hh.rt (M1 := []) [] rfl ht, by rw [ht]; exact (hstr556.moved hW.alike).kept hh.1.2.1⟩⟩, by rw [ht]; try exact hh.1.1, fun q h9 hq => by rw [ht]; try exact hh.1.2.1 q h9 hq⟩) hh.1.2.2 dX11_faultText_79
set_option maxHeartbeats 4000000 in
set_option maxRecDepth 20000 in
theorem uX7_signText (l : Launch) (dC : Nat → ClassId) (dI : Nat → Nat → Nat) (ca : Nat → ClassId) (base : Nat) (B : jF) (hB : jBok B) (hAp : jAp (dC, dI)) (G0 : jT) (H0 : Heap) (a0 : Int32) : Met l yX7_signText (jw yX7_signText cX7_signText 1 (some (.object "java/lang/String"))) ({ frames := 0, cells := 0, slots := 0, locals := 0 }) (va_Pc [.int a0] (fun U => U.heap = H0 ∧ jX B base G0 [] H0 ∧ jG dC dI ca base U ∧ jP (dC, dI) G0 H0 [] ∧ True)) (jQx (S := Nat × Nat) (fun v u => v = .ref u.1 ∧ u.2 < 2147483648) (fun u t => jRt (dC, dI) B base G0 EX7_signText H0 [] t.heap ∧ jStr base u.1 u.2 t t.heap) (jA base)) 0 0 (jA base) := by
  refine Met.ofW (cc := cX7_signText) (maxL := 1) (ret := (some (.object "java/lang/String"))) (by decide) rfl ?_
  intro p e s m args below meth c s₁ Bd hml hv
  obtain ⟨rfl, hH0, hX, hG, hP0, hp0⟩ := hv
  have hK := hG.1
  have hx := Bd.exec
  have hb := Bd.bytes
  have hr := Bd.returns
  have hts := atoms_spec (ws := (jw yX7_signText cX7_signText 1 (some (.object "java/lang/String")))) Bd.pre
  have htw : ∀ w ∈ jWl, w.before _ s = true := fun w h => hts w (List.mem_cons_of_mem _ h)
  have hown : s.vm.findClass RX7 = some m.cls := findClass_of_methodNamed Bd.named
  have hlocks := Bd.notSynchronized
  obtain ⟨Q, hQ⟩ : ∃ Q, Q = MQ below (jQx (S := Nat × Nat) (fun v u => v = .ref u.1 ∧ u.2 < 2147483648) (fun u t => jRt (dC, dI) B base G0 EX7_signText H0 [] t.heap ∧ jStr base u.1 u.2 t t.heap) (jA base)) ([.int a0] : List Value).toArray s 0 0 (jA base) := ⟨_, rfl⟩
  rw [← hQ]
  have hl := lv_entry ([.int a0]) (n := 1) (Nat.le_of_ble_eq_true rfl)
  rw [lg_entry_eq]
  generalize (lg_sl ([.int a0]) ++ List.replicate (1 - (lg_sl ([.int a0])).length) Slot.unset).toArray = ls at hl ⊢
  have hl : lv_has ls 1 [(0, .int a0)] := hl
  generalize hR : (headSpec (jw yX7_signText cX7_signText 1 (some (.object "java/lang/String"))) ({ frames := 0, cells := 0, slots := 0, locals := 0 })).room = R
  subst hH0
  have hh : jSt (dC, dI) B base G0 G0 EX7_signText s.heap 0 0 [] [] [] s.heap [] := jSt.start hX hP0 jMc.nil jIs.nil
  clear hX hP0
  have hk0 : (0 : Int32).toInt = 0 := by decide
  have hk1 : (1 : Int32).toInt = 1 := by decide
  obtain ⟨str126, rstr126, hstr1260⟩ := hG.str (o := RX7) (k := 126) (tx := " -> ") (List.mem_of_getElem? (i := 971) (by decide +kernel))
  have hstr126 : jStr base str126 4 s s.heap := hstr1260
  obtain ⟨str128, rstr128, hstr1280⟩ := hG.str (o := RX7) (k := 128) (tx := " * ") (List.mem_of_getElem? (i := 972) (by decide +kernel))
  have hstr128 : jStr base str128 3 s s.heap := hstr1280
  obtain ⟨str130, rstr130, hstr1300⟩ := hG.str (o := RX7) (k := 130) (tx := " + ") (List.mem_of_getElem? (i := 973) (by decide +kernel))
  have hstr130 : jStr base str130 3 s s.heap := hstr1300
  obtain ⟨str132, rstr132, hstr1320⟩ := hG.str (o := RX7) (k := 132) (tx := " = ") (List.mem_of_getElem? (i := 974) (by decide +kernel))
  have hstr132 : jStr base str132 3 s s.heap := hstr1320
  obtain ⟨str134, rstr134, hstr1340⟩ := hG.str (o := RX7) (k := 134) (tx := "forall ") (List.mem_of_getElem? (i := 975) (by decide +kernel))
  have hstr134 : jStr base str134 7 s s.heap := hstr1340
  obtain ⟨str136, rstr136, hstr1360⟩ := hG.str (o := RX7) (k := 136) (tx := "exists ") (List.mem_of_getElem? (i := 976) (by decide +kernel))
  have hstr136 : jStr base str136 7 s s.heap := hstr1360
  obtain ⟨str138, rstr138, hstr1380⟩ := hG.str (o := RX7) (k := 138) (tx := ")") (List.mem_of_getElem? (i := 977) (by decide +kernel))
  have hstr138 : jStr base str138 1 s s.heap := hstr1380
  obtain ⟨str140, rstr140, hstr1400⟩ := hG.str (o := RX7) (k := 140) (tx := "(") (List.mem_of_getElem? (i := 978) (by decide +kernel))
  have hstr140 : jStr base str140 1 s s.heap := hstr1400
  obtain ⟨str78, rstr78, hstr780⟩ := hG.str (o := RX7) (k := 78) (tx := ", ") (List.mem_of_getElem? (i := 979) (by decide +kernel))
  have hstr78 : jStr base str78 2 s s.heap := hstr780
  obtain ⟨str142, rstr142, hstr1420⟩ := hG.str (o := RX7) (k := 142) (tx := "False") (List.mem_of_getElem? (i := 980) (by decide +kernel))
  have hstr142 : jStr base str142 5 s s.heap := hstr1420
  have hrg_a0 := jb_rng a0
  refine lv_iload_n hx hb dX7_signText_0 rfl (lv_at hl 0 rfl) ?_
  rcases (by omega : (a0.toInt < 1 ∨ 18 < a0.toInt) ∨ a0.toInt = 1 ∨ a0.toInt = 2 ∨ a0.toInt = 3 ∨ a0.toInt = 4 ∨ a0.toInt = 5 ∨ a0.toInt = 6 ∨ a0.toInt = 7 ∨ a0.toInt = 8 ∨ a0.toInt = 9 ∨ a0.toInt = 10 ∨ a0.toInt = 11 ∨ a0.toInt = 12 ∨ a0.toInt = 13 ∨ a0.toInt = 14 ∨ a0.toInt = 15 ∨ a0.toInt = 16 ∨ a0.toInt = 17 ∨ a0.toInt = 18) with c_1 | c_1 | c_1 | c_1 | c_1 | c_1 | c_1 | c_1 | c_1 | c_1 | c_1 | c_1 | c_1 | c_1 | c_1 | c_1 | c_1 | c_1 | c_1
  · refine lv_tableOut (tgt := 115) hx hb dX7_signText_1 c_1 (by decide) ?_
    refine va_ldcS hx hb hown rstr142 dX7_signText_115 ?_
    rw [hQ]
    exact W.aret (v := .ref str142) hx hb hr (Or.inl ⟨_, rfl⟩) (Or.inr ⟨_, rfl⟩) (fun t ht hW => ⟨⟨.ref str142, (str142, 5), rfl, ⟨rfl, by show (5 : Nat) < 2147483648; omega⟩, ⟨hh.rt (M1 := []) [] rfl ht, by rw [ht]; exact (hstr142.moved hW.alike).kept hh.1.2.1⟩⟩, by rw [ht]; try exact hh.1.1, fun q h9 hq => by rw [ht]; try exact hh.1.2.1 q h9 hq⟩) hh.1.2.2 dX7_signText_117
  · refine lv_tableIn (off := 87) (tgt := 88) hx hb dX7_signText_1 (by omega) (by omega) (by rw [c_1]; rfl) (by decide) ?_
    refine va_ldcS hx hb hown rstr126 dX7_signText_88 ?_
    rw [hQ]
    exact W.aret (v := .ref str126) hx hb hr (Or.inl ⟨_, rfl⟩) (Or.inr ⟨_, rfl⟩) (fun t ht hW => ⟨⟨.ref str126, (str126, 4), rfl, ⟨rfl, by show (4 : Nat) < 2147483648; omega⟩, ⟨hh.rt (M1 := []) [] rfl ht, by rw [ht]; exact (hstr126.moved hW.alike).kept hh.1.2.1⟩⟩, by rw [ht]; try exact hh.1.1, fun q h9 hq => by rw [ht]; try exact hh.1.2.1 q h9 hq⟩) hh.1.2.2 dX7_signText_90
  · refine lv_tableIn (off := 90) (tgt := 91) hx hb dX7_signText_1 (by omega) (by omega) (by rw [c_1]; rfl) (by decide) ?_
    refine va_ldcS hx hb hown rstr128 dX7_signText_91 ?_
    rw [hQ]
    exact W.aret (v := .ref str128) hx hb hr (Or.inl ⟨_, rfl⟩) (Or.inr ⟨_, rfl⟩) (fun t ht hW => ⟨⟨.ref str128, (str128, 3), rfl, ⟨rfl, by show (3 : Nat) < 2147483648; omega⟩, ⟨hh.rt (M1 := []) [] rfl ht, by rw [ht]; exact (hstr128.moved hW.alike).kept hh.1.2.1⟩⟩, by rw [ht]; try exact hh.1.1, fun q h9 hq => by rw [ht]; try exact hh.1.2.1 q h9 hq⟩) hh.1.2.2 dX7_signText_93
  · refine lv_tableIn (off := 93) (tgt := 94) hx hb dX7_signText_1 (by omega) (by omega) (by rw [c_1]; rfl) (by decide) ?_
    refine va_ldcS hx hb hown rstr130 dX7_signText_94 ?_
    rw [hQ]
    exact W.aret (v := .ref str130) hx hb hr (Or.inl ⟨_, rfl⟩) (Or.inr ⟨_, rfl⟩) (fun t ht hW => ⟨⟨.ref str130, (str130, 3), rfl, ⟨rfl, by show (3 : Nat) < 2147483648; omega⟩, ⟨hh.rt (M1 := []) [] rfl ht, by rw [ht]; exact (hstr130.moved hW.alike).kept hh.1.2.1⟩⟩, by rw [ht]; try exact hh.1.1, fun q h9 hq => by rw [ht]; try exact hh.1.2.1 q h9 hq⟩) hh.1.2.2 dX7_signText_96
  · refine lv_tableIn (off := 96) (tgt := 97) hx hb dX7_signText_1 (by omega) (by omega) (by rw [c_1]; rfl) (by decide) ?_
    refine va_ldcS hx hb hown rstr132 dX7_signText_97 ?_
    rw [hQ]
    exact W.aret (v := .ref str132) hx hb hr (Or.inl ⟨_, rfl⟩) (Or.inr ⟨_, rfl⟩) (fun t ht hW => ⟨⟨.ref str132, (str132, 3), rfl, ⟨rfl, by show (3 : Nat) < 2147483648; omega⟩, ⟨hh.rt (M1 := []) [] rfl ht, by rw [ht]; exact (hstr132.moved hW.alike).kept hh.1.2.1⟩⟩, by rw [ht]; try exact hh.1.1, fun q h9 hq => by rw [ht]; try exact hh.1.2.1 q h9 hq⟩) hh.1.2.2 dX7_signText_99
  · refine lv_tableIn (off := 99) (tgt := 100) hx hb dX7_signText_1 (by omega) (by omega) (by rw [c_1]; rfl) (by decide) ?_
    refine va_ldcS hx hb hown rstr134 dX7_signText_100 ?_
    rw [hQ]
    exact W.aret (v := .ref str134) hx hb hr (Or.inl ⟨_, rfl⟩) (Or.inr ⟨_, rfl⟩) (fun t ht hW => ⟨⟨.ref str134, (str134, 7), rfl, ⟨rfl, by show (7 : Nat) < 2147483648; omega⟩, ⟨hh.rt (M1 := []) [] rfl ht, by rw [ht]; exact (hstr134.moved hW.alike).kept hh.1.2.1⟩⟩, by rw [ht]; try exact hh.1.1, fun q h9 hq => by rw [ht]; try exact hh.1.2.1 q h9 hq⟩) hh.1.2.2 dX7_signText_102
  · refine lv_tableIn (off := 102) (tgt := 103) hx hb dX7_signText_1 (by omega) (by omega) (by rw [c_1]; rfl) (by decide) ?_
    refine va_ldcS hx hb hown rstr136 dX7_signText_103 ?_
    rw [hQ]
    exact W.aret (v := .ref str136) hx hb hr (Or.inl ⟨_, rfl⟩) (Or.inr ⟨_, rfl⟩) (fun t ht hW => ⟨⟨.ref str136, (str136, 7), rfl, ⟨rfl, by show (7 : Nat) < 2147483648; omega⟩, ⟨hh.rt (M1 := []) [] rfl ht, by rw [ht]; exact (hstr136.moved hW.alike).kept hh.1.2.1⟩⟩, by rw [ht]; try exact hh.1.1, fun q h9 hq => by rw [ht]; try exact hh.1.2.1 q h9 hq⟩) hh.1.2.2 dX7_signText_105
  · refine lv_tableIn (off := 114) (tgt := 115) hx hb dX7_signText_1 (by omega) (by omega) (by rw [c_1]; rfl) (by decide) ?_
    refine va_ldcS hx hb hown rstr142 dX7_signText_115 ?_
    rw [hQ]
    exact W.aret (v := .ref str142) hx hb hr (Or.inl ⟨_, rfl⟩) (Or.inr ⟨_, rfl⟩) (fun t ht hW => ⟨⟨.ref str142, (str142, 5), rfl, ⟨rfl, by show (5 : Nat) < 2147483648; omega⟩, ⟨hh.rt (M1 := []) [] rfl ht, by rw [ht]; exact (hstr142.moved hW.alike).kept hh.1.2.1⟩⟩, by rw [ht]; try exact hh.1.1, fun q h9 hq => by rw [ht]; try exact hh.1.2.1 q h9 hq⟩) hh.1.2.2 dX7_signText_117
  · refine lv_tableIn (off := 114) (tgt := 115) hx hb dX7_signText_1 (by omega) (by omega) (by rw [c_1]; rfl) (by decide) ?_
    refine va_ldcS hx hb hown rstr142 dX7_signText_115 ?_
    rw [hQ]
    exact W.aret (v := .ref str142) hx hb hr (Or.inl ⟨_, rfl⟩) (Or.inr ⟨_, rfl⟩) (fun t ht hW => ⟨⟨.ref str142, (str142, 5), rfl, ⟨rfl, by show (5 : Nat) < 2147483648; omega⟩, ⟨hh.rt (M1 := []) [] rfl ht, by rw [ht]; exact (hstr142.moved hW.alike).kept hh.1.2.1⟩⟩, by rw [ht]; try exact hh.1.1, fun q h9 hq => by rw [ht]; try exact hh.1.2.1 q h9 hq⟩) hh.1.2.2 dX7_signText_117
  · refine lv_tableIn (off := 114) (tgt := 115) hx hb dX7_signText_1 (by omega) (by omega) (by rw [c_1]; rfl) (by decide) ?_
    refine va_ldcS hx hb hown rstr142 dX7_signText_115 ?_
    rw [hQ]
    exact W.aret (v := .ref str142) hx hb hr (Or.inl ⟨_, rfl⟩) (Or.inr ⟨_, rfl⟩) (fun t ht hW => ⟨⟨.ref str142, (str142, 5), rfl, ⟨rfl, by show (5 : Nat) < 2147483648; omega⟩, ⟨hh.rt (M1 := []) [] rfl ht, by rw [ht]; exact (hstr142.moved hW.alike).kept hh.1.2.1⟩⟩, by rw [ht]; try exact hh.1.1, fun q h9 hq => by rw [ht]; try exact hh.1.2.1 q h9 hq⟩) hh.1.2.2 dX7_signText_117
  · refine lv_tableIn (off := 114) (tgt := 115) hx hb dX7_signText_1 (by omega) (by omega) (by rw [c_1]; rfl) (by decide) ?_
    refine va_ldcS hx hb hown rstr142 dX7_signText_115 ?_
    rw [hQ]
    exact W.aret (v := .ref str142) hx hb hr (Or.inl ⟨_, rfl⟩) (Or.inr ⟨_, rfl⟩) (fun t ht hW => ⟨⟨.ref str142, (str142, 5), rfl, ⟨rfl, by show (5 : Nat) < 2147483648; omega⟩, ⟨hh.rt (M1 := []) [] rfl ht, by rw [ht]; exact (hstr142.moved hW.alike).kept hh.1.2.1⟩⟩, by rw [ht]; try exact hh.1.1, fun q h9 hq => by rw [ht]; try exact hh.1.2.1 q h9 hq⟩) hh.1.2.2 dX7_signText_117
  · refine lv_tableIn (off := 114) (tgt := 115) hx hb dX7_signText_1 (by omega) (by omega) (by rw [c_1]; rfl) (by decide) ?_
    refine va_ldcS hx hb hown rstr142 dX7_signText_115 ?_
    rw [hQ]
    exact W.aret (v := .ref str142) hx hb hr (Or.inl ⟨_, rfl⟩) (Or.inr ⟨_, rfl⟩) (fun t ht hW => ⟨⟨.ref str142, (str142, 5), rfl, ⟨rfl, by show (5 : Nat) < 2147483648; omega⟩, ⟨hh.rt (M1 := []) [] rfl ht, by rw [ht]; exact (hstr142.moved hW.alike).kept hh.1.2.1⟩⟩, by rw [ht]; try exact hh.1.1, fun q h9 hq => by rw [ht]; try exact hh.1.2.1 q h9 hq⟩) hh.1.2.2 dX7_signText_117
  · refine lv_tableIn (off := 114) (tgt := 115) hx hb dX7_signText_1 (by omega) (by omega) (by rw [c_1]; rfl) (by decide) ?_
    refine va_ldcS hx hb hown rstr142 dX7_signText_115 ?_
    rw [hQ]
    exact W.aret (v := .ref str142) hx hb hr (Or.inl ⟨_, rfl⟩) (Or.inr ⟨_, rfl⟩) (fun t ht hW => ⟨⟨.ref str142, (str142, 5), rfl, ⟨rfl, by show (5 : Nat) < 2147483648; omega⟩, ⟨hh.rt (M1 := []) [] rfl ht, by rw [ht]; exact (hstr142.moved hW.alike).kept hh.1.2.1⟩⟩, by rw [ht]; try exact hh.1.1, fun q h9 hq => by rw [ht]; try exact hh.1.2.1 q h9 hq⟩) hh.1.2.2 dX7_signText_117
  · refine lv_tableIn (off := 114) (tgt := 115) hx hb dX7_signText_1 (by omega) (by omega) (by rw [c_1]; rfl) (by decide) ?_
    refine va_ldcS hx hb hown rstr142 dX7_signText_115 ?_
    rw [hQ]
    exact W.aret (v := .ref str142) hx hb hr (Or.inl ⟨_, rfl⟩) (Or.inr ⟨_, rfl⟩) (fun t ht hW => ⟨⟨.ref str142, (str142, 5), rfl, ⟨rfl, by show (5 : Nat) < 2147483648; omega⟩, ⟨hh.rt (M1 := []) [] rfl ht, by rw [ht]; exact (hstr142.moved hW.alike).kept hh.1.2.1⟩⟩, by rw [ht]; try exact hh.1.1, fun q h9 hq => by rw [ht]; try exact hh.1.2.1 q h9 hq⟩) hh.1.2.2 dX7_signText_117
  · refine lv_tableIn (off := 114) (tgt := 115) hx hb dX7_signText_1 (by omega) (by omega) (by rw [c_1]; rfl) (by decide) ?_
    refine va_ldcS hx hb hown rstr142 dX7_signText_115 ?_
    rw [hQ]
    exact W.aret (v := .ref str142) hx hb hr (Or.inl ⟨_, rfl⟩) (Or.inr ⟨_, rfl⟩) (fun t ht hW => ⟨⟨.ref str142, (str142, 5), rfl, ⟨rfl, by show (5 : Nat) < 2147483648; omega⟩, ⟨hh.rt (M1 := []) [] rfl ht, by rw [ht]; exact (hstr142.moved hW.alike).kept hh.1.2.1⟩⟩, by rw [ht]; try exact hh.1.1, fun q h9 hq => by rw [ht]; try exact hh.1.2.1 q h9 hq⟩) hh.1.2.2 dX7_signText_117
  · refine lv_tableIn (off := 114) (tgt := 115) hx hb dX7_signText_1 (by omega) (by omega) (by rw [c_1]; rfl) (by decide) ?_
    refine va_ldcS hx hb hown rstr142 dX7_signText_115 ?_
    rw [hQ]
    exact W.aret (v := .ref str142) hx hb hr (Or.inl ⟨_, rfl⟩) (Or.inr ⟨_, rfl⟩) (fun t ht hW => ⟨⟨.ref str142, (str142, 5), rfl, ⟨rfl, by show (5 : Nat) < 2147483648; omega⟩, ⟨hh.rt (M1 := []) [] rfl ht, by rw [ht]; exact (hstr142.moved hW.alike).kept hh.1.2.1⟩⟩, by rw [ht]; try exact hh.1.1, fun q h9 hq => by rw [ht]; try exact hh.1.2.1 q h9 hq⟩) hh.1.2.2 dX7_signText_117
  · refine lv_tableIn (off := 105) (tgt := 106) hx hb dX7_signText_1 (by omega) (by omega) (by rw [c_1]; rfl) (by decide) ?_
    refine va_ldcS hx hb hown rstr138 dX7_signText_106 ?_
    rw [hQ]
    exact W.aret (v := .ref str138) hx hb hr (Or.inl ⟨_, rfl⟩) (Or.inr ⟨_, rfl⟩) (fun t ht hW => ⟨⟨.ref str138, (str138, 1), rfl, ⟨rfl, by show (1 : Nat) < 2147483648; omega⟩, ⟨hh.rt (M1 := []) [] rfl ht, by rw [ht]; exact (hstr138.moved hW.alike).kept hh.1.2.1⟩⟩, by rw [ht]; try exact hh.1.1, fun q h9 hq => by rw [ht]; try exact hh.1.2.1 q h9 hq⟩) hh.1.2.2 dX7_signText_108
  · refine lv_tableIn (off := 108) (tgt := 109) hx hb dX7_signText_1 (by omega) (by omega) (by rw [c_1]; rfl) (by decide) ?_
    refine va_ldcS hx hb hown rstr140 dX7_signText_109 ?_
    rw [hQ]
    exact W.aret (v := .ref str140) hx hb hr (Or.inl ⟨_, rfl⟩) (Or.inr ⟨_, rfl⟩) (fun t ht hW => ⟨⟨.ref str140, (str140, 1), rfl, ⟨rfl, by show (1 : Nat) < 2147483648; omega⟩, ⟨hh.rt (M1 := []) [] rfl ht, by rw [ht]; exact (hstr140.moved hW.alike).kept hh.1.2.1⟩⟩, by rw [ht]; try exact hh.1.1, fun q h9 hq => by rw [ht]; try exact hh.1.2.1 q h9 hq⟩) hh.1.2.2 dX7_signText_111
  · refine lv_tableIn (off := 111) (tgt := 112) hx hb dX7_signText_1 (by omega) (by omega) (by rw [c_1]; rfl) (by decide) ?_
    refine va_ldcS hx hb hown rstr78 dX7_signText_112 ?_
    rw [hQ]
    exact W.aret (v := .ref str78) hx hb hr (Or.inl ⟨_, rfl⟩) (Or.inr ⟨_, rfl⟩) (fun t ht hW => ⟨⟨.ref str78, (str78, 2), rfl, ⟨rfl, by show (2 : Nat) < 2147483648; omega⟩, ⟨hh.rt (M1 := []) [] rfl ht, by rw [ht]; exact (hstr78.moved hW.alike).kept hh.1.2.1⟩⟩, by rw [ht]; try exact hh.1.1, fun q h9 hq => by rw [ht]; try exact hh.1.2.1 q h9 hq⟩) hh.1.2.2 dX7_signText_114
end
section
-- super's methods; bytes whose contents are known; the numbers that signs tell
section J18
variable {p : Program} {l : Launch} {e : Env} {R : Room} {s : State} {m : MethodId} {args : Array Value} {below : List Frame} {meth : Method} {c : Code} {H : Heap} {locs : List Loc} {cells slots : Nat} {Q : State → Prop}
variable {cc : ByteArray} {pc : Nat} {ls : Array Slot} {rest : List Value} {dC : Nat → ClassId} {dI : Nat → Nat → Nat} {ca : Nat → ClassId} {B : jF} {base : Nat} {G0 G : jT} {E : List (Nat × Nat)} {H0 : Heap} {zc zs : Nat} {L : List jPin} {M : List jCt} {I : List jIv} {a k n : Nat} {cA : ClassId} {tys : List (ClassId × FieldType)}
theorem j7_bastF (hexec : p.tables.exec = Jvm.exec) (hb : c.code = cc) (hK : va_K (dC, dI) vwCl tys s) (hh : jSt (dC, dI) B base G0 G E H0 zc zs L M I H locs) (hB : jBok B) (hBk : ∀ n G a H, B k n G a H ↔ jAr (dC, dI) cA jBf n a H) (t0 : Nat) (ht : tys[t0]? = some (cA, .byte)) (hk : k < 1000) (hk2 : 18 ≤ k) (hE : E.contains (k, 0) = true) (hM : M.all (fun q => !(q.2.1 == k)) = true) (hI : I.all (fun q => !(q.1.contains (k, 0))) = true) (ha : G a = some (k, n)) {i v : Int32} {x : Int} (hi : i.toInt = x) (h12 : 0 ≤ x ∧ x < n) (hdg : decode cc pc = .ok (.bastore, 1))
    (kk : ∀ (H1 : Heap) (locs1 : List Loc), jSt (dC, dI) B base G0 G E H0 zc zs L M I H1 locs1 → W p l e R s m args below meth c H1 locs1 cells slots Q (F0 m (pc + 1) ls rest)) : W p l e R s m args below meth c H locs cells slots Q (F0 m pc ls (.int v :: .int i :: .ref a :: rest)) := by
  obtain ⟨h1, h2⟩ := h12
  obtain ⟨f, g1, g2⟩ := hh.byt hBk hk ha
  exact j_bast (A := jA base) hexec hb hK t0 g1 (hh.ab ha).1 hh.1.2.2 ht (jb_in hi h1 h2) hdg (fun H1 locs1 f1 hf hat hsz hfr hT hL => kk H1 locs1 (hh.arr hB ha hk hk2 hE hM hI hsz hfr hT hL ((hBk _ _ _ _).mpr ⟨f1, hat, fun j _ => hf g2 j⟩)))
end J18
end
section
theorem dX1_isSentence_0 : decode cX1_isSentence 0 = .ok (.iload_n 1, 1) := by decide +kernel
theorem dX1_isSentence_1 : decode cX1_isSentence 1 = .ok (.ifCond .lt 29, 3) := by decide +kernel
theorem dX1_isSentence_4 : decode cX1_isSentence 4 = .ok (.iload_n 1, 1) := by decide +kernel
theorem dX1_isSentence_5 : decode cX1_isSentence 5 = .ok (.aload_n 0, 1) := by decide +kernel
theorem dX1_isSentence_6 : decode cX1_isSentence 6 = .ok (.getfield 69, 3) := by decide +kernel
theorem dX1_isSentence_9 : decode cX1_isSentence 9 = .ok (.if_icmp .ge 21, 3) := by decide +kernel
theorem dX1_isSentence_12 : decode cX1_isSentence 12 = .ok (.aload_n 0, 1) := by decide +kernel
theorem dX1_isSentence_13 : decode cX1_isSentence 13 = .ok (.getfield 21, 3) := by decide +kernel
theorem dX1_isSentence_16 : decode cX1_isSentence 16 = .ok (.iload_n 1, 1) := by decide +kernel
theorem dX1_isSentence_17 : decode cX1_isSentence 17 = .ok (.iaload, 1) := by decide +kernel
theorem dX1_isSentence_18 : decode cX1_isSentence 18 = .ok (.aload_n 0, 1) := by decide +kernel
theorem dX1_isSentence_19 : decode cX1_isSentence 19 = .ok (.getfield 18, 3) := by decide +kernel
theorem dX1_isSentence_22 : decode cX1_isSentence 22 = .ok (.iload_n 1, 1) := by decide +kernel
theorem dX1_isSentence_23 : decode cX1_isSentence 23 = .ok (.iaload, 1) := by decide +kernel
theorem dX1_isSentence_24 : decode cX1_isSentence 24 = .ok (.isub, 1) := by decide +kernel
theorem dX1_isSentence_25 : decode cX1_isSentence 25 = .ok (.aload_n 2, 1) := by decide +kernel
theorem dX1_isSentence_26 : decode cX1_isSentence 26 = .ok (.arraylength, 1) := by decide +kernel
theorem dX1_isSentence_27 : decode cX1_isSentence 27 = .ok (.if_icmp .eq 5, 3) := by decide +kernel
theorem dX1_isSentence_30 : decode cX1_isSentence 30 = .ok (.iconst 0, 1) := by decide +kernel
theorem dX1_isSentence_31 : decode cX1_isSentence 31 = .ok (.ireturn, 1) := by decide +kernel
theorem dX1_isSentence_32 : decode cX1_isSentence 32 = .ok (.iconst 0, 1) := by decide +kernel
theorem dX1_isSentence_33 : decode cX1_isSentence 33 = .ok (.istore_n 3, 1) := by decide +kernel
theorem dX1_isSentence_34 : decode cX1_isSentence 34 = .ok (.iload_n 3, 1) := by decide +kernel
theorem dX1_isSentence_35 : decode cX1_isSentence 35 = .ok (.aload_n 2, 1) := by decide +kernel
theorem dX1_isSentence_36 : decode cX1_isSentence 36 = .ok (.arraylength, 1) := by decide +kernel
theorem dX1_isSentence_37 : decode cX1_isSentence 37 = .ok (.if_icmp .ge 30, 3) := by decide +kernel
theorem dX1_isSentence_40 : decode cX1_isSentence 40 = .ok (.aload_n 0, 1) := by decide +kernel
theorem dX1_isSentence_41 : decode cX1_isSentence 41 = .ok (.getfield 15, 3) := by decide +kernel
theorem dX1_isSentence_44 : decode cX1_isSentence 44 = .ok (.aload_n 0, 1) := by decide +kernel
theorem dX1_isSentence_45 : decode cX1_isSentence 45 = .ok (.getfield 18, 3) := by decide +kernel
theorem dX1_isSentence_48 : decode cX1_isSentence 48 = .ok (.iload_n 1, 1) := by decide +kernel
theorem dX1_isSentence_49 : decode cX1_isSentence 49 = .ok (.iaload, 1) := by decide +kernel
theorem dX1_isSentence_50 : decode cX1_isSentence 50 = .ok (.iload_n 3, 1) := by decide +kernel
theorem dX1_isSentence_51 : decode cX1_isSentence 51 = .ok (.iadd, 1) := by decide +kernel
theorem dX1_isSentence_52 : decode cX1_isSentence 52 = .ok (.iaload, 1) := by decide +kernel
theorem dX1_isSentence_53 : decode cX1_isSentence 53 = .ok (.aload_n 2, 1) := by decide +kernel
theorem dX1_isSentence_54 : decode cX1_isSentence 54 = .ok (.iload_n 3, 1) := by decide +kernel
theorem dX1_isSentence_55 : decode cX1_isSentence 55 = .ok (.iaload, 1) := by decide +kernel
theorem dX1_isSentence_56 : decode cX1_isSentence 56 = .ok (.if_icmp .eq 5, 3) := by decide +kernel
theorem dX1_isSentence_59 : decode cX1_isSentence 59 = .ok (.iconst 0, 1) := by decide +kernel
theorem dX1_isSentence_60 : decode cX1_isSentence 60 = .ok (.ireturn, 1) := by decide +kernel
theorem dX1_isSentence_61 : decode cX1_isSentence 61 = .ok (.iinc 3 1, 3) := by decide +kernel
theorem dX1_isSentence_64 : decode cX1_isSentence 64 = .ok (.goto (-30), 3) := by decide +kernel
theorem dX1_isSentence_67 : decode cX1_isSentence 67 = .ok (.iconst 1, 1) := by decide +kernel
theorem dX1_isSentence_68 : decode cX1_isSentence 68 = .ok (.ireturn, 1) := by decide +kernel
end
section
-- copyOf of bytes, over the one list of words
set_option maxHeartbeats 4000000 in
set_option maxRecDepth 20000 in
/-- Arrays.copyOf to a greater length: a new row -/
theorem wJ7_copyOf_9075b (l : Launch) (dC : Nat → ClassId) (dI : Nat → Nat → Nat) (ca : Nat → ClassId) (base LC LS : Nat) (H0 : Heap) (v n n1 : Nat) (f : Nat → Int32) (a1 : Int32) : Met l yJ7_copyOf_9075b (jw yJ7_copyOf_9075b cJ7_copyOf_9075b 3 (some (.array .byte))) ({ frames := 1, cells := LC - H0.size, slots := LS - jTot H0, locals := 40 }) (va_Pc [.ref v, .int a1] (fun U => U.heap = H0 ∧ va_at (dC, dI) vwCl (v, .inl (ca 0, n, .inl f)) H0 ∧ jG dC dI ca base U ∧ (sb_Fit f ∧ a1.toInt = n1 ∧ n < n1 ∧ n1 ≤ 2000000 ∧ H0.size + 1 ≤ LC ∧ jTot H0 + n1 ≤ LS))) (va_Qr (S := Nat → Int32) (fun f1 => sb_Fit f1) (fun f1 a t => a = H0.size ∧ va_at (dC, dI) vwCl (a, .inl (ca 0, n1, .inl f1)) t.heap ∧ t.heap.size = H0.size + 1 ∧ (∀ q, q < H0.size → t.heap[q]? = H0[q]?) ∧ jTot t.heap ≤ jTot H0 + n1) (fun q => H0.size ≤ q)) (LC - H0.size) (LS - jTot H0) (fun q => q = v ∨ H0.size ≤ q) := by
  refine Met.ofW (cc := cJ7_copyOf_9075b) (maxL := 3) (ret := (some (.array .byte))) (by decide) rfl ?_
  intro p e s m args below meth c s₁ B hml hv
  obtain ⟨rfl, hH0, hat, hG, hfit, h1, h2, h3, h4, h5⟩ := hv
  have hK := hG.1
  have hx := B.exec
  have hb := B.bytes
  have hr := B.returns
  have hts := atoms_spec (ws := (jw yJ7_copyOf_9075b cJ7_copyOf_9075b 3 (some (.array .byte)))) B.pre
  have htw : ∀ w ∈ jWl, w.before _ s = true := fun w h => hts w (List.mem_cons_of_mem _ h)
  have hown : s.vm.findClass RJ7 = some m.cls := findClass_of_methodNamed B.named
  have hlocks := B.notSynchronized
  subst hH0
  have hvl : v < s.heap.size := (Array.getElem?_eq_some_iff.mp hat).1
  have hl := lv_entry ([.ref v, .int a1]) (n := 3) (Nat.le_of_ble_eq_true rfl)
  rw [lg_entry_eq]
  generalize (lg_sl ([.ref v, .int a1]) ++ List.replicate (3 - (lg_sl ([.ref v, .int a1])).length) Slot.unset).toArray = ls at hl ⊢
  have hl : lv_has ls 3 [(0, .ref v), (1, .int a1)] := hl
  refine lv_iload_n hx hb dJ7_copyOf_9075b_0 rfl (lv_at hl 1 rfl) ?_
  refine lv_aload_n hx hb dJ7_copyOf_9075b_1 rfl (lv_at hl 0 rfl) ?_
  refine va_alen (v := Int32.ofNat n) hx hb hK (jp_one hat) 0 0 rfl rfl rfl dJ7_copyOf_9075b_2 ?_
  refine lv_icmp_ne (tgt := 14) hx hb dJ7_copyOf_9075b_3 (by decide) (fun c1 => ?_) (fun c1 => ?_)
  · refine lv_iload_n hx hb dJ7_copyOf_9075b_14 rfl (lv_at hl 1 rfl) ?_
    refine j_newi (ty := .byte) hx hb (htw (.arrayClass .byte) (jWr_3 _ (List.mem_of_getElem? (i := 9) rfl))) rfl rfl (fun _ h => h) hK 0 rfl (jb_n0 h1 (by omega)) (N' := n1) (by rw [jb_cl h1 (by omega)]; omega) (by simp [componentBytes]; omega) (by show 0 + 1 ≤ LC - s.heap.size; omega) (by show 0 + n1 ≤ LS - jTot s.heap; omega) dJ7_copyOf_9075b_15 (fun H1 hat1 hz1 ho1 hT1 => ?_)
    have hat2 := hat.kept (ho1 _ hvl)
    have hP : va_P (dC, dI) vwCl [(v, .inl (ca 0, n, .inl f)), (s.heap.size, .inl (ca 0, n1, .inl (fun _ => 0)))] H1 := by
      intro k r hr
      match k, hr with
      | 0, hr => cases hr; exact hat2
      | 1, hr => cases hr; exact hat1
      | k + 2, hr => simp at hr
    have hD : va_D (fun q => q = v ∨ s.heap.size ≤ q) [(v, .inl (ca 0, n, .inl f)), (s.heap.size, .inl (ca 0, n1, .inl (fun _ => 0)))] := by
      refine ⟨fun i j p q hi hj e => ?_, fun k q hq => ?_⟩
      · match i, j, hi, hj with
        | 0, 0, _, _ => rfl
        | 0, 1, hi, hj => cases hi; cases hj; simp at e; omega
        | 1, 0, hi, hj => cases hi; cases hj; simp at e; omega
        | 1, 1, _, _ => rfl
        | i + 2, _, hi, _ => simp at hi
        | _, j + 2, _, hj => simp at hj
      · match k, hq with
        | 0, hq => cases hq; exact Or.inl rfl
        | 1, hq => cases hq; exact Or.inr (Nat.le_refl _)
        | k + 2, hq => simp at hq
    have hS : va_S (fun q => q = v ∨ s.heap.size ≤ q) s.heap H1 [] := ⟨by omega, fun q h _ => ho1 q h, fun _ h => nomatch h⟩
    refine lv_astore_n (lv' := [(2, .ref s.heap.size), (0, .ref v), (1, .int a1)]) hx hb dJ7_copyOf_9075b_17 rfl hl (by decide) rfl (fun ls hl => ?_)
    refine lv_aload_n hx hb dJ7_copyOf_9075b_18 rfl (lv_at hl 1 rfl) ?_
    refine lv_iconst (v := 0) hx hb dJ7_copyOf_9075b_19 (by decide) ?_
    refine lv_aload_n hx hb dJ7_copyOf_9075b_20 rfl (lv_at hl 0 rfl) ?_
    refine lv_iconst (v := 0) hx hb dJ7_copyOf_9075b_21 (by decide) ?_
    refine lv_aload_n hx hb dJ7_copyOf_9075b_22 rfl (lv_at hl 1 rfl) ?_
    refine va_alen (v := Int32.ofNat n) hx hb hK (jp_one hat2) 0 0 rfl rfl rfl dJ7_copyOf_9075b_23 ?_
    refine lv_iload_n hx hb dJ7_copyOf_9075b_24 rfl (lv_at hl 2 rfl) ?_
    refine va_mmin hx hb (by rw [hml]; exact hl.1.symm) hown (htw (.methodLink RJ7 304 Lib.Math.min.name) (jWr_16 _ (List.mem_of_getElem? (i := 15) rfl))) (htw (.static Lib.Math.min.name) (jWr_16 _ (List.mem_of_getElem? (i := 16) rfl))) (htw (.initialized "java/lang/Math") (jWr_3 _ (List.mem_of_getElem? (i := 7) rfl))) (htw (.code Lib.Math.min.name Lib.Math.min.code 2 (some .int)) (jWr_16 _ (List.mem_of_getElem? (i := 17) rfl))) (Nat.le_of_ble_eq_true rfl) (Nat.le_of_ble_eq_true rfl) (by show 0 + 1 ≤ LC - s.heap.size; omega) (by show 0 + n1 ≤ LS - jTot s.heap; omega) dJ7_copyOf_9075b_25 ?_
    have hn : (Int32.ofNat n).toInt = n := jb_nat (by omega)
    rw [if_neg (fun q => by have h6 := jb_lt h1 hn q; omega)]
    refine va_copyi (H0 := s.heap) hx hb (by rw [hml]; exact hl.1.symm) hown (htw (.methodLink RJ7 150 arraycopyName) (jWr_16 _ (List.mem_of_getElem? (i := 18) rfl))) (htw (.native arraycopyName) (jWr_16 _ (List.mem_of_getElem? (i := 19) rfl))) (htw (.static arraycopyName) (jWr_16 _ (List.mem_of_getElem? (i := 20) rfl))) (htw (.initialized "java/lang/System") (jWr_16 _ (List.mem_of_getElem? (i := 21) rfl))) hK hP hD hS 0 1 0 0 rfl rfl rfl rfl rfl (by decide) (by decide) (jb_n0 hn (by omega)) (by rw [jb_cl hn (by omega), sb_cl0]; omega) (by rw [jb_cl hn (by omega), sb_cl0]; omega) (fun i hi => hfit _) (Nat.le_of_ble_eq_true rfl) (Nat.le_of_ble_eq_true rfl) dJ7_copyOf_9075b_28 (fun H2 locs2 hP2 hD2 hS2 => ?_)
    refine W.known (fun hsz2 hT2 => ?_)
    refine lv_aload_n hx hb dJ7_copyOf_9075b_31 rfl (lv_at hl 0 rfl) ?_
    have hat3 := hP2 1 _ rfl
    have hat4 := hP2 0 _ rfl
    have hl3 : s.heap.size < H2.size := hat3.lt
    refine W.widen (k := LC - s.heap.size) (n := LS - jTot s.heap) (by omega) (by omega) ?_
    refine W.aret hx hb hr (Or.inr ⟨_, rfl⟩) (Or.inr ⟨_, rfl⟩) (fun t ht hW => ⟨⟨_, _, rfl, ?_, rfl, by rw [ht]; exact hat3, by rw [ht]; omega, fun q hq => ?_, by rw [ht]; omega⟩, by rw [ht]; exact hS2.1, fun q hq hn => ?_⟩) ?_ dJ7_copyOf_9075b_32
    · exact hS2.2.2
    · exact sb_fitC hfit sb_fit0
    · rw [ht]
      by_cases e : q = v
      · subst e
        exact (show H2[q]? = some _ from hat4).trans (show s.heap[q]? = some _ from hat).symm
      · exact hS2.2.1 q hq (fun h => h.elim e (fun h => by omega))
    · rw [ht]
      by_cases e : q = v
      · subst e
        exact (show H2[q]? = some _ from hat4).trans (show s.heap[q]? = some _ from hat).symm
      · exact hS2.2.1 q hq (fun h => h.elim e (fun h => by omega))
  · exact absurd (jb_eq h1 (jb_nat (by omega)) c1) (by omega)
end
section
-- bytes that grow: arrays of bytes whose elements fit (the builders', the class's Bytes)
section J17
variable {p : Program} {l : Launch} {e : Env} {R : Room} {s : State} {m : MethodId} {args : Array Value} {below : List Frame} {meth : Method} {c : Code} {H : Heap} {locs : List Loc} {cells slots : Nat} {Q : State → Prop}
variable {cc : ByteArray} {pc : Nat} {ls : Array Slot} {rest : List Value} {dC : Nat → ClassId} {dI : Nat → Nat → Nat} {ca : Nat → ClassId} {B : jF} {base : Nat} {G0 G : jT} {E : List (Nat × Nat)} {H0 : Heap} {zc zs : Nat} {L : List jPin} {M : List jCt} {I : List jIv} {a k n : Nat} {cA : ClassId} {tys : List (ClassId × FieldType)}
/-- Arrays.copyOf of bytes to a greater length, in a walk: the copy is typed at once -/
theorem j7_copyb {own : String} {index : Nat} {Ts : List Cond} {nL LC LS n1 : Nat} {z : Int32} (hC : CallFix p m c cc nL s args Ts own) (hK : va_K (dC, dI) vwCl tys s) (hG : jG dC dI ca base s) (hh : jSt (dC, dI) B base G0 G E s.heap zc zs L M I H locs) (hB : jBok B) (hBk : ∀ n G a H, B k n G a H ↔ jAr (dC, dI) (ca 0) jBf n a H) (hk : k < 1000) (hb0 : base ≤ s.heap.size) (ha : G a = some (k, n)) (hz : z.toInt = n1) (hn : n < n1) (hm : n1 ≤ 2000000) (hLC : H.size + 1 ≤ LC) (hLS : jTot H + n1 ≤ LS) (hRc : R.cells = LC - s.heap.size) (hRs : R.slots = LS - jTot s.heap)
    (cw : CallB R s args own index yJ7_copyOf_9075b cJ7_copyOf_9075b 3 (some (.array .byte)) (jw yJ7_copyOf_9075b cJ7_copyOf_9075b 3 (some (.array .byte))) { frames := 1, cells := LC - H.size, slots := LS - jTot H, locals := 40 } (LC - H.size) (LS - jTot H) 2 ∧ (Cond.static yJ7_copyOf_9075b).before args s = true) (hsz : ls.size = nL) (hW : (rest.map fun v => v.category).sum ≤ 8) (hdg : decode cc pc = .ok (.invokestatic index, 3))
    (kk : ∀ (H1 : Heap) (locs1 : List Loc), H1.size = H.size + 1 → jTot H1 ≤ jTot H + n1 → jSt (dC, dI) B base G0 (va_up G H.size (some (k, n1))) E s.heap (zc + 1) (zs + n1) L M I H1 locs1 → W p l e R s m args below meth c H1 locs1 (zc + 1) (zs + n1) Q (F0 m (pc + 3) ls (.ref H.size :: rest))) : W p l e R s m args below meth c H locs cells slots Q (F0 m pc ls (.int z :: .ref a :: rest)) := by
  obtain ⟨f, g1, g2⟩ := hh.byt hBk hk ha
  refine W.room (fun r1 r2 => ?_)
  refine va_callr (A0 := jA base) (H0 := s.heap) (va_runS (As := [.ref a, .int z]) (rest := rest) hC (wJ7_copyOf_9075b l dC dI ca base LC LS H a n n1 f z) cw ⟨fun a U g mk q => by obtain ⟨q0, q1, q2, qK, q9⟩ := q; exact ⟨q0, q1, q2, jG.calling g mk a qK, q9⟩, fun U hU hW => ⟨rfl, hU, g1, hG.step hW hU hh.1, g2, hz, hn, hm, hLC, hLS⟩⟩ rfl rfl hsz rfl (by show 2 * 0 + _ ≤ 8; omega) hdg ⟨by omega, by omega⟩) hh.1 (fun q h9 h => absurd h9 (Nat.not_lt.mpr h)) (fun q h => h.elim (fun h => by rw [h]; exact (hh.ab ha).1) (fun h => by show base ≤ q; omega)) (fun f9 a9 t H1 locs1 ht hvm hw hB9 hz1 hk1 hS1 => ?_)
  obtain ⟨rfl, hat9, hsz9, hfr9, hT9⟩ := hB9
  rw [ht] at hat9 hsz9 hT9
  have hfr9 : ∀ q, q < H.size → H1[q]? = H[q]? := fun q hq => by rw [← ht]; exact hfr9 q hq
  have h9 := hh.newL (k := k) (n := n1) hB (Nat.le_trans hb0 r1) hS1 hsz9 hfr9 hT9 hk ((hBk _ _ _ _).mpr ⟨f9, hat9, fun j _ => hw j⟩)
  exact W.tight (c2 := zc + 1) (n2 := zs + n1) h9.2.2.2.2.2.1 h9.2.2.2.2.2.2.1 (kk H1 locs1 hsz9 hT9 h9)
end J17
end
section
-- bits: what masks, shifts and or leave
theorem wb_tb (n : Nat) : (lN n).toBitVec = BitVec.ofNat 64 n := rfl
theorem wb_inj {a b : Int64} (h : a.toBitVec = b.toBitVec) : a = b := Int64.toBitVec_inj.mp h
theorem wb_tn {n : Nat} (h : n < 2 ^ 64) : (lN n).toBitVec.toNat = n := by rw [wb_tb, BitVec.toNat_ofNat, Nat.mod_eq_of_lt h]
theorem wb_of (x : Int64) : ∃ n, n < 2 ^ 64 ∧ x = lN n := ⟨x.toBitVec.toNat, x.toBitVec.isLt, wb_inj (by rw [wb_tb]; simp)⟩
theorem wb_cu : ∀ k, k < 64 → ((nI k).toInt64.toUInt64 &&& Int64.toUInt64 63) = UInt64.ofNat k := by decide +kernel
theorem wb_lt2 {a b : Nat} (h : a < b) : 2 ^ a < 2 ^ b := Nat.pow_lt_pow_right (by decide) h
theorem wb_shr {n k : Nat} (hn : n < 2 ^ 64) (hk : k < 64) : ((lN n).toUInt64 >>> ((nI k).toInt64.toUInt64 &&& Int64.toUInt64 63)).toInt64 = lN (n / 2 ^ k) := by
  rw [wb_cu k hk]
  apply wb_inj
  apply BitVec.eq_of_toNat_eq
  show ((lN n).toUInt64 >>> UInt64.ofNat k).toNat = (BitVec.ofNat 64 _).toNat
  have h1 : (UInt64.ofNat k).toNat = k := by
    show (BitVec.ofNat 64 k).toNat = k
    rw [BitVec.toNat_ofNat, Nat.mod_eq_of_lt (by omega)]
  have h2 : (lN n).toUInt64.toNat = n := wb_tn hn
  rw [UInt64.toNat_shiftRight, h1, h2, Nat.mod_eq_of_lt hk, Nat.shiftRight_eq_div_pow, BitVec.toNat_ofNat, Nat.mod_eq_of_lt (Nat.lt_of_le_of_lt (Nat.div_le_self _ _) hn)]
theorem wb_and {a b : Nat} (ha : a < 2 ^ 64) (hb : b < 2 ^ 64) : lN a &&& lN b = lN (a &&& b) := by
  apply wb_inj
  rw [Int64.toBitVec_and, wb_tb, wb_tb, wb_tb]
  apply BitVec.eq_of_toNat_eq
  rw [BitVec.toNat_and, BitVec.toNat_ofNat, BitVec.toNat_ofNat, BitVec.toNat_ofNat, Nat.mod_eq_of_lt ha, Nat.mod_eq_of_lt hb, Nat.mod_eq_of_lt (Nat.and_lt_two_pow _ hb)]
theorem wb_mask {n k : Nat} (hn : n < 2 ^ 64) (hk : k < 64) : lN n &&& lN (2 ^ k - 1) = lN (n % 2 ^ k) := by
  rw [wb_and hn (by have := wb_lt2 hk; omega), Nat.and_two_pow_sub_one_eq_mod]
theorem jl_toInt {n : Nat} (hn : n < 2 ^ 64) : (lN n).toInt = if 2 * n < 2 ^ 64 then (n : Int) else (n : Int) - (2 ^ 64 : Nat) := by
  show (lN n).toBitVec.toInt = _
  rw [BitVec.toInt_eq_toNat_cond, wb_tn hn]
theorem jl_big {n : Nat} (hn : n < 2 ^ 63) : (lN n).toInt = (n : Int) := by
  rw [jl_toInt (by omega), if_pos (by omega)]
theorem jb_lush6 {x z : Int64} (e : z = (x.toUInt64 >>> ((6 : Int32).toInt64.toUInt64 &&& Int64.toUInt64 63)).toInt64) (h : 0 ≤ x.toInt) : z.toInt = x.toInt / 64 := by
  obtain ⟨n, hn, rfl⟩ := wb_of x
  have hx := jl_toInt hn
  have h6 : n < 2 ^ 63 := by
    by_cases q : 2 * n < 2 ^ 64
    · omega
    · rw [if_neg q] at hx; omega
  have e2 : z = lN (n / 2 ^ 6) := by rw [e]; exact wb_shr (k := 6) hn (by decide)
  rw [e2, jl_big (by omega), jl_big h6]
  omega
theorem jb_l63 : ∀ j, j < 64 → 0 ≤ ((lN j).toInt32).toInt ∧ ((lN j).toInt32).toInt ≤ 63 := by decide +kernel
theorem jb_land63 {x y : Int64} {z : Int32} (e : y = x &&& 63) (ez : z = y.toInt32) : 0 ≤ z.toInt ∧ z.toInt ≤ 63 := by
  obtain ⟨n, hn, rfl⟩ := wb_of x
  have e2 : y = lN (n % 2 ^ 6) := by rw [e]; exact wb_mask (k := 6) hn (by decide)
  rw [ez, e2]
  exact jb_l63 _ (Nat.mod_lt _ (by decide))
theorem jb_or {x y z : Int32} (e : z = x ||| y) (hx : 0 ≤ x.toInt) (hy : 0 ≤ y.toInt) : 0 ≤ z.toInt := by
  obtain ⟨n, hn, ex, -⟩ := jN_of hx
  obtain ⟨m, hm, ey, -⟩ := jN_of hy
  have h1 : n ||| m < 2 ^ 31 := Nat.or_lt_two_pow hn hm
  rw [e, ex, ey, jN_or hn hm, nI_toInt h1]
  omega
theorem jb_or29 {x y z : Int32} (e : z = x ||| y) (hx : 0 ≤ x.toInt) (hy : 0 ≤ y.toInt) (hx1 : x.toInt < 536870912) (hy1 : y.toInt < 536870912) : 0 ≤ z.toInt ∧ z.toInt < 536870912 := by
  obtain ⟨n, hn, ex, ex2⟩ := jN_of hx
  obtain ⟨m, hm, ey, ey2⟩ := jN_of hy
  have h1 : n ||| m < 2 ^ 29 := Nat.or_lt_two_pow (by omega) (by omega)
  rw [e, ex, ey, jN_or hn hm, nI_toInt (by omega)]
  omega
theorem jb_or28 {x y z : Int32} (e : z = x ||| y) (hx : 0 ≤ x.toInt) (hy : 0 ≤ y.toInt) (hx1 : x.toInt < 268435456) (hy1 : y.toInt < 268435456) : 0 ≤ z.toInt ∧ z.toInt < 268435456 := by
  obtain ⟨n, hn, ex, ex2⟩ := jN_of hx
  obtain ⟨m, hm, ey, ey2⟩ := jN_of hy
  have h1 : n ||| m < 2 ^ 28 := Nat.or_lt_two_pow (by omega) (by omega)
  rw [e, ex, ey, jN_or hn hm, nI_toInt (by omega)]
  omega
theorem jb_and0 {x m z : Int32} (e : z = x &&& m) (hx : 0 ≤ x.toInt) : 0 ≤ z.toInt ∧ z.toInt ≤ x.toInt := by
  obtain ⟨n, hn, ex, ex2⟩ := jN_of hx
  have h1 : z.toBitVec.toNat ≤ n := by
    rw [e, Int32.toBitVec_and, BitVec.toNat_and]
    have h2 : x.toBitVec.toNat = n := by
      rw [ex]
      show (BitVec.ofNat 32 n).toNat = n
      rw [BitVec.toNat_ofNat, Nat.mod_eq_of_lt (by omega)]
    rw [h2]
    exact Nat.and_le_left
  have hz := ji_toInt z
  rw [if_pos (by omega)] at hz
  omega
end
section
theorem jPw.half {n : Nat} (h : jPw n) (h1 : n < 1000000) : n ≤ 524288 := by
  obtain ⟨k, hk, rfl⟩ := h
  by_cases q : k = 16
  · subst q
    have h3 : (2 : Nat) ^ 16 = 65536 := by decide
    omega
  · have h4 : 2 ^ k ≤ 2 ^ 15 := Nat.pow_le_pow_right (by decide) (by omega)
    have h3 : (2 : Nat) ^ 15 = 32768 := by decide
    omega
theorem jPw.dbl {n m : Nat} (h : jPw n) (h1 : n < 1000000) (e : m = 2 * n) : jPw m := by
  obtain ⟨k, hk, rfl⟩ := h
  by_cases q : k = 16
  · subst q
    have h3 : (2 : Nat) ^ 16 = 65536 := by decide
    omega
  · exact ⟨k + 1, by omega, by rw [Nat.pow_succ]; omega⟩
theorem jBr.k6 {n : Nat} {G : jT} {v : Value} (hn : n ≠ 4000) (h : jBr n G v) : ∃ (x m : Nat), v = .ref x ∧ G x = some (196, m) ∧ 16 ≤ m ∧ m ≤ 1048576 ∧ (n = 0 → jPw m) ∧ (n = 0 ∨ m = n) := by
  obtain ⟨x, m, e, h1, h2⟩ := h
  rw [jBkd, if_neg hn] at h1
  exact ⟨x, m, e, h1, h2⟩
def EX0_put : List (Nat × Nat) := [(2, 0), (2, 1), (196, 0)]
def EX0_text : List (Nat × Nat) := [(2, 0), (2, 1), (196, 0)]
def EX0_number : List (Nat × Nat) := [(2, 0), (2, 1), (196, 0)]
def EX0_character : List (Nat × Nat) := [(2, 0), (2, 1), (196, 0)]
set_option maxHeartbeats 4000000 in
set_option maxRecDepth 20000 in
theorem uX0_put (l : Launch) (dC : Nat → ClassId) (dI : Nat → Nat → Nat) (ca : Nat → ClassId) (base : Nat) (B : jF) (hB : jBok B) (hAp : jAp (dC, dI)) (hB2 : ∀ n G a H, B 2 n G a H ↔ jOb (dC, dI) 2 2 (F2 n G) a H) (hB196 : ∀ n G a H, B 196 n G a H ↔ jAr (dC, dI) (ca 0) (fun j z => jBf j z) n a H) (G0 : jT) (H0 : Heap) (r0 : Nat) (a1 : Int32) (pc : Int32) (pa : Nat) (n_pa : Nat) (LC LS : Nat) : Met l yX0_put (jw yX0_put cX0_put 2 none) ({ frames := 2, cells := LC - H0.size, slots := LS - jTot H0, locals := 62 }) (va_Pc [.ref r0, .int a1] (fun U => U.heap = H0 ∧ jX B base G0 [] H0 ∧ jG dC dI ca base U ∧ G0 r0 = some (2, 0) ∧ G0 pa = some (196, n_pa) ∧ jP (dC, dI) G0 H0 [(r0, 2, 1, .int pc), (r0, 2, 0, .ref pa)] ∧ H0.size + (1048576 - n_pa) / 16 + 1 ≤ LC ∧ jTot H0 + 2 * (1048576 - n_pa) ≤ LS ∧ 0 ≤ pc.toInt ∧ pc.toInt ≤ n_pa ∧ 16 ≤ n_pa ∧ n_pa ≤ 1048576 ∧ jPw n_pa)) (va_Qv (S := Int32 × Nat × Nat × jT) (fun u => 0 ≤ u.1.toInt ∧ u.1.toInt ≤ u.2.2.1 ∧ n_pa ≤ u.2.2.1 ∧ u.2.2.1 ≤ 1048576 ∧ jPw u.2.2.1) (fun u t => jRa (dC, dI) B base G0 u.2.2.2 EX0_put H0 ((u.2.2.1 - n_pa) / 16) (2 * (u.2.2.1 - n_pa)) [(r0, 2, 1, .int u.1), (r0, 2, 0, .ref u.2.1)] t.heap ∧ u.2.2.2 u.2.1 = some (196, u.2.2.1) ∧ (jNk [0, 1, 2, 3, 4, 5, 6, 7, 8, 9, 10, 11, 12, 13, 14, 15, 16, 17, 175]) G0 u.2.2.2 ∧ jOw (dC, dI) G0 2 r0 H0 t.heap) (jA base)) (LC - H0.size) (LS - jTot H0) (jA base) := by
  refine Met.ofW (cc := cX0_put) (maxL := 2) (ret := none) (by decide) rfl ?_
  intro p e s m args below meth c s₁ Bd hml hv
  obtain ⟨rfl, hH0, hX, hG, hg_r0, hg_pa, hP0, hLC0, hLS0, hp0, hp1, hp2, hp3, hp4⟩ := hv
  have hK := hG.1
  have hx := Bd.exec
  have hb := Bd.bytes
  have hr := Bd.returns
  have hts := atoms_spec (ws := (jw yX0_put cX0_put 2 none)) Bd.pre
  have htw : ∀ w ∈ jWl, w.before _ s = true := fun w h => hts w (List.mem_cons_of_mem _ h)
  have hown : s.vm.findClass RX0 = some m.cls := findClass_of_methodNamed Bd.named
  have hlocks := Bd.notSynchronized
  obtain ⟨Q, hQ⟩ : ∃ Q, Q = MQ below (va_Qv (S := Int32 × Nat × Nat × jT) (fun u => 0 ≤ u.1.toInt ∧ u.1.toInt ≤ u.2.2.1 ∧ n_pa ≤ u.2.2.1 ∧ u.2.2.1 ≤ 1048576 ∧ jPw u.2.2.1) (fun u t => jRa (dC, dI) B base G0 u.2.2.2 EX0_put H0 ((u.2.2.1 - n_pa) / 16) (2 * (u.2.2.1 - n_pa)) [(r0, 2, 1, .int u.1), (r0, 2, 0, .ref u.2.1)] t.heap ∧ u.2.2.2 u.2.1 = some (196, u.2.2.1) ∧ (jNk [0, 1, 2, 3, 4, 5, 6, 7, 8, 9, 10, 11, 12, 13, 14, 15, 16, 17, 175]) G0 u.2.2.2 ∧ jOw (dC, dI) G0 2 r0 H0 t.heap) (jA base)) ([.ref r0, .int a1] : List Value).toArray s (LC - H0.size) (LS - jTot H0) (jA base) := ⟨_, rfl⟩
  rw [← hQ]
  have hl := lv_entry ([.ref r0, .int a1]) (n := 2) (Nat.le_of_ble_eq_true rfl)
  rw [lg_entry_eq]
  generalize (lg_sl ([.ref r0, .int a1]) ++ List.replicate (2 - (lg_sl ([.ref r0, .int a1])).length) Slot.unset).toArray = ls at hl ⊢
  have hl : lv_has ls 2 [(0, .ref r0), (1, .int a1)] := hl
  generalize hR : (headSpec (jw yX0_put cX0_put 2 none) ({ frames := 2, cells := LC - H0.size, slots := LS - jTot H0, locals := 62 })).room = R
  subst hH0
  have hh : jSt (dC, dI) B base G0 G0 EX0_put s.heap 0 0 [(r0, 2, 1, .int pc), (r0, 2, 0, .ref pa)] [] [] s.heap [] := jSt.start hX hP0 jMc.nil jIs.nil
  clear hX hP0
  have hk0 : (0 : Int32).toInt = 0 := by decide
  have hk1 : (1 : Int32).toInt = 1 := by decide
  have hk2 : (2 : Int32).toInt = 2 := by decide
  have hk1000000 : (1000000 : Int32).toInt = 1000000 := by decide
  have hly_2_0 := htw (u_lay RX0 TX0 0) (jWc_wsX00 _ (u_in_lay (by decide)))
  have hly_2_1 := htw (u_lay RX0 TX0 1) (jWc_wsX00 _ (u_in_lay (by decide)))
  have hlk_19 := (htw (.fieldLink RX0 19 "ProofServer$Bytes" "count" "I") (jWr_16 _ (List.mem_of_getElem? (i := 3) rfl)))
  have hlk_13 := (htw (.fieldLink RX0 13 "ProofServer$Bytes" "row" "[B") (jWr_3 _ (List.mem_of_getElem? (i := 10) rfl)))
  have hcs_23 := htw (.constant RX0 23 1000000) (jWr_16 _ (List.mem_of_getElem? (i := 4) rfl))
  have hrg_a1 := jb_rng a1
  have hbs : base ≤ s.heap.size := Nat.le_of_lt (Nat.lt_of_le_of_lt (hh.ab hg_r0).1 (hh.ab hg_r0).2)
  have hRc : R.cells = LC - s.heap.size := by rw [← hR]; rfl
  have hRs : R.slots = LS - jTot s.heap := by rw [← hR]; rfl
  have hh_1 := hh.addI (jOw.ie (dC := dC) (dI := dI) (G0 := G0) (k := 2) (r := r0) (H0 := s.heap) (F := [(2, 0), (2, 1)]) (C := RX0) (T := TX0) (N := 2) rfl (by decide) hh.2.2.2.2.1 (jOw.rf))
  clear hh
  refine lv_aload_n hx hb dX0_put_0 rfl (lv_at hl 0 rfl) ?_
  refine j7_read hx hb hown hK (C := RX0) (T := TX0) (N := 2) rfl hly_2_1 hlk_19 (hh_1.at 0 rfl) dX0_put_1 ?_
  refine lv_aload_n hx hb dX0_put_4 rfl (lv_at hl 0 rfl) ?_
  refine j7_read hx hb hown hK (C := RX0) (T := TX0) (N := 2) rfl hly_2_0 hlk_13 (hh_1.at 1 rfl) dX0_put_5 ?_
  refine j7_len hx hb hK hh_1 hB196 0 rfl (by decide) hg_pa (by omega) dX0_put_8 (fun z_2 hz_2 => ?_)
  refine lv_icmp_lt (tgt := 39) hx hb dX0_put_9 (by decide) (fun c_3 => ?_) (fun c_3 => ?_)
  · skip
    have c_3' : pc.toInt < z_2.toInt := jb_lt (rfl) (rfl) c_3
    refine lv_aload_n hx hb dX0_put_39 rfl (lv_at hl 0 rfl) ?_
    refine j7_read hx hb hown hK (C := RX0) (T := TX0) (N := 2) rfl hly_2_1 hlk_19 (hh_1.at 0 rfl) dX0_put_40 ?_
    refine lv_if_lt (tgt := 79) hx hb dX0_put_43 (by decide) (fun c_4 => ?_) (fun c_4 => ?_)
    · skip
      have c_4' : pc.toInt < 0 := jb_lt (rfl) ((by decide)) c_4
      have hsz_5 := hh_1.2.2.2.2.2.1
      have htt_5 := hh_1.2.2.2.2.2.2.1
      refine W.room (fun hrc_5 hrs_5 => ?_)
      refine W.widen (k := LC - s.heap.size) (n := LS - jTot s.heap) (by omega) (by omega) ?_
      rw [hQ]
      exact W.vret hx hb hr (fun t ht hW => ⟨⟨(pc, pa, n_pa, G0), rfl, by (try dsimp only); exact ⟨(by first | omega | rfl | assumption | fail), (by first | omega | rfl | assumption | fail), (by first | omega | rfl | assumption | fail), (by first | omega | rfl | assumption | fail), (by first | assumption | fail | omega)⟩, ⟨hh_1.ra (by first | omega | (simp only; omega)) (by first | omega | (simp only; omega)) (M1 := [(r0, 2, 1, .int pc), (r0, 2, 0, .ref pa)]) [0, 1] rfl ht, hg_pa, jNk.rf, by rw [ht]; exact hh_1.iv 0 rfl⟩⟩, by rw [ht]; try exact hh_1.1.1, fun q h9 hq => by rw [ht]; try exact hh_1.1.2.1 q h9 hq⟩) hh_1.1.2.2 dX0_put_79
    · skip
      have c_4' : pc.toInt ≥ 0 := jb_lt_n (rfl) ((by decide)) c_4
      refine lv_aload_n hx hb dX0_put_46 rfl (lv_at hl 0 rfl) ?_
      refine j7_read hx hb hown hK (C := RX0) (T := TX0) (N := 2) rfl hly_2_1 hlk_19 (hh_1.at 0 rfl) dX0_put_47 ?_
      refine lv_aload_n hx hb dX0_put_50 rfl (lv_at hl 0 rfl) ?_
      refine j7_read hx hb hown hK (C := RX0) (T := TX0) (N := 2) rfl hly_2_0 hlk_13 (hh_1.at 1 rfl) dX0_put_51 ?_
      refine j7_len hx hb hK hh_1 hB196 0 rfl (by decide) hg_pa (by omega) dX0_put_54 (fun z_6 hz_6 => ?_)
      refine lv_icmp_ge (tgt := 79) hx hb dX0_put_55 (by decide) (fun c_7 => ?_) (fun c_7 => ?_)
      · skip
        have c_7' : pc.toInt ≥ z_6.toInt := jb_ge (rfl) (rfl) c_7
        have hsz_8 := hh_1.2.2.2.2.2.1
        have htt_8 := hh_1.2.2.2.2.2.2.1
        refine W.room (fun hrc_8 hrs_8 => ?_)
        refine W.widen (k := LC - s.heap.size) (n := LS - jTot s.heap) (by omega) (by omega) ?_
        rw [hQ]
        exact W.vret hx hb hr (fun t ht hW => ⟨⟨(pc, pa, n_pa, G0), rfl, by (try dsimp only); exact ⟨(by first | omega | rfl | assumption | fail), (by first | omega | rfl | assumption | fail), (by first | omega | rfl | assumption | fail), (by first | omega | rfl | assumption | fail), (by first | assumption | fail | omega)⟩, ⟨hh_1.ra (by first | omega | (simp only; omega)) (by first | omega | (simp only; omega)) (M1 := [(r0, 2, 1, .int pc), (r0, 2, 0, .ref pa)]) [0, 1] rfl ht, hg_pa, jNk.rf, by rw [ht]; exact hh_1.iv 0 rfl⟩⟩, by rw [ht]; try exact hh_1.1.1, fun q h9 hq => by rw [ht]; try exact hh_1.1.2.1 q h9 hq⟩) hh_1.1.2.2 dX0_put_79
      · skip
        have c_7' : pc.toInt < z_6.toInt := jb_ge_n (rfl) (rfl) c_7
        refine lv_aload_n hx hb dX0_put_58 rfl (lv_at hl 0 rfl) ?_
        refine j7_read hx hb hown hK (C := RX0) (T := TX0) (N := 2) rfl hly_2_0 hlk_13 (hh_1.at 1 rfl) dX0_put_59 ?_
        refine lv_aload_n hx hb dX0_put_62 rfl (lv_at hl 0 rfl) ?_
        refine j7_read hx hb hown hK (C := RX0) (T := TX0) (N := 2) rfl hly_2_1 hlk_19 (hh_1.at 0 rfl) dX0_put_63 ?_
        refine lv_iload_n hx hb dX0_put_66 rfl (lv_at hl 1 rfl) ?_
        refine lv_i2b hx hb dX0_put_67 rfl ?_
        refine lv_topi (fun z_9 ez_9 => ?_)
        refine j7_bastF hx hb hK hh_1 hB hB196 0 rfl (by decide) (by decide) rfl rfl rfl hg_pa (x := pc.toInt) (rfl) (by omega) dX0_put_68 (fun H_10 locs_10 hh_10 => ?_)
        clear hh_1
        refine lv_aload_n hx hb dX0_put_69 rfl (lv_at hl 0 rfl) ?_
        refine lv_dup hx hb dX0_put_70 rfl ?_
        refine j7_read hx hb hown hK (C := RX0) (T := TX0) (N := 2) rfl hly_2_1 hlk_19 (hh_10.at 0 rfl) dX0_put_71 ?_
        refine lv_iconst (v := 1) hx hb dX0_put_74 (by decide) ?_
        refine lv_iadd hx hb dX0_put_75 ?_
        refine lv_topi (fun z_11 ez_11 => ?_)
        have hz_11 : z_11.toInt = pc.toInt + 1 := by rw [ez_11]; exact jb_iadd2 (rfl) ((by decide)) (by omega)
        have hd_13 := hh_10.iv 0 rfl
        have hh_14 := hh_10.sub (L1 := [(r0, 2, 1, .int pc), (r0, 2, 0, .ref pa)]) [0, 1] rfl (M1 := []) [] rfl (I1 := []) [] rfl
        clear hh_10
        refine j7_putX hx hb hown hK hh_14 hB hAp hB2 (C := RX0) (T := TX0) (N := 2) rfl (by decide) hg_r0 (i := 1) (by decide) hly_2_1 rfl hlk_19 rfl (ty := .int) (v := .int z_11) (by decide +kernel) rfl rfl (⟨_, rfl, by omega, by omega, by omega⟩) rfl (L1 := [(r0, 2, 0, .ref pa)]) [1] rfl rfl rfl dX0_put_76 (fun H_12 locs_12 hr_12 hh_12 => ?_)
        clear hh_14
        have hd_13n := jOw.put hd_13 hr_12
        have hh_15 := hh_12.addI (jOw.ie (dC := dC) (dI := dI) (G0 := G0) (k := 2) (r := r0) (H0 := s.heap) (F := [(2, 0), (2, 1)]) (C := RX0) (T := TX0) (N := 2) rfl (by decide) hh_12.2.2.2.2.1 (hd_13n))
        clear hh_12
        clear hd_13 hd_13n hr_12
        have hsz_16 := hh_15.2.2.2.2.2.1
        have htt_16 := hh_15.2.2.2.2.2.2.1
        refine W.room (fun hrc_16 hrs_16 => ?_)
        refine W.widen (k := LC - s.heap.size) (n := LS - jTot s.heap) (by omega) (by omega) ?_
        rw [hQ]
        exact W.vret hx hb hr (fun t ht hW => ⟨⟨(z_11, pa, n_pa, G0), rfl, by (try dsimp only); exact ⟨(by first | omega | rfl | assumption | fail), (by first | omega | rfl | assumption | fail), (by first | omega | rfl | assumption | fail), (by first | omega | rfl | assumption | fail), (by first | assumption | fail | omega)⟩, ⟨hh_15.ra (by first | omega | (simp only; omega)) (by first | omega | (simp only; omega)) (M1 := [(r0, 2, 1, .int z_11), (r0, 2, 0, .ref pa)]) [0, 1] rfl ht, hg_pa, jNk.rf, by rw [ht]; exact hh_15.iv 0 rfl⟩⟩, by rw [ht]; try exact hh_15.1.1, fun q h9 hq => by rw [ht]; try exact hh_15.1.2.1 q h9 hq⟩) hh_15.1.2.2 dX0_put_79
  · skip
    have c_3' : pc.toInt ≥ z_2.toInt := jb_lt_n (rfl) (rfl) c_3
    refine lv_aload_n hx hb dX0_put_12 rfl (lv_at hl 0 rfl) ?_
    refine j7_read hx hb hown hK (C := RX0) (T := TX0) (N := 2) rfl hly_2_1 hlk_19 (hh_1.at 0 rfl) dX0_put_13 ?_
    refine lv_ldc hx hb hown hcs_23 dX0_put_16 ?_
    refine lv_icmp_ge (tgt := 39) hx hb dX0_put_18 (by decide) (fun c_17 => ?_) (fun c_17 => ?_)
    · skip
      have c_17' : pc.toInt ≥ 1000000 := jb_ge (rfl) ((by decide)) c_17
      refine lv_aload_n hx hb dX0_put_39 rfl (lv_at hl 0 rfl) ?_
      refine j7_read hx hb hown hK (C := RX0) (T := TX0) (N := 2) rfl hly_2_1 hlk_19 (hh_1.at 0 rfl) dX0_put_40 ?_
      refine lv_if_lt (tgt := 79) hx hb dX0_put_43 (by decide) (fun c_18 => ?_) (fun c_18 => ?_)
      · skip
        have c_18' : pc.toInt < 0 := jb_lt (rfl) ((by decide)) c_18
        have hsz_19 := hh_1.2.2.2.2.2.1
        have htt_19 := hh_1.2.2.2.2.2.2.1
        refine W.room (fun hrc_19 hrs_19 => ?_)
        refine W.widen (k := LC - s.heap.size) (n := LS - jTot s.heap) (by omega) (by omega) ?_
        rw [hQ]
        exact W.vret hx hb hr (fun t ht hW => ⟨⟨(pc, pa, n_pa, G0), rfl, by (try dsimp only); exact ⟨(by first | omega | rfl | assumption | fail), (by first | omega | rfl | assumption | fail), (by first | omega | rfl | assumption | fail), (by first | omega | rfl | assumption | fail), (by first | assumption | fail | omega)⟩, ⟨hh_1.ra (by first | omega | (simp only; omega)) (by first | omega | (simp only; omega)) (M1 := [(r0, 2, 1, .int pc), (r0, 2, 0, .ref pa)]) [0, 1] rfl ht, hg_pa, jNk.rf, by rw [ht]; exact hh_1.iv 0 rfl⟩⟩, by rw [ht]; try exact hh_1.1.1, fun q h9 hq => by rw [ht]; try exact hh_1.1.2.1 q h9 hq⟩) hh_1.1.2.2 dX0_put_79
      · skip
        have c_18' : pc.toInt ≥ 0 := jb_lt_n (rfl) ((by decide)) c_18
        refine lv_aload_n hx hb dX0_put_46 rfl (lv_at hl 0 rfl) ?_
        refine j7_read hx hb hown hK (C := RX0) (T := TX0) (N := 2) rfl hly_2_1 hlk_19 (hh_1.at 0 rfl) dX0_put_47 ?_
        refine lv_aload_n hx hb dX0_put_50 rfl (lv_at hl 0 rfl) ?_
        refine j7_read hx hb hown hK (C := RX0) (T := TX0) (N := 2) rfl hly_2_0 hlk_13 (hh_1.at 1 rfl) dX0_put_51 ?_
        refine j7_len hx hb hK hh_1 hB196 0 rfl (by decide) hg_pa (by omega) dX0_put_54 (fun z_20 hz_20 => ?_)
        refine lv_icmp_ge (tgt := 79) hx hb dX0_put_55 (by decide) (fun c_21 => ?_) (fun c_21 => ?_)
        · skip
          have c_21' : pc.toInt ≥ z_20.toInt := jb_ge (rfl) (rfl) c_21
          have hsz_22 := hh_1.2.2.2.2.2.1
          have htt_22 := hh_1.2.2.2.2.2.2.1
          refine W.room (fun hrc_22 hrs_22 => ?_)
          refine W.widen (k := LC - s.heap.size) (n := LS - jTot s.heap) (by omega) (by omega) ?_
          rw [hQ]
          exact W.vret hx hb hr (fun t ht hW => ⟨⟨(pc, pa, n_pa, G0), rfl, by (try dsimp only); exact ⟨(by first | omega | rfl | assumption | fail), (by first | omega | rfl | assumption | fail), (by first | omega | rfl | assumption | fail), (by first | omega | rfl | assumption | fail), (by first | assumption | fail | omega)⟩, ⟨hh_1.ra (by first | omega | (simp only; omega)) (by first | omega | (simp only; omega)) (M1 := [(r0, 2, 1, .int pc), (r0, 2, 0, .ref pa)]) [0, 1] rfl ht, hg_pa, jNk.rf, by rw [ht]; exact hh_1.iv 0 rfl⟩⟩, by rw [ht]; try exact hh_1.1.1, fun q h9 hq => by rw [ht]; try exact hh_1.1.2.1 q h9 hq⟩) hh_1.1.2.2 dX0_put_79
        · skip
          have c_21' : pc.toInt < z_20.toInt := jb_ge_n (rfl) (rfl) c_21
          refine lv_aload_n hx hb dX0_put_58 rfl (lv_at hl 0 rfl) ?_
          refine j7_read hx hb hown hK (C := RX0) (T := TX0) (N := 2) rfl hly_2_0 hlk_13 (hh_1.at 1 rfl) dX0_put_59 ?_
          refine lv_aload_n hx hb dX0_put_62 rfl (lv_at hl 0 rfl) ?_
          refine j7_read hx hb hown hK (C := RX0) (T := TX0) (N := 2) rfl hly_2_1 hlk_19 (hh_1.at 0 rfl) dX0_put_63 ?_
          refine lv_iload_n hx hb dX0_put_66 rfl (lv_at hl 1 rfl) ?_
          refine lv_i2b hx hb dX0_put_67 rfl ?_
          refine lv_topi (fun z_23 ez_23 => ?_)
          refine j7_bastF hx hb hK hh_1 hB hB196 0 rfl (by decide) (by decide) rfl rfl rfl hg_pa (x := pc.toInt) (rfl) (by omega) dX0_put_68 (fun H_24 locs_24 hh_24 => ?_)
          clear hh_1
          refine lv_aload_n hx hb dX0_put_69 rfl (lv_at hl 0 rfl) ?_
          refine lv_dup hx hb dX0_put_70 rfl ?_
          refine j7_read hx hb hown hK (C := RX0) (T := TX0) (N := 2) rfl hly_2_1 hlk_19 (hh_24.at 0 rfl) dX0_put_71 ?_
          refine lv_iconst (v := 1) hx hb dX0_put_74 (by decide) ?_
          refine lv_iadd hx hb dX0_put_75 ?_
          refine lv_topi (fun z_25 ez_25 => ?_)
          have hz_25 : z_25.toInt = pc.toInt + 1 := by rw [ez_25]; exact jb_iadd2 (rfl) ((by decide)) (by omega)
          have hd_27 := hh_24.iv 0 rfl
          have hh_28 := hh_24.sub (L1 := [(r0, 2, 1, .int pc), (r0, 2, 0, .ref pa)]) [0, 1] rfl (M1 := []) [] rfl (I1 := []) [] rfl
          clear hh_24
          refine j7_putX hx hb hown hK hh_28 hB hAp hB2 (C := RX0) (T := TX0) (N := 2) rfl (by decide) hg_r0 (i := 1) (by decide) hly_2_1 rfl hlk_19 rfl (ty := .int) (v := .int z_25) (by decide +kernel) rfl rfl (⟨_, rfl, by omega, by omega, by omega⟩) rfl (L1 := [(r0, 2, 0, .ref pa)]) [1] rfl rfl rfl dX0_put_76 (fun H_26 locs_26 hr_26 hh_26 => ?_)
          clear hh_28
          have hd_27n := jOw.put hd_27 hr_26
          have hh_29 := hh_26.addI (jOw.ie (dC := dC) (dI := dI) (G0 := G0) (k := 2) (r := r0) (H0 := s.heap) (F := [(2, 0), (2, 1)]) (C := RX0) (T := TX0) (N := 2) rfl (by decide) hh_26.2.2.2.2.1 (hd_27n))
          clear hh_26
          clear hd_27 hd_27n hr_26
          have hsz_30 := hh_29.2.2.2.2.2.1
          have htt_30 := hh_29.2.2.2.2.2.2.1
          refine W.room (fun hrc_30 hrs_30 => ?_)
          refine W.widen (k := LC - s.heap.size) (n := LS - jTot s.heap) (by omega) (by omega) ?_
          rw [hQ]
          exact W.vret hx hb hr (fun t ht hW => ⟨⟨(z_25, pa, n_pa, G0), rfl, by (try dsimp only); exact ⟨(by first | omega | rfl | assumption | fail), (by first | omega | rfl | assumption | fail), (by first | omega | rfl | assumption | fail), (by first | omega | rfl | assumption | fail), (by first | assumption | fail | omega)⟩, ⟨hh_29.ra (by first | omega | (simp only; omega)) (by first | omega | (simp only; omega)) (M1 := [(r0, 2, 1, .int z_25), (r0, 2, 0, .ref pa)]) [0, 1] rfl ht, hg_pa, jNk.rf, by rw [ht]; exact hh_29.iv 0 rfl⟩⟩, by rw [ht]; try exact hh_29.1.1, fun q h9 hq => by rw [ht]; try exact hh_29.1.2.1 q h9 hq⟩) hh_29.1.2.2 dX0_put_79
    · skip
      have c_17' : pc.toInt < 1000000 := jb_ge_n (rfl) ((by decide)) c_17
      refine lv_aload_n hx hb dX0_put_21 rfl (lv_at hl 0 rfl) ?_
      refine lv_aload_n hx hb dX0_put_22 rfl (lv_at hl 0 rfl) ?_
      refine j7_read hx hb hown hK (C := RX0) (T := TX0) (N := 2) rfl hly_2_0 hlk_13 (hh_1.at 1 rfl) dX0_put_23 ?_
      refine lv_iconst (v := 2) hx hb dX0_put_26 (by decide) ?_
      refine lv_aload_n hx hb dX0_put_27 rfl (lv_at hl 0 rfl) ?_
      refine j7_read hx hb hown hK (C := RX0) (T := TX0) (N := 2) rfl hly_2_0 hlk_13 (hh_1.at 1 rfl) dX0_put_28 ?_
      refine j7_len hx hb hK hh_1 hB196 0 rfl (by decide) hg_pa (by omega) dX0_put_31 (fun z_31 hz_31 => ?_)
      refine lv_imul hx hb dX0_put_32 ?_
      refine lv_topi (fun z_32 ez_32 => ?_)
      have hz_32 : z_32.toInt = 2 * z_31.toInt := by rw [ez_32]; exact jb_imul2 ((by decide)) (rfl) (by omega)
      have hpq := hp4.half (by omega)
      obtain ⟨nc_34, enc_34⟩ : ∃ q : Nat, q = (z_32.toInt).toNat := ⟨_, rfl⟩
      have hsz_33 := hh_1.2.2.2.2.2.1
      have htt_33 := hh_1.2.2.2.2.2.2.1
      refine j7_copyb (LC := LC) (LS := LS) (n1 := nc_34) ⟨hx, hb, hml, hown, hts⟩ hK hG hh_1 hB hB196 (by decide) hbs hg_pa (by omega) (by omega) (by omega) (by omega) (by omega) hRc hRs (va_cwS 2 hts (jgS (jWr_16 _ (List.mem_of_getElem? (i := 5) rfl)) (jWr_16 _ (List.mem_of_getElem? (i := 6) rfl)) (jWr_16 _ (List.mem_of_getElem? (i := 7) rfl)) (jWr_16 _ (List.mem_of_getElem? (i := 8) rfl))) rfl rfl rfl (by decide +kernel) ⟨by rw [← hR]; exact Nat.le_of_ble_eq_true rfl, by rw [← hR]; exact Nat.le_of_ble_eq_true rfl⟩) hl.1 (Nat.le_of_ble_eq_true rfl) dX0_put_33 (fun H_33 locs_33 hsy_33 hty_33 hh_33 => ?_)
      have hN_33 : (jNk [0, 1, 2, 3, 4, 5, 6, 7, 8, 9, 10, 11, 12, 13, 14, 15, 16, 17, 175]) G0 (va_up G0 s.heap.size (some (196, nc_34))) := jNk.new (by decide)
      have hgn_33 : (va_up G0 s.heap.size (some (196, nc_34))) s.heap.size = some (196, nc_34) := jUp_self
      have hle_33 : jLe G0 (va_up G0 s.heap.size (some (196, nc_34))) := jLe.new hh_1.2.1.fresh
      generalize va_up G0 s.heap.size (some (196, nc_34)) = G_33 at hN_33 hgn_33 hle_33 hh_33
      clear hh_1
      have hNn_33 : (jNk [0, 1, 2, 3, 4, 5, 6, 7, 8, 9, 10, 11, 12, 13, 14, 15, 16, 17, 175]) G0 G_33 := (jNk.rf).tr hN_33
      have hg_35 := hle_33 _ _ hg_r0
      have hg_36 := hle_33 _ _ hg_pa
      have hpd : jPw nc_34 := jPw.dbl hp4 (by omega) (by omega)
      have hpe := hpd.le
      have hd_38 := hh_33.iv 0 rfl
      have hh_39 := hh_33.sub (L1 := [(r0, 2, 1, .int pc), (r0, 2, 0, .ref pa)]) [0, 1] rfl (M1 := []) [] rfl (I1 := []) [] rfl
      clear hh_33
      refine j7_putX hx hb hown hK hh_39 hB hAp hB2 (C := RX0) (T := TX0) (N := 2) rfl (by decide) hg_35 (i := 0) (by decide) hly_2_0 rfl hlk_13 rfl (ty := (.array .byte)) (v := .ref s.heap.size) (by decide +kernel) rfl rfl (⟨_, _, rfl, hgn_33, by omega, by omega, fun h9 => by first | assumption, by omega⟩) rfl (L1 := [(r0, 2, 1, .int pc)]) [0] rfl rfl rfl dX0_put_36 (fun H_37 locs_37 hr_37 hh_37 => ?_)
      clear hh_39
      have hd_38n := jOw.put hd_38 hr_37
      have hh_40 := hh_37.addI (jOw.ie (dC := dC) (dI := dI) (G0 := G0) (k := 2) (r := r0) (H0 := s.heap) (F := [(2, 0), (2, 1)]) (C := RX0) (T := TX0) (N := 2) rfl (by decide) hh_37.2.2.2.2.1 (hd_38n))
      clear hh_37
      clear hd_38 hd_38n hr_37
      refine lv_aload_n hx hb dX0_put_39 rfl (lv_at hl 0 rfl) ?_
      refine j7_read hx hb hown hK (C := RX0) (T := TX0) (N := 2) rfl hly_2_1 hlk_19 (hh_40.at 1 rfl) dX0_put_40 ?_
      refine lv_if_lt (tgt := 79) hx hb dX0_put_43 (by decide) (fun c_41 => ?_) (fun c_41 => ?_)
      · skip
        have c_41' : pc.toInt < 0 := jb_lt (rfl) ((by decide)) c_41
        have hsz_42 := hh_40.2.2.2.2.2.1
        have htt_42 := hh_40.2.2.2.2.2.2.1
        refine W.room (fun hrc_42 hrs_42 => ?_)
        refine W.widen (k := LC - s.heap.size) (n := LS - jTot s.heap) (by omega) (by omega) ?_
        rw [hQ]
        exact W.vret hx hb hr (fun t ht hW => ⟨⟨(pc, s.heap.size, nc_34, G_33), rfl, by (try dsimp only); exact ⟨(by first | omega | rfl | assumption | fail), (by first | omega | rfl | assumption | fail), (by first | omega | rfl | assumption | fail), (by first | omega | rfl | assumption | fail), (by first | assumption | fail | omega)⟩, ⟨hh_40.ra (by first | omega | (simp only; omega)) (by first | omega | (simp only; omega)) (M1 := [(r0, 2, 1, .int pc), (r0, 2, 0, .ref s.heap.size)]) [1, 0] rfl ht, hgn_33, hNn_33, by rw [ht]; exact hh_40.iv 0 rfl⟩⟩, by rw [ht]; try exact hh_40.1.1, fun q h9 hq => by rw [ht]; try exact hh_40.1.2.1 q h9 hq⟩) hh_40.1.2.2 dX0_put_79
      · skip
        have c_41' : pc.toInt ≥ 0 := jb_lt_n (rfl) ((by decide)) c_41
        refine lv_aload_n hx hb dX0_put_46 rfl (lv_at hl 0 rfl) ?_
        refine j7_read hx hb hown hK (C := RX0) (T := TX0) (N := 2) rfl hly_2_1 hlk_19 (hh_40.at 1 rfl) dX0_put_47 ?_
        refine lv_aload_n hx hb dX0_put_50 rfl (lv_at hl 0 rfl) ?_
        refine j7_read hx hb hown hK (C := RX0) (T := TX0) (N := 2) rfl hly_2_0 hlk_13 (hh_40.at 0 rfl) dX0_put_51 ?_
        refine j7_len hx hb hK hh_40 hB196 0 rfl (by decide) hgn_33 (by omega) dX0_put_54 (fun z_43 hz_43 => ?_)
        refine lv_icmp_ge (tgt := 79) hx hb dX0_put_55 (by decide) (fun c_44 => ?_) (fun c_44 => ?_)
        · skip
          have c_44' : pc.toInt ≥ z_43.toInt := jb_ge (rfl) (rfl) c_44
          have hsz_45 := hh_40.2.2.2.2.2.1
          have htt_45 := hh_40.2.2.2.2.2.2.1
          refine W.room (fun hrc_45 hrs_45 => ?_)
          refine W.widen (k := LC - s.heap.size) (n := LS - jTot s.heap) (by omega) (by omega) ?_
          rw [hQ]
          exact W.vret hx hb hr (fun t ht hW => ⟨⟨(pc, s.heap.size, nc_34, G_33), rfl, by (try dsimp only); exact ⟨(by first | omega | rfl | assumption | fail), (by first | omega | rfl | assumption | fail), (by first | omega | rfl | assumption | fail), (by first | omega | rfl | assumption | fail), (by first | assumption | fail | omega)⟩, ⟨hh_40.ra (by first | omega | (simp only; omega)) (by first | omega | (simp only; omega)) (M1 := [(r0, 2, 1, .int pc), (r0, 2, 0, .ref s.heap.size)]) [1, 0] rfl ht, hgn_33, hNn_33, by rw [ht]; exact hh_40.iv 0 rfl⟩⟩, by rw [ht]; try exact hh_40.1.1, fun q h9 hq => by rw [ht]; try exact hh_40.1.2.1 q h9 hq⟩) hh_40.1.2.2 dX0_put_79
        · skip
          have c_44' : pc.toInt < z_43.toInt := jb_ge_n (rfl) (rfl) c_44
          refine lv_aload_n hx hb dX0_put_58 rfl (lv_at hl 0 rfl) ?_
          refine j7_read hx hb hown hK (C := RX0) (T := TX0) (N := 2) rfl hly_2_0 hlk_13 (hh_40.at 0 rfl) dX0_put_59 ?_
          refine lv_aload_n hx hb dX0_put_62 rfl (lv_at hl 0 rfl) ?_
          refine j7_read hx hb hown hK (C := RX0) (T := TX0) (N := 2) rfl hly_2_1 hlk_19 (hh_40.at 1 rfl) dX0_put_63 ?_
          refine lv_iload_n hx hb dX0_put_66 rfl (lv_at hl 1 rfl) ?_
          refine lv_i2b hx hb dX0_put_67 rfl ?_
          refine lv_topi (fun z_46 ez_46 => ?_)
          refine j7_bastF hx hb hK hh_40 hB hB196 0 rfl (by decide) (by decide) rfl rfl rfl hgn_33 (x := pc.toInt) (rfl) (by omega) dX0_put_68 (fun H_47 locs_47 hh_47 => ?_)
          clear hh_40
          refine lv_aload_n hx hb dX0_put_69 rfl (lv_at hl 0 rfl) ?_
          refine lv_dup hx hb dX0_put_70 rfl ?_
          refine j7_read hx hb hown hK (C := RX0) (T := TX0) (N := 2) rfl hly_2_1 hlk_19 (hh_47.at 1 rfl) dX0_put_71 ?_
          refine lv_iconst (v := 1) hx hb dX0_put_74 (by decide) ?_
          refine lv_iadd hx hb dX0_put_75 ?_
          refine lv_topi (fun z_48 ez_48 => ?_)
          have hz_48 : z_48.toInt = pc.toInt + 1 := by rw [ez_48]; exact jb_iadd2 (rfl) ((by decide)) (by omega)
          have hd_50 := hh_47.iv 0 rfl
          have hh_51 := hh_47.sub (L1 := [(r0, 2, 0, .ref s.heap.size), (r0, 2, 1, .int pc)]) [0, 1] rfl (M1 := []) [] rfl (I1 := []) [] rfl
          clear hh_47
          refine j7_putX hx hb hown hK hh_51 hB hAp hB2 (C := RX0) (T := TX0) (N := 2) rfl (by decide) hg_35 (i := 1) (by decide) hly_2_1 rfl hlk_19 rfl (ty := .int) (v := .int z_48) (by decide +kernel) rfl rfl (⟨_, rfl, by omega, by omega, by omega⟩) rfl (L1 := [(r0, 2, 0, .ref s.heap.size)]) [0] rfl rfl rfl dX0_put_76 (fun H_49 locs_49 hr_49 hh_49 => ?_)
          clear hh_51
          have hd_50n := jOw.put hd_50 hr_49
          have hh_52 := hh_49.addI (jOw.ie (dC := dC) (dI := dI) (G0 := G0) (k := 2) (r := r0) (H0 := s.heap) (F := [(2, 0), (2, 1)]) (C := RX0) (T := TX0) (N := 2) rfl (by decide) hh_49.2.2.2.2.1 (hd_50n))
          clear hh_49
          clear hd_50 hd_50n hr_49
          have hsz_53 := hh_52.2.2.2.2.2.1
          have htt_53 := hh_52.2.2.2.2.2.2.1
          refine W.room (fun hrc_53 hrs_53 => ?_)
          refine W.widen (k := LC - s.heap.size) (n := LS - jTot s.heap) (by omega) (by omega) ?_
          rw [hQ]
          exact W.vret hx hb hr (fun t ht hW => ⟨⟨(z_48, s.heap.size, nc_34, G_33), rfl, by (try dsimp only); exact ⟨(by first | omega | rfl | assumption | fail), (by first | omega | rfl | assumption | fail), (by first | omega | rfl | assumption | fail), (by first | omega | rfl | assumption | fail), (by first | assumption | fail | omega)⟩, ⟨hh_52.ra (by first | omega | (simp only; omega)) (by first | omega | (simp only; omega)) (M1 := [(r0, 2, 1, .int z_48), (r0, 2, 0, .ref s.heap.size)]) [0, 1] rfl ht, hgn_33, hNn_33, by rw [ht]; exact hh_52.iv 0 rfl⟩⟩, by rw [ht]; try exact hh_52.1.1, fun q h9 hq => by rw [ht]; try exact hh_52.1.2.1 q h9 hq⟩) hh_52.1.2.2 dX0_put_79
set_option maxHeartbeats 4000000 in
set_option maxRecDepth 20000 in
theorem uX0_text (l : Launch) (dC : Nat → ClassId) (dI : Nat → Nat → Nat) (ca : Nat → ClassId) (base : Nat) (B : jF) (hB : jBok B) (hAp : jAp (dC, dI)) (hB2 : ∀ n G a H, B 2 n G a H ↔ jOb (dC, dI) 2 2 (F2 n G) a H) (hB196 : ∀ n G a H, B 196 n G a H ↔ jAr (dC, dI) (ca 0) (fun j z => jBf j z) n a H) (G0 : jT) (H0 : Heap) (r0 : Nat) (r1 : Nat) (n1 : Nat) (pc : Int32) (pa : Nat) (n_pa : Nat) (LC LS : Nat) : Met l yX0_text (jw yX0_text cX0_text 3 none) ({ frames := 4, cells := LC - H0.size, slots := LS - jTot H0, locals := 141 }) (va_Pc [.ref r0, .ref r1] (fun U => U.heap = H0 ∧ jX B base G0 [] H0 ∧ jG dC dI ca base U ∧ jStr base r1 n1 U H0 ∧ G0 r0 = some (2, 0) ∧ G0 pa = some (196, n_pa) ∧ jP (dC, dI) G0 H0 [(r0, 2, 1, .int pc), (r0, 2, 0, .ref pa)] ∧ H0.size + (1048576 - n_pa) / 16 + 1 ≤ LC ∧ jTot H0 + 2 * (1048576 - n_pa) ≤ LS ∧ 0 ≤ pc.toInt ∧ pc.toInt ≤ n_pa ∧ 16 ≤ n_pa ∧ n_pa ≤ 1048576 ∧ jPw n_pa ∧ n1 < 2147483648)) (va_Qv (S := Int32 × Nat × Nat × jT) (fun u => 0 ≤ u.1.toInt ∧ u.1.toInt ≤ u.2.2.1 ∧ n_pa ≤ u.2.2.1 ∧ u.2.2.1 ≤ 1048576 ∧ jPw u.2.2.1) (fun u t => jRa (dC, dI) B base G0 u.2.2.2 EX0_text H0 ((u.2.2.1 - n_pa) / 16) (2 * (u.2.2.1 - n_pa)) [(r0, 2, 1, .int u.1), (r0, 2, 0, .ref u.2.1)] t.heap ∧ u.2.2.2 u.2.1 = some (196, u.2.2.1) ∧ (jNk [0, 1, 2, 3, 4, 5, 6, 7, 8, 9, 10, 11, 12, 13, 14, 15, 16, 17, 175]) G0 u.2.2.2 ∧ jOw (dC, dI) G0 2 r0 H0 t.heap) (jA base)) (LC - H0.size) (LS - jTot H0) (jA base) := by
  refine Met.ofW (cc := cX0_text) (maxL := 3) (ret := none) (by decide) rfl ?_
  intro p e s m args below meth c s₁ Bd hml hv
  obtain ⟨rfl, hH0, hX, hG, hstr_r1, hg_r0, hg_pa, hP0, hLC0, hLS0, hp0, hp1, hp2, hp3, hp4, hp5⟩ := hv
  have hK := hG.1
  have hx := Bd.exec
  have hb := Bd.bytes
  have hr := Bd.returns
  have hts := atoms_spec (ws := (jw yX0_text cX0_text 3 none)) Bd.pre
  have htw : ∀ w ∈ jWl, w.before _ s = true := fun w h => hts w (List.mem_cons_of_mem _ h)
  have hown : s.vm.findClass RX0 = some m.cls := findClass_of_methodNamed Bd.named
  have hlocks := Bd.notSynchronized
  obtain ⟨Q, hQ⟩ : ∃ Q, Q = MQ below (va_Qv (S := Int32 × Nat × Nat × jT) (fun u => 0 ≤ u.1.toInt ∧ u.1.toInt ≤ u.2.2.1 ∧ n_pa ≤ u.2.2.1 ∧ u.2.2.1 ≤ 1048576 ∧ jPw u.2.2.1) (fun u t => jRa (dC, dI) B base G0 u.2.2.2 EX0_text H0 ((u.2.2.1 - n_pa) / 16) (2 * (u.2.2.1 - n_pa)) [(r0, 2, 1, .int u.1), (r0, 2, 0, .ref u.2.1)] t.heap ∧ u.2.2.2 u.2.1 = some (196, u.2.2.1) ∧ (jNk [0, 1, 2, 3, 4, 5, 6, 7, 8, 9, 10, 11, 12, 13, 14, 15, 16, 17, 175]) G0 u.2.2.2 ∧ jOw (dC, dI) G0 2 r0 H0 t.heap) (jA base)) ([.ref r0, .ref r1] : List Value).toArray s (LC - H0.size) (LS - jTot H0) (jA base) := ⟨_, rfl⟩
  rw [← hQ]
  have hl := lv_entry ([.ref r0, .ref r1]) (n := 3) (Nat.le_of_ble_eq_true rfl)
  rw [lg_entry_eq]
  generalize (lg_sl ([.ref r0, .ref r1]) ++ List.replicate (3 - (lg_sl ([.ref r0, .ref r1])).length) Slot.unset).toArray = ls at hl ⊢
  have hl : lv_has ls 3 [(0, .ref r0), (1, .ref r1)] := hl
  generalize hR : (headSpec (jw yX0_text cX0_text 3 none) ({ frames := 4, cells := LC - H0.size, slots := LS - jTot H0, locals := 141 })).room = R
  subst hH0
  have hh : jSt (dC, dI) B base G0 G0 EX0_text s.heap 0 0 [(r0, 2, 1, .int pc), (r0, 2, 0, .ref pa)] [] [] s.heap [] := jSt.start hX hP0 jMc.nil jIs.nil
  clear hX hP0
  have hk0 : (0 : Int32).toInt = 0 := by decide
  have hk1 : (1 : Int32).toInt = 1 := by decide
  have hbs : base ≤ s.heap.size := Nat.le_of_lt (Nat.lt_of_le_of_lt (hh.ab hg_r0).1 (hh.ab hg_r0).2)
  have hRc : R.cells = LC - s.heap.size := by rw [← hR]; rfl
  have hRs : R.slots = LS - jTot s.heap := by rw [← hR]; rfl
  have hh_1 := hh.addI (jOw.ie (dC := dC) (dI := dI) (G0 := G0) (k := 2) (r := r0) (H0 := s.heap) (F := [(2, 0), (2, 1)]) (C := RX0) (T := TX0) (N := 2) rfl (by decide) hh.2.2.2.2.1 (jOw.rf))
  clear hh
  refine lv_iconst (v := 0) hx hb dX0_text_0 (by decide) ?_
  refine lv_istore_n (lv' := [(2, .int 0), (0, .ref r0), (1, .ref r1)]) hx hb dX0_text_1 rfl hl (by decide) rfl (fun ls hl => ?_)
  have L2 : ∀ (N : Nat) (Gx_2 : jT) (zcx_2 : Nat) (zsx_2 : Nat) (v2_2 : Int32) (wc_2 : Int32) (wr_2 : Nat) (m_wr_2 : Nat) (H_2 : Heap) (locs_2 : List Loc), jSt (dC, dI) B base G0 Gx_2 EX0_text s.heap zcx_2 zsx_2 [(r0, 2, 1, .int wc_2), (r0, 2, 0, .ref wr_2)] [] [([(2, 0), (2, 1)], jOw (dC, dI) G0 2 r0 s.heap)] H_2 locs_2 → (jNk [0, 1, 2, 3, 4, 5, 6, 7, 8, 9, 10, 11, 12, 13, 14, 15, 16, 17, 175]) G0 Gx_2 → jLe G0 Gx_2 → Gx_2 wr_2 = some (196, m_wr_2) → (0 ≤ wc_2.toInt ∧ wc_2.toInt ≤ m_wr_2 ∧ n_pa ≤ m_wr_2 ∧ m_wr_2 ≤ 1048576 ∧ jPw m_wr_2 ∧ zcx_2 ≤ (m_wr_2 - n_pa) / 16 ∧ zsx_2 ≤ 2 * (m_wr_2 - n_pa) ∧ 0 ≤ v2_2.toInt ∧ v2_2.toInt ≤ n1) → (n1 - v2_2.toInt : Int) < N → ∀ ls : Array Slot, lv_has ls 3 [(0, .ref r0), (1, .ref r1), (2, .int v2_2)] → W p l e R s m ([.ref r0, .ref r1] : List Value).toArray below meth c H_2 locs_2 zcx_2 zsx_2 Q (F0 m 2 ls []) := by
    intro N
    induction N with
    | zero => intro Gx_2 zcx_2 zsx_2 v2_2 wc_2 wr_2 m_wr_2 H_2 locs_2 hh_2 hN_2 hle_2 hg_wr_2 hi_2 hm; exact absurd hm (by omega)
    | succ N L2 =>
      intro Gx_2 zcx_2 zsx_2 v2_2 wc_2 wr_2 m_wr_2 H_2 locs_2 hh_2 hN_2 hle_2 hg_wr_2 hi_2 hm_2 ls hl
      have hg_3 := hle_2 _ _ hg_r0
      obtain ⟨hi_2_0, hi_2_1, hi_2_2, hi_2_3, hi_2_4, hi_2_5, hi_2_6, hi_2_7, hi_2_8⟩ := hi_2
      refine lv_iload_n hx hb dX0_text_2 rfl (lv_at hl 2 rfl) ?_
      refine lv_aload_n hx hb dX0_text_3 rfl (lv_at hl 1 rfl) ?_
      have hsz_5 := hh_2.2.2.2.2.2.1
      have htt_5 := hh_2.2.2.2.2.2.2.1
      refine W.room (fun hrc_5 hrs_5 => ?_)
      refine vp_callSi (W.runV (As := []) (rest := [.int v2_2]) ⟨hx, hb, hml, hown, hts⟩ (wJ0_length_8abf5 l dC dI ca base H_2 r1 n1) (cwV 0 hts (jgV (jWr_26 _ (List.mem_of_getElem? (i := 1) rfl)) (jWr_5 _ (List.mem_of_getElem? (i := 13) rfl)) (jWr_5 _ (List.mem_of_getElem? (i := 14) rfl)) (jWr_5 _ (List.mem_of_getElem? (i := 15) rfl)) (jWr_5 _ (List.mem_of_getElem? (i := 16) rfl))) rfl rfl rfl (by decide +kernel) ⟨by rw [← hR]; exact Nat.le_of_ble_eq_true rfl, by rw [← hR]; exact Nat.le_of_ble_eq_true rfl⟩) ⟨fun a U g mk q => by obtain ⟨q0, q1, q2, qK, q9⟩ := q; exact ⟨q0, q1, (q2.moved (Vm.Alike.refl U.vm)), jG.calling g mk a qK, q9⟩, jStr_recv hstr_r1 hh_2.1, fun U hU hW => ⟨rfl, hU, (hstr_r1.moved hW.alike).kept hh_2.1.2.1, hG.step hW hU hh_2.1, by omega⟩⟩ rfl rfl hl.1 rfl (lv_room (Nat.le_of_ble_eq_true rfl)) dX0_text_4 ⟨by rw [hRc]; show _ + 0 ≤ _; omega, by rw [hRs]; show _ + 0 ≤ _; omega⟩) (fun r_4 hr_4 => ?_)
      refine lv_icmp_ge (tgt := 25) hx hb dX0_text_7 (by decide) (fun c_6 => ?_) (fun c_6 => ?_)
      · skip
        have c_6' : v2_2.toInt ≥ r_4.toInt := jb_ge (rfl) (rfl) c_6
        have hsz_7 := hh_2.2.2.2.2.2.1
        have htt_7 := hh_2.2.2.2.2.2.2.1
        refine W.room (fun hrc_7 hrs_7 => ?_)
        refine W.widen (k := LC - s.heap.size) (n := LS - jTot s.heap) (by omega) (by omega) ?_
        rw [hQ]
        exact W.vret hx hb hr (fun t ht hW => ⟨⟨(wc_2, wr_2, m_wr_2, Gx_2), rfl, by (try dsimp only); exact ⟨(by first | omega | rfl | assumption | fail), (by first | omega | rfl | assumption | fail), (by first | omega | rfl | assumption | fail), (by first | omega | rfl | assumption | fail), (by first | assumption | fail | omega)⟩, ⟨hh_2.ra (by first | omega | (simp only; omega)) (by first | omega | (simp only; omega)) (M1 := [(r0, 2, 1, .int wc_2), (r0, 2, 0, .ref wr_2)]) [0, 1] rfl ht, hg_wr_2, hN_2, by rw [ht]; exact hh_2.iv 0 rfl⟩⟩, by rw [ht]; try exact hh_2.1.1, fun q h9 hq => by rw [ht]; try exact hh_2.1.2.1 q h9 hq⟩) hh_2.1.2.2 dX0_text_25
      · skip
        have c_6' : v2_2.toInt < r_4.toInt := jb_ge_n (rfl) (rfl) c_6
        refine lv_aload_n hx hb dX0_text_10 rfl (lv_at hl 0 rfl) ?_
        refine lv_aload_n hx hb dX0_text_11 rfl (lv_at hl 1 rfl) ?_
        refine lv_iload_n hx hb dX0_text_12 rfl (lv_at hl 2 rfl) ?_
        have hsz_9 := hh_2.2.2.2.2.2.1
        have htt_9 := hh_2.2.2.2.2.2.2.1
        refine W.room (fun hrc_9 hrs_9 => ?_)
        refine vp_callSi (W.runV (As := [.int v2_2]) (rest := [.ref r0]) ⟨hx, hb, hml, hown, hts⟩ (wJ0_charAt_5068e l dC dI ca base H_2 r1 n1 v2_2) (cwV 1 hts (jgV (jWr_26 _ (List.mem_of_getElem? (i := 2) rfl)) (jWr_6 _ (List.mem_of_getElem? (i := 1) rfl)) (jWr_6 _ (List.mem_of_getElem? (i := 2) rfl)) (jWr_5 _ (List.mem_of_getElem? (i := 15) rfl)) (jWr_6 _ (List.mem_of_getElem? (i := 3) rfl))) rfl rfl rfl (by decide +kernel) ⟨by rw [← hR]; exact Nat.le_of_ble_eq_true rfl, by rw [← hR]; exact Nat.le_of_ble_eq_true rfl⟩) ⟨fun a U g mk q => by obtain ⟨q0, q1, q2, qK, q9⟩ := q; exact ⟨q0, q1, (q2.moved (Vm.Alike.refl U.vm)), jG.calling g mk a qK, q9⟩, jStr_recv hstr_r1 hh_2.1, fun U hU hW => ⟨rfl, hU, (hstr_r1.moved hW.alike).kept hh_2.1.2.1, hG.step hW hU hh_2.1, ⟨by omega, by omega, by omega⟩⟩⟩ rfl rfl hl.1 rfl (lv_room (Nat.le_of_ble_eq_true rfl)) dX0_text_13 ⟨by rw [hRc]; show _ + 0 ≤ _; omega, by rw [hRs]; show _ + 0 ≤ _; omega⟩) (fun r_8 hr_8 => ?_)
        have hsz_10 := hh_2.2.2.2.2.2.1
        have htt_10 := hh_2.2.2.2.2.2.2.1
        refine W.room (fun hrc_10 hrs_10 => ?_)
        refine va_callv (A0 := jA base) (H0 := s.heap) (va_runV (As := [.int r_8]) (rest := []) ⟨hx, hb, hml, hown, hts⟩ (uX0_put l dC dI ca base B hB hAp hB2 hB196 Gx_2 H_2 r0 r_8 wc_2 wr_2 m_wr_2 LC LS) (cwV 1 hts (jgV (jWr_24 _ (List.mem_of_getElem? (i := 22) rfl)) (jWr_16 _ (List.mem_of_getElem? (i := 0) rfl)) (jWr_16 _ (List.mem_of_getElem? (i := 1) rfl)) (jWr_1 _ (List.mem_of_getElem? (i := 14) rfl)) (jWr_16 _ (List.mem_of_getElem? (i := 2) rfl))) rfl rfl rfl (by decide +kernel) ⟨by rw [← hR]; exact Nat.le_of_ble_eq_true rfl, by rw [← hR]; exact Nat.le_of_ble_eq_true rfl⟩) ⟨fun a U g mk q => by obtain ⟨q0, q1, q2, qK, q10, q11, q12, q13⟩ := q; exact ⟨q0, q1, q2, jG.calling g mk a qK, q10, q11, q12, q13⟩, hh_2.recv (C := RX0) (T := TX0) (N := 2) hB2 rfl (by decide) hg_3 hK, fun U hU hW => ⟨rfl, hU, hh_2.2.1, hG.step hW hU hh_2.1, hg_3, hg_wr_2, (hh_2.2.2.1.sub (L1 := [(r0, 2, 1, .int wc_2), (r0, 2, 0, .ref wr_2)]) [0, 1] rfl), (by omega), (by omega), by first | omega | (refine ⟨?_, ?_, ?_, ?_, ?_⟩ <;> (first | omega | rfl | assumption | decide | exact Or.inl rfl | exact Or.inr rfl | (simp only; omega)))⟩⟩ rfl rfl hl.1 rfl (lv_room (Nat.le_of_ble_eq_true rfl)) dX0_text_16 ⟨by rw [hRc]; omega, by rw [hRs]; omega⟩) hh_2.1 (fun q _ h => h) (fun q h => h) (fun u_10 t_10 H_10 locs_10 ht_10 hvm_10 hr_11 hb_10 hz_10 hk_10 hS_10 => ?_)
        obtain ⟨qc_10, qa_10, m_qa_10, G_10⟩ := u_10
        rw [ht_10] at hb_10
        simp only at hb_10
        obtain ⟨⟨hb_101, hb_102, hb_103, hb_104, hb_105, hb_106⟩, hgq_10_0, hN_10, hbO_10⟩ := hb_10
        have hh_10 : jSt (dC, dI) B base G0 G_10 EX0_text s.heap (zcx_2 + ((m_qa_10 - m_wr_2) / 16)) (zsx_2 + (2 * (m_qa_10 - m_wr_2))) [(r0, 2, 1, .int qc_10), (r0, 2, 0, .ref qa_10)] [] [] H_10 locs_10 := (hh_2.callG hb_101 hb_102 hb_103 hb_104 hb_105 hS_10 rfl (L1 := []) [] rfl rfl (M1 := []) [] rfl rfl (I1 := []) [] rfl rfl).more hb_106
        have hNn_10 : (jNk [0, 1, 2, 3, 4, 5, 6, 7, 8, 9, 10, 11, 12, 13, 14, 15, 16, 17, 175]) G0 G_10 := (hN_2).tr hN_10
        have hg_12 := hb_102 _ _ hg_3
        have hd_13 := jOw.tr (hh_2.iv 0 rfl) hh_2.2.2.2.2.1 hbO_10
        have hh_14 := hh_10.addI (jOw.ie (dC := dC) (dI := dI) (G0 := G0) (k := 2) (r := r0) (H0 := s.heap) (F := [(2, 0), (2, 1)]) (C := RX0) (T := TX0) (N := 2) rfl (by decide) hh_10.2.2.2.2.1 (hd_13))
        clear hh_10
        try simp only at hr_11
        obtain ⟨hr_11_0, hr_11_1, hr_11_2, hr_11_3, hr_11_4⟩ := hr_11
        obtain ⟨z_15, ez_15⟩ : ∃ y : Int32, y = v2_2 + 1 := ⟨_, rfl⟩
        refine lv_iinc (v := z_15) (lv' := [(2, .int z_15), (0, .ref r0), (1, .ref r1)]) hx hb dX0_text_19 hl (k := 2) rfl (by rw [ez_15]; rfl) (by decide) rfl (fun ls hl => ?_)
        have hz_15 : z_15.toInt = v2_2.toInt + 1 := by rw [ez_15]; exact jb_iadd2 (rfl) (by decide) (by omega)
        refine lv_goto (tgt := 2) hx hb dX0_text_22 (by decide) ?_
        refine W.tight (c2 := (zcx_2 + ((m_qa_10 - m_wr_2) / 16))) (n2 := (zsx_2 + (2 * (m_qa_10 - m_wr_2)))) hh_14.2.2.2.2.2.1 hh_14.2.2.2.2.2.2.1 ?_
        exact L2 G_10 (zcx_2 + ((m_qa_10 - m_wr_2) / 16)) (zsx_2 + (2 * (m_qa_10 - m_wr_2))) z_15 qc_10 qa_10 m_qa_10 _ _ hh_14 (hNn_10) ((hle_2).tr hb_102) hgq_10_0 (by first | omega | (refine ⟨?_, ?_, ?_, ?_, ?_, ?_, ?_, ?_, ?_⟩ <;> (first | omega | rfl | assumption | decide | exact Or.inl rfl | exact Or.inr rfl | (simp only; omega)))) (by omega) _ (lv_sub hl [1, 2, 0] rfl)
  refine W.tight (c2 := 0) (n2 := 0) hh_1.2.2.2.2.2.1 hh_1.2.2.2.2.2.2.1 ?_
  exact L2 (n1 - (0 : Int32).toInt : Int).toNat.succ G0 0 0 0 pc pa n_pa _ _ hh_1 (jNk.rf) (jLe.rf) hg_pa (by first | omega | (refine ⟨?_, ?_, ?_, ?_, ?_, ?_, ?_, ?_, ?_⟩ <;> (first | omega | rfl | assumption | decide | exact Or.inl rfl | exact Or.inr rfl | (simp only; omega)))) (by omega) _ (lv_sub hl [1, 2, 0] rfl)
set_option maxHeartbeats 4000000 in
set_option maxRecDepth 20000 in
theorem uX0_number (l : Launch) (dC : Nat → ClassId) (dI : Nat → Nat → Nat) (ca : Nat → ClassId) (base : Nat) (B : jF) (hB : jBok B) (hAp : jAp (dC, dI)) (hB2 : ∀ n G a H, B 2 n G a H ↔ jOb (dC, dI) 2 2 (F2 n G) a H) (hB196 : ∀ n G a H, B 196 n G a H ↔ jAr (dC, dI) (ca 0) (fun j z => jBf j z) n a H) (G0 : jT) (H0 : Heap) (r0 : Nat) (a1 : Int32) (pc : Int32) (pa : Nat) (n_pa : Nat) (LC LS : Nat) : Met l yX0_number (jw yX0_number cX0_number 9 none) ({ frames := 3, cells := LC - H0.size, slots := LS - jTot H0, locals := 83 }) (va_Pc [.ref r0, .int a1] (fun U => U.heap = H0 ∧ jX B base G0 [] H0 ∧ jG dC dI ca base U ∧ G0 r0 = some (2, 0) ∧ G0 pa = some (196, n_pa) ∧ jP (dC, dI) G0 H0 [(r0, 2, 1, .int pc), (r0, 2, 0, .ref pa)] ∧ H0.size + (1048576 - n_pa) / 16 + 1 ≤ LC ∧ jTot H0 + 2 * (1048576 - n_pa) ≤ LS ∧ 0 ≤ pc.toInt ∧ pc.toInt ≤ n_pa ∧ 16 ≤ n_pa ∧ n_pa ≤ 1048576 ∧ jPw n_pa)) (va_Qv (S := Int32 × Nat × Nat × jT) (fun u => 0 ≤ u.1.toInt ∧ u.1.toInt ≤ u.2.2.1 ∧ n_pa ≤ u.2.2.1 ∧ u.2.2.1 ≤ 1048576 ∧ jPw u.2.2.1) (fun u t => jRa (dC, dI) B base G0 u.2.2.2 EX0_number H0 ((u.2.2.1 - n_pa) / 16) (2 * (u.2.2.1 - n_pa)) [(r0, 2, 1, .int u.1), (r0, 2, 0, .ref u.2.1)] t.heap ∧ u.2.2.2 u.2.1 = some (196, u.2.2.1) ∧ (jNk [0, 1, 2, 3, 4, 5, 6, 7, 8, 9, 10, 11, 12, 13, 14, 15, 16, 17, 175]) G0 u.2.2.2 ∧ jOw (dC, dI) G0 2 r0 H0 t.heap) (jA base)) (LC - H0.size) (LS - jTot H0) (jA base) := by
  refine Met.ofW (cc := cX0_number) (maxL := 9) (ret := none) (by decide) rfl ?_
  intro p e s m args below meth c s₁ Bd hml hv
  obtain ⟨rfl, hH0, hX, hG, hg_r0, hg_pa, hP0, hLC0, hLS0, hp0, hp1, hp2, hp3, hp4⟩ := hv
  have hK := hG.1
  have hx := Bd.exec
  have hb := Bd.bytes
  have hr := Bd.returns
  have hts := atoms_spec (ws := (jw yX0_number cX0_number 9 none)) Bd.pre
  have htw : ∀ w ∈ jWl, w.before _ s = true := fun w h => hts w (List.mem_cons_of_mem _ h)
  have hown : s.vm.findClass RX0 = some m.cls := findClass_of_methodNamed Bd.named
  have hlocks := Bd.notSynchronized
  obtain ⟨Q, hQ⟩ : ∃ Q, Q = MQ below (va_Qv (S := Int32 × Nat × Nat × jT) (fun u => 0 ≤ u.1.toInt ∧ u.1.toInt ≤ u.2.2.1 ∧ n_pa ≤ u.2.2.1 ∧ u.2.2.1 ≤ 1048576 ∧ jPw u.2.2.1) (fun u t => jRa (dC, dI) B base G0 u.2.2.2 EX0_number H0 ((u.2.2.1 - n_pa) / 16) (2 * (u.2.2.1 - n_pa)) [(r0, 2, 1, .int u.1), (r0, 2, 0, .ref u.2.1)] t.heap ∧ u.2.2.2 u.2.1 = some (196, u.2.2.1) ∧ (jNk [0, 1, 2, 3, 4, 5, 6, 7, 8, 9, 10, 11, 12, 13, 14, 15, 16, 17, 175]) G0 u.2.2.2 ∧ jOw (dC, dI) G0 2 r0 H0 t.heap) (jA base)) ([.ref r0, .int a1] : List Value).toArray s (LC - H0.size) (LS - jTot H0) (jA base) := ⟨_, rfl⟩
  rw [← hQ]
  have hl := lv_entry ([.ref r0, .int a1]) (n := 9) (Nat.le_of_ble_eq_true rfl)
  rw [lg_entry_eq]
  generalize (lg_sl ([.ref r0, .int a1]) ++ List.replicate (9 - (lg_sl ([.ref r0, .int a1])).length) Slot.unset).toArray = ls at hl ⊢
  have hl : lv_has ls 9 [(0, .ref r0), (1, .int a1)] := hl
  generalize hR : (headSpec (jw yX0_number cX0_number 9 none) ({ frames := 3, cells := LC - H0.size, slots := LS - jTot H0, locals := 83 })).room = R
  subst hH0
  have hh : jSt (dC, dI) B base G0 G0 EX0_number s.heap 0 0 [(r0, 2, 1, .int pc), (r0, 2, 0, .ref pa)] [] [] s.heap [] := jSt.start hX hP0 jMc.nil jIs.nil
  clear hX hP0
  have hk0 : (0 : Int32).toInt = 0 := by decide
  have hk1 : (1 : Int32).toInt = 1 := by decide
  have hk45 : (45 : Int32).toInt = 45 := by decide
  have hrg_a1 := jb_rng a1
  have hbs : base ≤ s.heap.size := Nat.le_of_lt (Nat.lt_of_le_of_lt (hh.ab hg_r0).1 (hh.ab hg_r0).2)
  have hRc : R.cells = LC - s.heap.size := by rw [← hR]; rfl
  have hRs : R.slots = LS - jTot s.heap := by rw [← hR]; rfl
  have hh_1 := hh.addI (jOw.ie (dC := dC) (dI := dI) (G0 := G0) (k := 2) (r := r0) (H0 := s.heap) (F := [(2, 0), (2, 1)]) (C := RX0) (T := TX0) (N := 2) rfl (by decide) hh.2.2.2.2.1 (jOw.rf))
  clear hh
  refine lv_iload_n hx hb dX0_number_0 rfl (lv_at hl 1 rfl) ?_
  refine lv_i2l hx hb dX0_number_1 rfl ?_
  refine lv_topl (fun z_2 ez_2 => ?_)
  refine lv_lstore_n (lv' := [(2, .long z_2), (0, .ref r0), (1, .int a1)]) hx hb dX0_number_2 rfl hl (by decide) rfl (fun ls hl => ?_)
  refine lv_lload_n hx hb dX0_number_3 rfl (lv_at hl 0 rfl) ?_
  refine lv_lconst (v := 0) hx hb dX0_number_4 (by decide) ?_
  refine W.lcmp hx hb dX0_number_5 ?_
  refine lv_topi (fun z_3 ez_3 => ?_)
  have hz_3 := jb_lcmp ez_3
  have hqz_3_0 : (0 : Int64).toInt = 0 := by decide
  have C18 : ∀ (Gx_4 : jT) (zcx_4 : Nat) (zsx_4 : Nat) (v2_4 : Int64) (wc_4 : Int32) (wr_4 : Nat) (m_wr_4 : Nat) (H_4 : Heap) (locs_4 : List Loc), jSt (dC, dI) B base G0 Gx_4 EX0_number s.heap zcx_4 zsx_4 [(r0, 2, 1, .int wc_4), (r0, 2, 0, .ref wr_4)] [] [([(2, 0), (2, 1)], jOw (dC, dI) G0 2 r0 s.heap)] H_4 locs_4 → (jNk [0, 1, 2, 3, 4, 5, 6, 7, 8, 9, 10, 11, 12, 13, 14, 15, 16, 17, 175]) G0 Gx_4 → jLe G0 Gx_4 → Gx_4 wr_4 = some (196, m_wr_4) → (0 ≤ wc_4.toInt ∧ wc_4.toInt ≤ m_wr_4 ∧ n_pa ≤ m_wr_4 ∧ m_wr_4 ≤ 1048576 ∧ jPw m_wr_4 ∧ zcx_4 ≤ (m_wr_4 - n_pa) / 16 ∧ zsx_4 ≤ 2 * (m_wr_4 - n_pa)) → ∀ ls : Array Slot, lv_has ls 9 [(0, .ref r0), (1, .int a1), (2, .long v2_4)] → W p l e R s m ([.ref r0, .int a1] : List Value).toArray below meth c H_4 locs_4 zcx_4 zsx_4 Q (F0 m 18 ls []) := by
    intro Gx_4 zcx_4 zsx_4 v2_4 wc_4 wr_4 m_wr_4 H_4 locs_4 hh_4 hN_4 hle_4 hg_wr_4 hi_4 ls hl
    have hg_5 := hle_4 _ _ hg_r0
    obtain ⟨hi_4_0, hi_4_1, hi_4_2, hi_4_3, hi_4_4, hi_4_5, hi_4_6⟩ := hi_4
    refine lv_iconst (v := 0) hx hb dX0_number_18 (by decide) ?_
    refine lv_istore (lv' := [(4, .int 0), (0, .ref r0), (1, .int a1), (2, .long v2_4)]) hx hb dX0_number_19 hl (by decide) rfl (fun ls hl => ?_)
    refine lv_ldc2 hx hb hown (htw (.constantLong RX0 44 1000000000) (jWr_24 _ (List.mem_of_getElem? (i := 19) rfl))) dX0_number_21 ?_
    refine lv_lstore (lv' := [(5, .long 1000000000), (4, .int 0), (0, .ref r0), (1, .int a1), (2, .long v2_4)]) hx hb dX0_number_24 hl (by decide) rfl (fun ls hl => ?_)
    have L26 : ∀ (N : Nat) (Gx_6 : jT) (zcx_6 : Nat) (zsx_6 : Nat) (v4_6 : Int32) (v5_6 : Int64) (wc_6 : Int32) (wr_6 : Nat) (m_wr_6 : Nat) (H_6 : Heap) (locs_6 : List Loc), jSt (dC, dI) B base G0 Gx_6 EX0_number s.heap zcx_6 zsx_6 [(r0, 2, 1, .int wc_6), (r0, 2, 0, .ref wr_6)] [] [([(2, 0), (2, 1)], jOw (dC, dI) G0 2 r0 s.heap)] H_6 locs_6 → (jNk [0, 1, 2, 3, 4, 5, 6, 7, 8, 9, 10, 11, 12, 13, 14, 15, 16, 17, 175]) G0 Gx_6 → jLe Gx_4 Gx_6 → (v4_6 = 0 ∨ v4_6 = 1) → Gx_6 wr_6 = some (196, m_wr_6) → (0 ≤ wc_6.toInt ∧ wc_6.toInt ≤ m_wr_6 ∧ n_pa ≤ m_wr_6 ∧ m_wr_6 ≤ 1048576 ∧ jPw m_wr_6 ∧ zcx_6 ≤ (m_wr_6 - n_pa) / 16 ∧ zsx_6 ≤ 2 * (m_wr_6 - n_pa) ∧ 0 ≤ v5_6.toInt) → (v5_6.toInt : Int) < N → ∀ ls : Array Slot, lv_has ls 9 [(0, .ref r0), (1, .int a1), (2, .long v2_4), (4, .int v4_6), (5, .long v5_6)] → W p l e R s m ([.ref r0, .int a1] : List Value).toArray below meth c H_6 locs_6 zcx_6 zsx_6 Q (F0 m 26 ls []) := by
      intro N
      induction N with
      | zero => intro Gx_6 zcx_6 zsx_6 v4_6 v5_6 wc_6 wr_6 m_wr_6 H_6 locs_6 hh_6 hN_6 hle_6 hb_v4_6 hg_wr_6 hi_6 hm; exact absurd hm (by omega)
      | succ N L26 =>
        intro Gx_6 zcx_6 zsx_6 v4_6 v5_6 wc_6 wr_6 m_wr_6 H_6 locs_6 hh_6 hN_6 hle_6 hb_v4_6 hg_wr_6 hi_6 hm_6 ls hl
        have hg_7 := hle_6 _ _ hg_5
        obtain ⟨hi_6_0, hi_6_1, hi_6_2, hi_6_3, hi_6_4, hi_6_5, hi_6_6, hi_6_7⟩ := hi_6
        have hb_v4_6' := jb_01 hb_v4_6
        refine lv_lload hx hb dX0_number_26 (lv_at hl 4 rfl) ?_
        refine lv_lconst (v := 0) hx hb dX0_number_28 (by decide) ?_
        refine W.lcmp hx hb dX0_number_29 ?_
        refine lv_topi (fun z_8 ez_8 => ?_)
        have hz_8 := jb_lcmp ez_8
        have hqz_8_0 : (0 : Int64).toInt = 0 := by decide
        refine lv_if_le (tgt := 96) hx hb dX0_number_30 (by decide) (fun c_9 => ?_) (fun c_9 => ?_)
        · skip
          have c_9' : z_8.toInt ≤ 0 := jb_le (rfl) ((by decide)) c_9
          have hsz_10 := hh_6.2.2.2.2.2.1
          have htt_10 := hh_6.2.2.2.2.2.2.1
          refine W.room (fun hrc_10 hrs_10 => ?_)
          refine W.widen (k := LC - s.heap.size) (n := LS - jTot s.heap) (by omega) (by omega) ?_
          rw [hQ]
          exact W.vret hx hb hr (fun t ht hW => ⟨⟨(wc_6, wr_6, m_wr_6, Gx_6), rfl, by (try dsimp only); exact ⟨(by first | omega | rfl | assumption | fail), (by first | omega | rfl | assumption | fail), (by first | omega | rfl | assumption | fail), (by first | omega | rfl | assumption | fail), (by first | assumption | fail | omega)⟩, ⟨hh_6.ra (by first | omega | (simp only; omega)) (by first | omega | (simp only; omega)) (M1 := [(r0, 2, 1, .int wc_6), (r0, 2, 0, .ref wr_6)]) [0, 1] rfl ht, hg_wr_6, hN_6, by rw [ht]; exact hh_6.iv 0 rfl⟩⟩, by rw [ht]; try exact hh_6.1.1, fun q h9 hq => by rw [ht]; try exact hh_6.1.2.1 q h9 hq⟩) hh_6.1.2.2 dX0_number_96
        · skip
          have c_9' : z_8.toInt > 0 := jb_le_n (rfl) ((by decide)) c_9
          refine lv_lload_n hx hb dX0_number_33 rfl (lv_at hl 2 rfl) ?_
          refine lv_lload hx hb dX0_number_34 (lv_at hl 4 rfl) ?_
          refine lv_ldiv hx hb dX0_number_36 (jb_lne (by omega)) ?_
          refine lv_topl (fun z_11 ez_11 => ?_)
          refine lv_ldc2 hx hb hown (htw (.constantLong RX0 46 10) (jWr_24 _ (List.mem_of_getElem? (i := 20) rfl))) dX0_number_37 ?_
          refine lv_lrem hx hb dX0_number_40 (by decide) ?_
          refine lv_topl (fun z_12 ez_12 => ?_)
          refine lv_lstore (lv' := [(7, .long z_12), (0, .ref r0), (1, .int a1), (2, .long v2_4), (4, .int v4_6), (5, .long v5_6)]) hx hb dX0_number_41 hl (by decide) rfl (fun ls hl => ?_)
          refine lv_iload hx hb dX0_number_43 (lv_at hl 4 rfl) ?_
          have C67 : ∀ (w0_13 : Int32) (H_13 : Heap) (locs_13 : List Loc), jSt (dC, dI) B base G0 Gx_6 EX0_number s.heap zcx_6 zsx_6 [(r0, 2, 1, .int wc_6), (r0, 2, 0, .ref wr_6)] [] [([(2, 0), (2, 1)], jOw (dC, dI) G0 2 r0 s.heap)] H_13 locs_13 → (w0_13 = 0 ∨ w0_13 = 1) → (True) → ∀ ls : Array Slot, lv_has ls 9 [(0, .ref r0), (1, .int a1), (2, .long v2_4), (4, .int v4_6), (5, .long v5_6), (7, .long z_12)] → W p l e R s m ([.ref r0, .int a1] : List Value).toArray below meth c H_13 locs_13 zcx_6 zsx_6 Q (F0 m 67 ls [.int w0_13]) := by
            intro w0_13 H_13 locs_13 hh_13 hb_w0_13 hi_13 ls hl
            have hb_w0_13' := jb_01 hb_w0_13
            refine lv_istore (lv' := [(4, .int w0_13), (0, .ref r0), (1, .int a1), (2, .long v2_4), (5, .long v5_6), (7, .long z_12)]) hx hb dX0_number_67 hl (by decide) rfl (fun ls hl => ?_)
            refine lv_iload hx hb dX0_number_69 (lv_at hl 0 rfl) ?_
            refine lv_if_eq (tgt := 85) hx hb dX0_number_71 (by decide) (fun c_14 => ?_) (fun c_14 => ?_)
            · skip
              have c_14' : w0_13.toInt = 0 := jb_eq (rfl) ((by decide)) c_14
              refine lv_lload hx hb dX0_number_85 (lv_at hl 4 rfl) ?_
              refine lv_ldc2 hx hb hown (htw (.constantLong RX0 46 10) (jWr_24 _ (List.mem_of_getElem? (i := 20) rfl))) dX0_number_87 ?_
              refine lv_ldiv hx hb dX0_number_90 (by decide) ?_
              refine lv_topl (fun z_15 ez_15 => ?_)
              have hz_15 : z_15.toInt = v5_6.toInt / 10 := by rw [ez_15]; exact jb_ldiv (rfl) ((by decide)) (by omega) (by omega)
              refine lv_lstore (lv' := [(5, .long z_15), (4, .int w0_13), (0, .ref r0), (1, .int a1), (2, .long v2_4), (7, .long z_12)]) hx hb dX0_number_91 hl (by decide) rfl (fun ls hl => ?_)
              refine lv_goto (tgt := 26) hx hb dX0_number_93 (by decide) ?_
              refine W.tight (c2 := zcx_6) (n2 := zsx_6) hh_13.2.2.2.2.2.1 hh_13.2.2.2.2.2.2.1 ?_
              exact L26 Gx_6 zcx_6 zsx_6 w0_13 z_15 wc_6 wr_6 m_wr_6 _ _ hh_13 (hN_6) (hle_6) (hb_w0_13) hg_wr_6 (by first | omega | (refine ⟨?_, ?_, ?_, ?_, ?_, ?_, ?_, ?_⟩ <;> (first | omega | rfl | assumption | decide | exact Or.inl rfl | exact Or.inr rfl | (simp only; omega)))) (by omega) _ (lv_sub hl [2, 3, 4, 1, 0] rfl)
            · skip
              have c_14' : w0_13.toInt ≠ 0 := jb_eq_n (rfl) ((by decide)) c_14
              refine lv_aload_n hx hb dX0_number_74 rfl (lv_at hl 1 rfl) ?_
              refine lv_ldc2 hx hb hown (htw (.constantLong RX0 48 48) (jWr_24 _ (List.mem_of_getElem? (i := 21) rfl))) dX0_number_75 ?_
              refine lv_lload hx hb dX0_number_78 (lv_at hl 5 rfl) ?_
              refine lv_ladd hx hb dX0_number_80 ?_
              refine lv_topl (fun z_16 ez_16 => ?_)
              refine lv_l2i hx hb dX0_number_81 rfl ?_
              refine lv_topi (fun z_17 ez_17 => ?_)
              have hsz_18 := hh_13.2.2.2.2.2.1
              have htt_18 := hh_13.2.2.2.2.2.2.1
              refine W.room (fun hrc_18 hrs_18 => ?_)
              refine va_callv (A0 := jA base) (H0 := s.heap) (va_runV (As := [.int z_17]) (rest := []) ⟨hx, hb, hml, hown, hts⟩ (uX0_put l dC dI ca base B hB hAp hB2 hB196 Gx_6 H_13 r0 z_17 wc_6 wr_6 m_wr_6 LC LS) (cwV 1 hts (jgV (jWr_24 _ (List.mem_of_getElem? (i := 22) rfl)) (jWr_16 _ (List.mem_of_getElem? (i := 0) rfl)) (jWr_16 _ (List.mem_of_getElem? (i := 1) rfl)) (jWr_1 _ (List.mem_of_getElem? (i := 14) rfl)) (jWr_16 _ (List.mem_of_getElem? (i := 2) rfl))) rfl rfl rfl (by decide +kernel) ⟨by rw [← hR]; exact Nat.le_of_ble_eq_true rfl, by rw [← hR]; exact Nat.le_of_ble_eq_true rfl⟩) ⟨fun a U g mk q => by obtain ⟨q0, q1, q2, qK, q10, q11, q12, q13⟩ := q; exact ⟨q0, q1, q2, jG.calling g mk a qK, q10, q11, q12, q13⟩, hh_13.recv (C := RX0) (T := TX0) (N := 2) hB2 rfl (by decide) hg_7 hK, fun U hU hW => ⟨rfl, hU, hh_13.2.1, hG.step hW hU hh_13.1, hg_7, hg_wr_6, (hh_13.2.2.1.sub (L1 := [(r0, 2, 1, .int wc_6), (r0, 2, 0, .ref wr_6)]) [0, 1] rfl), (by omega), (by omega), by first | omega | (refine ⟨?_, ?_, ?_, ?_, ?_⟩ <;> (first | omega | rfl | assumption | decide | exact Or.inl rfl | exact Or.inr rfl | (simp only; omega)))⟩⟩ rfl rfl hl.1 rfl (lv_room (Nat.le_of_ble_eq_true rfl)) dX0_number_82 ⟨by rw [hRc]; omega, by rw [hRs]; omega⟩) hh_13.1 (fun q _ h => h) (fun q h => h) (fun u_18 t_18 H_18 locs_18 ht_18 hvm_18 hr_19 hb_18 hz_18 hk_18 hS_18 => ?_)
              obtain ⟨qc_18, qa_18, m_qa_18, G_18⟩ := u_18
              rw [ht_18] at hb_18
              simp only at hb_18
              obtain ⟨⟨hb_181, hb_182, hb_183, hb_184, hb_185, hb_186⟩, hgq_18_0, hN_18, hbO_18⟩ := hb_18
              have hh_18 : jSt (dC, dI) B base G0 G_18 EX0_number s.heap (zcx_6 + ((m_qa_18 - m_wr_6) / 16)) (zsx_6 + (2 * (m_qa_18 - m_wr_6))) [(r0, 2, 1, .int qc_18), (r0, 2, 0, .ref qa_18)] [] [] H_18 locs_18 := (hh_13.callG hb_181 hb_182 hb_183 hb_184 hb_185 hS_18 rfl (L1 := []) [] rfl rfl (M1 := []) [] rfl rfl (I1 := []) [] rfl rfl).more hb_186
              have hNn_18 : (jNk [0, 1, 2, 3, 4, 5, 6, 7, 8, 9, 10, 11, 12, 13, 14, 15, 16, 17, 175]) G0 G_18 := (hN_6).tr hN_18
              have hg_20 := hb_182 _ _ hg_7
              have hd_21 := jOw.tr (hh_13.iv 0 rfl) hh_13.2.2.2.2.1 hbO_18
              have hh_22 := hh_18.addI (jOw.ie (dC := dC) (dI := dI) (G0 := G0) (k := 2) (r := r0) (H0 := s.heap) (F := [(2, 0), (2, 1)]) (C := RX0) (T := TX0) (N := 2) rfl (by decide) hh_18.2.2.2.2.1 (hd_21))
              clear hh_18
              try simp only at hr_19
              obtain ⟨hr_19_0, hr_19_1, hr_19_2, hr_19_3, hr_19_4⟩ := hr_19
              refine lv_lload hx hb dX0_number_85 (lv_at hl 4 rfl) ?_
              refine lv_ldc2 hx hb hown (htw (.constantLong RX0 46 10) (jWr_24 _ (List.mem_of_getElem? (i := 20) rfl))) dX0_number_87 ?_
              refine lv_ldiv hx hb dX0_number_90 (by decide) ?_
              refine lv_topl (fun z_23 ez_23 => ?_)
              have hz_23 : z_23.toInt = v5_6.toInt / 10 := by rw [ez_23]; exact jb_ldiv (rfl) ((by decide)) (by omega) (by omega)
              refine lv_lstore (lv' := [(5, .long z_23), (4, .int w0_13), (0, .ref r0), (1, .int a1), (2, .long v2_4), (7, .long z_12)]) hx hb dX0_number_91 hl (by decide) rfl (fun ls hl => ?_)
              refine lv_goto (tgt := 26) hx hb dX0_number_93 (by decide) ?_
              refine W.tight (c2 := (zcx_6 + ((m_qa_18 - m_wr_6) / 16))) (n2 := (zsx_6 + (2 * (m_qa_18 - m_wr_6)))) hh_22.2.2.2.2.2.1 hh_22.2.2.2.2.2.2.1 ?_
              exact L26 G_18 (zcx_6 + ((m_qa_18 - m_wr_6) / 16)) (zsx_6 + (2 * (m_qa_18 - m_wr_6))) w0_13 z_23 qc_18 qa_18 m_qa_18 _ _ hh_22 (hNn_18) ((hle_6).tr hb_182) (hb_w0_13) hgq_18_0 (by first | omega | (refine ⟨?_, ?_, ?_, ?_, ?_, ?_, ?_, ?_⟩ <;> (first | omega | rfl | assumption | decide | exact Or.inl rfl | exact Or.inr rfl | (simp only; omega)))) (by omega) _ (lv_sub hl [2, 3, 4, 1, 0] rfl)
          have C62 : ∀ (H_24 : Heap) (locs_24 : List Loc), jSt (dC, dI) B base G0 Gx_6 EX0_number s.heap zcx_6 zsx_6 [(r0, 2, 1, .int wc_6), (r0, 2, 0, .ref wr_6)] [] [([(2, 0), (2, 1)], jOw (dC, dI) G0 2 r0 s.heap)] H_24 locs_24 → (True) → ∀ ls : Array Slot, lv_has ls 9 [(0, .ref r0), (1, .int a1), (2, .long v2_4), (4, .int v4_6), (5, .long v5_6), (7, .long z_12)] → W p l e R s m ([.ref r0, .int a1] : List Value).toArray below meth c H_24 locs_24 zcx_6 zsx_6 Q (F0 m 62 ls []) := by
            intro  H_24 locs_24 hh_24  hi_24 ls hl
            refine lv_iconst (v := 1) hx hb dX0_number_62 (by decide) ?_
            refine lv_goto (tgt := 67) hx hb dX0_number_63 (by decide) ?_
            refine W.tight (c2 := zcx_6) (n2 := zsx_6) hh_24.2.2.2.2.2.1 hh_24.2.2.2.2.2.2.1 ?_
            exact C67 1 _ _ hh_24 (Or.inr rfl) (trivial) _ (lv_sub hl [0, 1, 2, 3, 4, 5] rfl)
          refine lv_if_ne (tgt := 62) hx hb dX0_number_45 (by decide) (fun c_25 => ?_) (fun c_25 => ?_)
          · skip
            have c_25' : v4_6.toInt ≠ 0 := jb_ne (rfl) ((by decide)) c_25
            refine W.tight (c2 := zcx_6) (n2 := zsx_6) hh_6.2.2.2.2.2.1 hh_6.2.2.2.2.2.2.1 ?_
            exact C62  _ _ hh_6 (trivial) _ (lv_sub hl [1, 2, 3, 4, 5, 0] rfl)
          · skip
            have c_25' : v4_6.toInt = 0 := jb_ne_n (rfl) ((by decide)) c_25
            refine lv_lload hx hb dX0_number_48 (lv_at hl 0 rfl) ?_
            refine lv_lconst (v := 0) hx hb dX0_number_50 (by decide) ?_
            refine W.lcmp hx hb dX0_number_51 ?_
            refine lv_topi (fun z_26 ez_26 => ?_)
            have hz_26 := jb_lcmp ez_26
            have hqz_26_0 : (0 : Int64).toInt = 0 := by decide
            refine lv_if_gt (tgt := 62) hx hb dX0_number_52 (by decide) (fun c_27 => ?_) (fun c_27 => ?_)
            · skip
              have c_27' : z_26.toInt > 0 := jb_gt (rfl) ((by decide)) c_27
              refine W.tight (c2 := zcx_6) (n2 := zsx_6) hh_6.2.2.2.2.2.1 hh_6.2.2.2.2.2.2.1 ?_
              exact C62  _ _ hh_6 (trivial) _ (lv_sub hl [1, 2, 3, 4, 5, 0] rfl)
            · skip
              have c_27' : z_26.toInt ≤ 0 := jb_gt_n (rfl) ((by decide)) c_27
              refine lv_lload hx hb dX0_number_55 (lv_at hl 5 rfl) ?_
              refine lv_lconst (v := 1) hx hb dX0_number_57 (by decide) ?_
              refine W.lcmp hx hb dX0_number_58 ?_
              refine lv_topi (fun z_28 ez_28 => ?_)
              have hz_28 := jb_lcmp ez_28
              have hqz_28_1 : (1 : Int64).toInt = 1 := by decide
              refine lv_if_ne (tgt := 66) hx hb dX0_number_59 (by decide) (fun c_29 => ?_) (fun c_29 => ?_)
              · skip
                have c_29' : z_28.toInt ≠ 0 := jb_ne (rfl) ((by decide)) c_29
                refine lv_iconst (v := 0) hx hb dX0_number_66 (by decide) ?_
                refine W.tight (c2 := zcx_6) (n2 := zsx_6) hh_6.2.2.2.2.2.1 hh_6.2.2.2.2.2.2.1 ?_
                exact C67 0 _ _ hh_6 (Or.inl rfl) (trivial) _ (lv_sub hl [1, 2, 3, 4, 5, 0] rfl)
              · skip
                have c_29' : z_28.toInt = 0 := jb_ne_n (rfl) ((by decide)) c_29
                refine W.tight (c2 := zcx_6) (n2 := zsx_6) hh_6.2.2.2.2.2.1 hh_6.2.2.2.2.2.2.1 ?_
                exact C62  _ _ hh_6 (trivial) _ (lv_sub hl [1, 2, 3, 4, 5, 0] rfl)
    refine W.tight (c2 := zcx_4) (n2 := zsx_4) hh_4.2.2.2.2.2.1 hh_4.2.2.2.2.2.2.1 ?_
    exact L26 ((1000000000 : Int64).toInt : Int).toNat.succ Gx_4 zcx_4 zsx_4 0 1000000000 wc_4 wr_4 m_wr_4 _ _ hh_4 (hN_4) (jLe.rf) (Or.inl rfl) hg_wr_4 (by first | omega | (refine ⟨?_, ?_, ?_, ?_, ?_, ?_, ?_, ?_⟩ <;> (first | omega | rfl | assumption | decide | exact Or.inl rfl | exact Or.inr rfl | (simp only; omega)))) (by omega) _ (lv_sub hl [2, 3, 4, 1, 0] rfl)
  refine lv_if_ge (tgt := 18) hx hb dX0_number_6 (by decide) (fun c_30 => ?_) (fun c_30 => ?_)
  · skip
    have c_30' : z_3.toInt ≥ 0 := jb_ge (rfl) ((by decide)) c_30
    refine W.tight (c2 := 0) (n2 := 0) hh_1.2.2.2.2.2.1 hh_1.2.2.2.2.2.2.1 ?_
    exact C18 G0 0 0 z_2 pc pa n_pa _ _ hh_1 (jNk.rf) (jLe.rf) hg_pa (by first | omega | (refine ⟨?_, ?_, ?_, ?_, ?_, ?_, ?_⟩ <;> (first | omega | rfl | assumption | decide | exact Or.inl rfl | exact Or.inr rfl | (simp only; omega)))) _ (lv_sub hl [1, 2, 0] rfl)
  · skip
    have c_30' : z_3.toInt < 0 := jb_ge_n (rfl) ((by decide)) c_30
    refine lv_aload_n hx hb dX0_number_9 rfl (lv_at hl 1 rfl) ?_
    refine lv_bipush (v := 45) hx hb dX0_number_10 (by decide) ?_
    have hsz_31 := hh_1.2.2.2.2.2.1
    have htt_31 := hh_1.2.2.2.2.2.2.1
    refine W.room (fun hrc_31 hrs_31 => ?_)
    refine va_callv (A0 := jA base) (H0 := s.heap) (va_runV (As := [.int 45]) (rest := []) ⟨hx, hb, hml, hown, hts⟩ (uX0_put l dC dI ca base B hB hAp hB2 hB196 G0 s.heap r0 45 pc pa n_pa LC LS) (cwV 1 hts (jgV (jWr_24 _ (List.mem_of_getElem? (i := 22) rfl)) (jWr_16 _ (List.mem_of_getElem? (i := 0) rfl)) (jWr_16 _ (List.mem_of_getElem? (i := 1) rfl)) (jWr_1 _ (List.mem_of_getElem? (i := 14) rfl)) (jWr_16 _ (List.mem_of_getElem? (i := 2) rfl))) rfl rfl rfl (by decide +kernel) ⟨by rw [← hR]; exact Nat.le_of_ble_eq_true rfl, by rw [← hR]; exact Nat.le_of_ble_eq_true rfl⟩) ⟨fun a U g mk q => by obtain ⟨q0, q1, q2, qK, q10, q11, q12, q13⟩ := q; exact ⟨q0, q1, q2, jG.calling g mk a qK, q10, q11, q12, q13⟩, hh_1.recv (C := RX0) (T := TX0) (N := 2) hB2 rfl (by decide) hg_r0 hK, fun U hU hW => ⟨rfl, hU, hh_1.2.1, hG.step hW hU hh_1.1, hg_r0, hg_pa, (hh_1.2.2.1.sub (L1 := [(r0, 2, 1, .int pc), (r0, 2, 0, .ref pa)]) [0, 1] rfl), (by omega), (by omega), by first | omega | (refine ⟨?_, ?_, ?_, ?_, ?_⟩ <;> (first | omega | rfl | assumption | decide | exact Or.inl rfl | exact Or.inr rfl | (simp only; omega)))⟩⟩ rfl rfl hl.1 rfl (lv_room (Nat.le_of_ble_eq_true rfl)) dX0_number_12 ⟨by rw [hRc]; omega, by rw [hRs]; omega⟩) hh_1.1 (fun q _ h => h) (fun q h => h) (fun u_31 t_31 H_31 locs_31 ht_31 hvm_31 hr_32 hb_31 hz_31 hk_31 hS_31 => ?_)
    obtain ⟨qc_31, qa_31, m_qa_31, G_31⟩ := u_31
    rw [ht_31] at hb_31
    simp only at hb_31
    obtain ⟨⟨hb_311, hb_312, hb_313, hb_314, hb_315, hb_316⟩, hgq_31_0, hN_31, hbO_31⟩ := hb_31
    have hh_31 : jSt (dC, dI) B base G0 G_31 EX0_number s.heap (0 + ((m_qa_31 - n_pa) / 16)) (0 + (2 * (m_qa_31 - n_pa))) [(r0, 2, 1, .int qc_31), (r0, 2, 0, .ref qa_31)] [] [] H_31 locs_31 := (hh_1.callG hb_311 hb_312 hb_313 hb_314 hb_315 hS_31 rfl (L1 := []) [] rfl rfl (M1 := []) [] rfl rfl (I1 := []) [] rfl rfl).more hb_316
    have hNn_31 : (jNk [0, 1, 2, 3, 4, 5, 6, 7, 8, 9, 10, 11, 12, 13, 14, 15, 16, 17, 175]) G0 G_31 := (jNk.rf).tr hN_31
    have hg_33 := hb_312 _ _ hg_r0
    have hd_34 := jOw.tr (hh_1.iv 0 rfl) hh_1.2.2.2.2.1 hbO_31
    have hh_35 := hh_31.addI (jOw.ie (dC := dC) (dI := dI) (G0 := G0) (k := 2) (r := r0) (H0 := s.heap) (F := [(2, 0), (2, 1)]) (C := RX0) (T := TX0) (N := 2) rfl (by decide) hh_31.2.2.2.2.1 (hd_34))
    clear hh_31
    try simp only at hr_32
    obtain ⟨hr_32_0, hr_32_1, hr_32_2, hr_32_3, hr_32_4⟩ := hr_32
    refine lv_lload_n hx hb dX0_number_15 rfl (lv_at hl 0 rfl) ?_
    refine lv_lneg hx hb dX0_number_16 ?_
    refine lv_topl (fun z_36 ez_36 => ?_)
    refine lv_lstore_n (lv' := [(2, .long z_36), (0, .ref r0), (1, .int a1)]) hx hb dX0_number_17 rfl hl (by decide) rfl (fun ls hl => ?_)
    refine W.tight (c2 := (0 + ((m_qa_31 - n_pa) / 16))) (n2 := (0 + (2 * (m_qa_31 - n_pa)))) hh_35.2.2.2.2.2.1 hh_35.2.2.2.2.2.2.1 ?_
    exact C18 G_31 (0 + ((m_qa_31 - n_pa) / 16)) (0 + (2 * (m_qa_31 - n_pa))) z_36 qc_31 qa_31 m_qa_31 _ _ hh_35 (hNn_31) (hb_312) hgq_31_0 (by first | omega | (refine ⟨?_, ?_, ?_, ?_, ?_, ?_, ?_⟩ <;> (first | omega | rfl | assumption | decide | exact Or.inl rfl | exact Or.inr rfl | (simp only; omega)))) _ (lv_sub hl [1, 2, 0] rfl)
set_option maxHeartbeats 4000000 in
set_option maxRecDepth 20000 in
theorem uX0_character (l : Launch) (dC : Nat → ClassId) (dI : Nat → Nat → Nat) (ca : Nat → ClassId) (base : Nat) (B : jF) (hB : jBok B) (hAp : jAp (dC, dI)) (hB2 : ∀ n G a H, B 2 n G a H ↔ jOb (dC, dI) 2 2 (F2 n G) a H) (hB196 : ∀ n G a H, B 196 n G a H ↔ jAr (dC, dI) (ca 0) (fun j z => jBf j z) n a H) (G0 : jT) (H0 : Heap) (r0 : Nat) (a1 : Int32) (pc : Int32) (pa : Nat) (n_pa : Nat) (LC LS : Nat) : Met l yX0_character (jw yX0_character cX0_character 2 none) ({ frames := 3, cells := LC - H0.size, slots := LS - jTot H0, locals := 83 }) (va_Pc [.ref r0, .int a1] (fun U => U.heap = H0 ∧ jX B base G0 [] H0 ∧ jG dC dI ca base U ∧ G0 r0 = some (2, 0) ∧ G0 pa = some (196, n_pa) ∧ jP (dC, dI) G0 H0 [(r0, 2, 1, .int pc), (r0, 2, 0, .ref pa)] ∧ H0.size + (1048576 - n_pa) / 16 + 1 ≤ LC ∧ jTot H0 + 2 * (1048576 - n_pa) ≤ LS ∧ 0 ≤ pc.toInt ∧ pc.toInt ≤ n_pa ∧ 16 ≤ n_pa ∧ n_pa ≤ 1048576 ∧ jPw n_pa)) (va_Qv (S := Int32 × Nat × Nat × jT) (fun u => 0 ≤ u.1.toInt ∧ u.1.toInt ≤ u.2.2.1 ∧ n_pa ≤ u.2.2.1 ∧ u.2.2.1 ≤ 1048576 ∧ jPw u.2.2.1) (fun u t => jRa (dC, dI) B base G0 u.2.2.2 EX0_character H0 ((u.2.2.1 - n_pa) / 16) (2 * (u.2.2.1 - n_pa)) [(r0, 2, 1, .int u.1), (r0, 2, 0, .ref u.2.1)] t.heap ∧ u.2.2.2 u.2.1 = some (196, u.2.2.1) ∧ (jNk [0, 1, 2, 3, 4, 5, 6, 7, 8, 9, 10, 11, 12, 13, 14, 15, 16, 17, 175]) G0 u.2.2.2 ∧ jOw (dC, dI) G0 2 r0 H0 t.heap) (jA base)) (LC - H0.size) (LS - jTot H0) (jA base) := by
  refine Met.ofW (cc := cX0_character) (maxL := 2) (ret := none) (by decide) rfl ?_
  intro p e s m args below meth c s₁ Bd hml hv
  obtain ⟨rfl, hH0, hX, hG, hg_r0, hg_pa, hP0, hLC0, hLS0, hp0, hp1, hp2, hp3, hp4⟩ := hv
  have hK := hG.1
  have hx := Bd.exec
  have hb := Bd.bytes
  have hr := Bd.returns
  have hts := atoms_spec (ws := (jw yX0_character cX0_character 2 none)) Bd.pre
  have htw : ∀ w ∈ jWl, w.before _ s = true := fun w h => hts w (List.mem_cons_of_mem _ h)
  have hown : s.vm.findClass RX0 = some m.cls := findClass_of_methodNamed Bd.named
  have hlocks := Bd.notSynchronized
  obtain ⟨Q, hQ⟩ : ∃ Q, Q = MQ below (va_Qv (S := Int32 × Nat × Nat × jT) (fun u => 0 ≤ u.1.toInt ∧ u.1.toInt ≤ u.2.2.1 ∧ n_pa ≤ u.2.2.1 ∧ u.2.2.1 ≤ 1048576 ∧ jPw u.2.2.1) (fun u t => jRa (dC, dI) B base G0 u.2.2.2 EX0_character H0 ((u.2.2.1 - n_pa) / 16) (2 * (u.2.2.1 - n_pa)) [(r0, 2, 1, .int u.1), (r0, 2, 0, .ref u.2.1)] t.heap ∧ u.2.2.2 u.2.1 = some (196, u.2.2.1) ∧ (jNk [0, 1, 2, 3, 4, 5, 6, 7, 8, 9, 10, 11, 12, 13, 14, 15, 16, 17, 175]) G0 u.2.2.2 ∧ jOw (dC, dI) G0 2 r0 H0 t.heap) (jA base)) ([.ref r0, .int a1] : List Value).toArray s (LC - H0.size) (LS - jTot H0) (jA base) := ⟨_, rfl⟩
  rw [← hQ]
  have hl := lv_entry ([.ref r0, .int a1]) (n := 2) (Nat.le_of_ble_eq_true rfl)
  rw [lg_entry_eq]
  generalize (lg_sl ([.ref r0, .int a1]) ++ List.replicate (2 - (lg_sl ([.ref r0, .int a1])).length) Slot.unset).toArray = ls at hl ⊢
  have hl : lv_has ls 2 [(0, .ref r0), (1, .int a1)] := hl
  generalize hR : (headSpec (jw yX0_character cX0_character 2 none) ({ frames := 3, cells := LC - H0.size, slots := LS - jTot H0, locals := 83 })).room = R
  subst hH0
  have hh : jSt (dC, dI) B base G0 G0 EX0_character s.heap 0 0 [(r0, 2, 1, .int pc), (r0, 2, 0, .ref pa)] [] [] s.heap [] := jSt.start hX hP0 jMc.nil jIs.nil
  clear hX hP0
  have hk0 : (0 : Int32).toInt = 0 := by decide
  have hk1 : (1 : Int32).toInt = 1 := by decide
  have hk6 : (6 : Int32).toInt = 6 := by decide
  have hk12 : (12 : Int32).toInt = 12 := by decide
  have hk18 : (18 : Int32).toInt = 18 := by decide
  have hk63 : (63 : Int32).toInt = 63 := by decide
  have hk128 : (128 : Int32).toInt = 128 := by decide
  have hk192 : (192 : Int32).toInt = 192 := by decide
  have hk224 : (224 : Int32).toInt = 224 := by decide
  have hk240 : (240 : Int32).toInt = 240 := by decide
  have hk2048 : (2048 : Int32).toInt = 2048 := by decide
  have hk65536 : (65536 : Int32).toInt = 65536 := by decide
  have hcs_60 := htw (.constant RX0 60 65536) (jWr_20 _ (List.mem_of_getElem? (i := 15) rfl))
  have hrg_a1 := jb_rng a1
  have hbs : base ≤ s.heap.size := Nat.le_of_lt (Nat.lt_of_le_of_lt (hh.ab hg_r0).1 (hh.ab hg_r0).2)
  have hRc : R.cells = LC - s.heap.size := by rw [← hR]; rfl
  have hRs : R.slots = LS - jTot s.heap := by rw [← hR]; rfl
  have hh_1 := hh.addI (jOw.ie (dC := dC) (dI := dI) (G0 := G0) (k := 2) (r := r0) (H0 := s.heap) (F := [(2, 0), (2, 1)]) (C := RX0) (T := TX0) (N := 2) rfl (by decide) hh.2.2.2.2.1 (jOw.rf))
  clear hh
  refine lv_iload_n hx hb dX0_character_0 rfl (lv_at hl 1 rfl) ?_
  refine lv_sipush (v := 128) hx hb dX0_character_1 (by decide) ?_
  refine lv_icmp_ge (tgt := 13) hx hb dX0_character_4 (by decide) (fun c_2 => ?_) (fun c_2 => ?_)
  · skip
    have c_2' : a1.toInt ≥ 128 := jb_ge (rfl) ((by decide)) c_2
    refine lv_iload_n hx hb dX0_character_13 rfl (lv_at hl 1 rfl) ?_
    refine lv_sipush (v := 2048) hx hb dX0_character_14 (by decide) ?_
    have C98 : ∀ (Gx_3 : jT) (zcx_3 : Nat) (zsx_3 : Nat) (wc_3 : Int32) (wr_3 : Nat) (m_wr_3 : Nat) (H_3 : Heap) (locs_3 : List Loc), jSt (dC, dI) B base G0 Gx_3 EX0_character s.heap zcx_3 zsx_3 [(r0, 2, 1, .int wc_3), (r0, 2, 0, .ref wr_3)] [] [([(2, 0), (2, 1)], jOw (dC, dI) G0 2 r0 s.heap)] H_3 locs_3 → (jNk [0, 1, 2, 3, 4, 5, 6, 7, 8, 9, 10, 11, 12, 13, 14, 15, 16, 17, 175]) G0 Gx_3 → jLe G0 Gx_3 → Gx_3 wr_3 = some (196, m_wr_3) → (0 ≤ wc_3.toInt ∧ wc_3.toInt ≤ m_wr_3 ∧ n_pa ≤ m_wr_3 ∧ m_wr_3 ≤ 1048576 ∧ jPw m_wr_3 ∧ zcx_3 ≤ (m_wr_3 - n_pa) / 16 ∧ zsx_3 ≤ 2 * (m_wr_3 - n_pa)) → ∀ ls : Array Slot, lv_has ls 2 [(0, .ref r0), (1, .int a1)] → W p l e R s m ([.ref r0, .int a1] : List Value).toArray below meth c H_3 locs_3 zcx_3 zsx_3 Q (F0 m 98 ls []) := by
      intro Gx_3 zcx_3 zsx_3 wc_3 wr_3 m_wr_3 H_3 locs_3 hh_3 hN_3 hle_3 hg_wr_3 hi_3 ls hl
      have hg_4 := hle_3 _ _ hg_r0
      obtain ⟨hi_3_0, hi_3_1, hi_3_2, hi_3_3, hi_3_4, hi_3_5, hi_3_6⟩ := hi_3
      refine lv_aload_n hx hb dX0_character_98 rfl (lv_at hl 0 rfl) ?_
      refine lv_sipush (v := 128) hx hb dX0_character_99 (by decide) ?_
      refine lv_iload_n hx hb dX0_character_102 rfl (lv_at hl 1 rfl) ?_
      refine lv_bipush (v := 63) hx hb dX0_character_103 (by decide) ?_
      refine lv_iand hx hb dX0_character_105 ?_
      refine lv_topi (fun z_5 ez_5 => ?_)
      have hz_5 : 0 ≤ z_5.toInt ∧ z_5.toInt ≤ 63 := by rw [ez_5]; exact jb_and a1 (m := 63) (k := 6) (by decide) (by decide)
      refine lv_ior hx hb dX0_character_106 ?_
      refine lv_topi (fun z_6 ez_6 => ?_)
      have hsz_7 := hh_3.2.2.2.2.2.1
      have htt_7 := hh_3.2.2.2.2.2.2.1
      refine W.room (fun hrc_7 hrs_7 => ?_)
      refine va_callv (A0 := jA base) (H0 := s.heap) (va_runV (As := [.int z_6]) (rest := []) ⟨hx, hb, hml, hown, hts⟩ (uX0_put l dC dI ca base B hB hAp hB2 hB196 Gx_3 H_3 r0 z_6 wc_3 wr_3 m_wr_3 LC LS) (cwV 1 hts (jgV (jWr_24 _ (List.mem_of_getElem? (i := 22) rfl)) (jWr_16 _ (List.mem_of_getElem? (i := 0) rfl)) (jWr_16 _ (List.mem_of_getElem? (i := 1) rfl)) (jWr_1 _ (List.mem_of_getElem? (i := 14) rfl)) (jWr_16 _ (List.mem_of_getElem? (i := 2) rfl))) rfl rfl rfl (by decide +kernel) ⟨by rw [← hR]; exact Nat.le_of_ble_eq_true rfl, by rw [← hR]; exact Nat.le_of_ble_eq_true rfl⟩) ⟨fun a U g mk q => by obtain ⟨q0, q1, q2, qK, q10, q11, q12, q13⟩ := q; exact ⟨q0, q1, q2, jG.calling g mk a qK, q10, q11, q12, q13⟩, hh_3.recv (C := RX0) (T := TX0) (N := 2) hB2 rfl (by decide) hg_4 hK, fun U hU hW => ⟨rfl, hU, hh_3.2.1, hG.step hW hU hh_3.1, hg_4, hg_wr_3, (hh_3.2.2.1.sub (L1 := [(r0, 2, 1, .int wc_3), (r0, 2, 0, .ref wr_3)]) [0, 1] rfl), (by omega), (by omega), by first | omega | (refine ⟨?_, ?_, ?_, ?_, ?_⟩ <;> (first | omega | rfl | assumption | decide | exact Or.inl rfl | exact Or.inr rfl | (simp only; omega)))⟩⟩ rfl rfl hl.1 rfl (lv_room (Nat.le_of_ble_eq_true rfl)) dX0_character_107 ⟨by rw [hRc]; omega, by rw [hRs]; omega⟩) hh_3.1 (fun q _ h => h) (fun q h => h) (fun u_7 t_7 H_7 locs_7 ht_7 hvm_7 hr_8 hb_7 hz_7 hk_7 hS_7 => ?_)
      obtain ⟨qc_7, qa_7, m_qa_7, G_7⟩ := u_7
      rw [ht_7] at hb_7
      simp only at hb_7
      obtain ⟨⟨hb_71, hb_72, hb_73, hb_74, hb_75, hb_76⟩, hgq_7_0, hN_7, hbO_7⟩ := hb_7
      have hh_7 : jSt (dC, dI) B base G0 G_7 EX0_character s.heap (zcx_3 + ((m_qa_7 - m_wr_3) / 16)) (zsx_3 + (2 * (m_qa_7 - m_wr_3))) [(r0, 2, 1, .int qc_7), (r0, 2, 0, .ref qa_7)] [] [] H_7 locs_7 := (hh_3.callG hb_71 hb_72 hb_73 hb_74 hb_75 hS_7 rfl (L1 := []) [] rfl rfl (M1 := []) [] rfl rfl (I1 := []) [] rfl rfl).more hb_76
      have hNn_7 : (jNk [0, 1, 2, 3, 4, 5, 6, 7, 8, 9, 10, 11, 12, 13, 14, 15, 16, 17, 175]) G0 G_7 := (hN_3).tr hN_7
      have hg_9 := hb_72 _ _ hg_4
      have hd_10 := jOw.tr (hh_3.iv 0 rfl) hh_3.2.2.2.2.1 hbO_7
      have hh_11 := hh_7.addI (jOw.ie (dC := dC) (dI := dI) (G0 := G0) (k := 2) (r := r0) (H0 := s.heap) (F := [(2, 0), (2, 1)]) (C := RX0) (T := TX0) (N := 2) rfl (by decide) hh_7.2.2.2.2.1 (hd_10))
      clear hh_7
      try simp only at hr_8
      obtain ⟨hr_8_0, hr_8_1, hr_8_2, hr_8_3, hr_8_4⟩ := hr_8
      have hsz_12 := hh_11.2.2.2.2.2.1
      have htt_12 := hh_11.2.2.2.2.2.2.1
      refine W.room (fun hrc_12 hrs_12 => ?_)
      refine W.widen (k := LC - s.heap.size) (n := LS - jTot s.heap) (by omega) (by omega) ?_
      rw [hQ]
      exact W.vret hx hb hr (fun t ht hW => ⟨⟨(qc_7, qa_7, m_qa_7, G_7), rfl, by (try dsimp only); exact ⟨(by first | omega | rfl | assumption | fail), (by first | omega | rfl | assumption | fail), (by first | omega | rfl | assumption | fail), (by first | omega | rfl | assumption | fail), (by first | assumption | fail | omega)⟩, ⟨hh_11.ra (by first | omega | (simp only; omega)) (by first | omega | (simp only; omega)) (M1 := [(r0, 2, 1, .int qc_7), (r0, 2, 0, .ref qa_7)]) [0, 1] rfl ht, hgq_7_0, hNn_7, by rw [ht]; exact hh_11.iv 0 rfl⟩⟩, by rw [ht]; try exact hh_11.1.1, fun q h9 hq => by rw [ht]; try exact hh_11.1.2.1 q h9 hq⟩) hh_11.1.2.2 dX0_character_110
    refine lv_icmp_ge (tgt := 35) hx hb dX0_character_17 (by decide) (fun c_13 => ?_) (fun c_13 => ?_)
    · skip
      have c_13' : a1.toInt ≥ 2048 := jb_ge (rfl) ((by decide)) c_13
      refine lv_iload_n hx hb dX0_character_35 rfl (lv_at hl 1 rfl) ?_
      refine lv_ldc hx hb hown hcs_60 dX0_character_36 ?_
      have C83 : ∀ (Gx_14 : jT) (zcx_14 : Nat) (zsx_14 : Nat) (wc_14 : Int32) (wr_14 : Nat) (m_wr_14 : Nat) (H_14 : Heap) (locs_14 : List Loc), jSt (dC, dI) B base G0 Gx_14 EX0_character s.heap zcx_14 zsx_14 [(r0, 2, 1, .int wc_14), (r0, 2, 0, .ref wr_14)] [] [([(2, 0), (2, 1)], jOw (dC, dI) G0 2 r0 s.heap)] H_14 locs_14 → (jNk [0, 1, 2, 3, 4, 5, 6, 7, 8, 9, 10, 11, 12, 13, 14, 15, 16, 17, 175]) G0 Gx_14 → jLe G0 Gx_14 → Gx_14 wr_14 = some (196, m_wr_14) → (0 ≤ wc_14.toInt ∧ wc_14.toInt ≤ m_wr_14 ∧ n_pa ≤ m_wr_14 ∧ m_wr_14 ≤ 1048576 ∧ jPw m_wr_14 ∧ zcx_14 ≤ (m_wr_14 - n_pa) / 16 ∧ zsx_14 ≤ 2 * (m_wr_14 - n_pa)) → ∀ ls : Array Slot, lv_has ls 2 [(0, .ref r0), (1, .int a1)] → W p l e R s m ([.ref r0, .int a1] : List Value).toArray below meth c H_14 locs_14 zcx_14 zsx_14 Q (F0 m 83 ls []) := by
        intro Gx_14 zcx_14 zsx_14 wc_14 wr_14 m_wr_14 H_14 locs_14 hh_14 hN_14 hle_14 hg_wr_14 hi_14 ls hl
        have hg_15 := hle_14 _ _ hg_r0
        obtain ⟨hi_14_0, hi_14_1, hi_14_2, hi_14_3, hi_14_4, hi_14_5, hi_14_6⟩ := hi_14
        refine lv_aload_n hx hb dX0_character_83 rfl (lv_at hl 0 rfl) ?_
        refine lv_sipush (v := 128) hx hb dX0_character_84 (by decide) ?_
        refine lv_iload_n hx hb dX0_character_87 rfl (lv_at hl 1 rfl) ?_
        refine lv_bipush (v := 6) hx hb dX0_character_88 (by decide) ?_
        refine lv_ishr hx hb dX0_character_90 ?_
        refine lv_topi (fun z_16 ez_16 => ?_)
        have hz_16 : z_16.toInt = a1.toInt / 2 ^ 6 := by rw [ez_16]; exact jb_ishr 6 (rfl) (by decide)
        refine lv_bipush (v := 63) hx hb dX0_character_91 (by decide) ?_
        refine lv_iand hx hb dX0_character_93 ?_
        refine lv_topi (fun z_17 ez_17 => ?_)
        have hz_17 : 0 ≤ z_17.toInt ∧ z_17.toInt ≤ 63 := by rw [ez_17]; exact jb_and z_16 (m := 63) (k := 6) (by decide) (by decide)
        refine lv_ior hx hb dX0_character_94 ?_
        refine lv_topi (fun z_18 ez_18 => ?_)
        have hsz_19 := hh_14.2.2.2.2.2.1
        have htt_19 := hh_14.2.2.2.2.2.2.1
        refine W.room (fun hrc_19 hrs_19 => ?_)
        refine va_callv (A0 := jA base) (H0 := s.heap) (va_runV (As := [.int z_18]) (rest := []) ⟨hx, hb, hml, hown, hts⟩ (uX0_put l dC dI ca base B hB hAp hB2 hB196 Gx_14 H_14 r0 z_18 wc_14 wr_14 m_wr_14 LC LS) (cwV 1 hts (jgV (jWr_24 _ (List.mem_of_getElem? (i := 22) rfl)) (jWr_16 _ (List.mem_of_getElem? (i := 0) rfl)) (jWr_16 _ (List.mem_of_getElem? (i := 1) rfl)) (jWr_1 _ (List.mem_of_getElem? (i := 14) rfl)) (jWr_16 _ (List.mem_of_getElem? (i := 2) rfl))) rfl rfl rfl (by decide +kernel) ⟨by rw [← hR]; exact Nat.le_of_ble_eq_true rfl, by rw [← hR]; exact Nat.le_of_ble_eq_true rfl⟩) ⟨fun a U g mk q => by obtain ⟨q0, q1, q2, qK, q10, q11, q12, q13⟩ := q; exact ⟨q0, q1, q2, jG.calling g mk a qK, q10, q11, q12, q13⟩, hh_14.recv (C := RX0) (T := TX0) (N := 2) hB2 rfl (by decide) hg_15 hK, fun U hU hW => ⟨rfl, hU, hh_14.2.1, hG.step hW hU hh_14.1, hg_15, hg_wr_14, (hh_14.2.2.1.sub (L1 := [(r0, 2, 1, .int wc_14), (r0, 2, 0, .ref wr_14)]) [0, 1] rfl), (by omega), (by omega), by first | omega | (refine ⟨?_, ?_, ?_, ?_, ?_⟩ <;> (first | omega | rfl | assumption | decide | exact Or.inl rfl | exact Or.inr rfl | (simp only; omega)))⟩⟩ rfl rfl hl.1 rfl (lv_room (Nat.le_of_ble_eq_true rfl)) dX0_character_95 ⟨by rw [hRc]; omega, by rw [hRs]; omega⟩) hh_14.1 (fun q _ h => h) (fun q h => h) (fun u_19 t_19 H_19 locs_19 ht_19 hvm_19 hr_20 hb_19 hz_19 hk_19 hS_19 => ?_)
        obtain ⟨qc_19, qa_19, m_qa_19, G_19⟩ := u_19
        rw [ht_19] at hb_19
        simp only at hb_19
        obtain ⟨⟨hb_191, hb_192, hb_193, hb_194, hb_195, hb_196⟩, hgq_19_0, hN_19, hbO_19⟩ := hb_19
        have hh_19 : jSt (dC, dI) B base G0 G_19 EX0_character s.heap (zcx_14 + ((m_qa_19 - m_wr_14) / 16)) (zsx_14 + (2 * (m_qa_19 - m_wr_14))) [(r0, 2, 1, .int qc_19), (r0, 2, 0, .ref qa_19)] [] [] H_19 locs_19 := (hh_14.callG hb_191 hb_192 hb_193 hb_194 hb_195 hS_19 rfl (L1 := []) [] rfl rfl (M1 := []) [] rfl rfl (I1 := []) [] rfl rfl).more hb_196
        have hNn_19 : (jNk [0, 1, 2, 3, 4, 5, 6, 7, 8, 9, 10, 11, 12, 13, 14, 15, 16, 17, 175]) G0 G_19 := (hN_14).tr hN_19
        have hg_21 := hb_192 _ _ hg_15
        have hd_22 := jOw.tr (hh_14.iv 0 rfl) hh_14.2.2.2.2.1 hbO_19
        have hh_23 := hh_19.addI (jOw.ie (dC := dC) (dI := dI) (G0 := G0) (k := 2) (r := r0) (H0 := s.heap) (F := [(2, 0), (2, 1)]) (C := RX0) (T := TX0) (N := 2) rfl (by decide) hh_19.2.2.2.2.1 (hd_22))
        clear hh_19
        try simp only at hr_20
        obtain ⟨hr_20_0, hr_20_1, hr_20_2, hr_20_3, hr_20_4⟩ := hr_20
        refine W.tight (c2 := (zcx_14 + ((m_qa_19 - m_wr_14) / 16))) (n2 := (zsx_14 + (2 * (m_qa_19 - m_wr_14)))) hh_23.2.2.2.2.2.1 hh_23.2.2.2.2.2.2.1 ?_
        exact C98 G_19 (zcx_14 + ((m_qa_19 - m_wr_14) / 16)) (zsx_14 + (2 * (m_qa_19 - m_wr_14))) qc_19 qa_19 m_qa_19 _ _ hh_23 (hNn_19) ((hle_14).tr hb_192) hgq_19_0 (by first | omega | (refine ⟨?_, ?_, ?_, ?_, ?_, ?_, ?_⟩ <;> (first | omega | rfl | assumption | decide | exact Or.inl rfl | exact Or.inr rfl | (simp only; omega)))) _ (lv_sub hl [0, 1] rfl)
      refine lv_icmp_ge (tgt := 56) hx hb dX0_character_38 (by decide) (fun c_24 => ?_) (fun c_24 => ?_)
      · skip
        have c_24' : a1.toInt ≥ 65536 := jb_ge (rfl) ((by decide)) c_24
        refine lv_aload_n hx hb dX0_character_56 rfl (lv_at hl 0 rfl) ?_
        refine lv_sipush (v := 240) hx hb dX0_character_57 (by decide) ?_
        refine lv_iload_n hx hb dX0_character_60 rfl (lv_at hl 1 rfl) ?_
        refine lv_bipush (v := 18) hx hb dX0_character_61 (by decide) ?_
        refine lv_ishr hx hb dX0_character_63 ?_
        refine lv_topi (fun z_25 ez_25 => ?_)
        have hz_25 : z_25.toInt = a1.toInt / 2 ^ 18 := by rw [ez_25]; exact jb_ishr 18 (rfl) (by decide)
        refine lv_ior hx hb dX0_character_64 ?_
        refine lv_topi (fun z_26 ez_26 => ?_)
        have hsz_27 := hh_1.2.2.2.2.2.1
        have htt_27 := hh_1.2.2.2.2.2.2.1
        refine W.room (fun hrc_27 hrs_27 => ?_)
        refine va_callv (A0 := jA base) (H0 := s.heap) (va_runV (As := [.int z_26]) (rest := []) ⟨hx, hb, hml, hown, hts⟩ (uX0_put l dC dI ca base B hB hAp hB2 hB196 G0 s.heap r0 z_26 pc pa n_pa LC LS) (cwV 1 hts (jgV (jWr_24 _ (List.mem_of_getElem? (i := 22) rfl)) (jWr_16 _ (List.mem_of_getElem? (i := 0) rfl)) (jWr_16 _ (List.mem_of_getElem? (i := 1) rfl)) (jWr_1 _ (List.mem_of_getElem? (i := 14) rfl)) (jWr_16 _ (List.mem_of_getElem? (i := 2) rfl))) rfl rfl rfl (by decide +kernel) ⟨by rw [← hR]; exact Nat.le_of_ble_eq_true rfl, by rw [← hR]; exact Nat.le_of_ble_eq_true rfl⟩) ⟨fun a U g mk q => by obtain ⟨q0, q1, q2, qK, q10, q11, q12, q13⟩ := q; exact ⟨q0, q1, q2, jG.calling g mk a qK, q10, q11, q12, q13⟩, hh_1.recv (C := RX0) (T := TX0) (N := 2) hB2 rfl (by decide) hg_r0 hK, fun U hU hW => ⟨rfl, hU, hh_1.2.1, hG.step hW hU hh_1.1, hg_r0, hg_pa, (hh_1.2.2.1.sub (L1 := [(r0, 2, 1, .int pc), (r0, 2, 0, .ref pa)]) [0, 1] rfl), (by omega), (by omega), by first | omega | (refine ⟨?_, ?_, ?_, ?_, ?_⟩ <;> (first | omega | rfl | assumption | decide | exact Or.inl rfl | exact Or.inr rfl | (simp only; omega)))⟩⟩ rfl rfl hl.1 rfl (lv_room (Nat.le_of_ble_eq_true rfl)) dX0_character_65 ⟨by rw [hRc]; omega, by rw [hRs]; omega⟩) hh_1.1 (fun q _ h => h) (fun q h => h) (fun u_27 t_27 H_27 locs_27 ht_27 hvm_27 hr_28 hb_27 hz_27 hk_27 hS_27 => ?_)
        obtain ⟨qc_27, qa_27, m_qa_27, G_27⟩ := u_27
        rw [ht_27] at hb_27
        simp only at hb_27
        obtain ⟨⟨hb_271, hb_272, hb_273, hb_274, hb_275, hb_276⟩, hgq_27_0, hN_27, hbO_27⟩ := hb_27
        have hh_27 : jSt (dC, dI) B base G0 G_27 EX0_character s.heap (0 + ((m_qa_27 - n_pa) / 16)) (0 + (2 * (m_qa_27 - n_pa))) [(r0, 2, 1, .int qc_27), (r0, 2, 0, .ref qa_27)] [] [] H_27 locs_27 := (hh_1.callG hb_271 hb_272 hb_273 hb_274 hb_275 hS_27 rfl (L1 := []) [] rfl rfl (M1 := []) [] rfl rfl (I1 := []) [] rfl rfl).more hb_276
        have hNn_27 : (jNk [0, 1, 2, 3, 4, 5, 6, 7, 8, 9, 10, 11, 12, 13, 14, 15, 16, 17, 175]) G0 G_27 := (jNk.rf).tr hN_27
        have hg_29 := hb_272 _ _ hg_r0
        have hd_30 := jOw.tr (hh_1.iv 0 rfl) hh_1.2.2.2.2.1 hbO_27
        have hh_31 := hh_27.addI (jOw.ie (dC := dC) (dI := dI) (G0 := G0) (k := 2) (r := r0) (H0 := s.heap) (F := [(2, 0), (2, 1)]) (C := RX0) (T := TX0) (N := 2) rfl (by decide) hh_27.2.2.2.2.1 (hd_30))
        clear hh_27
        try simp only at hr_28
        obtain ⟨hr_28_0, hr_28_1, hr_28_2, hr_28_3, hr_28_4⟩ := hr_28
        refine lv_aload_n hx hb dX0_character_68 rfl (lv_at hl 0 rfl) ?_
        refine lv_sipush (v := 128) hx hb dX0_character_69 (by decide) ?_
        refine lv_iload_n hx hb dX0_character_72 rfl (lv_at hl 1 rfl) ?_
        refine lv_bipush (v := 12) hx hb dX0_character_73 (by decide) ?_
        refine lv_ishr hx hb dX0_character_75 ?_
        refine lv_topi (fun z_32 ez_32 => ?_)
        have hz_32 : z_32.toInt = a1.toInt / 2 ^ 12 := by rw [ez_32]; exact jb_ishr 12 (rfl) (by decide)
        refine lv_bipush (v := 63) hx hb dX0_character_76 (by decide) ?_
        refine lv_iand hx hb dX0_character_78 ?_
        refine lv_topi (fun z_33 ez_33 => ?_)
        have hz_33 : 0 ≤ z_33.toInt ∧ z_33.toInt ≤ 63 := by rw [ez_33]; exact jb_and z_32 (m := 63) (k := 6) (by decide) (by decide)
        refine lv_ior hx hb dX0_character_79 ?_
        refine lv_topi (fun z_34 ez_34 => ?_)
        have hsz_35 := hh_31.2.2.2.2.2.1
        have htt_35 := hh_31.2.2.2.2.2.2.1
        refine W.room (fun hrc_35 hrs_35 => ?_)
        refine va_callv (A0 := jA base) (H0 := s.heap) (va_runV (As := [.int z_34]) (rest := []) ⟨hx, hb, hml, hown, hts⟩ (uX0_put l dC dI ca base B hB hAp hB2 hB196 G_27 H_27 r0 z_34 qc_27 qa_27 m_qa_27 LC LS) (cwV 1 hts (jgV (jWr_24 _ (List.mem_of_getElem? (i := 22) rfl)) (jWr_16 _ (List.mem_of_getElem? (i := 0) rfl)) (jWr_16 _ (List.mem_of_getElem? (i := 1) rfl)) (jWr_1 _ (List.mem_of_getElem? (i := 14) rfl)) (jWr_16 _ (List.mem_of_getElem? (i := 2) rfl))) rfl rfl rfl (by decide +kernel) ⟨by rw [← hR]; exact Nat.le_of_ble_eq_true rfl, by rw [← hR]; exact Nat.le_of_ble_eq_true rfl⟩) ⟨fun a U g mk q => by obtain ⟨q0, q1, q2, qK, q10, q11, q12, q13⟩ := q; exact ⟨q0, q1, q2, jG.calling g mk a qK, q10, q11, q12, q13⟩, hh_31.recv (C := RX0) (T := TX0) (N := 2) hB2 rfl (by decide) hg_29 hK, fun U hU hW => ⟨rfl, hU, hh_31.2.1, hG.step hW hU hh_31.1, hg_29, hgq_27_0, (hh_31.2.2.1.sub (L1 := [(r0, 2, 1, .int qc_27), (r0, 2, 0, .ref qa_27)]) [0, 1] rfl), (by omega), (by omega), by first | omega | (refine ⟨?_, ?_, ?_, ?_, ?_⟩ <;> (first | omega | rfl | assumption | decide | exact Or.inl rfl | exact Or.inr rfl | (simp only; omega)))⟩⟩ rfl rfl hl.1 rfl (lv_room (Nat.le_of_ble_eq_true rfl)) dX0_character_80 ⟨by rw [hRc]; omega, by rw [hRs]; omega⟩) hh_31.1 (fun q _ h => h) (fun q h => h) (fun u_35 t_35 H_35 locs_35 ht_35 hvm_35 hr_36 hb_35 hz_35 hk_35 hS_35 => ?_)
        obtain ⟨qc_35, qa_35, m_qa_35, G_35⟩ := u_35
        rw [ht_35] at hb_35
        simp only at hb_35
        obtain ⟨⟨hb_351, hb_352, hb_353, hb_354, hb_355, hb_356⟩, hgq_35_0, hN_35, hbO_35⟩ := hb_35
        have hh_35 : jSt (dC, dI) B base G0 G_35 EX0_character s.heap ((0 + ((m_qa_27 - n_pa) / 16)) + ((m_qa_35 - m_qa_27) / 16)) ((0 + (2 * (m_qa_27 - n_pa))) + (2 * (m_qa_35 - m_qa_27))) [(r0, 2, 1, .int qc_35), (r0, 2, 0, .ref qa_35)] [] [] H_35 locs_35 := (hh_31.callG hb_351 hb_352 hb_353 hb_354 hb_355 hS_35 rfl (L1 := []) [] rfl rfl (M1 := []) [] rfl rfl (I1 := []) [] rfl rfl).more hb_356
        have hNn_35 : (jNk [0, 1, 2, 3, 4, 5, 6, 7, 8, 9, 10, 11, 12, 13, 14, 15, 16, 17, 175]) G0 G_35 := (hNn_27).tr hN_35
        have hg_37 := hb_352 _ _ hg_29
        have hd_38 := jOw.tr (hh_31.iv 0 rfl) hh_31.2.2.2.2.1 hbO_35
        have hh_39 := hh_35.addI (jOw.ie (dC := dC) (dI := dI) (G0 := G0) (k := 2) (r := r0) (H0 := s.heap) (F := [(2, 0), (2, 1)]) (C := RX0) (T := TX0) (N := 2) rfl (by decide) hh_35.2.2.2.2.1 (hd_38))
        clear hh_35
        try simp only at hr_36
        obtain ⟨hr_36_0, hr_36_1, hr_36_2, hr_36_3, hr_36_4⟩ := hr_36
        refine W.tight (c2 := ((0 + ((m_qa_27 - n_pa) / 16)) + ((m_qa_35 - m_qa_27) / 16))) (n2 := ((0 + (2 * (m_qa_27 - n_pa))) + (2 * (m_qa_35 - m_qa_27)))) hh_39.2.2.2.2.2.1 hh_39.2.2.2.2.2.2.1 ?_
        exact C83 G_35 ((0 + ((m_qa_27 - n_pa) / 16)) + ((m_qa_35 - m_qa_27) / 16)) ((0 + (2 * (m_qa_27 - n_pa))) + (2 * (m_qa_35 - m_qa_27))) qc_35 qa_35 m_qa_35 _ _ hh_39 (hNn_35) ((hb_272).tr hb_352) hgq_35_0 (by first | omega | (refine ⟨?_, ?_, ?_, ?_, ?_, ?_, ?_⟩ <;> (first | omega | rfl | assumption | decide | exact Or.inl rfl | exact Or.inr rfl | (simp only; omega)))) _ (lv_sub hl [0, 1] rfl)
      · skip
        have c_24' : a1.toInt < 65536 := jb_ge_n (rfl) ((by decide)) c_24
        refine lv_aload_n hx hb dX0_character_41 rfl (lv_at hl 0 rfl) ?_
        refine lv_sipush (v := 224) hx hb dX0_character_42 (by decide) ?_
        refine lv_iload_n hx hb dX0_character_45 rfl (lv_at hl 1 rfl) ?_
        refine lv_bipush (v := 12) hx hb dX0_character_46 (by decide) ?_
        refine lv_ishr hx hb dX0_character_48 ?_
        refine lv_topi (fun z_40 ez_40 => ?_)
        have hz_40 : z_40.toInt = a1.toInt / 2 ^ 12 := by rw [ez_40]; exact jb_ishr 12 (rfl) (by decide)
        refine lv_ior hx hb dX0_character_49 ?_
        refine lv_topi (fun z_41 ez_41 => ?_)
        have hsz_42 := hh_1.2.2.2.2.2.1
        have htt_42 := hh_1.2.2.2.2.2.2.1
        refine W.room (fun hrc_42 hrs_42 => ?_)
        refine va_callv (A0 := jA base) (H0 := s.heap) (va_runV (As := [.int z_41]) (rest := []) ⟨hx, hb, hml, hown, hts⟩ (uX0_put l dC dI ca base B hB hAp hB2 hB196 G0 s.heap r0 z_41 pc pa n_pa LC LS) (cwV 1 hts (jgV (jWr_24 _ (List.mem_of_getElem? (i := 22) rfl)) (jWr_16 _ (List.mem_of_getElem? (i := 0) rfl)) (jWr_16 _ (List.mem_of_getElem? (i := 1) rfl)) (jWr_1 _ (List.mem_of_getElem? (i := 14) rfl)) (jWr_16 _ (List.mem_of_getElem? (i := 2) rfl))) rfl rfl rfl (by decide +kernel) ⟨by rw [← hR]; exact Nat.le_of_ble_eq_true rfl, by rw [← hR]; exact Nat.le_of_ble_eq_true rfl⟩) ⟨fun a U g mk q => by obtain ⟨q0, q1, q2, qK, q10, q11, q12, q13⟩ := q; exact ⟨q0, q1, q2, jG.calling g mk a qK, q10, q11, q12, q13⟩, hh_1.recv (C := RX0) (T := TX0) (N := 2) hB2 rfl (by decide) hg_r0 hK, fun U hU hW => ⟨rfl, hU, hh_1.2.1, hG.step hW hU hh_1.1, hg_r0, hg_pa, (hh_1.2.2.1.sub (L1 := [(r0, 2, 1, .int pc), (r0, 2, 0, .ref pa)]) [0, 1] rfl), (by omega), (by omega), by first | omega | (refine ⟨?_, ?_, ?_, ?_, ?_⟩ <;> (first | omega | rfl | assumption | decide | exact Or.inl rfl | exact Or.inr rfl | (simp only; omega)))⟩⟩ rfl rfl hl.1 rfl (lv_room (Nat.le_of_ble_eq_true rfl)) dX0_character_50 ⟨by rw [hRc]; omega, by rw [hRs]; omega⟩) hh_1.1 (fun q _ h => h) (fun q h => h) (fun u_42 t_42 H_42 locs_42 ht_42 hvm_42 hr_43 hb_42 hz_42 hk_42 hS_42 => ?_)
        obtain ⟨qc_42, qa_42, m_qa_42, G_42⟩ := u_42
        rw [ht_42] at hb_42
        simp only at hb_42
        obtain ⟨⟨hb_421, hb_422, hb_423, hb_424, hb_425, hb_426⟩, hgq_42_0, hN_42, hbO_42⟩ := hb_42
        have hh_42 : jSt (dC, dI) B base G0 G_42 EX0_character s.heap (0 + ((m_qa_42 - n_pa) / 16)) (0 + (2 * (m_qa_42 - n_pa))) [(r0, 2, 1, .int qc_42), (r0, 2, 0, .ref qa_42)] [] [] H_42 locs_42 := (hh_1.callG hb_421 hb_422 hb_423 hb_424 hb_425 hS_42 rfl (L1 := []) [] rfl rfl (M1 := []) [] rfl rfl (I1 := []) [] rfl rfl).more hb_426
        have hNn_42 : (jNk [0, 1, 2, 3, 4, 5, 6, 7, 8, 9, 10, 11, 12, 13, 14, 15, 16, 17, 175]) G0 G_42 := (jNk.rf).tr hN_42
        have hg_44 := hb_422 _ _ hg_r0
        have hd_45 := jOw.tr (hh_1.iv 0 rfl) hh_1.2.2.2.2.1 hbO_42
        have hh_46 := hh_42.addI (jOw.ie (dC := dC) (dI := dI) (G0 := G0) (k := 2) (r := r0) (H0 := s.heap) (F := [(2, 0), (2, 1)]) (C := RX0) (T := TX0) (N := 2) rfl (by decide) hh_42.2.2.2.2.1 (hd_45))
        clear hh_42
        try simp only at hr_43
        obtain ⟨hr_43_0, hr_43_1, hr_43_2, hr_43_3, hr_43_4⟩ := hr_43
        refine lv_goto (tgt := 83) hx hb dX0_character_53 (by decide) ?_
        refine W.tight (c2 := (0 + ((m_qa_42 - n_pa) / 16))) (n2 := (0 + (2 * (m_qa_42 - n_pa)))) hh_46.2.2.2.2.2.1 hh_46.2.2.2.2.2.2.1 ?_
        exact C83 G_42 (0 + ((m_qa_42 - n_pa) / 16)) (0 + (2 * (m_qa_42 - n_pa))) qc_42 qa_42 m_qa_42 _ _ hh_46 (hNn_42) (hb_422) hgq_42_0 (by first | omega | (refine ⟨?_, ?_, ?_, ?_, ?_, ?_, ?_⟩ <;> (first | omega | rfl | assumption | decide | exact Or.inl rfl | exact Or.inr rfl | (simp only; omega)))) _ (lv_sub hl [0, 1] rfl)
    · skip
      have c_13' : a1.toInt < 2048 := jb_ge_n (rfl) ((by decide)) c_13
      refine lv_aload_n hx hb dX0_character_20 rfl (lv_at hl 0 rfl) ?_
      refine lv_sipush (v := 192) hx hb dX0_character_21 (by decide) ?_
      refine lv_iload_n hx hb dX0_character_24 rfl (lv_at hl 1 rfl) ?_
      refine lv_bipush (v := 6) hx hb dX0_character_25 (by decide) ?_
      refine lv_ishr hx hb dX0_character_27 ?_
      refine lv_topi (fun z_47 ez_47 => ?_)
      have hz_47 : z_47.toInt = a1.toInt / 2 ^ 6 := by rw [ez_47]; exact jb_ishr 6 (rfl) (by decide)
      refine lv_ior hx hb dX0_character_28 ?_
      refine lv_topi (fun z_48 ez_48 => ?_)
      have hsz_49 := hh_1.2.2.2.2.2.1
      have htt_49 := hh_1.2.2.2.2.2.2.1
      refine W.room (fun hrc_49 hrs_49 => ?_)
      refine va_callv (A0 := jA base) (H0 := s.heap) (va_runV (As := [.int z_48]) (rest := []) ⟨hx, hb, hml, hown, hts⟩ (uX0_put l dC dI ca base B hB hAp hB2 hB196 G0 s.heap r0 z_48 pc pa n_pa LC LS) (cwV 1 hts (jgV (jWr_24 _ (List.mem_of_getElem? (i := 22) rfl)) (jWr_16 _ (List.mem_of_getElem? (i := 0) rfl)) (jWr_16 _ (List.mem_of_getElem? (i := 1) rfl)) (jWr_1 _ (List.mem_of_getElem? (i := 14) rfl)) (jWr_16 _ (List.mem_of_getElem? (i := 2) rfl))) rfl rfl rfl (by decide +kernel) ⟨by rw [← hR]; exact Nat.le_of_ble_eq_true rfl, by rw [← hR]; exact Nat.le_of_ble_eq_true rfl⟩) ⟨fun a U g mk q => by obtain ⟨q0, q1, q2, qK, q10, q11, q12, q13⟩ := q; exact ⟨q0, q1, q2, jG.calling g mk a qK, q10, q11, q12, q13⟩, hh_1.recv (C := RX0) (T := TX0) (N := 2) hB2 rfl (by decide) hg_r0 hK, fun U hU hW => ⟨rfl, hU, hh_1.2.1, hG.step hW hU hh_1.1, hg_r0, hg_pa, (hh_1.2.2.1.sub (L1 := [(r0, 2, 1, .int pc), (r0, 2, 0, .ref pa)]) [0, 1] rfl), (by omega), (by omega), by first | omega | (refine ⟨?_, ?_, ?_, ?_, ?_⟩ <;> (first | omega | rfl | assumption | decide | exact Or.inl rfl | exact Or.inr rfl | (simp only; omega)))⟩⟩ rfl rfl hl.1 rfl (lv_room (Nat.le_of_ble_eq_true rfl)) dX0_character_29 ⟨by rw [hRc]; omega, by rw [hRs]; omega⟩) hh_1.1 (fun q _ h => h) (fun q h => h) (fun u_49 t_49 H_49 locs_49 ht_49 hvm_49 hr_50 hb_49 hz_49 hk_49 hS_49 => ?_)
      obtain ⟨qc_49, qa_49, m_qa_49, G_49⟩ := u_49
      rw [ht_49] at hb_49
      simp only at hb_49
      obtain ⟨⟨hb_491, hb_492, hb_493, hb_494, hb_495, hb_496⟩, hgq_49_0, hN_49, hbO_49⟩ := hb_49
      have hh_49 : jSt (dC, dI) B base G0 G_49 EX0_character s.heap (0 + ((m_qa_49 - n_pa) / 16)) (0 + (2 * (m_qa_49 - n_pa))) [(r0, 2, 1, .int qc_49), (r0, 2, 0, .ref qa_49)] [] [] H_49 locs_49 := (hh_1.callG hb_491 hb_492 hb_493 hb_494 hb_495 hS_49 rfl (L1 := []) [] rfl rfl (M1 := []) [] rfl rfl (I1 := []) [] rfl rfl).more hb_496
      have hNn_49 : (jNk [0, 1, 2, 3, 4, 5, 6, 7, 8, 9, 10, 11, 12, 13, 14, 15, 16, 17, 175]) G0 G_49 := (jNk.rf).tr hN_49
      have hg_51 := hb_492 _ _ hg_r0
      have hd_52 := jOw.tr (hh_1.iv 0 rfl) hh_1.2.2.2.2.1 hbO_49
      have hh_53 := hh_49.addI (jOw.ie (dC := dC) (dI := dI) (G0 := G0) (k := 2) (r := r0) (H0 := s.heap) (F := [(2, 0), (2, 1)]) (C := RX0) (T := TX0) (N := 2) rfl (by decide) hh_49.2.2.2.2.1 (hd_52))
      clear hh_49
      try simp only at hr_50
      obtain ⟨hr_50_0, hr_50_1, hr_50_2, hr_50_3, hr_50_4⟩ := hr_50
      refine lv_goto (tgt := 98) hx hb dX0_character_32 (by decide) ?_
      refine W.tight (c2 := (0 + ((m_qa_49 - n_pa) / 16))) (n2 := (0 + (2 * (m_qa_49 - n_pa)))) hh_53.2.2.2.2.2.1 hh_53.2.2.2.2.2.2.1 ?_
      exact C98 G_49 (0 + ((m_qa_49 - n_pa) / 16)) (0 + (2 * (m_qa_49 - n_pa))) qc_49 qa_49 m_qa_49 _ _ hh_53 (hNn_49) (hb_492) hgq_49_0 (by first | omega | (refine ⟨?_, ?_, ?_, ?_, ?_, ?_, ?_⟩ <;> (first | omega | rfl | assumption | decide | exact Or.inl rfl | exact Or.inr rfl | (simp only; omega)))) _ (lv_sub hl [0, 1] rfl)
  · skip
    have c_2' : a1.toInt < 128 := jb_ge_n (rfl) ((by decide)) c_2
    refine lv_aload_n hx hb dX0_character_7 rfl (lv_at hl 0 rfl) ?_
    refine lv_iload_n hx hb dX0_character_8 rfl (lv_at hl 1 rfl) ?_
    have hsz_54 := hh_1.2.2.2.2.2.1
    have htt_54 := hh_1.2.2.2.2.2.2.1
    refine W.room (fun hrc_54 hrs_54 => ?_)
    refine va_callv (A0 := jA base) (H0 := s.heap) (va_runV (As := [.int a1]) (rest := []) ⟨hx, hb, hml, hown, hts⟩ (uX0_put l dC dI ca base B hB hAp hB2 hB196 G0 s.heap r0 a1 pc pa n_pa LC LS) (cwV 1 hts (jgV (jWr_24 _ (List.mem_of_getElem? (i := 22) rfl)) (jWr_16 _ (List.mem_of_getElem? (i := 0) rfl)) (jWr_16 _ (List.mem_of_getElem? (i := 1) rfl)) (jWr_1 _ (List.mem_of_getElem? (i := 14) rfl)) (jWr_16 _ (List.mem_of_getElem? (i := 2) rfl))) rfl rfl rfl (by decide +kernel) ⟨by rw [← hR]; exact Nat.le_of_ble_eq_true rfl, by rw [← hR]; exact Nat.le_of_ble_eq_true rfl⟩) ⟨fun a U g mk q => by obtain ⟨q0, q1, q2, qK, q10, q11, q12, q13⟩ := q; exact ⟨q0, q1, q2, jG.calling g mk a qK, q10, q11, q12, q13⟩, hh_1.recv (C := RX0) (T := TX0) (N := 2) hB2 rfl (by decide) hg_r0 hK, fun U hU hW => ⟨rfl, hU, hh_1.2.1, hG.step hW hU hh_1.1, hg_r0, hg_pa, (hh_1.2.2.1.sub (L1 := [(r0, 2, 1, .int pc), (r0, 2, 0, .ref pa)]) [0, 1] rfl), (by omega), (by omega), by first | omega | (refine ⟨?_, ?_, ?_, ?_, ?_⟩ <;> (first | omega | rfl | assumption | decide | exact Or.inl rfl | exact Or.inr rfl | (simp only; omega)))⟩⟩ rfl rfl hl.1 rfl (lv_room (Nat.le_of_ble_eq_true rfl)) dX0_character_9 ⟨by rw [hRc]; omega, by rw [hRs]; omega⟩) hh_1.1 (fun q _ h => h) (fun q h => h) (fun u_54 t_54 H_54 locs_54 ht_54 hvm_54 hr_55 hb_54 hz_54 hk_54 hS_54 => ?_)
    obtain ⟨qc_54, qa_54, m_qa_54, G_54⟩ := u_54
    rw [ht_54] at hb_54
    simp only at hb_54
    obtain ⟨⟨hb_541, hb_542, hb_543, hb_544, hb_545, hb_546⟩, hgq_54_0, hN_54, hbO_54⟩ := hb_54
    have hh_54 : jSt (dC, dI) B base G0 G_54 EX0_character s.heap (0 + ((m_qa_54 - n_pa) / 16)) (0 + (2 * (m_qa_54 - n_pa))) [(r0, 2, 1, .int qc_54), (r0, 2, 0, .ref qa_54)] [] [] H_54 locs_54 := (hh_1.callG hb_541 hb_542 hb_543 hb_544 hb_545 hS_54 rfl (L1 := []) [] rfl rfl (M1 := []) [] rfl rfl (I1 := []) [] rfl rfl).more hb_546
    have hNn_54 : (jNk [0, 1, 2, 3, 4, 5, 6, 7, 8, 9, 10, 11, 12, 13, 14, 15, 16, 17, 175]) G0 G_54 := (jNk.rf).tr hN_54
    have hg_56 := hb_542 _ _ hg_r0
    have hd_57 := jOw.tr (hh_1.iv 0 rfl) hh_1.2.2.2.2.1 hbO_54
    have hh_58 := hh_54.addI (jOw.ie (dC := dC) (dI := dI) (G0 := G0) (k := 2) (r := r0) (H0 := s.heap) (F := [(2, 0), (2, 1)]) (C := RX0) (T := TX0) (N := 2) rfl (by decide) hh_54.2.2.2.2.1 (hd_57))
    clear hh_54
    try simp only at hr_55
    obtain ⟨hr_55_0, hr_55_1, hr_55_2, hr_55_3, hr_55_4⟩ := hr_55
    have hsz_59 := hh_58.2.2.2.2.2.1
    have htt_59 := hh_58.2.2.2.2.2.2.1
    refine W.room (fun hrc_59 hrs_59 => ?_)
    refine W.widen (k := LC - s.heap.size) (n := LS - jTot s.heap) (by omega) (by omega) ?_
    rw [hQ]
    exact W.vret hx hb hr (fun t ht hW => ⟨⟨(qc_54, qa_54, m_qa_54, G_54), rfl, by (try dsimp only); exact ⟨(by first | omega | rfl | assumption | fail), (by first | omega | rfl | assumption | fail), (by first | omega | rfl | assumption | fail), (by first | omega | rfl | assumption | fail), (by first | assumption | fail | omega)⟩, ⟨hh_58.ra (by first | omega | (simp only; omega)) (by first | omega | (simp only; omega)) (M1 := [(r0, 2, 1, .int qc_54), (r0, 2, 0, .ref qa_54)]) [0, 1] rfl ht, hgq_54_0, hNn_54, by rw [ht]; exact hh_58.iv 0 rfl⟩⟩, by rw [ht]; try exact hh_58.1.1, fun q h9 hq => by rw [ht]; try exact hh_58.1.2.1 q h9 hq⟩) hh_58.1.2.2 dX0_character_12
end
