section
-- p8: the class's scheduler as one entry: S, Z
section J9I
variable {dC : Nat → ClassId} {dI : Nat → Nat → Nat} {ca : Nat → ClassId} {G G1 : jT} {H : Heap} {r : Nat} {S : Int × (Int → jdD)} {Z : jwSt}
end J9I
/-- a document is opened for its budget where its rows are told -/
theorem jDcc.opnC {dC : Nat → ClassId} {dI : Nat → Nat → Nat} {ca : Nat → ClassId} {G : jT} {ph a n y5 y6 : Nat} {H : Heap} {fb fe : Nat → Int32} (h : jDcc dC dI ca G none ph H) (ha : G a = some (3, n)) (p5 : jf (dC, dI) 3 a 5 (.ref y5) H) (vb : va_at (dC, dI) vwCl (y5, .inl (ca 1, 40, .inl fb)) H) (p6 : jf (dC, dI) 3 a 6 (.ref y6) H) (ve : va_at (dC, dI) vwCl (y6, .inl (ca 1, 40, .inl fe)) H) : ∃ (yb ye w ph1 : Nat) (ps pk : Int32) (vc : Value), G yb = some (171, 40) ∧ G ye = some (172, 40) ∧ jf (dC, dI) 3 a 5 (.ref yb) H ∧ jf (dC, dI) 3 a 6 (.ref ye) H ∧ jD3 dC dI ca G a yb ye fb fe ps pk vc H ∧ (n = 0 → jPo fe ps.toInt pk.toInt vc w) ∧ jDcc dC dI ca G (some a) ph1 H ∧ ph1 ≤ ph ∧ (n = 0 → ph1 + w ≤ ph) := by
  obtain ⟨yb, ye, w, ph1, fb1, fe1, ps, pk, vc, g1, g2, q5, q6, hD, hpo, hE, e1, e2⟩ := jDcc.opn h ha
  have z5 : yb = y5 := by have z := jf.uniq q5 p5; cases z; rfl
  have z6 : ye = y6 := by have z := jf.uniq q6 p6; cases z; rfl
  subst z5 z6
  obtain ⟨d1, d2, d3, d4⟩ := hD
  have m5 := (d2 _ List.mem_cons_self).2.2.2
  have m6 := (d2 _ (List.mem_cons_of_mem _ List.mem_cons_self)).2.2.2
  have k5 : ∀ k : Int, 0 ≤ k → k < 40 → jSo fb k = jSo fb1 k := fun k k0 k1 => congrArg Int32.toInt (jCt_eq (n := 40) vb m5 (j := k.toNat) (by omega))
  have k6 : ∀ k : Int, 0 ≤ k → k < 40 → jSo fe k = jSo fe1 k := fun k k0 k1 => congrArg Int32.toInt (jCt_eq (n := 40) ve m6 (j := k.toNat) (by omega))
  have hs : jSn fb fe ps.toInt 1500 := fun k k0 k1 => by
    have := d3 k k0 k1
    rw [k5 k k0 (by omega), k6 k k0 (by omega)]
    refine ⟨this.1, this.2.1, this.2.2.1, fun q => ?_⟩
    rw [k5 (k + 1) (by omega) (by omega)]
    exact this.2.2.2 q
  refine ⟨yb, ye, w, ph1, ps, pk, vc, g1, g2, q5, q6, ⟨d1, ?_, hs, d4⟩, fun e => ?_, hE, e1, e2⟩
  · exact jMc.con g1 (by decide) (by decide) vb (jMc.con g2 (by decide) (by decide) ve jMc.nil)
  · obtain ⟨r1, r2⟩ := hpo e
    refine ⟨r1, ?_⟩
    have kE : jEd fe pk.toInt = jEd fe1 pk.toInt := by
      unfold jEd
      by_cases c : pk.toInt ≤ 0
      · rw [if_pos c, if_pos c]
      · rw [if_neg c, if_neg c, k6 (pk.toInt - 1) (by omega) (by omega)]
    rcases r2 with ⟨c1, c2⟩ | ⟨c1, c2, c3⟩
    · exact Or.inl ⟨c1, by rw [kE]; exact c2⟩
    · exact Or.inr ⟨c1, c2, by rw [k6 pk.toInt (by omega) (by omega)]; exact c3⟩
end
section
-- p8: those that wait: who is ready, who asked about a document
theorem jzEi {W : List Nat} {i : Nat} : (W.eraseIdx i).take i = W.take i ∧ (W.eraseIdx i).drop i = W.drop (i + 1) := by
  by_cases q : i ≤ W.length
  · rw [List.eraseIdx_eq_take_drop_succ]
    have hl : (W.take i).length = i := by rw [List.length_take]; omega
    refine ⟨?_, ?_⟩
    · rw [List.take_append_of_le_length (by omega), List.take_take, Nat.min_self]
    · rw [List.drop_append_of_le_length (by omega), List.drop_take, Nat.sub_self, List.take_zero, List.nil_append]
  · rw [List.eraseIdx_of_length_le (by omega)]
    exact ⟨rfl, by rw [List.drop_of_length_le (by omega), List.drop_of_length_le (by omega)]⟩
theorem jzPs.d {p : Nat → Bool} {W0 W : List Nat} {v : Int} {a : Nat} (h : jzPs p W0 W v) (ha : W[v.toNat]? = some a) (hp : ¬ p a = true) : jzPs p W0 (W.eraseIdx v.toNat) v := by
  obtain ⟨h0, h1, h2, h3⟩ := h
  have hl := (List.getElem?_eq_some_iff.mp ha).1
  have hz : (W.eraseIdx v.toNat).length = W.length - 1 := by rw [List.length_eraseIdx, if_pos hl]
  refine ⟨h0, by omega, ?_, fun b hb => ?_⟩
  · rw [h2, jzDr ha, List.filter_cons_of_neg hp, jzEi.1, jzEi.2]
  · rw [jzEi.1] at hb; exact h3 b hb
end
section
def EX8_isReadyT : List (Nat × Nat) := []
def EX11_answerReadyT : List (Nat × Nat) := [(1, 0), (1, 2), (2, 0), (2, 1), (9, 2), (13, 14), (196, 0), (221, 0), (222, 0), (223, 0), (286, 0), (287, 0), (288, 0)]
set_option maxHeartbeats 4000000 in
set_option maxRecDepth 20000 in
theorem uX8_isReadyT (l : Launch) (dC : Nat → ClassId) (dI : Nat → Nat → Nat) (ca : Nat → ClassId) (base : Nat) (B : jF) (hB : jBok B) (hAp : jAp (dC, dI)) (hB3 : ∀ n G a H, B 3 n G a H ↔ jOb (dC, dI) 3 17 (F3 n G) a H) (hB10 : ∀ n G a H, B 10 n G a H ↔ jOb (dC, dI) 10 5 (F10 n G) a H) (hB11 : ∀ n G a H, B 11 n G a H ↔ jOb (dC, dI) 11 9 (F11 n G) a H) (hB171 : ∀ n G a H, B 171 n G a H ↔ jAr (dC, dI) (ca 1) (fun j z => 0 ≤ z.toInt ∧ z.toInt ≤ 1500) n a H) (hB172 : ∀ n G a H, B 172 n G a H ↔ jAr (dC, dI) (ca 1) (fun j z => 0 ≤ z.toInt ∧ z.toInt ≤ 1500) n a H) (hB176 : ∀ n G a H, B 176 n G a H ↔ jAr (dC, dI) (ca 1) (fun j z => True) n a H) (hB210 : ∀ n G a H, B 210 n G a H ↔ jAq (dC, dI) (ca 6) (jQn 11 0) n G a H) (G0 : jT) (H0 : Heap) (r0 : Nat) (kq : jKg) (qq : jRqG) : Met l yX8_isReady (jw yX8_isReady cX8_isReady 1 (some .boolean)) ({ frames := 0, cells := 0, slots := 0, locals := 0 }) (va_Pc [.ref r0] (fun U => U.heap = H0 ∧ jX B base G0 [] H0 ∧ jG dC dI ca base U ∧ G0 r0 = some (10, 0) ∧ jP (dC, dI) G0 H0 [] ∧ jIs (dC, dI) G0 H0 [(jFkd, jKD dC dI ca G0 none kq), (jFqd, jQD dC dI ca G0 none qq)] ∧ True)) (va_Qi (S := Unit) (fun r u => (r = 0 ∨ r = 1) ∧ (((r.toInt = 1 ∧ jzRd kq qq r0 = true) ∨ (r.toInt = 0 ∧ ¬ jzRd kq qq r0 = true)))) (fun u t => (jRt (dC, dI) B base G0 EX8_isReadyT H0 [] t.heap) ∧ jIs (dC, dI) G0 t.heap [(jFkd, jKD dC dI ca G0 none kq), (jFqd, jQD dC dI ca G0 none qq)]) (jA base)) 0 0 (jA base) := by
  refine Met.ofW (cc := cX8_isReady) (maxL := 1) (ret := (some .boolean)) (by decide) rfl ?_
  intro p e s m args below meth c s₁ Bd hml hv
  obtain ⟨rfl, hH0, hX, hG, hg_r0, hP0, hI0, hp0⟩ := hv
  have hK := hG.1
  have hx := Bd.exec
  have hb := Bd.bytes
  have hr := Bd.returns
  have hts := atoms_spec (ws := (jw yX8_isReady cX8_isReady 1 (some .boolean))) Bd.pre
  have htw : ∀ w ∈ jWl, w.before _ s = true := fun w h => hts w (List.mem_cons_of_mem _ h)
  have hown : s.vm.findClass RX8 = some m.cls := findClass_of_methodNamed Bd.named
  have hlocks := Bd.notSynchronized
  obtain ⟨Q, hQ⟩ : ∃ Q, Q = MQ below (va_Qi (S := Unit) (fun r u => (r = 0 ∨ r = 1) ∧ (((r.toInt = 1 ∧ jzRd kq qq r0 = true) ∨ (r.toInt = 0 ∧ ¬ jzRd kq qq r0 = true)))) (fun u t => (jRt (dC, dI) B base G0 EX8_isReadyT H0 [] t.heap) ∧ jIs (dC, dI) G0 t.heap [(jFkd, jKD dC dI ca G0 none kq), (jFqd, jQD dC dI ca G0 none qq)]) (jA base)) ([.ref r0] : List Value).toArray s 0 0 (jA base) := ⟨_, rfl⟩
  rw [← hQ]
  have hl := lv_entry ([.ref r0]) (n := 1) (Nat.le_of_ble_eq_true rfl)
  rw [lg_entry_eq]
  generalize (lg_sl ([.ref r0]) ++ List.replicate (1 - (lg_sl ([.ref r0])).length) Slot.unset).toArray = ls at hl ⊢
  have hl : lv_has ls 1 [(0, .ref r0)] := hl
  generalize hR : (headSpec (jw yX8_isReady cX8_isReady 1 (some .boolean)) ({ frames := 0, cells := 0, slots := 0, locals := 0 })).room = R
  subst hH0
  have hh : jSt (dC, dI) B base G0 G0 EX8_isReadyT s.heap 0 0 [] [] [(jFkd, jKD dC dI ca G0 none kq), (jFqd, jQD dC dI ca G0 none qq)] s.heap [] := jSt.start hX hP0 jMc.nil hI0
  clear hX hP0
  have hk0 : (0 : Int32).toInt = 0 := by decide
  have hk1 : (1 : Int32).toInt = 1 := by decide
  have hly_3_10 := htw (u_lay RX1 TX1 10) (jWc_wsX10 _ (u_in_lay (by decide)))
  have hly_10_1 := htw (u_lay RX8 TX8 1) (jWc_wsX80 _ (u_in_lay (by decide)))
  have hly_10_2 := htw (u_lay RX8 TX8 2) (jWc_wsX80 _ (u_in_lay (by decide)))
  have hlk_47 := (htw (.fieldLink RX8 47 "ProofServer$Request" "about" "LProofServer$Document;") (jWr_29 _ (List.mem_of_getElem? (i := 23) rfl)))
  have hlk_51 := (htw (.fieldLink RX8 51 "ProofServer$Document" "checked" "I") (jWr_30 _ (List.mem_of_getElem? (i := 0) rfl)))
  have hlk_56 := (htw (.fieldLink RX8 56 "ProofServer$Request" "needed" "I") (jWr_30 _ (List.mem_of_getElem? (i := 1) rfl)))
  obtain ⟨hgP_1, hgM_1⟩ := jQD.at (ca := ca) (hh.iv 1 rfl) hg_r0 (fun q => by cases q)
  have hh_2 := ((hh.sub (L1 := []) [] rfl (M1 := []) [] rfl (I1 := [(jFkd, jKD dC dI ca G0 none kq), (jFqd, jQD dC dI ca G0 none qq)]) [0, 1] rfl).more (hgP_1.sub (L1 := [(r0, 10, 2, .int (qq.nd r0)), (r0, 10, 0, (qq.iv r0)), (r0, 10, 1, (qq.ab r0))]) [0, 1, 2] rfl)).moreM hgM_1
  clear hh
  refine lv_aload_n hx hb dX8_isReady_0 rfl (lv_at hl 0 rfl) ?_
  have hwf_3 := hh_2.at 2 rfl
  have hh_4 := hh_2.sub (L1 := [(r0, 10, 2, .int (qq.nd r0)), (r0, 10, 0, (qq.iv r0))]) [0, 1] rfl (M1 := []) [] rfl (I1 := [(jFkd, jKD dC dI ca G0 none kq), (jFqd, jQD dC dI ca G0 none qq)]) [0, 1] rfl
  clear hh_2
  obtain ⟨v_5, hv_5, hh_6⟩ := hh_4.pin (C := RX8) (T := TX8) (N := 5) hB10 rfl (by decide) hg_r0 (i := 1) (by decide) rfl
  clear hh_4
  have hwe1 : (qq.ab r0) = v_5 := jf.uniq hwf_3 (hh_6.at 0 rfl)
  clear hwf_3
  rcases hv_5 with rfl | ⟨about_7, rfl, hg_about_7⟩
  · refine j7_read hx hb hown hK (C := RX8) (T := TX8) (N := 5) rfl hly_10_1 hlk_47 (hh_6.at 0 rfl) dX8_isReady_1 ?_
    refine lv_ifnullN (tgt := 21) hx hb dX8_isReady_4 (by decide) ?_
    refine lv_iconst (v := 1) hx hb dX8_isReady_21 (by decide) ?_
    refine lv_goto (tgt := 26) hx hb dX8_isReady_22 (by decide) ?_
    rw [hQ]
    exact W.zret (v := 1) hx hb hr (jb_nz (Or.inr rfl)) (fun t ht hW => ⟨⟨1, (), rfl, ⟨(Or.inr rfl), by first | exact Or.inl ⟨hk1, jzRd.n hwe1⟩ | exact Or.inl ⟨hk1, by rw [jzRd.r hwe1]; exact decide_eq_true (by omega)⟩ | exact Or.inr ⟨hk0, by rw [jzRd.r hwe1]; exact fun q9 => by have q8 := of_decide_eq_true q9; omega⟩⟩, ⟨hh_6.rt (M1 := []) [] rfl ht, by rw [ht]; exact hh_6.2.2.2.2.2.2.2.2.sub (L1 := [(jFkd, jKD dC dI ca G0 none kq), (jFqd, jQD dC dI ca G0 none qq)]) [0, 1] rfl⟩⟩, by rw [ht]; try exact hh_6.1.1, fun q h9 hq => by rw [ht]; try exact hh_6.1.2.1 q h9 hq⟩) hh_6.1.2.2 dX8_isReady_26
  · refine j7_read hx hb hown hK (C := RX8) (T := TX8) (N := 5) rfl hly_10_1 hlk_47 (hh_6.at 0 rfl) dX8_isReady_1 ?_
    refine lv_ifnull hx hb dX8_isReady_4 ?_
    refine lv_aload_n hx hb dX8_isReady_7 rfl (lv_at hl 0 rfl) ?_
    refine j7_read hx hb hown hK (C := RX8) (T := TX8) (N := 5) rfl hly_10_1 hlk_47 (hh_6.at 0 rfl) dX8_isReady_8 ?_
    obtain ⟨ysb_8, yse_8, ysc_8, ybh_8, hgsb_8, hgse_8, hgsc_8, hgbh_8, hgP_8, hgM_8, hqbh_8⟩ := jKD.at (ca := ca) (hh_6.iv 0 rfl) hg_about_7 (fun q => by cases q)
    have hh_9 := ((hh_6.sub (L1 := [(r0, 10, 1, .ref about_7), (r0, 10, 2, .int (qq.nd r0)), (r0, 10, 0, (qq.iv r0))]) [0, 1, 2] rfl (M1 := []) [] rfl (I1 := [(jFkd, jKD dC dI ca G0 none kq), (jFqd, jQD dC dI ca G0 none qq)]) [0, 1] rfl).more (hgP_8.sub (L1 := [(about_7, 3, 5, .ref ysb_8), (about_7, 3, 6, .ref yse_8), (about_7, 3, 7, .ref ysc_8), (about_7, 3, 9, .ref ybh_8), (about_7, 3, 4, .int (kq.sn about_7)), (about_7, 3, 10, .int (kq.ck about_7)), (about_7, 3, 13, .int (kq.lf about_7)), (about_7, 3, 11, (kq.cv about_7)), (about_7, 3, 12, (kq.fv about_7))]) [0, 1, 2, 3, 4, 5, 6, 7, 8] rfl)).moreM hgM_8
    clear hh_6
    have hh_10 := hh_9.addI (jQc.ie hqbh_8 hgbh_8 (by decide) (by decide))
    clear hh_9
    refine j7_read hx hb hown hK (C := RX1) (T := TX1) (N := 17) rfl hly_3_10 hlk_51 (hh_10.at 5 rfl) dX8_isReady_11 ?_
    refine lv_aload_n hx hb dX8_isReady_14 rfl (lv_at hl 0 rfl) ?_
    refine j7_read hx hb hown hK (C := RX8) (T := TX8) (N := 5) rfl hly_10_2 hlk_56 (hh_10.at 10 rfl) dX8_isReady_15 ?_
    refine lv_icmp_lt (tgt := 25) hx hb dX8_isReady_18 (by decide) (fun c_11 => ?_) (fun c_11 => ?_)
    · skip
      have c_11' : (kq.ck about_7).toInt < (qq.nd r0).toInt := jb_lt (rfl) (rfl) c_11
      refine lv_iconst (v := 0) hx hb dX8_isReady_25 (by decide) ?_
      rw [hQ]
      exact W.zret (v := 0) hx hb hr (jb_nz (Or.inl rfl)) (fun t ht hW => ⟨⟨0, (), rfl, ⟨(Or.inl rfl), by first | exact Or.inl ⟨hk1, jzRd.n hwe1⟩ | exact Or.inl ⟨hk1, by rw [jzRd.r hwe1]; exact decide_eq_true (by omega)⟩ | exact Or.inr ⟨hk0, by rw [jzRd.r hwe1]; exact fun q9 => by have q8 := of_decide_eq_true q9; omega⟩⟩, ⟨hh_10.rt (M1 := []) [] rfl ht, by rw [ht]; exact hh_10.2.2.2.2.2.2.2.2.sub (L1 := [(jFkd, jKD dC dI ca G0 none kq), (jFqd, jQD dC dI ca G0 none qq)]) [1, 2] rfl⟩⟩, by rw [ht]; try exact hh_10.1.1, fun q h9 hq => by rw [ht]; try exact hh_10.1.2.1 q h9 hq⟩) hh_10.1.2.2 dX8_isReady_26
    · skip
      have c_11' : (kq.ck about_7).toInt ≥ (qq.nd r0).toInt := jb_lt_n (rfl) (rfl) c_11
      refine lv_iconst (v := 1) hx hb dX8_isReady_21 (by decide) ?_
      refine lv_goto (tgt := 26) hx hb dX8_isReady_22 (by decide) ?_
      rw [hQ]
      exact W.zret (v := 1) hx hb hr (jb_nz (Or.inr rfl)) (fun t ht hW => ⟨⟨1, (), rfl, ⟨(Or.inr rfl), by first | exact Or.inl ⟨hk1, jzRd.n hwe1⟩ | exact Or.inl ⟨hk1, by rw [jzRd.r hwe1]; exact decide_eq_true (by omega)⟩ | exact Or.inr ⟨hk0, by rw [jzRd.r hwe1]; exact fun q9 => by have q8 := of_decide_eq_true q9; omega⟩⟩, ⟨hh_10.rt (M1 := []) [] rfl ht, by rw [ht]; exact hh_10.2.2.2.2.2.2.2.2.sub (L1 := [(jFkd, jKD dC dI ca G0 none kq), (jFqd, jQD dC dI ca G0 none qq)]) [1, 2] rfl⟩⟩, by rw [ht]; try exact hh_10.1.1, fun q h9 hq => by rw [ht]; try exact hh_10.1.2.1 q h9 hq⟩) hh_10.1.2.2 dX8_isReady_26
set_option maxHeartbeats 4000000 in
set_option maxRecDepth 20000 in
theorem uX11_answerReadyT (l : Launch) (dC : Nat → ClassId) (dI : Nat → Nat → Nat) (ca : Nat → ClassId) (base : Nat) (B : jF) (hB : jBok B) (hAp : jAp (dC, dI)) (hB1 : ∀ n G a H, B 1 n G a H ↔ jOb (dC, dI) 1 3 (F1 n G) a H) (hB2 : ∀ n G a H, B 2 n G a H ↔ jOb (dC, dI) 2 2 (F2 n G) a H) (hB3 : ∀ n G a H, B 3 n G a H ↔ jOb (dC, dI) 3 17 (F3 n G) a H) (hB4 : ∀ n G a H, B 4 n G a H ↔ jOb (dC, dI) 4 12 (F4 n G) a H) (hB5 : ∀ n G a H, B 5 n G a H ↔ jOb (dC, dI) 5 4 (F5 n G) a H) (hB7 : ∀ n G a H, B 7 n G a H ↔ jOb (dC, dI) 7 11 (F7 n G) a H) (hB8 : ∀ n G a H, B 8 n G a H ↔ jOb (dC, dI) 8 4 (F8 n G) a H) (hB9 : ∀ n G a H, B 9 n G a H ↔ jOb (dC, dI) 9 5 (F9b n G) a H) (hB10 : ∀ n G a H, B 10 n G a H ↔ jOb (dC, dI) 10 5 (F10 n G) a H) (hB11 : ∀ n G a H, B 11 n G a H ↔ jOb (dC, dI) 11 9 (F11 n G) a H) (hB13 : ∀ n G a H, B 13 n G a H ↔ jOb (dC, dI) 13 19 (F13 n G) a H) (hB17 : ∀ n G a H, B 17 n G a H ↔ jOb (dC, dI) 17 2 (F17 n G) a H) (hB101 : ∀ n G a H, B 101 n G a H ↔ jAr (dC, dI) (ca 1) (fun j z => True) n a H) (hB102 : ∀ n G a H, B 102 n G a H ↔ jAl (dC, dI) (ca 2) n a H) (hB132 : ∀ n G a H, B 132 n G a H ↔ jAr (dC, dI) (ca 1) (fun j z => 0 ≤ z.toInt ∧ z.toInt ≤ 10) n a H) (hB171 : ∀ n G a H, B 171 n G a H ↔ jAr (dC, dI) (ca 1) (fun j z => 0 ≤ z.toInt ∧ z.toInt ≤ 1500) n a H) (hB172 : ∀ n G a H, B 172 n G a H ↔ jAr (dC, dI) (ca 1) (fun j z => 0 ≤ z.toInt ∧ z.toInt ≤ 1500) n a H) (hB176 : ∀ n G a H, B 176 n G a H ↔ jAr (dC, dI) (ca 1) (fun j z => True) n a H) (hB196 : ∀ n G a H, B 196 n G a H ↔ jAr (dC, dI) (ca 0) (fun j z => jBf j z) n a H) (hB199 : ∀ n G a H, B 199 n G a H ↔ jAr (dC, dI) (ca 0) (fun j z => jBf j z) n a H) (hB210 : ∀ n G a H, B 210 n G a H ↔ jAq (dC, dI) (ca 6) (jQn 11 0) n G a H) (hB214 : ∀ n G a H, B 214 n G a H ↔ jAq (dC, dI) (ca 7) (jQg) n G a H) (hB222 : ∀ n G a H, B 222 n G a H ↔ jAq (dC, dI) (ca 9) (jQn 10 0) n G a H) (hB280 : ∀ n G a H, B 280 n G a H ↔ jAr (dC, dI) (ca 1) (fun j z => -1 ≤ z.toInt) n a H) (hB286 : ∀ n G a H, B 286 n G a H ↔ jAr (dC, dI) (ca 1) (fun j z => (0 ≤ z.toInt ∨ z.toInt = -3)) n a H) (hB287 : ∀ n G a H, B 287 n G a H ↔ jAr (dC, dI) (ca 1) (fun j z => 0 ≤ z.toInt ∧ z.toInt ≤ 65535) n a H) (hB288 : ∀ n G a H, B 288 n G a H ↔ jAr (dC, dI) (ca 1) (fun j z => 0 ≤ z.toInt ∧ z.toInt ≤ 160) n a H) (hB313 : ∀ n G a H, B 313 n G a H ↔ jAq (dC, dI) (ca 8) (jQk 280 80) n G a H) (G0 : jT) (H0 : Heap) (r0 : Nat) (bo : Nat) (pc : Int32) (pa : Nat) (n_pa : Nat) (ou : Nat) (wt_ : Nat) (wz : Int32) (wl : jWl9) (kq : jKg) (qq : jRqG) (LC LS : Nat) : Met l yX11_answerReady (jw yX11_answerReady cX11_answerReady 3 none) ({ frames := 8, cells := LC - H0.size, slots := LS - jTot H0, locals := 241 }) (va_Pc [.ref r0] (fun U => U.heap = H0 ∧ jX B base G0 [] H0 ∧ jG dC dI ca base U ∧ jK2 dC dI ca U ∧ jK5 dC dI ca U ∧ jK7 dC dI ca base U ∧ G0 r0 = some (13, 0) ∧ G0 bo = some (2, 0) ∧ G0 pa = some (196, n_pa) ∧ G0 ou = some (2, 20000) ∧ G0 wt_ = some (1, 2) ∧ jP (dC, dI) G0 H0 [(r0, 13, 4, .ref bo), (bo, 2, 1, .int pc), (bo, 2, 0, .ref pa), (r0, 13, 3, .ref ou), (r0, 13, 8, .ref wt_), (wt_, 1, 2, .int wz)] ∧ jIs (dC, dI) G0 H0 [(jFy, jYb dC dI G0), (jFs11, jSef dC dI G0), (jFl, jLs dC dI ca G0 3 none wl), (jFkd, jKD dC dI ca G0 none kq), (jFqd, jQD dC dI ca G0 none qq)] ∧ H0.size + (1048576 - n_pa) / 16 + 1 ≤ LC ∧ jTot H0 + 2 * (1048576 - n_pa) ≤ LS ∧ 0 ≤ pc.toInt ∧ pc.toInt ≤ n_pa ∧ 16 ≤ n_pa ∧ n_pa ≤ 1048576 ∧ jPw n_pa)) (va_Qv (S := Int32 × Int32 × Nat × Nat × jWl9 × jT) (fun u => 0 ≤ u.1.toInt ∧ u.1.toInt ≤ u.2.2.2.1 ∧ n_pa ≤ u.2.2.2.1 ∧ u.2.2.2.1 ≤ 1048576 ∧ jPw u.2.2.2.1 ∧ u.2.2.2.2.1 = wl.s2 (wl.2.2.1.filter (fun x => !jzRd kq qq x))) (fun u t => jRa (dC, dI) B base G0 u.2.2.2.2.2 EX11_answerReadyT H0 ((u.2.2.2.1 - n_pa) / 16) (2 * (u.2.2.2.1 - n_pa)) [(bo, 2, 1, .int u.1), (wt_, 1, 2, .int u.2.1), (bo, 2, 0, .ref u.2.2.1)] t.heap ∧ u.2.2.2.2.2 u.2.2.1 = some (196, u.2.2.2.1) ∧ (jNk [0, 1, 2, 3, 4, 5, 6, 7, 8, 9, 10, 11, 12, 13, 14, 15, 16, 17, 175]) G0 u.2.2.2.2.2 ∧ jOl (dC, dI) G0 2 [bo, ou] H0 t.heap ∧ jIs (dC, dI) u.2.2.2.2.2 t.heap [(jFy, jYb dC dI u.2.2.2.2.2), (jFs11, jSef dC dI u.2.2.2.2.2), (jFl, jLs dC dI ca u.2.2.2.2.2 3 none (u.2.2.2.2.1)), (jFkd, jKD dC dI ca u.2.2.2.2.2 none kq), (jFqd, jQD dC dI ca u.2.2.2.2.2 none qq)]) (jA base)) (LC - H0.size) (LS - jTot H0) (jA base) := by
  refine Met.ofW (cc := cX11_answerReady) (maxL := 3) (ret := none) (by decide) rfl ?_
  intro p e s m args below meth c s₁ Bd hml hv
  obtain ⟨rfl, hH0, hX, hG, hK2, hK5, hK7, hg_r0, hg_bo, hg_pa, hg_ou, hg_wt_, hP0, hI0, hLC0, hLS0, hp0, hp1, hp2, hp3, hp4⟩ := hv
  have hK := hG.1
  have hx := Bd.exec
  have hb := Bd.bytes
  have hr := Bd.returns
  have hts := atoms_spec (ws := (jw yX11_answerReady cX11_answerReady 3 none)) Bd.pre
  have htw : ∀ w ∈ jWl, w.before _ s = true := fun w h => hts w (List.mem_cons_of_mem _ h)
  have hown : s.vm.findClass RX11 = some m.cls := findClass_of_methodNamed Bd.named
  have hlocks := Bd.notSynchronized
  obtain ⟨Q, hQ⟩ : ∃ Q, Q = MQ below (va_Qv (S := Int32 × Int32 × Nat × Nat × jWl9 × jT) (fun u => 0 ≤ u.1.toInt ∧ u.1.toInt ≤ u.2.2.2.1 ∧ n_pa ≤ u.2.2.2.1 ∧ u.2.2.2.1 ≤ 1048576 ∧ jPw u.2.2.2.1 ∧ u.2.2.2.2.1 = wl.s2 (wl.2.2.1.filter (fun x => !jzRd kq qq x))) (fun u t => jRa (dC, dI) B base G0 u.2.2.2.2.2 EX11_answerReadyT H0 ((u.2.2.2.1 - n_pa) / 16) (2 * (u.2.2.2.1 - n_pa)) [(bo, 2, 1, .int u.1), (wt_, 1, 2, .int u.2.1), (bo, 2, 0, .ref u.2.2.1)] t.heap ∧ u.2.2.2.2.2 u.2.2.1 = some (196, u.2.2.2.1) ∧ (jNk [0, 1, 2, 3, 4, 5, 6, 7, 8, 9, 10, 11, 12, 13, 14, 15, 16, 17, 175]) G0 u.2.2.2.2.2 ∧ jOl (dC, dI) G0 2 [bo, ou] H0 t.heap ∧ jIs (dC, dI) u.2.2.2.2.2 t.heap [(jFy, jYb dC dI u.2.2.2.2.2), (jFs11, jSef dC dI u.2.2.2.2.2), (jFl, jLs dC dI ca u.2.2.2.2.2 3 none (u.2.2.2.2.1)), (jFkd, jKD dC dI ca u.2.2.2.2.2 none kq), (jFqd, jQD dC dI ca u.2.2.2.2.2 none qq)]) (jA base)) ([.ref r0] : List Value).toArray s (LC - H0.size) (LS - jTot H0) (jA base) := ⟨_, rfl⟩
  rw [← hQ]
  have hl := lv_entry ([.ref r0]) (n := 3) (Nat.le_of_ble_eq_true rfl)
  rw [lg_entry_eq]
  generalize (lg_sl ([.ref r0]) ++ List.replicate (3 - (lg_sl ([.ref r0])).length) Slot.unset).toArray = ls at hl ⊢
  have hl : lv_has ls 3 [(0, .ref r0)] := hl
  generalize hR : (headSpec (jw yX11_answerReady cX11_answerReady 3 none) ({ frames := 8, cells := LC - H0.size, slots := LS - jTot H0, locals := 241 })).room = R
  subst hH0
  have hh : jSt (dC, dI) B base G0 G0 EX11_answerReadyT s.heap 0 0 [(r0, 13, 4, .ref bo), (bo, 2, 1, .int pc), (bo, 2, 0, .ref pa), (r0, 13, 3, .ref ou), (r0, 13, 8, .ref wt_), (wt_, 1, 2, .int wz)] [] [(jFy, jYb dC dI G0), (jFs11, jSef dC dI G0), (jFl, jLs dC dI ca G0 3 none wl), (jFkd, jKD dC dI ca G0 none kq), (jFqd, jQD dC dI ca G0 none qq)] s.heap [] := jSt.start hX hP0 jMc.nil hI0
  clear hX hP0
  have hk0 : (0 : Int32).toInt = 0 := by decide
  have hk1 : (1 : Int32).toInt = 1 := by decide
  have hk12 : (12 : Int32).toInt = 12 := by decide
  have hly_13_8 := htw (u_lay RX11 TX11 8) (jWc_wsX110 _ (u_in_lay (by decide)))
  have hlk_65 := (htw (.fieldLink RX11 65 "ProofServer" "waiting" "Ljava/util/List;") (jWr_2 _ (List.mem_of_getElem? (i := 15) rfl)))
  have hbs : base ≤ s.heap.size := Nat.le_of_lt (Nat.lt_of_le_of_lt (hh.ab hg_r0).1 (hh.ab hg_r0).2)
  have hRc : R.cells = LC - s.heap.size := by rw [← hR]; rfl
  have hRs : R.slots = LS - jTot s.heap := by rw [← hR]; rfl
  have hh_1 := hh.addI (jOl.ie (dC := dC) (dI := dI) (G0 := G0) (k := 2) (rs := [bo, ou]) (H0 := s.heap) (F := [(2, 0), (2, 1)]) (C := RX0) (T := TX0) (N := 2) rfl (by decide) hh.2.2.2.2.1 (jOl.rf))
  clear hh
  have hws2 : (wl.2.2.1.length : Int) = wz.toInt ∧ wz.toInt ≤ 12 := jLs.sz2 (hh_1.iv 3 rfl) hg_wt_ (by decide) (hh_1.at 5 rfl)
  refine lv_iconst (v := 0) hx hb dX11_answerReady_0 (by decide) ?_
  refine lv_istore_n (lv' := [(1, .int 0), (0, .ref r0)]) hx hb dX11_answerReady_1 rfl hl (by decide) rfl (fun ls hl => ?_)
  refine lv_iconst (v := 0) hx hb dX11_answerReady_2 (by decide) ?_
  refine lv_istore_n (lv' := [(2, .int 0), (1, .int 0), (0, .ref r0)]) hx hb dX11_answerReady_3 rfl hl (by decide) rfl (fun ls hl => ?_)
  have L4 : ∀ (N : Nat) (Gx_2 : jT) (zcx_2 : Nat) (zsx_2 : Nat) (v1_2 : Int32) (v2_2 : Int32) (wc_2 : Int32) (wr_2 : Nat) (m_wr_2 : Nat) (wy_2 : Int32) (wl_2 : jWl9) (H_2 : Heap) (locs_2 : List Loc), jSt (dC, dI) B base G0 Gx_2 EX11_answerReadyT s.heap zcx_2 zsx_2 [(bo, 2, 1, .int wc_2), (bo, 2, 0, .ref wr_2), (wt_, 1, 2, .int wy_2), (r0, 13, 4, .ref bo), (r0, 13, 3, .ref ou), (r0, 13, 8, .ref wt_)] [] [([(2, 0), (2, 1)], jOl (dC, dI) G0 2 [bo, ou] s.heap), (jFy, jYb dC dI Gx_2), (jFs11, jSef dC dI Gx_2), (jFl, jLs dC dI ca Gx_2 3 none wl_2), (jFkd, jKD dC dI ca Gx_2 none kq), (jFqd, jQD dC dI ca Gx_2 none qq)] H_2 locs_2 → (jNk [0, 1, 2, 3, 4, 5, 6, 7, 8, 9, 10, 11, 12, 13, 14, 15, 16, 17, 175]) G0 Gx_2 → jLe G0 Gx_2 → Gx_2 wr_2 = some (196, m_wr_2) → (0 ≤ wc_2.toInt ∧ wc_2.toInt ≤ m_wr_2 ∧ n_pa ≤ m_wr_2 ∧ m_wr_2 ≤ 1048576 ∧ jPw m_wr_2 ∧ zcx_2 ≤ (m_wr_2 - n_pa) / 16 ∧ zsx_2 ≤ 2 * (m_wr_2 - n_pa) ∧ 0 ≤ v1_2.toInt ∧ v1_2.toInt ≤ v2_2.toInt ∧ v2_2.toInt ≤ 12 ∧ 0 ≤ wy_2.toInt ∧ wy_2.toInt ≤ 12 ∧ wy_2.toInt - v1_2.toInt + v2_2.toInt ≤ 12 ∧ (wl_2.2.2.1.length : Int) = wy_2.toInt ∧ wl_2 = wl.s2 wl_2.2.2.1 ∧ jzPs (fun x => !jzRd kq qq x) wl.2.2.1 wl_2.2.2.1 v1_2.toInt) → (12 - v2_2.toInt : Int) < N → ∀ ls : Array Slot, lv_has ls 3 [(0, .ref r0), (1, .int v1_2), (2, .int v2_2)] → W p l e R s m ([.ref r0] : List Value).toArray below meth c H_2 locs_2 zcx_2 zsx_2 Q (F0 m 4 ls []) := by
    intro N
    induction N with
    | zero => intro Gx_2 zcx_2 zsx_2 v1_2 v2_2 wc_2 wr_2 m_wr_2 wy_2 wl_2 H_2 locs_2 hh_2 hN_2 hle_2 hg_wr_2 hi_2 hm; exact absurd hm (by omega)
    | succ N L4 =>
      intro Gx_2 zcx_2 zsx_2 v1_2 v2_2 wc_2 wr_2 m_wr_2 wy_2 wl_2 H_2 locs_2 hh_2 hN_2 hle_2 hg_wr_2 hi_2 hm_2 ls hl
      have hg_3 := hle_2 _ _ hg_r0
      have hg_4 := hle_2 _ _ hg_bo
      have hg_5 := hle_2 _ _ hg_ou
      have hg_6 := hle_2 _ _ hg_wt_
      obtain ⟨hi_2_0, hi_2_1, hi_2_2, hi_2_3, hi_2_4, hi_2_5, hi_2_6, hi_2_7, hi_2_8, hi_2_9, hi_2_10, hi_2_11, hi_2_12, hi_2_13, hi_2_14, hi_2_15⟩ := hi_2
      refine lv_iload_n hx hb dX11_answerReady_4 rfl (lv_at hl 2 rfl) ?_
      refine lv_bipush (v := 12) hx hb dX11_answerReady_5 (by decide) ?_
      refine lv_icmp_ge (tgt := 71) hx hb dX11_answerReady_7 (by decide) (fun c_7 => ?_) (fun c_7 => ?_)
      · skip
        have c_7' : v2_2.toInt ≥ 12 := jb_ge (rfl) ((by decide)) c_7
        have hsz_8 := hh_2.2.2.2.2.2.1
        have htt_8 := hh_2.2.2.2.2.2.2.1
        refine W.room (fun hrc_8 hrs_8 => ?_)
        refine W.widen (k := LC - s.heap.size) (n := LS - jTot s.heap) (by omega) (by omega) ?_
        rw [hQ]
        exact W.vret hx hb hr (fun t ht hW => ⟨⟨(wc_2, wy_2, wr_2, m_wr_2, wl_2, Gx_2), rfl, by skip; (try dsimp only); refine ⟨(by first | (with_reducible assumption) | omega), (by first | (with_reducible assumption) | omega), (by first | (with_reducible assumption) | omega), (by first | (with_reducible assumption) | omega), (by first | (with_reducible assumption) | omega), ?_⟩; rw [← hi_2_15.e (by have h9 := hi_2_13; omega)]; exact hi_2_14, ⟨hh_2.ra (by first | (simp only; omega) | omega) (by first | (simp only; omega) | omega) (M1 := [(bo, 2, 1, .int wc_2), (wt_, 1, 2, .int wy_2), (bo, 2, 0, .ref wr_2)]) [0, 2, 1] rfl ht, hg_wr_2, hN_2, by rw [ht]; exact hh_2.iv 0 rfl, by rw [ht]; exact hh_2.2.2.2.2.2.2.2.2.sub (L1 := [(jFy, jYb dC dI Gx_2), (jFs11, jSef dC dI Gx_2), (jFl, jLs dC dI ca Gx_2 3 none wl_2), (jFkd, jKD dC dI ca Gx_2 none kq), (jFqd, jQD dC dI ca Gx_2 none qq)]) [1, 2, 3, 4, 5] rfl⟩⟩, by rw [ht]; try exact hh_2.1.1, fun q h9 hq => by rw [ht]; try exact hh_2.1.2.1 q h9 hq⟩) hh_2.1.2.2 dX11_answerReady_71
      · skip
        have c_7' : v2_2.toInt < 12 := jb_ge_n (rfl) ((by decide)) c_7
        refine lv_iload_n hx hb dX11_answerReady_10 rfl (lv_at hl 1 rfl) ?_
        refine lv_aload_n hx hb dX11_answerReady_11 rfl (lv_at hl 0 rfl) ?_
        refine j7_read hx hb hown hK (C := RX11) (T := TX11) (N := 19) rfl hly_13_8 hlk_65 (hh_2.at 5 rfl) dX11_answerReady_12 ?_
        have hsz_9 := hh_2.2.2.2.2.2.1
        have htt_9 := hh_2.2.2.2.2.2.2.1
        refine W.room (fun hrc_9 hrs_9 => ?_)
        refine va_callFi (A0 := jA base) (H0 := s.heap) (va_runF (hK.1 1 _ rfl).2 (As := []) (rest := [.int v1_2]) ⟨hx, hb, hml, hown, hts⟩ (uJx4a65c_size_8abf5 l dC dI ca base B hB hAp hB1 Gx_2 H_2 wt_ 2 wy_2) (va_cwF 0 hts (jgF (jWr_27 _ (List.mem_of_getElem? (i := 22) rfl)) (jWr_27 _ (List.mem_of_getElem? (i := 23) rfl)) (jWr_28 _ (List.mem_of_getElem? (i := 0) rfl)) (jWr_2 _ (List.mem_of_getElem? (i := 13) rfl)) (jWr_28 _ (List.mem_of_getElem? (i := 1) rfl))) rfl rfl rfl hK7.2.2.2.2.2.1.1 ⟨by decide, by decide, by decide +kernel⟩ ⟨by rw [← hR]; exact Nat.le_of_ble_eq_true rfl, by rw [← hR]; exact Nat.le_of_ble_eq_true rfl⟩) ⟨fun a U g mk q => by obtain ⟨q0, q1, q2, qK, q10, q11, q12⟩ := q; exact ⟨q0, q1, q2, jG.calling g mk a qK, q10, q11, q12⟩, hh_2.recv (C := RJx4a65c) (T := TJx4a65c) (N := 3) hB1 rfl (by decide) hg_6 hK, fun U hU hW => ⟨rfl, hU, hh_2.2.1, hG.step hW hU hh_2.1, hg_6, (hh_2.2.2.1.sub (L1 := [(wt_, 1, 2, .int wy_2)]) [2] rfl), trivial⟩⟩ rfl rfl hl.1 rfl (lv_room (Nat.le_of_ble_eq_true rfl)) dX11_answerReady_15 ⟨by rw [hRc]; show _ + 0 ≤ _; omega, by rw [hRs]; show _ + 0 ≤ _; omega⟩) hh_2.1 (fun q _ h => h) (fun q h => h) (fun r_10 u_9 t_9 H_9 locs_9 ht_9 hvm_9 hr_10 hb_9 hz_9 hk_9 hS_9 => ?_)
        rw [ht_9] at hb_9
        obtain ⟨hb_91, hb_92, hb_93, hb_94, hb_95⟩ := hb_9
        have hh_9 : jSt (dC, dI) B base G0 Gx_2 EX11_answerReadyT s.heap zcx_2 zsx_2 [(bo, 2, 1, .int wc_2), (bo, 2, 0, .ref wr_2), (wt_, 1, 2, .int wy_2), (r0, 13, 4, .ref bo), (r0, 13, 3, .ref ou), (r0, 13, 8, .ref wt_)] [] [([(2, 0), (2, 1)], jOl (dC, dI) G0 2 [bo, ou] s.heap), (jFy, jYb dC dI Gx_2), (jFs11, jSef dC dI Gx_2), (jFl, jLs dC dI ca Gx_2 3 none wl_2), (jFkd, jKD dC dI ca Gx_2 none kq), (jFqd, jQD dC dI ca Gx_2 none qq)] H_9 locs_9 := ((hh_2.call hb_91 hb_92 hb_93 hb_94 hS_9 rfl (L1 := [(bo, 2, 1, .int wc_2), (bo, 2, 0, .ref wr_2), (wt_, 1, 2, .int wy_2), (r0, 13, 4, .ref bo), (r0, 13, 3, .ref ou), (r0, 13, 8, .ref wt_)]) [0, 1, 2, 3, 4, 5] rfl rfl (M1 := []) [] rfl rfl (I1 := [([(2, 0), (2, 1)], jOl (dC, dI) G0 2 [bo, ou] s.heap), (jFy, jYb dC dI Gx_2), (jFs11, jSef dC dI Gx_2), (jFl, jLs dC dI ca Gx_2 3 none wl_2), (jFkd, jKD dC dI ca Gx_2 none kq), (jFqd, jQD dC dI ca Gx_2 none qq)]) [0, 1, 2, 3, 4, 5] rfl rfl).more hb_95)
        clear hh_2 ht_9 hvm_9 hz_9 hk_9 hS_9 hb_91 hb_92 hb_93 hb_94 hb_95
        refine lv_icmp_ge (tgt := 71) hx hb dX11_answerReady_20 (by decide) (fun c_11 => ?_) (fun c_11 => ?_)
        · skip
          have c_11' : v1_2.toInt ≥ r_10.toInt := jb_ge (rfl) (rfl) c_11
          have hsz_12 := hh_9.2.2.2.2.2.1
          have htt_12 := hh_9.2.2.2.2.2.2.1
          refine W.room (fun hrc_12 hrs_12 => ?_)
          refine W.widen (k := LC - s.heap.size) (n := LS - jTot s.heap) (by omega) (by omega) ?_
          rw [hQ]
          exact W.vret hx hb hr (fun t ht hW => ⟨⟨(wc_2, wy_2, wr_2, m_wr_2, wl_2, Gx_2), rfl, by skip; (try dsimp only); refine ⟨(by first | (with_reducible assumption) | omega), (by first | (with_reducible assumption) | omega), (by first | (with_reducible assumption) | omega), (by first | (with_reducible assumption) | omega), (by first | (with_reducible assumption) | omega), ?_⟩; rw [← hi_2_15.e (by have h9 := hi_2_13; omega)]; exact hi_2_14, ⟨hh_9.ra (by first | (simp only; omega) | omega) (by first | (simp only; omega) | omega) (M1 := [(bo, 2, 1, .int wc_2), (wt_, 1, 2, .int wy_2), (bo, 2, 0, .ref wr_2)]) [0, 2, 1] rfl ht, hg_wr_2, hN_2, by rw [ht]; exact hh_9.iv 0 rfl, by rw [ht]; exact hh_9.2.2.2.2.2.2.2.2.sub (L1 := [(jFy, jYb dC dI Gx_2), (jFs11, jSef dC dI Gx_2), (jFl, jLs dC dI ca Gx_2 3 none wl_2), (jFkd, jKD dC dI ca Gx_2 none kq), (jFqd, jQD dC dI ca Gx_2 none qq)]) [1, 2, 3, 4, 5] rfl⟩⟩, by rw [ht]; try exact hh_9.1.1, fun q h9 hq => by rw [ht]; try exact hh_9.1.2.1 q h9 hq⟩) hh_9.1.2.2 dX11_answerReady_71
        · skip
          have c_11' : v1_2.toInt < r_10.toInt := jb_ge_n (rfl) (rfl) c_11
          refine lv_aload_n hx hb dX11_answerReady_23 rfl (lv_at hl 0 rfl) ?_
          refine j7_read hx hb hown hK (C := RX11) (T := TX11) (N := 19) rfl hly_13_8 hlk_65 (hh_9.at 5 rfl) dX11_answerReady_24 ?_
          refine lv_iload_n hx hb dX11_answerReady_27 rfl (lv_at hl 1 rfl) ?_
          have hsz_13 := hh_9.2.2.2.2.2.1
          have htt_13 := hh_9.2.2.2.2.2.2.1
          refine W.room (fun hrc_13 hrs_13 => ?_)
          refine j_callFx (A0 := jA base) (H0 := s.heap) (va_runF (hK.1 1 _ rfl).2 (As := [.int v1_2]) (rest := []) ⟨hx, hb, hml, hown, hts⟩ (uJx4a65c_get_915e3L2 l dC dI ca base B hB hAp hB1 hB10 hB222 Gx_2 H_9 wt_ v1_2 wy_2 wl_2) (va_cwF 1 hts (jgF (jWr_28 _ (List.mem_of_getElem? (i := 3) rfl)) (jWr_28 _ (List.mem_of_getElem? (i := 4) rfl)) (jWr_28 _ (List.mem_of_getElem? (i := 5) rfl)) (jWr_2 _ (List.mem_of_getElem? (i := 13) rfl)) (jWr_28 _ (List.mem_of_getElem? (i := 6) rfl))) rfl rfl rfl hK7.2.2.2.2.2.1.2.1 ⟨by decide, by decide, by decide +kernel⟩ ⟨by rw [← hR]; exact Nat.le_of_ble_eq_true rfl, by rw [← hR]; exact Nat.le_of_ble_eq_true rfl⟩) ⟨fun a U g mk q => by obtain ⟨q0, q1, q2, qK, q10, q11, q12, q13, q14⟩ := q; exact ⟨q0, q1, q2, jG.calling g mk a qK, (jK7.calling g mk a q10), q11, q12, q13, q14⟩, hh_9.recv (C := RJx4a65c) (T := TJx4a65c) (N := 3) hB1 rfl (by decide) hg_6 hK, fun U hU hW => ⟨rfl, hU, hh_9.2.1, hG.step hW hU hh_9.1, (hK7.step hW hU hh_9.1), hg_6, (hh_9.2.2.1.sub (L1 := [(wt_, 1, 2, .int wy_2)]) [2] rfl), (hh_9.2.2.2.2.2.2.2.2.sub (L1 := [(jFl, jLs dC dI ca Gx_2 3 none wl_2)]) [3] rfl), ⟨(by first | omega | rfl | assumption | fail), (by first | omega | rfl | assumption | fail)⟩⟩⟩ rfl rfl hl.1 rfl (lv_room (Nat.le_of_ble_eq_true rfl)) dX11_answerReady_28 ⟨by rw [hRc]; show _ + 0 ≤ _; omega, by rw [hRs]; show _ + 0 ≤ _; omega⟩) hh_9.1 (fun q _ h => h) (fun q h => h) (fun r_14 u_13 t_13 H_13 locs_13 ht_13 hvm_13 hr_14 hb_13 hz_13 hk_13 hS_13 => ?_)
          rw [ht_13] at hb_13
          obtain ⟨hb_13, hbE_13⟩ := hb_13
          obtain ⟨hb_131, hb_132, hb_133, hb_134, hb_135⟩ := hb_13
          have hh_13 : jSt (dC, dI) B base G0 Gx_2 EX11_answerReadyT s.heap zcx_2 zsx_2 [(bo, 2, 1, .int wc_2), (bo, 2, 0, .ref wr_2), (wt_, 1, 2, .int wy_2), (r0, 13, 4, .ref bo), (r0, 13, 3, .ref ou), (r0, 13, 8, .ref wt_)] [] [(jFl, jLs dC dI ca Gx_2 3 none wl_2), ([(2, 0), (2, 1)], jOl (dC, dI) G0 2 [bo, ou] s.heap), (jFy, jYb dC dI Gx_2), (jFs11, jSef dC dI Gx_2), (jFkd, jKD dC dI ca Gx_2 none kq), (jFqd, jQD dC dI ca Gx_2 none qq)] H_13 locs_13 := (((hh_9.call hb_131 hb_132 hb_133 hb_134 hS_13 rfl (L1 := [(bo, 2, 1, .int wc_2), (bo, 2, 0, .ref wr_2), (wt_, 1, 2, .int wy_2), (r0, 13, 4, .ref bo), (r0, 13, 3, .ref ou), (r0, 13, 8, .ref wt_)]) [0, 1, 2, 3, 4, 5] rfl rfl (M1 := []) [] rfl rfl (I1 := [([(2, 0), (2, 1)], jOl (dC, dI) G0 2 [bo, ou] s.heap), (jFy, jYb dC dI Gx_2), (jFs11, jSef dC dI Gx_2), (jFkd, jKD dC dI ca Gx_2 none kq), (jFqd, jQD dC dI ca Gx_2 none qq)]) [0, 1, 2, 4, 5] rfl rfl).more hb_135)).addIs hbE_13
          clear hh_9 ht_13 hvm_13 hz_13 hk_13 hS_13 hb_131 hb_132 hb_133 hb_134 hb_135
          clear  hbE_13
          obtain ⟨hr_14, hr_14p⟩ := hr_14
          obtain ⟨ret_15, rfl, hg_ret_15⟩ := hr_14
          refine va_castY hx hb hown (htw (.classLink RX11 115 "ProofServer$Request") (jWr_42 _ (List.mem_of_getElem? (i := 5) rfl))) hK7.2.2.1.2.1.2 (hh_13.recv (C := RX8) (T := TX8) (N := 5) hB10 rfl (by decide) hg_ret_15 hK) dX11_answerReady_33 ?_
          have hsz_16 := hh_13.2.2.2.2.2.1
          have htt_16 := hh_13.2.2.2.2.2.2.1
          refine W.room (fun hrc_16 hrs_16 => ?_)
          refine va_calli (A0 := jA base) (H0 := s.heap) (va_runV (As := []) (rest := []) ⟨hx, hb, hml, hown, hts⟩ (uX8_isReadyT l dC dI ca base B hB hAp hB3 hB10 hB11 hB171 hB172 hB176 hB210 Gx_2 H_13 ret_15 kq qq) (cwV 0 hts (jgV (jWr_29 _ (List.mem_of_getElem? (i := 19) rfl)) (jWr_29 _ (List.mem_of_getElem? (i := 20) rfl)) (jWr_29 _ (List.mem_of_getElem? (i := 21) rfl)) (jWr_19 _ (List.mem_of_getElem? (i := 5) rfl)) (jWr_29 _ (List.mem_of_getElem? (i := 22) rfl))) rfl rfl rfl (by decide +kernel) ⟨by rw [← hR]; exact Nat.le_of_ble_eq_true rfl, by rw [← hR]; exact Nat.le_of_ble_eq_true rfl⟩) ⟨fun a U g mk q => by obtain ⟨q0, q1, q2, qK, q10, q11, q12, q13⟩ := q; exact ⟨q0, q1, q2, jG.calling g mk a qK, q10, q11, q12, q13⟩, hh_13.recv (C := RX8) (T := TX8) (N := 5) hB10 rfl (by decide) hg_ret_15 hK, fun U hU hW => ⟨rfl, hU, hh_13.2.1, hG.step hW hU hh_13.1, hg_ret_15, jP.nil, (hh_13.2.2.2.2.2.2.2.2.sub (L1 := [(jFkd, jKD dC dI ca Gx_2 none kq), (jFqd, jQD dC dI ca Gx_2 none qq)]) [4, 5] rfl), trivial⟩⟩ rfl rfl hl.1 rfl (lv_room (Nat.le_of_ble_eq_true rfl)) dX11_answerReady_36 ⟨by rw [hRc]; show _ + 0 ≤ _; omega, by rw [hRs]; show _ + 0 ≤ _; omega⟩) hh_13.1 (fun q _ h => h) (fun q h => h) (fun r_17 u_16 t_16 H_16 locs_16 ht_16 hvm_16 hr_17 hb_16 hz_16 hk_16 hS_16 => ?_)
          rw [ht_16] at hb_16
          obtain ⟨hb_16, hbE_16⟩ := hb_16
          obtain ⟨hb_161, hb_162, hb_163, hb_164, hb_165⟩ := hb_16
          have hh_16 : jSt (dC, dI) B base G0 Gx_2 EX11_answerReadyT s.heap zcx_2 zsx_2 [(bo, 2, 1, .int wc_2), (bo, 2, 0, .ref wr_2), (wt_, 1, 2, .int wy_2), (r0, 13, 4, .ref bo), (r0, 13, 3, .ref ou), (r0, 13, 8, .ref wt_)] [] [(jFkd, jKD dC dI ca Gx_2 none kq), (jFqd, jQD dC dI ca Gx_2 none qq), (jFl, jLs dC dI ca Gx_2 3 none wl_2), ([(2, 0), (2, 1)], jOl (dC, dI) G0 2 [bo, ou] s.heap), (jFy, jYb dC dI Gx_2), (jFs11, jSef dC dI Gx_2)] H_16 locs_16 := (((hh_13.call hb_161 hb_162 hb_163 hb_164 hS_16 rfl (L1 := [(bo, 2, 1, .int wc_2), (bo, 2, 0, .ref wr_2), (wt_, 1, 2, .int wy_2), (r0, 13, 4, .ref bo), (r0, 13, 3, .ref ou), (r0, 13, 8, .ref wt_)]) [0, 1, 2, 3, 4, 5] rfl rfl (M1 := []) [] rfl rfl (I1 := [(jFl, jLs dC dI ca Gx_2 3 none wl_2), ([(2, 0), (2, 1)], jOl (dC, dI) G0 2 [bo, ou] s.heap), (jFy, jYb dC dI Gx_2), (jFs11, jSef dC dI Gx_2)]) [0, 1, 2, 3] rfl rfl).more hb_165)).addIs hbE_16
          clear hh_13 ht_16 hvm_16 hz_16 hk_16 hS_16 hb_161 hb_162 hb_163 hb_164 hb_165
          clear  hbE_16
          obtain ⟨hr_17b, hr_17p⟩ := hr_17
          have hrd9 := hr_17p
          have hr_17' := jb_01 hr_17b
          refine lv_if_eq (tgt := 62) hx hb dX11_answerReady_39 (by decide) (fun c_18 => ?_) (fun c_18 => ?_)
          · skip
            have c_18' : r_17.toInt = 0 := jb_eq (rfl) ((by decide)) c_18
            first | (have hr_17pq := hr_17p.resolve_left (by omega); clear hr_17p) | (have hr_17pq := hr_17p.resolve_right (by omega); clear hr_17p) | try clear hr_17p
            obtain ⟨z_19, ez_19⟩ : ∃ y : Int32, y = v1_2 + 1 := ⟨_, rfl⟩
            refine lv_iinc (v := z_19) (lv' := [(1, .int z_19), (0, .ref r0), (2, .int v2_2)]) hx hb dX11_answerReady_62 hl (k := 1) rfl (by rw [ez_19]; rfl) (by decide) rfl (fun ls hl => ?_)
            have hz_19 : z_19.toInt = v1_2.toInt + 1 := by rw [ez_19]; exact jb_iadd2 (rfl) (by decide) (by omega)
            obtain ⟨z_20, ez_20⟩ : ∃ y : Int32, y = v2_2 + 1 := ⟨_, rfl⟩
            refine lv_iinc (v := z_20) (lv' := [(2, .int z_20), (1, .int z_19), (0, .ref r0)]) hx hb dX11_answerReady_65 hl (k := 2) rfl (by rw [ez_20]; rfl) (by decide) rfl (fun ls hl => ?_)
            have hz_20 : z_20.toInt = v2_2.toInt + 1 := by rw [ez_20]; exact jb_iadd2 (rfl) (by decide) (by omega)
            refine lv_goto (tgt := 4) hx hb dX11_answerReady_68 (by decide) ?_
            refine W.tight (c2 := zcx_2) (n2 := zsx_2) hh_16.2.2.2.2.2.1 hh_16.2.2.2.2.2.2.1 ?_
            exact L4 Gx_2 zcx_2 zsx_2 z_19 z_20 wc_2 wr_2 m_wr_2 wy_2 wl_2 _ _ (hh_16.sub (L1 := [(bo, 2, 1, .int wc_2), (bo, 2, 0, .ref wr_2), (wt_, 1, 2, .int wy_2), (r0, 13, 4, .ref bo), (r0, 13, 3, .ref ou), (r0, 13, 8, .ref wt_)]) [0, 1, 2, 3, 4, 5] rfl (M1 := []) [] rfl (I1 := [([(2, 0), (2, 1)], jOl (dC, dI) G0 2 [bo, ou] s.heap), (jFy, jYb dC dI Gx_2), (jFs11, jSef dC dI Gx_2), (jFl, jLs dC dI ca Gx_2 3 none wl_2), (jFkd, jKD dC dI ca Gx_2 none kq), (jFqd, jQD dC dI ca Gx_2 none qq)]) [3, 4, 5, 2, 0, 1] rfl) (hN_2) (hle_2) hg_wr_2 (⟨(by first | (with_reducible assumption) | omega), (by first | (with_reducible assumption) | omega), (by first | (with_reducible assumption) | omega), (by first | (with_reducible assumption) | omega), (by first | (with_reducible assumption) | omega), (by first | (with_reducible assumption) | omega), (by first | (with_reducible assumption) | omega), (by first | (with_reducible assumption) | omega), (by first | (with_reducible assumption) | omega), (by first | (with_reducible assumption) | omega), (by first | (with_reducible assumption) | omega), (by first | (with_reducible assumption) | omega), (by first | (with_reducible assumption) | omega), hi_2_13, hi_2_14, hi_2_15.k (jdAt hr_14p) (by have h9 := (hrd9.resolve_left (fun q => by have q1 := q.1; omega)).2; simpa using h9) (by omega)⟩) (by omega) _ (lv_sub hl [2, 1, 0] rfl)
          · skip
            have c_18' : r_17.toInt ≠ 0 := jb_eq_n (rfl) ((by decide)) c_18
            first | (have hr_17pq := hr_17p.resolve_left (by omega); clear hr_17p) | (have hr_17pq := hr_17p.resolve_right (by omega); clear hr_17p) | try clear hr_17p
            refine lv_aload_n hx hb dX11_answerReady_42 rfl (lv_at hl 0 rfl) ?_
            refine lv_aload_n hx hb dX11_answerReady_43 rfl (lv_at hl 0 rfl) ?_
            refine j7_read hx hb hown hK (C := RX11) (T := TX11) (N := 19) rfl hly_13_8 hlk_65 (hh_16.at 5 rfl) dX11_answerReady_44 ?_
            refine lv_iload_n hx hb dX11_answerReady_47 rfl (lv_at hl 1 rfl) ?_
            have hsz_21 := hh_16.2.2.2.2.2.1
            have htt_21 := hh_16.2.2.2.2.2.2.1
            refine W.room (fun hrc_21 hrs_21 => ?_)
            refine j_callFx (A0 := jA base) (H0 := s.heap) (va_runF (hK.1 1 _ rfl).2 (As := [.int v1_2]) (rest := [.ref r0]) ⟨hx, hb, hml, hown, hts⟩ (uJx4a65c_remove_915e3L2 l dC dI ca base B hB hAp hB1 hB10 hB222 Gx_2 H_16 wt_ v1_2 wy_2 wl_2) (va_cwF 1 hts (jgF (jWr_42 _ (List.mem_of_getElem? (i := 7) rfl)) (jWr_42 _ (List.mem_of_getElem? (i := 8) rfl)) (jWr_42 _ (List.mem_of_getElem? (i := 9) rfl)) (jWr_2 _ (List.mem_of_getElem? (i := 13) rfl)) (jWr_42 _ (List.mem_of_getElem? (i := 10) rfl))) rfl rfl rfl hK7.2.2.2.2.2.1.2.2.2 ⟨by decide, by decide, by decide +kernel⟩ ⟨by rw [← hR]; exact Nat.le_of_ble_eq_true rfl, by rw [← hR]; exact Nat.le_of_ble_eq_true rfl⟩) ⟨fun a U g mk q => by obtain ⟨q0, q1, q2, qK, q10, q11, q12, q13, q14⟩ := q; exact ⟨q0, q1, q2, jG.calling g mk a qK, (jK7.calling g mk a q10), q11, q12, q13, q14⟩, hh_16.recv (C := RJx4a65c) (T := TJx4a65c) (N := 3) hB1 rfl (by decide) hg_6 hK, fun U hU hW => ⟨rfl, hU, hh_16.2.1, hG.step hW hU hh_16.1, (hK7.step hW hU hh_16.1), hg_6, (hh_16.2.2.1.sub (L1 := [(wt_, 1, 2, .int wy_2)]) [2] rfl), (hh_16.2.2.2.2.2.2.2.2.sub (L1 := [(jFl, jLs dC dI ca Gx_2 3 none wl_2)]) [2] rfl), ⟨(by first | omega | rfl | assumption | fail), (by first | omega | rfl | assumption | fail)⟩⟩⟩ rfl rfl hl.1 rfl (lv_room (Nat.le_of_ble_eq_true rfl)) dX11_answerReady_48 ⟨by rw [hRc]; show _ + 0 ≤ _; omega, by rw [hRs]; show _ + 0 ≤ _; omega⟩) hh_16.1 (fun q _ h => h) (fun q h => h) (fun r_22 u_21 t_21 H_21 locs_21 ht_21 hvm_21 hr_22 hb_21 hz_21 hk_21 hS_21 => ?_)
            obtain ⟨qz_21, rfl⟩ : ∃ z, z = u_21 := ⟨_, rfl⟩
            rw [ht_21] at hb_21
            obtain ⟨hb_21, hbE_21⟩ := hb_21
            obtain ⟨hb_21, hbO_21⟩ := hb_21
            obtain ⟨hb_211, hb_212, hb_213, hb_214, hb_215⟩ := hb_21
            have hh_21 : jSt (dC, dI) B base G0 Gx_2 EX11_answerReadyT s.heap zcx_2 zsx_2 [(wt_, 1, 2, .int qz_21), (bo, 2, 1, .int wc_2), (bo, 2, 0, .ref wr_2), (r0, 13, 4, .ref bo), (r0, 13, 3, .ref ou), (r0, 13, 8, .ref wt_)] [] [(jFl, jLs dC dI ca Gx_2 3 none (wl_2.s2 (wl_2.2.2.1.eraseIdx (v1_2.toInt).toNat))), (jFkd, jKD dC dI ca Gx_2 none kq), (jFqd, jQD dC dI ca Gx_2 none qq), ([(2, 0), (2, 1)], jOl (dC, dI) G0 2 [bo, ou] s.heap), (jFy, jYb dC dI Gx_2), (jFs11, jSef dC dI Gx_2)] H_21 locs_21 := (((hh_16.call hb_211 hb_212 hb_213 hb_214 hS_21 rfl (L1 := [(bo, 2, 1, .int wc_2), (bo, 2, 0, .ref wr_2), (r0, 13, 4, .ref bo), (r0, 13, 3, .ref ou), (r0, 13, 8, .ref wt_)]) [0, 1, 3, 4, 5] rfl rfl (M1 := []) [] rfl rfl (I1 := [(jFkd, jKD dC dI ca Gx_2 none kq), (jFqd, jQD dC dI ca Gx_2 none qq), ([(2, 0), (2, 1)], jOl (dC, dI) G0 2 [bo, ou] s.heap), (jFy, jYb dC dI Gx_2), (jFs11, jSef dC dI Gx_2)]) [0, 1, 3, 4, 5] rfl rfl).more hb_215)).addIs hbE_21
            clear hh_16 ht_21 hvm_21 hz_21 hk_21 hS_21 hb_211 hb_212 hb_213 hb_214 hb_215
            clear  hbE_21
            obtain ⟨hr_22, hr_22p⟩ := hr_22
            obtain ⟨ret_23, rfl, hg_ret_23⟩ := hr_22
            refine va_castY hx hb hown (htw (.classLink RX11 115 "ProofServer$Request") (jWr_42 _ (List.mem_of_getElem? (i := 5) rfl))) hK7.2.2.1.2.1.2 (hh_21.recv (C := RX8) (T := TX8) (N := 5) hB10 rfl (by decide) hg_ret_23 hK) dX11_answerReady_53 ?_
            have hsz_24 := hh_21.2.2.2.2.2.1
            have htt_24 := hh_21.2.2.2.2.2.2.1
            refine W.room (fun hrc_24 hrs_24 => ?_)
            refine va_callv (A0 := jA base) (H0 := s.heap) (va_runV (As := [.ref ret_23]) (rest := []) ⟨hx, hb, hml, hown, hts⟩ (uX11_reply l dC dI ca base B hB hAp hB2 hB3 hB4 hB5 hB7 hB8 hB9 hB10 hB11 hB13 hB17 hB101 hB102 hB132 hB196 hB199 hB210 hB214 hB280 hB286 hB287 hB288 hB313 Gx_2 H_21 r0 ret_23 bo wc_2 wr_2 m_wr_2 ou LC LS) (cwV 1 hts (jgV (jWr_30 _ (List.mem_of_getElem? (i := 2) rfl)) (jWr_30 _ (List.mem_of_getElem? (i := 3) rfl)) (jWr_30 _ (List.mem_of_getElem? (i := 4) rfl)) (jWr_1 _ (List.mem_of_getElem? (i := 2) rfl)) (jWr_30 _ (List.mem_of_getElem? (i := 5) rfl))) rfl rfl rfl (by decide +kernel) ⟨by rw [← hR]; exact Nat.le_of_ble_eq_true rfl, by rw [← hR]; exact Nat.le_of_ble_eq_true rfl⟩) ⟨fun a U g mk q => by obtain ⟨q0, q1, q2, qK, q10, q11, q12, q13, q14, q15, q16, q17, q18, q19⟩ := q; exact ⟨q0, q1, q2, jG.calling g mk a qK, (va_K.moved (Vm.Alike.refl U.vm) q10), (jK5.moved (Vm.Alike.refl U.vm) q11), q12, q13, q14, q15, q16, q17, q18, q19⟩, hh_21.recv (C := RX11) (T := TX11) (N := 19) hB13 rfl (by decide) hg_3 hK, fun U hU hW => ⟨rfl, hU, hh_21.2.1, hG.step hW hU hh_21.1, va_K.moved hW.alike hK2, jK5.moved hW.alike hK5, hg_3, hg_ret_23, hg_4, hg_wr_2, hg_5, (hh_21.2.2.1.sub (L1 := [(r0, 13, 4, .ref bo), (bo, 2, 1, .int wc_2), (bo, 2, 0, .ref wr_2), (r0, 13, 3, .ref ou)]) [3, 1, 2, 4] rfl), (hh_21.2.2.2.2.2.2.2.2.sub (L1 := [(jFy, jYb dC dI Gx_2), (jFs11, jSef dC dI Gx_2)]) [4, 5] rfl), (by omega), (by omega), ⟨(by first | omega | rfl | assumption | fail), (by first | omega | rfl | assumption | fail), (by first | omega | rfl | assumption | fail), (by first | omega | rfl | assumption | fail), (by first | assumption | fail | omega)⟩⟩⟩ rfl rfl hl.1 rfl (lv_room (Nat.le_of_ble_eq_true rfl)) dX11_answerReady_56 ⟨by rw [hRc]; omega, by rw [hRs]; omega⟩) hh_21.1 (fun q _ h => h) (fun q h => h) (fun u_24 t_24 H_24 locs_24 ht_24 hvm_24 hr_25 hb_24 hz_24 hk_24 hS_24 => ?_)
            obtain ⟨qc_24, qa_24, m_qa_24, G_24⟩ := u_24
            rw [ht_24] at hb_24
            simp only at hb_24
            obtain ⟨⟨hb_241, hb_242, hb_243, hb_244, hb_245, hb_246⟩, hgq_24_0, hN_24, hbO_24, hbE_24⟩ := hb_24
            have hW_24 := hN_24
            have hh_24 : jSt (dC, dI) B base G0 G_24 EX11_answerReadyT s.heap (zcx_2 + ((m_qa_24 - m_wr_2) / 16)) (zsx_2 + (2 * (m_qa_24 - m_wr_2))) [(bo, 2, 1, .int qc_24), (bo, 2, 0, .ref qa_24), (wt_, 1, 2, .int qz_21), (r0, 13, 4, .ref bo), (r0, 13, 3, .ref ou), (r0, 13, 8, .ref wt_)] [] [(jFl, jLs dC dI ca Gx_2 3 none (wl_2.s2 (wl_2.2.2.1.eraseIdx (v1_2.toInt).toNat))), (jFkd, jKD dC dI ca Gx_2 none kq), (jFqd, jQD dC dI ca Gx_2 none qq)] H_24 locs_24 := (hh_21.callG hb_241 hb_242 hb_243 hb_244 hb_245 hS_24 rfl (L1 := [(wt_, 1, 2, .int qz_21), (r0, 13, 4, .ref bo), (r0, 13, 3, .ref ou), (r0, 13, 8, .ref wt_)]) [0, 3, 4, 5] rfl rfl (M1 := []) [] rfl rfl (I1 := [(jFl, jLs dC dI ca Gx_2 3 none (wl_2.s2 (wl_2.2.2.1.eraseIdx (v1_2.toInt).toNat))), (jFkd, jKD dC dI ca Gx_2 none kq), (jFqd, jQD dC dI ca Gx_2 none qq)]) [0, 1, 2] rfl rfl).more hb_246
            have hNn_24 : (jNk [0, 1, 2, 3, 4, 5, 6, 7, 8, 9, 10, 11, 12, 13, 14, 15, 16, 17, 175]) G0 G_24 := (hN_2).tr hN_24
            have hg_26 := hb_242 _ _ hg_3
            have hg_27 := hb_242 _ _ hg_4
            have hg_28 := hb_242 _ _ hg_5
            have hg_29 := hb_242 _ _ hg_6
            have hd_30 := jLs.grow (hh_24.iv 0 rfl) hb_242 hN_24 (by decide)
            have hh_31 := hh_24.sub (L1 := [(bo, 2, 1, .int qc_24), (bo, 2, 0, .ref qa_24), (wt_, 1, 2, .int qz_21), (r0, 13, 4, .ref bo), (r0, 13, 3, .ref ou), (r0, 13, 8, .ref wt_)]) [0, 1, 2, 3, 4, 5] rfl (M1 := []) [] rfl (I1 := [(jFkd, jKD dC dI ca Gx_2 none kq), (jFqd, jQD dC dI ca Gx_2 none qq)]) [1, 2] rfl
            clear hh_24
            have hh_32 := hh_31.addI (jLs.ie hd_30)
            clear hh_31
            have hd_33 := jKD.grow (ca := ca) (hh_32.iv 1 rfl) hb_242 hW_24 (by decide)
            have hh_34 := hh_32.sub (L1 := [(bo, 2, 1, .int qc_24), (bo, 2, 0, .ref qa_24), (wt_, 1, 2, .int qz_21), (r0, 13, 4, .ref bo), (r0, 13, 3, .ref ou), (r0, 13, 8, .ref wt_)]) [0, 1, 2, 3, 4, 5] rfl (M1 := []) [] rfl (I1 := [(jFl, jLs dC dI ca G_24 3 none (wl_2.s2 (wl_2.2.2.1.eraseIdx (v1_2.toInt).toNat))), (jFqd, jQD dC dI ca Gx_2 none qq)]) [0, 2] rfl
            clear hh_32
            have hh_35 := hh_34.addI (jKD.ie hd_33)
            clear hh_34
            have hd_36 := jQD.grow (ca := ca) (hh_35.iv 2 rfl) hb_242 hW_24 (by decide)
            have hh_37 := hh_35.sub (L1 := [(bo, 2, 1, .int qc_24), (bo, 2, 0, .ref qa_24), (wt_, 1, 2, .int qz_21), (r0, 13, 4, .ref bo), (r0, 13, 3, .ref ou), (r0, 13, 8, .ref wt_)]) [0, 1, 2, 3, 4, 5] rfl (M1 := []) [] rfl (I1 := [(jFkd, jKD dC dI ca G_24 none kq), (jFl, jLs dC dI ca G_24 3 none (wl_2.s2 (wl_2.2.2.1.eraseIdx (v1_2.toInt).toNat)))]) [0, 1] rfl
            clear hh_35
            have hh_38 := hh_37.addI (jQD.ie hd_36)
            clear hh_37
            have hh_39 := hh_38.addIs hbE_24
            have hd_40 := jOl.trL (hh_21.iv 3 rfl) hh_21.2.2.2.2.1 hbO_24 (by simp)
            have hh_41 := hh_39.addI (jOl.ie (dC := dC) (dI := dI) (G0 := G0) (k := 2) (rs := [bo, ou]) (H0 := s.heap) (F := [(2, 0), (2, 1)]) (C := RX0) (T := TX0) (N := 2) rfl (by decide) hh_39.2.2.2.2.1 (hd_40))
            clear hh_39
            try simp only at hr_25
            obtain ⟨hr_25_0, hr_25_1, hr_25_2, hr_25_3, hr_25_4⟩ := hr_25
            have hh_42 := hh_41.wk (zc1 := (m_qa_24 - n_pa) / 16) (zs1 := 2 * (m_qa_24 - n_pa)) (by omega) (by omega)
            clear hh_41
            try clear hsz_24 htt_24 hrc_24 hrs_24
            try clear hb_244 hb_245
            refine lv_goto (tgt := 65) hx hb dX11_answerReady_59 (by decide) ?_
            obtain ⟨z_43, ez_43⟩ : ∃ y : Int32, y = v2_2 + 1 := ⟨_, rfl⟩
            refine lv_iinc (v := z_43) (lv' := [(2, .int z_43), (0, .ref r0), (1, .int v1_2)]) hx hb dX11_answerReady_65 hl (k := 2) rfl (by rw [ez_43]; rfl) (by decide) rfl (fun ls hl => ?_)
            have hz_43 : z_43.toInt = v2_2.toInt + 1 := by rw [ez_43]; exact jb_iadd2 (rfl) (by decide) (by omega)
            refine lv_goto (tgt := 4) hx hb dX11_answerReady_68 (by decide) ?_
            refine W.tight (c2 := ((m_qa_24 - n_pa) / 16)) (n2 := (2 * (m_qa_24 - n_pa))) hh_42.2.2.2.2.2.1 hh_42.2.2.2.2.2.2.1 ?_
            exact L4 G_24 ((m_qa_24 - n_pa) / 16) (2 * (m_qa_24 - n_pa)) v1_2 z_43 qc_24 qa_24 m_qa_24 qz_21 (wl_2.s2 (wl_2.2.2.1.eraseIdx (v1_2.toInt).toNat)) _ _ (hh_42.sub (L1 := [(bo, 2, 1, .int qc_24), (bo, 2, 0, .ref qa_24), (wt_, 1, 2, .int qz_21), (r0, 13, 4, .ref bo), (r0, 13, 3, .ref ou), (r0, 13, 8, .ref wt_)]) [0, 1, 2, 3, 4, 5] rfl (M1 := []) [] rfl (I1 := [([(2, 0), (2, 1)], jOl (dC, dI) G0 2 [bo, ou] s.heap), (jFy, jYb dC dI G_24), (jFs11, jSef dC dI G_24), (jFl, jLs dC dI ca G_24 3 none (wl_2.s2 (wl_2.2.2.1.eraseIdx (v1_2.toInt).toNat))), (jFkd, jKD dC dI ca G_24 none kq), (jFqd, jQD dC dI ca G_24 none qq)]) [0, 1, 2, 5, 4, 3] rfl) (hNn_24) ((hle_2).tr hb_242) hgq_24_0 (by have hd9 := hi_2_15.d (jdAt hr_14p) (by rw [(hrd9.resolve_right (fun q => by have q1 := q.1; omega)).2]; decide); have hl9 : (wl_2.2.2.1.eraseIdx v1_2.toInt.toNat).length = wl_2.2.2.1.length - 1 := (by rw [List.length_eraseIdx, if_pos (by have h9 := hi_2_13; omega)]); refine ⟨(by first | (with_reducible assumption) | omega), (by first | (with_reducible assumption) | omega), (by first | (with_reducible assumption) | omega), (by first | (with_reducible assumption) | omega), (by first | (with_reducible assumption) | omega), (by first | (with_reducible assumption) | omega), (by first | (with_reducible assumption) | omega), (by first | (with_reducible assumption) | omega), (by first | (with_reducible assumption) | omega), (by first | (with_reducible assumption) | omega), (by first | (with_reducible assumption) | omega), (by first | (with_reducible assumption) | omega), (by first | (with_reducible assumption) | omega), ?_, ?_, hd9⟩; (show ((wl_2.2.2.1.eraseIdx v1_2.toInt.toNat).length : Int) = _; have h9 := hi_2_13; omega); (show wl_2.s2 (wl_2.2.2.1.eraseIdx v1_2.toInt.toNat) = _; rw [hi_2_14]; rfl)) (by omega) _ (lv_sub hl [1, 2, 0] rfl)
  refine W.tight (c2 := 0) (n2 := 0) hh_1.2.2.2.2.2.1 hh_1.2.2.2.2.2.2.1 ?_
  exact L4 (12 - (0 : Int32).toInt : Int).toNat.succ G0 0 0 0 0 pc pa n_pa wz wl _ _ (hh_1.sub (L1 := [(bo, 2, 1, .int pc), (bo, 2, 0, .ref pa), (wt_, 1, 2, .int wz), (r0, 13, 4, .ref bo), (r0, 13, 3, .ref ou), (r0, 13, 8, .ref wt_)]) [1, 2, 5, 0, 3, 4] rfl (M1 := []) [] rfl (I1 := [([(2, 0), (2, 1)], jOl (dC, dI) G0 2 [bo, ou] s.heap), (jFy, jYb dC dI G0), (jFs11, jSef dC dI G0), (jFl, jLs dC dI ca G0 3 none wl), (jFkd, jKD dC dI ca G0 none kq), (jFqd, jQD dC dI ca G0 none qq)]) [0, 1, 2, 3, 4, 5] rfl) (jNk.rf) (jLe.rf) hg_pa (⟨(by first | (with_reducible assumption) | omega), (by first | (with_reducible assumption) | omega), (by first | (with_reducible assumption) | omega), (by first | (with_reducible assumption) | omega), (by first | (with_reducible assumption) | omega), (by first | (with_reducible assumption) | omega), (by first | (with_reducible assumption) | omega), (by first | (with_reducible assumption) | omega), (by first | (with_reducible assumption) | omega), (by first | (with_reducible assumption) | omega), (by first | (with_reducible assumption) | omega), (by first | (with_reducible assumption) | omega), (by first | (with_reducible assumption) | omega), hws2.1, rfl, jzPs.st (by omega)⟩) (by omega) _ (lv_sub hl [2, 1, 0] rfl)
end
section
-- p8: a hand counts down; a check is done: on the class's side
section J9L
variable {G G1 : jT} {s0 a b d i : Nat} {t : jDtl} {q q1 q2 q3 : jKg} {w w1 : jWl9} {ho ho1 : Nat → Option Nat} {us us1 rw rw1 : Nat → List Int} {qq : jRqG} {ib : Nat → List Int} {S : Int × (Int → jdD)} {Z Z1 : jwSt} {k : Int} {c : Int32} {x : Nat} {l4 : List Nat}
theorem jcY.dec (h : jcY G s0 t q w ho us rw qq ib S Z a d i) (hi : i < 2) (hq : q1 = q.put a (q.sn a) (q.ck a) c (q.cv a) (q.fv a) (q.sb a) (q.se a) (q.sc a) (q.bh a)) (hc : c.toInt = (q.lf a).toInt - 1) (h0 : 0 < c.toInt) : jcZ G s0 t q1 w ho us rw qq ib S (jwDc Z i) := by
  have hf : q.fv a = .null := h.2.2.2.2.resolve_right (fun c9 => by obtain ⟨x, -, -, -, e⟩ := c9; omega)
  obtain ⟨y0, m0, z1, -⟩ := h.at hi
  obtain ⟨hz, h1, h2, h3, -⟩ := h
  rw [jKg.fn_id hf] at hz
  obtain ⟨p1, p2, p3, p4, p5, p6, p7, p8, p9⟩ := (jKg.pt (q := q) (a := a) (sn := q.sn a) (ck := q.ck a) (lf := c) (cv := q.cv a) (fv := q.fv a) (sb := q.sb a) (se := q.se a) (sc := q.sc a) (bh := q.bh a))
  rw [← hq] at p1 p2 p3 p4 p5 p6 p7 p8 p9
  have hag : ∀ b, b ≠ a → jzAg q q1 b := fun b hb => by rw [hq]; exact jzAg.put hb
  refine ⟨hz.1, hz.2.1, fun e b he hb => ?_, fun j hj => ?_, fun e b he hb e0 e1 => ?_, hz.2.2.2.2.2.1, hz.2.2.2.2.2.2.1, hz.2.2.2.2.2.2.2.1, hz.2.2.2.2.2.2.2.2⟩
  · by_cases c1 : b = a
    · subst c1
      have := hz.2.2.1 e b he hb
      unfold jzD at this ⊢
      rw [p1, p2, p5, p6, p7, p8, p9]
      exact this
    · exact (hz.2.2.1 e b he hb).tr (hag b c1) (fun _ _ => rfl) jLe.rf
  · by_cases c1 : j = i
    · subst c1
      rcases hz.2.2.2.1 j hj with ⟨e1, -⟩ | ⟨d1, a1, y, g1, g2, g3, g4, g5, g6, g7⟩
      · rw [h1] at e1; cases e1
      · rw [h1] at g3; cases g3
        refine Or.inr ⟨d1, a, y, g1, g2, h1, ?_, p4.trans g5, g6, g7⟩
        show jwUw Z.2.1 (j : Int) ((Z.2.1 (j : Int)).1, (Z.2.1 (j : Int)).2 - 1) (j : Int) = _
        unfold jwUw
        rw [if_pos rfl, g4, p3, hc]
    · refine (hz.2.2.2.1 j hj).tr (fun b hb => hag b (fun c2 => ?_)) (fun _ _ _ => rfl) rfl ?_ (fun _ _ _ _ _ => rfl) rfl rfl jLe.rf
      · subst c2
        have e : ho 0 = ho 1 := by
          rcases (by omega : (i = 0 ∧ j = 1) ∨ (i = 1 ∧ j = 0)) with ⟨r, s⟩ | ⟨r, s⟩
          · subst r s; rw [h1, hb]
          · subst r s; rw [h1, hb]
        have := hz.2.2.2.2.2.1 e
        rcases (by omega : i = 0 ∨ i = 1) with r | r
        · subst r; rw [h1] at this; cases this
        · subst r; rw [← e, this] at h1; cases h1
      · show jwUw Z.2.1 (i : Int) _ (j : Int) = _
        unfold jwUw
        rw [if_neg (by omega)]
  · by_cases c1 : b = a
    · subst c1
      rw [p4]
      exact hz.2.2.2.2.1 e b he hb e0 e1
    · rw [(hag b c1).2.2.2.1]
      exact hz.2.2.2.2.1 e b he hb e0 e1
theorem jcY.fin (h : jcY G s0 t q w ho us rw qq ib S Z a d i) (hi : i < 2) (hle : jLe G G1) (hok : jwOk S Z) (hlt : Z.1 d < jwS S d) (hq : q1 = q.put a (q.sn a) (q.ck a) c (q.cv a) (q.fv a) (q.sb a) (q.se a) (q.sc a) (q.bh a)) (hA : jzAd q1 q2 a x) (hR : jzRe q2 q3 a) (hx : rw1 x = jcR (t.tx a) (t.ln a).toInt (Z.1 d + 1).toNat) (gx : G1 x = some (11, 0)) (hr : ∀ z, G z = some (11, 0) → rw1 z = rw z) (hh : ∀ j, j < 2 → ho1 j = if ho j = some a then none else ho j) (hl : l4.map rw1 = jwKp (w.2.2.2.map rw1) (rw1 x)) (hm : ∀ z ∈ l4, z ∈ w.2.2.2 ∨ z = x) (hw : w1 = (w.s3 l4).s2 (w.2.2.1.filter (fun z => !jzRd q3 qq z))) : jcZ G1 s0 t q3 w1 ho1 us rw1 qq ib S (jwFin S Z i d) := by
  obtain ⟨y0, m0, z1, z2, z3, z4, z5, z6, z7, z8, z9, z10, z11⟩ := h.at hi
  obtain ⟨hz, h1, h2, h3, -⟩ := h
  obtain ⟨u1, u2, u3, u4, u5, u6, u7, u8, u9⟩ := (jKg.pt (q := q) (a := a) (sn := q.sn a) (ck := q.ck a) (lf := q.lf a) (cv := q.cv a) (fv := .null) (sb := q.sb a) (se := q.se a) (sc := q.sc a) (bh := q.bh a))
  obtain ⟨p1, p2, p3, p4, p5, p6, p7, p8, p9⟩ := (jKg.pt (q := q) (a := a) (sn := q.sn a) (ck := q.ck a) (lf := c) (cv := q.cv a) (fv := q.fv a) (sb := q.sb a) (se := q.se a) (sc := q.sc a) (bh := q.bh a))
  rw [← hq] at p1 p2 p3 p4 p5 p6 p7 p8 p9
  obtain ⟨c2, b2, hq2, hc2, hb2, hb3⟩ := hA
  obtain ⟨v1, v2, v3, v4, v5, v6, v7, v8, v9⟩ := (jKg.pt (q := q1) (a := a) (sn := q1.sn a) (ck := c2) (lf := q1.lf a) (cv := q1.cv a) (fv := q1.fv a) (sb := q1.sb a) (se := q1.se a) (sc := q1.sc a) (bh := b2))
  rw [← hq2] at v1 v2 v3 v4 v5 v6 v7 v8 v9
  obtain ⟨w1', w2', w3', w4', w5', w6', w7', w8', w9'⟩ := (jKg.pt (q := q2) (a := a) (sn := q2.sn a) (ck := q2.ck a) (lf := 0) (cv := .null) (fv := .null) (sb := q2.sb a) (se := q2.se a) (sc := q2.sc a) (bh := q2.bh a))
  have hR' : q3 = q2.put a (q2.sn a) (q2.ck a) 0 .null .null (q2.sb a) (q2.se a) (q2.sc a) (q2.bh a) := hR
  rw [← hR'] at w1' w2' w3' w4' w5' w6' w7' w8' w9'
  have hag : ∀ b, b ≠ a → jzAg (q.fn a) q3 b := fun b hb => by
    have e1 : jzAg q (q.fn a) b := jzAg.put hb
    have e2 : jzAg q q1 b := by rw [hq]; exact jzAg.put hb
    have e3 : jzAg q1 q2 b := by rw [hq2]; exact jzAg.put hb
    have e4 : jzAg q2 q3 b := by rw [hR']; exact jzAg.put hb
    obtain ⟨a1, a2, a3, a4, a5, a6, a7, a8, a9⟩ := e1
    exact (show jzAg (q.fn a) q b from ⟨a1.symm, a2.symm, a3.symm, a4.symm, a5.symm, a6.symm, a7.symm, a8.symm, a9.symm⟩).tr (e2.tr (e3.tr e4))
  have eck : (q1.ck a).toInt = Z.1 d := by rw [p2]; exact z5
  have hother : ∀ j, j < 2 → j ≠ i → ho j ≠ some a := fun j hj hne c1 => by
    have e : ho 0 = ho 1 := by
      rcases (by omega : (i = 0 ∧ j = 1) ∨ (i = 1 ∧ j = 0)) with ⟨r, s⟩ | ⟨r, s⟩
      · subst r s; rw [h1, c1]
      · subst r s; rw [h1, c1]
    have := hz.2.2.2.2.2.1 e
    rcases (by omega : i = 0 ∨ i = 1) with r | r
    · subst r; rw [h1] at this; cases this
    · subst r; rw [← e, this] at h1; cases h1
  have hwa : w1.1 = w.1 := by rw [hw]; rfl
  have hwb : w1.2.1 = w.2.1 := by rw [hw]; rfl
  have hcs : jdCs t w1 = jdCs t w := by unfold jdCs; rw [hwa, hwb]
  have hiv : jdIv t w1 := by
    have := hz.1
    unfold jdIv at this ⊢
    rw [hwa, hwb]
    exact this
  have hrow : jwR S d (Z.1 d + 1) = jcR (t.tx a) (t.ln a).toInt (Z.1 d + 1).toNat := hz.rwo h2 h3 _
  have hDd : ∀ (e b : Nat), (e : Int) < w.1 → w.2.1 e = some b → b ≠ a → (e : Int) ≠ (d : Int) := fun e b he hb hne c1 => hne (by
    have : e = d := by omega
    subst this
    exact Option.some.inj (hb.symm.trans h3))
  have hk1 : (jwFin S Z i d).1 d = Z.1 d + 1 := by show jwUp Z.1 d (Z.1 d + 1) d = _; unfold jwUp; rw [if_pos rfl]
  have hk2 : ∀ e : Int, e ≠ d → (jwFin S Z i d).1 e = Z.1 e := fun e he => by show jwUp Z.1 d (Z.1 d + 1) e = _; unfold jwUp; rw [if_neg he]
  refine ⟨hiv, hcs.trans hz.2.1, fun e b he hb => ?_, fun j hj => ?_, fun e b he hb e0 e1 => ?_, fun e => ?_, ?_, ?_, by rw [hwa]; exact hz.2.2.2.2.2.2.2.2.1, hle _ _ hz.2.2.2.2.2.2.2.2.2.1, ?_, ?_, ?_⟩
  · rw [hwa] at he
    rw [hwb] at hb
    by_cases c1 : b = a
    · subst c1
      have ee : e = d := hz.inj he h2 (hb.trans h3.symm)
      subst ee
      rw [hk1]
      have hD := hz.2.2.1 e b he hb
      obtain ⟨k1, k2, k3, k4, k5, k6, k7, k8, k9⟩ := hD
      rw [show (q.fn b).sn b = q.sn b from u1] at k1 k2 k3 k6 k7
      rw [show (q.fn b).sb b = q.sb b from u6, show (q.fn b).se b = q.se b from u7] at k2
      rw [show (q.fn b).sc b = q.sc b from u8] at k3
      rw [show (q.fn b).bh b = q.bh b from u9] at k8
      unfold jzD
      rw [w1', v1, p1, w6', v6, p6, w7', v7, p7, w8', v8, p8, w2', v2, w9', v9, w5']
      refine ⟨k1, k2, k3, by rw [hc2, eck], by omega, by omega, k7, fun i1 hi1 => ?_, rfl⟩
      by_cases c3 : (i1 : Int) = Z.1 e
      · refine ⟨x, ?_, gx, ?_⟩
        · rw [show i1 = (q1.ck b).toInt.toNat by omega]; exact hb2
        · rw [hx, show (Z.1 e + 1).toNat = i1 + 1 by omega]
      · obtain ⟨x1, e1, e2, e3⟩ := k8 i1 (by omega)
        refine ⟨x1, ?_, hle _ _ e2, by rw [hr x1 e2]; exact e3⟩
        rw [hb3 i1 (by omega) (by omega), p9]; exact e1
    · rw [hk2 e (hDd e b he hb c1)]
      exact (hz.2.2.1 e b he hb).tr (hag b c1) hr hle
  · by_cases c1 : j = i
    · subst c1
      refine Or.inl ⟨by rw [hh j hj, if_pos h1], ?_⟩
      show jwUw Z.2.1 (j : Int) (-1, 0) (j : Int) = _
      unfold jwUw
      rw [if_pos rfl]
    · have hne := hother j hj c1
      refine (hz.2.2.2.1 j hj).tr (fun b hb => hag b (fun c3 => hne (by rw [← c3]; exact hb))) (fun _ _ _ => rfl) (by rw [hh j hj, if_neg hne]) ?_ (fun e b he hb hb1 => hk2 e (hDd e b he hb (fun c3 => hne (by rw [← c3]; exact hb1)))) hwa hwb hle
      show jwUw Z.2.1 (i : Int) _ (j : Int) = _
      unfold jwUw
      rw [if_neg (by omega)]
  · rw [hwa] at he
    rw [hwb] at hb
    by_cases c1 : b = a
    · subst c1; exact w4'
    · rw [(hag b c1).2.2.2.1]
      refine hz.2.2.2.2.1 e b he hb (fun c3 => e0 ?_) (fun c3 => e1 ?_)
      · rw [hh 0 (by omega), c3, if_neg (fun c4 => c1 (Option.some.inj c4))]
      · rw [hh 1 (by omega), c3, if_neg (fun c4 => c1 (Option.some.inj c4))]
  · have g0 := hh 0 (by omega)
    have g1 := hh 1 (by omega)
    rcases (by omega : i = 0 ∨ i = 1) with r | r
    · subst r; rw [g0, if_pos h1]
    · subst r; rw [e, g1, if_pos h1]
  · have hW := hz.2.2.2.2.2.2.1
    rw [hw]
    show (w.2.2.1.filter _).length = (Z.2.2.1.filter _).length ∧ _
    refine jzFil (R := fun x p => jzR w qq ib x p ∧ p ∈ Z.2.2.1) (R1 := jzR ((w.s3 l4).s2 (w.2.2.1.filter (fun z => !jzRd q3 qq z))) qq ib) (fun z p hzp => ?_) (fun z p hzp => hzp.1) w.2.2.1 Z.2.2.1 hW.1 (fun j z p hz1 hp1 => ⟨hW.2 j z p hz1 hp1, List.mem_of_getElem? hp1⟩)
    obtain ⟨⟨e, b, i1, r1, r2, r3, r4, r5, -⟩, hmem⟩ := hzp
    have hwt := hok.2.2.2.1 p hmem
    show (!jzRd q3 qq z) = (!jwRy d (Z.1 d + 1) p)
    rw [jzRd.r r3]
    unfold jwRy
    by_cases c1 : b = a
    · subst c1
      have ee : e = d := hz.inj r1 h2 (r2.trans h3.symm)
      subst ee
      rw [w2', v2, hc2, eck, r4, r5, decide_eq_true (rfl : ((e : Int)) = e)]
      rfl
    · have hne := hDd e b r1 r2 c1
      have hck : (q3.ck b).toInt = Z.1 e := by
        rw [(hag b c1).2.1]
        exact (hz.2.2.1 e b r1 r2).2.2.2.1
      rw [hck, decide_eq_false (by rw [← r5]; have := hwt.2.2; rw [r4] at this; omega), decide_eq_false (by rw [r4]; exact hne)]
      rfl
  · rw [hw]
    show jwKp Z.2.2.2 (jwR S d (Z.1 d + 1)) = l4.map rw1
    rw [hl, hz.2.2.2.2.2.2.2.1, hrow, hx]
    congr 1
    exact List.map_congr_left (fun z hz1 => (hr z (hz.2.2.2.2.2.2.2.2.2.2.2.1 z hz1).1).symm)
  · rw [hr _ hz.2.2.2.2.2.2.2.2.2.1]; exact hz.2.2.2.2.2.2.2.2.2.2.1
  · intro z hz1
    rw [hw] at hz1
    have hz1 : z ∈ l4 := hz1
    rcases hm z hz1 with c1 | c1
    · have := hz.2.2.2.2.2.2.2.2.2.2.2.1 z c1
      exact ⟨hle _ _ this.1, by rw [hr z this.1]; exact this.2⟩
    · subst c1
      refine ⟨gx, ?_, by rw [hx]; exact jcR.en _⟩
      rw [hx, jcR.pos z7]
      intro c3
      have := congrArg List.length c3
      simp at this
  · intro e b he hb
    rw [hwa] at he
    rw [hwb] at hb
    exact hz.2.2.2.2.2.2.2.2.2.2.2.2 e b he hb
theorem jcZ.hoc (h : jcZ G s0 t q w ho us rw qq ib S Z) (hh : ∀ j, j < 2 → ho1 j = ho j) : jcZ G s0 t q w ho1 us rw qq ib S Z := by
  obtain ⟨h1, h2, h3, h4, h5, h6, h7⟩ := h
  refine ⟨h1, h2, h3, fun i hi => ?_, fun d b hd hb e0 e1 => ?_, fun e => ?_, h7⟩
  · have := h4 i hi
    unfold jzK at this ⊢
    rw [hh i hi]
    exact this
  · rw [hh 0 (by omega)] at e0
    rw [hh 1 (by omega)] at e1
    exact h5 d b hd hb e0 e1
  · rw [hh 0 (by omega), hh 1 (by omega)] at e
    rw [hh 0 (by omega)]
    exact h6 e
theorem jcY.dec2 {cv fv : Value} (h : jcY G s0 t q w ho us rw qq ib S Z a d i) (hi : i < 2) (hq : q1 = q.put a (q.sn a) (q.ck a) c cv fv (q.sb a) (q.se a) (q.sc a) (q.bh a)) (hcv : q.cv a = cv) (hfv : q.fv a = fv) (hc : c.toInt = (q.lf a).toInt - 1) (h0 : 0 < c.toInt) : jcZ G s0 t q1 w ho us rw qq ib S (jwDc Z i) := h.dec hi (by rw [hcv, hfv]; exact hq) hc h0
theorem jcY.fin2 {cv fv : Value} (h : jcY G s0 t q w ho us rw qq ib S Z a d i) (hi : i < 2) (hle : jLe G G1) (hok : jwOk S Z) (hlt : Z.1 d < jwS S d) (hq : q1 = q.put a (q.sn a) (q.ck a) c cv fv (q.sb a) (q.se a) (q.sc a) (q.bh a)) (hcv : q.cv a = cv) (hfv : q.fv a = fv) (hA : jzAd q1 q2 a x) (hR : jzRe q2 q3 a) (hx : rw1 x = jcR (t.tx a) (t.ln a).toInt (Z.1 d + 1).toNat) (gx : G1 x = some (11, 0)) (hr : ∀ z, G z = some (11, 0) → rw1 z = rw z) (hh : ∀ j, j < 2 → ho1 j = if ho j = some a then none else ho j) (hl : l4.map rw1 = jwKp (w.2.2.2.map rw1) (rw1 x)) (hm : ∀ z ∈ l4, z ∈ w.2.2.2 ∨ z = x) (hw : w1 = (w.s3 l4).s2 (w.2.2.1.filter (fun z => !jzRd q3 qq z))) : jcZ G1 s0 t q3 w1 ho1 us rw1 qq ib S (jwFin S Z i d) := h.fin hi hle hok hlt (by rw [hcv, hfv]; exact hq) hA hR hx gx hr hh hl hm hw
end J9L
end
