section
-- p8: units of the open texts are not below 0
section J9T
variable {T : Nat → Int → Int} {v n c : Int} {g : Int → Int} {S : Int × (Int → jdD)} {t : jDtl} {w : jWl9}
theorem jdSu.op (h : jdSu S) (hT : jdTu T v) : jdSu (jdOpen T v S) := by
  unfold jdOpen
  split
  · intro d h0 h1 j
    show 0 ≤ (jdUp S.2 S.1 (jdNd T v) d).2.2.1 j
    unfold jdUp
    split
    · exact jdKp.nn (hT _) j
    · rename_i q
      exact h d h0 (by have h1 : d < S.1 + 1 := h1; omega) j
  · exact h
end J9T
end
section
-- p8: a document is made, and opened: the class's side of the machine
section J9Y
variable {dC : Nat → ClassId} {dI : Nat → Nat → Nat} {ca : Nat → ClassId} {G : jT} {H : Heap} {q : jKg}
end J9Y
section J9Z
variable {G G1 : jT} {s0 a : Nat} {t t1 t2 : jDtl} {q g1 q1 : jKg} {w w1 : jWl9} {ho : Nat → Option Nat} {us rw : Nat → List Int} {qq : jRqG} {ib : Nat → List Int} {S S8 : Int × (Int → jdD)} {Z Z8 : jwSt} {T : Nat → Int → Int} {v : Int} {sn lf : Int32} {cv fv : Value} {sb se sc : Nat → Int32} {bh : Nat → Option Nat} {ve ln : Int32} {tx ux : Nat → Int32} {ul : Nat}
theorem jcZ.on0 (h : jcZ G s0 t q w ho us rw qq ib S Z) (hs : jdCs t w = jdOpen T v (jdCs t w)) (e1 : S8 = jdOpen T v S) (e2 : Z8 = jwOp T v S Z) : jcZ G s0 t q w ho us rw qq ib S8 Z8 := by
  rw [h.2.1] at hs
  rw [e1, e2, jwOp.z hs, ← hs]
  exact h
theorem jcZ.opz (h : jcZ G s0 t q w ho us rw qq ib S Z) (hle : jLe G G1) (hop : jdOp T v (jdCs t w).1 (jdCs t w).2 = 1) (hn : ∀ i : Nat, (i : Int) < w.1 → w.2.1 i ≠ some a) (h1 : jDnw t t1 a) (h2 : t2 = t1.put a ve ln tx ul ux) (hK0 : jKnw q g1 a) (hK : q1 = g1.put a sn (g1.ck a) lf cv (g1.fv a) sb se sc bh) (hcv : cv = .null) (hsn : sn.toInt = jPar tx ln.toInt) (h0 : 0 ≤ sn.toInt) (h40 : sn.toInt ≤ 40) (hP : jcP tx ln.toInt sb se sn.toInt) (hPc : jcPc tx ln.toInt sc sn.toInt) (hw : w1 = w.s1 (w.1 + 1) (jUf w.2.1 w.1.toNat (some a))) (hI : jdIv t2 w1) (hS : jdCs t2 w1 = jdOpen T v (jdCs t w)) (hTu : jdTu T v) (e1 : S8 = jdOpen T v S) (e2 : Z8 = jwOp T v S Z) : jcZ G1 s0 t2 q1 w1 ho us rw qq ib S8 Z8 := by
  have eS : jdCs t w = S := h.2.1
  rw [eS] at hop hS
  obtain ⟨z1, z2, z3, z4, z5⟩ := hK0.z
  obtain ⟨u1, u2, u3, u4, u5, u6, u7, u8, u9⟩ := (jKg.pt (q := g1) (a := a) (sn := sn) (ck := g1.ck a) (lf := lf) (cv := cv) (fv := g1.fv a) (sb := sb) (se := se) (sc := sc) (bh := bh))
  rw [← hK] at u1 u2 u3 u4 u5 u6 u7 u8 u9
  have x1 : t2.tx a = tx := by rw [h2]; exact jUf_s _ _ _
  have x2 : t2.ln a = ln := by rw [h2]; exact jUf_s _ _ _
  have hw0 : 0 ≤ w.1 := h.1.2.2.2
  have hw3 : w.1 < 3 := by
    unfold jdOp at hop
    split at hop
    · rename_i g
      have g3 := g.2.2.2.2.2.2.2
      have := h.n
      omega
    · omega
  have ew1 : w1.1 = w.1 + 1 := by rw [hw]; rfl
  have ew2 : w1.2.1 = jUf w.2.1 w.1.toNat (some a) := by rw [hw]; rfl
  have ewa : w1.2.1 w.1.toNat = some a := by rw [ew2]; exact jUf_s _ _ _
  rw [e1, e2, show jwOp T v S Z = (jwUp Z.1 S.1 0, Z.2) from if_pos hop]
  have hu := jdSu.u hS (jdSu.op h.su hTu)
  refine h.opn (a := a) hle hn (fun b hb => ?_) (hu w.1.toNat a (by omega) ewa) (fun b hb => (z5 b hb).tr (by rw [hK]; exact jzAg.put hb)) (by rw [u1, x1, x2]; exact hsn) (by rw [u1, u6, u7, x1, x2]; exact hP) (by rw [u1, u8, x1, x2]; exact hPc) (by rw [u1]; exact h40) (by rw [u1]; exact h0) (by rw [u2]; exact z2) (by rw [u4]; exact hcv) (by rw [u5]; exact z4) ew1 (fun i hi => by rw [ew2]; exact jUf_n _ _ (by omega)) ewa (by rw [hw]; rfl) (by rw [hw]; rfl) (by omega) hI hS
  obtain ⟨f, g, e⟩ := h1
  rw [h2, e]
  exact ⟨(jUf_n _ _ hb).trans (jUf_n _ _ hb), (jUf_n _ _ hb).trans (jUf_n _ _ hb)⟩
end J9Z
end
section
def EX1_initK : List (Nat × Nat) := []
set_option maxHeartbeats 4000000 in
set_option maxRecDepth 20000 in
theorem uX1_initK (l : Launch) (dC : Nat → ClassId) (dI : Nat → Nat → Nat) (ca : Nat → ClassId) (base : Nat) (B : jF) (hB : jBok B) (hAp : jAp (dC, dI)) (hB3 : ∀ n G a H, B 3 n G a H ↔ jOb (dC, dI) 3 17 (F3 n G) a H) (hB11 : ∀ n G a H, B 11 n G a H ↔ jOb (dC, dI) 11 9 (F11 n G) a H) (hB171 : ∀ n G a H, B 171 n G a H ↔ jAr (dC, dI) (ca 1) (fun j z => 0 ≤ z.toInt ∧ z.toInt ≤ 1500) n a H) (hB172 : ∀ n G a H, B 172 n G a H ↔ jAr (dC, dI) (ca 1) (fun j z => 0 ≤ z.toInt ∧ z.toInt ≤ 1500) n a H) (hB173 : ∀ n G a H, B 173 n G a H ↔ jAr (dC, dI) (ca 1) (fun j z => True) n a H) (hB174 : ∀ n G a H, B 174 n G a H ↔ jAr (dC, dI) (ca 1) (fun j z => True) n a H) (hB176 : ∀ n G a H, B 176 n G a H ↔ jAr (dC, dI) (ca 1) (fun j z => True) n a H) (hB177 : ∀ n G a H, B 177 n G a H ↔ jAr (dC, dI) (ca 1) (fun j z => True) n a H) (hB210 : ∀ n G a H, B 210 n G a H ↔ jAq (dC, dI) (ca 6) (jQn 11 0) n G a H) (G0 : jT) (H0 : Heap) (r0 : Nat) (kn : Nat) (ph : Nat) (tq : jDtl) (kq : jKg) (LC LS : Nat) : Met l yX1_init (jw yX1_init cX1_init 1 none) ({ frames := 1, cells := LC - H0.size, slots := LS - jTot H0, locals := 31 }) (va_Pc [.ref r0] (fun U => U.heap = H0 ∧ jX B base G0 [] H0 ∧ jG dC dI ca base U ∧ jK2 dC dI ca U ∧ jK6 U ∧ va_at (dC, dI) vwCl (r0, .inr (3, [.null, .int 0, .null, .int 0, .int 0, .null, .null, .null, .null, .null, .int 0, .null, .null, .int 0, .int 0, .int 0, .int 0])) H0 ∧ (∀ t, G0 r0 ≠ some t) ∧ base ≤ r0 ∧ jP (dC, dI) G0 H0 [] ∧ jIs (dC, dI) G0 H0 [(jFdo, jDcc dC dI ca G0 none ph), (jFcd, jCD dC dI ca G0 none tq), (jFkd, jKD dC dI ca G0 none kq)] ∧ H0.size + 7 ≤ LC ∧ jTot H0 + 1700 ≤ LS ∧ True)) (va_Qv (S := Int32 × Int32 × Int32 × jDtl × jKg × jT) (fun u => u.1.toInt = 0 ∧ u.2.1.toInt = 0 ∧ u.2.2.1.toInt = 0 ∧ jDnw tq u.2.2.2.1 r0 ∧ jKnw kq u.2.2.2.2.1 r0) (fun u t => jRa (dC, dI) B base G0 u.2.2.2.2.2 EX1_initK H0 (7) (1700) [(r0, 3, 10, .int u.1), (r0, 3, 4, .int u.2.1), (r0, 3, 3, .int u.2.2.1)] t.heap ∧ (jNk [0, 1, 2, 4, 5, 6, 7, 8, 9, 10, 11, 12, 13, 14, 15, 16, 17, 175]) G0 u.2.2.2.2.2 ∧ u.2.2.2.2.2 r0 = some (3, kn) ∧ jKx r0 G0 u.2.2.2.2.2 H0 t.heap ∧ jIs (dC, dI) u.2.2.2.2.2 t.heap [(jFdo, jDcc dC dI ca u.2.2.2.2.2 none (ph + 1500)), (jFcd, jCD dC dI ca u.2.2.2.2.2 none (u.2.2.2.1)), (jFkd, jKD dC dI ca u.2.2.2.2.2 none (u.2.2.2.2.1))]) (jA base)) (LC - H0.size) (LS - jTot H0) (jA base) := by
  refine Met.ofW (cc := cX1_init) (maxL := 1) (ret := none) (by decide) rfl ?_
  intro p e s m args below meth c s₁ Bd hml hv
  obtain ⟨rfl, hH0, hX, hG, hK2, hK6, hraw0, hnr0, hbr0, hP0, hI0, hLC0, hLS0, hp0⟩ := hv
  have hK := hG.1
  have hx := Bd.exec
  have hb := Bd.bytes
  have hr := Bd.returns
  have hts := atoms_spec (ws := (jw yX1_init cX1_init 1 none)) Bd.pre
  have htw : ∀ w ∈ jWl, w.before _ s = true := fun w h => hts w (List.mem_cons_of_mem _ h)
  have hown : s.vm.findClass RX1 = some m.cls := findClass_of_methodNamed Bd.named
  have hlocks := Bd.notSynchronized
  obtain ⟨Q, hQ⟩ : ∃ Q, Q = MQ below (va_Qv (S := Int32 × Int32 × Int32 × jDtl × jKg × jT) (fun u => u.1.toInt = 0 ∧ u.2.1.toInt = 0 ∧ u.2.2.1.toInt = 0 ∧ jDnw tq u.2.2.2.1 r0 ∧ jKnw kq u.2.2.2.2.1 r0) (fun u t => jRa (dC, dI) B base G0 u.2.2.2.2.2 EX1_initK H0 (7) (1700) [(r0, 3, 10, .int u.1), (r0, 3, 4, .int u.2.1), (r0, 3, 3, .int u.2.2.1)] t.heap ∧ (jNk [0, 1, 2, 4, 5, 6, 7, 8, 9, 10, 11, 12, 13, 14, 15, 16, 17, 175]) G0 u.2.2.2.2.2 ∧ u.2.2.2.2.2 r0 = some (3, kn) ∧ jKx r0 G0 u.2.2.2.2.2 H0 t.heap ∧ jIs (dC, dI) u.2.2.2.2.2 t.heap [(jFdo, jDcc dC dI ca u.2.2.2.2.2 none (ph + 1500)), (jFcd, jCD dC dI ca u.2.2.2.2.2 none (u.2.2.2.1)), (jFkd, jKD dC dI ca u.2.2.2.2.2 none (u.2.2.2.2.1))]) (jA base)) ([.ref r0] : List Value).toArray s (LC - H0.size) (LS - jTot H0) (jA base) := ⟨_, rfl⟩
  rw [← hQ]
  have hl := lv_entry ([.ref r0]) (n := 1) (Nat.le_of_ble_eq_true rfl)
  rw [lg_entry_eq]
  generalize (lg_sl ([.ref r0]) ++ List.replicate (1 - (lg_sl ([.ref r0])).length) Slot.unset).toArray = ls at hl ⊢
  have hl : lv_has ls 1 [(0, .ref r0)] := hl
  generalize hR : (headSpec (jw yX1_init cX1_init 1 none) ({ frames := 1, cells := LC - H0.size, slots := LS - jTot H0, locals := 31 })).room = R
  subst hH0
  have hh : jSt (dC, dI) B base G0 G0 EX1_initK s.heap 0 0 [] [] [(jFdo, jDcc dC dI ca G0 none ph), (jFcd, jCD dC dI ca G0 none tq), (jFkd, jKD dC dI ca G0 none kq)] s.heap [] := jSt.start hX hP0 jMc.nil hI0
  clear hX hP0
  have hk0 : (0 : Int32).toInt = 0 := by decide
  have hk1 : (1 : Int32).toInt = 1 := by decide
  have hk40 : (40 : Int32).toInt = 40 := by decide
  have hk1500 : (1500 : Int32).toInt = 1500 := by decide
  have hly_3_0 := htw (u_lay RX1 TX1 0) (jWc_wsX10 _ (u_in_lay (by decide)))
  have hly_3_2 := htw (u_lay RX1 TX1 2) (jWc_wsX10 _ (u_in_lay (by decide)))
  have hly_3_5 := htw (u_lay RX1 TX1 5) (jWc_wsX10 _ (u_in_lay (by decide)))
  have hly_3_6 := htw (u_lay RX1 TX1 6) (jWc_wsX10 _ (u_in_lay (by decide)))
  have hly_3_7 := htw (u_lay RX1 TX1 7) (jWc_wsX10 _ (u_in_lay (by decide)))
  have hly_3_8 := htw (u_lay RX1 TX1 8) (jWc_wsX10 _ (u_in_lay (by decide)))
  have hly_3_9 := htw (u_lay RX1 TX1 9) (jWc_wsX10 _ (u_in_lay (by decide)))
  have hlk_9 := (htw (.fieldLink RX1 9 "ProofServer$Document" "uri" "[I") (jWr_10 _ (List.mem_of_getElem? (i := 5) rfl)))
  have hlk_15 := (htw (.fieldLink RX1 15 "ProofServer$Document" "text" "[I") (jWr_10 _ (List.mem_of_getElem? (i := 6) rfl)))
  have hlk_18 := (htw (.fieldLink RX1 18 "ProofServer$Document" "starts" "[I") (jWr_10 _ (List.mem_of_getElem? (i := 7) rfl)))
  have hlk_21 := (htw (.fieldLink RX1 21 "ProofServer$Document" "ends" "[I") (jWr_10 _ (List.mem_of_getElem? (i := 8) rfl)))
  have hlk_24 := (htw (.fieldLink RX1 24 "ProofServer$Document" "costs" "[I") (jWr_10 _ (List.mem_of_getElem? (i := 9) rfl)))
  have hlk_27 := (htw (.fieldLink RX1 27 "ProofServer$Document" "early" "[I") (jWr_10 _ (List.mem_of_getElem? (i := 10) rfl)))
  have hlk_32 := (htw (.fieldLink RX1 32 "ProofServer$Document" "behind" "[LProofServer$State;") (jWr_10 _ (List.mem_of_getElem? (i := 12) rfl)))
  have hbs : base ≤ s.heap.size := Nat.le_of_lt (Nat.lt_of_le_of_lt hbr0 hraw0.lt)
  have hRc : R.cells = LC - s.heap.size := by rw [← hR]; rfl
  have hRs : R.slots = LS - jTot s.heap := by rw [← hR]; rfl
  have hU0 := hh.iv 1 rfl
  have hKd0 := hh.iv 2 rfl
  have hE0 := hh.iv 0 rfl
  have hab0 : ∀ {a : Nat} {t : Nat × Nat}, G0 a = some t → a < s.heap.size := fun ht => (hh.ab ht).2
  have hin2 : meth.name = "<init>" := (name_of_methodNamed Bd.named Bd.method).1
  have hkp : jKx r0 G0 G0 s.heap s.heap := jKx.rf
  refine lv_aload_n hx hb dX1_init_0 rfl (lv_at hl 0 rfl) ?_
  refine W.objInit hx hb hown (htw (.methodLink RX1 3 objectInit) (jWr_10 _ (List.mem_of_getElem? (i := 4) rfl))) (htw (.instanceMethod objectInit) (jWr_1 _ (List.mem_of_getElem? (i := 10) rfl))) (htw (.code objectInit ⟨#[0xb1]⟩ 1 none) (jWr_1 _ (List.mem_of_getElem? (i := 11) rfl))) rfl (by rw [hml]; exact hl.1) rfl dX1_init_1 (by rw [← hR]; exact Nat.le_of_ble_eq_true rfl) (by rw [← hR]; exact Nat.le_of_ble_eq_true rfl) ?_
  refine W.eq (g2 := F0 m 4 ls []) rfl ?_
  refine lv_aload_n hx hb dX1_init_4 rfl (lv_at hl 0 rfl) ?_
  refine lv_iconst (v := 0) hx hb dX1_init_5 (by decide) ?_
  have hsz_1 := hh.2.2.2.2.2.1
  have htt_1 := hh.2.2.2.2.2.2.1
  refine j7_newiK hx hb hK hh hB (atype := .int) (ty := .int) (htw (.arrayClass .int) (jWr_3 _ (List.mem_of_getElem? (i := 20) rfl))) rfl rfl (fun _ h => h) hB174 1 rfl (by decide) (by decide) hbs (x := 0) (by decide) (by omega) (fun j => by first | trivial | decide | rfl | exact Or.inl rfl | exact Or.inr (Or.inl (by decide)) | (refine ⟨?_, ?_⟩ <;> decide)) (by rw [hRc]; omega) (by rw [hRs]; omega) dX1_init_6 (fun H_1 hfr_1 hh_1 => ?_)
  have hh_1 : jSt (dC, dI) B base G0 (va_up G0 s.heap.size (some (174, 0))) EX1_initK s.heap (0 + 1) (0 + 0) [] [] [(jFdo, jDcc dC dI ca G0 none ph), (jFcd, jCD dC dI ca G0 none tq), (jFkd, jKD dC dI ca G0 none kq)] H_1 [] := hh_1
  have hM_1 : jNk [1, 2, 3, 11] G0 (va_up G0 s.heap.size (some (174, 0))) := jNk.new (by decide)
  have hW_1 : jNk [0, 1, 2, 3, 4, 5, 6, 7, 8, 9, 10, 11, 12, 13, 14, 15, 16, 17, 175] G0 (va_up G0 s.heap.size (some (174, 0))) := jNk.new (by decide)
  have hN_1 : (jNk [0, 1, 2, 4, 5, 6, 7, 8, 9, 10, 11, 12, 13, 14, 15, 16, 17, 175]) G0 (va_up G0 s.heap.size (some (174, 0))) := jNk.new (by decide)
  have hgn_1 : (va_up G0 s.heap.size (some (174, 0))) s.heap.size = some (174, 0) := jUp_self
  have hle_1 : jLe G0 (va_up G0 s.heap.size (some (174, 0))) := jLe.new hh.2.1.fresh
  have hke_1 : jKe G0 (va_up G0 s.heap.size (some (174, 0))) s.heap H_1 := jKe.new hfr_1
  have hsy_1 : s.heap.size ≤ s.heap.size := hh.1.1
  generalize (va_up G0 s.heap.size (some (174, 0))) = G_1 at hN_1 hgn_1 hle_1 hke_1 hh_1 hM_1 hW_1
  clear hh
  have hNn_1 : (jNk [0, 1, 2, 4, 5, 6, 7, 8, 9, 10, 11, 12, 13, 14, 15, 16, 17, 175]) G0 G_1 := (jNk.rf).tr hN_1
  have hkp_2 := hkp.tr hke_1
  have hraw_3n := hke_1.nr hraw0.lt hnr0
  have hraw_3 := hraw0.kept (hke_1.1 _ hraw0.lt)
  have hn3_1 : jNk [3] G0 G_1 := (jNk.rf).tr (hM_1.sub (ks1 := [3]) (by decide))
  have hd_4 := jDcc.grow (hh_1.iv 0 rfl) hle_1 hM_1 (by decide)
  have hh_5 := hh_1.sub (L1 := []) [] rfl (M1 := []) [] rfl (I1 := [(jFcd, jCD dC dI ca G0 none tq), (jFkd, jKD dC dI ca G0 none kq)]) [1, 2] rfl
  clear hh_1
  have hh_6 := hh_5.addI (jDcc.ie hd_4)
  clear hh_5
  have hd_7 := jCD.grow (hh_6.iv 1 rfl) hle_1 hM_1 (by decide)
  have hh_8 := hh_6.sub (L1 := []) [] rfl (M1 := []) [] rfl (I1 := [(jFdo, jDcc dC dI ca G_1 none ph), (jFkd, jKD dC dI ca G0 none kq)]) [0, 2] rfl
  clear hh_6
  have hh_9 := hh_8.addI (jCD.ie hd_7)
  clear hh_8
  have hd_10 := jKD.grow (ca := ca) (hh_9.iv 2 rfl) hle_1 hW_1 (by decide)
  have hh_11 := hh_9.sub (L1 := []) [] rfl (M1 := []) [] rfl (I1 := [(jFcd, jCD dC dI ca G_1 none tq), (jFdo, jDcc dC dI ca G_1 none ph)]) [0, 1] rfl
  clear hh_9
  have hh_12 := hh_11.addI (jKD.ie hd_10)
  clear hh_11
  refine j7_putR hx hb hown hK hh_12 hB hAp hraw_3 hraw_3n hbr0 (C := RX1) (T := TX1) (N := 17) rfl (i := 0) (by decide) (Nat.le_of_ble_eq_true rfl) hly_3_0 rfl hlk_9 (ty := (.array .int)) (v := .ref s.heap.size) (by decide +kernel) rfl rfl dX1_init_8 (fun H_13 locs_13 hraw_13 hr_13 hh_13 => ?_)
  have hraw_13 : va_at (dC, dI) vwCl (r0, .inr (3, [.ref s.heap.size, .int 0, .null, .int 0, .int 0, .null, .null, .null, .null, .null, .int 0, .null, .null, .int 0, .int 0, .int 0, .int 0])) H_13 := hraw_13
  have hkp_14 := hkp_2.put hr_13
  clear hh_12
  refine lv_aload_n hx hb dX1_init_11 rfl (lv_at hl 0 rfl) ?_
  refine lv_sipush (v := 1500) hx hb dX1_init_12 (by decide) ?_
  have hsz_15 := hh_13.2.2.2.2.2.1
  have htt_15 := hh_13.2.2.2.2.2.2.1
  refine j7_newiK hx hb hK hh_13 hB (atype := .int) (ty := .int) (htw (.arrayClass .int) (jWr_3 _ (List.mem_of_getElem? (i := 20) rfl))) rfl rfl (fun _ h => h) hB173 1 rfl (by decide) (by decide) hbs (x := 1500) (by decide) (by omega) (fun j => by first | trivial | decide | rfl | exact Or.inl rfl | exact Or.inr (Or.inl (by decide)) | (refine ⟨?_, ?_⟩ <;> decide)) (by rw [hRc]; omega) (by rw [hRs]; omega) dX1_init_15 (fun H_15 hfr_15 hh_15 => ?_)
  have hh_15 : jSt (dC, dI) B base G0 (va_up G_1 H_13.size (some (173, 1500))) EX1_initK s.heap ((0 + 1) + 1) ((0 + 0) + 1500) [] [] [(jFkd, jKD dC dI ca G_1 none kq), (jFcd, jCD dC dI ca G_1 none tq), (jFdo, jDcc dC dI ca G_1 none ph)] H_15 locs_13 := hh_15
  have hM_15 : jNk [1, 2, 3, 11] G_1 (va_up G_1 H_13.size (some (173, 1500))) := jNk.new (by decide)
  have hW_15 : jNk [0, 1, 2, 3, 4, 5, 6, 7, 8, 9, 10, 11, 12, 13, 14, 15, 16, 17, 175] G_1 (va_up G_1 H_13.size (some (173, 1500))) := jNk.new (by decide)
  have hN_15 : (jNk [0, 1, 2, 4, 5, 6, 7, 8, 9, 10, 11, 12, 13, 14, 15, 16, 17, 175]) G_1 (va_up G_1 H_13.size (some (173, 1500))) := jNk.new (by decide)
  have hgn_15 : (va_up G_1 H_13.size (some (173, 1500))) H_13.size = some (173, 1500) := jUp_self
  have hle_15 : jLe G_1 (va_up G_1 H_13.size (some (173, 1500))) := jLe.new hh_13.2.1.fresh
  have hke_15 : jKe G_1 (va_up G_1 H_13.size (some (173, 1500))) H_13 H_15 := jKe.new hfr_15
  have hsy_15 : s.heap.size ≤ H_13.size := hh_13.1.1
  generalize (va_up G_1 H_13.size (some (173, 1500))) = G_15 at hN_15 hgn_15 hle_15 hke_15 hh_15 hM_15 hW_15
  clear hh_13
  have hNn_15 : (jNk [0, 1, 2, 4, 5, 6, 7, 8, 9, 10, 11, 12, 13, 14, 15, 16, 17, 175]) G0 G_15 := (hNn_1).tr hN_15
  have hkp_16 := hkp_14.tr hke_15
  have hraw_17n := hke_15.nr hraw_13.lt hraw_3n
  have hraw_17 := hraw_13.kept (hke_15.1 _ hraw_13.lt)
  have hn3_15 : jNk [3] G0 G_15 := (hn3_1).tr (hM_15.sub (ks1 := [3]) (by decide))
  have hd_18 := jKD.grow (ca := ca) (hh_15.iv 0 rfl) hle_15 hW_15 (by decide)
  have hh_19 := hh_15.sub (L1 := []) [] rfl (M1 := []) [] rfl (I1 := [(jFcd, jCD dC dI ca G_1 none tq), (jFdo, jDcc dC dI ca G_1 none ph)]) [1, 2] rfl
  clear hh_15
  have hh_20 := hh_19.addI (jKD.ie hd_18)
  clear hh_19
  have hd_21 := jCD.grow (hh_20.iv 1 rfl) hle_15 hM_15 (by decide)
  have hh_22 := hh_20.sub (L1 := []) [] rfl (M1 := []) [] rfl (I1 := [(jFkd, jKD dC dI ca G_15 none kq), (jFdo, jDcc dC dI ca G_1 none ph)]) [0, 2] rfl
  clear hh_20
  have hh_23 := hh_22.addI (jCD.ie hd_21)
  clear hh_22
  have hd_24 := jDcc.grow (hh_23.iv 2 rfl) hle_15 hM_15 (by decide)
  have hh_25 := hh_23.sub (L1 := []) [] rfl (M1 := []) [] rfl (I1 := [(jFcd, jCD dC dI ca G_15 none tq), (jFkd, jKD dC dI ca G_15 none kq)]) [0, 1] rfl
  clear hh_23
  have hh_26 := hh_25.addI (jDcc.ie hd_24)
  clear hh_25
  refine j7_putRF hx hb hown hK hh_26 hB hAp hraw_17 hraw_17n hbr0 (C := RX1) (T := TX1) (N := 17) rfl (i := 2) (by decide) (Nat.le_of_ble_eq_true rfl) hly_3_2 rfl hin2 rfl hlk_15 (ty := (.array .int)) (v := .ref H_13.size) (by decide +kernel) rfl rfl dX1_init_17 (fun H_27 locs_27 hraw_27 hr_27 hh_27 => ?_)
  have hraw_27 : va_at (dC, dI) vwCl (r0, .inr (3, [.ref s.heap.size, .int 0, .ref H_13.size, .int 0, .int 0, .null, .null, .null, .null, .null, .int 0, .null, .null, .int 0, .int 0, .int 0, .int 0])) H_27 := hraw_27
  have hkp_28 := hkp_16.put hr_27
  clear hh_26
  refine lv_aload_n hx hb dX1_init_20 rfl (lv_at hl 0 rfl) ?_
  refine lv_bipush (v := 40) hx hb dX1_init_21 (by decide) ?_
  have hsz_29 := hh_27.2.2.2.2.2.1
  have htt_29 := hh_27.2.2.2.2.2.2.1
  refine j7_newiK hx hb hK hh_27 hB (atype := .int) (ty := .int) (htw (.arrayClass .int) (jWr_3 _ (List.mem_of_getElem? (i := 20) rfl))) rfl rfl (fun _ h => h) hB171 1 rfl (by decide) (by decide) hbs (x := 40) (by decide) (by omega) (fun j => by first | trivial | decide | rfl | exact Or.inl rfl | exact Or.inr (Or.inl (by decide)) | (refine ⟨?_, ?_⟩ <;> decide)) (by rw [hRc]; omega) (by rw [hRs]; omega) dX1_init_23 (fun H_29 hfr_29 hh_29 => ?_)
  have hh_29 : jSt (dC, dI) B base G0 (va_up G_15 H_27.size (some (171, 40))) EX1_initK s.heap (((0 + 1) + 1) + 1) (((0 + 0) + 1500) + 40) [] [] [(jFdo, jDcc dC dI ca G_15 none ph), (jFcd, jCD dC dI ca G_15 none tq), (jFkd, jKD dC dI ca G_15 none kq)] H_29 locs_27 := hh_29
  have hM_29 : jNk [1, 2, 3, 11] G_15 (va_up G_15 H_27.size (some (171, 40))) := jNk.new (by decide)
  have hW_29 : jNk [0, 1, 2, 3, 4, 5, 6, 7, 8, 9, 10, 11, 12, 13, 14, 15, 16, 17, 175] G_15 (va_up G_15 H_27.size (some (171, 40))) := jNk.new (by decide)
  have hN_29 : (jNk [0, 1, 2, 4, 5, 6, 7, 8, 9, 10, 11, 12, 13, 14, 15, 16, 17, 175]) G_15 (va_up G_15 H_27.size (some (171, 40))) := jNk.new (by decide)
  have hgn_29 : (va_up G_15 H_27.size (some (171, 40))) H_27.size = some (171, 40) := jUp_self
  have hle_29 : jLe G_15 (va_up G_15 H_27.size (some (171, 40))) := jLe.new hh_27.2.1.fresh
  have hke_29 : jKe G_15 (va_up G_15 H_27.size (some (171, 40))) H_27 H_29 := jKe.new hfr_29
  have hsy_29 : s.heap.size ≤ H_27.size := hh_27.1.1
  generalize (va_up G_15 H_27.size (some (171, 40))) = G_29 at hN_29 hgn_29 hle_29 hke_29 hh_29 hM_29 hW_29
  clear hh_27
  have hNn_29 : (jNk [0, 1, 2, 4, 5, 6, 7, 8, 9, 10, 11, 12, 13, 14, 15, 16, 17, 175]) G0 G_29 := (hNn_15).tr hN_29
  have hkp_30 := hkp_28.tr hke_29
  have hraw_31n := hke_29.nr hraw_27.lt hraw_17n
  have hraw_31 := hraw_27.kept (hke_29.1 _ hraw_27.lt)
  have hn3_29 : jNk [3] G0 G_29 := (hn3_15).tr (hM_29.sub (ks1 := [3]) (by decide))
  have hd_32 := jDcc.grow (hh_29.iv 0 rfl) hle_29 hM_29 (by decide)
  have hh_33 := hh_29.sub (L1 := []) [] rfl (M1 := []) [] rfl (I1 := [(jFcd, jCD dC dI ca G_15 none tq), (jFkd, jKD dC dI ca G_15 none kq)]) [1, 2] rfl
  clear hh_29
  have hh_34 := hh_33.addI (jDcc.ie hd_32)
  clear hh_33
  have hd_35 := jCD.grow (hh_34.iv 1 rfl) hle_29 hM_29 (by decide)
  have hh_36 := hh_34.sub (L1 := []) [] rfl (M1 := []) [] rfl (I1 := [(jFdo, jDcc dC dI ca G_29 none ph), (jFkd, jKD dC dI ca G_15 none kq)]) [0, 2] rfl
  clear hh_34
  have hh_37 := hh_36.addI (jCD.ie hd_35)
  clear hh_36
  have hd_38 := jKD.grow (ca := ca) (hh_37.iv 2 rfl) hle_29 hW_29 (by decide)
  have hh_39 := hh_37.sub (L1 := []) [] rfl (M1 := []) [] rfl (I1 := [(jFcd, jCD dC dI ca G_29 none tq), (jFdo, jDcc dC dI ca G_29 none ph)]) [0, 1] rfl
  clear hh_37
  have hh_40 := hh_39.addI (jKD.ie hd_38)
  clear hh_39
  refine j7_putRF hx hb hown hK hh_40 hB hAp hraw_31 hraw_31n hbr0 (C := RX1) (T := TX1) (N := 17) rfl (i := 5) (by decide) (Nat.le_of_ble_eq_true rfl) hly_3_5 rfl hin2 rfl hlk_18 (ty := (.array .int)) (v := .ref H_27.size) (by decide +kernel) rfl rfl dX1_init_25 (fun H_41 locs_41 hraw_41 hr_41 hh_41 => ?_)
  have hraw_41 : va_at (dC, dI) vwCl (r0, .inr (3, [.ref s.heap.size, .int 0, .ref H_13.size, .int 0, .int 0, .ref H_27.size, .null, .null, .null, .null, .int 0, .null, .null, .int 0, .int 0, .int 0, .int 0])) H_41 := hraw_41
  have hkp_42 := hkp_30.put hr_41
  clear hh_40
  refine lv_aload_n hx hb dX1_init_28 rfl (lv_at hl 0 rfl) ?_
  refine lv_bipush (v := 40) hx hb dX1_init_29 (by decide) ?_
  have hsz_43 := hh_41.2.2.2.2.2.1
  have htt_43 := hh_41.2.2.2.2.2.2.1
  refine j7_newiK hx hb hK hh_41 hB (atype := .int) (ty := .int) (htw (.arrayClass .int) (jWr_3 _ (List.mem_of_getElem? (i := 20) rfl))) rfl rfl (fun _ h => h) hB172 1 rfl (by decide) (by decide) hbs (x := 40) (by decide) (by omega) (fun j => by first | trivial | decide | rfl | exact Or.inl rfl | exact Or.inr (Or.inl (by decide)) | (refine ⟨?_, ?_⟩ <;> decide)) (by rw [hRc]; omega) (by rw [hRs]; omega) dX1_init_31 (fun H_43 hfr_43 hh_43 => ?_)
  have hh_43 : jSt (dC, dI) B base G0 (va_up G_29 H_41.size (some (172, 40))) EX1_initK s.heap ((((0 + 1) + 1) + 1) + 1) ((((0 + 0) + 1500) + 40) + 40) [] [] [(jFkd, jKD dC dI ca G_29 none kq), (jFcd, jCD dC dI ca G_29 none tq), (jFdo, jDcc dC dI ca G_29 none ph)] H_43 locs_41 := hh_43
  have hM_43 : jNk [1, 2, 3, 11] G_29 (va_up G_29 H_41.size (some (172, 40))) := jNk.new (by decide)
  have hW_43 : jNk [0, 1, 2, 3, 4, 5, 6, 7, 8, 9, 10, 11, 12, 13, 14, 15, 16, 17, 175] G_29 (va_up G_29 H_41.size (some (172, 40))) := jNk.new (by decide)
  have hN_43 : (jNk [0, 1, 2, 4, 5, 6, 7, 8, 9, 10, 11, 12, 13, 14, 15, 16, 17, 175]) G_29 (va_up G_29 H_41.size (some (172, 40))) := jNk.new (by decide)
  have hgn_43 : (va_up G_29 H_41.size (some (172, 40))) H_41.size = some (172, 40) := jUp_self
  have hle_43 : jLe G_29 (va_up G_29 H_41.size (some (172, 40))) := jLe.new hh_41.2.1.fresh
  have hke_43 : jKe G_29 (va_up G_29 H_41.size (some (172, 40))) H_41 H_43 := jKe.new hfr_43
  have hsy_43 : s.heap.size ≤ H_41.size := hh_41.1.1
  generalize (va_up G_29 H_41.size (some (172, 40))) = G_43 at hN_43 hgn_43 hle_43 hke_43 hh_43 hM_43 hW_43
  clear hh_41
  have hNn_43 : (jNk [0, 1, 2, 4, 5, 6, 7, 8, 9, 10, 11, 12, 13, 14, 15, 16, 17, 175]) G0 G_43 := (hNn_29).tr hN_43
  have hkp_44 := hkp_42.tr hke_43
  have hraw_45n := hke_43.nr hraw_41.lt hraw_31n
  have hraw_45 := hraw_41.kept (hke_43.1 _ hraw_41.lt)
  have hn3_43 : jNk [3] G0 G_43 := (hn3_29).tr (hM_43.sub (ks1 := [3]) (by decide))
  have hd_46 := jKD.grow (ca := ca) (hh_43.iv 0 rfl) hle_43 hW_43 (by decide)
  have hh_47 := hh_43.sub (L1 := []) [] rfl (M1 := []) [] rfl (I1 := [(jFcd, jCD dC dI ca G_29 none tq), (jFdo, jDcc dC dI ca G_29 none ph)]) [1, 2] rfl
  clear hh_43
  have hh_48 := hh_47.addI (jKD.ie hd_46)
  clear hh_47
  have hd_49 := jCD.grow (hh_48.iv 1 rfl) hle_43 hM_43 (by decide)
  have hh_50 := hh_48.sub (L1 := []) [] rfl (M1 := []) [] rfl (I1 := [(jFkd, jKD dC dI ca G_43 none kq), (jFdo, jDcc dC dI ca G_29 none ph)]) [0, 2] rfl
  clear hh_48
  have hh_51 := hh_50.addI (jCD.ie hd_49)
  clear hh_50
  have hd_52 := jDcc.grow (hh_51.iv 2 rfl) hle_43 hM_43 (by decide)
  have hh_53 := hh_51.sub (L1 := []) [] rfl (M1 := []) [] rfl (I1 := [(jFcd, jCD dC dI ca G_43 none tq), (jFkd, jKD dC dI ca G_43 none kq)]) [0, 1] rfl
  clear hh_51
  have hh_54 := hh_53.addI (jDcc.ie hd_52)
  clear hh_53
  refine j7_putRF hx hb hown hK hh_54 hB hAp hraw_45 hraw_45n hbr0 (C := RX1) (T := TX1) (N := 17) rfl (i := 6) (by decide) (Nat.le_of_ble_eq_true rfl) hly_3_6 rfl hin2 rfl hlk_21 (ty := (.array .int)) (v := .ref H_41.size) (by decide +kernel) rfl rfl dX1_init_33 (fun H_55 locs_55 hraw_55 hr_55 hh_55 => ?_)
  have hraw_55 : va_at (dC, dI) vwCl (r0, .inr (3, [.ref s.heap.size, .int 0, .ref H_13.size, .int 0, .int 0, .ref H_27.size, .ref H_41.size, .null, .null, .null, .int 0, .null, .null, .int 0, .int 0, .int 0, .int 0])) H_55 := hraw_55
  have hkp_56 := hkp_44.put hr_55
  clear hh_54
  refine lv_aload_n hx hb dX1_init_36 rfl (lv_at hl 0 rfl) ?_
  refine lv_bipush (v := 40) hx hb dX1_init_37 (by decide) ?_
  have hsz_57 := hh_55.2.2.2.2.2.1
  have htt_57 := hh_55.2.2.2.2.2.2.1
  refine j7_newiK hx hb hK hh_55 hB (atype := .int) (ty := .int) (htw (.arrayClass .int) (jWr_3 _ (List.mem_of_getElem? (i := 20) rfl))) rfl rfl (fun _ h => h) hB176 1 rfl (by decide) (by decide) hbs (x := 40) (by decide) (by omega) (fun j => by first | trivial | decide | rfl | exact Or.inl rfl | exact Or.inr (Or.inl (by decide)) | (refine ⟨?_, ?_⟩ <;> decide)) (by rw [hRc]; omega) (by rw [hRs]; omega) dX1_init_39 (fun H_57 hfr_57 hh_57 => ?_)
  have hh_57 : jSt (dC, dI) B base G0 (va_up G_43 H_55.size (some (176, 40))) EX1_initK s.heap (((((0 + 1) + 1) + 1) + 1) + 1) (((((0 + 0) + 1500) + 40) + 40) + 40) [] [] [(jFdo, jDcc dC dI ca G_43 none ph), (jFcd, jCD dC dI ca G_43 none tq), (jFkd, jKD dC dI ca G_43 none kq)] H_57 locs_55 := hh_57
  have hM_57 : jNk [1, 2, 3, 11] G_43 (va_up G_43 H_55.size (some (176, 40))) := jNk.new (by decide)
  have hW_57 : jNk [0, 1, 2, 3, 4, 5, 6, 7, 8, 9, 10, 11, 12, 13, 14, 15, 16, 17, 175] G_43 (va_up G_43 H_55.size (some (176, 40))) := jNk.new (by decide)
  have hN_57 : (jNk [0, 1, 2, 4, 5, 6, 7, 8, 9, 10, 11, 12, 13, 14, 15, 16, 17, 175]) G_43 (va_up G_43 H_55.size (some (176, 40))) := jNk.new (by decide)
  have hgn_57 : (va_up G_43 H_55.size (some (176, 40))) H_55.size = some (176, 40) := jUp_self
  have hle_57 : jLe G_43 (va_up G_43 H_55.size (some (176, 40))) := jLe.new hh_55.2.1.fresh
  have hke_57 : jKe G_43 (va_up G_43 H_55.size (some (176, 40))) H_55 H_57 := jKe.new hfr_57
  have hsy_57 : s.heap.size ≤ H_55.size := hh_55.1.1
  generalize (va_up G_43 H_55.size (some (176, 40))) = G_57 at hN_57 hgn_57 hle_57 hke_57 hh_57 hM_57 hW_57
  clear hh_55
  have hNn_57 : (jNk [0, 1, 2, 4, 5, 6, 7, 8, 9, 10, 11, 12, 13, 14, 15, 16, 17, 175]) G0 G_57 := (hNn_43).tr hN_57
  have hkp_58 := hkp_56.tr hke_57
  have hraw_59n := hke_57.nr hraw_55.lt hraw_45n
  have hraw_59 := hraw_55.kept (hke_57.1 _ hraw_55.lt)
  have hn3_57 : jNk [3] G0 G_57 := (hn3_43).tr (hM_57.sub (ks1 := [3]) (by decide))
  have hd_60 := jDcc.grow (hh_57.iv 0 rfl) hle_57 hM_57 (by decide)
  have hh_61 := hh_57.sub (L1 := []) [] rfl (M1 := []) [] rfl (I1 := [(jFcd, jCD dC dI ca G_43 none tq), (jFkd, jKD dC dI ca G_43 none kq)]) [1, 2] rfl
  clear hh_57
  have hh_62 := hh_61.addI (jDcc.ie hd_60)
  clear hh_61
  have hd_63 := jCD.grow (hh_62.iv 1 rfl) hle_57 hM_57 (by decide)
  have hh_64 := hh_62.sub (L1 := []) [] rfl (M1 := []) [] rfl (I1 := [(jFdo, jDcc dC dI ca G_57 none ph), (jFkd, jKD dC dI ca G_43 none kq)]) [0, 2] rfl
  clear hh_62
  have hh_65 := hh_64.addI (jCD.ie hd_63)
  clear hh_64
  have hd_66 := jKD.grow (ca := ca) (hh_65.iv 2 rfl) hle_57 hW_57 (by decide)
  have hh_67 := hh_65.sub (L1 := []) [] rfl (M1 := []) [] rfl (I1 := [(jFcd, jCD dC dI ca G_57 none tq), (jFdo, jDcc dC dI ca G_57 none ph)]) [0, 1] rfl
  clear hh_65
  have hh_68 := hh_67.addI (jKD.ie hd_66)
  clear hh_67
  refine j7_putRF hx hb hown hK hh_68 hB hAp hraw_59 hraw_59n hbr0 (C := RX1) (T := TX1) (N := 17) rfl (i := 7) (by decide) (Nat.le_of_ble_eq_true rfl) hly_3_7 rfl hin2 rfl hlk_24 (ty := (.array .int)) (v := .ref H_55.size) (by decide +kernel) rfl rfl dX1_init_41 (fun H_69 locs_69 hraw_69 hr_69 hh_69 => ?_)
  have hraw_69 : va_at (dC, dI) vwCl (r0, .inr (3, [.ref s.heap.size, .int 0, .ref H_13.size, .int 0, .int 0, .ref H_27.size, .ref H_41.size, .ref H_55.size, .null, .null, .int 0, .null, .null, .int 0, .int 0, .int 0, .int 0])) H_69 := hraw_69
  have hkp_70 := hkp_58.put hr_69
  clear hh_68
  refine lv_aload_n hx hb dX1_init_44 rfl (lv_at hl 0 rfl) ?_
  refine lv_bipush (v := 40) hx hb dX1_init_45 (by decide) ?_
  have hsz_71 := hh_69.2.2.2.2.2.1
  have htt_71 := hh_69.2.2.2.2.2.2.1
  refine j7_newiK hx hb hK hh_69 hB (atype := .int) (ty := .int) (htw (.arrayClass .int) (jWr_3 _ (List.mem_of_getElem? (i := 20) rfl))) rfl rfl (fun _ h => h) hB177 1 rfl (by decide) (by decide) hbs (x := 40) (by decide) (by omega) (fun j => by first | trivial | decide | rfl | exact Or.inl rfl | exact Or.inr (Or.inl (by decide)) | (refine ⟨?_, ?_⟩ <;> decide)) (by rw [hRc]; omega) (by rw [hRs]; omega) dX1_init_47 (fun H_71 hfr_71 hh_71 => ?_)
  have hh_71 : jSt (dC, dI) B base G0 (va_up G_57 H_69.size (some (177, 40))) EX1_initK s.heap ((((((0 + 1) + 1) + 1) + 1) + 1) + 1) ((((((0 + 0) + 1500) + 40) + 40) + 40) + 40) [] [] [(jFkd, jKD dC dI ca G_57 none kq), (jFcd, jCD dC dI ca G_57 none tq), (jFdo, jDcc dC dI ca G_57 none ph)] H_71 locs_69 := hh_71
  have hM_71 : jNk [1, 2, 3, 11] G_57 (va_up G_57 H_69.size (some (177, 40))) := jNk.new (by decide)
  have hW_71 : jNk [0, 1, 2, 3, 4, 5, 6, 7, 8, 9, 10, 11, 12, 13, 14, 15, 16, 17, 175] G_57 (va_up G_57 H_69.size (some (177, 40))) := jNk.new (by decide)
  have hN_71 : (jNk [0, 1, 2, 4, 5, 6, 7, 8, 9, 10, 11, 12, 13, 14, 15, 16, 17, 175]) G_57 (va_up G_57 H_69.size (some (177, 40))) := jNk.new (by decide)
  have hgn_71 : (va_up G_57 H_69.size (some (177, 40))) H_69.size = some (177, 40) := jUp_self
  have hle_71 : jLe G_57 (va_up G_57 H_69.size (some (177, 40))) := jLe.new hh_69.2.1.fresh
  have hke_71 : jKe G_57 (va_up G_57 H_69.size (some (177, 40))) H_69 H_71 := jKe.new hfr_71
  have hsy_71 : s.heap.size ≤ H_69.size := hh_69.1.1
  generalize (va_up G_57 H_69.size (some (177, 40))) = G_71 at hN_71 hgn_71 hle_71 hke_71 hh_71 hM_71 hW_71
  clear hh_69
  have hNn_71 : (jNk [0, 1, 2, 4, 5, 6, 7, 8, 9, 10, 11, 12, 13, 14, 15, 16, 17, 175]) G0 G_71 := (hNn_57).tr hN_71
  have hkp_72 := hkp_70.tr hke_71
  have hraw_73n := hke_71.nr hraw_69.lt hraw_59n
  have hraw_73 := hraw_69.kept (hke_71.1 _ hraw_69.lt)
  have hn3_71 : jNk [3] G0 G_71 := (hn3_57).tr (hM_71.sub (ks1 := [3]) (by decide))
  have hd_74 := jKD.grow (ca := ca) (hh_71.iv 0 rfl) hle_71 hW_71 (by decide)
  have hh_75 := hh_71.sub (L1 := []) [] rfl (M1 := []) [] rfl (I1 := [(jFcd, jCD dC dI ca G_57 none tq), (jFdo, jDcc dC dI ca G_57 none ph)]) [1, 2] rfl
  clear hh_71
  have hh_76 := hh_75.addI (jKD.ie hd_74)
  clear hh_75
  have hd_77 := jCD.grow (hh_76.iv 1 rfl) hle_71 hM_71 (by decide)
  have hh_78 := hh_76.sub (L1 := []) [] rfl (M1 := []) [] rfl (I1 := [(jFkd, jKD dC dI ca G_71 none kq), (jFdo, jDcc dC dI ca G_57 none ph)]) [0, 2] rfl
  clear hh_76
  have hh_79 := hh_78.addI (jCD.ie hd_77)
  clear hh_78
  have hd_80 := jDcc.grow (hh_79.iv 2 rfl) hle_71 hM_71 (by decide)
  have hh_81 := hh_79.sub (L1 := []) [] rfl (M1 := []) [] rfl (I1 := [(jFcd, jCD dC dI ca G_71 none tq), (jFkd, jKD dC dI ca G_71 none kq)]) [0, 1] rfl
  clear hh_79
  have hh_82 := hh_81.addI (jDcc.ie hd_80)
  clear hh_81
  refine j7_putRF hx hb hown hK hh_82 hB hAp hraw_73 hraw_73n hbr0 (C := RX1) (T := TX1) (N := 17) rfl (i := 8) (by decide) (Nat.le_of_ble_eq_true rfl) hly_3_8 rfl hin2 rfl hlk_27 (ty := (.array .int)) (v := .ref H_69.size) (by decide +kernel) rfl rfl dX1_init_49 (fun H_83 locs_83 hraw_83 hr_83 hh_83 => ?_)
  have hraw_83 : va_at (dC, dI) vwCl (r0, .inr (3, [.ref s.heap.size, .int 0, .ref H_13.size, .int 0, .int 0, .ref H_27.size, .ref H_41.size, .ref H_55.size, .ref H_69.size, .null, .int 0, .null, .null, .int 0, .int 0, .int 0, .int 0])) H_83 := hraw_83
  have hkp_84 := hkp_72.put hr_83
  clear hh_82
  refine lv_aload_n hx hb dX1_init_52 rfl (lv_at hl 0 rfl) ?_
  refine lv_bipush (v := 40) hx hb dX1_init_53 (by decide) ?_
  have hsz_85 := hh_83.2.2.2.2.2.1
  have htt_85 := hh_83.2.2.2.2.2.2.1
  have hsy_85 : s.heap.size ≤ H_83.size := hh_83.1.1
  refine j7_newqK hx hb hown (htw (.classLink RX1 30 RX9) (jWr_10 _ (List.mem_of_getElem? (i := 11) rfl))) hK6.2.2.1 hK2 hh_83 hB hB210 2 rfl (by decide) hbs (x := 40) (by decide) (by omega) (fun _ => Or.inl rfl) (by rw [hRc]; omega) (by rw [hRs]; omega) dX1_init_55 (fun H_85 hfr_85 hh_85 hqn_85 => ?_)
  have hh_85 : jSt (dC, dI) B base G0 (va_up G_71 H_83.size (some (210, 40))) EX1_initK s.heap (((((((0 + 1) + 1) + 1) + 1) + 1) + 1) + 1) (((((((0 + 0) + 1500) + 40) + 40) + 40) + 40) + 40) [] [] [(jFdo, jDcc dC dI ca G_71 none ph), (jFcd, jCD dC dI ca G_71 none tq), (jFkd, jKD dC dI ca G_71 none kq)] H_85 locs_83 := hh_85
  have hM_85 : jNk [1, 2, 3, 11] G_71 (va_up G_71 H_83.size (some (210, 40))) := jNk.new (by decide)
  have hW_85 : jNk [0, 1, 2, 3, 4, 5, 6, 7, 8, 9, 10, 11, 12, 13, 14, 15, 16, 17, 175] G_71 (va_up G_71 H_83.size (some (210, 40))) := jNk.new (by decide)
  have hN_85 : (jNk [0, 1, 2, 4, 5, 6, 7, 8, 9, 10, 11, 12, 13, 14, 15, 16, 17, 175]) G_71 (va_up G_71 H_83.size (some (210, 40))) := jNk.new (by decide)
  have hgn_85 : (va_up G_71 H_83.size (some (210, 40))) H_83.size = some (210, 40) := jUp_self
  have hle_85 : jLe G_71 (va_up G_71 H_83.size (some (210, 40))) := jLe.new hh_83.2.1.fresh
  have hke_85 : jKe G_71 (va_up G_71 H_83.size (some (210, 40))) H_83 H_85 := jKe.new hfr_85
  have hsy_85 : s.heap.size ≤ H_83.size := hh_83.1.1
  generalize (va_up G_71 H_83.size (some (210, 40))) = G_85 at hN_85 hgn_85 hle_85 hke_85 hh_85 hM_85 hW_85
  clear hh_83
  have hNn_85 : (jNk [0, 1, 2, 4, 5, 6, 7, 8, 9, 10, 11, 12, 13, 14, 15, 16, 17, 175]) G0 G_85 := (hNn_71).tr hN_85
  have hkp_86 := hkp_84.tr hke_85
  have hraw_87n := hke_85.nr hraw_83.lt hraw_73n
  have hraw_87 := hraw_83.kept (hke_85.1 _ hraw_83.lt)
  have hn3_85 : jNk [3] G0 G_85 := (hn3_71).tr (hM_85.sub (ks1 := [3]) (by decide))
  have hd_88 := jDcc.grow (hh_85.iv 0 rfl) hle_85 hM_85 (by decide)
  have hh_89 := hh_85.sub (L1 := []) [] rfl (M1 := []) [] rfl (I1 := [(jFcd, jCD dC dI ca G_71 none tq), (jFkd, jKD dC dI ca G_71 none kq)]) [1, 2] rfl
  clear hh_85
  have hh_90 := hh_89.addI (jDcc.ie hd_88)
  clear hh_89
  have hd_91 := jCD.grow (hh_90.iv 1 rfl) hle_85 hM_85 (by decide)
  have hh_92 := hh_90.sub (L1 := []) [] rfl (M1 := []) [] rfl (I1 := [(jFdo, jDcc dC dI ca G_85 none ph), (jFkd, jKD dC dI ca G_71 none kq)]) [0, 2] rfl
  clear hh_90
  have hh_93 := hh_92.addI (jCD.ie hd_91)
  clear hh_92
  have hd_94 := jKD.grow (ca := ca) (hh_93.iv 2 rfl) hle_85 hW_85 (by decide)
  have hh_95 := hh_93.sub (L1 := []) [] rfl (M1 := []) [] rfl (I1 := [(jFcd, jCD dC dI ca G_85 none tq), (jFdo, jDcc dC dI ca G_85 none ph)]) [0, 1] rfl
  clear hh_93
  have hh_96 := hh_95.addI (jKD.ie hd_94)
  clear hh_95
  refine j7_putRF hx hb hown hK hh_96 hB hAp hraw_87 hraw_87n hbr0 (C := RX1) (T := TX1) (N := 17) rfl (i := 9) (by decide) (Nat.le_of_ble_eq_true rfl) hly_3_9 rfl hin2 rfl hlk_32 (ty := (.array (.object "ProofServer$State"))) (v := .ref H_83.size) (by decide +kernel) rfl rfl dX1_init_58 (fun H_97 locs_97 hraw_97 hr_97 hh_97 => ?_)
  have hraw_97 : va_at (dC, dI) vwCl (r0, .inr (3, [.ref s.heap.size, .int 0, .ref H_13.size, .int 0, .int 0, .ref H_27.size, .ref H_41.size, .ref H_55.size, .ref H_69.size, .ref H_83.size, .int 0, .null, .null, .int 0, .int 0, .int 0, .int 0])) H_97 := hraw_97
  have hkp_98 := hkp_86.put hr_97
  clear hh_96
  have hsz_99 := hh_97.2.2.2.2.2.1
  have htt_99 := hh_97.2.2.2.2.2.2.1
  refine W.room (fun hrc_99 hrs_99 => ?_)
  refine W.widen (k := LC - s.heap.size) (n := LS - jTot s.heap) (by omega) (by omega) ?_
  rw [hQ]
  have hg_100 := ((((hle_43).tr hle_57).tr hle_71).tr hle_85) _ _ hgn_29
  have hg_101 := (((hle_57).tr hle_71).tr hle_85) _ _ hgn_43
  obtain ⟨fb9, hh_102⟩ := hh_97.cpin hB171 (by decide) (by decide) hg_100
  obtain ⟨fe9, hh_103⟩ := hh_102.cpin hB172 (by decide) (by decide) hg_101
  have hd_104 := jDcc.typ (n := kn) (ph1 := ph + 1500) (hh_103.iv 2 rfl) hraw_87n (jf.raw (C := RX1) (T := TX1) (N := 17) rfl hraw_97 (i := 4) (by decide)) (jf.raw (C := RX1) (T := TX1) (N := 17) rfl hraw_97 (i := 10) (by decide)) (jf.raw (C := RX1) (T := TX1) (N := 17) rfl hraw_97 (i := 11) (by decide)) (jf.raw (C := RX1) (T := TX1) (N := 17) rfl hraw_97 (i := 5) (by decide)) (jf.raw (C := RX1) (T := TX1) (N := 17) rfl hraw_97 (i := 6) (by decide)) hg_100 hg_101 (hh_103.2.2.2.2.2.2.2.1.sub (L1 := [(H_27.size, 171, 40, ca 1, fb9), (H_41.size, 172, 40, ca 1, fe9)]) [1, 0] rfl) (jDcc.fresh hE0 (fun a t ht => hab0 ht) hnr0 hn3_85 hkp_98 hsy_29 hsy_43) (by omega) (fun _ => by omega)
  have hh_105 := hh_103.sub (L1 := []) [] rfl (M1 := [(H_41.size, 172, 40, ca 1, fe9), (H_27.size, 171, 40, ca 1, fb9)]) [0, 1] rfl (I1 := [(jFkd, jKD dC dI ca G_85 none kq), (jFcd, jCD dC dI ca G_85 none tq)]) [0, 1] rfl
  clear hh_103
  have hg_106 := (((((hle_29).tr hle_43).tr hle_57).tr hle_71).tr hle_85) _ _ hgn_15
  have hg_107 := ((((((hle_15).tr hle_29).tr hle_43).tr hle_57).tr hle_71).tr hle_85) _ _ hgn_1
  obtain ⟨ft9, hh_108⟩ := hh_105.cpin hB173 (by decide) (by decide) hg_106
  obtain ⟨fu9, hh_109⟩ := hh_108.cpin hB174 (by decide) (by decide) hg_107
  have hd_110 := jCD.typ (n := kn) (hh_109.iv 1 rfl) hraw_87n (jf.raw (C := RX1) (T := TX1) (N := 17) rfl hraw_97 (i := 2) (by decide)) (jf.raw (C := RX1) (T := TX1) (N := 17) rfl hraw_97 (i := 1) (by decide)) (jf.raw (C := RX1) (T := TX1) (N := 17) rfl hraw_97 (i := 3) (by decide)) (jf.raw (C := RX1) (T := TX1) (N := 17) rfl hraw_97 (i := 0) (by decide)) (hh_109.2.2.2.2.2.2.2.1.sub (L1 := [(H_13.size, 173, 1500, ca 1, ft9), (s.heap.size, 174, 0, ca 1, fu9)]) [1, 0] rfl) (jCD.fresh hU0 (fun a t ht => hab0 ht) hnr0 hn3_85 hkp_98 hsy_15) (by omega)
  have hh_111 := hh_109.sub (L1 := []) [] rfl (M1 := [(s.heap.size, 174, 0, ca 1, fu9), (H_13.size, 173, 1500, ca 1, ft9), (H_41.size, 172, 40, ca 1, fe9), (H_27.size, 171, 40, ca 1, fb9)]) [0, 1, 2, 3] rfl (I1 := [(jFkd, jKD dC dI ca G_85 none kq)]) [0] rfl
  clear hh_109
  have hg_112 := ((((hle_43).tr hle_57).tr hle_71).tr hle_85) _ _ hgn_29
  have hg_113 := (((hle_57).tr hle_71).tr hle_85) _ _ hgn_43
  have hg_114 := ((hle_71).tr hle_85) _ _ hgn_57
  have hg_115 := (jLe.rf) _ _ hgn_85
  obtain ⟨fk9_116, hh_116⟩ := hh_111.cpin hB176 (by decide) (by decide) hg_114
  obtain ⟨fq_117, hfq_117a, hfq_117p⟩ := hh_116.aq hB210 (by decide) hg_115
  obtain ⟨hf_1195, hf_1196, hf_1197, hf_1199⟩ := jKD.fresh hKd0 (fun a t ht => hab0 ht) hnr0 hn3_85 hkp_98 hsy_29 hsy_43 hsy_57 hsy_85
  have hd_118 := jKD.typ (ca := ca) (n := kn) (hh_116.iv 0 rfl) hraw_87n (jf.raw (C := RX1) (T := TX1) (N := 17) rfl hraw_97 (i := 5) (by decide)) (jf.raw (C := RX1) (T := TX1) (N := 17) rfl hraw_97 (i := 6) (by decide)) (jf.raw (C := RX1) (T := TX1) (N := 17) rfl hraw_97 (i := 7) (by decide)) (jf.raw (C := RX1) (T := TX1) (N := 17) rfl hraw_97 (i := 9) (by decide)) (jf.raw (C := RX1) (T := TX1) (N := 17) rfl hraw_97 (i := 4) (by decide)) (jf.raw (C := RX1) (T := TX1) (N := 17) rfl hraw_97 (i := 10) (by decide)) (jf.raw (C := RX1) (T := TX1) (N := 17) rfl hraw_97 (i := 13) (by decide)) (jf.raw (C := RX1) (T := TX1) (N := 17) rfl hraw_97 (i := 11) (by decide)) (jf.raw (C := RX1) (T := TX1) (N := 17) rfl hraw_97 (i := 12) (by decide)) (hh_116.2.2.2.2.2.2.2.1.sub (L1 := [(H_27.size, 171, 40, ca 1, fb9), (H_41.size, 172, 40, ca 1, fe9), (H_55.size, 176, 40, ca 1, fk9_116)]) [4, 3, 0] rfl) hfq_117a hg_112 hg_113 hg_114 hg_115 hf_1195 hf_1196 hf_1197 hf_1199
  have hh_120 := hh_116.sub (L1 := []) [] rfl (M1 := [(H_55.size, 176, 40, ca 1, fk9_116), (s.heap.size, 174, 0, ca 1, fu9), (H_13.size, 173, 1500, ca 1, ft9), (H_41.size, 172, 40, ca 1, fe9), (H_27.size, 171, 40, ca 1, fb9)]) [0, 1, 2, 3, 4] rfl (I1 := []) [] rfl
  clear hh_116
  have hle_121 : jLe G_85 (va_up G_85 r0 (some (3, kn))) := jLe.typ hraw_87n
  have hg_122 := ((((((hle_15).tr hle_29).tr hle_43).tr hle_57).tr hle_71).tr hle_85).tr hle_121 _ _ hgn_1
  have hg_123 := (((((hle_29).tr hle_43).tr hle_57).tr hle_71).tr hle_85).tr hle_121 _ _ hgn_15
  have hg_124 := ((((hle_43).tr hle_57).tr hle_71).tr hle_85).tr hle_121 _ _ hgn_29
  have hg_125 := (((hle_57).tr hle_71).tr hle_85).tr hle_121 _ _ hgn_43
  have hg_126 := ((hle_71).tr hle_85).tr hle_121 _ _ hgn_57
  have hg_127 := (hle_85).tr hle_121 _ _ hgn_71
  have hg_128 := (jLe.rf).tr hle_121 _ _ hgn_85
  have hfa_121 : jRk (va_up G_85 r0 (some (3, kn))) 174 3000 (.ref s.heap.size) ∧ jIa (.int 0) ∧ jRf (va_up G_85 r0 (some (3, kn))) 173 1500 (.ref H_13.size) ∧ jI 0 1500 (.int 0) ∧ jI 0 40 (.int 0) ∧ jRf (va_up G_85 r0 (some (3, kn))) 171 40 (.ref H_27.size) ∧ jRf (va_up G_85 r0 (some (3, kn))) 172 40 (.ref H_41.size) ∧ jRf (va_up G_85 r0 (some (3, kn))) 176 40 (.ref H_55.size) ∧ jRf (va_up G_85 r0 (some (3, kn))) 177 40 (.ref H_69.size) ∧ jRf (va_up G_85 r0 (some (3, kn))) 210 40 (.ref H_83.size) ∧ jI 0 40 (.int 0) ∧ jRm (va_up G_85 r0 (some (3, kn))) 175 1500 (.null) ∧ jRn (va_up G_85 r0 (some (3, kn))) 11 0 (.null) ∧ jIa (.int 0) ∧ jIa (.int 0) ∧ jIa (.int 0) ∧ jI 0 1500 (.int 0) ∧ True := ⟨⟨_, _, rfl, hg_122, by omega⟩, ⟨_, rfl⟩, ⟨_, rfl, hg_123⟩, ⟨_, rfl, by omega, by omega⟩, ⟨_, rfl, by omega, by omega⟩, ⟨_, rfl, hg_124⟩, ⟨_, rfl, hg_125⟩, ⟨_, rfl, hg_126⟩, ⟨_, rfl, hg_127⟩, ⟨_, rfl, hg_128⟩, ⟨_, rfl, by omega, by omega⟩, Or.inl rfl, Or.inl rfl, ⟨_, rfl⟩, ⟨_, rfl⟩, ⟨_, rfl⟩, ⟨_, rfl, by omega, by omega⟩, trivial⟩
  have hh_121 := hh_120.typ (k := 3) (n := kn) hB hraw_87n hbr0 hraw_97.lt (jOb.of (C := RX1) (T := TX1) (N := 17) (F := F3) hB3 rfl hraw_97 (show jFx (F3 kn (va_up G_85 r0 (some (3, kn)))) [.ref s.heap.size, .int 0, .ref H_13.size, .int 0, .int 0, .ref H_27.size, .ref H_41.size, .ref H_55.size, .ref H_69.size, .ref H_83.size, .int 0, .null, .null, .int 0, .int 0, .int 0, .int 0] from hfa_121))
  have hgn_121 : (va_up G_85 r0 (some (3, kn))) r0 = some (3, kn) := jUp_self
  have hN_121 : (jNk [0, 1, 2, 4, 5, 6, 7, 8, 9, 10, 11, 12, 13, 14, 15, 16, 17, 175]) G_85 (va_up G_85 r0 (some (3, kn))) := jNk.new (by decide)
  have hNn_121 : (jNk [0, 1, 2, 4, 5, 6, 7, 8, 9, 10, 11, 12, 13, 14, 15, 16, 17, 175]) G0 (va_up G_85 r0 (some (3, kn))) := (hNn_85).tr hN_121
  have hkp_129 := hkp_98.typ (t := some (3, kn))
  have hh_130 := hh_121.more (P1 := [(r0, 3, 10, .int 0), (r0, 3, 4, .int 0), (r0, 3, 3, .int 0)]) (jP.cons hgn_121 (jf.raw (C := RX1) (T := TX1) (N := 17) rfl hraw_97 (i := 10) (by decide)) (jP.cons hgn_121 (jf.raw (C := RX1) (T := TX1) (N := 17) rfl hraw_97 (i := 4) (by decide)) (jP.cons hgn_121 (jf.raw (C := RX1) (T := TX1) (N := 17) rfl hraw_97 (i := 3) (by decide)) jP.nil)))
  have hh_131 := hh_130.addI (jDcc.ie hd_104)
  clear hh_130
  have hh_132 := hh_131.addI (jCD.ie hd_110)
  clear hh_131
  have hh_133 := hh_132.addI (jKD.ie hd_118)
  clear hh_132
  exact W.vret hx hb hr (fun t ht hW => ⟨⟨(0, 0, 0, (tq.put r0 0 0 ft9 0 fu9), (kq.put r0 0 0 0 .null .null fb9 fe9 fk9_116 fq_117), (va_up G_85 r0 (some (3, kn)))), rfl, by (try dsimp only); exact ⟨(by first | omega | rfl | assumption | exact ⟨_, _, rfl⟩ | exact ⟨_, _, _, _, rfl⟩), (by first | omega | rfl | assumption | exact ⟨_, _, rfl⟩ | exact ⟨_, _, _, _, rfl⟩), (by first | omega | rfl | assumption | exact ⟨_, _, rfl⟩ | exact ⟨_, _, _, _, rfl⟩), (by first | omega | rfl | assumption | exact ⟨_, _, rfl⟩ | exact ⟨_, _, _, _, rfl⟩), (by first | omega | rfl | assumption | exact ⟨_, _, rfl⟩ | exact ⟨_, _, _, _, rfl⟩)⟩, ⟨hh_133.ra (by first | (simp only; omega) | omega) (by first | (simp only; omega) | omega) (M1 := [(r0, 3, 10, .int 0), (r0, 3, 4, .int 0), (r0, 3, 3, .int 0)]) [0, 1, 2] rfl ht, hNn_121, hgn_121, by rw [ht]; exact hkp_129, by rw [ht]; exact hh_133.2.2.2.2.2.2.2.2.sub (L1 := [(jFdo, jDcc dC dI ca (va_up G_85 r0 (some (3, kn))) none (ph + 1500)), (jFcd, jCD dC dI ca (va_up G_85 r0 (some (3, kn))) none (tq.put r0 0 0 ft9 0 fu9)), (jFkd, jKD dC dI ca (va_up G_85 r0 (some (3, kn))) none (kq.put r0 0 0 0 .null .null fb9 fe9 fk9_116 fq_117))]) [2, 1, 0] rfl⟩⟩, by rw [ht]; try exact hh_133.1.1, fun q h9 hq => by rw [ht]; try exact hh_133.1.2.1 q h9 hq⟩) hh_133.1.2.2 dX1_init_61
end
section
theorem dX11_openDocument_0 : decode cX11_openDocument 0 = .ok (.aload_n 0, 1) := by decide +kernel
theorem dX11_openDocument_1 : decode cX11_openDocument 1 = .ok (.getfield 28, 3) := by decide +kernel
theorem dX11_openDocument_4 : decode cX11_openDocument 4 = .ok (.aload_n 0, 1) := by decide +kernel
theorem dX11_openDocument_5 : decode cX11_openDocument 5 = .ok (.getfield 28, 3) := by decide +kernel
theorem dX11_openDocument_8 : decode cX11_openDocument 8 = .ok (.iconst 0, 1) := by decide +kernel
theorem dX11_openDocument_9 : decode cX11_openDocument 9 = .ok (.ldc_w 271, 3) := by decide +kernel
theorem dX11_openDocument_12 : decode cX11_openDocument 12 = .ok (.invokevirtual 260, 3) := by decide +kernel
theorem dX11_openDocument_15 : decode cX11_openDocument 15 = .ok (.ldc_w 344, 3) := by decide +kernel
theorem dX11_openDocument_18 : decode cX11_openDocument 18 = .ok (.invokevirtual 260, 3) := by decide +kernel
theorem dX11_openDocument_21 : decode cX11_openDocument 21 = .ok (.istore_n 1, 1) := by decide +kernel
theorem dX11_openDocument_22 : decode cX11_openDocument 22 = .ok (.aload_n 0, 1) := by decide +kernel
theorem dX11_openDocument_23 : decode cX11_openDocument 23 = .ok (.getfield 28, 3) := by decide +kernel
theorem dX11_openDocument_26 : decode cX11_openDocument 26 = .ok (.iload_n 1, 1) := by decide +kernel
theorem dX11_openDocument_27 : decode cX11_openDocument 27 = .ok (.ldc_w 346, 3) := by decide +kernel
theorem dX11_openDocument_30 : decode cX11_openDocument 30 = .ok (.invokevirtual 260, 3) := by decide +kernel
theorem dX11_openDocument_33 : decode cX11_openDocument 33 = .ok (.istore_n 2, 1) := by decide +kernel
theorem dX11_openDocument_34 : decode cX11_openDocument 34 = .ok (.aload_n 0, 1) := by decide +kernel
theorem dX11_openDocument_35 : decode cX11_openDocument 35 = .ok (.getfield 28, 3) := by decide +kernel
theorem dX11_openDocument_38 : decode cX11_openDocument 38 = .ok (.iload_n 1, 1) := by decide +kernel
theorem dX11_openDocument_39 : decode cX11_openDocument 39 = .ok (.ldc_w 354, 3) := by decide +kernel
theorem dX11_openDocument_42 : decode cX11_openDocument 42 = .ok (.invokevirtual 260, 3) := by decide +kernel
theorem dX11_openDocument_45 : decode cX11_openDocument 45 = .ok (.istore_n 3, 1) := by decide +kernel
theorem dX11_openDocument_46 : decode cX11_openDocument 46 = .ok (.aload_n 0, 1) := by decide +kernel
theorem dX11_openDocument_47 : decode cX11_openDocument 47 = .ok (.getfield 28, 3) := by decide +kernel
theorem dX11_openDocument_50 : decode cX11_openDocument 50 = .ok (.iload_n 1, 1) := by decide +kernel
theorem dX11_openDocument_51 : decode cX11_openDocument 51 = .ok (.ldc_w 355, 3) := by decide +kernel
theorem dX11_openDocument_54 : decode cX11_openDocument 54 = .ok (.invokevirtual 260, 3) := by decide +kernel
theorem dX11_openDocument_57 : decode cX11_openDocument 57 = .ok (.istore 4, 2) := by decide +kernel
theorem dX11_openDocument_59 : decode cX11_openDocument 59 = .ok (.aload_n 0, 1) := by decide +kernel
theorem dX11_openDocument_60 : decode cX11_openDocument 60 = .ok (.getfield 28, 3) := by decide +kernel
theorem dX11_openDocument_63 : decode cX11_openDocument 63 = .ok (.iload_n 2, 1) := by decide +kernel
theorem dX11_openDocument_64 : decode cX11_openDocument 64 = .ok (.invokevirtual 283, 3) := by decide +kernel
theorem dX11_openDocument_67 : decode cX11_openDocument 67 = .ok (.iconst 3, 1) := by decide +kernel
theorem dX11_openDocument_68 : decode cX11_openDocument 68 = .ok (.if_icmp .ne 72, 3) := by decide +kernel
theorem dX11_openDocument_71 : decode cX11_openDocument 71 = .ok (.aload_n 0, 1) := by decide +kernel
theorem dX11_openDocument_72 : decode cX11_openDocument 72 = .ok (.getfield 28, 3) := by decide +kernel
theorem dX11_openDocument_75 : decode cX11_openDocument 75 = .ok (.iload_n 2, 1) := by decide +kernel
theorem dX11_openDocument_76 : decode cX11_openDocument 76 = .ok (.invokevirtual 356, 3) := by decide +kernel
theorem dX11_openDocument_79 : decode cX11_openDocument 79 = .ok (.iconst 1, 1) := by decide +kernel
theorem dX11_openDocument_80 : decode cX11_openDocument 80 = .ok (.if_icmp .lt 60, 3) := by decide +kernel
theorem dX11_openDocument_83 : decode cX11_openDocument 83 = .ok (.aload_n 0, 1) := by decide +kernel
theorem dX11_openDocument_84 : decode cX11_openDocument 84 = .ok (.getfield 28, 3) := by decide +kernel
theorem dX11_openDocument_87 : decode cX11_openDocument 87 = .ok (.iload_n 2, 1) := by decide +kernel
theorem dX11_openDocument_88 : decode cX11_openDocument 88 = .ok (.invokevirtual 356, 3) := by decide +kernel
theorem dX11_openDocument_91 : decode cX11_openDocument 91 = .ok (.bipush 40, 2) := by decide +kernel
theorem dX11_openDocument_93 : decode cX11_openDocument 93 = .ok (.if_icmp .gt 47, 3) := by decide +kernel
theorem dX11_openDocument_96 : decode cX11_openDocument 96 = .ok (.aload_n 0, 1) := by decide +kernel
theorem dX11_openDocument_97 : decode cX11_openDocument 97 = .ok (.getfield 28, 3) := by decide +kernel
theorem dX11_openDocument_100 : decode cX11_openDocument 100 = .ok (.iload_n 3, 1) := by decide +kernel
theorem dX11_openDocument_101 : decode cX11_openDocument 101 = .ok (.invokevirtual 283, 3) := by decide +kernel
theorem dX11_openDocument_104 : decode cX11_openDocument 104 = .ok (.iconst 4, 1) := by decide +kernel
theorem dX11_openDocument_105 : decode cX11_openDocument 105 = .ok (.if_icmp .ne 35, 3) := by decide +kernel
theorem dX11_openDocument_108 : decode cX11_openDocument 108 = .ok (.aload_n 0, 1) := by decide +kernel
theorem dX11_openDocument_109 : decode cX11_openDocument 109 = .ok (.getfield 28, 3) := by decide +kernel
theorem dX11_openDocument_112 : decode cX11_openDocument 112 = .ok (.iload 4, 2) := by decide +kernel
theorem dX11_openDocument_114 : decode cX11_openDocument 114 = .ok (.invokevirtual 283, 3) := by decide +kernel
theorem dX11_openDocument_117 : decode cX11_openDocument 117 = .ok (.iconst 3, 1) := by decide +kernel
theorem dX11_openDocument_118 : decode cX11_openDocument 118 = .ok (.if_icmp .ne 22, 3) := by decide +kernel
theorem dX11_openDocument_121 : decode cX11_openDocument 121 = .ok (.aload_n 0, 1) := by decide +kernel
theorem dX11_openDocument_122 : decode cX11_openDocument 122 = .ok (.getfield 28, 3) := by decide +kernel
theorem dX11_openDocument_125 : decode cX11_openDocument 125 = .ok (.iload 4, 2) := by decide +kernel
theorem dX11_openDocument_127 : decode cX11_openDocument 127 = .ok (.invokevirtual 356, 3) := by decide +kernel
theorem dX11_openDocument_130 : decode cX11_openDocument 130 = .ok (.sipush 1500, 3) := by decide +kernel
theorem dX11_openDocument_133 : decode cX11_openDocument 133 = .ok (.if_icmp .gt 7, 3) := by decide +kernel
theorem dX11_openDocument_136 : decode cX11_openDocument 136 = .ok (.iconst 1, 1) := by decide +kernel
theorem dX11_openDocument_137 : decode cX11_openDocument 137 = .ok (.goto 4, 3) := by decide +kernel
theorem dX11_openDocument_140 : decode cX11_openDocument 140 = .ok (.iconst 0, 1) := by decide +kernel
theorem dX11_openDocument_141 : decode cX11_openDocument 141 = .ok (.istore 5, 2) := by decide +kernel
theorem dX11_openDocument_143 : decode cX11_openDocument 143 = .ok (.iload 5, 2) := by decide +kernel
theorem dX11_openDocument_145 : decode cX11_openDocument 145 = .ok (.ifCond .eq 23, 3) := by decide +kernel
theorem dX11_openDocument_148 : decode cX11_openDocument 148 = .ok (.aload_n 0, 1) := by decide +kernel
theorem dX11_openDocument_149 : decode cX11_openDocument 149 = .ok (.invokevirtual 359, 3) := by decide +kernel
theorem dX11_openDocument_152 : decode cX11_openDocument 152 = .ok (.ifnonnull 16, 3) := by decide +kernel
theorem dX11_openDocument_155 : decode cX11_openDocument 155 = .ok (.aload_n 0, 1) := by decide +kernel
theorem dX11_openDocument_156 : decode cX11_openDocument 156 = .ok (.getfield 61, 3) := by decide +kernel
theorem dX11_openDocument_159 : decode cX11_openDocument 159 = .ok (.invokeinterface 142 1, 5) := by decide +kernel
theorem dX11_openDocument_164 : decode cX11_openDocument 164 = .ok (.iconst 3, 1) := by decide +kernel
theorem dX11_openDocument_165 : decode cX11_openDocument 165 = .ok (.if_icmp .lt 4, 3) := by decide +kernel
theorem dX11_openDocument_168 : decode cX11_openDocument 168 = .ok (.return_, 1) := by decide +kernel
theorem dX11_openDocument_169 : decode cX11_openDocument 169 = .ok (.new 71, 3) := by decide +kernel
theorem dX11_openDocument_172 : decode cX11_openDocument 172 = .ok (.dup, 1) := by decide +kernel
theorem dX11_openDocument_173 : decode cX11_openDocument 173 = .ok (.invokespecial 81, 3) := by decide +kernel
theorem dX11_openDocument_176 : decode cX11_openDocument 176 = .ok (.astore 6, 2) := by decide +kernel
theorem dX11_openDocument_178 : decode cX11_openDocument 178 = .ok (.aload 6, 2) := by decide +kernel
theorem dX11_openDocument_180 : decode cX11_openDocument 180 = .ok (.aload_n 0, 1) := by decide +kernel
theorem dX11_openDocument_181 : decode cX11_openDocument 181 = .ok (.getfield 28, 3) := by decide +kernel
theorem dX11_openDocument_184 : decode cX11_openDocument 184 = .ok (.iload_n 2, 1) := by decide +kernel
theorem dX11_openDocument_185 : decode cX11_openDocument 185 = .ok (.invokevirtual 363, 3) := by decide +kernel
theorem dX11_openDocument_188 : decode cX11_openDocument 188 = .ok (.putfield 348, 3) := by decide +kernel
theorem dX11_openDocument_191 : decode cX11_openDocument 191 = .ok (.aload 6, 2) := by decide +kernel
theorem dX11_openDocument_193 : decode cX11_openDocument 193 = .ok (.aload_n 0, 1) := by decide +kernel
theorem dX11_openDocument_194 : decode cX11_openDocument 194 = .ok (.getfield 28, 3) := by decide +kernel
theorem dX11_openDocument_197 : decode cX11_openDocument 197 = .ok (.iload_n 3, 1) := by decide +kernel
theorem dX11_openDocument_198 : decode cX11_openDocument 198 = .ok (.invokevirtual 367, 3) := by decide +kernel
theorem dX11_openDocument_201 : decode cX11_openDocument 201 = .ok (.putfield 162, 3) := by decide +kernel
theorem dX11_openDocument_204 : decode cX11_openDocument 204 = .ok (.aload 6, 2) := by decide +kernel
theorem dX11_openDocument_206 : decode cX11_openDocument 206 = .ok (.iconst 0, 1) := by decide +kernel
theorem dX11_openDocument_207 : decode cX11_openDocument 207 = .ok (.iconst 0, 1) := by decide +kernel
theorem dX11_openDocument_208 : decode cX11_openDocument 208 = .ok (.aload_n 0, 1) := by decide +kernel
theorem dX11_openDocument_209 : decode cX11_openDocument 209 = .ok (.getfield 28, 3) := by decide +kernel
theorem dX11_openDocument_212 : decode cX11_openDocument 212 = .ok (.iload 4, 2) := by decide +kernel
theorem dX11_openDocument_214 : decode cX11_openDocument 214 = .ok (.invokevirtual 370, 3) := by decide +kernel
theorem dX11_openDocument_217 : decode cX11_openDocument 217 = .ok (.pop, 1) := by decide +kernel
theorem dX11_openDocument_218 : decode cX11_openDocument 218 = .ok (.aload 6, 2) := by decide +kernel
theorem dX11_openDocument_220 : decode cX11_openDocument 220 = .ok (.aload_n 0, 1) := by decide +kernel
theorem dX11_openDocument_221 : decode cX11_openDocument 221 = .ok (.getfield 41, 3) := by decide +kernel
theorem dX11_openDocument_224 : decode cX11_openDocument 224 = .ok (.getfield 203, 3) := by decide +kernel
theorem dX11_openDocument_227 : decode cX11_openDocument 227 = .ok (.invokevirtual 207, 3) := by decide +kernel
theorem dX11_openDocument_230 : decode cX11_openDocument 230 = .ok (.aload_n 0, 1) := by decide +kernel
theorem dX11_openDocument_231 : decode cX11_openDocument 231 = .ok (.getfield 61, 3) := by decide +kernel
theorem dX11_openDocument_234 : decode cX11_openDocument 234 = .ok (.aload 6, 2) := by decide +kernel
theorem dX11_openDocument_236 : decode cX11_openDocument 236 = .ok (.invokeinterface 374 2, 5) := by decide +kernel
theorem dX11_openDocument_241 : decode cX11_openDocument 241 = .ok (.pop, 1) := by decide +kernel
theorem dX11_openDocument_242 : decode cX11_openDocument 242 = .ok (.aload 6, 2) := by decide +kernel
theorem dX11_openDocument_244 : decode cX11_openDocument 244 = .ok (.getfield 171, 3) := by decide +kernel
theorem dX11_openDocument_247 : decode cX11_openDocument 247 = .ok (.aload 6, 2) := by decide +kernel
theorem dX11_openDocument_249 : decode cX11_openDocument 249 = .ok (.getfield 168, 3) := by decide +kernel
theorem dX11_openDocument_252 : decode cX11_openDocument 252 = .ok (.if_icmp .ne 10, 3) := by decide +kernel
theorem dX11_openDocument_255 : decode cX11_openDocument 255 = .ok (.aload_n 0, 1) := by decide +kernel
theorem dX11_openDocument_256 : decode cX11_openDocument 256 = .ok (.aload 6, 2) := by decide +kernel
theorem dX11_openDocument_258 : decode cX11_openDocument 258 = .ok (.iconst 1, 1) := by decide +kernel
theorem dX11_openDocument_259 : decode cX11_openDocument 259 = .ok (.invokevirtual 378, 3) := by decide +kernel
theorem dX11_openDocument_262 : decode cX11_openDocument 262 = .ok (.return_, 1) := by decide +kernel
end
