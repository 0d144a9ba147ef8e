section
def EX0_initI : List (Nat × Nat) := []
set_option maxHeartbeats 4000000 in
set_option maxRecDepth 20000 in
theorem uX0_initI (l : Launch) (dC : Nat → ClassId) (dI : Nat → Nat → Nat) (ca : Nat → ClassId) (base : Nat) (B : jF) (hB : jBok B) (hAp : jAp (dC, dI)) (hB2 : ∀ n G a H, B 2 n G a H ↔ jOb (dC, dI) 2 2 (F2 n G) a H) (hB17 : ∀ n G a H, B 17 n G a H ↔ jOb (dC, dI) 17 2 (F17 n G) a H) (hB196 : ∀ n G a H, B 196 n G a H ↔ jAr (dC, dI) (ca 0) (fun j z => jBf j z) n a H) (hB199 : ∀ n G a H, B 199 n G a H ↔ jAr (dC, dI) (ca 0) (fun j z => jBf j z) n a H) (G0 : jT) (H0 : Heap) (r0 : Nat) (a1 : Int32) (ib : Nat → List Int) (LC LS : Nat) : Met l yX0_init (jw yX0_init cX0_init 2 none) ({ frames := 1, cells := LC - H0.size, slots := LS - jTot H0, locals := 31 }) (va_Pc [.ref r0, .int a1] (fun U => U.heap = H0 ∧ jX B base G0 [] H0 ∧ jG dC dI ca base U ∧ va_at (dC, dI) vwCl (r0, .inr (17, [.null, .int 0])) H0 ∧ (∀ t, G0 r0 ≠ some t) ∧ base ≤ r0 ∧ jP (dC, dI) G0 H0 [] ∧ jIs (dC, dI) G0 H0 [(jFib, jIB dC dI ca G0 0 ib)] ∧ H0.size + 1 ≤ LC ∧ jTot H0 + a1.toInt.toNat ≤ LS ∧ 16 ≤ a1.toInt ∧ a1.toInt ≤ 128)) (va_Qv (S := Int32 × Nat × Nat × jT) (fun u => u.1.toInt = 0 ∧ u.2.2.1 = a1.toInt) (fun u t => jRa (dC, dI) B base G0 u.2.2.2 EX0_initI H0 (1) (a1.toInt.toNat) [(r0, 17, 1, .int u.1), (r0, 17, 0, .ref u.2.1)] t.heap ∧ u.2.2.2 u.2.1 = some (199, u.2.2.1) ∧ (jNk [0, 1, 2, 3, 4, 5, 6, 7, 8, 9, 10, 11, 12, 13, 14, 15, 16, 175]) G0 u.2.2.2 ∧ u.2.2.2 r0 = some (17, 0) ∧ jKx r0 G0 u.2.2.2 H0 t.heap ∧ jIs (dC, dI) u.2.2.2 t.heap [(jFib, jIB dC dI ca u.2.2.2 0 (jUf ib r0 []))]) (jA base)) (LC - H0.size) (LS - jTot H0) (jA base) := by
  refine Met.ofW (cc := cX0_init) (maxL := 2) (ret := none) (by decide) rfl ?_
  intro p e s m args below meth c s₁ Bd hml hv
  obtain ⟨rfl, hH0, hX, hG, hraw0, hnr0, hbr0, hP0, hI0, hLC0, hLS0, hp0, hp1⟩ := hv
  have hK := hG.1
  have hx := Bd.exec
  have hb := Bd.bytes
  have hr := Bd.returns
  have hts := atoms_spec (ws := (jw yX0_init cX0_init 2 none)) Bd.pre
  have htw : ∀ w ∈ jWl, w.before _ s = true := fun w h => hts w (List.mem_cons_of_mem _ h)
  have hown : s.vm.findClass RX0 = some m.cls := findClass_of_methodNamed Bd.named
  have hlocks := Bd.notSynchronized
  obtain ⟨Q, hQ⟩ : ∃ Q, Q = MQ below (va_Qv (S := Int32 × Nat × Nat × jT) (fun u => u.1.toInt = 0 ∧ u.2.2.1 = a1.toInt) (fun u t => jRa (dC, dI) B base G0 u.2.2.2 EX0_initI H0 (1) (a1.toInt.toNat) [(r0, 17, 1, .int u.1), (r0, 17, 0, .ref u.2.1)] t.heap ∧ u.2.2.2 u.2.1 = some (199, u.2.2.1) ∧ (jNk [0, 1, 2, 3, 4, 5, 6, 7, 8, 9, 10, 11, 12, 13, 14, 15, 16, 175]) G0 u.2.2.2 ∧ u.2.2.2 r0 = some (17, 0) ∧ jKx r0 G0 u.2.2.2 H0 t.heap ∧ jIs (dC, dI) u.2.2.2 t.heap [(jFib, jIB dC dI ca u.2.2.2 0 (jUf ib r0 []))]) (jA base)) ([.ref r0, .int a1] : List Value).toArray s (LC - H0.size) (LS - jTot H0) (jA base) := ⟨_, rfl⟩
  rw [← hQ]
  have hl := lv_entry ([.ref r0, .int a1]) (n := 2) (Nat.le_of_ble_eq_true rfl)
  rw [lg_entry_eq]
  generalize (lg_sl ([.ref r0, .int a1]) ++ List.replicate (2 - (lg_sl ([.ref r0, .int a1])).length) Slot.unset).toArray = ls at hl ⊢
  have hl : lv_has ls 2 [(0, .ref r0), (1, .int a1)] := hl
  generalize hR : (headSpec (jw yX0_init cX0_init 2 none) ({ frames := 1, cells := LC - H0.size, slots := LS - jTot H0, locals := 31 })).room = R
  subst hH0
  have hh : jSt (dC, dI) B base G0 G0 EX0_initI s.heap 0 0 [] [] [(jFib, jIB dC dI ca G0 0 ib)] s.heap [] := jSt.start hX hP0 jMc.nil hI0
  clear hX hP0
  have hk0 : (0 : Int32).toInt = 0 := by decide
  have hk1 : (1 : Int32).toInt = 1 := by decide
  have hk16 : (16 : Int32).toInt = 16 := by decide
  have hly_2_0 := htw (u_lay RX0 TX0 0) (jWc_wsX00 _ (u_in_lay (by decide)))
  have hly_17_0 := hly_2_0
  have hlk_13 := (htw (.fieldLink RX0 13 "ProofServer$Bytes" "row" "[B") (jWr_3 _ (List.mem_of_getElem? (i := 10) rfl)))
  have hrg_a1 := jb_rng a1
  have hbs : base ≤ s.heap.size := Nat.le_of_lt (Nat.lt_of_le_of_lt hbr0 hraw0.lt)
  have hRc : R.cells = LC - s.heap.size := by rw [← hR]; rfl
  have hRs : R.slots = LS - jTot s.heap := by rw [← hR]; rfl
  have hJi0 := hh.iv 0 rfl
  have hab0 : ∀ {a : Nat} {t : Nat × Nat}, G0 a = some t → a < s.heap.size := fun ht => (hh.ab ht).2
  have hin2 : meth.name = "<init>" := (name_of_methodNamed Bd.named Bd.method).1
  have hkp : jKx r0 G0 G0 s.heap s.heap := jKx.rf
  refine lv_aload_n hx hb dX0_init_0 rfl (lv_at hl 0 rfl) ?_
  refine W.objInit hx hb hown (htw (.methodLink RX0 1 objectInit) (jWr_3 _ (List.mem_of_getElem? (i := 4) rfl))) (htw (.instanceMethod objectInit) (jWr_1 _ (List.mem_of_getElem? (i := 10) rfl))) (htw (.code objectInit ⟨#[0xb1]⟩ 1 none) (jWr_1 _ (List.mem_of_getElem? (i := 11) rfl))) rfl (by rw [hml]; exact hl.1) rfl dX0_init_1 (by rw [← hR]; exact Nat.le_of_ble_eq_true rfl) (by rw [← hR]; exact Nat.le_of_ble_eq_true rfl) ?_
  refine W.eq (g2 := F0 m 4 ls []) rfl ?_
  refine lv_aload_n hx hb dX0_init_4 rfl (lv_at hl 0 rfl) ?_
  refine lv_iload_n hx hb dX0_init_5 rfl (lv_at hl 1 rfl) ?_
  refine lv_bipush (v := 16) hx hb dX0_init_6 (by decide) ?_
  have hsz_1 := hh.2.2.2.2.2.1
  have htt_1 := hh.2.2.2.2.2.2.1
  refine W.room (fun hrc_1 hrs_1 => ?_)
  refine va_mmax hx hb (by rw [hml]; exact hl.1.symm) hown (htw (.methodLink RX0 7 Lib.Math.max.name) (jWr_3 _ (List.mem_of_getElem? (i := 5) rfl))) (htw (.static Lib.Math.max.name) (jWr_3 _ (List.mem_of_getElem? (i := 6) rfl))) (htw (.initialized "java/lang/Math") (jWr_3 _ (List.mem_of_getElem? (i := 7) rfl))) (htw (.code Lib.Math.max.name Lib.Math.max.code 2 (some .int)) (jWr_3 _ (List.mem_of_getElem? (i := 8) rfl))) (by rw [← hR]; exact Nat.le_of_ble_eq_true rfl) (by rw [← hR]; exact Nat.le_of_ble_eq_true rfl) (by rw [hRc]; omega) (by rw [hRs]; omega) dX0_init_8 ?_
  refine lv_topi (fun z_2 ez_2 => ?_)
  have hz_2 := jb_max ez_2
  have hsz_3 := hh.2.2.2.2.2.1
  have htt_3 := hh.2.2.2.2.2.2.1
  refine j7_newiK hx hb hK hh hB (atype := .byte) (ty := .byte) (htw (.arrayClass .byte) (jWr_3 _ (List.mem_of_getElem? (i := 9) rfl))) rfl rfl (fun _ h => h) hB199 0 rfl (by decide) (by decide) hbs (x := z_2.toInt) rfl (by omega) (fun j => by first | trivial | decide | rfl | exact Or.inl rfl | exact Or.inr (Or.inl (by decide)) | (refine ⟨?_, ?_⟩ <;> decide)) (by rw [hRc]; omega) (by rw [hRs]; omega) dX0_init_11 (fun H_3 hfr_3 hh_3 => ?_)
  have hh_3 : jSt (dC, dI) B base G0 (va_up G0 s.heap.size (some (199, (z_2.toInt).toNat))) EX0_initI s.heap (0 + 1) (0 + (z_2.toInt).toNat) [] [] [(jFib, jIB dC dI ca G0 0 ib)] H_3 [] := hh_3
  have hW_3 : jNk [0, 1, 2, 3, 4, 5, 6, 7, 8, 9, 10, 11, 12, 13, 14, 15, 16, 17, 175] G0 (va_up G0 s.heap.size (some (199, (z_2.toInt).toNat))) := jNk.new (by decide)
  have hN_3 : (jNk [0, 1, 2, 3, 4, 5, 6, 7, 8, 9, 10, 11, 12, 13, 14, 15, 16, 175]) G0 (va_up G0 s.heap.size (some (199, (z_2.toInt).toNat))) := jNk.new (by decide)
  have hgn_3 : (va_up G0 s.heap.size (some (199, (z_2.toInt).toNat))) s.heap.size = some (199, (z_2.toInt).toNat) := jUp_self
  have hle_3 : jLe G0 (va_up G0 s.heap.size (some (199, (z_2.toInt).toNat))) := jLe.new hh.2.1.fresh
  have hke_3 : jKe G0 (va_up G0 s.heap.size (some (199, (z_2.toInt).toNat))) s.heap H_3 := jKe.new hfr_3
  have hsy_3 : s.heap.size ≤ s.heap.size := hh.1.1
  generalize (va_up G0 s.heap.size (some (199, (z_2.toInt).toNat))) = G_3 at hN_3 hgn_3 hle_3 hke_3 hh_3 hW_3
  have hn17_3 : jNk [17] G0 G_3 := (jNk.rf).tr (hW_3.sub (ks1 := [17]) (by decide))
  generalize hnc_3 : (z_2.toInt).toNat = nc_3 at hgn_3 hh_3 ⊢
  clear hh
  have hNn_3 : (jNk [0, 1, 2, 3, 4, 5, 6, 7, 8, 9, 10, 11, 12, 13, 14, 15, 16, 175]) G0 G_3 := (jNk.rf).tr hN_3
  have hkp_4 := hkp.tr hke_3
  have hraw_5n := hke_3.nr hraw0.lt hnr0
  have hraw_5 := hraw0.kept (hke_3.1 _ hraw0.lt)
  have hd_6 := jIB.grow (r := 0) (hh_3.iv 0 rfl) hle_3 hW_3 (by decide)
  have hh_7 := hh_3.sub (L1 := []) [] rfl (M1 := []) [] rfl (I1 := []) [] rfl
  clear hh_3
  have hh_8 := hh_7.addI (jIB.ie hd_6)
  clear hh_7
  refine j7_putR hx hb hown hK hh_8 hB hAp hraw_5 hraw_5n hbr0 (C := RX0) (T := TX0) (N := 2) rfl (i := 0) (by decide) (Nat.le_of_ble_eq_true rfl) hly_17_0 rfl hlk_13 (ty := (.array .byte)) (v := .ref s.heap.size) (by decide +kernel) rfl rfl dX0_init_13 (fun H_9 locs_9 hraw_9 hr_9 hh_9 => ?_)
  have hraw_9 : va_at (dC, dI) vwCl (r0, .inr (17, [.ref s.heap.size, .int 0])) H_9 := hraw_9
  have hkp_10 := hkp_4.put hr_9
  clear hh_8
  have hsz_11 := hh_9.2.2.2.2.2.1
  have htt_11 := hh_9.2.2.2.2.2.2.1
  refine W.room (fun hrc_11 hrs_11 => ?_)
  refine W.widen (k := LC - s.heap.size) (n := LS - jTot s.heap) (by omega) (by omega) ?_
  rw [hQ]
  have hg_12 := (jLe.rf) _ _ hgn_3
  obtain ⟨fj_13, hh_13⟩ := hh_9.cpin hB199 (by decide) (by decide) hg_12
  have hd_14 := jIB.typ (r := 0) (l := []) (hh_13.iv 0 rfl) hraw_5n (jf.raw (C := RX0) (T := TX0) (N := 2) rfl hraw_9 (i := 0) (by decide)) (jf.raw (C := RX0) (T := TX0) (N := 2) rfl hraw_9 (i := 1) (by decide)) hg_12 (by decide) (by have h9 := hk0; omega) ((hh_13.2.2.2.2.2.2.2.1 _ (List.mem_of_getElem? (i := 0) rfl)).2.2.2) rfl (jIB.fresh (r := 0) hJi0 (fun a t ht => hab0 ht) hnr0 hn17_3 hkp_10 hsy_3)
  have hh_15 := hh_13.sub (L1 := []) [] rfl (M1 := [(s.heap.size, 199, nc_3, ca 0, fj_13)]) [0] rfl (I1 := []) [] rfl
  clear hh_13
  have hle_16 : jLe G_3 (va_up G_3 r0 (some (17, 0))) := jLe.typ hraw_5n
  have hg_17 := (jLe.rf).tr hle_16 _ _ hgn_3
  have hfa_16 : jRk (va_up G_3 r0 (some (17, 0))) 199 4096 (.ref s.heap.size) ∧ jI 0 4096 (.int 0) ∧ True := ⟨⟨_, _, rfl, hg_17, by omega⟩, ⟨_, rfl, by omega, by omega⟩, trivial⟩
  have hh_16 := hh_15.typ (k := 17) (n := 0) hB hraw_5n hbr0 hraw_9.lt (jOb.of (C := RX0) (T := TX0) (N := 2) (F := F17) hB17 rfl hraw_9 (show jFx (F17 0 (va_up G_3 r0 (some (17, 0)))) [.ref s.heap.size, .int 0] from hfa_16))
  have hgn_16 : (va_up G_3 r0 (some (17, 0))) r0 = some (17, 0) := jUp_self
  have hN_16 : (jNk [0, 1, 2, 3, 4, 5, 6, 7, 8, 9, 10, 11, 12, 13, 14, 15, 16, 175]) G_3 (va_up G_3 r0 (some (17, 0))) := jNk.new (by decide)
  have hNn_16 : (jNk [0, 1, 2, 3, 4, 5, 6, 7, 8, 9, 10, 11, 12, 13, 14, 15, 16, 175]) G0 (va_up G_3 r0 (some (17, 0))) := (hNn_3).tr hN_16
  have hkp_18 := hkp_10.typ (t := some (17, 0))
  have hg_19 := (hle_16) _ _ hgn_3
  have hh_20 := hh_16.more (P1 := [(r0, 17, 1, .int 0), (r0, 17, 0, .ref s.heap.size)]) (jP.cons hgn_16 (jf.raw (C := RX0) (T := TX0) (N := 2) rfl hraw_9 (i := 1) (by decide)) (jP.cons hgn_16 (jf.raw (C := RX0) (T := TX0) (N := 2) rfl hraw_9 (i := 0) (by decide)) jP.nil))
  have hh_21 := hh_20.addI (jIB.ie (r := 0) hd_14)
  clear hh_20
  exact W.vret hx hb hr (fun t ht hW => ⟨⟨(0, s.heap.size, nc_3, (va_up G_3 r0 (some (17, 0)))), rfl, by (try dsimp only); exact ⟨(by first | omega | rfl | assumption | fail), (by first | omega | rfl | assumption | fail)⟩, ⟨hh_21.ra (by first | (simp only; omega) | omega) (by first | (simp only; omega) | omega) (M1 := [(r0, 17, 1, .int 0), (r0, 17, 0, .ref s.heap.size)]) [0, 1] rfl ht, hg_19, hNn_16, hgn_16, by rw [ht]; exact hkp_18, by rw [ht]; exact hh_21.2.2.2.2.2.2.2.2.sub (L1 := [(jFib, jIB dC dI ca (va_up G_3 r0 (some (17, 0))) 0 (jUf ib r0 []))]) [0] rfl⟩⟩, by rw [ht]; try exact hh_21.1.1, fun q h9 hq => by rw [ht]; try exact hh_21.1.2.1 q h9 hq⟩) hh_21.1.2.2 dX0_init_16
end
section
-- p8: a request is made: its id as it is written
section J9RI
variable {ib iB : Nat → List Int} {N i : Nat} {T : Nat → Int → Int} {v x : Int}
theorem jzRi.no {P : Prop} {l : List Int} (h : ¬ P) : jzRi ib ib N .null P l := Or.inr ⟨h, rfl, rfl⟩
theorem jwUn.of0 {f : Nat → Int32} {z : Nat} (hf : ∀ j : Int, 0 ≤ j → j < z → jSo f j = jqA T v x j) (hz : (z : Int) = T 3 x) : jcL f z 0 = jwUn T v x (T 3 x).toNat 0 := by
  rw [← hz, show ((z : Int)).toNat = z by omega]
  exact jwUn.eq z 0 0 (fun j h0 h1 => by rw [Int.zero_add]; exact hf j h0 h1)
end J9RI
section J9HI
variable {q : jRqG} {ib : Nat → List Int} {a b i j : Nat} {f g : Nat → Int32} {n m v : Int}
theorem jzHi.n1 (h : q.iv a = .null) : ¬ jzHi q ib a b := fun ⟨i, j, h1, _⟩ => by rw [h] at h1; cases h1
theorem jzHi.n2 (h : q.iv b = .null) : ¬ jzHi q ib a b := fun ⟨i, j, _, h1, _⟩ => by rw [h] at h1; cases h1
end J9HI
end
