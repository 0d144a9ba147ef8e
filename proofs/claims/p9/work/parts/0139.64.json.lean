section
theorem dX4_read_0 : decode cX4_read 0 = .ok (.aload_n 0, 1) := by decide +kernel
theorem dX4_read_1 : decode cX4_read 1 = .ok (.aload_n 1, 1) := by decide +kernel
theorem dX4_read_2 : decode cX4_read 2 = .ok (.putfield 33, 3) := by decide +kernel
theorem dX4_read_5 : decode cX4_read 5 = .ok (.aload_n 0, 1) := by decide +kernel
theorem dX4_read_6 : decode cX4_read 6 = .ok (.iload_n 2, 1) := by decide +kernel
theorem dX4_read_7 : decode cX4_read 7 = .ok (.aload_n 1, 1) := by decide +kernel
theorem dX4_read_8 : decode cX4_read 8 = .ok (.arraylength, 1) := by decide +kernel
theorem dX4_read_9 : decode cX4_read 9 = .ok (.invokestatic 37, 3) := by decide +kernel
theorem dX4_read_12 : decode cX4_read 12 = .ok (.putfield 43, 3) := by decide +kernel
theorem dX4_read_15 : decode cX4_read 15 = .ok (.aload_n 0, 1) := by decide +kernel
theorem dX4_read_16 : decode cX4_read 16 = .ok (.iconst 0, 1) := by decide +kernel
theorem dX4_read_17 : decode cX4_read 17 = .ok (.putfield 47, 3) := by decide +kernel
theorem dX4_read_20 : decode cX4_read 20 = .ok (.aload_n 0, 1) := by decide +kernel
theorem dX4_read_21 : decode cX4_read 21 = .ok (.iconst 0, 1) := by decide +kernel
theorem dX4_read_22 : decode cX4_read 22 = .ok (.putfield 50, 3) := by decide +kernel
theorem dX4_read_25 : decode cX4_read 25 = .ok (.aload_n 0, 1) := by decide +kernel
theorem dX4_read_26 : decode cX4_read 26 = .ok (.iconst 0, 1) := by decide +kernel
theorem dX4_read_27 : decode cX4_read 27 = .ok (.putfield 53, 3) := by decide +kernel
theorem dX4_read_30 : decode cX4_read 30 = .ok (.aload_n 0, 1) := by decide +kernel
theorem dX4_read_31 : decode cX4_read 31 = .ok (.invokevirtual 56, 3) := by decide +kernel
theorem dX4_read_34 : decode cX4_read 34 = .ok (.aload_n 0, 1) := by decide +kernel
theorem dX4_read_35 : decode cX4_read 35 = .ok (.iconst 0, 1) := by decide +kernel
theorem dX4_read_36 : decode cX4_read 36 = .ok (.invokevirtual 59, 3) := by decide +kernel
theorem dX4_read_39 : decode cX4_read 39 = .ok (.istore_n 3, 1) := by decide +kernel
theorem dX4_read_40 : decode cX4_read 40 = .ok (.aload_n 0, 1) := by decide +kernel
theorem dX4_read_41 : decode cX4_read 41 = .ok (.invokevirtual 56, 3) := by decide +kernel
theorem dX4_read_44 : decode cX4_read 44 = .ok (.iload_n 3, 1) := by decide +kernel
theorem dX4_read_45 : decode cX4_read 45 = .ok (.ifCond .ne 18, 3) := by decide +kernel
theorem dX4_read_48 : decode cX4_read 48 = .ok (.aload_n 0, 1) := by decide +kernel
theorem dX4_read_49 : decode cX4_read 49 = .ok (.getfield 47, 3) := by decide +kernel
theorem dX4_read_52 : decode cX4_read 52 = .ok (.aload_n 0, 1) := by decide +kernel
theorem dX4_read_53 : decode cX4_read 53 = .ok (.getfield 43, 3) := by decide +kernel
theorem dX4_read_56 : decode cX4_read 56 = .ok (.if_icmp .ne 7, 3) := by decide +kernel
theorem dX4_read_59 : decode cX4_read 59 = .ok (.iconst 1, 1) := by decide +kernel
theorem dX4_read_60 : decode cX4_read 60 = .ok (.goto 4, 3) := by decide +kernel
theorem dX4_read_63 : decode cX4_read 63 = .ok (.iconst 0, 1) := by decide +kernel
theorem dX4_read_64 : decode cX4_read 64 = .ok (.ireturn, 1) := by decide +kernel
end
section
def EX4_readJ : List (Nat × Nat) := [(6, 7), (6, 8), (6, 9), (6, 10), (6, 11), (140, 0), (141, 0), (142, 0), (143, 0), (144, 0), (145, 0), (146, 0)]
set_option maxHeartbeats 4000000 in
set_option maxRecDepth 20000 in
theorem uX4_readJ (l : Launch) (dC : Nat → ClassId) (dI : Nat → Nat → Nat) (ca : Nat → ClassId) (base : Nat) (B : jF) (hB : jBok B) (hAp : jAp (dC, dI)) (hB6 : ∀ n G a H, B 6 n G a H ↔ jOb (dC, dI) 6 12 (F6 n G) a H) (hB100 : ∀ n G a H, B 100 n G a H ↔ jAr (dC, dI) (ca 0) (fun j z => True) n a H) (hB140 : ∀ n G a H, B 140 n G a H ↔ jAr (dC, dI) (ca 1) (fun j z => True) n a H) (hB141 : ∀ n G a H, B 141 n G a H ↔ jAr (dC, dI) (ca 1) (fun j z => True) n a H) (hB142 : ∀ n G a H, B 142 n G a H ↔ jAr (dC, dI) (ca 1) (fun j z => True) n a H) (hB143 : ∀ n G a H, B 143 n G a H ↔ jAr (dC, dI) (ca 1) (fun j z => True) n a H) (hB144 : ∀ n G a H, B 144 n G a H ↔ jAr (dC, dI) (ca 1) (fun j z => 0 ≤ z.toInt ∧ z.toInt ≤ 3000) n a H) (hB145 : ∀ n G a H, B 145 n G a H ↔ jAr (dC, dI) (ca 1) (fun j z => True) n a H) (hB146 : ∀ n G a H, B 146 n G a H ↔ jAr (dC, dI) (ca 1) (fun j z => True) n a H) (G0 : jT) (H0 : Heap) (r0 : Nat) (r1 : Nat) (a2 : Int32) (n1 : Nat) (wk : Nat) (wi : Nat) (wz : Nat) (jnx : Nat) (jkf : Nat) (jks : Nat) (jun : Nat) (fb : Nat → Int32) (fk : Nat → Int32) (fi : Nat → Int32) (fz : Nat → Int32) (fn : Nat → Int32) (fa : Nat → Int32) (fs : Nat → Int32) (fu : Nat → Int32) : Met l yX4_read (jw yX4_read cX4_read 4 (some .boolean)) ({ frames := 29, cells := 0, slots := 0, locals := 1823 }) (va_Pc [.ref r0, .ref r1, .int a2] (fun U => U.heap = H0 ∧ jX B base G0 [] H0 ∧ jG dC dI ca base U ∧ G0 r1 = some (100, n1) ∧ G0 r0 = some (6, 0) ∧ G0 wk = some (140, 1502) ∧ G0 wi = some (141, 1502) ∧ G0 wz = some (142, 1502) ∧ G0 jnx = some (143, 1502) ∧ G0 jkf = some (144, 1502) ∧ G0 jks = some (145, 1502) ∧ G0 jun = some (146, 3000) ∧ jP (dC, dI) G0 H0 [(r0, 6, 0, .ref wk), (r0, 6, 1, .ref wi), (r0, 6, 2, .ref wz), (r0, 6, 3, .ref jnx), (r0, 6, 4, .ref jkf), (r0, 6, 5, .ref jks), (r0, 6, 6, .ref jun)] ∧ jMc (dC, dI) G0 H0 [(r1, 100, n1, ca 0, fb), (wk, 140, 1502, ca 1, fk), (wi, 141, 1502, ca 1, fi), (wz, 142, 1502, ca 1, fz), (jnx, 143, 1502, ca 1, fn), (jkf, 144, 1502, ca 1, fa), (jks, 145, 1502, ca 1, fs), (jun, 146, 3000, ca 1, fu)] ∧ n1 ≤ 3000 ∧ 0 ≤ a2.toInt ∧ a2.toInt ≤ n1 ∧ jjFt fb a2.toInt)) (va_Qi (S := Int32 × Int32 × (Nat → Int32) × (Nat → Int32) × (Nat → Int32) × (Nat → Int32) × (Nat → Int32) × (Nat → Int32) × (Nat → Int32)) (fun r u => (r = 0 ∨ r = 1) ∧ (u.1.toInt ≤ 1502 ∧ u.2.1.toInt ≤ 3000 ∧ jJr (fk, fi, fz, fa, fs) 0 0 (u.2.2.1, u.2.2.2.1, u.2.2.2.2.1, u.2.2.2.2.2.2.1, u.2.2.2.2.2.2.2.1) u.1.toInt u.2.1.toInt ∧ (r.toInt = 0 ∨ (1 ≤ u.1.toInt ∧ u.2.1.toInt + jSb u.2.2.2.2.2.2.2.1 (u.1.toInt).toNat ≤ a2.toInt + 1)) ∧ jjQr (jjRd (jB8 fb) a2.toInt) r.toInt u.1.toInt u.2.1.toInt u.2.2.1 u.2.2.2.1 u.2.2.2.2.1 u.2.2.2.2.2.1 u.2.2.2.2.2.2.1 u.2.2.2.2.2.2.2.1 u.2.2.2.2.2.2.2.2)) (fun u t => jRt (dC, dI) B base G0 EX4_readJ H0 [(r0, 6, 7, .int u.1), (r0, 6, 8, .int u.2.1)] t.heap ∧ jMc (dC, dI) G0 t.heap [(wk, 140, 1502, ca 1, u.2.2.1), (wi, 141, 1502, ca 1, u.2.2.2.1), (wz, 142, 1502, ca 1, u.2.2.2.2.1), (jnx, 143, 1502, ca 1, u.2.2.2.2.2.1), (jkf, 144, 1502, ca 1, u.2.2.2.2.2.2.1), (jks, 145, 1502, ca 1, u.2.2.2.2.2.2.2.1), (jun, 146, 3000, ca 1, u.2.2.2.2.2.2.2.2)]) (jA base)) 0 0 (jA base) := by
  refine Met.ofW (cc := cX4_read) (maxL := 4) (ret := (some .boolean)) (by decide) rfl ?_
  intro p e s m args below meth c s₁ Bd hml hv
  obtain ⟨rfl, hH0, hX, hG, hg_r1, hg_r0, hg_wk, hg_wi, hg_wz, hg_jnx, hg_jkf, hg_jks, hg_jun, hP0, hM0, hp0, hp1, hp2, hp3⟩ := hv
  have hK := hG.1
  have hx := Bd.exec
  have hb := Bd.bytes
  have hr := Bd.returns
  have hts := atoms_spec (ws := (jw yX4_read cX4_read 4 (some .boolean))) Bd.pre
  have htw : ∀ w ∈ jWl, w.before _ s = true := fun w h => hts w (List.mem_cons_of_mem _ h)
  have hown : s.vm.findClass RX4 = some m.cls := findClass_of_methodNamed Bd.named
  have hlocks := Bd.notSynchronized
  obtain ⟨Q, hQ⟩ : ∃ Q, Q = MQ below (va_Qi (S := Int32 × Int32 × (Nat → Int32) × (Nat → Int32) × (Nat → Int32) × (Nat → Int32) × (Nat → Int32) × (Nat → Int32) × (Nat → Int32)) (fun r u => (r = 0 ∨ r = 1) ∧ (u.1.toInt ≤ 1502 ∧ u.2.1.toInt ≤ 3000 ∧ jJr (fk, fi, fz, fa, fs) 0 0 (u.2.2.1, u.2.2.2.1, u.2.2.2.2.1, u.2.2.2.2.2.2.1, u.2.2.2.2.2.2.2.1) u.1.toInt u.2.1.toInt ∧ (r.toInt = 0 ∨ (1 ≤ u.1.toInt ∧ u.2.1.toInt + jSb u.2.2.2.2.2.2.2.1 (u.1.toInt).toNat ≤ a2.toInt + 1)) ∧ jjQr (jjRd (jB8 fb) a2.toInt) r.toInt u.1.toInt u.2.1.toInt u.2.2.1 u.2.2.2.1 u.2.2.2.2.1 u.2.2.2.2.2.1 u.2.2.2.2.2.2.1 u.2.2.2.2.2.2.2.1 u.2.2.2.2.2.2.2.2)) (fun u t => jRt (dC, dI) B base G0 EX4_readJ H0 [(r0, 6, 7, .int u.1), (r0, 6, 8, .int u.2.1)] t.heap ∧ jMc (dC, dI) G0 t.heap [(wk, 140, 1502, ca 1, u.2.2.1), (wi, 141, 1502, ca 1, u.2.2.2.1), (wz, 142, 1502, ca 1, u.2.2.2.2.1), (jnx, 143, 1502, ca 1, u.2.2.2.2.2.1), (jkf, 144, 1502, ca 1, u.2.2.2.2.2.2.1), (jks, 145, 1502, ca 1, u.2.2.2.2.2.2.2.1), (jun, 146, 3000, ca 1, u.2.2.2.2.2.2.2.2)]) (jA base)) ([.ref r0, .ref r1, .int a2] : List Value).toArray s 0 0 (jA base) := ⟨_, rfl⟩
  rw [← hQ]
  have hl := lv_entry ([.ref r0, .ref r1, .int a2]) (n := 4) (Nat.le_of_ble_eq_true rfl)
  rw [lg_entry_eq]
  generalize (lg_sl ([.ref r0, .ref r1, .int a2]) ++ List.replicate (4 - (lg_sl ([.ref r0, .ref r1, .int a2])).length) Slot.unset).toArray = ls at hl ⊢
  have hl : lv_has ls 4 [(0, .ref r0), (1, .ref r1), (2, .int a2)] := hl
  generalize hR : (headSpec (jw yX4_read cX4_read 4 (some .boolean)) ({ frames := 29, cells := 0, slots := 0, locals := 1823 })).room = R
  subst hH0
  have hh : jSt (dC, dI) B base G0 G0 EX4_readJ s.heap 0 0 [(r0, 6, 0, .ref wk), (r0, 6, 1, .ref wi), (r0, 6, 2, .ref wz), (r0, 6, 3, .ref jnx), (r0, 6, 4, .ref jkf), (r0, 6, 5, .ref jks), (r0, 6, 6, .ref jun)] [(r1, 100, n1, ca 0, fb), (wk, 140, 1502, ca 1, fk), (wi, 141, 1502, ca 1, fi), (wz, 142, 1502, ca 1, fz), (jnx, 143, 1502, ca 1, fn), (jkf, 144, 1502, ca 1, fa), (jks, 145, 1502, ca 1, fs), (jun, 146, 3000, ca 1, fu)] [] s.heap [] := jSt.start hX hP0 hM0 jIs.nil
  clear hX hP0
  have hk0 : (0 : Int32).toInt = 0 := by decide
  have hk1 : (1 : Int32).toInt = 1 := by decide
  have hly_6_7 := htw (u_lay RX4 TX4 7) (jWc_wsX40 _ (u_in_lay (by decide)))
  have hly_6_8 := htw (u_lay RX4 TX4 8) (jWc_wsX40 _ (u_in_lay (by decide)))
  have hly_6_9 := htw (u_lay RX4 TX4 9) (jWc_wsX40 _ (u_in_lay (by decide)))
  have hly_6_10 := htw (u_lay RX4 TX4 10) (jWc_wsX40 _ (u_in_lay (by decide)))
  have hly_6_11 := htw (u_lay RX4 TX4 11) (jWc_wsX40 _ (u_in_lay (by decide)))
  have hlk_33 := (htw (.fieldLink RX4 33 "ProofServer$Json" "bytes" "[B") (jWr_4 _ (List.mem_of_getElem? (i := 4) rfl)))
  have hlk_43 := (htw (.fieldLink RX4 43 "ProofServer$Json" "end" "I") (jWr_19 _ (List.mem_of_getElem? (i := 11) rfl)))
  have hlk_47 := (htw (.fieldLink RX4 47 "ProofServer$Json" "at" "I") (jWr_19 _ (List.mem_of_getElem? (i := 12) rfl)))
  have hlk_50 := (htw (.fieldLink RX4 50 "ProofServer$Json" "values" "I") (jWr_19 _ (List.mem_of_getElem? (i := 13) rfl)))
  have hlk_53 := (htw (.fieldLink RX4 53 "ProofServer$Json" "unitCount" "I") (jWr_19 _ (List.mem_of_getElem? (i := 14) rfl)))
  have hrg_a2 := jb_rng a2
  refine lv_aload_n hx hb dX4_read_0 rfl (lv_at hl 0 rfl) ?_
  refine lv_aload_n hx hb dX4_read_1 rfl (lv_at hl 1 rfl) ?_
  refine j7_put hx hb hown hK hh hB hAp hB6 (C := RX4) (T := TX4) (N := 12) rfl (by decide) hg_r0 (i := 9) (by decide) hly_6_9 rfl hlk_33 rfl (ty := (.array .byte)) (v := .ref r1) (by decide +kernel) rfl rfl (⟨_, _, rfl, hg_r1, by omega⟩) rfl (L1 := [(r0, 6, 0, .ref wk), (r0, 6, 1, .ref wi), (r0, 6, 2, .ref wz), (r0, 6, 3, .ref jnx), (r0, 6, 4, .ref jkf), (r0, 6, 5, .ref jks), (r0, 6, 6, .ref jun)]) [0, 1, 2, 3, 4, 5, 6] rfl rfl rfl dX4_read_2 (fun H_1 locs_1 hh_1 => ?_)
  clear hh
  refine lv_aload_n hx hb dX4_read_5 rfl (lv_at hl 0 rfl) ?_
  refine lv_iload_n hx hb dX4_read_6 rfl (lv_at hl 2 rfl) ?_
  refine lv_aload_n hx hb dX4_read_7 rfl (lv_at hl 1 rfl) ?_
  refine j7_len hx hb hK hh_1 hB100 0 rfl (by decide) hg_r1 (by omega) dX4_read_8 (fun z_2 hz_2 => ?_)
  refine va_mmin hx hb (by rw [hml]; exact hl.1.symm) hown (htw (.methodLink RX4 37 Lib.Math.min.name) (jWr_19 _ (List.mem_of_getElem? (i := 10) rfl))) (htw (.static Lib.Math.min.name) (jWr_16 _ (List.mem_of_getElem? (i := 16) rfl))) (htw (.initialized "java/lang/Math") (jWr_3 _ (List.mem_of_getElem? (i := 7) rfl))) (htw (.code Lib.Math.min.name Lib.Math.min.code 2 (some .int)) (jWr_16 _ (List.mem_of_getElem? (i := 17) rfl))) (by rw [← hR]; exact Nat.le_of_ble_eq_true rfl) (by rw [← hR]; exact Nat.le_of_ble_eq_true rfl) (Nat.zero_le _) (Nat.zero_le _) dX4_read_9 ?_
  refine lv_topi (fun z_3 ez_3 => ?_)
  have hz_3 := jb_min ez_3
  refine j7_put hx hb hown hK hh_1 hB hAp hB6 (C := RX4) (T := TX4) (N := 12) rfl (by decide) hg_r0 (i := 10) (by decide) hly_6_10 rfl hlk_43 rfl (ty := .int) (v := .int z_3) (by decide +kernel) rfl rfl (⟨_, rfl, by omega, by omega⟩) rfl (L1 := [(r0, 6, 9, .ref r1), (r0, 6, 0, .ref wk), (r0, 6, 1, .ref wi), (r0, 6, 2, .ref wz), (r0, 6, 3, .ref jnx), (r0, 6, 4, .ref jkf), (r0, 6, 5, .ref jks), (r0, 6, 6, .ref jun)]) [0, 1, 2, 3, 4, 5, 6, 7] rfl rfl rfl dX4_read_12 (fun H_4 locs_4 hh_4 => ?_)
  clear hh_1
  have hmn : z_3.toInt = a2.toInt := by omega
  have hft9 : jjFt fb z_3.toInt := by rw [hmn]; exact hp3
  refine lv_aload_n hx hb dX4_read_15 rfl (lv_at hl 0 rfl) ?_
  refine lv_iconst (v := 0) hx hb dX4_read_16 (by decide) ?_
  refine j7_put hx hb hown hK hh_4 hB hAp hB6 (C := RX4) (T := TX4) (N := 12) rfl (by decide) hg_r0 (i := 11) (by decide) hly_6_11 rfl hlk_47 rfl (ty := .int) (v := .int 0) (by decide +kernel) rfl rfl (⟨_, rfl, by omega, by omega⟩) rfl (L1 := [(r0, 6, 10, .int z_3), (r0, 6, 9, .ref r1), (r0, 6, 0, .ref wk), (r0, 6, 1, .ref wi), (r0, 6, 2, .ref wz), (r0, 6, 3, .ref jnx), (r0, 6, 4, .ref jkf), (r0, 6, 5, .ref jks), (r0, 6, 6, .ref jun)]) [0, 1, 2, 3, 4, 5, 6, 7, 8] rfl rfl rfl dX4_read_17 (fun H_5 locs_5 hh_5 => ?_)
  clear hh_4
  refine lv_aload_n hx hb dX4_read_20 rfl (lv_at hl 0 rfl) ?_
  refine lv_iconst (v := 0) hx hb dX4_read_21 (by decide) ?_
  refine j7_put hx hb hown hK hh_5 hB hAp hB6 (C := RX4) (T := TX4) (N := 12) rfl (by decide) hg_r0 (i := 7) (by decide) hly_6_7 rfl hlk_50 rfl (ty := .int) (v := .int 0) (by decide +kernel) rfl rfl (⟨_, rfl, by omega, by omega⟩) rfl (L1 := [(r0, 6, 11, .int 0), (r0, 6, 10, .int z_3), (r0, 6, 9, .ref r1), (r0, 6, 0, .ref wk), (r0, 6, 1, .ref wi), (r0, 6, 2, .ref wz), (r0, 6, 3, .ref jnx), (r0, 6, 4, .ref jkf), (r0, 6, 5, .ref jks), (r0, 6, 6, .ref jun)]) [0, 1, 2, 3, 4, 5, 6, 7, 8, 9] rfl rfl rfl dX4_read_22 (fun H_6 locs_6 hh_6 => ?_)
  clear hh_5
  refine lv_aload_n hx hb dX4_read_25 rfl (lv_at hl 0 rfl) ?_
  refine lv_iconst (v := 0) hx hb dX4_read_26 (by decide) ?_
  refine j7_put hx hb hown hK hh_6 hB hAp hB6 (C := RX4) (T := TX4) (N := 12) rfl (by decide) hg_r0 (i := 8) (by decide) hly_6_8 rfl hlk_53 rfl (ty := .int) (v := .int 0) (by decide +kernel) rfl rfl (⟨_, rfl, by omega, by omega⟩) rfl (L1 := [(r0, 6, 7, .int 0), (r0, 6, 11, .int 0), (r0, 6, 10, .int z_3), (r0, 6, 9, .ref r1), (r0, 6, 0, .ref wk), (r0, 6, 1, .ref wi), (r0, 6, 2, .ref wz), (r0, 6, 3, .ref jnx), (r0, 6, 4, .ref jkf), (r0, 6, 5, .ref jks), (r0, 6, 6, .ref jun)]) [0, 1, 2, 3, 4, 5, 6, 7, 8, 9, 10] rfl rfl rfl dX4_read_27 (fun H_7 locs_7 hh_7 => ?_)
  clear hh_6
  refine lv_aload_n hx hb dX4_read_30 rfl (lv_at hl 0 rfl) ?_
  refine va_callv (A0 := jA base) (H0 := s.heap) (va_runV (As := []) (rest := []) ⟨hx, hb, hml, hown, hts⟩ (uX4_skipBlanksJ l dC dI ca base B hB hAp hB6 hB100 G0 H_7 r0 r1 n1 z_3 0 (z_3.toInt + 0) fb) (cwV 0 hts (jgV (jWr_19 _ (List.mem_of_getElem? (i := 15) rfl)) (jWr_19 _ (List.mem_of_getElem? (i := 16) rfl)) (jWr_19 _ (List.mem_of_getElem? (i := 17) rfl)) (jWr_1 _ (List.mem_of_getElem? (i := 22) rfl)) (jWr_19 _ (List.mem_of_getElem? (i := 18) rfl))) rfl rfl rfl (by decide +kernel) ⟨by rw [← hR]; exact Nat.le_of_ble_eq_true rfl, by rw [← hR]; exact Nat.le_of_ble_eq_true rfl⟩) ⟨fun a U g mk q => by obtain ⟨q0, q1, q2, qK, q10, q11, q12, q13, q14⟩ := q; exact ⟨q0, q1, q2, jG.calling g mk a qK, q10, q11, q12, q13, q14⟩, hh_7.recv (C := RX4) (T := TX4) (N := 12) hB6 rfl (by decide) hg_r0 hK, fun U hU hW => ⟨rfl, hU, hh_7.2.1, hG.step hW hU hh_7.1, hg_r0, hg_r1, (hh_7.2.2.1.sub (L1 := [(r0, 6, 9, .ref r1), (r0, 6, 10, .int z_3), (r0, 6, 11, .int 0)]) [4, 3, 2] rfl), (hh_7.2.2.2.2.2.2.2.1.sub (L1 := [(r1, 100, n1, ca 0, fb)]) [0] rfl), by first | omega | (refine ⟨?_, ?_, ?_, ?_, ?_, ?_, ?_, ?_⟩ <;> (first | omega | rfl | assumption | decide | exact Or.inl rfl | exact Or.inr rfl | (simp only; omega)))⟩⟩ rfl rfl hl.1 rfl (lv_room (Nat.le_of_ble_eq_true rfl)) dX4_read_31 ⟨Nat.zero_le _, Nat.zero_le _⟩) hh_7.1 (fun q _ h => h) (fun q h => h) (fun u_8 t_8 H_8 locs_8 ht_8 hvm_8 hr_9 hb_8 hz_8 hk_8 hS_8 => ?_)
  obtain ⟨qt_8, rfl⟩ : ∃ z, z = u_8 := ⟨_, rfl⟩
  rw [ht_8] at hb_8
  obtain ⟨hb_81, hb_82, hb_83, hb_84, hb_85⟩ := hb_8
  have hh_8 : jSt (dC, dI) B base G0 G0 EX4_readJ s.heap 0 0 [(r0, 6, 11, .int qt_8), (r0, 6, 8, .int 0), (r0, 6, 7, .int 0), (r0, 6, 10, .int z_3), (r0, 6, 9, .ref r1), (r0, 6, 0, .ref wk), (r0, 6, 1, .ref wi), (r0, 6, 2, .ref wz), (r0, 6, 3, .ref jnx), (r0, 6, 4, .ref jkf), (r0, 6, 5, .ref jks), (r0, 6, 6, .ref jun)] [(r1, 100, n1, ca 0, fb), (wk, 140, 1502, ca 1, fk), (wi, 141, 1502, ca 1, fi), (wz, 142, 1502, ca 1, fz), (jnx, 143, 1502, ca 1, fn), (jkf, 144, 1502, ca 1, fa), (jks, 145, 1502, ca 1, fs), (jun, 146, 3000, ca 1, fu)] [] H_8 locs_8 := ((hh_7.call hb_81 hb_82 hb_83 hb_84 hS_8 rfl (L1 := [(r0, 6, 8, .int 0), (r0, 6, 7, .int 0), (r0, 6, 10, .int z_3), (r0, 6, 9, .ref r1), (r0, 6, 0, .ref wk), (r0, 6, 1, .ref wi), (r0, 6, 2, .ref wz), (r0, 6, 3, .ref jnx), (r0, 6, 4, .ref jkf), (r0, 6, 5, .ref jks), (r0, 6, 6, .ref jun)]) [0, 1, 3, 4, 5, 6, 7, 8, 9, 10, 11] rfl rfl (M1 := [(r1, 100, n1, ca 0, fb), (wk, 140, 1502, ca 1, fk), (wi, 141, 1502, ca 1, fi), (wz, 142, 1502, ca 1, fz), (jnx, 143, 1502, ca 1, fn), (jkf, 144, 1502, ca 1, fa), (jks, 145, 1502, ca 1, fs), (jun, 146, 3000, ca 1, fu)]) [0, 1, 2, 3, 4, 5, 6, 7] rfl rfl (I1 := []) [] rfl rfl).more hb_85)
  clear hh_7 ht_8 hvm_8 hz_8 hk_8 hS_8 hb_81 hb_82 hb_83 hb_84 hb_85
  obtain ⟨hr_9_0, hr_9_1, hr_9_2⟩ := hr_9
  refine lv_aload_n hx hb dX4_read_34 rfl (lv_at hl 0 rfl) ?_
  refine lv_iconst (v := 0) hx hb dX4_read_35 (by decide) ?_
  refine va_calli (A0 := jA base) (H0 := s.heap) (va_runV (As := [.int 0]) (rest := []) ⟨hx, hb, hml, hown, hts⟩ ((aX4_valueHolderJ l dC dI ca base B hB hAp hB6 hB100 hB140 hB141 hB142 hB143 hB144 hB145 hB146 10).1 G0 H_8 r0 0 r1 n1 z_3 qt_8 0 0 wk wi wz jnx jkf jks jun (fun _ _ => 0) fb fk fi fz fn fa fs fu) (cwV 1 hts (jgV (jWr_20 _ (List.mem_of_getElem? (i := 1) rfl)) (jWr_20 _ (List.mem_of_getElem? (i := 2) rfl)) (jWr_20 _ (List.mem_of_getElem? (i := 3) rfl)) (jWr_1 _ (List.mem_of_getElem? (i := 22) rfl)) (jWr_20 _ (List.mem_of_getElem? (i := 4) rfl))) rfl rfl rfl (by decide +kernel) ⟨by rw [← hR]; exact Nat.le_of_ble_eq_true rfl, by rw [← hR]; exact Nat.le_of_ble_eq_true rfl⟩) ⟨fun a U g mk q => by obtain ⟨q0, q1, q2, qK, q10, q11, q12, q13, q14, q15, q16, q17, q18, q19, q20, q21⟩ := q; exact ⟨q0, q1, q2, jG.calling g mk a qK, q10, q11, q12, q13, q14, q15, q16, q17, q18, q19, q20, q21⟩, hh_8.recv (C := RX4) (T := TX4) (N := 12) hB6 rfl (by decide) hg_r0 hK, fun U hU hW => ⟨rfl, hU, hh_8.2.1, hG.step hW hU hh_8.1, hg_r0, hg_r1, hg_wk, hg_wi, hg_wz, hg_jnx, hg_jkf, hg_jks, hg_jun, (hh_8.2.2.1.sub (L1 := [(r0, 6, 9, .ref r1), (r0, 6, 10, .int z_3), (r0, 6, 11, .int qt_8), (r0, 6, 7, .int 0), (r0, 6, 8, .int 0), (r0, 6, 0, .ref wk), (r0, 6, 1, .ref wi), (r0, 6, 2, .ref wz), (r0, 6, 3, .ref jnx), (r0, 6, 4, .ref jkf), (r0, 6, 5, .ref jks), (r0, 6, 6, .ref jun)]) [4, 3, 0, 2, 1, 5, 6, 7, 8, 9, 10, 11] rfl), (hh_8.2.2.2.2.2.2.2.1.sub (L1 := [(r1, 100, n1, ca 0, fb), (wk, 140, 1502, ca 1, fk), (wi, 141, 1502, ca 1, fi), (wz, 142, 1502, ca 1, fz), (jnx, 143, 1502, ca 1, fn), (jkf, 144, 1502, ca 1, fa), (jks, 145, 1502, ca 1, fs), (jun, 146, 3000, ca 1, fu)]) [0, 1, 2, 3, 4, 5, 6, 7] rfl), ⟨(by first | omega | rfl | assumption | exact hft9 | exact jjTC.z hk0 hk0), (by first | omega | rfl | assumption | exact hft9 | exact jjTC.z hk0 hk0), (by first | omega | rfl | assumption | exact hft9 | exact jjTC.z hk0 hk0), (by first | omega | rfl | assumption | exact hft9 | exact jjTC.z hk0 hk0), (by first | omega | rfl | assumption | exact hft9 | exact jjTC.z hk0 hk0), (by first | omega | rfl | assumption | exact hft9 | exact jjTC.z hk0 hk0), (by first | assumption | exact hft9 | exact jjTC.z hk0 hk0 | omega), (by first | omega | rfl | assumption | exact hft9 | exact jjTC.z hk0 hk0), (by first | omega | rfl | assumption | exact hft9 | exact jjTC.z hk0 hk0), (by first | omega | rfl | assumption | exact hft9 | exact jjTC.z hk0 hk0), (by first | omega | rfl | assumption | exact hft9 | exact jjTC.z hk0 hk0), (by first | omega | rfl | assumption | exact hft9 | exact jjTC.z hk0 hk0), (by first | omega | rfl | assumption | exact hft9 | exact jjTC.z hk0 hk0), (by first | omega | rfl | assumption | exact hft9 | exact jjTC.z hk0 hk0), (by first | assumption | exact hft9 | exact jjTC.z hk0 hk0 | omega)⟩⟩⟩ rfl rfl hl.1 rfl (lv_room (Nat.le_of_ble_eq_true rfl)) dX4_read_36 ⟨Nat.zero_le _, Nat.zero_le _⟩) hh_8.1 (fun q _ h => h) (fun q h => h) (fun r_11 u_10 t_10 H_10 locs_10 ht_10 hvm_10 hr_11 hb_10 hz_10 hk_10 hS_10 => ?_)
  obtain ⟨qt_10, qv_10, qu_10, gk_10, gi_10, gz_10, gn_10, ga_10, gs_10, gu_10⟩ := u_10
  rw [ht_10] at hb_10
  obtain ⟨⟨hb_101, hb_102, hb_103, hb_104, hb_105⟩, hb_106⟩ := hb_10
  have hh_10 : jSt (dC, dI) B base G0 G0 EX4_readJ s.heap 0 0 [(r0, 6, 11, .int qt_10), (r0, 6, 7, .int qv_10), (r0, 6, 8, .int qu_10), (r0, 6, 10, .int z_3), (r0, 6, 9, .ref r1), (r0, 6, 0, .ref wk), (r0, 6, 1, .ref wi), (r0, 6, 2, .ref wz), (r0, 6, 3, .ref jnx), (r0, 6, 4, .ref jkf), (r0, 6, 5, .ref jks), (r0, 6, 6, .ref jun)] [(wk, 140, 1502, ca 1, gk_10), (wi, 141, 1502, ca 1, gi_10), (wz, 142, 1502, ca 1, gz_10), (jnx, 143, 1502, ca 1, gn_10), (jkf, 144, 1502, ca 1, ga_10), (jks, 145, 1502, ca 1, gs_10), (jun, 146, 3000, ca 1, gu_10), (r1, 100, n1, ca 0, fb)] [] H_10 locs_10 := ((hh_8.call hb_101 hb_102 hb_103 hb_104 hS_10 rfl (L1 := [(r0, 6, 10, .int z_3), (r0, 6, 9, .ref r1), (r0, 6, 0, .ref wk), (r0, 6, 1, .ref wi), (r0, 6, 2, .ref wz), (r0, 6, 3, .ref jnx), (r0, 6, 4, .ref jkf), (r0, 6, 5, .ref jks), (r0, 6, 6, .ref jun)]) [3, 4, 5, 6, 7, 8, 9, 10, 11] rfl rfl (M1 := [(r1, 100, n1, ca 0, fb)]) [0] rfl rfl (I1 := []) [] rfl rfl).more hb_105).moreM hb_106
  clear hh_8 ht_10 hvm_10 hz_10 hk_10 hS_10 hb_101 hb_102 hb_103 hb_104 hb_105
  clear hb_106
  try simp only at hr_11
  obtain ⟨hr_11_0, hr_11_1, hr_11_2, hr_11_3, hr_11_4, hr_11_5, hr_11_6, hr_11_7, hr_11_8⟩ := hr_11
  refine lv_istore_n (lv' := [(3, .int r_11), (0, .ref r0), (1, .ref r1), (2, .int a2)]) hx hb dX4_read_39 rfl hl (by decide) rfl (fun ls hl => ?_)
  refine lv_aload_n hx hb dX4_read_40 rfl (lv_at hl 1 rfl) ?_
  refine va_callv (A0 := jA base) (H0 := s.heap) (va_runV (As := []) (rest := []) ⟨hx, hb, hml, hown, hts⟩ (uX4_skipBlanksJ l dC dI ca base B hB hAp hB6 hB100 G0 H_10 r0 r1 n1 z_3 qt_10 (z_3.toInt + 4) fb) (cwV 0 hts (jgV (jWr_19 _ (List.mem_of_getElem? (i := 15) rfl)) (jWr_19 _ (List.mem_of_getElem? (i := 16) rfl)) (jWr_19 _ (List.mem_of_getElem? (i := 17) rfl)) (jWr_1 _ (List.mem_of_getElem? (i := 22) rfl)) (jWr_19 _ (List.mem_of_getElem? (i := 18) rfl))) rfl rfl rfl (by decide +kernel) ⟨by rw [← hR]; exact Nat.le_of_ble_eq_true rfl, by rw [← hR]; exact Nat.le_of_ble_eq_true rfl⟩) ⟨fun a U g mk q => by obtain ⟨q0, q1, q2, qK, q10, q11, q12, q13, q14⟩ := q; exact ⟨q0, q1, q2, jG.calling g mk a qK, q10, q11, q12, q13, q14⟩, hh_10.recv (C := RX4) (T := TX4) (N := 12) hB6 rfl (by decide) hg_r0 hK, fun U hU hW => ⟨rfl, hU, hh_10.2.1, hG.step hW hU hh_10.1, hg_r0, hg_r1, (hh_10.2.2.1.sub (L1 := [(r0, 6, 9, .ref r1), (r0, 6, 10, .int z_3), (r0, 6, 11, .int qt_10)]) [4, 3, 0] rfl), (hh_10.2.2.2.2.2.2.2.1.sub (L1 := [(r1, 100, n1, ca 0, fb)]) [7] rfl), by first | omega | (refine ⟨?_, ?_, ?_, ?_, ?_, ?_, ?_, ?_⟩ <;> (first | omega | rfl | assumption | decide | exact Or.inl rfl | exact Or.inr rfl | (simp only; omega)))⟩⟩ rfl rfl hl.1 rfl (lv_room (Nat.le_of_ble_eq_true rfl)) dX4_read_41 ⟨Nat.zero_le _, Nat.zero_le _⟩) hh_10.1 (fun q _ h => h) (fun q h => h) (fun u_12 t_12 H_12 locs_12 ht_12 hvm_12 hr_13 hb_12 hz_12 hk_12 hS_12 => ?_)
  obtain ⟨qt_12, rfl⟩ : ∃ z, z = u_12 := ⟨_, rfl⟩
  rw [ht_12] at hb_12
  obtain ⟨hb_121, hb_122, hb_123, hb_124, hb_125⟩ := hb_12
  have hh_12 : jSt (dC, dI) B base G0 G0 EX4_readJ s.heap 0 0 [(r0, 6, 11, .int qt_12), (r0, 6, 7, .int qv_10), (r0, 6, 8, .int qu_10), (r0, 6, 10, .int z_3), (r0, 6, 9, .ref r1), (r0, 6, 0, .ref wk), (r0, 6, 1, .ref wi), (r0, 6, 2, .ref wz), (r0, 6, 3, .ref jnx), (r0, 6, 4, .ref jkf), (r0, 6, 5, .ref jks), (r0, 6, 6, .ref jun)] [(wk, 140, 1502, ca 1, gk_10), (wi, 141, 1502, ca 1, gi_10), (wz, 142, 1502, ca 1, gz_10), (jnx, 143, 1502, ca 1, gn_10), (jkf, 144, 1502, ca 1, ga_10), (jks, 145, 1502, ca 1, gs_10), (jun, 146, 3000, ca 1, gu_10), (r1, 100, n1, ca 0, fb)] [] H_12 locs_12 := ((hh_10.call hb_121 hb_122 hb_123 hb_124 hS_12 rfl (L1 := [(r0, 6, 7, .int qv_10), (r0, 6, 8, .int qu_10), (r0, 6, 10, .int z_3), (r0, 6, 9, .ref r1), (r0, 6, 0, .ref wk), (r0, 6, 1, .ref wi), (r0, 6, 2, .ref wz), (r0, 6, 3, .ref jnx), (r0, 6, 4, .ref jkf), (r0, 6, 5, .ref jks), (r0, 6, 6, .ref jun)]) [1, 2, 3, 4, 5, 6, 7, 8, 9, 10, 11] rfl rfl (M1 := [(wk, 140, 1502, ca 1, gk_10), (wi, 141, 1502, ca 1, gi_10), (wz, 142, 1502, ca 1, gz_10), (jnx, 143, 1502, ca 1, gn_10), (jkf, 144, 1502, ca 1, ga_10), (jks, 145, 1502, ca 1, gs_10), (jun, 146, 3000, ca 1, gu_10), (r1, 100, n1, ca 0, fb)]) [0, 1, 2, 3, 4, 5, 6, 7] rfl rfl (I1 := []) [] rfl rfl).more hb_125)
  clear hh_10 ht_12 hvm_12 hz_12 hk_12 hS_12 hb_121 hb_122 hb_123 hb_124 hb_125
  obtain ⟨hr_13_0, hr_13_1, hr_13_2⟩ := hr_13
  refine lv_iload_n hx hb dX4_read_44 rfl (lv_at hl 0 rfl) ?_
  refine lv_if_ne (tgt := 63) hx hb dX4_read_45 (by decide) (fun c_14 => ?_) (fun c_14 => ?_)
  · skip
    have c_14' : r_11.toInt ≠ 0 := jb_ne (rfl) ((by decide)) c_14
    refine lv_iconst (v := 0) hx hb dX4_read_63 (by decide) ?_
    rw [hQ]
    exact W.zret (v := 0) hx hb hr (jb_nz (Or.inl rfl)) (fun t ht hW => ⟨⟨0, (qv_10, qu_10, gk_10, gi_10, gz_10, gn_10, ga_10, gs_10, gu_10), rfl, ⟨(Or.inl rfl), by (try dsimp only); refine ⟨by omega, by omega, hr_11_8.base hk0 hk0, Or.inl (by first | rfl | decide), ?_⟩; have h9 := jjQr.of (b := jB8 fb) (e := z_3.toInt) (hr_9_0.trans (by rw [hk0])) hr_11_0 hk0 hk0 rfl hk0 hr_13_0 (r := (0 : Int32).toInt) (by omega); rw [hmn] at h9; exact h9⟩, ⟨hh_12.rt (M1 := [(r0, 6, 7, .int qv_10), (r0, 6, 8, .int qu_10)]) [1, 2] rfl ht, by rw [ht]; exact hh_12.2.2.2.2.2.2.2.1.sub [0, 1, 2, 3, 4, 5, 6] rfl⟩⟩, by rw [ht]; try exact hh_12.1.1, fun q h9 hq => by rw [ht]; try exact hh_12.1.2.1 q h9 hq⟩) hh_12.1.2.2 dX4_read_64
  · skip
    have c_14' : r_11.toInt = 0 := jb_ne_n (rfl) ((by decide)) c_14
    first | (have hr_11_5q := hr_11_5.resolve_left (by omega); clear hr_11_5) | (have hr_11_5q := hr_11_5.resolve_right (by omega); clear hr_11_5) | skip
    refine lv_aload_n hx hb dX4_read_48 rfl (lv_at hl 1 rfl) ?_
    refine j7_read hx hb hown hK (C := RX4) (T := TX4) (N := 12) rfl hly_6_11 hlk_47 (hh_12.at 0 rfl) dX4_read_49 ?_
    refine lv_aload_n hx hb dX4_read_52 rfl (lv_at hl 1 rfl) ?_
    refine j7_read hx hb hown hK (C := RX4) (T := TX4) (N := 12) rfl hly_6_10 hlk_43 (hh_12.at 3 rfl) dX4_read_53 ?_
    refine lv_icmp_ne (tgt := 63) hx hb dX4_read_56 (by decide) (fun c_15 => ?_) (fun c_15 => ?_)
    · skip
      have c_15' : qt_12.toInt ≠ z_3.toInt := jb_ne (rfl) (rfl) c_15
      refine lv_iconst (v := 0) hx hb dX4_read_63 (by decide) ?_
      rw [hQ]
      exact W.zret (v := 0) hx hb hr (jb_nz (Or.inl rfl)) (fun t ht hW => ⟨⟨0, (qv_10, qu_10, gk_10, gi_10, gz_10, gn_10, ga_10, gs_10, gu_10), rfl, ⟨(Or.inl rfl), by (try dsimp only); refine ⟨by omega, by omega, hr_11_8.base hk0 hk0, Or.inl (by first | rfl | decide), ?_⟩; have h9 := jjQr.of (b := jB8 fb) (e := z_3.toInt) (hr_9_0.trans (by rw [hk0])) hr_11_0 hk0 hk0 rfl hk0 hr_13_0 (r := (0 : Int32).toInt) (by omega); rw [hmn] at h9; exact h9⟩, ⟨hh_12.rt (M1 := [(r0, 6, 7, .int qv_10), (r0, 6, 8, .int qu_10)]) [1, 2] rfl ht, by rw [ht]; exact hh_12.2.2.2.2.2.2.2.1.sub [0, 1, 2, 3, 4, 5, 6] rfl⟩⟩, by rw [ht]; try exact hh_12.1.1, fun q h9 hq => by rw [ht]; try exact hh_12.1.2.1 q h9 hq⟩) hh_12.1.2.2 dX4_read_64
    · skip
      have c_15' : qt_12.toInt = z_3.toInt := jb_ne_n (rfl) (rfl) c_15
      refine lv_iconst (v := 1) hx hb dX4_read_59 (by decide) ?_
      refine lv_goto (tgt := 64) hx hb dX4_read_60 (by decide) ?_
      rw [hQ]
      exact W.zret (v := 1) hx hb hr (jb_nz (Or.inr rfl)) (fun t ht hW => ⟨⟨1, (qv_10, qu_10, gk_10, gi_10, gz_10, gn_10, ga_10, gs_10, gu_10), rfl, ⟨(Or.inr rfl), by (try dsimp only); refine ⟨by omega, by omega, hr_11_8.base hk0 hk0, Or.inr (hr_11_8.root hk0 hk0 (by omega) (by omega) (by omega)), ?_⟩; have h9 := jjQr.of (b := jB8 fb) (e := z_3.toInt) (hr_9_0.trans (by rw [hk0])) hr_11_0 hk0 hk0 rfl hk0 hr_13_0 (r := (1 : Int32).toInt) (by omega); rw [hmn] at h9; exact h9⟩, ⟨hh_12.rt (M1 := [(r0, 6, 7, .int qv_10), (r0, 6, 8, .int qu_10)]) [1, 2] rfl ht, by rw [ht]; exact hh_12.2.2.2.2.2.2.2.1.sub [0, 1, 2, 3, 4, 5, 6] rfl⟩⟩, by rw [ht]; try exact hh_12.1.1, fun q h9 hq => by rw [ht]; try exact hh_12.1.2.1 q h9 hq⟩) hh_12.1.2.2 dX4_read_64
end
section
-- p9: what a message does
section
variable {T : Nat → Int → Int} {v p m : Int} {S S1 : Int × (Int → jdD)}
end
def jRv (dC : Nat → ClassId) (dI : Nat → Nat → Nat) (G : jT) (o : Option Nat) (P : Prop) (H : Heap) : Prop := ∀ x, o = some x → jRi dC dI G x P H
section JR8
variable {dC : Nat → ClassId} {dI : Nat → Nat → Nat} {G : jT} {a nn yy : Nat} {P Q : Prop} {H : Heap}
end JR8
theorem jqK.ng {T : Nat → Int → Int} {v a : Int} (h : a < 0) : jqK T v a = 0 := if_neg (fun q => by omega)
end
section
-- p9: a byte as the reference takes it
section
variable {X : Nat → Int} {s : jdSt} {c r bk pk m h l b cn cv qm qh ql qb qn qv e p z z1 n : Int} {fn fv gn gv fk gk : Nat → Int32} {S S1 : Int × (Int → jdD)} {D : Int → Int}
end
theorem jdFd.cg {a b : Int → Int} {s : jdSt} : ∀ k : Nat, (∀ j : Nat, j < k → a j = b j) → jdFd a s k = jdFd b s k
  | 0, _ => rfl
  | k + 1, h => by
    show jdStep (jdFd a s k) (a k) = jdStep (jdFd b s k) (b k)
    rw [jdFd.cg k (fun j hj => h j (by omega)), h k (by omega)]
end
section
theorem dX11_understood_0 : decode cX11_understood 0 = .ok (.aload_n 0, 1) := by decide +kernel
theorem dX11_understood_1 : decode cX11_understood 1 = .ok (.getfield 28, 3) := by decide +kernel
theorem dX11_understood_4 : decode cX11_understood 4 = .ok (.aload_n 0, 1) := by decide +kernel
theorem dX11_understood_5 : decode cX11_understood 5 = .ok (.getfield 21, 3) := by decide +kernel
theorem dX11_understood_8 : decode cX11_understood 8 = .ok (.getfield 253, 3) := by decide +kernel
theorem dX11_understood_11 : decode cX11_understood 11 = .ok (.aload_n 0, 1) := by decide +kernel
theorem dX11_understood_12 : decode cX11_understood 12 = .ok (.getfield 21, 3) := by decide +kernel
theorem dX11_understood_15 : decode cX11_understood 15 = .ok (.getfield 255, 3) := by decide +kernel
theorem dX11_understood_18 : decode cX11_understood 18 = .ok (.invokevirtual 256, 3) := by decide +kernel
theorem dX11_understood_21 : decode cX11_understood 21 = .ok (.istore_n 1, 1) := by decide +kernel
theorem dX11_understood_22 : decode cX11_understood 22 = .ok (.iload_n 1, 1) := by decide +kernel
theorem dX11_understood_23 : decode cX11_understood 23 = .ok (.ifCond .eq 17, 3) := by decide +kernel
theorem dX11_understood_26 : decode cX11_understood 26 = .ok (.aload_n 0, 1) := by decide +kernel
theorem dX11_understood_27 : decode cX11_understood 27 = .ok (.getfield 28, 3) := by decide +kernel
theorem dX11_understood_30 : decode cX11_understood 30 = .ok (.iconst 0, 1) := by decide +kernel
theorem dX11_understood_31 : decode cX11_understood 31 = .ok (.ldc_w 259, 3) := by decide +kernel
theorem dX11_understood_34 : decode cX11_understood 34 = .ok (.invokevirtual 260, 3) := by decide +kernel
theorem dX11_understood_37 : decode cX11_understood 37 = .ok (.goto 4, 3) := by decide +kernel
theorem dX11_understood_40 : decode cX11_understood 40 = .ok (.iconst (-1), 1) := by decide +kernel
theorem dX11_understood_41 : decode cX11_understood 41 = .ok (.istore_n 2, 1) := by decide +kernel
theorem dX11_understood_42 : decode cX11_understood 42 = .ok (.new 115, 3) := by decide +kernel
theorem dX11_understood_45 : decode cX11_understood 45 = .ok (.dup, 1) := by decide +kernel
theorem dX11_understood_46 : decode cX11_understood 46 = .ok (.aload_n 0, 1) := by decide +kernel
theorem dX11_understood_47 : decode cX11_understood 47 = .ok (.getfield 28, 3) := by decide +kernel
theorem dX11_understood_50 : decode cX11_understood 50 = .ok (.iload_n 2, 1) := by decide +kernel
theorem dX11_understood_51 : decode cX11_understood 51 = .ok (.invokespecial 264, 3) := by decide +kernel
theorem dX11_understood_54 : decode cX11_understood 54 = .ok (.astore_n 3, 1) := by decide +kernel
theorem dX11_understood_55 : decode cX11_understood 55 = .ok (.iload_n 1, 1) := by decide +kernel
theorem dX11_understood_56 : decode cX11_understood 56 = .ok (.ifCond .ne 13, 3) := by decide +kernel
theorem dX11_understood_59 : decode cX11_understood 59 = .ok (.aload_n 0, 1) := by decide +kernel
theorem dX11_understood_60 : decode cX11_understood 60 = .ok (.aload_n 3, 1) := by decide +kernel
theorem dX11_understood_61 : decode cX11_understood 61 = .ok (.sipush (-32700), 3) := by decide +kernel
theorem dX11_understood_64 : decode cX11_understood 64 = .ok (.invokevirtual 267, 3) := by decide +kernel
theorem dX11_understood_67 : decode cX11_understood 67 = .ok (.aconst_null, 1) := by decide +kernel
theorem dX11_understood_68 : decode cX11_understood 68 = .ok (.areturn, 1) := by decide +kernel
theorem dX11_understood_69 : decode cX11_understood 69 = .ok (.aload_n 0, 1) := by decide +kernel
theorem dX11_understood_70 : decode cX11_understood 70 = .ok (.getfield 28, 3) := by decide +kernel
theorem dX11_understood_73 : decode cX11_understood 73 = .ok (.iconst 0, 1) := by decide +kernel
theorem dX11_understood_74 : decode cX11_understood 74 = .ok (.ldc_w 271, 3) := by decide +kernel
theorem dX11_understood_77 : decode cX11_understood 77 = .ok (.invokevirtual 260, 3) := by decide +kernel
theorem dX11_understood_80 : decode cX11_understood 80 = .ok (.istore 4, 2) := by decide +kernel
theorem dX11_understood_82 : decode cX11_understood 82 = .ok (.aload_n 0, 1) := by decide +kernel
theorem dX11_understood_83 : decode cX11_understood 83 = .ok (.getfield 28, 3) := by decide +kernel
theorem dX11_understood_86 : decode cX11_understood 86 = .ok (.aload_n 0, 1) := by decide +kernel
theorem dX11_understood_87 : decode cX11_understood 87 = .ok (.getfield 28, 3) := by decide +kernel
theorem dX11_understood_90 : decode cX11_understood 90 = .ok (.iconst 0, 1) := by decide +kernel
theorem dX11_understood_91 : decode cX11_understood 91 = .ok (.ldc_w 273, 3) := by decide +kernel
theorem dX11_understood_94 : decode cX11_understood 94 = .ok (.invokevirtual 260, 3) := by decide +kernel
theorem dX11_understood_97 : decode cX11_understood 97 = .ok (.ldc_w 275, 3) := by decide +kernel
theorem dX11_understood_100 : decode cX11_understood 100 = .ok (.invokevirtual 277, 3) := by decide +kernel
theorem dX11_understood_103 : decode cX11_understood 103 = .ok (.ifCond .eq 58, 3) := by decide +kernel
theorem dX11_understood_106 : decode cX11_understood 106 = .ok (.aload_n 0, 1) := by decide +kernel
theorem dX11_understood_107 : decode cX11_understood 107 = .ok (.getfield 28, 3) := by decide +kernel
theorem dX11_understood_110 : decode cX11_understood 110 = .ok (.aload_n 0, 1) := by decide +kernel
theorem dX11_understood_111 : decode cX11_understood 111 = .ok (.getfield 28, 3) := by decide +kernel
theorem dX11_understood_114 : decode cX11_understood 114 = .ok (.iconst 0, 1) := by decide +kernel
theorem dX11_understood_115 : decode cX11_understood 115 = .ok (.ldc_w 281, 3) := by decide +kernel
theorem dX11_understood_118 : decode cX11_understood 118 = .ok (.invokevirtual 260, 3) := by decide +kernel
theorem dX11_understood_121 : decode cX11_understood 121 = .ok (.invokevirtual 283, 3) := by decide +kernel
theorem dX11_understood_124 : decode cX11_understood 124 = .ok (.iconst 3, 1) := by decide +kernel
theorem dX11_understood_125 : decode cX11_understood 125 = .ok (.if_icmp .ne 36, 3) := by decide +kernel
theorem dX11_understood_128 : decode cX11_understood 128 = .ok (.iload 4, 2) := by decide +kernel
theorem dX11_understood_130 : decode cX11_understood 130 = .ok (.ifCond .lt 16, 3) := by decide +kernel
theorem dX11_understood_133 : decode cX11_understood 133 = .ok (.aload_n 0, 1) := by decide +kernel
theorem dX11_understood_134 : decode cX11_understood 134 = .ok (.getfield 28, 3) := by decide +kernel
theorem dX11_understood_137 : decode cX11_understood 137 = .ok (.iload 4, 2) := by decide +kernel
theorem dX11_understood_139 : decode cX11_understood 139 = .ok (.invokevirtual 283, 3) := by decide +kernel
theorem dX11_understood_142 : decode cX11_understood 142 = .ok (.iconst 1, 1) := by decide +kernel
theorem dX11_understood_143 : decode cX11_understood 143 = .ok (.if_icmp .ne 18, 3) := by decide +kernel
theorem dX11_understood_146 : decode cX11_understood 146 = .ok (.iload_n 2, 1) := by decide +kernel
theorem dX11_understood_147 : decode cX11_understood 147 = .ok (.ifCond .lt 10, 3) := by decide +kernel
theorem dX11_understood_150 : decode cX11_understood 150 = .ok (.aload_n 3, 1) := by decide +kernel
theorem dX11_understood_151 : decode cX11_understood 151 = .ok (.getfield 114, 3) := by decide +kernel
theorem dX11_understood_154 : decode cX11_understood 154 = .ok (.ifnull 7, 3) := by decide +kernel
theorem dX11_understood_157 : decode cX11_understood 157 = .ok (.iconst 1, 1) := by decide +kernel
theorem dX11_understood_158 : decode cX11_understood 158 = .ok (.goto 4, 3) := by decide +kernel
theorem dX11_understood_161 : decode cX11_understood 161 = .ok (.iconst 0, 1) := by decide +kernel
theorem dX11_understood_162 : decode cX11_understood 162 = .ok (.istore 5, 2) := by decide +kernel
theorem dX11_understood_164 : decode cX11_understood 164 = .ok (.iload 5, 2) := by decide +kernel
theorem dX11_understood_166 : decode cX11_understood 166 = .ok (.ifCond .ne 13, 3) := by decide +kernel
theorem dX11_understood_169 : decode cX11_understood 169 = .ok (.aload_n 0, 1) := by decide +kernel
theorem dX11_understood_170 : decode cX11_understood 170 = .ok (.aload_n 3, 1) := by decide +kernel
theorem dX11_understood_171 : decode cX11_understood 171 = .ok (.sipush (-32600), 3) := by decide +kernel
theorem dX11_understood_174 : decode cX11_understood 174 = .ok (.invokevirtual 267, 3) := by decide +kernel
theorem dX11_understood_177 : decode cX11_understood 177 = .ok (.aconst_null, 1) := by decide +kernel
theorem dX11_understood_178 : decode cX11_understood 178 = .ok (.areturn, 1) := by decide +kernel
theorem dX11_understood_179 : decode cX11_understood 179 = .ok (.aload_n 3, 1) := by decide +kernel
theorem dX11_understood_180 : decode cX11_understood 180 = .ok (.areturn, 1) := by decide +kernel
end
