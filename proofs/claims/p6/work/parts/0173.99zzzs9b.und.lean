section
def EX11_understoodI : List (Nat × Nat) := [(2, 0), (2, 1), (6, 7), (6, 8), (6, 9), (6, 10), (6, 11), (13, 14), (17, 0), (17, 1), (101, 0), (140, 0), (141, 0), (142, 0), (143, 0), (144, 0), (145, 0), (146, 0), (196, 0), (199, 0)]
set_option maxHeartbeats 4000000 in
set_option maxRecDepth 20000 in
theorem uX11_understoodI (l : Launch) (dC : Nat → ClassId) (dI : Nat → Nat → Nat) (ca : Nat → ClassId) (base : Nat) (B : jF) (hB : jBok B) (hAp : jAp (dC, dI)) (hB2 : ∀ n G a H, B 2 n G a H ↔ jOb (dC, dI) 2 2 (F2 n G) a H) (hB4 : ∀ n G a H, B 4 n G a H ↔ jOb (dC, dI) 4 12 (F4 n G) a H) (hB6 : ∀ n G a H, B 6 n G a H ↔ jOb (dC, dI) 6 12 (F6 n G) a H) (hB10 : ∀ n G a H, B 10 n G a H ↔ jOb (dC, dI) 10 5 (F10 n G) a H) (hB13 : ∀ n G a H, B 13 n G a H ↔ jOb (dC, dI) 13 19 (F13 n G) a H) (hB17 : ∀ n G a H, B 17 n G a H ↔ jOb (dC, dI) 17 2 (F17 n G) a H) (hB100 : ∀ n G a H, B 100 n G a H ↔ jAr (dC, dI) (ca 0) (fun j z => True) n a H) (hB101 : ∀ n G a H, B 101 n G a H ↔ jAr (dC, dI) (ca 1) (fun j z => True) n a H) (hB140 : ∀ n G a H, B 140 n G a H ↔ jAr (dC, dI) (ca 1) (fun j z => True) n a H) (hB141 : ∀ n G a H, B 141 n G a H ↔ jAr (dC, dI) (ca 1) (fun j z => True) n a H) (hB142 : ∀ n G a H, B 142 n G a H ↔ jAr (dC, dI) (ca 1) (fun j z => True) n a H) (hB143 : ∀ n G a H, B 143 n G a H ↔ jAr (dC, dI) (ca 1) (fun j z => True) n a H) (hB144 : ∀ n G a H, B 144 n G a H ↔ jAr (dC, dI) (ca 1) (fun j z => 0 ≤ z.toInt ∧ z.toInt ≤ 3000) n a H) (hB145 : ∀ n G a H, B 145 n G a H ↔ jAr (dC, dI) (ca 1) (fun j z => True) n a H) (hB146 : ∀ n G a H, B 146 n G a H ↔ jAr (dC, dI) (ca 1) (fun j z => True) n a H) (hB174 : ∀ n G a H, B 174 n G a H ↔ jAr (dC, dI) (ca 1) (fun j z => True) n a H) (hB196 : ∀ n G a H, B 196 n G a H ↔ jAr (dC, dI) (ca 0) (fun j z => jBf j z) n a H) (hB199 : ∀ n G a H, B 199 n G a H ↔ jAr (dC, dI) (ca 0) (fun j z => jBf j z) n a H) (G0 : jT) (H0 : Heap) (r0 : Nat) (bo : Nat) (pc : Int32) (pa : Nat) (n_pa : Nat) (ou : Nat) (fm : Nat) (fl : Int32) (js : Nat) (wk : Nat) (wi : Nat) (wz : Nat) (jnx : Nat) (jkf : Nat) (jks : Nat) (jun : Nat) (bd_ : Nat) (qq : jRqG) (ib : Nat → List Int) (fk : Nat → Int32) (fi : Nat → Int32) (fz : Nat → Int32) (fn : Nat → Int32) (fa : Nat → Int32) (fs : Nat → Int32) (fu : Nat → Int32) (fb : Nat → Int32) (LC LS : Nat) : Met l yX11_understood (jw yX11_understood cX11_understood 6 (some (.object "ProofServer$Request"))) ({ frames := 30, cells := LC - H0.size, slots := LS - jTot H0, locals := 1846 }) (va_Pc [.ref r0] (fun U => U.heap = H0 ∧ jX B base G0 [] H0 ∧ jG dC dI ca base U ∧ G0 r0 = some (13, 0) ∧ G0 bo = some (2, 0) ∧ G0 pa = some (196, n_pa) ∧ G0 ou = some (2, 20000) ∧ G0 fm = some (4, 0) ∧ G0 js = some (6, 0) ∧ G0 wk = some (140, 1502) ∧ G0 wi = some (141, 1502) ∧ G0 wz = some (142, 1502) ∧ G0 jnx = some (143, 1502) ∧ G0 jkf = some (144, 1502) ∧ G0 jks = some (145, 1502) ∧ G0 jun = some (146, 3000) ∧ G0 bd_ = some (100, 3000) ∧ jP (dC, dI) G0 H0 [(r0, 13, 4, .ref bo), (bo, 2, 1, .int pc), (bo, 2, 0, .ref pa), (r0, 13, 3, .ref ou), (r0, 13, 1, .ref fm), (fm, 4, 1, .int fl), (r0, 13, 2, .ref js), (js, 6, 0, .ref wk), (js, 6, 1, .ref wi), (js, 6, 2, .ref wz), (js, 6, 3, .ref jnx), (js, 6, 4, .ref jkf), (js, 6, 5, .ref jks), (js, 6, 6, .ref jun), (fm, 4, 0, .ref bd_)] ∧ jMc (dC, dI) G0 H0 [(wk, 140, 1502, ca 1, fk), (wi, 141, 1502, ca 1, fi), (wz, 142, 1502, ca 1, fz), (jnx, 143, 1502, ca 1, fn), (jkf, 144, 1502, ca 1, fa), (jks, 145, 1502, ca 1, fs), (jun, 146, 3000, ca 1, fu), (bd_, 100, 3000, ca 0, fb)] ∧ jIs (dC, dI) G0 H0 [(jFy, jYb dC dI G0), (jFib, jIB dC dI ca G0 0 ib), (jFqd, jQD dC dI ca G0 none qq)] ∧ H0.size + (1048576 - n_pa) / 16 + 20 ≤ LC ∧ jTot H0 + 2 * (1048576 - n_pa) + 3400 ≤ LS ∧ 0 ≤ pc.toInt ∧ pc.toInt ≤ n_pa ∧ 16 ≤ n_pa ∧ n_pa ≤ 1048576 ∧ jPw n_pa ∧ 0 ≤ fl.toInt ∧ fl.toInt ≤ 3000 ∧ jjFt fb fl.toInt)) (jQx (S := Int32 × Int32 × Int32 × Nat × Nat × (Nat → Int32) × (Nat → Int32) × (Nat → Int32) × (Nat → Int32) × (Nat → Int32) × (Nat → Int32) × (Nat → Int32) × Option Nat × (Nat → Int → Int) × jRqG × (Nat → List Int) × Nat × jT) (fun v u => (v = .null ∨ (jRf u.2.2.2.2.2.2.2.2.2.2.2.2.2.2.2.2.2 10 u.2.2.2.2.2.2.2.2.2.2.2.2.2.2.2.2.1 v ∧ jNwv v H0)) ∧ 0 ≤ u.1.toInt ∧ u.1.toInt ≤ u.2.2.2.2.1 ∧ n_pa ≤ u.2.2.2.2.1 ∧ u.2.2.2.2.1 ≤ 1048576 ∧ jPw u.2.2.2.2.1 ∧ u.2.2.2.2.2.2.2.2.2.2.2.2.2.2.2.2.1 = 0 ∧ u.2.1.toInt ≤ 1502 ∧ u.2.2.1.toInt ≤ 3000 ∧ jJr (fk, fi, fz, fa, fs) 0 0 (u.2.2.2.2.2.1, u.2.2.2.2.2.2.1, u.2.2.2.2.2.2.2.1, u.2.2.2.2.2.2.2.2.2.1, u.2.2.2.2.2.2.2.2.2.2.1) u.2.1.toInt u.2.2.1.toInt ∧ (v = .null ∨ jUd (u.2.2.2.2.2.1, u.2.2.2.2.2.2.1, u.2.2.2.2.2.2.2.1, u.2.2.2.2.2.2.2.2.2.1, u.2.2.2.2.2.2.2.2.2.2.1) u.2.1.toInt u.2.2.1.toInt fl.toInt) ∧ v = va_rf u.2.2.2.2.2.2.2.2.2.2.2.2.1 ∧ jdUs (jjRd (jB8 fb) fl.toInt) u.2.2.2.2.2.2.2.2.2.2.2.2.1 u.2.1.toInt u.2.2.1.toInt u.2.2.2.2.2.2.2.2.2.2.2.2.2.1 u.2.2.2.2.2.1 u.2.2.2.2.2.2.1 u.2.2.2.2.2.2.2.1 u.2.2.2.2.2.2.2.2.1 u.2.2.2.2.2.2.2.2.2.1 u.2.2.2.2.2.2.2.2.2.2.1 u.2.2.2.2.2.2.2.2.2.2.2.1 ∧ jzUs G0 qq u.2.2.2.2.2.2.2.2.2.2.2.2.2.2.1 ib u.2.2.2.2.2.2.2.2.2.2.2.2.2.2.2.1 ∧ jzUx G0 u.2.2.2.2.2.2.2.2.2.2.2.2.2.2.1 u.2.2.2.2.2.2.2.2.2.2.2.2.2.2.2.1 u.2.2.2.2.2.2.2.2.2.2.2.2.2.1 u.2.1.toInt u.2.2.2.2.2.2.2.2.2.2.2.2.1) (fun u t => jRa (dC, dI) B base G0 u.2.2.2.2.2.2.2.2.2.2.2.2.2.2.2.2.2 EX11_understoodI H0 ((u.2.2.2.2.1 - n_pa) / 16 + 11) (2 * (u.2.2.2.2.1 - n_pa) + 267) [(bo, 2, 1, .int u.1), (js, 6, 7, .int u.2.1), (js, 6, 8, .int u.2.2.1), (bo, 2, 0, .ref u.2.2.2.1)] t.heap ∧ u.2.2.2.2.2.2.2.2.2.2.2.2.2.2.2.2.2 u.2.2.2.1 = some (196, u.2.2.2.2.1) ∧ (jNk [0, 1, 3, 4, 5, 6, 7, 8, 9, 11, 12, 13, 14, 15, 16, 175]) G0 u.2.2.2.2.2.2.2.2.2.2.2.2.2.2.2.2.2 ∧ jOl (dC, dI) G0 2 [bo, ou] H0 t.heap ∧ jIs (dC, dI) u.2.2.2.2.2.2.2.2.2.2.2.2.2.2.2.2.2 t.heap [(jFy, jYb dC dI u.2.2.2.2.2.2.2.2.2.2.2.2.2.2.2.2.2), (jFib, jIB dC dI ca u.2.2.2.2.2.2.2.2.2.2.2.2.2.2.2.2.2 0 (u.2.2.2.2.2.2.2.2.2.2.2.2.2.2.2.1)), (jFqd, jQD dC dI ca u.2.2.2.2.2.2.2.2.2.2.2.2.2.2.2.2.2 none (u.2.2.2.2.2.2.2.2.2.2.2.2.2.2.1))] ∧ jMc (dC, dI) u.2.2.2.2.2.2.2.2.2.2.2.2.2.2.2.2.2 t.heap [(wk, 140, 1502, ca 1, u.2.2.2.2.2.1), (wi, 141, 1502, ca 1, u.2.2.2.2.2.2.1), (wz, 142, 1502, ca 1, u.2.2.2.2.2.2.2.1), (jnx, 143, 1502, ca 1, u.2.2.2.2.2.2.2.2.1), (jkf, 144, 1502, ca 1, u.2.2.2.2.2.2.2.2.2.1), (jks, 145, 1502, ca 1, u.2.2.2.2.2.2.2.2.2.2.1), (jun, 146, 3000, ca 1, u.2.2.2.2.2.2.2.2.2.2.2.1)]) (jA base)) (LC - H0.size) (LS - jTot H0) (jA base) := by
  refine Met.ofW (cc := cX11_understood) (maxL := 6) (ret := (some (.object "ProofServer$Request"))) (by decide) rfl ?_
  intro p e s m args below meth c s₁ Bd hml hv
  obtain ⟨rfl, hH0, hX, hG, hg_r0, hg_bo, hg_pa, hg_ou, hg_fm, hg_js, hg_wk, hg_wi, hg_wz, hg_jnx, hg_jkf, hg_jks, hg_jun, hg_bd_, hP0, hM0, hI0, hLC0, hLS0, hp0, hp1, hp2, hp3, hp4, hp5, hp6, hp7⟩ := hv
  have hK := hG.1
  have hx := Bd.exec
  have hb := Bd.bytes
  have hr := Bd.returns
  have hts := atoms_spec (ws := (jw yX11_understood cX11_understood 6 (some (.object "ProofServer$Request")))) Bd.pre
  have htw : ∀ w ∈ jWl, w.before _ s = true := fun w h => hts w (List.mem_cons_of_mem _ h)
  have hown : s.vm.findClass RX11 = some m.cls := findClass_of_methodNamed Bd.named
  have hlocks := Bd.notSynchronized
  obtain ⟨Q, hQ⟩ : ∃ Q, Q = MQ below (jQx (S := Int32 × Int32 × Int32 × Nat × Nat × (Nat → Int32) × (Nat → Int32) × (Nat → Int32) × (Nat → Int32) × (Nat → Int32) × (Nat → Int32) × (Nat → Int32) × Option Nat × (Nat → Int → Int) × jRqG × (Nat → List Int) × Nat × jT) (fun v u => (v = .null ∨ (jRf u.2.2.2.2.2.2.2.2.2.2.2.2.2.2.2.2.2 10 u.2.2.2.2.2.2.2.2.2.2.2.2.2.2.2.2.1 v ∧ jNwv v H0)) ∧ 0 ≤ u.1.toInt ∧ u.1.toInt ≤ u.2.2.2.2.1 ∧ n_pa ≤ u.2.2.2.2.1 ∧ u.2.2.2.2.1 ≤ 1048576 ∧ jPw u.2.2.2.2.1 ∧ u.2.2.2.2.2.2.2.2.2.2.2.2.2.2.2.2.1 = 0 ∧ u.2.1.toInt ≤ 1502 ∧ u.2.2.1.toInt ≤ 3000 ∧ jJr (fk, fi, fz, fa, fs) 0 0 (u.2.2.2.2.2.1, u.2.2.2.2.2.2.1, u.2.2.2.2.2.2.2.1, u.2.2.2.2.2.2.2.2.2.1, u.2.2.2.2.2.2.2.2.2.2.1) u.2.1.toInt u.2.2.1.toInt ∧ (v = .null ∨ jUd (u.2.2.2.2.2.1, u.2.2.2.2.2.2.1, u.2.2.2.2.2.2.2.1, u.2.2.2.2.2.2.2.2.2.1, u.2.2.2.2.2.2.2.2.2.2.1) u.2.1.toInt u.2.2.1.toInt fl.toInt) ∧ v = va_rf u.2.2.2.2.2.2.2.2.2.2.2.2.1 ∧ jdUs (jjRd (jB8 fb) fl.toInt) u.2.2.2.2.2.2.2.2.2.2.2.2.1 u.2.1.toInt u.2.2.1.toInt u.2.2.2.2.2.2.2.2.2.2.2.2.2.1 u.2.2.2.2.2.1 u.2.2.2.2.2.2.1 u.2.2.2.2.2.2.2.1 u.2.2.2.2.2.2.2.2.1 u.2.2.2.2.2.2.2.2.2.1 u.2.2.2.2.2.2.2.2.2.2.1 u.2.2.2.2.2.2.2.2.2.2.2.1 ∧ jzUs G0 qq u.2.2.2.2.2.2.2.2.2.2.2.2.2.2.1 ib u.2.2.2.2.2.2.2.2.2.2.2.2.2.2.2.1 ∧ jzUx G0 u.2.2.2.2.2.2.2.2.2.2.2.2.2.2.1 u.2.2.2.2.2.2.2.2.2.2.2.2.2.2.2.1 u.2.2.2.2.2.2.2.2.2.2.2.2.2.1 u.2.1.toInt u.2.2.2.2.2.2.2.2.2.2.2.2.1) (fun u t => jRa (dC, dI) B base G0 u.2.2.2.2.2.2.2.2.2.2.2.2.2.2.2.2.2 EX11_understoodI H0 ((u.2.2.2.2.1 - n_pa) / 16 + 11) (2 * (u.2.2.2.2.1 - n_pa) + 267) [(bo, 2, 1, .int u.1), (js, 6, 7, .int u.2.1), (js, 6, 8, .int u.2.2.1), (bo, 2, 0, .ref u.2.2.2.1)] t.heap ∧ u.2.2.2.2.2.2.2.2.2.2.2.2.2.2.2.2.2 u.2.2.2.1 = some (196, u.2.2.2.2.1) ∧ (jNk [0, 1, 3, 4, 5, 6, 7, 8, 9, 11, 12, 13, 14, 15, 16, 175]) G0 u.2.2.2.2.2.2.2.2.2.2.2.2.2.2.2.2.2 ∧ jOl (dC, dI) G0 2 [bo, ou] H0 t.heap ∧ jIs (dC, dI) u.2.2.2.2.2.2.2.2.2.2.2.2.2.2.2.2.2 t.heap [(jFy, jYb dC dI u.2.2.2.2.2.2.2.2.2.2.2.2.2.2.2.2.2), (jFib, jIB dC dI ca u.2.2.2.2.2.2.2.2.2.2.2.2.2.2.2.2.2 0 (u.2.2.2.2.2.2.2.2.2.2.2.2.2.2.2.1)), (jFqd, jQD dC dI ca u.2.2.2.2.2.2.2.2.2.2.2.2.2.2.2.2.2 none (u.2.2.2.2.2.2.2.2.2.2.2.2.2.2.1))] ∧ jMc (dC, dI) u.2.2.2.2.2.2.2.2.2.2.2.2.2.2.2.2.2 t.heap [(wk, 140, 1502, ca 1, u.2.2.2.2.2.1), (wi, 141, 1502, ca 1, u.2.2.2.2.2.2.1), (wz, 142, 1502, ca 1, u.2.2.2.2.2.2.2.1), (jnx, 143, 1502, ca 1, u.2.2.2.2.2.2.2.2.1), (jkf, 144, 1502, ca 1, u.2.2.2.2.2.2.2.2.2.1), (jks, 145, 1502, ca 1, u.2.2.2.2.2.2.2.2.2.2.1), (jun, 146, 3000, ca 1, u.2.2.2.2.2.2.2.2.2.2.2.1)]) (jA base)) ([.ref r0] : List Value).toArray s (LC - H0.size) (LS - jTot H0) (jA base) := ⟨_, rfl⟩
  rw [← hQ]
  have hl := lv_entry ([.ref r0]) (n := 6) (Nat.le_of_ble_eq_true rfl)
  rw [lg_entry_eq]
  generalize (lg_sl ([.ref r0]) ++ List.replicate (6 - (lg_sl ([.ref r0])).length) Slot.unset).toArray = ls at hl ⊢
  have hl : lv_has ls 6 [(0, .ref r0)] := hl
  generalize hR : (headSpec (jw yX11_understood cX11_understood 6 (some (.object "ProofServer$Request"))) ({ frames := 30, cells := LC - H0.size, slots := LS - jTot H0, locals := 1846 })).room = R
  subst hH0
  have hh : jSt (dC, dI) B base G0 G0 EX11_understoodI s.heap 0 0 [(r0, 13, 4, .ref bo), (bo, 2, 1, .int pc), (bo, 2, 0, .ref pa), (r0, 13, 3, .ref ou), (r0, 13, 1, .ref fm), (fm, 4, 1, .int fl), (r0, 13, 2, .ref js), (js, 6, 0, .ref wk), (js, 6, 1, .ref wi), (js, 6, 2, .ref wz), (js, 6, 3, .ref jnx), (js, 6, 4, .ref jkf), (js, 6, 5, .ref jks), (js, 6, 6, .ref jun), (fm, 4, 0, .ref bd_)] [(wk, 140, 1502, ca 1, fk), (wi, 141, 1502, ca 1, fi), (wz, 142, 1502, ca 1, fz), (jnx, 143, 1502, ca 1, fn), (jkf, 144, 1502, ca 1, fa), (jks, 145, 1502, ca 1, fs), (jun, 146, 3000, ca 1, fu), (bd_, 100, 3000, ca 0, fb)] [(jFy, jYb dC dI G0), (jFib, jIB dC dI ca G0 0 ib), (jFqd, jQD dC dI ca G0 none qq)] s.heap [] := jSt.start hX hP0 hM0 hI0
  clear hX hP0
  have hkm32700 : ((-32700) : Int32).toInt = (-32700) := by decide
  have hkm32600 : ((-32600) : Int32).toInt = (-32600) := by decide
  have hkm1 : ((-1) : Int32).toInt = (-1) := by decide
  have hk0 : (0 : Int32).toInt = 0 := by decide
  have hk1 : (1 : Int32).toInt = 1 := by decide
  have hk3 : (3 : Int32).toInt = 3 := by decide
  have hly_4_0 := htw (u_lay RX2 TX2 0) (jWc_wsX20 _ (u_in_lay (by decide)))
  have hly_4_1 := htw (u_lay RX2 TX2 1) (jWc_wsX20 _ (u_in_lay (by decide)))
  have hly_10_0 := htw (u_lay RX8 TX8 0) (jWc_wsX80 _ (u_in_lay (by decide)))
  have hly_13_1 := htw (u_lay RX11 TX11 1) (jWc_wsX110 _ (u_in_lay (by decide)))
  have hly_13_2 := htw (u_lay RX11 TX11 2) (jWc_wsX110 _ (u_in_lay (by decide)))
  have hlk_28 := (htw (.fieldLink RX11 28 "ProofServer" "json" "LProofServer$Json;") (jWr_1 _ (List.mem_of_getElem? (i := 23) rfl)))
  have hlk_21 := (htw (.fieldLink RX11 21 "ProofServer" "frames" "LProofServer$Frames;") (jWr_1 _ (List.mem_of_getElem? (i := 19) rfl)))
  have hlk_253 := (htw (.fieldLink RX11 253 "ProofServer$Frames" "body" "[B") (jWr_19 _ (List.mem_of_getElem? (i := 1) rfl)))
  have hlk_255 := (htw (.fieldLink RX11 255 "ProofServer$Frames" "length" "I") (jWr_19 _ (List.mem_of_getElem? (i := 2) rfl)))
  obtain ⟨str259, rstr259, hstr2590⟩ := hG.strT (o := RX11) (k := 259) (tx := "id") (List.mem_of_getElem? (i := 730) (by decide +kernel))
  have hTstr259 : jStrF base str259 2 (jChT "id") s s.heap := hstr2590.F (by decide +kernel)
  have hstr259 : jStr base str259 2 s s.heap := hTstr259.str
  obtain ⟨str271, rstr271, hstr2710⟩ := hG.strT (o := RX11) (k := 271) (tx := "params") (List.mem_of_getElem? (i := 852) (by decide +kernel))
  have hTstr271 : jStrF base str271 6 (jChT "params") s s.heap := hstr2710.F (by decide +kernel)
  have hstr271 : jStr base str271 6 s s.heap := hTstr271.str
  obtain ⟨str273, rstr273, hstr2730⟩ := hG.strT (o := RX11) (k := 273) (tx := "jsonrpc") (List.mem_of_getElem? (i := 853) (by decide +kernel))
  have hTstr273 : jStrF base str273 7 (jChT "jsonrpc") s s.heap := hstr2730.F (by decide +kernel)
  have hstr273 : jStr base str273 7 s s.heap := hTstr273.str
  obtain ⟨str275, rstr275, hstr2750⟩ := hG.strT (o := RX11) (k := 275) (tx := "2.0") (List.mem_of_getElem? (i := 854) (by decide +kernel))
  have hTstr275 : jStrF base str275 3 (jChT "2.0") s s.heap := hstr2750.F (by decide +kernel)
  have hstr275 : jStr base str275 3 s s.heap := hTstr275.str
  obtain ⟨str281, rstr281, hstr2810⟩ := hG.strT (o := RX11) (k := 281) (tx := "method") (List.mem_of_getElem? (i := 859) (by decide +kernel))
  have hTstr281 : jStrF base str281 6 (jChT "method") s s.heap := hstr2810.F (by decide +kernel)
  have hstr281 : jStr base str281 6 s s.heap := hTstr281.str
  have hlk_114 := (htw (.fieldLink RX11 114 "ProofServer$Request" "id" "LProofServer$Bytes;") (jWr_17 _ (List.mem_of_getElem? (i := 9) rfl)))
  have hbs : base ≤ s.heap.size := Nat.le_of_lt (Nat.lt_of_le_of_lt (hh.ab hg_r0).1 (hh.ab hg_r0).2)
  have hRc : R.cells = LC - s.heap.size := by rw [← hR]; rfl
  have hRs : R.slots = LS - jTot s.heap := by rw [← hR]; rfl
  have hh_1 := hh.addI (jOl.ie (dC := dC) (dI := dI) (G0 := G0) (k := 2) (rs := [bo, ou]) (H0 := s.heap) (F := [(2, 0), (2, 1)]) (C := RX0) (T := TX0) (N := 2) rfl (by decide) hh.2.2.2.2.1 (jOl.rf))
  clear hh
  have hab9 : ∀ a t, G0 a = some t → a < s.heap.size := fun a ⟨k, n⟩ h => (hh_1.ab h).2
  refine lv_aload_n hx hb dX11_understood_0 rfl (lv_at hl 0 rfl) ?_
  refine j7_read hx hb hown hK (C := RX11) (T := TX11) (N := 19) rfl hly_13_2 hlk_28 (hh_1.at 6 rfl) dX11_understood_1 ?_
  refine lv_aload_n hx hb dX11_understood_4 rfl (lv_at hl 0 rfl) ?_
  refine j7_read hx hb hown hK (C := RX11) (T := TX11) (N := 19) rfl hly_13_1 hlk_21 (hh_1.at 4 rfl) dX11_understood_5 ?_
  refine j7_read hx hb hown hK (C := RX2) (T := TX2) (N := 12) rfl hly_4_0 hlk_253 (hh_1.at 14 rfl) dX11_understood_8 ?_
  refine lv_aload_n hx hb dX11_understood_11 rfl (lv_at hl 0 rfl) ?_
  refine j7_read hx hb hown hK (C := RX11) (T := TX11) (N := 19) rfl hly_13_1 hlk_21 (hh_1.at 4 rfl) dX11_understood_12 ?_
  refine j7_read hx hb hown hK (C := RX2) (T := TX2) (N := 12) rfl hly_4_1 hlk_255 (hh_1.at 5 rfl) dX11_understood_15 ?_
  have hsz_2 := hh_1.2.2.2.2.2.1
  have htt_2 := hh_1.2.2.2.2.2.2.1
  refine W.room (fun hrc_2 hrs_2 => ?_)
  refine va_calli (A0 := jA base) (H0 := s.heap) (va_runV (As := [.ref bd_, .int fl]) (rest := []) ⟨hx, hb, hml, hown, hts⟩ (uX4_readJ l dC dI ca base B hB hAp hB6 hB100 hB140 hB141 hB142 hB143 hB144 hB145 hB146 G0 s.heap js bd_ fl 3000 wk wi wz jnx jkf jks jun fb fk fi fz fn fa fs fu) (cwV 2 hts (jgV (jWr_19 _ (List.mem_of_getElem? (i := 6) rfl)) (jWr_19 _ (List.mem_of_getElem? (i := 7) rfl)) (jWr_19 _ (List.mem_of_getElem? (i := 8) rfl)) (jWr_1 _ (List.mem_of_getElem? (i := 22) rfl)) (jWr_19 _ (List.mem_of_getElem? (i := 9) rfl))) rfl rfl rfl (by decide +kernel) ⟨by rw [← hR]; exact Nat.le_of_ble_eq_true rfl, by rw [← hR]; exact Nat.le_of_ble_eq_true rfl⟩) ⟨fun a U g mk q => by obtain ⟨q0, q1, q2, qK, q10, q11, q12, q13, q14, q15, q16, q17, q18, q19, q20, q21⟩ := q; exact ⟨q0, q1, q2, jG.calling g mk a qK, q10, q11, q12, q13, q14, q15, q16, q17, q18, q19, q20, q21⟩, hh_1.recv (C := RX4) (T := TX4) (N := 12) hB6 rfl (by decide) hg_js hK, fun U hU hW => ⟨rfl, hU, hh_1.2.1, hG.step hW hU hh_1.1, hg_bd_, hg_js, hg_wk, hg_wi, hg_wz, hg_jnx, hg_jkf, hg_jks, hg_jun, (hh_1.2.2.1.sub (L1 := [(js, 6, 0, .ref wk), (js, 6, 1, .ref wi), (js, 6, 2, .ref wz), (js, 6, 3, .ref jnx), (js, 6, 4, .ref jkf), (js, 6, 5, .ref jks), (js, 6, 6, .ref jun)]) [7, 8, 9, 10, 11, 12, 13] rfl), (hh_1.2.2.2.2.2.2.2.1.sub (L1 := [(bd_, 100, 3000, ca 0, fb), (wk, 140, 1502, ca 1, fk), (wi, 141, 1502, ca 1, fi), (wz, 142, 1502, ca 1, fz), (jnx, 143, 1502, ca 1, fn), (jkf, 144, 1502, ca 1, fa), (jks, 145, 1502, ca 1, fs), (jun, 146, 3000, ca 1, fu)]) [7, 0, 1, 2, 3, 4, 5, 6] rfl), ⟨(by first | omega | rfl | assumption | fail), (by first | omega | rfl | assumption | fail), (by first | omega | rfl | assumption | fail), (by first | assumption | fail | omega)⟩⟩⟩ rfl rfl hl.1 rfl (lv_room (Nat.le_of_ble_eq_true rfl)) dX11_understood_18 ⟨by rw [hRc]; show _ + 0 ≤ _; omega, by rw [hRs]; show _ + 0 ≤ _; omega⟩) hh_1.1 (fun q _ h => h) (fun q h => h) (fun r_3 u_2 t_2 H_2 locs_2 ht_2 hvm_2 hr_3 hb_2 hz_2 hk_2 hS_2 => ?_)
  obtain ⟨qv_2, qu_2, gk_2, gi_2, gz_2, gn_2, ga_2, gs_2, gu_2⟩ := u_2
  rw [ht_2] at hb_2
  obtain ⟨⟨hb_21, hb_22, hb_23, hb_24, hb_25⟩, hb_26⟩ := hb_2
  have hh_2 : jSt (dC, dI) B base G0 G0 EX11_understoodI s.heap 0 0 [(js, 6, 7, .int qv_2), (js, 6, 8, .int qu_2), (r0, 13, 4, .ref bo), (bo, 2, 1, .int pc), (bo, 2, 0, .ref pa), (r0, 13, 3, .ref ou), (r0, 13, 1, .ref fm), (fm, 4, 1, .int fl), (r0, 13, 2, .ref js), (js, 6, 0, .ref wk), (js, 6, 1, .ref wi), (js, 6, 2, .ref wz), (js, 6, 3, .ref jnx), (js, 6, 4, .ref jkf), (js, 6, 5, .ref jks), (js, 6, 6, .ref jun), (fm, 4, 0, .ref bd_)] [(wk, 140, 1502, ca 1, gk_2), (wi, 141, 1502, ca 1, gi_2), (wz, 142, 1502, ca 1, gz_2), (jnx, 143, 1502, ca 1, gn_2), (jkf, 144, 1502, ca 1, ga_2), (jks, 145, 1502, ca 1, gs_2), (jun, 146, 3000, ca 1, gu_2), (bd_, 100, 3000, ca 0, fb)] [([(2, 0), (2, 1)], jOl (dC, dI) G0 2 [bo, ou] s.heap), (jFy, jYb dC dI G0), (jFib, jIB dC dI ca G0 0 ib), (jFqd, jQD dC dI ca G0 none qq)] H_2 locs_2 := ((hh_1.call hb_21 hb_22 hb_23 hb_24 hS_2 rfl (L1 := [(r0, 13, 4, .ref bo), (bo, 2, 1, .int pc), (bo, 2, 0, .ref pa), (r0, 13, 3, .ref ou), (r0, 13, 1, .ref fm), (fm, 4, 1, .int fl), (r0, 13, 2, .ref js), (js, 6, 0, .ref wk), (js, 6, 1, .ref wi), (js, 6, 2, .ref wz), (js, 6, 3, .ref jnx), (js, 6, 4, .ref jkf), (js, 6, 5, .ref jks), (js, 6, 6, .ref jun), (fm, 4, 0, .ref bd_)]) [0, 1, 2, 3, 4, 5, 6, 7, 8, 9, 10, 11, 12, 13, 14] rfl rfl (M1 := [(bd_, 100, 3000, ca 0, fb)]) [7] rfl rfl (I1 := [([(2, 0), (2, 1)], jOl (dC, dI) G0 2 [bo, ou] s.heap), (jFy, jYb dC dI G0), (jFib, jIB dC dI ca G0 0 ib), (jFqd, jQD dC dI ca G0 none qq)]) [0, 1, 2, 3] rfl rfl).more hb_25).moreM hb_26
  clear hh_1 ht_2 hvm_2 hz_2 hk_2 hS_2 hb_21 hb_22 hb_23 hb_24 hb_25
  clear hb_26
  try simp only at hr_3
  obtain ⟨hr_3b, hr_3p⟩ := hr_3
  obtain ⟨hr_3p_0, hr_3p_1, hr_3p_2, hr_3p_3, hr_3p_4⟩ := hr_3p
  have hj1 := hr_3p_2.1
  have hr_3' := jb_01 hr_3b
  refine lv_istore_n (lv' := [(1, .int r_3), (0, .ref r0)]) hx hb dX11_understood_21 rfl hl (by decide) rfl (fun ls hl => ?_)
  refine lv_iload_n hx hb dX11_understood_22 rfl (lv_at hl 0 rfl) ?_
  refine lv_if_eq (tgt := 40) hx hb dX11_understood_23 (by decide) (fun c_4 => ?_) (fun c_4 => ?_)
  · skip
    have c_4' : r_3.toInt = 0 := jb_eq (rfl) ((by decide)) c_4
    first | (have hr_3p_3q := hr_3p_3.resolve_left (by omega); clear hr_3p_3) | (have hr_3p_3q := hr_3p_3.resolve_right (by omega); clear hr_3p_3) | skip
    have hX0 := hr_3p_4.resolve_right (fun q => by omega)
    have hqR18 := jqR.of hr_3p_2
    refine lv_iconst (v := (-1)) hx hb dX11_understood_40 (by decide) ?_
    refine lv_istore_n (lv' := [(2, .int (-1)), (1, .int r_3), (0, .ref r0)]) hx hb dX11_understood_41 rfl hl (by decide) rfl (fun ls hl => ?_)
    try clear hsz_2 htt_2 hrc_2 hrs_2
    have hsz_5 := hh_2.2.2.2.2.2.1
    have htt_5 := hh_2.2.2.2.2.2.2.1
    refine j7_newo (k := 10) (C := RX8) (T := TX8) (N := 5) (fs := [.null, .null, .int 0, .int 0, .int 0]) hx hb htw jWc_wsX80 (fun k => ([(.object "ProofServer$Bytes"), (.object "ProofServer$Document"), .int, .boolean, .int] : List FieldType).getD k .int) (by decide +kernel) hown (htw (.classLink RX11 115 RX8) (jWr_19 _ (List.mem_of_getElem? (i := 3) rfl))) (htw (.instantiable RX8 5) (jWr_19 _ (List.mem_of_getElem? (i := 4) rfl))) (htw (.initialized RX8) (jWr_19 _ (List.mem_of_getElem? (i := 5) rfl))) hK rfl (fun j hj => by rcases (by omega : j = 0 ∨ j = 1 ∨ j = 2 ∨ j = 3 ∨ j = 4) with rfl | rfl | rfl | rfl | rfl <;> rfl) hh_2 hB (by rw [hRc]; omega) (by rw [hRs]; omega) dX11_understood_42 (fun H_5 hraw_5 hfr_5 hnr_5 hh_5 => ?_)
    have hke_5 : jKe G0 G0 H_2 H_5 := jKe.raw hfr_5
    have hbr_5 : base ≤ H_2.size := Nat.le_trans hbs hh_2.1.1
    have hsy_5 : s.heap.size ≤ H_2.size := hh_2.1.1
    clear hh_2
    refine lv_dup hx hb dX11_understood_45 rfl ?_
    refine lv_aload_n hx hb dX11_understood_46 rfl (lv_at hl 2 rfl) ?_
    refine j7_read hx hb hown hK (C := RX11) (T := TX11) (N := 19) rfl hly_13_2 hlk_28 (hh_5.at 8 rfl) dX11_understood_47 ?_
    refine lv_iload_n hx hb dX11_understood_50 rfl (lv_at hl 0 rfl) ?_
    have hab8 := fun (a : Nat) (t : Nat × Nat) (h : G0 a = some t) => (hh_5.ab h).2
    try clear hsz_5 htt_5 hrc_5 hrs_5
    have hsz_6 := hh_5.2.2.2.2.2.1
    have htt_6 := hh_5.2.2.2.2.2.2.1
    refine W.room (fun hrc_6 hrs_6 => ?_)
    refine va_callv (A0 := jA base) (H0 := s.heap) (va_runI (As := [.ref js, .int (-1)]) (rest := [.ref H_2.size]) ⟨hx, hb, hml, hown, hts⟩ (uX8_initI l dC dI ca base B hB hAp hB2 hB6 hB10 hB17 hB101 hB140 hB141 hB142 hB146 hB174 hB196 hB199 G0 H_5 H_2.size js (-1) qv_2 qu_2 wk wi wz jnx jkf jks jun (jjTo gk_2 gi_2 gz_2 gn_2 ga_2 gs_2 gu_2) qq ib gk_2 gi_2 gz_2 gn_2 ga_2 gs_2 gu_2 LC LS) (cwI 2 hts (jgW (jWr_24 _ (List.mem_of_getElem? (i := 0) rfl))) rfl rfl rfl (htw (.initialized RX8) (jWr_19 _ (List.mem_of_getElem? (i := 5) rfl))) (htw (.methodLink RX11 264 yX8_init) (jWr_23 _ (List.mem_of_getElem? (i := 22) rfl))) (htw (.instanceMethod yX8_init) (jWr_23 _ (List.mem_of_getElem? (i := 23) rfl))) rfl (by decide +kernel) ⟨by rw [← hR]; exact Nat.le_of_ble_eq_true rfl, by rw [← hR]; exact Nat.le_of_ble_eq_true rfl⟩) ⟨fun a U g mk q => by obtain ⟨q0, q1, q2, qK, q10, q11, q12, q13, q14, q15, q16, q17, q18, q19, q20, q21, q22, q23, q24⟩ := q; exact ⟨q0, q1, q2, jG.calling g mk a qK, q10, q11, q12, q13, q14, q15, q16, q17, q18, q19, q20, q21, q22, q23, q24⟩, fun U hU hW => ⟨rfl, hU, hh_5.2.1, hG.step hW hU hh_5.1, hg_js, hraw_5, hnr_5, hbr_5, hg_wk, hg_wi, hg_wz, hg_jnx, hg_jkf, hg_jks, hg_jun, (hh_5.2.2.1.sub (L1 := [(js, 6, 7, .int qv_2), (js, 6, 8, .int qu_2), (js, 6, 0, .ref wk), (js, 6, 1, .ref wi), (js, 6, 2, .ref wz), (js, 6, 3, .ref jnx), (js, 6, 4, .ref jkf), (js, 6, 5, .ref jks), (js, 6, 6, .ref jun)]) [0, 1, 9, 10, 11, 12, 13, 14, 15] rfl), (hh_5.2.2.2.2.2.2.2.1.sub (L1 := [(wk, 140, 1502, ca 1, gk_2), (wi, 141, 1502, ca 1, gi_2), (wz, 142, 1502, ca 1, gz_2), (jnx, 143, 1502, ca 1, gn_2), (jkf, 144, 1502, ca 1, ga_2), (jks, 145, 1502, ca 1, gs_2), (jun, 146, 3000, ca 1, gu_2)]) [0, 1, 2, 3, 4, 5, 6] rfl), (hh_5.2.2.2.2.2.2.2.2.sub (L1 := [(jFib, jIB dC dI ca G0 0 ib), (jFqd, jQD dC dI ca G0 none qq)]) [2, 3] rfl), (by omega), (by omega), ⟨(by first | omega | rfl | assumption | exact hr_3p_2.p hr_3p_1 | exact hTb18 | exact hqR18 | exact jjTo.tc | exact (fun q => hTw18 _ q) | exact (fun q => absurd q (by rw [jqK.ng (by omega)]; decide))), (by first | omega | rfl | assumption | exact hr_3p_2.p hr_3p_1 | exact hTb18 | exact hqR18 | exact jjTo.tc | exact (fun q => hTw18 _ q) | exact (fun q => absurd q (by rw [jqK.ng (by omega)]; decide))), (by first | assumption | exact hr_3p_2.p hr_3p_1 | exact hTb18 | exact hqR18 | exact jjTo.tc | exact (fun q => hTw18 _ q) | exact (fun q => absurd q (by rw [jqK.ng (by omega)]; decide)) | omega), (by first | omega | rfl | assumption | exact hr_3p_2.p hr_3p_1 | exact hTb18 | exact hqR18 | exact jjTo.tc | exact (fun q => hTw18 _ q) | exact (fun q => absurd q (by rw [jqK.ng (by omega)]; decide))), (by first | omega | rfl | assumption | exact hr_3p_2.p hr_3p_1 | exact hTb18 | exact hqR18 | exact jjTo.tc | exact (fun q => hTw18 _ q) | exact (fun q => absurd q (by rw [jqK.ng (by omega)]; decide))), (by first | assumption | exact hr_3p_2.p hr_3p_1 | exact hTb18 | exact hqR18 | exact jjTo.tc | exact (fun q => hTw18 _ q) | exact (fun q => absurd q (by rw [jqK.ng (by omega)]; decide)) | omega), (by first | assumption | exact hr_3p_2.p hr_3p_1 | exact hTb18 | exact hqR18 | exact jjTo.tc | exact (fun q => hTw18 _ q) | exact (fun q => absurd q (by rw [jqK.ng (by omega)]; decide)) | omega), (by first | assumption | exact hr_3p_2.p hr_3p_1 | exact hTb18 | exact hqR18 | exact jjTo.tc | exact (fun q => hTw18 _ q) | exact (fun q => absurd q (by rw [jqK.ng (by omega)]; decide)) | omega)⟩⟩⟩ rfl rfl hl.1 rfl (lv_room (Nat.le_of_ble_eq_true rfl)) dX11_understood_51 ⟨by rw [hRc]; omega, by rw [hRs]; omega⟩) hh_5.1 (fun q _ h => h) (fun q h => h) (fun u_6 t_6 H_6 locs_6 ht_6 hvm_6 hr_7 hb_6 hz_6 hk_6 hS_6 => ?_)
    rw [ht_6] at hb_6
    obtain ⟨gQ_6, iV_6, iB_6, G_6⟩ := u_6
    simp only at hb_6
    obtain ⟨⟨hb_61, hb_62, hb_63, hb_64, hb_65, hb_66⟩, hN_6, hgc_6, hbE_6⟩ := hb_6
    have hY_6 := hN_6
    have hW_6 := hN_6
    have hN_6 : (jNk [0, 1, 3, 4, 5, 6, 7, 8, 9, 11, 12, 13, 14, 15, 16, 175]) G0 G_6 := hN_6.sub (by decide)
    have hh_6 : jSt (dC, dI) B base G0 G_6 EX11_understoodI s.heap ((0 + 1) + (10)) ((0 + 5) + (262)) [(js, 6, 7, .int qv_2), (js, 6, 8, .int qu_2), (r0, 13, 4, .ref bo), (bo, 2, 1, .int pc), (bo, 2, 0, .ref pa), (r0, 13, 3, .ref ou), (r0, 13, 1, .ref fm), (fm, 4, 1, .int fl), (r0, 13, 2, .ref js), (js, 6, 0, .ref wk), (js, 6, 1, .ref wi), (js, 6, 2, .ref wz), (js, 6, 3, .ref jnx), (js, 6, 4, .ref jkf), (js, 6, 5, .ref jks), (js, 6, 6, .ref jun), (fm, 4, 0, .ref bd_)] [(wk, 140, 1502, ca 1, gk_2), (wi, 141, 1502, ca 1, gi_2), (wz, 142, 1502, ca 1, gz_2), (jnx, 143, 1502, ca 1, gn_2), (jkf, 144, 1502, ca 1, ga_2), (jks, 145, 1502, ca 1, gs_2), (jun, 146, 3000, ca 1, gu_2), (bd_, 100, 3000, ca 0, fb)] [([(2, 0), (2, 1)], jOl (dC, dI) G0 2 [bo, ou] s.heap), (jFy, jYb dC dI G0)] H_6 locs_6 := (hh_5.callG hb_61 hb_62 hb_63 hb_64 hb_65 hS_6 rfl (L1 := [(js, 6, 7, .int qv_2), (js, 6, 8, .int qu_2), (r0, 13, 4, .ref bo), (bo, 2, 1, .int pc), (bo, 2, 0, .ref pa), (r0, 13, 3, .ref ou), (r0, 13, 1, .ref fm), (fm, 4, 1, .int fl), (r0, 13, 2, .ref js), (js, 6, 0, .ref wk), (js, 6, 1, .ref wi), (js, 6, 2, .ref wz), (js, 6, 3, .ref jnx), (js, 6, 4, .ref jkf), (js, 6, 5, .ref jks), (js, 6, 6, .ref jun), (fm, 4, 0, .ref bd_)]) [0, 1, 2, 3, 4, 5, 6, 7, 8, 9, 10, 11, 12, 13, 14, 15, 16] rfl rfl (M1 := [(wk, 140, 1502, ca 1, gk_2), (wi, 141, 1502, ca 1, gi_2), (wz, 142, 1502, ca 1, gz_2), (jnx, 143, 1502, ca 1, gn_2), (jkf, 144, 1502, ca 1, ga_2), (jks, 145, 1502, ca 1, gs_2), (jun, 146, 3000, ca 1, gu_2), (bd_, 100, 3000, ca 0, fb)]) [0, 1, 2, 3, 4, 5, 6, 7] rfl rfl (I1 := [([(2, 0), (2, 1)], jOl (dC, dI) G0 2 [bo, ou] s.heap), (jFy, jYb dC dI G0)]) [0, 1] rfl rfl).more hb_66
    have hNn_6 : (jNk [0, 1, 3, 4, 5, 6, 7, 8, 9, 11, 12, 13, 14, 15, 16, 175]) G0 G_6 := (jNk.rf).tr hN_6
    have hg_8 := hb_62 _ _ hg_r0
    have hg_9 := hb_62 _ _ hg_bo
    have hg_10 := hb_62 _ _ hg_pa
    have hg_11 := hb_62 _ _ hg_ou
    have hg_12 := hb_62 _ _ hg_fm
    have hg_13 := hb_62 _ _ hg_js
    have hg_14 := hb_62 _ _ hg_wk
    have hg_15 := hb_62 _ _ hg_wi
    have hg_16 := hb_62 _ _ hg_wz
    have hg_17 := hb_62 _ _ hg_jnx
    have hg_18 := hb_62 _ _ hg_jkf
    have hg_19 := hb_62 _ _ hg_jks
    have hg_20 := hb_62 _ _ hg_jun
    have hg_21 := hb_62 _ _ hg_bd_
    have hd_22 := jYb.grow (hh_6.iv 1 rfl) hb_62 hY_6 (by decide)
    have hh_23 := hh_6.sub (L1 := [(js, 6, 7, .int qv_2), (js, 6, 8, .int qu_2), (r0, 13, 4, .ref bo), (bo, 2, 1, .int pc), (bo, 2, 0, .ref pa), (r0, 13, 3, .ref ou), (r0, 13, 1, .ref fm), (fm, 4, 1, .int fl), (r0, 13, 2, .ref js), (js, 6, 0, .ref wk), (js, 6, 1, .ref wi), (js, 6, 2, .ref wz), (js, 6, 3, .ref jnx), (js, 6, 4, .ref jkf), (js, 6, 5, .ref jks), (js, 6, 6, .ref jun), (fm, 4, 0, .ref bd_)]) [0, 1, 2, 3, 4, 5, 6, 7, 8, 9, 10, 11, 12, 13, 14, 15, 16] rfl (M1 := [(wk, 140, 1502, ca 1, gk_2), (wi, 141, 1502, ca 1, gi_2), (wz, 142, 1502, ca 1, gz_2), (jnx, 143, 1502, ca 1, gn_2), (jkf, 144, 1502, ca 1, ga_2), (jks, 145, 1502, ca 1, gs_2), (jun, 146, 3000, ca 1, gu_2), (bd_, 100, 3000, ca 0, fb)]) [0, 1, 2, 3, 4, 5, 6, 7] rfl (I1 := [([(2, 0), (2, 1)], jOl (dC, dI) G0 2 [bo, ou] s.heap)]) [0] rfl
    clear hh_6
    have hh_24 := hh_23.addI (jYb.ie hd_22)
    clear hh_23
    have hh_25 := hh_24.addIs hbE_6
    try simp only at hr_7
    obtain ⟨hr_7_0, hr_7_1⟩ := hr_7
    have hh_26 := hh_25.wk (zc1 := (n_pa - n_pa) / 16 + 11) (zs1 := 2 * (n_pa - n_pa) + 267) (by omega) (by omega)
    clear hh_25
    try clear hsz_6 htt_6 hrc_6 hrs_6
    try clear hb_64 hb_65
    have hnx9 : ∀ (a : Nat) (t : Nat × Nat), G0 a = some t → a ≠ H_2.size := fun a t h e => by have h9 := hab9 a t h; have h8 : s.heap.size ≤ H_2.size := hsy_5; omega
    refine lv_astore_n (lv' := [(3, .ref H_2.size), (2, .int (-1)), (1, .int r_3), (0, .ref r0)]) hx hb dX11_understood_54 rfl hl (by decide) rfl (fun ls hl => ?_)
    refine lv_iload_n hx hb dX11_understood_55 rfl (lv_at hl 2 rfl) ?_
    refine lv_if_ne (tgt := 69) hx hb dX11_understood_56 (by decide) (fun c_27 => ?_) (fun c_27 => ?_)
    · skip
      have c_27' : r_3.toInt ≠ 0 := jb_ne (rfl) ((by decide)) c_27
      exact (by omega : False).elim
    · skip
      have c_27' : r_3.toInt = 0 := jb_ne_n (rfl) ((by decide)) c_27
      first | (have hr_3p_3q := hr_3p_3.resolve_left (by omega); clear hr_3p_3) | (have hr_3p_3q := hr_3p_3.resolve_right (by omega); clear hr_3p_3) | skip
      refine lv_aload_n hx hb dX11_understood_59 rfl (lv_at hl 3 rfl) ?_
      refine lv_aload_n hx hb dX11_understood_60 rfl (lv_at hl 0 rfl) ?_
      refine lv_sipush (v := (-32700)) hx hb dX11_understood_61 (by decide) ?_
      try clear hsz_6 htt_6 hrc_6 hrs_6
      have hsz_28 := hh_26.2.2.2.2.2.1
      have htt_28 := hh_26.2.2.2.2.2.2.1
      refine W.room (fun hrc_28 hrs_28 => ?_)
      refine va_callv (A0 := jA base) (H0 := s.heap) (va_runV (As := [.ref H_2.size, .int (-32700)]) (rest := []) ⟨hx, hb, hml, hown, hts⟩ (uX11_refuse l dC dI ca base B hB hAp hB2 hB4 hB10 hB13 hB17 hB196 hB199 G_6 H_6 r0 H_2.size (-32700) bo pc pa n_pa ou LC LS) (cwV 2 hts (jgV (jWr_26 _ (List.mem_of_getElem? (i := 3) rfl)) (jWr_26 _ (List.mem_of_getElem? (i := 4) rfl)) (jWr_26 _ (List.mem_of_getElem? (i := 5) rfl)) (jWr_1 _ (List.mem_of_getElem? (i := 2) rfl)) (jWr_26 _ (List.mem_of_getElem? (i := 6) rfl))) rfl rfl rfl (by decide +kernel) ⟨by rw [← hR]; exact Nat.le_of_ble_eq_true rfl, by rw [← hR]; exact Nat.le_of_ble_eq_true rfl⟩) ⟨fun a U g mk q => by obtain ⟨q0, q1, q2, qK, q10, q11, q12, q13, q14, q15, q16, q17⟩ := q; exact ⟨q0, q1, q2, jG.calling g mk a qK, q10, q11, q12, q13, q14, q15, q16, q17⟩, hh_26.recv (C := RX11) (T := TX11) (N := 19) hB13 rfl (by decide) hg_8 hK, fun U hU hW => ⟨rfl, hU, hh_26.2.1, hG.step hW hU hh_26.1, hgc_6, hg_8, hg_9, hg_10, hg_11, (hh_26.2.2.1.sub (L1 := [(r0, 13, 4, .ref bo), (bo, 2, 1, .int pc), (bo, 2, 0, .ref pa), (r0, 13, 3, .ref ou)]) [2, 3, 4, 5] rfl), (hh_26.2.2.2.2.2.2.2.2.sub (L1 := [(jFy, jYb dC dI G_6)]) [2] rfl), (by omega), (by omega), ⟨(by first | omega | rfl | assumption | fail), (by first | omega | rfl | assumption | fail), (by first | omega | rfl | assumption | fail), (by first | omega | rfl | assumption | fail), (by first | assumption | fail | omega)⟩⟩⟩ rfl rfl hl.1 rfl (lv_room (Nat.le_of_ble_eq_true rfl)) dX11_understood_64 ⟨by rw [hRc]; omega, by rw [hRs]; omega⟩) hh_26.1 (fun q _ h => h) (fun q h => h) (fun u_28 t_28 H_28 locs_28 ht_28 hvm_28 hr_29 hb_28 hz_28 hk_28 hS_28 => ?_)
      obtain ⟨qc_28, qa_28, m_qa_28, G_28⟩ := u_28
      rw [ht_28] at hb_28
      simp only at hb_28
      obtain ⟨⟨hb_281, hb_282, hb_283, hb_284, hb_285, hb_286⟩, hgq_28_0, hN_28, hbO_28, hbE_28⟩ := hb_28
      have hY_28 := hN_28
      have hW_28 := hN_28
      have hN_28 : (jNk [0, 1, 3, 4, 5, 6, 7, 8, 9, 11, 12, 13, 14, 15, 16, 175]) G_6 G_28 := hN_28.sub (by decide)
      have hh_28 : jSt (dC, dI) B base G0 G_28 EX11_understoodI s.heap (((n_pa - n_pa) / 16 + 11) + ((m_qa_28 - n_pa) / 16)) ((2 * (n_pa - n_pa) + 267) + (2 * (m_qa_28 - n_pa))) [(bo, 2, 1, .int qc_28), (bo, 2, 0, .ref qa_28), (js, 6, 7, .int qv_2), (js, 6, 8, .int qu_2), (r0, 13, 4, .ref bo), (r0, 13, 3, .ref ou), (r0, 13, 1, .ref fm), (fm, 4, 1, .int fl), (r0, 13, 2, .ref js), (js, 6, 0, .ref wk), (js, 6, 1, .ref wi), (js, 6, 2, .ref wz), (js, 6, 3, .ref jnx), (js, 6, 4, .ref jkf), (js, 6, 5, .ref jks), (js, 6, 6, .ref jun), (fm, 4, 0, .ref bd_)] [(wk, 140, 1502, ca 1, gk_2), (wi, 141, 1502, ca 1, gi_2), (wz, 142, 1502, ca 1, gz_2), (jnx, 143, 1502, ca 1, gn_2), (jkf, 144, 1502, ca 1, ga_2), (jks, 145, 1502, ca 1, gs_2), (jun, 146, 3000, ca 1, gu_2), (bd_, 100, 3000, ca 0, fb)] [(jFib, jIB dC dI ca G_6 0 iB_6), (jFqd, jQD dC dI ca G_6 none gQ_6)] H_28 locs_28 := (hh_26.callG hb_281 hb_282 hb_283 hb_284 hb_285 hS_28 rfl (L1 := [(js, 6, 7, .int qv_2), (js, 6, 8, .int qu_2), (r0, 13, 4, .ref bo), (r0, 13, 3, .ref ou), (r0, 13, 1, .ref fm), (fm, 4, 1, .int fl), (r0, 13, 2, .ref js), (js, 6, 0, .ref wk), (js, 6, 1, .ref wi), (js, 6, 2, .ref wz), (js, 6, 3, .ref jnx), (js, 6, 4, .ref jkf), (js, 6, 5, .ref jks), (js, 6, 6, .ref jun), (fm, 4, 0, .ref bd_)]) [0, 1, 2, 5, 6, 7, 8, 9, 10, 11, 12, 13, 14, 15, 16] rfl rfl (M1 := [(wk, 140, 1502, ca 1, gk_2), (wi, 141, 1502, ca 1, gi_2), (wz, 142, 1502, ca 1, gz_2), (jnx, 143, 1502, ca 1, gn_2), (jkf, 144, 1502, ca 1, ga_2), (jks, 145, 1502, ca 1, gs_2), (jun, 146, 3000, ca 1, gu_2), (bd_, 100, 3000, ca 0, fb)]) [0, 1, 2, 3, 4, 5, 6, 7] rfl rfl (I1 := [(jFib, jIB dC dI ca G_6 0 iB_6), (jFqd, jQD dC dI ca G_6 none gQ_6)]) [0, 1] rfl rfl).more hb_286
      have hNn_28 : (jNk [0, 1, 3, 4, 5, 6, 7, 8, 9, 11, 12, 13, 14, 15, 16, 175]) G0 G_28 := (hNn_6).tr hN_28
      have hg_30 := hb_282 _ _ hgc_6
      have hg_31 := hb_282 _ _ hg_8
      have hg_32 := hb_282 _ _ hg_9
      have hg_33 := hb_282 _ _ hg_11
      have hg_34 := hb_282 _ _ hg_12
      have hg_35 := hb_282 _ _ hg_13
      have hg_36 := hb_282 _ _ hg_14
      have hg_37 := hb_282 _ _ hg_15
      have hg_38 := hb_282 _ _ hg_16
      have hg_39 := hb_282 _ _ hg_17
      have hg_40 := hb_282 _ _ hg_18
      have hg_41 := hb_282 _ _ hg_19
      have hg_42 := hb_282 _ _ hg_20
      have hg_43 := hb_282 _ _ hg_21
      have hd_44 := jIB.grow (r := 0) (hh_28.iv 0 rfl) hb_282 hW_28 (by decide)
      have hh_45 := hh_28.sub (L1 := [(bo, 2, 1, .int qc_28), (bo, 2, 0, .ref qa_28), (js, 6, 7, .int qv_2), (js, 6, 8, .int qu_2), (r0, 13, 4, .ref bo), (r0, 13, 3, .ref ou), (r0, 13, 1, .ref fm), (fm, 4, 1, .int fl), (r0, 13, 2, .ref js), (js, 6, 0, .ref wk), (js, 6, 1, .ref wi), (js, 6, 2, .ref wz), (js, 6, 3, .ref jnx), (js, 6, 4, .ref jkf), (js, 6, 5, .ref jks), (js, 6, 6, .ref jun), (fm, 4, 0, .ref bd_)]) [0, 1, 2, 3, 4, 5, 6, 7, 8, 9, 10, 11, 12, 13, 14, 15, 16] rfl (M1 := [(wk, 140, 1502, ca 1, gk_2), (wi, 141, 1502, ca 1, gi_2), (wz, 142, 1502, ca 1, gz_2), (jnx, 143, 1502, ca 1, gn_2), (jkf, 144, 1502, ca 1, ga_2), (jks, 145, 1502, ca 1, gs_2), (jun, 146, 3000, ca 1, gu_2), (bd_, 100, 3000, ca 0, fb)]) [0, 1, 2, 3, 4, 5, 6, 7] rfl (I1 := [(jFqd, jQD dC dI ca G_6 none gQ_6)]) [1] rfl
      clear hh_28
      have hh_46 := hh_45.addI (jIB.ie hd_44)
      clear hh_45
      have hd_47 := jQD.grow (ca := ca) (hh_46.iv 1 rfl) hb_282 hW_28 (by decide)
      have hh_48 := hh_46.sub (L1 := [(bo, 2, 1, .int qc_28), (bo, 2, 0, .ref qa_28), (js, 6, 7, .int qv_2), (js, 6, 8, .int qu_2), (r0, 13, 4, .ref bo), (r0, 13, 3, .ref ou), (r0, 13, 1, .ref fm), (fm, 4, 1, .int fl), (r0, 13, 2, .ref js), (js, 6, 0, .ref wk), (js, 6, 1, .ref wi), (js, 6, 2, .ref wz), (js, 6, 3, .ref jnx), (js, 6, 4, .ref jkf), (js, 6, 5, .ref jks), (js, 6, 6, .ref jun), (fm, 4, 0, .ref bd_)]) [0, 1, 2, 3, 4, 5, 6, 7, 8, 9, 10, 11, 12, 13, 14, 15, 16] rfl (M1 := [(wk, 140, 1502, ca 1, gk_2), (wi, 141, 1502, ca 1, gi_2), (wz, 142, 1502, ca 1, gz_2), (jnx, 143, 1502, ca 1, gn_2), (jkf, 144, 1502, ca 1, ga_2), (jks, 145, 1502, ca 1, gs_2), (jun, 146, 3000, ca 1, gu_2), (bd_, 100, 3000, ca 0, fb)]) [0, 1, 2, 3, 4, 5, 6, 7] rfl (I1 := [(jFib, jIB dC dI ca G_28 0 iB_6)]) [0] rfl
      clear hh_46
      have hh_49 := hh_48.addI (jQD.ie hd_47)
      clear hh_48
      have hh_50 := hh_49.addIs hbE_28
      have hd_51 := jOl.trL (hh_26.iv 3 rfl) hh_26.2.2.2.2.1 hbO_28 (by simp)
      have hh_52 := hh_50.addI (jOl.ie (dC := dC) (dI := dI) (G0 := G0) (k := 2) (rs := [bo, ou]) (H0 := s.heap) (F := [(2, 0), (2, 1)]) (C := RX0) (T := TX0) (N := 2) rfl (by decide) hh_50.2.2.2.2.1 (hd_51))
      clear hh_50
      try simp only at hr_29
      obtain ⟨hr_29_0, hr_29_1, hr_29_2, hr_29_3, hr_29_4⟩ := hr_29
      have hh_53 := hh_52.wk (zc1 := (m_qa_28 - n_pa) / 16 + 11) (zs1 := 2 * (m_qa_28 - n_pa) + 267) (by omega) (by omega)
      clear hh_52
      try clear hsz_28 htt_28 hrc_28 hrs_28
      try clear hb_284 hb_285
      refine lv_null hx hb dX11_understood_67 ?_
      try clear hsz_28 htt_28 hrc_28 hrs_28
      have hsz_54 := hh_53.2.2.2.2.2.1
      have htt_54 := hh_53.2.2.2.2.2.2.1
      refine W.room (fun hrc_54 hrs_54 => ?_)
      refine W.widen (k := LC - s.heap.size) (n := LS - jTot s.heap) (by omega) (by omega) ?_
      rw [hQ]
      exact W.aret (v := .null) hx hb hr (Or.inl ⟨_, rfl⟩) (Or.inl rfl) (fun t ht hW => ⟨⟨.null, (qc_28, qv_2, qu_2, qa_28, m_qa_28, gk_2, gi_2, gz_2, gn_2, ga_2, gs_2, gu_2, none, (fun _ _ => 0), gQ_6, iB_6, 0, G_28), rfl, ⟨Or.inl rfl, by skip; (try dsimp only); refine ⟨by omega, by omega, by omega, by omega, by assumption, by omega, by omega, by omega, hr_3p_2, Or.inl rfl, rfl, Or.inl ⟨rfl, Or.inl hX0.2⟩, jzUs.of hr_7_0 hnx9 hab8 hr_7_1, jzUx.no⟩⟩, ⟨hh_53.ra (by first | (simp only; omega) | omega) (by first | (simp only; omega) | omega) (M1 := [(bo, 2, 1, .int qc_28), (js, 6, 7, .int qv_2), (js, 6, 8, .int qu_2), (bo, 2, 0, .ref qa_28)]) [0, 2, 3, 1] rfl ht, hgq_28_0, hNn_28, by rw [ht]; exact hh_53.iv 0 rfl, by rw [ht]; exact hh_53.2.2.2.2.2.2.2.2.sub (L1 := [(jFy, jYb dC dI G_28), (jFib, jIB dC dI ca G_28 0 iB_6), (jFqd, jQD dC dI ca G_28 none gQ_6)]) [1, 3, 2] rfl, by rw [ht]; exact hh_53.2.2.2.2.2.2.2.1.sub [0, 1, 2, 3, 4, 5, 6] rfl⟩⟩, by rw [ht]; try exact hh_53.1.1, fun q h9 hq => by rw [ht]; try exact hh_53.1.2.1 q h9 hq⟩) hh_53.1.2.2 dX11_understood_68
  · skip
    have c_4' : r_3.toInt ≠ 0 := jb_eq_n (rfl) ((by decide)) c_4
    first | (have hr_3p_3q := hr_3p_3.resolve_left (by omega); clear hr_3p_3) | (have hr_3p_3q := hr_3p_3.resolve_right (by omega); clear hr_3p_3) | skip
    obtain ⟨T18, hX18, hTb18, hco18, hv18⟩ := (hr_3p_4.resolve_left (fun q => by omega)).2
    have hqR18 := jqR.of hr_3p_2
    have hTw18 : jdTw T18 qv_2.toInt := (jjRd.w hX18).tw
    refine lv_aload_n hx hb dX11_understood_26 rfl (lv_at hl 1 rfl) ?_
    refine j7_read hx hb hown hK (C := RX11) (T := TX11) (N := 19) rfl hly_13_2 hlk_28 (hh_2.at 8 rfl) dX11_understood_27 ?_
    refine lv_iconst (v := 0) hx hb dX11_understood_30 (by decide) ?_
    refine j_ldcSw hx hb hown rstr259 dX11_understood_31 ?_
    try clear hsz_2 htt_2 hrc_2 hrs_2
    have hsz_55 := hh_2.2.2.2.2.2.1
    have htt_55 := hh_2.2.2.2.2.2.2.1
    refine W.room (fun hrc_55 hrs_55 => ?_)
    refine va_calli (A0 := jA base) (H0 := s.heap) (va_runV (As := [.int 0, .ref str259]) (rest := []) ⟨hx, hb, hml, hown, hts⟩ (uX4_memberJ l dC dI ca base B hB hAp hB6 hB140 hB141 hB142 hB143 hB144 hB145 hB146 G0 H_2 js 0 str259 2 (jChT "id") qv_2 qu_2 wk wi wz jnx jkf jks jun T18 gk_2 gi_2 gz_2 gn_2 ga_2 gs_2 gu_2) (cwV 2 hts (jgV (jWr_23 _ (List.mem_of_getElem? (i := 10) rfl)) (jWr_23 _ (List.mem_of_getElem? (i := 11) rfl)) (jWr_23 _ (List.mem_of_getElem? (i := 12) rfl)) (jWr_1 _ (List.mem_of_getElem? (i := 22) rfl)) (jWr_23 _ (List.mem_of_getElem? (i := 13) rfl))) rfl rfl rfl (by decide +kernel) ⟨by rw [← hR]; exact Nat.le_of_ble_eq_true rfl, by rw [← hR]; exact Nat.le_of_ble_eq_true rfl⟩) ⟨fun a U g mk q => by obtain ⟨q0, q1, q2, qK, q10, q11, q12, q13, q14, q15, q16, q17, q18, q19, q20, q21⟩ := q; exact ⟨q0, q1, q2, jG.calling g mk a qK, (q10.moved (Vm.Alike.refl U.vm)), q11, q12, q13, q14, q15, q16, q17, q18, q19, q20, q21⟩, hh_2.recv (C := RX4) (T := TX4) (N := 12) hB6 rfl (by decide) hg_js hK, fun U hU hW => ⟨rfl, hU, hh_2.2.1, hG.step hW hU hh_2.1, (hTstr259.moved hW.alike).kept hh_2.1.2.1, hg_js, hg_wk, hg_wi, hg_wz, hg_jnx, hg_jkf, hg_jks, hg_jun, (hh_2.2.2.1.sub (L1 := [(js, 6, 7, .int qv_2), (js, 6, 8, .int qu_2), (js, 6, 0, .ref wk), (js, 6, 1, .ref wi), (js, 6, 2, .ref wz), (js, 6, 3, .ref jnx), (js, 6, 4, .ref jkf), (js, 6, 5, .ref jks), (js, 6, 6, .ref jun)]) [0, 1, 9, 10, 11, 12, 13, 14, 15] rfl), (hh_2.2.2.2.2.2.2.2.1.sub (L1 := [(wk, 140, 1502, ca 1, gk_2), (wi, 141, 1502, ca 1, gi_2), (wz, 142, 1502, ca 1, gz_2), (jnx, 143, 1502, ca 1, gn_2), (jkf, 144, 1502, ca 1, ga_2), (jks, 145, 1502, ca 1, gs_2), (jun, 146, 3000, ca 1, gu_2)]) [0, 1, 2, 3, 4, 5, 6] rfl), ⟨(by first | omega | rfl | assumption | exact hTb18 | exact hqR18 | exact hco18), (by first | omega | rfl | assumption | exact hTb18 | exact hqR18 | exact hco18), (by first | omega | rfl | assumption | exact hTb18 | exact hqR18 | exact hco18), (by first | omega | rfl | assumption | exact hTb18 | exact hqR18 | exact hco18), (by first | assumption | exact hTb18 | exact hqR18 | exact hco18 | omega), (by first | omega | rfl | assumption | exact hTb18 | exact hqR18 | exact hco18), (by first | assumption | exact hTb18 | exact hqR18 | exact hco18 | omega), (by first | assumption | exact hTb18 | exact hqR18 | exact hco18 | omega)⟩⟩⟩ rfl rfl hl.1 rfl (lv_room (Nat.le_of_ble_eq_true rfl)) dX11_understood_34 ⟨by rw [hRc]; show _ + 0 ≤ _; omega, by rw [hRs]; show _ + 0 ≤ _; omega⟩) hh_2.1 (fun q _ h => h) (fun q h => h) (fun r_56 u_55 t_55 H_55 locs_55 ht_55 hvm_55 hr_56 hb_55 hz_55 hk_55 hS_55 => ?_)
    rw [ht_55] at hb_55
    obtain ⟨hb_55, hbF_55⟩ := hb_55
    obtain ⟨hb_551, hb_552, hb_553, hb_554, hb_555⟩ := hb_55
    have hh_55 : jSt (dC, dI) B base G0 G0 EX11_understoodI s.heap 0 0 [(js, 6, 7, .int qv_2), (js, 6, 8, .int qu_2), (r0, 13, 4, .ref bo), (bo, 2, 1, .int pc), (bo, 2, 0, .ref pa), (r0, 13, 3, .ref ou), (r0, 13, 1, .ref fm), (fm, 4, 1, .int fl), (r0, 13, 2, .ref js), (js, 6, 0, .ref wk), (js, 6, 1, .ref wi), (js, 6, 2, .ref wz), (js, 6, 3, .ref jnx), (js, 6, 4, .ref jkf), (js, 6, 5, .ref jks), (js, 6, 6, .ref jun), (fm, 4, 0, .ref bd_)] [(wk, 140, 1502, ca 1, gk_2), (wi, 141, 1502, ca 1, gi_2), (wz, 142, 1502, ca 1, gz_2), (jnx, 143, 1502, ca 1, gn_2), (jkf, 144, 1502, ca 1, ga_2), (jks, 145, 1502, ca 1, gs_2), (jun, 146, 3000, ca 1, gu_2), (bd_, 100, 3000, ca 0, fb)] [([(2, 0), (2, 1)], jOl (dC, dI) G0 2 [bo, ou] s.heap), (jFy, jYb dC dI G0), (jFib, jIB dC dI ca G0 0 ib), (jFqd, jQD dC dI ca G0 none qq)] H_55 locs_55 := ((hh_2.call hb_551 hb_552 hb_553 hb_554 hS_55 rfl (L1 := [(js, 6, 7, .int qv_2), (js, 6, 8, .int qu_2), (r0, 13, 4, .ref bo), (bo, 2, 1, .int pc), (bo, 2, 0, .ref pa), (r0, 13, 3, .ref ou), (r0, 13, 1, .ref fm), (fm, 4, 1, .int fl), (r0, 13, 2, .ref js), (js, 6, 0, .ref wk), (js, 6, 1, .ref wi), (js, 6, 2, .ref wz), (js, 6, 3, .ref jnx), (js, 6, 4, .ref jkf), (js, 6, 5, .ref jks), (js, 6, 6, .ref jun), (fm, 4, 0, .ref bd_)]) [0, 1, 2, 3, 4, 5, 6, 7, 8, 9, 10, 11, 12, 13, 14, 15, 16] rfl rfl (M1 := [(wk, 140, 1502, ca 1, gk_2), (wi, 141, 1502, ca 1, gi_2), (wz, 142, 1502, ca 1, gz_2), (jnx, 143, 1502, ca 1, gn_2), (jkf, 144, 1502, ca 1, ga_2), (jks, 145, 1502, ca 1, gs_2), (jun, 146, 3000, ca 1, gu_2), (bd_, 100, 3000, ca 0, fb)]) [0, 1, 2, 3, 4, 5, 6, 7] rfl rfl (I1 := [([(2, 0), (2, 1)], jOl (dC, dI) G0 2 [bo, ou] s.heap), (jFy, jYb dC dI G0), (jFib, jIB dC dI ca G0 0 ib), (jFqd, jQD dC dI ca G0 none qq)]) [0, 1, 2, 3] rfl rfl).more hb_555)
    clear hh_2 ht_55 hvm_55 hz_55 hk_55 hS_55 hb_551 hb_552 hb_553 hb_554 hb_555
    obtain ⟨hr_56_0, hr_56_1, hr_56_2, hr_56_3⟩ := hr_56
    have hid9 := hr_56_3
    refine lv_goto (tgt := 41) hx hb dX11_understood_37 (by decide) ?_
    refine lv_istore_n (lv' := [(2, .int r_56), (1, .int r_3), (0, .ref r0)]) hx hb dX11_understood_41 rfl hl (by decide) rfl (fun ls hl => ?_)
    try clear hsz_55 htt_55 hrc_55 hrs_55
    have hsz_57 := hh_55.2.2.2.2.2.1
    have htt_57 := hh_55.2.2.2.2.2.2.1
    refine j7_newo (k := 10) (C := RX8) (T := TX8) (N := 5) (fs := [.null, .null, .int 0, .int 0, .int 0]) hx hb htw jWc_wsX80 (fun k => ([(.object "ProofServer$Bytes"), (.object "ProofServer$Document"), .int, .boolean, .int] : List FieldType).getD k .int) (by decide +kernel) hown (htw (.classLink RX11 115 RX8) (jWr_19 _ (List.mem_of_getElem? (i := 3) rfl))) (htw (.instantiable RX8 5) (jWr_19 _ (List.mem_of_getElem? (i := 4) rfl))) (htw (.initialized RX8) (jWr_19 _ (List.mem_of_getElem? (i := 5) rfl))) hK rfl (fun j hj => by rcases (by omega : j = 0 ∨ j = 1 ∨ j = 2 ∨ j = 3 ∨ j = 4) with rfl | rfl | rfl | rfl | rfl <;> rfl) hh_55 hB (by rw [hRc]; omega) (by rw [hRs]; omega) dX11_understood_42 (fun H_57 hraw_57 hfr_57 hnr_57 hh_57 => ?_)
    have hke_57 : jKe G0 G0 H_55 H_57 := jKe.raw hfr_57
    have hbr_57 : base ≤ H_55.size := Nat.le_trans hbs hh_55.1.1
    have hsy_57 : s.heap.size ≤ H_55.size := hh_55.1.1
    clear hh_55
    refine lv_dup hx hb dX11_understood_45 rfl ?_
    refine lv_aload_n hx hb dX11_understood_46 rfl (lv_at hl 2 rfl) ?_
    refine j7_read hx hb hown hK (C := RX11) (T := TX11) (N := 19) rfl hly_13_2 hlk_28 (hh_57.at 8 rfl) dX11_understood_47 ?_
    refine lv_iload_n hx hb dX11_understood_50 rfl (lv_at hl 0 rfl) ?_
    have hab8 := fun (a : Nat) (t : Nat × Nat) (h : G0 a = some t) => (hh_57.ab h).2
    try clear hsz_57 htt_57 hrc_57 hrs_57
    have hsz_58 := hh_57.2.2.2.2.2.1
    have htt_58 := hh_57.2.2.2.2.2.2.1
    refine W.room (fun hrc_58 hrs_58 => ?_)
    refine va_callv (A0 := jA base) (H0 := s.heap) (va_runI (As := [.ref js, .int r_56]) (rest := [.ref H_55.size]) ⟨hx, hb, hml, hown, hts⟩ (uX8_initI l dC dI ca base B hB hAp hB2 hB6 hB10 hB17 hB101 hB140 hB141 hB142 hB146 hB174 hB196 hB199 G0 H_57 H_55.size js r_56 qv_2 qu_2 wk wi wz jnx jkf jks jun T18 qq ib gk_2 gi_2 gz_2 gn_2 ga_2 gs_2 gu_2 LC LS) (cwI 2 hts (jgW (jWr_24 _ (List.mem_of_getElem? (i := 0) rfl))) rfl rfl rfl (htw (.initialized RX8) (jWr_19 _ (List.mem_of_getElem? (i := 5) rfl))) (htw (.methodLink RX11 264 yX8_init) (jWr_23 _ (List.mem_of_getElem? (i := 22) rfl))) (htw (.instanceMethod yX8_init) (jWr_23 _ (List.mem_of_getElem? (i := 23) rfl))) rfl (by decide +kernel) ⟨by rw [← hR]; exact Nat.le_of_ble_eq_true rfl, by rw [← hR]; exact Nat.le_of_ble_eq_true rfl⟩) ⟨fun a U g mk q => by obtain ⟨q0, q1, q2, qK, q10, q11, q12, q13, q14, q15, q16, q17, q18, q19, q20, q21, q22, q23, q24⟩ := q; exact ⟨q0, q1, q2, jG.calling g mk a qK, q10, q11, q12, q13, q14, q15, q16, q17, q18, q19, q20, q21, q22, q23, q24⟩, fun U hU hW => ⟨rfl, hU, hh_57.2.1, hG.step hW hU hh_57.1, hg_js, hraw_57, hnr_57, hbr_57, hg_wk, hg_wi, hg_wz, hg_jnx, hg_jkf, hg_jks, hg_jun, (hh_57.2.2.1.sub (L1 := [(js, 6, 7, .int qv_2), (js, 6, 8, .int qu_2), (js, 6, 0, .ref wk), (js, 6, 1, .ref wi), (js, 6, 2, .ref wz), (js, 6, 3, .ref jnx), (js, 6, 4, .ref jkf), (js, 6, 5, .ref jks), (js, 6, 6, .ref jun)]) [0, 1, 9, 10, 11, 12, 13, 14, 15] rfl), (hh_57.2.2.2.2.2.2.2.1.sub (L1 := [(wk, 140, 1502, ca 1, gk_2), (wi, 141, 1502, ca 1, gi_2), (wz, 142, 1502, ca 1, gz_2), (jnx, 143, 1502, ca 1, gn_2), (jkf, 144, 1502, ca 1, ga_2), (jks, 145, 1502, ca 1, gs_2), (jun, 146, 3000, ca 1, gu_2)]) [0, 1, 2, 3, 4, 5, 6] rfl), (hh_57.2.2.2.2.2.2.2.2.sub (L1 := [(jFib, jIB dC dI ca G0 0 ib), (jFqd, jQD dC dI ca G0 none qq)]) [2, 3] rfl), (by omega), (by omega), ⟨(by first | omega | rfl | assumption | exact hr_3p_2.p hr_3p_1 | exact hTb18 | exact hqR18 | exact jjTo.tc | exact (fun q => hTw18 _ q) | exact (fun q => absurd q (by rw [jqK.ng (by omega)]; decide))), (by first | omega | rfl | assumption | exact hr_3p_2.p hr_3p_1 | exact hTb18 | exact hqR18 | exact jjTo.tc | exact (fun q => hTw18 _ q) | exact (fun q => absurd q (by rw [jqK.ng (by omega)]; decide))), (by first | assumption | exact hr_3p_2.p hr_3p_1 | exact hTb18 | exact hqR18 | exact jjTo.tc | exact (fun q => hTw18 _ q) | exact (fun q => absurd q (by rw [jqK.ng (by omega)]; decide)) | omega), (by first | omega | rfl | assumption | exact hr_3p_2.p hr_3p_1 | exact hTb18 | exact hqR18 | exact jjTo.tc | exact (fun q => hTw18 _ q) | exact (fun q => absurd q (by rw [jqK.ng (by omega)]; decide))), (by first | omega | rfl | assumption | exact hr_3p_2.p hr_3p_1 | exact hTb18 | exact hqR18 | exact jjTo.tc | exact (fun q => hTw18 _ q) | exact (fun q => absurd q (by rw [jqK.ng (by omega)]; decide))), (by first | assumption | exact hr_3p_2.p hr_3p_1 | exact hTb18 | exact hqR18 | exact jjTo.tc | exact (fun q => hTw18 _ q) | exact (fun q => absurd q (by rw [jqK.ng (by omega)]; decide)) | omega), (by first | assumption | exact hr_3p_2.p hr_3p_1 | exact hTb18 | exact hqR18 | exact jjTo.tc | exact (fun q => hTw18 _ q) | exact (fun q => absurd q (by rw [jqK.ng (by omega)]; decide)) | omega), (by first | assumption | exact hr_3p_2.p hr_3p_1 | exact hTb18 | exact hqR18 | exact jjTo.tc | exact (fun q => hTw18 _ q) | exact (fun q => absurd q (by rw [jqK.ng (by omega)]; decide)) | omega)⟩⟩⟩ rfl rfl hl.1 rfl (lv_room (Nat.le_of_ble_eq_true rfl)) dX11_understood_51 ⟨by rw [hRc]; omega, by rw [hRs]; omega⟩) hh_57.1 (fun q _ h => h) (fun q h => h) (fun u_58 t_58 H_58 locs_58 ht_58 hvm_58 hr_59 hb_58 hz_58 hk_58 hS_58 => ?_)
    rw [ht_58] at hb_58
    obtain ⟨gQ_58, iV_58, iB_58, G_58⟩ := u_58
    simp only at hb_58
    obtain ⟨⟨hb_581, hb_582, hb_583, hb_584, hb_585, hb_586⟩, hN_58, hgc_58, hbE_58⟩ := hb_58
    have hY_58 := hN_58
    have hW_58 := hN_58
    have hN_58 : (jNk [0, 1, 3, 4, 5, 6, 7, 8, 9, 11, 12, 13, 14, 15, 16, 175]) G0 G_58 := hN_58.sub (by decide)
    have hh_58 : jSt (dC, dI) B base G0 G_58 EX11_understoodI s.heap ((0 + 1) + (10)) ((0 + 5) + (262)) [(js, 6, 7, .int qv_2), (js, 6, 8, .int qu_2), (r0, 13, 4, .ref bo), (bo, 2, 1, .int pc), (bo, 2, 0, .ref pa), (r0, 13, 3, .ref ou), (r0, 13, 1, .ref fm), (fm, 4, 1, .int fl), (r0, 13, 2, .ref js), (js, 6, 0, .ref wk), (js, 6, 1, .ref wi), (js, 6, 2, .ref wz), (js, 6, 3, .ref jnx), (js, 6, 4, .ref jkf), (js, 6, 5, .ref jks), (js, 6, 6, .ref jun), (fm, 4, 0, .ref bd_)] [(wk, 140, 1502, ca 1, gk_2), (wi, 141, 1502, ca 1, gi_2), (wz, 142, 1502, ca 1, gz_2), (jnx, 143, 1502, ca 1, gn_2), (jkf, 144, 1502, ca 1, ga_2), (jks, 145, 1502, ca 1, gs_2), (jun, 146, 3000, ca 1, gu_2), (bd_, 100, 3000, ca 0, fb)] [([(2, 0), (2, 1)], jOl (dC, dI) G0 2 [bo, ou] s.heap), (jFy, jYb dC dI G0)] H_58 locs_58 := (hh_57.callG hb_581 hb_582 hb_583 hb_584 hb_585 hS_58 rfl (L1 := [(js, 6, 7, .int qv_2), (js, 6, 8, .int qu_2), (r0, 13, 4, .ref bo), (bo, 2, 1, .int pc), (bo, 2, 0, .ref pa), (r0, 13, 3, .ref ou), (r0, 13, 1, .ref fm), (fm, 4, 1, .int fl), (r0, 13, 2, .ref js), (js, 6, 0, .ref wk), (js, 6, 1, .ref wi), (js, 6, 2, .ref wz), (js, 6, 3, .ref jnx), (js, 6, 4, .ref jkf), (js, 6, 5, .ref jks), (js, 6, 6, .ref jun), (fm, 4, 0, .ref bd_)]) [0, 1, 2, 3, 4, 5, 6, 7, 8, 9, 10, 11, 12, 13, 14, 15, 16] rfl rfl (M1 := [(wk, 140, 1502, ca 1, gk_2), (wi, 141, 1502, ca 1, gi_2), (wz, 142, 1502, ca 1, gz_2), (jnx, 143, 1502, ca 1, gn_2), (jkf, 144, 1502, ca 1, ga_2), (jks, 145, 1502, ca 1, gs_2), (jun, 146, 3000, ca 1, gu_2), (bd_, 100, 3000, ca 0, fb)]) [0, 1, 2, 3, 4, 5, 6, 7] rfl rfl (I1 := [([(2, 0), (2, 1)], jOl (dC, dI) G0 2 [bo, ou] s.heap), (jFy, jYb dC dI G0)]) [0, 1] rfl rfl).more hb_586
    have hNn_58 : (jNk [0, 1, 3, 4, 5, 6, 7, 8, 9, 11, 12, 13, 14, 15, 16, 175]) G0 G_58 := (jNk.rf).tr hN_58
    have hg_60 := hb_582 _ _ hg_r0
    have hg_61 := hb_582 _ _ hg_bo
    have hg_62 := hb_582 _ _ hg_pa
    have hg_63 := hb_582 _ _ hg_ou
    have hg_64 := hb_582 _ _ hg_fm
    have hg_65 := hb_582 _ _ hg_js
    have hg_66 := hb_582 _ _ hg_wk
    have hg_67 := hb_582 _ _ hg_wi
    have hg_68 := hb_582 _ _ hg_wz
    have hg_69 := hb_582 _ _ hg_jnx
    have hg_70 := hb_582 _ _ hg_jkf
    have hg_71 := hb_582 _ _ hg_jks
    have hg_72 := hb_582 _ _ hg_jun
    have hg_73 := hb_582 _ _ hg_bd_
    have hd_74 := jYb.grow (hh_58.iv 1 rfl) hb_582 hY_58 (by decide)
    have hh_75 := hh_58.sub (L1 := [(js, 6, 7, .int qv_2), (js, 6, 8, .int qu_2), (r0, 13, 4, .ref bo), (bo, 2, 1, .int pc), (bo, 2, 0, .ref pa), (r0, 13, 3, .ref ou), (r0, 13, 1, .ref fm), (fm, 4, 1, .int fl), (r0, 13, 2, .ref js), (js, 6, 0, .ref wk), (js, 6, 1, .ref wi), (js, 6, 2, .ref wz), (js, 6, 3, .ref jnx), (js, 6, 4, .ref jkf), (js, 6, 5, .ref jks), (js, 6, 6, .ref jun), (fm, 4, 0, .ref bd_)]) [0, 1, 2, 3, 4, 5, 6, 7, 8, 9, 10, 11, 12, 13, 14, 15, 16] rfl (M1 := [(wk, 140, 1502, ca 1, gk_2), (wi, 141, 1502, ca 1, gi_2), (wz, 142, 1502, ca 1, gz_2), (jnx, 143, 1502, ca 1, gn_2), (jkf, 144, 1502, ca 1, ga_2), (jks, 145, 1502, ca 1, gs_2), (jun, 146, 3000, ca 1, gu_2), (bd_, 100, 3000, ca 0, fb)]) [0, 1, 2, 3, 4, 5, 6, 7] rfl (I1 := [([(2, 0), (2, 1)], jOl (dC, dI) G0 2 [bo, ou] s.heap)]) [0] rfl
    clear hh_58
    have hh_76 := hh_75.addI (jYb.ie hd_74)
    clear hh_75
    have hh_77 := hh_76.addIs hbE_58
    try simp only at hr_59
    obtain ⟨hr_59_0, hr_59_1⟩ := hr_59
    have hh_78 := hh_77.wk (zc1 := (n_pa - n_pa) / 16 + 11) (zs1 := 2 * (n_pa - n_pa) + 267) (by omega) (by omega)
    clear hh_77
    try clear hsz_58 htt_58 hrc_58 hrs_58
    try clear hb_584 hb_585
    have hnx9 : ∀ (a : Nat) (t : Nat × Nat), G0 a = some t → a ≠ H_55.size := fun a t h e => by have h9 := hab9 a t h; have h8 : s.heap.size ≤ H_55.size := hsy_57; omega
    refine lv_astore_n (lv' := [(3, .ref H_55.size), (2, .int r_56), (1, .int r_3), (0, .ref r0)]) hx hb dX11_understood_54 rfl hl (by decide) rfl (fun ls hl => ?_)
    refine lv_iload_n hx hb dX11_understood_55 rfl (lv_at hl 2 rfl) ?_
    refine lv_if_ne (tgt := 69) hx hb dX11_understood_56 (by decide) (fun c_79 => ?_) (fun c_79 => ?_)
    · skip
      have c_79' : r_3.toInt ≠ 0 := jb_ne (rfl) ((by decide)) c_79
      first | (have hr_3p_3q := hr_3p_3.resolve_left (by omega); clear hr_3p_3) | (have hr_3p_3q := hr_3p_3.resolve_right (by omega); clear hr_3p_3) | skip
      first | (have hr_56_2q := hr_56_2.resolve_left (by omega); clear hr_56_2) | (have hr_56_2q := hr_56_2.resolve_right (by omega); clear hr_56_2) | skip
      refine lv_aload_n hx hb dX11_understood_69 rfl (lv_at hl 3 rfl) ?_
      refine j7_read hx hb hown hK (C := RX11) (T := TX11) (N := 19) rfl hly_13_2 hlk_28 (hh_78.at 8 rfl) dX11_understood_70 ?_
      refine lv_iconst (v := 0) hx hb dX11_understood_73 (by decide) ?_
      refine j_ldcSw hx hb hown rstr271 dX11_understood_74 ?_
      try clear hsz_58 htt_58 hrc_58 hrs_58
      have hsz_80 := hh_78.2.2.2.2.2.1
      have htt_80 := hh_78.2.2.2.2.2.2.1
      refine W.room (fun hrc_80 hrs_80 => ?_)
      refine va_calli (A0 := jA base) (H0 := s.heap) (va_runV (As := [.int 0, .ref str271]) (rest := []) ⟨hx, hb, hml, hown, hts⟩ (uX4_memberJ l dC dI ca base B hB hAp hB6 hB140 hB141 hB142 hB143 hB144 hB145 hB146 G_58 H_58 js 0 str271 6 (jChT "params") qv_2 qu_2 wk wi wz jnx jkf jks jun T18 gk_2 gi_2 gz_2 gn_2 ga_2 gs_2 gu_2) (cwV 2 hts (jgV (jWr_23 _ (List.mem_of_getElem? (i := 10) rfl)) (jWr_23 _ (List.mem_of_getElem? (i := 11) rfl)) (jWr_23 _ (List.mem_of_getElem? (i := 12) rfl)) (jWr_1 _ (List.mem_of_getElem? (i := 22) rfl)) (jWr_23 _ (List.mem_of_getElem? (i := 13) rfl))) rfl rfl rfl (by decide +kernel) ⟨by rw [← hR]; exact Nat.le_of_ble_eq_true rfl, by rw [← hR]; exact Nat.le_of_ble_eq_true rfl⟩) ⟨fun a U g mk q => by obtain ⟨q0, q1, q2, qK, q10, q11, q12, q13, q14, q15, q16, q17, q18, q19, q20, q21⟩ := q; exact ⟨q0, q1, q2, jG.calling g mk a qK, (q10.moved (Vm.Alike.refl U.vm)), q11, q12, q13, q14, q15, q16, q17, q18, q19, q20, q21⟩, hh_78.recv (C := RX4) (T := TX4) (N := 12) hB6 rfl (by decide) hg_65 hK, fun U hU hW => ⟨rfl, hU, hh_78.2.1, hG.step hW hU hh_78.1, (hTstr271.moved hW.alike).kept hh_78.1.2.1, hg_65, hg_66, hg_67, hg_68, hg_69, hg_70, hg_71, hg_72, (hh_78.2.2.1.sub (L1 := [(js, 6, 7, .int qv_2), (js, 6, 8, .int qu_2), (js, 6, 0, .ref wk), (js, 6, 1, .ref wi), (js, 6, 2, .ref wz), (js, 6, 3, .ref jnx), (js, 6, 4, .ref jkf), (js, 6, 5, .ref jks), (js, 6, 6, .ref jun)]) [0, 1, 9, 10, 11, 12, 13, 14, 15] rfl), (hh_78.2.2.2.2.2.2.2.1.sub (L1 := [(wk, 140, 1502, ca 1, gk_2), (wi, 141, 1502, ca 1, gi_2), (wz, 142, 1502, ca 1, gz_2), (jnx, 143, 1502, ca 1, gn_2), (jkf, 144, 1502, ca 1, ga_2), (jks, 145, 1502, ca 1, gs_2), (jun, 146, 3000, ca 1, gu_2)]) [0, 1, 2, 3, 4, 5, 6] rfl), ⟨(by first | omega | rfl | assumption | exact hTb18 | exact hqR18 | exact hco18), (by first | omega | rfl | assumption | exact hTb18 | exact hqR18 | exact hco18), (by first | omega | rfl | assumption | exact hTb18 | exact hqR18 | exact hco18), (by first | omega | rfl | assumption | exact hTb18 | exact hqR18 | exact hco18), (by first | assumption | exact hTb18 | exact hqR18 | exact hco18 | omega), (by first | omega | rfl | assumption | exact hTb18 | exact hqR18 | exact hco18), (by first | assumption | exact hTb18 | exact hqR18 | exact hco18 | omega), (by first | assumption | exact hTb18 | exact hqR18 | exact hco18 | omega)⟩⟩⟩ rfl rfl hl.1 rfl (lv_room (Nat.le_of_ble_eq_true rfl)) dX11_understood_77 ⟨by rw [hRc]; show _ + 0 ≤ _; omega, by rw [hRs]; show _ + 0 ≤ _; omega⟩) hh_78.1 (fun q _ h => h) (fun q h => h) (fun r_81 u_80 t_80 H_80 locs_80 ht_80 hvm_80 hr_81 hb_80 hz_80 hk_80 hS_80 => ?_)
      rw [ht_80] at hb_80
      obtain ⟨hb_80, hbF_80⟩ := hb_80
      obtain ⟨hb_801, hb_802, hb_803, hb_804, hb_805⟩ := hb_80
      have hh_80 : jSt (dC, dI) B base G0 G_58 EX11_understoodI s.heap ((n_pa - n_pa) / 16 + 11) (2 * (n_pa - n_pa) + 267) [(js, 6, 7, .int qv_2), (js, 6, 8, .int qu_2), (r0, 13, 4, .ref bo), (bo, 2, 1, .int pc), (bo, 2, 0, .ref pa), (r0, 13, 3, .ref ou), (r0, 13, 1, .ref fm), (fm, 4, 1, .int fl), (r0, 13, 2, .ref js), (js, 6, 0, .ref wk), (js, 6, 1, .ref wi), (js, 6, 2, .ref wz), (js, 6, 3, .ref jnx), (js, 6, 4, .ref jkf), (js, 6, 5, .ref jks), (js, 6, 6, .ref jun), (fm, 4, 0, .ref bd_)] [(wk, 140, 1502, ca 1, gk_2), (wi, 141, 1502, ca 1, gi_2), (wz, 142, 1502, ca 1, gz_2), (jnx, 143, 1502, ca 1, gn_2), (jkf, 144, 1502, ca 1, ga_2), (jks, 145, 1502, ca 1, gs_2), (jun, 146, 3000, ca 1, gu_2), (bd_, 100, 3000, ca 0, fb)] [(jFib, jIB dC dI ca G_58 0 iB_58), (jFqd, jQD dC dI ca G_58 none gQ_58), (jFy, jYb dC dI G_58), ([(2, 0), (2, 1)], jOl (dC, dI) G0 2 [bo, ou] s.heap)] H_80 locs_80 := ((hh_78.call hb_801 hb_802 hb_803 hb_804 hS_80 rfl (L1 := [(js, 6, 7, .int qv_2), (js, 6, 8, .int qu_2), (r0, 13, 4, .ref bo), (bo, 2, 1, .int pc), (bo, 2, 0, .ref pa), (r0, 13, 3, .ref ou), (r0, 13, 1, .ref fm), (fm, 4, 1, .int fl), (r0, 13, 2, .ref js), (js, 6, 0, .ref wk), (js, 6, 1, .ref wi), (js, 6, 2, .ref wz), (js, 6, 3, .ref jnx), (js, 6, 4, .ref jkf), (js, 6, 5, .ref jks), (js, 6, 6, .ref jun), (fm, 4, 0, .ref bd_)]) [0, 1, 2, 3, 4, 5, 6, 7, 8, 9, 10, 11, 12, 13, 14, 15, 16] rfl rfl (M1 := [(wk, 140, 1502, ca 1, gk_2), (wi, 141, 1502, ca 1, gi_2), (wz, 142, 1502, ca 1, gz_2), (jnx, 143, 1502, ca 1, gn_2), (jkf, 144, 1502, ca 1, ga_2), (jks, 145, 1502, ca 1, gs_2), (jun, 146, 3000, ca 1, gu_2), (bd_, 100, 3000, ca 0, fb)]) [0, 1, 2, 3, 4, 5, 6, 7] rfl rfl (I1 := [(jFib, jIB dC dI ca G_58 0 iB_58), (jFqd, jQD dC dI ca G_58 none gQ_58), (jFy, jYb dC dI G_58), ([(2, 0), (2, 1)], jOl (dC, dI) G0 2 [bo, ou] s.heap)]) [0, 1, 2, 3] rfl rfl).more hb_805)
      clear hh_78 ht_80 hvm_80 hz_80 hk_80 hS_80 hb_801 hb_802 hb_803 hb_804 hb_805
      obtain ⟨hr_81_0, hr_81_1, hr_81_2, hr_81_3⟩ := hr_81
      refine lv_istore (lv' := [(4, .int r_81), (3, .ref H_55.size), (2, .int r_56), (1, .int r_3), (0, .ref r0)]) hx hb dX11_understood_80 hl (by decide) rfl (fun ls hl => ?_)
      refine lv_aload_n hx hb dX11_understood_82 rfl (lv_at hl 4 rfl) ?_
      refine j7_read hx hb hown hK (C := RX11) (T := TX11) (N := 19) rfl hly_13_2 hlk_28 (hh_80.at 8 rfl) dX11_understood_83 ?_
      refine lv_aload_n hx hb dX11_understood_86 rfl (lv_at hl 4 rfl) ?_
      refine j7_read hx hb hown hK (C := RX11) (T := TX11) (N := 19) rfl hly_13_2 hlk_28 (hh_80.at 8 rfl) dX11_understood_87 ?_
      refine lv_iconst (v := 0) hx hb dX11_understood_90 (by decide) ?_
      refine j_ldcSw hx hb hown rstr273 dX11_understood_91 ?_
      try clear hsz_80 htt_80 hrc_80 hrs_80
      have hsz_82 := hh_80.2.2.2.2.2.1
      have htt_82 := hh_80.2.2.2.2.2.2.1
      refine W.room (fun hrc_82 hrs_82 => ?_)
      refine va_calli (A0 := jA base) (H0 := s.heap) (va_runV (As := [.int 0, .ref str273]) (rest := [.ref js]) ⟨hx, hb, hml, hown, hts⟩ (uX4_memberJ l dC dI ca base B hB hAp hB6 hB140 hB141 hB142 hB143 hB144 hB145 hB146 G_58 H_80 js 0 str273 7 (jChT "jsonrpc") qv_2 qu_2 wk wi wz jnx jkf jks jun T18 gk_2 gi_2 gz_2 gn_2 ga_2 gs_2 gu_2) (cwV 2 hts (jgV (jWr_23 _ (List.mem_of_getElem? (i := 10) rfl)) (jWr_23 _ (List.mem_of_getElem? (i := 11) rfl)) (jWr_23 _ (List.mem_of_getElem? (i := 12) rfl)) (jWr_1 _ (List.mem_of_getElem? (i := 22) rfl)) (jWr_23 _ (List.mem_of_getElem? (i := 13) rfl))) rfl rfl rfl (by decide +kernel) ⟨by rw [← hR]; exact Nat.le_of_ble_eq_true rfl, by rw [← hR]; exact Nat.le_of_ble_eq_true rfl⟩) ⟨fun a U g mk q => by obtain ⟨q0, q1, q2, qK, q10, q11, q12, q13, q14, q15, q16, q17, q18, q19, q20, q21⟩ := q; exact ⟨q0, q1, q2, jG.calling g mk a qK, (q10.moved (Vm.Alike.refl U.vm)), q11, q12, q13, q14, q15, q16, q17, q18, q19, q20, q21⟩, hh_80.recv (C := RX4) (T := TX4) (N := 12) hB6 rfl (by decide) hg_65 hK, fun U hU hW => ⟨rfl, hU, hh_80.2.1, hG.step hW hU hh_80.1, (hTstr273.moved hW.alike).kept hh_80.1.2.1, hg_65, hg_66, hg_67, hg_68, hg_69, hg_70, hg_71, hg_72, (hh_80.2.2.1.sub (L1 := [(js, 6, 7, .int qv_2), (js, 6, 8, .int qu_2), (js, 6, 0, .ref wk), (js, 6, 1, .ref wi), (js, 6, 2, .ref wz), (js, 6, 3, .ref jnx), (js, 6, 4, .ref jkf), (js, 6, 5, .ref jks), (js, 6, 6, .ref jun)]) [0, 1, 9, 10, 11, 12, 13, 14, 15] rfl), (hh_80.2.2.2.2.2.2.2.1.sub (L1 := [(wk, 140, 1502, ca 1, gk_2), (wi, 141, 1502, ca 1, gi_2), (wz, 142, 1502, ca 1, gz_2), (jnx, 143, 1502, ca 1, gn_2), (jkf, 144, 1502, ca 1, ga_2), (jks, 145, 1502, ca 1, gs_2), (jun, 146, 3000, ca 1, gu_2)]) [0, 1, 2, 3, 4, 5, 6] rfl), ⟨(by first | omega | rfl | assumption | exact hTb18 | exact hqR18 | exact hco18), (by first | omega | rfl | assumption | exact hTb18 | exact hqR18 | exact hco18), (by first | omega | rfl | assumption | exact hTb18 | exact hqR18 | exact hco18), (by first | omega | rfl | assumption | exact hTb18 | exact hqR18 | exact hco18), (by first | assumption | exact hTb18 | exact hqR18 | exact hco18 | omega), (by first | omega | rfl | assumption | exact hTb18 | exact hqR18 | exact hco18), (by first | assumption | exact hTb18 | exact hqR18 | exact hco18 | omega), (by first | assumption | exact hTb18 | exact hqR18 | exact hco18 | omega)⟩⟩⟩ rfl rfl hl.1 rfl (lv_room (Nat.le_of_ble_eq_true rfl)) dX11_understood_94 ⟨by rw [hRc]; show _ + 0 ≤ _; omega, by rw [hRs]; show _ + 0 ≤ _; omega⟩) hh_80.1 (fun q _ h => h) (fun q h => h) (fun r_83 u_82 t_82 H_82 locs_82 ht_82 hvm_82 hr_83 hb_82 hz_82 hk_82 hS_82 => ?_)
      rw [ht_82] at hb_82
      obtain ⟨hb_82, hbF_82⟩ := hb_82
      obtain ⟨hb_821, hb_822, hb_823, hb_824, hb_825⟩ := hb_82
      have hh_82 : jSt (dC, dI) B base G0 G_58 EX11_understoodI s.heap ((n_pa - n_pa) / 16 + 11) (2 * (n_pa - n_pa) + 267) [(js, 6, 7, .int qv_2), (js, 6, 8, .int qu_2), (r0, 13, 4, .ref bo), (bo, 2, 1, .int pc), (bo, 2, 0, .ref pa), (r0, 13, 3, .ref ou), (r0, 13, 1, .ref fm), (fm, 4, 1, .int fl), (r0, 13, 2, .ref js), (js, 6, 0, .ref wk), (js, 6, 1, .ref wi), (js, 6, 2, .ref wz), (js, 6, 3, .ref jnx), (js, 6, 4, .ref jkf), (js, 6, 5, .ref jks), (js, 6, 6, .ref jun), (fm, 4, 0, .ref bd_)] [(wk, 140, 1502, ca 1, gk_2), (wi, 141, 1502, ca 1, gi_2), (wz, 142, 1502, ca 1, gz_2), (jnx, 143, 1502, ca 1, gn_2), (jkf, 144, 1502, ca 1, ga_2), (jks, 145, 1502, ca 1, gs_2), (jun, 146, 3000, ca 1, gu_2), (bd_, 100, 3000, ca 0, fb)] [(jFib, jIB dC dI ca G_58 0 iB_58), (jFqd, jQD dC dI ca G_58 none gQ_58), (jFy, jYb dC dI G_58), ([(2, 0), (2, 1)], jOl (dC, dI) G0 2 [bo, ou] s.heap)] H_82 locs_82 := ((hh_80.call hb_821 hb_822 hb_823 hb_824 hS_82 rfl (L1 := [(js, 6, 7, .int qv_2), (js, 6, 8, .int qu_2), (r0, 13, 4, .ref bo), (bo, 2, 1, .int pc), (bo, 2, 0, .ref pa), (r0, 13, 3, .ref ou), (r0, 13, 1, .ref fm), (fm, 4, 1, .int fl), (r0, 13, 2, .ref js), (js, 6, 0, .ref wk), (js, 6, 1, .ref wi), (js, 6, 2, .ref wz), (js, 6, 3, .ref jnx), (js, 6, 4, .ref jkf), (js, 6, 5, .ref jks), (js, 6, 6, .ref jun), (fm, 4, 0, .ref bd_)]) [0, 1, 2, 3, 4, 5, 6, 7, 8, 9, 10, 11, 12, 13, 14, 15, 16] rfl rfl (M1 := [(wk, 140, 1502, ca 1, gk_2), (wi, 141, 1502, ca 1, gi_2), (wz, 142, 1502, ca 1, gz_2), (jnx, 143, 1502, ca 1, gn_2), (jkf, 144, 1502, ca 1, ga_2), (jks, 145, 1502, ca 1, gs_2), (jun, 146, 3000, ca 1, gu_2), (bd_, 100, 3000, ca 0, fb)]) [0, 1, 2, 3, 4, 5, 6, 7] rfl rfl (I1 := [(jFib, jIB dC dI ca G_58 0 iB_58), (jFqd, jQD dC dI ca G_58 none gQ_58), (jFy, jYb dC dI G_58), ([(2, 0), (2, 1)], jOl (dC, dI) G0 2 [bo, ou] s.heap)]) [0, 1, 2, 3] rfl rfl).more hb_825)
      clear hh_80 ht_82 hvm_82 hz_82 hk_82 hS_82 hb_821 hb_822 hb_823 hb_824 hb_825
      obtain ⟨hr_83_0, hr_83_1, hr_83_2, hr_83_3⟩ := hr_83
      refine j_ldcSw hx hb hown rstr275 dX11_understood_97 ?_
      try clear hsz_82 htt_82 hrc_82 hrs_82
      have hsz_84 := hh_82.2.2.2.2.2.1
      have htt_84 := hh_82.2.2.2.2.2.2.1
      refine W.room (fun hrc_84 hrs_84 => ?_)
      refine va_calli (A0 := jA base) (H0 := s.heap) (va_runV (As := [.int r_83, .ref str275]) (rest := []) ⟨hx, hb, hml, hown, hts⟩ (uX4_isTextJ l dC dI ca base B hB hAp hB6 hB140 hB141 hB142 hB146 G_58 H_82 js r_83 str275 3 (jChT "2.0") qv_2 qu_2 wk wi wz jnx jkf jks jun T18 gk_2 gi_2 gz_2 gn_2 ga_2 gs_2 gu_2) (cwV 2 hts (jgV (jWr_27 _ (List.mem_of_getElem? (i := 1) rfl)) (jWr_27 _ (List.mem_of_getElem? (i := 2) rfl)) (jWr_27 _ (List.mem_of_getElem? (i := 3) rfl)) (jWr_1 _ (List.mem_of_getElem? (i := 22) rfl)) (jWr_27 _ (List.mem_of_getElem? (i := 4) rfl))) rfl rfl rfl (by decide +kernel) ⟨by rw [← hR]; exact Nat.le_of_ble_eq_true rfl, by rw [← hR]; exact Nat.le_of_ble_eq_true rfl⟩) ⟨fun a U g mk q => by obtain ⟨q0, q1, q2, qK, q10, q11, q12, q13, q14, q15, q16, q17, q18, q19, q20, q21⟩ := q; exact ⟨q0, q1, q2, jG.calling g mk a qK, (q10.moved (Vm.Alike.refl U.vm)), q11, q12, q13, q14, q15, q16, q17, q18, q19, q20, q21⟩, hh_82.recv (C := RX4) (T := TX4) (N := 12) hB6 rfl (by decide) hg_65 hK, fun U hU hW => ⟨rfl, hU, hh_82.2.1, hG.step hW hU hh_82.1, (hTstr275.moved hW.alike).kept hh_82.1.2.1, hg_65, hg_66, hg_67, hg_68, hg_69, hg_70, hg_71, hg_72, (hh_82.2.2.1.sub (L1 := [(js, 6, 7, .int qv_2), (js, 6, 8, .int qu_2), (js, 6, 0, .ref wk), (js, 6, 1, .ref wi), (js, 6, 2, .ref wz), (js, 6, 3, .ref jnx), (js, 6, 4, .ref jkf), (js, 6, 5, .ref jks), (js, 6, 6, .ref jun)]) [0, 1, 9, 10, 11, 12, 13, 14, 15] rfl), (hh_82.2.2.2.2.2.2.2.1.sub (L1 := [(wk, 140, 1502, ca 1, gk_2), (wi, 141, 1502, ca 1, gi_2), (wz, 142, 1502, ca 1, gz_2), (jnx, 143, 1502, ca 1, gn_2), (jkf, 144, 1502, ca 1, ga_2), (jks, 145, 1502, ca 1, gs_2), (jun, 146, 3000, ca 1, gu_2)]) [0, 1, 2, 3, 4, 5, 6] rfl), ⟨(by first | omega | rfl | assumption | exact hr_3p_2.p hr_3p_1 | exact hTb18 | exact hqR18), (by first | omega | rfl | assumption | exact hr_3p_2.p hr_3p_1 | exact hTb18 | exact hqR18), (by first | omega | rfl | assumption | exact hr_3p_2.p hr_3p_1 | exact hTb18 | exact hqR18), (by first | omega | rfl | assumption | exact hr_3p_2.p hr_3p_1 | exact hTb18 | exact hqR18), (by first | assumption | exact hr_3p_2.p hr_3p_1 | exact hTb18 | exact hqR18 | omega), (by first | omega | rfl | assumption | exact hr_3p_2.p hr_3p_1 | exact hTb18 | exact hqR18), (by first | assumption | exact hr_3p_2.p hr_3p_1 | exact hTb18 | exact hqR18 | omega)⟩⟩⟩ rfl rfl hl.1 rfl (lv_room (Nat.le_of_ble_eq_true rfl)) dX11_understood_100 ⟨by rw [hRc]; show _ + 0 ≤ _; omega, by rw [hRs]; show _ + 0 ≤ _; omega⟩) hh_82.1 (fun q _ h => h) (fun q h => h) (fun r_85 u_84 t_84 H_84 locs_84 ht_84 hvm_84 hr_85 hb_84 hz_84 hk_84 hS_84 => ?_)
      rw [ht_84] at hb_84
      obtain ⟨hb_84, hbF_84⟩ := hb_84
      obtain ⟨hb_841, hb_842, hb_843, hb_844, hb_845⟩ := hb_84
      have hh_84 : jSt (dC, dI) B base G0 G_58 EX11_understoodI s.heap ((n_pa - n_pa) / 16 + 11) (2 * (n_pa - n_pa) + 267) [(js, 6, 7, .int qv_2), (js, 6, 8, .int qu_2), (r0, 13, 4, .ref bo), (bo, 2, 1, .int pc), (bo, 2, 0, .ref pa), (r0, 13, 3, .ref ou), (r0, 13, 1, .ref fm), (fm, 4, 1, .int fl), (r0, 13, 2, .ref js), (js, 6, 0, .ref wk), (js, 6, 1, .ref wi), (js, 6, 2, .ref wz), (js, 6, 3, .ref jnx), (js, 6, 4, .ref jkf), (js, 6, 5, .ref jks), (js, 6, 6, .ref jun), (fm, 4, 0, .ref bd_)] [(wk, 140, 1502, ca 1, gk_2), (wi, 141, 1502, ca 1, gi_2), (wz, 142, 1502, ca 1, gz_2), (jnx, 143, 1502, ca 1, gn_2), (jkf, 144, 1502, ca 1, ga_2), (jks, 145, 1502, ca 1, gs_2), (jun, 146, 3000, ca 1, gu_2), (bd_, 100, 3000, ca 0, fb)] [(jFib, jIB dC dI ca G_58 0 iB_58), (jFqd, jQD dC dI ca G_58 none gQ_58), (jFy, jYb dC dI G_58), ([(2, 0), (2, 1)], jOl (dC, dI) G0 2 [bo, ou] s.heap)] H_84 locs_84 := ((hh_82.call hb_841 hb_842 hb_843 hb_844 hS_84 rfl (L1 := [(js, 6, 7, .int qv_2), (js, 6, 8, .int qu_2), (r0, 13, 4, .ref bo), (bo, 2, 1, .int pc), (bo, 2, 0, .ref pa), (r0, 13, 3, .ref ou), (r0, 13, 1, .ref fm), (fm, 4, 1, .int fl), (r0, 13, 2, .ref js), (js, 6, 0, .ref wk), (js, 6, 1, .ref wi), (js, 6, 2, .ref wz), (js, 6, 3, .ref jnx), (js, 6, 4, .ref jkf), (js, 6, 5, .ref jks), (js, 6, 6, .ref jun), (fm, 4, 0, .ref bd_)]) [0, 1, 2, 3, 4, 5, 6, 7, 8, 9, 10, 11, 12, 13, 14, 15, 16] rfl rfl (M1 := [(wk, 140, 1502, ca 1, gk_2), (wi, 141, 1502, ca 1, gi_2), (wz, 142, 1502, ca 1, gz_2), (jnx, 143, 1502, ca 1, gn_2), (jkf, 144, 1502, ca 1, ga_2), (jks, 145, 1502, ca 1, gs_2), (jun, 146, 3000, ca 1, gu_2), (bd_, 100, 3000, ca 0, fb)]) [0, 1, 2, 3, 4, 5, 6, 7] rfl rfl (I1 := [(jFib, jIB dC dI ca G_58 0 iB_58), (jFqd, jQD dC dI ca G_58 none gQ_58), (jFy, jYb dC dI G_58), ([(2, 0), (2, 1)], jOl (dC, dI) G0 2 [bo, ou] s.heap)]) [0, 1, 2, 3] rfl rfl).more hb_845)
      clear hh_82 ht_84 hvm_84 hz_84 hk_84 hS_84 hb_841 hb_842 hb_843 hb_844 hb_845
      obtain ⟨hr_85b, hr_85p⟩ := hr_85
      obtain ⟨hr_85p_0, hr_85p_1⟩ := hr_85p
      have hr_85' := jb_01 hr_85b
      refine lv_if_eq (tgt := 161) hx hb dX11_understood_103 (by decide) (fun c_86 => ?_) (fun c_86 => ?_)
      · skip
        have c_86' : r_85.toInt = 0 := jb_eq (rfl) ((by decide)) c_86
        first | (have hr_56_2q := hr_56_2.resolve_left (by omega); clear hr_56_2) | (have hr_56_2q := hr_56_2.resolve_right (by omega); clear hr_56_2) | skip
        first | (have hr_81_2q := hr_81_2.resolve_left (by omega); clear hr_81_2) | (have hr_81_2q := hr_81_2.resolve_right (by omega); clear hr_81_2) | skip
        first | (have hr_83_2q := hr_83_2.resolve_left (by omega); clear hr_83_2) | (have hr_83_2q := hr_83_2.resolve_right (by omega); clear hr_83_2) | try clear hr_83_2
        first | (have hr_85p_0q := hr_85p_0.resolve_left (by omega); clear hr_85p_0) | (have hr_85p_0q := hr_85p_0.resolve_right (by omega); clear hr_85p_0) | try clear hr_85p_0
        have hgd9 : jdGd T18 qv_2.toInt ≠ 1 := jdGd.n (m := 0) hk0 hr_83_3 (fun h9 => absurd h9 (by rw [← hr_85p_1]; omega)) hr_81_3 hid9 (Or.inl (by rw [← hr_85p_1]; omega))
        refine lv_iconst (v := 0) hx hb dX11_understood_161 (by decide) ?_
        refine lv_istore (lv' := [(5, .int 0), (4, .int r_81), (3, .ref H_55.size), (2, .int r_56), (1, .int r_3), (0, .ref r0)]) hx hb dX11_understood_162 hl (by decide) rfl (fun ls hl => ?_)
        refine lv_iload hx hb dX11_understood_164 (lv_at hl 0 rfl) ?_
        refine lv_if_ne (tgt := 179) hx hb dX11_understood_166 (by decide) (fun c_87 => ?_) (fun c_87 => ?_)
        · skip
          exact absurd c_87 (by decide)
        · skip
          first | (have hr_56_2q := hr_56_2.resolve_left (by omega); clear hr_56_2) | (have hr_56_2q := hr_56_2.resolve_right (by omega); clear hr_56_2) | skip
          first | (have hr_81_2q := hr_81_2.resolve_left (by omega); clear hr_81_2) | (have hr_81_2q := hr_81_2.resolve_right (by omega); clear hr_81_2) | skip
          refine lv_aload_n hx hb dX11_understood_169 rfl (lv_at hl 5 rfl) ?_
          refine lv_aload_n hx hb dX11_understood_170 rfl (lv_at hl 2 rfl) ?_
          refine lv_sipush (v := (-32600)) hx hb dX11_understood_171 (by decide) ?_
          try clear hsz_84 htt_84 hrc_84 hrs_84
          have hsz_88 := hh_84.2.2.2.2.2.1
          have htt_88 := hh_84.2.2.2.2.2.2.1
          refine W.room (fun hrc_88 hrs_88 => ?_)
          refine va_callv (A0 := jA base) (H0 := s.heap) (va_runV (As := [.ref H_55.size, .int (-32600)]) (rest := []) ⟨hx, hb, hml, hown, hts⟩ (uX11_refuse l dC dI ca base B hB hAp hB2 hB4 hB10 hB13 hB17 hB196 hB199 G_58 H_84 r0 H_55.size (-32600) bo pc pa n_pa ou LC LS) (cwV 2 hts (jgV (jWr_26 _ (List.mem_of_getElem? (i := 3) rfl)) (jWr_26 _ (List.mem_of_getElem? (i := 4) rfl)) (jWr_26 _ (List.mem_of_getElem? (i := 5) rfl)) (jWr_1 _ (List.mem_of_getElem? (i := 2) rfl)) (jWr_26 _ (List.mem_of_getElem? (i := 6) rfl))) rfl rfl rfl (by decide +kernel) ⟨by rw [← hR]; exact Nat.le_of_ble_eq_true rfl, by rw [← hR]; exact Nat.le_of_ble_eq_true rfl⟩) ⟨fun a U g mk q => by obtain ⟨q0, q1, q2, qK, q10, q11, q12, q13, q14, q15, q16, q17⟩ := q; exact ⟨q0, q1, q2, jG.calling g mk a qK, q10, q11, q12, q13, q14, q15, q16, q17⟩, hh_84.recv (C := RX11) (T := TX11) (N := 19) hB13 rfl (by decide) hg_60 hK, fun U hU hW => ⟨rfl, hU, hh_84.2.1, hG.step hW hU hh_84.1, hgc_58, hg_60, hg_61, hg_62, hg_63, (hh_84.2.2.1.sub (L1 := [(r0, 13, 4, .ref bo), (bo, 2, 1, .int pc), (bo, 2, 0, .ref pa), (r0, 13, 3, .ref ou)]) [2, 3, 4, 5] rfl), (hh_84.2.2.2.2.2.2.2.2.sub (L1 := [(jFy, jYb dC dI G_58)]) [2] rfl), (by omega), (by omega), ⟨(by first | omega | rfl | assumption | fail), (by first | omega | rfl | assumption | fail), (by first | omega | rfl | assumption | fail), (by first | omega | rfl | assumption | fail), (by first | assumption | fail | omega)⟩⟩⟩ rfl rfl hl.1 rfl (lv_room (Nat.le_of_ble_eq_true rfl)) dX11_understood_174 ⟨by rw [hRc]; omega, by rw [hRs]; omega⟩) hh_84.1 (fun q _ h => h) (fun q h => h) (fun u_88 t_88 H_88 locs_88 ht_88 hvm_88 hr_89 hb_88 hz_88 hk_88 hS_88 => ?_)
          obtain ⟨qc_88, qa_88, m_qa_88, G_88⟩ := u_88
          rw [ht_88] at hb_88
          simp only at hb_88
          obtain ⟨⟨hb_881, hb_882, hb_883, hb_884, hb_885, hb_886⟩, hgq_88_0, hN_88, hbO_88, hbE_88⟩ := hb_88
          have hY_88 := hN_88
          have hW_88 := hN_88
          have hN_88 : (jNk [0, 1, 3, 4, 5, 6, 7, 8, 9, 11, 12, 13, 14, 15, 16, 175]) G_58 G_88 := hN_88.sub (by decide)
          have hh_88 : jSt (dC, dI) B base G0 G_88 EX11_understoodI s.heap (((n_pa - n_pa) / 16 + 11) + ((m_qa_88 - n_pa) / 16)) ((2 * (n_pa - n_pa) + 267) + (2 * (m_qa_88 - n_pa))) [(bo, 2, 1, .int qc_88), (bo, 2, 0, .ref qa_88), (js, 6, 7, .int qv_2), (js, 6, 8, .int qu_2), (r0, 13, 4, .ref bo), (r0, 13, 3, .ref ou), (r0, 13, 1, .ref fm), (fm, 4, 1, .int fl), (r0, 13, 2, .ref js), (js, 6, 0, .ref wk), (js, 6, 1, .ref wi), (js, 6, 2, .ref wz), (js, 6, 3, .ref jnx), (js, 6, 4, .ref jkf), (js, 6, 5, .ref jks), (js, 6, 6, .ref jun), (fm, 4, 0, .ref bd_)] [(wk, 140, 1502, ca 1, gk_2), (wi, 141, 1502, ca 1, gi_2), (wz, 142, 1502, ca 1, gz_2), (jnx, 143, 1502, ca 1, gn_2), (jkf, 144, 1502, ca 1, ga_2), (jks, 145, 1502, ca 1, gs_2), (jun, 146, 3000, ca 1, gu_2), (bd_, 100, 3000, ca 0, fb)] [(jFib, jIB dC dI ca G_58 0 iB_58), (jFqd, jQD dC dI ca G_58 none gQ_58)] H_88 locs_88 := (hh_84.callG hb_881 hb_882 hb_883 hb_884 hb_885 hS_88 rfl (L1 := [(js, 6, 7, .int qv_2), (js, 6, 8, .int qu_2), (r0, 13, 4, .ref bo), (r0, 13, 3, .ref ou), (r0, 13, 1, .ref fm), (fm, 4, 1, .int fl), (r0, 13, 2, .ref js), (js, 6, 0, .ref wk), (js, 6, 1, .ref wi), (js, 6, 2, .ref wz), (js, 6, 3, .ref jnx), (js, 6, 4, .ref jkf), (js, 6, 5, .ref jks), (js, 6, 6, .ref jun), (fm, 4, 0, .ref bd_)]) [0, 1, 2, 5, 6, 7, 8, 9, 10, 11, 12, 13, 14, 15, 16] rfl rfl (M1 := [(wk, 140, 1502, ca 1, gk_2), (wi, 141, 1502, ca 1, gi_2), (wz, 142, 1502, ca 1, gz_2), (jnx, 143, 1502, ca 1, gn_2), (jkf, 144, 1502, ca 1, ga_2), (jks, 145, 1502, ca 1, gs_2), (jun, 146, 3000, ca 1, gu_2), (bd_, 100, 3000, ca 0, fb)]) [0, 1, 2, 3, 4, 5, 6, 7] rfl rfl (I1 := [(jFib, jIB dC dI ca G_58 0 iB_58), (jFqd, jQD dC dI ca G_58 none gQ_58)]) [0, 1] rfl rfl).more hb_886
          have hNn_88 : (jNk [0, 1, 3, 4, 5, 6, 7, 8, 9, 11, 12, 13, 14, 15, 16, 175]) G0 G_88 := (hNn_58).tr hN_88
          have hg_90 := hb_882 _ _ hgc_58
          have hg_91 := hb_882 _ _ hg_60
          have hg_92 := hb_882 _ _ hg_61
          have hg_93 := hb_882 _ _ hg_63
          have hg_94 := hb_882 _ _ hg_64
          have hg_95 := hb_882 _ _ hg_65
          have hg_96 := hb_882 _ _ hg_66
          have hg_97 := hb_882 _ _ hg_67
          have hg_98 := hb_882 _ _ hg_68
          have hg_99 := hb_882 _ _ hg_69
          have hg_100 := hb_882 _ _ hg_70
          have hg_101 := hb_882 _ _ hg_71
          have hg_102 := hb_882 _ _ hg_72
          have hg_103 := hb_882 _ _ hg_73
          have hd_104 := jIB.grow (r := 0) (hh_88.iv 0 rfl) hb_882 hW_88 (by decide)
          have hh_105 := hh_88.sub (L1 := [(bo, 2, 1, .int qc_88), (bo, 2, 0, .ref qa_88), (js, 6, 7, .int qv_2), (js, 6, 8, .int qu_2), (r0, 13, 4, .ref bo), (r0, 13, 3, .ref ou), (r0, 13, 1, .ref fm), (fm, 4, 1, .int fl), (r0, 13, 2, .ref js), (js, 6, 0, .ref wk), (js, 6, 1, .ref wi), (js, 6, 2, .ref wz), (js, 6, 3, .ref jnx), (js, 6, 4, .ref jkf), (js, 6, 5, .ref jks), (js, 6, 6, .ref jun), (fm, 4, 0, .ref bd_)]) [0, 1, 2, 3, 4, 5, 6, 7, 8, 9, 10, 11, 12, 13, 14, 15, 16] rfl (M1 := [(wk, 140, 1502, ca 1, gk_2), (wi, 141, 1502, ca 1, gi_2), (wz, 142, 1502, ca 1, gz_2), (jnx, 143, 1502, ca 1, gn_2), (jkf, 144, 1502, ca 1, ga_2), (jks, 145, 1502, ca 1, gs_2), (jun, 146, 3000, ca 1, gu_2), (bd_, 100, 3000, ca 0, fb)]) [0, 1, 2, 3, 4, 5, 6, 7] rfl (I1 := [(jFqd, jQD dC dI ca G_58 none gQ_58)]) [1] rfl
          clear hh_88
          have hh_106 := hh_105.addI (jIB.ie hd_104)
          clear hh_105
          have hd_107 := jQD.grow (ca := ca) (hh_106.iv 1 rfl) hb_882 hW_88 (by decide)
          have hh_108 := hh_106.sub (L1 := [(bo, 2, 1, .int qc_88), (bo, 2, 0, .ref qa_88), (js, 6, 7, .int qv_2), (js, 6, 8, .int qu_2), (r0, 13, 4, .ref bo), (r0, 13, 3, .ref ou), (r0, 13, 1, .ref fm), (fm, 4, 1, .int fl), (r0, 13, 2, .ref js), (js, 6, 0, .ref wk), (js, 6, 1, .ref wi), (js, 6, 2, .ref wz), (js, 6, 3, .ref jnx), (js, 6, 4, .ref jkf), (js, 6, 5, .ref jks), (js, 6, 6, .ref jun), (fm, 4, 0, .ref bd_)]) [0, 1, 2, 3, 4, 5, 6, 7, 8, 9, 10, 11, 12, 13, 14, 15, 16] rfl (M1 := [(wk, 140, 1502, ca 1, gk_2), (wi, 141, 1502, ca 1, gi_2), (wz, 142, 1502, ca 1, gz_2), (jnx, 143, 1502, ca 1, gn_2), (jkf, 144, 1502, ca 1, ga_2), (jks, 145, 1502, ca 1, gs_2), (jun, 146, 3000, ca 1, gu_2), (bd_, 100, 3000, ca 0, fb)]) [0, 1, 2, 3, 4, 5, 6, 7] rfl (I1 := [(jFib, jIB dC dI ca G_88 0 iB_58)]) [0] rfl
          clear hh_106
          have hh_109 := hh_108.addI (jQD.ie hd_107)
          clear hh_108
          have hh_110 := hh_109.addIs hbE_88
          have hd_111 := jOl.trL (hh_84.iv 3 rfl) hh_84.2.2.2.2.1 hbO_88 (by simp)
          have hh_112 := hh_110.addI (jOl.ie (dC := dC) (dI := dI) (G0 := G0) (k := 2) (rs := [bo, ou]) (H0 := s.heap) (F := [(2, 0), (2, 1)]) (C := RX0) (T := TX0) (N := 2) rfl (by decide) hh_110.2.2.2.2.1 (hd_111))
          clear hh_110
          try simp only at hr_89
          obtain ⟨hr_89_0, hr_89_1, hr_89_2, hr_89_3, hr_89_4⟩ := hr_89
          have hh_113 := hh_112.wk (zc1 := (m_qa_88 - n_pa) / 16 + 11) (zs1 := 2 * (m_qa_88 - n_pa) + 267) (by omega) (by omega)
          clear hh_112
          try clear hsz_88 htt_88 hrc_88 hrs_88
          try clear hb_884 hb_885
          refine lv_null hx hb dX11_understood_177 ?_
          try clear hsz_88 htt_88 hrc_88 hrs_88
          have hsz_114 := hh_113.2.2.2.2.2.1
          have htt_114 := hh_113.2.2.2.2.2.2.1
          refine W.room (fun hrc_114 hrs_114 => ?_)
          refine W.widen (k := LC - s.heap.size) (n := LS - jTot s.heap) (by omega) (by omega) ?_
          rw [hQ]
          exact W.aret (v := .null) hx hb hr (Or.inl ⟨_, rfl⟩) (Or.inl rfl) (fun t ht hW => ⟨⟨.null, (qc_88, qv_2, qu_2, qa_88, m_qa_88, gk_2, gi_2, gz_2, gn_2, ga_2, gs_2, gu_2, none, T18, gQ_58, iB_58, 0, G_88), rfl, ⟨Or.inl rfl, by skip; (try dsimp only); refine ⟨by omega, by omega, by omega, by omega, by assumption, by omega, by omega, by omega, hr_3p_2, Or.inl rfl, rfl, Or.inl ⟨rfl, Or.inr ⟨hX18, hgd9⟩⟩, jzUs.of hr_59_0 hnx9 hab8 hr_59_1, jzUx.no⟩⟩, ⟨hh_113.ra (by first | (simp only; omega) | omega) (by first | (simp only; omega) | omega) (M1 := [(bo, 2, 1, .int qc_88), (js, 6, 7, .int qv_2), (js, 6, 8, .int qu_2), (bo, 2, 0, .ref qa_88)]) [0, 2, 3, 1] rfl ht, hgq_88_0, hNn_88, by rw [ht]; exact hh_113.iv 0 rfl, by rw [ht]; exact hh_113.2.2.2.2.2.2.2.2.sub (L1 := [(jFy, jYb dC dI G_88), (jFib, jIB dC dI ca G_88 0 iB_58), (jFqd, jQD dC dI ca G_88 none gQ_58)]) [1, 3, 2] rfl, by rw [ht]; exact hh_113.2.2.2.2.2.2.2.1.sub [0, 1, 2, 3, 4, 5, 6] rfl⟩⟩, by rw [ht]; try exact hh_113.1.1, fun q h9 hq => by rw [ht]; try exact hh_113.1.2.1 q h9 hq⟩) hh_113.1.2.2 dX11_understood_178
      · skip
        have c_86' : r_85.toInt ≠ 0 := jb_eq_n (rfl) ((by decide)) c_86
        first | (have hr_56_2q := hr_56_2.resolve_left (by omega); clear hr_56_2) | (have hr_56_2q := hr_56_2.resolve_right (by omega); clear hr_56_2) | skip
        first | (have hr_81_2q := hr_81_2.resolve_left (by omega); clear hr_81_2) | (have hr_81_2q := hr_81_2.resolve_right (by omega); clear hr_81_2) | skip
        first | (have hr_83_2q := hr_83_2.resolve_left (by omega); clear hr_83_2) | (have hr_83_2q := hr_83_2.resolve_right (by omega); clear hr_83_2) | try clear hr_83_2
        first | (have hr_85p_0q := hr_85p_0.resolve_left (by omega); clear hr_85p_0) | (have hr_85p_0q := hr_85p_0.resolve_right (by omega); clear hr_85p_0) | try clear hr_85p_0
        refine lv_aload_n hx hb dX11_understood_106 rfl (lv_at hl 4 rfl) ?_
        refine j7_read hx hb hown hK (C := RX11) (T := TX11) (N := 19) rfl hly_13_2 hlk_28 (hh_84.at 8 rfl) dX11_understood_107 ?_
        refine lv_aload_n hx hb dX11_understood_110 rfl (lv_at hl 4 rfl) ?_
        refine j7_read hx hb hown hK (C := RX11) (T := TX11) (N := 19) rfl hly_13_2 hlk_28 (hh_84.at 8 rfl) dX11_understood_111 ?_
        refine lv_iconst (v := 0) hx hb dX11_understood_114 (by decide) ?_
        refine j_ldcSw hx hb hown rstr281 dX11_understood_115 ?_
        try clear hsz_84 htt_84 hrc_84 hrs_84
        have hsz_115 := hh_84.2.2.2.2.2.1
        have htt_115 := hh_84.2.2.2.2.2.2.1
        refine W.room (fun hrc_115 hrs_115 => ?_)
        refine va_calli (A0 := jA base) (H0 := s.heap) (va_runV (As := [.int 0, .ref str281]) (rest := [.ref js]) ⟨hx, hb, hml, hown, hts⟩ (uX4_memberJ l dC dI ca base B hB hAp hB6 hB140 hB141 hB142 hB143 hB144 hB145 hB146 G_58 H_84 js 0 str281 6 (jChT "method") qv_2 qu_2 wk wi wz jnx jkf jks jun T18 gk_2 gi_2 gz_2 gn_2 ga_2 gs_2 gu_2) (cwV 2 hts (jgV (jWr_23 _ (List.mem_of_getElem? (i := 10) rfl)) (jWr_23 _ (List.mem_of_getElem? (i := 11) rfl)) (jWr_23 _ (List.mem_of_getElem? (i := 12) rfl)) (jWr_1 _ (List.mem_of_getElem? (i := 22) rfl)) (jWr_23 _ (List.mem_of_getElem? (i := 13) rfl))) rfl rfl rfl (by decide +kernel) ⟨by rw [← hR]; exact Nat.le_of_ble_eq_true rfl, by rw [← hR]; exact Nat.le_of_ble_eq_true rfl⟩) ⟨fun a U g mk q => by obtain ⟨q0, q1, q2, qK, q10, q11, q12, q13, q14, q15, q16, q17, q18, q19, q20, q21⟩ := q; exact ⟨q0, q1, q2, jG.calling g mk a qK, (q10.moved (Vm.Alike.refl U.vm)), q11, q12, q13, q14, q15, q16, q17, q18, q19, q20, q21⟩, hh_84.recv (C := RX4) (T := TX4) (N := 12) hB6 rfl (by decide) hg_65 hK, fun U hU hW => ⟨rfl, hU, hh_84.2.1, hG.step hW hU hh_84.1, (hTstr281.moved hW.alike).kept hh_84.1.2.1, hg_65, hg_66, hg_67, hg_68, hg_69, hg_70, hg_71, hg_72, (hh_84.2.2.1.sub (L1 := [(js, 6, 7, .int qv_2), (js, 6, 8, .int qu_2), (js, 6, 0, .ref wk), (js, 6, 1, .ref wi), (js, 6, 2, .ref wz), (js, 6, 3, .ref jnx), (js, 6, 4, .ref jkf), (js, 6, 5, .ref jks), (js, 6, 6, .ref jun)]) [0, 1, 9, 10, 11, 12, 13, 14, 15] rfl), (hh_84.2.2.2.2.2.2.2.1.sub (L1 := [(wk, 140, 1502, ca 1, gk_2), (wi, 141, 1502, ca 1, gi_2), (wz, 142, 1502, ca 1, gz_2), (jnx, 143, 1502, ca 1, gn_2), (jkf, 144, 1502, ca 1, ga_2), (jks, 145, 1502, ca 1, gs_2), (jun, 146, 3000, ca 1, gu_2)]) [0, 1, 2, 3, 4, 5, 6] rfl), ⟨(by first | omega | rfl | assumption | exact hTb18 | exact hqR18 | exact hco18), (by first | omega | rfl | assumption | exact hTb18 | exact hqR18 | exact hco18), (by first | omega | rfl | assumption | exact hTb18 | exact hqR18 | exact hco18), (by first | omega | rfl | assumption | exact hTb18 | exact hqR18 | exact hco18), (by first | assumption | exact hTb18 | exact hqR18 | exact hco18 | omega), (by first | omega | rfl | assumption | exact hTb18 | exact hqR18 | exact hco18), (by first | assumption | exact hTb18 | exact hqR18 | exact hco18 | omega), (by first | assumption | exact hTb18 | exact hqR18 | exact hco18 | omega)⟩⟩⟩ rfl rfl hl.1 rfl (lv_room (Nat.le_of_ble_eq_true rfl)) dX11_understood_118 ⟨by rw [hRc]; show _ + 0 ≤ _; omega, by rw [hRs]; show _ + 0 ≤ _; omega⟩) hh_84.1 (fun q _ h => h) (fun q h => h) (fun r_116 u_115 t_115 H_115 locs_115 ht_115 hvm_115 hr_116 hb_115 hz_115 hk_115 hS_115 => ?_)
        rw [ht_115] at hb_115
        obtain ⟨hb_115, hbF_115⟩ := hb_115
        obtain ⟨hb_1151, hb_1152, hb_1153, hb_1154, hb_1155⟩ := hb_115
        have hh_115 : jSt (dC, dI) B base G0 G_58 EX11_understoodI s.heap ((n_pa - n_pa) / 16 + 11) (2 * (n_pa - n_pa) + 267) [(js, 6, 7, .int qv_2), (js, 6, 8, .int qu_2), (r0, 13, 4, .ref bo), (bo, 2, 1, .int pc), (bo, 2, 0, .ref pa), (r0, 13, 3, .ref ou), (r0, 13, 1, .ref fm), (fm, 4, 1, .int fl), (r0, 13, 2, .ref js), (js, 6, 0, .ref wk), (js, 6, 1, .ref wi), (js, 6, 2, .ref wz), (js, 6, 3, .ref jnx), (js, 6, 4, .ref jkf), (js, 6, 5, .ref jks), (js, 6, 6, .ref jun), (fm, 4, 0, .ref bd_)] [(wk, 140, 1502, ca 1, gk_2), (wi, 141, 1502, ca 1, gi_2), (wz, 142, 1502, ca 1, gz_2), (jnx, 143, 1502, ca 1, gn_2), (jkf, 144, 1502, ca 1, ga_2), (jks, 145, 1502, ca 1, gs_2), (jun, 146, 3000, ca 1, gu_2), (bd_, 100, 3000, ca 0, fb)] [(jFib, jIB dC dI ca G_58 0 iB_58), (jFqd, jQD dC dI ca G_58 none gQ_58), (jFy, jYb dC dI G_58), ([(2, 0), (2, 1)], jOl (dC, dI) G0 2 [bo, ou] s.heap)] H_115 locs_115 := ((hh_84.call hb_1151 hb_1152 hb_1153 hb_1154 hS_115 rfl (L1 := [(js, 6, 7, .int qv_2), (js, 6, 8, .int qu_2), (r0, 13, 4, .ref bo), (bo, 2, 1, .int pc), (bo, 2, 0, .ref pa), (r0, 13, 3, .ref ou), (r0, 13, 1, .ref fm), (fm, 4, 1, .int fl), (r0, 13, 2, .ref js), (js, 6, 0, .ref wk), (js, 6, 1, .ref wi), (js, 6, 2, .ref wz), (js, 6, 3, .ref jnx), (js, 6, 4, .ref jkf), (js, 6, 5, .ref jks), (js, 6, 6, .ref jun), (fm, 4, 0, .ref bd_)]) [0, 1, 2, 3, 4, 5, 6, 7, 8, 9, 10, 11, 12, 13, 14, 15, 16] rfl rfl (M1 := [(wk, 140, 1502, ca 1, gk_2), (wi, 141, 1502, ca 1, gi_2), (wz, 142, 1502, ca 1, gz_2), (jnx, 143, 1502, ca 1, gn_2), (jkf, 144, 1502, ca 1, ga_2), (jks, 145, 1502, ca 1, gs_2), (jun, 146, 3000, ca 1, gu_2), (bd_, 100, 3000, ca 0, fb)]) [0, 1, 2, 3, 4, 5, 6, 7] rfl rfl (I1 := [(jFib, jIB dC dI ca G_58 0 iB_58), (jFqd, jQD dC dI ca G_58 none gQ_58), (jFy, jYb dC dI G_58), ([(2, 0), (2, 1)], jOl (dC, dI) G0 2 [bo, ou] s.heap)]) [0, 1, 2, 3] rfl rfl).more hb_1155)
        clear hh_84 ht_115 hvm_115 hz_115 hk_115 hS_115 hb_1151 hb_1152 hb_1153 hb_1154 hb_1155
        obtain ⟨hr_116_0, hr_116_1, hr_116_2, hr_116_3⟩ := hr_116
        try clear hsz_115 htt_115 hrc_115 hrs_115
        have hsz_117 := hh_115.2.2.2.2.2.1
        have htt_117 := hh_115.2.2.2.2.2.2.1
        refine W.room (fun hrc_117 hrs_117 => ?_)
        refine va_calli (A0 := jA base) (H0 := s.heap) (va_runV (As := [.int r_116]) (rest := []) ⟨hx, hb, hml, hown, hts⟩ (uX4_kindOfJ l dC dI ca base B hB hAp hB6 hB140 G_58 H_115 js r_116 qv_2 qu_2 wk wi wz jnx jkf jks jun T18 gk_2 gi_2 gz_2 gn_2 ga_2 gs_2 gu_2) (cwV 1 hts (jgV (jWr_27 _ (List.mem_of_getElem? (i := 5) rfl)) (jWr_23 _ (List.mem_of_getElem? (i := 15) rfl)) (jWr_23 _ (List.mem_of_getElem? (i := 16) rfl)) (jWr_1 _ (List.mem_of_getElem? (i := 22) rfl)) (jWr_23 _ (List.mem_of_getElem? (i := 17) rfl))) rfl rfl rfl (by decide +kernel) ⟨by rw [← hR]; exact Nat.le_of_ble_eq_true rfl, by rw [← hR]; exact Nat.le_of_ble_eq_true rfl⟩) ⟨fun a U g mk q => by obtain ⟨q0, q1, q2, qK, q10, q11, q12, q13, q14, q15, q16, q17, q18, q19, q20⟩ := q; exact ⟨q0, q1, q2, jG.calling g mk a qK, q10, q11, q12, q13, q14, q15, q16, q17, q18, q19, q20⟩, hh_115.recv (C := RX4) (T := TX4) (N := 12) hB6 rfl (by decide) hg_65 hK, fun U hU hW => ⟨rfl, hU, hh_115.2.1, hG.step hW hU hh_115.1, hg_65, hg_66, hg_67, hg_68, hg_69, hg_70, hg_71, hg_72, (hh_115.2.2.1.sub (L1 := [(js, 6, 7, .int qv_2), (js, 6, 8, .int qu_2), (js, 6, 0, .ref wk), (js, 6, 1, .ref wi), (js, 6, 2, .ref wz), (js, 6, 3, .ref jnx), (js, 6, 4, .ref jkf), (js, 6, 5, .ref jks), (js, 6, 6, .ref jun)]) [0, 1, 9, 10, 11, 12, 13, 14, 15] rfl), (hh_115.2.2.2.2.2.2.2.1.sub (L1 := [(wk, 140, 1502, ca 1, gk_2), (wi, 141, 1502, ca 1, gi_2), (wz, 142, 1502, ca 1, gz_2), (jnx, 143, 1502, ca 1, gn_2), (jkf, 144, 1502, ca 1, ga_2), (jks, 145, 1502, ca 1, gs_2), (jun, 146, 3000, ca 1, gu_2)]) [0, 1, 2, 3, 4, 5, 6] rfl), ⟨(by first | omega | rfl | assumption | exact hTb18 | exact hqR18 | exact hco18), (by first | omega | rfl | assumption | exact hTb18 | exact hqR18 | exact hco18), (by first | omega | rfl | assumption | exact hTb18 | exact hqR18 | exact hco18), (by first | omega | rfl | assumption | exact hTb18 | exact hqR18 | exact hco18), (by first | assumption | exact hTb18 | exact hqR18 | exact hco18 | omega)⟩⟩⟩ rfl rfl hl.1 rfl (lv_room (Nat.le_of_ble_eq_true rfl)) dX11_understood_121 ⟨by rw [hRc]; show _ + 0 ≤ _; omega, by rw [hRs]; show _ + 0 ≤ _; omega⟩) hh_115.1 (fun q _ h => h) (fun q h => h) (fun r_118 u_117 t_117 H_117 locs_117 ht_117 hvm_117 hr_118 hb_117 hz_117 hk_117 hS_117 => ?_)
        rw [ht_117] at hb_117
        obtain ⟨hb_117, hbF_117⟩ := hb_117
        obtain ⟨hb_1171, hb_1172, hb_1173, hb_1174, hb_1175⟩ := hb_117
        have hh_117 : jSt (dC, dI) B base G0 G_58 EX11_understoodI s.heap ((n_pa - n_pa) / 16 + 11) (2 * (n_pa - n_pa) + 267) [(js, 6, 7, .int qv_2), (js, 6, 8, .int qu_2), (r0, 13, 4, .ref bo), (bo, 2, 1, .int pc), (bo, 2, 0, .ref pa), (r0, 13, 3, .ref ou), (r0, 13, 1, .ref fm), (fm, 4, 1, .int fl), (r0, 13, 2, .ref js), (js, 6, 0, .ref wk), (js, 6, 1, .ref wi), (js, 6, 2, .ref wz), (js, 6, 3, .ref jnx), (js, 6, 4, .ref jkf), (js, 6, 5, .ref jks), (js, 6, 6, .ref jun), (fm, 4, 0, .ref bd_)] [(wk, 140, 1502, ca 1, gk_2), (wi, 141, 1502, ca 1, gi_2), (wz, 142, 1502, ca 1, gz_2), (jnx, 143, 1502, ca 1, gn_2), (jkf, 144, 1502, ca 1, ga_2), (jks, 145, 1502, ca 1, gs_2), (jun, 146, 3000, ca 1, gu_2), (bd_, 100, 3000, ca 0, fb)] [(jFib, jIB dC dI ca G_58 0 iB_58), (jFqd, jQD dC dI ca G_58 none gQ_58), (jFy, jYb dC dI G_58), ([(2, 0), (2, 1)], jOl (dC, dI) G0 2 [bo, ou] s.heap)] H_117 locs_117 := ((hh_115.call hb_1171 hb_1172 hb_1173 hb_1174 hS_117 rfl (L1 := [(js, 6, 7, .int qv_2), (js, 6, 8, .int qu_2), (r0, 13, 4, .ref bo), (bo, 2, 1, .int pc), (bo, 2, 0, .ref pa), (r0, 13, 3, .ref ou), (r0, 13, 1, .ref fm), (fm, 4, 1, .int fl), (r0, 13, 2, .ref js), (js, 6, 0, .ref wk), (js, 6, 1, .ref wi), (js, 6, 2, .ref wz), (js, 6, 3, .ref jnx), (js, 6, 4, .ref jkf), (js, 6, 5, .ref jks), (js, 6, 6, .ref jun), (fm, 4, 0, .ref bd_)]) [0, 1, 2, 3, 4, 5, 6, 7, 8, 9, 10, 11, 12, 13, 14, 15, 16] rfl rfl (M1 := [(wk, 140, 1502, ca 1, gk_2), (wi, 141, 1502, ca 1, gi_2), (wz, 142, 1502, ca 1, gz_2), (jnx, 143, 1502, ca 1, gn_2), (jkf, 144, 1502, ca 1, ga_2), (jks, 145, 1502, ca 1, gs_2), (jun, 146, 3000, ca 1, gu_2), (bd_, 100, 3000, ca 0, fb)]) [0, 1, 2, 3, 4, 5, 6, 7] rfl rfl (I1 := [(jFib, jIB dC dI ca G_58 0 iB_58), (jFqd, jQD dC dI ca G_58 none gQ_58), (jFy, jYb dC dI G_58), ([(2, 0), (2, 1)], jOl (dC, dI) G0 2 [bo, ou] s.heap)]) [0, 1, 2, 3] rfl rfl).more hb_1175)
        clear hh_115 ht_117 hvm_117 hz_117 hk_117 hS_117 hb_1171 hb_1172 hb_1173 hb_1174 hb_1175
        obtain ⟨hr_118_0, hr_118_1⟩ := hr_118
        refine lv_iconst (v := 3) hx hb dX11_understood_124 (by decide) ?_
        refine lv_icmp_ne (tgt := 161) hx hb dX11_understood_125 (by decide) (fun c_119 => ?_) (fun c_119 => ?_)
        · skip
          have c_119' : r_118.toInt ≠ 3 := jb_ne (rfl) ((by decide)) c_119
          try clear hr_116_2
          try clear hr_118_0
          have hgd9 : jdGd T18 qv_2.toInt ≠ 1 := jdGd.n hk0 hr_83_3 (fun _ => hr_116_3) hr_81_3 hid9 (Or.inr ⟨by rw [← hr_85p_1]; omega, Or.inl (by rw [← hr_118_1]; omega)⟩)
          refine lv_iconst (v := 0) hx hb dX11_understood_161 (by decide) ?_
          refine lv_istore (lv' := [(5, .int 0), (4, .int r_81), (3, .ref H_55.size), (2, .int r_56), (1, .int r_3), (0, .ref r0)]) hx hb dX11_understood_162 hl (by decide) rfl (fun ls hl => ?_)
          refine lv_iload hx hb dX11_understood_164 (lv_at hl 0 rfl) ?_
          refine lv_if_ne (tgt := 179) hx hb dX11_understood_166 (by decide) (fun c_120 => ?_) (fun c_120 => ?_)
          · skip
            exact absurd c_120 (by decide)
          · skip
            first | (have hr_56_2q := hr_56_2.resolve_left (by omega); clear hr_56_2) | (have hr_56_2q := hr_56_2.resolve_right (by omega); clear hr_56_2) | skip
            first | (have hr_81_2q := hr_81_2.resolve_left (by omega); clear hr_81_2) | (have hr_81_2q := hr_81_2.resolve_right (by omega); clear hr_81_2) | skip
            refine lv_aload_n hx hb dX11_understood_169 rfl (lv_at hl 5 rfl) ?_
            refine lv_aload_n hx hb dX11_understood_170 rfl (lv_at hl 2 rfl) ?_
            refine lv_sipush (v := (-32600)) hx hb dX11_understood_171 (by decide) ?_
            try clear hsz_117 htt_117 hrc_117 hrs_117
            have hsz_121 := hh_117.2.2.2.2.2.1
            have htt_121 := hh_117.2.2.2.2.2.2.1
            refine W.room (fun hrc_121 hrs_121 => ?_)
            refine va_callv (A0 := jA base) (H0 := s.heap) (va_runV (As := [.ref H_55.size, .int (-32600)]) (rest := []) ⟨hx, hb, hml, hown, hts⟩ (uX11_refuse l dC dI ca base B hB hAp hB2 hB4 hB10 hB13 hB17 hB196 hB199 G_58 H_117 r0 H_55.size (-32600) bo pc pa n_pa ou LC LS) (cwV 2 hts (jgV (jWr_26 _ (List.mem_of_getElem? (i := 3) rfl)) (jWr_26 _ (List.mem_of_getElem? (i := 4) rfl)) (jWr_26 _ (List.mem_of_getElem? (i := 5) rfl)) (jWr_1 _ (List.mem_of_getElem? (i := 2) rfl)) (jWr_26 _ (List.mem_of_getElem? (i := 6) rfl))) rfl rfl rfl (by decide +kernel) ⟨by rw [← hR]; exact Nat.le_of_ble_eq_true rfl, by rw [← hR]; exact Nat.le_of_ble_eq_true rfl⟩) ⟨fun a U g mk q => by obtain ⟨q0, q1, q2, qK, q10, q11, q12, q13, q14, q15, q16, q17⟩ := q; exact ⟨q0, q1, q2, jG.calling g mk a qK, q10, q11, q12, q13, q14, q15, q16, q17⟩, hh_117.recv (C := RX11) (T := TX11) (N := 19) hB13 rfl (by decide) hg_60 hK, fun U hU hW => ⟨rfl, hU, hh_117.2.1, hG.step hW hU hh_117.1, hgc_58, hg_60, hg_61, hg_62, hg_63, (hh_117.2.2.1.sub (L1 := [(r0, 13, 4, .ref bo), (bo, 2, 1, .int pc), (bo, 2, 0, .ref pa), (r0, 13, 3, .ref ou)]) [2, 3, 4, 5] rfl), (hh_117.2.2.2.2.2.2.2.2.sub (L1 := [(jFy, jYb dC dI G_58)]) [2] rfl), (by omega), (by omega), ⟨(by first | omega | rfl | assumption | fail), (by first | omega | rfl | assumption | fail), (by first | omega | rfl | assumption | fail), (by first | omega | rfl | assumption | fail), (by first | assumption | fail | omega)⟩⟩⟩ rfl rfl hl.1 rfl (lv_room (Nat.le_of_ble_eq_true rfl)) dX11_understood_174 ⟨by rw [hRc]; omega, by rw [hRs]; omega⟩) hh_117.1 (fun q _ h => h) (fun q h => h) (fun u_121 t_121 H_121 locs_121 ht_121 hvm_121 hr_122 hb_121 hz_121 hk_121 hS_121 => ?_)
            obtain ⟨qc_121, qa_121, m_qa_121, G_121⟩ := u_121
            rw [ht_121] at hb_121
            simp only at hb_121
            obtain ⟨⟨hb_1211, hb_1212, hb_1213, hb_1214, hb_1215, hb_1216⟩, hgq_121_0, hN_121, hbO_121, hbE_121⟩ := hb_121
            have hY_121 := hN_121
            have hW_121 := hN_121
            have hN_121 : (jNk [0, 1, 3, 4, 5, 6, 7, 8, 9, 11, 12, 13, 14, 15, 16, 175]) G_58 G_121 := hN_121.sub (by decide)
            have hh_121 : jSt (dC, dI) B base G0 G_121 EX11_understoodI s.heap (((n_pa - n_pa) / 16 + 11) + ((m_qa_121 - n_pa) / 16)) ((2 * (n_pa - n_pa) + 267) + (2 * (m_qa_121 - n_pa))) [(bo, 2, 1, .int qc_121), (bo, 2, 0, .ref qa_121), (js, 6, 7, .int qv_2), (js, 6, 8, .int qu_2), (r0, 13, 4, .ref bo), (r0, 13, 3, .ref ou), (r0, 13, 1, .ref fm), (fm, 4, 1, .int fl), (r0, 13, 2, .ref js), (js, 6, 0, .ref wk), (js, 6, 1, .ref wi), (js, 6, 2, .ref wz), (js, 6, 3, .ref jnx), (js, 6, 4, .ref jkf), (js, 6, 5, .ref jks), (js, 6, 6, .ref jun), (fm, 4, 0, .ref bd_)] [(wk, 140, 1502, ca 1, gk_2), (wi, 141, 1502, ca 1, gi_2), (wz, 142, 1502, ca 1, gz_2), (jnx, 143, 1502, ca 1, gn_2), (jkf, 144, 1502, ca 1, ga_2), (jks, 145, 1502, ca 1, gs_2), (jun, 146, 3000, ca 1, gu_2), (bd_, 100, 3000, ca 0, fb)] [(jFib, jIB dC dI ca G_58 0 iB_58), (jFqd, jQD dC dI ca G_58 none gQ_58)] H_121 locs_121 := (hh_117.callG hb_1211 hb_1212 hb_1213 hb_1214 hb_1215 hS_121 rfl (L1 := [(js, 6, 7, .int qv_2), (js, 6, 8, .int qu_2), (r0, 13, 4, .ref bo), (r0, 13, 3, .ref ou), (r0, 13, 1, .ref fm), (fm, 4, 1, .int fl), (r0, 13, 2, .ref js), (js, 6, 0, .ref wk), (js, 6, 1, .ref wi), (js, 6, 2, .ref wz), (js, 6, 3, .ref jnx), (js, 6, 4, .ref jkf), (js, 6, 5, .ref jks), (js, 6, 6, .ref jun), (fm, 4, 0, .ref bd_)]) [0, 1, 2, 5, 6, 7, 8, 9, 10, 11, 12, 13, 14, 15, 16] rfl rfl (M1 := [(wk, 140, 1502, ca 1, gk_2), (wi, 141, 1502, ca 1, gi_2), (wz, 142, 1502, ca 1, gz_2), (jnx, 143, 1502, ca 1, gn_2), (jkf, 144, 1502, ca 1, ga_2), (jks, 145, 1502, ca 1, gs_2), (jun, 146, 3000, ca 1, gu_2), (bd_, 100, 3000, ca 0, fb)]) [0, 1, 2, 3, 4, 5, 6, 7] rfl rfl (I1 := [(jFib, jIB dC dI ca G_58 0 iB_58), (jFqd, jQD dC dI ca G_58 none gQ_58)]) [0, 1] rfl rfl).more hb_1216
            have hNn_121 : (jNk [0, 1, 3, 4, 5, 6, 7, 8, 9, 11, 12, 13, 14, 15, 16, 175]) G0 G_121 := (hNn_58).tr hN_121
            have hg_123 := hb_1212 _ _ hgc_58
            have hg_124 := hb_1212 _ _ hg_60
            have hg_125 := hb_1212 _ _ hg_61
            have hg_126 := hb_1212 _ _ hg_63
            have hg_127 := hb_1212 _ _ hg_64
            have hg_128 := hb_1212 _ _ hg_65
            have hg_129 := hb_1212 _ _ hg_66
            have hg_130 := hb_1212 _ _ hg_67
            have hg_131 := hb_1212 _ _ hg_68
            have hg_132 := hb_1212 _ _ hg_69
            have hg_133 := hb_1212 _ _ hg_70
            have hg_134 := hb_1212 _ _ hg_71
            have hg_135 := hb_1212 _ _ hg_72
            have hg_136 := hb_1212 _ _ hg_73
            have hd_137 := jIB.grow (r := 0) (hh_121.iv 0 rfl) hb_1212 hW_121 (by decide)
            have hh_138 := hh_121.sub (L1 := [(bo, 2, 1, .int qc_121), (bo, 2, 0, .ref qa_121), (js, 6, 7, .int qv_2), (js, 6, 8, .int qu_2), (r0, 13, 4, .ref bo), (r0, 13, 3, .ref ou), (r0, 13, 1, .ref fm), (fm, 4, 1, .int fl), (r0, 13, 2, .ref js), (js, 6, 0, .ref wk), (js, 6, 1, .ref wi), (js, 6, 2, .ref wz), (js, 6, 3, .ref jnx), (js, 6, 4, .ref jkf), (js, 6, 5, .ref jks), (js, 6, 6, .ref jun), (fm, 4, 0, .ref bd_)]) [0, 1, 2, 3, 4, 5, 6, 7, 8, 9, 10, 11, 12, 13, 14, 15, 16] rfl (M1 := [(wk, 140, 1502, ca 1, gk_2), (wi, 141, 1502, ca 1, gi_2), (wz, 142, 1502, ca 1, gz_2), (jnx, 143, 1502, ca 1, gn_2), (jkf, 144, 1502, ca 1, ga_2), (jks, 145, 1502, ca 1, gs_2), (jun, 146, 3000, ca 1, gu_2), (bd_, 100, 3000, ca 0, fb)]) [0, 1, 2, 3, 4, 5, 6, 7] rfl (I1 := [(jFqd, jQD dC dI ca G_58 none gQ_58)]) [1] rfl
            clear hh_121
            have hh_139 := hh_138.addI (jIB.ie hd_137)
            clear hh_138
            have hd_140 := jQD.grow (ca := ca) (hh_139.iv 1 rfl) hb_1212 hW_121 (by decide)
            have hh_141 := hh_139.sub (L1 := [(bo, 2, 1, .int qc_121), (bo, 2, 0, .ref qa_121), (js, 6, 7, .int qv_2), (js, 6, 8, .int qu_2), (r0, 13, 4, .ref bo), (r0, 13, 3, .ref ou), (r0, 13, 1, .ref fm), (fm, 4, 1, .int fl), (r0, 13, 2, .ref js), (js, 6, 0, .ref wk), (js, 6, 1, .ref wi), (js, 6, 2, .ref wz), (js, 6, 3, .ref jnx), (js, 6, 4, .ref jkf), (js, 6, 5, .ref jks), (js, 6, 6, .ref jun), (fm, 4, 0, .ref bd_)]) [0, 1, 2, 3, 4, 5, 6, 7, 8, 9, 10, 11, 12, 13, 14, 15, 16] rfl (M1 := [(wk, 140, 1502, ca 1, gk_2), (wi, 141, 1502, ca 1, gi_2), (wz, 142, 1502, ca 1, gz_2), (jnx, 143, 1502, ca 1, gn_2), (jkf, 144, 1502, ca 1, ga_2), (jks, 145, 1502, ca 1, gs_2), (jun, 146, 3000, ca 1, gu_2), (bd_, 100, 3000, ca 0, fb)]) [0, 1, 2, 3, 4, 5, 6, 7] rfl (I1 := [(jFib, jIB dC dI ca G_121 0 iB_58)]) [0] rfl
            clear hh_139
            have hh_142 := hh_141.addI (jQD.ie hd_140)
            clear hh_141
            have hh_143 := hh_142.addIs hbE_121
            have hd_144 := jOl.trL (hh_117.iv 3 rfl) hh_117.2.2.2.2.1 hbO_121 (by simp)
            have hh_145 := hh_143.addI (jOl.ie (dC := dC) (dI := dI) (G0 := G0) (k := 2) (rs := [bo, ou]) (H0 := s.heap) (F := [(2, 0), (2, 1)]) (C := RX0) (T := TX0) (N := 2) rfl (by decide) hh_143.2.2.2.2.1 (hd_144))
            clear hh_143
            try simp only at hr_122
            obtain ⟨hr_122_0, hr_122_1, hr_122_2, hr_122_3, hr_122_4⟩ := hr_122
            have hh_146 := hh_145.wk (zc1 := (m_qa_121 - n_pa) / 16 + 11) (zs1 := 2 * (m_qa_121 - n_pa) + 267) (by omega) (by omega)
            clear hh_145
            try clear hsz_121 htt_121 hrc_121 hrs_121
            try clear hb_1214 hb_1215
            refine lv_null hx hb dX11_understood_177 ?_
            try clear hsz_121 htt_121 hrc_121 hrs_121
            have hsz_147 := hh_146.2.2.2.2.2.1
            have htt_147 := hh_146.2.2.2.2.2.2.1
            refine W.room (fun hrc_147 hrs_147 => ?_)
            refine W.widen (k := LC - s.heap.size) (n := LS - jTot s.heap) (by omega) (by omega) ?_
            rw [hQ]
            exact W.aret (v := .null) hx hb hr (Or.inl ⟨_, rfl⟩) (Or.inl rfl) (fun t ht hW => ⟨⟨.null, (qc_121, qv_2, qu_2, qa_121, m_qa_121, gk_2, gi_2, gz_2, gn_2, ga_2, gs_2, gu_2, none, T18, gQ_58, iB_58, 0, G_121), rfl, ⟨Or.inl rfl, by skip; (try dsimp only); refine ⟨by omega, by omega, by omega, by omega, by assumption, by omega, by omega, by omega, hr_3p_2, Or.inl rfl, rfl, Or.inl ⟨rfl, Or.inr ⟨hX18, hgd9⟩⟩, jzUs.of hr_59_0 hnx9 hab8 hr_59_1, jzUx.no⟩⟩, ⟨hh_146.ra (by first | (simp only; omega) | omega) (by first | (simp only; omega) | omega) (M1 := [(bo, 2, 1, .int qc_121), (js, 6, 7, .int qv_2), (js, 6, 8, .int qu_2), (bo, 2, 0, .ref qa_121)]) [0, 2, 3, 1] rfl ht, hgq_121_0, hNn_121, by rw [ht]; exact hh_146.iv 0 rfl, by rw [ht]; exact hh_146.2.2.2.2.2.2.2.2.sub (L1 := [(jFy, jYb dC dI G_121), (jFib, jIB dC dI ca G_121 0 iB_58), (jFqd, jQD dC dI ca G_121 none gQ_58)]) [1, 3, 2] rfl, by rw [ht]; exact hh_146.2.2.2.2.2.2.2.1.sub [0, 1, 2, 3, 4, 5, 6] rfl⟩⟩, by rw [ht]; try exact hh_146.1.1, fun q h9 hq => by rw [ht]; try exact hh_146.1.2.1 q h9 hq⟩) hh_146.1.2.2 dX11_understood_178
        · skip
          have c_119' : r_118.toInt = 3 := jb_ne_n (rfl) ((by decide)) c_119
          first | (have hr_116_2q := hr_116_2.resolve_left (by omega); clear hr_116_2) | (have hr_116_2q := hr_116_2.resolve_right (by omega); clear hr_116_2) | try clear hr_116_2
          first | (have hr_118_0q := hr_118_0.resolve_left (by omega); clear hr_118_0) | (have hr_118_0q := hr_118_0.resolve_right (by omega); clear hr_118_0) | try clear hr_118_0
          refine lv_iload hx hb dX11_understood_128 (lv_at hl 0 rfl) ?_
          refine lv_if_lt (tgt := 146) hx hb dX11_understood_130 (by decide) (fun c_148 => ?_) (fun c_148 => ?_)
          · skip
            have c_148' : r_81.toInt < 0 := jb_lt (rfl) ((by decide)) c_148
            first | (have hr_56_2q := hr_56_2.resolve_left (by omega); clear hr_56_2) | (have hr_56_2q := hr_56_2.resolve_right (by omega); clear hr_56_2) | skip
            first | (have hr_81_2q := hr_81_2.resolve_left (by omega); clear hr_81_2) | (have hr_81_2q := hr_81_2.resolve_right (by omega); clear hr_81_2) | skip
            refine lv_iload_n hx hb dX11_understood_146 rfl (lv_at hl 2 rfl) ?_
            refine lv_if_lt (tgt := 157) hx hb dX11_understood_147 (by decide) (fun c_149 => ?_) (fun c_149 => ?_)
            · skip
              have c_149' : r_56.toInt < 0 := jb_lt (rfl) ((by decide)) c_149
              first | (have hr_56_2q := hr_56_2.resolve_left (by omega); clear hr_56_2) | (have hr_56_2q := hr_56_2.resolve_right (by omega); clear hr_56_2) | skip
              first | (have hr_81_2q := hr_81_2.resolve_left (by omega); clear hr_81_2) | (have hr_81_2q := hr_81_2.resolve_right (by omega); clear hr_81_2) | skip
              have hgd9 : jdGd T18 qv_2.toInt = 1 := jdGd.y hk0 hr_83_3 hr_116_3 hr_81_3 hid9 (by rw [← hr_85p_1]; omega) (by rw [← hr_118_1]; omega) (Or.inl (by omega)) (Or.inl (by omega))
              refine lv_iconst (v := 1) hx hb dX11_understood_157 (by decide) ?_
              refine lv_goto (tgt := 162) hx hb dX11_understood_158 (by decide) ?_
              refine lv_istore (lv' := [(5, .int 1), (4, .int r_81), (3, .ref H_55.size), (2, .int r_56), (1, .int r_3), (0, .ref r0)]) hx hb dX11_understood_162 hl (by decide) rfl (fun ls hl => ?_)
              refine lv_iload hx hb dX11_understood_164 (lv_at hl 0 rfl) ?_
              refine lv_if_ne (tgt := 179) hx hb dX11_understood_166 (by decide) (fun c_150 => ?_) (fun c_150 => ?_)
              · skip
                refine lv_aload_n hx hb dX11_understood_179 rfl (lv_at hl 2 rfl) ?_
                try clear hsz_117 htt_117 hrc_117 hrs_117
                have hsz_151 := hh_117.2.2.2.2.2.1
                have htt_151 := hh_117.2.2.2.2.2.2.1
                refine W.room (fun hrc_151 hrs_151 => ?_)
                refine W.widen (k := LC - s.heap.size) (n := LS - jTot s.heap) (by omega) (by omega) ?_
                rw [hQ]
                exact W.aret (v := .ref H_55.size) hx hb hr (Or.inl ⟨_, rfl⟩) (Or.inr ⟨_, rfl⟩) (fun t ht hW => ⟨⟨.ref H_55.size, (pc, qv_2, qu_2, pa, n_pa, gk_2, gi_2, gz_2, gn_2, ga_2, gs_2, gu_2, (some H_55.size), T18, gQ_58, iB_58, 0, G_58), rfl, ⟨Or.inr ⟨⟨_, rfl, hgc_58⟩, ⟨_, rfl, hsy_57⟩⟩, by skip; (try dsimp only); refine ⟨by omega, by omega, by omega, by omega, by assumption, by omega, by omega, by omega, hr_3p_2, Or.inr (jUd.of (j := r_83.toInt) (by omega) (by omega) (by omega) (by omega) (by omega) (by omega)), rfl, Or.inr ⟨(fun q => by cases q), hX18, hgd9, hTb18, hco18⟩, jzUs.of hr_59_0 hnx9 hab8 hr_59_1, jzUx.nl hnx9 hr_59_0 hr_59_1 (by have h9 := hid9; rw [hk0] at h9; exact h9) (by omega)⟩⟩, ⟨hh_117.ra (by first | (simp only; omega) | omega) (by first | (simp only; omega) | omega) (M1 := [(bo, 2, 1, .int pc), (js, 6, 7, .int qv_2), (js, 6, 8, .int qu_2), (bo, 2, 0, .ref pa)]) [3, 0, 1, 4] rfl ht, hg_62, hNn_58, by rw [ht]; exact hh_117.iv 3 rfl, by rw [ht]; exact hh_117.2.2.2.2.2.2.2.2.sub (L1 := [(jFy, jYb dC dI G_58), (jFib, jIB dC dI ca G_58 0 iB_58), (jFqd, jQD dC dI ca G_58 none gQ_58)]) [2, 0, 1] rfl, by rw [ht]; exact hh_117.2.2.2.2.2.2.2.1.sub [0, 1, 2, 3, 4, 5, 6] rfl⟩⟩, by rw [ht]; try exact hh_117.1.1, fun q h9 hq => by rw [ht]; try exact hh_117.1.2.1 q h9 hq⟩) hh_117.1.2.2 dX11_understood_180
              · skip
                exact absurd c_150 (by decide)
            · skip
              have c_149' : r_56.toInt ≥ 0 := jb_lt_n (rfl) ((by decide)) c_149
              first | (have hr_56_2q := hr_56_2.resolve_left (by omega); clear hr_56_2) | (have hr_56_2q := hr_56_2.resolve_right (by omega); clear hr_56_2) | skip
              first | (have hr_81_2q := hr_81_2.resolve_left (by omega); clear hr_81_2) | (have hr_81_2q := hr_81_2.resolve_right (by omega); clear hr_81_2) | skip
              obtain ⟨hgP_152, hgM_152⟩ := jQD.at (ca := ca) (hh_117.iv 1 rfl) hgc_58 (fun q => by cases q)
              have hh_153 := ((hh_117.sub (L1 := [(js, 6, 7, .int qv_2), (js, 6, 8, .int qu_2), (r0, 13, 4, .ref bo), (bo, 2, 1, .int pc), (bo, 2, 0, .ref pa), (r0, 13, 3, .ref ou), (r0, 13, 1, .ref fm), (fm, 4, 1, .int fl), (r0, 13, 2, .ref js), (js, 6, 0, .ref wk), (js, 6, 1, .ref wi), (js, 6, 2, .ref wz), (js, 6, 3, .ref jnx), (js, 6, 4, .ref jkf), (js, 6, 5, .ref jks), (js, 6, 6, .ref jun), (fm, 4, 0, .ref bd_)]) [0, 1, 2, 3, 4, 5, 6, 7, 8, 9, 10, 11, 12, 13, 14, 15, 16] rfl (M1 := [(wk, 140, 1502, ca 1, gk_2), (wi, 141, 1502, ca 1, gi_2), (wz, 142, 1502, ca 1, gz_2), (jnx, 143, 1502, ca 1, gn_2), (jkf, 144, 1502, ca 1, ga_2), (jks, 145, 1502, ca 1, gs_2), (jun, 146, 3000, ca 1, gu_2), (bd_, 100, 3000, ca 0, fb)]) [0, 1, 2, 3, 4, 5, 6, 7] rfl (I1 := [(jFib, jIB dC dI ca G_58 0 iB_58), (jFqd, jQD dC dI ca G_58 none gQ_58), (jFy, jYb dC dI G_58), ([(2, 0), (2, 1)], jOl (dC, dI) G0 2 [bo, ou] s.heap)]) [0, 1, 2, 3] rfl).more (hgP_152.sub (L1 := [(H_55.size, 10, 2, .int (gQ_58.nd H_55.size)), (H_55.size, 10, 0, (gQ_58.iv H_55.size)), (H_55.size, 10, 1, (gQ_58.ab H_55.size))]) [0, 1, 2] rfl)).moreM hgM_152
              clear hh_117
              refine lv_aload_n hx hb dX11_understood_150 rfl (lv_at hl 1 rfl) ?_
              have hwf_154 := hh_153.at 1 rfl
              have hh_155 := hh_153.sub (L1 := [(H_55.size, 10, 2, .int (gQ_58.nd H_55.size)), (H_55.size, 10, 1, (gQ_58.ab H_55.size)), (js, 6, 7, .int qv_2), (js, 6, 8, .int qu_2), (r0, 13, 4, .ref bo), (bo, 2, 1, .int pc), (bo, 2, 0, .ref pa), (r0, 13, 3, .ref ou), (r0, 13, 1, .ref fm), (fm, 4, 1, .int fl), (r0, 13, 2, .ref js), (js, 6, 0, .ref wk), (js, 6, 1, .ref wi), (js, 6, 2, .ref wz), (js, 6, 3, .ref jnx), (js, 6, 4, .ref jkf), (js, 6, 5, .ref jks), (js, 6, 6, .ref jun), (fm, 4, 0, .ref bd_)]) [0, 2, 3, 4, 5, 6, 7, 8, 9, 10, 11, 12, 13, 14, 15, 16, 17, 18, 19] rfl (M1 := [(wk, 140, 1502, ca 1, gk_2), (wi, 141, 1502, ca 1, gi_2), (wz, 142, 1502, ca 1, gz_2), (jnx, 143, 1502, ca 1, gn_2), (jkf, 144, 1502, ca 1, ga_2), (jks, 145, 1502, ca 1, gs_2), (jun, 146, 3000, ca 1, gu_2), (bd_, 100, 3000, ca 0, fb)]) [0, 1, 2, 3, 4, 5, 6, 7] rfl (I1 := [(jFib, jIB dC dI ca G_58 0 iB_58), (jFqd, jQD dC dI ca G_58 none gQ_58), (jFy, jYb dC dI G_58), ([(2, 0), (2, 1)], jOl (dC, dI) G0 2 [bo, ou] s.heap)]) [0, 1, 2, 3] rfl
              clear hh_153
              obtain ⟨v_156, hv_156, hh_157⟩ := hh_155.pin (C := RX8) (T := TX8) (N := 5) hB10 rfl (by decide) hgc_58 (i := 0) (by decide) rfl
              clear hh_155
              have hwe151 : (gQ_58.iv H_55.size) = v_156 := jf.uniq hwf_154 (hh_157.at 0 rfl)
              clear hwf_154
              rcases hv_156 with rfl | ⟨id_158, rfl, hg_id_158⟩
              · refine j7_read hx hb hown hK (C := RX8) (T := TX8) (N := 5) rfl hly_10_0 hlk_114 (hh_157.at 0 rfl) dX11_understood_151 ?_
                refine lv_ifnullN (tgt := 161) hx hb dX11_understood_154 (by decide) ?_
                have hgd9 : jdGd T18 qv_2.toInt ≠ 1 := jdGd.n hk0 hr_83_3 (fun _ => hr_116_3) hr_81_3 hid9 (Or.inr ⟨by rw [← hr_85p_1]; omega, Or.inr (Or.inr ⟨by omega, hr_59_1.nul hr_59_0 hwe151⟩)⟩)
                refine lv_iconst (v := 0) hx hb dX11_understood_161 (by decide) ?_
                refine lv_istore (lv' := [(5, .int 0), (4, .int r_81), (3, .ref H_55.size), (2, .int r_56), (1, .int r_3), (0, .ref r0)]) hx hb dX11_understood_162 hl (by decide) rfl (fun ls hl => ?_)
                refine lv_iload hx hb dX11_understood_164 (lv_at hl 0 rfl) ?_
                refine lv_if_ne (tgt := 179) hx hb dX11_understood_166 (by decide) (fun c_159 => ?_) (fun c_159 => ?_)
                · skip
                  exact absurd c_159 (by decide)
                · skip
                  first | (have hr_56_2q := hr_56_2.resolve_left (by omega); clear hr_56_2) | (have hr_56_2q := hr_56_2.resolve_right (by omega); clear hr_56_2) | skip
                  first | (have hr_81_2q := hr_81_2.resolve_left (by omega); clear hr_81_2) | (have hr_81_2q := hr_81_2.resolve_right (by omega); clear hr_81_2) | skip
                  refine lv_aload_n hx hb dX11_understood_169 rfl (lv_at hl 5 rfl) ?_
                  refine lv_aload_n hx hb dX11_understood_170 rfl (lv_at hl 2 rfl) ?_
                  refine lv_sipush (v := (-32600)) hx hb dX11_understood_171 (by decide) ?_
                  try clear hsz_117 htt_117 hrc_117 hrs_117
                  have hsz_160 := hh_157.2.2.2.2.2.1
                  have htt_160 := hh_157.2.2.2.2.2.2.1
                  refine W.room (fun hrc_160 hrs_160 => ?_)
                  refine va_callv (A0 := jA base) (H0 := s.heap) (va_runV (As := [.ref H_55.size, .int (-32600)]) (rest := []) ⟨hx, hb, hml, hown, hts⟩ (uX11_refuse l dC dI ca base B hB hAp hB2 hB4 hB10 hB13 hB17 hB196 hB199 G_58 H_117 r0 H_55.size (-32600) bo pc pa n_pa ou LC LS) (cwV 2 hts (jgV (jWr_26 _ (List.mem_of_getElem? (i := 3) rfl)) (jWr_26 _ (List.mem_of_getElem? (i := 4) rfl)) (jWr_26 _ (List.mem_of_getElem? (i := 5) rfl)) (jWr_1 _ (List.mem_of_getElem? (i := 2) rfl)) (jWr_26 _ (List.mem_of_getElem? (i := 6) rfl))) rfl rfl rfl (by decide +kernel) ⟨by rw [← hR]; exact Nat.le_of_ble_eq_true rfl, by rw [← hR]; exact Nat.le_of_ble_eq_true rfl⟩) ⟨fun a U g mk q => by obtain ⟨q0, q1, q2, qK, q10, q11, q12, q13, q14, q15, q16, q17⟩ := q; exact ⟨q0, q1, q2, jG.calling g mk a qK, q10, q11, q12, q13, q14, q15, q16, q17⟩, hh_157.recv (C := RX11) (T := TX11) (N := 19) hB13 rfl (by decide) hg_60 hK, fun U hU hW => ⟨rfl, hU, hh_157.2.1, hG.step hW hU hh_157.1, hgc_58, hg_60, hg_61, hg_62, hg_63, (hh_157.2.2.1.sub (L1 := [(r0, 13, 4, .ref bo), (bo, 2, 1, .int pc), (bo, 2, 0, .ref pa), (r0, 13, 3, .ref ou)]) [5, 6, 7, 8] rfl), (hh_157.2.2.2.2.2.2.2.2.sub (L1 := [(jFy, jYb dC dI G_58)]) [2] rfl), (by omega), (by omega), ⟨(by first | omega | rfl | assumption | fail), (by first | omega | rfl | assumption | fail), (by first | omega | rfl | assumption | fail), (by first | omega | rfl | assumption | fail), (by first | assumption | fail | omega)⟩⟩⟩ rfl rfl hl.1 rfl (lv_room (Nat.le_of_ble_eq_true rfl)) dX11_understood_174 ⟨by rw [hRc]; omega, by rw [hRs]; omega⟩) hh_157.1 (fun q _ h => h) (fun q h => h) (fun u_160 t_160 H_160 locs_160 ht_160 hvm_160 hr_161 hb_160 hz_160 hk_160 hS_160 => ?_)
                  obtain ⟨qc_160, qa_160, m_qa_160, G_160⟩ := u_160
                  rw [ht_160] at hb_160
                  simp only at hb_160
                  obtain ⟨⟨hb_1601, hb_1602, hb_1603, hb_1604, hb_1605, hb_1606⟩, hgq_160_0, hN_160, hbO_160, hbE_160⟩ := hb_160
                  have hY_160 := hN_160
                  have hW_160 := hN_160
                  have hN_160 : (jNk [0, 1, 3, 4, 5, 6, 7, 8, 9, 11, 12, 13, 14, 15, 16, 175]) G_58 G_160 := hN_160.sub (by decide)
                  have hh_160 : jSt (dC, dI) B base G0 G_160 EX11_understoodI s.heap (((n_pa - n_pa) / 16 + 11) + ((m_qa_160 - n_pa) / 16)) ((2 * (n_pa - n_pa) + 267) + (2 * (m_qa_160 - n_pa))) [(bo, 2, 1, .int qc_160), (bo, 2, 0, .ref qa_160), (H_55.size, 10, 0, .null), (H_55.size, 10, 2, .int (gQ_58.nd H_55.size)), (H_55.size, 10, 1, (gQ_58.ab H_55.size)), (js, 6, 7, .int qv_2), (js, 6, 8, .int qu_2), (r0, 13, 4, .ref bo), (r0, 13, 3, .ref ou), (r0, 13, 1, .ref fm), (fm, 4, 1, .int fl), (r0, 13, 2, .ref js), (js, 6, 0, .ref wk), (js, 6, 1, .ref wi), (js, 6, 2, .ref wz), (js, 6, 3, .ref jnx), (js, 6, 4, .ref jkf), (js, 6, 5, .ref jks), (js, 6, 6, .ref jun), (fm, 4, 0, .ref bd_)] [(wk, 140, 1502, ca 1, gk_2), (wi, 141, 1502, ca 1, gi_2), (wz, 142, 1502, ca 1, gz_2), (jnx, 143, 1502, ca 1, gn_2), (jkf, 144, 1502, ca 1, ga_2), (jks, 145, 1502, ca 1, gs_2), (jun, 146, 3000, ca 1, gu_2), (bd_, 100, 3000, ca 0, fb)] [(jFib, jIB dC dI ca G_58 0 iB_58), (jFqd, jQD dC dI ca G_58 none gQ_58)] H_160 locs_160 := (hh_157.callG hb_1601 hb_1602 hb_1603 hb_1604 hb_1605 hS_160 rfl (L1 := [(H_55.size, 10, 0, .null), (H_55.size, 10, 2, .int (gQ_58.nd H_55.size)), (H_55.size, 10, 1, (gQ_58.ab H_55.size)), (js, 6, 7, .int qv_2), (js, 6, 8, .int qu_2), (r0, 13, 4, .ref bo), (r0, 13, 3, .ref ou), (r0, 13, 1, .ref fm), (fm, 4, 1, .int fl), (r0, 13, 2, .ref js), (js, 6, 0, .ref wk), (js, 6, 1, .ref wi), (js, 6, 2, .ref wz), (js, 6, 3, .ref jnx), (js, 6, 4, .ref jkf), (js, 6, 5, .ref jks), (js, 6, 6, .ref jun), (fm, 4, 0, .ref bd_)]) [0, 1, 2, 3, 4, 5, 8, 9, 10, 11, 12, 13, 14, 15, 16, 17, 18, 19] rfl rfl (M1 := [(wk, 140, 1502, ca 1, gk_2), (wi, 141, 1502, ca 1, gi_2), (wz, 142, 1502, ca 1, gz_2), (jnx, 143, 1502, ca 1, gn_2), (jkf, 144, 1502, ca 1, ga_2), (jks, 145, 1502, ca 1, gs_2), (jun, 146, 3000, ca 1, gu_2), (bd_, 100, 3000, ca 0, fb)]) [0, 1, 2, 3, 4, 5, 6, 7] rfl rfl (I1 := [(jFib, jIB dC dI ca G_58 0 iB_58), (jFqd, jQD dC dI ca G_58 none gQ_58)]) [0, 1] rfl rfl).more hb_1606
                  have hNn_160 : (jNk [0, 1, 3, 4, 5, 6, 7, 8, 9, 11, 12, 13, 14, 15, 16, 175]) G0 G_160 := (hNn_58).tr hN_160
                  have hg_162 := hb_1602 _ _ hgc_58
                  have hg_163 := hb_1602 _ _ hg_60
                  have hg_164 := hb_1602 _ _ hg_61
                  have hg_165 := hb_1602 _ _ hg_63
                  have hg_166 := hb_1602 _ _ hg_64
                  have hg_167 := hb_1602 _ _ hg_65
                  have hg_168 := hb_1602 _ _ hg_66
                  have hg_169 := hb_1602 _ _ hg_67
                  have hg_170 := hb_1602 _ _ hg_68
                  have hg_171 := hb_1602 _ _ hg_69
                  have hg_172 := hb_1602 _ _ hg_70
                  have hg_173 := hb_1602 _ _ hg_71
                  have hg_174 := hb_1602 _ _ hg_72
                  have hg_175 := hb_1602 _ _ hg_73
                  have hd_176 := jIB.grow (r := 0) (hh_160.iv 0 rfl) hb_1602 hW_160 (by decide)
                  have hh_177 := hh_160.sub (L1 := [(bo, 2, 1, .int qc_160), (bo, 2, 0, .ref qa_160), (H_55.size, 10, 0, .null), (H_55.size, 10, 2, .int (gQ_58.nd H_55.size)), (H_55.size, 10, 1, (gQ_58.ab H_55.size)), (js, 6, 7, .int qv_2), (js, 6, 8, .int qu_2), (r0, 13, 4, .ref bo), (r0, 13, 3, .ref ou), (r0, 13, 1, .ref fm), (fm, 4, 1, .int fl), (r0, 13, 2, .ref js), (js, 6, 0, .ref wk), (js, 6, 1, .ref wi), (js, 6, 2, .ref wz), (js, 6, 3, .ref jnx), (js, 6, 4, .ref jkf), (js, 6, 5, .ref jks), (js, 6, 6, .ref jun), (fm, 4, 0, .ref bd_)]) [0, 1, 2, 3, 4, 5, 6, 7, 8, 9, 10, 11, 12, 13, 14, 15, 16, 17, 18, 19] rfl (M1 := [(wk, 140, 1502, ca 1, gk_2), (wi, 141, 1502, ca 1, gi_2), (wz, 142, 1502, ca 1, gz_2), (jnx, 143, 1502, ca 1, gn_2), (jkf, 144, 1502, ca 1, ga_2), (jks, 145, 1502, ca 1, gs_2), (jun, 146, 3000, ca 1, gu_2), (bd_, 100, 3000, ca 0, fb)]) [0, 1, 2, 3, 4, 5, 6, 7] rfl (I1 := [(jFqd, jQD dC dI ca G_58 none gQ_58)]) [1] rfl
                  clear hh_160
                  have hh_178 := hh_177.addI (jIB.ie hd_176)
                  clear hh_177
                  have hd_179 := jQD.grow (ca := ca) (hh_178.iv 1 rfl) hb_1602 hW_160 (by decide)
                  have hh_180 := hh_178.sub (L1 := [(bo, 2, 1, .int qc_160), (bo, 2, 0, .ref qa_160), (H_55.size, 10, 0, .null), (H_55.size, 10, 2, .int (gQ_58.nd H_55.size)), (H_55.size, 10, 1, (gQ_58.ab H_55.size)), (js, 6, 7, .int qv_2), (js, 6, 8, .int qu_2), (r0, 13, 4, .ref bo), (r0, 13, 3, .ref ou), (r0, 13, 1, .ref fm), (fm, 4, 1, .int fl), (r0, 13, 2, .ref js), (js, 6, 0, .ref wk), (js, 6, 1, .ref wi), (js, 6, 2, .ref wz), (js, 6, 3, .ref jnx), (js, 6, 4, .ref jkf), (js, 6, 5, .ref jks), (js, 6, 6, .ref jun), (fm, 4, 0, .ref bd_)]) [0, 1, 2, 3, 4, 5, 6, 7, 8, 9, 10, 11, 12, 13, 14, 15, 16, 17, 18, 19] rfl (M1 := [(wk, 140, 1502, ca 1, gk_2), (wi, 141, 1502, ca 1, gi_2), (wz, 142, 1502, ca 1, gz_2), (jnx, 143, 1502, ca 1, gn_2), (jkf, 144, 1502, ca 1, ga_2), (jks, 145, 1502, ca 1, gs_2), (jun, 146, 3000, ca 1, gu_2), (bd_, 100, 3000, ca 0, fb)]) [0, 1, 2, 3, 4, 5, 6, 7] rfl (I1 := [(jFib, jIB dC dI ca G_160 0 iB_58)]) [0] rfl
                  clear hh_178
                  have hh_181 := hh_180.addI (jQD.ie hd_179)
                  clear hh_180
                  have hh_182 := hh_181.addIs hbE_160
                  have hd_183 := jOl.trL (hh_157.iv 3 rfl) hh_157.2.2.2.2.1 hbO_160 (by simp)
                  have hh_184 := hh_182.addI (jOl.ie (dC := dC) (dI := dI) (G0 := G0) (k := 2) (rs := [bo, ou]) (H0 := s.heap) (F := [(2, 0), (2, 1)]) (C := RX0) (T := TX0) (N := 2) rfl (by decide) hh_182.2.2.2.2.1 (hd_183))
                  clear hh_182
                  try simp only at hr_161
                  obtain ⟨hr_161_0, hr_161_1, hr_161_2, hr_161_3, hr_161_4⟩ := hr_161
                  have hh_185 := hh_184.wk (zc1 := (m_qa_160 - n_pa) / 16 + 11) (zs1 := 2 * (m_qa_160 - n_pa) + 267) (by omega) (by omega)
                  clear hh_184
                  try clear hsz_160 htt_160 hrc_160 hrs_160
                  try clear hb_1604 hb_1605
                  refine lv_null hx hb dX11_understood_177 ?_
                  try clear hsz_160 htt_160 hrc_160 hrs_160
                  have hsz_186 := hh_185.2.2.2.2.2.1
                  have htt_186 := hh_185.2.2.2.2.2.2.1
                  refine W.room (fun hrc_186 hrs_186 => ?_)
                  refine W.widen (k := LC - s.heap.size) (n := LS - jTot s.heap) (by omega) (by omega) ?_
                  rw [hQ]
                  exact W.aret (v := .null) hx hb hr (Or.inl ⟨_, rfl⟩) (Or.inl rfl) (fun t ht hW => ⟨⟨.null, (qc_160, qv_2, qu_2, qa_160, m_qa_160, gk_2, gi_2, gz_2, gn_2, ga_2, gs_2, gu_2, none, T18, gQ_58, iB_58, 0, G_160), rfl, ⟨Or.inl rfl, by skip; (try dsimp only); refine ⟨by omega, by omega, by omega, by omega, by assumption, by omega, by omega, by omega, hr_3p_2, Or.inl rfl, rfl, Or.inl ⟨rfl, Or.inr ⟨hX18, hgd9⟩⟩, jzUs.of hr_59_0 hnx9 hab8 hr_59_1, jzUx.no⟩⟩, ⟨hh_185.ra (by first | (simp only; omega) | omega) (by first | (simp only; omega) | omega) (M1 := [(bo, 2, 1, .int qc_160), (js, 6, 7, .int qv_2), (js, 6, 8, .int qu_2), (bo, 2, 0, .ref qa_160)]) [0, 5, 6, 1] rfl ht, hgq_160_0, hNn_160, by rw [ht]; exact hh_185.iv 0 rfl, by rw [ht]; exact hh_185.2.2.2.2.2.2.2.2.sub (L1 := [(jFy, jYb dC dI G_160), (jFib, jIB dC dI ca G_160 0 iB_58), (jFqd, jQD dC dI ca G_160 none gQ_58)]) [1, 3, 2] rfl, by rw [ht]; exact hh_185.2.2.2.2.2.2.2.1.sub [0, 1, 2, 3, 4, 5, 6] rfl⟩⟩, by rw [ht]; try exact hh_185.1.1, fun q h9 hq => by rw [ht]; try exact hh_185.1.2.1 q h9 hq⟩) hh_185.1.2.2 dX11_understood_178
              · refine j7_read hx hb hown hK (C := RX8) (T := TX8) (N := 5) rfl hly_10_0 hlk_114 (hh_157.at 0 rfl) dX11_understood_151 ?_
                refine lv_ifnull hx hb dX11_understood_154 ?_
                have hgd9 : jdGd T18 qv_2.toInt = 1 := jdGd.y hk0 hr_83_3 hr_116_3 hr_81_3 hid9 (by rw [← hr_85p_1]; omega) (by rw [← hr_118_1]; omega) (Or.inl (by omega)) (Or.inr (hr_59_1.yes hr_59_0 hwe151))
                refine lv_iconst (v := 1) hx hb dX11_understood_157 (by decide) ?_
                refine lv_goto (tgt := 162) hx hb dX11_understood_158 (by decide) ?_
                refine lv_istore (lv' := [(5, .int 1), (4, .int r_81), (3, .ref H_55.size), (2, .int r_56), (1, .int r_3), (0, .ref r0)]) hx hb dX11_understood_162 hl (by decide) rfl (fun ls hl => ?_)
                refine lv_iload hx hb dX11_understood_164 (lv_at hl 0 rfl) ?_
                refine lv_if_ne (tgt := 179) hx hb dX11_understood_166 (by decide) (fun c_187 => ?_) (fun c_187 => ?_)
                · skip
                  refine lv_aload_n hx hb dX11_understood_179 rfl (lv_at hl 2 rfl) ?_
                  try clear hsz_117 htt_117 hrc_117 hrs_117
                  have hsz_188 := hh_157.2.2.2.2.2.1
                  have htt_188 := hh_157.2.2.2.2.2.2.1
                  refine W.room (fun hrc_188 hrs_188 => ?_)
                  refine W.widen (k := LC - s.heap.size) (n := LS - jTot s.heap) (by omega) (by omega) ?_
                  rw [hQ]
                  exact W.aret (v := .ref H_55.size) hx hb hr (Or.inl ⟨_, rfl⟩) (Or.inr ⟨_, rfl⟩) (fun t ht hW => ⟨⟨.ref H_55.size, (pc, qv_2, qu_2, pa, n_pa, gk_2, gi_2, gz_2, gn_2, ga_2, gs_2, gu_2, (some H_55.size), T18, gQ_58, iB_58, 0, G_58), rfl, ⟨Or.inr ⟨⟨_, rfl, hgc_58⟩, ⟨_, rfl, hsy_57⟩⟩, by skip; (try dsimp only); refine ⟨by omega, by omega, by omega, by omega, by assumption, by omega, by omega, by omega, hr_3p_2, Or.inr (jUd.of (j := r_83.toInt) (by omega) (by omega) (by omega) (by omega) (by omega) (by omega)), rfl, Or.inr ⟨(fun q => by cases q), hX18, hgd9, hTb18, hco18⟩, jzUs.of hr_59_0 hnx9 hab8 hr_59_1, jzUx.rf hnx9 hr_59_0 hr_59_1 (by have h9 := hid9; rw [hk0] at h9; exact h9) (by omega) hwe151 hTb18 hTw18⟩⟩, ⟨hh_157.ra (by first | (simp only; omega) | omega) (by first | (simp only; omega) | omega) (M1 := [(bo, 2, 1, .int pc), (js, 6, 7, .int qv_2), (js, 6, 8, .int qu_2), (bo, 2, 0, .ref pa)]) [6, 3, 4, 7] rfl ht, hg_62, hNn_58, by rw [ht]; exact hh_157.iv 3 rfl, by rw [ht]; exact hh_157.2.2.2.2.2.2.2.2.sub (L1 := [(jFy, jYb dC dI G_58), (jFib, jIB dC dI ca G_58 0 iB_58), (jFqd, jQD dC dI ca G_58 none gQ_58)]) [2, 0, 1] rfl, by rw [ht]; exact hh_157.2.2.2.2.2.2.2.1.sub [0, 1, 2, 3, 4, 5, 6] rfl⟩⟩, by rw [ht]; try exact hh_157.1.1, fun q h9 hq => by rw [ht]; try exact hh_157.1.2.1 q h9 hq⟩) hh_157.1.2.2 dX11_understood_180
                · skip
                  exact absurd c_187 (by decide)
          · skip
            have c_148' : r_81.toInt ≥ 0 := jb_lt_n (rfl) ((by decide)) c_148
            first | (have hr_56_2q := hr_56_2.resolve_left (by omega); clear hr_56_2) | (have hr_56_2q := hr_56_2.resolve_right (by omega); clear hr_56_2) | skip
            first | (have hr_81_2q := hr_81_2.resolve_left (by omega); clear hr_81_2) | (have hr_81_2q := hr_81_2.resolve_right (by omega); clear hr_81_2) | skip
            refine lv_aload_n hx hb dX11_understood_133 rfl (lv_at hl 4 rfl) ?_
            refine j7_read hx hb hown hK (C := RX11) (T := TX11) (N := 19) rfl hly_13_2 hlk_28 (hh_117.at 8 rfl) dX11_understood_134 ?_
            refine lv_iload hx hb dX11_understood_137 (lv_at hl 0 rfl) ?_
            try clear hsz_117 htt_117 hrc_117 hrs_117
            have hsz_189 := hh_117.2.2.2.2.2.1
            have htt_189 := hh_117.2.2.2.2.2.2.1
            refine W.room (fun hrc_189 hrs_189 => ?_)
            refine va_calli (A0 := jA base) (H0 := s.heap) (va_runV (As := [.int r_81]) (rest := []) ⟨hx, hb, hml, hown, hts⟩ (uX4_kindOfJ l dC dI ca base B hB hAp hB6 hB140 G_58 H_117 js r_81 qv_2 qu_2 wk wi wz jnx jkf jks jun T18 gk_2 gi_2 gz_2 gn_2 ga_2 gs_2 gu_2) (cwV 1 hts (jgV (jWr_27 _ (List.mem_of_getElem? (i := 5) rfl)) (jWr_23 _ (List.mem_of_getElem? (i := 15) rfl)) (jWr_23 _ (List.mem_of_getElem? (i := 16) rfl)) (jWr_1 _ (List.mem_of_getElem? (i := 22) rfl)) (jWr_23 _ (List.mem_of_getElem? (i := 17) rfl))) rfl rfl rfl (by decide +kernel) ⟨by rw [← hR]; exact Nat.le_of_ble_eq_true rfl, by rw [← hR]; exact Nat.le_of_ble_eq_true rfl⟩) ⟨fun a U g mk q => by obtain ⟨q0, q1, q2, qK, q10, q11, q12, q13, q14, q15, q16, q17, q18, q19, q20⟩ := q; exact ⟨q0, q1, q2, jG.calling g mk a qK, q10, q11, q12, q13, q14, q15, q16, q17, q18, q19, q20⟩, hh_117.recv (C := RX4) (T := TX4) (N := 12) hB6 rfl (by decide) hg_65 hK, fun U hU hW => ⟨rfl, hU, hh_117.2.1, hG.step hW hU hh_117.1, hg_65, hg_66, hg_67, hg_68, hg_69, hg_70, hg_71, hg_72, (hh_117.2.2.1.sub (L1 := [(js, 6, 7, .int qv_2), (js, 6, 8, .int qu_2), (js, 6, 0, .ref wk), (js, 6, 1, .ref wi), (js, 6, 2, .ref wz), (js, 6, 3, .ref jnx), (js, 6, 4, .ref jkf), (js, 6, 5, .ref jks), (js, 6, 6, .ref jun)]) [0, 1, 9, 10, 11, 12, 13, 14, 15] rfl), (hh_117.2.2.2.2.2.2.2.1.sub (L1 := [(wk, 140, 1502, ca 1, gk_2), (wi, 141, 1502, ca 1, gi_2), (wz, 142, 1502, ca 1, gz_2), (jnx, 143, 1502, ca 1, gn_2), (jkf, 144, 1502, ca 1, ga_2), (jks, 145, 1502, ca 1, gs_2), (jun, 146, 3000, ca 1, gu_2)]) [0, 1, 2, 3, 4, 5, 6] rfl), ⟨(by first | omega | rfl | assumption | exact hTb18 | exact hqR18 | exact hco18), (by first | omega | rfl | assumption | exact hTb18 | exact hqR18 | exact hco18), (by first | omega | rfl | assumption | exact hTb18 | exact hqR18 | exact hco18), (by first | omega | rfl | assumption | exact hTb18 | exact hqR18 | exact hco18), (by first | assumption | exact hTb18 | exact hqR18 | exact hco18 | omega)⟩⟩⟩ rfl rfl hl.1 rfl (lv_room (Nat.le_of_ble_eq_true rfl)) dX11_understood_139 ⟨by rw [hRc]; show _ + 0 ≤ _; omega, by rw [hRs]; show _ + 0 ≤ _; omega⟩) hh_117.1 (fun q _ h => h) (fun q h => h) (fun r_190 u_189 t_189 H_189 locs_189 ht_189 hvm_189 hr_190 hb_189 hz_189 hk_189 hS_189 => ?_)
            rw [ht_189] at hb_189
            obtain ⟨hb_189, hbF_189⟩ := hb_189
            obtain ⟨hb_1891, hb_1892, hb_1893, hb_1894, hb_1895⟩ := hb_189
            have hh_189 : jSt (dC, dI) B base G0 G_58 EX11_understoodI s.heap ((n_pa - n_pa) / 16 + 11) (2 * (n_pa - n_pa) + 267) [(js, 6, 7, .int qv_2), (js, 6, 8, .int qu_2), (r0, 13, 4, .ref bo), (bo, 2, 1, .int pc), (bo, 2, 0, .ref pa), (r0, 13, 3, .ref ou), (r0, 13, 1, .ref fm), (fm, 4, 1, .int fl), (r0, 13, 2, .ref js), (js, 6, 0, .ref wk), (js, 6, 1, .ref wi), (js, 6, 2, .ref wz), (js, 6, 3, .ref jnx), (js, 6, 4, .ref jkf), (js, 6, 5, .ref jks), (js, 6, 6, .ref jun), (fm, 4, 0, .ref bd_)] [(wk, 140, 1502, ca 1, gk_2), (wi, 141, 1502, ca 1, gi_2), (wz, 142, 1502, ca 1, gz_2), (jnx, 143, 1502, ca 1, gn_2), (jkf, 144, 1502, ca 1, ga_2), (jks, 145, 1502, ca 1, gs_2), (jun, 146, 3000, ca 1, gu_2), (bd_, 100, 3000, ca 0, fb)] [(jFib, jIB dC dI ca G_58 0 iB_58), (jFqd, jQD dC dI ca G_58 none gQ_58), (jFy, jYb dC dI G_58), ([(2, 0), (2, 1)], jOl (dC, dI) G0 2 [bo, ou] s.heap)] H_189 locs_189 := ((hh_117.call hb_1891 hb_1892 hb_1893 hb_1894 hS_189 rfl (L1 := [(js, 6, 7, .int qv_2), (js, 6, 8, .int qu_2), (r0, 13, 4, .ref bo), (bo, 2, 1, .int pc), (bo, 2, 0, .ref pa), (r0, 13, 3, .ref ou), (r0, 13, 1, .ref fm), (fm, 4, 1, .int fl), (r0, 13, 2, .ref js), (js, 6, 0, .ref wk), (js, 6, 1, .ref wi), (js, 6, 2, .ref wz), (js, 6, 3, .ref jnx), (js, 6, 4, .ref jkf), (js, 6, 5, .ref jks), (js, 6, 6, .ref jun), (fm, 4, 0, .ref bd_)]) [0, 1, 2, 3, 4, 5, 6, 7, 8, 9, 10, 11, 12, 13, 14, 15, 16] rfl rfl (M1 := [(wk, 140, 1502, ca 1, gk_2), (wi, 141, 1502, ca 1, gi_2), (wz, 142, 1502, ca 1, gz_2), (jnx, 143, 1502, ca 1, gn_2), (jkf, 144, 1502, ca 1, ga_2), (jks, 145, 1502, ca 1, gs_2), (jun, 146, 3000, ca 1, gu_2), (bd_, 100, 3000, ca 0, fb)]) [0, 1, 2, 3, 4, 5, 6, 7] rfl rfl (I1 := [(jFib, jIB dC dI ca G_58 0 iB_58), (jFqd, jQD dC dI ca G_58 none gQ_58), (jFy, jYb dC dI G_58), ([(2, 0), (2, 1)], jOl (dC, dI) G0 2 [bo, ou] s.heap)]) [0, 1, 2, 3] rfl rfl).more hb_1895)
            clear hh_117 ht_189 hvm_189 hz_189 hk_189 hS_189 hb_1891 hb_1892 hb_1893 hb_1894 hb_1895
            obtain ⟨hr_190_0, hr_190_1⟩ := hr_190
            refine lv_iconst (v := 1) hx hb dX11_understood_142 (by decide) ?_
            refine lv_icmp_ne (tgt := 161) hx hb dX11_understood_143 (by decide) (fun c_191 => ?_) (fun c_191 => ?_)
            · skip
              have c_191' : r_190.toInt ≠ 1 := jb_ne (rfl) ((by decide)) c_191
              try clear hr_190_0
              have hgd9 : jdGd T18 qv_2.toInt ≠ 1 := jdGd.n hk0 hr_83_3 (fun _ => hr_116_3) hr_81_3 hid9 (Or.inr ⟨by rw [← hr_85p_1]; omega, Or.inr (Or.inl ⟨by omega, by rw [← hr_190_1]; omega⟩)⟩)
              refine lv_iconst (v := 0) hx hb dX11_understood_161 (by decide) ?_
              refine lv_istore (lv' := [(5, .int 0), (4, .int r_81), (3, .ref H_55.size), (2, .int r_56), (1, .int r_3), (0, .ref r0)]) hx hb dX11_understood_162 hl (by decide) rfl (fun ls hl => ?_)
              refine lv_iload hx hb dX11_understood_164 (lv_at hl 0 rfl) ?_
              refine lv_if_ne (tgt := 179) hx hb dX11_understood_166 (by decide) (fun c_192 => ?_) (fun c_192 => ?_)
              · skip
                exact absurd c_192 (by decide)
              · skip
                first | (have hr_56_2q := hr_56_2.resolve_left (by omega); clear hr_56_2) | (have hr_56_2q := hr_56_2.resolve_right (by omega); clear hr_56_2) | skip
                first | (have hr_81_2q := hr_81_2.resolve_left (by omega); clear hr_81_2) | (have hr_81_2q := hr_81_2.resolve_right (by omega); clear hr_81_2) | skip
                refine lv_aload_n hx hb dX11_understood_169 rfl (lv_at hl 5 rfl) ?_
                refine lv_aload_n hx hb dX11_understood_170 rfl (lv_at hl 2 rfl) ?_
                refine lv_sipush (v := (-32600)) hx hb dX11_understood_171 (by decide) ?_
                try clear hsz_189 htt_189 hrc_189 hrs_189
                have hsz_193 := hh_189.2.2.2.2.2.1
                have htt_193 := hh_189.2.2.2.2.2.2.1
                refine W.room (fun hrc_193 hrs_193 => ?_)
                refine va_callv (A0 := jA base) (H0 := s.heap) (va_runV (As := [.ref H_55.size, .int (-32600)]) (rest := []) ⟨hx, hb, hml, hown, hts⟩ (uX11_refuse l dC dI ca base B hB hAp hB2 hB4 hB10 hB13 hB17 hB196 hB199 G_58 H_189 r0 H_55.size (-32600) bo pc pa n_pa ou LC LS) (cwV 2 hts (jgV (jWr_26 _ (List.mem_of_getElem? (i := 3) rfl)) (jWr_26 _ (List.mem_of_getElem? (i := 4) rfl)) (jWr_26 _ (List.mem_of_getElem? (i := 5) rfl)) (jWr_1 _ (List.mem_of_getElem? (i := 2) rfl)) (jWr_26 _ (List.mem_of_getElem? (i := 6) rfl))) rfl rfl rfl (by decide +kernel) ⟨by rw [← hR]; exact Nat.le_of_ble_eq_true rfl, by rw [← hR]; exact Nat.le_of_ble_eq_true rfl⟩) ⟨fun a U g mk q => by obtain ⟨q0, q1, q2, qK, q10, q11, q12, q13, q14, q15, q16, q17⟩ := q; exact ⟨q0, q1, q2, jG.calling g mk a qK, q10, q11, q12, q13, q14, q15, q16, q17⟩, hh_189.recv (C := RX11) (T := TX11) (N := 19) hB13 rfl (by decide) hg_60 hK, fun U hU hW => ⟨rfl, hU, hh_189.2.1, hG.step hW hU hh_189.1, hgc_58, hg_60, hg_61, hg_62, hg_63, (hh_189.2.2.1.sub (L1 := [(r0, 13, 4, .ref bo), (bo, 2, 1, .int pc), (bo, 2, 0, .ref pa), (r0, 13, 3, .ref ou)]) [2, 3, 4, 5] rfl), (hh_189.2.2.2.2.2.2.2.2.sub (L1 := [(jFy, jYb dC dI G_58)]) [2] rfl), (by omega), (by omega), ⟨(by first | omega | rfl | assumption | fail), (by first | omega | rfl | assumption | fail), (by first | omega | rfl | assumption | fail), (by first | omega | rfl | assumption | fail), (by first | assumption | fail | omega)⟩⟩⟩ rfl rfl hl.1 rfl (lv_room (Nat.le_of_ble_eq_true rfl)) dX11_understood_174 ⟨by rw [hRc]; omega, by rw [hRs]; omega⟩) hh_189.1 (fun q _ h => h) (fun q h => h) (fun u_193 t_193 H_193 locs_193 ht_193 hvm_193 hr_194 hb_193 hz_193 hk_193 hS_193 => ?_)
                obtain ⟨qc_193, qa_193, m_qa_193, G_193⟩ := u_193
                rw [ht_193] at hb_193
                simp only at hb_193
                obtain ⟨⟨hb_1931, hb_1932, hb_1933, hb_1934, hb_1935, hb_1936⟩, hgq_193_0, hN_193, hbO_193, hbE_193⟩ := hb_193
                have hY_193 := hN_193
                have hW_193 := hN_193
                have hN_193 : (jNk [0, 1, 3, 4, 5, 6, 7, 8, 9, 11, 12, 13, 14, 15, 16, 175]) G_58 G_193 := hN_193.sub (by decide)
                have hh_193 : jSt (dC, dI) B base G0 G_193 EX11_understoodI s.heap (((n_pa - n_pa) / 16 + 11) + ((m_qa_193 - n_pa) / 16)) ((2 * (n_pa - n_pa) + 267) + (2 * (m_qa_193 - n_pa))) [(bo, 2, 1, .int qc_193), (bo, 2, 0, .ref qa_193), (js, 6, 7, .int qv_2), (js, 6, 8, .int qu_2), (r0, 13, 4, .ref bo), (r0, 13, 3, .ref ou), (r0, 13, 1, .ref fm), (fm, 4, 1, .int fl), (r0, 13, 2, .ref js), (js, 6, 0, .ref wk), (js, 6, 1, .ref wi), (js, 6, 2, .ref wz), (js, 6, 3, .ref jnx), (js, 6, 4, .ref jkf), (js, 6, 5, .ref jks), (js, 6, 6, .ref jun), (fm, 4, 0, .ref bd_)] [(wk, 140, 1502, ca 1, gk_2), (wi, 141, 1502, ca 1, gi_2), (wz, 142, 1502, ca 1, gz_2), (jnx, 143, 1502, ca 1, gn_2), (jkf, 144, 1502, ca 1, ga_2), (jks, 145, 1502, ca 1, gs_2), (jun, 146, 3000, ca 1, gu_2), (bd_, 100, 3000, ca 0, fb)] [(jFib, jIB dC dI ca G_58 0 iB_58), (jFqd, jQD dC dI ca G_58 none gQ_58)] H_193 locs_193 := (hh_189.callG hb_1931 hb_1932 hb_1933 hb_1934 hb_1935 hS_193 rfl (L1 := [(js, 6, 7, .int qv_2), (js, 6, 8, .int qu_2), (r0, 13, 4, .ref bo), (r0, 13, 3, .ref ou), (r0, 13, 1, .ref fm), (fm, 4, 1, .int fl), (r0, 13, 2, .ref js), (js, 6, 0, .ref wk), (js, 6, 1, .ref wi), (js, 6, 2, .ref wz), (js, 6, 3, .ref jnx), (js, 6, 4, .ref jkf), (js, 6, 5, .ref jks), (js, 6, 6, .ref jun), (fm, 4, 0, .ref bd_)]) [0, 1, 2, 5, 6, 7, 8, 9, 10, 11, 12, 13, 14, 15, 16] rfl rfl (M1 := [(wk, 140, 1502, ca 1, gk_2), (wi, 141, 1502, ca 1, gi_2), (wz, 142, 1502, ca 1, gz_2), (jnx, 143, 1502, ca 1, gn_2), (jkf, 144, 1502, ca 1, ga_2), (jks, 145, 1502, ca 1, gs_2), (jun, 146, 3000, ca 1, gu_2), (bd_, 100, 3000, ca 0, fb)]) [0, 1, 2, 3, 4, 5, 6, 7] rfl rfl (I1 := [(jFib, jIB dC dI ca G_58 0 iB_58), (jFqd, jQD dC dI ca G_58 none gQ_58)]) [0, 1] rfl rfl).more hb_1936
                have hNn_193 : (jNk [0, 1, 3, 4, 5, 6, 7, 8, 9, 11, 12, 13, 14, 15, 16, 175]) G0 G_193 := (hNn_58).tr hN_193
                have hg_195 := hb_1932 _ _ hgc_58
                have hg_196 := hb_1932 _ _ hg_60
                have hg_197 := hb_1932 _ _ hg_61
                have hg_198 := hb_1932 _ _ hg_63
                have hg_199 := hb_1932 _ _ hg_64
                have hg_200 := hb_1932 _ _ hg_65
                have hg_201 := hb_1932 _ _ hg_66
                have hg_202 := hb_1932 _ _ hg_67
                have hg_203 := hb_1932 _ _ hg_68
                have hg_204 := hb_1932 _ _ hg_69
                have hg_205 := hb_1932 _ _ hg_70
                have hg_206 := hb_1932 _ _ hg_71
                have hg_207 := hb_1932 _ _ hg_72
                have hg_208 := hb_1932 _ _ hg_73
                have hd_209 := jIB.grow (r := 0) (hh_193.iv 0 rfl) hb_1932 hW_193 (by decide)
                have hh_210 := hh_193.sub (L1 := [(bo, 2, 1, .int qc_193), (bo, 2, 0, .ref qa_193), (js, 6, 7, .int qv_2), (js, 6, 8, .int qu_2), (r0, 13, 4, .ref bo), (r0, 13, 3, .ref ou), (r0, 13, 1, .ref fm), (fm, 4, 1, .int fl), (r0, 13, 2, .ref js), (js, 6, 0, .ref wk), (js, 6, 1, .ref wi), (js, 6, 2, .ref wz), (js, 6, 3, .ref jnx), (js, 6, 4, .ref jkf), (js, 6, 5, .ref jks), (js, 6, 6, .ref jun), (fm, 4, 0, .ref bd_)]) [0, 1, 2, 3, 4, 5, 6, 7, 8, 9, 10, 11, 12, 13, 14, 15, 16] rfl (M1 := [(wk, 140, 1502, ca 1, gk_2), (wi, 141, 1502, ca 1, gi_2), (wz, 142, 1502, ca 1, gz_2), (jnx, 143, 1502, ca 1, gn_2), (jkf, 144, 1502, ca 1, ga_2), (jks, 145, 1502, ca 1, gs_2), (jun, 146, 3000, ca 1, gu_2), (bd_, 100, 3000, ca 0, fb)]) [0, 1, 2, 3, 4, 5, 6, 7] rfl (I1 := [(jFqd, jQD dC dI ca G_58 none gQ_58)]) [1] rfl
                clear hh_193
                have hh_211 := hh_210.addI (jIB.ie hd_209)
                clear hh_210
                have hd_212 := jQD.grow (ca := ca) (hh_211.iv 1 rfl) hb_1932 hW_193 (by decide)
                have hh_213 := hh_211.sub (L1 := [(bo, 2, 1, .int qc_193), (bo, 2, 0, .ref qa_193), (js, 6, 7, .int qv_2), (js, 6, 8, .int qu_2), (r0, 13, 4, .ref bo), (r0, 13, 3, .ref ou), (r0, 13, 1, .ref fm), (fm, 4, 1, .int fl), (r0, 13, 2, .ref js), (js, 6, 0, .ref wk), (js, 6, 1, .ref wi), (js, 6, 2, .ref wz), (js, 6, 3, .ref jnx), (js, 6, 4, .ref jkf), (js, 6, 5, .ref jks), (js, 6, 6, .ref jun), (fm, 4, 0, .ref bd_)]) [0, 1, 2, 3, 4, 5, 6, 7, 8, 9, 10, 11, 12, 13, 14, 15, 16] rfl (M1 := [(wk, 140, 1502, ca 1, gk_2), (wi, 141, 1502, ca 1, gi_2), (wz, 142, 1502, ca 1, gz_2), (jnx, 143, 1502, ca 1, gn_2), (jkf, 144, 1502, ca 1, ga_2), (jks, 145, 1502, ca 1, gs_2), (jun, 146, 3000, ca 1, gu_2), (bd_, 100, 3000, ca 0, fb)]) [0, 1, 2, 3, 4, 5, 6, 7] rfl (I1 := [(jFib, jIB dC dI ca G_193 0 iB_58)]) [0] rfl
                clear hh_211
                have hh_214 := hh_213.addI (jQD.ie hd_212)
                clear hh_213
                have hh_215 := hh_214.addIs hbE_193
                have hd_216 := jOl.trL (hh_189.iv 3 rfl) hh_189.2.2.2.2.1 hbO_193 (by simp)
                have hh_217 := hh_215.addI (jOl.ie (dC := dC) (dI := dI) (G0 := G0) (k := 2) (rs := [bo, ou]) (H0 := s.heap) (F := [(2, 0), (2, 1)]) (C := RX0) (T := TX0) (N := 2) rfl (by decide) hh_215.2.2.2.2.1 (hd_216))
                clear hh_215
                try simp only at hr_194
                obtain ⟨hr_194_0, hr_194_1, hr_194_2, hr_194_3, hr_194_4⟩ := hr_194
                have hh_218 := hh_217.wk (zc1 := (m_qa_193 - n_pa) / 16 + 11) (zs1 := 2 * (m_qa_193 - n_pa) + 267) (by omega) (by omega)
                clear hh_217
                try clear hsz_193 htt_193 hrc_193 hrs_193
                try clear hb_1934 hb_1935
                refine lv_null hx hb dX11_understood_177 ?_
                try clear hsz_193 htt_193 hrc_193 hrs_193
                have hsz_219 := hh_218.2.2.2.2.2.1
                have htt_219 := hh_218.2.2.2.2.2.2.1
                refine W.room (fun hrc_219 hrs_219 => ?_)
                refine W.widen (k := LC - s.heap.size) (n := LS - jTot s.heap) (by omega) (by omega) ?_
                rw [hQ]
                exact W.aret (v := .null) hx hb hr (Or.inl ⟨_, rfl⟩) (Or.inl rfl) (fun t ht hW => ⟨⟨.null, (qc_193, qv_2, qu_2, qa_193, m_qa_193, gk_2, gi_2, gz_2, gn_2, ga_2, gs_2, gu_2, none, T18, gQ_58, iB_58, 0, G_193), rfl, ⟨Or.inl rfl, by skip; (try dsimp only); refine ⟨by omega, by omega, by omega, by omega, by assumption, by omega, by omega, by omega, hr_3p_2, Or.inl rfl, rfl, Or.inl ⟨rfl, Or.inr ⟨hX18, hgd9⟩⟩, jzUs.of hr_59_0 hnx9 hab8 hr_59_1, jzUx.no⟩⟩, ⟨hh_218.ra (by first | (simp only; omega) | omega) (by first | (simp only; omega) | omega) (M1 := [(bo, 2, 1, .int qc_193), (js, 6, 7, .int qv_2), (js, 6, 8, .int qu_2), (bo, 2, 0, .ref qa_193)]) [0, 2, 3, 1] rfl ht, hgq_193_0, hNn_193, by rw [ht]; exact hh_218.iv 0 rfl, by rw [ht]; exact hh_218.2.2.2.2.2.2.2.2.sub (L1 := [(jFy, jYb dC dI G_193), (jFib, jIB dC dI ca G_193 0 iB_58), (jFqd, jQD dC dI ca G_193 none gQ_58)]) [1, 3, 2] rfl, by rw [ht]; exact hh_218.2.2.2.2.2.2.2.1.sub [0, 1, 2, 3, 4, 5, 6] rfl⟩⟩, by rw [ht]; try exact hh_218.1.1, fun q h9 hq => by rw [ht]; try exact hh_218.1.2.1 q h9 hq⟩) hh_218.1.2.2 dX11_understood_178
            · skip
              have c_191' : r_190.toInt = 1 := jb_ne_n (rfl) ((by decide)) c_191
              first | (have hr_81_2q := hr_81_2.resolve_left (by omega); clear hr_81_2) | (have hr_81_2q := hr_81_2.resolve_right (by omega); clear hr_81_2) | skip
              first | (have hr_190_0q := hr_190_0.resolve_left (by omega); clear hr_190_0) | (have hr_190_0q := hr_190_0.resolve_right (by omega); clear hr_190_0) | try clear hr_190_0
              refine lv_iload_n hx hb dX11_understood_146 rfl (lv_at hl 2 rfl) ?_
              refine lv_if_lt (tgt := 157) hx hb dX11_understood_147 (by decide) (fun c_220 => ?_) (fun c_220 => ?_)
              · skip
                have c_220' : r_56.toInt < 0 := jb_lt (rfl) ((by decide)) c_220
                first | (have hr_56_2q := hr_56_2.resolve_left (by omega); clear hr_56_2) | (have hr_56_2q := hr_56_2.resolve_right (by omega); clear hr_56_2) | skip
                first | (have hr_81_2q := hr_81_2.resolve_left (by omega); clear hr_81_2) | (have hr_81_2q := hr_81_2.resolve_right (by omega); clear hr_81_2) | skip
                have hgd9 : jdGd T18 qv_2.toInt = 1 := jdGd.y hk0 hr_83_3 hr_116_3 hr_81_3 hid9 (by rw [← hr_85p_1]; omega) (by rw [← hr_118_1]; omega) (Or.inr (by rw [← hr_190_1]; omega)) (Or.inl (by omega))
                refine lv_iconst (v := 1) hx hb dX11_understood_157 (by decide) ?_
                refine lv_goto (tgt := 162) hx hb dX11_understood_158 (by decide) ?_
                refine lv_istore (lv' := [(5, .int 1), (4, .int r_81), (3, .ref H_55.size), (2, .int r_56), (1, .int r_3), (0, .ref r0)]) hx hb dX11_understood_162 hl (by decide) rfl (fun ls hl => ?_)
                refine lv_iload hx hb dX11_understood_164 (lv_at hl 0 rfl) ?_
                refine lv_if_ne (tgt := 179) hx hb dX11_understood_166 (by decide) (fun c_221 => ?_) (fun c_221 => ?_)
                · skip
                  refine lv_aload_n hx hb dX11_understood_179 rfl (lv_at hl 2 rfl) ?_
                  try clear hsz_189 htt_189 hrc_189 hrs_189
                  have hsz_222 := hh_189.2.2.2.2.2.1
                  have htt_222 := hh_189.2.2.2.2.2.2.1
                  refine W.room (fun hrc_222 hrs_222 => ?_)
                  refine W.widen (k := LC - s.heap.size) (n := LS - jTot s.heap) (by omega) (by omega) ?_
                  rw [hQ]
                  exact W.aret (v := .ref H_55.size) hx hb hr (Or.inl ⟨_, rfl⟩) (Or.inr ⟨_, rfl⟩) (fun t ht hW => ⟨⟨.ref H_55.size, (pc, qv_2, qu_2, pa, n_pa, gk_2, gi_2, gz_2, gn_2, ga_2, gs_2, gu_2, (some H_55.size), T18, gQ_58, iB_58, 0, G_58), rfl, ⟨Or.inr ⟨⟨_, rfl, hgc_58⟩, ⟨_, rfl, hsy_57⟩⟩, by skip; (try dsimp only); refine ⟨by omega, by omega, by omega, by omega, by assumption, by omega, by omega, by omega, hr_3p_2, Or.inr (jUd.of (j := r_83.toInt) (by omega) (by omega) (by omega) (by omega) (by omega) (by omega)), rfl, Or.inr ⟨(fun q => by cases q), hX18, hgd9, hTb18, hco18⟩, jzUs.of hr_59_0 hnx9 hab8 hr_59_1, jzUx.nl hnx9 hr_59_0 hr_59_1 (by have h9 := hid9; rw [hk0] at h9; exact h9) (by omega)⟩⟩, ⟨hh_189.ra (by first | (simp only; omega) | omega) (by first | (simp only; omega) | omega) (M1 := [(bo, 2, 1, .int pc), (js, 6, 7, .int qv_2), (js, 6, 8, .int qu_2), (bo, 2, 0, .ref pa)]) [3, 0, 1, 4] rfl ht, hg_62, hNn_58, by rw [ht]; exact hh_189.iv 3 rfl, by rw [ht]; exact hh_189.2.2.2.2.2.2.2.2.sub (L1 := [(jFy, jYb dC dI G_58), (jFib, jIB dC dI ca G_58 0 iB_58), (jFqd, jQD dC dI ca G_58 none gQ_58)]) [2, 0, 1] rfl, by rw [ht]; exact hh_189.2.2.2.2.2.2.2.1.sub [0, 1, 2, 3, 4, 5, 6] rfl⟩⟩, by rw [ht]; try exact hh_189.1.1, fun q h9 hq => by rw [ht]; try exact hh_189.1.2.1 q h9 hq⟩) hh_189.1.2.2 dX11_understood_180
                · skip
                  exact absurd c_221 (by decide)
              · skip
                have c_220' : r_56.toInt ≥ 0 := jb_lt_n (rfl) ((by decide)) c_220
                first | (have hr_56_2q := hr_56_2.resolve_left (by omega); clear hr_56_2) | (have hr_56_2q := hr_56_2.resolve_right (by omega); clear hr_56_2) | skip
                first | (have hr_81_2q := hr_81_2.resolve_left (by omega); clear hr_81_2) | (have hr_81_2q := hr_81_2.resolve_right (by omega); clear hr_81_2) | skip
                obtain ⟨hgP_223, hgM_223⟩ := jQD.at (ca := ca) (hh_189.iv 1 rfl) hgc_58 (fun q => by cases q)
                have hh_224 := ((hh_189.sub (L1 := [(js, 6, 7, .int qv_2), (js, 6, 8, .int qu_2), (r0, 13, 4, .ref bo), (bo, 2, 1, .int pc), (bo, 2, 0, .ref pa), (r0, 13, 3, .ref ou), (r0, 13, 1, .ref fm), (fm, 4, 1, .int fl), (r0, 13, 2, .ref js), (js, 6, 0, .ref wk), (js, 6, 1, .ref wi), (js, 6, 2, .ref wz), (js, 6, 3, .ref jnx), (js, 6, 4, .ref jkf), (js, 6, 5, .ref jks), (js, 6, 6, .ref jun), (fm, 4, 0, .ref bd_)]) [0, 1, 2, 3, 4, 5, 6, 7, 8, 9, 10, 11, 12, 13, 14, 15, 16] rfl (M1 := [(wk, 140, 1502, ca 1, gk_2), (wi, 141, 1502, ca 1, gi_2), (wz, 142, 1502, ca 1, gz_2), (jnx, 143, 1502, ca 1, gn_2), (jkf, 144, 1502, ca 1, ga_2), (jks, 145, 1502, ca 1, gs_2), (jun, 146, 3000, ca 1, gu_2), (bd_, 100, 3000, ca 0, fb)]) [0, 1, 2, 3, 4, 5, 6, 7] rfl (I1 := [(jFib, jIB dC dI ca G_58 0 iB_58), (jFqd, jQD dC dI ca G_58 none gQ_58), (jFy, jYb dC dI G_58), ([(2, 0), (2, 1)], jOl (dC, dI) G0 2 [bo, ou] s.heap)]) [0, 1, 2, 3] rfl).more (hgP_223.sub (L1 := [(H_55.size, 10, 2, .int (gQ_58.nd H_55.size)), (H_55.size, 10, 0, (gQ_58.iv H_55.size)), (H_55.size, 10, 1, (gQ_58.ab H_55.size))]) [0, 1, 2] rfl)).moreM hgM_223
                clear hh_189
                refine lv_aload_n hx hb dX11_understood_150 rfl (lv_at hl 1 rfl) ?_
                have hwf_225 := hh_224.at 1 rfl
                have hh_226 := hh_224.sub (L1 := [(H_55.size, 10, 2, .int (gQ_58.nd H_55.size)), (H_55.size, 10, 1, (gQ_58.ab H_55.size)), (js, 6, 7, .int qv_2), (js, 6, 8, .int qu_2), (r0, 13, 4, .ref bo), (bo, 2, 1, .int pc), (bo, 2, 0, .ref pa), (r0, 13, 3, .ref ou), (r0, 13, 1, .ref fm), (fm, 4, 1, .int fl), (r0, 13, 2, .ref js), (js, 6, 0, .ref wk), (js, 6, 1, .ref wi), (js, 6, 2, .ref wz), (js, 6, 3, .ref jnx), (js, 6, 4, .ref jkf), (js, 6, 5, .ref jks), (js, 6, 6, .ref jun), (fm, 4, 0, .ref bd_)]) [0, 2, 3, 4, 5, 6, 7, 8, 9, 10, 11, 12, 13, 14, 15, 16, 17, 18, 19] rfl (M1 := [(wk, 140, 1502, ca 1, gk_2), (wi, 141, 1502, ca 1, gi_2), (wz, 142, 1502, ca 1, gz_2), (jnx, 143, 1502, ca 1, gn_2), (jkf, 144, 1502, ca 1, ga_2), (jks, 145, 1502, ca 1, gs_2), (jun, 146, 3000, ca 1, gu_2), (bd_, 100, 3000, ca 0, fb)]) [0, 1, 2, 3, 4, 5, 6, 7] rfl (I1 := [(jFib, jIB dC dI ca G_58 0 iB_58), (jFqd, jQD dC dI ca G_58 none gQ_58), (jFy, jYb dC dI G_58), ([(2, 0), (2, 1)], jOl (dC, dI) G0 2 [bo, ou] s.heap)]) [0, 1, 2, 3] rfl
                clear hh_224
                obtain ⟨v_227, hv_227, hh_228⟩ := hh_226.pin (C := RX8) (T := TX8) (N := 5) hB10 rfl (by decide) hgc_58 (i := 0) (by decide) rfl
                clear hh_226
                have hwe151 : (gQ_58.iv H_55.size) = v_227 := jf.uniq hwf_225 (hh_228.at 0 rfl)
                clear hwf_225
                rcases hv_227 with rfl | ⟨id_229, rfl, hg_id_229⟩
                · refine j7_read hx hb hown hK (C := RX8) (T := TX8) (N := 5) rfl hly_10_0 hlk_114 (hh_228.at 0 rfl) dX11_understood_151 ?_
                  refine lv_ifnullN (tgt := 161) hx hb dX11_understood_154 (by decide) ?_
                  have hgd9 : jdGd T18 qv_2.toInt ≠ 1 := jdGd.n hk0 hr_83_3 (fun _ => hr_116_3) hr_81_3 hid9 (Or.inr ⟨by rw [← hr_85p_1]; omega, Or.inr (Or.inr ⟨by omega, hr_59_1.nul hr_59_0 hwe151⟩)⟩)
                  refine lv_iconst (v := 0) hx hb dX11_understood_161 (by decide) ?_
                  refine lv_istore (lv' := [(5, .int 0), (4, .int r_81), (3, .ref H_55.size), (2, .int r_56), (1, .int r_3), (0, .ref r0)]) hx hb dX11_understood_162 hl (by decide) rfl (fun ls hl => ?_)
                  refine lv_iload hx hb dX11_understood_164 (lv_at hl 0 rfl) ?_
                  refine lv_if_ne (tgt := 179) hx hb dX11_understood_166 (by decide) (fun c_230 => ?_) (fun c_230 => ?_)
                  · skip
                    exact absurd c_230 (by decide)
                  · skip
                    first | (have hr_56_2q := hr_56_2.resolve_left (by omega); clear hr_56_2) | (have hr_56_2q := hr_56_2.resolve_right (by omega); clear hr_56_2) | skip
                    first | (have hr_81_2q := hr_81_2.resolve_left (by omega); clear hr_81_2) | (have hr_81_2q := hr_81_2.resolve_right (by omega); clear hr_81_2) | skip
                    refine lv_aload_n hx hb dX11_understood_169 rfl (lv_at hl 5 rfl) ?_
                    refine lv_aload_n hx hb dX11_understood_170 rfl (lv_at hl 2 rfl) ?_
                    refine lv_sipush (v := (-32600)) hx hb dX11_understood_171 (by decide) ?_
                    try clear hsz_189 htt_189 hrc_189 hrs_189
                    have hsz_231 := hh_228.2.2.2.2.2.1
                    have htt_231 := hh_228.2.2.2.2.2.2.1
                    refine W.room (fun hrc_231 hrs_231 => ?_)
                    refine va_callv (A0 := jA base) (H0 := s.heap) (va_runV (As := [.ref H_55.size, .int (-32600)]) (rest := []) ⟨hx, hb, hml, hown, hts⟩ (uX11_refuse l dC dI ca base B hB hAp hB2 hB4 hB10 hB13 hB17 hB196 hB199 G_58 H_189 r0 H_55.size (-32600) bo pc pa n_pa ou LC LS) (cwV 2 hts (jgV (jWr_26 _ (List.mem_of_getElem? (i := 3) rfl)) (jWr_26 _ (List.mem_of_getElem? (i := 4) rfl)) (jWr_26 _ (List.mem_of_getElem? (i := 5) rfl)) (jWr_1 _ (List.mem_of_getElem? (i := 2) rfl)) (jWr_26 _ (List.mem_of_getElem? (i := 6) rfl))) rfl rfl rfl (by decide +kernel) ⟨by rw [← hR]; exact Nat.le_of_ble_eq_true rfl, by rw [← hR]; exact Nat.le_of_ble_eq_true rfl⟩) ⟨fun a U g mk q => by obtain ⟨q0, q1, q2, qK, q10, q11, q12, q13, q14, q15, q16, q17⟩ := q; exact ⟨q0, q1, q2, jG.calling g mk a qK, q10, q11, q12, q13, q14, q15, q16, q17⟩, hh_228.recv (C := RX11) (T := TX11) (N := 19) hB13 rfl (by decide) hg_60 hK, fun U hU hW => ⟨rfl, hU, hh_228.2.1, hG.step hW hU hh_228.1, hgc_58, hg_60, hg_61, hg_62, hg_63, (hh_228.2.2.1.sub (L1 := [(r0, 13, 4, .ref bo), (bo, 2, 1, .int pc), (bo, 2, 0, .ref pa), (r0, 13, 3, .ref ou)]) [5, 6, 7, 8] rfl), (hh_228.2.2.2.2.2.2.2.2.sub (L1 := [(jFy, jYb dC dI G_58)]) [2] rfl), (by omega), (by omega), ⟨(by first | omega | rfl | assumption | fail), (by first | omega | rfl | assumption | fail), (by first | omega | rfl | assumption | fail), (by first | omega | rfl | assumption | fail), (by first | assumption | fail | omega)⟩⟩⟩ rfl rfl hl.1 rfl (lv_room (Nat.le_of_ble_eq_true rfl)) dX11_understood_174 ⟨by rw [hRc]; omega, by rw [hRs]; omega⟩) hh_228.1 (fun q _ h => h) (fun q h => h) (fun u_231 t_231 H_231 locs_231 ht_231 hvm_231 hr_232 hb_231 hz_231 hk_231 hS_231 => ?_)
                    obtain ⟨qc_231, qa_231, m_qa_231, G_231⟩ := u_231
                    rw [ht_231] at hb_231
                    simp only at hb_231
                    obtain ⟨⟨hb_2311, hb_2312, hb_2313, hb_2314, hb_2315, hb_2316⟩, hgq_231_0, hN_231, hbO_231, hbE_231⟩ := hb_231
                    have hY_231 := hN_231
                    have hW_231 := hN_231
                    have hN_231 : (jNk [0, 1, 3, 4, 5, 6, 7, 8, 9, 11, 12, 13, 14, 15, 16, 175]) G_58 G_231 := hN_231.sub (by decide)
                    have hh_231 : jSt (dC, dI) B base G0 G_231 EX11_understoodI s.heap (((n_pa - n_pa) / 16 + 11) + ((m_qa_231 - n_pa) / 16)) ((2 * (n_pa - n_pa) + 267) + (2 * (m_qa_231 - n_pa))) [(bo, 2, 1, .int qc_231), (bo, 2, 0, .ref qa_231), (H_55.size, 10, 0, .null), (H_55.size, 10, 2, .int (gQ_58.nd H_55.size)), (H_55.size, 10, 1, (gQ_58.ab H_55.size)), (js, 6, 7, .int qv_2), (js, 6, 8, .int qu_2), (r0, 13, 4, .ref bo), (r0, 13, 3, .ref ou), (r0, 13, 1, .ref fm), (fm, 4, 1, .int fl), (r0, 13, 2, .ref js), (js, 6, 0, .ref wk), (js, 6, 1, .ref wi), (js, 6, 2, .ref wz), (js, 6, 3, .ref jnx), (js, 6, 4, .ref jkf), (js, 6, 5, .ref jks), (js, 6, 6, .ref jun), (fm, 4, 0, .ref bd_)] [(wk, 140, 1502, ca 1, gk_2), (wi, 141, 1502, ca 1, gi_2), (wz, 142, 1502, ca 1, gz_2), (jnx, 143, 1502, ca 1, gn_2), (jkf, 144, 1502, ca 1, ga_2), (jks, 145, 1502, ca 1, gs_2), (jun, 146, 3000, ca 1, gu_2), (bd_, 100, 3000, ca 0, fb)] [(jFib, jIB dC dI ca G_58 0 iB_58), (jFqd, jQD dC dI ca G_58 none gQ_58)] H_231 locs_231 := (hh_228.callG hb_2311 hb_2312 hb_2313 hb_2314 hb_2315 hS_231 rfl (L1 := [(H_55.size, 10, 0, .null), (H_55.size, 10, 2, .int (gQ_58.nd H_55.size)), (H_55.size, 10, 1, (gQ_58.ab H_55.size)), (js, 6, 7, .int qv_2), (js, 6, 8, .int qu_2), (r0, 13, 4, .ref bo), (r0, 13, 3, .ref ou), (r0, 13, 1, .ref fm), (fm, 4, 1, .int fl), (r0, 13, 2, .ref js), (js, 6, 0, .ref wk), (js, 6, 1, .ref wi), (js, 6, 2, .ref wz), (js, 6, 3, .ref jnx), (js, 6, 4, .ref jkf), (js, 6, 5, .ref jks), (js, 6, 6, .ref jun), (fm, 4, 0, .ref bd_)]) [0, 1, 2, 3, 4, 5, 8, 9, 10, 11, 12, 13, 14, 15, 16, 17, 18, 19] rfl rfl (M1 := [(wk, 140, 1502, ca 1, gk_2), (wi, 141, 1502, ca 1, gi_2), (wz, 142, 1502, ca 1, gz_2), (jnx, 143, 1502, ca 1, gn_2), (jkf, 144, 1502, ca 1, ga_2), (jks, 145, 1502, ca 1, gs_2), (jun, 146, 3000, ca 1, gu_2), (bd_, 100, 3000, ca 0, fb)]) [0, 1, 2, 3, 4, 5, 6, 7] rfl rfl (I1 := [(jFib, jIB dC dI ca G_58 0 iB_58), (jFqd, jQD dC dI ca G_58 none gQ_58)]) [0, 1] rfl rfl).more hb_2316
                    have hNn_231 : (jNk [0, 1, 3, 4, 5, 6, 7, 8, 9, 11, 12, 13, 14, 15, 16, 175]) G0 G_231 := (hNn_58).tr hN_231
                    have hg_233 := hb_2312 _ _ hgc_58
                    have hg_234 := hb_2312 _ _ hg_60
                    have hg_235 := hb_2312 _ _ hg_61
                    have hg_236 := hb_2312 _ _ hg_63
                    have hg_237 := hb_2312 _ _ hg_64
                    have hg_238 := hb_2312 _ _ hg_65
                    have hg_239 := hb_2312 _ _ hg_66
                    have hg_240 := hb_2312 _ _ hg_67
                    have hg_241 := hb_2312 _ _ hg_68
                    have hg_242 := hb_2312 _ _ hg_69
                    have hg_243 := hb_2312 _ _ hg_70
                    have hg_244 := hb_2312 _ _ hg_71
                    have hg_245 := hb_2312 _ _ hg_72
                    have hg_246 := hb_2312 _ _ hg_73
                    have hd_247 := jIB.grow (r := 0) (hh_231.iv 0 rfl) hb_2312 hW_231 (by decide)
                    have hh_248 := hh_231.sub (L1 := [(bo, 2, 1, .int qc_231), (bo, 2, 0, .ref qa_231), (H_55.size, 10, 0, .null), (H_55.size, 10, 2, .int (gQ_58.nd H_55.size)), (H_55.size, 10, 1, (gQ_58.ab H_55.size)), (js, 6, 7, .int qv_2), (js, 6, 8, .int qu_2), (r0, 13, 4, .ref bo), (r0, 13, 3, .ref ou), (r0, 13, 1, .ref fm), (fm, 4, 1, .int fl), (r0, 13, 2, .ref js), (js, 6, 0, .ref wk), (js, 6, 1, .ref wi), (js, 6, 2, .ref wz), (js, 6, 3, .ref jnx), (js, 6, 4, .ref jkf), (js, 6, 5, .ref jks), (js, 6, 6, .ref jun), (fm, 4, 0, .ref bd_)]) [0, 1, 2, 3, 4, 5, 6, 7, 8, 9, 10, 11, 12, 13, 14, 15, 16, 17, 18, 19] rfl (M1 := [(wk, 140, 1502, ca 1, gk_2), (wi, 141, 1502, ca 1, gi_2), (wz, 142, 1502, ca 1, gz_2), (jnx, 143, 1502, ca 1, gn_2), (jkf, 144, 1502, ca 1, ga_2), (jks, 145, 1502, ca 1, gs_2), (jun, 146, 3000, ca 1, gu_2), (bd_, 100, 3000, ca 0, fb)]) [0, 1, 2, 3, 4, 5, 6, 7] rfl (I1 := [(jFqd, jQD dC dI ca G_58 none gQ_58)]) [1] rfl
                    clear hh_231
                    have hh_249 := hh_248.addI (jIB.ie hd_247)
                    clear hh_248
                    have hd_250 := jQD.grow (ca := ca) (hh_249.iv 1 rfl) hb_2312 hW_231 (by decide)
                    have hh_251 := hh_249.sub (L1 := [(bo, 2, 1, .int qc_231), (bo, 2, 0, .ref qa_231), (H_55.size, 10, 0, .null), (H_55.size, 10, 2, .int (gQ_58.nd H_55.size)), (H_55.size, 10, 1, (gQ_58.ab H_55.size)), (js, 6, 7, .int qv_2), (js, 6, 8, .int qu_2), (r0, 13, 4, .ref bo), (r0, 13, 3, .ref ou), (r0, 13, 1, .ref fm), (fm, 4, 1, .int fl), (r0, 13, 2, .ref js), (js, 6, 0, .ref wk), (js, 6, 1, .ref wi), (js, 6, 2, .ref wz), (js, 6, 3, .ref jnx), (js, 6, 4, .ref jkf), (js, 6, 5, .ref jks), (js, 6, 6, .ref jun), (fm, 4, 0, .ref bd_)]) [0, 1, 2, 3, 4, 5, 6, 7, 8, 9, 10, 11, 12, 13, 14, 15, 16, 17, 18, 19] rfl (M1 := [(wk, 140, 1502, ca 1, gk_2), (wi, 141, 1502, ca 1, gi_2), (wz, 142, 1502, ca 1, gz_2), (jnx, 143, 1502, ca 1, gn_2), (jkf, 144, 1502, ca 1, ga_2), (jks, 145, 1502, ca 1, gs_2), (jun, 146, 3000, ca 1, gu_2), (bd_, 100, 3000, ca 0, fb)]) [0, 1, 2, 3, 4, 5, 6, 7] rfl (I1 := [(jFib, jIB dC dI ca G_231 0 iB_58)]) [0] rfl
                    clear hh_249
                    have hh_252 := hh_251.addI (jQD.ie hd_250)
                    clear hh_251
                    have hh_253 := hh_252.addIs hbE_231
                    have hd_254 := jOl.trL (hh_228.iv 3 rfl) hh_228.2.2.2.2.1 hbO_231 (by simp)
                    have hh_255 := hh_253.addI (jOl.ie (dC := dC) (dI := dI) (G0 := G0) (k := 2) (rs := [bo, ou]) (H0 := s.heap) (F := [(2, 0), (2, 1)]) (C := RX0) (T := TX0) (N := 2) rfl (by decide) hh_253.2.2.2.2.1 (hd_254))
                    clear hh_253
                    try simp only at hr_232
                    obtain ⟨hr_232_0, hr_232_1, hr_232_2, hr_232_3, hr_232_4⟩ := hr_232
                    have hh_256 := hh_255.wk (zc1 := (m_qa_231 - n_pa) / 16 + 11) (zs1 := 2 * (m_qa_231 - n_pa) + 267) (by omega) (by omega)
                    clear hh_255
                    try clear hsz_231 htt_231 hrc_231 hrs_231
                    try clear hb_2314 hb_2315
                    refine lv_null hx hb dX11_understood_177 ?_
                    try clear hsz_231 htt_231 hrc_231 hrs_231
                    have hsz_257 := hh_256.2.2.2.2.2.1
                    have htt_257 := hh_256.2.2.2.2.2.2.1
                    refine W.room (fun hrc_257 hrs_257 => ?_)
                    refine W.widen (k := LC - s.heap.size) (n := LS - jTot s.heap) (by omega) (by omega) ?_
                    rw [hQ]
                    exact W.aret (v := .null) hx hb hr (Or.inl ⟨_, rfl⟩) (Or.inl rfl) (fun t ht hW => ⟨⟨.null, (qc_231, qv_2, qu_2, qa_231, m_qa_231, gk_2, gi_2, gz_2, gn_2, ga_2, gs_2, gu_2, none, T18, gQ_58, iB_58, 0, G_231), rfl, ⟨Or.inl rfl, by skip; (try dsimp only); refine ⟨by omega, by omega, by omega, by omega, by assumption, by omega, by omega, by omega, hr_3p_2, Or.inl rfl, rfl, Or.inl ⟨rfl, Or.inr ⟨hX18, hgd9⟩⟩, jzUs.of hr_59_0 hnx9 hab8 hr_59_1, jzUx.no⟩⟩, ⟨hh_256.ra (by first | (simp only; omega) | omega) (by first | (simp only; omega) | omega) (M1 := [(bo, 2, 1, .int qc_231), (js, 6, 7, .int qv_2), (js, 6, 8, .int qu_2), (bo, 2, 0, .ref qa_231)]) [0, 5, 6, 1] rfl ht, hgq_231_0, hNn_231, by rw [ht]; exact hh_256.iv 0 rfl, by rw [ht]; exact hh_256.2.2.2.2.2.2.2.2.sub (L1 := [(jFy, jYb dC dI G_231), (jFib, jIB dC dI ca G_231 0 iB_58), (jFqd, jQD dC dI ca G_231 none gQ_58)]) [1, 3, 2] rfl, by rw [ht]; exact hh_256.2.2.2.2.2.2.2.1.sub [0, 1, 2, 3, 4, 5, 6] rfl⟩⟩, by rw [ht]; try exact hh_256.1.1, fun q h9 hq => by rw [ht]; try exact hh_256.1.2.1 q h9 hq⟩) hh_256.1.2.2 dX11_understood_178
                · refine j7_read hx hb hown hK (C := RX8) (T := TX8) (N := 5) rfl hly_10_0 hlk_114 (hh_228.at 0 rfl) dX11_understood_151 ?_
                  refine lv_ifnull hx hb dX11_understood_154 ?_
                  have hgd9 : jdGd T18 qv_2.toInt = 1 := jdGd.y hk0 hr_83_3 hr_116_3 hr_81_3 hid9 (by rw [← hr_85p_1]; omega) (by rw [← hr_118_1]; omega) (Or.inr (by rw [← hr_190_1]; omega)) (Or.inr (hr_59_1.yes hr_59_0 hwe151))
                  refine lv_iconst (v := 1) hx hb dX11_understood_157 (by decide) ?_
                  refine lv_goto (tgt := 162) hx hb dX11_understood_158 (by decide) ?_
                  refine lv_istore (lv' := [(5, .int 1), (4, .int r_81), (3, .ref H_55.size), (2, .int r_56), (1, .int r_3), (0, .ref r0)]) hx hb dX11_understood_162 hl (by decide) rfl (fun ls hl => ?_)
                  refine lv_iload hx hb dX11_understood_164 (lv_at hl 0 rfl) ?_
                  refine lv_if_ne (tgt := 179) hx hb dX11_understood_166 (by decide) (fun c_258 => ?_) (fun c_258 => ?_)
                  · skip
                    refine lv_aload_n hx hb dX11_understood_179 rfl (lv_at hl 2 rfl) ?_
                    try clear hsz_189 htt_189 hrc_189 hrs_189
                    have hsz_259 := hh_228.2.2.2.2.2.1
                    have htt_259 := hh_228.2.2.2.2.2.2.1
                    refine W.room (fun hrc_259 hrs_259 => ?_)
                    refine W.widen (k := LC - s.heap.size) (n := LS - jTot s.heap) (by omega) (by omega) ?_
                    rw [hQ]
                    exact W.aret (v := .ref H_55.size) hx hb hr (Or.inl ⟨_, rfl⟩) (Or.inr ⟨_, rfl⟩) (fun t ht hW => ⟨⟨.ref H_55.size, (pc, qv_2, qu_2, pa, n_pa, gk_2, gi_2, gz_2, gn_2, ga_2, gs_2, gu_2, (some H_55.size), T18, gQ_58, iB_58, 0, G_58), rfl, ⟨Or.inr ⟨⟨_, rfl, hgc_58⟩, ⟨_, rfl, hsy_57⟩⟩, by skip; (try dsimp only); refine ⟨by omega, by omega, by omega, by omega, by assumption, by omega, by omega, by omega, hr_3p_2, Or.inr (jUd.of (j := r_83.toInt) (by omega) (by omega) (by omega) (by omega) (by omega) (by omega)), rfl, Or.inr ⟨(fun q => by cases q), hX18, hgd9, hTb18, hco18⟩, jzUs.of hr_59_0 hnx9 hab8 hr_59_1, jzUx.rf hnx9 hr_59_0 hr_59_1 (by have h9 := hid9; rw [hk0] at h9; exact h9) (by omega) hwe151 hTb18 hTw18⟩⟩, ⟨hh_228.ra (by first | (simp only; omega) | omega) (by first | (simp only; omega) | omega) (M1 := [(bo, 2, 1, .int pc), (js, 6, 7, .int qv_2), (js, 6, 8, .int qu_2), (bo, 2, 0, .ref pa)]) [6, 3, 4, 7] rfl ht, hg_62, hNn_58, by rw [ht]; exact hh_228.iv 3 rfl, by rw [ht]; exact hh_228.2.2.2.2.2.2.2.2.sub (L1 := [(jFy, jYb dC dI G_58), (jFib, jIB dC dI ca G_58 0 iB_58), (jFqd, jQD dC dI ca G_58 none gQ_58)]) [2, 0, 1] rfl, by rw [ht]; exact hh_228.2.2.2.2.2.2.2.1.sub [0, 1, 2, 3, 4, 5, 6] rfl⟩⟩, by rw [ht]; try exact hh_228.1.1, fun q h9 hq => by rw [ht]; try exact hh_228.1.2.1 q h9 hq⟩) hh_228.1.2.2 dX11_understood_180
                  · skip
                    exact absurd c_258 (by decide)
    · skip
      have c_79' : r_3.toInt = 0 := jb_ne_n (rfl) ((by decide)) c_79
      exact (by omega : False).elim
end
