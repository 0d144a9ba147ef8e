section
set_option maxHeartbeats 40000000 in
set_option maxRecDepth 20000 in
theorem uX14_init (l : Launch) (dC : Nat → ClassId) (dI : Nat → Nat → Nat) (ca : Nat → ClassId) (base : Nat) (B : jF) (hB : jBok B) (hAp : jAp (dC, dI)) (hB0 : ∀ n G a H, B 0 n G a H ↔ jOb (dC, dI) 0 4 (Fz0 n G) a H) (hB14 : ∀ n G a H, B 14 n G a H ↔ jOb (dC, dI) 14 11 (F14 n G) a H) (hB15 : ∀ n G a H, B 15 n G a H ↔ jOb (dC, dI) 15 50 (F15 n G) a H) (hB16 : ∀ n G a H, B 16 n G a H ↔ jOb (dC, dI) 16 74 (F16 n G) a H) (hB101 : ∀ n G a H, B 101 n G a H ↔ jAr (dC, dI) (ca 1) (fun j z => True) n a H) (hB103 : ∀ n G a H, B 103 n G a H ↔ jAr (dC, dI) (ca 3) (fun j z => (z = 0 ∨ z = 1)) n a H) (hB110 : ∀ n G a H, B 110 n G a H ↔ jAr (dC, dI) (ca 1) (fun j z => 0 ≤ z.toInt ∧ z.toInt ≤ 255) n a H) (hB111 : ∀ n G a H, B 111 n G a H ↔ jAr (dC, dI) (ca 1) (fun j z => 0 ≤ z.toInt ∧ z.toInt ≤ 255) n a H) (hB117 : ∀ n G a H, B 117 n G a H ↔ jAr (dC, dI) (ca 1) (fun j z => True) n a H) (hB118 : ∀ n G a H, B 118 n G a H ↔ jAr (dC, dI) (ca 1) (fun j z => -1 ≤ z.toInt ∧ z.toInt ≤ 3099) n a H) (hB119 : ∀ n G a H, B 119 n G a H ↔ jAr (dC, dI) (ca 1) (fun j z => z.toInt = -1 ∨ z.toInt = 0 ∨ ((j : Nat) < z.toInt ∧ z.toInt ≤ 3099)) n a H) (hB120 : ∀ n G a H, B 120 n G a H ↔ jAr (dC, dI) (ca 1) (fun j z => 0 ≤ z.toInt ∧ z.toInt ≤ 3300) n a H) (hB121 : ∀ n G a H, B 121 n G a H ↔ jAr (dC, dI) (ca 1) (fun j z => 0 ≤ z.toInt ∧ z.toInt ≤ 3300) n a H) (hB122 : ∀ n G a H, B 122 n G a H ↔ jAr (dC, dI) (ca 1) (fun j z => 0 ≤ z.toInt ∧ z.toInt ≤ 3100) n a H) (hB123 : ∀ n G a H, B 123 n G a H ↔ jAr (dC, dI) (ca 1) (fun j z => 0 ≤ z.toInt ∧ z.toInt ≤ 3100) n a H) (hB124 : ∀ n G a H, B 124 n G a H ↔ jAr (dC, dI) (ca 3) (fun j z => (z = 0 ∨ z = 1)) n a H) (hB125 : ∀ n G a H, B 125 n G a H ↔ jAr (dC, dI) (ca 1) (fun j z => True) n a H) (hB127 : ∀ n G a H, B 127 n G a H ↔ jAr (dC, dI) (ca 1) (fun j z => True) n a H) (hB150 : ∀ n G a H, B 150 n G a H ↔ jAr (dC, dI) (ca 1) (fun j z => True) n a H) (hB151 : ∀ n G a H, B 151 n G a H ↔ jAr (dC, dI) (ca 1) (fun j z => True) n a H) (hB152 : ∀ n G a H, B 152 n G a H ↔ jAr (dC, dI) (ca 1) (fun j z => True) n a H) (hB153 : ∀ n G a H, B 153 n G a H ↔ jAr (dC, dI) (ca 1) (fun j z => True) n a H) (hB154 : ∀ n G a H, B 154 n G a H ↔ jAr (dC, dI) (ca 1) (fun j z => True) n a H) (hB155 : ∀ n G a H, B 155 n G a H ↔ jAr (dC, dI) (ca 1) (fun j z => 0 ≤ z.toInt ∧ z.toInt ≤ 11990) n a H) (hB156 : ∀ n G a H, B 156 n G a H ↔ jAr (dC, dI) (ca 1) (fun j z => 0 ≤ z.toInt ∧ z.toInt ≤ 10) n a H) (hB157 : ∀ n G a H, B 157 n G a H ↔ jAr (dC, dI) (ca 1) (fun j z => 0 ≤ z.toInt ∧ z.toInt ≤ 1599) n a H) (hB158 : ∀ n G a H, B 158 n G a H ↔ jAr (dC, dI) (ca 1) (fun j z => 0 ≤ z.toInt ∧ z.toInt ≤ 6) n a H) (hB159 : ∀ n G a H, B 159 n G a H ↔ jAr (dC, dI) (ca 1) (fun j z => 0 ≤ z.toInt ∧ z.toInt ≤ 8) n a H) (hB160 : ∀ n G a H, B 160 n G a H ↔ jAr (dC, dI) (ca 1) (fun j z => 0 ≤ z.toInt ∧ z.toInt ≤ 119999) n a H) (hB161 : ∀ n G a H, B 161 n G a H ↔ jAr (dC, dI) (ca 1) (fun j z => 0 ≤ z.toInt ∧ z.toInt ≤ 119999) n a H) (hB162 : ∀ n G a H, B 162 n G a H ↔ jAr (dC, dI) (ca 1) (fun j z => 0 ≤ z.toInt ∧ z.toInt ≤ 119999) n a H) (hB163 : ∀ n G a H, B 163 n G a H ↔ jAr (dC, dI) (ca 1) (fun j z => 0 ≤ z.toInt ∧ z.toInt ≤ 1599) n a H) (hB164 : ∀ n G a H, B 164 n G a H ↔ jAr (dC, dI) (ca 1) (fun j z => 0 ≤ z.toInt ∧ z.toInt ≤ 100000) n a H) (hB165 : ∀ n G a H, B 165 n G a H ↔ jAr (dC, dI) (ca 1) (fun j z => 0 ≤ z.toInt ∧ z.toInt ≤ 3) n a H) (hB166 : ∀ n G a H, B 166 n G a H ↔ jAr (dC, dI) (ca 1) (fun j z => True) n a H) (hB167 : ∀ n G a H, B 167 n G a H ↔ jAr (dC, dI) (ca 1) (fun j z => True) n a H) (hB168 : ∀ n G a H, B 168 n G a H ↔ jAr (dC, dI) (ca 1) (fun j z => 0 ≤ z.toInt ∧ z.toInt ≤ 119999) n a H) (hB169 : ∀ n G a H, B 169 n G a H ↔ jAr (dC, dI) (ca 1) (fun j z => True) n a H) (hB190 : ∀ n G a H, B 190 n G a H ↔ jAr (dC, dI) (ca 1) (fun j z => 0 ≤ z.toInt ∧ z.toInt ≤ 1500) n a H) (hB191 : ∀ n G a H, B 191 n G a H ↔ jAr (dC, dI) (ca 1) (fun j z => 0 ≤ z.toInt ∧ z.toInt ≤ 1500) n a H) (hB192 : ∀ n G a H, B 192 n G a H ↔ jAr (dC, dI) (ca 1) (fun j z => 0 ≤ z.toInt ∧ z.toInt ≤ 2) n a H) (hB193 : ∀ n G a H, B 193 n G a H ↔ jAr (dC, dI) (ca 1) (fun j z => True) n a H) (hB196 : ∀ n G a H, B 196 n G a H ↔ jAr (dC, dI) (ca 0) (fun j z => jBf j z) n a H) (hB201 : ∀ n G a H, B 201 n G a H ↔ jAq (dC, dI) (ca 4) (jQs 14 0) n G a H) (hB202 : ∀ n G a H, B 202 n G a H ↔ jAq (dC, dI) (ca 4) (jQn 14 0) n G a H) (hB203 : ∀ n G a H, B 203 n G a H ↔ jAr (dC, dI) (ca 1) (fun j z => -3300 ≤ z.toInt ∧ z.toInt ≤ 20) n a H) (hB204 : ∀ n G a H, B 204 n G a H ↔ jAr (dC, dI) (ca 1) (fun j z => -3100 ≤ z.toInt ∧ z.toInt ≤ 3100) n a H) (hB205 : ∀ n G a H, B 205 n G a H ↔ jAr (dC, dI) (ca 1) (fun j z => 0 ≤ z.toInt ∧ z.toInt ≤ 1600) n a H) (hB206 : ∀ n G a H, B 206 n G a H ↔ jAr (dC, dI) (ca 1) (fun j z => 0 ≤ z.toInt ∧ z.toInt ≤ 40) n a H) (hB207 : ∀ n G a H, B 207 n G a H ↔ jAr (dC, dI) (ca 1) (fun j z => 0 ≤ z.toInt ∧ z.toInt ≤ 39) n a H) (hB208 : ∀ n G a H, B 208 n G a H ↔ jAq (dC, dI) (ca 4) (jQn 14 0) n G a H) (G0 : jT) (H0 : Heap) (r0 : Nat) (LC LS : Nat) : Met l yX14_init (jw yX14_init cX14_init 1 none) ({ frames := 3, cells := LC - H0.size, slots := LS - jTot H0, locals := 72 }) (va_Pc [.ref r0] (fun U => U.heap = H0 ∧ jX B base G0 [] H0 ∧ jG dC dI ca base U ∧ jK2 dC dI ca U ∧ jK6 U ∧ va_at (dC, dI) vwCl (r0, .inr (16, [.null, .int 0, .null, .int 0, .int 0, .null, .int 0, .int 0, .int 0, .null, .int 0, .int 0, .int 0, .null, .null, .int 0, .int 0, .null, .null, .null, .null, .null, .null, .null, .null, .null, .int 0, .null, .int 0, .int 0, .int 0, .int 0, .int 0, .int 0, .int 0, .int 0, .int 0, .int 0, .null, .int 0, .int 0, .null, .int 0, .null, .int 0, .null, .null, .null, .int 0, .null, .null, .null, .null, .null, .null, .null, .null, .null, .null, .null, .null, .null, .null, .null, .int 0, .int 0, .int 0, .null, .null, .null, .int 0, .null, .null, .null])) H0 ∧ (∀ t, G0 r0 ≠ some t) ∧ base ≤ r0 ∧ jP (dC, dI) G0 H0 [] ∧ jIs (dC, dI) G0 H0 [(jFz9, jDZ dC dI G0)] ∧ H0.size + 112 ≤ LC ∧ jTot H0 + 974246 ≤ LS ∧ True)) (va_Qv (S := Int32 × Int32 × Int32 × Int32 × Int32 × Int32 × Int32 × Int32 × Nat × Nat × Nat × Nat × Nat × Nat × Nat × Nat × jT) (fun u => u.2.2.2.2.2.2.2.2.1 ≠ u.2.2.2.2.2.2.2.2.2.2.1 ∧ u.2.2.2.2.2.2.2.2.2.1 = 0 ∧ u.2.2.2.2.2.2.2.2.2.2.2.1 = 0 ∧ u.2.2.2.2.2.2.2.2.2.2.2.2.2.1 = 16 ∧ u.2.2.2.2.2.2.2.2.2.2.2.2.2.2.2.1 = 16 ∧ u.1.toInt = 0 ∧ u.2.1.toInt = 0 ∧ u.2.2.1.toInt = 0 ∧ u.2.2.2.1.toInt = -1 ∧ u.2.2.2.2.2.1.toInt = 0 ∧ u.2.2.2.2.2.2.1.toInt = 0 ∧ u.2.2.2.2.2.2.2.1.toInt = 0) (fun u t => jRa (dC, dI) B base G0 u.2.2.2.2.2.2.2.2.2.2.2.2.2.2.2.2 EX14_init H0 (112) (974246) [(r0, 16, 1, .int u.1), (r0, 16, 12, .int u.2.1), (r0, 16, 11, .int u.2.2.1), (r0, 16, 15, .int u.2.2.2.1), (r0, 16, 16, .int u.2.2.2.2.1), (r0, 16, 7, .int u.2.2.2.2.2.1), (u.2.2.2.2.2.2.2.2.1, 0, 3, .int u.2.2.2.2.2.2.1), (u.2.2.2.2.2.2.2.2.2.2.1, 0, 3, .int u.2.2.2.2.2.2.2.1), (r0, 16, 13, .ref u.2.2.2.2.2.2.2.2.1), (r0, 16, 14, .ref u.2.2.2.2.2.2.2.2.2.2.1), (u.2.2.2.2.2.2.2.2.1, 0, 0, .ref u.2.2.2.2.2.2.2.2.2.2.2.2.1), (u.2.2.2.2.2.2.2.2.2.2.1, 0, 0, .ref u.2.2.2.2.2.2.2.2.2.2.2.2.2.2.1)] t.heap ∧ u.2.2.2.2.2.2.2.2.2.2.2.2.2.2.2.2 u.2.2.2.2.2.2.2.2.1 = some (0, u.2.2.2.2.2.2.2.2.2.1) ∧ u.2.2.2.2.2.2.2.2.2.2.2.2.2.2.2.2 u.2.2.2.2.2.2.2.2.2.2.1 = some (0, u.2.2.2.2.2.2.2.2.2.2.2.1) ∧ u.2.2.2.2.2.2.2.2.2.2.2.2.2.2.2.2 u.2.2.2.2.2.2.2.2.2.2.2.2.1 = some (196, u.2.2.2.2.2.2.2.2.2.2.2.2.2.1) ∧ u.2.2.2.2.2.2.2.2.2.2.2.2.2.2.2.2 u.2.2.2.2.2.2.2.2.2.2.2.2.2.2.1 = some (196, u.2.2.2.2.2.2.2.2.2.2.2.2.2.2.2.1) ∧ (jNk [1, 2, 3, 4, 5, 6, 7, 8, 9, 10, 11, 12, 13]) G0 u.2.2.2.2.2.2.2.2.2.2.2.2.2.2.2.2 ∧ u.2.2.2.2.2.2.2.2.2.2.2.2.2.2.2.2 r0 = some (16, 0) ∧ jKx r0 G0 u.2.2.2.2.2.2.2.2.2.2.2.2.2.2.2.2 H0 t.heap ∧ jIs (dC, dI) u.2.2.2.2.2.2.2.2.2.2.2.2.2.2.2.2 t.heap [(jFz9, jDZ dC dI u.2.2.2.2.2.2.2.2.2.2.2.2.2.2.2.2)] ∧ jRo dC dI ca u.2.2.2.2.2.2.2.2.2.2.2.2.2.2.2.2 r0 t.heap) (jA base)) (LC - H0.size) (LS - jTot H0) (jA base) := by
  refine Met.ofW (cc := cX14_init) (maxL := 1) (ret := none) (by decide) rfl ?_
  intro p e s m args below meth c s₁ Bd hml hv
  obtain ⟨rfl, hH0, hX, hG, hK2, hK6, hraw0, hnr0, hbr0, hP0, hI0, hLC0, hLS0, hp0⟩ := hv
  have hK := hG.1
  have hx := Bd.exec
  have hb := Bd.bytes
  have hr := Bd.returns
  have hts := atoms_spec (ws := (jw yX14_init cX14_init 1 none)) Bd.pre
  have htw : ∀ w ∈ jWl, w.before _ s = true := fun w h => hts w (List.mem_cons_of_mem _ h)
  have hown : s.vm.findClass RX14 = some m.cls := findClass_of_methodNamed Bd.named
  have hlocks := Bd.notSynchronized
  obtain ⟨Q, hQ⟩ : ∃ Q, Q = MQ below (va_Qv (S := Int32 × Int32 × Int32 × Int32 × Int32 × Int32 × Int32 × Int32 × Nat × Nat × Nat × Nat × Nat × Nat × Nat × Nat × jT) (fun u => u.2.2.2.2.2.2.2.2.1 ≠ u.2.2.2.2.2.2.2.2.2.2.1 ∧ u.2.2.2.2.2.2.2.2.2.1 = 0 ∧ u.2.2.2.2.2.2.2.2.2.2.2.1 = 0 ∧ u.2.2.2.2.2.2.2.2.2.2.2.2.2.1 = 16 ∧ u.2.2.2.2.2.2.2.2.2.2.2.2.2.2.2.1 = 16 ∧ u.1.toInt = 0 ∧ u.2.1.toInt = 0 ∧ u.2.2.1.toInt = 0 ∧ u.2.2.2.1.toInt = -1 ∧ u.2.2.2.2.2.1.toInt = 0 ∧ u.2.2.2.2.2.2.1.toInt = 0 ∧ u.2.2.2.2.2.2.2.1.toInt = 0) (fun u t => jRa (dC, dI) B base G0 u.2.2.2.2.2.2.2.2.2.2.2.2.2.2.2.2 EX14_init H0 (112) (974246) [(r0, 16, 1, .int u.1), (r0, 16, 12, .int u.2.1), (r0, 16, 11, .int u.2.2.1), (r0, 16, 15, .int u.2.2.2.1), (r0, 16, 16, .int u.2.2.2.2.1), (r0, 16, 7, .int u.2.2.2.2.2.1), (u.2.2.2.2.2.2.2.2.1, 0, 3, .int u.2.2.2.2.2.2.1), (u.2.2.2.2.2.2.2.2.2.2.1, 0, 3, .int u.2.2.2.2.2.2.2.1), (r0, 16, 13, .ref u.2.2.2.2.2.2.2.2.1), (r0, 16, 14, .ref u.2.2.2.2.2.2.2.2.2.2.1), (u.2.2.2.2.2.2.2.2.1, 0, 0, .ref u.2.2.2.2.2.2.2.2.2.2.2.2.1), (u.2.2.2.2.2.2.2.2.2.2.1, 0, 0, .ref u.2.2.2.2.2.2.2.2.2.2.2.2.2.2.1)] t.heap ∧ u.2.2.2.2.2.2.2.2.2.2.2.2.2.2.2.2 u.2.2.2.2.2.2.2.2.1 = some (0, u.2.2.2.2.2.2.2.2.2.1) ∧ u.2.2.2.2.2.2.2.2.2.2.2.2.2.2.2.2 u.2.2.2.2.2.2.2.2.2.2.1 = some (0, u.2.2.2.2.2.2.2.2.2.2.2.1) ∧ u.2.2.2.2.2.2.2.2.2.2.2.2.2.2.2.2 u.2.2.2.2.2.2.2.2.2.2.2.2.1 = some (196, u.2.2.2.2.2.2.2.2.2.2.2.2.2.1) ∧ u.2.2.2.2.2.2.2.2.2.2.2.2.2.2.2.2 u.2.2.2.2.2.2.2.2.2.2.2.2.2.2.1 = some (196, u.2.2.2.2.2.2.2.2.2.2.2.2.2.2.2.1) ∧ (jNk [1, 2, 3, 4, 5, 6, 7, 8, 9, 10, 11, 12, 13]) G0 u.2.2.2.2.2.2.2.2.2.2.2.2.2.2.2.2 ∧ u.2.2.2.2.2.2.2.2.2.2.2.2.2.2.2.2 r0 = some (16, 0) ∧ jKx r0 G0 u.2.2.2.2.2.2.2.2.2.2.2.2.2.2.2.2 H0 t.heap ∧ jIs (dC, dI) u.2.2.2.2.2.2.2.2.2.2.2.2.2.2.2.2 t.heap [(jFz9, jDZ dC dI u.2.2.2.2.2.2.2.2.2.2.2.2.2.2.2.2)] ∧ jRo dC dI ca u.2.2.2.2.2.2.2.2.2.2.2.2.2.2.2.2 r0 t.heap) (jA base)) ([.ref r0] : List Value).toArray s (LC - H0.size) (LS - jTot H0) (jA base) := ⟨_, rfl⟩
  rw [← hQ]
  have hl := lv_entry ([.ref r0]) (n := 1) (Nat.le_of_ble_eq_true rfl)
  rw [lg_entry_eq]
  generalize (lg_sl ([.ref r0]) ++ List.replicate (1 - (lg_sl ([.ref r0])).length) Slot.unset).toArray = ls at hl ⊢
  have hl : lv_has ls 1 [(0, .ref r0)] := hl
  generalize hR : (headSpec (jw yX14_init cX14_init 1 none) ({ frames := 3, cells := LC - H0.size, slots := LS - jTot H0, locals := 72 })).room = R
  subst hH0
  have hh : jSt (dC, dI) B base G0 G0 EX14_init s.heap 0 0 [] [] [(jFz9, jDZ dC dI G0)] s.heap [] := jSt.start hX hP0 jMc.nil hI0
  clear hX hP0
  have hkm1 : ((-1) : Int32).toInt = (-1) := by decide
  have hk0 : (0 : Int32).toInt = 0 := by decide
  have hk1 : (1 : Int32).toInt = 1 := by decide
  have hk2 : (2 : Int32).toInt = 2 := by decide
  have hk3 : (3 : Int32).toInt = 3 := by decide
  have hk12 : (12 : Int32).toInt = 12 := by decide
  have hk20 : (20 : Int32).toInt = 20 := by decide
  have hk24 : (24 : Int32).toInt = 24 := by decide
  have hk40 : (40 : Int32).toInt = 40 := by decide
  have hk240 : (240 : Int32).toInt = 240 := by decide
  have hk1500 : (1500 : Int32).toInt = 1500 := by decide
  have hk1600 : (1600 : Int32).toInt = 1600 := by decide
  have hk3100 : (3100 : Int32).toInt = 3100 := by decide
  have hk3300 : (3300 : Int32).toInt = 3300 := by decide
  have hk4000 : (4000 : Int32).toInt = 4000 := by decide
  have hk20000 : (20000 : Int32).toInt = 20000 := by decide
  have hk37200 : (37200 : Int32).toInt = 37200 := by decide
  have hk38400 : (38400 : Int32).toInt = 38400 := by decide
  have hk100000 : (100000 : Int32).toInt = 100000 := by decide
  have hly_16_0 := htw (u_lay RX14 TX14 0) (jWc_wsX140 _ (u_in_lay (by decide)))
  have hly_16_2 := htw (u_lay RX14 TX14 2) (jWc_wsX140 _ (u_in_lay (by decide)))
  have hly_16_5 := htw (u_lay RX14 TX14 5) (jWc_wsX140 _ (u_in_lay (by decide)))
  have hly_16_9 := htw (u_lay RX14 TX14 9) (jWc_wsX140 _ (u_in_lay (by decide)))
  have hly_16_13 := htw (u_lay RX14 TX14 13) (jWc_wsX140 _ (u_in_lay (by decide)))
  have hly_16_14 := htw (u_lay RX14 TX14 14) (jWc_wsX140 _ (u_in_lay (by decide)))
  have hly_16_15 := htw (u_lay RX14 TX14 15) (jWc_wsX140 _ (u_in_lay (by decide)))
  have hly_16_17 := htw (u_lay RX14 TX14 17) (jWc_wsX140 _ (u_in_lay (by decide)))
  have hly_16_18 := htw (u_lay RX14 TX14 18) (jWc_wsX140 _ (u_in_lay (by decide)))
  have hly_16_19 := htw (u_lay RX14 TX14 19) (jWc_wsX140 _ (u_in_lay (by decide)))
  have hly_16_20 := htw (u_lay RX14 TX14 20) (jWc_wsX140 _ (u_in_lay (by decide)))
  have hly_16_21 := htw (u_lay RX14 TX14 21) (jWc_wsX140 _ (u_in_lay (by decide)))
  have hly_16_22 := htw (u_lay RX14 TX14 22) (jWc_wsX140 _ (u_in_lay (by decide)))
  have hly_16_23 := htw (u_lay RX14 TX14 23) (jWc_wsX140 _ (u_in_lay (by decide)))
  have hly_16_24 := htw (u_lay RX14 TX14 24) (jWc_wsX140 _ (u_in_lay (by decide)))
  have hly_16_25 := htw (u_lay RX14 TX14 25) (jWc_wsX140 _ (u_in_lay (by decide)))
  have hly_16_27 := htw (u_lay RX14 TX14 27) (jWc_wsX140 _ (u_in_lay (by decide)))
  have hly_16_38 := htw (u_lay RX14 TX14 38) (jWc_wsX140 _ (u_in_lay (by decide)))
  have hly_16_41 := htw (u_lay RX14 TX14 41) (jWc_wsX140 _ (u_in_lay (by decide)))
  have hly_16_43 := htw (u_lay RX14 TX14 43) (jWc_wsX140 _ (u_in_lay (by decide)))
  have hly_16_45 := htw (u_lay RX14 TX14 45) (jWc_wsX140 _ (u_in_lay (by decide)))
  have hly_16_46 := htw (u_lay RX14 TX14 46) (jWc_wsX140 _ (u_in_lay (by decide)))
  have hly_16_47 := htw (u_lay RX14 TX14 47) (jWc_wsX140 _ (u_in_lay (by decide)))
  have hly_16_49 := htw (u_lay RX14 TX14 49) (jWc_wsX140 _ (u_in_lay (by decide)))
  have hly_16_50 := htw (u_lay RX14 TX14 50) (jWc_wsX140 _ (u_in_lay (by decide)))
  have hly_16_51 := htw (u_lay RX14 TX14 51) (jWc_wsX140 _ (u_in_lay (by decide)))
  have hly_16_52 := htw (u_lay RX14 TX14 52) (jWc_wsX140 _ (u_in_lay (by decide)))
  have hly_16_53 := htw (u_lay RX14 TX14 53) (jWc_wsX140 _ (u_in_lay (by decide)))
  have hly_16_54 := htw (u_lay RX14 TX14 54) (jWc_wsX140 _ (u_in_lay (by decide)))
  have hly_16_55 := htw (u_lay RX14 TX14 55) (jWc_wsX140 _ (u_in_lay (by decide)))
  have hly_16_56 := htw (u_lay RX14 TX14 56) (jWc_wsX140 _ (u_in_lay (by decide)))
  have hly_16_57 := htw (u_lay RX14 TX14 57) (jWc_wsX140 _ (u_in_lay (by decide)))
  have hly_16_58 := htw (u_lay RX14 TX14 58) (jWc_wsX140 _ (u_in_lay (by decide)))
  have hly_16_59 := htw (u_lay RX14 TX14 59) (jWc_wsX140 _ (u_in_lay (by decide)))
  have hly_16_60 := htw (u_lay RX14 TX14 60) (jWc_wsX140 _ (u_in_lay (by decide)))
  have hly_16_61 := htw (u_lay RX14 TX14 61) (jWc_wsX140 _ (u_in_lay (by decide)))
  have hly_16_62 := htw (u_lay RX14 TX14 62) (jWc_wsX140 _ (u_in_lay (by decide)))
  have hly_16_63 := htw (u_lay RX14 TX14 63) (jWc_wsX140 _ (u_in_lay (by decide)))
  have hly_16_67 := htw (u_lay RX14 TX14 67) (jWc_wsX140 _ (u_in_lay (by decide)))
  have hly_16_68 := htw (u_lay RX14 TX14 68) (jWc_wsX140 _ (u_in_lay (by decide)))
  have hly_16_69 := htw (u_lay RX14 TX14 69) (jWc_wsX140 _ (u_in_lay (by decide)))
  have hly_16_71 := htw (u_lay RX14 TX14 71) (jWc_wsX140 _ (u_in_lay (by decide)))
  have hly_16_72 := htw (u_lay RX14 TX14 72) (jWc_wsX140 _ (u_in_lay (by decide)))
  have hly_16_73 := htw (u_lay RX14 TX14 73) (jWc_wsX140 _ (u_in_lay (by decide)))
  have hlk_9 := (htw (.fieldLink RX14 9 "ProofServerModel" "tape" "[I") (jWr_10 _ (List.mem_of_getElem? (i := 17) rfl)))
  have hlk_13 := (htw (.fieldLink RX14 13 "ProofServerModel" "out" "[I") (jWr_10 _ (List.mem_of_getElem? (i := 18) rfl)))
  have hcs_16 := htw (.constant RX14 16 100000) (jWr_10 _ (List.mem_of_getElem? (i := 19) rfl))
  have hlk_17 := (htw (.fieldLink RX14 17 "ProofServerModel" "frame" "[I") (jWr_10 _ (List.mem_of_getElem? (i := 20) rfl)))
  have hlk_20 := (htw (.fieldLink RX14 20 "ProofServerModel" "kept" "[I") (jWr_10 _ (List.mem_of_getElem? (i := 21) rfl)))
  have hlk_26 := (htw (.fieldLink RX14 26 "ProofServerModel" "name" "Ljava/lang/StringBuilder;") (jWr_11 _ (List.mem_of_getElem? (i := 1) rfl)))
  have hlk_30 := (htw (.fieldLink RX14 30 "ProofServerModel" "value" "Ljava/lang/StringBuilder;") (jWr_11 _ (List.mem_of_getElem? (i := 2) rfl)))
  have hlk_33 := (htw (.fieldLink RX14 33 "ProofServerModel" "length" "I") (jWr_11 _ (List.mem_of_getElem? (i := 3) rfl)))
  have hlk_37 := (htw (.fieldLink RX14 37 "ProofServerModel" "sort" "[I") (jWr_11 _ (List.mem_of_getElem? (i := 4) rfl)))
  have hlk_40 := (htw (.fieldLink RX14 40 "ProofServerModel" "heir" "[I") (jWr_11 _ (List.mem_of_getElem? (i := 5) rfl)))
  have hlk_43 := (htw (.fieldLink RX14 43 "ProofServerModel" "next" "[I") (jWr_11 _ (List.mem_of_getElem? (i := 6) rfl)))
  have hlk_46 := (htw (.fieldLink RX14 46 "ProofServerModel" "nameFrom" "[I") (jWr_11 _ (List.mem_of_getElem? (i := 7) rfl)))
  have hlk_49 := (htw (.fieldLink RX14 49 "ProofServerModel" "nameTo" "[I") (jWr_11 _ (List.mem_of_getElem? (i := 8) rfl)))
  have hlk_52 := (htw (.fieldLink RX14 52 "ProofServerModel" "from" "[I") (jWr_11 _ (List.mem_of_getElem? (i := 9) rfl)))
  have hlk_55 := (htw (.fieldLink RX14 55 "ProofServerModel" "to" "[I") (jWr_11 _ (List.mem_of_getElem? (i := 10) rfl)))
  have hlk_58 := (htw (.fieldLink RX14 58 "ProofServerModel" "isInt" "[Z") (jWr_11 _ (List.mem_of_getElem? (i := 12) rfl)))
  have hlk_62 := (htw (.fieldLink RX14 62 "ProofServerModel" "ints" "[I") (jWr_11 _ (List.mem_of_getElem? (i := 13) rfl)))
  have hlk_65 := (htw (.fieldLink RX14 65 "ProofServerModel" "pool" "[I") (jWr_11 _ (List.mem_of_getElem? (i := 14) rfl)))
  have hlk_68 := (htw (.fieldLink RX14 68 "ProofServerModel" "idUnits" "[I") (jWr_11 _ (List.mem_of_getElem? (i := 15) rfl)))
  have hlk_74 := (htw (.fieldLink RX14 74 "ProofServerModel" "documents" "[LProofServerModel$Document;") (jWr_11 _ (List.mem_of_getElem? (i := 19) rfl)))
  have hlk_78 := (htw (.fieldLink RX14 78 "ProofServerModel" "changed" "[I") (jWr_11 _ (List.mem_of_getElem? (i := 20) rfl)))
  have hlk_81 := (htw (.fieldLink RX14 81 "ProofServerModel" "tail" "[I") (jWr_11 _ (List.mem_of_getElem? (i := 21) rfl)))
  have hlk_84 := (htw (.fieldLink RX14 84 "ProofServerModel" "old" "LProofServerModel$Document;") (jWr_11 _ (List.mem_of_getElem? (i := 22) rfl)))
  have hlk_88 := (htw (.fieldLink RX14 88 "ProofServerModel" "now" "LProofServerModel$Document;") (jWr_11 _ (List.mem_of_getElem? (i := 23) rfl)))
  have hlk_91 := (htw (.fieldLink RX14 91 "ProofServerModel" "waitOf" "[LProofServerModel$Document;") (jWr_12 _ (List.mem_of_getElem? (i := 0) rfl)))
  have hlk_94 := (htw (.fieldLink RX14 94 "ProofServerModel" "waitGoals" "[Z") (jWr_12 _ (List.mem_of_getElem? (i := 1) rfl)))
  have hlk_97 := (htw (.fieldLink RX14 97 "ProofServerModel" "waitNeed" "[I") (jWr_12 _ (List.mem_of_getElem? (i := 2) rfl)))
  have hlk_100 := (htw (.fieldLink RX14 100 "ProofServerModel" "waitString" "[Z") (jWr_12 _ (List.mem_of_getElem? (i := 3) rfl)))
  have hlk_103 := (htw (.fieldLink RX14 103 "ProofServerModel" "waitInt" "[I") (jWr_12 _ (List.mem_of_getElem? (i := 4) rfl)))
  have hlk_106 := (htw (.fieldLink RX14 106 "ProofServerModel" "waitUnits" "[I") (jWr_12 _ (List.mem_of_getElem? (i := 5) rfl)))
  have hlk_109 := (htw (.fieldLink RX14 109 "ProofServerModel" "waitLength" "[I") (jWr_12 _ (List.mem_of_getElem? (i := 6) rfl)))
  have hcs_112 := htw (.constant RX14 112 37200) (jWr_12 _ (List.mem_of_getElem? (i := 7) rfl))
  have hlk_113 := (htw (.fieldLink RX14 113 "ProofServerModel" "waitName" "[I") (jWr_12 _ (List.mem_of_getElem? (i := 8) rfl)))
  have hlk_116 := (htw (.fieldLink RX14 116 "ProofServerModel" "waitNameLength" "[I") (jWr_12 _ (List.mem_of_getElem? (i := 9) rfl)))
  have hlk_122 := (htw (.fieldLink RX14 122 "ProofServerModel" "kernel" "LProofServerModel$Kernel;") (jWr_12 _ (List.mem_of_getElem? (i := 13) rfl)))
  have hlk_126 := (htw (.fieldLink RX14 126 "ProofServerModel" "taken" "[I") (jWr_12 _ (List.mem_of_getElem? (i := 14) rfl)))
  have hlk_129 := (htw (.fieldLink RX14 129 "ProofServerModel" "checkOf" "[LProofServerModel$Document;") (jWr_12 _ (List.mem_of_getElem? (i := 15) rfl)))
  have hlk_132 := (htw (.fieldLink RX14 132 "ProofServerModel" "checkSentence" "[I") (jWr_12 _ (List.mem_of_getElem? (i := 16) rfl)))
  have hlk_135 := (htw (.fieldLink RX14 135 "ProofServerModel" "checkLeft" "[I") (jWr_12 _ (List.mem_of_getElem? (i := 17) rfl)))
  have hlk_138 := (htw (.fieldLink RX14 138 "ProofServerModel" "checkCached" "[Z") (jWr_12 _ (List.mem_of_getElem? (i := 18) rfl)))
  have hcs_141 := htw (.constant RX14 141 38400) (jWr_12 _ (List.mem_of_getElem? (i := 19) rfl))
  have hlk_142 := (htw (.fieldLink RX14 142 "ProofServerModel" "cacheUnits" "[I") (jWr_12 _ (List.mem_of_getElem? (i := 20) rfl)))
  have hlk_145 := (htw (.fieldLink RX14 145 "ProofServerModel" "cacheLength" "[I") (jWr_12 _ (List.mem_of_getElem? (i := 21) rfl)))
  have hlk_148 := (htw (.fieldLink RX14 148 "ProofServerModel" "row" "[I") (jWr_12 _ (List.mem_of_getElem? (i := 22) rfl)))
  have hlk_151 := (htw (.fieldLink RX14 151 "ProofServerModel" "told" "LProofServerModel$Document;") (jWr_12 _ (List.mem_of_getElem? (i := 23) rfl)))
  have hlk_154 := (htw (.fieldLink RX14 154 "ProofServerModel" "toldGoals" "[I") (jWr_13 _ (List.mem_of_getElem? (i := 0) rfl)))
  have hlk_157 := (htw (.fieldLink RX14 157 "ProofServerModel" "toldFacts" "[I") (jWr_13 _ (List.mem_of_getElem? (i := 1) rfl)))
  have hbs : base ≤ s.heap.size := Nat.le_of_lt (Nat.lt_of_le_of_lt hbr0 hraw0.lt)
  have hRc : R.cells = LC - s.heap.size := by rw [← hR]; rfl
  have hRs : R.slots = LS - jTot s.heap := by rw [← hR]; rfl
  have hE0 := hh.iv 0 rfl
  have hab0 : ∀ {a : Nat} {t : Nat × Nat}, G0 a = some t → a < s.heap.size := fun ht => (hh.ab ht).2
  have hin2 : meth.name = "<init>" := (name_of_methodNamed Bd.named Bd.method).1
  have hkp : jKx r0 G0 G0 s.heap s.heap := jKx.rf
  refine lv_aload_n hx hb dX14_init_0 rfl (lv_at hl 0 rfl) ?_
  refine W.objInit hx hb hown (htw (.methodLink RX14 1 objectInit) (jWr_10 _ (List.mem_of_getElem? (i := 16) rfl))) (htw (.instanceMethod objectInit) (jWr_1 _ (List.mem_of_getElem? (i := 10) rfl))) (htw (.code objectInit ⟨#[0xb1]⟩ 1 none) (jWr_1 _ (List.mem_of_getElem? (i := 11) rfl))) rfl (by rw [hml]; exact hl.1) rfl dX14_init_1 (by rw [← hR]; exact Nat.le_of_ble_eq_true rfl) (by rw [← hR]; exact Nat.le_of_ble_eq_true rfl) ?_
  refine W.eq (g2 := F0 m 4 ls []) rfl ?_
  refine lv_aload_n hx hb dX14_init_4 rfl (lv_at hl 0 rfl) ?_
  refine lv_sipush (v := 4000) hx hb dX14_init_5 (by decide) ?_
  have hsz_1 := hh.2.2.2.2.2.1
  have htt_1 := hh.2.2.2.2.2.2.1
  refine j7_newiK hx hb hK hh hB (atype := .int) (ty := .int) (htw (.arrayClass .int) (jWr_3 _ (List.mem_of_getElem? (i := 20) rfl))) rfl rfl (fun _ h => h) hB111 1 rfl (by decide) (by decide) hbs (x := 4000) (by decide) (by omega) (fun j => by first | trivial | decide | rfl | exact Or.inl rfl | exact Or.inr (Or.inl (by decide)) | (refine ⟨?_, ?_⟩ <;> decide)) (by rw [hRc]; omega) (by rw [hRs]; omega) dX14_init_8 (fun H_1 hfr_1 hh_1 => ?_)
  have hh_1 : jSt (dC, dI) B base G0 (va_up G0 s.heap.size (some (111, 4000))) EX14_init s.heap (0 + 1) (0 + 4000) [] [] [(jFz9, jDZ dC dI G0)] H_1 [] := hh_1
  have hZ_1 : jN14 G0 (va_up G0 s.heap.size (some (111, 4000))) := jN14.new (by decide)
  have hN_1 : (jNk [1, 2, 3, 4, 5, 6, 7, 8, 9, 10, 11, 12, 13]) G0 (va_up G0 s.heap.size (some (111, 4000))) := jNk.new (by decide)
  have hgn_1 : (va_up G0 s.heap.size (some (111, 4000))) s.heap.size = some (111, 4000) := jUp_self
  have hle_1 : jLe G0 (va_up G0 s.heap.size (some (111, 4000))) := jLe.new hh.2.1.fresh
  have hke_1 : jKe G0 (va_up G0 s.heap.size (some (111, 4000))) s.heap H_1 := jKe.new hfr_1
  have hsy_1 : s.heap.size ≤ s.heap.size := hh.1.1
  generalize (va_up G0 s.heap.size (some (111, 4000))) = G_1 at hN_1 hgn_1 hle_1 hke_1 hh_1 hZ_1
  clear hh
  have hNn_1 : (jNk [1, 2, 3, 4, 5, 6, 7, 8, 9, 10, 11, 12, 13]) G0 G_1 := (jNk.rf).tr hN_1
  have hkp_2 := hkp.tr hke_1
  have hraw_3n := hke_1.nr hraw0.lt hnr0
  have hraw_3 := hraw0.kept (hke_1.1 _ hraw0.lt)
  try have hz14_1 : jN14 G0 G_1 := (jN14.rf).tr hZ_1
  have hd_4 := jDZ.grow (hh_1.iv 0 rfl) hle_1 hZ_1
  have hh_5 := hh_1.sub (L1 := []) [] rfl (M1 := []) [] rfl (I1 := []) [] rfl
  clear hh_1
  have hh_6 := hh_5.addI (jDZ.ie hd_4)
  clear hh_5
  refine j7_putRF hx hb hown hK hh_6 hB hAp hraw_3 hraw_3n hbr0 (C := RX14) (T := TX14) (N := 74) rfl (i := 0) (by decide) (Nat.le_of_ble_eq_true rfl) hly_16_0 rfl hin2 rfl hlk_9 (ty := (.array .int)) (v := .ref s.heap.size) (by decide +kernel) rfl rfl dX14_init_10 (fun H_7 locs_7 hraw_7 hr_7 hh_7 => ?_)
  have hraw_7 : va_at (dC, dI) vwCl (r0, .inr (16, [.ref s.heap.size, .int 0, .null, .int 0, .int 0, .null, .int 0, .int 0, .int 0, .null, .int 0, .int 0, .int 0, .null, .null, .int 0, .int 0, .null, .null, .null, .null, .null, .null, .null, .null, .null, .int 0, .null, .int 0, .int 0, .int 0, .int 0, .int 0, .int 0, .int 0, .int 0, .int 0, .int 0, .null, .int 0, .int 0, .null, .int 0, .null, .int 0, .null, .null, .null, .int 0, .null, .null, .null, .null, .null, .null, .null, .null, .null, .null, .null, .null, .null, .null, .null, .int 0, .int 0, .int 0, .null, .null, .null, .int 0, .null, .null, .null])) H_7 := hraw_7
  have hkp_8 := hkp_2.put hr_7
  clear hh_6
  refine lv_aload_n hx hb dX14_init_13 rfl (lv_at hl 0 rfl) ?_
  refine lv_sipush (v := 20000) hx hb dX14_init_14 (by decide) ?_
  clear hsz_1 htt_1
  have hsz_9 := hh_7.2.2.2.2.2.1
  have htt_9 := hh_7.2.2.2.2.2.2.1
  refine j7_newiK hx hb hK hh_7 hB (atype := .int) (ty := .int) (htw (.arrayClass .int) (jWr_3 _ (List.mem_of_getElem? (i := 20) rfl))) rfl rfl (fun _ h => h) hB101 1 rfl (by decide) (by decide) hbs (x := 20000) (by decide) (by omega) (fun j => by first | trivial | decide | rfl | exact Or.inl rfl | exact Or.inr (Or.inl (by decide)) | (refine ⟨?_, ?_⟩ <;> decide)) (by rw [hRc]; omega) (by rw [hRs]; omega) dX14_init_17 (fun H_9 hfr_9 hh_9 => ?_)
  have hh_9 : jSt (dC, dI) B base G0 (va_up G_1 H_7.size (some (101, 20000))) EX14_init s.heap ((0 + 1) + 1) ((0 + 4000) + 20000) [] [] [(jFz9, jDZ dC dI G_1)] H_9 locs_7 := hh_9
  have hZ_9 : jN14 G_1 (va_up G_1 H_7.size (some (101, 20000))) := jN14.new (by decide)
  have hN_9 : (jNk [1, 2, 3, 4, 5, 6, 7, 8, 9, 10, 11, 12, 13]) G_1 (va_up G_1 H_7.size (some (101, 20000))) := jNk.new (by decide)
  have hgn_9 : (va_up G_1 H_7.size (some (101, 20000))) H_7.size = some (101, 20000) := jUp_self
  have hle_9 : jLe G_1 (va_up G_1 H_7.size (some (101, 20000))) := jLe.new hh_7.2.1.fresh
  have hke_9 : jKe G_1 (va_up G_1 H_7.size (some (101, 20000))) H_7 H_9 := jKe.new hfr_9
  have hsy_9 : s.heap.size ≤ H_7.size := hh_7.1.1
  generalize (va_up G_1 H_7.size (some (101, 20000))) = G_9 at hN_9 hgn_9 hle_9 hke_9 hh_9 hZ_9
  clear hh_7
  have hNn_9 : (jNk [1, 2, 3, 4, 5, 6, 7, 8, 9, 10, 11, 12, 13]) G0 G_9 := (hNn_1).tr hN_9
  have hkp_10 := hkp_8.tr hke_9
  have hraw_11n := hke_9.nr hraw_7.lt hraw_3n
  have hraw_11 := hraw_7.kept (hke_9.1 _ hraw_7.lt)
  try have hz14_9 : jN14 G0 G_9 := (hz14_1).tr hZ_9
  have hd_12 := jDZ.grow (hh_9.iv 0 rfl) hle_9 hZ_9
  have hh_13 := hh_9.sub (L1 := []) [] rfl (M1 := []) [] rfl (I1 := []) [] rfl
  clear hh_9
  have hh_14 := hh_13.addI (jDZ.ie hd_12)
  clear hh_13
  refine j7_putRF hx hb hown hK hh_14 hB hAp hraw_11 hraw_11n hbr0 (C := RX14) (T := TX14) (N := 74) rfl (i := 2) (by decide) (Nat.le_of_ble_eq_true rfl) hly_16_2 rfl hin2 rfl hlk_13 (ty := (.array .int)) (v := .ref H_7.size) (by decide +kernel) rfl rfl dX14_init_19 (fun H_15 locs_15 hraw_15 hr_15 hh_15 => ?_)
  have hraw_15 : va_at (dC, dI) vwCl (r0, .inr (16, [.ref s.heap.size, .int 0, .ref H_7.size, .int 0, .int 0, .null, .int 0, .int 0, .int 0, .null, .int 0, .int 0, .int 0, .null, .null, .int 0, .int 0, .null, .null, .null, .null, .null, .null, .null, .null, .null, .int 0, .null, .int 0, .int 0, .int 0, .int 0, .int 0, .int 0, .int 0, .int 0, .int 0, .int 0, .null, .int 0, .int 0, .null, .int 0, .null, .int 0, .null, .null, .null, .int 0, .null, .null, .null, .null, .null, .null, .null, .null, .null, .null, .null, .null, .null, .null, .null, .int 0, .int 0, .int 0, .null, .null, .null, .int 0, .null, .null, .null])) H_15 := hraw_15
  have hkp_16 := hkp_10.put hr_15
  clear hh_14
  refine lv_aload_n hx hb dX14_init_22 rfl (lv_at hl 0 rfl) ?_
  refine lv_ldc hx hb hown hcs_16 dX14_init_23 ?_
  clear hsz_9 htt_9
  have hsz_17 := hh_15.2.2.2.2.2.1
  have htt_17 := hh_15.2.2.2.2.2.2.1
  refine j7_newiK hx hb hK hh_15 hB (atype := .int) (ty := .int) (htw (.arrayClass .int) (jWr_3 _ (List.mem_of_getElem? (i := 20) rfl))) rfl rfl (fun _ h => h) hB101 1 rfl (by decide) (by decide) hbs (x := 100000) (by decide) (by omega) (fun j => by first | trivial | decide | rfl | exact Or.inl rfl | exact Or.inr (Or.inl (by decide)) | (refine ⟨?_, ?_⟩ <;> decide)) (by rw [hRc]; omega) (by rw [hRs]; omega) dX14_init_25 (fun H_17 hfr_17 hh_17 => ?_)
  have hh_17 : jSt (dC, dI) B base G0 (va_up G_9 H_15.size (some (101, 100000))) EX14_init s.heap (((0 + 1) + 1) + 1) (((0 + 4000) + 20000) + 100000) [] [] [(jFz9, jDZ dC dI G_9)] H_17 locs_15 := hh_17
  have hZ_17 : jN14 G_9 (va_up G_9 H_15.size (some (101, 100000))) := jN14.new (by decide)
  have hN_17 : (jNk [1, 2, 3, 4, 5, 6, 7, 8, 9, 10, 11, 12, 13]) G_9 (va_up G_9 H_15.size (some (101, 100000))) := jNk.new (by decide)
  have hgn_17 : (va_up G_9 H_15.size (some (101, 100000))) H_15.size = some (101, 100000) := jUp_self
  have hle_17 : jLe G_9 (va_up G_9 H_15.size (some (101, 100000))) := jLe.new hh_15.2.1.fresh
  have hke_17 : jKe G_9 (va_up G_9 H_15.size (some (101, 100000))) H_15 H_17 := jKe.new hfr_17
  have hsy_17 : s.heap.size ≤ H_15.size := hh_15.1.1
  generalize (va_up G_9 H_15.size (some (101, 100000))) = G_17 at hN_17 hgn_17 hle_17 hke_17 hh_17 hZ_17
  clear hh_15
  have hNn_17 : (jNk [1, 2, 3, 4, 5, 6, 7, 8, 9, 10, 11, 12, 13]) G0 G_17 := (hNn_9).tr hN_17
  have hkp_18 := hkp_16.tr hke_17
  have hraw_19n := hke_17.nr hraw_15.lt hraw_11n
  have hraw_19 := hraw_15.kept (hke_17.1 _ hraw_15.lt)
  try have hz14_17 : jN14 G0 G_17 := (hz14_9).tr hZ_17
  have hd_20 := jDZ.grow (hh_17.iv 0 rfl) hle_17 hZ_17
  have hh_21 := hh_17.sub (L1 := []) [] rfl (M1 := []) [] rfl (I1 := []) [] rfl
  clear hh_17
  have hh_22 := hh_21.addI (jDZ.ie hd_20)
  clear hh_21
  refine j7_putRF hx hb hown hK hh_22 hB hAp hraw_19 hraw_19n hbr0 (C := RX14) (T := TX14) (N := 74) rfl (i := 5) (by decide) (Nat.le_of_ble_eq_true rfl) hly_16_5 rfl hin2 rfl hlk_17 (ty := (.array .int)) (v := .ref H_15.size) (by decide +kernel) rfl rfl dX14_init_27 (fun H_23 locs_23 hraw_23 hr_23 hh_23 => ?_)
  have hraw_23 : va_at (dC, dI) vwCl (r0, .inr (16, [.ref s.heap.size, .int 0, .ref H_7.size, .int 0, .int 0, .ref H_15.size, .int 0, .int 0, .int 0, .null, .int 0, .int 0, .int 0, .null, .null, .int 0, .int 0, .null, .null, .null, .null, .null, .null, .null, .null, .null, .int 0, .null, .int 0, .int 0, .int 0, .int 0, .int 0, .int 0, .int 0, .int 0, .int 0, .int 0, .null, .int 0, .int 0, .null, .int 0, .null, .int 0, .null, .null, .null, .int 0, .null, .null, .null, .null, .null, .null, .null, .null, .null, .null, .null, .null, .null, .null, .null, .int 0, .int 0, .int 0, .null, .null, .null, .int 0, .null, .null, .null])) H_23 := hraw_23
  have hkp_24 := hkp_18.put hr_23
  clear hh_22
  refine lv_aload_n hx hb dX14_init_30 rfl (lv_at hl 0 rfl) ?_
  refine lv_sipush (v := 3300) hx hb dX14_init_31 (by decide) ?_
  clear hsz_17 htt_17
  have hsz_25 := hh_23.2.2.2.2.2.1
  have htt_25 := hh_23.2.2.2.2.2.2.1
  refine j7_newiK hx hb hK hh_23 hB (atype := .int) (ty := .int) (htw (.arrayClass .int) (jWr_3 _ (List.mem_of_getElem? (i := 20) rfl))) rfl rfl (fun _ h => h) hB110 1 rfl (by decide) (by decide) hbs (x := 3300) (by decide) (by omega) (fun j => by first | trivial | decide | rfl | exact Or.inl rfl | exact Or.inr (Or.inl (by decide)) | (refine ⟨?_, ?_⟩ <;> decide)) (by rw [hRc]; omega) (by rw [hRs]; omega) dX14_init_34 (fun H_25 hfr_25 hh_25 => ?_)
  have hh_25 : jSt (dC, dI) B base G0 (va_up G_17 H_23.size (some (110, 3300))) EX14_init s.heap ((((0 + 1) + 1) + 1) + 1) ((((0 + 4000) + 20000) + 100000) + 3300) [] [] [(jFz9, jDZ dC dI G_17)] H_25 locs_23 := hh_25
  have hZ_25 : jN14 G_17 (va_up G_17 H_23.size (some (110, 3300))) := jN14.new (by decide)
  have hN_25 : (jNk [1, 2, 3, 4, 5, 6, 7, 8, 9, 10, 11, 12, 13]) G_17 (va_up G_17 H_23.size (some (110, 3300))) := jNk.new (by decide)
  have hgn_25 : (va_up G_17 H_23.size (some (110, 3300))) H_23.size = some (110, 3300) := jUp_self
  have hle_25 : jLe G_17 (va_up G_17 H_23.size (some (110, 3300))) := jLe.new hh_23.2.1.fresh
  have hke_25 : jKe G_17 (va_up G_17 H_23.size (some (110, 3300))) H_23 H_25 := jKe.new hfr_25
  have hsy_25 : s.heap.size ≤ H_23.size := hh_23.1.1
  generalize (va_up G_17 H_23.size (some (110, 3300))) = G_25 at hN_25 hgn_25 hle_25 hke_25 hh_25 hZ_25
  clear hh_23
  have hNn_25 : (jNk [1, 2, 3, 4, 5, 6, 7, 8, 9, 10, 11, 12, 13]) G0 G_25 := (hNn_17).tr hN_25
  have hkp_26 := hkp_24.tr hke_25
  have hraw_27n := hke_25.nr hraw_23.lt hraw_19n
  have hraw_27 := hraw_23.kept (hke_25.1 _ hraw_23.lt)
  try have hz14_25 : jN14 G0 G_25 := (hz14_17).tr hZ_25
  have hd_28 := jDZ.grow (hh_25.iv 0 rfl) hle_25 hZ_25
  have hh_29 := hh_25.sub (L1 := []) [] rfl (M1 := []) [] rfl (I1 := []) [] rfl
  clear hh_25
  have hh_30 := hh_29.addI (jDZ.ie hd_28)
  clear hh_29
  refine j7_putRF hx hb hown hK hh_30 hB hAp hraw_27 hraw_27n hbr0 (C := RX14) (T := TX14) (N := 74) rfl (i := 9) (by decide) (Nat.le_of_ble_eq_true rfl) hly_16_9 rfl hin2 rfl hlk_20 (ty := (.array .int)) (v := .ref H_23.size) (by decide +kernel) rfl rfl dX14_init_36 (fun H_31 locs_31 hraw_31 hr_31 hh_31 => ?_)
  have hraw_31 : va_at (dC, dI) vwCl (r0, .inr (16, [.ref s.heap.size, .int 0, .ref H_7.size, .int 0, .int 0, .ref H_15.size, .int 0, .int 0, .int 0, .ref H_23.size, .int 0, .int 0, .int 0, .null, .null, .int 0, .int 0, .null, .null, .null, .null, .null, .null, .null, .null, .null, .int 0, .null, .int 0, .int 0, .int 0, .int 0, .int 0, .int 0, .int 0, .int 0, .int 0, .int 0, .null, .int 0, .int 0, .null, .int 0, .null, .int 0, .null, .null, .null, .int 0, .null, .null, .null, .null, .null, .null, .null, .null, .null, .null, .null, .null, .null, .null, .null, .int 0, .int 0, .int 0, .null, .null, .null, .int 0, .null, .null, .null])) H_31 := hraw_31
  have hkp_32 := hkp_26.put hr_31
  clear hh_30
  refine lv_aload_n hx hb dX14_init_39 rfl (lv_at hl 0 rfl) ?_
  clear hsz_25 htt_25
  have hsz_33 := hh_31.2.2.2.2.2.1
  have htt_33 := hh_31.2.2.2.2.2.2.1
  refine j7_newo (k := 0) (C := RJ4) (T := TJ4) (N := 4) (fs := [.null, .int 0, .int 0, .int 0]) hx hb htw jWc_wsJ40 (fun k => ([(.array .byte), .byte, .boolean, .int] : List FieldType).getD k .int) (by decide +kernel) hown (htw (.classLink RX14 23 RJ4) (jWr_10 _ (List.mem_of_getElem? (i := 22) rfl))) (htw (.instantiable RJ4 4) (jWr_10 _ (List.mem_of_getElem? (i := 23) rfl))) (htw (.initialized RJ4) (jWr_11 _ (List.mem_of_getElem? (i := 0) rfl))) hK rfl (fun j hj => by rcases (by omega : j = 0 ∨ j = 1 ∨ j = 2 ∨ j = 3) with rfl | rfl | rfl | rfl <;> rfl) hh_31 hB (by rw [hRc]; omega) (by rw [hRs]; omega) dX14_init_40 (fun H_33 hraw_33 hfr_33 hnr_33 hh_33 => ?_)
  have hlt_34 := hraw_31.lt
  have hke_33 : jKe G_25 G_25 H_31 H_33 := jKe.raw hfr_33
  have hbr_33 : base ≤ H_31.size := Nat.le_trans hbs hh_31.1.1
  have hsy_33 : s.heap.size ≤ H_31.size := hh_31.1.1
  clear hh_31
  have hkp_35 := hkp_32.tr hke_33
  have hraw_36n := hke_33.nr hraw_31.lt hraw_27n
  have hraw_36 := hraw_31.kept (hke_33.1 _ hraw_31.lt)
  have hne_37 : r0 ≠ H_31.size := Nat.ne_of_lt hlt_34
  refine lv_dup hx hb dX14_init_43 rfl ?_
  clear hsz_33 htt_33
  have hsz_38 := hh_33.2.2.2.2.2.1
  have htt_38 := hh_33.2.2.2.2.2.2.1
  refine W.room (fun hrc_38 hrs_38 => ?_)
  refine va_callv (A0 := jA base) (H0 := s.heap) (va_runI (As := []) (rest := [.ref H_31.size, .ref r0]) ⟨hx, hb, hml, hown, hts⟩ (uJ4_init_da8c8W l dC dI ca base B hB hAp hB0 hB196 G_25 H_33 H_31.size LC LS) (cwI 0 hts (jgW (jWr_13 _ (List.mem_of_getElem? (i := 4) rfl))) rfl rfl rfl (htw (.initialized RJ4) (jWr_11 _ (List.mem_of_getElem? (i := 0) rfl))) (htw (.methodLink RX14 25 yJ4_init_da8c8) (jWr_13 _ (List.mem_of_getElem? (i := 2) rfl))) (htw (.instanceMethod yJ4_init_da8c8) (jWr_13 _ (List.mem_of_getElem? (i := 3) rfl))) rfl (by decide +kernel) ⟨by rw [← hR]; exact Nat.le_of_ble_eq_true rfl, by rw [← hR]; exact Nat.le_of_ble_eq_true rfl⟩) ⟨fun a U g mk q => by obtain ⟨q0, q1, q2, qK, q10, q11, q12, q13, q14⟩ := q; exact ⟨q0, q1, q2, jG.calling g mk a qK, q10, q11, q12, q13, q14⟩, fun U hU hW => ⟨rfl, hU, hh_33.2.1, hG.step hW hU hh_33.1, hraw_33, hnr_33, hbr_33, jP.nil, (by omega), (by omega), trivial⟩⟩ rfl rfl hl.1 rfl (lv_room (Nat.le_of_ble_eq_true rfl)) dX14_init_44 ⟨by rw [hRc]; omega, by rw [hRs]; omega⟩) hh_33.1 (fun q _ h => h) (fun q h => h) (fun u_38 t_38 H_38 locs_38 ht_38 hvm_38 hr_39 hb_38 hz_38 hk_38 hS_38 => ?_)
  obtain ⟨qc_38, xa_38, m_xa_38, G_38⟩ := u_38
  rw [ht_38] at hb_38
  simp only at hb_38
  obtain ⟨⟨hb_381, hb_382, hb_383, hb_384, hb_385, hb_386⟩, hgq_38_0, hN_38, hgc_38, hbX_38⟩ := hb_38
  have hZ_38 : jN14 G_25 G_38 := fun a h => hN_38 a 14 0 h rfl
  try have hz14_38 : jN14 G0 G_38 := (hz14_25).tr hZ_38
  have hN_38 : (jNk [1, 2, 3, 4, 5, 6, 7, 8, 9, 10, 11, 12, 13]) G_25 G_38 := hN_38.sub (by decide)
  have hh_38 : jSt (dC, dI) B base G0 G_38 EX14_init s.heap ((((((0 + 1) + 1) + 1) + 1) + 1) + (1)) ((((((0 + 4000) + 20000) + 100000) + 3300) + 4) + (16)) [(H_31.size, 0, 3, .int qc_38), (H_31.size, 0, 0, .ref xa_38)] [] [(jFz9, jDZ dC dI G_25)] H_38 locs_38 := (hh_33.callG hb_381 hb_382 hb_383 hb_384 hb_385 hS_38 rfl (L1 := []) [] rfl rfl (M1 := []) [] rfl rfl (I1 := [(jFz9, jDZ dC dI G_25)]) [0] rfl rfl).more hb_386
  have hNn_38 : (jNk [1, 2, 3, 4, 5, 6, 7, 8, 9, 10, 11, 12, 13]) G0 G_38 := (hNn_25).tr hN_38
  have hd_40 := jDZ.grow (hh_38.iv 0 rfl) hb_382 hZ_38
  have hh_41 := hh_38.sub (L1 := [(H_31.size, 0, 3, .int qc_38), (H_31.size, 0, 0, .ref xa_38)]) [0, 1] rfl (M1 := []) [] rfl (I1 := []) [] rfl
  clear hh_38
  have hh_42 := hh_41.addI (jDZ.ie hd_40)
  clear hh_41
  try simp only at hr_39
  obtain ⟨hr_39_0, hr_39_1⟩ := hr_39
  have hkp_43 := hkp_35.in hbX_38 hsy_33
  have hraw_44x := hbX_38.ke hraw_36.lt hne_37 hraw_36n
  clear hne_37
  have hraw_44 := hraw_36.kept hraw_44x.1
  refine j7_putRF hx hb hown hK hh_42 hB hAp hraw_44 hraw_44x.2 hbr0 (C := RX14) (T := TX14) (N := 74) rfl (i := 13) (by decide) (Nat.le_of_ble_eq_true rfl) hly_16_13 rfl hin2 rfl hlk_26 (ty := (.object "java/lang/StringBuilder")) (v := .ref H_31.size) (by decide +kernel) rfl rfl dX14_init_47 (fun H_45 locs_45 hraw_45 hr_45 hh_45 => ?_)
  have hraw_45 : va_at (dC, dI) vwCl (r0, .inr (16, [.ref s.heap.size, .int 0, .ref H_7.size, .int 0, .int 0, .ref H_15.size, .int 0, .int 0, .int 0, .ref H_23.size, .int 0, .int 0, .int 0, .ref H_31.size, .null, .int 0, .int 0, .null, .null, .null, .null, .null, .null, .null, .null, .null, .int 0, .null, .int 0, .int 0, .int 0, .int 0, .int 0, .int 0, .int 0, .int 0, .int 0, .int 0, .null, .int 0, .int 0, .null, .int 0, .null, .int 0, .null, .null, .null, .int 0, .null, .null, .null, .null, .null, .null, .null, .null, .null, .null, .null, .null, .null, .null, .null, .int 0, .int 0, .int 0, .null, .null, .null, .int 0, .null, .null, .null])) H_45 := hraw_45
  have hkp_46 := hkp_43.put hr_45
  clear hh_42
  refine lv_aload_n hx hb dX14_init_50 rfl (lv_at hl 0 rfl) ?_
  have hnb : H_31.size ≠ H_45.size := Nat.ne_of_lt (hh_45.ab ((jLe.rf) _ _ hgc_38)).2
  clear hsz_38 htt_38 hrc_38 hrs_38
  (try clear hb_384); (try clear hb_385); (try clear hz_38)
  have hsz_47 := hh_45.2.2.2.2.2.1
  have htt_47 := hh_45.2.2.2.2.2.2.1
  refine j7_newo (k := 0) (C := RJ4) (T := TJ4) (N := 4) (fs := [.null, .int 0, .int 0, .int 0]) hx hb htw jWc_wsJ40 (fun k => ([(.array .byte), .byte, .boolean, .int] : List FieldType).getD k .int) (by decide +kernel) hown (htw (.classLink RX14 23 RJ4) (jWr_10 _ (List.mem_of_getElem? (i := 22) rfl))) (htw (.instantiable RJ4 4) (jWr_10 _ (List.mem_of_getElem? (i := 23) rfl))) (htw (.initialized RJ4) (jWr_11 _ (List.mem_of_getElem? (i := 0) rfl))) hK rfl (fun j hj => by rcases (by omega : j = 0 ∨ j = 1 ∨ j = 2 ∨ j = 3) with rfl | rfl | rfl | rfl <;> rfl) hh_45 hB (by rw [hRc]; omega) (by rw [hRs]; omega) dX14_init_51 (fun H_47 hraw_47 hfr_47 hnr_47 hh_47 => ?_)
  have hlt_48 := hraw_45.lt
  have hke_47 : jKe G_38 G_38 H_45 H_47 := jKe.raw hfr_47
  have hbr_47 : base ≤ H_45.size := Nat.le_trans hbs hh_45.1.1
  have hsy_47 : s.heap.size ≤ H_45.size := hh_45.1.1
  clear hh_45
  have hkp_49 := hkp_46.tr hke_47
  have hraw_50n := hke_47.nr hraw_45.lt hraw_44x.2
  have hraw_50 := hraw_45.kept (hke_47.1 _ hraw_45.lt)
  have hne_51 : r0 ≠ H_45.size := Nat.ne_of_lt hlt_48
  refine lv_dup hx hb dX14_init_54 rfl ?_
  clear hsz_47 htt_47
  have hsz_52 := hh_47.2.2.2.2.2.1
  have htt_52 := hh_47.2.2.2.2.2.2.1
  refine W.room (fun hrc_52 hrs_52 => ?_)
  refine va_callv (A0 := jA base) (H0 := s.heap) (va_runI (As := []) (rest := [.ref H_45.size, .ref r0]) ⟨hx, hb, hml, hown, hts⟩ (uJ4_init_da8c8W l dC dI ca base B hB hAp hB0 hB196 G_38 H_47 H_45.size LC LS) (cwI 0 hts (jgW (jWr_13 _ (List.mem_of_getElem? (i := 4) rfl))) rfl rfl rfl (htw (.initialized RJ4) (jWr_11 _ (List.mem_of_getElem? (i := 0) rfl))) (htw (.methodLink RX14 25 yJ4_init_da8c8) (jWr_13 _ (List.mem_of_getElem? (i := 2) rfl))) (htw (.instanceMethod yJ4_init_da8c8) (jWr_13 _ (List.mem_of_getElem? (i := 3) rfl))) rfl (by decide +kernel) ⟨by rw [← hR]; exact Nat.le_of_ble_eq_true rfl, by rw [← hR]; exact Nat.le_of_ble_eq_true rfl⟩) ⟨fun a U g mk q => by obtain ⟨q0, q1, q2, qK, q10, q11, q12, q13, q14⟩ := q; exact ⟨q0, q1, q2, jG.calling g mk a qK, q10, q11, q12, q13, q14⟩, fun U hU hW => ⟨rfl, hU, hh_47.2.1, hG.step hW hU hh_47.1, hraw_47, hnr_47, hbr_47, jP.nil, (by omega), (by omega), trivial⟩⟩ rfl rfl hl.1 rfl (lv_room (Nat.le_of_ble_eq_true rfl)) dX14_init_55 ⟨by rw [hRc]; omega, by rw [hRs]; omega⟩) hh_47.1 (fun q _ h => h) (fun q h => h) (fun u_52 t_52 H_52 locs_52 ht_52 hvm_52 hr_53 hb_52 hz_52 hk_52 hS_52 => ?_)
  obtain ⟨qc_52, xa_52, m_xa_52, G_52⟩ := u_52
  rw [ht_52] at hb_52
  simp only at hb_52
  obtain ⟨⟨hb_521, hb_522, hb_523, hb_524, hb_525, hb_526⟩, hgq_52_0, hN_52, hgc_52, hbX_52⟩ := hb_52
  have hZ_52 : jN14 G_38 G_52 := fun a h => hN_52 a 14 0 h rfl
  try have hz14_52 : jN14 G0 G_52 := (hz14_38).tr hZ_52
  have hN_52 : (jNk [1, 2, 3, 4, 5, 6, 7, 8, 9, 10, 11, 12, 13]) G_38 G_52 := hN_52.sub (by decide)
  have hh_52 : jSt (dC, dI) B base G0 G_52 EX14_init s.heap ((((((((0 + 1) + 1) + 1) + 1) + 1) + (1)) + 1) + (1)) ((((((((0 + 4000) + 20000) + 100000) + 3300) + 4) + (16)) + 4) + (16)) [(H_45.size, 0, 3, .int qc_52), (H_45.size, 0, 0, .ref xa_52), (H_31.size, 0, 3, .int qc_38), (H_31.size, 0, 0, .ref xa_38)] [] [(jFz9, jDZ dC dI G_38)] H_52 locs_52 := (hh_47.callG hb_521 hb_522 hb_523 hb_524 hb_525 hS_52 rfl (L1 := [(H_31.size, 0, 3, .int qc_38), (H_31.size, 0, 0, .ref xa_38)]) [0, 1] rfl rfl (M1 := []) [] rfl rfl (I1 := [(jFz9, jDZ dC dI G_38)]) [0] rfl rfl).more hb_526
  have hNn_52 : (jNk [1, 2, 3, 4, 5, 6, 7, 8, 9, 10, 11, 12, 13]) G0 G_52 := (hNn_38).tr hN_52
  have hg_54 := hb_522 _ _ hgq_38_0
  have hd_55 := jDZ.grow (hh_52.iv 0 rfl) hb_522 hZ_52
  have hh_56 := hh_52.sub (L1 := [(H_45.size, 0, 3, .int qc_52), (H_45.size, 0, 0, .ref xa_52), (H_31.size, 0, 3, .int qc_38), (H_31.size, 0, 0, .ref xa_38)]) [0, 1, 2, 3] rfl (M1 := []) [] rfl (I1 := []) [] rfl
  clear hh_52
  have hh_57 := hh_56.addI (jDZ.ie hd_55)
  clear hh_56
  try simp only at hr_53
  obtain ⟨hr_53_0, hr_53_1⟩ := hr_53
  have hkp_58 := hkp_49.in hbX_52 hsy_47
  have hraw_59x := hbX_52.ke hraw_50.lt hne_51 hraw_50n
  clear hne_51
  have hraw_59 := hraw_50.kept hraw_59x.1
  refine j7_putRF hx hb hown hK hh_57 hB hAp hraw_59 hraw_59x.2 hbr0 (C := RX14) (T := TX14) (N := 74) rfl (i := 14) (by decide) (Nat.le_of_ble_eq_true rfl) hly_16_14 rfl hin2 rfl hlk_30 (ty := (.object "java/lang/StringBuilder")) (v := .ref H_45.size) (by decide +kernel) rfl rfl dX14_init_58 (fun H_60 locs_60 hraw_60 hr_60 hh_60 => ?_)
  have hraw_60 : va_at (dC, dI) vwCl (r0, .inr (16, [.ref s.heap.size, .int 0, .ref H_7.size, .int 0, .int 0, .ref H_15.size, .int 0, .int 0, .int 0, .ref H_23.size, .int 0, .int 0, .int 0, .ref H_31.size, .ref H_45.size, .int 0, .int 0, .null, .null, .null, .null, .null, .null, .null, .null, .null, .int 0, .null, .int 0, .int 0, .int 0, .int 0, .int 0, .int 0, .int 0, .int 0, .int 0, .int 0, .null, .int 0, .int 0, .null, .int 0, .null, .int 0, .null, .null, .null, .int 0, .null, .null, .null, .null, .null, .null, .null, .null, .null, .null, .null, .null, .null, .null, .null, .int 0, .int 0, .int 0, .null, .null, .null, .int 0, .null, .null, .null])) H_60 := hraw_60
  have hkp_61 := hkp_58.put hr_60
  clear hh_57
  refine lv_aload_n hx hb dX14_init_61 rfl (lv_at hl 0 rfl) ?_
  refine lv_iconst (v := (-1)) hx hb dX14_init_62 (by decide) ?_
  refine j7_putR hx hb hown hK hh_60 hB hAp hraw_60 hraw_59x.2 hbr0 (C := RX14) (T := TX14) (N := 74) rfl (i := 15) (by decide) (Nat.le_of_ble_eq_true rfl) hly_16_15 rfl hlk_33 (ty := .int) (v := .int (-1)) (by decide +kernel) rfl rfl dX14_init_63 (fun H_62 locs_62 hraw_62 hr_62 hh_62 => ?_)
  have hraw_62 : va_at (dC, dI) vwCl (r0, .inr (16, [.ref s.heap.size, .int 0, .ref H_7.size, .int 0, .int 0, .ref H_15.size, .int 0, .int 0, .int 0, .ref H_23.size, .int 0, .int 0, .int 0, .ref H_31.size, .ref H_45.size, .int (-1), .int 0, .null, .null, .null, .null, .null, .null, .null, .null, .null, .int 0, .null, .int 0, .int 0, .int 0, .int 0, .int 0, .int 0, .int 0, .int 0, .int 0, .int 0, .null, .int 0, .int 0, .null, .int 0, .null, .int 0, .null, .null, .null, .int 0, .null, .null, .null, .null, .null, .null, .null, .null, .null, .null, .null, .null, .null, .null, .null, .int 0, .int 0, .int 0, .null, .null, .null, .int 0, .null, .null, .null])) H_62 := hraw_62
  have hkp_63 := hkp_61.put hr_62
  clear hh_60
  refine lv_aload_n hx hb dX14_init_66 rfl (lv_at hl 0 rfl) ?_
  refine lv_sipush (v := 3100) hx hb dX14_init_67 (by decide) ?_
  clear hsz_52 htt_52 hrc_52 hrs_52
  (try clear hb_524); (try clear hb_525); (try clear hz_52)
  have hsz_64 := hh_62.2.2.2.2.2.1
  have htt_64 := hh_62.2.2.2.2.2.2.1
  refine j7_newiK hx hb hK hh_62 hB (atype := .int) (ty := .int) (htw (.arrayClass .int) (jWr_3 _ (List.mem_of_getElem? (i := 20) rfl))) rfl rfl (fun _ h => h) hB117 1 rfl (by decide) (by decide) hbs (x := 3100) (by decide) (by omega) (fun j => by first | trivial | decide | rfl | exact Or.inl rfl | exact Or.inr (Or.inl (by decide)) | (refine ⟨?_, ?_⟩ <;> decide)) (by rw [hRc]; omega) (by rw [hRs]; omega) dX14_init_70 (fun H_64 hfr_64 hh_64 => ?_)
  have hh_64 : jSt (dC, dI) B base G0 (va_up G_52 H_62.size (some (117, 3100))) EX14_init s.heap (((((((((0 + 1) + 1) + 1) + 1) + 1) + (1)) + 1) + (1)) + 1) (((((((((0 + 4000) + 20000) + 100000) + 3300) + 4) + (16)) + 4) + (16)) + 3100) [(H_45.size, 0, 3, .int qc_52), (H_45.size, 0, 0, .ref xa_52), (H_31.size, 0, 3, .int qc_38), (H_31.size, 0, 0, .ref xa_38)] [] [(jFz9, jDZ dC dI G_52)] H_64 locs_62 := hh_64
  have hZ_64 : jN14 G_52 (va_up G_52 H_62.size (some (117, 3100))) := jN14.new (by decide)
  have hN_64 : (jNk [1, 2, 3, 4, 5, 6, 7, 8, 9, 10, 11, 12, 13]) G_52 (va_up G_52 H_62.size (some (117, 3100))) := jNk.new (by decide)
  have hgn_64 : (va_up G_52 H_62.size (some (117, 3100))) H_62.size = some (117, 3100) := jUp_self
  have hle_64 : jLe G_52 (va_up G_52 H_62.size (some (117, 3100))) := jLe.new hh_62.2.1.fresh
  have hke_64 : jKe G_52 (va_up G_52 H_62.size (some (117, 3100))) H_62 H_64 := jKe.new hfr_64
  have hsy_64 : s.heap.size ≤ H_62.size := hh_62.1.1
  generalize (va_up G_52 H_62.size (some (117, 3100))) = G_64 at hN_64 hgn_64 hle_64 hke_64 hh_64 hZ_64
  clear hh_62
  have hNn_64 : (jNk [1, 2, 3, 4, 5, 6, 7, 8, 9, 10, 11, 12, 13]) G0 G_64 := (hNn_52).tr hN_64
  have hg_65 := hle_64 _ _ hgq_52_0
  have hg_66 := hle_64 _ _ hg_54
  have hkp_67 := hkp_63.tr hke_64
  have hraw_68n := hke_64.nr hraw_62.lt hraw_59x.2
  have hraw_68 := hraw_62.kept (hke_64.1 _ hraw_62.lt)
  try have hz14_64 : jN14 G0 G_64 := (hz14_52).tr hZ_64
  have hd_69 := jDZ.grow (hh_64.iv 0 rfl) hle_64 hZ_64
  have hh_70 := hh_64.sub (L1 := [(H_45.size, 0, 3, .int qc_52), (H_45.size, 0, 0, .ref xa_52), (H_31.size, 0, 3, .int qc_38), (H_31.size, 0, 0, .ref xa_38)]) [0, 1, 2, 3] rfl (M1 := []) [] rfl (I1 := []) [] rfl
  clear hh_64
  have hh_71 := hh_70.addI (jDZ.ie hd_69)
  clear hh_70
  refine j7_putRF hx hb hown hK hh_71 hB hAp hraw_68 hraw_68n hbr0 (C := RX14) (T := TX14) (N := 74) rfl (i := 17) (by decide) (Nat.le_of_ble_eq_true rfl) hly_16_17 rfl hin2 rfl hlk_37 (ty := (.array .int)) (v := .ref H_62.size) (by decide +kernel) rfl rfl dX14_init_72 (fun H_72 locs_72 hraw_72 hr_72 hh_72 => ?_)
  have hraw_72 : va_at (dC, dI) vwCl (r0, .inr (16, [.ref s.heap.size, .int 0, .ref H_7.size, .int 0, .int 0, .ref H_15.size, .int 0, .int 0, .int 0, .ref H_23.size, .int 0, .int 0, .int 0, .ref H_31.size, .ref H_45.size, .int (-1), .int 0, .ref H_62.size, .null, .null, .null, .null, .null, .null, .null, .null, .int 0, .null, .int 0, .int 0, .int 0, .int 0, .int 0, .int 0, .int 0, .int 0, .int 0, .int 0, .null, .int 0, .int 0, .null, .int 0, .null, .int 0, .null, .null, .null, .int 0, .null, .null, .null, .null, .null, .null, .null, .null, .null, .null, .null, .null, .null, .null, .null, .int 0, .int 0, .int 0, .null, .null, .null, .int 0, .null, .null, .null])) H_72 := hraw_72
  have hkp_73 := hkp_67.put hr_72
  clear hh_71
  refine lv_aload_n hx hb dX14_init_75 rfl (lv_at hl 0 rfl) ?_
  refine lv_sipush (v := 3100) hx hb dX14_init_76 (by decide) ?_
  clear hsz_64 htt_64
  have hsz_74 := hh_72.2.2.2.2.2.1
  have htt_74 := hh_72.2.2.2.2.2.2.1
  refine j7_newiK hx hb hK hh_72 hB (atype := .int) (ty := .int) (htw (.arrayClass .int) (jWr_3 _ (List.mem_of_getElem? (i := 20) rfl))) rfl rfl (fun _ h => h) hB118 1 rfl (by decide) (by decide) hbs (x := 3100) (by decide) (by omega) (fun j => by first | trivial | decide | rfl | exact Or.inl rfl | exact Or.inr (Or.inl (by decide)) | (refine ⟨?_, ?_⟩ <;> decide)) (by rw [hRc]; omega) (by rw [hRs]; omega) dX14_init_79 (fun H_74 hfr_74 hh_74 => ?_)
  have hh_74 : jSt (dC, dI) B base G0 (va_up G_64 H_72.size (some (118, 3100))) EX14_init s.heap ((((((((((0 + 1) + 1) + 1) + 1) + 1) + (1)) + 1) + (1)) + 1) + 1) ((((((((((0 + 4000) + 20000) + 100000) + 3300) + 4) + (16)) + 4) + (16)) + 3100) + 3100) [(H_45.size, 0, 3, .int qc_52), (H_45.size, 0, 0, .ref xa_52), (H_31.size, 0, 3, .int qc_38), (H_31.size, 0, 0, .ref xa_38)] [] [(jFz9, jDZ dC dI G_64)] H_74 locs_72 := hh_74
  have hZ_74 : jN14 G_64 (va_up G_64 H_72.size (some (118, 3100))) := jN14.new (by decide)
  have hN_74 : (jNk [1, 2, 3, 4, 5, 6, 7, 8, 9, 10, 11, 12, 13]) G_64 (va_up G_64 H_72.size (some (118, 3100))) := jNk.new (by decide)
  have hgn_74 : (va_up G_64 H_72.size (some (118, 3100))) H_72.size = some (118, 3100) := jUp_self
  have hle_74 : jLe G_64 (va_up G_64 H_72.size (some (118, 3100))) := jLe.new hh_72.2.1.fresh
  have hke_74 : jKe G_64 (va_up G_64 H_72.size (some (118, 3100))) H_72 H_74 := jKe.new hfr_74
  have hsy_74 : s.heap.size ≤ H_72.size := hh_72.1.1
  generalize (va_up G_64 H_72.size (some (118, 3100))) = G_74 at hN_74 hgn_74 hle_74 hke_74 hh_74 hZ_74
  clear hh_72
  have hNn_74 : (jNk [1, 2, 3, 4, 5, 6, 7, 8, 9, 10, 11, 12, 13]) G0 G_74 := (hNn_64).tr hN_74
  have hg_75 := hle_74 _ _ hg_65
  have hg_76 := hle_74 _ _ hg_66
  have hkp_77 := hkp_73.tr hke_74
  have hraw_78n := hke_74.nr hraw_72.lt hraw_68n
  have hraw_78 := hraw_72.kept (hke_74.1 _ hraw_72.lt)
  try have hz14_74 : jN14 G0 G_74 := (hz14_64).tr hZ_74
  have hd_79 := jDZ.grow (hh_74.iv 0 rfl) hle_74 hZ_74
  have hh_80 := hh_74.sub (L1 := [(H_45.size, 0, 3, .int qc_52), (H_45.size, 0, 0, .ref xa_52), (H_31.size, 0, 3, .int qc_38), (H_31.size, 0, 0, .ref xa_38)]) [0, 1, 2, 3] rfl (M1 := []) [] rfl (I1 := []) [] rfl
  clear hh_74
  have hh_81 := hh_80.addI (jDZ.ie hd_79)
  clear hh_80
  refine j7_putRF hx hb hown hK hh_81 hB hAp hraw_78 hraw_78n hbr0 (C := RX14) (T := TX14) (N := 74) rfl (i := 18) (by decide) (Nat.le_of_ble_eq_true rfl) hly_16_18 rfl hin2 rfl hlk_40 (ty := (.array .int)) (v := .ref H_72.size) (by decide +kernel) rfl rfl dX14_init_81 (fun H_82 locs_82 hraw_82 hr_82 hh_82 => ?_)
  have hraw_82 : va_at (dC, dI) vwCl (r0, .inr (16, [.ref s.heap.size, .int 0, .ref H_7.size, .int 0, .int 0, .ref H_15.size, .int 0, .int 0, .int 0, .ref H_23.size, .int 0, .int 0, .int 0, .ref H_31.size, .ref H_45.size, .int (-1), .int 0, .ref H_62.size, .ref H_72.size, .null, .null, .null, .null, .null, .null, .null, .int 0, .null, .int 0, .int 0, .int 0, .int 0, .int 0, .int 0, .int 0, .int 0, .int 0, .int 0, .null, .int 0, .int 0, .null, .int 0, .null, .int 0, .null, .null, .null, .int 0, .null, .null, .null, .null, .null, .null, .null, .null, .null, .null, .null, .null, .null, .null, .null, .int 0, .int 0, .int 0, .null, .null, .null, .int 0, .null, .null, .null])) H_82 := hraw_82
  have hkp_83 := hkp_77.put hr_82
  clear hh_81
  refine lv_aload_n hx hb dX14_init_84 rfl (lv_at hl 0 rfl) ?_
  refine lv_sipush (v := 3100) hx hb dX14_init_85 (by decide) ?_
  clear hsz_74 htt_74
  have hsz_84 := hh_82.2.2.2.2.2.1
  have htt_84 := hh_82.2.2.2.2.2.2.1
  refine j7_newiK hx hb hK hh_82 hB (atype := .int) (ty := .int) (htw (.arrayClass .int) (jWr_3 _ (List.mem_of_getElem? (i := 20) rfl))) rfl rfl (fun _ h => h) hB119 1 rfl (by decide) (by decide) hbs (x := 3100) (by decide) (by omega) (fun j => by first | trivial | decide | rfl | exact Or.inl rfl | exact Or.inr (Or.inl (by decide)) | (refine ⟨?_, ?_⟩ <;> decide)) (by rw [hRc]; omega) (by rw [hRs]; omega) dX14_init_88 (fun H_84 hfr_84 hh_84 => ?_)
  have hh_84 : jSt (dC, dI) B base G0 (va_up G_74 H_82.size (some (119, 3100))) EX14_init s.heap (((((((((((0 + 1) + 1) + 1) + 1) + 1) + (1)) + 1) + (1)) + 1) + 1) + 1) (((((((((((0 + 4000) + 20000) + 100000) + 3300) + 4) + (16)) + 4) + (16)) + 3100) + 3100) + 3100) [(H_45.size, 0, 3, .int qc_52), (H_45.size, 0, 0, .ref xa_52), (H_31.size, 0, 3, .int qc_38), (H_31.size, 0, 0, .ref xa_38)] [] [(jFz9, jDZ dC dI G_74)] H_84 locs_82 := hh_84
  have hZ_84 : jN14 G_74 (va_up G_74 H_82.size (some (119, 3100))) := jN14.new (by decide)
  have hN_84 : (jNk [1, 2, 3, 4, 5, 6, 7, 8, 9, 10, 11, 12, 13]) G_74 (va_up G_74 H_82.size (some (119, 3100))) := jNk.new (by decide)
  have hgn_84 : (va_up G_74 H_82.size (some (119, 3100))) H_82.size = some (119, 3100) := jUp_self
  have hle_84 : jLe G_74 (va_up G_74 H_82.size (some (119, 3100))) := jLe.new hh_82.2.1.fresh
  have hke_84 : jKe G_74 (va_up G_74 H_82.size (some (119, 3100))) H_82 H_84 := jKe.new hfr_84
  have hsy_84 : s.heap.size ≤ H_82.size := hh_82.1.1
  generalize (va_up G_74 H_82.size (some (119, 3100))) = G_84 at hN_84 hgn_84 hle_84 hke_84 hh_84 hZ_84
  clear hh_82
  have hNn_84 : (jNk [1, 2, 3, 4, 5, 6, 7, 8, 9, 10, 11, 12, 13]) G0 G_84 := (hNn_74).tr hN_84
  have hg_85 := hle_84 _ _ hg_75
  have hg_86 := hle_84 _ _ hg_76
  have hkp_87 := hkp_83.tr hke_84
  have hraw_88n := hke_84.nr hraw_82.lt hraw_78n
  have hraw_88 := hraw_82.kept (hke_84.1 _ hraw_82.lt)
  try have hz14_84 : jN14 G0 G_84 := (hz14_74).tr hZ_84
  have hd_89 := jDZ.grow (hh_84.iv 0 rfl) hle_84 hZ_84
  have hh_90 := hh_84.sub (L1 := [(H_45.size, 0, 3, .int qc_52), (H_45.size, 0, 0, .ref xa_52), (H_31.size, 0, 3, .int qc_38), (H_31.size, 0, 0, .ref xa_38)]) [0, 1, 2, 3] rfl (M1 := []) [] rfl (I1 := []) [] rfl
  clear hh_84
  have hh_91 := hh_90.addI (jDZ.ie hd_89)
  clear hh_90
  refine j7_putRF hx hb hown hK hh_91 hB hAp hraw_88 hraw_88n hbr0 (C := RX14) (T := TX14) (N := 74) rfl (i := 19) (by decide) (Nat.le_of_ble_eq_true rfl) hly_16_19 rfl hin2 rfl hlk_43 (ty := (.array .int)) (v := .ref H_82.size) (by decide +kernel) rfl rfl dX14_init_90 (fun H_92 locs_92 hraw_92 hr_92 hh_92 => ?_)
  have hraw_92 : va_at (dC, dI) vwCl (r0, .inr (16, [.ref s.heap.size, .int 0, .ref H_7.size, .int 0, .int 0, .ref H_15.size, .int 0, .int 0, .int 0, .ref H_23.size, .int 0, .int 0, .int 0, .ref H_31.size, .ref H_45.size, .int (-1), .int 0, .ref H_62.size, .ref H_72.size, .ref H_82.size, .null, .null, .null, .null, .null, .null, .int 0, .null, .int 0, .int 0, .int 0, .int 0, .int 0, .int 0, .int 0, .int 0, .int 0, .int 0, .null, .int 0, .int 0, .null, .int 0, .null, .int 0, .null, .null, .null, .int 0, .null, .null, .null, .null, .null, .null, .null, .null, .null, .null, .null, .null, .null, .null, .null, .int 0, .int 0, .int 0, .null, .null, .null, .int 0, .null, .null, .null])) H_92 := hraw_92
  have hkp_93 := hkp_87.put hr_92
  clear hh_91
  refine lv_aload_n hx hb dX14_init_93 rfl (lv_at hl 0 rfl) ?_
  refine lv_sipush (v := 3100) hx hb dX14_init_94 (by decide) ?_
  clear hsz_84 htt_84
  have hsz_94 := hh_92.2.2.2.2.2.1
  have htt_94 := hh_92.2.2.2.2.2.2.1
  refine j7_newiK hx hb hK hh_92 hB (atype := .int) (ty := .int) (htw (.arrayClass .int) (jWr_3 _ (List.mem_of_getElem? (i := 20) rfl))) rfl rfl (fun _ h => h) hB120 1 rfl (by decide) (by decide) hbs (x := 3100) (by decide) (by omega) (fun j => by first | trivial | decide | rfl | exact Or.inl rfl | exact Or.inr (Or.inl (by decide)) | (refine ⟨?_, ?_⟩ <;> decide)) (by rw [hRc]; omega) (by rw [hRs]; omega) dX14_init_97 (fun H_94 hfr_94 hh_94 => ?_)
  have hh_94 : jSt (dC, dI) B base G0 (va_up G_84 H_92.size (some (120, 3100))) EX14_init s.heap ((((((((((((0 + 1) + 1) + 1) + 1) + 1) + (1)) + 1) + (1)) + 1) + 1) + 1) + 1) ((((((((((((0 + 4000) + 20000) + 100000) + 3300) + 4) + (16)) + 4) + (16)) + 3100) + 3100) + 3100) + 3100) [(H_45.size, 0, 3, .int qc_52), (H_45.size, 0, 0, .ref xa_52), (H_31.size, 0, 3, .int qc_38), (H_31.size, 0, 0, .ref xa_38)] [] [(jFz9, jDZ dC dI G_84)] H_94 locs_92 := hh_94
  have hZ_94 : jN14 G_84 (va_up G_84 H_92.size (some (120, 3100))) := jN14.new (by decide)
  have hN_94 : (jNk [1, 2, 3, 4, 5, 6, 7, 8, 9, 10, 11, 12, 13]) G_84 (va_up G_84 H_92.size (some (120, 3100))) := jNk.new (by decide)
  have hgn_94 : (va_up G_84 H_92.size (some (120, 3100))) H_92.size = some (120, 3100) := jUp_self
  have hle_94 : jLe G_84 (va_up G_84 H_92.size (some (120, 3100))) := jLe.new hh_92.2.1.fresh
  have hke_94 : jKe G_84 (va_up G_84 H_92.size (some (120, 3100))) H_92 H_94 := jKe.new hfr_94
  have hsy_94 : s.heap.size ≤ H_92.size := hh_92.1.1
  generalize (va_up G_84 H_92.size (some (120, 3100))) = G_94 at hN_94 hgn_94 hle_94 hke_94 hh_94 hZ_94
  clear hh_92
  have hNn_94 : (jNk [1, 2, 3, 4, 5, 6, 7, 8, 9, 10, 11, 12, 13]) G0 G_94 := (hNn_84).tr hN_94
  have hg_95 := hle_94 _ _ hg_85
  have hg_96 := hle_94 _ _ hg_86
  have hkp_97 := hkp_93.tr hke_94
  have hraw_98n := hke_94.nr hraw_92.lt hraw_88n
  have hraw_98 := hraw_92.kept (hke_94.1 _ hraw_92.lt)
  try have hz14_94 : jN14 G0 G_94 := (hz14_84).tr hZ_94
  have hd_99 := jDZ.grow (hh_94.iv 0 rfl) hle_94 hZ_94
  have hh_100 := hh_94.sub (L1 := [(H_45.size, 0, 3, .int qc_52), (H_45.size, 0, 0, .ref xa_52), (H_31.size, 0, 3, .int qc_38), (H_31.size, 0, 0, .ref xa_38)]) [0, 1, 2, 3] rfl (M1 := []) [] rfl (I1 := []) [] rfl
  clear hh_94
  have hh_101 := hh_100.addI (jDZ.ie hd_99)
  clear hh_100
  refine j7_putRF hx hb hown hK hh_101 hB hAp hraw_98 hraw_98n hbr0 (C := RX14) (T := TX14) (N := 74) rfl (i := 20) (by decide) (Nat.le_of_ble_eq_true rfl) hly_16_20 rfl hin2 rfl hlk_46 (ty := (.array .int)) (v := .ref H_92.size) (by decide +kernel) rfl rfl dX14_init_99 (fun H_102 locs_102 hraw_102 hr_102 hh_102 => ?_)
  have hraw_102 : va_at (dC, dI) vwCl (r0, .inr (16, [.ref s.heap.size, .int 0, .ref H_7.size, .int 0, .int 0, .ref H_15.size, .int 0, .int 0, .int 0, .ref H_23.size, .int 0, .int 0, .int 0, .ref H_31.size, .ref H_45.size, .int (-1), .int 0, .ref H_62.size, .ref H_72.size, .ref H_82.size, .ref H_92.size, .null, .null, .null, .null, .null, .int 0, .null, .int 0, .int 0, .int 0, .int 0, .int 0, .int 0, .int 0, .int 0, .int 0, .int 0, .null, .int 0, .int 0, .null, .int 0, .null, .int 0, .null, .null, .null, .int 0, .null, .null, .null, .null, .null, .null, .null, .null, .null, .null, .null, .null, .null, .null, .null, .int 0, .int 0, .int 0, .null, .null, .null, .int 0, .null, .null, .null])) H_102 := hraw_102
  have hkp_103 := hkp_97.put hr_102
  clear hh_101
  refine lv_aload_n hx hb dX14_init_102 rfl (lv_at hl 0 rfl) ?_
  refine lv_sipush (v := 3100) hx hb dX14_init_103 (by decide) ?_
  clear hsz_94 htt_94
  have hsz_104 := hh_102.2.2.2.2.2.1
  have htt_104 := hh_102.2.2.2.2.2.2.1
  refine j7_newiK hx hb hK hh_102 hB (atype := .int) (ty := .int) (htw (.arrayClass .int) (jWr_3 _ (List.mem_of_getElem? (i := 20) rfl))) rfl rfl (fun _ h => h) hB121 1 rfl (by decide) (by decide) hbs (x := 3100) (by decide) (by omega) (fun j => by first | trivial | decide | rfl | exact Or.inl rfl | exact Or.inr (Or.inl (by decide)) | (refine ⟨?_, ?_⟩ <;> decide)) (by rw [hRc]; omega) (by rw [hRs]; omega) dX14_init_106 (fun H_104 hfr_104 hh_104 => ?_)
  have hh_104 : jSt (dC, dI) B base G0 (va_up G_94 H_102.size (some (121, 3100))) EX14_init s.heap (((((((((((((0 + 1) + 1) + 1) + 1) + 1) + (1)) + 1) + (1)) + 1) + 1) + 1) + 1) + 1) (((((((((((((0 + 4000) + 20000) + 100000) + 3300) + 4) + (16)) + 4) + (16)) + 3100) + 3100) + 3100) + 3100) + 3100) [(H_45.size, 0, 3, .int qc_52), (H_45.size, 0, 0, .ref xa_52), (H_31.size, 0, 3, .int qc_38), (H_31.size, 0, 0, .ref xa_38)] [] [(jFz9, jDZ dC dI G_94)] H_104 locs_102 := hh_104
  have hZ_104 : jN14 G_94 (va_up G_94 H_102.size (some (121, 3100))) := jN14.new (by decide)
  have hN_104 : (jNk [1, 2, 3, 4, 5, 6, 7, 8, 9, 10, 11, 12, 13]) G_94 (va_up G_94 H_102.size (some (121, 3100))) := jNk.new (by decide)
  have hgn_104 : (va_up G_94 H_102.size (some (121, 3100))) H_102.size = some (121, 3100) := jUp_self
  have hle_104 : jLe G_94 (va_up G_94 H_102.size (some (121, 3100))) := jLe.new hh_102.2.1.fresh
  have hke_104 : jKe G_94 (va_up G_94 H_102.size (some (121, 3100))) H_102 H_104 := jKe.new hfr_104
  have hsy_104 : s.heap.size ≤ H_102.size := hh_102.1.1
  generalize (va_up G_94 H_102.size (some (121, 3100))) = G_104 at hN_104 hgn_104 hle_104 hke_104 hh_104 hZ_104
  clear hh_102
  have hNn_104 : (jNk [1, 2, 3, 4, 5, 6, 7, 8, 9, 10, 11, 12, 13]) G0 G_104 := (hNn_94).tr hN_104
  have hg_105 := hle_104 _ _ hg_95
  have hg_106 := hle_104 _ _ hg_96
  have hkp_107 := hkp_103.tr hke_104
  have hraw_108n := hke_104.nr hraw_102.lt hraw_98n
  have hraw_108 := hraw_102.kept (hke_104.1 _ hraw_102.lt)
  try have hz14_104 : jN14 G0 G_104 := (hz14_94).tr hZ_104
  have hd_109 := jDZ.grow (hh_104.iv 0 rfl) hle_104 hZ_104
  have hh_110 := hh_104.sub (L1 := [(H_45.size, 0, 3, .int qc_52), (H_45.size, 0, 0, .ref xa_52), (H_31.size, 0, 3, .int qc_38), (H_31.size, 0, 0, .ref xa_38)]) [0, 1, 2, 3] rfl (M1 := []) [] rfl (I1 := []) [] rfl
  clear hh_104
  have hh_111 := hh_110.addI (jDZ.ie hd_109)
  clear hh_110
  refine j7_putRF hx hb hown hK hh_111 hB hAp hraw_108 hraw_108n hbr0 (C := RX14) (T := TX14) (N := 74) rfl (i := 21) (by decide) (Nat.le_of_ble_eq_true rfl) hly_16_21 rfl hin2 rfl hlk_49 (ty := (.array .int)) (v := .ref H_102.size) (by decide +kernel) rfl rfl dX14_init_108 (fun H_112 locs_112 hraw_112 hr_112 hh_112 => ?_)
  have hraw_112 : va_at (dC, dI) vwCl (r0, .inr (16, [.ref s.heap.size, .int 0, .ref H_7.size, .int 0, .int 0, .ref H_15.size, .int 0, .int 0, .int 0, .ref H_23.size, .int 0, .int 0, .int 0, .ref H_31.size, .ref H_45.size, .int (-1), .int 0, .ref H_62.size, .ref H_72.size, .ref H_82.size, .ref H_92.size, .ref H_102.size, .null, .null, .null, .null, .int 0, .null, .int 0, .int 0, .int 0, .int 0, .int 0, .int 0, .int 0, .int 0, .int 0, .int 0, .null, .int 0, .int 0, .null, .int 0, .null, .int 0, .null, .null, .null, .int 0, .null, .null, .null, .null, .null, .null, .null, .null, .null, .null, .null, .null, .null, .null, .null, .int 0, .int 0, .int 0, .null, .null, .null, .int 0, .null, .null, .null])) H_112 := hraw_112
  have hkp_113 := hkp_107.put hr_112
  clear hh_111
  refine lv_aload_n hx hb dX14_init_111 rfl (lv_at hl 0 rfl) ?_
  refine lv_sipush (v := 3100) hx hb dX14_init_112 (by decide) ?_
  clear hsz_104 htt_104
  have hsz_114 := hh_112.2.2.2.2.2.1
  have htt_114 := hh_112.2.2.2.2.2.2.1
  have hsy_114 : s.heap.size ≤ H_112.size := hh_112.1.1
  refine j7_newiR hx hb hK hh_112 hB (atype := .int) (ty := .int) (htw (.arrayClass .int) (jWr_3 _ (List.mem_of_getElem? (i := 20) rfl))) rfl rfl (fun _ h => h) 1 rfl (by decide) (x := 3100) (by decide) (by omega) (by rw [hRc]; omega) (by rw [hRs]; omega) dX14_init_115 (fun H_114 hfr_114 hnr_114 hraw_114 hh_114 => ?_)
  have hlt_115 := hraw_112.lt
  have hraw_114 : va_at (dC, dI) vwCl (H_112.size, .inl (ca 1, 3100, .inl (fun _ => 0))) H_114 := hraw_114
  have hh_114 : jSt (dC, dI) B base G0 G_104 EX14_init s.heap ((((((((((((((0 + 1) + 1) + 1) + 1) + 1) + (1)) + 1) + (1)) + 1) + 1) + 1) + 1) + 1) + 1) ((((((((((((((0 + 4000) + 20000) + 100000) + 3300) + 4) + (16)) + 4) + (16)) + 3100) + 3100) + 3100) + 3100) + 3100) + 3100) [(H_45.size, 0, 3, .int qc_52), (H_45.size, 0, 0, .ref xa_52), (H_31.size, 0, 3, .int qc_38), (H_31.size, 0, 0, .ref xa_38)] [] [(jFz9, jDZ dC dI G_104)] H_114 locs_112 := hh_114
  have hke_114 : jKe G_104 G_104 H_112 H_114 := jKe.raw hfr_114
  have hbr_114 : base ≤ H_112.size := Nat.le_trans hbs hsy_114
  clear hh_112
  have hkp_116 := hkp_113.tr hke_114
  have hraw_117n := hke_114.nr hraw_112.lt hraw_108n
  have hraw_117 := hraw_112.kept (hke_114.1 _ hraw_112.lt)
  have hne_118 : r0 ≠ H_112.size := Nat.ne_of_lt hlt_115
  have hle_119 : jLe G_104 (va_up G_104 H_112.size (some (122, 3100))) := jLe.typ hnr_114
  have hh_119 := hh_114.typ (k := 122) (n := 3100) hB hnr_114 hbr_114 hraw_114.lt (jAr.of hB122 hraw_114 (fun _ _ => by decide))
  have hgn_119 : (va_up G_104 H_112.size (some (122, 3100))) H_112.size = some (122, 3100) := jUp_self
  have hN_119 : (jNk [1, 2, 3, 4, 5, 6, 7, 8, 9, 10, 11, 12, 13]) G_104 (va_up G_104 H_112.size (some (122, 3100))) := jNk.new (by decide)
  have hNn_119 : (jNk [1, 2, 3, 4, 5, 6, 7, 8, 9, 10, 11, 12, 13]) G0 (va_up G_104 H_112.size (some (122, 3100))) := (hNn_104).tr hN_119
  have hkp_120 := hkp_116.typn (t := some (122, 3100)) hsy_114
  have hZ_119 : jN14 G_104 (va_up G_104 H_112.size (some (122, 3100))) := jN14.new (by decide)
  have hrn_121 : ∀ t, (va_up G_104 H_112.size (some (122, 3100))) r0 ≠ some t := jNrU hraw_117n hne_118
  clear hne_118
  generalize (va_up G_104 H_112.size (some (122, 3100))) = G_119 at hN_119 hNn_119 hgn_119 hle_119 hh_119 hkp_120 hZ_119 hrn_121
  have hg_122 := hle_119 _ _ hg_105
  have hg_123 := hle_119 _ _ hg_106
  have hd_124 := jDZ.grow (hh_119.iv 0 rfl) hle_119 hZ_119
  have hh_125 := hh_119.sub (L1 := [(H_45.size, 0, 3, .int qc_52), (H_45.size, 0, 0, .ref xa_52), (H_31.size, 0, 3, .int qc_38), (H_31.size, 0, 0, .ref xa_38)]) [0, 1, 2, 3] rfl (M1 := []) [] rfl (I1 := []) [] rfl
  clear hh_119
  have hh_126 := hh_125.addI (jDZ.ie hd_124)
  clear hh_125
  try have hz14_119 : jN14 G0 G_119 := (hz14_104).tr hZ_119
  have hh_127 := hh_126.moreM (M1 := [(H_112.size, 122, 3100, ca 1, (fun _ => 0))]) (fun q9 h9 => by cases h9 with | head => exact ⟨hgn_119, by show 17 ≤ 122; decide, by show 122 < 1000; decide, hraw_114⟩ | tail _ h => cases h)
  refine j7_putRF hx hb hown hK hh_127 hB hAp hraw_117 hrn_121 hbr0 (C := RX14) (T := TX14) (N := 74) rfl (i := 22) (by decide) (Nat.le_of_ble_eq_true rfl) hly_16_22 rfl hin2 rfl hlk_52 (ty := (.array .int)) (v := .ref H_112.size) (by decide +kernel) rfl rfl dX14_init_117 (fun H_128 locs_128 hraw_128 hr_128 hh_128 => ?_)
  have hraw_128 : va_at (dC, dI) vwCl (r0, .inr (16, [.ref s.heap.size, .int 0, .ref H_7.size, .int 0, .int 0, .ref H_15.size, .int 0, .int 0, .int 0, .ref H_23.size, .int 0, .int 0, .int 0, .ref H_31.size, .ref H_45.size, .int (-1), .int 0, .ref H_62.size, .ref H_72.size, .ref H_82.size, .ref H_92.size, .ref H_102.size, .ref H_112.size, .null, .null, .null, .int 0, .null, .int 0, .int 0, .int 0, .int 0, .int 0, .int 0, .int 0, .int 0, .int 0, .int 0, .null, .int 0, .int 0, .null, .int 0, .null, .int 0, .null, .null, .null, .int 0, .null, .null, .null, .null, .null, .null, .null, .null, .null, .null, .null, .null, .null, .null, .null, .int 0, .int 0, .int 0, .null, .null, .null, .int 0, .null, .null, .null])) H_128 := hraw_128
  have hkp_129 := hkp_120.put hr_128
  clear hh_127
  refine lv_aload_n hx hb dX14_init_120 rfl (lv_at hl 0 rfl) ?_
  refine lv_sipush (v := 3100) hx hb dX14_init_121 (by decide) ?_
  clear hsz_114 htt_114
  have hsz_130 := hh_128.2.2.2.2.2.1
  have htt_130 := hh_128.2.2.2.2.2.2.1
  have hsy_130 : s.heap.size ≤ H_128.size := hh_128.1.1
  refine j7_newiR hx hb hK hh_128 hB (atype := .int) (ty := .int) (htw (.arrayClass .int) (jWr_3 _ (List.mem_of_getElem? (i := 20) rfl))) rfl rfl (fun _ h => h) 1 rfl (by decide) (x := 3100) (by decide) (by omega) (by rw [hRc]; omega) (by rw [hRs]; omega) dX14_init_124 (fun H_130 hfr_130 hnr_130 hraw_130 hh_130 => ?_)
  have hlt_131 := hraw_128.lt
  have hraw_130 : va_at (dC, dI) vwCl (H_128.size, .inl (ca 1, 3100, .inl (fun _ => 0))) H_130 := hraw_130
  have hh_130 : jSt (dC, dI) B base G0 G_119 EX14_init s.heap (((((((((((((((0 + 1) + 1) + 1) + 1) + 1) + (1)) + 1) + (1)) + 1) + 1) + 1) + 1) + 1) + 1) + 1) (((((((((((((((0 + 4000) + 20000) + 100000) + 3300) + 4) + (16)) + 4) + (16)) + 3100) + 3100) + 3100) + 3100) + 3100) + 3100) + 3100) [(H_45.size, 0, 3, .int qc_52), (H_45.size, 0, 0, .ref xa_52), (H_31.size, 0, 3, .int qc_38), (H_31.size, 0, 0, .ref xa_38)] [(H_112.size, 122, 3100, ca 1, (fun _ => 0))] [(jFz9, jDZ dC dI G_119)] H_130 locs_128 := hh_130
  have hke_130 : jKe G_119 G_119 H_128 H_130 := jKe.raw hfr_130
  have hbr_130 : base ≤ H_128.size := Nat.le_trans hbs hsy_130
  clear hh_128
  have hkp_132 := hkp_129.tr hke_130
  have hraw_133n := hke_130.nr hraw_128.lt hrn_121
  have hraw_133 := hraw_128.kept (hke_130.1 _ hraw_128.lt)
  have hne_134 : r0 ≠ H_128.size := Nat.ne_of_lt hlt_131
  have hle_135 : jLe G_119 (va_up G_119 H_128.size (some (123, 3100))) := jLe.typ hnr_130
  have hh_135 := hh_130.typ (k := 123) (n := 3100) hB hnr_130 hbr_130 hraw_130.lt (jAr.of hB123 hraw_130 (fun _ _ => by decide))
  have hgn_135 : (va_up G_119 H_128.size (some (123, 3100))) H_128.size = some (123, 3100) := jUp_self
  have hN_135 : (jNk [1, 2, 3, 4, 5, 6, 7, 8, 9, 10, 11, 12, 13]) G_119 (va_up G_119 H_128.size (some (123, 3100))) := jNk.new (by decide)
  have hNn_135 : (jNk [1, 2, 3, 4, 5, 6, 7, 8, 9, 10, 11, 12, 13]) G0 (va_up G_119 H_128.size (some (123, 3100))) := (hNn_119).tr hN_135
  have hkp_136 := hkp_132.typn (t := some (123, 3100)) hsy_130
  have hZ_135 : jN14 G_119 (va_up G_119 H_128.size (some (123, 3100))) := jN14.new (by decide)
  have hrn_137 : ∀ t, (va_up G_119 H_128.size (some (123, 3100))) r0 ≠ some t := jNrU hraw_133n hne_134
  clear hne_134
  generalize (va_up G_119 H_128.size (some (123, 3100))) = G_135 at hN_135 hNn_135 hgn_135 hle_135 hh_135 hkp_136 hZ_135 hrn_137
  have hg_138 := hle_135 _ _ hg_122
  have hg_139 := hle_135 _ _ hg_123
  have hd_140 := jDZ.grow (hh_135.iv 0 rfl) hle_135 hZ_135
  have hh_141 := hh_135.sub (L1 := [(H_45.size, 0, 3, .int qc_52), (H_45.size, 0, 0, .ref xa_52), (H_31.size, 0, 3, .int qc_38), (H_31.size, 0, 0, .ref xa_38)]) [0, 1, 2, 3] rfl (M1 := [(H_112.size, 122, 3100, ca 1, (fun _ => 0))]) [0] rfl (I1 := []) [] rfl
  clear hh_135
  have hh_142 := hh_141.addI (jDZ.ie hd_140)
  clear hh_141
  try have hz14_135 : jN14 G0 G_135 := (hz14_119).tr hZ_135
  have hh_143 := hh_142.moreM (M1 := [(H_128.size, 123, 3100, ca 1, (fun _ => 0))]) (fun q9 h9 => by cases h9 with | head => exact ⟨hgn_135, by show 17 ≤ 123; decide, by show 123 < 1000; decide, hraw_130⟩ | tail _ h => cases h)
  refine j7_putRF hx hb hown hK hh_143 hB hAp hraw_133 hrn_137 hbr0 (C := RX14) (T := TX14) (N := 74) rfl (i := 23) (by decide) (Nat.le_of_ble_eq_true rfl) hly_16_23 rfl hin2 rfl hlk_55 (ty := (.array .int)) (v := .ref H_128.size) (by decide +kernel) rfl rfl dX14_init_126 (fun H_144 locs_144 hraw_144 hr_144 hh_144 => ?_)
  have hraw_144 : va_at (dC, dI) vwCl (r0, .inr (16, [.ref s.heap.size, .int 0, .ref H_7.size, .int 0, .int 0, .ref H_15.size, .int 0, .int 0, .int 0, .ref H_23.size, .int 0, .int 0, .int 0, .ref H_31.size, .ref H_45.size, .int (-1), .int 0, .ref H_62.size, .ref H_72.size, .ref H_82.size, .ref H_92.size, .ref H_102.size, .ref H_112.size, .ref H_128.size, .null, .null, .int 0, .null, .int 0, .int 0, .int 0, .int 0, .int 0, .int 0, .int 0, .int 0, .int 0, .int 0, .null, .int 0, .int 0, .null, .int 0, .null, .int 0, .null, .null, .null, .int 0, .null, .null, .null, .null, .null, .null, .null, .null, .null, .null, .null, .null, .null, .null, .null, .int 0, .int 0, .int 0, .null, .null, .null, .int 0, .null, .null, .null])) H_144 := hraw_144
  have hkp_145 := hkp_136.put hr_144
  clear hh_143
  refine lv_aload_n hx hb dX14_init_129 rfl (lv_at hl 0 rfl) ?_
  refine lv_sipush (v := 3100) hx hb dX14_init_130 (by decide) ?_
  clear hsz_130 htt_130
  have hsz_146 := hh_144.2.2.2.2.2.1
  have htt_146 := hh_144.2.2.2.2.2.2.1
  refine j7_newiK hx hb hK hh_144 hB (atype := .boolean) (ty := .boolean) (htw (.arrayClass .boolean) (jWr_11 _ (List.mem_of_getElem? (i := 11) rfl))) rfl rfl (fun _ h => h) hB124 3 rfl (by decide) (by decide) hbs (x := 3100) (by decide) (by omega) (fun j => by first | trivial | decide | rfl | exact Or.inl rfl | exact Or.inr (Or.inl (by decide)) | (refine ⟨?_, ?_⟩ <;> decide)) (by rw [hRc]; omega) (by rw [hRs]; omega) dX14_init_133 (fun H_146 hfr_146 hh_146 => ?_)
  have hh_146 : jSt (dC, dI) B base G0 (va_up G_135 H_144.size (some (124, 3100))) EX14_init s.heap ((((((((((((((((0 + 1) + 1) + 1) + 1) + 1) + (1)) + 1) + (1)) + 1) + 1) + 1) + 1) + 1) + 1) + 1) + 1) ((((((((((((((((0 + 4000) + 20000) + 100000) + 3300) + 4) + (16)) + 4) + (16)) + 3100) + 3100) + 3100) + 3100) + 3100) + 3100) + 3100) + 3100) [(H_45.size, 0, 3, .int qc_52), (H_45.size, 0, 0, .ref xa_52), (H_31.size, 0, 3, .int qc_38), (H_31.size, 0, 0, .ref xa_38)] [(H_128.size, 123, 3100, ca 1, (fun _ => 0)), (H_112.size, 122, 3100, ca 1, (fun _ => 0))] [(jFz9, jDZ dC dI G_135)] H_146 locs_144 := hh_146
  have hZ_146 : jN14 G_135 (va_up G_135 H_144.size (some (124, 3100))) := jN14.new (by decide)
  have hN_146 : (jNk [1, 2, 3, 4, 5, 6, 7, 8, 9, 10, 11, 12, 13]) G_135 (va_up G_135 H_144.size (some (124, 3100))) := jNk.new (by decide)
  have hgn_146 : (va_up G_135 H_144.size (some (124, 3100))) H_144.size = some (124, 3100) := jUp_self
  have hle_146 : jLe G_135 (va_up G_135 H_144.size (some (124, 3100))) := jLe.new hh_144.2.1.fresh
  have hke_146 : jKe G_135 (va_up G_135 H_144.size (some (124, 3100))) H_144 H_146 := jKe.new hfr_146
  have hsy_146 : s.heap.size ≤ H_144.size := hh_144.1.1
  generalize (va_up G_135 H_144.size (some (124, 3100))) = G_146 at hN_146 hgn_146 hle_146 hke_146 hh_146 hZ_146
  clear hh_144
  have hNn_146 : (jNk [1, 2, 3, 4, 5, 6, 7, 8, 9, 10, 11, 12, 13]) G0 G_146 := (hNn_135).tr hN_146
  have hg_147 := hle_146 _ _ hg_138
  have hg_148 := hle_146 _ _ hg_139
  have hkp_149 := hkp_145.tr hke_146
  have hraw_150n := hke_146.nr hraw_144.lt hrn_137
  have hraw_150 := hraw_144.kept (hke_146.1 _ hraw_144.lt)
  try have hz14_146 : jN14 G0 G_146 := (hz14_135).tr hZ_146
  have hd_151 := jDZ.grow (hh_146.iv 0 rfl) hle_146 hZ_146
  have hh_152 := hh_146.sub (L1 := [(H_45.size, 0, 3, .int qc_52), (H_45.size, 0, 0, .ref xa_52), (H_31.size, 0, 3, .int qc_38), (H_31.size, 0, 0, .ref xa_38)]) [0, 1, 2, 3] rfl (M1 := [(H_128.size, 123, 3100, ca 1, (fun _ => 0)), (H_112.size, 122, 3100, ca 1, (fun _ => 0))]) [0, 1] rfl (I1 := []) [] rfl
  clear hh_146
  have hh_153 := hh_152.addI (jDZ.ie hd_151)
  clear hh_152
  refine j7_putRF hx hb hown hK hh_153 hB hAp hraw_150 hraw_150n hbr0 (C := RX14) (T := TX14) (N := 74) rfl (i := 24) (by decide) (Nat.le_of_ble_eq_true rfl) hly_16_24 rfl hin2 rfl hlk_58 (ty := (.array .boolean)) (v := .ref H_144.size) (by decide +kernel) rfl rfl dX14_init_135 (fun H_154 locs_154 hraw_154 hr_154 hh_154 => ?_)
  have hraw_154 : va_at (dC, dI) vwCl (r0, .inr (16, [.ref s.heap.size, .int 0, .ref H_7.size, .int 0, .int 0, .ref H_15.size, .int 0, .int 0, .int 0, .ref H_23.size, .int 0, .int 0, .int 0, .ref H_31.size, .ref H_45.size, .int (-1), .int 0, .ref H_62.size, .ref H_72.size, .ref H_82.size, .ref H_92.size, .ref H_102.size, .ref H_112.size, .ref H_128.size, .ref H_144.size, .null, .int 0, .null, .int 0, .int 0, .int 0, .int 0, .int 0, .int 0, .int 0, .int 0, .int 0, .int 0, .null, .int 0, .int 0, .null, .int 0, .null, .int 0, .null, .null, .null, .int 0, .null, .null, .null, .null, .null, .null, .null, .null, .null, .null, .null, .null, .null, .null, .null, .int 0, .int 0, .int 0, .null, .null, .null, .int 0, .null, .null, .null])) H_154 := hraw_154
  have hkp_155 := hkp_149.put hr_154
  clear hh_153
  refine lv_aload_n hx hb dX14_init_138 rfl (lv_at hl 0 rfl) ?_
  refine lv_sipush (v := 3100) hx hb dX14_init_139 (by decide) ?_
  clear hsz_146 htt_146
  have hsz_156 := hh_154.2.2.2.2.2.1
  have htt_156 := hh_154.2.2.2.2.2.2.1
  refine j7_newiK hx hb hK hh_154 hB (atype := .int) (ty := .int) (htw (.arrayClass .int) (jWr_3 _ (List.mem_of_getElem? (i := 20) rfl))) rfl rfl (fun _ h => h) hB125 1 rfl (by decide) (by decide) hbs (x := 3100) (by decide) (by omega) (fun j => by first | trivial | decide | rfl | exact Or.inl rfl | exact Or.inr (Or.inl (by decide)) | (refine ⟨?_, ?_⟩ <;> decide)) (by rw [hRc]; omega) (by rw [hRs]; omega) dX14_init_142 (fun H_156 hfr_156 hh_156 => ?_)
  have hh_156 : jSt (dC, dI) B base G0 (va_up G_146 H_154.size (some (125, 3100))) EX14_init s.heap (((((((((((((((((0 + 1) + 1) + 1) + 1) + 1) + (1)) + 1) + (1)) + 1) + 1) + 1) + 1) + 1) + 1) + 1) + 1) + 1) (((((((((((((((((0 + 4000) + 20000) + 100000) + 3300) + 4) + (16)) + 4) + (16)) + 3100) + 3100) + 3100) + 3100) + 3100) + 3100) + 3100) + 3100) + 3100) [(H_45.size, 0, 3, .int qc_52), (H_45.size, 0, 0, .ref xa_52), (H_31.size, 0, 3, .int qc_38), (H_31.size, 0, 0, .ref xa_38)] [(H_128.size, 123, 3100, ca 1, (fun _ => 0)), (H_112.size, 122, 3100, ca 1, (fun _ => 0))] [(jFz9, jDZ dC dI G_146)] H_156 locs_154 := hh_156
  have hZ_156 : jN14 G_146 (va_up G_146 H_154.size (some (125, 3100))) := jN14.new (by decide)
  have hN_156 : (jNk [1, 2, 3, 4, 5, 6, 7, 8, 9, 10, 11, 12, 13]) G_146 (va_up G_146 H_154.size (some (125, 3100))) := jNk.new (by decide)
  have hgn_156 : (va_up G_146 H_154.size (some (125, 3100))) H_154.size = some (125, 3100) := jUp_self
  have hle_156 : jLe G_146 (va_up G_146 H_154.size (some (125, 3100))) := jLe.new hh_154.2.1.fresh
  have hke_156 : jKe G_146 (va_up G_146 H_154.size (some (125, 3100))) H_154 H_156 := jKe.new hfr_156
  have hsy_156 : s.heap.size ≤ H_154.size := hh_154.1.1
  generalize (va_up G_146 H_154.size (some (125, 3100))) = G_156 at hN_156 hgn_156 hle_156 hke_156 hh_156 hZ_156
  clear hh_154
  have hNn_156 : (jNk [1, 2, 3, 4, 5, 6, 7, 8, 9, 10, 11, 12, 13]) G0 G_156 := (hNn_146).tr hN_156
  have hg_157 := hle_156 _ _ hg_147
  have hg_158 := hle_156 _ _ hg_148
  have hkp_159 := hkp_155.tr hke_156
  have hraw_160n := hke_156.nr hraw_154.lt hraw_150n
  have hraw_160 := hraw_154.kept (hke_156.1 _ hraw_154.lt)
  try have hz14_156 : jN14 G0 G_156 := (hz14_146).tr hZ_156
  have hd_161 := jDZ.grow (hh_156.iv 0 rfl) hle_156 hZ_156
  have hh_162 := hh_156.sub (L1 := [(H_45.size, 0, 3, .int qc_52), (H_45.size, 0, 0, .ref xa_52), (H_31.size, 0, 3, .int qc_38), (H_31.size, 0, 0, .ref xa_38)]) [0, 1, 2, 3] rfl (M1 := [(H_128.size, 123, 3100, ca 1, (fun _ => 0)), (H_112.size, 122, 3100, ca 1, (fun _ => 0))]) [0, 1] rfl (I1 := []) [] rfl
  clear hh_156
  have hh_163 := hh_162.addI (jDZ.ie hd_161)
  clear hh_162
  refine j7_putRF hx hb hown hK hh_163 hB hAp hraw_160 hraw_160n hbr0 (C := RX14) (T := TX14) (N := 74) rfl (i := 25) (by decide) (Nat.le_of_ble_eq_true rfl) hly_16_25 rfl hin2 rfl hlk_62 (ty := (.array .int)) (v := .ref H_154.size) (by decide +kernel) rfl rfl dX14_init_144 (fun H_164 locs_164 hraw_164 hr_164 hh_164 => ?_)
  have hraw_164 : va_at (dC, dI) vwCl (r0, .inr (16, [.ref s.heap.size, .int 0, .ref H_7.size, .int 0, .int 0, .ref H_15.size, .int 0, .int 0, .int 0, .ref H_23.size, .int 0, .int 0, .int 0, .ref H_31.size, .ref H_45.size, .int (-1), .int 0, .ref H_62.size, .ref H_72.size, .ref H_82.size, .ref H_92.size, .ref H_102.size, .ref H_112.size, .ref H_128.size, .ref H_144.size, .ref H_154.size, .int 0, .null, .int 0, .int 0, .int 0, .int 0, .int 0, .int 0, .int 0, .int 0, .int 0, .int 0, .null, .int 0, .int 0, .null, .int 0, .null, .int 0, .null, .null, .null, .int 0, .null, .null, .null, .null, .null, .null, .null, .null, .null, .null, .null, .null, .null, .null, .null, .int 0, .int 0, .int 0, .null, .null, .null, .int 0, .null, .null, .null])) H_164 := hraw_164
  have hkp_165 := hkp_159.put hr_164
  clear hh_163
  refine lv_aload_n hx hb dX14_init_147 rfl (lv_at hl 0 rfl) ?_
  refine lv_sipush (v := 3300) hx hb dX14_init_148 (by decide) ?_
  clear hsz_156 htt_156
  have hsz_166 := hh_164.2.2.2.2.2.1
  have htt_166 := hh_164.2.2.2.2.2.2.1
  refine j7_newiK hx hb hK hh_164 hB (atype := .int) (ty := .int) (htw (.arrayClass .int) (jWr_3 _ (List.mem_of_getElem? (i := 20) rfl))) rfl rfl (fun _ h => h) hB127 1 rfl (by decide) (by decide) hbs (x := 3300) (by decide) (by omega) (fun j => by first | trivial | decide | rfl | exact Or.inl rfl | exact Or.inr (Or.inl (by decide)) | (refine ⟨?_, ?_⟩ <;> decide)) (by rw [hRc]; omega) (by rw [hRs]; omega) dX14_init_151 (fun H_166 hfr_166 hh_166 => ?_)
  have hh_166 : jSt (dC, dI) B base G0 (va_up G_156 H_164.size (some (127, 3300))) EX14_init s.heap ((((((((((((((((((0 + 1) + 1) + 1) + 1) + 1) + (1)) + 1) + (1)) + 1) + 1) + 1) + 1) + 1) + 1) + 1) + 1) + 1) + 1) ((((((((((((((((((0 + 4000) + 20000) + 100000) + 3300) + 4) + (16)) + 4) + (16)) + 3100) + 3100) + 3100) + 3100) + 3100) + 3100) + 3100) + 3100) + 3100) + 3300) [(H_45.size, 0, 3, .int qc_52), (H_45.size, 0, 0, .ref xa_52), (H_31.size, 0, 3, .int qc_38), (H_31.size, 0, 0, .ref xa_38)] [(H_128.size, 123, 3100, ca 1, (fun _ => 0)), (H_112.size, 122, 3100, ca 1, (fun _ => 0))] [(jFz9, jDZ dC dI G_156)] H_166 locs_164 := hh_166
  have hZ_166 : jN14 G_156 (va_up G_156 H_164.size (some (127, 3300))) := jN14.new (by decide)
  have hN_166 : (jNk [1, 2, 3, 4, 5, 6, 7, 8, 9, 10, 11, 12, 13]) G_156 (va_up G_156 H_164.size (some (127, 3300))) := jNk.new (by decide)
  have hgn_166 : (va_up G_156 H_164.size (some (127, 3300))) H_164.size = some (127, 3300) := jUp_self
  have hle_166 : jLe G_156 (va_up G_156 H_164.size (some (127, 3300))) := jLe.new hh_164.2.1.fresh
  have hke_166 : jKe G_156 (va_up G_156 H_164.size (some (127, 3300))) H_164 H_166 := jKe.new hfr_166
  have hsy_166 : s.heap.size ≤ H_164.size := hh_164.1.1
  generalize (va_up G_156 H_164.size (some (127, 3300))) = G_166 at hN_166 hgn_166 hle_166 hke_166 hh_166 hZ_166
  clear hh_164
  have hNn_166 : (jNk [1, 2, 3, 4, 5, 6, 7, 8, 9, 10, 11, 12, 13]) G0 G_166 := (hNn_156).tr hN_166
  have hg_167 := hle_166 _ _ hg_157
  have hg_168 := hle_166 _ _ hg_158
  have hkp_169 := hkp_165.tr hke_166
  have hraw_170n := hke_166.nr hraw_164.lt hraw_160n
  have hraw_170 := hraw_164.kept (hke_166.1 _ hraw_164.lt)
  try have hz14_166 : jN14 G0 G_166 := (hz14_156).tr hZ_166
  have hd_171 := jDZ.grow (hh_166.iv 0 rfl) hle_166 hZ_166
  have hh_172 := hh_166.sub (L1 := [(H_45.size, 0, 3, .int qc_52), (H_45.size, 0, 0, .ref xa_52), (H_31.size, 0, 3, .int qc_38), (H_31.size, 0, 0, .ref xa_38)]) [0, 1, 2, 3] rfl (M1 := [(H_128.size, 123, 3100, ca 1, (fun _ => 0)), (H_112.size, 122, 3100, ca 1, (fun _ => 0))]) [0, 1] rfl (I1 := []) [] rfl
  clear hh_166
  have hh_173 := hh_172.addI (jDZ.ie hd_171)
  clear hh_172
  refine j7_putRF hx hb hown hK hh_173 hB hAp hraw_170 hraw_170n hbr0 (C := RX14) (T := TX14) (N := 74) rfl (i := 27) (by decide) (Nat.le_of_ble_eq_true rfl) hly_16_27 rfl hin2 rfl hlk_65 (ty := (.array .int)) (v := .ref H_164.size) (by decide +kernel) rfl rfl dX14_init_153 (fun H_174 locs_174 hraw_174 hr_174 hh_174 => ?_)
  have hraw_174 : va_at (dC, dI) vwCl (r0, .inr (16, [.ref s.heap.size, .int 0, .ref H_7.size, .int 0, .int 0, .ref H_15.size, .int 0, .int 0, .int 0, .ref H_23.size, .int 0, .int 0, .int 0, .ref H_31.size, .ref H_45.size, .int (-1), .int 0, .ref H_62.size, .ref H_72.size, .ref H_82.size, .ref H_92.size, .ref H_102.size, .ref H_112.size, .ref H_128.size, .ref H_144.size, .ref H_154.size, .int 0, .ref H_164.size, .int 0, .int 0, .int 0, .int 0, .int 0, .int 0, .int 0, .int 0, .int 0, .int 0, .null, .int 0, .int 0, .null, .int 0, .null, .int 0, .null, .null, .null, .int 0, .null, .null, .null, .null, .null, .null, .null, .null, .null, .null, .null, .null, .null, .null, .null, .int 0, .int 0, .int 0, .null, .null, .null, .int 0, .null, .null, .null])) H_174 := hraw_174
  have hkp_175 := hkp_169.put hr_174
  clear hh_173
  refine lv_aload_n hx hb dX14_init_156 rfl (lv_at hl 0 rfl) ?_
  refine lv_bipush (v := 20) hx hb dX14_init_157 (by decide) ?_
  clear hsz_166 htt_166
  have hsz_176 := hh_174.2.2.2.2.2.1
  have htt_176 := hh_174.2.2.2.2.2.2.1
  refine j7_newiK hx hb hK hh_174 hB (atype := .int) (ty := .int) (htw (.arrayClass .int) (jWr_3 _ (List.mem_of_getElem? (i := 20) rfl))) rfl rfl (fun _ h => h) hB101 1 rfl (by decide) (by decide) hbs (x := 20) (by decide) (by omega) (fun j => by first | trivial | decide | rfl | exact Or.inl rfl | exact Or.inr (Or.inl (by decide)) | (refine ⟨?_, ?_⟩ <;> decide)) (by rw [hRc]; omega) (by rw [hRs]; omega) dX14_init_159 (fun H_176 hfr_176 hh_176 => ?_)
  have hh_176 : jSt (dC, dI) B base G0 (va_up G_166 H_174.size (some (101, 20))) EX14_init s.heap (((((((((((((((((((0 + 1) + 1) + 1) + 1) + 1) + (1)) + 1) + (1)) + 1) + 1) + 1) + 1) + 1) + 1) + 1) + 1) + 1) + 1) + 1) (((((((((((((((((((0 + 4000) + 20000) + 100000) + 3300) + 4) + (16)) + 4) + (16)) + 3100) + 3100) + 3100) + 3100) + 3100) + 3100) + 3100) + 3100) + 3100) + 3300) + 20) [(H_45.size, 0, 3, .int qc_52), (H_45.size, 0, 0, .ref xa_52), (H_31.size, 0, 3, .int qc_38), (H_31.size, 0, 0, .ref xa_38)] [(H_128.size, 123, 3100, ca 1, (fun _ => 0)), (H_112.size, 122, 3100, ca 1, (fun _ => 0))] [(jFz9, jDZ dC dI G_166)] H_176 locs_174 := hh_176
  have hZ_176 : jN14 G_166 (va_up G_166 H_174.size (some (101, 20))) := jN14.new (by decide)
  have hN_176 : (jNk [1, 2, 3, 4, 5, 6, 7, 8, 9, 10, 11, 12, 13]) G_166 (va_up G_166 H_174.size (some (101, 20))) := jNk.new (by decide)
  have hgn_176 : (va_up G_166 H_174.size (some (101, 20))) H_174.size = some (101, 20) := jUp_self
  have hle_176 : jLe G_166 (va_up G_166 H_174.size (some (101, 20))) := jLe.new hh_174.2.1.fresh
  have hke_176 : jKe G_166 (va_up G_166 H_174.size (some (101, 20))) H_174 H_176 := jKe.new hfr_176
  have hsy_176 : s.heap.size ≤ H_174.size := hh_174.1.1
  generalize (va_up G_166 H_174.size (some (101, 20))) = G_176 at hN_176 hgn_176 hle_176 hke_176 hh_176 hZ_176
  clear hh_174
  have hNn_176 : (jNk [1, 2, 3, 4, 5, 6, 7, 8, 9, 10, 11, 12, 13]) G0 G_176 := (hNn_166).tr hN_176
  have hg_177 := hle_176 _ _ hg_167
  have hg_178 := hle_176 _ _ hg_168
  have hkp_179 := hkp_175.tr hke_176
  have hraw_180n := hke_176.nr hraw_174.lt hraw_170n
  have hraw_180 := hraw_174.kept (hke_176.1 _ hraw_174.lt)
  try have hz14_176 : jN14 G0 G_176 := (hz14_166).tr hZ_176
  have hd_181 := jDZ.grow (hh_176.iv 0 rfl) hle_176 hZ_176
  have hh_182 := hh_176.sub (L1 := [(H_45.size, 0, 3, .int qc_52), (H_45.size, 0, 0, .ref xa_52), (H_31.size, 0, 3, .int qc_38), (H_31.size, 0, 0, .ref xa_38)]) [0, 1, 2, 3] rfl (M1 := [(H_128.size, 123, 3100, ca 1, (fun _ => 0)), (H_112.size, 122, 3100, ca 1, (fun _ => 0))]) [0, 1] rfl (I1 := []) [] rfl
  clear hh_176
  have hh_183 := hh_182.addI (jDZ.ie hd_181)
  clear hh_182
  refine j7_putRF hx hb hown hK hh_183 hB hAp hraw_180 hraw_180n hbr0 (C := RX14) (T := TX14) (N := 74) rfl (i := 38) (by decide) (Nat.le_of_ble_eq_true rfl) hly_16_38 rfl hin2 rfl hlk_68 (ty := (.array .int)) (v := .ref H_174.size) (by decide +kernel) rfl rfl dX14_init_161 (fun H_184 locs_184 hraw_184 hr_184 hh_184 => ?_)
  have hraw_184 : va_at (dC, dI) vwCl (r0, .inr (16, [.ref s.heap.size, .int 0, .ref H_7.size, .int 0, .int 0, .ref H_15.size, .int 0, .int 0, .int 0, .ref H_23.size, .int 0, .int 0, .int 0, .ref H_31.size, .ref H_45.size, .int (-1), .int 0, .ref H_62.size, .ref H_72.size, .ref H_82.size, .ref H_92.size, .ref H_102.size, .ref H_112.size, .ref H_128.size, .ref H_144.size, .ref H_154.size, .int 0, .ref H_164.size, .int 0, .int 0, .int 0, .int 0, .int 0, .int 0, .int 0, .int 0, .int 0, .int 0, .ref H_174.size, .int 0, .int 0, .null, .int 0, .null, .int 0, .null, .null, .null, .int 0, .null, .null, .null, .null, .null, .null, .null, .null, .null, .null, .null, .null, .null, .null, .null, .int 0, .int 0, .int 0, .null, .null, .null, .int 0, .null, .null, .null])) H_184 := hraw_184
  have hkp_185 := hkp_179.put hr_184
  clear hh_183
  refine lv_aload_n hx hb dX14_init_164 rfl (lv_at hl 0 rfl) ?_
  refine lv_iconst (v := 3) hx hb dX14_init_165 (by decide) ?_
  clear hsz_176 htt_176
  have hsz_186 := hh_184.2.2.2.2.2.1
  have htt_186 := hh_184.2.2.2.2.2.2.1
  have hsy_186 : s.heap.size ≤ H_184.size := hh_184.1.1
  refine j7_newqR hx hb hown (htw (.classLink RX14 71 RX12) (jWr_11 _ (List.mem_of_getElem? (i := 16) rfl))) hK6.1 hK2 hh_184 hB 0 rfl (x := 3) (by decide) (by omega) (by rw [hRc]; omega) (by rw [hRs]; omega) dX14_init_166 (fun H_186 hfr_186 hnr_186 hraw_186 hh_186 => ?_)
  have hlt_187 := hraw_184.lt
  have hraw_186 : va_at (dC, dI) vwCl (H_184.size, .inl (ca 4, 3, .inr (.inr (.inr (.inr (fun _ => none)))))) H_186 := hraw_186
  have hh_186 : jSt (dC, dI) B base G0 G_176 EX14_init s.heap ((((((((((((((((((((0 + 1) + 1) + 1) + 1) + 1) + (1)) + 1) + (1)) + 1) + 1) + 1) + 1) + 1) + 1) + 1) + 1) + 1) + 1) + 1) + 1) ((((((((((((((((((((0 + 4000) + 20000) + 100000) + 3300) + 4) + (16)) + 4) + (16)) + 3100) + 3100) + 3100) + 3100) + 3100) + 3100) + 3100) + 3100) + 3100) + 3300) + 20) + 3) [(H_45.size, 0, 3, .int qc_52), (H_45.size, 0, 0, .ref xa_52), (H_31.size, 0, 3, .int qc_38), (H_31.size, 0, 0, .ref xa_38)] [(H_128.size, 123, 3100, ca 1, (fun _ => 0)), (H_112.size, 122, 3100, ca 1, (fun _ => 0))] [(jFz9, jDZ dC dI G_176)] H_186 locs_184 := hh_186
  have hke_186 : jKe G_176 G_176 H_184 H_186 := jKe.raw hfr_186
  have hbr_186 : base ≤ H_184.size := Nat.le_trans hbs hsy_186
  clear hh_184
  have hkp_188 := hkp_185.tr hke_186
  have hraw_189n := hke_186.nr hraw_184.lt hraw_180n
  have hraw_189 := hraw_184.kept (hke_186.1 _ hraw_184.lt)
  have hne_190 : r0 ≠ H_184.size := Nat.ne_of_lt hlt_187
  refine lv_dup hx hb dX14_init_169 rfl ?_
  refine lv_iconst (v := 0) hx hb dX14_init_170 (by decide) ?_
  clear hsz_186 htt_186
  have hsz_191 := hh_186.2.2.2.2.2.1
  have htt_191 := hh_186.2.2.2.2.2.2.1
  refine j7_newo (k := 14) (C := RX12) (T := TX12) (N := 11) (fs := [.null, .int 0, .int 0, .null, .int 0, .int 0, .null, .null, .null, .int 0, .null]) hx hb htw jWc_wsX120 (fun k => ([(.array .int), .int, .int, (.array .int), .int, .int, (.array .int), (.array .int), (.array .int), .int, (.array .int)] : List FieldType).getD k .int) (by decide +kernel) hown (htw (.classLink RX14 71 RX12) (jWr_11 _ (List.mem_of_getElem? (i := 16) rfl))) (htw (.instantiable RX12 11) (jWr_11 _ (List.mem_of_getElem? (i := 17) rfl))) (htw (.initialized RX12) (jWr_11 _ (List.mem_of_getElem? (i := 18) rfl))) hK rfl (fun j hj => by rcases (by omega : j = 0 ∨ j = 1 ∨ j = 2 ∨ j = 3 ∨ j = 4 ∨ j = 5 ∨ j = 6 ∨ j = 7 ∨ j = 8 ∨ j = 9 ∨ j = 10) with rfl | rfl | rfl | rfl | rfl | rfl | rfl | rfl | rfl | rfl | rfl <;> rfl) hh_186 hB (by rw [hRc]; omega) (by rw [hRs]; omega) dX14_init_171 (fun H_191 hraw_191 hfr_191 hnr_191 hh_191 => ?_)
  have hlt_192 := hraw_189.lt
  have hlt_193 := hraw_186.lt
  have hke_191 : jKe G_176 G_176 H_186 H_191 := jKe.raw hfr_191
  have hbr_191 : base ≤ H_186.size := Nat.le_trans hbs hh_186.1.1
  have hsy_191 : s.heap.size ≤ H_186.size := hh_186.1.1
  clear hh_186
  have hkp_194 := hkp_188.tr hke_191
  have hraw_195n := hke_191.nr hraw_189.lt hraw_189n
  have hraw_195 := hraw_189.kept (hke_191.1 _ hraw_189.lt)
  have hraw_196n := hke_191.nr hraw_186.lt hnr_186
  have hraw_196 := hraw_186.kept (hke_191.1 _ hraw_186.lt)
  have hne_197 : r0 ≠ H_186.size := Nat.ne_of_lt hlt_192
  have hne_198 : H_184.size ≠ H_186.size := Nat.ne_of_lt hlt_193
  refine lv_dup hx hb dX14_init_174 rfl ?_
  clear hsz_191 htt_191
  have hsz_199 := hh_191.2.2.2.2.2.1
  have htt_199 := hh_191.2.2.2.2.2.2.1
  refine W.room (fun hrc_199 hrs_199 => ?_)
  refine va_callv (A0 := jA base) (H0 := s.heap) (va_runIN (As := []) (rest := [.ref H_186.size, .int 0, .ref H_184.size, .ref H_184.size, .ref r0]) ⟨hx, hb, hml, hown, hts⟩ (uX12_initE l dC dI ca base B hB hAp hB14 hB101 hB190 hB191 hB192 hB193 G_176 H_191 H_186.size LC LS) ⟨va_cnB 0 hts (jgW (jWr_13 _ (List.mem_of_getElem? (i := 21) rfl))) rfl rfl rfl (hG.2.2.1 RX14 73 yX12_init "ProofServerModel" (List.mem_of_getElem? (i := 1726) (by decide +kernel))) (htw (.initialized RX12) (jWr_11 _ (List.mem_of_getElem? (i := 18) rfl))) (by decide +kernel) ⟨by rw [← hR]; exact Nat.le_of_ble_eq_true rfl, by rw [← hR]; exact Nat.le_of_ble_eq_true rfl⟩, rfl, htw (.instanceMethod yX12_init) (jWr_13 _ (List.mem_of_getElem? (i := 20) rfl))⟩ ⟨fun a U g mk q => by obtain ⟨q0, q1, q2, qK, q10, q11, q12, q13, q14, q15⟩ := q; exact ⟨q0, q1, q2, jG.calling g mk a qK, q10, q11, q12, q13, q14, q15⟩, fun U hU hW => ⟨rfl, hU, hh_191.2.1, hG.step hW hU hh_191.1, hraw_191, hnr_191, hbr_191, jP.nil, (hh_191.2.2.2.2.2.2.2.2.sub (L1 := [(jFz9, jDZ dC dI G_176)]) [0] rfl), (by omega), (by omega), trivial⟩⟩ rfl rfl hl.1 rfl (lv_room (Nat.le_of_ble_eq_true rfl)) dX14_init_175 ⟨by rw [hRc]; omega, by rw [hRs]; omega⟩) hh_191.1 (fun q _ h => h) (fun q h => h) (fun u_199 t_199 H_199 locs_199 ht_199 hvm_199 hr_200 hb_199 hz_199 hk_199 hS_199 => ?_)
  rw [ht_199] at hb_199
  obtain ⟨G_199, rfl⟩ : ∃ z, z = u_199 := ⟨_, rfl⟩
  try simp only at hb_199
  obtain ⟨⟨hb_1991, hb_1992, hb_1993, hb_1994, hb_1995, hb_1996⟩, hN_199, hgc_199, hbX_199, hbE_199⟩ := hb_199
  have hN_199 : (jNk [1, 2, 3, 4, 5, 6, 7, 8, 9, 10, 11, 12, 13]) G_176 G_199 := hN_199.sub (by decide)
  have hh_199 : jSt (dC, dI) B base G0 G_199 EX14_init s.heap ((((((((((((((((((((((0 + 1) + 1) + 1) + 1) + 1) + (1)) + 1) + (1)) + 1) + 1) + 1) + 1) + 1) + 1) + 1) + 1) + 1) + 1) + 1) + 1) + 1) + (6)) ((((((((((((((((((((((0 + 4000) + 20000) + 100000) + 3300) + 4) + (16)) + 4) + (16)) + 3100) + 3100) + 3100) + 3100) + 3100) + 3100) + 3100) + 3100) + 3100) + 3300) + 20) + 3) + 11) + (1700)) [(H_45.size, 0, 3, .int qc_52), (H_45.size, 0, 0, .ref xa_52), (H_31.size, 0, 3, .int qc_38), (H_31.size, 0, 0, .ref xa_38)] [(H_128.size, 123, 3100, ca 1, (fun _ => 0)), (H_112.size, 122, 3100, ca 1, (fun _ => 0))] [] H_199 locs_199 := (hh_191.callG hb_1991 hb_1992 hb_1993 hb_1994 hb_1995 hS_199 rfl (L1 := [(H_45.size, 0, 3, .int qc_52), (H_45.size, 0, 0, .ref xa_52), (H_31.size, 0, 3, .int qc_38), (H_31.size, 0, 0, .ref xa_38)]) [0, 1, 2, 3] rfl rfl (M1 := [(H_128.size, 123, 3100, ca 1, (fun _ => 0)), (H_112.size, 122, 3100, ca 1, (fun _ => 0))]) [0, 1] rfl rfl (I1 := []) [] rfl rfl).more hb_1996
  have hNn_199 : (jNk [1, 2, 3, 4, 5, 6, 7, 8, 9, 10, 11, 12, 13]) G0 G_199 := (hNn_176).tr hN_199
  have hg_201 := hb_1992 _ _ hg_177
  have hg_202 := hb_1992 _ _ hg_178
  have hh_203 := hh_199.addIs hbE_199
  try simp only at hr_200
  have hkp_204 := hkp_194.in hbX_199 hsy_191
  have hraw_205x := hbX_199.ke hraw_195.lt hne_197 hraw_195n
  clear hne_197
  have hraw_205 := hraw_195.kept hraw_205x.1
  have hraw_206x := hbX_199.ke hraw_196.lt hne_198 hraw_196n
  clear hne_198
  have hraw_206 := hraw_196.kept hraw_206x.1
  refine j7_qastR hx hb hK2 hh_203 hB hraw_206 hraw_206x.2 hbr_186 0 rfl (x := 0) ((by decide)) (by omega) hB14 (T := TX12) (N := 11) rfl (by decide) hgc_199 dX14_init_178 (fun H_207 locs_207 hraw_207 hr_207 hh_207 => ?_)
  have hraw_208 := hraw_205.kept (hr_207 _ hne_190)
  have hkp_209 := hkp_204.st hsy_186 hr_207
  clear hr_207
  clear hh_203
  refine lv_dup hx hb dX14_init_179 rfl ?_
  refine lv_iconst (v := 1) hx hb dX14_init_180 (by decide) ?_
  have hlt_d0 : H_186.size < H_207.size := (hh_207.ab ((jLe.rf) _ _ hgc_199)).2
  clear hsz_199 htt_199 hrc_199 hrs_199
  (try clear hb_1994); (try clear hb_1995); (try clear hz_199)
  have hsz_210 := hh_207.2.2.2.2.2.1
  have htt_210 := hh_207.2.2.2.2.2.2.1
  refine j7_newo (k := 14) (C := RX12) (T := TX12) (N := 11) (fs := [.null, .int 0, .int 0, .null, .int 0, .int 0, .null, .null, .null, .int 0, .null]) hx hb htw jWc_wsX120 (fun k => ([(.array .int), .int, .int, (.array .int), .int, .int, (.array .int), (.array .int), (.array .int), .int, (.array .int)] : List FieldType).getD k .int) (by decide +kernel) hown (htw (.classLink RX14 71 RX12) (jWr_11 _ (List.mem_of_getElem? (i := 16) rfl))) (htw (.instantiable RX12 11) (jWr_11 _ (List.mem_of_getElem? (i := 17) rfl))) (htw (.initialized RX12) (jWr_11 _ (List.mem_of_getElem? (i := 18) rfl))) hK rfl (fun j hj => by rcases (by omega : j = 0 ∨ j = 1 ∨ j = 2 ∨ j = 3 ∨ j = 4 ∨ j = 5 ∨ j = 6 ∨ j = 7 ∨ j = 8 ∨ j = 9 ∨ j = 10) with rfl | rfl | rfl | rfl | rfl | rfl | rfl | rfl | rfl | rfl | rfl <;> rfl) hh_207 hB (by rw [hRc]; omega) (by rw [hRs]; omega) dX14_init_181 (fun H_210 hraw_210 hfr_210 hnr_210 hh_210 => ?_)
  have hlt_211 := hraw_208.lt
  have hlt_212 := hraw_207.lt
  have hke_210 : jKe G_199 G_199 H_207 H_210 := jKe.raw hfr_210
  have hbr_210 : base ≤ H_207.size := Nat.le_trans hbs hh_207.1.1
  have hsy_210 : s.heap.size ≤ H_207.size := hh_207.1.1
  clear hh_207
  have hkp_213 := hkp_209.tr hke_210
  have hraw_214n := hke_210.nr hraw_208.lt hraw_205x.2
  have hraw_214 := hraw_208.kept (hke_210.1 _ hraw_208.lt)
  have hraw_215n := hke_210.nr hraw_207.lt hraw_206x.2
  have hraw_215 := hraw_207.kept (hke_210.1 _ hraw_207.lt)
  have hne_216 : r0 ≠ H_207.size := Nat.ne_of_lt hlt_211
  have hne_217 : H_184.size ≠ H_207.size := Nat.ne_of_lt hlt_212
  refine lv_dup hx hb dX14_init_184 rfl ?_
  clear hsz_210 htt_210
  have hsz_218 := hh_210.2.2.2.2.2.1
  have htt_218 := hh_210.2.2.2.2.2.2.1
  refine W.room (fun hrc_218 hrs_218 => ?_)
  refine va_callv (A0 := jA base) (H0 := s.heap) (va_runIN (As := []) (rest := [.ref H_207.size, .int 1, .ref H_184.size, .ref H_184.size, .ref r0]) ⟨hx, hb, hml, hown, hts⟩ (uX12_initE l dC dI ca base B hB hAp hB14 hB101 hB190 hB191 hB192 hB193 G_199 H_210 H_207.size LC LS) ⟨va_cnB 0 hts (jgW (jWr_13 _ (List.mem_of_getElem? (i := 21) rfl))) rfl rfl rfl (hG.2.2.1 RX14 73 yX12_init "ProofServerModel" (List.mem_of_getElem? (i := 1726) (by decide +kernel))) (htw (.initialized RX12) (jWr_11 _ (List.mem_of_getElem? (i := 18) rfl))) (by decide +kernel) ⟨by rw [← hR]; exact Nat.le_of_ble_eq_true rfl, by rw [← hR]; exact Nat.le_of_ble_eq_true rfl⟩, rfl, htw (.instanceMethod yX12_init) (jWr_13 _ (List.mem_of_getElem? (i := 20) rfl))⟩ ⟨fun a U g mk q => by obtain ⟨q0, q1, q2, qK, q10, q11, q12, q13, q14, q15⟩ := q; exact ⟨q0, q1, q2, jG.calling g mk a qK, q10, q11, q12, q13, q14, q15⟩, fun U hU hW => ⟨rfl, hU, hh_210.2.1, hG.step hW hU hh_210.1, hraw_210, hnr_210, hbr_210, jP.nil, (hh_210.2.2.2.2.2.2.2.2.sub (L1 := [(jFz9, jDZ dC dI G_199)]) [0] rfl), (by omega), (by omega), trivial⟩⟩ rfl rfl hl.1 rfl (lv_room (Nat.le_of_ble_eq_true rfl)) dX14_init_185 ⟨by rw [hRc]; omega, by rw [hRs]; omega⟩) hh_210.1 (fun q _ h => h) (fun q h => h) (fun u_218 t_218 H_218 locs_218 ht_218 hvm_218 hr_219 hb_218 hz_218 hk_218 hS_218 => ?_)
  rw [ht_218] at hb_218
  obtain ⟨G_218, rfl⟩ : ∃ z, z = u_218 := ⟨_, rfl⟩
  try simp only at hb_218
  obtain ⟨⟨hb_2181, hb_2182, hb_2183, hb_2184, hb_2185, hb_2186⟩, hN_218, hgc_218, hbX_218, hbE_218⟩ := hb_218
  have hN_218 : (jNk [1, 2, 3, 4, 5, 6, 7, 8, 9, 10, 11, 12, 13]) G_199 G_218 := hN_218.sub (by decide)
  have hh_218 : jSt (dC, dI) B base G0 G_218 EX14_init s.heap ((((((((((((((((((((((((0 + 1) + 1) + 1) + 1) + 1) + (1)) + 1) + (1)) + 1) + 1) + 1) + 1) + 1) + 1) + 1) + 1) + 1) + 1) + 1) + 1) + 1) + (6)) + 1) + (6)) ((((((((((((((((((((((((0 + 4000) + 20000) + 100000) + 3300) + 4) + (16)) + 4) + (16)) + 3100) + 3100) + 3100) + 3100) + 3100) + 3100) + 3100) + 3100) + 3100) + 3300) + 20) + 3) + 11) + (1700)) + 11) + (1700)) [(H_45.size, 0, 3, .int qc_52), (H_45.size, 0, 0, .ref xa_52), (H_31.size, 0, 3, .int qc_38), (H_31.size, 0, 0, .ref xa_38)] [(H_128.size, 123, 3100, ca 1, (fun _ => 0)), (H_112.size, 122, 3100, ca 1, (fun _ => 0))] [] H_218 locs_218 := (hh_210.callG hb_2181 hb_2182 hb_2183 hb_2184 hb_2185 hS_218 rfl (L1 := [(H_45.size, 0, 3, .int qc_52), (H_45.size, 0, 0, .ref xa_52), (H_31.size, 0, 3, .int qc_38), (H_31.size, 0, 0, .ref xa_38)]) [0, 1, 2, 3] rfl rfl (M1 := [(H_128.size, 123, 3100, ca 1, (fun _ => 0)), (H_112.size, 122, 3100, ca 1, (fun _ => 0))]) [0, 1] rfl rfl (I1 := []) [] rfl rfl).more hb_2186
  have hNn_218 : (jNk [1, 2, 3, 4, 5, 6, 7, 8, 9, 10, 11, 12, 13]) G0 G_218 := (hNn_199).tr hN_218
  have hg_220 := hb_2182 _ _ hg_201
  have hg_221 := hb_2182 _ _ hg_202
  have hh_222 := hh_218.addIs hbE_218
  try simp only at hr_219
  have hkp_223 := hkp_213.in hbX_218 hsy_210
  have hraw_224x := hbX_218.ke hraw_214.lt hne_216 hraw_214n
  clear hne_216
  have hraw_224 := hraw_214.kept hraw_224x.1
  have hraw_225x := hbX_218.ke hraw_215.lt hne_217 hraw_215n
  clear hne_217
  have hraw_225 := hraw_215.kept hraw_225x.1
  refine j7_qastR hx hb hK2 hh_222 hB hraw_225 hraw_225x.2 hbr_186 0 rfl (x := 1) ((by decide)) (by omega) hB14 (T := TX12) (N := 11) rfl (by decide) hgc_218 dX14_init_188 (fun H_226 locs_226 hraw_226 hr_226 hh_226 => ?_)
  have hraw_227 := hraw_224.kept (hr_226 _ hne_190)
  have hkp_228 := hkp_223.st hsy_186 hr_226
  clear hr_226
  clear hh_222
  refine lv_dup hx hb dX14_init_189 rfl ?_
  refine lv_iconst (v := 2) hx hb dX14_init_190 (by decide) ?_
  have hlt_d1 : H_207.size < H_226.size := (hh_226.ab ((jLe.rf) _ _ hgc_218)).2
  clear hsz_218 htt_218 hrc_218 hrs_218
  (try clear hb_2184); (try clear hb_2185); (try clear hz_218)
  have hsz_229 := hh_226.2.2.2.2.2.1
  have htt_229 := hh_226.2.2.2.2.2.2.1
  refine j7_newo (k := 14) (C := RX12) (T := TX12) (N := 11) (fs := [.null, .int 0, .int 0, .null, .int 0, .int 0, .null, .null, .null, .int 0, .null]) hx hb htw jWc_wsX120 (fun k => ([(.array .int), .int, .int, (.array .int), .int, .int, (.array .int), (.array .int), (.array .int), .int, (.array .int)] : List FieldType).getD k .int) (by decide +kernel) hown (htw (.classLink RX14 71 RX12) (jWr_11 _ (List.mem_of_getElem? (i := 16) rfl))) (htw (.instantiable RX12 11) (jWr_11 _ (List.mem_of_getElem? (i := 17) rfl))) (htw (.initialized RX12) (jWr_11 _ (List.mem_of_getElem? (i := 18) rfl))) hK rfl (fun j hj => by rcases (by omega : j = 0 ∨ j = 1 ∨ j = 2 ∨ j = 3 ∨ j = 4 ∨ j = 5 ∨ j = 6 ∨ j = 7 ∨ j = 8 ∨ j = 9 ∨ j = 10) with rfl | rfl | rfl | rfl | rfl | rfl | rfl | rfl | rfl | rfl | rfl <;> rfl) hh_226 hB (by rw [hRc]; omega) (by rw [hRs]; omega) dX14_init_191 (fun H_229 hraw_229 hfr_229 hnr_229 hh_229 => ?_)
  have hlt_230 := hraw_227.lt
  have hlt_231 := hraw_226.lt
  have hke_229 : jKe G_218 G_218 H_226 H_229 := jKe.raw hfr_229
  have hbr_229 : base ≤ H_226.size := Nat.le_trans hbs hh_226.1.1
  have hsy_229 : s.heap.size ≤ H_226.size := hh_226.1.1
  clear hh_226
  have hkp_232 := hkp_228.tr hke_229
  have hraw_233n := hke_229.nr hraw_227.lt hraw_224x.2
  have hraw_233 := hraw_227.kept (hke_229.1 _ hraw_227.lt)
  have hraw_234n := hke_229.nr hraw_226.lt hraw_225x.2
  have hraw_234 := hraw_226.kept (hke_229.1 _ hraw_226.lt)
  have hne_235 : r0 ≠ H_226.size := Nat.ne_of_lt hlt_230
  have hne_236 : H_184.size ≠ H_226.size := Nat.ne_of_lt hlt_231
  refine lv_dup hx hb dX14_init_194 rfl ?_
  clear hsz_229 htt_229
  have hsz_237 := hh_229.2.2.2.2.2.1
  have htt_237 := hh_229.2.2.2.2.2.2.1
  refine W.room (fun hrc_237 hrs_237 => ?_)
  refine va_callv (A0 := jA base) (H0 := s.heap) (va_runIN (As := []) (rest := [.ref H_226.size, .int 2, .ref H_184.size, .ref H_184.size, .ref r0]) ⟨hx, hb, hml, hown, hts⟩ (uX12_initE l dC dI ca base B hB hAp hB14 hB101 hB190 hB191 hB192 hB193 G_218 H_229 H_226.size LC LS) ⟨va_cnB 0 hts (jgW (jWr_13 _ (List.mem_of_getElem? (i := 21) rfl))) rfl rfl rfl (hG.2.2.1 RX14 73 yX12_init "ProofServerModel" (List.mem_of_getElem? (i := 1726) (by decide +kernel))) (htw (.initialized RX12) (jWr_11 _ (List.mem_of_getElem? (i := 18) rfl))) (by decide +kernel) ⟨by rw [← hR]; exact Nat.le_of_ble_eq_true rfl, by rw [← hR]; exact Nat.le_of_ble_eq_true rfl⟩, rfl, htw (.instanceMethod yX12_init) (jWr_13 _ (List.mem_of_getElem? (i := 20) rfl))⟩ ⟨fun a U g mk q => by obtain ⟨q0, q1, q2, qK, q10, q11, q12, q13, q14, q15⟩ := q; exact ⟨q0, q1, q2, jG.calling g mk a qK, q10, q11, q12, q13, q14, q15⟩, fun U hU hW => ⟨rfl, hU, hh_229.2.1, hG.step hW hU hh_229.1, hraw_229, hnr_229, hbr_229, jP.nil, (hh_229.2.2.2.2.2.2.2.2.sub (L1 := [(jFz9, jDZ dC dI G_218)]) [0] rfl), (by omega), (by omega), trivial⟩⟩ rfl rfl hl.1 rfl (lv_room (Nat.le_of_ble_eq_true rfl)) dX14_init_195 ⟨by rw [hRc]; omega, by rw [hRs]; omega⟩) hh_229.1 (fun q _ h => h) (fun q h => h) (fun u_237 t_237 H_237 locs_237 ht_237 hvm_237 hr_238 hb_237 hz_237 hk_237 hS_237 => ?_)
  rw [ht_237] at hb_237
  obtain ⟨G_237, rfl⟩ : ∃ z, z = u_237 := ⟨_, rfl⟩
  try simp only at hb_237
  obtain ⟨⟨hb_2371, hb_2372, hb_2373, hb_2374, hb_2375, hb_2376⟩, hN_237, hgc_237, hbX_237, hbE_237⟩ := hb_237
  have hN_237 : (jNk [1, 2, 3, 4, 5, 6, 7, 8, 9, 10, 11, 12, 13]) G_218 G_237 := hN_237.sub (by decide)
  have hh_237 : jSt (dC, dI) B base G0 G_237 EX14_init s.heap ((((((((((((((((((((((((((0 + 1) + 1) + 1) + 1) + 1) + (1)) + 1) + (1)) + 1) + 1) + 1) + 1) + 1) + 1) + 1) + 1) + 1) + 1) + 1) + 1) + 1) + (6)) + 1) + (6)) + 1) + (6)) ((((((((((((((((((((((((((0 + 4000) + 20000) + 100000) + 3300) + 4) + (16)) + 4) + (16)) + 3100) + 3100) + 3100) + 3100) + 3100) + 3100) + 3100) + 3100) + 3100) + 3300) + 20) + 3) + 11) + (1700)) + 11) + (1700)) + 11) + (1700)) [(H_45.size, 0, 3, .int qc_52), (H_45.size, 0, 0, .ref xa_52), (H_31.size, 0, 3, .int qc_38), (H_31.size, 0, 0, .ref xa_38)] [(H_128.size, 123, 3100, ca 1, (fun _ => 0)), (H_112.size, 122, 3100, ca 1, (fun _ => 0))] [] H_237 locs_237 := (hh_229.callG hb_2371 hb_2372 hb_2373 hb_2374 hb_2375 hS_237 rfl (L1 := [(H_45.size, 0, 3, .int qc_52), (H_45.size, 0, 0, .ref xa_52), (H_31.size, 0, 3, .int qc_38), (H_31.size, 0, 0, .ref xa_38)]) [0, 1, 2, 3] rfl rfl (M1 := [(H_128.size, 123, 3100, ca 1, (fun _ => 0)), (H_112.size, 122, 3100, ca 1, (fun _ => 0))]) [0, 1] rfl rfl (I1 := []) [] rfl rfl).more hb_2376
  have hNn_237 : (jNk [1, 2, 3, 4, 5, 6, 7, 8, 9, 10, 11, 12, 13]) G0 G_237 := (hNn_218).tr hN_237
  have hg_239 := hb_2372 _ _ hg_220
  have hg_240 := hb_2372 _ _ hg_221
  have hh_241 := hh_237.addIs hbE_237
  try simp only at hr_238
  have hkp_242 := hkp_232.in hbX_237 hsy_229
  have hraw_243x := hbX_237.ke hraw_233.lt hne_235 hraw_233n
  clear hne_235
  have hraw_243 := hraw_233.kept hraw_243x.1
  have hraw_244x := hbX_237.ke hraw_234.lt hne_236 hraw_234n
  clear hne_236
  have hraw_244 := hraw_234.kept hraw_244x.1
  refine j7_qastR hx hb hK2 hh_241 hB hraw_244 hraw_244x.2 hbr_186 0 rfl (x := 2) ((by decide)) (by omega) hB14 (T := TX12) (N := 11) rfl (by decide) hgc_237 dX14_init_198 (fun H_245 locs_245 hraw_245 hr_245 hh_245 => ?_)
  have hraw_246 := hraw_243.kept (hr_245 _ hne_190)
  have hkp_247 := hkp_242.st hsy_186 hr_245
  clear hr_245
  clear hh_241
  have hgm_d0 := ((hb_2182).tr hb_2372) _ _ hgc_199
  have hgm_d1 := (hb_2372) _ _ hgc_218
  have hgm_d2 := (jLe.rf) _ _ hgc_237
  have hle_248 : jLe G_237 (va_up G_237 H_184.size (some (201, 3))) := jLe.typ hraw_244x.2
  have hh_248 := hh_245.typ (k := 201) (n := 3) hB hraw_244x.2 hbr_186 hraw_245.lt (jAq.of hB201 hraw_245 (jQs3 hle_248 hgm_d0 hgm_d1 hgm_d2))
  have hgn_248 : (va_up G_237 H_184.size (some (201, 3))) H_184.size = some (201, 3) := jUp_self
  have hN_248 : (jNk [1, 2, 3, 4, 5, 6, 7, 8, 9, 10, 11, 12, 13]) G_237 (va_up G_237 H_184.size (some (201, 3))) := jNk.new (by decide)
  have hNn_248 : (jNk [1, 2, 3, 4, 5, 6, 7, 8, 9, 10, 11, 12, 13]) G0 (va_up G_237 H_184.size (some (201, 3))) := (hNn_237).tr hN_248
  have hkp_249 := hkp_247.typn (t := some (201, 3)) hsy_186
  have hZ_248 : jN14 G_237 (va_up G_237 H_184.size (some (201, 3))) := jN14.new (by decide)
  have hrn_250 : ∀ t, (va_up G_237 H_184.size (some (201, 3))) r0 ≠ some t := jNrU hraw_243x.2 hne_190
  clear hne_190
  generalize (va_up G_237 H_184.size (some (201, 3))) = G_248 at hN_248 hNn_248 hgn_248 hle_248 hh_248 hkp_249 hZ_248 hrn_250
  have hg_251 := hle_248 _ _ hg_239
  have hg_252 := hle_248 _ _ hg_240
  have hd_253 := jDZ.grow (hh_248.iv 0 rfl) hle_248 hZ_248
  have hh_254 := hh_248.sub (L1 := [(H_45.size, 0, 3, .int qc_52), (H_45.size, 0, 0, .ref xa_52), (H_31.size, 0, 3, .int qc_38), (H_31.size, 0, 0, .ref xa_38)]) [0, 1, 2, 3] rfl (M1 := [(H_128.size, 123, 3100, ca 1, (fun _ => 0)), (H_112.size, 122, 3100, ca 1, (fun _ => 0))]) [0, 1] rfl (I1 := []) [] rfl
  clear hh_248
  have hh_255 := hh_254.addI (jDZ.ie hd_253)
  clear hh_254
  try have hz14_248 : jN14 G0 G_248 := (hz14_176).tr hZ_248
  have hh_256 := hh_255.addI (jQc.ie hraw_245 hgn_248 (by decide) (by decide))
  clear hh_255
  refine j7_putRF hx hb hown hK hh_256 hB hAp hraw_246 hrn_250 hbr0 (C := RX14) (T := TX14) (N := 74) rfl (i := 41) (by decide) (Nat.le_of_ble_eq_true rfl) hly_16_41 rfl hin2 rfl hlk_74 (ty := (.array (.object "ProofServerModel$Document"))) (v := .ref H_184.size) (by decide +kernel) rfl rfl dX14_init_199 (fun H_257 locs_257 hraw_257 hr_257 hh_257 => ?_)
  have hraw_257 : va_at (dC, dI) vwCl (r0, .inr (16, [.ref s.heap.size, .int 0, .ref H_7.size, .int 0, .int 0, .ref H_15.size, .int 0, .int 0, .int 0, .ref H_23.size, .int 0, .int 0, .int 0, .ref H_31.size, .ref H_45.size, .int (-1), .int 0, .ref H_62.size, .ref H_72.size, .ref H_82.size, .ref H_92.size, .ref H_102.size, .ref H_112.size, .ref H_128.size, .ref H_144.size, .ref H_154.size, .int 0, .ref H_164.size, .int 0, .int 0, .int 0, .int 0, .int 0, .int 0, .int 0, .int 0, .int 0, .int 0, .ref H_174.size, .int 0, .int 0, .ref H_184.size, .int 0, .null, .int 0, .null, .null, .null, .int 0, .null, .null, .null, .null, .null, .null, .null, .null, .null, .null, .null, .null, .null, .null, .null, .int 0, .int 0, .int 0, .null, .null, .null, .int 0, .null, .null, .null])) H_257 := hraw_257
  have hkp_258 := hkp_249.put hr_257
  clear hh_256
  refine lv_aload_n hx hb dX14_init_202 rfl (lv_at hl 0 rfl) ?_
  refine lv_sipush (v := 3100) hx hb dX14_init_203 (by decide) ?_
  clear hsz_237 htt_237 hrc_237 hrs_237
  (try clear hb_2374); (try clear hb_2375); (try clear hz_237)
  have hsz_259 := hh_257.2.2.2.2.2.1
  have htt_259 := hh_257.2.2.2.2.2.2.1
  refine j7_newiK hx hb hK hh_257 hB (atype := .int) (ty := .int) (htw (.arrayClass .int) (jWr_3 _ (List.mem_of_getElem? (i := 20) rfl))) rfl rfl (fun _ h => h) hB101 1 rfl (by decide) (by decide) hbs (x := 3100) (by decide) (by omega) (fun j => by first | trivial | decide | rfl | exact Or.inl rfl | exact Or.inr (Or.inl (by decide)) | (refine ⟨?_, ?_⟩ <;> decide)) (by rw [hRc]; omega) (by rw [hRs]; omega) dX14_init_206 (fun H_259 hfr_259 hh_259 => ?_)
  have hh_259 : jSt (dC, dI) B base G0 (va_up G_248 H_257.size (some (101, 3100))) EX14_init s.heap (((((((((((((((((((((((((((0 + 1) + 1) + 1) + 1) + 1) + (1)) + 1) + (1)) + 1) + 1) + 1) + 1) + 1) + 1) + 1) + 1) + 1) + 1) + 1) + 1) + 1) + (6)) + 1) + (6)) + 1) + (6)) + 1) (((((((((((((((((((((((((((0 + 4000) + 20000) + 100000) + 3300) + 4) + (16)) + 4) + (16)) + 3100) + 3100) + 3100) + 3100) + 3100) + 3100) + 3100) + 3100) + 3100) + 3300) + 20) + 3) + 11) + (1700)) + 11) + (1700)) + 11) + (1700)) + 3100) [(H_45.size, 0, 3, .int qc_52), (H_45.size, 0, 0, .ref xa_52), (H_31.size, 0, 3, .int qc_38), (H_31.size, 0, 0, .ref xa_38)] [(H_128.size, 123, 3100, ca 1, (fun _ => 0)), (H_112.size, 122, 3100, ca 1, (fun _ => 0))] [([(201, 0)], jQc dC dI (ca 4) H_184.size 3 (va_up (va_up (va_up (fun _ => none) 0 (some H_186.size)) 1 (some H_207.size)) 2 (some H_226.size))), (jFz9, jDZ dC dI G_248)] H_259 locs_257 := hh_259
  have hZ_259 : jN14 G_248 (va_up G_248 H_257.size (some (101, 3100))) := jN14.new (by decide)
  have hN_259 : (jNk [1, 2, 3, 4, 5, 6, 7, 8, 9, 10, 11, 12, 13]) G_248 (va_up G_248 H_257.size (some (101, 3100))) := jNk.new (by decide)
  have hgn_259 : (va_up G_248 H_257.size (some (101, 3100))) H_257.size = some (101, 3100) := jUp_self
  have hle_259 : jLe G_248 (va_up G_248 H_257.size (some (101, 3100))) := jLe.new hh_257.2.1.fresh
  have hke_259 : jKe G_248 (va_up G_248 H_257.size (some (101, 3100))) H_257 H_259 := jKe.new hfr_259
  have hsy_259 : s.heap.size ≤ H_257.size := hh_257.1.1
  generalize (va_up G_248 H_257.size (some (101, 3100))) = G_259 at hN_259 hgn_259 hle_259 hke_259 hh_259 hZ_259
  clear hh_257
  have hNn_259 : (jNk [1, 2, 3, 4, 5, 6, 7, 8, 9, 10, 11, 12, 13]) G0 G_259 := (hNn_248).tr hN_259
  have hg_260 := hle_259 _ _ hg_251
  have hg_261 := hle_259 _ _ hg_252
  have hkp_262 := hkp_258.tr hke_259
  have hraw_263n := hke_259.nr hraw_257.lt hrn_250
  have hraw_263 := hraw_257.kept (hke_259.1 _ hraw_257.lt)
  try have hz14_259 : jN14 G0 G_259 := (hz14_248).tr hZ_259
  have hd_265 := jDZ.grow (hh_259.iv 1 rfl) hle_259 hZ_259
  have hh_266 := hh_259.sub (L1 := [(H_45.size, 0, 3, .int qc_52), (H_45.size, 0, 0, .ref xa_52), (H_31.size, 0, 3, .int qc_38), (H_31.size, 0, 0, .ref xa_38)]) [0, 1, 2, 3] rfl (M1 := [(H_128.size, 123, 3100, ca 1, (fun _ => 0)), (H_112.size, 122, 3100, ca 1, (fun _ => 0))]) [0, 1] rfl (I1 := [([(201, 0)], jQc dC dI (ca 4) H_184.size 3 (va_up (va_up (va_up (fun _ => none) 0 (some H_186.size)) 1 (some H_207.size)) 2 (some H_226.size)))]) [0] rfl
  clear hh_259
  have hh_267 := hh_266.addI (jDZ.ie hd_265)
  clear hh_266
  refine j7_putRF hx hb hown hK hh_267 hB hAp hraw_263 hraw_263n hbr0 (C := RX14) (T := TX14) (N := 74) rfl (i := 43) (by decide) (Nat.le_of_ble_eq_true rfl) hly_16_43 rfl hin2 rfl hlk_78 (ty := (.array .int)) (v := .ref H_257.size) (by decide +kernel) rfl rfl dX14_init_208 (fun H_268 locs_268 hraw_268 hr_268 hh_268 => ?_)
  have hraw_268 : va_at (dC, dI) vwCl (r0, .inr (16, [.ref s.heap.size, .int 0, .ref H_7.size, .int 0, .int 0, .ref H_15.size, .int 0, .int 0, .int 0, .ref H_23.size, .int 0, .int 0, .int 0, .ref H_31.size, .ref H_45.size, .int (-1), .int 0, .ref H_62.size, .ref H_72.size, .ref H_82.size, .ref H_92.size, .ref H_102.size, .ref H_112.size, .ref H_128.size, .ref H_144.size, .ref H_154.size, .int 0, .ref H_164.size, .int 0, .int 0, .int 0, .int 0, .int 0, .int 0, .int 0, .int 0, .int 0, .int 0, .ref H_174.size, .int 0, .int 0, .ref H_184.size, .int 0, .ref H_257.size, .int 0, .null, .null, .null, .int 0, .null, .null, .null, .null, .null, .null, .null, .null, .null, .null, .null, .null, .null, .null, .null, .int 0, .int 0, .int 0, .null, .null, .null, .int 0, .null, .null, .null])) H_268 := hraw_268
  have hkp_269 := hkp_262.put hr_268
  clear hh_267
  refine lv_aload_n hx hb dX14_init_211 rfl (lv_at hl 0 rfl) ?_
  refine lv_sipush (v := 1500) hx hb dX14_init_212 (by decide) ?_
  clear hsz_259 htt_259
  have hsz_270 := hh_268.2.2.2.2.2.1
  have htt_270 := hh_268.2.2.2.2.2.2.1
  refine j7_newiK hx hb hK hh_268 hB (atype := .int) (ty := .int) (htw (.arrayClass .int) (jWr_3 _ (List.mem_of_getElem? (i := 20) rfl))) rfl rfl (fun _ h => h) hB101 1 rfl (by decide) (by decide) hbs (x := 1500) (by decide) (by omega) (fun j => by first | trivial | decide | rfl | exact Or.inl rfl | exact Or.inr (Or.inl (by decide)) | (refine ⟨?_, ?_⟩ <;> decide)) (by rw [hRc]; omega) (by rw [hRs]; omega) dX14_init_215 (fun H_270 hfr_270 hh_270 => ?_)
  have hh_270 : jSt (dC, dI) B base G0 (va_up G_259 H_268.size (some (101, 1500))) EX14_init s.heap ((((((((((((((((((((((((((((0 + 1) + 1) + 1) + 1) + 1) + (1)) + 1) + (1)) + 1) + 1) + 1) + 1) + 1) + 1) + 1) + 1) + 1) + 1) + 1) + 1) + 1) + (6)) + 1) + (6)) + 1) + (6)) + 1) + 1) ((((((((((((((((((((((((((((0 + 4000) + 20000) + 100000) + 3300) + 4) + (16)) + 4) + (16)) + 3100) + 3100) + 3100) + 3100) + 3100) + 3100) + 3100) + 3100) + 3100) + 3300) + 20) + 3) + 11) + (1700)) + 11) + (1700)) + 11) + (1700)) + 3100) + 1500) [(H_45.size, 0, 3, .int qc_52), (H_45.size, 0, 0, .ref xa_52), (H_31.size, 0, 3, .int qc_38), (H_31.size, 0, 0, .ref xa_38)] [(H_128.size, 123, 3100, ca 1, (fun _ => 0)), (H_112.size, 122, 3100, ca 1, (fun _ => 0))] [(jFz9, jDZ dC dI G_259), ([(201, 0)], jQc dC dI (ca 4) H_184.size 3 (va_up (va_up (va_up (fun _ => none) 0 (some H_186.size)) 1 (some H_207.size)) 2 (some H_226.size)))] H_270 locs_268 := hh_270
  have hZ_270 : jN14 G_259 (va_up G_259 H_268.size (some (101, 1500))) := jN14.new (by decide)
  have hN_270 : (jNk [1, 2, 3, 4, 5, 6, 7, 8, 9, 10, 11, 12, 13]) G_259 (va_up G_259 H_268.size (some (101, 1500))) := jNk.new (by decide)
  have hgn_270 : (va_up G_259 H_268.size (some (101, 1500))) H_268.size = some (101, 1500) := jUp_self
  have hle_270 : jLe G_259 (va_up G_259 H_268.size (some (101, 1500))) := jLe.new hh_268.2.1.fresh
  have hke_270 : jKe G_259 (va_up G_259 H_268.size (some (101, 1500))) H_268 H_270 := jKe.new hfr_270
  have hsy_270 : s.heap.size ≤ H_268.size := hh_268.1.1
  generalize (va_up G_259 H_268.size (some (101, 1500))) = G_270 at hN_270 hgn_270 hle_270 hke_270 hh_270 hZ_270
  clear hh_268
  have hNn_270 : (jNk [1, 2, 3, 4, 5, 6, 7, 8, 9, 10, 11, 12, 13]) G0 G_270 := (hNn_259).tr hN_270
  have hg_271 := hle_270 _ _ hg_260
  have hg_272 := hle_270 _ _ hg_261
  have hkp_273 := hkp_269.tr hke_270
  have hraw_274n := hke_270.nr hraw_268.lt hraw_263n
  have hraw_274 := hraw_268.kept (hke_270.1 _ hraw_268.lt)
  try have hz14_270 : jN14 G0 G_270 := (hz14_259).tr hZ_270
  have hd_275 := jDZ.grow (hh_270.iv 0 rfl) hle_270 hZ_270
  have hh_276 := hh_270.sub (L1 := [(H_45.size, 0, 3, .int qc_52), (H_45.size, 0, 0, .ref xa_52), (H_31.size, 0, 3, .int qc_38), (H_31.size, 0, 0, .ref xa_38)]) [0, 1, 2, 3] rfl (M1 := [(H_128.size, 123, 3100, ca 1, (fun _ => 0)), (H_112.size, 122, 3100, ca 1, (fun _ => 0))]) [0, 1] rfl (I1 := [([(201, 0)], jQc dC dI (ca 4) H_184.size 3 (va_up (va_up (va_up (fun _ => none) 0 (some H_186.size)) 1 (some H_207.size)) 2 (some H_226.size)))]) [1] rfl
  clear hh_270
  have hh_277 := hh_276.addI (jDZ.ie hd_275)
  clear hh_276
  refine j7_putRF hx hb hown hK hh_277 hB hAp hraw_274 hraw_274n hbr0 (C := RX14) (T := TX14) (N := 74) rfl (i := 45) (by decide) (Nat.le_of_ble_eq_true rfl) hly_16_45 rfl hin2 rfl hlk_81 (ty := (.array .int)) (v := .ref H_268.size) (by decide +kernel) rfl rfl dX14_init_217 (fun H_279 locs_279 hraw_279 hr_279 hh_279 => ?_)
  have hraw_279 : va_at (dC, dI) vwCl (r0, .inr (16, [.ref s.heap.size, .int 0, .ref H_7.size, .int 0, .int 0, .ref H_15.size, .int 0, .int 0, .int 0, .ref H_23.size, .int 0, .int 0, .int 0, .ref H_31.size, .ref H_45.size, .int (-1), .int 0, .ref H_62.size, .ref H_72.size, .ref H_82.size, .ref H_92.size, .ref H_102.size, .ref H_112.size, .ref H_128.size, .ref H_144.size, .ref H_154.size, .int 0, .ref H_164.size, .int 0, .int 0, .int 0, .int 0, .int 0, .int 0, .int 0, .int 0, .int 0, .int 0, .ref H_174.size, .int 0, .int 0, .ref H_184.size, .int 0, .ref H_257.size, .int 0, .ref H_268.size, .null, .null, .int 0, .null, .null, .null, .null, .null, .null, .null, .null, .null, .null, .null, .null, .null, .null, .null, .int 0, .int 0, .int 0, .null, .null, .null, .int 0, .null, .null, .null])) H_279 := hraw_279
  have hkp_280 := hkp_273.put hr_279
  clear hh_277
  refine lv_aload_n hx hb dX14_init_220 rfl (lv_at hl 0 rfl) ?_
  have hlt_d2 : H_226.size < H_279.size := (hh_279.ab ((((hle_248).tr hle_259).tr hle_270) _ _ hgc_237)).2
  clear hsz_270 htt_270
  have hsz_281 := hh_279.2.2.2.2.2.1
  have htt_281 := hh_279.2.2.2.2.2.2.1
  refine j7_newo (k := 14) (C := RX12) (T := TX12) (N := 11) (fs := [.null, .int 0, .int 0, .null, .int 0, .int 0, .null, .null, .null, .int 0, .null]) hx hb htw jWc_wsX120 (fun k => ([(.array .int), .int, .int, (.array .int), .int, .int, (.array .int), (.array .int), (.array .int), .int, (.array .int)] : List FieldType).getD k .int) (by decide +kernel) hown (htw (.classLink RX14 71 RX12) (jWr_11 _ (List.mem_of_getElem? (i := 16) rfl))) (htw (.instantiable RX12 11) (jWr_11 _ (List.mem_of_getElem? (i := 17) rfl))) (htw (.initialized RX12) (jWr_11 _ (List.mem_of_getElem? (i := 18) rfl))) hK rfl (fun j hj => by rcases (by omega : j = 0 ∨ j = 1 ∨ j = 2 ∨ j = 3 ∨ j = 4 ∨ j = 5 ∨ j = 6 ∨ j = 7 ∨ j = 8 ∨ j = 9 ∨ j = 10) with rfl | rfl | rfl | rfl | rfl | rfl | rfl | rfl | rfl | rfl | rfl <;> rfl) hh_279 hB (by rw [hRc]; omega) (by rw [hRs]; omega) dX14_init_221 (fun H_281 hraw_281 hfr_281 hnr_281 hh_281 => ?_)
  have hlt_282 := hraw_279.lt
  have hke_281 : jKe G_270 G_270 H_279 H_281 := jKe.raw hfr_281
  have hbr_281 : base ≤ H_279.size := Nat.le_trans hbs hh_279.1.1
  have hsy_281 : s.heap.size ≤ H_279.size := hh_279.1.1
  clear hh_279
  have hkp_283 := hkp_280.tr hke_281
  have hraw_284n := hke_281.nr hraw_279.lt hraw_274n
  have hraw_284 := hraw_279.kept (hke_281.1 _ hraw_279.lt)
  have hne_285 : r0 ≠ H_279.size := Nat.ne_of_lt hlt_282
  refine lv_dup hx hb dX14_init_224 rfl ?_
  clear hsz_281 htt_281
  have hsz_286 := hh_281.2.2.2.2.2.1
  have htt_286 := hh_281.2.2.2.2.2.2.1
  refine W.room (fun hrc_286 hrs_286 => ?_)
  refine va_callv (A0 := jA base) (H0 := s.heap) (va_runIN (As := []) (rest := [.ref H_279.size, .ref r0]) ⟨hx, hb, hml, hown, hts⟩ (uX12_initE l dC dI ca base B hB hAp hB14 hB101 hB190 hB191 hB192 hB193 G_270 H_281 H_279.size LC LS) ⟨va_cnB 0 hts (jgW (jWr_13 _ (List.mem_of_getElem? (i := 21) rfl))) rfl rfl rfl (hG.2.2.1 RX14 73 yX12_init "ProofServerModel" (List.mem_of_getElem? (i := 1726) (by decide +kernel))) (htw (.initialized RX12) (jWr_11 _ (List.mem_of_getElem? (i := 18) rfl))) (by decide +kernel) ⟨by rw [← hR]; exact Nat.le_of_ble_eq_true rfl, by rw [← hR]; exact Nat.le_of_ble_eq_true rfl⟩, rfl, htw (.instanceMethod yX12_init) (jWr_13 _ (List.mem_of_getElem? (i := 20) rfl))⟩ ⟨fun a U g mk q => by obtain ⟨q0, q1, q2, qK, q10, q11, q12, q13, q14, q15⟩ := q; exact ⟨q0, q1, q2, jG.calling g mk a qK, q10, q11, q12, q13, q14, q15⟩, fun U hU hW => ⟨rfl, hU, hh_281.2.1, hG.step hW hU hh_281.1, hraw_281, hnr_281, hbr_281, jP.nil, (hh_281.2.2.2.2.2.2.2.2.sub (L1 := [(jFz9, jDZ dC dI G_270)]) [0] rfl), (by omega), (by omega), trivial⟩⟩ rfl rfl hl.1 rfl (lv_room (Nat.le_of_ble_eq_true rfl)) dX14_init_225 ⟨by rw [hRc]; omega, by rw [hRs]; omega⟩) hh_281.1 (fun q _ h => h) (fun q h => h) (fun u_286 t_286 H_286 locs_286 ht_286 hvm_286 hr_287 hb_286 hz_286 hk_286 hS_286 => ?_)
  rw [ht_286] at hb_286
  obtain ⟨G_286, rfl⟩ : ∃ z, z = u_286 := ⟨_, rfl⟩
  try simp only at hb_286
  obtain ⟨⟨hb_2861, hb_2862, hb_2863, hb_2864, hb_2865, hb_2866⟩, hN_286, hgc_286, hbX_286, hbE_286⟩ := hb_286
  have hN_286 : (jNk [1, 2, 3, 4, 5, 6, 7, 8, 9, 10, 11, 12, 13]) G_270 G_286 := hN_286.sub (by decide)
  have hh_286 : jSt (dC, dI) B base G0 G_286 EX14_init s.heap ((((((((((((((((((((((((((((((0 + 1) + 1) + 1) + 1) + 1) + (1)) + 1) + (1)) + 1) + 1) + 1) + 1) + 1) + 1) + 1) + 1) + 1) + 1) + 1) + 1) + 1) + (6)) + 1) + (6)) + 1) + (6)) + 1) + 1) + 1) + (6)) ((((((((((((((((((((((((((((((0 + 4000) + 20000) + 100000) + 3300) + 4) + (16)) + 4) + (16)) + 3100) + 3100) + 3100) + 3100) + 3100) + 3100) + 3100) + 3100) + 3100) + 3300) + 20) + 3) + 11) + (1700)) + 11) + (1700)) + 11) + (1700)) + 3100) + 1500) + 11) + (1700)) [(H_45.size, 0, 3, .int qc_52), (H_45.size, 0, 0, .ref xa_52), (H_31.size, 0, 3, .int qc_38), (H_31.size, 0, 0, .ref xa_38)] [(H_128.size, 123, 3100, ca 1, (fun _ => 0)), (H_112.size, 122, 3100, ca 1, (fun _ => 0))] [([(201, 0)], jQc dC dI (ca 4) H_184.size 3 (va_up (va_up (va_up (fun _ => none) 0 (some H_186.size)) 1 (some H_207.size)) 2 (some H_226.size)))] H_286 locs_286 := (hh_281.callG hb_2861 hb_2862 hb_2863 hb_2864 hb_2865 hS_286 rfl (L1 := [(H_45.size, 0, 3, .int qc_52), (H_45.size, 0, 0, .ref xa_52), (H_31.size, 0, 3, .int qc_38), (H_31.size, 0, 0, .ref xa_38)]) [0, 1, 2, 3] rfl rfl (M1 := [(H_128.size, 123, 3100, ca 1, (fun _ => 0)), (H_112.size, 122, 3100, ca 1, (fun _ => 0))]) [0, 1] rfl rfl (I1 := [([(201, 0)], jQc dC dI (ca 4) H_184.size 3 (va_up (va_up (va_up (fun _ => none) 0 (some H_186.size)) 1 (some H_207.size)) 2 (some H_226.size)))]) [1] rfl rfl).more hb_2866
  have hNn_286 : (jNk [1, 2, 3, 4, 5, 6, 7, 8, 9, 10, 11, 12, 13]) G0 G_286 := (hNn_270).tr hN_286
  have hg_288 := hb_2862 _ _ hg_271
  have hg_289 := hb_2862 _ _ hg_272
  have hh_291 := hh_286.addIs hbE_286
  try simp only at hr_287
  have hkp_292 := hkp_283.in hbX_286 hsy_281
  have hraw_293x := hbX_286.ke hraw_284.lt hne_285 hraw_284n
  clear hne_285
  have hraw_293 := hraw_284.kept hraw_293x.1
  refine j7_putRF hx hb hown hK hh_291 hB hAp hraw_293 hraw_293x.2 hbr0 (C := RX14) (T := TX14) (N := 74) rfl (i := 46) (by decide) (Nat.le_of_ble_eq_true rfl) hly_16_46 rfl hin2 rfl hlk_84 (ty := (.object "ProofServerModel$Document")) (v := .ref H_279.size) (by decide +kernel) rfl rfl dX14_init_228 (fun H_294 locs_294 hraw_294 hr_294 hh_294 => ?_)
  have hraw_294 : va_at (dC, dI) vwCl (r0, .inr (16, [.ref s.heap.size, .int 0, .ref H_7.size, .int 0, .int 0, .ref H_15.size, .int 0, .int 0, .int 0, .ref H_23.size, .int 0, .int 0, .int 0, .ref H_31.size, .ref H_45.size, .int (-1), .int 0, .ref H_62.size, .ref H_72.size, .ref H_82.size, .ref H_92.size, .ref H_102.size, .ref H_112.size, .ref H_128.size, .ref H_144.size, .ref H_154.size, .int 0, .ref H_164.size, .int 0, .int 0, .int 0, .int 0, .int 0, .int 0, .int 0, .int 0, .int 0, .int 0, .ref H_174.size, .int 0, .int 0, .ref H_184.size, .int 0, .ref H_257.size, .int 0, .ref H_268.size, .ref H_279.size, .null, .int 0, .null, .null, .null, .null, .null, .null, .null, .null, .null, .null, .null, .null, .null, .null, .null, .int 0, .int 0, .int 0, .null, .null, .null, .int 0, .null, .null, .null])) H_294 := hraw_294
  have hkp_295 := hkp_292.put hr_294
  clear hh_291
  refine lv_aload_n hx hb dX14_init_231 rfl (lv_at hl 0 rfl) ?_
  have hlt_ol : H_279.size < H_294.size := (hh_294.ab ((jLe.rf) _ _ hgc_286)).2
  clear hsz_286 htt_286 hrc_286 hrs_286
  (try clear hb_2864); (try clear hb_2865); (try clear hz_286)
  have hsz_296 := hh_294.2.2.2.2.2.1
  have htt_296 := hh_294.2.2.2.2.2.2.1
  refine j7_newo (k := 14) (C := RX12) (T := TX12) (N := 11) (fs := [.null, .int 0, .int 0, .null, .int 0, .int 0, .null, .null, .null, .int 0, .null]) hx hb htw jWc_wsX120 (fun k => ([(.array .int), .int, .int, (.array .int), .int, .int, (.array .int), (.array .int), (.array .int), .int, (.array .int)] : List FieldType).getD k .int) (by decide +kernel) hown (htw (.classLink RX14 71 RX12) (jWr_11 _ (List.mem_of_getElem? (i := 16) rfl))) (htw (.instantiable RX12 11) (jWr_11 _ (List.mem_of_getElem? (i := 17) rfl))) (htw (.initialized RX12) (jWr_11 _ (List.mem_of_getElem? (i := 18) rfl))) hK rfl (fun j hj => by rcases (by omega : j = 0 ∨ j = 1 ∨ j = 2 ∨ j = 3 ∨ j = 4 ∨ j = 5 ∨ j = 6 ∨ j = 7 ∨ j = 8 ∨ j = 9 ∨ j = 10) with rfl | rfl | rfl | rfl | rfl | rfl | rfl | rfl | rfl | rfl | rfl <;> rfl) hh_294 hB (by rw [hRc]; omega) (by rw [hRs]; omega) dX14_init_232 (fun H_296 hraw_296 hfr_296 hnr_296 hh_296 => ?_)
  have hlt_297 := hraw_294.lt
  have hke_296 : jKe G_286 G_286 H_294 H_296 := jKe.raw hfr_296
  have hbr_296 : base ≤ H_294.size := Nat.le_trans hbs hh_294.1.1
  have hsy_296 : s.heap.size ≤ H_294.size := hh_294.1.1
  clear hh_294
  have hkp_298 := hkp_295.tr hke_296
  have hraw_299n := hke_296.nr hraw_294.lt hraw_293x.2
  have hraw_299 := hraw_294.kept (hke_296.1 _ hraw_294.lt)
  have hne_300 : r0 ≠ H_294.size := Nat.ne_of_lt hlt_297
  refine lv_dup hx hb dX14_init_235 rfl ?_
  clear hsz_296 htt_296
  have hsz_301 := hh_296.2.2.2.2.2.1
  have htt_301 := hh_296.2.2.2.2.2.2.1
  refine W.room (fun hrc_301 hrs_301 => ?_)
  refine va_callv (A0 := jA base) (H0 := s.heap) (va_runIN (As := []) (rest := [.ref H_294.size, .ref r0]) ⟨hx, hb, hml, hown, hts⟩ (uX12_initE l dC dI ca base B hB hAp hB14 hB101 hB190 hB191 hB192 hB193 G_286 H_296 H_294.size LC LS) ⟨va_cnB 0 hts (jgW (jWr_13 _ (List.mem_of_getElem? (i := 21) rfl))) rfl rfl rfl (hG.2.2.1 RX14 73 yX12_init "ProofServerModel" (List.mem_of_getElem? (i := 1726) (by decide +kernel))) (htw (.initialized RX12) (jWr_11 _ (List.mem_of_getElem? (i := 18) rfl))) (by decide +kernel) ⟨by rw [← hR]; exact Nat.le_of_ble_eq_true rfl, by rw [← hR]; exact Nat.le_of_ble_eq_true rfl⟩, rfl, htw (.instanceMethod yX12_init) (jWr_13 _ (List.mem_of_getElem? (i := 20) rfl))⟩ ⟨fun a U g mk q => by obtain ⟨q0, q1, q2, qK, q10, q11, q12, q13, q14, q15⟩ := q; exact ⟨q0, q1, q2, jG.calling g mk a qK, q10, q11, q12, q13, q14, q15⟩, fun U hU hW => ⟨rfl, hU, hh_296.2.1, hG.step hW hU hh_296.1, hraw_296, hnr_296, hbr_296, jP.nil, (hh_296.2.2.2.2.2.2.2.2.sub (L1 := [(jFz9, jDZ dC dI G_286)]) [0] rfl), (by omega), (by omega), trivial⟩⟩ rfl rfl hl.1 rfl (lv_room (Nat.le_of_ble_eq_true rfl)) dX14_init_236 ⟨by rw [hRc]; omega, by rw [hRs]; omega⟩) hh_296.1 (fun q _ h => h) (fun q h => h) (fun u_301 t_301 H_301 locs_301 ht_301 hvm_301 hr_302 hb_301 hz_301 hk_301 hS_301 => ?_)
  rw [ht_301] at hb_301
  obtain ⟨G_301, rfl⟩ : ∃ z, z = u_301 := ⟨_, rfl⟩
  try simp only at hb_301
  obtain ⟨⟨hb_3011, hb_3012, hb_3013, hb_3014, hb_3015, hb_3016⟩, hN_301, hgc_301, hbX_301, hbE_301⟩ := hb_301
  have hN_301 : (jNk [1, 2, 3, 4, 5, 6, 7, 8, 9, 10, 11, 12, 13]) G_286 G_301 := hN_301.sub (by decide)
  have hh_301 : jSt (dC, dI) B base G0 G_301 EX14_init s.heap ((((((((((((((((((((((((((((((((0 + 1) + 1) + 1) + 1) + 1) + (1)) + 1) + (1)) + 1) + 1) + 1) + 1) + 1) + 1) + 1) + 1) + 1) + 1) + 1) + 1) + 1) + (6)) + 1) + (6)) + 1) + (6)) + 1) + 1) + 1) + (6)) + 1) + (6)) ((((((((((((((((((((((((((((((((0 + 4000) + 20000) + 100000) + 3300) + 4) + (16)) + 4) + (16)) + 3100) + 3100) + 3100) + 3100) + 3100) + 3100) + 3100) + 3100) + 3100) + 3300) + 20) + 3) + 11) + (1700)) + 11) + (1700)) + 11) + (1700)) + 3100) + 1500) + 11) + (1700)) + 11) + (1700)) [(H_45.size, 0, 3, .int qc_52), (H_45.size, 0, 0, .ref xa_52), (H_31.size, 0, 3, .int qc_38), (H_31.size, 0, 0, .ref xa_38)] [(H_128.size, 123, 3100, ca 1, (fun _ => 0)), (H_112.size, 122, 3100, ca 1, (fun _ => 0))] [([(201, 0)], jQc dC dI (ca 4) H_184.size 3 (va_up (va_up (va_up (fun _ => none) 0 (some H_186.size)) 1 (some H_207.size)) 2 (some H_226.size)))] H_301 locs_301 := (hh_296.callG hb_3011 hb_3012 hb_3013 hb_3014 hb_3015 hS_301 rfl (L1 := [(H_45.size, 0, 3, .int qc_52), (H_45.size, 0, 0, .ref xa_52), (H_31.size, 0, 3, .int qc_38), (H_31.size, 0, 0, .ref xa_38)]) [0, 1, 2, 3] rfl rfl (M1 := [(H_128.size, 123, 3100, ca 1, (fun _ => 0)), (H_112.size, 122, 3100, ca 1, (fun _ => 0))]) [0, 1] rfl rfl (I1 := [([(201, 0)], jQc dC dI (ca 4) H_184.size 3 (va_up (va_up (va_up (fun _ => none) 0 (some H_186.size)) 1 (some H_207.size)) 2 (some H_226.size)))]) [1] rfl rfl).more hb_3016
  have hNn_301 : (jNk [1, 2, 3, 4, 5, 6, 7, 8, 9, 10, 11, 12, 13]) G0 G_301 := (hNn_286).tr hN_301
  have hg_303 := hb_3012 _ _ hg_288
  have hg_304 := hb_3012 _ _ hg_289
  have hh_306 := hh_301.addIs hbE_301
  try simp only at hr_302
  have hkp_307 := hkp_298.in hbX_301 hsy_296
  have hraw_308x := hbX_301.ke hraw_299.lt hne_300 hraw_299n
  clear hne_300
  have hraw_308 := hraw_299.kept hraw_308x.1
  refine j7_putRF hx hb hown hK hh_306 hB hAp hraw_308 hraw_308x.2 hbr0 (C := RX14) (T := TX14) (N := 74) rfl (i := 47) (by decide) (Nat.le_of_ble_eq_true rfl) hly_16_47 rfl hin2 rfl hlk_88 (ty := (.object "ProofServerModel$Document")) (v := .ref H_294.size) (by decide +kernel) rfl rfl dX14_init_239 (fun H_309 locs_309 hraw_309 hr_309 hh_309 => ?_)
  have hraw_309 : va_at (dC, dI) vwCl (r0, .inr (16, [.ref s.heap.size, .int 0, .ref H_7.size, .int 0, .int 0, .ref H_15.size, .int 0, .int 0, .int 0, .ref H_23.size, .int 0, .int 0, .int 0, .ref H_31.size, .ref H_45.size, .int (-1), .int 0, .ref H_62.size, .ref H_72.size, .ref H_82.size, .ref H_92.size, .ref H_102.size, .ref H_112.size, .ref H_128.size, .ref H_144.size, .ref H_154.size, .int 0, .ref H_164.size, .int 0, .int 0, .int 0, .int 0, .int 0, .int 0, .int 0, .int 0, .int 0, .int 0, .ref H_174.size, .int 0, .int 0, .ref H_184.size, .int 0, .ref H_257.size, .int 0, .ref H_268.size, .ref H_279.size, .ref H_294.size, .int 0, .null, .null, .null, .null, .null, .null, .null, .null, .null, .null, .null, .null, .null, .null, .null, .int 0, .int 0, .int 0, .null, .null, .null, .int 0, .null, .null, .null])) H_309 := hraw_309
  have hkp_310 := hkp_307.put hr_309
  clear hh_306
  refine lv_aload_n hx hb dX14_init_242 rfl (lv_at hl 0 rfl) ?_
  refine lv_bipush (v := 12) hx hb dX14_init_243 (by decide) ?_
  clear hsz_301 htt_301 hrc_301 hrs_301
  (try clear hb_3014); (try clear hb_3015); (try clear hz_301)
  have hsz_311 := hh_309.2.2.2.2.2.1
  have htt_311 := hh_309.2.2.2.2.2.2.1
  have hsy_311 : s.heap.size ≤ H_309.size := hh_309.1.1
  refine j7_newqK hx hb hown (htw (.classLink RX14 71 RX12) (jWr_11 _ (List.mem_of_getElem? (i := 16) rfl))) hK6.1 hK2 hh_309 hB hB202 0 rfl (by decide) hbs (x := 12) (by decide) (by omega) (fun _ => Or.inl rfl) (by rw [hRc]; omega) (by rw [hRs]; omega) dX14_init_245 (fun H_311 hfr_311 hh_311 hqn_311 => ?_)
  have hh_311 : jSt (dC, dI) B base G0 (va_up G_301 H_309.size (some (202, 12))) EX14_init s.heap (((((((((((((((((((((((((((((((((0 + 1) + 1) + 1) + 1) + 1) + (1)) + 1) + (1)) + 1) + 1) + 1) + 1) + 1) + 1) + 1) + 1) + 1) + 1) + 1) + 1) + 1) + (6)) + 1) + (6)) + 1) + (6)) + 1) + 1) + 1) + (6)) + 1) + (6)) + 1) (((((((((((((((((((((((((((((((((0 + 4000) + 20000) + 100000) + 3300) + 4) + (16)) + 4) + (16)) + 3100) + 3100) + 3100) + 3100) + 3100) + 3100) + 3100) + 3100) + 3100) + 3300) + 20) + 3) + 11) + (1700)) + 11) + (1700)) + 11) + (1700)) + 3100) + 1500) + 11) + (1700)) + 11) + (1700)) + 12) [(H_45.size, 0, 3, .int qc_52), (H_45.size, 0, 0, .ref xa_52), (H_31.size, 0, 3, .int qc_38), (H_31.size, 0, 0, .ref xa_38)] [(H_128.size, 123, 3100, ca 1, (fun _ => 0)), (H_112.size, 122, 3100, ca 1, (fun _ => 0))] [(jFz9, jDZ dC dI G_301), ([(201, 0)], jQc dC dI (ca 4) H_184.size 3 (va_up (va_up (va_up (fun _ => none) 0 (some H_186.size)) 1 (some H_207.size)) 2 (some H_226.size)))] H_311 locs_309 := hh_311
  have hZ_311 : jN14 G_301 (va_up G_301 H_309.size (some (202, 12))) := jN14.new (by decide)
  have hN_311 : (jNk [1, 2, 3, 4, 5, 6, 7, 8, 9, 10, 11, 12, 13]) G_301 (va_up G_301 H_309.size (some (202, 12))) := jNk.new (by decide)
  have hgn_311 : (va_up G_301 H_309.size (some (202, 12))) H_309.size = some (202, 12) := jUp_self
  have hle_311 : jLe G_301 (va_up G_301 H_309.size (some (202, 12))) := jLe.new hh_309.2.1.fresh
  have hke_311 : jKe G_301 (va_up G_301 H_309.size (some (202, 12))) H_309 H_311 := jKe.new hfr_311
  have hsy_311 : s.heap.size ≤ H_309.size := hh_309.1.1
  generalize (va_up G_301 H_309.size (some (202, 12))) = G_311 at hN_311 hgn_311 hle_311 hke_311 hh_311 hZ_311
  clear hh_309
  have hNn_311 : (jNk [1, 2, 3, 4, 5, 6, 7, 8, 9, 10, 11, 12, 13]) G0 G_311 := (hNn_301).tr hN_311
  have hg_312 := hle_311 _ _ hg_303
  have hg_313 := hle_311 _ _ hg_304
  have hkp_314 := hkp_310.tr hke_311
  have hraw_315n := hke_311.nr hraw_309.lt hraw_308x.2
  have hraw_315 := hraw_309.kept (hke_311.1 _ hraw_309.lt)
  try have hz14_311 : jN14 G0 G_311 := (hz14_270).tr hZ_311
  have hd_316 := jDZ.grow (hh_311.iv 0 rfl) hle_311 hZ_311
  have hh_317 := hh_311.sub (L1 := [(H_45.size, 0, 3, .int qc_52), (H_45.size, 0, 0, .ref xa_52), (H_31.size, 0, 3, .int qc_38), (H_31.size, 0, 0, .ref xa_38)]) [0, 1, 2, 3] rfl (M1 := [(H_128.size, 123, 3100, ca 1, (fun _ => 0)), (H_112.size, 122, 3100, ca 1, (fun _ => 0))]) [0, 1] rfl (I1 := [([(201, 0)], jQc dC dI (ca 4) H_184.size 3 (va_up (va_up (va_up (fun _ => none) 0 (some H_186.size)) 1 (some H_207.size)) 2 (some H_226.size)))]) [1] rfl
  clear hh_311
  have hh_318 := hh_317.addI (jDZ.ie hd_316)
  clear hh_317
  refine j7_putRF hx hb hown hK hh_318 hB hAp hraw_315 hraw_315n hbr0 (C := RX14) (T := TX14) (N := 74) rfl (i := 49) (by decide) (Nat.le_of_ble_eq_true rfl) hly_16_49 rfl hin2 rfl hlk_91 (ty := (.array (.object "ProofServerModel$Document"))) (v := .ref H_309.size) (by decide +kernel) rfl rfl dX14_init_248 (fun H_320 locs_320 hraw_320 hr_320 hh_320 => ?_)
  have hraw_320 : va_at (dC, dI) vwCl (r0, .inr (16, [.ref s.heap.size, .int 0, .ref H_7.size, .int 0, .int 0, .ref H_15.size, .int 0, .int 0, .int 0, .ref H_23.size, .int 0, .int 0, .int 0, .ref H_31.size, .ref H_45.size, .int (-1), .int 0, .ref H_62.size, .ref H_72.size, .ref H_82.size, .ref H_92.size, .ref H_102.size, .ref H_112.size, .ref H_128.size, .ref H_144.size, .ref H_154.size, .int 0, .ref H_164.size, .int 0, .int 0, .int 0, .int 0, .int 0, .int 0, .int 0, .int 0, .int 0, .int 0, .ref H_174.size, .int 0, .int 0, .ref H_184.size, .int 0, .ref H_257.size, .int 0, .ref H_268.size, .ref H_279.size, .ref H_294.size, .int 0, .ref H_309.size, .null, .null, .null, .null, .null, .null, .null, .null, .null, .null, .null, .null, .null, .null, .int 0, .int 0, .int 0, .null, .null, .null, .int 0, .null, .null, .null])) H_320 := hraw_320
  have hkp_321 := hkp_314.put hr_320
  clear hh_318
  refine lv_aload_n hx hb dX14_init_251 rfl (lv_at hl 0 rfl) ?_
  refine lv_bipush (v := 12) hx hb dX14_init_252 (by decide) ?_
  clear hsz_311 htt_311
  have hsz_322 := hh_320.2.2.2.2.2.1
  have htt_322 := hh_320.2.2.2.2.2.2.1
  refine j7_newiK hx hb hK hh_320 hB (atype := .boolean) (ty := .boolean) (htw (.arrayClass .boolean) (jWr_11 _ (List.mem_of_getElem? (i := 11) rfl))) rfl rfl (fun _ h => h) hB103 3 rfl (by decide) (by decide) hbs (x := 12) (by decide) (by omega) (fun j => by first | trivial | decide | rfl | exact Or.inl rfl | exact Or.inr (Or.inl (by decide)) | (refine ⟨?_, ?_⟩ <;> decide)) (by rw [hRc]; omega) (by rw [hRs]; omega) dX14_init_254 (fun H_322 hfr_322 hh_322 => ?_)
  have hh_322 : jSt (dC, dI) B base G0 (va_up G_311 H_320.size (some (103, 12))) EX14_init s.heap ((((((((((((((((((((((((((((((((((0 + 1) + 1) + 1) + 1) + 1) + (1)) + 1) + (1)) + 1) + 1) + 1) + 1) + 1) + 1) + 1) + 1) + 1) + 1) + 1) + 1) + 1) + (6)) + 1) + (6)) + 1) + (6)) + 1) + 1) + 1) + (6)) + 1) + (6)) + 1) + 1) ((((((((((((((((((((((((((((((((((0 + 4000) + 20000) + 100000) + 3300) + 4) + (16)) + 4) + (16)) + 3100) + 3100) + 3100) + 3100) + 3100) + 3100) + 3100) + 3100) + 3100) + 3300) + 20) + 3) + 11) + (1700)) + 11) + (1700)) + 11) + (1700)) + 3100) + 1500) + 11) + (1700)) + 11) + (1700)) + 12) + 12) [(H_45.size, 0, 3, .int qc_52), (H_45.size, 0, 0, .ref xa_52), (H_31.size, 0, 3, .int qc_38), (H_31.size, 0, 0, .ref xa_38)] [(H_128.size, 123, 3100, ca 1, (fun _ => 0)), (H_112.size, 122, 3100, ca 1, (fun _ => 0))] [(jFz9, jDZ dC dI G_311), ([(201, 0)], jQc dC dI (ca 4) H_184.size 3 (va_up (va_up (va_up (fun _ => none) 0 (some H_186.size)) 1 (some H_207.size)) 2 (some H_226.size)))] H_322 locs_320 := hh_322
  have hZ_322 : jN14 G_311 (va_up G_311 H_320.size (some (103, 12))) := jN14.new (by decide)
  have hN_322 : (jNk [1, 2, 3, 4, 5, 6, 7, 8, 9, 10, 11, 12, 13]) G_311 (va_up G_311 H_320.size (some (103, 12))) := jNk.new (by decide)
  have hgn_322 : (va_up G_311 H_320.size (some (103, 12))) H_320.size = some (103, 12) := jUp_self
  have hle_322 : jLe G_311 (va_up G_311 H_320.size (some (103, 12))) := jLe.new hh_320.2.1.fresh
  have hke_322 : jKe G_311 (va_up G_311 H_320.size (some (103, 12))) H_320 H_322 := jKe.new hfr_322
  have hsy_322 : s.heap.size ≤ H_320.size := hh_320.1.1
  generalize (va_up G_311 H_320.size (some (103, 12))) = G_322 at hN_322 hgn_322 hle_322 hke_322 hh_322 hZ_322
  clear hh_320
  have hNn_322 : (jNk [1, 2, 3, 4, 5, 6, 7, 8, 9, 10, 11, 12, 13]) G0 G_322 := (hNn_311).tr hN_322
  have hg_323 := hle_322 _ _ hg_312
  have hg_324 := hle_322 _ _ hg_313
  have hkp_325 := hkp_321.tr hke_322
  have hraw_326n := hke_322.nr hraw_320.lt hraw_315n
  have hraw_326 := hraw_320.kept (hke_322.1 _ hraw_320.lt)
  try have hz14_322 : jN14 G0 G_322 := (hz14_311).tr hZ_322
  have hd_327 := jDZ.grow (hh_322.iv 0 rfl) hle_322 hZ_322
  have hh_328 := hh_322.sub (L1 := [(H_45.size, 0, 3, .int qc_52), (H_45.size, 0, 0, .ref xa_52), (H_31.size, 0, 3, .int qc_38), (H_31.size, 0, 0, .ref xa_38)]) [0, 1, 2, 3] rfl (M1 := [(H_128.size, 123, 3100, ca 1, (fun _ => 0)), (H_112.size, 122, 3100, ca 1, (fun _ => 0))]) [0, 1] rfl (I1 := [([(201, 0)], jQc dC dI (ca 4) H_184.size 3 (va_up (va_up (va_up (fun _ => none) 0 (some H_186.size)) 1 (some H_207.size)) 2 (some H_226.size)))]) [1] rfl
  clear hh_322
  have hh_329 := hh_328.addI (jDZ.ie hd_327)
  clear hh_328
  refine j7_putRF hx hb hown hK hh_329 hB hAp hraw_326 hraw_326n hbr0 (C := RX14) (T := TX14) (N := 74) rfl (i := 50) (by decide) (Nat.le_of_ble_eq_true rfl) hly_16_50 rfl hin2 rfl hlk_94 (ty := (.array .boolean)) (v := .ref H_320.size) (by decide +kernel) rfl rfl dX14_init_256 (fun H_331 locs_331 hraw_331 hr_331 hh_331 => ?_)
  have hraw_331 : va_at (dC, dI) vwCl (r0, .inr (16, [.ref s.heap.size, .int 0, .ref H_7.size, .int 0, .int 0, .ref H_15.size, .int 0, .int 0, .int 0, .ref H_23.size, .int 0, .int 0, .int 0, .ref H_31.size, .ref H_45.size, .int (-1), .int 0, .ref H_62.size, .ref H_72.size, .ref H_82.size, .ref H_92.size, .ref H_102.size, .ref H_112.size, .ref H_128.size, .ref H_144.size, .ref H_154.size, .int 0, .ref H_164.size, .int 0, .int 0, .int 0, .int 0, .int 0, .int 0, .int 0, .int 0, .int 0, .int 0, .ref H_174.size, .int 0, .int 0, .ref H_184.size, .int 0, .ref H_257.size, .int 0, .ref H_268.size, .ref H_279.size, .ref H_294.size, .int 0, .ref H_309.size, .ref H_320.size, .null, .null, .null, .null, .null, .null, .null, .null, .null, .null, .null, .null, .null, .int 0, .int 0, .int 0, .null, .null, .null, .int 0, .null, .null, .null])) H_331 := hraw_331
  have hkp_332 := hkp_325.put hr_331
  clear hh_329
  refine lv_aload_n hx hb dX14_init_259 rfl (lv_at hl 0 rfl) ?_
  refine lv_bipush (v := 12) hx hb dX14_init_260 (by decide) ?_
  clear hsz_322 htt_322
  have hsz_333 := hh_331.2.2.2.2.2.1
  have htt_333 := hh_331.2.2.2.2.2.2.1
  refine j7_newiK hx hb hK hh_331 hB (atype := .int) (ty := .int) (htw (.arrayClass .int) (jWr_3 _ (List.mem_of_getElem? (i := 20) rfl))) rfl rfl (fun _ h => h) hB206 1 rfl (by decide) (by decide) hbs (x := 12) (by decide) (by omega) (fun j => by first | trivial | decide | rfl | exact Or.inl rfl | exact Or.inr (Or.inl (by decide)) | (refine ⟨?_, ?_⟩ <;> decide)) (by rw [hRc]; omega) (by rw [hRs]; omega) dX14_init_262 (fun H_333 hfr_333 hh_333 => ?_)
  have hh_333 : jSt (dC, dI) B base G0 (va_up G_322 H_331.size (some (206, 12))) EX14_init s.heap (((((((((((((((((((((((((((((((((((0 + 1) + 1) + 1) + 1) + 1) + (1)) + 1) + (1)) + 1) + 1) + 1) + 1) + 1) + 1) + 1) + 1) + 1) + 1) + 1) + 1) + 1) + (6)) + 1) + (6)) + 1) + (6)) + 1) + 1) + 1) + (6)) + 1) + (6)) + 1) + 1) + 1) (((((((((((((((((((((((((((((((((((0 + 4000) + 20000) + 100000) + 3300) + 4) + (16)) + 4) + (16)) + 3100) + 3100) + 3100) + 3100) + 3100) + 3100) + 3100) + 3100) + 3100) + 3300) + 20) + 3) + 11) + (1700)) + 11) + (1700)) + 11) + (1700)) + 3100) + 1500) + 11) + (1700)) + 11) + (1700)) + 12) + 12) + 12) [(H_45.size, 0, 3, .int qc_52), (H_45.size, 0, 0, .ref xa_52), (H_31.size, 0, 3, .int qc_38), (H_31.size, 0, 0, .ref xa_38)] [(H_128.size, 123, 3100, ca 1, (fun _ => 0)), (H_112.size, 122, 3100, ca 1, (fun _ => 0))] [(jFz9, jDZ dC dI G_322), ([(201, 0)], jQc dC dI (ca 4) H_184.size 3 (va_up (va_up (va_up (fun _ => none) 0 (some H_186.size)) 1 (some H_207.size)) 2 (some H_226.size)))] H_333 locs_331 := hh_333
  have hZ_333 : jN14 G_322 (va_up G_322 H_331.size (some (206, 12))) := jN14.new (by decide)
  have hN_333 : (jNk [1, 2, 3, 4, 5, 6, 7, 8, 9, 10, 11, 12, 13]) G_322 (va_up G_322 H_331.size (some (206, 12))) := jNk.new (by decide)
  have hgn_333 : (va_up G_322 H_331.size (some (206, 12))) H_331.size = some (206, 12) := jUp_self
  have hle_333 : jLe G_322 (va_up G_322 H_331.size (some (206, 12))) := jLe.new hh_331.2.1.fresh
  have hke_333 : jKe G_322 (va_up G_322 H_331.size (some (206, 12))) H_331 H_333 := jKe.new hfr_333
  have hsy_333 : s.heap.size ≤ H_331.size := hh_331.1.1
  generalize (va_up G_322 H_331.size (some (206, 12))) = G_333 at hN_333 hgn_333 hle_333 hke_333 hh_333 hZ_333
  clear hh_331
  have hNn_333 : (jNk [1, 2, 3, 4, 5, 6, 7, 8, 9, 10, 11, 12, 13]) G0 G_333 := (hNn_322).tr hN_333
  have hg_334 := hle_333 _ _ hg_323
  have hg_335 := hle_333 _ _ hg_324
  have hkp_336 := hkp_332.tr hke_333
  have hraw_337n := hke_333.nr hraw_331.lt hraw_326n
  have hraw_337 := hraw_331.kept (hke_333.1 _ hraw_331.lt)
  try have hz14_333 : jN14 G0 G_333 := (hz14_322).tr hZ_333
  have hd_338 := jDZ.grow (hh_333.iv 0 rfl) hle_333 hZ_333
  have hh_339 := hh_333.sub (L1 := [(H_45.size, 0, 3, .int qc_52), (H_45.size, 0, 0, .ref xa_52), (H_31.size, 0, 3, .int qc_38), (H_31.size, 0, 0, .ref xa_38)]) [0, 1, 2, 3] rfl (M1 := [(H_128.size, 123, 3100, ca 1, (fun _ => 0)), (H_112.size, 122, 3100, ca 1, (fun _ => 0))]) [0, 1] rfl (I1 := [([(201, 0)], jQc dC dI (ca 4) H_184.size 3 (va_up (va_up (va_up (fun _ => none) 0 (some H_186.size)) 1 (some H_207.size)) 2 (some H_226.size)))]) [1] rfl
  clear hh_333
  have hh_340 := hh_339.addI (jDZ.ie hd_338)
  clear hh_339
  refine j7_putRF hx hb hown hK hh_340 hB hAp hraw_337 hraw_337n hbr0 (C := RX14) (T := TX14) (N := 74) rfl (i := 51) (by decide) (Nat.le_of_ble_eq_true rfl) hly_16_51 rfl hin2 rfl hlk_97 (ty := (.array .int)) (v := .ref H_331.size) (by decide +kernel) rfl rfl dX14_init_264 (fun H_342 locs_342 hraw_342 hr_342 hh_342 => ?_)
  have hraw_342 : va_at (dC, dI) vwCl (r0, .inr (16, [.ref s.heap.size, .int 0, .ref H_7.size, .int 0, .int 0, .ref H_15.size, .int 0, .int 0, .int 0, .ref H_23.size, .int 0, .int 0, .int 0, .ref H_31.size, .ref H_45.size, .int (-1), .int 0, .ref H_62.size, .ref H_72.size, .ref H_82.size, .ref H_92.size, .ref H_102.size, .ref H_112.size, .ref H_128.size, .ref H_144.size, .ref H_154.size, .int 0, .ref H_164.size, .int 0, .int 0, .int 0, .int 0, .int 0, .int 0, .int 0, .int 0, .int 0, .int 0, .ref H_174.size, .int 0, .int 0, .ref H_184.size, .int 0, .ref H_257.size, .int 0, .ref H_268.size, .ref H_279.size, .ref H_294.size, .int 0, .ref H_309.size, .ref H_320.size, .ref H_331.size, .null, .null, .null, .null, .null, .null, .null, .null, .null, .null, .null, .null, .int 0, .int 0, .int 0, .null, .null, .null, .int 0, .null, .null, .null])) H_342 := hraw_342
  have hkp_343 := hkp_336.put hr_342
  clear hh_340
  refine lv_aload_n hx hb dX14_init_267 rfl (lv_at hl 0 rfl) ?_
  refine lv_bipush (v := 12) hx hb dX14_init_268 (by decide) ?_
  clear hsz_333 htt_333
  have hsz_344 := hh_342.2.2.2.2.2.1
  have htt_344 := hh_342.2.2.2.2.2.2.1
  refine j7_newiK hx hb hK hh_342 hB (atype := .boolean) (ty := .boolean) (htw (.arrayClass .boolean) (jWr_11 _ (List.mem_of_getElem? (i := 11) rfl))) rfl rfl (fun _ h => h) hB103 3 rfl (by decide) (by decide) hbs (x := 12) (by decide) (by omega) (fun j => by first | trivial | decide | rfl | exact Or.inl rfl | exact Or.inr (Or.inl (by decide)) | (refine ⟨?_, ?_⟩ <;> decide)) (by rw [hRc]; omega) (by rw [hRs]; omega) dX14_init_270 (fun H_344 hfr_344 hh_344 => ?_)
  have hh_344 : jSt (dC, dI) B base G0 (va_up G_333 H_342.size (some (103, 12))) EX14_init s.heap ((((((((((((((((((((((((((((((((((((0 + 1) + 1) + 1) + 1) + 1) + (1)) + 1) + (1)) + 1) + 1) + 1) + 1) + 1) + 1) + 1) + 1) + 1) + 1) + 1) + 1) + 1) + (6)) + 1) + (6)) + 1) + (6)) + 1) + 1) + 1) + (6)) + 1) + (6)) + 1) + 1) + 1) + 1) ((((((((((((((((((((((((((((((((((((0 + 4000) + 20000) + 100000) + 3300) + 4) + (16)) + 4) + (16)) + 3100) + 3100) + 3100) + 3100) + 3100) + 3100) + 3100) + 3100) + 3100) + 3300) + 20) + 3) + 11) + (1700)) + 11) + (1700)) + 11) + (1700)) + 3100) + 1500) + 11) + (1700)) + 11) + (1700)) + 12) + 12) + 12) + 12) [(H_45.size, 0, 3, .int qc_52), (H_45.size, 0, 0, .ref xa_52), (H_31.size, 0, 3, .int qc_38), (H_31.size, 0, 0, .ref xa_38)] [(H_128.size, 123, 3100, ca 1, (fun _ => 0)), (H_112.size, 122, 3100, ca 1, (fun _ => 0))] [(jFz9, jDZ dC dI G_333), ([(201, 0)], jQc dC dI (ca 4) H_184.size 3 (va_up (va_up (va_up (fun _ => none) 0 (some H_186.size)) 1 (some H_207.size)) 2 (some H_226.size)))] H_344 locs_342 := hh_344
  have hZ_344 : jN14 G_333 (va_up G_333 H_342.size (some (103, 12))) := jN14.new (by decide)
  have hN_344 : (jNk [1, 2, 3, 4, 5, 6, 7, 8, 9, 10, 11, 12, 13]) G_333 (va_up G_333 H_342.size (some (103, 12))) := jNk.new (by decide)
  have hgn_344 : (va_up G_333 H_342.size (some (103, 12))) H_342.size = some (103, 12) := jUp_self
  have hle_344 : jLe G_333 (va_up G_333 H_342.size (some (103, 12))) := jLe.new hh_342.2.1.fresh
  have hke_344 : jKe G_333 (va_up G_333 H_342.size (some (103, 12))) H_342 H_344 := jKe.new hfr_344
  have hsy_344 : s.heap.size ≤ H_342.size := hh_342.1.1
  generalize (va_up G_333 H_342.size (some (103, 12))) = G_344 at hN_344 hgn_344 hle_344 hke_344 hh_344 hZ_344
  clear hh_342
  have hNn_344 : (jNk [1, 2, 3, 4, 5, 6, 7, 8, 9, 10, 11, 12, 13]) G0 G_344 := (hNn_333).tr hN_344
  have hg_345 := hle_344 _ _ hg_334
  have hg_346 := hle_344 _ _ hg_335
  have hkp_347 := hkp_343.tr hke_344
  have hraw_348n := hke_344.nr hraw_342.lt hraw_337n
  have hraw_348 := hraw_342.kept (hke_344.1 _ hraw_342.lt)
  try have hz14_344 : jN14 G0 G_344 := (hz14_333).tr hZ_344
  have hd_349 := jDZ.grow (hh_344.iv 0 rfl) hle_344 hZ_344
  have hh_350 := hh_344.sub (L1 := [(H_45.size, 0, 3, .int qc_52), (H_45.size, 0, 0, .ref xa_52), (H_31.size, 0, 3, .int qc_38), (H_31.size, 0, 0, .ref xa_38)]) [0, 1, 2, 3] rfl (M1 := [(H_128.size, 123, 3100, ca 1, (fun _ => 0)), (H_112.size, 122, 3100, ca 1, (fun _ => 0))]) [0, 1] rfl (I1 := [([(201, 0)], jQc dC dI (ca 4) H_184.size 3 (va_up (va_up (va_up (fun _ => none) 0 (some H_186.size)) 1 (some H_207.size)) 2 (some H_226.size)))]) [1] rfl
  clear hh_344
  have hh_351 := hh_350.addI (jDZ.ie hd_349)
  clear hh_350
  refine j7_putRF hx hb hown hK hh_351 hB hAp hraw_348 hraw_348n hbr0 (C := RX14) (T := TX14) (N := 74) rfl (i := 52) (by decide) (Nat.le_of_ble_eq_true rfl) hly_16_52 rfl hin2 rfl hlk_100 (ty := (.array .boolean)) (v := .ref H_342.size) (by decide +kernel) rfl rfl dX14_init_272 (fun H_353 locs_353 hraw_353 hr_353 hh_353 => ?_)
  have hraw_353 : va_at (dC, dI) vwCl (r0, .inr (16, [.ref s.heap.size, .int 0, .ref H_7.size, .int 0, .int 0, .ref H_15.size, .int 0, .int 0, .int 0, .ref H_23.size, .int 0, .int 0, .int 0, .ref H_31.size, .ref H_45.size, .int (-1), .int 0, .ref H_62.size, .ref H_72.size, .ref H_82.size, .ref H_92.size, .ref H_102.size, .ref H_112.size, .ref H_128.size, .ref H_144.size, .ref H_154.size, .int 0, .ref H_164.size, .int 0, .int 0, .int 0, .int 0, .int 0, .int 0, .int 0, .int 0, .int 0, .int 0, .ref H_174.size, .int 0, .int 0, .ref H_184.size, .int 0, .ref H_257.size, .int 0, .ref H_268.size, .ref H_279.size, .ref H_294.size, .int 0, .ref H_309.size, .ref H_320.size, .ref H_331.size, .ref H_342.size, .null, .null, .null, .null, .null, .null, .null, .null, .null, .null, .null, .int 0, .int 0, .int 0, .null, .null, .null, .int 0, .null, .null, .null])) H_353 := hraw_353
  have hkp_354 := hkp_347.put hr_353
  clear hh_351
  refine lv_aload_n hx hb dX14_init_275 rfl (lv_at hl 0 rfl) ?_
  refine lv_bipush (v := 12) hx hb dX14_init_276 (by decide) ?_
  clear hsz_344 htt_344
  have hsz_355 := hh_353.2.2.2.2.2.1
  have htt_355 := hh_353.2.2.2.2.2.2.1
  refine j7_newiK hx hb hK hh_353 hB (atype := .int) (ty := .int) (htw (.arrayClass .int) (jWr_3 _ (List.mem_of_getElem? (i := 20) rfl))) rfl rfl (fun _ h => h) hB101 1 rfl (by decide) (by decide) hbs (x := 12) (by decide) (by omega) (fun j => by first | trivial | decide | rfl | exact Or.inl rfl | exact Or.inr (Or.inl (by decide)) | (refine ⟨?_, ?_⟩ <;> decide)) (by rw [hRc]; omega) (by rw [hRs]; omega) dX14_init_278 (fun H_355 hfr_355 hh_355 => ?_)
  have hh_355 : jSt (dC, dI) B base G0 (va_up G_344 H_353.size (some (101, 12))) EX14_init s.heap (((((((((((((((((((((((((((((((((((((0 + 1) + 1) + 1) + 1) + 1) + (1)) + 1) + (1)) + 1) + 1) + 1) + 1) + 1) + 1) + 1) + 1) + 1) + 1) + 1) + 1) + 1) + (6)) + 1) + (6)) + 1) + (6)) + 1) + 1) + 1) + (6)) + 1) + (6)) + 1) + 1) + 1) + 1) + 1) (((((((((((((((((((((((((((((((((((((0 + 4000) + 20000) + 100000) + 3300) + 4) + (16)) + 4) + (16)) + 3100) + 3100) + 3100) + 3100) + 3100) + 3100) + 3100) + 3100) + 3100) + 3300) + 20) + 3) + 11) + (1700)) + 11) + (1700)) + 11) + (1700)) + 3100) + 1500) + 11) + (1700)) + 11) + (1700)) + 12) + 12) + 12) + 12) + 12) [(H_45.size, 0, 3, .int qc_52), (H_45.size, 0, 0, .ref xa_52), (H_31.size, 0, 3, .int qc_38), (H_31.size, 0, 0, .ref xa_38)] [(H_128.size, 123, 3100, ca 1, (fun _ => 0)), (H_112.size, 122, 3100, ca 1, (fun _ => 0))] [(jFz9, jDZ dC dI G_344), ([(201, 0)], jQc dC dI (ca 4) H_184.size 3 (va_up (va_up (va_up (fun _ => none) 0 (some H_186.size)) 1 (some H_207.size)) 2 (some H_226.size)))] H_355 locs_353 := hh_355
  have hZ_355 : jN14 G_344 (va_up G_344 H_353.size (some (101, 12))) := jN14.new (by decide)
  have hN_355 : (jNk [1, 2, 3, 4, 5, 6, 7, 8, 9, 10, 11, 12, 13]) G_344 (va_up G_344 H_353.size (some (101, 12))) := jNk.new (by decide)
  have hgn_355 : (va_up G_344 H_353.size (some (101, 12))) H_353.size = some (101, 12) := jUp_self
  have hle_355 : jLe G_344 (va_up G_344 H_353.size (some (101, 12))) := jLe.new hh_353.2.1.fresh
  have hke_355 : jKe G_344 (va_up G_344 H_353.size (some (101, 12))) H_353 H_355 := jKe.new hfr_355
  have hsy_355 : s.heap.size ≤ H_353.size := hh_353.1.1
  generalize (va_up G_344 H_353.size (some (101, 12))) = G_355 at hN_355 hgn_355 hle_355 hke_355 hh_355 hZ_355
  clear hh_353
  have hNn_355 : (jNk [1, 2, 3, 4, 5, 6, 7, 8, 9, 10, 11, 12, 13]) G0 G_355 := (hNn_344).tr hN_355
  have hg_356 := hle_355 _ _ hg_345
  have hg_357 := hle_355 _ _ hg_346
  have hkp_358 := hkp_354.tr hke_355
  have hraw_359n := hke_355.nr hraw_353.lt hraw_348n
  have hraw_359 := hraw_353.kept (hke_355.1 _ hraw_353.lt)
  try have hz14_355 : jN14 G0 G_355 := (hz14_344).tr hZ_355
  have hd_360 := jDZ.grow (hh_355.iv 0 rfl) hle_355 hZ_355
  have hh_361 := hh_355.sub (L1 := [(H_45.size, 0, 3, .int qc_52), (H_45.size, 0, 0, .ref xa_52), (H_31.size, 0, 3, .int qc_38), (H_31.size, 0, 0, .ref xa_38)]) [0, 1, 2, 3] rfl (M1 := [(H_128.size, 123, 3100, ca 1, (fun _ => 0)), (H_112.size, 122, 3100, ca 1, (fun _ => 0))]) [0, 1] rfl (I1 := [([(201, 0)], jQc dC dI (ca 4) H_184.size 3 (va_up (va_up (va_up (fun _ => none) 0 (some H_186.size)) 1 (some H_207.size)) 2 (some H_226.size)))]) [1] rfl
  clear hh_355
  have hh_362 := hh_361.addI (jDZ.ie hd_360)
  clear hh_361
  refine j7_putRF hx hb hown hK hh_362 hB hAp hraw_359 hraw_359n hbr0 (C := RX14) (T := TX14) (N := 74) rfl (i := 53) (by decide) (Nat.le_of_ble_eq_true rfl) hly_16_53 rfl hin2 rfl hlk_103 (ty := (.array .int)) (v := .ref H_353.size) (by decide +kernel) rfl rfl dX14_init_280 (fun H_364 locs_364 hraw_364 hr_364 hh_364 => ?_)
  have hraw_364 : va_at (dC, dI) vwCl (r0, .inr (16, [.ref s.heap.size, .int 0, .ref H_7.size, .int 0, .int 0, .ref H_15.size, .int 0, .int 0, .int 0, .ref H_23.size, .int 0, .int 0, .int 0, .ref H_31.size, .ref H_45.size, .int (-1), .int 0, .ref H_62.size, .ref H_72.size, .ref H_82.size, .ref H_92.size, .ref H_102.size, .ref H_112.size, .ref H_128.size, .ref H_144.size, .ref H_154.size, .int 0, .ref H_164.size, .int 0, .int 0, .int 0, .int 0, .int 0, .int 0, .int 0, .int 0, .int 0, .int 0, .ref H_174.size, .int 0, .int 0, .ref H_184.size, .int 0, .ref H_257.size, .int 0, .ref H_268.size, .ref H_279.size, .ref H_294.size, .int 0, .ref H_309.size, .ref H_320.size, .ref H_331.size, .ref H_342.size, .ref H_353.size, .null, .null, .null, .null, .null, .null, .null, .null, .null, .null, .int 0, .int 0, .int 0, .null, .null, .null, .int 0, .null, .null, .null])) H_364 := hraw_364
  have hkp_365 := hkp_358.put hr_364
  clear hh_362
  refine lv_aload_n hx hb dX14_init_283 rfl (lv_at hl 0 rfl) ?_
  refine lv_sipush (v := 240) hx hb dX14_init_284 (by decide) ?_
  clear hsz_355 htt_355
  have hsz_366 := hh_364.2.2.2.2.2.1
  have htt_366 := hh_364.2.2.2.2.2.2.1
  refine j7_newiK hx hb hK hh_364 hB (atype := .int) (ty := .int) (htw (.arrayClass .int) (jWr_3 _ (List.mem_of_getElem? (i := 20) rfl))) rfl rfl (fun _ h => h) hB101 1 rfl (by decide) (by decide) hbs (x := 240) (by decide) (by omega) (fun j => by first | trivial | decide | rfl | exact Or.inl rfl | exact Or.inr (Or.inl (by decide)) | (refine ⟨?_, ?_⟩ <;> decide)) (by rw [hRc]; omega) (by rw [hRs]; omega) dX14_init_287 (fun H_366 hfr_366 hh_366 => ?_)
  have hh_366 : jSt (dC, dI) B base G0 (va_up G_355 H_364.size (some (101, 240))) EX14_init s.heap ((((((((((((((((((((((((((((((((((((((0 + 1) + 1) + 1) + 1) + 1) + (1)) + 1) + (1)) + 1) + 1) + 1) + 1) + 1) + 1) + 1) + 1) + 1) + 1) + 1) + 1) + 1) + (6)) + 1) + (6)) + 1) + (6)) + 1) + 1) + 1) + (6)) + 1) + (6)) + 1) + 1) + 1) + 1) + 1) + 1) ((((((((((((((((((((((((((((((((((((((0 + 4000) + 20000) + 100000) + 3300) + 4) + (16)) + 4) + (16)) + 3100) + 3100) + 3100) + 3100) + 3100) + 3100) + 3100) + 3100) + 3100) + 3300) + 20) + 3) + 11) + (1700)) + 11) + (1700)) + 11) + (1700)) + 3100) + 1500) + 11) + (1700)) + 11) + (1700)) + 12) + 12) + 12) + 12) + 12) + 240) [(H_45.size, 0, 3, .int qc_52), (H_45.size, 0, 0, .ref xa_52), (H_31.size, 0, 3, .int qc_38), (H_31.size, 0, 0, .ref xa_38)] [(H_128.size, 123, 3100, ca 1, (fun _ => 0)), (H_112.size, 122, 3100, ca 1, (fun _ => 0))] [(jFz9, jDZ dC dI G_355), ([(201, 0)], jQc dC dI (ca 4) H_184.size 3 (va_up (va_up (va_up (fun _ => none) 0 (some H_186.size)) 1 (some H_207.size)) 2 (some H_226.size)))] H_366 locs_364 := hh_366
  have hZ_366 : jN14 G_355 (va_up G_355 H_364.size (some (101, 240))) := jN14.new (by decide)
  have hN_366 : (jNk [1, 2, 3, 4, 5, 6, 7, 8, 9, 10, 11, 12, 13]) G_355 (va_up G_355 H_364.size (some (101, 240))) := jNk.new (by decide)
  have hgn_366 : (va_up G_355 H_364.size (some (101, 240))) H_364.size = some (101, 240) := jUp_self
  have hle_366 : jLe G_355 (va_up G_355 H_364.size (some (101, 240))) := jLe.new hh_364.2.1.fresh
  have hke_366 : jKe G_355 (va_up G_355 H_364.size (some (101, 240))) H_364 H_366 := jKe.new hfr_366
  have hsy_366 : s.heap.size ≤ H_364.size := hh_364.1.1
  generalize (va_up G_355 H_364.size (some (101, 240))) = G_366 at hN_366 hgn_366 hle_366 hke_366 hh_366 hZ_366
  clear hh_364
  have hNn_366 : (jNk [1, 2, 3, 4, 5, 6, 7, 8, 9, 10, 11, 12, 13]) G0 G_366 := (hNn_355).tr hN_366
  have hg_367 := hle_366 _ _ hg_356
  have hg_368 := hle_366 _ _ hg_357
  have hkp_369 := hkp_365.tr hke_366
  have hraw_370n := hke_366.nr hraw_364.lt hraw_359n
  have hraw_370 := hraw_364.kept (hke_366.1 _ hraw_364.lt)
  try have hz14_366 : jN14 G0 G_366 := (hz14_355).tr hZ_366
  have hd_371 := jDZ.grow (hh_366.iv 0 rfl) hle_366 hZ_366
  have hh_372 := hh_366.sub (L1 := [(H_45.size, 0, 3, .int qc_52), (H_45.size, 0, 0, .ref xa_52), (H_31.size, 0, 3, .int qc_38), (H_31.size, 0, 0, .ref xa_38)]) [0, 1, 2, 3] rfl (M1 := [(H_128.size, 123, 3100, ca 1, (fun _ => 0)), (H_112.size, 122, 3100, ca 1, (fun _ => 0))]) [0, 1] rfl (I1 := [([(201, 0)], jQc dC dI (ca 4) H_184.size 3 (va_up (va_up (va_up (fun _ => none) 0 (some H_186.size)) 1 (some H_207.size)) 2 (some H_226.size)))]) [1] rfl
  clear hh_366
  have hh_373 := hh_372.addI (jDZ.ie hd_371)
  clear hh_372
  refine j7_putRF hx hb hown hK hh_373 hB hAp hraw_370 hraw_370n hbr0 (C := RX14) (T := TX14) (N := 74) rfl (i := 54) (by decide) (Nat.le_of_ble_eq_true rfl) hly_16_54 rfl hin2 rfl hlk_106 (ty := (.array .int)) (v := .ref H_364.size) (by decide +kernel) rfl rfl dX14_init_289 (fun H_375 locs_375 hraw_375 hr_375 hh_375 => ?_)
  have hraw_375 : va_at (dC, dI) vwCl (r0, .inr (16, [.ref s.heap.size, .int 0, .ref H_7.size, .int 0, .int 0, .ref H_15.size, .int 0, .int 0, .int 0, .ref H_23.size, .int 0, .int 0, .int 0, .ref H_31.size, .ref H_45.size, .int (-1), .int 0, .ref H_62.size, .ref H_72.size, .ref H_82.size, .ref H_92.size, .ref H_102.size, .ref H_112.size, .ref H_128.size, .ref H_144.size, .ref H_154.size, .int 0, .ref H_164.size, .int 0, .int 0, .int 0, .int 0, .int 0, .int 0, .int 0, .int 0, .int 0, .int 0, .ref H_174.size, .int 0, .int 0, .ref H_184.size, .int 0, .ref H_257.size, .int 0, .ref H_268.size, .ref H_279.size, .ref H_294.size, .int 0, .ref H_309.size, .ref H_320.size, .ref H_331.size, .ref H_342.size, .ref H_353.size, .ref H_364.size, .null, .null, .null, .null, .null, .null, .null, .null, .null, .int 0, .int 0, .int 0, .null, .null, .null, .int 0, .null, .null, .null])) H_375 := hraw_375
  have hkp_376 := hkp_369.put hr_375
  clear hh_373
  refine lv_aload_n hx hb dX14_init_292 rfl (lv_at hl 0 rfl) ?_
  refine lv_bipush (v := 12) hx hb dX14_init_293 (by decide) ?_
  clear hsz_366 htt_366
  have hsz_377 := hh_375.2.2.2.2.2.1
  have htt_377 := hh_375.2.2.2.2.2.2.1
  refine j7_newiK hx hb hK hh_375 hB (atype := .int) (ty := .int) (htw (.arrayClass .int) (jWr_3 _ (List.mem_of_getElem? (i := 20) rfl))) rfl rfl (fun _ h => h) hB203 1 rfl (by decide) (by decide) hbs (x := 12) (by decide) (by omega) (fun j => by first | trivial | decide | rfl | exact Or.inl rfl | exact Or.inr (Or.inl (by decide)) | (refine ⟨?_, ?_⟩ <;> decide)) (by rw [hRc]; omega) (by rw [hRs]; omega) dX14_init_295 (fun H_377 hfr_377 hh_377 => ?_)
  have hh_377 : jSt (dC, dI) B base G0 (va_up G_366 H_375.size (some (203, 12))) EX14_init s.heap (((((((((((((((((((((((((((((((((((((((0 + 1) + 1) + 1) + 1) + 1) + (1)) + 1) + (1)) + 1) + 1) + 1) + 1) + 1) + 1) + 1) + 1) + 1) + 1) + 1) + 1) + 1) + (6)) + 1) + (6)) + 1) + (6)) + 1) + 1) + 1) + (6)) + 1) + (6)) + 1) + 1) + 1) + 1) + 1) + 1) + 1) (((((((((((((((((((((((((((((((((((((((0 + 4000) + 20000) + 100000) + 3300) + 4) + (16)) + 4) + (16)) + 3100) + 3100) + 3100) + 3100) + 3100) + 3100) + 3100) + 3100) + 3100) + 3300) + 20) + 3) + 11) + (1700)) + 11) + (1700)) + 11) + (1700)) + 3100) + 1500) + 11) + (1700)) + 11) + (1700)) + 12) + 12) + 12) + 12) + 12) + 240) + 12) [(H_45.size, 0, 3, .int qc_52), (H_45.size, 0, 0, .ref xa_52), (H_31.size, 0, 3, .int qc_38), (H_31.size, 0, 0, .ref xa_38)] [(H_128.size, 123, 3100, ca 1, (fun _ => 0)), (H_112.size, 122, 3100, ca 1, (fun _ => 0))] [(jFz9, jDZ dC dI G_366), ([(201, 0)], jQc dC dI (ca 4) H_184.size 3 (va_up (va_up (va_up (fun _ => none) 0 (some H_186.size)) 1 (some H_207.size)) 2 (some H_226.size)))] H_377 locs_375 := hh_377
  have hZ_377 : jN14 G_366 (va_up G_366 H_375.size (some (203, 12))) := jN14.new (by decide)
  have hN_377 : (jNk [1, 2, 3, 4, 5, 6, 7, 8, 9, 10, 11, 12, 13]) G_366 (va_up G_366 H_375.size (some (203, 12))) := jNk.new (by decide)
  have hgn_377 : (va_up G_366 H_375.size (some (203, 12))) H_375.size = some (203, 12) := jUp_self
  have hle_377 : jLe G_366 (va_up G_366 H_375.size (some (203, 12))) := jLe.new hh_375.2.1.fresh
  have hke_377 : jKe G_366 (va_up G_366 H_375.size (some (203, 12))) H_375 H_377 := jKe.new hfr_377
  have hsy_377 : s.heap.size ≤ H_375.size := hh_375.1.1
  generalize (va_up G_366 H_375.size (some (203, 12))) = G_377 at hN_377 hgn_377 hle_377 hke_377 hh_377 hZ_377
  clear hh_375
  have hNn_377 : (jNk [1, 2, 3, 4, 5, 6, 7, 8, 9, 10, 11, 12, 13]) G0 G_377 := (hNn_366).tr hN_377
  have hg_378 := hle_377 _ _ hg_367
  have hg_379 := hle_377 _ _ hg_368
  have hkp_380 := hkp_376.tr hke_377
  have hraw_381n := hke_377.nr hraw_375.lt hraw_370n
  have hraw_381 := hraw_375.kept (hke_377.1 _ hraw_375.lt)
  try have hz14_377 : jN14 G0 G_377 := (hz14_366).tr hZ_377
  have hd_382 := jDZ.grow (hh_377.iv 0 rfl) hle_377 hZ_377
  have hh_383 := hh_377.sub (L1 := [(H_45.size, 0, 3, .int qc_52), (H_45.size, 0, 0, .ref xa_52), (H_31.size, 0, 3, .int qc_38), (H_31.size, 0, 0, .ref xa_38)]) [0, 1, 2, 3] rfl (M1 := [(H_128.size, 123, 3100, ca 1, (fun _ => 0)), (H_112.size, 122, 3100, ca 1, (fun _ => 0))]) [0, 1] rfl (I1 := [([(201, 0)], jQc dC dI (ca 4) H_184.size 3 (va_up (va_up (va_up (fun _ => none) 0 (some H_186.size)) 1 (some H_207.size)) 2 (some H_226.size)))]) [1] rfl
  clear hh_377
  have hh_384 := hh_383.addI (jDZ.ie hd_382)
  clear hh_383
  refine j7_putRF hx hb hown hK hh_384 hB hAp hraw_381 hraw_381n hbr0 (C := RX14) (T := TX14) (N := 74) rfl (i := 55) (by decide) (Nat.le_of_ble_eq_true rfl) hly_16_55 rfl hin2 rfl hlk_109 (ty := (.array .int)) (v := .ref H_375.size) (by decide +kernel) rfl rfl dX14_init_297 (fun H_386 locs_386 hraw_386 hr_386 hh_386 => ?_)
  have hraw_386 : va_at (dC, dI) vwCl (r0, .inr (16, [.ref s.heap.size, .int 0, .ref H_7.size, .int 0, .int 0, .ref H_15.size, .int 0, .int 0, .int 0, .ref H_23.size, .int 0, .int 0, .int 0, .ref H_31.size, .ref H_45.size, .int (-1), .int 0, .ref H_62.size, .ref H_72.size, .ref H_82.size, .ref H_92.size, .ref H_102.size, .ref H_112.size, .ref H_128.size, .ref H_144.size, .ref H_154.size, .int 0, .ref H_164.size, .int 0, .int 0, .int 0, .int 0, .int 0, .int 0, .int 0, .int 0, .int 0, .int 0, .ref H_174.size, .int 0, .int 0, .ref H_184.size, .int 0, .ref H_257.size, .int 0, .ref H_268.size, .ref H_279.size, .ref H_294.size, .int 0, .ref H_309.size, .ref H_320.size, .ref H_331.size, .ref H_342.size, .ref H_353.size, .ref H_364.size, .ref H_375.size, .null, .null, .null, .null, .null, .null, .null, .null, .int 0, .int 0, .int 0, .null, .null, .null, .int 0, .null, .null, .null])) H_386 := hraw_386
  have hkp_387 := hkp_380.put hr_386
  clear hh_384
  refine lv_aload_n hx hb dX14_init_300 rfl (lv_at hl 0 rfl) ?_
  refine lv_ldc hx hb hown hcs_112 dX14_init_301 ?_
  clear hsz_377 htt_377
  have hsz_388 := hh_386.2.2.2.2.2.1
  have htt_388 := hh_386.2.2.2.2.2.2.1
  refine j7_newiK hx hb hK hh_386 hB (atype := .int) (ty := .int) (htw (.arrayClass .int) (jWr_3 _ (List.mem_of_getElem? (i := 20) rfl))) rfl rfl (fun _ h => h) hB101 1 rfl (by decide) (by decide) hbs (x := 37200) (by decide) (by omega) (fun j => by first | trivial | decide | rfl | exact Or.inl rfl | exact Or.inr (Or.inl (by decide)) | (refine ⟨?_, ?_⟩ <;> decide)) (by rw [hRc]; omega) (by rw [hRs]; omega) dX14_init_303 (fun H_388 hfr_388 hh_388 => ?_)
  have hh_388 : jSt (dC, dI) B base G0 (va_up G_377 H_386.size (some (101, 37200))) EX14_init s.heap ((((((((((((((((((((((((((((((((((((((((0 + 1) + 1) + 1) + 1) + 1) + (1)) + 1) + (1)) + 1) + 1) + 1) + 1) + 1) + 1) + 1) + 1) + 1) + 1) + 1) + 1) + 1) + (6)) + 1) + (6)) + 1) + (6)) + 1) + 1) + 1) + (6)) + 1) + (6)) + 1) + 1) + 1) + 1) + 1) + 1) + 1) + 1) ((((((((((((((((((((((((((((((((((((((((0 + 4000) + 20000) + 100000) + 3300) + 4) + (16)) + 4) + (16)) + 3100) + 3100) + 3100) + 3100) + 3100) + 3100) + 3100) + 3100) + 3100) + 3300) + 20) + 3) + 11) + (1700)) + 11) + (1700)) + 11) + (1700)) + 3100) + 1500) + 11) + (1700)) + 11) + (1700)) + 12) + 12) + 12) + 12) + 12) + 240) + 12) + 37200) [(H_45.size, 0, 3, .int qc_52), (H_45.size, 0, 0, .ref xa_52), (H_31.size, 0, 3, .int qc_38), (H_31.size, 0, 0, .ref xa_38)] [(H_128.size, 123, 3100, ca 1, (fun _ => 0)), (H_112.size, 122, 3100, ca 1, (fun _ => 0))] [(jFz9, jDZ dC dI G_377), ([(201, 0)], jQc dC dI (ca 4) H_184.size 3 (va_up (va_up (va_up (fun _ => none) 0 (some H_186.size)) 1 (some H_207.size)) 2 (some H_226.size)))] H_388 locs_386 := hh_388
  have hZ_388 : jN14 G_377 (va_up G_377 H_386.size (some (101, 37200))) := jN14.new (by decide)
  have hN_388 : (jNk [1, 2, 3, 4, 5, 6, 7, 8, 9, 10, 11, 12, 13]) G_377 (va_up G_377 H_386.size (some (101, 37200))) := jNk.new (by decide)
  have hgn_388 : (va_up G_377 H_386.size (some (101, 37200))) H_386.size = some (101, 37200) := jUp_self
  have hle_388 : jLe G_377 (va_up G_377 H_386.size (some (101, 37200))) := jLe.new hh_386.2.1.fresh
  have hke_388 : jKe G_377 (va_up G_377 H_386.size (some (101, 37200))) H_386 H_388 := jKe.new hfr_388
  have hsy_388 : s.heap.size ≤ H_386.size := hh_386.1.1
  generalize (va_up G_377 H_386.size (some (101, 37200))) = G_388 at hN_388 hgn_388 hle_388 hke_388 hh_388 hZ_388
  clear hh_386
  have hNn_388 : (jNk [1, 2, 3, 4, 5, 6, 7, 8, 9, 10, 11, 12, 13]) G0 G_388 := (hNn_377).tr hN_388
  have hg_389 := hle_388 _ _ hg_378
  have hg_390 := hle_388 _ _ hg_379
  have hkp_391 := hkp_387.tr hke_388
  have hraw_392n := hke_388.nr hraw_386.lt hraw_381n
  have hraw_392 := hraw_386.kept (hke_388.1 _ hraw_386.lt)
  try have hz14_388 : jN14 G0 G_388 := (hz14_377).tr hZ_388
  have hd_393 := jDZ.grow (hh_388.iv 0 rfl) hle_388 hZ_388
  have hh_394 := hh_388.sub (L1 := [(H_45.size, 0, 3, .int qc_52), (H_45.size, 0, 0, .ref xa_52), (H_31.size, 0, 3, .int qc_38), (H_31.size, 0, 0, .ref xa_38)]) [0, 1, 2, 3] rfl (M1 := [(H_128.size, 123, 3100, ca 1, (fun _ => 0)), (H_112.size, 122, 3100, ca 1, (fun _ => 0))]) [0, 1] rfl (I1 := [([(201, 0)], jQc dC dI (ca 4) H_184.size 3 (va_up (va_up (va_up (fun _ => none) 0 (some H_186.size)) 1 (some H_207.size)) 2 (some H_226.size)))]) [1] rfl
  clear hh_388
  have hh_395 := hh_394.addI (jDZ.ie hd_393)
  clear hh_394
  refine j7_putRF hx hb hown hK hh_395 hB hAp hraw_392 hraw_392n hbr0 (C := RX14) (T := TX14) (N := 74) rfl (i := 56) (by decide) (Nat.le_of_ble_eq_true rfl) hly_16_56 rfl hin2 rfl hlk_113 (ty := (.array .int)) (v := .ref H_386.size) (by decide +kernel) rfl rfl dX14_init_305 (fun H_397 locs_397 hraw_397 hr_397 hh_397 => ?_)
  have hraw_397 : va_at (dC, dI) vwCl (r0, .inr (16, [.ref s.heap.size, .int 0, .ref H_7.size, .int 0, .int 0, .ref H_15.size, .int 0, .int 0, .int 0, .ref H_23.size, .int 0, .int 0, .int 0, .ref H_31.size, .ref H_45.size, .int (-1), .int 0, .ref H_62.size, .ref H_72.size, .ref H_82.size, .ref H_92.size, .ref H_102.size, .ref H_112.size, .ref H_128.size, .ref H_144.size, .ref H_154.size, .int 0, .ref H_164.size, .int 0, .int 0, .int 0, .int 0, .int 0, .int 0, .int 0, .int 0, .int 0, .int 0, .ref H_174.size, .int 0, .int 0, .ref H_184.size, .int 0, .ref H_257.size, .int 0, .ref H_268.size, .ref H_279.size, .ref H_294.size, .int 0, .ref H_309.size, .ref H_320.size, .ref H_331.size, .ref H_342.size, .ref H_353.size, .ref H_364.size, .ref H_375.size, .ref H_386.size, .null, .null, .null, .null, .null, .null, .null, .int 0, .int 0, .int 0, .null, .null, .null, .int 0, .null, .null, .null])) H_397 := hraw_397
  have hkp_398 := hkp_391.put hr_397
  clear hh_395
  refine lv_aload_n hx hb dX14_init_308 rfl (lv_at hl 0 rfl) ?_
  refine lv_bipush (v := 12) hx hb dX14_init_309 (by decide) ?_
  clear hsz_388 htt_388
  have hsz_399 := hh_397.2.2.2.2.2.1
  have htt_399 := hh_397.2.2.2.2.2.2.1
  refine j7_newiK hx hb hK hh_397 hB (atype := .int) (ty := .int) (htw (.arrayClass .int) (jWr_3 _ (List.mem_of_getElem? (i := 20) rfl))) rfl rfl (fun _ h => h) hB204 1 rfl (by decide) (by decide) hbs (x := 12) (by decide) (by omega) (fun j => by first | trivial | decide | rfl | exact Or.inl rfl | exact Or.inr (Or.inl (by decide)) | (refine ⟨?_, ?_⟩ <;> decide)) (by rw [hRc]; omega) (by rw [hRs]; omega) dX14_init_311 (fun H_399 hfr_399 hh_399 => ?_)
  have hh_399 : jSt (dC, dI) B base G0 (va_up G_388 H_397.size (some (204, 12))) EX14_init s.heap (((((((((((((((((((((((((((((((((((((((((0 + 1) + 1) + 1) + 1) + 1) + (1)) + 1) + (1)) + 1) + 1) + 1) + 1) + 1) + 1) + 1) + 1) + 1) + 1) + 1) + 1) + 1) + (6)) + 1) + (6)) + 1) + (6)) + 1) + 1) + 1) + (6)) + 1) + (6)) + 1) + 1) + 1) + 1) + 1) + 1) + 1) + 1) + 1) (((((((((((((((((((((((((((((((((((((((((0 + 4000) + 20000) + 100000) + 3300) + 4) + (16)) + 4) + (16)) + 3100) + 3100) + 3100) + 3100) + 3100) + 3100) + 3100) + 3100) + 3100) + 3300) + 20) + 3) + 11) + (1700)) + 11) + (1700)) + 11) + (1700)) + 3100) + 1500) + 11) + (1700)) + 11) + (1700)) + 12) + 12) + 12) + 12) + 12) + 240) + 12) + 37200) + 12) [(H_45.size, 0, 3, .int qc_52), (H_45.size, 0, 0, .ref xa_52), (H_31.size, 0, 3, .int qc_38), (H_31.size, 0, 0, .ref xa_38)] [(H_128.size, 123, 3100, ca 1, (fun _ => 0)), (H_112.size, 122, 3100, ca 1, (fun _ => 0))] [(jFz9, jDZ dC dI G_388), ([(201, 0)], jQc dC dI (ca 4) H_184.size 3 (va_up (va_up (va_up (fun _ => none) 0 (some H_186.size)) 1 (some H_207.size)) 2 (some H_226.size)))] H_399 locs_397 := hh_399
  have hZ_399 : jN14 G_388 (va_up G_388 H_397.size (some (204, 12))) := jN14.new (by decide)
  have hN_399 : (jNk [1, 2, 3, 4, 5, 6, 7, 8, 9, 10, 11, 12, 13]) G_388 (va_up G_388 H_397.size (some (204, 12))) := jNk.new (by decide)
  have hgn_399 : (va_up G_388 H_397.size (some (204, 12))) H_397.size = some (204, 12) := jUp_self
  have hle_399 : jLe G_388 (va_up G_388 H_397.size (some (204, 12))) := jLe.new hh_397.2.1.fresh
  have hke_399 : jKe G_388 (va_up G_388 H_397.size (some (204, 12))) H_397 H_399 := jKe.new hfr_399
  have hsy_399 : s.heap.size ≤ H_397.size := hh_397.1.1
  generalize (va_up G_388 H_397.size (some (204, 12))) = G_399 at hN_399 hgn_399 hle_399 hke_399 hh_399 hZ_399
  clear hh_397
  have hNn_399 : (jNk [1, 2, 3, 4, 5, 6, 7, 8, 9, 10, 11, 12, 13]) G0 G_399 := (hNn_388).tr hN_399
  have hg_400 := hle_399 _ _ hg_389
  have hg_401 := hle_399 _ _ hg_390
  have hkp_402 := hkp_398.tr hke_399
  have hraw_403n := hke_399.nr hraw_397.lt hraw_392n
  have hraw_403 := hraw_397.kept (hke_399.1 _ hraw_397.lt)
  try have hz14_399 : jN14 G0 G_399 := (hz14_388).tr hZ_399
  have hd_404 := jDZ.grow (hh_399.iv 0 rfl) hle_399 hZ_399
  have hh_405 := hh_399.sub (L1 := [(H_45.size, 0, 3, .int qc_52), (H_45.size, 0, 0, .ref xa_52), (H_31.size, 0, 3, .int qc_38), (H_31.size, 0, 0, .ref xa_38)]) [0, 1, 2, 3] rfl (M1 := [(H_128.size, 123, 3100, ca 1, (fun _ => 0)), (H_112.size, 122, 3100, ca 1, (fun _ => 0))]) [0, 1] rfl (I1 := [([(201, 0)], jQc dC dI (ca 4) H_184.size 3 (va_up (va_up (va_up (fun _ => none) 0 (some H_186.size)) 1 (some H_207.size)) 2 (some H_226.size)))]) [1] rfl
  clear hh_399
  have hh_406 := hh_405.addI (jDZ.ie hd_404)
  clear hh_405
  refine j7_putRF hx hb hown hK hh_406 hB hAp hraw_403 hraw_403n hbr0 (C := RX14) (T := TX14) (N := 74) rfl (i := 57) (by decide) (Nat.le_of_ble_eq_true rfl) hly_16_57 rfl hin2 rfl hlk_116 (ty := (.array .int)) (v := .ref H_397.size) (by decide +kernel) rfl rfl dX14_init_313 (fun H_408 locs_408 hraw_408 hr_408 hh_408 => ?_)
  have hraw_408 : va_at (dC, dI) vwCl (r0, .inr (16, [.ref s.heap.size, .int 0, .ref H_7.size, .int 0, .int 0, .ref H_15.size, .int 0, .int 0, .int 0, .ref H_23.size, .int 0, .int 0, .int 0, .ref H_31.size, .ref H_45.size, .int (-1), .int 0, .ref H_62.size, .ref H_72.size, .ref H_82.size, .ref H_92.size, .ref H_102.size, .ref H_112.size, .ref H_128.size, .ref H_144.size, .ref H_154.size, .int 0, .ref H_164.size, .int 0, .int 0, .int 0, .int 0, .int 0, .int 0, .int 0, .int 0, .int 0, .int 0, .ref H_174.size, .int 0, .int 0, .ref H_184.size, .int 0, .ref H_257.size, .int 0, .ref H_268.size, .ref H_279.size, .ref H_294.size, .int 0, .ref H_309.size, .ref H_320.size, .ref H_331.size, .ref H_342.size, .ref H_353.size, .ref H_364.size, .ref H_375.size, .ref H_386.size, .ref H_397.size, .null, .null, .null, .null, .null, .null, .int 0, .int 0, .int 0, .null, .null, .null, .int 0, .null, .null, .null])) H_408 := hraw_408
  have hkp_409 := hkp_402.put hr_408
  clear hh_406
  refine lv_aload_n hx hb dX14_init_316 rfl (lv_at hl 0 rfl) ?_
  clear hsz_399 htt_399
  have hsz_410 := hh_408.2.2.2.2.2.1
  have htt_410 := hh_408.2.2.2.2.2.2.1
  refine j7_newo (k := 15) (C := RX13) (T := TX13) (N := 50) (fs := [.null, .null, .null, .null, .null, .int 0, .null, .int 0, .null, .null, .int 0, .int 0, .null, .null, .null, .int 0, .null, .null, .int 0, .int 0, .int 0, .int 0, .null, .null, .null, .null, .null, .null, .null, .null, .int 0, .int 0, .int 0, .int 0, .int 0, .null, .int 0, .null, .int 0, .int 0, .int 0, .int 0, .int 0, .null, .null, .null, .int 0, .null, .null, .int 0]) hx hb htw jWc_wsX130 (fun k => ([(.array .int), (.array .int), (.array .int), (.array .int), (.array .int), .int, (.array .int), .int, (.array .int), (.array .int), .int, .int, (.array .int), (.array .boolean), (.array .int), .int, (.array .int), (.array .int), .boolean, .int, .int, .int, (.array .int), (.array .int), (.array .int), (.array .int), (.array .int), (.array .int), (.array .int), (.array .int), .int, .int, .int, .boolean, .int, (.array .int), .int, (.array .int), .int, .int, .int, .int, .int, (.array .int), (.array .int), (.array .int), .int, (.array .int), (.array .int), .int] : List FieldType).getD k .int) (by decide +kernel) hown (htw (.classLink RX14 119 RX13) (jWr_12 _ (List.mem_of_getElem? (i := 10) rfl))) (htw (.instantiable RX13 50) (jWr_12 _ (List.mem_of_getElem? (i := 11) rfl))) (htw (.initialized RX13) (jWr_12 _ (List.mem_of_getElem? (i := 12) rfl))) hK rfl (fun j hj => by rcases (by omega : j = 0 ∨ j = 1 ∨ j = 2 ∨ j = 3 ∨ j = 4 ∨ j = 5 ∨ j = 6 ∨ j = 7 ∨ j = 8 ∨ j = 9 ∨ j = 10 ∨ j = 11 ∨ j = 12 ∨ j = 13 ∨ j = 14 ∨ j = 15 ∨ j = 16 ∨ j = 17 ∨ j = 18 ∨ j = 19 ∨ j = 20 ∨ j = 21 ∨ j = 22 ∨ j = 23 ∨ j = 24 ∨ j = 25 ∨ j = 26 ∨ j = 27 ∨ j = 28 ∨ j = 29 ∨ j = 30 ∨ j = 31 ∨ j = 32 ∨ j = 33 ∨ j = 34 ∨ j = 35 ∨ j = 36 ∨ j = 37 ∨ j = 38 ∨ j = 39 ∨ j = 40 ∨ j = 41 ∨ j = 42 ∨ j = 43 ∨ j = 44 ∨ j = 45 ∨ j = 46 ∨ j = 47 ∨ j = 48 ∨ j = 49) with rfl | rfl | rfl | rfl | rfl | rfl | rfl | rfl | rfl | rfl | rfl | rfl | rfl | rfl | rfl | rfl | rfl | rfl | rfl | rfl | rfl | rfl | rfl | rfl | rfl | rfl | rfl | rfl | rfl | rfl | rfl | rfl | rfl | rfl | rfl | rfl | rfl | rfl | rfl | rfl | rfl | rfl | rfl | rfl | rfl | rfl | rfl | rfl | rfl | rfl <;> rfl) hh_408 hB (by rw [hRc]; omega) (by rw [hRs]; omega) dX14_init_317 (fun H_410 hraw_410 hfr_410 hnr_410 hh_410 => ?_)
  have hlt_411 := hraw_408.lt
  have hke_410 : jKe G_399 G_399 H_408 H_410 := jKe.raw hfr_410
  have hbr_410 : base ≤ H_408.size := Nat.le_trans hbs hh_408.1.1
  have hsy_410 : s.heap.size ≤ H_408.size := hh_408.1.1
  clear hh_408
  have hkp_412 := hkp_409.tr hke_410
  have hraw_413n := hke_410.nr hraw_408.lt hraw_403n
  have hraw_413 := hraw_408.kept (hke_410.1 _ hraw_408.lt)
  have hne_414 : r0 ≠ H_408.size := Nat.ne_of_lt hlt_411
  refine lv_dup hx hb dX14_init_320 rfl ?_
  clear hsz_410 htt_410
  have hsz_415 := hh_410.2.2.2.2.2.1
  have htt_415 := hh_410.2.2.2.2.2.2.1
  refine W.room (fun hrc_415 hrs_415 => ?_)
  refine va_callv (A0 := jA base) (H0 := s.heap) (va_runIN (As := []) (rest := [.ref H_408.size, .ref r0]) ⟨hx, hb, hml, hown, hts⟩ (uX13_init l dC dI ca base B hB hAp hB15 hB101 hB103 hB150 hB151 hB152 hB153 hB154 hB155 hB156 hB157 hB158 hB159 hB160 hB161 hB162 hB163 hB164 hB165 hB166 hB167 hB168 hB169 G_399 H_410 H_408.size LC LS) ⟨va_cnB 0 hts (jgW (jWr_14 _ (List.mem_of_getElem? (i := 6) rfl))) rfl rfl rfl (hG.2.2.1 RX14 121 yX13_init "ProofServerModel" (List.mem_of_getElem? (i := 1774) (by decide +kernel))) (htw (.initialized RX13) (jWr_12 _ (List.mem_of_getElem? (i := 12) rfl))) (by decide +kernel) ⟨by rw [← hR]; exact Nat.le_of_ble_eq_true rfl, by rw [← hR]; exact Nat.le_of_ble_eq_true rfl⟩, rfl, htw (.instanceMethod yX13_init) (jWr_14 _ (List.mem_of_getElem? (i := 5) rfl))⟩ ⟨fun a U g mk q => by obtain ⟨q0, q1, q2, qK, q10, q11, q12, q13, q14⟩ := q; exact ⟨q0, q1, q2, jG.calling g mk a qK, q10, q11, q12, q13, q14⟩, fun U hU hW => ⟨rfl, hU, hh_410.2.1, hG.step hW hU hh_410.1, hraw_410, hnr_410, hbr_410, jP.nil, (by omega), (by omega), trivial⟩⟩ rfl rfl hl.1 rfl (lv_room (Nat.le_of_ble_eq_true rfl)) dX14_init_321 ⟨by rw [hRc]; omega, by rw [hRs]; omega⟩) hh_410.1 (fun q _ h => h) (fun q h => h) (fun u_415 t_415 H_415 locs_415 ht_415 hvm_415 hr_416 hb_415 hz_415 hk_415 hS_415 => ?_)
  rw [ht_415] at hb_415
  obtain ⟨G_415, rfl⟩ : ∃ z, z = u_415 := ⟨_, rfl⟩
  try simp only at hb_415
  obtain ⟨⟨hb_4151, hb_4152, hb_4153, hb_4154, hb_4155, hb_4156⟩, hN_415, hgc_415, hbX_415⟩ := hb_415
  have hZ_415 : jN14 G_399 G_415 := fun a h => hN_415 a 14 0 h rfl
  try have hz14_415 : jN14 G0 G_415 := (hz14_399).tr hZ_415
  have hN_415 : (jNk [1, 2, 3, 4, 5, 6, 7, 8, 9, 10, 11, 12, 13]) G_399 G_415 := hN_415.sub (by decide)
  have hh_415 : jSt (dC, dI) B base G0 G_415 EX14_init s.heap (((((((((((((((((((((((((((((((((((((((((((0 + 1) + 1) + 1) + 1) + 1) + (1)) + 1) + (1)) + 1) + 1) + 1) + 1) + 1) + 1) + 1) + 1) + 1) + 1) + 1) + 1) + 1) + (6)) + 1) + (6)) + 1) + (6)) + 1) + 1) + 1) + (6)) + 1) + (6)) + 1) + 1) + 1) + 1) + 1) + 1) + 1) + 1) + 1) + 1) + (28)) (((((((((((((((((((((((((((((((((((((((((((0 + 4000) + 20000) + 100000) + 3300) + 4) + (16)) + 4) + (16)) + 3100) + 3100) + 3100) + 3100) + 3100) + 3100) + 3100) + 3100) + 3100) + 3300) + 20) + 3) + 11) + (1700)) + 11) + (1700)) + 11) + (1700)) + 3100) + 1500) + 11) + (1700)) + 11) + (1700)) + 12) + 12) + 12) + 12) + 12) + 240) + 12) + 37200) + 12) + 50) + (720031)) [(H_45.size, 0, 3, .int qc_52), (H_45.size, 0, 0, .ref xa_52), (H_31.size, 0, 3, .int qc_38), (H_31.size, 0, 0, .ref xa_38)] [(H_128.size, 123, 3100, ca 1, (fun _ => 0)), (H_112.size, 122, 3100, ca 1, (fun _ => 0))] [(jFz9, jDZ dC dI G_399), ([(201, 0)], jQc dC dI (ca 4) H_184.size 3 (va_up (va_up (va_up (fun _ => none) 0 (some H_186.size)) 1 (some H_207.size)) 2 (some H_226.size)))] H_415 locs_415 := (hh_410.callG hb_4151 hb_4152 hb_4153 hb_4154 hb_4155 hS_415 rfl (L1 := [(H_45.size, 0, 3, .int qc_52), (H_45.size, 0, 0, .ref xa_52), (H_31.size, 0, 3, .int qc_38), (H_31.size, 0, 0, .ref xa_38)]) [0, 1, 2, 3] rfl rfl (M1 := [(H_128.size, 123, 3100, ca 1, (fun _ => 0)), (H_112.size, 122, 3100, ca 1, (fun _ => 0))]) [0, 1] rfl rfl (I1 := [(jFz9, jDZ dC dI G_399), ([(201, 0)], jQc dC dI (ca 4) H_184.size 3 (va_up (va_up (va_up (fun _ => none) 0 (some H_186.size)) 1 (some H_207.size)) 2 (some H_226.size)))]) [0, 1] rfl rfl).more hb_4156
  have hNn_415 : (jNk [1, 2, 3, 4, 5, 6, 7, 8, 9, 10, 11, 12, 13]) G0 G_415 := (hNn_399).tr hN_415
  have hg_417 := hb_4152 _ _ hg_400
  have hg_418 := hb_4152 _ _ hg_401
  have hd_419 := jDZ.grow (hh_415.iv 0 rfl) hb_4152 hZ_415
  have hh_420 := hh_415.sub (L1 := [(H_45.size, 0, 3, .int qc_52), (H_45.size, 0, 0, .ref xa_52), (H_31.size, 0, 3, .int qc_38), (H_31.size, 0, 0, .ref xa_38)]) [0, 1, 2, 3] rfl (M1 := [(H_128.size, 123, 3100, ca 1, (fun _ => 0)), (H_112.size, 122, 3100, ca 1, (fun _ => 0))]) [0, 1] rfl (I1 := [([(201, 0)], jQc dC dI (ca 4) H_184.size 3 (va_up (va_up (va_up (fun _ => none) 0 (some H_186.size)) 1 (some H_207.size)) 2 (some H_226.size)))]) [1] rfl
  clear hh_415
  have hh_421 := hh_420.addI (jDZ.ie hd_419)
  clear hh_420
  try simp only at hr_416
  have hkp_423 := hkp_412.in hbX_415 hsy_410
  have hraw_424x := hbX_415.ke hraw_413.lt hne_414 hraw_413n
  clear hne_414
  have hraw_424 := hraw_413.kept hraw_424x.1
  refine j7_putRF hx hb hown hK hh_421 hB hAp hraw_424 hraw_424x.2 hbr0 (C := RX14) (T := TX14) (N := 74) rfl (i := 58) (by decide) (Nat.le_of_ble_eq_true rfl) hly_16_58 rfl hin2 rfl hlk_122 (ty := (.object "ProofServerModel$Kernel")) (v := .ref H_408.size) (by decide +kernel) rfl rfl dX14_init_324 (fun H_425 locs_425 hraw_425 hr_425 hh_425 => ?_)
  have hraw_425 : va_at (dC, dI) vwCl (r0, .inr (16, [.ref s.heap.size, .int 0, .ref H_7.size, .int 0, .int 0, .ref H_15.size, .int 0, .int 0, .int 0, .ref H_23.size, .int 0, .int 0, .int 0, .ref H_31.size, .ref H_45.size, .int (-1), .int 0, .ref H_62.size, .ref H_72.size, .ref H_82.size, .ref H_92.size, .ref H_102.size, .ref H_112.size, .ref H_128.size, .ref H_144.size, .ref H_154.size, .int 0, .ref H_164.size, .int 0, .int 0, .int 0, .int 0, .int 0, .int 0, .int 0, .int 0, .int 0, .int 0, .ref H_174.size, .int 0, .int 0, .ref H_184.size, .int 0, .ref H_257.size, .int 0, .ref H_268.size, .ref H_279.size, .ref H_294.size, .int 0, .ref H_309.size, .ref H_320.size, .ref H_331.size, .ref H_342.size, .ref H_353.size, .ref H_364.size, .ref H_375.size, .ref H_386.size, .ref H_397.size, .ref H_408.size, .null, .null, .null, .null, .null, .int 0, .int 0, .int 0, .null, .null, .null, .int 0, .null, .null, .null])) H_425 := hraw_425
  have hkp_426 := hkp_423.put hr_425
  clear hh_421
  refine lv_aload_n hx hb dX14_init_327 rfl (lv_at hl 0 rfl) ?_
  refine lv_sipush (v := 3100) hx hb dX14_init_328 (by decide) ?_
  clear hsz_415 htt_415 hrc_415 hrs_415
  (try clear hb_4154); (try clear hb_4155); (try clear hz_415)
  have hsz_427 := hh_425.2.2.2.2.2.1
  have htt_427 := hh_425.2.2.2.2.2.2.1
  refine j7_newiK hx hb hK hh_425 hB (atype := .int) (ty := .int) (htw (.arrayClass .int) (jWr_3 _ (List.mem_of_getElem? (i := 20) rfl))) rfl rfl (fun _ h => h) hB101 1 rfl (by decide) (by decide) hbs (x := 3100) (by decide) (by omega) (fun j => by first | trivial | decide | rfl | exact Or.inl rfl | exact Or.inr (Or.inl (by decide)) | (refine ⟨?_, ?_⟩ <;> decide)) (by rw [hRc]; omega) (by rw [hRs]; omega) dX14_init_331 (fun H_427 hfr_427 hh_427 => ?_)
  have hh_427 : jSt (dC, dI) B base G0 (va_up G_415 H_425.size (some (101, 3100))) EX14_init s.heap ((((((((((((((((((((((((((((((((((((((((((((0 + 1) + 1) + 1) + 1) + 1) + (1)) + 1) + (1)) + 1) + 1) + 1) + 1) + 1) + 1) + 1) + 1) + 1) + 1) + 1) + 1) + 1) + (6)) + 1) + (6)) + 1) + (6)) + 1) + 1) + 1) + (6)) + 1) + (6)) + 1) + 1) + 1) + 1) + 1) + 1) + 1) + 1) + 1) + 1) + (28)) + 1) ((((((((((((((((((((((((((((((((((((((((((((0 + 4000) + 20000) + 100000) + 3300) + 4) + (16)) + 4) + (16)) + 3100) + 3100) + 3100) + 3100) + 3100) + 3100) + 3100) + 3100) + 3100) + 3300) + 20) + 3) + 11) + (1700)) + 11) + (1700)) + 11) + (1700)) + 3100) + 1500) + 11) + (1700)) + 11) + (1700)) + 12) + 12) + 12) + 12) + 12) + 240) + 12) + 37200) + 12) + 50) + (720031)) + 3100) [(H_45.size, 0, 3, .int qc_52), (H_45.size, 0, 0, .ref xa_52), (H_31.size, 0, 3, .int qc_38), (H_31.size, 0, 0, .ref xa_38)] [(H_128.size, 123, 3100, ca 1, (fun _ => 0)), (H_112.size, 122, 3100, ca 1, (fun _ => 0))] [(jFz9, jDZ dC dI G_415), ([(201, 0)], jQc dC dI (ca 4) H_184.size 3 (va_up (va_up (va_up (fun _ => none) 0 (some H_186.size)) 1 (some H_207.size)) 2 (some H_226.size)))] H_427 locs_425 := hh_427
  have hZ_427 : jN14 G_415 (va_up G_415 H_425.size (some (101, 3100))) := jN14.new (by decide)
  have hN_427 : (jNk [1, 2, 3, 4, 5, 6, 7, 8, 9, 10, 11, 12, 13]) G_415 (va_up G_415 H_425.size (some (101, 3100))) := jNk.new (by decide)
  have hgn_427 : (va_up G_415 H_425.size (some (101, 3100))) H_425.size = some (101, 3100) := jUp_self
  have hle_427 : jLe G_415 (va_up G_415 H_425.size (some (101, 3100))) := jLe.new hh_425.2.1.fresh
  have hke_427 : jKe G_415 (va_up G_415 H_425.size (some (101, 3100))) H_425 H_427 := jKe.new hfr_427
  have hsy_427 : s.heap.size ≤ H_425.size := hh_425.1.1
  generalize (va_up G_415 H_425.size (some (101, 3100))) = G_427 at hN_427 hgn_427 hle_427 hke_427 hh_427 hZ_427
  clear hh_425
  have hNn_427 : (jNk [1, 2, 3, 4, 5, 6, 7, 8, 9, 10, 11, 12, 13]) G0 G_427 := (hNn_415).tr hN_427
  have hg_428 := hle_427 _ _ hg_417
  have hg_429 := hle_427 _ _ hg_418
  have hkp_430 := hkp_426.tr hke_427
  have hraw_431n := hke_427.nr hraw_425.lt hraw_424x.2
  have hraw_431 := hraw_425.kept (hke_427.1 _ hraw_425.lt)
  try have hz14_427 : jN14 G0 G_427 := (hz14_415).tr hZ_427
  have hd_432 := jDZ.grow (hh_427.iv 0 rfl) hle_427 hZ_427
  have hh_433 := hh_427.sub (L1 := [(H_45.size, 0, 3, .int qc_52), (H_45.size, 0, 0, .ref xa_52), (H_31.size, 0, 3, .int qc_38), (H_31.size, 0, 0, .ref xa_38)]) [0, 1, 2, 3] rfl (M1 := [(H_128.size, 123, 3100, ca 1, (fun _ => 0)), (H_112.size, 122, 3100, ca 1, (fun _ => 0))]) [0, 1] rfl (I1 := [([(201, 0)], jQc dC dI (ca 4) H_184.size 3 (va_up (va_up (va_up (fun _ => none) 0 (some H_186.size)) 1 (some H_207.size)) 2 (some H_226.size)))]) [1] rfl
  clear hh_427
  have hh_434 := hh_433.addI (jDZ.ie hd_432)
  clear hh_433
  refine j7_putRF hx hb hown hK hh_434 hB hAp hraw_431 hraw_431n hbr0 (C := RX14) (T := TX14) (N := 74) rfl (i := 59) (by decide) (Nat.le_of_ble_eq_true rfl) hly_16_59 rfl hin2 rfl hlk_126 (ty := (.array .int)) (v := .ref H_425.size) (by decide +kernel) rfl rfl dX14_init_333 (fun H_436 locs_436 hraw_436 hr_436 hh_436 => ?_)
  have hraw_436 : va_at (dC, dI) vwCl (r0, .inr (16, [.ref s.heap.size, .int 0, .ref H_7.size, .int 0, .int 0, .ref H_15.size, .int 0, .int 0, .int 0, .ref H_23.size, .int 0, .int 0, .int 0, .ref H_31.size, .ref H_45.size, .int (-1), .int 0, .ref H_62.size, .ref H_72.size, .ref H_82.size, .ref H_92.size, .ref H_102.size, .ref H_112.size, .ref H_128.size, .ref H_144.size, .ref H_154.size, .int 0, .ref H_164.size, .int 0, .int 0, .int 0, .int 0, .int 0, .int 0, .int 0, .int 0, .int 0, .int 0, .ref H_174.size, .int 0, .int 0, .ref H_184.size, .int 0, .ref H_257.size, .int 0, .ref H_268.size, .ref H_279.size, .ref H_294.size, .int 0, .ref H_309.size, .ref H_320.size, .ref H_331.size, .ref H_342.size, .ref H_353.size, .ref H_364.size, .ref H_375.size, .ref H_386.size, .ref H_397.size, .ref H_408.size, .ref H_425.size, .null, .null, .null, .null, .int 0, .int 0, .int 0, .null, .null, .null, .int 0, .null, .null, .null])) H_436 := hraw_436
  have hkp_437 := hkp_430.put hr_436
  clear hh_434
  refine lv_aload_n hx hb dX14_init_336 rfl (lv_at hl 0 rfl) ?_
  refine lv_iconst (v := 2) hx hb dX14_init_337 (by decide) ?_
  clear hsz_427 htt_427
  have hsz_438 := hh_436.2.2.2.2.2.1
  have htt_438 := hh_436.2.2.2.2.2.2.1
  have hsy_438 : s.heap.size ≤ H_436.size := hh_436.1.1
  refine j7_newqK hx hb hown (htw (.classLink RX14 71 RX12) (jWr_11 _ (List.mem_of_getElem? (i := 16) rfl))) hK6.1 hK2 hh_436 hB hB208 0 rfl (by decide) hbs (x := 2) (by decide) (by omega) (fun _ => Or.inl rfl) (by rw [hRc]; omega) (by rw [hRs]; omega) dX14_init_338 (fun H_438 hfr_438 hh_438 hqn_438 => ?_)
  have hh_438 : jSt (dC, dI) B base G0 (va_up G_427 H_436.size (some (208, 2))) EX14_init s.heap (((((((((((((((((((((((((((((((((((((((((((((0 + 1) + 1) + 1) + 1) + 1) + (1)) + 1) + (1)) + 1) + 1) + 1) + 1) + 1) + 1) + 1) + 1) + 1) + 1) + 1) + 1) + 1) + (6)) + 1) + (6)) + 1) + (6)) + 1) + 1) + 1) + (6)) + 1) + (6)) + 1) + 1) + 1) + 1) + 1) + 1) + 1) + 1) + 1) + 1) + (28)) + 1) + 1) (((((((((((((((((((((((((((((((((((((((((((((0 + 4000) + 20000) + 100000) + 3300) + 4) + (16)) + 4) + (16)) + 3100) + 3100) + 3100) + 3100) + 3100) + 3100) + 3100) + 3100) + 3100) + 3300) + 20) + 3) + 11) + (1700)) + 11) + (1700)) + 11) + (1700)) + 3100) + 1500) + 11) + (1700)) + 11) + (1700)) + 12) + 12) + 12) + 12) + 12) + 240) + 12) + 37200) + 12) + 50) + (720031)) + 3100) + 2) [(H_45.size, 0, 3, .int qc_52), (H_45.size, 0, 0, .ref xa_52), (H_31.size, 0, 3, .int qc_38), (H_31.size, 0, 0, .ref xa_38)] [(H_128.size, 123, 3100, ca 1, (fun _ => 0)), (H_112.size, 122, 3100, ca 1, (fun _ => 0))] [(jFz9, jDZ dC dI G_427), ([(201, 0)], jQc dC dI (ca 4) H_184.size 3 (va_up (va_up (va_up (fun _ => none) 0 (some H_186.size)) 1 (some H_207.size)) 2 (some H_226.size)))] H_438 locs_436 := hh_438
  have hZ_438 : jN14 G_427 (va_up G_427 H_436.size (some (208, 2))) := jN14.new (by decide)
  have hN_438 : (jNk [1, 2, 3, 4, 5, 6, 7, 8, 9, 10, 11, 12, 13]) G_427 (va_up G_427 H_436.size (some (208, 2))) := jNk.new (by decide)
  have hgn_438 : (va_up G_427 H_436.size (some (208, 2))) H_436.size = some (208, 2) := jUp_self
  have hle_438 : jLe G_427 (va_up G_427 H_436.size (some (208, 2))) := jLe.new hh_436.2.1.fresh
  have hke_438 : jKe G_427 (va_up G_427 H_436.size (some (208, 2))) H_436 H_438 := jKe.new hfr_438
  have hsy_438 : s.heap.size ≤ H_436.size := hh_436.1.1
  generalize (va_up G_427 H_436.size (some (208, 2))) = G_438 at hN_438 hgn_438 hle_438 hke_438 hh_438 hZ_438
  clear hh_436
  have hNn_438 : (jNk [1, 2, 3, 4, 5, 6, 7, 8, 9, 10, 11, 12, 13]) G0 G_438 := (hNn_427).tr hN_438
  have hg_439 := hle_438 _ _ hg_428
  have hg_440 := hle_438 _ _ hg_429
  have hkp_441 := hkp_437.tr hke_438
  have hraw_442n := hke_438.nr hraw_436.lt hraw_431n
  have hraw_442 := hraw_436.kept (hke_438.1 _ hraw_436.lt)
  try have hz14_438 : jN14 G0 G_438 := (hz14_427).tr hZ_438
  have hd_443 := jDZ.grow (hh_438.iv 0 rfl) hle_438 hZ_438
  have hh_444 := hh_438.sub (L1 := [(H_45.size, 0, 3, .int qc_52), (H_45.size, 0, 0, .ref xa_52), (H_31.size, 0, 3, .int qc_38), (H_31.size, 0, 0, .ref xa_38)]) [0, 1, 2, 3] rfl (M1 := [(H_128.size, 123, 3100, ca 1, (fun _ => 0)), (H_112.size, 122, 3100, ca 1, (fun _ => 0))]) [0, 1] rfl (I1 := [([(201, 0)], jQc dC dI (ca 4) H_184.size 3 (va_up (va_up (va_up (fun _ => none) 0 (some H_186.size)) 1 (some H_207.size)) 2 (some H_226.size)))]) [1] rfl
  clear hh_438
  have hh_445 := hh_444.addI (jDZ.ie hd_443)
  clear hh_444
  have hh_447 := hh_445.addI (jQc.ie hqn_438 hgn_438 (by decide) (by decide))
  clear hh_445
  refine j7_putRF hx hb hown hK hh_447 hB hAp hraw_442 hraw_442n hbr0 (C := RX14) (T := TX14) (N := 74) rfl (i := 60) (by decide) (Nat.le_of_ble_eq_true rfl) hly_16_60 rfl hin2 rfl hlk_129 (ty := (.array (.object "ProofServerModel$Document"))) (v := .ref H_436.size) (by decide +kernel) rfl rfl dX14_init_341 (fun H_448 locs_448 hraw_448 hr_448 hh_448 => ?_)
  have hraw_448 : va_at (dC, dI) vwCl (r0, .inr (16, [.ref s.heap.size, .int 0, .ref H_7.size, .int 0, .int 0, .ref H_15.size, .int 0, .int 0, .int 0, .ref H_23.size, .int 0, .int 0, .int 0, .ref H_31.size, .ref H_45.size, .int (-1), .int 0, .ref H_62.size, .ref H_72.size, .ref H_82.size, .ref H_92.size, .ref H_102.size, .ref H_112.size, .ref H_128.size, .ref H_144.size, .ref H_154.size, .int 0, .ref H_164.size, .int 0, .int 0, .int 0, .int 0, .int 0, .int 0, .int 0, .int 0, .int 0, .int 0, .ref H_174.size, .int 0, .int 0, .ref H_184.size, .int 0, .ref H_257.size, .int 0, .ref H_268.size, .ref H_279.size, .ref H_294.size, .int 0, .ref H_309.size, .ref H_320.size, .ref H_331.size, .ref H_342.size, .ref H_353.size, .ref H_364.size, .ref H_375.size, .ref H_386.size, .ref H_397.size, .ref H_408.size, .ref H_425.size, .ref H_436.size, .null, .null, .null, .int 0, .int 0, .int 0, .null, .null, .null, .int 0, .null, .null, .null])) H_448 := hraw_448
  have hkp_449 := hkp_441.put hr_448
  clear hh_447
  refine lv_aload_n hx hb dX14_init_344 rfl (lv_at hl 0 rfl) ?_
  refine lv_iconst (v := 2) hx hb dX14_init_345 (by decide) ?_
  clear hsz_438 htt_438
  have hsz_450 := hh_448.2.2.2.2.2.1
  have htt_450 := hh_448.2.2.2.2.2.2.1
  refine j7_newiK hx hb hK hh_448 hB (atype := .int) (ty := .int) (htw (.arrayClass .int) (jWr_3 _ (List.mem_of_getElem? (i := 20) rfl))) rfl rfl (fun _ h => h) hB207 1 rfl (by decide) (by decide) hbs (x := 2) (by decide) (by omega) (fun j => by first | trivial | decide | rfl | exact Or.inl rfl | exact Or.inr (Or.inl (by decide)) | (refine ⟨?_, ?_⟩ <;> decide)) (by rw [hRc]; omega) (by rw [hRs]; omega) dX14_init_346 (fun H_450 hfr_450 hh_450 => ?_)
  have hh_450 : jSt (dC, dI) B base G0 (va_up G_438 H_448.size (some (207, 2))) EX14_init s.heap ((((((((((((((((((((((((((((((((((((((((((((((0 + 1) + 1) + 1) + 1) + 1) + (1)) + 1) + (1)) + 1) + 1) + 1) + 1) + 1) + 1) + 1) + 1) + 1) + 1) + 1) + 1) + 1) + (6)) + 1) + (6)) + 1) + (6)) + 1) + 1) + 1) + (6)) + 1) + (6)) + 1) + 1) + 1) + 1) + 1) + 1) + 1) + 1) + 1) + 1) + (28)) + 1) + 1) + 1) ((((((((((((((((((((((((((((((((((((((((((((((0 + 4000) + 20000) + 100000) + 3300) + 4) + (16)) + 4) + (16)) + 3100) + 3100) + 3100) + 3100) + 3100) + 3100) + 3100) + 3100) + 3100) + 3300) + 20) + 3) + 11) + (1700)) + 11) + (1700)) + 11) + (1700)) + 3100) + 1500) + 11) + (1700)) + 11) + (1700)) + 12) + 12) + 12) + 12) + 12) + 240) + 12) + 37200) + 12) + 50) + (720031)) + 3100) + 2) + 2) [(H_45.size, 0, 3, .int qc_52), (H_45.size, 0, 0, .ref xa_52), (H_31.size, 0, 3, .int qc_38), (H_31.size, 0, 0, .ref xa_38)] [(H_128.size, 123, 3100, ca 1, (fun _ => 0)), (H_112.size, 122, 3100, ca 1, (fun _ => 0))] [([(208, 0)], jQc dC dI (ca 4) H_436.size 2 (fun _ => none)), (jFz9, jDZ dC dI G_438), ([(201, 0)], jQc dC dI (ca 4) H_184.size 3 (va_up (va_up (va_up (fun _ => none) 0 (some H_186.size)) 1 (some H_207.size)) 2 (some H_226.size)))] H_450 locs_448 := hh_450
  have hZ_450 : jN14 G_438 (va_up G_438 H_448.size (some (207, 2))) := jN14.new (by decide)
  have hN_450 : (jNk [1, 2, 3, 4, 5, 6, 7, 8, 9, 10, 11, 12, 13]) G_438 (va_up G_438 H_448.size (some (207, 2))) := jNk.new (by decide)
  have hgn_450 : (va_up G_438 H_448.size (some (207, 2))) H_448.size = some (207, 2) := jUp_self
  have hle_450 : jLe G_438 (va_up G_438 H_448.size (some (207, 2))) := jLe.new hh_448.2.1.fresh
  have hke_450 : jKe G_438 (va_up G_438 H_448.size (some (207, 2))) H_448 H_450 := jKe.new hfr_450
  have hsy_450 : s.heap.size ≤ H_448.size := hh_448.1.1
  generalize (va_up G_438 H_448.size (some (207, 2))) = G_450 at hN_450 hgn_450 hle_450 hke_450 hh_450 hZ_450
  clear hh_448
  have hNn_450 : (jNk [1, 2, 3, 4, 5, 6, 7, 8, 9, 10, 11, 12, 13]) G0 G_450 := (hNn_438).tr hN_450
  have hg_451 := hle_450 _ _ hg_439
  have hg_452 := hle_450 _ _ hg_440
  have hkp_453 := hkp_449.tr hke_450
  have hraw_454n := hke_450.nr hraw_448.lt hraw_442n
  have hraw_454 := hraw_448.kept (hke_450.1 _ hraw_448.lt)
  try have hz14_450 : jN14 G0 G_450 := (hz14_438).tr hZ_450
  have hd_456 := jDZ.grow (hh_450.iv 1 rfl) hle_450 hZ_450
  have hh_457 := hh_450.sub (L1 := [(H_45.size, 0, 3, .int qc_52), (H_45.size, 0, 0, .ref xa_52), (H_31.size, 0, 3, .int qc_38), (H_31.size, 0, 0, .ref xa_38)]) [0, 1, 2, 3] rfl (M1 := [(H_128.size, 123, 3100, ca 1, (fun _ => 0)), (H_112.size, 122, 3100, ca 1, (fun _ => 0))]) [0, 1] rfl (I1 := [([(208, 0)], jQc dC dI (ca 4) H_436.size 2 (fun _ => none)), ([(201, 0)], jQc dC dI (ca 4) H_184.size 3 (va_up (va_up (va_up (fun _ => none) 0 (some H_186.size)) 1 (some H_207.size)) 2 (some H_226.size)))]) [0, 2] rfl
  clear hh_450
  have hh_458 := hh_457.addI (jDZ.ie hd_456)
  clear hh_457
  refine j7_putRF hx hb hown hK hh_458 hB hAp hraw_454 hraw_454n hbr0 (C := RX14) (T := TX14) (N := 74) rfl (i := 61) (by decide) (Nat.le_of_ble_eq_true rfl) hly_16_61 rfl hin2 rfl hlk_132 (ty := (.array .int)) (v := .ref H_448.size) (by decide +kernel) rfl rfl dX14_init_348 (fun H_460 locs_460 hraw_460 hr_460 hh_460 => ?_)
  have hraw_460 : va_at (dC, dI) vwCl (r0, .inr (16, [.ref s.heap.size, .int 0, .ref H_7.size, .int 0, .int 0, .ref H_15.size, .int 0, .int 0, .int 0, .ref H_23.size, .int 0, .int 0, .int 0, .ref H_31.size, .ref H_45.size, .int (-1), .int 0, .ref H_62.size, .ref H_72.size, .ref H_82.size, .ref H_92.size, .ref H_102.size, .ref H_112.size, .ref H_128.size, .ref H_144.size, .ref H_154.size, .int 0, .ref H_164.size, .int 0, .int 0, .int 0, .int 0, .int 0, .int 0, .int 0, .int 0, .int 0, .int 0, .ref H_174.size, .int 0, .int 0, .ref H_184.size, .int 0, .ref H_257.size, .int 0, .ref H_268.size, .ref H_279.size, .ref H_294.size, .int 0, .ref H_309.size, .ref H_320.size, .ref H_331.size, .ref H_342.size, .ref H_353.size, .ref H_364.size, .ref H_375.size, .ref H_386.size, .ref H_397.size, .ref H_408.size, .ref H_425.size, .ref H_436.size, .ref H_448.size, .null, .null, .int 0, .int 0, .int 0, .null, .null, .null, .int 0, .null, .null, .null])) H_460 := hraw_460
  have hkp_461 := hkp_453.put hr_460
  clear hh_458
  refine lv_aload_n hx hb dX14_init_351 rfl (lv_at hl 0 rfl) ?_
  refine lv_iconst (v := 2) hx hb dX14_init_352 (by decide) ?_
  clear hsz_450 htt_450
  have hsz_462 := hh_460.2.2.2.2.2.1
  have htt_462 := hh_460.2.2.2.2.2.2.1
  refine j7_newiK hx hb hK hh_460 hB (atype := .int) (ty := .int) (htw (.arrayClass .int) (jWr_3 _ (List.mem_of_getElem? (i := 20) rfl))) rfl rfl (fun _ h => h) hB101 1 rfl (by decide) (by decide) hbs (x := 2) (by decide) (by omega) (fun j => by first | trivial | decide | rfl | exact Or.inl rfl | exact Or.inr (Or.inl (by decide)) | (refine ⟨?_, ?_⟩ <;> decide)) (by rw [hRc]; omega) (by rw [hRs]; omega) dX14_init_353 (fun H_462 hfr_462 hh_462 => ?_)
  have hh_462 : jSt (dC, dI) B base G0 (va_up G_450 H_460.size (some (101, 2))) EX14_init s.heap (((((((((((((((((((((((((((((((((((((((((((((((0 + 1) + 1) + 1) + 1) + 1) + (1)) + 1) + (1)) + 1) + 1) + 1) + 1) + 1) + 1) + 1) + 1) + 1) + 1) + 1) + 1) + 1) + (6)) + 1) + (6)) + 1) + (6)) + 1) + 1) + 1) + (6)) + 1) + (6)) + 1) + 1) + 1) + 1) + 1) + 1) + 1) + 1) + 1) + 1) + (28)) + 1) + 1) + 1) + 1) (((((((((((((((((((((((((((((((((((((((((((((((0 + 4000) + 20000) + 100000) + 3300) + 4) + (16)) + 4) + (16)) + 3100) + 3100) + 3100) + 3100) + 3100) + 3100) + 3100) + 3100) + 3100) + 3300) + 20) + 3) + 11) + (1700)) + 11) + (1700)) + 11) + (1700)) + 3100) + 1500) + 11) + (1700)) + 11) + (1700)) + 12) + 12) + 12) + 12) + 12) + 240) + 12) + 37200) + 12) + 50) + (720031)) + 3100) + 2) + 2) + 2) [(H_45.size, 0, 3, .int qc_52), (H_45.size, 0, 0, .ref xa_52), (H_31.size, 0, 3, .int qc_38), (H_31.size, 0, 0, .ref xa_38)] [(H_128.size, 123, 3100, ca 1, (fun _ => 0)), (H_112.size, 122, 3100, ca 1, (fun _ => 0))] [(jFz9, jDZ dC dI G_450), ([(208, 0)], jQc dC dI (ca 4) H_436.size 2 (fun _ => none)), ([(201, 0)], jQc dC dI (ca 4) H_184.size 3 (va_up (va_up (va_up (fun _ => none) 0 (some H_186.size)) 1 (some H_207.size)) 2 (some H_226.size)))] H_462 locs_460 := hh_462
  have hZ_462 : jN14 G_450 (va_up G_450 H_460.size (some (101, 2))) := jN14.new (by decide)
  have hN_462 : (jNk [1, 2, 3, 4, 5, 6, 7, 8, 9, 10, 11, 12, 13]) G_450 (va_up G_450 H_460.size (some (101, 2))) := jNk.new (by decide)
  have hgn_462 : (va_up G_450 H_460.size (some (101, 2))) H_460.size = some (101, 2) := jUp_self
  have hle_462 : jLe G_450 (va_up G_450 H_460.size (some (101, 2))) := jLe.new hh_460.2.1.fresh
  have hke_462 : jKe G_450 (va_up G_450 H_460.size (some (101, 2))) H_460 H_462 := jKe.new hfr_462
  have hsy_462 : s.heap.size ≤ H_460.size := hh_460.1.1
  generalize (va_up G_450 H_460.size (some (101, 2))) = G_462 at hN_462 hgn_462 hle_462 hke_462 hh_462 hZ_462
  clear hh_460
  have hNn_462 : (jNk [1, 2, 3, 4, 5, 6, 7, 8, 9, 10, 11, 12, 13]) G0 G_462 := (hNn_450).tr hN_462
  have hg_463 := hle_462 _ _ hg_451
  have hg_464 := hle_462 _ _ hg_452
  have hkp_465 := hkp_461.tr hke_462
  have hraw_466n := hke_462.nr hraw_460.lt hraw_454n
  have hraw_466 := hraw_460.kept (hke_462.1 _ hraw_460.lt)
  try have hz14_462 : jN14 G0 G_462 := (hz14_450).tr hZ_462
  have hd_467 := jDZ.grow (hh_462.iv 0 rfl) hle_462 hZ_462
  have hh_468 := hh_462.sub (L1 := [(H_45.size, 0, 3, .int qc_52), (H_45.size, 0, 0, .ref xa_52), (H_31.size, 0, 3, .int qc_38), (H_31.size, 0, 0, .ref xa_38)]) [0, 1, 2, 3] rfl (M1 := [(H_128.size, 123, 3100, ca 1, (fun _ => 0)), (H_112.size, 122, 3100, ca 1, (fun _ => 0))]) [0, 1] rfl (I1 := [([(208, 0)], jQc dC dI (ca 4) H_436.size 2 (fun _ => none)), ([(201, 0)], jQc dC dI (ca 4) H_184.size 3 (va_up (va_up (va_up (fun _ => none) 0 (some H_186.size)) 1 (some H_207.size)) 2 (some H_226.size)))]) [1, 2] rfl
  clear hh_462
  have hh_469 := hh_468.addI (jDZ.ie hd_467)
  clear hh_468
  refine j7_putRF hx hb hown hK hh_469 hB hAp hraw_466 hraw_466n hbr0 (C := RX14) (T := TX14) (N := 74) rfl (i := 62) (by decide) (Nat.le_of_ble_eq_true rfl) hly_16_62 rfl hin2 rfl hlk_135 (ty := (.array .int)) (v := .ref H_460.size) (by decide +kernel) rfl rfl dX14_init_355 (fun H_472 locs_472 hraw_472 hr_472 hh_472 => ?_)
  have hraw_472 : va_at (dC, dI) vwCl (r0, .inr (16, [.ref s.heap.size, .int 0, .ref H_7.size, .int 0, .int 0, .ref H_15.size, .int 0, .int 0, .int 0, .ref H_23.size, .int 0, .int 0, .int 0, .ref H_31.size, .ref H_45.size, .int (-1), .int 0, .ref H_62.size, .ref H_72.size, .ref H_82.size, .ref H_92.size, .ref H_102.size, .ref H_112.size, .ref H_128.size, .ref H_144.size, .ref H_154.size, .int 0, .ref H_164.size, .int 0, .int 0, .int 0, .int 0, .int 0, .int 0, .int 0, .int 0, .int 0, .int 0, .ref H_174.size, .int 0, .int 0, .ref H_184.size, .int 0, .ref H_257.size, .int 0, .ref H_268.size, .ref H_279.size, .ref H_294.size, .int 0, .ref H_309.size, .ref H_320.size, .ref H_331.size, .ref H_342.size, .ref H_353.size, .ref H_364.size, .ref H_375.size, .ref H_386.size, .ref H_397.size, .ref H_408.size, .ref H_425.size, .ref H_436.size, .ref H_448.size, .ref H_460.size, .null, .int 0, .int 0, .int 0, .null, .null, .null, .int 0, .null, .null, .null])) H_472 := hraw_472
  have hkp_473 := hkp_465.put hr_472
  clear hh_469
  refine lv_aload_n hx hb dX14_init_358 rfl (lv_at hl 0 rfl) ?_
  refine lv_iconst (v := 2) hx hb dX14_init_359 (by decide) ?_
  clear hsz_462 htt_462
  have hsz_474 := hh_472.2.2.2.2.2.1
  have htt_474 := hh_472.2.2.2.2.2.2.1
  refine j7_newiK hx hb hK hh_472 hB (atype := .boolean) (ty := .boolean) (htw (.arrayClass .boolean) (jWr_11 _ (List.mem_of_getElem? (i := 11) rfl))) rfl rfl (fun _ h => h) hB103 3 rfl (by decide) (by decide) hbs (x := 2) (by decide) (by omega) (fun j => by first | trivial | decide | rfl | exact Or.inl rfl | exact Or.inr (Or.inl (by decide)) | (refine ⟨?_, ?_⟩ <;> decide)) (by rw [hRc]; omega) (by rw [hRs]; omega) dX14_init_360 (fun H_474 hfr_474 hh_474 => ?_)
  have hh_474 : jSt (dC, dI) B base G0 (va_up G_462 H_472.size (some (103, 2))) EX14_init s.heap ((((((((((((((((((((((((((((((((((((((((((((((((0 + 1) + 1) + 1) + 1) + 1) + (1)) + 1) + (1)) + 1) + 1) + 1) + 1) + 1) + 1) + 1) + 1) + 1) + 1) + 1) + 1) + 1) + (6)) + 1) + (6)) + 1) + (6)) + 1) + 1) + 1) + (6)) + 1) + (6)) + 1) + 1) + 1) + 1) + 1) + 1) + 1) + 1) + 1) + 1) + (28)) + 1) + 1) + 1) + 1) + 1) ((((((((((((((((((((((((((((((((((((((((((((((((0 + 4000) + 20000) + 100000) + 3300) + 4) + (16)) + 4) + (16)) + 3100) + 3100) + 3100) + 3100) + 3100) + 3100) + 3100) + 3100) + 3100) + 3300) + 20) + 3) + 11) + (1700)) + 11) + (1700)) + 11) + (1700)) + 3100) + 1500) + 11) + (1700)) + 11) + (1700)) + 12) + 12) + 12) + 12) + 12) + 240) + 12) + 37200) + 12) + 50) + (720031)) + 3100) + 2) + 2) + 2) + 2) [(H_45.size, 0, 3, .int qc_52), (H_45.size, 0, 0, .ref xa_52), (H_31.size, 0, 3, .int qc_38), (H_31.size, 0, 0, .ref xa_38)] [(H_128.size, 123, 3100, ca 1, (fun _ => 0)), (H_112.size, 122, 3100, ca 1, (fun _ => 0))] [(jFz9, jDZ dC dI G_462), ([(208, 0)], jQc dC dI (ca 4) H_436.size 2 (fun _ => none)), ([(201, 0)], jQc dC dI (ca 4) H_184.size 3 (va_up (va_up (va_up (fun _ => none) 0 (some H_186.size)) 1 (some H_207.size)) 2 (some H_226.size)))] H_474 locs_472 := hh_474
  have hZ_474 : jN14 G_462 (va_up G_462 H_472.size (some (103, 2))) := jN14.new (by decide)
  have hN_474 : (jNk [1, 2, 3, 4, 5, 6, 7, 8, 9, 10, 11, 12, 13]) G_462 (va_up G_462 H_472.size (some (103, 2))) := jNk.new (by decide)
  have hgn_474 : (va_up G_462 H_472.size (some (103, 2))) H_472.size = some (103, 2) := jUp_self
  have hle_474 : jLe G_462 (va_up G_462 H_472.size (some (103, 2))) := jLe.new hh_472.2.1.fresh
  have hke_474 : jKe G_462 (va_up G_462 H_472.size (some (103, 2))) H_472 H_474 := jKe.new hfr_474
  have hsy_474 : s.heap.size ≤ H_472.size := hh_472.1.1
  generalize (va_up G_462 H_472.size (some (103, 2))) = G_474 at hN_474 hgn_474 hle_474 hke_474 hh_474 hZ_474
  clear hh_472
  have hNn_474 : (jNk [1, 2, 3, 4, 5, 6, 7, 8, 9, 10, 11, 12, 13]) G0 G_474 := (hNn_462).tr hN_474
  have hg_475 := hle_474 _ _ hg_463
  have hg_476 := hle_474 _ _ hg_464
  have hkp_477 := hkp_473.tr hke_474
  have hraw_478n := hke_474.nr hraw_472.lt hraw_466n
  have hraw_478 := hraw_472.kept (hke_474.1 _ hraw_472.lt)
  try have hz14_474 : jN14 G0 G_474 := (hz14_462).tr hZ_474
  have hd_479 := jDZ.grow (hh_474.iv 0 rfl) hle_474 hZ_474
  have hh_480 := hh_474.sub (L1 := [(H_45.size, 0, 3, .int qc_52), (H_45.size, 0, 0, .ref xa_52), (H_31.size, 0, 3, .int qc_38), (H_31.size, 0, 0, .ref xa_38)]) [0, 1, 2, 3] rfl (M1 := [(H_128.size, 123, 3100, ca 1, (fun _ => 0)), (H_112.size, 122, 3100, ca 1, (fun _ => 0))]) [0, 1] rfl (I1 := [([(208, 0)], jQc dC dI (ca 4) H_436.size 2 (fun _ => none)), ([(201, 0)], jQc dC dI (ca 4) H_184.size 3 (va_up (va_up (va_up (fun _ => none) 0 (some H_186.size)) 1 (some H_207.size)) 2 (some H_226.size)))]) [1, 2] rfl
  clear hh_474
  have hh_481 := hh_480.addI (jDZ.ie hd_479)
  clear hh_480
  refine j7_putRF hx hb hown hK hh_481 hB hAp hraw_478 hraw_478n hbr0 (C := RX14) (T := TX14) (N := 74) rfl (i := 63) (by decide) (Nat.le_of_ble_eq_true rfl) hly_16_63 rfl hin2 rfl hlk_138 (ty := (.array .boolean)) (v := .ref H_472.size) (by decide +kernel) rfl rfl dX14_init_362 (fun H_484 locs_484 hraw_484 hr_484 hh_484 => ?_)
  have hraw_484 : va_at (dC, dI) vwCl (r0, .inr (16, [.ref s.heap.size, .int 0, .ref H_7.size, .int 0, .int 0, .ref H_15.size, .int 0, .int 0, .int 0, .ref H_23.size, .int 0, .int 0, .int 0, .ref H_31.size, .ref H_45.size, .int (-1), .int 0, .ref H_62.size, .ref H_72.size, .ref H_82.size, .ref H_92.size, .ref H_102.size, .ref H_112.size, .ref H_128.size, .ref H_144.size, .ref H_154.size, .int 0, .ref H_164.size, .int 0, .int 0, .int 0, .int 0, .int 0, .int 0, .int 0, .int 0, .int 0, .int 0, .ref H_174.size, .int 0, .int 0, .ref H_184.size, .int 0, .ref H_257.size, .int 0, .ref H_268.size, .ref H_279.size, .ref H_294.size, .int 0, .ref H_309.size, .ref H_320.size, .ref H_331.size, .ref H_342.size, .ref H_353.size, .ref H_364.size, .ref H_375.size, .ref H_386.size, .ref H_397.size, .ref H_408.size, .ref H_425.size, .ref H_436.size, .ref H_448.size, .ref H_460.size, .ref H_472.size, .int 0, .int 0, .int 0, .null, .null, .null, .int 0, .null, .null, .null])) H_484 := hraw_484
  have hkp_485 := hkp_477.put hr_484
  clear hh_481
  refine lv_aload_n hx hb dX14_init_365 rfl (lv_at hl 0 rfl) ?_
  refine lv_ldc hx hb hown hcs_141 dX14_init_366 ?_
  clear hsz_474 htt_474
  have hsz_486 := hh_484.2.2.2.2.2.1
  have htt_486 := hh_484.2.2.2.2.2.2.1
  refine j7_newiK hx hb hK hh_484 hB (atype := .int) (ty := .int) (htw (.arrayClass .int) (jWr_3 _ (List.mem_of_getElem? (i := 20) rfl))) rfl rfl (fun _ h => h) hB101 1 rfl (by decide) (by decide) hbs (x := 38400) (by decide) (by omega) (fun j => by first | trivial | decide | rfl | exact Or.inl rfl | exact Or.inr (Or.inl (by decide)) | (refine ⟨?_, ?_⟩ <;> decide)) (by rw [hRc]; omega) (by rw [hRs]; omega) dX14_init_368 (fun H_486 hfr_486 hh_486 => ?_)
  have hh_486 : jSt (dC, dI) B base G0 (va_up G_474 H_484.size (some (101, 38400))) EX14_init s.heap (((((((((((((((((((((((((((((((((((((((((((((((((0 + 1) + 1) + 1) + 1) + 1) + (1)) + 1) + (1)) + 1) + 1) + 1) + 1) + 1) + 1) + 1) + 1) + 1) + 1) + 1) + 1) + 1) + (6)) + 1) + (6)) + 1) + (6)) + 1) + 1) + 1) + (6)) + 1) + (6)) + 1) + 1) + 1) + 1) + 1) + 1) + 1) + 1) + 1) + 1) + (28)) + 1) + 1) + 1) + 1) + 1) + 1) (((((((((((((((((((((((((((((((((((((((((((((((((0 + 4000) + 20000) + 100000) + 3300) + 4) + (16)) + 4) + (16)) + 3100) + 3100) + 3100) + 3100) + 3100) + 3100) + 3100) + 3100) + 3100) + 3300) + 20) + 3) + 11) + (1700)) + 11) + (1700)) + 11) + (1700)) + 3100) + 1500) + 11) + (1700)) + 11) + (1700)) + 12) + 12) + 12) + 12) + 12) + 240) + 12) + 37200) + 12) + 50) + (720031)) + 3100) + 2) + 2) + 2) + 2) + 38400) [(H_45.size, 0, 3, .int qc_52), (H_45.size, 0, 0, .ref xa_52), (H_31.size, 0, 3, .int qc_38), (H_31.size, 0, 0, .ref xa_38)] [(H_128.size, 123, 3100, ca 1, (fun _ => 0)), (H_112.size, 122, 3100, ca 1, (fun _ => 0))] [(jFz9, jDZ dC dI G_474), ([(208, 0)], jQc dC dI (ca 4) H_436.size 2 (fun _ => none)), ([(201, 0)], jQc dC dI (ca 4) H_184.size 3 (va_up (va_up (va_up (fun _ => none) 0 (some H_186.size)) 1 (some H_207.size)) 2 (some H_226.size)))] H_486 locs_484 := hh_486
  have hZ_486 : jN14 G_474 (va_up G_474 H_484.size (some (101, 38400))) := jN14.new (by decide)
  have hN_486 : (jNk [1, 2, 3, 4, 5, 6, 7, 8, 9, 10, 11, 12, 13]) G_474 (va_up G_474 H_484.size (some (101, 38400))) := jNk.new (by decide)
  have hgn_486 : (va_up G_474 H_484.size (some (101, 38400))) H_484.size = some (101, 38400) := jUp_self
  have hle_486 : jLe G_474 (va_up G_474 H_484.size (some (101, 38400))) := jLe.new hh_484.2.1.fresh
  have hke_486 : jKe G_474 (va_up G_474 H_484.size (some (101, 38400))) H_484 H_486 := jKe.new hfr_486
  have hsy_486 : s.heap.size ≤ H_484.size := hh_484.1.1
  generalize (va_up G_474 H_484.size (some (101, 38400))) = G_486 at hN_486 hgn_486 hle_486 hke_486 hh_486 hZ_486
  clear hh_484
  have hNn_486 : (jNk [1, 2, 3, 4, 5, 6, 7, 8, 9, 10, 11, 12, 13]) G0 G_486 := (hNn_474).tr hN_486
  have hg_487 := hle_486 _ _ hg_475
  have hg_488 := hle_486 _ _ hg_476
  have hkp_489 := hkp_485.tr hke_486
  have hraw_490n := hke_486.nr hraw_484.lt hraw_478n
  have hraw_490 := hraw_484.kept (hke_486.1 _ hraw_484.lt)
  try have hz14_486 : jN14 G0 G_486 := (hz14_474).tr hZ_486
  have hd_491 := jDZ.grow (hh_486.iv 0 rfl) hle_486 hZ_486
  have hh_492 := hh_486.sub (L1 := [(H_45.size, 0, 3, .int qc_52), (H_45.size, 0, 0, .ref xa_52), (H_31.size, 0, 3, .int qc_38), (H_31.size, 0, 0, .ref xa_38)]) [0, 1, 2, 3] rfl (M1 := [(H_128.size, 123, 3100, ca 1, (fun _ => 0)), (H_112.size, 122, 3100, ca 1, (fun _ => 0))]) [0, 1] rfl (I1 := [([(208, 0)], jQc dC dI (ca 4) H_436.size 2 (fun _ => none)), ([(201, 0)], jQc dC dI (ca 4) H_184.size 3 (va_up (va_up (va_up (fun _ => none) 0 (some H_186.size)) 1 (some H_207.size)) 2 (some H_226.size)))]) [1, 2] rfl
  clear hh_486
  have hh_493 := hh_492.addI (jDZ.ie hd_491)
  clear hh_492
  refine j7_putRF hx hb hown hK hh_493 hB hAp hraw_490 hraw_490n hbr0 (C := RX14) (T := TX14) (N := 74) rfl (i := 67) (by decide) (Nat.le_of_ble_eq_true rfl) hly_16_67 rfl hin2 rfl hlk_142 (ty := (.array .int)) (v := .ref H_484.size) (by decide +kernel) rfl rfl dX14_init_370 (fun H_496 locs_496 hraw_496 hr_496 hh_496 => ?_)
  have hraw_496 : va_at (dC, dI) vwCl (r0, .inr (16, [.ref s.heap.size, .int 0, .ref H_7.size, .int 0, .int 0, .ref H_15.size, .int 0, .int 0, .int 0, .ref H_23.size, .int 0, .int 0, .int 0, .ref H_31.size, .ref H_45.size, .int (-1), .int 0, .ref H_62.size, .ref H_72.size, .ref H_82.size, .ref H_92.size, .ref H_102.size, .ref H_112.size, .ref H_128.size, .ref H_144.size, .ref H_154.size, .int 0, .ref H_164.size, .int 0, .int 0, .int 0, .int 0, .int 0, .int 0, .int 0, .int 0, .int 0, .int 0, .ref H_174.size, .int 0, .int 0, .ref H_184.size, .int 0, .ref H_257.size, .int 0, .ref H_268.size, .ref H_279.size, .ref H_294.size, .int 0, .ref H_309.size, .ref H_320.size, .ref H_331.size, .ref H_342.size, .ref H_353.size, .ref H_364.size, .ref H_375.size, .ref H_386.size, .ref H_397.size, .ref H_408.size, .ref H_425.size, .ref H_436.size, .ref H_448.size, .ref H_460.size, .ref H_472.size, .int 0, .int 0, .int 0, .ref H_484.size, .null, .null, .int 0, .null, .null, .null])) H_496 := hraw_496
  have hkp_497 := hkp_489.put hr_496
  clear hh_493
  refine lv_aload_n hx hb dX14_init_373 rfl (lv_at hl 0 rfl) ?_
  refine lv_bipush (v := 24) hx hb dX14_init_374 (by decide) ?_
  clear hsz_486 htt_486
  have hsz_498 := hh_496.2.2.2.2.2.1
  have htt_498 := hh_496.2.2.2.2.2.2.1
  refine j7_newiK hx hb hK hh_496 hB (atype := .int) (ty := .int) (htw (.arrayClass .int) (jWr_3 _ (List.mem_of_getElem? (i := 20) rfl))) rfl rfl (fun _ h => h) hB205 1 rfl (by decide) (by decide) hbs (x := 24) (by decide) (by omega) (fun j => by first | trivial | decide | rfl | exact Or.inl rfl | exact Or.inr (Or.inl (by decide)) | (refine ⟨?_, ?_⟩ <;> decide)) (by rw [hRc]; omega) (by rw [hRs]; omega) dX14_init_376 (fun H_498 hfr_498 hh_498 => ?_)
  have hh_498 : jSt (dC, dI) B base G0 (va_up G_486 H_496.size (some (205, 24))) EX14_init s.heap ((((((((((((((((((((((((((((((((((((((((((((((((((0 + 1) + 1) + 1) + 1) + 1) + (1)) + 1) + (1)) + 1) + 1) + 1) + 1) + 1) + 1) + 1) + 1) + 1) + 1) + 1) + 1) + 1) + (6)) + 1) + (6)) + 1) + (6)) + 1) + 1) + 1) + (6)) + 1) + (6)) + 1) + 1) + 1) + 1) + 1) + 1) + 1) + 1) + 1) + 1) + (28)) + 1) + 1) + 1) + 1) + 1) + 1) + 1) ((((((((((((((((((((((((((((((((((((((((((((((((((0 + 4000) + 20000) + 100000) + 3300) + 4) + (16)) + 4) + (16)) + 3100) + 3100) + 3100) + 3100) + 3100) + 3100) + 3100) + 3100) + 3100) + 3300) + 20) + 3) + 11) + (1700)) + 11) + (1700)) + 11) + (1700)) + 3100) + 1500) + 11) + (1700)) + 11) + (1700)) + 12) + 12) + 12) + 12) + 12) + 240) + 12) + 37200) + 12) + 50) + (720031)) + 3100) + 2) + 2) + 2) + 2) + 38400) + 24) [(H_45.size, 0, 3, .int qc_52), (H_45.size, 0, 0, .ref xa_52), (H_31.size, 0, 3, .int qc_38), (H_31.size, 0, 0, .ref xa_38)] [(H_128.size, 123, 3100, ca 1, (fun _ => 0)), (H_112.size, 122, 3100, ca 1, (fun _ => 0))] [(jFz9, jDZ dC dI G_486), ([(208, 0)], jQc dC dI (ca 4) H_436.size 2 (fun _ => none)), ([(201, 0)], jQc dC dI (ca 4) H_184.size 3 (va_up (va_up (va_up (fun _ => none) 0 (some H_186.size)) 1 (some H_207.size)) 2 (some H_226.size)))] H_498 locs_496 := hh_498
  have hZ_498 : jN14 G_486 (va_up G_486 H_496.size (some (205, 24))) := jN14.new (by decide)
  have hN_498 : (jNk [1, 2, 3, 4, 5, 6, 7, 8, 9, 10, 11, 12, 13]) G_486 (va_up G_486 H_496.size (some (205, 24))) := jNk.new (by decide)
  have hgn_498 : (va_up G_486 H_496.size (some (205, 24))) H_496.size = some (205, 24) := jUp_self
  have hle_498 : jLe G_486 (va_up G_486 H_496.size (some (205, 24))) := jLe.new hh_496.2.1.fresh
  have hke_498 : jKe G_486 (va_up G_486 H_496.size (some (205, 24))) H_496 H_498 := jKe.new hfr_498
  have hsy_498 : s.heap.size ≤ H_496.size := hh_496.1.1
  generalize (va_up G_486 H_496.size (some (205, 24))) = G_498 at hN_498 hgn_498 hle_498 hke_498 hh_498 hZ_498
  clear hh_496
  have hNn_498 : (jNk [1, 2, 3, 4, 5, 6, 7, 8, 9, 10, 11, 12, 13]) G0 G_498 := (hNn_486).tr hN_498
  have hg_499 := hle_498 _ _ hg_487
  have hg_500 := hle_498 _ _ hg_488
  have hkp_501 := hkp_497.tr hke_498
  have hraw_502n := hke_498.nr hraw_496.lt hraw_490n
  have hraw_502 := hraw_496.kept (hke_498.1 _ hraw_496.lt)
  try have hz14_498 : jN14 G0 G_498 := (hz14_486).tr hZ_498
  have hd_503 := jDZ.grow (hh_498.iv 0 rfl) hle_498 hZ_498
  have hh_504 := hh_498.sub (L1 := [(H_45.size, 0, 3, .int qc_52), (H_45.size, 0, 0, .ref xa_52), (H_31.size, 0, 3, .int qc_38), (H_31.size, 0, 0, .ref xa_38)]) [0, 1, 2, 3] rfl (M1 := [(H_128.size, 123, 3100, ca 1, (fun _ => 0)), (H_112.size, 122, 3100, ca 1, (fun _ => 0))]) [0, 1] rfl (I1 := [([(208, 0)], jQc dC dI (ca 4) H_436.size 2 (fun _ => none)), ([(201, 0)], jQc dC dI (ca 4) H_184.size 3 (va_up (va_up (va_up (fun _ => none) 0 (some H_186.size)) 1 (some H_207.size)) 2 (some H_226.size)))]) [1, 2] rfl
  clear hh_498
  have hh_505 := hh_504.addI (jDZ.ie hd_503)
  clear hh_504
  refine j7_putRF hx hb hown hK hh_505 hB hAp hraw_502 hraw_502n hbr0 (C := RX14) (T := TX14) (N := 74) rfl (i := 68) (by decide) (Nat.le_of_ble_eq_true rfl) hly_16_68 rfl hin2 rfl hlk_145 (ty := (.array .int)) (v := .ref H_496.size) (by decide +kernel) rfl rfl dX14_init_378 (fun H_508 locs_508 hraw_508 hr_508 hh_508 => ?_)
  have hraw_508 : va_at (dC, dI) vwCl (r0, .inr (16, [.ref s.heap.size, .int 0, .ref H_7.size, .int 0, .int 0, .ref H_15.size, .int 0, .int 0, .int 0, .ref H_23.size, .int 0, .int 0, .int 0, .ref H_31.size, .ref H_45.size, .int (-1), .int 0, .ref H_62.size, .ref H_72.size, .ref H_82.size, .ref H_92.size, .ref H_102.size, .ref H_112.size, .ref H_128.size, .ref H_144.size, .ref H_154.size, .int 0, .ref H_164.size, .int 0, .int 0, .int 0, .int 0, .int 0, .int 0, .int 0, .int 0, .int 0, .int 0, .ref H_174.size, .int 0, .int 0, .ref H_184.size, .int 0, .ref H_257.size, .int 0, .ref H_268.size, .ref H_279.size, .ref H_294.size, .int 0, .ref H_309.size, .ref H_320.size, .ref H_331.size, .ref H_342.size, .ref H_353.size, .ref H_364.size, .ref H_375.size, .ref H_386.size, .ref H_397.size, .ref H_408.size, .ref H_425.size, .ref H_436.size, .ref H_448.size, .ref H_460.size, .ref H_472.size, .int 0, .int 0, .int 0, .ref H_484.size, .ref H_496.size, .null, .int 0, .null, .null, .null])) H_508 := hraw_508
  have hkp_509 := hkp_501.put hr_508
  clear hh_505
  refine lv_aload_n hx hb dX14_init_381 rfl (lv_at hl 0 rfl) ?_
  refine lv_sipush (v := 1600) hx hb dX14_init_382 (by decide) ?_
  clear hsz_498 htt_498
  have hsz_510 := hh_508.2.2.2.2.2.1
  have htt_510 := hh_508.2.2.2.2.2.2.1
  refine j7_newiK hx hb hK hh_508 hB (atype := .int) (ty := .int) (htw (.arrayClass .int) (jWr_3 _ (List.mem_of_getElem? (i := 20) rfl))) rfl rfl (fun _ h => h) hB101 1 rfl (by decide) (by decide) hbs (x := 1600) (by decide) (by omega) (fun j => by first | trivial | decide | rfl | exact Or.inl rfl | exact Or.inr (Or.inl (by decide)) | (refine ⟨?_, ?_⟩ <;> decide)) (by rw [hRc]; omega) (by rw [hRs]; omega) dX14_init_385 (fun H_510 hfr_510 hh_510 => ?_)
  have hh_510 : jSt (dC, dI) B base G0 (va_up G_498 H_508.size (some (101, 1600))) EX14_init s.heap (((((((((((((((((((((((((((((((((((((((((((((((((((0 + 1) + 1) + 1) + 1) + 1) + (1)) + 1) + (1)) + 1) + 1) + 1) + 1) + 1) + 1) + 1) + 1) + 1) + 1) + 1) + 1) + 1) + (6)) + 1) + (6)) + 1) + (6)) + 1) + 1) + 1) + (6)) + 1) + (6)) + 1) + 1) + 1) + 1) + 1) + 1) + 1) + 1) + 1) + 1) + (28)) + 1) + 1) + 1) + 1) + 1) + 1) + 1) + 1) (((((((((((((((((((((((((((((((((((((((((((((((((((0 + 4000) + 20000) + 100000) + 3300) + 4) + (16)) + 4) + (16)) + 3100) + 3100) + 3100) + 3100) + 3100) + 3100) + 3100) + 3100) + 3100) + 3300) + 20) + 3) + 11) + (1700)) + 11) + (1700)) + 11) + (1700)) + 3100) + 1500) + 11) + (1700)) + 11) + (1700)) + 12) + 12) + 12) + 12) + 12) + 240) + 12) + 37200) + 12) + 50) + (720031)) + 3100) + 2) + 2) + 2) + 2) + 38400) + 24) + 1600) [(H_45.size, 0, 3, .int qc_52), (H_45.size, 0, 0, .ref xa_52), (H_31.size, 0, 3, .int qc_38), (H_31.size, 0, 0, .ref xa_38)] [(H_128.size, 123, 3100, ca 1, (fun _ => 0)), (H_112.size, 122, 3100, ca 1, (fun _ => 0))] [(jFz9, jDZ dC dI G_498), ([(208, 0)], jQc dC dI (ca 4) H_436.size 2 (fun _ => none)), ([(201, 0)], jQc dC dI (ca 4) H_184.size 3 (va_up (va_up (va_up (fun _ => none) 0 (some H_186.size)) 1 (some H_207.size)) 2 (some H_226.size)))] H_510 locs_508 := hh_510
  have hZ_510 : jN14 G_498 (va_up G_498 H_508.size (some (101, 1600))) := jN14.new (by decide)
  have hN_510 : (jNk [1, 2, 3, 4, 5, 6, 7, 8, 9, 10, 11, 12, 13]) G_498 (va_up G_498 H_508.size (some (101, 1600))) := jNk.new (by decide)
  have hgn_510 : (va_up G_498 H_508.size (some (101, 1600))) H_508.size = some (101, 1600) := jUp_self
  have hle_510 : jLe G_498 (va_up G_498 H_508.size (some (101, 1600))) := jLe.new hh_508.2.1.fresh
  have hke_510 : jKe G_498 (va_up G_498 H_508.size (some (101, 1600))) H_508 H_510 := jKe.new hfr_510
  have hsy_510 : s.heap.size ≤ H_508.size := hh_508.1.1
  generalize (va_up G_498 H_508.size (some (101, 1600))) = G_510 at hN_510 hgn_510 hle_510 hke_510 hh_510 hZ_510
  clear hh_508
  have hNn_510 : (jNk [1, 2, 3, 4, 5, 6, 7, 8, 9, 10, 11, 12, 13]) G0 G_510 := (hNn_498).tr hN_510
  have hg_511 := hle_510 _ _ hg_499
  have hg_512 := hle_510 _ _ hg_500
  have hkp_513 := hkp_509.tr hke_510
  have hraw_514n := hke_510.nr hraw_508.lt hraw_502n
  have hraw_514 := hraw_508.kept (hke_510.1 _ hraw_508.lt)
  try have hz14_510 : jN14 G0 G_510 := (hz14_498).tr hZ_510
  have hd_515 := jDZ.grow (hh_510.iv 0 rfl) hle_510 hZ_510
  have hh_516 := hh_510.sub (L1 := [(H_45.size, 0, 3, .int qc_52), (H_45.size, 0, 0, .ref xa_52), (H_31.size, 0, 3, .int qc_38), (H_31.size, 0, 0, .ref xa_38)]) [0, 1, 2, 3] rfl (M1 := [(H_128.size, 123, 3100, ca 1, (fun _ => 0)), (H_112.size, 122, 3100, ca 1, (fun _ => 0))]) [0, 1] rfl (I1 := [([(208, 0)], jQc dC dI (ca 4) H_436.size 2 (fun _ => none)), ([(201, 0)], jQc dC dI (ca 4) H_184.size 3 (va_up (va_up (va_up (fun _ => none) 0 (some H_186.size)) 1 (some H_207.size)) 2 (some H_226.size)))]) [1, 2] rfl
  clear hh_510
  have hh_517 := hh_516.addI (jDZ.ie hd_515)
  clear hh_516
  refine j7_putRF hx hb hown hK hh_517 hB hAp hraw_514 hraw_514n hbr0 (C := RX14) (T := TX14) (N := 74) rfl (i := 69) (by decide) (Nat.le_of_ble_eq_true rfl) hly_16_69 rfl hin2 rfl hlk_148 (ty := (.array .int)) (v := .ref H_508.size) (by decide +kernel) rfl rfl dX14_init_387 (fun H_520 locs_520 hraw_520 hr_520 hh_520 => ?_)
  have hraw_520 : va_at (dC, dI) vwCl (r0, .inr (16, [.ref s.heap.size, .int 0, .ref H_7.size, .int 0, .int 0, .ref H_15.size, .int 0, .int 0, .int 0, .ref H_23.size, .int 0, .int 0, .int 0, .ref H_31.size, .ref H_45.size, .int (-1), .int 0, .ref H_62.size, .ref H_72.size, .ref H_82.size, .ref H_92.size, .ref H_102.size, .ref H_112.size, .ref H_128.size, .ref H_144.size, .ref H_154.size, .int 0, .ref H_164.size, .int 0, .int 0, .int 0, .int 0, .int 0, .int 0, .int 0, .int 0, .int 0, .int 0, .ref H_174.size, .int 0, .int 0, .ref H_184.size, .int 0, .ref H_257.size, .int 0, .ref H_268.size, .ref H_279.size, .ref H_294.size, .int 0, .ref H_309.size, .ref H_320.size, .ref H_331.size, .ref H_342.size, .ref H_353.size, .ref H_364.size, .ref H_375.size, .ref H_386.size, .ref H_397.size, .ref H_408.size, .ref H_425.size, .ref H_436.size, .ref H_448.size, .ref H_460.size, .ref H_472.size, .int 0, .int 0, .int 0, .ref H_484.size, .ref H_496.size, .ref H_508.size, .int 0, .null, .null, .null])) H_520 := hraw_520
  have hkp_521 := hkp_513.put hr_520
  clear hh_517
  refine lv_aload_n hx hb dX14_init_390 rfl (lv_at hl 0 rfl) ?_
  have hlt_nw : H_294.size < H_520.size := (hh_520.ab (((((((((((((((((((hle_311).tr hle_322).tr hle_333).tr hle_344).tr hle_355).tr hle_366).tr hle_377).tr hle_388).tr hle_399).tr hb_4152).tr hle_427).tr hle_438).tr hle_450).tr hle_462).tr hle_474).tr hle_486).tr hle_498).tr hle_510) _ _ hgc_301)).2
  clear hsz_510 htt_510
  have hsz_522 := hh_520.2.2.2.2.2.1
  have htt_522 := hh_520.2.2.2.2.2.2.1
  refine j7_newo (k := 14) (C := RX12) (T := TX12) (N := 11) (fs := [.null, .int 0, .int 0, .null, .int 0, .int 0, .null, .null, .null, .int 0, .null]) hx hb htw jWc_wsX120 (fun k => ([(.array .int), .int, .int, (.array .int), .int, .int, (.array .int), (.array .int), (.array .int), .int, (.array .int)] : List FieldType).getD k .int) (by decide +kernel) hown (htw (.classLink RX14 71 RX12) (jWr_11 _ (List.mem_of_getElem? (i := 16) rfl))) (htw (.instantiable RX12 11) (jWr_11 _ (List.mem_of_getElem? (i := 17) rfl))) (htw (.initialized RX12) (jWr_11 _ (List.mem_of_getElem? (i := 18) rfl))) hK rfl (fun j hj => by rcases (by omega : j = 0 ∨ j = 1 ∨ j = 2 ∨ j = 3 ∨ j = 4 ∨ j = 5 ∨ j = 6 ∨ j = 7 ∨ j = 8 ∨ j = 9 ∨ j = 10) with rfl | rfl | rfl | rfl | rfl | rfl | rfl | rfl | rfl | rfl | rfl <;> rfl) hh_520 hB (by rw [hRc]; omega) (by rw [hRs]; omega) dX14_init_391 (fun H_522 hraw_522 hfr_522 hnr_522 hh_522 => ?_)
  have hlt_523 := hraw_520.lt
  have hke_522 : jKe G_510 G_510 H_520 H_522 := jKe.raw hfr_522
  have hbr_522 : base ≤ H_520.size := Nat.le_trans hbs hh_520.1.1
  have hsy_522 : s.heap.size ≤ H_520.size := hh_520.1.1
  clear hh_520
  have hkp_524 := hkp_521.tr hke_522
  have hraw_525n := hke_522.nr hraw_520.lt hraw_514n
  have hraw_525 := hraw_520.kept (hke_522.1 _ hraw_520.lt)
  have hne_526 : r0 ≠ H_520.size := Nat.ne_of_lt hlt_523
  refine lv_dup hx hb dX14_init_394 rfl ?_
  clear hsz_522 htt_522
  have hsz_527 := hh_522.2.2.2.2.2.1
  have htt_527 := hh_522.2.2.2.2.2.2.1
  refine W.room (fun hrc_527 hrs_527 => ?_)
  refine va_callv (A0 := jA base) (H0 := s.heap) (va_runIN (As := []) (rest := [.ref H_520.size, .ref r0]) ⟨hx, hb, hml, hown, hts⟩ (uX12_initE l dC dI ca base B hB hAp hB14 hB101 hB190 hB191 hB192 hB193 G_510 H_522 H_520.size LC LS) ⟨va_cnB 0 hts (jgW (jWr_13 _ (List.mem_of_getElem? (i := 21) rfl))) rfl rfl rfl (hG.2.2.1 RX14 73 yX12_init "ProofServerModel" (List.mem_of_getElem? (i := 1726) (by decide +kernel))) (htw (.initialized RX12) (jWr_11 _ (List.mem_of_getElem? (i := 18) rfl))) (by decide +kernel) ⟨by rw [← hR]; exact Nat.le_of_ble_eq_true rfl, by rw [← hR]; exact Nat.le_of_ble_eq_true rfl⟩, rfl, htw (.instanceMethod yX12_init) (jWr_13 _ (List.mem_of_getElem? (i := 20) rfl))⟩ ⟨fun a U g mk q => by obtain ⟨q0, q1, q2, qK, q10, q11, q12, q13, q14, q15⟩ := q; exact ⟨q0, q1, q2, jG.calling g mk a qK, q10, q11, q12, q13, q14, q15⟩, fun U hU hW => ⟨rfl, hU, hh_522.2.1, hG.step hW hU hh_522.1, hraw_522, hnr_522, hbr_522, jP.nil, (hh_522.2.2.2.2.2.2.2.2.sub (L1 := [(jFz9, jDZ dC dI G_510)]) [0] rfl), (by omega), (by omega), trivial⟩⟩ rfl rfl hl.1 rfl (lv_room (Nat.le_of_ble_eq_true rfl)) dX14_init_395 ⟨by rw [hRc]; omega, by rw [hRs]; omega⟩) hh_522.1 (fun q _ h => h) (fun q h => h) (fun u_527 t_527 H_527 locs_527 ht_527 hvm_527 hr_528 hb_527 hz_527 hk_527 hS_527 => ?_)
  rw [ht_527] at hb_527
  obtain ⟨G_527, rfl⟩ : ∃ z, z = u_527 := ⟨_, rfl⟩
  try simp only at hb_527
  obtain ⟨⟨hb_5271, hb_5272, hb_5273, hb_5274, hb_5275, hb_5276⟩, hN_527, hgc_527, hbX_527, hbE_527⟩ := hb_527
  have hN_527 : (jNk [1, 2, 3, 4, 5, 6, 7, 8, 9, 10, 11, 12, 13]) G_510 G_527 := hN_527.sub (by decide)
  have hh_527 : jSt (dC, dI) B base G0 G_527 EX14_init s.heap (((((((((((((((((((((((((((((((((((((((((((((((((((((0 + 1) + 1) + 1) + 1) + 1) + (1)) + 1) + (1)) + 1) + 1) + 1) + 1) + 1) + 1) + 1) + 1) + 1) + 1) + 1) + 1) + 1) + (6)) + 1) + (6)) + 1) + (6)) + 1) + 1) + 1) + (6)) + 1) + (6)) + 1) + 1) + 1) + 1) + 1) + 1) + 1) + 1) + 1) + 1) + (28)) + 1) + 1) + 1) + 1) + 1) + 1) + 1) + 1) + 1) + (6)) (((((((((((((((((((((((((((((((((((((((((((((((((((((0 + 4000) + 20000) + 100000) + 3300) + 4) + (16)) + 4) + (16)) + 3100) + 3100) + 3100) + 3100) + 3100) + 3100) + 3100) + 3100) + 3100) + 3300) + 20) + 3) + 11) + (1700)) + 11) + (1700)) + 11) + (1700)) + 3100) + 1500) + 11) + (1700)) + 11) + (1700)) + 12) + 12) + 12) + 12) + 12) + 240) + 12) + 37200) + 12) + 50) + (720031)) + 3100) + 2) + 2) + 2) + 2) + 38400) + 24) + 1600) + 11) + (1700)) [(H_45.size, 0, 3, .int qc_52), (H_45.size, 0, 0, .ref xa_52), (H_31.size, 0, 3, .int qc_38), (H_31.size, 0, 0, .ref xa_38)] [(H_128.size, 123, 3100, ca 1, (fun _ => 0)), (H_112.size, 122, 3100, ca 1, (fun _ => 0))] [([(208, 0)], jQc dC dI (ca 4) H_436.size 2 (fun _ => none)), ([(201, 0)], jQc dC dI (ca 4) H_184.size 3 (va_up (va_up (va_up (fun _ => none) 0 (some H_186.size)) 1 (some H_207.size)) 2 (some H_226.size)))] H_527 locs_527 := (hh_522.callG hb_5271 hb_5272 hb_5273 hb_5274 hb_5275 hS_527 rfl (L1 := [(H_45.size, 0, 3, .int qc_52), (H_45.size, 0, 0, .ref xa_52), (H_31.size, 0, 3, .int qc_38), (H_31.size, 0, 0, .ref xa_38)]) [0, 1, 2, 3] rfl rfl (M1 := [(H_128.size, 123, 3100, ca 1, (fun _ => 0)), (H_112.size, 122, 3100, ca 1, (fun _ => 0))]) [0, 1] rfl rfl (I1 := [([(208, 0)], jQc dC dI (ca 4) H_436.size 2 (fun _ => none)), ([(201, 0)], jQc dC dI (ca 4) H_184.size 3 (va_up (va_up (va_up (fun _ => none) 0 (some H_186.size)) 1 (some H_207.size)) 2 (some H_226.size)))]) [1, 2] rfl rfl).more hb_5276
  have hNn_527 : (jNk [1, 2, 3, 4, 5, 6, 7, 8, 9, 10, 11, 12, 13]) G0 G_527 := (hNn_510).tr hN_527
  have hg_529 := hb_5272 _ _ hg_511
  have hg_530 := hb_5272 _ _ hg_512
  have hh_533 := hh_527.addIs hbE_527
  try simp only at hr_528
  have hkp_534 := hkp_524.in hbX_527 hsy_522
  have hraw_535x := hbX_527.ke hraw_525.lt hne_526 hraw_525n
  clear hne_526
  have hraw_535 := hraw_525.kept hraw_535x.1
  refine j7_putRF hx hb hown hK hh_533 hB hAp hraw_535 hraw_535x.2 hbr0 (C := RX14) (T := TX14) (N := 74) rfl (i := 71) (by decide) (Nat.le_of_ble_eq_true rfl) hly_16_71 rfl hin2 rfl hlk_151 (ty := (.object "ProofServerModel$Document")) (v := .ref H_520.size) (by decide +kernel) rfl rfl dX14_init_398 (fun H_536 locs_536 hraw_536 hr_536 hh_536 => ?_)
  have hraw_536 : va_at (dC, dI) vwCl (r0, .inr (16, [.ref s.heap.size, .int 0, .ref H_7.size, .int 0, .int 0, .ref H_15.size, .int 0, .int 0, .int 0, .ref H_23.size, .int 0, .int 0, .int 0, .ref H_31.size, .ref H_45.size, .int (-1), .int 0, .ref H_62.size, .ref H_72.size, .ref H_82.size, .ref H_92.size, .ref H_102.size, .ref H_112.size, .ref H_128.size, .ref H_144.size, .ref H_154.size, .int 0, .ref H_164.size, .int 0, .int 0, .int 0, .int 0, .int 0, .int 0, .int 0, .int 0, .int 0, .int 0, .ref H_174.size, .int 0, .int 0, .ref H_184.size, .int 0, .ref H_257.size, .int 0, .ref H_268.size, .ref H_279.size, .ref H_294.size, .int 0, .ref H_309.size, .ref H_320.size, .ref H_331.size, .ref H_342.size, .ref H_353.size, .ref H_364.size, .ref H_375.size, .ref H_386.size, .ref H_397.size, .ref H_408.size, .ref H_425.size, .ref H_436.size, .ref H_448.size, .ref H_460.size, .ref H_472.size, .int 0, .int 0, .int 0, .ref H_484.size, .ref H_496.size, .ref H_508.size, .int 0, .ref H_520.size, .null, .null])) H_536 := hraw_536
  have hkp_537 := hkp_534.put hr_536
  clear hh_533
  refine lv_aload_n hx hb dX14_init_401 rfl (lv_at hl 0 rfl) ?_
  refine lv_bipush (v := 40) hx hb dX14_init_402 (by decide) ?_
  clear hsz_527 htt_527 hrc_527 hrs_527
  (try clear hb_5274); (try clear hb_5275); (try clear hz_527)
  have hsz_538 := hh_536.2.2.2.2.2.1
  have htt_538 := hh_536.2.2.2.2.2.2.1
  refine j7_newiK hx hb hK hh_536 hB (atype := .int) (ty := .int) (htw (.arrayClass .int) (jWr_3 _ (List.mem_of_getElem? (i := 20) rfl))) rfl rfl (fun _ h => h) hB101 1 rfl (by decide) (by decide) hbs (x := 40) (by decide) (by omega) (fun j => by first | trivial | decide | rfl | exact Or.inl rfl | exact Or.inr (Or.inl (by decide)) | (refine ⟨?_, ?_⟩ <;> decide)) (by rw [hRc]; omega) (by rw [hRs]; omega) dX14_init_404 (fun H_538 hfr_538 hh_538 => ?_)
  have hh_538 : jSt (dC, dI) B base G0 (va_up G_527 H_536.size (some (101, 40))) EX14_init s.heap ((((((((((((((((((((((((((((((((((((((((((((((((((((((0 + 1) + 1) + 1) + 1) + 1) + (1)) + 1) + (1)) + 1) + 1) + 1) + 1) + 1) + 1) + 1) + 1) + 1) + 1) + 1) + 1) + 1) + (6)) + 1) + (6)) + 1) + (6)) + 1) + 1) + 1) + (6)) + 1) + (6)) + 1) + 1) + 1) + 1) + 1) + 1) + 1) + 1) + 1) + 1) + (28)) + 1) + 1) + 1) + 1) + 1) + 1) + 1) + 1) + 1) + (6)) + 1) ((((((((((((((((((((((((((((((((((((((((((((((((((((((0 + 4000) + 20000) + 100000) + 3300) + 4) + (16)) + 4) + (16)) + 3100) + 3100) + 3100) + 3100) + 3100) + 3100) + 3100) + 3100) + 3100) + 3300) + 20) + 3) + 11) + (1700)) + 11) + (1700)) + 11) + (1700)) + 3100) + 1500) + 11) + (1700)) + 11) + (1700)) + 12) + 12) + 12) + 12) + 12) + 240) + 12) + 37200) + 12) + 50) + (720031)) + 3100) + 2) + 2) + 2) + 2) + 38400) + 24) + 1600) + 11) + (1700)) + 40) [(H_45.size, 0, 3, .int qc_52), (H_45.size, 0, 0, .ref xa_52), (H_31.size, 0, 3, .int qc_38), (H_31.size, 0, 0, .ref xa_38)] [(H_128.size, 123, 3100, ca 1, (fun _ => 0)), (H_112.size, 122, 3100, ca 1, (fun _ => 0))] [(jFz9, jDZ dC dI G_527), ([(208, 0)], jQc dC dI (ca 4) H_436.size 2 (fun _ => none)), ([(201, 0)], jQc dC dI (ca 4) H_184.size 3 (va_up (va_up (va_up (fun _ => none) 0 (some H_186.size)) 1 (some H_207.size)) 2 (some H_226.size)))] H_538 locs_536 := hh_538
  have hZ_538 : jN14 G_527 (va_up G_527 H_536.size (some (101, 40))) := jN14.new (by decide)
  have hN_538 : (jNk [1, 2, 3, 4, 5, 6, 7, 8, 9, 10, 11, 12, 13]) G_527 (va_up G_527 H_536.size (some (101, 40))) := jNk.new (by decide)
  have hgn_538 : (va_up G_527 H_536.size (some (101, 40))) H_536.size = some (101, 40) := jUp_self
  have hle_538 : jLe G_527 (va_up G_527 H_536.size (some (101, 40))) := jLe.new hh_536.2.1.fresh
  have hke_538 : jKe G_527 (va_up G_527 H_536.size (some (101, 40))) H_536 H_538 := jKe.new hfr_538
  have hsy_538 : s.heap.size ≤ H_536.size := hh_536.1.1
  generalize (va_up G_527 H_536.size (some (101, 40))) = G_538 at hN_538 hgn_538 hle_538 hke_538 hh_538 hZ_538
  clear hh_536
  have hNn_538 : (jNk [1, 2, 3, 4, 5, 6, 7, 8, 9, 10, 11, 12, 13]) G0 G_538 := (hNn_527).tr hN_538
  have hg_539 := hle_538 _ _ hg_529
  have hg_540 := hle_538 _ _ hg_530
  have hkp_541 := hkp_537.tr hke_538
  have hraw_542n := hke_538.nr hraw_536.lt hraw_535x.2
  have hraw_542 := hraw_536.kept (hke_538.1 _ hraw_536.lt)
  try have hz14_538 : jN14 G0 G_538 := (hz14_510).tr hZ_538
  have hd_543 := jDZ.grow (hh_538.iv 0 rfl) hle_538 hZ_538
  have hh_544 := hh_538.sub (L1 := [(H_45.size, 0, 3, .int qc_52), (H_45.size, 0, 0, .ref xa_52), (H_31.size, 0, 3, .int qc_38), (H_31.size, 0, 0, .ref xa_38)]) [0, 1, 2, 3] rfl (M1 := [(H_128.size, 123, 3100, ca 1, (fun _ => 0)), (H_112.size, 122, 3100, ca 1, (fun _ => 0))]) [0, 1] rfl (I1 := [([(208, 0)], jQc dC dI (ca 4) H_436.size 2 (fun _ => none)), ([(201, 0)], jQc dC dI (ca 4) H_184.size 3 (va_up (va_up (va_up (fun _ => none) 0 (some H_186.size)) 1 (some H_207.size)) 2 (some H_226.size)))]) [1, 2] rfl
  clear hh_538
  have hh_545 := hh_544.addI (jDZ.ie hd_543)
  clear hh_544
  refine j7_putRF hx hb hown hK hh_545 hB hAp hraw_542 hraw_542n hbr0 (C := RX14) (T := TX14) (N := 74) rfl (i := 72) (by decide) (Nat.le_of_ble_eq_true rfl) hly_16_72 rfl hin2 rfl hlk_154 (ty := (.array .int)) (v := .ref H_536.size) (by decide +kernel) rfl rfl dX14_init_406 (fun H_548 locs_548 hraw_548 hr_548 hh_548 => ?_)
  have hraw_548 : va_at (dC, dI) vwCl (r0, .inr (16, [.ref s.heap.size, .int 0, .ref H_7.size, .int 0, .int 0, .ref H_15.size, .int 0, .int 0, .int 0, .ref H_23.size, .int 0, .int 0, .int 0, .ref H_31.size, .ref H_45.size, .int (-1), .int 0, .ref H_62.size, .ref H_72.size, .ref H_82.size, .ref H_92.size, .ref H_102.size, .ref H_112.size, .ref H_128.size, .ref H_144.size, .ref H_154.size, .int 0, .ref H_164.size, .int 0, .int 0, .int 0, .int 0, .int 0, .int 0, .int 0, .int 0, .int 0, .int 0, .ref H_174.size, .int 0, .int 0, .ref H_184.size, .int 0, .ref H_257.size, .int 0, .ref H_268.size, .ref H_279.size, .ref H_294.size, .int 0, .ref H_309.size, .ref H_320.size, .ref H_331.size, .ref H_342.size, .ref H_353.size, .ref H_364.size, .ref H_375.size, .ref H_386.size, .ref H_397.size, .ref H_408.size, .ref H_425.size, .ref H_436.size, .ref H_448.size, .ref H_460.size, .ref H_472.size, .int 0, .int 0, .int 0, .ref H_484.size, .ref H_496.size, .ref H_508.size, .int 0, .ref H_520.size, .ref H_536.size, .null])) H_548 := hraw_548
  have hkp_549 := hkp_541.put hr_548
  clear hh_545
  refine lv_aload_n hx hb dX14_init_409 rfl (lv_at hl 0 rfl) ?_
  refine lv_bipush (v := 40) hx hb dX14_init_410 (by decide) ?_
  clear hsz_538 htt_538
  have hsz_550 := hh_548.2.2.2.2.2.1
  have htt_550 := hh_548.2.2.2.2.2.2.1
  refine j7_newiK hx hb hK hh_548 hB (atype := .int) (ty := .int) (htw (.arrayClass .int) (jWr_3 _ (List.mem_of_getElem? (i := 20) rfl))) rfl rfl (fun _ h => h) hB101 1 rfl (by decide) (by decide) hbs (x := 40) (by decide) (by omega) (fun j => by first | trivial | decide | rfl | exact Or.inl rfl | exact Or.inr (Or.inl (by decide)) | (refine ⟨?_, ?_⟩ <;> decide)) (by rw [hRc]; omega) (by rw [hRs]; omega) dX14_init_412 (fun H_550 hfr_550 hh_550 => ?_)
  have hh_550 : jSt (dC, dI) B base G0 (va_up G_538 H_548.size (some (101, 40))) EX14_init s.heap (((((((((((((((((((((((((((((((((((((((((((((((((((((((0 + 1) + 1) + 1) + 1) + 1) + (1)) + 1) + (1)) + 1) + 1) + 1) + 1) + 1) + 1) + 1) + 1) + 1) + 1) + 1) + 1) + 1) + (6)) + 1) + (6)) + 1) + (6)) + 1) + 1) + 1) + (6)) + 1) + (6)) + 1) + 1) + 1) + 1) + 1) + 1) + 1) + 1) + 1) + 1) + (28)) + 1) + 1) + 1) + 1) + 1) + 1) + 1) + 1) + 1) + (6)) + 1) + 1) (((((((((((((((((((((((((((((((((((((((((((((((((((((((0 + 4000) + 20000) + 100000) + 3300) + 4) + (16)) + 4) + (16)) + 3100) + 3100) + 3100) + 3100) + 3100) + 3100) + 3100) + 3100) + 3100) + 3300) + 20) + 3) + 11) + (1700)) + 11) + (1700)) + 11) + (1700)) + 3100) + 1500) + 11) + (1700)) + 11) + (1700)) + 12) + 12) + 12) + 12) + 12) + 240) + 12) + 37200) + 12) + 50) + (720031)) + 3100) + 2) + 2) + 2) + 2) + 38400) + 24) + 1600) + 11) + (1700)) + 40) + 40) [(H_45.size, 0, 3, .int qc_52), (H_45.size, 0, 0, .ref xa_52), (H_31.size, 0, 3, .int qc_38), (H_31.size, 0, 0, .ref xa_38)] [(H_128.size, 123, 3100, ca 1, (fun _ => 0)), (H_112.size, 122, 3100, ca 1, (fun _ => 0))] [(jFz9, jDZ dC dI G_538), ([(208, 0)], jQc dC dI (ca 4) H_436.size 2 (fun _ => none)), ([(201, 0)], jQc dC dI (ca 4) H_184.size 3 (va_up (va_up (va_up (fun _ => none) 0 (some H_186.size)) 1 (some H_207.size)) 2 (some H_226.size)))] H_550 locs_548 := hh_550
  have hZ_550 : jN14 G_538 (va_up G_538 H_548.size (some (101, 40))) := jN14.new (by decide)
  have hN_550 : (jNk [1, 2, 3, 4, 5, 6, 7, 8, 9, 10, 11, 12, 13]) G_538 (va_up G_538 H_548.size (some (101, 40))) := jNk.new (by decide)
  have hgn_550 : (va_up G_538 H_548.size (some (101, 40))) H_548.size = some (101, 40) := jUp_self
  have hle_550 : jLe G_538 (va_up G_538 H_548.size (some (101, 40))) := jLe.new hh_548.2.1.fresh
  have hke_550 : jKe G_538 (va_up G_538 H_548.size (some (101, 40))) H_548 H_550 := jKe.new hfr_550
  have hsy_550 : s.heap.size ≤ H_548.size := hh_548.1.1
  generalize (va_up G_538 H_548.size (some (101, 40))) = G_550 at hN_550 hgn_550 hle_550 hke_550 hh_550 hZ_550
  clear hh_548
  have hNn_550 : (jNk [1, 2, 3, 4, 5, 6, 7, 8, 9, 10, 11, 12, 13]) G0 G_550 := (hNn_538).tr hN_550
  have hg_551 := hle_550 _ _ hg_539
  have hg_552 := hle_550 _ _ hg_540
  have hkp_553 := hkp_549.tr hke_550
  have hraw_554n := hke_550.nr hraw_548.lt hraw_542n
  have hraw_554 := hraw_548.kept (hke_550.1 _ hraw_548.lt)
  try have hz14_550 : jN14 G0 G_550 := (hz14_538).tr hZ_550
  have hd_555 := jDZ.grow (hh_550.iv 0 rfl) hle_550 hZ_550
  have hh_556 := hh_550.sub (L1 := [(H_45.size, 0, 3, .int qc_52), (H_45.size, 0, 0, .ref xa_52), (H_31.size, 0, 3, .int qc_38), (H_31.size, 0, 0, .ref xa_38)]) [0, 1, 2, 3] rfl (M1 := [(H_128.size, 123, 3100, ca 1, (fun _ => 0)), (H_112.size, 122, 3100, ca 1, (fun _ => 0))]) [0, 1] rfl (I1 := [([(208, 0)], jQc dC dI (ca 4) H_436.size 2 (fun _ => none)), ([(201, 0)], jQc dC dI (ca 4) H_184.size 3 (va_up (va_up (va_up (fun _ => none) 0 (some H_186.size)) 1 (some H_207.size)) 2 (some H_226.size)))]) [1, 2] rfl
  clear hh_550
  have hh_557 := hh_556.addI (jDZ.ie hd_555)
  clear hh_556
  refine j7_putRF hx hb hown hK hh_557 hB hAp hraw_554 hraw_554n hbr0 (C := RX14) (T := TX14) (N := 74) rfl (i := 73) (by decide) (Nat.le_of_ble_eq_true rfl) hly_16_73 rfl hin2 rfl hlk_157 (ty := (.array .int)) (v := .ref H_548.size) (by decide +kernel) rfl rfl dX14_init_414 (fun H_560 locs_560 hraw_560 hr_560 hh_560 => ?_)
  have hraw_560 : va_at (dC, dI) vwCl (r0, .inr (16, [.ref s.heap.size, .int 0, .ref H_7.size, .int 0, .int 0, .ref H_15.size, .int 0, .int 0, .int 0, .ref H_23.size, .int 0, .int 0, .int 0, .ref H_31.size, .ref H_45.size, .int (-1), .int 0, .ref H_62.size, .ref H_72.size, .ref H_82.size, .ref H_92.size, .ref H_102.size, .ref H_112.size, .ref H_128.size, .ref H_144.size, .ref H_154.size, .int 0, .ref H_164.size, .int 0, .int 0, .int 0, .int 0, .int 0, .int 0, .int 0, .int 0, .int 0, .int 0, .ref H_174.size, .int 0, .int 0, .ref H_184.size, .int 0, .ref H_257.size, .int 0, .ref H_268.size, .ref H_279.size, .ref H_294.size, .int 0, .ref H_309.size, .ref H_320.size, .ref H_331.size, .ref H_342.size, .ref H_353.size, .ref H_364.size, .ref H_375.size, .ref H_386.size, .ref H_397.size, .ref H_408.size, .ref H_425.size, .ref H_436.size, .ref H_448.size, .ref H_460.size, .ref H_472.size, .int 0, .int 0, .int 0, .ref H_484.size, .ref H_496.size, .ref H_508.size, .int 0, .ref H_520.size, .ref H_536.size, .ref H_548.size])) H_560 := hraw_560
  have hkp_561 := hkp_553.put hr_560
  clear hh_557
  clear hsz_550 htt_550
  have hsz_562 := hh_560.2.2.2.2.2.1
  have htt_562 := hh_560.2.2.2.2.2.2.1
  refine W.room (fun hrc_562 hrs_562 => ?_)
  refine W.widen (k := LC - s.heap.size) (n := LS - jTot s.heap) (by omega) (by omega) ?_
  rw [hQ]
  have hle_563 : jLe G_550 (va_up G_550 r0 (some (16, 0))) := jLe.typ hraw_554n
  have hg_564 := hle_563 _ _ hg_551
  have hg_565 := hle_563 _ _ hg_552
  have hg_566 := (((((((((((((((((((((((((((((((((((((((((((((hle_9).tr hle_17).tr hle_25).tr hb_382).tr hb_522).tr hle_64).tr hle_74).tr hle_84).tr hle_94).tr hle_104).tr hle_119).tr hle_135).tr hle_146).tr hle_156).tr hle_166).tr hle_176).tr hb_1992).tr hb_2182).tr hb_2372).tr hle_248).tr hle_259).tr hle_270).tr hb_2862).tr hb_3012).tr hle_311).tr hle_322).tr hle_333).tr hle_344).tr hle_355).tr hle_366).tr hle_377).tr hle_388).tr hle_399).tr hb_4152).tr hle_427).tr hle_438).tr hle_450).tr hle_462).tr hle_474).tr hle_486).tr hle_498).tr hle_510).tr hb_5272).tr hle_538).tr hle_550).tr hle_563 _ _ hgn_1
  have hg_567 := ((((((((((((((((((((((((((((((((((((((((((((hle_17).tr hle_25).tr hb_382).tr hb_522).tr hle_64).tr hle_74).tr hle_84).tr hle_94).tr hle_104).tr hle_119).tr hle_135).tr hle_146).tr hle_156).tr hle_166).tr hle_176).tr hb_1992).tr hb_2182).tr hb_2372).tr hle_248).tr hle_259).tr hle_270).tr hb_2862).tr hb_3012).tr hle_311).tr hle_322).tr hle_333).tr hle_344).tr hle_355).tr hle_366).tr hle_377).tr hle_388).tr hle_399).tr hb_4152).tr hle_427).tr hle_438).tr hle_450).tr hle_462).tr hle_474).tr hle_486).tr hle_498).tr hle_510).tr hb_5272).tr hle_538).tr hle_550).tr hle_563 _ _ hgn_9
  have hg_568 := (((((((((((((((((((((((((((((((((((((((((((hle_25).tr hb_382).tr hb_522).tr hle_64).tr hle_74).tr hle_84).tr hle_94).tr hle_104).tr hle_119).tr hle_135).tr hle_146).tr hle_156).tr hle_166).tr hle_176).tr hb_1992).tr hb_2182).tr hb_2372).tr hle_248).tr hle_259).tr hle_270).tr hb_2862).tr hb_3012).tr hle_311).tr hle_322).tr hle_333).tr hle_344).tr hle_355).tr hle_366).tr hle_377).tr hle_388).tr hle_399).tr hb_4152).tr hle_427).tr hle_438).tr hle_450).tr hle_462).tr hle_474).tr hle_486).tr hle_498).tr hle_510).tr hb_5272).tr hle_538).tr hle_550).tr hle_563 _ _ hgn_17
  have hg_569 := ((((((((((((((((((((((((((((((((((((((((((hb_382).tr hb_522).tr hle_64).tr hle_74).tr hle_84).tr hle_94).tr hle_104).tr hle_119).tr hle_135).tr hle_146).tr hle_156).tr hle_166).tr hle_176).tr hb_1992).tr hb_2182).tr hb_2372).tr hle_248).tr hle_259).tr hle_270).tr hb_2862).tr hb_3012).tr hle_311).tr hle_322).tr hle_333).tr hle_344).tr hle_355).tr hle_366).tr hle_377).tr hle_388).tr hle_399).tr hb_4152).tr hle_427).tr hle_438).tr hle_450).tr hle_462).tr hle_474).tr hle_486).tr hle_498).tr hle_510).tr hb_5272).tr hle_538).tr hle_550).tr hle_563 _ _ hgn_25
  have hg_570 := (((((((((((((((((((((((((((((((((((((((((hb_522).tr hle_64).tr hle_74).tr hle_84).tr hle_94).tr hle_104).tr hle_119).tr hle_135).tr hle_146).tr hle_156).tr hle_166).tr hle_176).tr hb_1992).tr hb_2182).tr hb_2372).tr hle_248).tr hle_259).tr hle_270).tr hb_2862).tr hb_3012).tr hle_311).tr hle_322).tr hle_333).tr hle_344).tr hle_355).tr hle_366).tr hle_377).tr hle_388).tr hle_399).tr hb_4152).tr hle_427).tr hle_438).tr hle_450).tr hle_462).tr hle_474).tr hle_486).tr hle_498).tr hle_510).tr hb_5272).tr hle_538).tr hle_550).tr hle_563 _ _ hgc_38
  have hg_571 := ((((((((((((((((((((((((((((((((((((((((hle_64).tr hle_74).tr hle_84).tr hle_94).tr hle_104).tr hle_119).tr hle_135).tr hle_146).tr hle_156).tr hle_166).tr hle_176).tr hb_1992).tr hb_2182).tr hb_2372).tr hle_248).tr hle_259).tr hle_270).tr hb_2862).tr hb_3012).tr hle_311).tr hle_322).tr hle_333).tr hle_344).tr hle_355).tr hle_366).tr hle_377).tr hle_388).tr hle_399).tr hb_4152).tr hle_427).tr hle_438).tr hle_450).tr hle_462).tr hle_474).tr hle_486).tr hle_498).tr hle_510).tr hb_5272).tr hle_538).tr hle_550).tr hle_563 _ _ hgc_52
  have hg_572 := (((((((((((((((((((((((((((((((((((((((hle_74).tr hle_84).tr hle_94).tr hle_104).tr hle_119).tr hle_135).tr hle_146).tr hle_156).tr hle_166).tr hle_176).tr hb_1992).tr hb_2182).tr hb_2372).tr hle_248).tr hle_259).tr hle_270).tr hb_2862).tr hb_3012).tr hle_311).tr hle_322).tr hle_333).tr hle_344).tr hle_355).tr hle_366).tr hle_377).tr hle_388).tr hle_399).tr hb_4152).tr hle_427).tr hle_438).tr hle_450).tr hle_462).tr hle_474).tr hle_486).tr hle_498).tr hle_510).tr hb_5272).tr hle_538).tr hle_550).tr hle_563 _ _ hgn_64
  have hg_573 := ((((((((((((((((((((((((((((((((((((((hle_84).tr hle_94).tr hle_104).tr hle_119).tr hle_135).tr hle_146).tr hle_156).tr hle_166).tr hle_176).tr hb_1992).tr hb_2182).tr hb_2372).tr hle_248).tr hle_259).tr hle_270).tr hb_2862).tr hb_3012).tr hle_311).tr hle_322).tr hle_333).tr hle_344).tr hle_355).tr hle_366).tr hle_377).tr hle_388).tr hle_399).tr hb_4152).tr hle_427).tr hle_438).tr hle_450).tr hle_462).tr hle_474).tr hle_486).tr hle_498).tr hle_510).tr hb_5272).tr hle_538).tr hle_550).tr hle_563 _ _ hgn_74
  have hg_574 := (((((((((((((((((((((((((((((((((((((hle_94).tr hle_104).tr hle_119).tr hle_135).tr hle_146).tr hle_156).tr hle_166).tr hle_176).tr hb_1992).tr hb_2182).tr hb_2372).tr hle_248).tr hle_259).tr hle_270).tr hb_2862).tr hb_3012).tr hle_311).tr hle_322).tr hle_333).tr hle_344).tr hle_355).tr hle_366).tr hle_377).tr hle_388).tr hle_399).tr hb_4152).tr hle_427).tr hle_438).tr hle_450).tr hle_462).tr hle_474).tr hle_486).tr hle_498).tr hle_510).tr hb_5272).tr hle_538).tr hle_550).tr hle_563 _ _ hgn_84
  have hg_575 := ((((((((((((((((((((((((((((((((((((hle_104).tr hle_119).tr hle_135).tr hle_146).tr hle_156).tr hle_166).tr hle_176).tr hb_1992).tr hb_2182).tr hb_2372).tr hle_248).tr hle_259).tr hle_270).tr hb_2862).tr hb_3012).tr hle_311).tr hle_322).tr hle_333).tr hle_344).tr hle_355).tr hle_366).tr hle_377).tr hle_388).tr hle_399).tr hb_4152).tr hle_427).tr hle_438).tr hle_450).tr hle_462).tr hle_474).tr hle_486).tr hle_498).tr hle_510).tr hb_5272).tr hle_538).tr hle_550).tr hle_563 _ _ hgn_94
  have hg_576 := (((((((((((((((((((((((((((((((((((hle_119).tr hle_135).tr hle_146).tr hle_156).tr hle_166).tr hle_176).tr hb_1992).tr hb_2182).tr hb_2372).tr hle_248).tr hle_259).tr hle_270).tr hb_2862).tr hb_3012).tr hle_311).tr hle_322).tr hle_333).tr hle_344).tr hle_355).tr hle_366).tr hle_377).tr hle_388).tr hle_399).tr hb_4152).tr hle_427).tr hle_438).tr hle_450).tr hle_462).tr hle_474).tr hle_486).tr hle_498).tr hle_510).tr hb_5272).tr hle_538).tr hle_550).tr hle_563 _ _ hgn_104
  have hg_577 := ((((((((((((((((((((((((((((((((((hle_135).tr hle_146).tr hle_156).tr hle_166).tr hle_176).tr hb_1992).tr hb_2182).tr hb_2372).tr hle_248).tr hle_259).tr hle_270).tr hb_2862).tr hb_3012).tr hle_311).tr hle_322).tr hle_333).tr hle_344).tr hle_355).tr hle_366).tr hle_377).tr hle_388).tr hle_399).tr hb_4152).tr hle_427).tr hle_438).tr hle_450).tr hle_462).tr hle_474).tr hle_486).tr hle_498).tr hle_510).tr hb_5272).tr hle_538).tr hle_550).tr hle_563 _ _ hgn_119
  have hg_578 := (((((((((((((((((((((((((((((((((hle_146).tr hle_156).tr hle_166).tr hle_176).tr hb_1992).tr hb_2182).tr hb_2372).tr hle_248).tr hle_259).tr hle_270).tr hb_2862).tr hb_3012).tr hle_311).tr hle_322).tr hle_333).tr hle_344).tr hle_355).tr hle_366).tr hle_377).tr hle_388).tr hle_399).tr hb_4152).tr hle_427).tr hle_438).tr hle_450).tr hle_462).tr hle_474).tr hle_486).tr hle_498).tr hle_510).tr hb_5272).tr hle_538).tr hle_550).tr hle_563 _ _ hgn_135
  have hg_579 := ((((((((((((((((((((((((((((((((hle_156).tr hle_166).tr hle_176).tr hb_1992).tr hb_2182).tr hb_2372).tr hle_248).tr hle_259).tr hle_270).tr hb_2862).tr hb_3012).tr hle_311).tr hle_322).tr hle_333).tr hle_344).tr hle_355).tr hle_366).tr hle_377).tr hle_388).tr hle_399).tr hb_4152).tr hle_427).tr hle_438).tr hle_450).tr hle_462).tr hle_474).tr hle_486).tr hle_498).tr hle_510).tr hb_5272).tr hle_538).tr hle_550).tr hle_563 _ _ hgn_146
  have hg_580 := (((((((((((((((((((((((((((((((hle_166).tr hle_176).tr hb_1992).tr hb_2182).tr hb_2372).tr hle_248).tr hle_259).tr hle_270).tr hb_2862).tr hb_3012).tr hle_311).tr hle_322).tr hle_333).tr hle_344).tr hle_355).tr hle_366).tr hle_377).tr hle_388).tr hle_399).tr hb_4152).tr hle_427).tr hle_438).tr hle_450).tr hle_462).tr hle_474).tr hle_486).tr hle_498).tr hle_510).tr hb_5272).tr hle_538).tr hle_550).tr hle_563 _ _ hgn_156
  have hg_581 := ((((((((((((((((((((((((((((((hle_176).tr hb_1992).tr hb_2182).tr hb_2372).tr hle_248).tr hle_259).tr hle_270).tr hb_2862).tr hb_3012).tr hle_311).tr hle_322).tr hle_333).tr hle_344).tr hle_355).tr hle_366).tr hle_377).tr hle_388).tr hle_399).tr hb_4152).tr hle_427).tr hle_438).tr hle_450).tr hle_462).tr hle_474).tr hle_486).tr hle_498).tr hle_510).tr hb_5272).tr hle_538).tr hle_550).tr hle_563 _ _ hgn_166
  have hg_582 := (((((((((((((((((((((((((((((hb_1992).tr hb_2182).tr hb_2372).tr hle_248).tr hle_259).tr hle_270).tr hb_2862).tr hb_3012).tr hle_311).tr hle_322).tr hle_333).tr hle_344).tr hle_355).tr hle_366).tr hle_377).tr hle_388).tr hle_399).tr hb_4152).tr hle_427).tr hle_438).tr hle_450).tr hle_462).tr hle_474).tr hle_486).tr hle_498).tr hle_510).tr hb_5272).tr hle_538).tr hle_550).tr hle_563 _ _ hgn_176
  have hg_583 := (((((((((((((((((((((((((hle_259).tr hle_270).tr hb_2862).tr hb_3012).tr hle_311).tr hle_322).tr hle_333).tr hle_344).tr hle_355).tr hle_366).tr hle_377).tr hle_388).tr hle_399).tr hb_4152).tr hle_427).tr hle_438).tr hle_450).tr hle_462).tr hle_474).tr hle_486).tr hle_498).tr hle_510).tr hb_5272).tr hle_538).tr hle_550).tr hle_563 _ _ hgn_248
  have hg_584 := ((((((((((((((((((((((((hle_270).tr hb_2862).tr hb_3012).tr hle_311).tr hle_322).tr hle_333).tr hle_344).tr hle_355).tr hle_366).tr hle_377).tr hle_388).tr hle_399).tr hb_4152).tr hle_427).tr hle_438).tr hle_450).tr hle_462).tr hle_474).tr hle_486).tr hle_498).tr hle_510).tr hb_5272).tr hle_538).tr hle_550).tr hle_563 _ _ hgn_259
  have hg_585 := (((((((((((((((((((((((hb_2862).tr hb_3012).tr hle_311).tr hle_322).tr hle_333).tr hle_344).tr hle_355).tr hle_366).tr hle_377).tr hle_388).tr hle_399).tr hb_4152).tr hle_427).tr hle_438).tr hle_450).tr hle_462).tr hle_474).tr hle_486).tr hle_498).tr hle_510).tr hb_5272).tr hle_538).tr hle_550).tr hle_563 _ _ hgn_270
  have hg_586 := ((((((((((((((((((((((hb_3012).tr hle_311).tr hle_322).tr hle_333).tr hle_344).tr hle_355).tr hle_366).tr hle_377).tr hle_388).tr hle_399).tr hb_4152).tr hle_427).tr hle_438).tr hle_450).tr hle_462).tr hle_474).tr hle_486).tr hle_498).tr hle_510).tr hb_5272).tr hle_538).tr hle_550).tr hle_563 _ _ hgc_286
  have hg_587 := (((((((((((((((((((((hle_311).tr hle_322).tr hle_333).tr hle_344).tr hle_355).tr hle_366).tr hle_377).tr hle_388).tr hle_399).tr hb_4152).tr hle_427).tr hle_438).tr hle_450).tr hle_462).tr hle_474).tr hle_486).tr hle_498).tr hle_510).tr hb_5272).tr hle_538).tr hle_550).tr hle_563 _ _ hgc_301
  have hg_588 := ((((((((((((((((((((hle_322).tr hle_333).tr hle_344).tr hle_355).tr hle_366).tr hle_377).tr hle_388).tr hle_399).tr hb_4152).tr hle_427).tr hle_438).tr hle_450).tr hle_462).tr hle_474).tr hle_486).tr hle_498).tr hle_510).tr hb_5272).tr hle_538).tr hle_550).tr hle_563 _ _ hgn_311
  have hg_589 := (((((((((((((((((((hle_333).tr hle_344).tr hle_355).tr hle_366).tr hle_377).tr hle_388).tr hle_399).tr hb_4152).tr hle_427).tr hle_438).tr hle_450).tr hle_462).tr hle_474).tr hle_486).tr hle_498).tr hle_510).tr hb_5272).tr hle_538).tr hle_550).tr hle_563 _ _ hgn_322
  have hg_590 := ((((((((((((((((((hle_344).tr hle_355).tr hle_366).tr hle_377).tr hle_388).tr hle_399).tr hb_4152).tr hle_427).tr hle_438).tr hle_450).tr hle_462).tr hle_474).tr hle_486).tr hle_498).tr hle_510).tr hb_5272).tr hle_538).tr hle_550).tr hle_563 _ _ hgn_333
  have hg_591 := (((((((((((((((((hle_355).tr hle_366).tr hle_377).tr hle_388).tr hle_399).tr hb_4152).tr hle_427).tr hle_438).tr hle_450).tr hle_462).tr hle_474).tr hle_486).tr hle_498).tr hle_510).tr hb_5272).tr hle_538).tr hle_550).tr hle_563 _ _ hgn_344
  have hg_592 := ((((((((((((((((hle_366).tr hle_377).tr hle_388).tr hle_399).tr hb_4152).tr hle_427).tr hle_438).tr hle_450).tr hle_462).tr hle_474).tr hle_486).tr hle_498).tr hle_510).tr hb_5272).tr hle_538).tr hle_550).tr hle_563 _ _ hgn_355
  have hg_593 := (((((((((((((((hle_377).tr hle_388).tr hle_399).tr hb_4152).tr hle_427).tr hle_438).tr hle_450).tr hle_462).tr hle_474).tr hle_486).tr hle_498).tr hle_510).tr hb_5272).tr hle_538).tr hle_550).tr hle_563 _ _ hgn_366
  have hg_594 := ((((((((((((((hle_388).tr hle_399).tr hb_4152).tr hle_427).tr hle_438).tr hle_450).tr hle_462).tr hle_474).tr hle_486).tr hle_498).tr hle_510).tr hb_5272).tr hle_538).tr hle_550).tr hle_563 _ _ hgn_377
  have hg_595 := (((((((((((((hle_399).tr hb_4152).tr hle_427).tr hle_438).tr hle_450).tr hle_462).tr hle_474).tr hle_486).tr hle_498).tr hle_510).tr hb_5272).tr hle_538).tr hle_550).tr hle_563 _ _ hgn_388
  have hg_596 := ((((((((((((hb_4152).tr hle_427).tr hle_438).tr hle_450).tr hle_462).tr hle_474).tr hle_486).tr hle_498).tr hle_510).tr hb_5272).tr hle_538).tr hle_550).tr hle_563 _ _ hgn_399
  have hg_597 := (((((((((((hle_427).tr hle_438).tr hle_450).tr hle_462).tr hle_474).tr hle_486).tr hle_498).tr hle_510).tr hb_5272).tr hle_538).tr hle_550).tr hle_563 _ _ hgc_415
  have hg_598 := ((((((((((hle_438).tr hle_450).tr hle_462).tr hle_474).tr hle_486).tr hle_498).tr hle_510).tr hb_5272).tr hle_538).tr hle_550).tr hle_563 _ _ hgn_427
  have hg_599 := (((((((((hle_450).tr hle_462).tr hle_474).tr hle_486).tr hle_498).tr hle_510).tr hb_5272).tr hle_538).tr hle_550).tr hle_563 _ _ hgn_438
  have hg_600 := ((((((((hle_462).tr hle_474).tr hle_486).tr hle_498).tr hle_510).tr hb_5272).tr hle_538).tr hle_550).tr hle_563 _ _ hgn_450
  have hg_601 := (((((((hle_474).tr hle_486).tr hle_498).tr hle_510).tr hb_5272).tr hle_538).tr hle_550).tr hle_563 _ _ hgn_462
  have hg_602 := ((((((hle_486).tr hle_498).tr hle_510).tr hb_5272).tr hle_538).tr hle_550).tr hle_563 _ _ hgn_474
  have hg_603 := (((((hle_498).tr hle_510).tr hb_5272).tr hle_538).tr hle_550).tr hle_563 _ _ hgn_486
  have hg_604 := ((((hle_510).tr hb_5272).tr hle_538).tr hle_550).tr hle_563 _ _ hgn_498
  have hg_605 := (((hb_5272).tr hle_538).tr hle_550).tr hle_563 _ _ hgn_510
  have hg_606 := ((hle_538).tr hle_550).tr hle_563 _ _ hgc_527
  have hg_607 := (hle_550).tr hle_563 _ _ hgn_538
  have hg_608 := (jLe.rf).tr hle_563 _ _ hgn_550
  have hfa_563 : jRf (va_up G_550 r0 (some (16, 0))) 111 4000 (.ref s.heap.size) ∧ jI 0 4000 (.int 0) ∧ jRf (va_up G_550 r0 (some (16, 0))) 101 20000 (.ref H_7.size) ∧ jI 0 20000 (.int 0) ∧ jIa (.int 0) ∧ jRf (va_up G_550 r0 (some (16, 0))) 101 100000 (.ref H_15.size) ∧ jI 0 100000 (.int 0) ∧ jZb (.int 0) ∧ jIa (.int 0) ∧ jRf (va_up G_550 r0 (some (16, 0))) 110 3300 (.ref H_23.size) ∧ jIa (.int 0) ∧ jIa (.int 0) ∧ jIa (.int 0) ∧ jRf (va_up G_550 r0 (some (16, 0))) 0 0 (.ref H_31.size) ∧ jRf (va_up G_550 r0 (some (16, 0))) 0 0 (.ref H_45.size) ∧ jI (-1) 3000 (.int (-1)) ∧ jIa (.int 0) ∧ jRf (va_up G_550 r0 (some (16, 0))) 117 3100 (.ref H_62.size) ∧ jRf (va_up G_550 r0 (some (16, 0))) 118 3100 (.ref H_72.size) ∧ jRf (va_up G_550 r0 (some (16, 0))) 119 3100 (.ref H_82.size) ∧ jRf (va_up G_550 r0 (some (16, 0))) 120 3100 (.ref H_92.size) ∧ jRf (va_up G_550 r0 (some (16, 0))) 121 3100 (.ref H_102.size) ∧ jRf (va_up G_550 r0 (some (16, 0))) 122 3100 (.ref H_112.size) ∧ jRf (va_up G_550 r0 (some (16, 0))) 123 3100 (.ref H_128.size) ∧ jRf (va_up G_550 r0 (some (16, 0))) 124 3100 (.ref H_144.size) ∧ jRf (va_up G_550 r0 (some (16, 0))) 125 3100 (.ref H_154.size) ∧ jI 0 3100 (.int 0) ∧ jRf (va_up G_550 r0 (some (16, 0))) 127 3300 (.ref H_164.size) ∧ jI 0 3300 (.int 0) ∧ jI 0 100000 (.int 0) ∧ jI 0 3000 (.int 0) ∧ jZb (.int 0) ∧ jI 0 3300 (.int 0) ∧ jIa (.int 0) ∧ jZb (.int 0) ∧ jZb (.int 0) ∧ jZb (.int 0) ∧ jIa (.int 0) ∧ jRf (va_up G_550 r0 (some (16, 0))) 101 20 (.ref H_174.size) ∧ jI (-3300) 20 (.int 0) ∧ jZb (.int 0) ∧ jRf (va_up G_550 r0 (some (16, 0))) 201 3 (.ref H_184.size) ∧ jI 0 3 (.int 0) ∧ jRf (va_up G_550 r0 (some (16, 0))) 101 3100 (.ref H_257.size) ∧ jI 0 1500 (.int 0) ∧ jRf (va_up G_550 r0 (some (16, 0))) 101 1500 (.ref H_268.size) ∧ jRf (va_up G_550 r0 (some (16, 0))) 14 0 (.ref H_279.size) ∧ jRf (va_up G_550 r0 (some (16, 0))) 14 0 (.ref H_294.size) ∧ jI 0 12 (.int 0) ∧ jRf (va_up G_550 r0 (some (16, 0))) 202 12 (.ref H_309.size) ∧ jRf (va_up G_550 r0 (some (16, 0))) 103 12 (.ref H_320.size) ∧ jRf (va_up G_550 r0 (some (16, 0))) 206 12 (.ref H_331.size) ∧ jRf (va_up G_550 r0 (some (16, 0))) 103 12 (.ref H_342.size) ∧ jRf (va_up G_550 r0 (some (16, 0))) 101 12 (.ref H_353.size) ∧ jRf (va_up G_550 r0 (some (16, 0))) 101 240 (.ref H_364.size) ∧ jRf (va_up G_550 r0 (some (16, 0))) 203 12 (.ref H_375.size) ∧ jRf (va_up G_550 r0 (some (16, 0))) 101 37200 (.ref H_386.size) ∧ jRf (va_up G_550 r0 (some (16, 0))) 204 12 (.ref H_397.size) ∧ jRf (va_up G_550 r0 (some (16, 0))) 15 0 (.ref H_408.size) ∧ jRf (va_up G_550 r0 (some (16, 0))) 101 3100 (.ref H_425.size) ∧ jRf (va_up G_550 r0 (some (16, 0))) 208 2 (.ref H_436.size) ∧ jRf (va_up G_550 r0 (some (16, 0))) 207 2 (.ref H_448.size) ∧ jRf (va_up G_550 r0 (some (16, 0))) 101 2 (.ref H_460.size) ∧ jRf (va_up G_550 r0 (some (16, 0))) 103 2 (.ref H_472.size) ∧ jIa (.int 0) ∧ jIa (.int 0) ∧ jI 0 24 (.int 0) ∧ jRf (va_up G_550 r0 (some (16, 0))) 101 38400 (.ref H_484.size) ∧ jRf (va_up G_550 r0 (some (16, 0))) 205 24 (.ref H_496.size) ∧ jRf (va_up G_550 r0 (some (16, 0))) 101 1600 (.ref H_508.size) ∧ jI 0 1600 (.int 0) ∧ jRf (va_up G_550 r0 (some (16, 0))) 14 0 (.ref H_520.size) ∧ jRf (va_up G_550 r0 (some (16, 0))) 101 40 (.ref H_536.size) ∧ jRf (va_up G_550 r0 (some (16, 0))) 101 40 (.ref H_548.size) ∧ True := ⟨⟨_, rfl, hg_566⟩, ⟨_, rfl, by omega, by omega⟩, ⟨_, rfl, hg_567⟩, ⟨_, rfl, by omega, by omega⟩, ⟨_, rfl⟩, ⟨_, rfl, hg_568⟩, ⟨_, rfl, by omega, by omega⟩, ⟨_, rfl, Or.inl rfl⟩, ⟨_, rfl⟩, ⟨_, rfl, hg_569⟩, ⟨_, rfl⟩, ⟨_, rfl⟩, ⟨_, rfl⟩, ⟨_, rfl, hg_570⟩, ⟨_, rfl, hg_571⟩, ⟨_, rfl, by omega, by omega⟩, ⟨_, rfl⟩, ⟨_, rfl, hg_572⟩, ⟨_, rfl, hg_573⟩, ⟨_, rfl, hg_574⟩, ⟨_, rfl, hg_575⟩, ⟨_, rfl, hg_576⟩, ⟨_, rfl, hg_577⟩, ⟨_, rfl, hg_578⟩, ⟨_, rfl, hg_579⟩, ⟨_, rfl, hg_580⟩, ⟨_, rfl, by omega, by omega⟩, ⟨_, rfl, hg_581⟩, ⟨_, rfl, by omega, by omega⟩, ⟨_, rfl, by omega, by omega⟩, ⟨_, rfl, by omega, by omega⟩, ⟨_, rfl, Or.inl rfl⟩, ⟨_, rfl, by omega, by omega⟩, ⟨_, rfl⟩, ⟨_, rfl, Or.inl rfl⟩, ⟨_, rfl, Or.inl rfl⟩, ⟨_, rfl, Or.inl rfl⟩, ⟨_, rfl⟩, ⟨_, rfl, hg_582⟩, ⟨_, rfl, by omega, by omega⟩, ⟨_, rfl, Or.inl rfl⟩, ⟨_, rfl, hg_583⟩, ⟨_, rfl, by omega, by omega⟩, ⟨_, rfl, hg_584⟩, ⟨_, rfl, by omega, by omega⟩, ⟨_, rfl, hg_585⟩, ⟨_, rfl, hg_586⟩, ⟨_, rfl, hg_587⟩, ⟨_, rfl, by omega, by omega⟩, ⟨_, rfl, hg_588⟩, ⟨_, rfl, hg_589⟩, ⟨_, rfl, hg_590⟩, ⟨_, rfl, hg_591⟩, ⟨_, rfl, hg_592⟩, ⟨_, rfl, hg_593⟩, ⟨_, rfl, hg_594⟩, ⟨_, rfl, hg_595⟩, ⟨_, rfl, hg_596⟩, ⟨_, rfl, hg_597⟩, ⟨_, rfl, hg_598⟩, ⟨_, rfl, hg_599⟩, ⟨_, rfl, hg_600⟩, ⟨_, rfl, hg_601⟩, ⟨_, rfl, hg_602⟩, ⟨_, rfl⟩, ⟨_, rfl⟩, ⟨_, rfl, by omega, by omega⟩, ⟨_, rfl, hg_603⟩, ⟨_, rfl, hg_604⟩, ⟨_, rfl, hg_605⟩, ⟨_, rfl, by omega, by omega⟩, ⟨_, rfl, hg_606⟩, ⟨_, rfl, hg_607⟩, ⟨_, rfl, hg_608⟩, trivial⟩
  have hh_563 := hh_560.typ (k := 16) (n := 0) hB hraw_554n hbr0 hraw_560.lt (jOb.of (C := RX14) (T := TX14) (N := 74) (F := F16) hB16 rfl hraw_560 (show jFx (F16 0 (va_up G_550 r0 (some (16, 0)))) [.ref s.heap.size, .int 0, .ref H_7.size, .int 0, .int 0, .ref H_15.size, .int 0, .int 0, .int 0, .ref H_23.size, .int 0, .int 0, .int 0, .ref H_31.size, .ref H_45.size, .int (-1), .int 0, .ref H_62.size, .ref H_72.size, .ref H_82.size, .ref H_92.size, .ref H_102.size, .ref H_112.size, .ref H_128.size, .ref H_144.size, .ref H_154.size, .int 0, .ref H_164.size, .int 0, .int 0, .int 0, .int 0, .int 0, .int 0, .int 0, .int 0, .int 0, .int 0, .ref H_174.size, .int 0, .int 0, .ref H_184.size, .int 0, .ref H_257.size, .int 0, .ref H_268.size, .ref H_279.size, .ref H_294.size, .int 0, .ref H_309.size, .ref H_320.size, .ref H_331.size, .ref H_342.size, .ref H_353.size, .ref H_364.size, .ref H_375.size, .ref H_386.size, .ref H_397.size, .ref H_408.size, .ref H_425.size, .ref H_436.size, .ref H_448.size, .ref H_460.size, .ref H_472.size, .int 0, .int 0, .int 0, .ref H_484.size, .ref H_496.size, .ref H_508.size, .int 0, .ref H_520.size, .ref H_536.size, .ref H_548.size] from hfa_563))
  have hgn_563 : (va_up G_550 r0 (some (16, 0))) r0 = some (16, 0) := jUp_self
  have hN_563 : (jNk [1, 2, 3, 4, 5, 6, 7, 8, 9, 10, 11, 12, 13]) G_550 (va_up G_550 r0 (some (16, 0))) := jNk.new (by decide)
  have hNn_563 : (jNk [1, 2, 3, 4, 5, 6, 7, 8, 9, 10, 11, 12, 13]) G0 (va_up G_550 r0 (some (16, 0))) := (hNn_550).tr hN_563
  have hkp_609 := hkp_561.typ (t := some (16, 0))
  have hg_610 := ((((((((((((((((((((((((((((((((((((((((((hb_522).tr hle_64).tr hle_74).tr hle_84).tr hle_94).tr hle_104).tr hle_119).tr hle_135).tr hle_146).tr hle_156).tr hle_166).tr hle_176).tr hb_1992).tr hb_2182).tr hb_2372).tr hle_248).tr hle_259).tr hle_270).tr hb_2862).tr hb_3012).tr hle_311).tr hle_322).tr hle_333).tr hle_344).tr hle_355).tr hle_366).tr hle_377).tr hle_388).tr hle_399).tr hb_4152).tr hle_427).tr hle_438).tr hle_450).tr hle_462).tr hle_474).tr hle_486).tr hle_498).tr hle_510).tr hb_5272).tr hle_538).tr hle_550).tr hle_563) _ _ hgc_38
  have hg_611 := (((((((((((((((((((((((((((((((((((((((((hle_64).tr hle_74).tr hle_84).tr hle_94).tr hle_104).tr hle_119).tr hle_135).tr hle_146).tr hle_156).tr hle_166).tr hle_176).tr hb_1992).tr hb_2182).tr hb_2372).tr hle_248).tr hle_259).tr hle_270).tr hb_2862).tr hb_3012).tr hle_311).tr hle_322).tr hle_333).tr hle_344).tr hle_355).tr hle_366).tr hle_377).tr hle_388).tr hle_399).tr hb_4152).tr hle_427).tr hle_438).tr hle_450).tr hle_462).tr hle_474).tr hle_486).tr hle_498).tr hle_510).tr hb_5272).tr hle_538).tr hle_550).tr hle_563) _ _ hgc_52
  have hg_612 := ((((((((((((((((((((((((((hle_259).tr hle_270).tr hb_2862).tr hb_3012).tr hle_311).tr hle_322).tr hle_333).tr hle_344).tr hle_355).tr hle_366).tr hle_377).tr hle_388).tr hle_399).tr hb_4152).tr hle_427).tr hle_438).tr hle_450).tr hle_462).tr hle_474).tr hle_486).tr hle_498).tr hle_510).tr hb_5272).tr hle_538).tr hle_550).tr hle_563) _ _ hgn_248
  have hg_613 := ((((((((((hle_450).tr hle_462).tr hle_474).tr hle_486).tr hle_498).tr hle_510).tr hb_5272).tr hle_538).tr hle_550).tr hle_563) _ _ hgn_438
  have hg_614 := (((((((((hle_462).tr hle_474).tr hle_486).tr hle_498).tr hle_510).tr hb_5272).tr hle_538).tr hle_550).tr hle_563) _ _ hgn_450
  have hg_615 := (((((((((((((((((((((((hb_3012).tr hle_311).tr hle_322).tr hle_333).tr hle_344).tr hle_355).tr hle_366).tr hle_377).tr hle_388).tr hle_399).tr hb_4152).tr hle_427).tr hle_438).tr hle_450).tr hle_462).tr hle_474).tr hle_486).tr hle_498).tr hle_510).tr hb_5272).tr hle_538).tr hle_550).tr hle_563) _ _ hgc_286
  have hg_616 := ((((((((((((((((((((((hle_311).tr hle_322).tr hle_333).tr hle_344).tr hle_355).tr hle_366).tr hle_377).tr hle_388).tr hle_399).tr hb_4152).tr hle_427).tr hle_438).tr hle_450).tr hle_462).tr hle_474).tr hle_486).tr hle_498).tr hle_510).tr hb_5272).tr hle_538).tr hle_550).tr hle_563) _ _ hgc_301
  have hg_617 := (((hle_538).tr hle_550).tr hle_563) _ _ hgc_527
  have hg_618 := (((((((((((((((((((((((((((((((((((hle_135).tr hle_146).tr hle_156).tr hle_166).tr hle_176).tr hb_1992).tr hb_2182).tr hb_2372).tr hle_248).tr hle_259).tr hle_270).tr hb_2862).tr hb_3012).tr hle_311).tr hle_322).tr hle_333).tr hle_344).tr hle_355).tr hle_366).tr hle_377).tr hle_388).tr hle_399).tr hb_4152).tr hle_427).tr hle_438).tr hle_450).tr hle_462).tr hle_474).tr hle_486).tr hle_498).tr hle_510).tr hb_5272).tr hle_538).tr hle_550).tr hle_563) _ _ hgn_119
  have hg_619 := ((((((((((((((((((((((((((((((((((hle_146).tr hle_156).tr hle_166).tr hle_176).tr hb_1992).tr hb_2182).tr hb_2372).tr hle_248).tr hle_259).tr hle_270).tr hb_2862).tr hb_3012).tr hle_311).tr hle_322).tr hle_333).tr hle_344).tr hle_355).tr hle_366).tr hle_377).tr hle_388).tr hle_399).tr hb_4152).tr hle_427).tr hle_438).tr hle_450).tr hle_462).tr hle_474).tr hle_486).tr hle_498).tr hle_510).tr hb_5272).tr hle_538).tr hle_550).tr hle_563) _ _ hgn_135
  have hh_620 := hh_563.more (P1 := [(r0, 16, 1, .int 0), (r0, 16, 12, .int 0), (r0, 16, 11, .int 0), (r0, 16, 15, .int (-1)), (r0, 16, 16, .int 0), (r0, 16, 7, .int 0), (r0, 16, 13, .ref H_31.size), (r0, 16, 14, .ref H_45.size), (r0, 16, 41, .ref H_184.size), (r0, 16, 42, .int 0), (r0, 16, 60, .ref H_436.size), (r0, 16, 61, .ref H_448.size), (r0, 16, 46, .ref H_279.size), (r0, 16, 47, .ref H_294.size), (r0, 16, 71, .ref H_520.size), (r0, 16, 22, .ref H_112.size), (r0, 16, 23, .ref H_128.size)]) (jP.cons hgn_563 (jf.raw (C := RX14) (T := TX14) (N := 74) rfl hraw_560 (i := 1) (by decide)) (jP.cons hgn_563 (jf.raw (C := RX14) (T := TX14) (N := 74) rfl hraw_560 (i := 12) (by decide)) (jP.cons hgn_563 (jf.raw (C := RX14) (T := TX14) (N := 74) rfl hraw_560 (i := 11) (by decide)) (jP.cons hgn_563 (jf.raw (C := RX14) (T := TX14) (N := 74) rfl hraw_560 (i := 15) (by decide)) (jP.cons hgn_563 (jf.raw (C := RX14) (T := TX14) (N := 74) rfl hraw_560 (i := 16) (by decide)) (jP.cons hgn_563 (jf.raw (C := RX14) (T := TX14) (N := 74) rfl hraw_560 (i := 7) (by decide)) (jP.cons hgn_563 (jf.raw (C := RX14) (T := TX14) (N := 74) rfl hraw_560 (i := 13) (by decide)) (jP.cons hgn_563 (jf.raw (C := RX14) (T := TX14) (N := 74) rfl hraw_560 (i := 14) (by decide)) (jP.cons hgn_563 (jf.raw (C := RX14) (T := TX14) (N := 74) rfl hraw_560 (i := 41) (by decide)) (jP.cons hgn_563 (jf.raw (C := RX14) (T := TX14) (N := 74) rfl hraw_560 (i := 42) (by decide)) (jP.cons hgn_563 (jf.raw (C := RX14) (T := TX14) (N := 74) rfl hraw_560 (i := 60) (by decide)) (jP.cons hgn_563 (jf.raw (C := RX14) (T := TX14) (N := 74) rfl hraw_560 (i := 61) (by decide)) (jP.cons hgn_563 (jf.raw (C := RX14) (T := TX14) (N := 74) rfl hraw_560 (i := 46) (by decide)) (jP.cons hgn_563 (jf.raw (C := RX14) (T := TX14) (N := 74) rfl hraw_560 (i := 47) (by decide)) (jP.cons hgn_563 (jf.raw (C := RX14) (T := TX14) (N := 74) rfl hraw_560 (i := 71) (by decide)) (jP.cons hgn_563 (jf.raw (C := RX14) (T := TX14) (N := 74) rfl hraw_560 (i := 22) (by decide)) (jP.cons hgn_563 (jf.raw (C := RX14) (T := TX14) (N := 74) rfl hraw_560 (i := 23) (by decide)) jP.nil)))))))))))))))))
  have hM_563 : jNk [11] G_550 (va_up G_550 r0 (some (16, 0))) := jNk.new (by decide)
  have hZ_563 : jN14 G_550 (va_up G_550 r0 (some (16, 0))) := jN14.new (by decide)
  have hd_621 := jDZ.grow (hh_620.iv 0 rfl) hle_563 hZ_563
  have hh_622 := hh_620.sub (L1 := [(r0, 16, 1, .int 0), (r0, 16, 12, .int 0), (r0, 16, 11, .int 0), (r0, 16, 15, .int (-1)), (r0, 16, 16, .int 0), (r0, 16, 7, .int 0), (r0, 16, 13, .ref H_31.size), (r0, 16, 14, .ref H_45.size), (r0, 16, 41, .ref H_184.size), (r0, 16, 42, .int 0), (r0, 16, 60, .ref H_436.size), (r0, 16, 61, .ref H_448.size), (r0, 16, 46, .ref H_279.size), (r0, 16, 47, .ref H_294.size), (r0, 16, 71, .ref H_520.size), (r0, 16, 22, .ref H_112.size), (r0, 16, 23, .ref H_128.size), (H_45.size, 0, 3, .int qc_52), (H_45.size, 0, 0, .ref xa_52), (H_31.size, 0, 3, .int qc_38), (H_31.size, 0, 0, .ref xa_38)]) [0, 1, 2, 3, 4, 5, 6, 7, 8, 9, 10, 11, 12, 13, 14, 15, 16, 17, 18, 19, 20] rfl (M1 := [(H_128.size, 123, 3100, ca 1, (fun _ => 0)), (H_112.size, 122, 3100, ca 1, (fun _ => 0))]) [0, 1] rfl (I1 := [([(208, 0)], jQc dC dI (ca 4) H_436.size 2 (fun _ => none)), ([(201, 0)], jQc dC dI (ca 4) H_184.size 3 (va_up (va_up (va_up (fun _ => none) 0 (some H_186.size)) 1 (some H_207.size)) 2 (some H_226.size)))]) [1, 2] rfl
  clear hh_620
  have hh_623 := hh_622.addI (jDZ.ie hd_621)
  clear hh_622
  obtain ⟨fs9, hh_626⟩ := hh_623.cpin hB207 (by decide) (by decide) hg_614
  have hz9 := hh_626.iv 0 rfl
  have hdy9 := jDZ.dy (ca := ca) hz9 hh_626.2.1 hB190 hB191
  have hvl9 := jDZ.vl hz9
  have hh_627 := hh_626.addI (jVl.ie hvl9)
  clear hh_626
  have hh_628 := hh_627.addI (jDY.ie hdy9)
  clear hh_627
  have hft9 : jFT dC dI ca (va_up G_550 r0 (some (16, 0))) H_112.size H_128.size H_560 := ⟨fun _ => 0, fun _ => 0, hh_628.2.2.2.2.2.2.2.1.sub (L1 := [(H_112.size, 122, 3100, ca 1, (fun _ => 0)), (H_128.size, 123, 3100, ca 1, (fun _ => 0))]) [2, 1] rfl, fun i _ _ => Int.le_refl _⟩
  have hh_629 := hh_628.addI (jFT.ie hft9 hg_618 hg_619)
  clear hh_628
  exact W.vret hx hb hr (fun t ht hW => ⟨⟨(0, 0, 0, (-1), 0, 0, qc_38, qc_52, H_31.size, 0, H_45.size, 0, xa_38, m_xa_38, xa_52, m_xa_52, (va_up G_550 r0 (some (16, 0)))), rfl, by (try dsimp only); exact ⟨(by first | omega | rfl | assumption | fail), (by first | omega | rfl | assumption | fail), (by first | omega | rfl | assumption | fail), (by first | omega | rfl | assumption | fail), (by first | omega | rfl | assumption | fail), (by first | omega | rfl | assumption | fail), (by first | omega | rfl | assumption | fail), (by first | omega | rfl | assumption | fail), (by first | omega | rfl | assumption | fail), (by first | omega | rfl | assumption | fail), (by first | omega | rfl | assumption | fail), (by first | omega | rfl | assumption | fail)⟩, ⟨hh_629.ra (by first | (simp only; omega) | omega) (by first | (simp only; omega) | omega) (M1 := [(r0, 16, 1, .int 0), (r0, 16, 12, .int 0), (r0, 16, 11, .int 0), (r0, 16, 15, .int (-1)), (r0, 16, 16, .int 0), (r0, 16, 7, .int 0), (H_31.size, 0, 3, .int qc_38), (H_45.size, 0, 3, .int qc_52), (r0, 16, 13, .ref H_31.size), (r0, 16, 14, .ref H_45.size), (H_31.size, 0, 0, .ref xa_38), (H_45.size, 0, 0, .ref xa_52)]) [0, 1, 2, 3, 4, 5, 19, 17, 6, 7, 20, 18] rfl ht, hg_610, hg_611, hg_565, hg_564, hNn_563, hgn_563, by rw [ht]; exact hkp_609, by rw [ht]; exact hh_629.2.2.2.2.2.2.2.2.sub (L1 := [(jFz9, jDZ dC dI (va_up G_550 r0 (some (16, 0))))]) [3] rfl, by rw [ht]; exact ⟨H_184.size, H_436.size, H_448.size, H_279.size, H_294.size, H_520.size, H_112.size, H_128.size, hg_612, hg_613, hg_614, hg_615, hg_616, hg_617, hg_618, hg_619, ⟨fun _ => 0, fun _ => 0, fs9, (va_up (va_up (va_up (fun _ => none) 0 (some H_186.size)) 1 (some H_207.size)) 2 (some H_226.size)), (fun _ => none), 0, hh_629.2.2.1.sub (L1 := [(r0, 16, 41, .ref H_184.size), (r0, 16, 42, .int 0), (r0, 16, 60, .ref H_436.size), (r0, 16, 61, .ref H_448.size), (r0, 16, 46, .ref H_279.size), (r0, 16, 47, .ref H_294.size), (r0, 16, 71, .ref H_520.size)]) [8, 9, 10, 11, 12, 13, 14] rfl, hh_629.2.2.2.2.2.2.2.1.sub (L1 := [(H_448.size, 207, 2, ca 1, fs9)]) [0] rfl, hh_629.2.2.2.2.2.2.2.2.sub (L1 := [(jFs, jDY dC dI ca (va_up G_550 r0 (some (16, 0))) none (fun _ => 0)), (jF9, jVl dC dI (va_up G_550 r0 (some (16, 0))) 9 (fun _ => 0)), ([(201, 0)], jQc dC dI (ca 4) H_184.size 3 (va_up (va_up (va_up (fun _ => none) 0 (some H_186.size)) 1 (some H_207.size)) 2 (some H_226.size))), ([(208, 0)], jQc dC dI (ca 4) H_436.size 2 (fun _ => none))]) [1, 2, 5, 4] rfl, jPu.zero (a := H_186.size) (b := H_207.size) (c := H_226.size) (by first | rfl | simp [va_up]) (by first | rfl | simp [va_up]) (by first | rfl | simp [va_up]) hlt_d0 hlt_d1 hlt_d2 hlt_ol hlt_nw (fun _ _ => rfl)⟩, hh_629.2.2.1.sub (L1 := [(r0, 16, 22, .ref H_112.size), (r0, 16, 23, .ref H_128.size)]) [15, 16] rfl, hh_629.2.2.2.2.2.2.2.2.sub (L1 := [(jFt, jFT dC dI ca (va_up G_550 r0 (some (16, 0))) H_112.size H_128.size)]) [0] rfl⟩⟩⟩, by rw [ht]; try exact hh_629.1.1, fun q h9 hq => by rw [ht]; try exact hh_629.1.2.1 q h9 hq⟩) hh_629.1.2.2 dX14_init_417
end
