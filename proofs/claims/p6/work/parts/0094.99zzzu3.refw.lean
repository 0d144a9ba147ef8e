section
def EX14_initW : List (Nat × Nat) := []
set_option maxHeartbeats 40000000 in
set_option maxRecDepth 20000 in
theorem uX14_initW (l : Launch) (dC : Nat → ClassId) (dI : Nat → Nat → Nat) (ca : Nat → ClassId) (base : Nat) (B : jF) (hB : jBok B) (hAp : jAp (dC, dI)) (hB0 : ∀ n G a H, B 0 n G a H ↔ jOb (dC, dI) 0 4 (Fz0 n G) a H) (hB14 : ∀ n G a H, B 14 n G a H ↔ jOb (dC, dI) 14 11 (F14 n G) a H) (hB15 : ∀ n G a H, B 15 n G a H ↔ jOb (dC, dI) 15 50 (F15 n G) a H) (hB16 : ∀ n G a H, B 16 n G a H ↔ jOb (dC, dI) 16 74 (F16 n G) a H) (hB101 : ∀ n G a H, B 101 n G a H ↔ jAr (dC, dI) (ca 1) (fun j z => True) n a H) (hB103 : ∀ n G a H, B 103 n G a H ↔ jAr (dC, dI) (ca 3) (fun j z => (z = 0 ∨ z = 1)) n a H) (hB104 : ∀ n G a H, B 104 n G a H ↔ jAr (dC, dI) (ca 3) (fun j z => (z = 0 ∨ z = 1)) n a H) (hB105 : ∀ n G a H, B 105 n G a H ↔ jAr (dC, dI) (ca 3) (fun j z => (z = 0 ∨ z = 1)) n a H) (hB110 : ∀ n G a H, B 110 n G a H ↔ jAr (dC, dI) (ca 1) (fun j z => 0 ≤ z.toInt ∧ z.toInt ≤ 255) n a H) (hB111 : ∀ n G a H, B 111 n G a H ↔ jAr (dC, dI) (ca 1) (fun j z => 0 ≤ z.toInt ∧ z.toInt ≤ 255) n a H) (hB112 : ∀ n G a H, B 112 n G a H ↔ jAr (dC, dI) (ca 1) (fun j z => True) n a H) (hB113 : ∀ n G a H, B 113 n G a H ↔ jAr (dC, dI) (ca 1) (fun j z => True) n a H) (hB114 : ∀ n G a H, B 114 n G a H ↔ jAr (dC, dI) (ca 1) (fun j z => True) n a H) (hB115 : ∀ n G a H, B 115 n G a H ↔ jAr (dC, dI) (ca 1) (fun j z => True) n a H) (hB116 : ∀ n G a H, B 116 n G a H ↔ jAr (dC, dI) (ca 1) (fun j z => True) n a H) (hB117 : ∀ n G a H, B 117 n G a H ↔ jAr (dC, dI) (ca 1) (fun j z => True) n a H) (hB118 : ∀ n G a H, B 118 n G a H ↔ jAr (dC, dI) (ca 1) (fun j z => -1 ≤ z.toInt ∧ z.toInt ≤ 3099) n a H) (hB119 : ∀ n G a H, B 119 n G a H ↔ jAr (dC, dI) (ca 1) (fun j z => z.toInt = -1 ∨ z.toInt = 0 ∨ ((j : Nat) < z.toInt ∧ z.toInt ≤ 3099)) n a H) (hB120 : ∀ n G a H, B 120 n G a H ↔ jAr (dC, dI) (ca 1) (fun j z => 0 ≤ z.toInt ∧ z.toInt ≤ 3300) n a H) (hB121 : ∀ n G a H, B 121 n G a H ↔ jAr (dC, dI) (ca 1) (fun j z => 0 ≤ z.toInt ∧ z.toInt ≤ 3300) n a H) (hB122 : ∀ n G a H, B 122 n G a H ↔ jAr (dC, dI) (ca 1) (fun j z => 0 ≤ z.toInt ∧ z.toInt ≤ 3100) n a H) (hB123 : ∀ n G a H, B 123 n G a H ↔ jAr (dC, dI) (ca 1) (fun j z => 0 ≤ z.toInt ∧ z.toInt ≤ 3100) n a H) (hB124 : ∀ n G a H, B 124 n G a H ↔ jAr (dC, dI) (ca 3) (fun j z => (z = 0 ∨ z = 1)) n a H) (hB125 : ∀ n G a H, B 125 n G a H ↔ jAr (dC, dI) (ca 1) (fun j z => True) n a H) (hB126 : ∀ n G a H, B 126 n G a H ↔ jAr (dC, dI) (ca 1) (fun j z => True) n a H) (hB127 : ∀ n G a H, B 127 n G a H ↔ jAr (dC, dI) (ca 1) (fun j z => True) n a H) (hB150 : ∀ n G a H, B 150 n G a H ↔ jAr (dC, dI) (ca 1) (fun j z => True) n a H) (hB151 : ∀ n G a H, B 151 n G a H ↔ jAr (dC, dI) (ca 1) (fun j z => True) n a H) (hB152 : ∀ n G a H, B 152 n G a H ↔ jAr (dC, dI) (ca 1) (fun j z => True) n a H) (hB153 : ∀ n G a H, B 153 n G a H ↔ jAr (dC, dI) (ca 1) (fun j z => True) n a H) (hB154 : ∀ n G a H, B 154 n G a H ↔ jAr (dC, dI) (ca 1) (fun j z => True) n a H) (hB155 : ∀ n G a H, B 155 n G a H ↔ jAr (dC, dI) (ca 1) (fun j z => 0 ≤ z.toInt ∧ z.toInt ≤ 11990) n a H) (hB156 : ∀ n G a H, B 156 n G a H ↔ jAr (dC, dI) (ca 1) (fun j z => 0 ≤ z.toInt ∧ z.toInt ≤ 10) n a H) (hB157 : ∀ n G a H, B 157 n G a H ↔ jAr (dC, dI) (ca 1) (fun j z => 0 ≤ z.toInt ∧ z.toInt ≤ 1599) n a H) (hB158 : ∀ n G a H, B 158 n G a H ↔ jAr (dC, dI) (ca 1) (fun j z => 0 ≤ z.toInt ∧ z.toInt ≤ 6) n a H) (hB159 : ∀ n G a H, B 159 n G a H ↔ jAr (dC, dI) (ca 1) (fun j z => 0 ≤ z.toInt ∧ z.toInt ≤ 8) n a H) (hB160 : ∀ n G a H, B 160 n G a H ↔ jAr (dC, dI) (ca 1) (fun j z => 0 ≤ z.toInt ∧ z.toInt ≤ 119999) n a H) (hB161 : ∀ n G a H, B 161 n G a H ↔ jAr (dC, dI) (ca 1) (fun j z => 0 ≤ z.toInt ∧ z.toInt ≤ 119999) n a H) (hB162 : ∀ n G a H, B 162 n G a H ↔ jAr (dC, dI) (ca 1) (fun j z => 0 ≤ z.toInt ∧ z.toInt ≤ 119999) n a H) (hB163 : ∀ n G a H, B 163 n G a H ↔ jAr (dC, dI) (ca 1) (fun j z => 0 ≤ z.toInt ∧ z.toInt ≤ 1599) n a H) (hB164 : ∀ n G a H, B 164 n G a H ↔ jAr (dC, dI) (ca 1) (fun j z => 0 ≤ z.toInt ∧ z.toInt ≤ 100000) n a H) (hB165 : ∀ n G a H, B 165 n G a H ↔ jAr (dC, dI) (ca 1) (fun j z => 0 ≤ z.toInt ∧ z.toInt ≤ 3) n a H) (hB166 : ∀ n G a H, B 166 n G a H ↔ jAr (dC, dI) (ca 1) (fun j z => True) n a H) (hB167 : ∀ n G a H, B 167 n G a H ↔ jAr (dC, dI) (ca 1) (fun j z => True) n a H) (hB168 : ∀ n G a H, B 168 n G a H ↔ jAr (dC, dI) (ca 1) (fun j z => 0 ≤ z.toInt ∧ z.toInt ≤ 119999) n a H) (hB169 : ∀ n G a H, B 169 n G a H ↔ jAr (dC, dI) (ca 1) (fun j z => True) n a H) (hB190 : ∀ n G a H, B 190 n G a H ↔ jAr (dC, dI) (ca 1) (fun j z => 0 ≤ z.toInt ∧ z.toInt ≤ 1500) n a H) (hB191 : ∀ n G a H, B 191 n G a H ↔ jAr (dC, dI) (ca 1) (fun j z => 0 ≤ z.toInt ∧ z.toInt ≤ 1500) n a H) (hB192 : ∀ n G a H, B 192 n G a H ↔ jAr (dC, dI) (ca 1) (fun j z => 0 ≤ z.toInt ∧ z.toInt ≤ 2) n a H) (hB193 : ∀ n G a H, B 193 n G a H ↔ jAr (dC, dI) (ca 1) (fun j z => True) n a H) (hB194 : ∀ n G a H, B 194 n G a H ↔ jAr (dC, dI) (ca 1) (fun j z => True) n a H) (hB195 : ∀ n G a H, B 195 n G a H ↔ jAr (dC, dI) (ca 1) (fun j z => True) n a H) (hB196 : ∀ n G a H, B 196 n G a H ↔ jAr (dC, dI) (ca 0) (fun j z => jBf j z) n a H) (hB198 : ∀ n G a H, B 198 n G a H ↔ jAr (dC, dI) (ca 0) (fun j z => jBf j z) n a H) (hB201 : ∀ n G a H, B 201 n G a H ↔ jAq (dC, dI) (ca 4) (jQs 14 0) n G a H) (hB202 : ∀ n G a H, B 202 n G a H ↔ jAq (dC, dI) (ca 4) (jQn 14 0) n G a H) (hB203 : ∀ n G a H, B 203 n G a H ↔ jAr (dC, dI) (ca 1) (fun j z => -3300 ≤ z.toInt ∧ z.toInt ≤ 20) n a H) (hB204 : ∀ n G a H, B 204 n G a H ↔ jAr (dC, dI) (ca 1) (fun j z => -3100 ≤ z.toInt ∧ z.toInt ≤ 3100) n a H) (hB205 : ∀ n G a H, B 205 n G a H ↔ jAr (dC, dI) (ca 1) (fun j z => 0 ≤ z.toInt ∧ z.toInt ≤ 1600) n a H) (hB206 : ∀ n G a H, B 206 n G a H ↔ jAr (dC, dI) (ca 1) (fun j z => 0 ≤ z.toInt ∧ z.toInt ≤ 40) n a H) (hB207 : ∀ n G a H, B 207 n G a H ↔ jAr (dC, dI) (ca 1) (fun j z => 0 ≤ z.toInt ∧ z.toInt ≤ 39) n a H) (hB208 : ∀ n G a H, B 208 n G a H ↔ jAq (dC, dI) (ca 4) (jQn 14 0) n G a H) (G0 : jT) (H0 : Heap) (r0 : Nat) (LC LS : Nat) : Met l yX14_init (jw yX14_init cX14_init 1 none) ({ frames := 3, cells := LC - H0.size, slots := LS - jTot H0, locals := 72 }) (va_Pc [.ref r0] (fun U => U.heap = H0 ∧ jX B base G0 [] H0 ∧ jG dC dI ca base U ∧ jK2 dC dI ca U ∧ jK6 U ∧ va_at (dC, dI) vwCl (r0, .inr (16, [.null, .int 0, .null, .int 0, .int 0, .null, .int 0, .int 0, .int 0, .null, .int 0, .int 0, .int 0, .null, .null, .int 0, .int 0, .null, .null, .null, .null, .null, .null, .null, .null, .null, .int 0, .null, .int 0, .int 0, .int 0, .int 0, .int 0, .int 0, .int 0, .int 0, .int 0, .int 0, .null, .int 0, .int 0, .null, .int 0, .null, .int 0, .null, .null, .null, .int 0, .null, .null, .null, .null, .null, .null, .null, .null, .null, .null, .null, .null, .null, .null, .null, .int 0, .int 0, .int 0, .null, .null, .null, .int 0, .null, .null, .null])) H0 ∧ (∀ t, G0 r0 ≠ some t) ∧ base ≤ r0 ∧ jP (dC, dI) G0 H0 [] ∧ jIs (dC, dI) G0 H0 [(jFz9, jDZ dC dI G0)] ∧ H0.size + 112 ≤ LC ∧ jTot H0 + 974246 ≤ LS ∧ True)) (va_Qv (S := Int32 × Int32 × Int32 × Int32 × Int32 × Int32 × Int32 × Int32 × Int32 × Int32 × Nat × Nat × Nat × Nat × Nat × Nat × Nat × Nat × Nat × Nat × (Nat → Int32) × jT) (fun u => u.2.2.2.2.2.2.2.2.2.2.1 ≠ u.2.2.2.2.2.2.2.2.2.2.2.2.1 ∧ u.2.2.2.2.2.2.2.2.2.2.2.1 = 0 ∧ u.2.2.2.2.2.2.2.2.2.2.2.2.2.1 = 0 ∧ u.2.2.2.2.2.2.2.2.2.2.2.2.2.2.2.1 = 16 ∧ u.2.2.2.2.2.2.2.2.2.2.2.2.2.2.2.2.2.1 = 16 ∧ u.1.toInt = 0 ∧ u.2.1.toInt = 0 ∧ u.2.2.1.toInt = 0 ∧ u.2.2.2.1.toInt = -1 ∧ u.2.2.2.2.2.1.toInt = 0 ∧ u.2.2.2.2.2.2.1.toInt = 0 ∧ u.2.2.2.2.2.2.2.1.toInt = 0 ∧ u.2.2.2.2.2.2.2.2.2.2.2.2.2.2.1 ≠ u.2.2.2.2.2.2.2.2.2.2.2.2.2.2.2.2.1 ∧ u.2.2.2.2.2.2.2.2.1.toInt = 0 ∧ u.2.2.2.2.2.2.2.2.2.1.toInt = 0 ∧ u.2.2.2.2.2.2.2.2.2.2.2.2.2.2.2.2.2.2.2.1 = 3300 ∧ u.2.2.2.2.2.2.2.2.2.2.2.2.2.2.2.2.2.2.2.2.1 = (fun _ => 0)) (fun u t => jRa (dC, dI) B base G0 u.2.2.2.2.2.2.2.2.2.2.2.2.2.2.2.2.2.2.2.2.2 EX14_initW H0 (112) (974246) [(r0, 16, 1, .int u.1), (r0, 16, 12, .int u.2.1), (r0, 16, 11, .int u.2.2.1), (r0, 16, 15, .int u.2.2.2.1), (r0, 16, 16, .int u.2.2.2.2.1), (r0, 16, 7, .int u.2.2.2.2.2.1), (u.2.2.2.2.2.2.2.2.2.2.1, 0, 3, .int u.2.2.2.2.2.2.1), (u.2.2.2.2.2.2.2.2.2.2.2.2.1, 0, 3, .int u.2.2.2.2.2.2.2.1), (r0, 16, 34, .int u.2.2.2.2.2.2.2.2.1), (r0, 16, 35, .int u.2.2.2.2.2.2.2.2.2.1), (r0, 16, 13, .ref u.2.2.2.2.2.2.2.2.2.2.1), (r0, 16, 14, .ref u.2.2.2.2.2.2.2.2.2.2.2.2.1), (u.2.2.2.2.2.2.2.2.2.2.1, 0, 0, .ref u.2.2.2.2.2.2.2.2.2.2.2.2.2.2.1), (u.2.2.2.2.2.2.2.2.2.2.2.2.1, 0, 0, .ref u.2.2.2.2.2.2.2.2.2.2.2.2.2.2.2.2.1), (r0, 16, 9, .ref u.2.2.2.2.2.2.2.2.2.2.2.2.2.2.2.2.2.2.1)] t.heap ∧ u.2.2.2.2.2.2.2.2.2.2.2.2.2.2.2.2.2.2.2.2.2 u.2.2.2.2.2.2.2.2.2.2.1 = some (0, u.2.2.2.2.2.2.2.2.2.2.2.1) ∧ u.2.2.2.2.2.2.2.2.2.2.2.2.2.2.2.2.2.2.2.2.2 u.2.2.2.2.2.2.2.2.2.2.2.2.1 = some (0, u.2.2.2.2.2.2.2.2.2.2.2.2.2.1) ∧ u.2.2.2.2.2.2.2.2.2.2.2.2.2.2.2.2.2.2.2.2.2 u.2.2.2.2.2.2.2.2.2.2.2.2.2.2.1 = some (198, u.2.2.2.2.2.2.2.2.2.2.2.2.2.2.2.1) ∧ u.2.2.2.2.2.2.2.2.2.2.2.2.2.2.2.2.2.2.2.2.2 u.2.2.2.2.2.2.2.2.2.2.2.2.2.2.2.2.1 = some (198, u.2.2.2.2.2.2.2.2.2.2.2.2.2.2.2.2.2.1) ∧ u.2.2.2.2.2.2.2.2.2.2.2.2.2.2.2.2.2.2.2.2.2 u.2.2.2.2.2.2.2.2.2.2.2.2.2.2.2.2.2.2.1 = some (110, u.2.2.2.2.2.2.2.2.2.2.2.2.2.2.2.2.2.2.2.1) ∧ (jNk [1, 2, 3, 4, 5, 6, 7, 8, 9, 10, 11, 12, 13, 17, 175]) G0 u.2.2.2.2.2.2.2.2.2.2.2.2.2.2.2.2.2.2.2.2.2 ∧ u.2.2.2.2.2.2.2.2.2.2.2.2.2.2.2.2.2.2.2.2.2 r0 = some (16, 0) ∧ jKx r0 G0 u.2.2.2.2.2.2.2.2.2.2.2.2.2.2.2.2.2.2.2.2.2 H0 t.heap ∧ jIs (dC, dI) u.2.2.2.2.2.2.2.2.2.2.2.2.2.2.2.2.2.2.2.2.2 t.heap [(jFz9, jDZ dC dI u.2.2.2.2.2.2.2.2.2.2.2.2.2.2.2.2.2.2.2.2.2)] ∧ jMc (dC, dI) u.2.2.2.2.2.2.2.2.2.2.2.2.2.2.2.2.2.2.2.2.2 t.heap [(u.2.2.2.2.2.2.2.2.2.2.2.2.2.2.2.2.2.2.1, 110, u.2.2.2.2.2.2.2.2.2.2.2.2.2.2.2.2.2.2.2.1, ca 1, u.2.2.2.2.2.2.2.2.2.2.2.2.2.2.2.2.2.2.2.2.1)] ∧ jRo dC dI ca u.2.2.2.2.2.2.2.2.2.2.2.2.2.2.2.2.2.2.2.2.2 r0 t.heap ∧ jRS dC dI ca u.2.2.2.2.2.2.2.2.2.2.2.2.2.2.2.2.2.2.2.2.2 r0 (0, fun _ => jdDz) t.heap ∧ jBZ dC dI ca u.2.2.2.2.2.2.2.2.2.2.2.2.2.2.2.2.2.2.2.2.2 r0 (0, fun _ => jdDz) jwZ0 t.heap) (jA base)) (LC - H0.size) (LS - jTot H0) (jA base) := by
  refine Met.ofW (cc := cX14_init) (maxL := 1) (ret := none) (by decide) rfl ?_
  intro p e s m args below meth c s₁ Bd hml hv
  obtain ⟨rfl, hH0, hX, hG, hK2, hK6, hraw0, hnr0, hbr0, hP0, hI0, hLC0, hLS0, hp0⟩ := hv
  have hK := hG.1
  have hx := Bd.exec
  have hb := Bd.bytes
  have hr := Bd.returns
  have hts := atoms_spec (ws := (jw yX14_init cX14_init 1 none)) Bd.pre
  have htw : ∀ w ∈ jWl, w.before _ s = true := fun w h => hts w (List.mem_cons_of_mem _ h)
  have hown : s.vm.findClass RX14 = some m.cls := findClass_of_methodNamed Bd.named
  have hlocks := Bd.notSynchronized
  obtain ⟨Q, hQ⟩ : ∃ Q, Q = MQ below (va_Qv (S := Int32 × Int32 × Int32 × Int32 × Int32 × Int32 × Int32 × Int32 × Int32 × Int32 × Nat × Nat × Nat × Nat × Nat × Nat × Nat × Nat × Nat × Nat × (Nat → Int32) × jT) (fun u => u.2.2.2.2.2.2.2.2.2.2.1 ≠ u.2.2.2.2.2.2.2.2.2.2.2.2.1 ∧ u.2.2.2.2.2.2.2.2.2.2.2.1 = 0 ∧ u.2.2.2.2.2.2.2.2.2.2.2.2.2.1 = 0 ∧ u.2.2.2.2.2.2.2.2.2.2.2.2.2.2.2.1 = 16 ∧ u.2.2.2.2.2.2.2.2.2.2.2.2.2.2.2.2.2.1 = 16 ∧ u.1.toInt = 0 ∧ u.2.1.toInt = 0 ∧ u.2.2.1.toInt = 0 ∧ u.2.2.2.1.toInt = -1 ∧ u.2.2.2.2.2.1.toInt = 0 ∧ u.2.2.2.2.2.2.1.toInt = 0 ∧ u.2.2.2.2.2.2.2.1.toInt = 0 ∧ u.2.2.2.2.2.2.2.2.2.2.2.2.2.2.1 ≠ u.2.2.2.2.2.2.2.2.2.2.2.2.2.2.2.2.1 ∧ u.2.2.2.2.2.2.2.2.1.toInt = 0 ∧ u.2.2.2.2.2.2.2.2.2.1.toInt = 0 ∧ u.2.2.2.2.2.2.2.2.2.2.2.2.2.2.2.2.2.2.2.1 = 3300 ∧ u.2.2.2.2.2.2.2.2.2.2.2.2.2.2.2.2.2.2.2.2.1 = (fun _ => 0)) (fun u t => jRa (dC, dI) B base G0 u.2.2.2.2.2.2.2.2.2.2.2.2.2.2.2.2.2.2.2.2.2 EX14_initW H0 (112) (974246) [(r0, 16, 1, .int u.1), (r0, 16, 12, .int u.2.1), (r0, 16, 11, .int u.2.2.1), (r0, 16, 15, .int u.2.2.2.1), (r0, 16, 16, .int u.2.2.2.2.1), (r0, 16, 7, .int u.2.2.2.2.2.1), (u.2.2.2.2.2.2.2.2.2.2.1, 0, 3, .int u.2.2.2.2.2.2.1), (u.2.2.2.2.2.2.2.2.2.2.2.2.1, 0, 3, .int u.2.2.2.2.2.2.2.1), (r0, 16, 34, .int u.2.2.2.2.2.2.2.2.1), (r0, 16, 35, .int u.2.2.2.2.2.2.2.2.2.1), (r0, 16, 13, .ref u.2.2.2.2.2.2.2.2.2.2.1), (r0, 16, 14, .ref u.2.2.2.2.2.2.2.2.2.2.2.2.1), (u.2.2.2.2.2.2.2.2.2.2.1, 0, 0, .ref u.2.2.2.2.2.2.2.2.2.2.2.2.2.2.1), (u.2.2.2.2.2.2.2.2.2.2.2.2.1, 0, 0, .ref u.2.2.2.2.2.2.2.2.2.2.2.2.2.2.2.2.1), (r0, 16, 9, .ref u.2.2.2.2.2.2.2.2.2.2.2.2.2.2.2.2.2.2.1)] t.heap ∧ u.2.2.2.2.2.2.2.2.2.2.2.2.2.2.2.2.2.2.2.2.2 u.2.2.2.2.2.2.2.2.2.2.1 = some (0, u.2.2.2.2.2.2.2.2.2.2.2.1) ∧ u.2.2.2.2.2.2.2.2.2.2.2.2.2.2.2.2.2.2.2.2.2 u.2.2.2.2.2.2.2.2.2.2.2.2.1 = some (0, u.2.2.2.2.2.2.2.2.2.2.2.2.2.1) ∧ u.2.2.2.2.2.2.2.2.2.2.2.2.2.2.2.2.2.2.2.2.2 u.2.2.2.2.2.2.2.2.2.2.2.2.2.2.1 = some (198, u.2.2.2.2.2.2.2.2.2.2.2.2.2.2.2.1) ∧ u.2.2.2.2.2.2.2.2.2.2.2.2.2.2.2.2.2.2.2.2.2 u.2.2.2.2.2.2.2.2.2.2.2.2.2.2.2.2.1 = some (198, u.2.2.2.2.2.2.2.2.2.2.2.2.2.2.2.2.2.1) ∧ u.2.2.2.2.2.2.2.2.2.2.2.2.2.2.2.2.2.2.2.2.2 u.2.2.2.2.2.2.2.2.2.2.2.2.2.2.2.2.2.2.1 = some (110, u.2.2.2.2.2.2.2.2.2.2.2.2.2.2.2.2.2.2.2.1) ∧ (jNk [1, 2, 3, 4, 5, 6, 7, 8, 9, 10, 11, 12, 13, 17, 175]) G0 u.2.2.2.2.2.2.2.2.2.2.2.2.2.2.2.2.2.2.2.2.2 ∧ u.2.2.2.2.2.2.2.2.2.2.2.2.2.2.2.2.2.2.2.2.2 r0 = some (16, 0) ∧ jKx r0 G0 u.2.2.2.2.2.2.2.2.2.2.2.2.2.2.2.2.2.2.2.2.2 H0 t.heap ∧ jIs (dC, dI) u.2.2.2.2.2.2.2.2.2.2.2.2.2.2.2.2.2.2.2.2.2 t.heap [(jFz9, jDZ dC dI u.2.2.2.2.2.2.2.2.2.2.2.2.2.2.2.2.2.2.2.2.2)] ∧ jMc (dC, dI) u.2.2.2.2.2.2.2.2.2.2.2.2.2.2.2.2.2.2.2.2.2 t.heap [(u.2.2.2.2.2.2.2.2.2.2.2.2.2.2.2.2.2.2.1, 110, u.2.2.2.2.2.2.2.2.2.2.2.2.2.2.2.2.2.2.2.1, ca 1, u.2.2.2.2.2.2.2.2.2.2.2.2.2.2.2.2.2.2.2.2.1)] ∧ jRo dC dI ca u.2.2.2.2.2.2.2.2.2.2.2.2.2.2.2.2.2.2.2.2.2 r0 t.heap ∧ jRS dC dI ca u.2.2.2.2.2.2.2.2.2.2.2.2.2.2.2.2.2.2.2.2.2 r0 (0, fun _ => jdDz) t.heap ∧ jBZ dC dI ca u.2.2.2.2.2.2.2.2.2.2.2.2.2.2.2.2.2.2.2.2.2 r0 (0, fun _ => jdDz) jwZ0 t.heap) (jA base)) ([.ref r0] : List Value).toArray s (LC - H0.size) (LS - jTot H0) (jA base) := ⟨_, rfl⟩
  rw [← hQ]
  have hl := lv_entry ([.ref r0]) (n := 1) (Nat.le_of_ble_eq_true rfl)
  rw [lg_entry_eq]
  generalize (lg_sl ([.ref r0]) ++ List.replicate (1 - (lg_sl ([.ref r0])).length) Slot.unset).toArray = ls at hl ⊢
  have hl : lv_has ls 1 [(0, .ref r0)] := hl
  generalize hR : (headSpec (jw yX14_init cX14_init 1 none) ({ frames := 3, cells := LC - H0.size, slots := LS - jTot H0, locals := 72 })).room = R
  subst hH0
  have hh : jSt (dC, dI) B base G0 G0 EX14_initW s.heap 0 0 [] [] [(jFz9, jDZ dC dI G0)] s.heap [] := jSt.start hX hP0 jMc.nil hI0
  clear hX hP0
  have hkm1 : ((-1) : Int32).toInt = (-1) := by decide
  have hk0 : (0 : Int32).toInt = 0 := by decide
  have hk1 : (1 : Int32).toInt = 1 := by decide
  have hk2 : (2 : Int32).toInt = 2 := by decide
  have hk3 : (3 : Int32).toInt = 3 := by decide
  have hk12 : (12 : Int32).toInt = 12 := by decide
  have hk20 : (20 : Int32).toInt = 20 := by decide
  have hk24 : (24 : Int32).toInt = 24 := by decide
  have hk40 : (40 : Int32).toInt = 40 := by decide
  have hk240 : (240 : Int32).toInt = 240 := by decide
  have hk1500 : (1500 : Int32).toInt = 1500 := by decide
  have hk1600 : (1600 : Int32).toInt = 1600 := by decide
  have hk3100 : (3100 : Int32).toInt = 3100 := by decide
  have hk3300 : (3300 : Int32).toInt = 3300 := by decide
  have hk4000 : (4000 : Int32).toInt = 4000 := by decide
  have hk20000 : (20000 : Int32).toInt = 20000 := by decide
  have hk37200 : (37200 : Int32).toInt = 37200 := by decide
  have hk38400 : (38400 : Int32).toInt = 38400 := by decide
  have hk100000 : (100000 : Int32).toInt = 100000 := by decide
  have hly_16_0 := htw (u_lay RX14 TX14 0) (jWc_wsX140 _ (u_in_lay (by decide)))
  have hly_16_2 := htw (u_lay RX14 TX14 2) (jWc_wsX140 _ (u_in_lay (by decide)))
  have hly_16_5 := htw (u_lay RX14 TX14 5) (jWc_wsX140 _ (u_in_lay (by decide)))
  have hly_16_9 := htw (u_lay RX14 TX14 9) (jWc_wsX140 _ (u_in_lay (by decide)))
  have hly_16_13 := htw (u_lay RX14 TX14 13) (jWc_wsX140 _ (u_in_lay (by decide)))
  have hly_16_14 := htw (u_lay RX14 TX14 14) (jWc_wsX140 _ (u_in_lay (by decide)))
  have hly_16_15 := htw (u_lay RX14 TX14 15) (jWc_wsX140 _ (u_in_lay (by decide)))
  have hly_16_17 := htw (u_lay RX14 TX14 17) (jWc_wsX140 _ (u_in_lay (by decide)))
  have hly_16_18 := htw (u_lay RX14 TX14 18) (jWc_wsX140 _ (u_in_lay (by decide)))
  have hly_16_19 := htw (u_lay RX14 TX14 19) (jWc_wsX140 _ (u_in_lay (by decide)))
  have hly_16_20 := htw (u_lay RX14 TX14 20) (jWc_wsX140 _ (u_in_lay (by decide)))
  have hly_16_21 := htw (u_lay RX14 TX14 21) (jWc_wsX140 _ (u_in_lay (by decide)))
  have hly_16_22 := htw (u_lay RX14 TX14 22) (jWc_wsX140 _ (u_in_lay (by decide)))
  have hly_16_23 := htw (u_lay RX14 TX14 23) (jWc_wsX140 _ (u_in_lay (by decide)))
  have hly_16_24 := htw (u_lay RX14 TX14 24) (jWc_wsX140 _ (u_in_lay (by decide)))
  have hly_16_25 := htw (u_lay RX14 TX14 25) (jWc_wsX140 _ (u_in_lay (by decide)))
  have hly_16_27 := htw (u_lay RX14 TX14 27) (jWc_wsX140 _ (u_in_lay (by decide)))
  have hly_16_38 := htw (u_lay RX14 TX14 38) (jWc_wsX140 _ (u_in_lay (by decide)))
  have hly_16_41 := htw (u_lay RX14 TX14 41) (jWc_wsX140 _ (u_in_lay (by decide)))
  have hly_16_43 := htw (u_lay RX14 TX14 43) (jWc_wsX140 _ (u_in_lay (by decide)))
  have hly_16_45 := htw (u_lay RX14 TX14 45) (jWc_wsX140 _ (u_in_lay (by decide)))
  have hly_16_46 := htw (u_lay RX14 TX14 46) (jWc_wsX140 _ (u_in_lay (by decide)))
  have hly_16_47 := htw (u_lay RX14 TX14 47) (jWc_wsX140 _ (u_in_lay (by decide)))
  have hly_16_49 := htw (u_lay RX14 TX14 49) (jWc_wsX140 _ (u_in_lay (by decide)))
  have hly_16_50 := htw (u_lay RX14 TX14 50) (jWc_wsX140 _ (u_in_lay (by decide)))
  have hly_16_51 := htw (u_lay RX14 TX14 51) (jWc_wsX140 _ (u_in_lay (by decide)))
  have hly_16_52 := htw (u_lay RX14 TX14 52) (jWc_wsX140 _ (u_in_lay (by decide)))
  have hly_16_53 := htw (u_lay RX14 TX14 53) (jWc_wsX140 _ (u_in_lay (by decide)))
  have hly_16_54 := htw (u_lay RX14 TX14 54) (jWc_wsX140 _ (u_in_lay (by decide)))
  have hly_16_55 := htw (u_lay RX14 TX14 55) (jWc_wsX140 _ (u_in_lay (by decide)))
  have hly_16_56 := htw (u_lay RX14 TX14 56) (jWc_wsX140 _ (u_in_lay (by decide)))
  have hly_16_57 := htw (u_lay RX14 TX14 57) (jWc_wsX140 _ (u_in_lay (by decide)))
  have hly_16_58 := htw (u_lay RX14 TX14 58) (jWc_wsX140 _ (u_in_lay (by decide)))
  have hly_16_59 := htw (u_lay RX14 TX14 59) (jWc_wsX140 _ (u_in_lay (by decide)))
  have hly_16_60 := htw (u_lay RX14 TX14 60) (jWc_wsX140 _ (u_in_lay (by decide)))
  have hly_16_61 := htw (u_lay RX14 TX14 61) (jWc_wsX140 _ (u_in_lay (by decide)))
  have hly_16_62 := htw (u_lay RX14 TX14 62) (jWc_wsX140 _ (u_in_lay (by decide)))
  have hly_16_63 := htw (u_lay RX14 TX14 63) (jWc_wsX140 _ (u_in_lay (by decide)))
  have hly_16_67 := htw (u_lay RX14 TX14 67) (jWc_wsX140 _ (u_in_lay (by decide)))
  have hly_16_68 := htw (u_lay RX14 TX14 68) (jWc_wsX140 _ (u_in_lay (by decide)))
  have hly_16_69 := htw (u_lay RX14 TX14 69) (jWc_wsX140 _ (u_in_lay (by decide)))
  have hly_16_71 := htw (u_lay RX14 TX14 71) (jWc_wsX140 _ (u_in_lay (by decide)))
  have hly_16_72 := htw (u_lay RX14 TX14 72) (jWc_wsX140 _ (u_in_lay (by decide)))
  have hly_16_73 := htw (u_lay RX14 TX14 73) (jWc_wsX140 _ (u_in_lay (by decide)))
  have hlk_9 := (htw (.fieldLink RX14 9 "ProofServerModel" "tape" "[I") (jWr_10 _ (List.mem_of_getElem? (i := 17) rfl)))
  have hlk_13 := (htw (.fieldLink RX14 13 "ProofServerModel" "out" "[I") (jWr_10 _ (List.mem_of_getElem? (i := 18) rfl)))
  have hcs_16 := htw (.constant RX14 16 100000) (jWr_10 _ (List.mem_of_getElem? (i := 19) rfl))
  have hlk_17 := (htw (.fieldLink RX14 17 "ProofServerModel" "frame" "[I") (jWr_10 _ (List.mem_of_getElem? (i := 20) rfl)))
  have hlk_20 := (htw (.fieldLink RX14 20 "ProofServerModel" "kept" "[I") (jWr_10 _ (List.mem_of_getElem? (i := 21) rfl)))
  have hlk_26 := (htw (.fieldLink RX14 26 "ProofServerModel" "name" "Ljava/lang/StringBuilder;") (jWr_11 _ (List.mem_of_getElem? (i := 1) rfl)))
  have hlk_30 := (htw (.fieldLink RX14 30 "ProofServerModel" "value" "Ljava/lang/StringBuilder;") (jWr_11 _ (List.mem_of_getElem? (i := 2) rfl)))
  have hlk_33 := (htw (.fieldLink RX14 33 "ProofServerModel" "length" "I") (jWr_11 _ (List.mem_of_getElem? (i := 3) rfl)))
  have hlk_37 := (htw (.fieldLink RX14 37 "ProofServerModel" "sort" "[I") (jWr_11 _ (List.mem_of_getElem? (i := 4) rfl)))
  have hlk_40 := (htw (.fieldLink RX14 40 "ProofServerModel" "heir" "[I") (jWr_11 _ (List.mem_of_getElem? (i := 5) rfl)))
  have hlk_43 := (htw (.fieldLink RX14 43 "ProofServerModel" "next" "[I") (jWr_11 _ (List.mem_of_getElem? (i := 6) rfl)))
  have hlk_46 := (htw (.fieldLink RX14 46 "ProofServerModel" "nameFrom" "[I") (jWr_11 _ (List.mem_of_getElem? (i := 7) rfl)))
  have hlk_49 := (htw (.fieldLink RX14 49 "ProofServerModel" "nameTo" "[I") (jWr_11 _ (List.mem_of_getElem? (i := 8) rfl)))
  have hlk_52 := (htw (.fieldLink RX14 52 "ProofServerModel" "from" "[I") (jWr_11 _ (List.mem_of_getElem? (i := 9) rfl)))
  have hlk_55 := (htw (.fieldLink RX14 55 "ProofServerModel" "to" "[I") (jWr_11 _ (List.mem_of_getElem? (i := 10) rfl)))
  have hlk_58 := (htw (.fieldLink RX14 58 "ProofServerModel" "isInt" "[Z") (jWr_11 _ (List.mem_of_getElem? (i := 12) rfl)))
  have hlk_62 := (htw (.fieldLink RX14 62 "ProofServerModel" "ints" "[I") (jWr_11 _ (List.mem_of_getElem? (i := 13) rfl)))
  have hlk_65 := (htw (.fieldLink RX14 65 "ProofServerModel" "pool" "[I") (jWr_11 _ (List.mem_of_getElem? (i := 14) rfl)))
  have hlk_68 := (htw (.fieldLink RX14 68 "ProofServerModel" "idUnits" "[I") (jWr_11 _ (List.mem_of_getElem? (i := 15) rfl)))
  have hlk_74 := (htw (.fieldLink RX14 74 "ProofServerModel" "documents" "[LProofServerModel$Document;") (jWr_11 _ (List.mem_of_getElem? (i := 19) rfl)))
  have hlk_78 := (htw (.fieldLink RX14 78 "ProofServerModel" "changed" "[I") (jWr_11 _ (List.mem_of_getElem? (i := 20) rfl)))
  have hlk_81 := (htw (.fieldLink RX14 81 "ProofServerModel" "tail" "[I") (jWr_11 _ (List.mem_of_getElem? (i := 21) rfl)))
  have hlk_84 := (htw (.fieldLink RX14 84 "ProofServerModel" "old" "LProofServerModel$Document;") (jWr_11 _ (List.mem_of_getElem? (i := 22) rfl)))
  have hlk_88 := (htw (.fieldLink RX14 88 "ProofServerModel" "now" "LProofServerModel$Document;") (jWr_11 _ (List.mem_of_getElem? (i := 23) rfl)))
  have hlk_91 := (htw (.fieldLink RX14 91 "ProofServerModel" "waitOf" "[LProofServerModel$Document;") (jWr_12 _ (List.mem_of_getElem? (i := 0) rfl)))
  have hlk_94 := (htw (.fieldLink RX14 94 "ProofServerModel" "waitGoals" "[Z") (jWr_12 _ (List.mem_of_getElem? (i := 1) rfl)))
  have hlk_97 := (htw (.fieldLink RX14 97 "ProofServerModel" "waitNeed" "[I") (jWr_12 _ (List.mem_of_getElem? (i := 2) rfl)))
  have hlk_100 := (htw (.fieldLink RX14 100 "ProofServerModel" "waitString" "[Z") (jWr_12 _ (List.mem_of_getElem? (i := 3) rfl)))
  have hlk_103 := (htw (.fieldLink RX14 103 "ProofServerModel" "waitInt" "[I") (jWr_12 _ (List.mem_of_getElem? (i := 4) rfl)))
  have hlk_106 := (htw (.fieldLink RX14 106 "ProofServerModel" "waitUnits" "[I") (jWr_12 _ (List.mem_of_getElem? (i := 5) rfl)))
  have hlk_109 := (htw (.fieldLink RX14 109 "ProofServerModel" "waitLength" "[I") (jWr_12 _ (List.mem_of_getElem? (i := 6) rfl)))
  have hcs_112 := htw (.constant RX14 112 37200) (jWr_12 _ (List.mem_of_getElem? (i := 7) rfl))
  have hlk_113 := (htw (.fieldLink RX14 113 "ProofServerModel" "waitName" "[I") (jWr_12 _ (List.mem_of_getElem? (i := 8) rfl)))
  have hlk_116 := (htw (.fieldLink RX14 116 "ProofServerModel" "waitNameLength" "[I") (jWr_12 _ (List.mem_of_getElem? (i := 9) rfl)))
  have hlk_122 := (htw (.fieldLink RX14 122 "ProofServerModel" "kernel" "LProofServerModel$Kernel;") (jWr_12 _ (List.mem_of_getElem? (i := 13) rfl)))
  have hlk_126 := (htw (.fieldLink RX14 126 "ProofServerModel" "taken" "[I") (jWr_12 _ (List.mem_of_getElem? (i := 14) rfl)))
  have hlk_129 := (htw (.fieldLink RX14 129 "ProofServerModel" "checkOf" "[LProofServerModel$Document;") (jWr_12 _ (List.mem_of_getElem? (i := 15) rfl)))
  have hlk_132 := (htw (.fieldLink RX14 132 "ProofServerModel" "checkSentence" "[I") (jWr_12 _ (List.mem_of_getElem? (i := 16) rfl)))
  have hlk_135 := (htw (.fieldLink RX14 135 "ProofServerModel" "checkLeft" "[I") (jWr_12 _ (List.mem_of_getElem? (i := 17) rfl)))
  have hlk_138 := (htw (.fieldLink RX14 138 "ProofServerModel" "checkCached" "[Z") (jWr_12 _ (List.mem_of_getElem? (i := 18) rfl)))
  have hcs_141 := htw (.constant RX14 141 38400) (jWr_12 _ (List.mem_of_getElem? (i := 19) rfl))
  have hlk_142 := (htw (.fieldLink RX14 142 "ProofServerModel" "cacheUnits" "[I") (jWr_12 _ (List.mem_of_getElem? (i := 20) rfl)))
  have hlk_145 := (htw (.fieldLink RX14 145 "ProofServerModel" "cacheLength" "[I") (jWr_12 _ (List.mem_of_getElem? (i := 21) rfl)))
  have hlk_148 := (htw (.fieldLink RX14 148 "ProofServerModel" "row" "[I") (jWr_12 _ (List.mem_of_getElem? (i := 22) rfl)))
  have hlk_151 := (htw (.fieldLink RX14 151 "ProofServerModel" "told" "LProofServerModel$Document;") (jWr_12 _ (List.mem_of_getElem? (i := 23) rfl)))
  have hlk_154 := (htw (.fieldLink RX14 154 "ProofServerModel" "toldGoals" "[I") (jWr_13 _ (List.mem_of_getElem? (i := 0) rfl)))
  have hlk_157 := (htw (.fieldLink RX14 157 "ProofServerModel" "toldFacts" "[I") (jWr_13 _ (List.mem_of_getElem? (i := 1) rfl)))
  have hbs : base ≤ s.heap.size := Nat.le_of_lt (Nat.lt_of_le_of_lt hbr0 hraw0.lt)
  have hRc : R.cells = LC - s.heap.size := by rw [← hR]; rfl
  have hRs : R.slots = LS - jTot s.heap := by rw [← hR]; rfl
  have hE0 := hh.iv 0 rfl
  have hab0 : ∀ {a : Nat} {t : Nat × Nat}, G0 a = some t → a < s.heap.size := fun ht => (hh.ab ht).2
  have hin2 : meth.name = "<init>" := (name_of_methodNamed Bd.named Bd.method).1
  have hkp : jKx r0 G0 G0 s.heap s.heap := jKx.rf
  refine lv_aload_n hx hb dX14_init_0 rfl (lv_at hl 0 rfl) ?_
  refine W.objInit hx hb hown (htw (.methodLink RX14 1 objectInit) (jWr_10 _ (List.mem_of_getElem? (i := 16) rfl))) (htw (.instanceMethod objectInit) (jWr_1 _ (List.mem_of_getElem? (i := 10) rfl))) (htw (.code objectInit ⟨#[0xb1]⟩ 1 none) (jWr_1 _ (List.mem_of_getElem? (i := 11) rfl))) rfl (by rw [hml]; exact hl.1) rfl dX14_init_1 (by rw [← hR]; exact Nat.le_of_ble_eq_true rfl) (by rw [← hR]; exact Nat.le_of_ble_eq_true rfl) ?_
  refine W.eq (g2 := F0 m 4 ls []) rfl ?_
  refine lv_aload_n hx hb dX14_init_4 rfl (lv_at hl 0 rfl) ?_
  refine lv_sipush (v := 4000) hx hb dX14_init_5 (by decide) ?_
  have hsz_1 := hh.2.2.2.2.2.1
  have htt_1 := hh.2.2.2.2.2.2.1
  refine j7_newiK hx hb hK hh hB (atype := .int) (ty := .int) (htw (.arrayClass .int) (jWr_3 _ (List.mem_of_getElem? (i := 20) rfl))) rfl rfl (fun _ h => h) hB111 1 rfl (by decide) (by decide) hbs (x := 4000) (by decide) (by omega) (fun j => by first | trivial | decide | rfl | exact Or.inl rfl | exact Or.inr (Or.inl (by decide)) | (refine ⟨?_, ?_⟩ <;> decide)) (by rw [hRc]; omega) (by rw [hRs]; omega) dX14_init_8 (fun H_1 hfr_1 hh_1 => ?_)
  have hh_1 : jSt (dC, dI) B base G0 (va_up G0 s.heap.size (some (111, 4000))) EX14_initW s.heap (0 + 1) (0 + 4000) [] [] [(jFz9, jDZ dC dI G0)] H_1 [] := hh_1
  have hZ_1 : jN14 G0 (va_up G0 s.heap.size (some (111, 4000))) := jN14.new (by decide)
  have hN_1 : (jNk [1, 2, 3, 4, 5, 6, 7, 8, 9, 10, 11, 12, 13, 17, 175]) G0 (va_up G0 s.heap.size (some (111, 4000))) := jNk.new (by decide)
  have hgn_1 : (va_up G0 s.heap.size (some (111, 4000))) s.heap.size = some (111, 4000) := jUp_self
  have hle_1 : jLe G0 (va_up G0 s.heap.size (some (111, 4000))) := jLe.new hh.2.1.fresh
  have hke_1 : jKe G0 (va_up G0 s.heap.size (some (111, 4000))) s.heap H_1 := jKe.new hfr_1
  have hsy_1 : s.heap.size ≤ s.heap.size := hh.1.1
  generalize (va_up G0 s.heap.size (some (111, 4000))) = G_1 at hN_1 hgn_1 hle_1 hke_1 hh_1 hZ_1
  clear hh
  have hNn_1 : (jNk [1, 2, 3, 4, 5, 6, 7, 8, 9, 10, 11, 12, 13, 17, 175]) G0 G_1 := (jNk.rf).tr hN_1
  have hkp_2 := hkp.tr hke_1
  have hraw_3n := hke_1.nr hraw0.lt hnr0
  have hraw_3 := hraw0.kept (hke_1.1 _ hraw0.lt)
  try have hz14_1 : jN14 G0 G_1 := (jN14.rf).tr hZ_1
  have hd_4 := jDZ.grow (hh_1.iv 0 rfl) hle_1 hZ_1
  have hh_5 := hh_1.sub (L1 := []) [] rfl (M1 := []) [] rfl (I1 := []) [] rfl
  clear hh_1
  have hh_6 := hh_5.addI (jDZ.ie hd_4)
  clear hh_5
  refine j7_putRF hx hb hown hK hh_6 hB hAp hraw_3 hraw_3n hbr0 (C := RX14) (T := TX14) (N := 74) rfl (i := 0) (by decide) (Nat.le_of_ble_eq_true rfl) hly_16_0 rfl hin2 rfl hlk_9 (ty := (.array .int)) (v := .ref s.heap.size) (by decide +kernel) rfl rfl dX14_init_10 (fun H_7 locs_7 hraw_7 hr_7 hh_7 => ?_)
  have hraw_7 : va_at (dC, dI) vwCl (r0, .inr (16, [.ref s.heap.size, .int 0, .null, .int 0, .int 0, .null, .int 0, .int 0, .int 0, .null, .int 0, .int 0, .int 0, .null, .null, .int 0, .int 0, .null, .null, .null, .null, .null, .null, .null, .null, .null, .int 0, .null, .int 0, .int 0, .int 0, .int 0, .int 0, .int 0, .int 0, .int 0, .int 0, .int 0, .null, .int 0, .int 0, .null, .int 0, .null, .int 0, .null, .null, .null, .int 0, .null, .null, .null, .null, .null, .null, .null, .null, .null, .null, .null, .null, .null, .null, .null, .int 0, .int 0, .int 0, .null, .null, .null, .int 0, .null, .null, .null])) H_7 := hraw_7
  have hkp_8 := hkp_2.put hr_7
  clear hh_6
  refine lv_aload_n hx hb dX14_init_13 rfl (lv_at hl 0 rfl) ?_
  refine lv_sipush (v := 20000) hx hb dX14_init_14 (by decide) ?_
  clear hsz_1 htt_1
  have hsz_9 := hh_7.2.2.2.2.2.1
  have htt_9 := hh_7.2.2.2.2.2.2.1
  refine j7_newiK hx hb hK hh_7 hB (atype := .int) (ty := .int) (htw (.arrayClass .int) (jWr_3 _ (List.mem_of_getElem? (i := 20) rfl))) rfl rfl (fun _ h => h) hB101 1 rfl (by decide) (by decide) hbs (x := 20000) (by decide) (by omega) (fun j => by first | trivial | decide | rfl | exact Or.inl rfl | exact Or.inr (Or.inl (by decide)) | (refine ⟨?_, ?_⟩ <;> decide)) (by rw [hRc]; omega) (by rw [hRs]; omega) dX14_init_17 (fun H_9 hfr_9 hh_9 => ?_)
  have hh_9 : jSt (dC, dI) B base G0 (va_up G_1 H_7.size (some (101, 20000))) EX14_initW s.heap ((0 + 1) + 1) ((0 + 4000) + 20000) [] [] [(jFz9, jDZ dC dI G_1)] H_9 locs_7 := hh_9
  have hZ_9 : jN14 G_1 (va_up G_1 H_7.size (some (101, 20000))) := jN14.new (by decide)
  have hN_9 : (jNk [1, 2, 3, 4, 5, 6, 7, 8, 9, 10, 11, 12, 13, 17, 175]) G_1 (va_up G_1 H_7.size (some (101, 20000))) := jNk.new (by decide)
  have hgn_9 : (va_up G_1 H_7.size (some (101, 20000))) H_7.size = some (101, 20000) := jUp_self
  have hle_9 : jLe G_1 (va_up G_1 H_7.size (some (101, 20000))) := jLe.new hh_7.2.1.fresh
  have hke_9 : jKe G_1 (va_up G_1 H_7.size (some (101, 20000))) H_7 H_9 := jKe.new hfr_9
  have hsy_9 : s.heap.size ≤ H_7.size := hh_7.1.1
  generalize (va_up G_1 H_7.size (some (101, 20000))) = G_9 at hN_9 hgn_9 hle_9 hke_9 hh_9 hZ_9
  clear hh_7
  have hNn_9 : (jNk [1, 2, 3, 4, 5, 6, 7, 8, 9, 10, 11, 12, 13, 17, 175]) G0 G_9 := (hNn_1).tr hN_9
  have hkp_10 := hkp_8.tr hke_9
  have hraw_11n := hke_9.nr hraw_7.lt hraw_3n
  have hraw_11 := hraw_7.kept (hke_9.1 _ hraw_7.lt)
  try have hz14_9 : jN14 G0 G_9 := (hz14_1).tr hZ_9
  have hd_12 := jDZ.grow (hh_9.iv 0 rfl) hle_9 hZ_9
  have hh_13 := hh_9.sub (L1 := []) [] rfl (M1 := []) [] rfl (I1 := []) [] rfl
  clear hh_9
  have hh_14 := hh_13.addI (jDZ.ie hd_12)
  clear hh_13
  refine j7_putRF hx hb hown hK hh_14 hB hAp hraw_11 hraw_11n hbr0 (C := RX14) (T := TX14) (N := 74) rfl (i := 2) (by decide) (Nat.le_of_ble_eq_true rfl) hly_16_2 rfl hin2 rfl hlk_13 (ty := (.array .int)) (v := .ref H_7.size) (by decide +kernel) rfl rfl dX14_init_19 (fun H_15 locs_15 hraw_15 hr_15 hh_15 => ?_)
  have hraw_15 : va_at (dC, dI) vwCl (r0, .inr (16, [.ref s.heap.size, .int 0, .ref H_7.size, .int 0, .int 0, .null, .int 0, .int 0, .int 0, .null, .int 0, .int 0, .int 0, .null, .null, .int 0, .int 0, .null, .null, .null, .null, .null, .null, .null, .null, .null, .int 0, .null, .int 0, .int 0, .int 0, .int 0, .int 0, .int 0, .int 0, .int 0, .int 0, .int 0, .null, .int 0, .int 0, .null, .int 0, .null, .int 0, .null, .null, .null, .int 0, .null, .null, .null, .null, .null, .null, .null, .null, .null, .null, .null, .null, .null, .null, .null, .int 0, .int 0, .int 0, .null, .null, .null, .int 0, .null, .null, .null])) H_15 := hraw_15
  have hkp_16 := hkp_10.put hr_15
  clear hh_14
  refine lv_aload_n hx hb dX14_init_22 rfl (lv_at hl 0 rfl) ?_
  refine lv_ldc hx hb hown hcs_16 dX14_init_23 ?_
  clear hsz_9 htt_9
  have hsz_17 := hh_15.2.2.2.2.2.1
  have htt_17 := hh_15.2.2.2.2.2.2.1
  refine j7_newiK hx hb hK hh_15 hB (atype := .int) (ty := .int) (htw (.arrayClass .int) (jWr_3 _ (List.mem_of_getElem? (i := 20) rfl))) rfl rfl (fun _ h => h) hB101 1 rfl (by decide) (by decide) hbs (x := 100000) (by decide) (by omega) (fun j => by first | trivial | decide | rfl | exact Or.inl rfl | exact Or.inr (Or.inl (by decide)) | (refine ⟨?_, ?_⟩ <;> decide)) (by rw [hRc]; omega) (by rw [hRs]; omega) dX14_init_25 (fun H_17 hfr_17 hh_17 => ?_)
  have hh_17 : jSt (dC, dI) B base G0 (va_up G_9 H_15.size (some (101, 100000))) EX14_initW s.heap (((0 + 1) + 1) + 1) (((0 + 4000) + 20000) + 100000) [] [] [(jFz9, jDZ dC dI G_9)] H_17 locs_15 := hh_17
  have hZ_17 : jN14 G_9 (va_up G_9 H_15.size (some (101, 100000))) := jN14.new (by decide)
  have hN_17 : (jNk [1, 2, 3, 4, 5, 6, 7, 8, 9, 10, 11, 12, 13, 17, 175]) G_9 (va_up G_9 H_15.size (some (101, 100000))) := jNk.new (by decide)
  have hgn_17 : (va_up G_9 H_15.size (some (101, 100000))) H_15.size = some (101, 100000) := jUp_self
  have hle_17 : jLe G_9 (va_up G_9 H_15.size (some (101, 100000))) := jLe.new hh_15.2.1.fresh
  have hke_17 : jKe G_9 (va_up G_9 H_15.size (some (101, 100000))) H_15 H_17 := jKe.new hfr_17
  have hsy_17 : s.heap.size ≤ H_15.size := hh_15.1.1
  generalize (va_up G_9 H_15.size (some (101, 100000))) = G_17 at hN_17 hgn_17 hle_17 hke_17 hh_17 hZ_17
  clear hh_15
  have hNn_17 : (jNk [1, 2, 3, 4, 5, 6, 7, 8, 9, 10, 11, 12, 13, 17, 175]) G0 G_17 := (hNn_9).tr hN_17
  have hkp_18 := hkp_16.tr hke_17
  have hraw_19n := hke_17.nr hraw_15.lt hraw_11n
  have hraw_19 := hraw_15.kept (hke_17.1 _ hraw_15.lt)
  try have hz14_17 : jN14 G0 G_17 := (hz14_9).tr hZ_17
  have hd_20 := jDZ.grow (hh_17.iv 0 rfl) hle_17 hZ_17
  have hh_21 := hh_17.sub (L1 := []) [] rfl (M1 := []) [] rfl (I1 := []) [] rfl
  clear hh_17
  have hh_22 := hh_21.addI (jDZ.ie hd_20)
  clear hh_21
  refine j7_putRF hx hb hown hK hh_22 hB hAp hraw_19 hraw_19n hbr0 (C := RX14) (T := TX14) (N := 74) rfl (i := 5) (by decide) (Nat.le_of_ble_eq_true rfl) hly_16_5 rfl hin2 rfl hlk_17 (ty := (.array .int)) (v := .ref H_15.size) (by decide +kernel) rfl rfl dX14_init_27 (fun H_23 locs_23 hraw_23 hr_23 hh_23 => ?_)
  have hraw_23 : va_at (dC, dI) vwCl (r0, .inr (16, [.ref s.heap.size, .int 0, .ref H_7.size, .int 0, .int 0, .ref H_15.size, .int 0, .int 0, .int 0, .null, .int 0, .int 0, .int 0, .null, .null, .int 0, .int 0, .null, .null, .null, .null, .null, .null, .null, .null, .null, .int 0, .null, .int 0, .int 0, .int 0, .int 0, .int 0, .int 0, .int 0, .int 0, .int 0, .int 0, .null, .int 0, .int 0, .null, .int 0, .null, .int 0, .null, .null, .null, .int 0, .null, .null, .null, .null, .null, .null, .null, .null, .null, .null, .null, .null, .null, .null, .null, .int 0, .int 0, .int 0, .null, .null, .null, .int 0, .null, .null, .null])) H_23 := hraw_23
  have hkp_24 := hkp_18.put hr_23
  clear hh_22
  refine lv_aload_n hx hb dX14_init_30 rfl (lv_at hl 0 rfl) ?_
  refine lv_sipush (v := 3300) hx hb dX14_init_31 (by decide) ?_
  clear hsz_17 htt_17
  have hsz_25 := hh_23.2.2.2.2.2.1
  have htt_25 := hh_23.2.2.2.2.2.2.1
  refine j7_newiZ hx hb hK hh_23 hB (atype := .int) (ty := .int) (htw (.arrayClass .int) (jWr_3 _ (List.mem_of_getElem? (i := 20) rfl))) rfl rfl (fun _ h => h) hB110 1 rfl (by decide) (by decide) hbs (x := 3300) (by decide) (by omega) (fun j => by first | trivial | decide | rfl | exact Or.inl rfl | exact Or.inr (Or.inl (by decide)) | (refine ⟨?_, ?_⟩ <;> decide)) (by rw [hRc]; omega) (by rw [hRs]; omega) dX14_init_34 (fun H_25 hfr_25 haz_25 hh_25 => ?_)
  have hh_25 : jSt (dC, dI) B base G0 (va_up G_17 H_23.size (some (110, 3300))) EX14_initW s.heap ((((0 + 1) + 1) + 1) + 1) ((((0 + 4000) + 20000) + 100000) + 3300) [] [] [(jFz9, jDZ dC dI G_17)] H_25 locs_23 := hh_25
  have hZ_25 : jN14 G_17 (va_up G_17 H_23.size (some (110, 3300))) := jN14.new (by decide)
  have hN_25 : (jNk [1, 2, 3, 4, 5, 6, 7, 8, 9, 10, 11, 12, 13, 17, 175]) G_17 (va_up G_17 H_23.size (some (110, 3300))) := jNk.new (by decide)
  have hgn_25 : (va_up G_17 H_23.size (some (110, 3300))) H_23.size = some (110, 3300) := jUp_self
  have hle_25 : jLe G_17 (va_up G_17 H_23.size (some (110, 3300))) := jLe.new hh_23.2.1.fresh
  have hke_25 : jKe G_17 (va_up G_17 H_23.size (some (110, 3300))) H_23 H_25 := jKe.new hfr_25
  have hsy_25 : s.heap.size ≤ H_23.size := hh_23.1.1
  generalize (va_up G_17 H_23.size (some (110, 3300))) = G_25 at hN_25 hgn_25 hle_25 hke_25 hh_25 hZ_25
  clear hh_23
  have hNn_25 : (jNk [1, 2, 3, 4, 5, 6, 7, 8, 9, 10, 11, 12, 13, 17, 175]) G0 G_25 := (hNn_17).tr hN_25
  have hkp_26 := hkp_24.tr hke_25
  have hraw_27n := hke_25.nr hraw_23.lt hraw_19n
  have hraw_27 := hraw_23.kept (hke_25.1 _ hraw_23.lt)
  try have hz14_25 : jN14 G0 G_25 := (hz14_17).tr hZ_25
  have hd_28 := jDZ.grow (hh_25.iv 0 rfl) hle_25 hZ_25
  have hh_29 := hh_25.sub (L1 := []) [] rfl (M1 := []) [] rfl (I1 := []) [] rfl
  clear hh_25
  have hh_30 := hh_29.addI (jDZ.ie hd_28)
  clear hh_29
  have hh_31 := hh_30.moreM (M1 := [(H_23.size, 110, 3300, ca 1, fun _ => 0)]) (fun q hq => by cases List.mem_singleton.mp hq; exact ⟨hgn_25, (by show 18 ≤ 110; decide), (by show 110 < 1000; decide), haz_25⟩)
  clear hh_30
  refine j7_putRF hx hb hown hK hh_31 hB hAp hraw_27 hraw_27n hbr0 (C := RX14) (T := TX14) (N := 74) rfl (i := 9) (by decide) (Nat.le_of_ble_eq_true rfl) hly_16_9 rfl hin2 rfl hlk_20 (ty := (.array .int)) (v := .ref H_23.size) (by decide +kernel) rfl rfl dX14_init_36 (fun H_32 locs_32 hraw_32 hr_32 hh_32 => ?_)
  have hraw_32 : va_at (dC, dI) vwCl (r0, .inr (16, [.ref s.heap.size, .int 0, .ref H_7.size, .int 0, .int 0, .ref H_15.size, .int 0, .int 0, .int 0, .ref H_23.size, .int 0, .int 0, .int 0, .null, .null, .int 0, .int 0, .null, .null, .null, .null, .null, .null, .null, .null, .null, .int 0, .null, .int 0, .int 0, .int 0, .int 0, .int 0, .int 0, .int 0, .int 0, .int 0, .int 0, .null, .int 0, .int 0, .null, .int 0, .null, .int 0, .null, .null, .null, .int 0, .null, .null, .null, .null, .null, .null, .null, .null, .null, .null, .null, .null, .null, .null, .null, .int 0, .int 0, .int 0, .null, .null, .null, .int 0, .null, .null, .null])) H_32 := hraw_32
  have hkp_33 := hkp_26.put hr_32
  clear hh_31
  refine lv_aload_n hx hb dX14_init_39 rfl (lv_at hl 0 rfl) ?_
  clear hsz_25 htt_25
  have hsz_34 := hh_32.2.2.2.2.2.1
  have htt_34 := hh_32.2.2.2.2.2.2.1
  refine j7_newo (k := 0) (C := RJ4) (T := TJ4) (N := 4) (fs := [.null, .int 0, .int 0, .int 0]) hx hb htw jWc_wsJ40 (fun k => ([(.array .byte), .byte, .boolean, .int] : List FieldType).getD k .int) (by decide +kernel) hown (htw (.classLink RX14 23 RJ4) (jWr_10 _ (List.mem_of_getElem? (i := 22) rfl))) (htw (.instantiable RJ4 4) (jWr_10 _ (List.mem_of_getElem? (i := 23) rfl))) (htw (.initialized RJ4) (jWr_11 _ (List.mem_of_getElem? (i := 0) rfl))) hK rfl (fun j hj => by rcases (by omega : j = 0 ∨ j = 1 ∨ j = 2 ∨ j = 3) with rfl | rfl | rfl | rfl <;> rfl) hh_32 hB (by rw [hRc]; omega) (by rw [hRs]; omega) dX14_init_40 (fun H_34 hraw_34 hfr_34 hnr_34 hh_34 => ?_)
  have hlt_35 := hraw_32.lt
  have hke_34 : jKe G_25 G_25 H_32 H_34 := jKe.raw hfr_34
  have hbr_34 : base ≤ H_32.size := Nat.le_trans hbs hh_32.1.1
  have hsy_34 : s.heap.size ≤ H_32.size := hh_32.1.1
  clear hh_32
  have hkp_36 := hkp_33.tr hke_34
  have hraw_37n := hke_34.nr hraw_32.lt hraw_27n
  have hraw_37 := hraw_32.kept (hke_34.1 _ hraw_32.lt)
  have hne_38 : r0 ≠ H_32.size := Nat.ne_of_lt hlt_35
  refine lv_dup hx hb dX14_init_43 rfl ?_
  clear hsz_34 htt_34
  have hsz_39 := hh_34.2.2.2.2.2.1
  have htt_39 := hh_34.2.2.2.2.2.2.1
  refine W.room (fun hrc_39 hrs_39 => ?_)
  refine va_callv (A0 := jA base) (H0 := s.heap) (va_runI (As := []) (rest := [.ref H_32.size, .ref r0]) ⟨hx, hb, hml, hown, hts⟩ (uJ4_init_da8c8V l dC dI ca base B hB hAp hB0 hB196 hB198 G_25 H_34 H_32.size LC LS) (cwI 0 hts (jgW (jWr_13 _ (List.mem_of_getElem? (i := 4) rfl))) rfl rfl rfl (htw (.initialized RJ4) (jWr_11 _ (List.mem_of_getElem? (i := 0) rfl))) (htw (.methodLink RX14 25 yJ4_init_da8c8) (jWr_13 _ (List.mem_of_getElem? (i := 2) rfl))) (htw (.instanceMethod yJ4_init_da8c8) (jWr_13 _ (List.mem_of_getElem? (i := 3) rfl))) rfl (by decide +kernel) ⟨by rw [← hR]; exact Nat.le_of_ble_eq_true rfl, by rw [← hR]; exact Nat.le_of_ble_eq_true rfl⟩) ⟨fun a U g mk q => by obtain ⟨q0, q1, q2, qK, q10, q11, q12, q13, q14⟩ := q; exact ⟨q0, q1, q2, jG.calling g mk a qK, q10, q11, q12, q13, q14⟩, fun U hU hW => ⟨rfl, hU, hh_34.2.1, hG.step hW hU hh_34.1, hraw_34, hnr_34, hbr_34, jP.nil, (by omega), (by omega), trivial⟩⟩ rfl rfl hl.1 rfl (lv_room (Nat.le_of_ble_eq_true rfl)) dX14_init_44 ⟨by rw [hRc]; omega, by rw [hRs]; omega⟩) hh_34.1 (fun q _ h => h) (fun q h => h) (fun u_39 t_39 H_39 locs_39 ht_39 hvm_39 hr_40 hb_39 hz_39 hk_39 hS_39 => ?_)
  obtain ⟨qc_39, xa_39, m_xa_39, G_39⟩ := u_39
  rw [ht_39] at hb_39
  simp only at hb_39
  obtain ⟨⟨hb_391, hb_392, hb_393, hb_394, hb_395, hb_396⟩, hgq_39_0, hN_39, hgc_39, hbX_39⟩ := hb_39
  have hZ_39 : jN14 G_25 G_39 := fun a h => hN_39 a 14 0 h rfl
  try have hz14_39 : jN14 G0 G_39 := (hz14_25).tr hZ_39
  have hN_39 : (jNk [1, 2, 3, 4, 5, 6, 7, 8, 9, 10, 11, 12, 13, 17, 175]) G_25 G_39 := hN_39.sub (by decide)
  have hh_39 : jSt (dC, dI) B base G0 G_39 EX14_initW s.heap ((((((0 + 1) + 1) + 1) + 1) + 1) + (1)) ((((((0 + 4000) + 20000) + 100000) + 3300) + 4) + (16)) [(H_32.size, 0, 3, .int qc_39), (H_32.size, 0, 0, .ref xa_39)] [(H_23.size, 110, 3300, ca 1, (fun _ => 0))] [(jFz9, jDZ dC dI G_25)] H_39 locs_39 := (hh_34.callG hb_391 hb_392 hb_393 hb_394 hb_395 hS_39 rfl (L1 := []) [] rfl rfl (M1 := [(H_23.size, 110, 3300, ca 1, (fun _ => 0))]) [0] rfl rfl (I1 := [(jFz9, jDZ dC dI G_25)]) [0] rfl rfl).more hb_396
  have hNn_39 : (jNk [1, 2, 3, 4, 5, 6, 7, 8, 9, 10, 11, 12, 13, 17, 175]) G0 G_39 := (hNn_25).tr hN_39
  have hd_41 := jDZ.grow (hh_39.iv 0 rfl) hb_392 hZ_39
  have hh_42 := hh_39.sub (L1 := [(H_32.size, 0, 3, .int qc_39), (H_32.size, 0, 0, .ref xa_39)]) [0, 1] rfl (M1 := [(H_23.size, 110, 3300, ca 1, (fun _ => 0))]) [0] rfl (I1 := []) [] rfl
  clear hh_39
  have hh_43 := hh_42.addI (jDZ.ie hd_41)
  clear hh_42
  try simp only at hr_40
  obtain ⟨hr_40_0, hr_40_1, hr_40_2⟩ := hr_40
  have hkp_44 := hkp_36.in hbX_39 hsy_34
  have hraw_45x := hbX_39.ke hraw_37.lt hne_38 hraw_37n
  have hraw_45 := hraw_37.kept hraw_45x.1
  refine j7_putRF hx hb hown hK hh_43 hB hAp hraw_45 hraw_45x.2 hbr0 (C := RX14) (T := TX14) (N := 74) rfl (i := 13) (by decide) (Nat.le_of_ble_eq_true rfl) hly_16_13 rfl hin2 rfl hlk_26 (ty := (.object "java/lang/StringBuilder")) (v := .ref H_32.size) (by decide +kernel) rfl rfl dX14_init_47 (fun H_46 locs_46 hraw_46 hr_46 hh_46 => ?_)
  have hraw_46 : va_at (dC, dI) vwCl (r0, .inr (16, [.ref s.heap.size, .int 0, .ref H_7.size, .int 0, .int 0, .ref H_15.size, .int 0, .int 0, .int 0, .ref H_23.size, .int 0, .int 0, .int 0, .ref H_32.size, .null, .int 0, .int 0, .null, .null, .null, .null, .null, .null, .null, .null, .null, .int 0, .null, .int 0, .int 0, .int 0, .int 0, .int 0, .int 0, .int 0, .int 0, .int 0, .int 0, .null, .int 0, .int 0, .null, .int 0, .null, .int 0, .null, .null, .null, .int 0, .null, .null, .null, .null, .null, .null, .null, .null, .null, .null, .null, .null, .null, .null, .null, .int 0, .int 0, .int 0, .null, .null, .null, .int 0, .null, .null, .null])) H_46 := hraw_46
  have hkp_47 := hkp_44.put hr_46
  clear hh_43
  refine lv_aload_n hx hb dX14_init_50 rfl (lv_at hl 0 rfl) ?_
  have hnb : H_32.size ≠ H_46.size := Nat.ne_of_lt (hh_46.ab ((jLe.rf) _ _ hgc_39)).2
  clear hsz_39 htt_39 hrc_39 hrs_39
  have hsz_48 := hh_46.2.2.2.2.2.1
  have htt_48 := hh_46.2.2.2.2.2.2.1
  refine j7_newo (k := 0) (C := RJ4) (T := TJ4) (N := 4) (fs := [.null, .int 0, .int 0, .int 0]) hx hb htw jWc_wsJ40 (fun k => ([(.array .byte), .byte, .boolean, .int] : List FieldType).getD k .int) (by decide +kernel) hown (htw (.classLink RX14 23 RJ4) (jWr_10 _ (List.mem_of_getElem? (i := 22) rfl))) (htw (.instantiable RJ4 4) (jWr_10 _ (List.mem_of_getElem? (i := 23) rfl))) (htw (.initialized RJ4) (jWr_11 _ (List.mem_of_getElem? (i := 0) rfl))) hK rfl (fun j hj => by rcases (by omega : j = 0 ∨ j = 1 ∨ j = 2 ∨ j = 3) with rfl | rfl | rfl | rfl <;> rfl) hh_46 hB (by rw [hRc]; omega) (by rw [hRs]; omega) dX14_init_51 (fun H_48 hraw_48 hfr_48 hnr_48 hh_48 => ?_)
  have hlt_49 := hraw_46.lt
  have hke_48 : jKe G_39 G_39 H_46 H_48 := jKe.raw hfr_48
  have hbr_48 : base ≤ H_46.size := Nat.le_trans hbs hh_46.1.1
  have hsy_48 : s.heap.size ≤ H_46.size := hh_46.1.1
  clear hh_46
  have hkp_50 := hkp_47.tr hke_48
  have hraw_51n := hke_48.nr hraw_46.lt hraw_45x.2
  have hraw_51 := hraw_46.kept (hke_48.1 _ hraw_46.lt)
  have hne_52 : r0 ≠ H_46.size := Nat.ne_of_lt hlt_49
  refine lv_dup hx hb dX14_init_54 rfl ?_
  have hxl9 : xa_39 < H_48.size := (hh_48.ab hgq_39_0).2
  clear hsz_48 htt_48
  have hsz_53 := hh_48.2.2.2.2.2.1
  have htt_53 := hh_48.2.2.2.2.2.2.1
  refine W.room (fun hrc_53 hrs_53 => ?_)
  refine va_callv (A0 := jA base) (H0 := s.heap) (va_runI (As := []) (rest := [.ref H_46.size, .ref r0]) ⟨hx, hb, hml, hown, hts⟩ (uJ4_init_da8c8V l dC dI ca base B hB hAp hB0 hB196 hB198 G_39 H_48 H_46.size LC LS) (cwI 0 hts (jgW (jWr_13 _ (List.mem_of_getElem? (i := 4) rfl))) rfl rfl rfl (htw (.initialized RJ4) (jWr_11 _ (List.mem_of_getElem? (i := 0) rfl))) (htw (.methodLink RX14 25 yJ4_init_da8c8) (jWr_13 _ (List.mem_of_getElem? (i := 2) rfl))) (htw (.instanceMethod yJ4_init_da8c8) (jWr_13 _ (List.mem_of_getElem? (i := 3) rfl))) rfl (by decide +kernel) ⟨by rw [← hR]; exact Nat.le_of_ble_eq_true rfl, by rw [← hR]; exact Nat.le_of_ble_eq_true rfl⟩) ⟨fun a U g mk q => by obtain ⟨q0, q1, q2, qK, q10, q11, q12, q13, q14⟩ := q; exact ⟨q0, q1, q2, jG.calling g mk a qK, q10, q11, q12, q13, q14⟩, fun U hU hW => ⟨rfl, hU, hh_48.2.1, hG.step hW hU hh_48.1, hraw_48, hnr_48, hbr_48, jP.nil, (by omega), (by omega), trivial⟩⟩ rfl rfl hl.1 rfl (lv_room (Nat.le_of_ble_eq_true rfl)) dX14_init_55 ⟨by rw [hRc]; omega, by rw [hRs]; omega⟩) hh_48.1 (fun q _ h => h) (fun q h => h) (fun u_53 t_53 H_53 locs_53 ht_53 hvm_53 hr_54 hb_53 hz_53 hk_53 hS_53 => ?_)
  obtain ⟨qc_53, xa_53, m_xa_53, G_53⟩ := u_53
  rw [ht_53] at hb_53
  simp only at hb_53
  obtain ⟨⟨hb_531, hb_532, hb_533, hb_534, hb_535, hb_536⟩, hgq_53_0, hN_53, hgc_53, hbX_53⟩ := hb_53
  have hZ_53 : jN14 G_39 G_53 := fun a h => hN_53 a 14 0 h rfl
  try have hz14_53 : jN14 G0 G_53 := (hz14_39).tr hZ_53
  have hN_53 : (jNk [1, 2, 3, 4, 5, 6, 7, 8, 9, 10, 11, 12, 13, 17, 175]) G_39 G_53 := hN_53.sub (by decide)
  have hh_53 : jSt (dC, dI) B base G0 G_53 EX14_initW s.heap ((((((((0 + 1) + 1) + 1) + 1) + 1) + (1)) + 1) + (1)) ((((((((0 + 4000) + 20000) + 100000) + 3300) + 4) + (16)) + 4) + (16)) [(H_46.size, 0, 3, .int qc_53), (H_46.size, 0, 0, .ref xa_53), (H_32.size, 0, 3, .int qc_39), (H_32.size, 0, 0, .ref xa_39)] [(H_23.size, 110, 3300, ca 1, (fun _ => 0))] [(jFz9, jDZ dC dI G_39)] H_53 locs_53 := (hh_48.callG hb_531 hb_532 hb_533 hb_534 hb_535 hS_53 rfl (L1 := [(H_32.size, 0, 3, .int qc_39), (H_32.size, 0, 0, .ref xa_39)]) [0, 1] rfl rfl (M1 := [(H_23.size, 110, 3300, ca 1, (fun _ => 0))]) [0] rfl rfl (I1 := [(jFz9, jDZ dC dI G_39)]) [0] rfl rfl).more hb_536
  have hNn_53 : (jNk [1, 2, 3, 4, 5, 6, 7, 8, 9, 10, 11, 12, 13, 17, 175]) G0 G_53 := (hNn_39).tr hN_53
  have hg_55 := hb_532 _ _ hgq_39_0
  have hd_56 := jDZ.grow (hh_53.iv 0 rfl) hb_532 hZ_53
  have hh_57 := hh_53.sub (L1 := [(H_46.size, 0, 3, .int qc_53), (H_46.size, 0, 0, .ref xa_53), (H_32.size, 0, 3, .int qc_39), (H_32.size, 0, 0, .ref xa_39)]) [0, 1, 2, 3] rfl (M1 := [(H_23.size, 110, 3300, ca 1, (fun _ => 0))]) [0] rfl (I1 := []) [] rfl
  clear hh_53
  have hh_58 := hh_57.addI (jDZ.ie hd_56)
  clear hh_57
  try simp only at hr_54
  obtain ⟨hr_54_0, hr_54_1, hr_54_2⟩ := hr_54
  have hkp_59 := hkp_50.in hbX_53 hsy_48
  have hraw_60x := hbX_53.ke hraw_51.lt hne_52 hraw_51n
  have hraw_60 := hraw_51.kept hraw_60x.1
  refine j7_putRF hx hb hown hK hh_58 hB hAp hraw_60 hraw_60x.2 hbr0 (C := RX14) (T := TX14) (N := 74) rfl (i := 14) (by decide) (Nat.le_of_ble_eq_true rfl) hly_16_14 rfl hin2 rfl hlk_30 (ty := (.object "java/lang/StringBuilder")) (v := .ref H_46.size) (by decide +kernel) rfl rfl dX14_init_58 (fun H_61 locs_61 hraw_61 hr_61 hh_61 => ?_)
  have hraw_61 : va_at (dC, dI) vwCl (r0, .inr (16, [.ref s.heap.size, .int 0, .ref H_7.size, .int 0, .int 0, .ref H_15.size, .int 0, .int 0, .int 0, .ref H_23.size, .int 0, .int 0, .int 0, .ref H_32.size, .ref H_46.size, .int 0, .int 0, .null, .null, .null, .null, .null, .null, .null, .null, .null, .int 0, .null, .int 0, .int 0, .int 0, .int 0, .int 0, .int 0, .int 0, .int 0, .int 0, .int 0, .null, .int 0, .int 0, .null, .int 0, .null, .int 0, .null, .null, .null, .int 0, .null, .null, .null, .null, .null, .null, .null, .null, .null, .null, .null, .null, .null, .null, .null, .int 0, .int 0, .int 0, .null, .null, .null, .int 0, .null, .null, .null])) H_61 := hraw_61
  have hkp_62 := hkp_59.put hr_61
  clear hh_58
  refine lv_aload_n hx hb dX14_init_61 rfl (lv_at hl 0 rfl) ?_
  refine lv_iconst (v := (-1)) hx hb dX14_init_62 (by decide) ?_
  refine j7_putR hx hb hown hK hh_61 hB hAp hraw_61 hraw_60x.2 hbr0 (C := RX14) (T := TX14) (N := 74) rfl (i := 15) (by decide) (Nat.le_of_ble_eq_true rfl) hly_16_15 rfl hlk_33 (ty := .int) (v := .int (-1)) (by decide +kernel) rfl rfl dX14_init_63 (fun H_63 locs_63 hraw_63 hr_63 hh_63 => ?_)
  have hraw_63 : va_at (dC, dI) vwCl (r0, .inr (16, [.ref s.heap.size, .int 0, .ref H_7.size, .int 0, .int 0, .ref H_15.size, .int 0, .int 0, .int 0, .ref H_23.size, .int 0, .int 0, .int 0, .ref H_32.size, .ref H_46.size, .int (-1), .int 0, .null, .null, .null, .null, .null, .null, .null, .null, .null, .int 0, .null, .int 0, .int 0, .int 0, .int 0, .int 0, .int 0, .int 0, .int 0, .int 0, .int 0, .null, .int 0, .int 0, .null, .int 0, .null, .int 0, .null, .null, .null, .int 0, .null, .null, .null, .null, .null, .null, .null, .null, .null, .null, .null, .null, .null, .null, .null, .int 0, .int 0, .int 0, .null, .null, .null, .int 0, .null, .null, .null])) H_63 := hraw_63
  have hkp_64 := hkp_62.put hr_63
  clear hh_61
  refine lv_aload_n hx hb dX14_init_66 rfl (lv_at hl 0 rfl) ?_
  refine lv_sipush (v := 3100) hx hb dX14_init_67 (by decide) ?_
  clear hsz_53 htt_53 hrc_53 hrs_53
  have hsz_65 := hh_63.2.2.2.2.2.1
  have htt_65 := hh_63.2.2.2.2.2.2.1
  refine j7_newiK hx hb hK hh_63 hB (atype := .int) (ty := .int) (htw (.arrayClass .int) (jWr_3 _ (List.mem_of_getElem? (i := 20) rfl))) rfl rfl (fun _ h => h) hB117 1 rfl (by decide) (by decide) hbs (x := 3100) (by decide) (by omega) (fun j => by first | trivial | decide | rfl | exact Or.inl rfl | exact Or.inr (Or.inl (by decide)) | (refine ⟨?_, ?_⟩ <;> decide)) (by rw [hRc]; omega) (by rw [hRs]; omega) dX14_init_70 (fun H_65 hfr_65 hh_65 => ?_)
  have hh_65 : jSt (dC, dI) B base G0 (va_up G_53 H_63.size (some (117, 3100))) EX14_initW s.heap (((((((((0 + 1) + 1) + 1) + 1) + 1) + (1)) + 1) + (1)) + 1) (((((((((0 + 4000) + 20000) + 100000) + 3300) + 4) + (16)) + 4) + (16)) + 3100) [(H_46.size, 0, 3, .int qc_53), (H_46.size, 0, 0, .ref xa_53), (H_32.size, 0, 3, .int qc_39), (H_32.size, 0, 0, .ref xa_39)] [(H_23.size, 110, 3300, ca 1, (fun _ => 0))] [(jFz9, jDZ dC dI G_53)] H_65 locs_63 := hh_65
  have hZ_65 : jN14 G_53 (va_up G_53 H_63.size (some (117, 3100))) := jN14.new (by decide)
  have hN_65 : (jNk [1, 2, 3, 4, 5, 6, 7, 8, 9, 10, 11, 12, 13, 17, 175]) G_53 (va_up G_53 H_63.size (some (117, 3100))) := jNk.new (by decide)
  have hgn_65 : (va_up G_53 H_63.size (some (117, 3100))) H_63.size = some (117, 3100) := jUp_self
  have hle_65 : jLe G_53 (va_up G_53 H_63.size (some (117, 3100))) := jLe.new hh_63.2.1.fresh
  have hke_65 : jKe G_53 (va_up G_53 H_63.size (some (117, 3100))) H_63 H_65 := jKe.new hfr_65
  have hsy_65 : s.heap.size ≤ H_63.size := hh_63.1.1
  generalize (va_up G_53 H_63.size (some (117, 3100))) = G_65 at hN_65 hgn_65 hle_65 hke_65 hh_65 hZ_65
  clear hh_63
  have hNn_65 : (jNk [1, 2, 3, 4, 5, 6, 7, 8, 9, 10, 11, 12, 13, 17, 175]) G0 G_65 := (hNn_53).tr hN_65
  have hg_66 := hle_65 _ _ hgq_53_0
  have hg_67 := hle_65 _ _ hg_55
  have hkp_68 := hkp_64.tr hke_65
  have hraw_69n := hke_65.nr hraw_63.lt hraw_60x.2
  have hraw_69 := hraw_63.kept (hke_65.1 _ hraw_63.lt)
  try have hz14_65 : jN14 G0 G_65 := (hz14_53).tr hZ_65
  have hd_70 := jDZ.grow (hh_65.iv 0 rfl) hle_65 hZ_65
  have hh_71 := hh_65.sub (L1 := [(H_46.size, 0, 3, .int qc_53), (H_46.size, 0, 0, .ref xa_53), (H_32.size, 0, 3, .int qc_39), (H_32.size, 0, 0, .ref xa_39)]) [0, 1, 2, 3] rfl (M1 := [(H_23.size, 110, 3300, ca 1, (fun _ => 0))]) [0] rfl (I1 := []) [] rfl
  clear hh_65
  have hh_72 := hh_71.addI (jDZ.ie hd_70)
  clear hh_71
  refine j7_putRF hx hb hown hK hh_72 hB hAp hraw_69 hraw_69n hbr0 (C := RX14) (T := TX14) (N := 74) rfl (i := 17) (by decide) (Nat.le_of_ble_eq_true rfl) hly_16_17 rfl hin2 rfl hlk_37 (ty := (.array .int)) (v := .ref H_63.size) (by decide +kernel) rfl rfl dX14_init_72 (fun H_73 locs_73 hraw_73 hr_73 hh_73 => ?_)
  have hraw_73 : va_at (dC, dI) vwCl (r0, .inr (16, [.ref s.heap.size, .int 0, .ref H_7.size, .int 0, .int 0, .ref H_15.size, .int 0, .int 0, .int 0, .ref H_23.size, .int 0, .int 0, .int 0, .ref H_32.size, .ref H_46.size, .int (-1), .int 0, .ref H_63.size, .null, .null, .null, .null, .null, .null, .null, .null, .int 0, .null, .int 0, .int 0, .int 0, .int 0, .int 0, .int 0, .int 0, .int 0, .int 0, .int 0, .null, .int 0, .int 0, .null, .int 0, .null, .int 0, .null, .null, .null, .int 0, .null, .null, .null, .null, .null, .null, .null, .null, .null, .null, .null, .null, .null, .null, .null, .int 0, .int 0, .int 0, .null, .null, .null, .int 0, .null, .null, .null])) H_73 := hraw_73
  have hkp_74 := hkp_68.put hr_73
  clear hh_72
  refine lv_aload_n hx hb dX14_init_75 rfl (lv_at hl 0 rfl) ?_
  refine lv_sipush (v := 3100) hx hb dX14_init_76 (by decide) ?_
  clear hsz_65 htt_65
  have hsz_75 := hh_73.2.2.2.2.2.1
  have htt_75 := hh_73.2.2.2.2.2.2.1
  refine j7_newiK hx hb hK hh_73 hB (atype := .int) (ty := .int) (htw (.arrayClass .int) (jWr_3 _ (List.mem_of_getElem? (i := 20) rfl))) rfl rfl (fun _ h => h) hB118 1 rfl (by decide) (by decide) hbs (x := 3100) (by decide) (by omega) (fun j => by first | trivial | decide | rfl | exact Or.inl rfl | exact Or.inr (Or.inl (by decide)) | (refine ⟨?_, ?_⟩ <;> decide)) (by rw [hRc]; omega) (by rw [hRs]; omega) dX14_init_79 (fun H_75 hfr_75 hh_75 => ?_)
  have hh_75 : jSt (dC, dI) B base G0 (va_up G_65 H_73.size (some (118, 3100))) EX14_initW s.heap ((((((((((0 + 1) + 1) + 1) + 1) + 1) + (1)) + 1) + (1)) + 1) + 1) ((((((((((0 + 4000) + 20000) + 100000) + 3300) + 4) + (16)) + 4) + (16)) + 3100) + 3100) [(H_46.size, 0, 3, .int qc_53), (H_46.size, 0, 0, .ref xa_53), (H_32.size, 0, 3, .int qc_39), (H_32.size, 0, 0, .ref xa_39)] [(H_23.size, 110, 3300, ca 1, (fun _ => 0))] [(jFz9, jDZ dC dI G_65)] H_75 locs_73 := hh_75
  have hZ_75 : jN14 G_65 (va_up G_65 H_73.size (some (118, 3100))) := jN14.new (by decide)
  have hN_75 : (jNk [1, 2, 3, 4, 5, 6, 7, 8, 9, 10, 11, 12, 13, 17, 175]) G_65 (va_up G_65 H_73.size (some (118, 3100))) := jNk.new (by decide)
  have hgn_75 : (va_up G_65 H_73.size (some (118, 3100))) H_73.size = some (118, 3100) := jUp_self
  have hle_75 : jLe G_65 (va_up G_65 H_73.size (some (118, 3100))) := jLe.new hh_73.2.1.fresh
  have hke_75 : jKe G_65 (va_up G_65 H_73.size (some (118, 3100))) H_73 H_75 := jKe.new hfr_75
  have hsy_75 : s.heap.size ≤ H_73.size := hh_73.1.1
  generalize (va_up G_65 H_73.size (some (118, 3100))) = G_75 at hN_75 hgn_75 hle_75 hke_75 hh_75 hZ_75
  clear hh_73
  have hNn_75 : (jNk [1, 2, 3, 4, 5, 6, 7, 8, 9, 10, 11, 12, 13, 17, 175]) G0 G_75 := (hNn_65).tr hN_75
  have hg_76 := hle_75 _ _ hg_66
  have hg_77 := hle_75 _ _ hg_67
  have hkp_78 := hkp_74.tr hke_75
  have hraw_79n := hke_75.nr hraw_73.lt hraw_69n
  have hraw_79 := hraw_73.kept (hke_75.1 _ hraw_73.lt)
  try have hz14_75 : jN14 G0 G_75 := (hz14_65).tr hZ_75
  have hd_80 := jDZ.grow (hh_75.iv 0 rfl) hle_75 hZ_75
  have hh_81 := hh_75.sub (L1 := [(H_46.size, 0, 3, .int qc_53), (H_46.size, 0, 0, .ref xa_53), (H_32.size, 0, 3, .int qc_39), (H_32.size, 0, 0, .ref xa_39)]) [0, 1, 2, 3] rfl (M1 := [(H_23.size, 110, 3300, ca 1, (fun _ => 0))]) [0] rfl (I1 := []) [] rfl
  clear hh_75
  have hh_82 := hh_81.addI (jDZ.ie hd_80)
  clear hh_81
  refine j7_putRF hx hb hown hK hh_82 hB hAp hraw_79 hraw_79n hbr0 (C := RX14) (T := TX14) (N := 74) rfl (i := 18) (by decide) (Nat.le_of_ble_eq_true rfl) hly_16_18 rfl hin2 rfl hlk_40 (ty := (.array .int)) (v := .ref H_73.size) (by decide +kernel) rfl rfl dX14_init_81 (fun H_83 locs_83 hraw_83 hr_83 hh_83 => ?_)
  have hraw_83 : va_at (dC, dI) vwCl (r0, .inr (16, [.ref s.heap.size, .int 0, .ref H_7.size, .int 0, .int 0, .ref H_15.size, .int 0, .int 0, .int 0, .ref H_23.size, .int 0, .int 0, .int 0, .ref H_32.size, .ref H_46.size, .int (-1), .int 0, .ref H_63.size, .ref H_73.size, .null, .null, .null, .null, .null, .null, .null, .int 0, .null, .int 0, .int 0, .int 0, .int 0, .int 0, .int 0, .int 0, .int 0, .int 0, .int 0, .null, .int 0, .int 0, .null, .int 0, .null, .int 0, .null, .null, .null, .int 0, .null, .null, .null, .null, .null, .null, .null, .null, .null, .null, .null, .null, .null, .null, .null, .int 0, .int 0, .int 0, .null, .null, .null, .int 0, .null, .null, .null])) H_83 := hraw_83
  have hkp_84 := hkp_78.put hr_83
  clear hh_82
  refine lv_aload_n hx hb dX14_init_84 rfl (lv_at hl 0 rfl) ?_
  refine lv_sipush (v := 3100) hx hb dX14_init_85 (by decide) ?_
  clear hsz_75 htt_75
  have hsz_85 := hh_83.2.2.2.2.2.1
  have htt_85 := hh_83.2.2.2.2.2.2.1
  refine j7_newiK hx hb hK hh_83 hB (atype := .int) (ty := .int) (htw (.arrayClass .int) (jWr_3 _ (List.mem_of_getElem? (i := 20) rfl))) rfl rfl (fun _ h => h) hB119 1 rfl (by decide) (by decide) hbs (x := 3100) (by decide) (by omega) (fun j => by first | trivial | decide | rfl | exact Or.inl rfl | exact Or.inr (Or.inl (by decide)) | (refine ⟨?_, ?_⟩ <;> decide)) (by rw [hRc]; omega) (by rw [hRs]; omega) dX14_init_88 (fun H_85 hfr_85 hh_85 => ?_)
  have hh_85 : jSt (dC, dI) B base G0 (va_up G_75 H_83.size (some (119, 3100))) EX14_initW s.heap (((((((((((0 + 1) + 1) + 1) + 1) + 1) + (1)) + 1) + (1)) + 1) + 1) + 1) (((((((((((0 + 4000) + 20000) + 100000) + 3300) + 4) + (16)) + 4) + (16)) + 3100) + 3100) + 3100) [(H_46.size, 0, 3, .int qc_53), (H_46.size, 0, 0, .ref xa_53), (H_32.size, 0, 3, .int qc_39), (H_32.size, 0, 0, .ref xa_39)] [(H_23.size, 110, 3300, ca 1, (fun _ => 0))] [(jFz9, jDZ dC dI G_75)] H_85 locs_83 := hh_85
  have hZ_85 : jN14 G_75 (va_up G_75 H_83.size (some (119, 3100))) := jN14.new (by decide)
  have hN_85 : (jNk [1, 2, 3, 4, 5, 6, 7, 8, 9, 10, 11, 12, 13, 17, 175]) G_75 (va_up G_75 H_83.size (some (119, 3100))) := jNk.new (by decide)
  have hgn_85 : (va_up G_75 H_83.size (some (119, 3100))) H_83.size = some (119, 3100) := jUp_self
  have hle_85 : jLe G_75 (va_up G_75 H_83.size (some (119, 3100))) := jLe.new hh_83.2.1.fresh
  have hke_85 : jKe G_75 (va_up G_75 H_83.size (some (119, 3100))) H_83 H_85 := jKe.new hfr_85
  have hsy_85 : s.heap.size ≤ H_83.size := hh_83.1.1
  generalize (va_up G_75 H_83.size (some (119, 3100))) = G_85 at hN_85 hgn_85 hle_85 hke_85 hh_85 hZ_85
  clear hh_83
  have hNn_85 : (jNk [1, 2, 3, 4, 5, 6, 7, 8, 9, 10, 11, 12, 13, 17, 175]) G0 G_85 := (hNn_75).tr hN_85
  have hg_86 := hle_85 _ _ hg_76
  have hg_87 := hle_85 _ _ hg_77
  have hkp_88 := hkp_84.tr hke_85
  have hraw_89n := hke_85.nr hraw_83.lt hraw_79n
  have hraw_89 := hraw_83.kept (hke_85.1 _ hraw_83.lt)
  try have hz14_85 : jN14 G0 G_85 := (hz14_75).tr hZ_85
  have hd_90 := jDZ.grow (hh_85.iv 0 rfl) hle_85 hZ_85
  have hh_91 := hh_85.sub (L1 := [(H_46.size, 0, 3, .int qc_53), (H_46.size, 0, 0, .ref xa_53), (H_32.size, 0, 3, .int qc_39), (H_32.size, 0, 0, .ref xa_39)]) [0, 1, 2, 3] rfl (M1 := [(H_23.size, 110, 3300, ca 1, (fun _ => 0))]) [0] rfl (I1 := []) [] rfl
  clear hh_85
  have hh_92 := hh_91.addI (jDZ.ie hd_90)
  clear hh_91
  refine j7_putRF hx hb hown hK hh_92 hB hAp hraw_89 hraw_89n hbr0 (C := RX14) (T := TX14) (N := 74) rfl (i := 19) (by decide) (Nat.le_of_ble_eq_true rfl) hly_16_19 rfl hin2 rfl hlk_43 (ty := (.array .int)) (v := .ref H_83.size) (by decide +kernel) rfl rfl dX14_init_90 (fun H_93 locs_93 hraw_93 hr_93 hh_93 => ?_)
  have hraw_93 : va_at (dC, dI) vwCl (r0, .inr (16, [.ref s.heap.size, .int 0, .ref H_7.size, .int 0, .int 0, .ref H_15.size, .int 0, .int 0, .int 0, .ref H_23.size, .int 0, .int 0, .int 0, .ref H_32.size, .ref H_46.size, .int (-1), .int 0, .ref H_63.size, .ref H_73.size, .ref H_83.size, .null, .null, .null, .null, .null, .null, .int 0, .null, .int 0, .int 0, .int 0, .int 0, .int 0, .int 0, .int 0, .int 0, .int 0, .int 0, .null, .int 0, .int 0, .null, .int 0, .null, .int 0, .null, .null, .null, .int 0, .null, .null, .null, .null, .null, .null, .null, .null, .null, .null, .null, .null, .null, .null, .null, .int 0, .int 0, .int 0, .null, .null, .null, .int 0, .null, .null, .null])) H_93 := hraw_93
  have hkp_94 := hkp_88.put hr_93
  clear hh_92
  refine lv_aload_n hx hb dX14_init_93 rfl (lv_at hl 0 rfl) ?_
  refine lv_sipush (v := 3100) hx hb dX14_init_94 (by decide) ?_
  clear hsz_85 htt_85
  have hsz_95 := hh_93.2.2.2.2.2.1
  have htt_95 := hh_93.2.2.2.2.2.2.1
  refine j7_newiK hx hb hK hh_93 hB (atype := .int) (ty := .int) (htw (.arrayClass .int) (jWr_3 _ (List.mem_of_getElem? (i := 20) rfl))) rfl rfl (fun _ h => h) hB120 1 rfl (by decide) (by decide) hbs (x := 3100) (by decide) (by omega) (fun j => by first | trivial | decide | rfl | exact Or.inl rfl | exact Or.inr (Or.inl (by decide)) | (refine ⟨?_, ?_⟩ <;> decide)) (by rw [hRc]; omega) (by rw [hRs]; omega) dX14_init_97 (fun H_95 hfr_95 hh_95 => ?_)
  have hh_95 : jSt (dC, dI) B base G0 (va_up G_85 H_93.size (some (120, 3100))) EX14_initW s.heap ((((((((((((0 + 1) + 1) + 1) + 1) + 1) + (1)) + 1) + (1)) + 1) + 1) + 1) + 1) ((((((((((((0 + 4000) + 20000) + 100000) + 3300) + 4) + (16)) + 4) + (16)) + 3100) + 3100) + 3100) + 3100) [(H_46.size, 0, 3, .int qc_53), (H_46.size, 0, 0, .ref xa_53), (H_32.size, 0, 3, .int qc_39), (H_32.size, 0, 0, .ref xa_39)] [(H_23.size, 110, 3300, ca 1, (fun _ => 0))] [(jFz9, jDZ dC dI G_85)] H_95 locs_93 := hh_95
  have hZ_95 : jN14 G_85 (va_up G_85 H_93.size (some (120, 3100))) := jN14.new (by decide)
  have hN_95 : (jNk [1, 2, 3, 4, 5, 6, 7, 8, 9, 10, 11, 12, 13, 17, 175]) G_85 (va_up G_85 H_93.size (some (120, 3100))) := jNk.new (by decide)
  have hgn_95 : (va_up G_85 H_93.size (some (120, 3100))) H_93.size = some (120, 3100) := jUp_self
  have hle_95 : jLe G_85 (va_up G_85 H_93.size (some (120, 3100))) := jLe.new hh_93.2.1.fresh
  have hke_95 : jKe G_85 (va_up G_85 H_93.size (some (120, 3100))) H_93 H_95 := jKe.new hfr_95
  have hsy_95 : s.heap.size ≤ H_93.size := hh_93.1.1
  generalize (va_up G_85 H_93.size (some (120, 3100))) = G_95 at hN_95 hgn_95 hle_95 hke_95 hh_95 hZ_95
  clear hh_93
  have hNn_95 : (jNk [1, 2, 3, 4, 5, 6, 7, 8, 9, 10, 11, 12, 13, 17, 175]) G0 G_95 := (hNn_85).tr hN_95
  have hg_96 := hle_95 _ _ hg_86
  have hg_97 := hle_95 _ _ hg_87
  have hkp_98 := hkp_94.tr hke_95
  have hraw_99n := hke_95.nr hraw_93.lt hraw_89n
  have hraw_99 := hraw_93.kept (hke_95.1 _ hraw_93.lt)
  try have hz14_95 : jN14 G0 G_95 := (hz14_85).tr hZ_95
  have hd_100 := jDZ.grow (hh_95.iv 0 rfl) hle_95 hZ_95
  have hh_101 := hh_95.sub (L1 := [(H_46.size, 0, 3, .int qc_53), (H_46.size, 0, 0, .ref xa_53), (H_32.size, 0, 3, .int qc_39), (H_32.size, 0, 0, .ref xa_39)]) [0, 1, 2, 3] rfl (M1 := [(H_23.size, 110, 3300, ca 1, (fun _ => 0))]) [0] rfl (I1 := []) [] rfl
  clear hh_95
  have hh_102 := hh_101.addI (jDZ.ie hd_100)
  clear hh_101
  refine j7_putRF hx hb hown hK hh_102 hB hAp hraw_99 hraw_99n hbr0 (C := RX14) (T := TX14) (N := 74) rfl (i := 20) (by decide) (Nat.le_of_ble_eq_true rfl) hly_16_20 rfl hin2 rfl hlk_46 (ty := (.array .int)) (v := .ref H_93.size) (by decide +kernel) rfl rfl dX14_init_99 (fun H_103 locs_103 hraw_103 hr_103 hh_103 => ?_)
  have hraw_103 : va_at (dC, dI) vwCl (r0, .inr (16, [.ref s.heap.size, .int 0, .ref H_7.size, .int 0, .int 0, .ref H_15.size, .int 0, .int 0, .int 0, .ref H_23.size, .int 0, .int 0, .int 0, .ref H_32.size, .ref H_46.size, .int (-1), .int 0, .ref H_63.size, .ref H_73.size, .ref H_83.size, .ref H_93.size, .null, .null, .null, .null, .null, .int 0, .null, .int 0, .int 0, .int 0, .int 0, .int 0, .int 0, .int 0, .int 0, .int 0, .int 0, .null, .int 0, .int 0, .null, .int 0, .null, .int 0, .null, .null, .null, .int 0, .null, .null, .null, .null, .null, .null, .null, .null, .null, .null, .null, .null, .null, .null, .null, .int 0, .int 0, .int 0, .null, .null, .null, .int 0, .null, .null, .null])) H_103 := hraw_103
  have hkp_104 := hkp_98.put hr_103
  clear hh_102
  refine lv_aload_n hx hb dX14_init_102 rfl (lv_at hl 0 rfl) ?_
  refine lv_sipush (v := 3100) hx hb dX14_init_103 (by decide) ?_
  clear hsz_95 htt_95
  have hsz_105 := hh_103.2.2.2.2.2.1
  have htt_105 := hh_103.2.2.2.2.2.2.1
  refine j7_newiK hx hb hK hh_103 hB (atype := .int) (ty := .int) (htw (.arrayClass .int) (jWr_3 _ (List.mem_of_getElem? (i := 20) rfl))) rfl rfl (fun _ h => h) hB121 1 rfl (by decide) (by decide) hbs (x := 3100) (by decide) (by omega) (fun j => by first | trivial | decide | rfl | exact Or.inl rfl | exact Or.inr (Or.inl (by decide)) | (refine ⟨?_, ?_⟩ <;> decide)) (by rw [hRc]; omega) (by rw [hRs]; omega) dX14_init_106 (fun H_105 hfr_105 hh_105 => ?_)
  have hh_105 : jSt (dC, dI) B base G0 (va_up G_95 H_103.size (some (121, 3100))) EX14_initW s.heap (((((((((((((0 + 1) + 1) + 1) + 1) + 1) + (1)) + 1) + (1)) + 1) + 1) + 1) + 1) + 1) (((((((((((((0 + 4000) + 20000) + 100000) + 3300) + 4) + (16)) + 4) + (16)) + 3100) + 3100) + 3100) + 3100) + 3100) [(H_46.size, 0, 3, .int qc_53), (H_46.size, 0, 0, .ref xa_53), (H_32.size, 0, 3, .int qc_39), (H_32.size, 0, 0, .ref xa_39)] [(H_23.size, 110, 3300, ca 1, (fun _ => 0))] [(jFz9, jDZ dC dI G_95)] H_105 locs_103 := hh_105
  have hZ_105 : jN14 G_95 (va_up G_95 H_103.size (some (121, 3100))) := jN14.new (by decide)
  have hN_105 : (jNk [1, 2, 3, 4, 5, 6, 7, 8, 9, 10, 11, 12, 13, 17, 175]) G_95 (va_up G_95 H_103.size (some (121, 3100))) := jNk.new (by decide)
  have hgn_105 : (va_up G_95 H_103.size (some (121, 3100))) H_103.size = some (121, 3100) := jUp_self
  have hle_105 : jLe G_95 (va_up G_95 H_103.size (some (121, 3100))) := jLe.new hh_103.2.1.fresh
  have hke_105 : jKe G_95 (va_up G_95 H_103.size (some (121, 3100))) H_103 H_105 := jKe.new hfr_105
  have hsy_105 : s.heap.size ≤ H_103.size := hh_103.1.1
  generalize (va_up G_95 H_103.size (some (121, 3100))) = G_105 at hN_105 hgn_105 hle_105 hke_105 hh_105 hZ_105
  clear hh_103
  have hNn_105 : (jNk [1, 2, 3, 4, 5, 6, 7, 8, 9, 10, 11, 12, 13, 17, 175]) G0 G_105 := (hNn_95).tr hN_105
  have hg_106 := hle_105 _ _ hg_96
  have hg_107 := hle_105 _ _ hg_97
  have hkp_108 := hkp_104.tr hke_105
  have hraw_109n := hke_105.nr hraw_103.lt hraw_99n
  have hraw_109 := hraw_103.kept (hke_105.1 _ hraw_103.lt)
  try have hz14_105 : jN14 G0 G_105 := (hz14_95).tr hZ_105
  have hd_110 := jDZ.grow (hh_105.iv 0 rfl) hle_105 hZ_105
  have hh_111 := hh_105.sub (L1 := [(H_46.size, 0, 3, .int qc_53), (H_46.size, 0, 0, .ref xa_53), (H_32.size, 0, 3, .int qc_39), (H_32.size, 0, 0, .ref xa_39)]) [0, 1, 2, 3] rfl (M1 := [(H_23.size, 110, 3300, ca 1, (fun _ => 0))]) [0] rfl (I1 := []) [] rfl
  clear hh_105
  have hh_112 := hh_111.addI (jDZ.ie hd_110)
  clear hh_111
  refine j7_putRF hx hb hown hK hh_112 hB hAp hraw_109 hraw_109n hbr0 (C := RX14) (T := TX14) (N := 74) rfl (i := 21) (by decide) (Nat.le_of_ble_eq_true rfl) hly_16_21 rfl hin2 rfl hlk_49 (ty := (.array .int)) (v := .ref H_103.size) (by decide +kernel) rfl rfl dX14_init_108 (fun H_113 locs_113 hraw_113 hr_113 hh_113 => ?_)
  have hraw_113 : va_at (dC, dI) vwCl (r0, .inr (16, [.ref s.heap.size, .int 0, .ref H_7.size, .int 0, .int 0, .ref H_15.size, .int 0, .int 0, .int 0, .ref H_23.size, .int 0, .int 0, .int 0, .ref H_32.size, .ref H_46.size, .int (-1), .int 0, .ref H_63.size, .ref H_73.size, .ref H_83.size, .ref H_93.size, .ref H_103.size, .null, .null, .null, .null, .int 0, .null, .int 0, .int 0, .int 0, .int 0, .int 0, .int 0, .int 0, .int 0, .int 0, .int 0, .null, .int 0, .int 0, .null, .int 0, .null, .int 0, .null, .null, .null, .int 0, .null, .null, .null, .null, .null, .null, .null, .null, .null, .null, .null, .null, .null, .null, .null, .int 0, .int 0, .int 0, .null, .null, .null, .int 0, .null, .null, .null])) H_113 := hraw_113
  have hkp_114 := hkp_108.put hr_113
  clear hh_112
  refine lv_aload_n hx hb dX14_init_111 rfl (lv_at hl 0 rfl) ?_
  refine lv_sipush (v := 3100) hx hb dX14_init_112 (by decide) ?_
  clear hsz_105 htt_105
  have hsz_115 := hh_113.2.2.2.2.2.1
  have htt_115 := hh_113.2.2.2.2.2.2.1
  have hsy_115 : s.heap.size ≤ H_113.size := hh_113.1.1
  refine j7_newiR hx hb hK hh_113 hB (atype := .int) (ty := .int) (htw (.arrayClass .int) (jWr_3 _ (List.mem_of_getElem? (i := 20) rfl))) rfl rfl (fun _ h => h) 1 rfl (by decide) (x := 3100) (by decide) (by omega) (by rw [hRc]; omega) (by rw [hRs]; omega) dX14_init_115 (fun H_115 hfr_115 hnr_115 hraw_115 hh_115 => ?_)
  have hlt_116 := hraw_113.lt
  have hraw_115 : va_at (dC, dI) vwCl (H_113.size, .inl (ca 1, 3100, .inl (fun _ => 0))) H_115 := hraw_115
  have hh_115 : jSt (dC, dI) B base G0 G_105 EX14_initW s.heap ((((((((((((((0 + 1) + 1) + 1) + 1) + 1) + (1)) + 1) + (1)) + 1) + 1) + 1) + 1) + 1) + 1) ((((((((((((((0 + 4000) + 20000) + 100000) + 3300) + 4) + (16)) + 4) + (16)) + 3100) + 3100) + 3100) + 3100) + 3100) + 3100) [(H_46.size, 0, 3, .int qc_53), (H_46.size, 0, 0, .ref xa_53), (H_32.size, 0, 3, .int qc_39), (H_32.size, 0, 0, .ref xa_39)] [(H_23.size, 110, 3300, ca 1, (fun _ => 0))] [(jFz9, jDZ dC dI G_105)] H_115 locs_113 := hh_115
  have hke_115 : jKe G_105 G_105 H_113 H_115 := jKe.raw hfr_115
  have hbr_115 : base ≤ H_113.size := Nat.le_trans hbs hsy_115
  clear hh_113
  have hkp_117 := hkp_114.tr hke_115
  have hraw_118n := hke_115.nr hraw_113.lt hraw_109n
  have hraw_118 := hraw_113.kept (hke_115.1 _ hraw_113.lt)
  have hne_119 : r0 ≠ H_113.size := Nat.ne_of_lt hlt_116
  have hle_120 : jLe G_105 (va_up G_105 H_113.size (some (122, 3100))) := jLe.typ hnr_115
  have hh_120 := hh_115.typ (k := 122) (n := 3100) hB hnr_115 hbr_115 hraw_115.lt (jAr.of hB122 hraw_115 (fun _ _ => by decide))
  have hgn_120 : (va_up G_105 H_113.size (some (122, 3100))) H_113.size = some (122, 3100) := jUp_self
  have hN_120 : (jNk [1, 2, 3, 4, 5, 6, 7, 8, 9, 10, 11, 12, 13, 17, 175]) G_105 (va_up G_105 H_113.size (some (122, 3100))) := jNk.new (by decide)
  have hNn_120 : (jNk [1, 2, 3, 4, 5, 6, 7, 8, 9, 10, 11, 12, 13, 17, 175]) G0 (va_up G_105 H_113.size (some (122, 3100))) := (hNn_105).tr hN_120
  have hkp_121 := hkp_117.typn (t := some (122, 3100)) hsy_115
  have hZ_120 : jN14 G_105 (va_up G_105 H_113.size (some (122, 3100))) := jN14.new (by decide)
  have hrn_122 : ∀ t, (va_up G_105 H_113.size (some (122, 3100))) r0 ≠ some t := jNrU hraw_118n hne_119
  generalize (va_up G_105 H_113.size (some (122, 3100))) = G_120 at hN_120 hNn_120 hgn_120 hle_120 hh_120 hkp_121 hZ_120 hrn_122
  have hg_123 := hle_120 _ _ hg_106
  have hg_124 := hle_120 _ _ hg_107
  have hd_125 := jDZ.grow (hh_120.iv 0 rfl) hle_120 hZ_120
  have hh_126 := hh_120.sub (L1 := [(H_46.size, 0, 3, .int qc_53), (H_46.size, 0, 0, .ref xa_53), (H_32.size, 0, 3, .int qc_39), (H_32.size, 0, 0, .ref xa_39)]) [0, 1, 2, 3] rfl (M1 := [(H_23.size, 110, 3300, ca 1, (fun _ => 0))]) [0] rfl (I1 := []) [] rfl
  clear hh_120
  have hh_127 := hh_126.addI (jDZ.ie hd_125)
  clear hh_126
  try have hz14_120 : jN14 G0 G_120 := (hz14_105).tr hZ_120
  have hh_128 := hh_127.moreM (M1 := [(H_113.size, 122, 3100, ca 1, (fun _ => 0))]) (fun q9 h9 => by cases h9 with | head => exact ⟨hgn_120, by show 18 ≤ 122; decide, by show 122 < 1000; decide, hraw_115⟩ | tail _ h => cases h)
  refine j7_putRF hx hb hown hK hh_128 hB hAp hraw_118 hrn_122 hbr0 (C := RX14) (T := TX14) (N := 74) rfl (i := 22) (by decide) (Nat.le_of_ble_eq_true rfl) hly_16_22 rfl hin2 rfl hlk_52 (ty := (.array .int)) (v := .ref H_113.size) (by decide +kernel) rfl rfl dX14_init_117 (fun H_129 locs_129 hraw_129 hr_129 hh_129 => ?_)
  have hraw_129 : va_at (dC, dI) vwCl (r0, .inr (16, [.ref s.heap.size, .int 0, .ref H_7.size, .int 0, .int 0, .ref H_15.size, .int 0, .int 0, .int 0, .ref H_23.size, .int 0, .int 0, .int 0, .ref H_32.size, .ref H_46.size, .int (-1), .int 0, .ref H_63.size, .ref H_73.size, .ref H_83.size, .ref H_93.size, .ref H_103.size, .ref H_113.size, .null, .null, .null, .int 0, .null, .int 0, .int 0, .int 0, .int 0, .int 0, .int 0, .int 0, .int 0, .int 0, .int 0, .null, .int 0, .int 0, .null, .int 0, .null, .int 0, .null, .null, .null, .int 0, .null, .null, .null, .null, .null, .null, .null, .null, .null, .null, .null, .null, .null, .null, .null, .int 0, .int 0, .int 0, .null, .null, .null, .int 0, .null, .null, .null])) H_129 := hraw_129
  have hkp_130 := hkp_121.put hr_129
  clear hh_128
  refine lv_aload_n hx hb dX14_init_120 rfl (lv_at hl 0 rfl) ?_
  refine lv_sipush (v := 3100) hx hb dX14_init_121 (by decide) ?_
  clear hsz_115 htt_115
  have hsz_131 := hh_129.2.2.2.2.2.1
  have htt_131 := hh_129.2.2.2.2.2.2.1
  have hsy_131 : s.heap.size ≤ H_129.size := hh_129.1.1
  refine j7_newiR hx hb hK hh_129 hB (atype := .int) (ty := .int) (htw (.arrayClass .int) (jWr_3 _ (List.mem_of_getElem? (i := 20) rfl))) rfl rfl (fun _ h => h) 1 rfl (by decide) (x := 3100) (by decide) (by omega) (by rw [hRc]; omega) (by rw [hRs]; omega) dX14_init_124 (fun H_131 hfr_131 hnr_131 hraw_131 hh_131 => ?_)
  have hlt_132 := hraw_129.lt
  have hraw_131 : va_at (dC, dI) vwCl (H_129.size, .inl (ca 1, 3100, .inl (fun _ => 0))) H_131 := hraw_131
  have hh_131 : jSt (dC, dI) B base G0 G_120 EX14_initW s.heap (((((((((((((((0 + 1) + 1) + 1) + 1) + 1) + (1)) + 1) + (1)) + 1) + 1) + 1) + 1) + 1) + 1) + 1) (((((((((((((((0 + 4000) + 20000) + 100000) + 3300) + 4) + (16)) + 4) + (16)) + 3100) + 3100) + 3100) + 3100) + 3100) + 3100) + 3100) [(H_46.size, 0, 3, .int qc_53), (H_46.size, 0, 0, .ref xa_53), (H_32.size, 0, 3, .int qc_39), (H_32.size, 0, 0, .ref xa_39)] [(H_113.size, 122, 3100, ca 1, (fun _ => 0)), (H_23.size, 110, 3300, ca 1, (fun _ => 0))] [(jFz9, jDZ dC dI G_120)] H_131 locs_129 := hh_131
  have hke_131 : jKe G_120 G_120 H_129 H_131 := jKe.raw hfr_131
  have hbr_131 : base ≤ H_129.size := Nat.le_trans hbs hsy_131
  clear hh_129
  have hkp_133 := hkp_130.tr hke_131
  have hraw_134n := hke_131.nr hraw_129.lt hrn_122
  have hraw_134 := hraw_129.kept (hke_131.1 _ hraw_129.lt)
  have hne_135 : r0 ≠ H_129.size := Nat.ne_of_lt hlt_132
  have hle_136 : jLe G_120 (va_up G_120 H_129.size (some (123, 3100))) := jLe.typ hnr_131
  have hh_136 := hh_131.typ (k := 123) (n := 3100) hB hnr_131 hbr_131 hraw_131.lt (jAr.of hB123 hraw_131 (fun _ _ => by decide))
  have hgn_136 : (va_up G_120 H_129.size (some (123, 3100))) H_129.size = some (123, 3100) := jUp_self
  have hN_136 : (jNk [1, 2, 3, 4, 5, 6, 7, 8, 9, 10, 11, 12, 13, 17, 175]) G_120 (va_up G_120 H_129.size (some (123, 3100))) := jNk.new (by decide)
  have hNn_136 : (jNk [1, 2, 3, 4, 5, 6, 7, 8, 9, 10, 11, 12, 13, 17, 175]) G0 (va_up G_120 H_129.size (some (123, 3100))) := (hNn_120).tr hN_136
  have hkp_137 := hkp_133.typn (t := some (123, 3100)) hsy_131
  have hZ_136 : jN14 G_120 (va_up G_120 H_129.size (some (123, 3100))) := jN14.new (by decide)
  have hrn_138 : ∀ t, (va_up G_120 H_129.size (some (123, 3100))) r0 ≠ some t := jNrU hraw_134n hne_135
  generalize (va_up G_120 H_129.size (some (123, 3100))) = G_136 at hN_136 hNn_136 hgn_136 hle_136 hh_136 hkp_137 hZ_136 hrn_138
  have hg_139 := hle_136 _ _ hg_123
  have hg_140 := hle_136 _ _ hg_124
  have hd_141 := jDZ.grow (hh_136.iv 0 rfl) hle_136 hZ_136
  have hh_142 := hh_136.sub (L1 := [(H_46.size, 0, 3, .int qc_53), (H_46.size, 0, 0, .ref xa_53), (H_32.size, 0, 3, .int qc_39), (H_32.size, 0, 0, .ref xa_39)]) [0, 1, 2, 3] rfl (M1 := [(H_113.size, 122, 3100, ca 1, (fun _ => 0)), (H_23.size, 110, 3300, ca 1, (fun _ => 0))]) [0, 1] rfl (I1 := []) [] rfl
  clear hh_136
  have hh_143 := hh_142.addI (jDZ.ie hd_141)
  clear hh_142
  try have hz14_136 : jN14 G0 G_136 := (hz14_120).tr hZ_136
  have hh_144 := hh_143.moreM (M1 := [(H_129.size, 123, 3100, ca 1, (fun _ => 0))]) (fun q9 h9 => by cases h9 with | head => exact ⟨hgn_136, by show 18 ≤ 123; decide, by show 123 < 1000; decide, hraw_131⟩ | tail _ h => cases h)
  refine j7_putRF hx hb hown hK hh_144 hB hAp hraw_134 hrn_138 hbr0 (C := RX14) (T := TX14) (N := 74) rfl (i := 23) (by decide) (Nat.le_of_ble_eq_true rfl) hly_16_23 rfl hin2 rfl hlk_55 (ty := (.array .int)) (v := .ref H_129.size) (by decide +kernel) rfl rfl dX14_init_126 (fun H_145 locs_145 hraw_145 hr_145 hh_145 => ?_)
  have hraw_145 : va_at (dC, dI) vwCl (r0, .inr (16, [.ref s.heap.size, .int 0, .ref H_7.size, .int 0, .int 0, .ref H_15.size, .int 0, .int 0, .int 0, .ref H_23.size, .int 0, .int 0, .int 0, .ref H_32.size, .ref H_46.size, .int (-1), .int 0, .ref H_63.size, .ref H_73.size, .ref H_83.size, .ref H_93.size, .ref H_103.size, .ref H_113.size, .ref H_129.size, .null, .null, .int 0, .null, .int 0, .int 0, .int 0, .int 0, .int 0, .int 0, .int 0, .int 0, .int 0, .int 0, .null, .int 0, .int 0, .null, .int 0, .null, .int 0, .null, .null, .null, .int 0, .null, .null, .null, .null, .null, .null, .null, .null, .null, .null, .null, .null, .null, .null, .null, .int 0, .int 0, .int 0, .null, .null, .null, .int 0, .null, .null, .null])) H_145 := hraw_145
  have hkp_146 := hkp_137.put hr_145
  clear hh_144
  refine lv_aload_n hx hb dX14_init_129 rfl (lv_at hl 0 rfl) ?_
  refine lv_sipush (v := 3100) hx hb dX14_init_130 (by decide) ?_
  clear hsz_131 htt_131
  have hsz_147 := hh_145.2.2.2.2.2.1
  have htt_147 := hh_145.2.2.2.2.2.2.1
  refine j7_newiK hx hb hK hh_145 hB (atype := .boolean) (ty := .boolean) (htw (.arrayClass .boolean) (jWr_11 _ (List.mem_of_getElem? (i := 11) rfl))) rfl rfl (fun _ h => h) hB124 3 rfl (by decide) (by decide) hbs (x := 3100) (by decide) (by omega) (fun j => by first | trivial | decide | rfl | exact Or.inl rfl | exact Or.inr (Or.inl (by decide)) | (refine ⟨?_, ?_⟩ <;> decide)) (by rw [hRc]; omega) (by rw [hRs]; omega) dX14_init_133 (fun H_147 hfr_147 hh_147 => ?_)
  have hh_147 : jSt (dC, dI) B base G0 (va_up G_136 H_145.size (some (124, 3100))) EX14_initW s.heap ((((((((((((((((0 + 1) + 1) + 1) + 1) + 1) + (1)) + 1) + (1)) + 1) + 1) + 1) + 1) + 1) + 1) + 1) + 1) ((((((((((((((((0 + 4000) + 20000) + 100000) + 3300) + 4) + (16)) + 4) + (16)) + 3100) + 3100) + 3100) + 3100) + 3100) + 3100) + 3100) + 3100) [(H_46.size, 0, 3, .int qc_53), (H_46.size, 0, 0, .ref xa_53), (H_32.size, 0, 3, .int qc_39), (H_32.size, 0, 0, .ref xa_39)] [(H_129.size, 123, 3100, ca 1, (fun _ => 0)), (H_113.size, 122, 3100, ca 1, (fun _ => 0)), (H_23.size, 110, 3300, ca 1, (fun _ => 0))] [(jFz9, jDZ dC dI G_136)] H_147 locs_145 := hh_147
  have hZ_147 : jN14 G_136 (va_up G_136 H_145.size (some (124, 3100))) := jN14.new (by decide)
  have hN_147 : (jNk [1, 2, 3, 4, 5, 6, 7, 8, 9, 10, 11, 12, 13, 17, 175]) G_136 (va_up G_136 H_145.size (some (124, 3100))) := jNk.new (by decide)
  have hgn_147 : (va_up G_136 H_145.size (some (124, 3100))) H_145.size = some (124, 3100) := jUp_self
  have hle_147 : jLe G_136 (va_up G_136 H_145.size (some (124, 3100))) := jLe.new hh_145.2.1.fresh
  have hke_147 : jKe G_136 (va_up G_136 H_145.size (some (124, 3100))) H_145 H_147 := jKe.new hfr_147
  have hsy_147 : s.heap.size ≤ H_145.size := hh_145.1.1
  generalize (va_up G_136 H_145.size (some (124, 3100))) = G_147 at hN_147 hgn_147 hle_147 hke_147 hh_147 hZ_147
  clear hh_145
  have hNn_147 : (jNk [1, 2, 3, 4, 5, 6, 7, 8, 9, 10, 11, 12, 13, 17, 175]) G0 G_147 := (hNn_136).tr hN_147
  have hg_148 := hle_147 _ _ hg_139
  have hg_149 := hle_147 _ _ hg_140
  have hkp_150 := hkp_146.tr hke_147
  have hraw_151n := hke_147.nr hraw_145.lt hrn_138
  have hraw_151 := hraw_145.kept (hke_147.1 _ hraw_145.lt)
  try have hz14_147 : jN14 G0 G_147 := (hz14_136).tr hZ_147
  have hd_152 := jDZ.grow (hh_147.iv 0 rfl) hle_147 hZ_147
  have hh_153 := hh_147.sub (L1 := [(H_46.size, 0, 3, .int qc_53), (H_46.size, 0, 0, .ref xa_53), (H_32.size, 0, 3, .int qc_39), (H_32.size, 0, 0, .ref xa_39)]) [0, 1, 2, 3] rfl (M1 := [(H_129.size, 123, 3100, ca 1, (fun _ => 0)), (H_113.size, 122, 3100, ca 1, (fun _ => 0)), (H_23.size, 110, 3300, ca 1, (fun _ => 0))]) [0, 1, 2] rfl (I1 := []) [] rfl
  clear hh_147
  have hh_154 := hh_153.addI (jDZ.ie hd_152)
  clear hh_153
  refine j7_putRF hx hb hown hK hh_154 hB hAp hraw_151 hraw_151n hbr0 (C := RX14) (T := TX14) (N := 74) rfl (i := 24) (by decide) (Nat.le_of_ble_eq_true rfl) hly_16_24 rfl hin2 rfl hlk_58 (ty := (.array .boolean)) (v := .ref H_145.size) (by decide +kernel) rfl rfl dX14_init_135 (fun H_155 locs_155 hraw_155 hr_155 hh_155 => ?_)
  have hraw_155 : va_at (dC, dI) vwCl (r0, .inr (16, [.ref s.heap.size, .int 0, .ref H_7.size, .int 0, .int 0, .ref H_15.size, .int 0, .int 0, .int 0, .ref H_23.size, .int 0, .int 0, .int 0, .ref H_32.size, .ref H_46.size, .int (-1), .int 0, .ref H_63.size, .ref H_73.size, .ref H_83.size, .ref H_93.size, .ref H_103.size, .ref H_113.size, .ref H_129.size, .ref H_145.size, .null, .int 0, .null, .int 0, .int 0, .int 0, .int 0, .int 0, .int 0, .int 0, .int 0, .int 0, .int 0, .null, .int 0, .int 0, .null, .int 0, .null, .int 0, .null, .null, .null, .int 0, .null, .null, .null, .null, .null, .null, .null, .null, .null, .null, .null, .null, .null, .null, .null, .int 0, .int 0, .int 0, .null, .null, .null, .int 0, .null, .null, .null])) H_155 := hraw_155
  have hkp_156 := hkp_150.put hr_155
  clear hh_154
  refine lv_aload_n hx hb dX14_init_138 rfl (lv_at hl 0 rfl) ?_
  refine lv_sipush (v := 3100) hx hb dX14_init_139 (by decide) ?_
  clear hsz_147 htt_147
  have hsz_157 := hh_155.2.2.2.2.2.1
  have htt_157 := hh_155.2.2.2.2.2.2.1
  refine j7_newiK hx hb hK hh_155 hB (atype := .int) (ty := .int) (htw (.arrayClass .int) (jWr_3 _ (List.mem_of_getElem? (i := 20) rfl))) rfl rfl (fun _ h => h) hB125 1 rfl (by decide) (by decide) hbs (x := 3100) (by decide) (by omega) (fun j => by first | trivial | decide | rfl | exact Or.inl rfl | exact Or.inr (Or.inl (by decide)) | (refine ⟨?_, ?_⟩ <;> decide)) (by rw [hRc]; omega) (by rw [hRs]; omega) dX14_init_142 (fun H_157 hfr_157 hh_157 => ?_)
  have hh_157 : jSt (dC, dI) B base G0 (va_up G_147 H_155.size (some (125, 3100))) EX14_initW s.heap (((((((((((((((((0 + 1) + 1) + 1) + 1) + 1) + (1)) + 1) + (1)) + 1) + 1) + 1) + 1) + 1) + 1) + 1) + 1) + 1) (((((((((((((((((0 + 4000) + 20000) + 100000) + 3300) + 4) + (16)) + 4) + (16)) + 3100) + 3100) + 3100) + 3100) + 3100) + 3100) + 3100) + 3100) + 3100) [(H_46.size, 0, 3, .int qc_53), (H_46.size, 0, 0, .ref xa_53), (H_32.size, 0, 3, .int qc_39), (H_32.size, 0, 0, .ref xa_39)] [(H_129.size, 123, 3100, ca 1, (fun _ => 0)), (H_113.size, 122, 3100, ca 1, (fun _ => 0)), (H_23.size, 110, 3300, ca 1, (fun _ => 0))] [(jFz9, jDZ dC dI G_147)] H_157 locs_155 := hh_157
  have hZ_157 : jN14 G_147 (va_up G_147 H_155.size (some (125, 3100))) := jN14.new (by decide)
  have hN_157 : (jNk [1, 2, 3, 4, 5, 6, 7, 8, 9, 10, 11, 12, 13, 17, 175]) G_147 (va_up G_147 H_155.size (some (125, 3100))) := jNk.new (by decide)
  have hgn_157 : (va_up G_147 H_155.size (some (125, 3100))) H_155.size = some (125, 3100) := jUp_self
  have hle_157 : jLe G_147 (va_up G_147 H_155.size (some (125, 3100))) := jLe.new hh_155.2.1.fresh
  have hke_157 : jKe G_147 (va_up G_147 H_155.size (some (125, 3100))) H_155 H_157 := jKe.new hfr_157
  have hsy_157 : s.heap.size ≤ H_155.size := hh_155.1.1
  generalize (va_up G_147 H_155.size (some (125, 3100))) = G_157 at hN_157 hgn_157 hle_157 hke_157 hh_157 hZ_157
  clear hh_155
  have hNn_157 : (jNk [1, 2, 3, 4, 5, 6, 7, 8, 9, 10, 11, 12, 13, 17, 175]) G0 G_157 := (hNn_147).tr hN_157
  have hg_158 := hle_157 _ _ hg_148
  have hg_159 := hle_157 _ _ hg_149
  have hkp_160 := hkp_156.tr hke_157
  have hraw_161n := hke_157.nr hraw_155.lt hraw_151n
  have hraw_161 := hraw_155.kept (hke_157.1 _ hraw_155.lt)
  try have hz14_157 : jN14 G0 G_157 := (hz14_147).tr hZ_157
  have hd_162 := jDZ.grow (hh_157.iv 0 rfl) hle_157 hZ_157
  have hh_163 := hh_157.sub (L1 := [(H_46.size, 0, 3, .int qc_53), (H_46.size, 0, 0, .ref xa_53), (H_32.size, 0, 3, .int qc_39), (H_32.size, 0, 0, .ref xa_39)]) [0, 1, 2, 3] rfl (M1 := [(H_129.size, 123, 3100, ca 1, (fun _ => 0)), (H_113.size, 122, 3100, ca 1, (fun _ => 0)), (H_23.size, 110, 3300, ca 1, (fun _ => 0))]) [0, 1, 2] rfl (I1 := []) [] rfl
  clear hh_157
  have hh_164 := hh_163.addI (jDZ.ie hd_162)
  clear hh_163
  refine j7_putRF hx hb hown hK hh_164 hB hAp hraw_161 hraw_161n hbr0 (C := RX14) (T := TX14) (N := 74) rfl (i := 25) (by decide) (Nat.le_of_ble_eq_true rfl) hly_16_25 rfl hin2 rfl hlk_62 (ty := (.array .int)) (v := .ref H_155.size) (by decide +kernel) rfl rfl dX14_init_144 (fun H_165 locs_165 hraw_165 hr_165 hh_165 => ?_)
  have hraw_165 : va_at (dC, dI) vwCl (r0, .inr (16, [.ref s.heap.size, .int 0, .ref H_7.size, .int 0, .int 0, .ref H_15.size, .int 0, .int 0, .int 0, .ref H_23.size, .int 0, .int 0, .int 0, .ref H_32.size, .ref H_46.size, .int (-1), .int 0, .ref H_63.size, .ref H_73.size, .ref H_83.size, .ref H_93.size, .ref H_103.size, .ref H_113.size, .ref H_129.size, .ref H_145.size, .ref H_155.size, .int 0, .null, .int 0, .int 0, .int 0, .int 0, .int 0, .int 0, .int 0, .int 0, .int 0, .int 0, .null, .int 0, .int 0, .null, .int 0, .null, .int 0, .null, .null, .null, .int 0, .null, .null, .null, .null, .null, .null, .null, .null, .null, .null, .null, .null, .null, .null, .null, .int 0, .int 0, .int 0, .null, .null, .null, .int 0, .null, .null, .null])) H_165 := hraw_165
  have hkp_166 := hkp_160.put hr_165
  clear hh_164
  refine lv_aload_n hx hb dX14_init_147 rfl (lv_at hl 0 rfl) ?_
  refine lv_sipush (v := 3300) hx hb dX14_init_148 (by decide) ?_
  clear hsz_157 htt_157
  have hsz_167 := hh_165.2.2.2.2.2.1
  have htt_167 := hh_165.2.2.2.2.2.2.1
  refine j7_newiK hx hb hK hh_165 hB (atype := .int) (ty := .int) (htw (.arrayClass .int) (jWr_3 _ (List.mem_of_getElem? (i := 20) rfl))) rfl rfl (fun _ h => h) hB127 1 rfl (by decide) (by decide) hbs (x := 3300) (by decide) (by omega) (fun j => by first | trivial | decide | rfl | exact Or.inl rfl | exact Or.inr (Or.inl (by decide)) | (refine ⟨?_, ?_⟩ <;> decide)) (by rw [hRc]; omega) (by rw [hRs]; omega) dX14_init_151 (fun H_167 hfr_167 hh_167 => ?_)
  have hh_167 : jSt (dC, dI) B base G0 (va_up G_157 H_165.size (some (127, 3300))) EX14_initW s.heap ((((((((((((((((((0 + 1) + 1) + 1) + 1) + 1) + (1)) + 1) + (1)) + 1) + 1) + 1) + 1) + 1) + 1) + 1) + 1) + 1) + 1) ((((((((((((((((((0 + 4000) + 20000) + 100000) + 3300) + 4) + (16)) + 4) + (16)) + 3100) + 3100) + 3100) + 3100) + 3100) + 3100) + 3100) + 3100) + 3100) + 3300) [(H_46.size, 0, 3, .int qc_53), (H_46.size, 0, 0, .ref xa_53), (H_32.size, 0, 3, .int qc_39), (H_32.size, 0, 0, .ref xa_39)] [(H_129.size, 123, 3100, ca 1, (fun _ => 0)), (H_113.size, 122, 3100, ca 1, (fun _ => 0)), (H_23.size, 110, 3300, ca 1, (fun _ => 0))] [(jFz9, jDZ dC dI G_157)] H_167 locs_165 := hh_167
  have hZ_167 : jN14 G_157 (va_up G_157 H_165.size (some (127, 3300))) := jN14.new (by decide)
  have hN_167 : (jNk [1, 2, 3, 4, 5, 6, 7, 8, 9, 10, 11, 12, 13, 17, 175]) G_157 (va_up G_157 H_165.size (some (127, 3300))) := jNk.new (by decide)
  have hgn_167 : (va_up G_157 H_165.size (some (127, 3300))) H_165.size = some (127, 3300) := jUp_self
  have hle_167 : jLe G_157 (va_up G_157 H_165.size (some (127, 3300))) := jLe.new hh_165.2.1.fresh
  have hke_167 : jKe G_157 (va_up G_157 H_165.size (some (127, 3300))) H_165 H_167 := jKe.new hfr_167
  have hsy_167 : s.heap.size ≤ H_165.size := hh_165.1.1
  generalize (va_up G_157 H_165.size (some (127, 3300))) = G_167 at hN_167 hgn_167 hle_167 hke_167 hh_167 hZ_167
  clear hh_165
  have hNn_167 : (jNk [1, 2, 3, 4, 5, 6, 7, 8, 9, 10, 11, 12, 13, 17, 175]) G0 G_167 := (hNn_157).tr hN_167
  have hg_168 := hle_167 _ _ hg_158
  have hg_169 := hle_167 _ _ hg_159
  have hkp_170 := hkp_166.tr hke_167
  have hraw_171n := hke_167.nr hraw_165.lt hraw_161n
  have hraw_171 := hraw_165.kept (hke_167.1 _ hraw_165.lt)
  try have hz14_167 : jN14 G0 G_167 := (hz14_157).tr hZ_167
  have hd_172 := jDZ.grow (hh_167.iv 0 rfl) hle_167 hZ_167
  have hh_173 := hh_167.sub (L1 := [(H_46.size, 0, 3, .int qc_53), (H_46.size, 0, 0, .ref xa_53), (H_32.size, 0, 3, .int qc_39), (H_32.size, 0, 0, .ref xa_39)]) [0, 1, 2, 3] rfl (M1 := [(H_129.size, 123, 3100, ca 1, (fun _ => 0)), (H_113.size, 122, 3100, ca 1, (fun _ => 0)), (H_23.size, 110, 3300, ca 1, (fun _ => 0))]) [0, 1, 2] rfl (I1 := []) [] rfl
  clear hh_167
  have hh_174 := hh_173.addI (jDZ.ie hd_172)
  clear hh_173
  refine j7_putRF hx hb hown hK hh_174 hB hAp hraw_171 hraw_171n hbr0 (C := RX14) (T := TX14) (N := 74) rfl (i := 27) (by decide) (Nat.le_of_ble_eq_true rfl) hly_16_27 rfl hin2 rfl hlk_65 (ty := (.array .int)) (v := .ref H_165.size) (by decide +kernel) rfl rfl dX14_init_153 (fun H_175 locs_175 hraw_175 hr_175 hh_175 => ?_)
  have hraw_175 : va_at (dC, dI) vwCl (r0, .inr (16, [.ref s.heap.size, .int 0, .ref H_7.size, .int 0, .int 0, .ref H_15.size, .int 0, .int 0, .int 0, .ref H_23.size, .int 0, .int 0, .int 0, .ref H_32.size, .ref H_46.size, .int (-1), .int 0, .ref H_63.size, .ref H_73.size, .ref H_83.size, .ref H_93.size, .ref H_103.size, .ref H_113.size, .ref H_129.size, .ref H_145.size, .ref H_155.size, .int 0, .ref H_165.size, .int 0, .int 0, .int 0, .int 0, .int 0, .int 0, .int 0, .int 0, .int 0, .int 0, .null, .int 0, .int 0, .null, .int 0, .null, .int 0, .null, .null, .null, .int 0, .null, .null, .null, .null, .null, .null, .null, .null, .null, .null, .null, .null, .null, .null, .null, .int 0, .int 0, .int 0, .null, .null, .null, .int 0, .null, .null, .null])) H_175 := hraw_175
  have hkp_176 := hkp_170.put hr_175
  clear hh_174
  refine lv_aload_n hx hb dX14_init_156 rfl (lv_at hl 0 rfl) ?_
  refine lv_bipush (v := 20) hx hb dX14_init_157 (by decide) ?_
  clear hsz_167 htt_167
  have hsz_177 := hh_175.2.2.2.2.2.1
  have htt_177 := hh_175.2.2.2.2.2.2.1
  refine j7_newiK hx hb hK hh_175 hB (atype := .int) (ty := .int) (htw (.arrayClass .int) (jWr_3 _ (List.mem_of_getElem? (i := 20) rfl))) rfl rfl (fun _ h => h) hB101 1 rfl (by decide) (by decide) hbs (x := 20) (by decide) (by omega) (fun j => by first | trivial | decide | rfl | exact Or.inl rfl | exact Or.inr (Or.inl (by decide)) | (refine ⟨?_, ?_⟩ <;> decide)) (by rw [hRc]; omega) (by rw [hRs]; omega) dX14_init_159 (fun H_177 hfr_177 hh_177 => ?_)
  have hh_177 : jSt (dC, dI) B base G0 (va_up G_167 H_175.size (some (101, 20))) EX14_initW s.heap (((((((((((((((((((0 + 1) + 1) + 1) + 1) + 1) + (1)) + 1) + (1)) + 1) + 1) + 1) + 1) + 1) + 1) + 1) + 1) + 1) + 1) + 1) (((((((((((((((((((0 + 4000) + 20000) + 100000) + 3300) + 4) + (16)) + 4) + (16)) + 3100) + 3100) + 3100) + 3100) + 3100) + 3100) + 3100) + 3100) + 3100) + 3300) + 20) [(H_46.size, 0, 3, .int qc_53), (H_46.size, 0, 0, .ref xa_53), (H_32.size, 0, 3, .int qc_39), (H_32.size, 0, 0, .ref xa_39)] [(H_129.size, 123, 3100, ca 1, (fun _ => 0)), (H_113.size, 122, 3100, ca 1, (fun _ => 0)), (H_23.size, 110, 3300, ca 1, (fun _ => 0))] [(jFz9, jDZ dC dI G_167)] H_177 locs_175 := hh_177
  have hZ_177 : jN14 G_167 (va_up G_167 H_175.size (some (101, 20))) := jN14.new (by decide)
  have hN_177 : (jNk [1, 2, 3, 4, 5, 6, 7, 8, 9, 10, 11, 12, 13, 17, 175]) G_167 (va_up G_167 H_175.size (some (101, 20))) := jNk.new (by decide)
  have hgn_177 : (va_up G_167 H_175.size (some (101, 20))) H_175.size = some (101, 20) := jUp_self
  have hle_177 : jLe G_167 (va_up G_167 H_175.size (some (101, 20))) := jLe.new hh_175.2.1.fresh
  have hke_177 : jKe G_167 (va_up G_167 H_175.size (some (101, 20))) H_175 H_177 := jKe.new hfr_177
  have hsy_177 : s.heap.size ≤ H_175.size := hh_175.1.1
  generalize (va_up G_167 H_175.size (some (101, 20))) = G_177 at hN_177 hgn_177 hle_177 hke_177 hh_177 hZ_177
  clear hh_175
  have hNn_177 : (jNk [1, 2, 3, 4, 5, 6, 7, 8, 9, 10, 11, 12, 13, 17, 175]) G0 G_177 := (hNn_167).tr hN_177
  have hg_178 := hle_177 _ _ hg_168
  have hg_179 := hle_177 _ _ hg_169
  have hkp_180 := hkp_176.tr hke_177
  have hraw_181n := hke_177.nr hraw_175.lt hraw_171n
  have hraw_181 := hraw_175.kept (hke_177.1 _ hraw_175.lt)
  try have hz14_177 : jN14 G0 G_177 := (hz14_167).tr hZ_177
  have hd_182 := jDZ.grow (hh_177.iv 0 rfl) hle_177 hZ_177
  have hh_183 := hh_177.sub (L1 := [(H_46.size, 0, 3, .int qc_53), (H_46.size, 0, 0, .ref xa_53), (H_32.size, 0, 3, .int qc_39), (H_32.size, 0, 0, .ref xa_39)]) [0, 1, 2, 3] rfl (M1 := [(H_129.size, 123, 3100, ca 1, (fun _ => 0)), (H_113.size, 122, 3100, ca 1, (fun _ => 0)), (H_23.size, 110, 3300, ca 1, (fun _ => 0))]) [0, 1, 2] rfl (I1 := []) [] rfl
  clear hh_177
  have hh_184 := hh_183.addI (jDZ.ie hd_182)
  clear hh_183
  refine j7_putRF hx hb hown hK hh_184 hB hAp hraw_181 hraw_181n hbr0 (C := RX14) (T := TX14) (N := 74) rfl (i := 38) (by decide) (Nat.le_of_ble_eq_true rfl) hly_16_38 rfl hin2 rfl hlk_68 (ty := (.array .int)) (v := .ref H_175.size) (by decide +kernel) rfl rfl dX14_init_161 (fun H_185 locs_185 hraw_185 hr_185 hh_185 => ?_)
  have hraw_185 : va_at (dC, dI) vwCl (r0, .inr (16, [.ref s.heap.size, .int 0, .ref H_7.size, .int 0, .int 0, .ref H_15.size, .int 0, .int 0, .int 0, .ref H_23.size, .int 0, .int 0, .int 0, .ref H_32.size, .ref H_46.size, .int (-1), .int 0, .ref H_63.size, .ref H_73.size, .ref H_83.size, .ref H_93.size, .ref H_103.size, .ref H_113.size, .ref H_129.size, .ref H_145.size, .ref H_155.size, .int 0, .ref H_165.size, .int 0, .int 0, .int 0, .int 0, .int 0, .int 0, .int 0, .int 0, .int 0, .int 0, .ref H_175.size, .int 0, .int 0, .null, .int 0, .null, .int 0, .null, .null, .null, .int 0, .null, .null, .null, .null, .null, .null, .null, .null, .null, .null, .null, .null, .null, .null, .null, .int 0, .int 0, .int 0, .null, .null, .null, .int 0, .null, .null, .null])) H_185 := hraw_185
  have hkp_186 := hkp_180.put hr_185
  clear hh_184
  refine lv_aload_n hx hb dX14_init_164 rfl (lv_at hl 0 rfl) ?_
  refine lv_iconst (v := 3) hx hb dX14_init_165 (by decide) ?_
  clear hsz_177 htt_177
  have hsz_187 := hh_185.2.2.2.2.2.1
  have htt_187 := hh_185.2.2.2.2.2.2.1
  have hsy_187 : s.heap.size ≤ H_185.size := hh_185.1.1
  refine j7_newqR hx hb hown (htw (.classLink RX14 71 RX12) (jWr_11 _ (List.mem_of_getElem? (i := 16) rfl))) hK6.1 hK2 hh_185 hB 0 rfl (x := 3) (by decide) (by omega) (by rw [hRc]; omega) (by rw [hRs]; omega) dX14_init_166 (fun H_187 hfr_187 hnr_187 hraw_187 hh_187 => ?_)
  have hlt_188 := hraw_185.lt
  have hraw_187 : va_at (dC, dI) vwCl (H_185.size, .inl (ca 4, 3, .inr (.inr (.inr (.inr (fun _ => none)))))) H_187 := hraw_187
  have hh_187 : jSt (dC, dI) B base G0 G_177 EX14_initW s.heap ((((((((((((((((((((0 + 1) + 1) + 1) + 1) + 1) + (1)) + 1) + (1)) + 1) + 1) + 1) + 1) + 1) + 1) + 1) + 1) + 1) + 1) + 1) + 1) ((((((((((((((((((((0 + 4000) + 20000) + 100000) + 3300) + 4) + (16)) + 4) + (16)) + 3100) + 3100) + 3100) + 3100) + 3100) + 3100) + 3100) + 3100) + 3100) + 3300) + 20) + 3) [(H_46.size, 0, 3, .int qc_53), (H_46.size, 0, 0, .ref xa_53), (H_32.size, 0, 3, .int qc_39), (H_32.size, 0, 0, .ref xa_39)] [(H_129.size, 123, 3100, ca 1, (fun _ => 0)), (H_113.size, 122, 3100, ca 1, (fun _ => 0)), (H_23.size, 110, 3300, ca 1, (fun _ => 0))] [(jFz9, jDZ dC dI G_177)] H_187 locs_185 := hh_187
  have hke_187 : jKe G_177 G_177 H_185 H_187 := jKe.raw hfr_187
  have hbr_187 : base ≤ H_185.size := Nat.le_trans hbs hsy_187
  clear hh_185
  have hkp_189 := hkp_186.tr hke_187
  have hraw_190n := hke_187.nr hraw_185.lt hraw_181n
  have hraw_190 := hraw_185.kept (hke_187.1 _ hraw_185.lt)
  have hne_191 : r0 ≠ H_185.size := Nat.ne_of_lt hlt_188
  refine lv_dup hx hb dX14_init_169 rfl ?_
  refine lv_iconst (v := 0) hx hb dX14_init_170 (by decide) ?_
  clear hsz_187 htt_187
  have hsz_192 := hh_187.2.2.2.2.2.1
  have htt_192 := hh_187.2.2.2.2.2.2.1
  refine j7_newo (k := 14) (C := RX12) (T := TX12) (N := 11) (fs := [.null, .int 0, .int 0, .null, .int 0, .int 0, .null, .null, .null, .int 0, .null]) hx hb htw jWc_wsX120 (fun k => ([(.array .int), .int, .int, (.array .int), .int, .int, (.array .int), (.array .int), (.array .int), .int, (.array .int)] : List FieldType).getD k .int) (by decide +kernel) hown (htw (.classLink RX14 71 RX12) (jWr_11 _ (List.mem_of_getElem? (i := 16) rfl))) (htw (.instantiable RX12 11) (jWr_11 _ (List.mem_of_getElem? (i := 17) rfl))) (htw (.initialized RX12) (jWr_11 _ (List.mem_of_getElem? (i := 18) rfl))) hK rfl (fun j hj => by rcases (by omega : j = 0 ∨ j = 1 ∨ j = 2 ∨ j = 3 ∨ j = 4 ∨ j = 5 ∨ j = 6 ∨ j = 7 ∨ j = 8 ∨ j = 9 ∨ j = 10) with rfl | rfl | rfl | rfl | rfl | rfl | rfl | rfl | rfl | rfl | rfl <;> rfl) hh_187 hB (by rw [hRc]; omega) (by rw [hRs]; omega) dX14_init_171 (fun H_192 hraw_192 hfr_192 hnr_192 hh_192 => ?_)
  have hlt_193 := hraw_190.lt
  have hlt_194 := hraw_187.lt
  have hke_192 : jKe G_177 G_177 H_187 H_192 := jKe.raw hfr_192
  have hbr_192 : base ≤ H_187.size := Nat.le_trans hbs hh_187.1.1
  have hsy_192 : s.heap.size ≤ H_187.size := hh_187.1.1
  clear hh_187
  have hkp_195 := hkp_189.tr hke_192
  have hraw_196n := hke_192.nr hraw_190.lt hraw_190n
  have hraw_196 := hraw_190.kept (hke_192.1 _ hraw_190.lt)
  have hraw_197n := hke_192.nr hraw_187.lt hnr_187
  have hraw_197 := hraw_187.kept (hke_192.1 _ hraw_187.lt)
  have hne_198 : r0 ≠ H_187.size := Nat.ne_of_lt hlt_193
  have hne_199 : H_185.size ≠ H_187.size := Nat.ne_of_lt hlt_194
  refine lv_dup hx hb dX14_init_174 rfl ?_
  clear hsz_192 htt_192
  have hsz_200 := hh_192.2.2.2.2.2.1
  have htt_200 := hh_192.2.2.2.2.2.2.1
  refine W.room (fun hrc_200 hrs_200 => ?_)
  refine va_callv (A0 := jA base) (H0 := s.heap) (va_runIN (As := []) (rest := [.ref H_187.size, .int 0, .ref H_185.size, .ref H_185.size, .ref r0]) ⟨hx, hb, hml, hown, hts⟩ (uX12_initE l dC dI ca base B hB hAp hB14 hB190 hB191 hB192 hB193 hB194 hB195 G_177 H_192 H_187.size LC LS) ⟨va_cnB 0 hts (jgW (jWr_13 _ (List.mem_of_getElem? (i := 21) rfl))) rfl rfl rfl (hG.2.2.1 RX14 73 yX12_init "ProofServerModel" (List.mem_of_getElem? (i := 1726) (by decide +kernel))) (htw (.initialized RX12) (jWr_11 _ (List.mem_of_getElem? (i := 18) rfl))) (by decide +kernel) ⟨by rw [← hR]; exact Nat.le_of_ble_eq_true rfl, by rw [← hR]; exact Nat.le_of_ble_eq_true rfl⟩, rfl, htw (.instanceMethod yX12_init) (jWr_13 _ (List.mem_of_getElem? (i := 20) rfl))⟩ ⟨fun a U g mk q => by obtain ⟨q0, q1, q2, qK, q10, q11, q12, q13, q14, q15⟩ := q; exact ⟨q0, q1, q2, jG.calling g mk a qK, q10, q11, q12, q13, q14, q15⟩, fun U hU hW => ⟨rfl, hU, hh_192.2.1, hG.step hW hU hh_192.1, hraw_192, hnr_192, hbr_192, jP.nil, (hh_192.2.2.2.2.2.2.2.2.sub (L1 := [(jFz9, jDZ dC dI G_177)]) [0] rfl), (by omega), (by omega), trivial⟩⟩ rfl rfl hl.1 rfl (lv_room (Nat.le_of_ble_eq_true rfl)) dX14_init_175 ⟨by rw [hRc]; omega, by rw [hRs]; omega⟩) hh_192.1 (fun q _ h => h) (fun q h => h) (fun u_200 t_200 H_200 locs_200 ht_200 hvm_200 hr_201 hb_200 hz_200 hk_200 hS_200 => ?_)
  rw [ht_200] at hb_200
  obtain ⟨G_200, rfl⟩ : ∃ z, z = u_200 := ⟨_, rfl⟩
  try simp only at hb_200
  obtain ⟨⟨hb_2001, hb_2002, hb_2003, hb_2004, hb_2005, hb_2006⟩, hN_200, hgc_200, hbX_200, hbE_200⟩ := hb_200
  have hN_200 : (jNk [1, 2, 3, 4, 5, 6, 7, 8, 9, 10, 11, 12, 13, 17, 175]) G_177 G_200 := hN_200.sub (by decide)
  have hh_200 : jSt (dC, dI) B base G0 G_200 EX14_initW s.heap ((((((((((((((((((((((0 + 1) + 1) + 1) + 1) + 1) + (1)) + 1) + (1)) + 1) + 1) + 1) + 1) + 1) + 1) + 1) + 1) + 1) + 1) + 1) + 1) + 1) + (6)) ((((((((((((((((((((((0 + 4000) + 20000) + 100000) + 3300) + 4) + (16)) + 4) + (16)) + 3100) + 3100) + 3100) + 3100) + 3100) + 3100) + 3100) + 3100) + 3100) + 3300) + 20) + 3) + 11) + (1700)) [(H_46.size, 0, 3, .int qc_53), (H_46.size, 0, 0, .ref xa_53), (H_32.size, 0, 3, .int qc_39), (H_32.size, 0, 0, .ref xa_39)] [(H_129.size, 123, 3100, ca 1, (fun _ => 0)), (H_113.size, 122, 3100, ca 1, (fun _ => 0)), (H_23.size, 110, 3300, ca 1, (fun _ => 0))] [] H_200 locs_200 := (hh_192.callG hb_2001 hb_2002 hb_2003 hb_2004 hb_2005 hS_200 rfl (L1 := [(H_46.size, 0, 3, .int qc_53), (H_46.size, 0, 0, .ref xa_53), (H_32.size, 0, 3, .int qc_39), (H_32.size, 0, 0, .ref xa_39)]) [0, 1, 2, 3] rfl rfl (M1 := [(H_129.size, 123, 3100, ca 1, (fun _ => 0)), (H_113.size, 122, 3100, ca 1, (fun _ => 0)), (H_23.size, 110, 3300, ca 1, (fun _ => 0))]) [0, 1, 2] rfl rfl (I1 := []) [] rfl rfl).more hb_2006
  have hNn_200 : (jNk [1, 2, 3, 4, 5, 6, 7, 8, 9, 10, 11, 12, 13, 17, 175]) G0 G_200 := (hNn_177).tr hN_200
  have hg_202 := hb_2002 _ _ hg_178
  have hg_203 := hb_2002 _ _ hg_179
  have hh_204 := hh_200.addIs hbE_200
  try simp only at hr_201
  have hkp_205 := hkp_195.in hbX_200 hsy_192
  have hraw_206x := hbX_200.ke hraw_196.lt hne_198 hraw_196n
  have hraw_206 := hraw_196.kept hraw_206x.1
  have hraw_207x := hbX_200.ke hraw_197.lt hne_199 hraw_197n
  have hraw_207 := hraw_197.kept hraw_207x.1
  refine j7_qastR hx hb hK2 hh_204 hB hraw_207 hraw_207x.2 hbr_187 0 rfl (x := 0) ((by decide)) (by omega) hB14 (T := TX12) (N := 11) rfl (by decide) hgc_200 dX14_init_178 (fun H_208 locs_208 hraw_208 hr_208 hh_208 => ?_)
  have hraw_209 := hraw_206.kept (hr_208 _ hne_191)
  have hkp_210 := hkp_205.st hsy_187 hr_208
  clear hr_208
  clear hh_204
  refine lv_dup hx hb dX14_init_179 rfl ?_
  refine lv_iconst (v := 1) hx hb dX14_init_180 (by decide) ?_
  have hlt_d0 : H_187.size < H_208.size := (hh_208.ab ((jLe.rf) _ _ hgc_200)).2
  clear hsz_200 htt_200 hrc_200 hrs_200
  have hsz_211 := hh_208.2.2.2.2.2.1
  have htt_211 := hh_208.2.2.2.2.2.2.1
  refine j7_newo (k := 14) (C := RX12) (T := TX12) (N := 11) (fs := [.null, .int 0, .int 0, .null, .int 0, .int 0, .null, .null, .null, .int 0, .null]) hx hb htw jWc_wsX120 (fun k => ([(.array .int), .int, .int, (.array .int), .int, .int, (.array .int), (.array .int), (.array .int), .int, (.array .int)] : List FieldType).getD k .int) (by decide +kernel) hown (htw (.classLink RX14 71 RX12) (jWr_11 _ (List.mem_of_getElem? (i := 16) rfl))) (htw (.instantiable RX12 11) (jWr_11 _ (List.mem_of_getElem? (i := 17) rfl))) (htw (.initialized RX12) (jWr_11 _ (List.mem_of_getElem? (i := 18) rfl))) hK rfl (fun j hj => by rcases (by omega : j = 0 ∨ j = 1 ∨ j = 2 ∨ j = 3 ∨ j = 4 ∨ j = 5 ∨ j = 6 ∨ j = 7 ∨ j = 8 ∨ j = 9 ∨ j = 10) with rfl | rfl | rfl | rfl | rfl | rfl | rfl | rfl | rfl | rfl | rfl <;> rfl) hh_208 hB (by rw [hRc]; omega) (by rw [hRs]; omega) dX14_init_181 (fun H_211 hraw_211 hfr_211 hnr_211 hh_211 => ?_)
  have hlt_212 := hraw_209.lt
  have hlt_213 := hraw_208.lt
  have hke_211 : jKe G_200 G_200 H_208 H_211 := jKe.raw hfr_211
  have hbr_211 : base ≤ H_208.size := Nat.le_trans hbs hh_208.1.1
  have hsy_211 : s.heap.size ≤ H_208.size := hh_208.1.1
  clear hh_208
  have hkp_214 := hkp_210.tr hke_211
  have hraw_215n := hke_211.nr hraw_209.lt hraw_206x.2
  have hraw_215 := hraw_209.kept (hke_211.1 _ hraw_209.lt)
  have hraw_216n := hke_211.nr hraw_208.lt hraw_207x.2
  have hraw_216 := hraw_208.kept (hke_211.1 _ hraw_208.lt)
  have hne_217 : r0 ≠ H_208.size := Nat.ne_of_lt hlt_212
  have hne_218 : H_185.size ≠ H_208.size := Nat.ne_of_lt hlt_213
  refine lv_dup hx hb dX14_init_184 rfl ?_
  clear hsz_211 htt_211
  have hsz_219 := hh_211.2.2.2.2.2.1
  have htt_219 := hh_211.2.2.2.2.2.2.1
  refine W.room (fun hrc_219 hrs_219 => ?_)
  refine va_callv (A0 := jA base) (H0 := s.heap) (va_runIN (As := []) (rest := [.ref H_208.size, .int 1, .ref H_185.size, .ref H_185.size, .ref r0]) ⟨hx, hb, hml, hown, hts⟩ (uX12_initE l dC dI ca base B hB hAp hB14 hB190 hB191 hB192 hB193 hB194 hB195 G_200 H_211 H_208.size LC LS) ⟨va_cnB 0 hts (jgW (jWr_13 _ (List.mem_of_getElem? (i := 21) rfl))) rfl rfl rfl (hG.2.2.1 RX14 73 yX12_init "ProofServerModel" (List.mem_of_getElem? (i := 1726) (by decide +kernel))) (htw (.initialized RX12) (jWr_11 _ (List.mem_of_getElem? (i := 18) rfl))) (by decide +kernel) ⟨by rw [← hR]; exact Nat.le_of_ble_eq_true rfl, by rw [← hR]; exact Nat.le_of_ble_eq_true rfl⟩, rfl, htw (.instanceMethod yX12_init) (jWr_13 _ (List.mem_of_getElem? (i := 20) rfl))⟩ ⟨fun a U g mk q => by obtain ⟨q0, q1, q2, qK, q10, q11, q12, q13, q14, q15⟩ := q; exact ⟨q0, q1, q2, jG.calling g mk a qK, q10, q11, q12, q13, q14, q15⟩, fun U hU hW => ⟨rfl, hU, hh_211.2.1, hG.step hW hU hh_211.1, hraw_211, hnr_211, hbr_211, jP.nil, (hh_211.2.2.2.2.2.2.2.2.sub (L1 := [(jFz9, jDZ dC dI G_200)]) [0] rfl), (by omega), (by omega), trivial⟩⟩ rfl rfl hl.1 rfl (lv_room (Nat.le_of_ble_eq_true rfl)) dX14_init_185 ⟨by rw [hRc]; omega, by rw [hRs]; omega⟩) hh_211.1 (fun q _ h => h) (fun q h => h) (fun u_219 t_219 H_219 locs_219 ht_219 hvm_219 hr_220 hb_219 hz_219 hk_219 hS_219 => ?_)
  rw [ht_219] at hb_219
  obtain ⟨G_219, rfl⟩ : ∃ z, z = u_219 := ⟨_, rfl⟩
  try simp only at hb_219
  obtain ⟨⟨hb_2191, hb_2192, hb_2193, hb_2194, hb_2195, hb_2196⟩, hN_219, hgc_219, hbX_219, hbE_219⟩ := hb_219
  have hN_219 : (jNk [1, 2, 3, 4, 5, 6, 7, 8, 9, 10, 11, 12, 13, 17, 175]) G_200 G_219 := hN_219.sub (by decide)
  have hh_219 : jSt (dC, dI) B base G0 G_219 EX14_initW s.heap ((((((((((((((((((((((((0 + 1) + 1) + 1) + 1) + 1) + (1)) + 1) + (1)) + 1) + 1) + 1) + 1) + 1) + 1) + 1) + 1) + 1) + 1) + 1) + 1) + 1) + (6)) + 1) + (6)) ((((((((((((((((((((((((0 + 4000) + 20000) + 100000) + 3300) + 4) + (16)) + 4) + (16)) + 3100) + 3100) + 3100) + 3100) + 3100) + 3100) + 3100) + 3100) + 3100) + 3300) + 20) + 3) + 11) + (1700)) + 11) + (1700)) [(H_46.size, 0, 3, .int qc_53), (H_46.size, 0, 0, .ref xa_53), (H_32.size, 0, 3, .int qc_39), (H_32.size, 0, 0, .ref xa_39)] [(H_129.size, 123, 3100, ca 1, (fun _ => 0)), (H_113.size, 122, 3100, ca 1, (fun _ => 0)), (H_23.size, 110, 3300, ca 1, (fun _ => 0))] [] H_219 locs_219 := (hh_211.callG hb_2191 hb_2192 hb_2193 hb_2194 hb_2195 hS_219 rfl (L1 := [(H_46.size, 0, 3, .int qc_53), (H_46.size, 0, 0, .ref xa_53), (H_32.size, 0, 3, .int qc_39), (H_32.size, 0, 0, .ref xa_39)]) [0, 1, 2, 3] rfl rfl (M1 := [(H_129.size, 123, 3100, ca 1, (fun _ => 0)), (H_113.size, 122, 3100, ca 1, (fun _ => 0)), (H_23.size, 110, 3300, ca 1, (fun _ => 0))]) [0, 1, 2] rfl rfl (I1 := []) [] rfl rfl).more hb_2196
  have hNn_219 : (jNk [1, 2, 3, 4, 5, 6, 7, 8, 9, 10, 11, 12, 13, 17, 175]) G0 G_219 := (hNn_200).tr hN_219
  have hg_221 := hb_2192 _ _ hg_202
  have hg_222 := hb_2192 _ _ hg_203
  have hh_223 := hh_219.addIs hbE_219
  try simp only at hr_220
  have hkp_224 := hkp_214.in hbX_219 hsy_211
  have hraw_225x := hbX_219.ke hraw_215.lt hne_217 hraw_215n
  have hraw_225 := hraw_215.kept hraw_225x.1
  have hraw_226x := hbX_219.ke hraw_216.lt hne_218 hraw_216n
  have hraw_226 := hraw_216.kept hraw_226x.1
  refine j7_qastR hx hb hK2 hh_223 hB hraw_226 hraw_226x.2 hbr_187 0 rfl (x := 1) ((by decide)) (by omega) hB14 (T := TX12) (N := 11) rfl (by decide) hgc_219 dX14_init_188 (fun H_227 locs_227 hraw_227 hr_227 hh_227 => ?_)
  have hraw_228 := hraw_225.kept (hr_227 _ hne_191)
  have hkp_229 := hkp_224.st hsy_187 hr_227
  clear hr_227
  clear hh_223
  refine lv_dup hx hb dX14_init_189 rfl ?_
  refine lv_iconst (v := 2) hx hb dX14_init_190 (by decide) ?_
  have hlt_d1 : H_208.size < H_227.size := (hh_227.ab ((jLe.rf) _ _ hgc_219)).2
  clear hsz_219 htt_219 hrc_219 hrs_219
  have hsz_230 := hh_227.2.2.2.2.2.1
  have htt_230 := hh_227.2.2.2.2.2.2.1
  refine j7_newo (k := 14) (C := RX12) (T := TX12) (N := 11) (fs := [.null, .int 0, .int 0, .null, .int 0, .int 0, .null, .null, .null, .int 0, .null]) hx hb htw jWc_wsX120 (fun k => ([(.array .int), .int, .int, (.array .int), .int, .int, (.array .int), (.array .int), (.array .int), .int, (.array .int)] : List FieldType).getD k .int) (by decide +kernel) hown (htw (.classLink RX14 71 RX12) (jWr_11 _ (List.mem_of_getElem? (i := 16) rfl))) (htw (.instantiable RX12 11) (jWr_11 _ (List.mem_of_getElem? (i := 17) rfl))) (htw (.initialized RX12) (jWr_11 _ (List.mem_of_getElem? (i := 18) rfl))) hK rfl (fun j hj => by rcases (by omega : j = 0 ∨ j = 1 ∨ j = 2 ∨ j = 3 ∨ j = 4 ∨ j = 5 ∨ j = 6 ∨ j = 7 ∨ j = 8 ∨ j = 9 ∨ j = 10) with rfl | rfl | rfl | rfl | rfl | rfl | rfl | rfl | rfl | rfl | rfl <;> rfl) hh_227 hB (by rw [hRc]; omega) (by rw [hRs]; omega) dX14_init_191 (fun H_230 hraw_230 hfr_230 hnr_230 hh_230 => ?_)
  have hlt_231 := hraw_228.lt
  have hlt_232 := hraw_227.lt
  have hke_230 : jKe G_219 G_219 H_227 H_230 := jKe.raw hfr_230
  have hbr_230 : base ≤ H_227.size := Nat.le_trans hbs hh_227.1.1
  have hsy_230 : s.heap.size ≤ H_227.size := hh_227.1.1
  clear hh_227
  have hkp_233 := hkp_229.tr hke_230
  have hraw_234n := hke_230.nr hraw_228.lt hraw_225x.2
  have hraw_234 := hraw_228.kept (hke_230.1 _ hraw_228.lt)
  have hraw_235n := hke_230.nr hraw_227.lt hraw_226x.2
  have hraw_235 := hraw_227.kept (hke_230.1 _ hraw_227.lt)
  have hne_236 : r0 ≠ H_227.size := Nat.ne_of_lt hlt_231
  have hne_237 : H_185.size ≠ H_227.size := Nat.ne_of_lt hlt_232
  refine lv_dup hx hb dX14_init_194 rfl ?_
  clear hsz_230 htt_230
  have hsz_238 := hh_230.2.2.2.2.2.1
  have htt_238 := hh_230.2.2.2.2.2.2.1
  refine W.room (fun hrc_238 hrs_238 => ?_)
  refine va_callv (A0 := jA base) (H0 := s.heap) (va_runIN (As := []) (rest := [.ref H_227.size, .int 2, .ref H_185.size, .ref H_185.size, .ref r0]) ⟨hx, hb, hml, hown, hts⟩ (uX12_initE l dC dI ca base B hB hAp hB14 hB190 hB191 hB192 hB193 hB194 hB195 G_219 H_230 H_227.size LC LS) ⟨va_cnB 0 hts (jgW (jWr_13 _ (List.mem_of_getElem? (i := 21) rfl))) rfl rfl rfl (hG.2.2.1 RX14 73 yX12_init "ProofServerModel" (List.mem_of_getElem? (i := 1726) (by decide +kernel))) (htw (.initialized RX12) (jWr_11 _ (List.mem_of_getElem? (i := 18) rfl))) (by decide +kernel) ⟨by rw [← hR]; exact Nat.le_of_ble_eq_true rfl, by rw [← hR]; exact Nat.le_of_ble_eq_true rfl⟩, rfl, htw (.instanceMethod yX12_init) (jWr_13 _ (List.mem_of_getElem? (i := 20) rfl))⟩ ⟨fun a U g mk q => by obtain ⟨q0, q1, q2, qK, q10, q11, q12, q13, q14, q15⟩ := q; exact ⟨q0, q1, q2, jG.calling g mk a qK, q10, q11, q12, q13, q14, q15⟩, fun U hU hW => ⟨rfl, hU, hh_230.2.1, hG.step hW hU hh_230.1, hraw_230, hnr_230, hbr_230, jP.nil, (hh_230.2.2.2.2.2.2.2.2.sub (L1 := [(jFz9, jDZ dC dI G_219)]) [0] rfl), (by omega), (by omega), trivial⟩⟩ rfl rfl hl.1 rfl (lv_room (Nat.le_of_ble_eq_true rfl)) dX14_init_195 ⟨by rw [hRc]; omega, by rw [hRs]; omega⟩) hh_230.1 (fun q _ h => h) (fun q h => h) (fun u_238 t_238 H_238 locs_238 ht_238 hvm_238 hr_239 hb_238 hz_238 hk_238 hS_238 => ?_)
  rw [ht_238] at hb_238
  obtain ⟨G_238, rfl⟩ : ∃ z, z = u_238 := ⟨_, rfl⟩
  try simp only at hb_238
  obtain ⟨⟨hb_2381, hb_2382, hb_2383, hb_2384, hb_2385, hb_2386⟩, hN_238, hgc_238, hbX_238, hbE_238⟩ := hb_238
  have hN_238 : (jNk [1, 2, 3, 4, 5, 6, 7, 8, 9, 10, 11, 12, 13, 17, 175]) G_219 G_238 := hN_238.sub (by decide)
  have hh_238 : jSt (dC, dI) B base G0 G_238 EX14_initW s.heap ((((((((((((((((((((((((((0 + 1) + 1) + 1) + 1) + 1) + (1)) + 1) + (1)) + 1) + 1) + 1) + 1) + 1) + 1) + 1) + 1) + 1) + 1) + 1) + 1) + 1) + (6)) + 1) + (6)) + 1) + (6)) ((((((((((((((((((((((((((0 + 4000) + 20000) + 100000) + 3300) + 4) + (16)) + 4) + (16)) + 3100) + 3100) + 3100) + 3100) + 3100) + 3100) + 3100) + 3100) + 3100) + 3300) + 20) + 3) + 11) + (1700)) + 11) + (1700)) + 11) + (1700)) [(H_46.size, 0, 3, .int qc_53), (H_46.size, 0, 0, .ref xa_53), (H_32.size, 0, 3, .int qc_39), (H_32.size, 0, 0, .ref xa_39)] [(H_129.size, 123, 3100, ca 1, (fun _ => 0)), (H_113.size, 122, 3100, ca 1, (fun _ => 0)), (H_23.size, 110, 3300, ca 1, (fun _ => 0))] [] H_238 locs_238 := (hh_230.callG hb_2381 hb_2382 hb_2383 hb_2384 hb_2385 hS_238 rfl (L1 := [(H_46.size, 0, 3, .int qc_53), (H_46.size, 0, 0, .ref xa_53), (H_32.size, 0, 3, .int qc_39), (H_32.size, 0, 0, .ref xa_39)]) [0, 1, 2, 3] rfl rfl (M1 := [(H_129.size, 123, 3100, ca 1, (fun _ => 0)), (H_113.size, 122, 3100, ca 1, (fun _ => 0)), (H_23.size, 110, 3300, ca 1, (fun _ => 0))]) [0, 1, 2] rfl rfl (I1 := []) [] rfl rfl).more hb_2386
  have hNn_238 : (jNk [1, 2, 3, 4, 5, 6, 7, 8, 9, 10, 11, 12, 13, 17, 175]) G0 G_238 := (hNn_219).tr hN_238
  have hg_240 := hb_2382 _ _ hg_221
  have hg_241 := hb_2382 _ _ hg_222
  have hh_242 := hh_238.addIs hbE_238
  try simp only at hr_239
  have hkp_243 := hkp_233.in hbX_238 hsy_230
  have hraw_244x := hbX_238.ke hraw_234.lt hne_236 hraw_234n
  have hraw_244 := hraw_234.kept hraw_244x.1
  have hraw_245x := hbX_238.ke hraw_235.lt hne_237 hraw_235n
  have hraw_245 := hraw_235.kept hraw_245x.1
  refine j7_qastR hx hb hK2 hh_242 hB hraw_245 hraw_245x.2 hbr_187 0 rfl (x := 2) ((by decide)) (by omega) hB14 (T := TX12) (N := 11) rfl (by decide) hgc_238 dX14_init_198 (fun H_246 locs_246 hraw_246 hr_246 hh_246 => ?_)
  have hraw_247 := hraw_244.kept (hr_246 _ hne_191)
  have hkp_248 := hkp_243.st hsy_187 hr_246
  clear hr_246
  clear hh_242
  have hgm_d0 := ((hb_2192).tr hb_2382) _ _ hgc_200
  have hgm_d1 := (hb_2382) _ _ hgc_219
  have hgm_d2 := (jLe.rf) _ _ hgc_238
  have hle_249 : jLe G_238 (va_up G_238 H_185.size (some (201, 3))) := jLe.typ hraw_245x.2
  have hh_249 := hh_246.typ (k := 201) (n := 3) hB hraw_245x.2 hbr_187 hraw_246.lt (jAq.of hB201 hraw_246 (jQs3 hle_249 hgm_d0 hgm_d1 hgm_d2))
  have hgn_249 : (va_up G_238 H_185.size (some (201, 3))) H_185.size = some (201, 3) := jUp_self
  have hN_249 : (jNk [1, 2, 3, 4, 5, 6, 7, 8, 9, 10, 11, 12, 13, 17, 175]) G_238 (va_up G_238 H_185.size (some (201, 3))) := jNk.new (by decide)
  have hNn_249 : (jNk [1, 2, 3, 4, 5, 6, 7, 8, 9, 10, 11, 12, 13, 17, 175]) G0 (va_up G_238 H_185.size (some (201, 3))) := (hNn_238).tr hN_249
  have hkp_250 := hkp_248.typn (t := some (201, 3)) hsy_187
  have hZ_249 : jN14 G_238 (va_up G_238 H_185.size (some (201, 3))) := jN14.new (by decide)
  have hrn_251 : ∀ t, (va_up G_238 H_185.size (some (201, 3))) r0 ≠ some t := jNrU hraw_244x.2 hne_191
  generalize (va_up G_238 H_185.size (some (201, 3))) = G_249 at hN_249 hNn_249 hgn_249 hle_249 hh_249 hkp_250 hZ_249 hrn_251
  have hg_252 := hle_249 _ _ hg_240
  have hg_253 := hle_249 _ _ hg_241
  have hd_254 := jDZ.grow (hh_249.iv 0 rfl) hle_249 hZ_249
  have hh_255 := hh_249.sub (L1 := [(H_46.size, 0, 3, .int qc_53), (H_46.size, 0, 0, .ref xa_53), (H_32.size, 0, 3, .int qc_39), (H_32.size, 0, 0, .ref xa_39)]) [0, 1, 2, 3] rfl (M1 := [(H_129.size, 123, 3100, ca 1, (fun _ => 0)), (H_113.size, 122, 3100, ca 1, (fun _ => 0)), (H_23.size, 110, 3300, ca 1, (fun _ => 0))]) [0, 1, 2] rfl (I1 := []) [] rfl
  clear hh_249
  have hh_256 := hh_255.addI (jDZ.ie hd_254)
  clear hh_255
  try have hz14_249 : jN14 G0 G_249 := (hz14_177).tr hZ_249
  have hh_257 := hh_256.addI (jQc.ie hraw_246 hgn_249 (by decide) (by decide))
  clear hh_256
  refine j7_putRF hx hb hown hK hh_257 hB hAp hraw_247 hrn_251 hbr0 (C := RX14) (T := TX14) (N := 74) rfl (i := 41) (by decide) (Nat.le_of_ble_eq_true rfl) hly_16_41 rfl hin2 rfl hlk_74 (ty := (.array (.object "ProofServerModel$Document"))) (v := .ref H_185.size) (by decide +kernel) rfl rfl dX14_init_199 (fun H_258 locs_258 hraw_258 hr_258 hh_258 => ?_)
  have hraw_258 : va_at (dC, dI) vwCl (r0, .inr (16, [.ref s.heap.size, .int 0, .ref H_7.size, .int 0, .int 0, .ref H_15.size, .int 0, .int 0, .int 0, .ref H_23.size, .int 0, .int 0, .int 0, .ref H_32.size, .ref H_46.size, .int (-1), .int 0, .ref H_63.size, .ref H_73.size, .ref H_83.size, .ref H_93.size, .ref H_103.size, .ref H_113.size, .ref H_129.size, .ref H_145.size, .ref H_155.size, .int 0, .ref H_165.size, .int 0, .int 0, .int 0, .int 0, .int 0, .int 0, .int 0, .int 0, .int 0, .int 0, .ref H_175.size, .int 0, .int 0, .ref H_185.size, .int 0, .null, .int 0, .null, .null, .null, .int 0, .null, .null, .null, .null, .null, .null, .null, .null, .null, .null, .null, .null, .null, .null, .null, .int 0, .int 0, .int 0, .null, .null, .null, .int 0, .null, .null, .null])) H_258 := hraw_258
  have hkp_259 := hkp_250.put hr_258
  clear hh_257
  refine lv_aload_n hx hb dX14_init_202 rfl (lv_at hl 0 rfl) ?_
  refine lv_sipush (v := 3100) hx hb dX14_init_203 (by decide) ?_
  clear hsz_238 htt_238 hrc_238 hrs_238
  have hsz_260 := hh_258.2.2.2.2.2.1
  have htt_260 := hh_258.2.2.2.2.2.2.1
  refine j7_newiK hx hb hK hh_258 hB (atype := .int) (ty := .int) (htw (.arrayClass .int) (jWr_3 _ (List.mem_of_getElem? (i := 20) rfl))) rfl rfl (fun _ h => h) hB112 1 rfl (by decide) (by decide) hbs (x := 3100) (by decide) (by omega) (fun j => by first | trivial | decide | rfl | exact Or.inl rfl | exact Or.inr (Or.inl (by decide)) | (refine ⟨?_, ?_⟩ <;> decide)) (by rw [hRc]; omega) (by rw [hRs]; omega) dX14_init_206 (fun H_260 hfr_260 hh_260 => ?_)
  have hh_260 : jSt (dC, dI) B base G0 (va_up G_249 H_258.size (some (112, 3100))) EX14_initW s.heap (((((((((((((((((((((((((((0 + 1) + 1) + 1) + 1) + 1) + (1)) + 1) + (1)) + 1) + 1) + 1) + 1) + 1) + 1) + 1) + 1) + 1) + 1) + 1) + 1) + 1) + (6)) + 1) + (6)) + 1) + (6)) + 1) (((((((((((((((((((((((((((0 + 4000) + 20000) + 100000) + 3300) + 4) + (16)) + 4) + (16)) + 3100) + 3100) + 3100) + 3100) + 3100) + 3100) + 3100) + 3100) + 3100) + 3300) + 20) + 3) + 11) + (1700)) + 11) + (1700)) + 11) + (1700)) + 3100) [(H_46.size, 0, 3, .int qc_53), (H_46.size, 0, 0, .ref xa_53), (H_32.size, 0, 3, .int qc_39), (H_32.size, 0, 0, .ref xa_39)] [(H_129.size, 123, 3100, ca 1, (fun _ => 0)), (H_113.size, 122, 3100, ca 1, (fun _ => 0)), (H_23.size, 110, 3300, ca 1, (fun _ => 0))] [([(201, 0)], jQc dC dI (ca 4) H_185.size 3 (va_up (va_up (va_up (fun _ => none) 0 (some H_187.size)) 1 (some H_208.size)) 2 (some H_227.size))), (jFz9, jDZ dC dI G_249)] H_260 locs_258 := hh_260
  have hZ_260 : jN14 G_249 (va_up G_249 H_258.size (some (112, 3100))) := jN14.new (by decide)
  have hN_260 : (jNk [1, 2, 3, 4, 5, 6, 7, 8, 9, 10, 11, 12, 13, 17, 175]) G_249 (va_up G_249 H_258.size (some (112, 3100))) := jNk.new (by decide)
  have hgn_260 : (va_up G_249 H_258.size (some (112, 3100))) H_258.size = some (112, 3100) := jUp_self
  have hle_260 : jLe G_249 (va_up G_249 H_258.size (some (112, 3100))) := jLe.new hh_258.2.1.fresh
  have hke_260 : jKe G_249 (va_up G_249 H_258.size (some (112, 3100))) H_258 H_260 := jKe.new hfr_260
  have hsy_260 : s.heap.size ≤ H_258.size := hh_258.1.1
  generalize (va_up G_249 H_258.size (some (112, 3100))) = G_260 at hN_260 hgn_260 hle_260 hke_260 hh_260 hZ_260
  clear hh_258
  have hNn_260 : (jNk [1, 2, 3, 4, 5, 6, 7, 8, 9, 10, 11, 12, 13, 17, 175]) G0 G_260 := (hNn_249).tr hN_260
  have hg_261 := hle_260 _ _ hg_252
  have hg_262 := hle_260 _ _ hg_253
  have hkp_263 := hkp_259.tr hke_260
  have hraw_264n := hke_260.nr hraw_258.lt hrn_251
  have hraw_264 := hraw_258.kept (hke_260.1 _ hraw_258.lt)
  try have hz14_260 : jN14 G0 G_260 := (hz14_249).tr hZ_260
  have hd_266 := jDZ.grow (hh_260.iv 1 rfl) hle_260 hZ_260
  have hh_267 := hh_260.sub (L1 := [(H_46.size, 0, 3, .int qc_53), (H_46.size, 0, 0, .ref xa_53), (H_32.size, 0, 3, .int qc_39), (H_32.size, 0, 0, .ref xa_39)]) [0, 1, 2, 3] rfl (M1 := [(H_129.size, 123, 3100, ca 1, (fun _ => 0)), (H_113.size, 122, 3100, ca 1, (fun _ => 0)), (H_23.size, 110, 3300, ca 1, (fun _ => 0))]) [0, 1, 2] rfl (I1 := [([(201, 0)], jQc dC dI (ca 4) H_185.size 3 (va_up (va_up (va_up (fun _ => none) 0 (some H_187.size)) 1 (some H_208.size)) 2 (some H_227.size)))]) [0] rfl
  clear hh_260
  have hh_268 := hh_267.addI (jDZ.ie hd_266)
  clear hh_267
  refine j7_putRF hx hb hown hK hh_268 hB hAp hraw_264 hraw_264n hbr0 (C := RX14) (T := TX14) (N := 74) rfl (i := 43) (by decide) (Nat.le_of_ble_eq_true rfl) hly_16_43 rfl hin2 rfl hlk_78 (ty := (.array .int)) (v := .ref H_258.size) (by decide +kernel) rfl rfl dX14_init_208 (fun H_269 locs_269 hraw_269 hr_269 hh_269 => ?_)
  have hraw_269 : va_at (dC, dI) vwCl (r0, .inr (16, [.ref s.heap.size, .int 0, .ref H_7.size, .int 0, .int 0, .ref H_15.size, .int 0, .int 0, .int 0, .ref H_23.size, .int 0, .int 0, .int 0, .ref H_32.size, .ref H_46.size, .int (-1), .int 0, .ref H_63.size, .ref H_73.size, .ref H_83.size, .ref H_93.size, .ref H_103.size, .ref H_113.size, .ref H_129.size, .ref H_145.size, .ref H_155.size, .int 0, .ref H_165.size, .int 0, .int 0, .int 0, .int 0, .int 0, .int 0, .int 0, .int 0, .int 0, .int 0, .ref H_175.size, .int 0, .int 0, .ref H_185.size, .int 0, .ref H_258.size, .int 0, .null, .null, .null, .int 0, .null, .null, .null, .null, .null, .null, .null, .null, .null, .null, .null, .null, .null, .null, .null, .int 0, .int 0, .int 0, .null, .null, .null, .int 0, .null, .null, .null])) H_269 := hraw_269
  have hkp_270 := hkp_263.put hr_269
  clear hh_268
  refine lv_aload_n hx hb dX14_init_211 rfl (lv_at hl 0 rfl) ?_
  refine lv_sipush (v := 1500) hx hb dX14_init_212 (by decide) ?_
  clear hsz_260 htt_260
  have hsz_271 := hh_269.2.2.2.2.2.1
  have htt_271 := hh_269.2.2.2.2.2.2.1
  refine j7_newiK hx hb hK hh_269 hB (atype := .int) (ty := .int) (htw (.arrayClass .int) (jWr_3 _ (List.mem_of_getElem? (i := 20) rfl))) rfl rfl (fun _ h => h) hB101 1 rfl (by decide) (by decide) hbs (x := 1500) (by decide) (by omega) (fun j => by first | trivial | decide | rfl | exact Or.inl rfl | exact Or.inr (Or.inl (by decide)) | (refine ⟨?_, ?_⟩ <;> decide)) (by rw [hRc]; omega) (by rw [hRs]; omega) dX14_init_215 (fun H_271 hfr_271 hh_271 => ?_)
  have hh_271 : jSt (dC, dI) B base G0 (va_up G_260 H_269.size (some (101, 1500))) EX14_initW s.heap ((((((((((((((((((((((((((((0 + 1) + 1) + 1) + 1) + 1) + (1)) + 1) + (1)) + 1) + 1) + 1) + 1) + 1) + 1) + 1) + 1) + 1) + 1) + 1) + 1) + 1) + (6)) + 1) + (6)) + 1) + (6)) + 1) + 1) ((((((((((((((((((((((((((((0 + 4000) + 20000) + 100000) + 3300) + 4) + (16)) + 4) + (16)) + 3100) + 3100) + 3100) + 3100) + 3100) + 3100) + 3100) + 3100) + 3100) + 3300) + 20) + 3) + 11) + (1700)) + 11) + (1700)) + 11) + (1700)) + 3100) + 1500) [(H_46.size, 0, 3, .int qc_53), (H_46.size, 0, 0, .ref xa_53), (H_32.size, 0, 3, .int qc_39), (H_32.size, 0, 0, .ref xa_39)] [(H_129.size, 123, 3100, ca 1, (fun _ => 0)), (H_113.size, 122, 3100, ca 1, (fun _ => 0)), (H_23.size, 110, 3300, ca 1, (fun _ => 0))] [(jFz9, jDZ dC dI G_260), ([(201, 0)], jQc dC dI (ca 4) H_185.size 3 (va_up (va_up (va_up (fun _ => none) 0 (some H_187.size)) 1 (some H_208.size)) 2 (some H_227.size)))] H_271 locs_269 := hh_271
  have hZ_271 : jN14 G_260 (va_up G_260 H_269.size (some (101, 1500))) := jN14.new (by decide)
  have hN_271 : (jNk [1, 2, 3, 4, 5, 6, 7, 8, 9, 10, 11, 12, 13, 17, 175]) G_260 (va_up G_260 H_269.size (some (101, 1500))) := jNk.new (by decide)
  have hgn_271 : (va_up G_260 H_269.size (some (101, 1500))) H_269.size = some (101, 1500) := jUp_self
  have hle_271 : jLe G_260 (va_up G_260 H_269.size (some (101, 1500))) := jLe.new hh_269.2.1.fresh
  have hke_271 : jKe G_260 (va_up G_260 H_269.size (some (101, 1500))) H_269 H_271 := jKe.new hfr_271
  have hsy_271 : s.heap.size ≤ H_269.size := hh_269.1.1
  generalize (va_up G_260 H_269.size (some (101, 1500))) = G_271 at hN_271 hgn_271 hle_271 hke_271 hh_271 hZ_271
  clear hh_269
  have hNn_271 : (jNk [1, 2, 3, 4, 5, 6, 7, 8, 9, 10, 11, 12, 13, 17, 175]) G0 G_271 := (hNn_260).tr hN_271
  have hg_272 := hle_271 _ _ hg_261
  have hg_273 := hle_271 _ _ hg_262
  have hkp_274 := hkp_270.tr hke_271
  have hraw_275n := hke_271.nr hraw_269.lt hraw_264n
  have hraw_275 := hraw_269.kept (hke_271.1 _ hraw_269.lt)
  try have hz14_271 : jN14 G0 G_271 := (hz14_260).tr hZ_271
  have hd_276 := jDZ.grow (hh_271.iv 0 rfl) hle_271 hZ_271
  have hh_277 := hh_271.sub (L1 := [(H_46.size, 0, 3, .int qc_53), (H_46.size, 0, 0, .ref xa_53), (H_32.size, 0, 3, .int qc_39), (H_32.size, 0, 0, .ref xa_39)]) [0, 1, 2, 3] rfl (M1 := [(H_129.size, 123, 3100, ca 1, (fun _ => 0)), (H_113.size, 122, 3100, ca 1, (fun _ => 0)), (H_23.size, 110, 3300, ca 1, (fun _ => 0))]) [0, 1, 2] rfl (I1 := [([(201, 0)], jQc dC dI (ca 4) H_185.size 3 (va_up (va_up (va_up (fun _ => none) 0 (some H_187.size)) 1 (some H_208.size)) 2 (some H_227.size)))]) [1] rfl
  clear hh_271
  have hh_278 := hh_277.addI (jDZ.ie hd_276)
  clear hh_277
  refine j7_putRF hx hb hown hK hh_278 hB hAp hraw_275 hraw_275n hbr0 (C := RX14) (T := TX14) (N := 74) rfl (i := 45) (by decide) (Nat.le_of_ble_eq_true rfl) hly_16_45 rfl hin2 rfl hlk_81 (ty := (.array .int)) (v := .ref H_269.size) (by decide +kernel) rfl rfl dX14_init_217 (fun H_280 locs_280 hraw_280 hr_280 hh_280 => ?_)
  have hraw_280 : va_at (dC, dI) vwCl (r0, .inr (16, [.ref s.heap.size, .int 0, .ref H_7.size, .int 0, .int 0, .ref H_15.size, .int 0, .int 0, .int 0, .ref H_23.size, .int 0, .int 0, .int 0, .ref H_32.size, .ref H_46.size, .int (-1), .int 0, .ref H_63.size, .ref H_73.size, .ref H_83.size, .ref H_93.size, .ref H_103.size, .ref H_113.size, .ref H_129.size, .ref H_145.size, .ref H_155.size, .int 0, .ref H_165.size, .int 0, .int 0, .int 0, .int 0, .int 0, .int 0, .int 0, .int 0, .int 0, .int 0, .ref H_175.size, .int 0, .int 0, .ref H_185.size, .int 0, .ref H_258.size, .int 0, .ref H_269.size, .null, .null, .int 0, .null, .null, .null, .null, .null, .null, .null, .null, .null, .null, .null, .null, .null, .null, .null, .int 0, .int 0, .int 0, .null, .null, .null, .int 0, .null, .null, .null])) H_280 := hraw_280
  have hkp_281 := hkp_274.put hr_280
  clear hh_278
  refine lv_aload_n hx hb dX14_init_220 rfl (lv_at hl 0 rfl) ?_
  have hlt_d2 : H_227.size < H_280.size := (hh_280.ab ((((hle_249).tr hle_260).tr hle_271) _ _ hgc_238)).2
  clear hsz_271 htt_271
  have hsz_282 := hh_280.2.2.2.2.2.1
  have htt_282 := hh_280.2.2.2.2.2.2.1
  refine j7_newo (k := 14) (C := RX12) (T := TX12) (N := 11) (fs := [.null, .int 0, .int 0, .null, .int 0, .int 0, .null, .null, .null, .int 0, .null]) hx hb htw jWc_wsX120 (fun k => ([(.array .int), .int, .int, (.array .int), .int, .int, (.array .int), (.array .int), (.array .int), .int, (.array .int)] : List FieldType).getD k .int) (by decide +kernel) hown (htw (.classLink RX14 71 RX12) (jWr_11 _ (List.mem_of_getElem? (i := 16) rfl))) (htw (.instantiable RX12 11) (jWr_11 _ (List.mem_of_getElem? (i := 17) rfl))) (htw (.initialized RX12) (jWr_11 _ (List.mem_of_getElem? (i := 18) rfl))) hK rfl (fun j hj => by rcases (by omega : j = 0 ∨ j = 1 ∨ j = 2 ∨ j = 3 ∨ j = 4 ∨ j = 5 ∨ j = 6 ∨ j = 7 ∨ j = 8 ∨ j = 9 ∨ j = 10) with rfl | rfl | rfl | rfl | rfl | rfl | rfl | rfl | rfl | rfl | rfl <;> rfl) hh_280 hB (by rw [hRc]; omega) (by rw [hRs]; omega) dX14_init_221 (fun H_282 hraw_282 hfr_282 hnr_282 hh_282 => ?_)
  have hlt_283 := hraw_280.lt
  have hke_282 : jKe G_271 G_271 H_280 H_282 := jKe.raw hfr_282
  have hbr_282 : base ≤ H_280.size := Nat.le_trans hbs hh_280.1.1
  have hsy_282 : s.heap.size ≤ H_280.size := hh_280.1.1
  clear hh_280
  have hkp_284 := hkp_281.tr hke_282
  have hraw_285n := hke_282.nr hraw_280.lt hraw_275n
  have hraw_285 := hraw_280.kept (hke_282.1 _ hraw_280.lt)
  have hne_286 : r0 ≠ H_280.size := Nat.ne_of_lt hlt_283
  refine lv_dup hx hb dX14_init_224 rfl ?_
  clear hsz_282 htt_282
  have hsz_287 := hh_282.2.2.2.2.2.1
  have htt_287 := hh_282.2.2.2.2.2.2.1
  refine W.room (fun hrc_287 hrs_287 => ?_)
  refine va_callv (A0 := jA base) (H0 := s.heap) (va_runIN (As := []) (rest := [.ref H_280.size, .ref r0]) ⟨hx, hb, hml, hown, hts⟩ (uX12_initE l dC dI ca base B hB hAp hB14 hB190 hB191 hB192 hB193 hB194 hB195 G_271 H_282 H_280.size LC LS) ⟨va_cnB 0 hts (jgW (jWr_13 _ (List.mem_of_getElem? (i := 21) rfl))) rfl rfl rfl (hG.2.2.1 RX14 73 yX12_init "ProofServerModel" (List.mem_of_getElem? (i := 1726) (by decide +kernel))) (htw (.initialized RX12) (jWr_11 _ (List.mem_of_getElem? (i := 18) rfl))) (by decide +kernel) ⟨by rw [← hR]; exact Nat.le_of_ble_eq_true rfl, by rw [← hR]; exact Nat.le_of_ble_eq_true rfl⟩, rfl, htw (.instanceMethod yX12_init) (jWr_13 _ (List.mem_of_getElem? (i := 20) rfl))⟩ ⟨fun a U g mk q => by obtain ⟨q0, q1, q2, qK, q10, q11, q12, q13, q14, q15⟩ := q; exact ⟨q0, q1, q2, jG.calling g mk a qK, q10, q11, q12, q13, q14, q15⟩, fun U hU hW => ⟨rfl, hU, hh_282.2.1, hG.step hW hU hh_282.1, hraw_282, hnr_282, hbr_282, jP.nil, (hh_282.2.2.2.2.2.2.2.2.sub (L1 := [(jFz9, jDZ dC dI G_271)]) [0] rfl), (by omega), (by omega), trivial⟩⟩ rfl rfl hl.1 rfl (lv_room (Nat.le_of_ble_eq_true rfl)) dX14_init_225 ⟨by rw [hRc]; omega, by rw [hRs]; omega⟩) hh_282.1 (fun q _ h => h) (fun q h => h) (fun u_287 t_287 H_287 locs_287 ht_287 hvm_287 hr_288 hb_287 hz_287 hk_287 hS_287 => ?_)
  rw [ht_287] at hb_287
  obtain ⟨G_287, rfl⟩ : ∃ z, z = u_287 := ⟨_, rfl⟩
  try simp only at hb_287
  obtain ⟨⟨hb_2871, hb_2872, hb_2873, hb_2874, hb_2875, hb_2876⟩, hN_287, hgc_287, hbX_287, hbE_287⟩ := hb_287
  have hN_287 : (jNk [1, 2, 3, 4, 5, 6, 7, 8, 9, 10, 11, 12, 13, 17, 175]) G_271 G_287 := hN_287.sub (by decide)
  have hh_287 : jSt (dC, dI) B base G0 G_287 EX14_initW s.heap ((((((((((((((((((((((((((((((0 + 1) + 1) + 1) + 1) + 1) + (1)) + 1) + (1)) + 1) + 1) + 1) + 1) + 1) + 1) + 1) + 1) + 1) + 1) + 1) + 1) + 1) + (6)) + 1) + (6)) + 1) + (6)) + 1) + 1) + 1) + (6)) ((((((((((((((((((((((((((((((0 + 4000) + 20000) + 100000) + 3300) + 4) + (16)) + 4) + (16)) + 3100) + 3100) + 3100) + 3100) + 3100) + 3100) + 3100) + 3100) + 3100) + 3300) + 20) + 3) + 11) + (1700)) + 11) + (1700)) + 11) + (1700)) + 3100) + 1500) + 11) + (1700)) [(H_46.size, 0, 3, .int qc_53), (H_46.size, 0, 0, .ref xa_53), (H_32.size, 0, 3, .int qc_39), (H_32.size, 0, 0, .ref xa_39)] [(H_129.size, 123, 3100, ca 1, (fun _ => 0)), (H_113.size, 122, 3100, ca 1, (fun _ => 0)), (H_23.size, 110, 3300, ca 1, (fun _ => 0))] [([(201, 0)], jQc dC dI (ca 4) H_185.size 3 (va_up (va_up (va_up (fun _ => none) 0 (some H_187.size)) 1 (some H_208.size)) 2 (some H_227.size)))] H_287 locs_287 := (hh_282.callG hb_2871 hb_2872 hb_2873 hb_2874 hb_2875 hS_287 rfl (L1 := [(H_46.size, 0, 3, .int qc_53), (H_46.size, 0, 0, .ref xa_53), (H_32.size, 0, 3, .int qc_39), (H_32.size, 0, 0, .ref xa_39)]) [0, 1, 2, 3] rfl rfl (M1 := [(H_129.size, 123, 3100, ca 1, (fun _ => 0)), (H_113.size, 122, 3100, ca 1, (fun _ => 0)), (H_23.size, 110, 3300, ca 1, (fun _ => 0))]) [0, 1, 2] rfl rfl (I1 := [([(201, 0)], jQc dC dI (ca 4) H_185.size 3 (va_up (va_up (va_up (fun _ => none) 0 (some H_187.size)) 1 (some H_208.size)) 2 (some H_227.size)))]) [1] rfl rfl).more hb_2876
  have hNn_287 : (jNk [1, 2, 3, 4, 5, 6, 7, 8, 9, 10, 11, 12, 13, 17, 175]) G0 G_287 := (hNn_271).tr hN_287
  have hg_289 := hb_2872 _ _ hg_272
  have hg_290 := hb_2872 _ _ hg_273
  have hh_292 := hh_287.addIs hbE_287
  try simp only at hr_288
  have hkp_293 := hkp_284.in hbX_287 hsy_282
  have hraw_294x := hbX_287.ke hraw_285.lt hne_286 hraw_285n
  have hraw_294 := hraw_285.kept hraw_294x.1
  refine j7_putRF hx hb hown hK hh_292 hB hAp hraw_294 hraw_294x.2 hbr0 (C := RX14) (T := TX14) (N := 74) rfl (i := 46) (by decide) (Nat.le_of_ble_eq_true rfl) hly_16_46 rfl hin2 rfl hlk_84 (ty := (.object "ProofServerModel$Document")) (v := .ref H_280.size) (by decide +kernel) rfl rfl dX14_init_228 (fun H_295 locs_295 hraw_295 hr_295 hh_295 => ?_)
  have hraw_295 : va_at (dC, dI) vwCl (r0, .inr (16, [.ref s.heap.size, .int 0, .ref H_7.size, .int 0, .int 0, .ref H_15.size, .int 0, .int 0, .int 0, .ref H_23.size, .int 0, .int 0, .int 0, .ref H_32.size, .ref H_46.size, .int (-1), .int 0, .ref H_63.size, .ref H_73.size, .ref H_83.size, .ref H_93.size, .ref H_103.size, .ref H_113.size, .ref H_129.size, .ref H_145.size, .ref H_155.size, .int 0, .ref H_165.size, .int 0, .int 0, .int 0, .int 0, .int 0, .int 0, .int 0, .int 0, .int 0, .int 0, .ref H_175.size, .int 0, .int 0, .ref H_185.size, .int 0, .ref H_258.size, .int 0, .ref H_269.size, .ref H_280.size, .null, .int 0, .null, .null, .null, .null, .null, .null, .null, .null, .null, .null, .null, .null, .null, .null, .null, .int 0, .int 0, .int 0, .null, .null, .null, .int 0, .null, .null, .null])) H_295 := hraw_295
  have hkp_296 := hkp_293.put hr_295
  clear hh_292
  refine lv_aload_n hx hb dX14_init_231 rfl (lv_at hl 0 rfl) ?_
  have hlt_ol : H_280.size < H_295.size := (hh_295.ab ((jLe.rf) _ _ hgc_287)).2
  clear hsz_287 htt_287 hrc_287 hrs_287
  have hsz_297 := hh_295.2.2.2.2.2.1
  have htt_297 := hh_295.2.2.2.2.2.2.1
  refine j7_newo (k := 14) (C := RX12) (T := TX12) (N := 11) (fs := [.null, .int 0, .int 0, .null, .int 0, .int 0, .null, .null, .null, .int 0, .null]) hx hb htw jWc_wsX120 (fun k => ([(.array .int), .int, .int, (.array .int), .int, .int, (.array .int), (.array .int), (.array .int), .int, (.array .int)] : List FieldType).getD k .int) (by decide +kernel) hown (htw (.classLink RX14 71 RX12) (jWr_11 _ (List.mem_of_getElem? (i := 16) rfl))) (htw (.instantiable RX12 11) (jWr_11 _ (List.mem_of_getElem? (i := 17) rfl))) (htw (.initialized RX12) (jWr_11 _ (List.mem_of_getElem? (i := 18) rfl))) hK rfl (fun j hj => by rcases (by omega : j = 0 ∨ j = 1 ∨ j = 2 ∨ j = 3 ∨ j = 4 ∨ j = 5 ∨ j = 6 ∨ j = 7 ∨ j = 8 ∨ j = 9 ∨ j = 10) with rfl | rfl | rfl | rfl | rfl | rfl | rfl | rfl | rfl | rfl | rfl <;> rfl) hh_295 hB (by rw [hRc]; omega) (by rw [hRs]; omega) dX14_init_232 (fun H_297 hraw_297 hfr_297 hnr_297 hh_297 => ?_)
  have hlt_298 := hraw_295.lt
  have hke_297 : jKe G_287 G_287 H_295 H_297 := jKe.raw hfr_297
  have hbr_297 : base ≤ H_295.size := Nat.le_trans hbs hh_295.1.1
  have hsy_297 : s.heap.size ≤ H_295.size := hh_295.1.1
  clear hh_295
  have hkp_299 := hkp_296.tr hke_297
  have hraw_300n := hke_297.nr hraw_295.lt hraw_294x.2
  have hraw_300 := hraw_295.kept (hke_297.1 _ hraw_295.lt)
  have hne_301 : r0 ≠ H_295.size := Nat.ne_of_lt hlt_298
  refine lv_dup hx hb dX14_init_235 rfl ?_
  clear hsz_297 htt_297
  have hsz_302 := hh_297.2.2.2.2.2.1
  have htt_302 := hh_297.2.2.2.2.2.2.1
  refine W.room (fun hrc_302 hrs_302 => ?_)
  refine va_callv (A0 := jA base) (H0 := s.heap) (va_runIN (As := []) (rest := [.ref H_295.size, .ref r0]) ⟨hx, hb, hml, hown, hts⟩ (uX12_initE l dC dI ca base B hB hAp hB14 hB190 hB191 hB192 hB193 hB194 hB195 G_287 H_297 H_295.size LC LS) ⟨va_cnB 0 hts (jgW (jWr_13 _ (List.mem_of_getElem? (i := 21) rfl))) rfl rfl rfl (hG.2.2.1 RX14 73 yX12_init "ProofServerModel" (List.mem_of_getElem? (i := 1726) (by decide +kernel))) (htw (.initialized RX12) (jWr_11 _ (List.mem_of_getElem? (i := 18) rfl))) (by decide +kernel) ⟨by rw [← hR]; exact Nat.le_of_ble_eq_true rfl, by rw [← hR]; exact Nat.le_of_ble_eq_true rfl⟩, rfl, htw (.instanceMethod yX12_init) (jWr_13 _ (List.mem_of_getElem? (i := 20) rfl))⟩ ⟨fun a U g mk q => by obtain ⟨q0, q1, q2, qK, q10, q11, q12, q13, q14, q15⟩ := q; exact ⟨q0, q1, q2, jG.calling g mk a qK, q10, q11, q12, q13, q14, q15⟩, fun U hU hW => ⟨rfl, hU, hh_297.2.1, hG.step hW hU hh_297.1, hraw_297, hnr_297, hbr_297, jP.nil, (hh_297.2.2.2.2.2.2.2.2.sub (L1 := [(jFz9, jDZ dC dI G_287)]) [0] rfl), (by omega), (by omega), trivial⟩⟩ rfl rfl hl.1 rfl (lv_room (Nat.le_of_ble_eq_true rfl)) dX14_init_236 ⟨by rw [hRc]; omega, by rw [hRs]; omega⟩) hh_297.1 (fun q _ h => h) (fun q h => h) (fun u_302 t_302 H_302 locs_302 ht_302 hvm_302 hr_303 hb_302 hz_302 hk_302 hS_302 => ?_)
  rw [ht_302] at hb_302
  obtain ⟨G_302, rfl⟩ : ∃ z, z = u_302 := ⟨_, rfl⟩
  try simp only at hb_302
  obtain ⟨⟨hb_3021, hb_3022, hb_3023, hb_3024, hb_3025, hb_3026⟩, hN_302, hgc_302, hbX_302, hbE_302⟩ := hb_302
  have hN_302 : (jNk [1, 2, 3, 4, 5, 6, 7, 8, 9, 10, 11, 12, 13, 17, 175]) G_287 G_302 := hN_302.sub (by decide)
  have hh_302 : jSt (dC, dI) B base G0 G_302 EX14_initW s.heap ((((((((((((((((((((((((((((((((0 + 1) + 1) + 1) + 1) + 1) + (1)) + 1) + (1)) + 1) + 1) + 1) + 1) + 1) + 1) + 1) + 1) + 1) + 1) + 1) + 1) + 1) + (6)) + 1) + (6)) + 1) + (6)) + 1) + 1) + 1) + (6)) + 1) + (6)) ((((((((((((((((((((((((((((((((0 + 4000) + 20000) + 100000) + 3300) + 4) + (16)) + 4) + (16)) + 3100) + 3100) + 3100) + 3100) + 3100) + 3100) + 3100) + 3100) + 3100) + 3300) + 20) + 3) + 11) + (1700)) + 11) + (1700)) + 11) + (1700)) + 3100) + 1500) + 11) + (1700)) + 11) + (1700)) [(H_46.size, 0, 3, .int qc_53), (H_46.size, 0, 0, .ref xa_53), (H_32.size, 0, 3, .int qc_39), (H_32.size, 0, 0, .ref xa_39)] [(H_129.size, 123, 3100, ca 1, (fun _ => 0)), (H_113.size, 122, 3100, ca 1, (fun _ => 0)), (H_23.size, 110, 3300, ca 1, (fun _ => 0))] [([(201, 0)], jQc dC dI (ca 4) H_185.size 3 (va_up (va_up (va_up (fun _ => none) 0 (some H_187.size)) 1 (some H_208.size)) 2 (some H_227.size)))] H_302 locs_302 := (hh_297.callG hb_3021 hb_3022 hb_3023 hb_3024 hb_3025 hS_302 rfl (L1 := [(H_46.size, 0, 3, .int qc_53), (H_46.size, 0, 0, .ref xa_53), (H_32.size, 0, 3, .int qc_39), (H_32.size, 0, 0, .ref xa_39)]) [0, 1, 2, 3] rfl rfl (M1 := [(H_129.size, 123, 3100, ca 1, (fun _ => 0)), (H_113.size, 122, 3100, ca 1, (fun _ => 0)), (H_23.size, 110, 3300, ca 1, (fun _ => 0))]) [0, 1, 2] rfl rfl (I1 := [([(201, 0)], jQc dC dI (ca 4) H_185.size 3 (va_up (va_up (va_up (fun _ => none) 0 (some H_187.size)) 1 (some H_208.size)) 2 (some H_227.size)))]) [1] rfl rfl).more hb_3026
  have hNn_302 : (jNk [1, 2, 3, 4, 5, 6, 7, 8, 9, 10, 11, 12, 13, 17, 175]) G0 G_302 := (hNn_287).tr hN_302
  have hg_304 := hb_3022 _ _ hg_289
  have hg_305 := hb_3022 _ _ hg_290
  have hh_307 := hh_302.addIs hbE_302
  try simp only at hr_303
  have hkp_308 := hkp_299.in hbX_302 hsy_297
  have hraw_309x := hbX_302.ke hraw_300.lt hne_301 hraw_300n
  have hraw_309 := hraw_300.kept hraw_309x.1
  refine j7_putRF hx hb hown hK hh_307 hB hAp hraw_309 hraw_309x.2 hbr0 (C := RX14) (T := TX14) (N := 74) rfl (i := 47) (by decide) (Nat.le_of_ble_eq_true rfl) hly_16_47 rfl hin2 rfl hlk_88 (ty := (.object "ProofServerModel$Document")) (v := .ref H_295.size) (by decide +kernel) rfl rfl dX14_init_239 (fun H_310 locs_310 hraw_310 hr_310 hh_310 => ?_)
  have hraw_310 : va_at (dC, dI) vwCl (r0, .inr (16, [.ref s.heap.size, .int 0, .ref H_7.size, .int 0, .int 0, .ref H_15.size, .int 0, .int 0, .int 0, .ref H_23.size, .int 0, .int 0, .int 0, .ref H_32.size, .ref H_46.size, .int (-1), .int 0, .ref H_63.size, .ref H_73.size, .ref H_83.size, .ref H_93.size, .ref H_103.size, .ref H_113.size, .ref H_129.size, .ref H_145.size, .ref H_155.size, .int 0, .ref H_165.size, .int 0, .int 0, .int 0, .int 0, .int 0, .int 0, .int 0, .int 0, .int 0, .int 0, .ref H_175.size, .int 0, .int 0, .ref H_185.size, .int 0, .ref H_258.size, .int 0, .ref H_269.size, .ref H_280.size, .ref H_295.size, .int 0, .null, .null, .null, .null, .null, .null, .null, .null, .null, .null, .null, .null, .null, .null, .null, .int 0, .int 0, .int 0, .null, .null, .null, .int 0, .null, .null, .null])) H_310 := hraw_310
  have hkp_311 := hkp_308.put hr_310
  clear hh_307
  refine lv_aload_n hx hb dX14_init_242 rfl (lv_at hl 0 rfl) ?_
  refine lv_bipush (v := 12) hx hb dX14_init_243 (by decide) ?_
  clear hsz_302 htt_302 hrc_302 hrs_302
  have hsz_312 := hh_310.2.2.2.2.2.1
  have htt_312 := hh_310.2.2.2.2.2.2.1
  have hsy_312 : s.heap.size ≤ H_310.size := hh_310.1.1
  refine j7_newqK hx hb hown (htw (.classLink RX14 71 RX12) (jWr_11 _ (List.mem_of_getElem? (i := 16) rfl))) hK6.1 hK2 hh_310 hB hB202 0 rfl (by decide) hbs (x := 12) (by decide) (by omega) (fun _ => Or.inl rfl) (by rw [hRc]; omega) (by rw [hRs]; omega) dX14_init_245 (fun H_312 hfr_312 hh_312 hqn_312 => ?_)
  have hh_312 : jSt (dC, dI) B base G0 (va_up G_302 H_310.size (some (202, 12))) EX14_initW s.heap (((((((((((((((((((((((((((((((((0 + 1) + 1) + 1) + 1) + 1) + (1)) + 1) + (1)) + 1) + 1) + 1) + 1) + 1) + 1) + 1) + 1) + 1) + 1) + 1) + 1) + 1) + (6)) + 1) + (6)) + 1) + (6)) + 1) + 1) + 1) + (6)) + 1) + (6)) + 1) (((((((((((((((((((((((((((((((((0 + 4000) + 20000) + 100000) + 3300) + 4) + (16)) + 4) + (16)) + 3100) + 3100) + 3100) + 3100) + 3100) + 3100) + 3100) + 3100) + 3100) + 3300) + 20) + 3) + 11) + (1700)) + 11) + (1700)) + 11) + (1700)) + 3100) + 1500) + 11) + (1700)) + 11) + (1700)) + 12) [(H_46.size, 0, 3, .int qc_53), (H_46.size, 0, 0, .ref xa_53), (H_32.size, 0, 3, .int qc_39), (H_32.size, 0, 0, .ref xa_39)] [(H_129.size, 123, 3100, ca 1, (fun _ => 0)), (H_113.size, 122, 3100, ca 1, (fun _ => 0)), (H_23.size, 110, 3300, ca 1, (fun _ => 0))] [(jFz9, jDZ dC dI G_302), ([(201, 0)], jQc dC dI (ca 4) H_185.size 3 (va_up (va_up (va_up (fun _ => none) 0 (some H_187.size)) 1 (some H_208.size)) 2 (some H_227.size)))] H_312 locs_310 := hh_312
  have hZ_312 : jN14 G_302 (va_up G_302 H_310.size (some (202, 12))) := jN14.new (by decide)
  have hN_312 : (jNk [1, 2, 3, 4, 5, 6, 7, 8, 9, 10, 11, 12, 13, 17, 175]) G_302 (va_up G_302 H_310.size (some (202, 12))) := jNk.new (by decide)
  have hgn_312 : (va_up G_302 H_310.size (some (202, 12))) H_310.size = some (202, 12) := jUp_self
  have hle_312 : jLe G_302 (va_up G_302 H_310.size (some (202, 12))) := jLe.new hh_310.2.1.fresh
  have hke_312 : jKe G_302 (va_up G_302 H_310.size (some (202, 12))) H_310 H_312 := jKe.new hfr_312
  have hsy_312 : s.heap.size ≤ H_310.size := hh_310.1.1
  generalize (va_up G_302 H_310.size (some (202, 12))) = G_312 at hN_312 hgn_312 hle_312 hke_312 hh_312 hZ_312
  clear hh_310
  have hNn_312 : (jNk [1, 2, 3, 4, 5, 6, 7, 8, 9, 10, 11, 12, 13, 17, 175]) G0 G_312 := (hNn_302).tr hN_312
  have hg_313 := hle_312 _ _ hg_304
  have hg_314 := hle_312 _ _ hg_305
  have hkp_315 := hkp_311.tr hke_312
  have hraw_316n := hke_312.nr hraw_310.lt hraw_309x.2
  have hraw_316 := hraw_310.kept (hke_312.1 _ hraw_310.lt)
  try have hz14_312 : jN14 G0 G_312 := (hz14_271).tr hZ_312
  have hd_317 := jDZ.grow (hh_312.iv 0 rfl) hle_312 hZ_312
  have hh_318 := hh_312.sub (L1 := [(H_46.size, 0, 3, .int qc_53), (H_46.size, 0, 0, .ref xa_53), (H_32.size, 0, 3, .int qc_39), (H_32.size, 0, 0, .ref xa_39)]) [0, 1, 2, 3] rfl (M1 := [(H_129.size, 123, 3100, ca 1, (fun _ => 0)), (H_113.size, 122, 3100, ca 1, (fun _ => 0)), (H_23.size, 110, 3300, ca 1, (fun _ => 0))]) [0, 1, 2] rfl (I1 := [([(201, 0)], jQc dC dI (ca 4) H_185.size 3 (va_up (va_up (va_up (fun _ => none) 0 (some H_187.size)) 1 (some H_208.size)) 2 (some H_227.size)))]) [1] rfl
  clear hh_312
  have hh_319 := hh_318.addI (jDZ.ie hd_317)
  clear hh_318
  refine j7_putRF hx hb hown hK hh_319 hB hAp hraw_316 hraw_316n hbr0 (C := RX14) (T := TX14) (N := 74) rfl (i := 49) (by decide) (Nat.le_of_ble_eq_true rfl) hly_16_49 rfl hin2 rfl hlk_91 (ty := (.array (.object "ProofServerModel$Document"))) (v := .ref H_310.size) (by decide +kernel) rfl rfl dX14_init_248 (fun H_321 locs_321 hraw_321 hr_321 hh_321 => ?_)
  have hraw_321 : va_at (dC, dI) vwCl (r0, .inr (16, [.ref s.heap.size, .int 0, .ref H_7.size, .int 0, .int 0, .ref H_15.size, .int 0, .int 0, .int 0, .ref H_23.size, .int 0, .int 0, .int 0, .ref H_32.size, .ref H_46.size, .int (-1), .int 0, .ref H_63.size, .ref H_73.size, .ref H_83.size, .ref H_93.size, .ref H_103.size, .ref H_113.size, .ref H_129.size, .ref H_145.size, .ref H_155.size, .int 0, .ref H_165.size, .int 0, .int 0, .int 0, .int 0, .int 0, .int 0, .int 0, .int 0, .int 0, .int 0, .ref H_175.size, .int 0, .int 0, .ref H_185.size, .int 0, .ref H_258.size, .int 0, .ref H_269.size, .ref H_280.size, .ref H_295.size, .int 0, .ref H_310.size, .null, .null, .null, .null, .null, .null, .null, .null, .null, .null, .null, .null, .null, .null, .int 0, .int 0, .int 0, .null, .null, .null, .int 0, .null, .null, .null])) H_321 := hraw_321
  have hkp_322 := hkp_315.put hr_321
  clear hh_319
  refine lv_aload_n hx hb dX14_init_251 rfl (lv_at hl 0 rfl) ?_
  refine lv_bipush (v := 12) hx hb dX14_init_252 (by decide) ?_
  clear hsz_312 htt_312
  have hsz_323 := hh_321.2.2.2.2.2.1
  have htt_323 := hh_321.2.2.2.2.2.2.1
  refine j7_newiK hx hb hK hh_321 hB (atype := .boolean) (ty := .boolean) (htw (.arrayClass .boolean) (jWr_11 _ (List.mem_of_getElem? (i := 11) rfl))) rfl rfl (fun _ h => h) hB103 3 rfl (by decide) (by decide) hbs (x := 12) (by decide) (by omega) (fun j => by first | trivial | decide | rfl | exact Or.inl rfl | exact Or.inr (Or.inl (by decide)) | (refine ⟨?_, ?_⟩ <;> decide)) (by rw [hRc]; omega) (by rw [hRs]; omega) dX14_init_254 (fun H_323 hfr_323 hh_323 => ?_)
  have hh_323 : jSt (dC, dI) B base G0 (va_up G_312 H_321.size (some (103, 12))) EX14_initW s.heap ((((((((((((((((((((((((((((((((((0 + 1) + 1) + 1) + 1) + 1) + (1)) + 1) + (1)) + 1) + 1) + 1) + 1) + 1) + 1) + 1) + 1) + 1) + 1) + 1) + 1) + 1) + (6)) + 1) + (6)) + 1) + (6)) + 1) + 1) + 1) + (6)) + 1) + (6)) + 1) + 1) ((((((((((((((((((((((((((((((((((0 + 4000) + 20000) + 100000) + 3300) + 4) + (16)) + 4) + (16)) + 3100) + 3100) + 3100) + 3100) + 3100) + 3100) + 3100) + 3100) + 3100) + 3300) + 20) + 3) + 11) + (1700)) + 11) + (1700)) + 11) + (1700)) + 3100) + 1500) + 11) + (1700)) + 11) + (1700)) + 12) + 12) [(H_46.size, 0, 3, .int qc_53), (H_46.size, 0, 0, .ref xa_53), (H_32.size, 0, 3, .int qc_39), (H_32.size, 0, 0, .ref xa_39)] [(H_129.size, 123, 3100, ca 1, (fun _ => 0)), (H_113.size, 122, 3100, ca 1, (fun _ => 0)), (H_23.size, 110, 3300, ca 1, (fun _ => 0))] [(jFz9, jDZ dC dI G_312), ([(201, 0)], jQc dC dI (ca 4) H_185.size 3 (va_up (va_up (va_up (fun _ => none) 0 (some H_187.size)) 1 (some H_208.size)) 2 (some H_227.size)))] H_323 locs_321 := hh_323
  have hZ_323 : jN14 G_312 (va_up G_312 H_321.size (some (103, 12))) := jN14.new (by decide)
  have hN_323 : (jNk [1, 2, 3, 4, 5, 6, 7, 8, 9, 10, 11, 12, 13, 17, 175]) G_312 (va_up G_312 H_321.size (some (103, 12))) := jNk.new (by decide)
  have hgn_323 : (va_up G_312 H_321.size (some (103, 12))) H_321.size = some (103, 12) := jUp_self
  have hle_323 : jLe G_312 (va_up G_312 H_321.size (some (103, 12))) := jLe.new hh_321.2.1.fresh
  have hke_323 : jKe G_312 (va_up G_312 H_321.size (some (103, 12))) H_321 H_323 := jKe.new hfr_323
  have hsy_323 : s.heap.size ≤ H_321.size := hh_321.1.1
  generalize (va_up G_312 H_321.size (some (103, 12))) = G_323 at hN_323 hgn_323 hle_323 hke_323 hh_323 hZ_323
  clear hh_321
  have hNn_323 : (jNk [1, 2, 3, 4, 5, 6, 7, 8, 9, 10, 11, 12, 13, 17, 175]) G0 G_323 := (hNn_312).tr hN_323
  have hg_324 := hle_323 _ _ hg_313
  have hg_325 := hle_323 _ _ hg_314
  have hkp_326 := hkp_322.tr hke_323
  have hraw_327n := hke_323.nr hraw_321.lt hraw_316n
  have hraw_327 := hraw_321.kept (hke_323.1 _ hraw_321.lt)
  try have hz14_323 : jN14 G0 G_323 := (hz14_312).tr hZ_323
  have hd_328 := jDZ.grow (hh_323.iv 0 rfl) hle_323 hZ_323
  have hh_329 := hh_323.sub (L1 := [(H_46.size, 0, 3, .int qc_53), (H_46.size, 0, 0, .ref xa_53), (H_32.size, 0, 3, .int qc_39), (H_32.size, 0, 0, .ref xa_39)]) [0, 1, 2, 3] rfl (M1 := [(H_129.size, 123, 3100, ca 1, (fun _ => 0)), (H_113.size, 122, 3100, ca 1, (fun _ => 0)), (H_23.size, 110, 3300, ca 1, (fun _ => 0))]) [0, 1, 2] rfl (I1 := [([(201, 0)], jQc dC dI (ca 4) H_185.size 3 (va_up (va_up (va_up (fun _ => none) 0 (some H_187.size)) 1 (some H_208.size)) 2 (some H_227.size)))]) [1] rfl
  clear hh_323
  have hh_330 := hh_329.addI (jDZ.ie hd_328)
  clear hh_329
  refine j7_putRF hx hb hown hK hh_330 hB hAp hraw_327 hraw_327n hbr0 (C := RX14) (T := TX14) (N := 74) rfl (i := 50) (by decide) (Nat.le_of_ble_eq_true rfl) hly_16_50 rfl hin2 rfl hlk_94 (ty := (.array .boolean)) (v := .ref H_321.size) (by decide +kernel) rfl rfl dX14_init_256 (fun H_332 locs_332 hraw_332 hr_332 hh_332 => ?_)
  have hraw_332 : va_at (dC, dI) vwCl (r0, .inr (16, [.ref s.heap.size, .int 0, .ref H_7.size, .int 0, .int 0, .ref H_15.size, .int 0, .int 0, .int 0, .ref H_23.size, .int 0, .int 0, .int 0, .ref H_32.size, .ref H_46.size, .int (-1), .int 0, .ref H_63.size, .ref H_73.size, .ref H_83.size, .ref H_93.size, .ref H_103.size, .ref H_113.size, .ref H_129.size, .ref H_145.size, .ref H_155.size, .int 0, .ref H_165.size, .int 0, .int 0, .int 0, .int 0, .int 0, .int 0, .int 0, .int 0, .int 0, .int 0, .ref H_175.size, .int 0, .int 0, .ref H_185.size, .int 0, .ref H_258.size, .int 0, .ref H_269.size, .ref H_280.size, .ref H_295.size, .int 0, .ref H_310.size, .ref H_321.size, .null, .null, .null, .null, .null, .null, .null, .null, .null, .null, .null, .null, .null, .int 0, .int 0, .int 0, .null, .null, .null, .int 0, .null, .null, .null])) H_332 := hraw_332
  have hkp_333 := hkp_326.put hr_332
  clear hh_330
  refine lv_aload_n hx hb dX14_init_259 rfl (lv_at hl 0 rfl) ?_
  refine lv_bipush (v := 12) hx hb dX14_init_260 (by decide) ?_
  clear hsz_323 htt_323
  have hsz_334 := hh_332.2.2.2.2.2.1
  have htt_334 := hh_332.2.2.2.2.2.2.1
  refine j7_newiK hx hb hK hh_332 hB (atype := .int) (ty := .int) (htw (.arrayClass .int) (jWr_3 _ (List.mem_of_getElem? (i := 20) rfl))) rfl rfl (fun _ h => h) hB206 1 rfl (by decide) (by decide) hbs (x := 12) (by decide) (by omega) (fun j => by first | trivial | decide | rfl | exact Or.inl rfl | exact Or.inr (Or.inl (by decide)) | (refine ⟨?_, ?_⟩ <;> decide)) (by rw [hRc]; omega) (by rw [hRs]; omega) dX14_init_262 (fun H_334 hfr_334 hh_334 => ?_)
  have hh_334 : jSt (dC, dI) B base G0 (va_up G_323 H_332.size (some (206, 12))) EX14_initW s.heap (((((((((((((((((((((((((((((((((((0 + 1) + 1) + 1) + 1) + 1) + (1)) + 1) + (1)) + 1) + 1) + 1) + 1) + 1) + 1) + 1) + 1) + 1) + 1) + 1) + 1) + 1) + (6)) + 1) + (6)) + 1) + (6)) + 1) + 1) + 1) + (6)) + 1) + (6)) + 1) + 1) + 1) (((((((((((((((((((((((((((((((((((0 + 4000) + 20000) + 100000) + 3300) + 4) + (16)) + 4) + (16)) + 3100) + 3100) + 3100) + 3100) + 3100) + 3100) + 3100) + 3100) + 3100) + 3300) + 20) + 3) + 11) + (1700)) + 11) + (1700)) + 11) + (1700)) + 3100) + 1500) + 11) + (1700)) + 11) + (1700)) + 12) + 12) + 12) [(H_46.size, 0, 3, .int qc_53), (H_46.size, 0, 0, .ref xa_53), (H_32.size, 0, 3, .int qc_39), (H_32.size, 0, 0, .ref xa_39)] [(H_129.size, 123, 3100, ca 1, (fun _ => 0)), (H_113.size, 122, 3100, ca 1, (fun _ => 0)), (H_23.size, 110, 3300, ca 1, (fun _ => 0))] [(jFz9, jDZ dC dI G_323), ([(201, 0)], jQc dC dI (ca 4) H_185.size 3 (va_up (va_up (va_up (fun _ => none) 0 (some H_187.size)) 1 (some H_208.size)) 2 (some H_227.size)))] H_334 locs_332 := hh_334
  have hZ_334 : jN14 G_323 (va_up G_323 H_332.size (some (206, 12))) := jN14.new (by decide)
  have hN_334 : (jNk [1, 2, 3, 4, 5, 6, 7, 8, 9, 10, 11, 12, 13, 17, 175]) G_323 (va_up G_323 H_332.size (some (206, 12))) := jNk.new (by decide)
  have hgn_334 : (va_up G_323 H_332.size (some (206, 12))) H_332.size = some (206, 12) := jUp_self
  have hle_334 : jLe G_323 (va_up G_323 H_332.size (some (206, 12))) := jLe.new hh_332.2.1.fresh
  have hke_334 : jKe G_323 (va_up G_323 H_332.size (some (206, 12))) H_332 H_334 := jKe.new hfr_334
  have hsy_334 : s.heap.size ≤ H_332.size := hh_332.1.1
  generalize (va_up G_323 H_332.size (some (206, 12))) = G_334 at hN_334 hgn_334 hle_334 hke_334 hh_334 hZ_334
  clear hh_332
  have hNn_334 : (jNk [1, 2, 3, 4, 5, 6, 7, 8, 9, 10, 11, 12, 13, 17, 175]) G0 G_334 := (hNn_323).tr hN_334
  have hg_335 := hle_334 _ _ hg_324
  have hg_336 := hle_334 _ _ hg_325
  have hkp_337 := hkp_333.tr hke_334
  have hraw_338n := hke_334.nr hraw_332.lt hraw_327n
  have hraw_338 := hraw_332.kept (hke_334.1 _ hraw_332.lt)
  try have hz14_334 : jN14 G0 G_334 := (hz14_323).tr hZ_334
  have hd_339 := jDZ.grow (hh_334.iv 0 rfl) hle_334 hZ_334
  have hh_340 := hh_334.sub (L1 := [(H_46.size, 0, 3, .int qc_53), (H_46.size, 0, 0, .ref xa_53), (H_32.size, 0, 3, .int qc_39), (H_32.size, 0, 0, .ref xa_39)]) [0, 1, 2, 3] rfl (M1 := [(H_129.size, 123, 3100, ca 1, (fun _ => 0)), (H_113.size, 122, 3100, ca 1, (fun _ => 0)), (H_23.size, 110, 3300, ca 1, (fun _ => 0))]) [0, 1, 2] rfl (I1 := [([(201, 0)], jQc dC dI (ca 4) H_185.size 3 (va_up (va_up (va_up (fun _ => none) 0 (some H_187.size)) 1 (some H_208.size)) 2 (some H_227.size)))]) [1] rfl
  clear hh_334
  have hh_341 := hh_340.addI (jDZ.ie hd_339)
  clear hh_340
  refine j7_putRF hx hb hown hK hh_341 hB hAp hraw_338 hraw_338n hbr0 (C := RX14) (T := TX14) (N := 74) rfl (i := 51) (by decide) (Nat.le_of_ble_eq_true rfl) hly_16_51 rfl hin2 rfl hlk_97 (ty := (.array .int)) (v := .ref H_332.size) (by decide +kernel) rfl rfl dX14_init_264 (fun H_343 locs_343 hraw_343 hr_343 hh_343 => ?_)
  have hraw_343 : va_at (dC, dI) vwCl (r0, .inr (16, [.ref s.heap.size, .int 0, .ref H_7.size, .int 0, .int 0, .ref H_15.size, .int 0, .int 0, .int 0, .ref H_23.size, .int 0, .int 0, .int 0, .ref H_32.size, .ref H_46.size, .int (-1), .int 0, .ref H_63.size, .ref H_73.size, .ref H_83.size, .ref H_93.size, .ref H_103.size, .ref H_113.size, .ref H_129.size, .ref H_145.size, .ref H_155.size, .int 0, .ref H_165.size, .int 0, .int 0, .int 0, .int 0, .int 0, .int 0, .int 0, .int 0, .int 0, .int 0, .ref H_175.size, .int 0, .int 0, .ref H_185.size, .int 0, .ref H_258.size, .int 0, .ref H_269.size, .ref H_280.size, .ref H_295.size, .int 0, .ref H_310.size, .ref H_321.size, .ref H_332.size, .null, .null, .null, .null, .null, .null, .null, .null, .null, .null, .null, .null, .int 0, .int 0, .int 0, .null, .null, .null, .int 0, .null, .null, .null])) H_343 := hraw_343
  have hkp_344 := hkp_337.put hr_343
  clear hh_341
  refine lv_aload_n hx hb dX14_init_267 rfl (lv_at hl 0 rfl) ?_
  refine lv_bipush (v := 12) hx hb dX14_init_268 (by decide) ?_
  clear hsz_334 htt_334
  have hsz_345 := hh_343.2.2.2.2.2.1
  have htt_345 := hh_343.2.2.2.2.2.2.1
  refine j7_newiK hx hb hK hh_343 hB (atype := .boolean) (ty := .boolean) (htw (.arrayClass .boolean) (jWr_11 _ (List.mem_of_getElem? (i := 11) rfl))) rfl rfl (fun _ h => h) hB104 3 rfl (by decide) (by decide) hbs (x := 12) (by decide) (by omega) (fun j => by first | trivial | decide | rfl | exact Or.inl rfl | exact Or.inr (Or.inl (by decide)) | (refine ⟨?_, ?_⟩ <;> decide)) (by rw [hRc]; omega) (by rw [hRs]; omega) dX14_init_270 (fun H_345 hfr_345 hh_345 => ?_)
  have hh_345 : jSt (dC, dI) B base G0 (va_up G_334 H_343.size (some (104, 12))) EX14_initW s.heap ((((((((((((((((((((((((((((((((((((0 + 1) + 1) + 1) + 1) + 1) + (1)) + 1) + (1)) + 1) + 1) + 1) + 1) + 1) + 1) + 1) + 1) + 1) + 1) + 1) + 1) + 1) + (6)) + 1) + (6)) + 1) + (6)) + 1) + 1) + 1) + (6)) + 1) + (6)) + 1) + 1) + 1) + 1) ((((((((((((((((((((((((((((((((((((0 + 4000) + 20000) + 100000) + 3300) + 4) + (16)) + 4) + (16)) + 3100) + 3100) + 3100) + 3100) + 3100) + 3100) + 3100) + 3100) + 3100) + 3300) + 20) + 3) + 11) + (1700)) + 11) + (1700)) + 11) + (1700)) + 3100) + 1500) + 11) + (1700)) + 11) + (1700)) + 12) + 12) + 12) + 12) [(H_46.size, 0, 3, .int qc_53), (H_46.size, 0, 0, .ref xa_53), (H_32.size, 0, 3, .int qc_39), (H_32.size, 0, 0, .ref xa_39)] [(H_129.size, 123, 3100, ca 1, (fun _ => 0)), (H_113.size, 122, 3100, ca 1, (fun _ => 0)), (H_23.size, 110, 3300, ca 1, (fun _ => 0))] [(jFz9, jDZ dC dI G_334), ([(201, 0)], jQc dC dI (ca 4) H_185.size 3 (va_up (va_up (va_up (fun _ => none) 0 (some H_187.size)) 1 (some H_208.size)) 2 (some H_227.size)))] H_345 locs_343 := hh_345
  have hZ_345 : jN14 G_334 (va_up G_334 H_343.size (some (104, 12))) := jN14.new (by decide)
  have hN_345 : (jNk [1, 2, 3, 4, 5, 6, 7, 8, 9, 10, 11, 12, 13, 17, 175]) G_334 (va_up G_334 H_343.size (some (104, 12))) := jNk.new (by decide)
  have hgn_345 : (va_up G_334 H_343.size (some (104, 12))) H_343.size = some (104, 12) := jUp_self
  have hle_345 : jLe G_334 (va_up G_334 H_343.size (some (104, 12))) := jLe.new hh_343.2.1.fresh
  have hke_345 : jKe G_334 (va_up G_334 H_343.size (some (104, 12))) H_343 H_345 := jKe.new hfr_345
  have hsy_345 : s.heap.size ≤ H_343.size := hh_343.1.1
  generalize (va_up G_334 H_343.size (some (104, 12))) = G_345 at hN_345 hgn_345 hle_345 hke_345 hh_345 hZ_345
  clear hh_343
  have hNn_345 : (jNk [1, 2, 3, 4, 5, 6, 7, 8, 9, 10, 11, 12, 13, 17, 175]) G0 G_345 := (hNn_334).tr hN_345
  have hg_346 := hle_345 _ _ hg_335
  have hg_347 := hle_345 _ _ hg_336
  have hkp_348 := hkp_344.tr hke_345
  have hraw_349n := hke_345.nr hraw_343.lt hraw_338n
  have hraw_349 := hraw_343.kept (hke_345.1 _ hraw_343.lt)
  try have hz14_345 : jN14 G0 G_345 := (hz14_334).tr hZ_345
  have hd_350 := jDZ.grow (hh_345.iv 0 rfl) hle_345 hZ_345
  have hh_351 := hh_345.sub (L1 := [(H_46.size, 0, 3, .int qc_53), (H_46.size, 0, 0, .ref xa_53), (H_32.size, 0, 3, .int qc_39), (H_32.size, 0, 0, .ref xa_39)]) [0, 1, 2, 3] rfl (M1 := [(H_129.size, 123, 3100, ca 1, (fun _ => 0)), (H_113.size, 122, 3100, ca 1, (fun _ => 0)), (H_23.size, 110, 3300, ca 1, (fun _ => 0))]) [0, 1, 2] rfl (I1 := [([(201, 0)], jQc dC dI (ca 4) H_185.size 3 (va_up (va_up (va_up (fun _ => none) 0 (some H_187.size)) 1 (some H_208.size)) 2 (some H_227.size)))]) [1] rfl
  clear hh_345
  have hh_352 := hh_351.addI (jDZ.ie hd_350)
  clear hh_351
  refine j7_putRF hx hb hown hK hh_352 hB hAp hraw_349 hraw_349n hbr0 (C := RX14) (T := TX14) (N := 74) rfl (i := 52) (by decide) (Nat.le_of_ble_eq_true rfl) hly_16_52 rfl hin2 rfl hlk_100 (ty := (.array .boolean)) (v := .ref H_343.size) (by decide +kernel) rfl rfl dX14_init_272 (fun H_354 locs_354 hraw_354 hr_354 hh_354 => ?_)
  have hraw_354 : va_at (dC, dI) vwCl (r0, .inr (16, [.ref s.heap.size, .int 0, .ref H_7.size, .int 0, .int 0, .ref H_15.size, .int 0, .int 0, .int 0, .ref H_23.size, .int 0, .int 0, .int 0, .ref H_32.size, .ref H_46.size, .int (-1), .int 0, .ref H_63.size, .ref H_73.size, .ref H_83.size, .ref H_93.size, .ref H_103.size, .ref H_113.size, .ref H_129.size, .ref H_145.size, .ref H_155.size, .int 0, .ref H_165.size, .int 0, .int 0, .int 0, .int 0, .int 0, .int 0, .int 0, .int 0, .int 0, .int 0, .ref H_175.size, .int 0, .int 0, .ref H_185.size, .int 0, .ref H_258.size, .int 0, .ref H_269.size, .ref H_280.size, .ref H_295.size, .int 0, .ref H_310.size, .ref H_321.size, .ref H_332.size, .ref H_343.size, .null, .null, .null, .null, .null, .null, .null, .null, .null, .null, .null, .int 0, .int 0, .int 0, .null, .null, .null, .int 0, .null, .null, .null])) H_354 := hraw_354
  have hkp_355 := hkp_348.put hr_354
  clear hh_352
  refine lv_aload_n hx hb dX14_init_275 rfl (lv_at hl 0 rfl) ?_
  refine lv_bipush (v := 12) hx hb dX14_init_276 (by decide) ?_
  clear hsz_345 htt_345
  have hsz_356 := hh_354.2.2.2.2.2.1
  have htt_356 := hh_354.2.2.2.2.2.2.1
  refine j7_newiK hx hb hK hh_354 hB (atype := .int) (ty := .int) (htw (.arrayClass .int) (jWr_3 _ (List.mem_of_getElem? (i := 20) rfl))) rfl rfl (fun _ h => h) hB116 1 rfl (by decide) (by decide) hbs (x := 12) (by decide) (by omega) (fun j => by first | trivial | decide | rfl | exact Or.inl rfl | exact Or.inr (Or.inl (by decide)) | (refine ⟨?_, ?_⟩ <;> decide)) (by rw [hRc]; omega) (by rw [hRs]; omega) dX14_init_278 (fun H_356 hfr_356 hh_356 => ?_)
  have hh_356 : jSt (dC, dI) B base G0 (va_up G_345 H_354.size (some (116, 12))) EX14_initW s.heap (((((((((((((((((((((((((((((((((((((0 + 1) + 1) + 1) + 1) + 1) + (1)) + 1) + (1)) + 1) + 1) + 1) + 1) + 1) + 1) + 1) + 1) + 1) + 1) + 1) + 1) + 1) + (6)) + 1) + (6)) + 1) + (6)) + 1) + 1) + 1) + (6)) + 1) + (6)) + 1) + 1) + 1) + 1) + 1) (((((((((((((((((((((((((((((((((((((0 + 4000) + 20000) + 100000) + 3300) + 4) + (16)) + 4) + (16)) + 3100) + 3100) + 3100) + 3100) + 3100) + 3100) + 3100) + 3100) + 3100) + 3300) + 20) + 3) + 11) + (1700)) + 11) + (1700)) + 11) + (1700)) + 3100) + 1500) + 11) + (1700)) + 11) + (1700)) + 12) + 12) + 12) + 12) + 12) [(H_46.size, 0, 3, .int qc_53), (H_46.size, 0, 0, .ref xa_53), (H_32.size, 0, 3, .int qc_39), (H_32.size, 0, 0, .ref xa_39)] [(H_129.size, 123, 3100, ca 1, (fun _ => 0)), (H_113.size, 122, 3100, ca 1, (fun _ => 0)), (H_23.size, 110, 3300, ca 1, (fun _ => 0))] [(jFz9, jDZ dC dI G_345), ([(201, 0)], jQc dC dI (ca 4) H_185.size 3 (va_up (va_up (va_up (fun _ => none) 0 (some H_187.size)) 1 (some H_208.size)) 2 (some H_227.size)))] H_356 locs_354 := hh_356
  have hZ_356 : jN14 G_345 (va_up G_345 H_354.size (some (116, 12))) := jN14.new (by decide)
  have hN_356 : (jNk [1, 2, 3, 4, 5, 6, 7, 8, 9, 10, 11, 12, 13, 17, 175]) G_345 (va_up G_345 H_354.size (some (116, 12))) := jNk.new (by decide)
  have hgn_356 : (va_up G_345 H_354.size (some (116, 12))) H_354.size = some (116, 12) := jUp_self
  have hle_356 : jLe G_345 (va_up G_345 H_354.size (some (116, 12))) := jLe.new hh_354.2.1.fresh
  have hke_356 : jKe G_345 (va_up G_345 H_354.size (some (116, 12))) H_354 H_356 := jKe.new hfr_356
  have hsy_356 : s.heap.size ≤ H_354.size := hh_354.1.1
  generalize (va_up G_345 H_354.size (some (116, 12))) = G_356 at hN_356 hgn_356 hle_356 hke_356 hh_356 hZ_356
  clear hh_354
  have hNn_356 : (jNk [1, 2, 3, 4, 5, 6, 7, 8, 9, 10, 11, 12, 13, 17, 175]) G0 G_356 := (hNn_345).tr hN_356
  have hg_357 := hle_356 _ _ hg_346
  have hg_358 := hle_356 _ _ hg_347
  have hkp_359 := hkp_355.tr hke_356
  have hraw_360n := hke_356.nr hraw_354.lt hraw_349n
  have hraw_360 := hraw_354.kept (hke_356.1 _ hraw_354.lt)
  try have hz14_356 : jN14 G0 G_356 := (hz14_345).tr hZ_356
  have hd_361 := jDZ.grow (hh_356.iv 0 rfl) hle_356 hZ_356
  have hh_362 := hh_356.sub (L1 := [(H_46.size, 0, 3, .int qc_53), (H_46.size, 0, 0, .ref xa_53), (H_32.size, 0, 3, .int qc_39), (H_32.size, 0, 0, .ref xa_39)]) [0, 1, 2, 3] rfl (M1 := [(H_129.size, 123, 3100, ca 1, (fun _ => 0)), (H_113.size, 122, 3100, ca 1, (fun _ => 0)), (H_23.size, 110, 3300, ca 1, (fun _ => 0))]) [0, 1, 2] rfl (I1 := [([(201, 0)], jQc dC dI (ca 4) H_185.size 3 (va_up (va_up (va_up (fun _ => none) 0 (some H_187.size)) 1 (some H_208.size)) 2 (some H_227.size)))]) [1] rfl
  clear hh_356
  have hh_363 := hh_362.addI (jDZ.ie hd_361)
  clear hh_362
  refine j7_putRF hx hb hown hK hh_363 hB hAp hraw_360 hraw_360n hbr0 (C := RX14) (T := TX14) (N := 74) rfl (i := 53) (by decide) (Nat.le_of_ble_eq_true rfl) hly_16_53 rfl hin2 rfl hlk_103 (ty := (.array .int)) (v := .ref H_354.size) (by decide +kernel) rfl rfl dX14_init_280 (fun H_365 locs_365 hraw_365 hr_365 hh_365 => ?_)
  have hraw_365 : va_at (dC, dI) vwCl (r0, .inr (16, [.ref s.heap.size, .int 0, .ref H_7.size, .int 0, .int 0, .ref H_15.size, .int 0, .int 0, .int 0, .ref H_23.size, .int 0, .int 0, .int 0, .ref H_32.size, .ref H_46.size, .int (-1), .int 0, .ref H_63.size, .ref H_73.size, .ref H_83.size, .ref H_93.size, .ref H_103.size, .ref H_113.size, .ref H_129.size, .ref H_145.size, .ref H_155.size, .int 0, .ref H_165.size, .int 0, .int 0, .int 0, .int 0, .int 0, .int 0, .int 0, .int 0, .int 0, .int 0, .ref H_175.size, .int 0, .int 0, .ref H_185.size, .int 0, .ref H_258.size, .int 0, .ref H_269.size, .ref H_280.size, .ref H_295.size, .int 0, .ref H_310.size, .ref H_321.size, .ref H_332.size, .ref H_343.size, .ref H_354.size, .null, .null, .null, .null, .null, .null, .null, .null, .null, .null, .int 0, .int 0, .int 0, .null, .null, .null, .int 0, .null, .null, .null])) H_365 := hraw_365
  have hkp_366 := hkp_359.put hr_365
  clear hh_363
  refine lv_aload_n hx hb dX14_init_283 rfl (lv_at hl 0 rfl) ?_
  refine lv_sipush (v := 240) hx hb dX14_init_284 (by decide) ?_
  clear hsz_356 htt_356
  have hsz_367 := hh_365.2.2.2.2.2.1
  have htt_367 := hh_365.2.2.2.2.2.2.1
  refine j7_newiK hx hb hK hh_365 hB (atype := .int) (ty := .int) (htw (.arrayClass .int) (jWr_3 _ (List.mem_of_getElem? (i := 20) rfl))) rfl rfl (fun _ h => h) hB126 1 rfl (by decide) (by decide) hbs (x := 240) (by decide) (by omega) (fun j => by first | trivial | decide | rfl | exact Or.inl rfl | exact Or.inr (Or.inl (by decide)) | (refine ⟨?_, ?_⟩ <;> decide)) (by rw [hRc]; omega) (by rw [hRs]; omega) dX14_init_287 (fun H_367 hfr_367 hh_367 => ?_)
  have hh_367 : jSt (dC, dI) B base G0 (va_up G_356 H_365.size (some (126, 240))) EX14_initW s.heap ((((((((((((((((((((((((((((((((((((((0 + 1) + 1) + 1) + 1) + 1) + (1)) + 1) + (1)) + 1) + 1) + 1) + 1) + 1) + 1) + 1) + 1) + 1) + 1) + 1) + 1) + 1) + (6)) + 1) + (6)) + 1) + (6)) + 1) + 1) + 1) + (6)) + 1) + (6)) + 1) + 1) + 1) + 1) + 1) + 1) ((((((((((((((((((((((((((((((((((((((0 + 4000) + 20000) + 100000) + 3300) + 4) + (16)) + 4) + (16)) + 3100) + 3100) + 3100) + 3100) + 3100) + 3100) + 3100) + 3100) + 3100) + 3300) + 20) + 3) + 11) + (1700)) + 11) + (1700)) + 11) + (1700)) + 3100) + 1500) + 11) + (1700)) + 11) + (1700)) + 12) + 12) + 12) + 12) + 12) + 240) [(H_46.size, 0, 3, .int qc_53), (H_46.size, 0, 0, .ref xa_53), (H_32.size, 0, 3, .int qc_39), (H_32.size, 0, 0, .ref xa_39)] [(H_129.size, 123, 3100, ca 1, (fun _ => 0)), (H_113.size, 122, 3100, ca 1, (fun _ => 0)), (H_23.size, 110, 3300, ca 1, (fun _ => 0))] [(jFz9, jDZ dC dI G_356), ([(201, 0)], jQc dC dI (ca 4) H_185.size 3 (va_up (va_up (va_up (fun _ => none) 0 (some H_187.size)) 1 (some H_208.size)) 2 (some H_227.size)))] H_367 locs_365 := hh_367
  have hZ_367 : jN14 G_356 (va_up G_356 H_365.size (some (126, 240))) := jN14.new (by decide)
  have hN_367 : (jNk [1, 2, 3, 4, 5, 6, 7, 8, 9, 10, 11, 12, 13, 17, 175]) G_356 (va_up G_356 H_365.size (some (126, 240))) := jNk.new (by decide)
  have hgn_367 : (va_up G_356 H_365.size (some (126, 240))) H_365.size = some (126, 240) := jUp_self
  have hle_367 : jLe G_356 (va_up G_356 H_365.size (some (126, 240))) := jLe.new hh_365.2.1.fresh
  have hke_367 : jKe G_356 (va_up G_356 H_365.size (some (126, 240))) H_365 H_367 := jKe.new hfr_367
  have hsy_367 : s.heap.size ≤ H_365.size := hh_365.1.1
  generalize (va_up G_356 H_365.size (some (126, 240))) = G_367 at hN_367 hgn_367 hle_367 hke_367 hh_367 hZ_367
  clear hh_365
  have hNn_367 : (jNk [1, 2, 3, 4, 5, 6, 7, 8, 9, 10, 11, 12, 13, 17, 175]) G0 G_367 := (hNn_356).tr hN_367
  have hg_368 := hle_367 _ _ hg_357
  have hg_369 := hle_367 _ _ hg_358
  have hkp_370 := hkp_366.tr hke_367
  have hraw_371n := hke_367.nr hraw_365.lt hraw_360n
  have hraw_371 := hraw_365.kept (hke_367.1 _ hraw_365.lt)
  try have hz14_367 : jN14 G0 G_367 := (hz14_356).tr hZ_367
  have hd_372 := jDZ.grow (hh_367.iv 0 rfl) hle_367 hZ_367
  have hh_373 := hh_367.sub (L1 := [(H_46.size, 0, 3, .int qc_53), (H_46.size, 0, 0, .ref xa_53), (H_32.size, 0, 3, .int qc_39), (H_32.size, 0, 0, .ref xa_39)]) [0, 1, 2, 3] rfl (M1 := [(H_129.size, 123, 3100, ca 1, (fun _ => 0)), (H_113.size, 122, 3100, ca 1, (fun _ => 0)), (H_23.size, 110, 3300, ca 1, (fun _ => 0))]) [0, 1, 2] rfl (I1 := [([(201, 0)], jQc dC dI (ca 4) H_185.size 3 (va_up (va_up (va_up (fun _ => none) 0 (some H_187.size)) 1 (some H_208.size)) 2 (some H_227.size)))]) [1] rfl
  clear hh_367
  have hh_374 := hh_373.addI (jDZ.ie hd_372)
  clear hh_373
  refine j7_putRF hx hb hown hK hh_374 hB hAp hraw_371 hraw_371n hbr0 (C := RX14) (T := TX14) (N := 74) rfl (i := 54) (by decide) (Nat.le_of_ble_eq_true rfl) hly_16_54 rfl hin2 rfl hlk_106 (ty := (.array .int)) (v := .ref H_365.size) (by decide +kernel) rfl rfl dX14_init_289 (fun H_376 locs_376 hraw_376 hr_376 hh_376 => ?_)
  have hraw_376 : va_at (dC, dI) vwCl (r0, .inr (16, [.ref s.heap.size, .int 0, .ref H_7.size, .int 0, .int 0, .ref H_15.size, .int 0, .int 0, .int 0, .ref H_23.size, .int 0, .int 0, .int 0, .ref H_32.size, .ref H_46.size, .int (-1), .int 0, .ref H_63.size, .ref H_73.size, .ref H_83.size, .ref H_93.size, .ref H_103.size, .ref H_113.size, .ref H_129.size, .ref H_145.size, .ref H_155.size, .int 0, .ref H_165.size, .int 0, .int 0, .int 0, .int 0, .int 0, .int 0, .int 0, .int 0, .int 0, .int 0, .ref H_175.size, .int 0, .int 0, .ref H_185.size, .int 0, .ref H_258.size, .int 0, .ref H_269.size, .ref H_280.size, .ref H_295.size, .int 0, .ref H_310.size, .ref H_321.size, .ref H_332.size, .ref H_343.size, .ref H_354.size, .ref H_365.size, .null, .null, .null, .null, .null, .null, .null, .null, .null, .int 0, .int 0, .int 0, .null, .null, .null, .int 0, .null, .null, .null])) H_376 := hraw_376
  have hkp_377 := hkp_370.put hr_376
  clear hh_374
  refine lv_aload_n hx hb dX14_init_292 rfl (lv_at hl 0 rfl) ?_
  refine lv_bipush (v := 12) hx hb dX14_init_293 (by decide) ?_
  clear hsz_367 htt_367
  have hsz_378 := hh_376.2.2.2.2.2.1
  have htt_378 := hh_376.2.2.2.2.2.2.1
  refine j7_newiK hx hb hK hh_376 hB (atype := .int) (ty := .int) (htw (.arrayClass .int) (jWr_3 _ (List.mem_of_getElem? (i := 20) rfl))) rfl rfl (fun _ h => h) hB203 1 rfl (by decide) (by decide) hbs (x := 12) (by decide) (by omega) (fun j => by first | trivial | decide | rfl | exact Or.inl rfl | exact Or.inr (Or.inl (by decide)) | (refine ⟨?_, ?_⟩ <;> decide)) (by rw [hRc]; omega) (by rw [hRs]; omega) dX14_init_295 (fun H_378 hfr_378 hh_378 => ?_)
  have hh_378 : jSt (dC, dI) B base G0 (va_up G_367 H_376.size (some (203, 12))) EX14_initW s.heap (((((((((((((((((((((((((((((((((((((((0 + 1) + 1) + 1) + 1) + 1) + (1)) + 1) + (1)) + 1) + 1) + 1) + 1) + 1) + 1) + 1) + 1) + 1) + 1) + 1) + 1) + 1) + (6)) + 1) + (6)) + 1) + (6)) + 1) + 1) + 1) + (6)) + 1) + (6)) + 1) + 1) + 1) + 1) + 1) + 1) + 1) (((((((((((((((((((((((((((((((((((((((0 + 4000) + 20000) + 100000) + 3300) + 4) + (16)) + 4) + (16)) + 3100) + 3100) + 3100) + 3100) + 3100) + 3100) + 3100) + 3100) + 3100) + 3300) + 20) + 3) + 11) + (1700)) + 11) + (1700)) + 11) + (1700)) + 3100) + 1500) + 11) + (1700)) + 11) + (1700)) + 12) + 12) + 12) + 12) + 12) + 240) + 12) [(H_46.size, 0, 3, .int qc_53), (H_46.size, 0, 0, .ref xa_53), (H_32.size, 0, 3, .int qc_39), (H_32.size, 0, 0, .ref xa_39)] [(H_129.size, 123, 3100, ca 1, (fun _ => 0)), (H_113.size, 122, 3100, ca 1, (fun _ => 0)), (H_23.size, 110, 3300, ca 1, (fun _ => 0))] [(jFz9, jDZ dC dI G_367), ([(201, 0)], jQc dC dI (ca 4) H_185.size 3 (va_up (va_up (va_up (fun _ => none) 0 (some H_187.size)) 1 (some H_208.size)) 2 (some H_227.size)))] H_378 locs_376 := hh_378
  have hZ_378 : jN14 G_367 (va_up G_367 H_376.size (some (203, 12))) := jN14.new (by decide)
  have hN_378 : (jNk [1, 2, 3, 4, 5, 6, 7, 8, 9, 10, 11, 12, 13, 17, 175]) G_367 (va_up G_367 H_376.size (some (203, 12))) := jNk.new (by decide)
  have hgn_378 : (va_up G_367 H_376.size (some (203, 12))) H_376.size = some (203, 12) := jUp_self
  have hle_378 : jLe G_367 (va_up G_367 H_376.size (some (203, 12))) := jLe.new hh_376.2.1.fresh
  have hke_378 : jKe G_367 (va_up G_367 H_376.size (some (203, 12))) H_376 H_378 := jKe.new hfr_378
  have hsy_378 : s.heap.size ≤ H_376.size := hh_376.1.1
  generalize (va_up G_367 H_376.size (some (203, 12))) = G_378 at hN_378 hgn_378 hle_378 hke_378 hh_378 hZ_378
  clear hh_376
  have hNn_378 : (jNk [1, 2, 3, 4, 5, 6, 7, 8, 9, 10, 11, 12, 13, 17, 175]) G0 G_378 := (hNn_367).tr hN_378
  have hg_379 := hle_378 _ _ hg_368
  have hg_380 := hle_378 _ _ hg_369
  have hkp_381 := hkp_377.tr hke_378
  have hraw_382n := hke_378.nr hraw_376.lt hraw_371n
  have hraw_382 := hraw_376.kept (hke_378.1 _ hraw_376.lt)
  try have hz14_378 : jN14 G0 G_378 := (hz14_367).tr hZ_378
  have hd_383 := jDZ.grow (hh_378.iv 0 rfl) hle_378 hZ_378
  have hh_384 := hh_378.sub (L1 := [(H_46.size, 0, 3, .int qc_53), (H_46.size, 0, 0, .ref xa_53), (H_32.size, 0, 3, .int qc_39), (H_32.size, 0, 0, .ref xa_39)]) [0, 1, 2, 3] rfl (M1 := [(H_129.size, 123, 3100, ca 1, (fun _ => 0)), (H_113.size, 122, 3100, ca 1, (fun _ => 0)), (H_23.size, 110, 3300, ca 1, (fun _ => 0))]) [0, 1, 2] rfl (I1 := [([(201, 0)], jQc dC dI (ca 4) H_185.size 3 (va_up (va_up (va_up (fun _ => none) 0 (some H_187.size)) 1 (some H_208.size)) 2 (some H_227.size)))]) [1] rfl
  clear hh_378
  have hh_385 := hh_384.addI (jDZ.ie hd_383)
  clear hh_384
  refine j7_putRF hx hb hown hK hh_385 hB hAp hraw_382 hraw_382n hbr0 (C := RX14) (T := TX14) (N := 74) rfl (i := 55) (by decide) (Nat.le_of_ble_eq_true rfl) hly_16_55 rfl hin2 rfl hlk_109 (ty := (.array .int)) (v := .ref H_376.size) (by decide +kernel) rfl rfl dX14_init_297 (fun H_387 locs_387 hraw_387 hr_387 hh_387 => ?_)
  have hraw_387 : va_at (dC, dI) vwCl (r0, .inr (16, [.ref s.heap.size, .int 0, .ref H_7.size, .int 0, .int 0, .ref H_15.size, .int 0, .int 0, .int 0, .ref H_23.size, .int 0, .int 0, .int 0, .ref H_32.size, .ref H_46.size, .int (-1), .int 0, .ref H_63.size, .ref H_73.size, .ref H_83.size, .ref H_93.size, .ref H_103.size, .ref H_113.size, .ref H_129.size, .ref H_145.size, .ref H_155.size, .int 0, .ref H_165.size, .int 0, .int 0, .int 0, .int 0, .int 0, .int 0, .int 0, .int 0, .int 0, .int 0, .ref H_175.size, .int 0, .int 0, .ref H_185.size, .int 0, .ref H_258.size, .int 0, .ref H_269.size, .ref H_280.size, .ref H_295.size, .int 0, .ref H_310.size, .ref H_321.size, .ref H_332.size, .ref H_343.size, .ref H_354.size, .ref H_365.size, .ref H_376.size, .null, .null, .null, .null, .null, .null, .null, .null, .int 0, .int 0, .int 0, .null, .null, .null, .int 0, .null, .null, .null])) H_387 := hraw_387
  have hkp_388 := hkp_381.put hr_387
  clear hh_385
  refine lv_aload_n hx hb dX14_init_300 rfl (lv_at hl 0 rfl) ?_
  refine lv_ldc hx hb hown hcs_112 dX14_init_301 ?_
  clear hsz_378 htt_378
  have hsz_389 := hh_387.2.2.2.2.2.1
  have htt_389 := hh_387.2.2.2.2.2.2.1
  refine j7_newiK hx hb hK hh_387 hB (atype := .int) (ty := .int) (htw (.arrayClass .int) (jWr_3 _ (List.mem_of_getElem? (i := 20) rfl))) rfl rfl (fun _ h => h) hB101 1 rfl (by decide) (by decide) hbs (x := 37200) (by decide) (by omega) (fun j => by first | trivial | decide | rfl | exact Or.inl rfl | exact Or.inr (Or.inl (by decide)) | (refine ⟨?_, ?_⟩ <;> decide)) (by rw [hRc]; omega) (by rw [hRs]; omega) dX14_init_303 (fun H_389 hfr_389 hh_389 => ?_)
  have hh_389 : jSt (dC, dI) B base G0 (va_up G_378 H_387.size (some (101, 37200))) EX14_initW s.heap ((((((((((((((((((((((((((((((((((((((((0 + 1) + 1) + 1) + 1) + 1) + (1)) + 1) + (1)) + 1) + 1) + 1) + 1) + 1) + 1) + 1) + 1) + 1) + 1) + 1) + 1) + 1) + (6)) + 1) + (6)) + 1) + (6)) + 1) + 1) + 1) + (6)) + 1) + (6)) + 1) + 1) + 1) + 1) + 1) + 1) + 1) + 1) ((((((((((((((((((((((((((((((((((((((((0 + 4000) + 20000) + 100000) + 3300) + 4) + (16)) + 4) + (16)) + 3100) + 3100) + 3100) + 3100) + 3100) + 3100) + 3100) + 3100) + 3100) + 3300) + 20) + 3) + 11) + (1700)) + 11) + (1700)) + 11) + (1700)) + 3100) + 1500) + 11) + (1700)) + 11) + (1700)) + 12) + 12) + 12) + 12) + 12) + 240) + 12) + 37200) [(H_46.size, 0, 3, .int qc_53), (H_46.size, 0, 0, .ref xa_53), (H_32.size, 0, 3, .int qc_39), (H_32.size, 0, 0, .ref xa_39)] [(H_129.size, 123, 3100, ca 1, (fun _ => 0)), (H_113.size, 122, 3100, ca 1, (fun _ => 0)), (H_23.size, 110, 3300, ca 1, (fun _ => 0))] [(jFz9, jDZ dC dI G_378), ([(201, 0)], jQc dC dI (ca 4) H_185.size 3 (va_up (va_up (va_up (fun _ => none) 0 (some H_187.size)) 1 (some H_208.size)) 2 (some H_227.size)))] H_389 locs_387 := hh_389
  have hZ_389 : jN14 G_378 (va_up G_378 H_387.size (some (101, 37200))) := jN14.new (by decide)
  have hN_389 : (jNk [1, 2, 3, 4, 5, 6, 7, 8, 9, 10, 11, 12, 13, 17, 175]) G_378 (va_up G_378 H_387.size (some (101, 37200))) := jNk.new (by decide)
  have hgn_389 : (va_up G_378 H_387.size (some (101, 37200))) H_387.size = some (101, 37200) := jUp_self
  have hle_389 : jLe G_378 (va_up G_378 H_387.size (some (101, 37200))) := jLe.new hh_387.2.1.fresh
  have hke_389 : jKe G_378 (va_up G_378 H_387.size (some (101, 37200))) H_387 H_389 := jKe.new hfr_389
  have hsy_389 : s.heap.size ≤ H_387.size := hh_387.1.1
  generalize (va_up G_378 H_387.size (some (101, 37200))) = G_389 at hN_389 hgn_389 hle_389 hke_389 hh_389 hZ_389
  clear hh_387
  have hNn_389 : (jNk [1, 2, 3, 4, 5, 6, 7, 8, 9, 10, 11, 12, 13, 17, 175]) G0 G_389 := (hNn_378).tr hN_389
  have hg_390 := hle_389 _ _ hg_379
  have hg_391 := hle_389 _ _ hg_380
  have hkp_392 := hkp_388.tr hke_389
  have hraw_393n := hke_389.nr hraw_387.lt hraw_382n
  have hraw_393 := hraw_387.kept (hke_389.1 _ hraw_387.lt)
  try have hz14_389 : jN14 G0 G_389 := (hz14_378).tr hZ_389
  have hd_394 := jDZ.grow (hh_389.iv 0 rfl) hle_389 hZ_389
  have hh_395 := hh_389.sub (L1 := [(H_46.size, 0, 3, .int qc_53), (H_46.size, 0, 0, .ref xa_53), (H_32.size, 0, 3, .int qc_39), (H_32.size, 0, 0, .ref xa_39)]) [0, 1, 2, 3] rfl (M1 := [(H_129.size, 123, 3100, ca 1, (fun _ => 0)), (H_113.size, 122, 3100, ca 1, (fun _ => 0)), (H_23.size, 110, 3300, ca 1, (fun _ => 0))]) [0, 1, 2] rfl (I1 := [([(201, 0)], jQc dC dI (ca 4) H_185.size 3 (va_up (va_up (va_up (fun _ => none) 0 (some H_187.size)) 1 (some H_208.size)) 2 (some H_227.size)))]) [1] rfl
  clear hh_389
  have hh_396 := hh_395.addI (jDZ.ie hd_394)
  clear hh_395
  refine j7_putRF hx hb hown hK hh_396 hB hAp hraw_393 hraw_393n hbr0 (C := RX14) (T := TX14) (N := 74) rfl (i := 56) (by decide) (Nat.le_of_ble_eq_true rfl) hly_16_56 rfl hin2 rfl hlk_113 (ty := (.array .int)) (v := .ref H_387.size) (by decide +kernel) rfl rfl dX14_init_305 (fun H_398 locs_398 hraw_398 hr_398 hh_398 => ?_)
  have hraw_398 : va_at (dC, dI) vwCl (r0, .inr (16, [.ref s.heap.size, .int 0, .ref H_7.size, .int 0, .int 0, .ref H_15.size, .int 0, .int 0, .int 0, .ref H_23.size, .int 0, .int 0, .int 0, .ref H_32.size, .ref H_46.size, .int (-1), .int 0, .ref H_63.size, .ref H_73.size, .ref H_83.size, .ref H_93.size, .ref H_103.size, .ref H_113.size, .ref H_129.size, .ref H_145.size, .ref H_155.size, .int 0, .ref H_165.size, .int 0, .int 0, .int 0, .int 0, .int 0, .int 0, .int 0, .int 0, .int 0, .int 0, .ref H_175.size, .int 0, .int 0, .ref H_185.size, .int 0, .ref H_258.size, .int 0, .ref H_269.size, .ref H_280.size, .ref H_295.size, .int 0, .ref H_310.size, .ref H_321.size, .ref H_332.size, .ref H_343.size, .ref H_354.size, .ref H_365.size, .ref H_376.size, .ref H_387.size, .null, .null, .null, .null, .null, .null, .null, .int 0, .int 0, .int 0, .null, .null, .null, .int 0, .null, .null, .null])) H_398 := hraw_398
  have hkp_399 := hkp_392.put hr_398
  clear hh_396
  refine lv_aload_n hx hb dX14_init_308 rfl (lv_at hl 0 rfl) ?_
  refine lv_bipush (v := 12) hx hb dX14_init_309 (by decide) ?_
  clear hsz_389 htt_389
  have hsz_400 := hh_398.2.2.2.2.2.1
  have htt_400 := hh_398.2.2.2.2.2.2.1
  refine j7_newiK hx hb hK hh_398 hB (atype := .int) (ty := .int) (htw (.arrayClass .int) (jWr_3 _ (List.mem_of_getElem? (i := 20) rfl))) rfl rfl (fun _ h => h) hB204 1 rfl (by decide) (by decide) hbs (x := 12) (by decide) (by omega) (fun j => by first | trivial | decide | rfl | exact Or.inl rfl | exact Or.inr (Or.inl (by decide)) | (refine ⟨?_, ?_⟩ <;> decide)) (by rw [hRc]; omega) (by rw [hRs]; omega) dX14_init_311 (fun H_400 hfr_400 hh_400 => ?_)
  have hh_400 : jSt (dC, dI) B base G0 (va_up G_389 H_398.size (some (204, 12))) EX14_initW s.heap (((((((((((((((((((((((((((((((((((((((((0 + 1) + 1) + 1) + 1) + 1) + (1)) + 1) + (1)) + 1) + 1) + 1) + 1) + 1) + 1) + 1) + 1) + 1) + 1) + 1) + 1) + 1) + (6)) + 1) + (6)) + 1) + (6)) + 1) + 1) + 1) + (6)) + 1) + (6)) + 1) + 1) + 1) + 1) + 1) + 1) + 1) + 1) + 1) (((((((((((((((((((((((((((((((((((((((((0 + 4000) + 20000) + 100000) + 3300) + 4) + (16)) + 4) + (16)) + 3100) + 3100) + 3100) + 3100) + 3100) + 3100) + 3100) + 3100) + 3100) + 3300) + 20) + 3) + 11) + (1700)) + 11) + (1700)) + 11) + (1700)) + 3100) + 1500) + 11) + (1700)) + 11) + (1700)) + 12) + 12) + 12) + 12) + 12) + 240) + 12) + 37200) + 12) [(H_46.size, 0, 3, .int qc_53), (H_46.size, 0, 0, .ref xa_53), (H_32.size, 0, 3, .int qc_39), (H_32.size, 0, 0, .ref xa_39)] [(H_129.size, 123, 3100, ca 1, (fun _ => 0)), (H_113.size, 122, 3100, ca 1, (fun _ => 0)), (H_23.size, 110, 3300, ca 1, (fun _ => 0))] [(jFz9, jDZ dC dI G_389), ([(201, 0)], jQc dC dI (ca 4) H_185.size 3 (va_up (va_up (va_up (fun _ => none) 0 (some H_187.size)) 1 (some H_208.size)) 2 (some H_227.size)))] H_400 locs_398 := hh_400
  have hZ_400 : jN14 G_389 (va_up G_389 H_398.size (some (204, 12))) := jN14.new (by decide)
  have hN_400 : (jNk [1, 2, 3, 4, 5, 6, 7, 8, 9, 10, 11, 12, 13, 17, 175]) G_389 (va_up G_389 H_398.size (some (204, 12))) := jNk.new (by decide)
  have hgn_400 : (va_up G_389 H_398.size (some (204, 12))) H_398.size = some (204, 12) := jUp_self
  have hle_400 : jLe G_389 (va_up G_389 H_398.size (some (204, 12))) := jLe.new hh_398.2.1.fresh
  have hke_400 : jKe G_389 (va_up G_389 H_398.size (some (204, 12))) H_398 H_400 := jKe.new hfr_400
  have hsy_400 : s.heap.size ≤ H_398.size := hh_398.1.1
  generalize (va_up G_389 H_398.size (some (204, 12))) = G_400 at hN_400 hgn_400 hle_400 hke_400 hh_400 hZ_400
  clear hh_398
  have hNn_400 : (jNk [1, 2, 3, 4, 5, 6, 7, 8, 9, 10, 11, 12, 13, 17, 175]) G0 G_400 := (hNn_389).tr hN_400
  have hg_401 := hle_400 _ _ hg_390
  have hg_402 := hle_400 _ _ hg_391
  have hkp_403 := hkp_399.tr hke_400
  have hraw_404n := hke_400.nr hraw_398.lt hraw_393n
  have hraw_404 := hraw_398.kept (hke_400.1 _ hraw_398.lt)
  try have hz14_400 : jN14 G0 G_400 := (hz14_389).tr hZ_400
  have hd_405 := jDZ.grow (hh_400.iv 0 rfl) hle_400 hZ_400
  have hh_406 := hh_400.sub (L1 := [(H_46.size, 0, 3, .int qc_53), (H_46.size, 0, 0, .ref xa_53), (H_32.size, 0, 3, .int qc_39), (H_32.size, 0, 0, .ref xa_39)]) [0, 1, 2, 3] rfl (M1 := [(H_129.size, 123, 3100, ca 1, (fun _ => 0)), (H_113.size, 122, 3100, ca 1, (fun _ => 0)), (H_23.size, 110, 3300, ca 1, (fun _ => 0))]) [0, 1, 2] rfl (I1 := [([(201, 0)], jQc dC dI (ca 4) H_185.size 3 (va_up (va_up (va_up (fun _ => none) 0 (some H_187.size)) 1 (some H_208.size)) 2 (some H_227.size)))]) [1] rfl
  clear hh_400
  have hh_407 := hh_406.addI (jDZ.ie hd_405)
  clear hh_406
  refine j7_putRF hx hb hown hK hh_407 hB hAp hraw_404 hraw_404n hbr0 (C := RX14) (T := TX14) (N := 74) rfl (i := 57) (by decide) (Nat.le_of_ble_eq_true rfl) hly_16_57 rfl hin2 rfl hlk_116 (ty := (.array .int)) (v := .ref H_398.size) (by decide +kernel) rfl rfl dX14_init_313 (fun H_409 locs_409 hraw_409 hr_409 hh_409 => ?_)
  have hraw_409 : va_at (dC, dI) vwCl (r0, .inr (16, [.ref s.heap.size, .int 0, .ref H_7.size, .int 0, .int 0, .ref H_15.size, .int 0, .int 0, .int 0, .ref H_23.size, .int 0, .int 0, .int 0, .ref H_32.size, .ref H_46.size, .int (-1), .int 0, .ref H_63.size, .ref H_73.size, .ref H_83.size, .ref H_93.size, .ref H_103.size, .ref H_113.size, .ref H_129.size, .ref H_145.size, .ref H_155.size, .int 0, .ref H_165.size, .int 0, .int 0, .int 0, .int 0, .int 0, .int 0, .int 0, .int 0, .int 0, .int 0, .ref H_175.size, .int 0, .int 0, .ref H_185.size, .int 0, .ref H_258.size, .int 0, .ref H_269.size, .ref H_280.size, .ref H_295.size, .int 0, .ref H_310.size, .ref H_321.size, .ref H_332.size, .ref H_343.size, .ref H_354.size, .ref H_365.size, .ref H_376.size, .ref H_387.size, .ref H_398.size, .null, .null, .null, .null, .null, .null, .int 0, .int 0, .int 0, .null, .null, .null, .int 0, .null, .null, .null])) H_409 := hraw_409
  have hkp_410 := hkp_403.put hr_409
  clear hh_407
  refine lv_aload_n hx hb dX14_init_316 rfl (lv_at hl 0 rfl) ?_
  clear hsz_400 htt_400
  have hsz_411 := hh_409.2.2.2.2.2.1
  have htt_411 := hh_409.2.2.2.2.2.2.1
  refine j7_newo (k := 15) (C := RX13) (T := TX13) (N := 50) (fs := [.null, .null, .null, .null, .null, .int 0, .null, .int 0, .null, .null, .int 0, .int 0, .null, .null, .null, .int 0, .null, .null, .int 0, .int 0, .int 0, .int 0, .null, .null, .null, .null, .null, .null, .null, .null, .int 0, .int 0, .int 0, .int 0, .int 0, .null, .int 0, .null, .int 0, .int 0, .int 0, .int 0, .int 0, .null, .null, .null, .int 0, .null, .null, .int 0]) hx hb htw jWc_wsX130 (fun k => ([(.array .int), (.array .int), (.array .int), (.array .int), (.array .int), .int, (.array .int), .int, (.array .int), (.array .int), .int, .int, (.array .int), (.array .boolean), (.array .int), .int, (.array .int), (.array .int), .boolean, .int, .int, .int, (.array .int), (.array .int), (.array .int), (.array .int), (.array .int), (.array .int), (.array .int), (.array .int), .int, .int, .int, .boolean, .int, (.array .int), .int, (.array .int), .int, .int, .int, .int, .int, (.array .int), (.array .int), (.array .int), .int, (.array .int), (.array .int), .int] : List FieldType).getD k .int) (by decide +kernel) hown (htw (.classLink RX14 119 RX13) (jWr_12 _ (List.mem_of_getElem? (i := 10) rfl))) (htw (.instantiable RX13 50) (jWr_12 _ (List.mem_of_getElem? (i := 11) rfl))) (htw (.initialized RX13) (jWr_12 _ (List.mem_of_getElem? (i := 12) rfl))) hK rfl (fun j hj => by rcases (by omega : j = 0 ∨ j = 1 ∨ j = 2 ∨ j = 3 ∨ j = 4 ∨ j = 5 ∨ j = 6 ∨ j = 7 ∨ j = 8 ∨ j = 9 ∨ j = 10 ∨ j = 11 ∨ j = 12 ∨ j = 13 ∨ j = 14 ∨ j = 15 ∨ j = 16 ∨ j = 17 ∨ j = 18 ∨ j = 19 ∨ j = 20 ∨ j = 21 ∨ j = 22 ∨ j = 23 ∨ j = 24 ∨ j = 25 ∨ j = 26 ∨ j = 27 ∨ j = 28 ∨ j = 29 ∨ j = 30 ∨ j = 31 ∨ j = 32 ∨ j = 33 ∨ j = 34 ∨ j = 35 ∨ j = 36 ∨ j = 37 ∨ j = 38 ∨ j = 39 ∨ j = 40 ∨ j = 41 ∨ j = 42 ∨ j = 43 ∨ j = 44 ∨ j = 45 ∨ j = 46 ∨ j = 47 ∨ j = 48 ∨ j = 49) with rfl | rfl | rfl | rfl | rfl | rfl | rfl | rfl | rfl | rfl | rfl | rfl | rfl | rfl | rfl | rfl | rfl | rfl | rfl | rfl | rfl | rfl | rfl | rfl | rfl | rfl | rfl | rfl | rfl | rfl | rfl | rfl | rfl | rfl | rfl | rfl | rfl | rfl | rfl | rfl | rfl | rfl | rfl | rfl | rfl | rfl | rfl | rfl | rfl | rfl <;> rfl) hh_409 hB (by rw [hRc]; omega) (by rw [hRs]; omega) dX14_init_317 (fun H_411 hraw_411 hfr_411 hnr_411 hh_411 => ?_)
  have hlt_412 := hraw_409.lt
  have hke_411 : jKe G_400 G_400 H_409 H_411 := jKe.raw hfr_411
  have hbr_411 : base ≤ H_409.size := Nat.le_trans hbs hh_409.1.1
  have hsy_411 : s.heap.size ≤ H_409.size := hh_409.1.1
  clear hh_409
  have hkp_413 := hkp_410.tr hke_411
  have hraw_414n := hke_411.nr hraw_409.lt hraw_404n
  have hraw_414 := hraw_409.kept (hke_411.1 _ hraw_409.lt)
  have hne_415 : r0 ≠ H_409.size := Nat.ne_of_lt hlt_412
  refine lv_dup hx hb dX14_init_320 rfl ?_
  clear hsz_411 htt_411
  have hsz_416 := hh_411.2.2.2.2.2.1
  have htt_416 := hh_411.2.2.2.2.2.2.1
  refine W.room (fun hrc_416 hrs_416 => ?_)
  refine va_callv (A0 := jA base) (H0 := s.heap) (va_runIN (As := []) (rest := [.ref H_409.size, .ref r0]) ⟨hx, hb, hml, hown, hts⟩ (uX13_init l dC dI ca base B hB hAp hB15 hB101 hB103 hB150 hB151 hB152 hB153 hB154 hB155 hB156 hB157 hB158 hB159 hB160 hB161 hB162 hB163 hB164 hB165 hB166 hB167 hB168 hB169 G_400 H_411 H_409.size LC LS) ⟨va_cnB 0 hts (jgW (jWr_14 _ (List.mem_of_getElem? (i := 6) rfl))) rfl rfl rfl (hG.2.2.1 RX14 121 yX13_init "ProofServerModel" (List.mem_of_getElem? (i := 1774) (by decide +kernel))) (htw (.initialized RX13) (jWr_12 _ (List.mem_of_getElem? (i := 12) rfl))) (by decide +kernel) ⟨by rw [← hR]; exact Nat.le_of_ble_eq_true rfl, by rw [← hR]; exact Nat.le_of_ble_eq_true rfl⟩, rfl, htw (.instanceMethod yX13_init) (jWr_14 _ (List.mem_of_getElem? (i := 5) rfl))⟩ ⟨fun a U g mk q => by obtain ⟨q0, q1, q2, qK, q10, q11, q12, q13, q14⟩ := q; exact ⟨q0, q1, q2, jG.calling g mk a qK, q10, q11, q12, q13, q14⟩, fun U hU hW => ⟨rfl, hU, hh_411.2.1, hG.step hW hU hh_411.1, hraw_411, hnr_411, hbr_411, jP.nil, (by omega), (by omega), trivial⟩⟩ rfl rfl hl.1 rfl (lv_room (Nat.le_of_ble_eq_true rfl)) dX14_init_321 ⟨by rw [hRc]; omega, by rw [hRs]; omega⟩) hh_411.1 (fun q _ h => h) (fun q h => h) (fun u_416 t_416 H_416 locs_416 ht_416 hvm_416 hr_417 hb_416 hz_416 hk_416 hS_416 => ?_)
  rw [ht_416] at hb_416
  obtain ⟨G_416, rfl⟩ : ∃ z, z = u_416 := ⟨_, rfl⟩
  try simp only at hb_416
  obtain ⟨⟨hb_4161, hb_4162, hb_4163, hb_4164, hb_4165, hb_4166⟩, hN_416, hgc_416, hbX_416⟩ := hb_416
  have hZ_416 : jN14 G_400 G_416 := fun a h => hN_416 a 14 0 h rfl
  try have hz14_416 : jN14 G0 G_416 := (hz14_400).tr hZ_416
  have hN_416 : (jNk [1, 2, 3, 4, 5, 6, 7, 8, 9, 10, 11, 12, 13, 17, 175]) G_400 G_416 := hN_416.sub (by decide)
  have hh_416 : jSt (dC, dI) B base G0 G_416 EX14_initW s.heap (((((((((((((((((((((((((((((((((((((((((((0 + 1) + 1) + 1) + 1) + 1) + (1)) + 1) + (1)) + 1) + 1) + 1) + 1) + 1) + 1) + 1) + 1) + 1) + 1) + 1) + 1) + 1) + (6)) + 1) + (6)) + 1) + (6)) + 1) + 1) + 1) + (6)) + 1) + (6)) + 1) + 1) + 1) + 1) + 1) + 1) + 1) + 1) + 1) + 1) + (28)) (((((((((((((((((((((((((((((((((((((((((((0 + 4000) + 20000) + 100000) + 3300) + 4) + (16)) + 4) + (16)) + 3100) + 3100) + 3100) + 3100) + 3100) + 3100) + 3100) + 3100) + 3100) + 3300) + 20) + 3) + 11) + (1700)) + 11) + (1700)) + 11) + (1700)) + 3100) + 1500) + 11) + (1700)) + 11) + (1700)) + 12) + 12) + 12) + 12) + 12) + 240) + 12) + 37200) + 12) + 50) + (720031)) [(H_46.size, 0, 3, .int qc_53), (H_46.size, 0, 0, .ref xa_53), (H_32.size, 0, 3, .int qc_39), (H_32.size, 0, 0, .ref xa_39)] [(H_129.size, 123, 3100, ca 1, (fun _ => 0)), (H_113.size, 122, 3100, ca 1, (fun _ => 0)), (H_23.size, 110, 3300, ca 1, (fun _ => 0))] [(jFz9, jDZ dC dI G_400), ([(201, 0)], jQc dC dI (ca 4) H_185.size 3 (va_up (va_up (va_up (fun _ => none) 0 (some H_187.size)) 1 (some H_208.size)) 2 (some H_227.size)))] H_416 locs_416 := (hh_411.callG hb_4161 hb_4162 hb_4163 hb_4164 hb_4165 hS_416 rfl (L1 := [(H_46.size, 0, 3, .int qc_53), (H_46.size, 0, 0, .ref xa_53), (H_32.size, 0, 3, .int qc_39), (H_32.size, 0, 0, .ref xa_39)]) [0, 1, 2, 3] rfl rfl (M1 := [(H_129.size, 123, 3100, ca 1, (fun _ => 0)), (H_113.size, 122, 3100, ca 1, (fun _ => 0)), (H_23.size, 110, 3300, ca 1, (fun _ => 0))]) [0, 1, 2] rfl rfl (I1 := [(jFz9, jDZ dC dI G_400), ([(201, 0)], jQc dC dI (ca 4) H_185.size 3 (va_up (va_up (va_up (fun _ => none) 0 (some H_187.size)) 1 (some H_208.size)) 2 (some H_227.size)))]) [0, 1] rfl rfl).more hb_4166
  have hNn_416 : (jNk [1, 2, 3, 4, 5, 6, 7, 8, 9, 10, 11, 12, 13, 17, 175]) G0 G_416 := (hNn_400).tr hN_416
  have hg_418 := hb_4162 _ _ hg_401
  have hg_419 := hb_4162 _ _ hg_402
  have hd_420 := jDZ.grow (hh_416.iv 0 rfl) hb_4162 hZ_416
  have hh_421 := hh_416.sub (L1 := [(H_46.size, 0, 3, .int qc_53), (H_46.size, 0, 0, .ref xa_53), (H_32.size, 0, 3, .int qc_39), (H_32.size, 0, 0, .ref xa_39)]) [0, 1, 2, 3] rfl (M1 := [(H_129.size, 123, 3100, ca 1, (fun _ => 0)), (H_113.size, 122, 3100, ca 1, (fun _ => 0)), (H_23.size, 110, 3300, ca 1, (fun _ => 0))]) [0, 1, 2] rfl (I1 := [([(201, 0)], jQc dC dI (ca 4) H_185.size 3 (va_up (va_up (va_up (fun _ => none) 0 (some H_187.size)) 1 (some H_208.size)) 2 (some H_227.size)))]) [1] rfl
  clear hh_416
  have hh_422 := hh_421.addI (jDZ.ie hd_420)
  clear hh_421
  try simp only at hr_417
  have hkp_424 := hkp_413.in hbX_416 hsy_411
  have hraw_425x := hbX_416.ke hraw_414.lt hne_415 hraw_414n
  have hraw_425 := hraw_414.kept hraw_425x.1
  refine j7_putRF hx hb hown hK hh_422 hB hAp hraw_425 hraw_425x.2 hbr0 (C := RX14) (T := TX14) (N := 74) rfl (i := 58) (by decide) (Nat.le_of_ble_eq_true rfl) hly_16_58 rfl hin2 rfl hlk_122 (ty := (.object "ProofServerModel$Kernel")) (v := .ref H_409.size) (by decide +kernel) rfl rfl dX14_init_324 (fun H_426 locs_426 hraw_426 hr_426 hh_426 => ?_)
  have hraw_426 : va_at (dC, dI) vwCl (r0, .inr (16, [.ref s.heap.size, .int 0, .ref H_7.size, .int 0, .int 0, .ref H_15.size, .int 0, .int 0, .int 0, .ref H_23.size, .int 0, .int 0, .int 0, .ref H_32.size, .ref H_46.size, .int (-1), .int 0, .ref H_63.size, .ref H_73.size, .ref H_83.size, .ref H_93.size, .ref H_103.size, .ref H_113.size, .ref H_129.size, .ref H_145.size, .ref H_155.size, .int 0, .ref H_165.size, .int 0, .int 0, .int 0, .int 0, .int 0, .int 0, .int 0, .int 0, .int 0, .int 0, .ref H_175.size, .int 0, .int 0, .ref H_185.size, .int 0, .ref H_258.size, .int 0, .ref H_269.size, .ref H_280.size, .ref H_295.size, .int 0, .ref H_310.size, .ref H_321.size, .ref H_332.size, .ref H_343.size, .ref H_354.size, .ref H_365.size, .ref H_376.size, .ref H_387.size, .ref H_398.size, .ref H_409.size, .null, .null, .null, .null, .null, .int 0, .int 0, .int 0, .null, .null, .null, .int 0, .null, .null, .null])) H_426 := hraw_426
  have hkp_427 := hkp_424.put hr_426
  clear hh_422
  refine lv_aload_n hx hb dX14_init_327 rfl (lv_at hl 0 rfl) ?_
  refine lv_sipush (v := 3100) hx hb dX14_init_328 (by decide) ?_
  clear hsz_416 htt_416 hrc_416 hrs_416
  have hsz_428 := hh_426.2.2.2.2.2.1
  have htt_428 := hh_426.2.2.2.2.2.2.1
  refine j7_newiK hx hb hK hh_426 hB (atype := .int) (ty := .int) (htw (.arrayClass .int) (jWr_3 _ (List.mem_of_getElem? (i := 20) rfl))) rfl rfl (fun _ h => h) hB101 1 rfl (by decide) (by decide) hbs (x := 3100) (by decide) (by omega) (fun j => by first | trivial | decide | rfl | exact Or.inl rfl | exact Or.inr (Or.inl (by decide)) | (refine ⟨?_, ?_⟩ <;> decide)) (by rw [hRc]; omega) (by rw [hRs]; omega) dX14_init_331 (fun H_428 hfr_428 hh_428 => ?_)
  have hh_428 : jSt (dC, dI) B base G0 (va_up G_416 H_426.size (some (101, 3100))) EX14_initW s.heap ((((((((((((((((((((((((((((((((((((((((((((0 + 1) + 1) + 1) + 1) + 1) + (1)) + 1) + (1)) + 1) + 1) + 1) + 1) + 1) + 1) + 1) + 1) + 1) + 1) + 1) + 1) + 1) + (6)) + 1) + (6)) + 1) + (6)) + 1) + 1) + 1) + (6)) + 1) + (6)) + 1) + 1) + 1) + 1) + 1) + 1) + 1) + 1) + 1) + 1) + (28)) + 1) ((((((((((((((((((((((((((((((((((((((((((((0 + 4000) + 20000) + 100000) + 3300) + 4) + (16)) + 4) + (16)) + 3100) + 3100) + 3100) + 3100) + 3100) + 3100) + 3100) + 3100) + 3100) + 3300) + 20) + 3) + 11) + (1700)) + 11) + (1700)) + 11) + (1700)) + 3100) + 1500) + 11) + (1700)) + 11) + (1700)) + 12) + 12) + 12) + 12) + 12) + 240) + 12) + 37200) + 12) + 50) + (720031)) + 3100) [(H_46.size, 0, 3, .int qc_53), (H_46.size, 0, 0, .ref xa_53), (H_32.size, 0, 3, .int qc_39), (H_32.size, 0, 0, .ref xa_39)] [(H_129.size, 123, 3100, ca 1, (fun _ => 0)), (H_113.size, 122, 3100, ca 1, (fun _ => 0)), (H_23.size, 110, 3300, ca 1, (fun _ => 0))] [(jFz9, jDZ dC dI G_416), ([(201, 0)], jQc dC dI (ca 4) H_185.size 3 (va_up (va_up (va_up (fun _ => none) 0 (some H_187.size)) 1 (some H_208.size)) 2 (some H_227.size)))] H_428 locs_426 := hh_428
  have hZ_428 : jN14 G_416 (va_up G_416 H_426.size (some (101, 3100))) := jN14.new (by decide)
  have hN_428 : (jNk [1, 2, 3, 4, 5, 6, 7, 8, 9, 10, 11, 12, 13, 17, 175]) G_416 (va_up G_416 H_426.size (some (101, 3100))) := jNk.new (by decide)
  have hgn_428 : (va_up G_416 H_426.size (some (101, 3100))) H_426.size = some (101, 3100) := jUp_self
  have hle_428 : jLe G_416 (va_up G_416 H_426.size (some (101, 3100))) := jLe.new hh_426.2.1.fresh
  have hke_428 : jKe G_416 (va_up G_416 H_426.size (some (101, 3100))) H_426 H_428 := jKe.new hfr_428
  have hsy_428 : s.heap.size ≤ H_426.size := hh_426.1.1
  generalize (va_up G_416 H_426.size (some (101, 3100))) = G_428 at hN_428 hgn_428 hle_428 hke_428 hh_428 hZ_428
  clear hh_426
  have hNn_428 : (jNk [1, 2, 3, 4, 5, 6, 7, 8, 9, 10, 11, 12, 13, 17, 175]) G0 G_428 := (hNn_416).tr hN_428
  have hg_429 := hle_428 _ _ hg_418
  have hg_430 := hle_428 _ _ hg_419
  have hkp_431 := hkp_427.tr hke_428
  have hraw_432n := hke_428.nr hraw_426.lt hraw_425x.2
  have hraw_432 := hraw_426.kept (hke_428.1 _ hraw_426.lt)
  try have hz14_428 : jN14 G0 G_428 := (hz14_416).tr hZ_428
  have hd_433 := jDZ.grow (hh_428.iv 0 rfl) hle_428 hZ_428
  have hh_434 := hh_428.sub (L1 := [(H_46.size, 0, 3, .int qc_53), (H_46.size, 0, 0, .ref xa_53), (H_32.size, 0, 3, .int qc_39), (H_32.size, 0, 0, .ref xa_39)]) [0, 1, 2, 3] rfl (M1 := [(H_129.size, 123, 3100, ca 1, (fun _ => 0)), (H_113.size, 122, 3100, ca 1, (fun _ => 0)), (H_23.size, 110, 3300, ca 1, (fun _ => 0))]) [0, 1, 2] rfl (I1 := [([(201, 0)], jQc dC dI (ca 4) H_185.size 3 (va_up (va_up (va_up (fun _ => none) 0 (some H_187.size)) 1 (some H_208.size)) 2 (some H_227.size)))]) [1] rfl
  clear hh_428
  have hh_435 := hh_434.addI (jDZ.ie hd_433)
  clear hh_434
  refine j7_putRF hx hb hown hK hh_435 hB hAp hraw_432 hraw_432n hbr0 (C := RX14) (T := TX14) (N := 74) rfl (i := 59) (by decide) (Nat.le_of_ble_eq_true rfl) hly_16_59 rfl hin2 rfl hlk_126 (ty := (.array .int)) (v := .ref H_426.size) (by decide +kernel) rfl rfl dX14_init_333 (fun H_437 locs_437 hraw_437 hr_437 hh_437 => ?_)
  have hraw_437 : va_at (dC, dI) vwCl (r0, .inr (16, [.ref s.heap.size, .int 0, .ref H_7.size, .int 0, .int 0, .ref H_15.size, .int 0, .int 0, .int 0, .ref H_23.size, .int 0, .int 0, .int 0, .ref H_32.size, .ref H_46.size, .int (-1), .int 0, .ref H_63.size, .ref H_73.size, .ref H_83.size, .ref H_93.size, .ref H_103.size, .ref H_113.size, .ref H_129.size, .ref H_145.size, .ref H_155.size, .int 0, .ref H_165.size, .int 0, .int 0, .int 0, .int 0, .int 0, .int 0, .int 0, .int 0, .int 0, .int 0, .ref H_175.size, .int 0, .int 0, .ref H_185.size, .int 0, .ref H_258.size, .int 0, .ref H_269.size, .ref H_280.size, .ref H_295.size, .int 0, .ref H_310.size, .ref H_321.size, .ref H_332.size, .ref H_343.size, .ref H_354.size, .ref H_365.size, .ref H_376.size, .ref H_387.size, .ref H_398.size, .ref H_409.size, .ref H_426.size, .null, .null, .null, .null, .int 0, .int 0, .int 0, .null, .null, .null, .int 0, .null, .null, .null])) H_437 := hraw_437
  have hkp_438 := hkp_431.put hr_437
  clear hh_435
  refine lv_aload_n hx hb dX14_init_336 rfl (lv_at hl 0 rfl) ?_
  refine lv_iconst (v := 2) hx hb dX14_init_337 (by decide) ?_
  clear hsz_428 htt_428
  have hsz_439 := hh_437.2.2.2.2.2.1
  have htt_439 := hh_437.2.2.2.2.2.2.1
  have hsy_439 : s.heap.size ≤ H_437.size := hh_437.1.1
  refine j7_newqK hx hb hown (htw (.classLink RX14 71 RX12) (jWr_11 _ (List.mem_of_getElem? (i := 16) rfl))) hK6.1 hK2 hh_437 hB hB208 0 rfl (by decide) hbs (x := 2) (by decide) (by omega) (fun _ => Or.inl rfl) (by rw [hRc]; omega) (by rw [hRs]; omega) dX14_init_338 (fun H_439 hfr_439 hh_439 hqn_439 => ?_)
  have hh_439 : jSt (dC, dI) B base G0 (va_up G_428 H_437.size (some (208, 2))) EX14_initW s.heap (((((((((((((((((((((((((((((((((((((((((((((0 + 1) + 1) + 1) + 1) + 1) + (1)) + 1) + (1)) + 1) + 1) + 1) + 1) + 1) + 1) + 1) + 1) + 1) + 1) + 1) + 1) + 1) + (6)) + 1) + (6)) + 1) + (6)) + 1) + 1) + 1) + (6)) + 1) + (6)) + 1) + 1) + 1) + 1) + 1) + 1) + 1) + 1) + 1) + 1) + (28)) + 1) + 1) (((((((((((((((((((((((((((((((((((((((((((((0 + 4000) + 20000) + 100000) + 3300) + 4) + (16)) + 4) + (16)) + 3100) + 3100) + 3100) + 3100) + 3100) + 3100) + 3100) + 3100) + 3100) + 3300) + 20) + 3) + 11) + (1700)) + 11) + (1700)) + 11) + (1700)) + 3100) + 1500) + 11) + (1700)) + 11) + (1700)) + 12) + 12) + 12) + 12) + 12) + 240) + 12) + 37200) + 12) + 50) + (720031)) + 3100) + 2) [(H_46.size, 0, 3, .int qc_53), (H_46.size, 0, 0, .ref xa_53), (H_32.size, 0, 3, .int qc_39), (H_32.size, 0, 0, .ref xa_39)] [(H_129.size, 123, 3100, ca 1, (fun _ => 0)), (H_113.size, 122, 3100, ca 1, (fun _ => 0)), (H_23.size, 110, 3300, ca 1, (fun _ => 0))] [(jFz9, jDZ dC dI G_428), ([(201, 0)], jQc dC dI (ca 4) H_185.size 3 (va_up (va_up (va_up (fun _ => none) 0 (some H_187.size)) 1 (some H_208.size)) 2 (some H_227.size)))] H_439 locs_437 := hh_439
  have hZ_439 : jN14 G_428 (va_up G_428 H_437.size (some (208, 2))) := jN14.new (by decide)
  have hN_439 : (jNk [1, 2, 3, 4, 5, 6, 7, 8, 9, 10, 11, 12, 13, 17, 175]) G_428 (va_up G_428 H_437.size (some (208, 2))) := jNk.new (by decide)
  have hgn_439 : (va_up G_428 H_437.size (some (208, 2))) H_437.size = some (208, 2) := jUp_self
  have hle_439 : jLe G_428 (va_up G_428 H_437.size (some (208, 2))) := jLe.new hh_437.2.1.fresh
  have hke_439 : jKe G_428 (va_up G_428 H_437.size (some (208, 2))) H_437 H_439 := jKe.new hfr_439
  have hsy_439 : s.heap.size ≤ H_437.size := hh_437.1.1
  generalize (va_up G_428 H_437.size (some (208, 2))) = G_439 at hN_439 hgn_439 hle_439 hke_439 hh_439 hZ_439
  clear hh_437
  have hNn_439 : (jNk [1, 2, 3, 4, 5, 6, 7, 8, 9, 10, 11, 12, 13, 17, 175]) G0 G_439 := (hNn_428).tr hN_439
  have hg_440 := hle_439 _ _ hg_429
  have hg_441 := hle_439 _ _ hg_430
  have hkp_442 := hkp_438.tr hke_439
  have hraw_443n := hke_439.nr hraw_437.lt hraw_432n
  have hraw_443 := hraw_437.kept (hke_439.1 _ hraw_437.lt)
  try have hz14_439 : jN14 G0 G_439 := (hz14_428).tr hZ_439
  have hd_444 := jDZ.grow (hh_439.iv 0 rfl) hle_439 hZ_439
  have hh_445 := hh_439.sub (L1 := [(H_46.size, 0, 3, .int qc_53), (H_46.size, 0, 0, .ref xa_53), (H_32.size, 0, 3, .int qc_39), (H_32.size, 0, 0, .ref xa_39)]) [0, 1, 2, 3] rfl (M1 := [(H_129.size, 123, 3100, ca 1, (fun _ => 0)), (H_113.size, 122, 3100, ca 1, (fun _ => 0)), (H_23.size, 110, 3300, ca 1, (fun _ => 0))]) [0, 1, 2] rfl (I1 := [([(201, 0)], jQc dC dI (ca 4) H_185.size 3 (va_up (va_up (va_up (fun _ => none) 0 (some H_187.size)) 1 (some H_208.size)) 2 (some H_227.size)))]) [1] rfl
  clear hh_439
  have hh_446 := hh_445.addI (jDZ.ie hd_444)
  clear hh_445
  have hh_448 := hh_446.addI (jQc.ie hqn_439 hgn_439 (by decide) (by decide))
  clear hh_446
  refine j7_putRF hx hb hown hK hh_448 hB hAp hraw_443 hraw_443n hbr0 (C := RX14) (T := TX14) (N := 74) rfl (i := 60) (by decide) (Nat.le_of_ble_eq_true rfl) hly_16_60 rfl hin2 rfl hlk_129 (ty := (.array (.object "ProofServerModel$Document"))) (v := .ref H_437.size) (by decide +kernel) rfl rfl dX14_init_341 (fun H_449 locs_449 hraw_449 hr_449 hh_449 => ?_)
  have hraw_449 : va_at (dC, dI) vwCl (r0, .inr (16, [.ref s.heap.size, .int 0, .ref H_7.size, .int 0, .int 0, .ref H_15.size, .int 0, .int 0, .int 0, .ref H_23.size, .int 0, .int 0, .int 0, .ref H_32.size, .ref H_46.size, .int (-1), .int 0, .ref H_63.size, .ref H_73.size, .ref H_83.size, .ref H_93.size, .ref H_103.size, .ref H_113.size, .ref H_129.size, .ref H_145.size, .ref H_155.size, .int 0, .ref H_165.size, .int 0, .int 0, .int 0, .int 0, .int 0, .int 0, .int 0, .int 0, .int 0, .int 0, .ref H_175.size, .int 0, .int 0, .ref H_185.size, .int 0, .ref H_258.size, .int 0, .ref H_269.size, .ref H_280.size, .ref H_295.size, .int 0, .ref H_310.size, .ref H_321.size, .ref H_332.size, .ref H_343.size, .ref H_354.size, .ref H_365.size, .ref H_376.size, .ref H_387.size, .ref H_398.size, .ref H_409.size, .ref H_426.size, .ref H_437.size, .null, .null, .null, .int 0, .int 0, .int 0, .null, .null, .null, .int 0, .null, .null, .null])) H_449 := hraw_449
  have hkp_450 := hkp_442.put hr_449
  clear hh_448
  refine lv_aload_n hx hb dX14_init_344 rfl (lv_at hl 0 rfl) ?_
  refine lv_iconst (v := 2) hx hb dX14_init_345 (by decide) ?_
  clear hsz_439 htt_439
  have hsz_451 := hh_449.2.2.2.2.2.1
  have htt_451 := hh_449.2.2.2.2.2.2.1
  refine j7_newiK hx hb hK hh_449 hB (atype := .int) (ty := .int) (htw (.arrayClass .int) (jWr_3 _ (List.mem_of_getElem? (i := 20) rfl))) rfl rfl (fun _ h => h) hB207 1 rfl (by decide) (by decide) hbs (x := 2) (by decide) (by omega) (fun j => by first | trivial | decide | rfl | exact Or.inl rfl | exact Or.inr (Or.inl (by decide)) | (refine ⟨?_, ?_⟩ <;> decide)) (by rw [hRc]; omega) (by rw [hRs]; omega) dX14_init_346 (fun H_451 hfr_451 hh_451 => ?_)
  have hh_451 : jSt (dC, dI) B base G0 (va_up G_439 H_449.size (some (207, 2))) EX14_initW s.heap ((((((((((((((((((((((((((((((((((((((((((((((0 + 1) + 1) + 1) + 1) + 1) + (1)) + 1) + (1)) + 1) + 1) + 1) + 1) + 1) + 1) + 1) + 1) + 1) + 1) + 1) + 1) + 1) + (6)) + 1) + (6)) + 1) + (6)) + 1) + 1) + 1) + (6)) + 1) + (6)) + 1) + 1) + 1) + 1) + 1) + 1) + 1) + 1) + 1) + 1) + (28)) + 1) + 1) + 1) ((((((((((((((((((((((((((((((((((((((((((((((0 + 4000) + 20000) + 100000) + 3300) + 4) + (16)) + 4) + (16)) + 3100) + 3100) + 3100) + 3100) + 3100) + 3100) + 3100) + 3100) + 3100) + 3300) + 20) + 3) + 11) + (1700)) + 11) + (1700)) + 11) + (1700)) + 3100) + 1500) + 11) + (1700)) + 11) + (1700)) + 12) + 12) + 12) + 12) + 12) + 240) + 12) + 37200) + 12) + 50) + (720031)) + 3100) + 2) + 2) [(H_46.size, 0, 3, .int qc_53), (H_46.size, 0, 0, .ref xa_53), (H_32.size, 0, 3, .int qc_39), (H_32.size, 0, 0, .ref xa_39)] [(H_129.size, 123, 3100, ca 1, (fun _ => 0)), (H_113.size, 122, 3100, ca 1, (fun _ => 0)), (H_23.size, 110, 3300, ca 1, (fun _ => 0))] [([(208, 0)], jQc dC dI (ca 4) H_437.size 2 (fun _ => none)), (jFz9, jDZ dC dI G_439), ([(201, 0)], jQc dC dI (ca 4) H_185.size 3 (va_up (va_up (va_up (fun _ => none) 0 (some H_187.size)) 1 (some H_208.size)) 2 (some H_227.size)))] H_451 locs_449 := hh_451
  have hZ_451 : jN14 G_439 (va_up G_439 H_449.size (some (207, 2))) := jN14.new (by decide)
  have hN_451 : (jNk [1, 2, 3, 4, 5, 6, 7, 8, 9, 10, 11, 12, 13, 17, 175]) G_439 (va_up G_439 H_449.size (some (207, 2))) := jNk.new (by decide)
  have hgn_451 : (va_up G_439 H_449.size (some (207, 2))) H_449.size = some (207, 2) := jUp_self
  have hle_451 : jLe G_439 (va_up G_439 H_449.size (some (207, 2))) := jLe.new hh_449.2.1.fresh
  have hke_451 : jKe G_439 (va_up G_439 H_449.size (some (207, 2))) H_449 H_451 := jKe.new hfr_451
  have hsy_451 : s.heap.size ≤ H_449.size := hh_449.1.1
  generalize (va_up G_439 H_449.size (some (207, 2))) = G_451 at hN_451 hgn_451 hle_451 hke_451 hh_451 hZ_451
  clear hh_449
  have hNn_451 : (jNk [1, 2, 3, 4, 5, 6, 7, 8, 9, 10, 11, 12, 13, 17, 175]) G0 G_451 := (hNn_439).tr hN_451
  have hg_452 := hle_451 _ _ hg_440
  have hg_453 := hle_451 _ _ hg_441
  have hkp_454 := hkp_450.tr hke_451
  have hraw_455n := hke_451.nr hraw_449.lt hraw_443n
  have hraw_455 := hraw_449.kept (hke_451.1 _ hraw_449.lt)
  try have hz14_451 : jN14 G0 G_451 := (hz14_439).tr hZ_451
  have hd_457 := jDZ.grow (hh_451.iv 1 rfl) hle_451 hZ_451
  have hh_458 := hh_451.sub (L1 := [(H_46.size, 0, 3, .int qc_53), (H_46.size, 0, 0, .ref xa_53), (H_32.size, 0, 3, .int qc_39), (H_32.size, 0, 0, .ref xa_39)]) [0, 1, 2, 3] rfl (M1 := [(H_129.size, 123, 3100, ca 1, (fun _ => 0)), (H_113.size, 122, 3100, ca 1, (fun _ => 0)), (H_23.size, 110, 3300, ca 1, (fun _ => 0))]) [0, 1, 2] rfl (I1 := [([(208, 0)], jQc dC dI (ca 4) H_437.size 2 (fun _ => none)), ([(201, 0)], jQc dC dI (ca 4) H_185.size 3 (va_up (va_up (va_up (fun _ => none) 0 (some H_187.size)) 1 (some H_208.size)) 2 (some H_227.size)))]) [0, 2] rfl
  clear hh_451
  have hh_459 := hh_458.addI (jDZ.ie hd_457)
  clear hh_458
  refine j7_putRF hx hb hown hK hh_459 hB hAp hraw_455 hraw_455n hbr0 (C := RX14) (T := TX14) (N := 74) rfl (i := 61) (by decide) (Nat.le_of_ble_eq_true rfl) hly_16_61 rfl hin2 rfl hlk_132 (ty := (.array .int)) (v := .ref H_449.size) (by decide +kernel) rfl rfl dX14_init_348 (fun H_461 locs_461 hraw_461 hr_461 hh_461 => ?_)
  have hraw_461 : va_at (dC, dI) vwCl (r0, .inr (16, [.ref s.heap.size, .int 0, .ref H_7.size, .int 0, .int 0, .ref H_15.size, .int 0, .int 0, .int 0, .ref H_23.size, .int 0, .int 0, .int 0, .ref H_32.size, .ref H_46.size, .int (-1), .int 0, .ref H_63.size, .ref H_73.size, .ref H_83.size, .ref H_93.size, .ref H_103.size, .ref H_113.size, .ref H_129.size, .ref H_145.size, .ref H_155.size, .int 0, .ref H_165.size, .int 0, .int 0, .int 0, .int 0, .int 0, .int 0, .int 0, .int 0, .int 0, .int 0, .ref H_175.size, .int 0, .int 0, .ref H_185.size, .int 0, .ref H_258.size, .int 0, .ref H_269.size, .ref H_280.size, .ref H_295.size, .int 0, .ref H_310.size, .ref H_321.size, .ref H_332.size, .ref H_343.size, .ref H_354.size, .ref H_365.size, .ref H_376.size, .ref H_387.size, .ref H_398.size, .ref H_409.size, .ref H_426.size, .ref H_437.size, .ref H_449.size, .null, .null, .int 0, .int 0, .int 0, .null, .null, .null, .int 0, .null, .null, .null])) H_461 := hraw_461
  have hkp_462 := hkp_454.put hr_461
  clear hh_459
  refine lv_aload_n hx hb dX14_init_351 rfl (lv_at hl 0 rfl) ?_
  refine lv_iconst (v := 2) hx hb dX14_init_352 (by decide) ?_
  clear hsz_451 htt_451
  have hsz_463 := hh_461.2.2.2.2.2.1
  have htt_463 := hh_461.2.2.2.2.2.2.1
  refine j7_newiK hx hb hK hh_461 hB (atype := .int) (ty := .int) (htw (.arrayClass .int) (jWr_3 _ (List.mem_of_getElem? (i := 20) rfl))) rfl rfl (fun _ h => h) hB115 1 rfl (by decide) (by decide) hbs (x := 2) (by decide) (by omega) (fun j => by first | trivial | decide | rfl | exact Or.inl rfl | exact Or.inr (Or.inl (by decide)) | (refine ⟨?_, ?_⟩ <;> decide)) (by rw [hRc]; omega) (by rw [hRs]; omega) dX14_init_353 (fun H_463 hfr_463 hh_463 => ?_)
  have hh_463 : jSt (dC, dI) B base G0 (va_up G_451 H_461.size (some (115, 2))) EX14_initW s.heap (((((((((((((((((((((((((((((((((((((((((((((((0 + 1) + 1) + 1) + 1) + 1) + (1)) + 1) + (1)) + 1) + 1) + 1) + 1) + 1) + 1) + 1) + 1) + 1) + 1) + 1) + 1) + 1) + (6)) + 1) + (6)) + 1) + (6)) + 1) + 1) + 1) + (6)) + 1) + (6)) + 1) + 1) + 1) + 1) + 1) + 1) + 1) + 1) + 1) + 1) + (28)) + 1) + 1) + 1) + 1) (((((((((((((((((((((((((((((((((((((((((((((((0 + 4000) + 20000) + 100000) + 3300) + 4) + (16)) + 4) + (16)) + 3100) + 3100) + 3100) + 3100) + 3100) + 3100) + 3100) + 3100) + 3100) + 3300) + 20) + 3) + 11) + (1700)) + 11) + (1700)) + 11) + (1700)) + 3100) + 1500) + 11) + (1700)) + 11) + (1700)) + 12) + 12) + 12) + 12) + 12) + 240) + 12) + 37200) + 12) + 50) + (720031)) + 3100) + 2) + 2) + 2) [(H_46.size, 0, 3, .int qc_53), (H_46.size, 0, 0, .ref xa_53), (H_32.size, 0, 3, .int qc_39), (H_32.size, 0, 0, .ref xa_39)] [(H_129.size, 123, 3100, ca 1, (fun _ => 0)), (H_113.size, 122, 3100, ca 1, (fun _ => 0)), (H_23.size, 110, 3300, ca 1, (fun _ => 0))] [(jFz9, jDZ dC dI G_451), ([(208, 0)], jQc dC dI (ca 4) H_437.size 2 (fun _ => none)), ([(201, 0)], jQc dC dI (ca 4) H_185.size 3 (va_up (va_up (va_up (fun _ => none) 0 (some H_187.size)) 1 (some H_208.size)) 2 (some H_227.size)))] H_463 locs_461 := hh_463
  have hZ_463 : jN14 G_451 (va_up G_451 H_461.size (some (115, 2))) := jN14.new (by decide)
  have hN_463 : (jNk [1, 2, 3, 4, 5, 6, 7, 8, 9, 10, 11, 12, 13, 17, 175]) G_451 (va_up G_451 H_461.size (some (115, 2))) := jNk.new (by decide)
  have hgn_463 : (va_up G_451 H_461.size (some (115, 2))) H_461.size = some (115, 2) := jUp_self
  have hle_463 : jLe G_451 (va_up G_451 H_461.size (some (115, 2))) := jLe.new hh_461.2.1.fresh
  have hke_463 : jKe G_451 (va_up G_451 H_461.size (some (115, 2))) H_461 H_463 := jKe.new hfr_463
  have hsy_463 : s.heap.size ≤ H_461.size := hh_461.1.1
  generalize (va_up G_451 H_461.size (some (115, 2))) = G_463 at hN_463 hgn_463 hle_463 hke_463 hh_463 hZ_463
  clear hh_461
  have hNn_463 : (jNk [1, 2, 3, 4, 5, 6, 7, 8, 9, 10, 11, 12, 13, 17, 175]) G0 G_463 := (hNn_451).tr hN_463
  have hg_464 := hle_463 _ _ hg_452
  have hg_465 := hle_463 _ _ hg_453
  have hkp_466 := hkp_462.tr hke_463
  have hraw_467n := hke_463.nr hraw_461.lt hraw_455n
  have hraw_467 := hraw_461.kept (hke_463.1 _ hraw_461.lt)
  try have hz14_463 : jN14 G0 G_463 := (hz14_451).tr hZ_463
  have hd_468 := jDZ.grow (hh_463.iv 0 rfl) hle_463 hZ_463
  have hh_469 := hh_463.sub (L1 := [(H_46.size, 0, 3, .int qc_53), (H_46.size, 0, 0, .ref xa_53), (H_32.size, 0, 3, .int qc_39), (H_32.size, 0, 0, .ref xa_39)]) [0, 1, 2, 3] rfl (M1 := [(H_129.size, 123, 3100, ca 1, (fun _ => 0)), (H_113.size, 122, 3100, ca 1, (fun _ => 0)), (H_23.size, 110, 3300, ca 1, (fun _ => 0))]) [0, 1, 2] rfl (I1 := [([(208, 0)], jQc dC dI (ca 4) H_437.size 2 (fun _ => none)), ([(201, 0)], jQc dC dI (ca 4) H_185.size 3 (va_up (va_up (va_up (fun _ => none) 0 (some H_187.size)) 1 (some H_208.size)) 2 (some H_227.size)))]) [1, 2] rfl
  clear hh_463
  have hh_470 := hh_469.addI (jDZ.ie hd_468)
  clear hh_469
  refine j7_putRF hx hb hown hK hh_470 hB hAp hraw_467 hraw_467n hbr0 (C := RX14) (T := TX14) (N := 74) rfl (i := 62) (by decide) (Nat.le_of_ble_eq_true rfl) hly_16_62 rfl hin2 rfl hlk_135 (ty := (.array .int)) (v := .ref H_461.size) (by decide +kernel) rfl rfl dX14_init_355 (fun H_473 locs_473 hraw_473 hr_473 hh_473 => ?_)
  have hraw_473 : va_at (dC, dI) vwCl (r0, .inr (16, [.ref s.heap.size, .int 0, .ref H_7.size, .int 0, .int 0, .ref H_15.size, .int 0, .int 0, .int 0, .ref H_23.size, .int 0, .int 0, .int 0, .ref H_32.size, .ref H_46.size, .int (-1), .int 0, .ref H_63.size, .ref H_73.size, .ref H_83.size, .ref H_93.size, .ref H_103.size, .ref H_113.size, .ref H_129.size, .ref H_145.size, .ref H_155.size, .int 0, .ref H_165.size, .int 0, .int 0, .int 0, .int 0, .int 0, .int 0, .int 0, .int 0, .int 0, .int 0, .ref H_175.size, .int 0, .int 0, .ref H_185.size, .int 0, .ref H_258.size, .int 0, .ref H_269.size, .ref H_280.size, .ref H_295.size, .int 0, .ref H_310.size, .ref H_321.size, .ref H_332.size, .ref H_343.size, .ref H_354.size, .ref H_365.size, .ref H_376.size, .ref H_387.size, .ref H_398.size, .ref H_409.size, .ref H_426.size, .ref H_437.size, .ref H_449.size, .ref H_461.size, .null, .int 0, .int 0, .int 0, .null, .null, .null, .int 0, .null, .null, .null])) H_473 := hraw_473
  have hkp_474 := hkp_466.put hr_473
  clear hh_470
  refine lv_aload_n hx hb dX14_init_358 rfl (lv_at hl 0 rfl) ?_
  refine lv_iconst (v := 2) hx hb dX14_init_359 (by decide) ?_
  clear hsz_463 htt_463
  have hsz_475 := hh_473.2.2.2.2.2.1
  have htt_475 := hh_473.2.2.2.2.2.2.1
  refine j7_newiK hx hb hK hh_473 hB (atype := .boolean) (ty := .boolean) (htw (.arrayClass .boolean) (jWr_11 _ (List.mem_of_getElem? (i := 11) rfl))) rfl rfl (fun _ h => h) hB105 3 rfl (by decide) (by decide) hbs (x := 2) (by decide) (by omega) (fun j => by first | trivial | decide | rfl | exact Or.inl rfl | exact Or.inr (Or.inl (by decide)) | (refine ⟨?_, ?_⟩ <;> decide)) (by rw [hRc]; omega) (by rw [hRs]; omega) dX14_init_360 (fun H_475 hfr_475 hh_475 => ?_)
  have hh_475 : jSt (dC, dI) B base G0 (va_up G_463 H_473.size (some (105, 2))) EX14_initW s.heap ((((((((((((((((((((((((((((((((((((((((((((((((0 + 1) + 1) + 1) + 1) + 1) + (1)) + 1) + (1)) + 1) + 1) + 1) + 1) + 1) + 1) + 1) + 1) + 1) + 1) + 1) + 1) + 1) + (6)) + 1) + (6)) + 1) + (6)) + 1) + 1) + 1) + (6)) + 1) + (6)) + 1) + 1) + 1) + 1) + 1) + 1) + 1) + 1) + 1) + 1) + (28)) + 1) + 1) + 1) + 1) + 1) ((((((((((((((((((((((((((((((((((((((((((((((((0 + 4000) + 20000) + 100000) + 3300) + 4) + (16)) + 4) + (16)) + 3100) + 3100) + 3100) + 3100) + 3100) + 3100) + 3100) + 3100) + 3100) + 3300) + 20) + 3) + 11) + (1700)) + 11) + (1700)) + 11) + (1700)) + 3100) + 1500) + 11) + (1700)) + 11) + (1700)) + 12) + 12) + 12) + 12) + 12) + 240) + 12) + 37200) + 12) + 50) + (720031)) + 3100) + 2) + 2) + 2) + 2) [(H_46.size, 0, 3, .int qc_53), (H_46.size, 0, 0, .ref xa_53), (H_32.size, 0, 3, .int qc_39), (H_32.size, 0, 0, .ref xa_39)] [(H_129.size, 123, 3100, ca 1, (fun _ => 0)), (H_113.size, 122, 3100, ca 1, (fun _ => 0)), (H_23.size, 110, 3300, ca 1, (fun _ => 0))] [(jFz9, jDZ dC dI G_463), ([(208, 0)], jQc dC dI (ca 4) H_437.size 2 (fun _ => none)), ([(201, 0)], jQc dC dI (ca 4) H_185.size 3 (va_up (va_up (va_up (fun _ => none) 0 (some H_187.size)) 1 (some H_208.size)) 2 (some H_227.size)))] H_475 locs_473 := hh_475
  have hZ_475 : jN14 G_463 (va_up G_463 H_473.size (some (105, 2))) := jN14.new (by decide)
  have hN_475 : (jNk [1, 2, 3, 4, 5, 6, 7, 8, 9, 10, 11, 12, 13, 17, 175]) G_463 (va_up G_463 H_473.size (some (105, 2))) := jNk.new (by decide)
  have hgn_475 : (va_up G_463 H_473.size (some (105, 2))) H_473.size = some (105, 2) := jUp_self
  have hle_475 : jLe G_463 (va_up G_463 H_473.size (some (105, 2))) := jLe.new hh_473.2.1.fresh
  have hke_475 : jKe G_463 (va_up G_463 H_473.size (some (105, 2))) H_473 H_475 := jKe.new hfr_475
  have hsy_475 : s.heap.size ≤ H_473.size := hh_473.1.1
  generalize (va_up G_463 H_473.size (some (105, 2))) = G_475 at hN_475 hgn_475 hle_475 hke_475 hh_475 hZ_475
  clear hh_473
  have hNn_475 : (jNk [1, 2, 3, 4, 5, 6, 7, 8, 9, 10, 11, 12, 13, 17, 175]) G0 G_475 := (hNn_463).tr hN_475
  have hg_476 := hle_475 _ _ hg_464
  have hg_477 := hle_475 _ _ hg_465
  have hkp_478 := hkp_474.tr hke_475
  have hraw_479n := hke_475.nr hraw_473.lt hraw_467n
  have hraw_479 := hraw_473.kept (hke_475.1 _ hraw_473.lt)
  try have hz14_475 : jN14 G0 G_475 := (hz14_463).tr hZ_475
  have hd_480 := jDZ.grow (hh_475.iv 0 rfl) hle_475 hZ_475
  have hh_481 := hh_475.sub (L1 := [(H_46.size, 0, 3, .int qc_53), (H_46.size, 0, 0, .ref xa_53), (H_32.size, 0, 3, .int qc_39), (H_32.size, 0, 0, .ref xa_39)]) [0, 1, 2, 3] rfl (M1 := [(H_129.size, 123, 3100, ca 1, (fun _ => 0)), (H_113.size, 122, 3100, ca 1, (fun _ => 0)), (H_23.size, 110, 3300, ca 1, (fun _ => 0))]) [0, 1, 2] rfl (I1 := [([(208, 0)], jQc dC dI (ca 4) H_437.size 2 (fun _ => none)), ([(201, 0)], jQc dC dI (ca 4) H_185.size 3 (va_up (va_up (va_up (fun _ => none) 0 (some H_187.size)) 1 (some H_208.size)) 2 (some H_227.size)))]) [1, 2] rfl
  clear hh_475
  have hh_482 := hh_481.addI (jDZ.ie hd_480)
  clear hh_481
  refine j7_putRF hx hb hown hK hh_482 hB hAp hraw_479 hraw_479n hbr0 (C := RX14) (T := TX14) (N := 74) rfl (i := 63) (by decide) (Nat.le_of_ble_eq_true rfl) hly_16_63 rfl hin2 rfl hlk_138 (ty := (.array .boolean)) (v := .ref H_473.size) (by decide +kernel) rfl rfl dX14_init_362 (fun H_485 locs_485 hraw_485 hr_485 hh_485 => ?_)
  have hraw_485 : va_at (dC, dI) vwCl (r0, .inr (16, [.ref s.heap.size, .int 0, .ref H_7.size, .int 0, .int 0, .ref H_15.size, .int 0, .int 0, .int 0, .ref H_23.size, .int 0, .int 0, .int 0, .ref H_32.size, .ref H_46.size, .int (-1), .int 0, .ref H_63.size, .ref H_73.size, .ref H_83.size, .ref H_93.size, .ref H_103.size, .ref H_113.size, .ref H_129.size, .ref H_145.size, .ref H_155.size, .int 0, .ref H_165.size, .int 0, .int 0, .int 0, .int 0, .int 0, .int 0, .int 0, .int 0, .int 0, .int 0, .ref H_175.size, .int 0, .int 0, .ref H_185.size, .int 0, .ref H_258.size, .int 0, .ref H_269.size, .ref H_280.size, .ref H_295.size, .int 0, .ref H_310.size, .ref H_321.size, .ref H_332.size, .ref H_343.size, .ref H_354.size, .ref H_365.size, .ref H_376.size, .ref H_387.size, .ref H_398.size, .ref H_409.size, .ref H_426.size, .ref H_437.size, .ref H_449.size, .ref H_461.size, .ref H_473.size, .int 0, .int 0, .int 0, .null, .null, .null, .int 0, .null, .null, .null])) H_485 := hraw_485
  have hkp_486 := hkp_478.put hr_485
  clear hh_482
  refine lv_aload_n hx hb dX14_init_365 rfl (lv_at hl 0 rfl) ?_
  refine lv_ldc hx hb hown hcs_141 dX14_init_366 ?_
  clear hsz_475 htt_475
  have hsz_487 := hh_485.2.2.2.2.2.1
  have htt_487 := hh_485.2.2.2.2.2.2.1
  refine j7_newiK hx hb hK hh_485 hB (atype := .int) (ty := .int) (htw (.arrayClass .int) (jWr_3 _ (List.mem_of_getElem? (i := 20) rfl))) rfl rfl (fun _ h => h) hB114 1 rfl (by decide) (by decide) hbs (x := 38400) (by decide) (by omega) (fun j => by first | trivial | decide | rfl | exact Or.inl rfl | exact Or.inr (Or.inl (by decide)) | (refine ⟨?_, ?_⟩ <;> decide)) (by rw [hRc]; omega) (by rw [hRs]; omega) dX14_init_368 (fun H_487 hfr_487 hh_487 => ?_)
  have hh_487 : jSt (dC, dI) B base G0 (va_up G_475 H_485.size (some (114, 38400))) EX14_initW s.heap (((((((((((((((((((((((((((((((((((((((((((((((((0 + 1) + 1) + 1) + 1) + 1) + (1)) + 1) + (1)) + 1) + 1) + 1) + 1) + 1) + 1) + 1) + 1) + 1) + 1) + 1) + 1) + 1) + (6)) + 1) + (6)) + 1) + (6)) + 1) + 1) + 1) + (6)) + 1) + (6)) + 1) + 1) + 1) + 1) + 1) + 1) + 1) + 1) + 1) + 1) + (28)) + 1) + 1) + 1) + 1) + 1) + 1) (((((((((((((((((((((((((((((((((((((((((((((((((0 + 4000) + 20000) + 100000) + 3300) + 4) + (16)) + 4) + (16)) + 3100) + 3100) + 3100) + 3100) + 3100) + 3100) + 3100) + 3100) + 3100) + 3300) + 20) + 3) + 11) + (1700)) + 11) + (1700)) + 11) + (1700)) + 3100) + 1500) + 11) + (1700)) + 11) + (1700)) + 12) + 12) + 12) + 12) + 12) + 240) + 12) + 37200) + 12) + 50) + (720031)) + 3100) + 2) + 2) + 2) + 2) + 38400) [(H_46.size, 0, 3, .int qc_53), (H_46.size, 0, 0, .ref xa_53), (H_32.size, 0, 3, .int qc_39), (H_32.size, 0, 0, .ref xa_39)] [(H_129.size, 123, 3100, ca 1, (fun _ => 0)), (H_113.size, 122, 3100, ca 1, (fun _ => 0)), (H_23.size, 110, 3300, ca 1, (fun _ => 0))] [(jFz9, jDZ dC dI G_475), ([(208, 0)], jQc dC dI (ca 4) H_437.size 2 (fun _ => none)), ([(201, 0)], jQc dC dI (ca 4) H_185.size 3 (va_up (va_up (va_up (fun _ => none) 0 (some H_187.size)) 1 (some H_208.size)) 2 (some H_227.size)))] H_487 locs_485 := hh_487
  have hZ_487 : jN14 G_475 (va_up G_475 H_485.size (some (114, 38400))) := jN14.new (by decide)
  have hN_487 : (jNk [1, 2, 3, 4, 5, 6, 7, 8, 9, 10, 11, 12, 13, 17, 175]) G_475 (va_up G_475 H_485.size (some (114, 38400))) := jNk.new (by decide)
  have hgn_487 : (va_up G_475 H_485.size (some (114, 38400))) H_485.size = some (114, 38400) := jUp_self
  have hle_487 : jLe G_475 (va_up G_475 H_485.size (some (114, 38400))) := jLe.new hh_485.2.1.fresh
  have hke_487 : jKe G_475 (va_up G_475 H_485.size (some (114, 38400))) H_485 H_487 := jKe.new hfr_487
  have hsy_487 : s.heap.size ≤ H_485.size := hh_485.1.1
  generalize (va_up G_475 H_485.size (some (114, 38400))) = G_487 at hN_487 hgn_487 hle_487 hke_487 hh_487 hZ_487
  clear hh_485
  have hNn_487 : (jNk [1, 2, 3, 4, 5, 6, 7, 8, 9, 10, 11, 12, 13, 17, 175]) G0 G_487 := (hNn_475).tr hN_487
  have hg_488 := hle_487 _ _ hg_476
  have hg_489 := hle_487 _ _ hg_477
  have hkp_490 := hkp_486.tr hke_487
  have hraw_491n := hke_487.nr hraw_485.lt hraw_479n
  have hraw_491 := hraw_485.kept (hke_487.1 _ hraw_485.lt)
  try have hz14_487 : jN14 G0 G_487 := (hz14_475).tr hZ_487
  have hd_492 := jDZ.grow (hh_487.iv 0 rfl) hle_487 hZ_487
  have hh_493 := hh_487.sub (L1 := [(H_46.size, 0, 3, .int qc_53), (H_46.size, 0, 0, .ref xa_53), (H_32.size, 0, 3, .int qc_39), (H_32.size, 0, 0, .ref xa_39)]) [0, 1, 2, 3] rfl (M1 := [(H_129.size, 123, 3100, ca 1, (fun _ => 0)), (H_113.size, 122, 3100, ca 1, (fun _ => 0)), (H_23.size, 110, 3300, ca 1, (fun _ => 0))]) [0, 1, 2] rfl (I1 := [([(208, 0)], jQc dC dI (ca 4) H_437.size 2 (fun _ => none)), ([(201, 0)], jQc dC dI (ca 4) H_185.size 3 (va_up (va_up (va_up (fun _ => none) 0 (some H_187.size)) 1 (some H_208.size)) 2 (some H_227.size)))]) [1, 2] rfl
  clear hh_487
  have hh_494 := hh_493.addI (jDZ.ie hd_492)
  clear hh_493
  refine j7_putRF hx hb hown hK hh_494 hB hAp hraw_491 hraw_491n hbr0 (C := RX14) (T := TX14) (N := 74) rfl (i := 67) (by decide) (Nat.le_of_ble_eq_true rfl) hly_16_67 rfl hin2 rfl hlk_142 (ty := (.array .int)) (v := .ref H_485.size) (by decide +kernel) rfl rfl dX14_init_370 (fun H_497 locs_497 hraw_497 hr_497 hh_497 => ?_)
  have hraw_497 : va_at (dC, dI) vwCl (r0, .inr (16, [.ref s.heap.size, .int 0, .ref H_7.size, .int 0, .int 0, .ref H_15.size, .int 0, .int 0, .int 0, .ref H_23.size, .int 0, .int 0, .int 0, .ref H_32.size, .ref H_46.size, .int (-1), .int 0, .ref H_63.size, .ref H_73.size, .ref H_83.size, .ref H_93.size, .ref H_103.size, .ref H_113.size, .ref H_129.size, .ref H_145.size, .ref H_155.size, .int 0, .ref H_165.size, .int 0, .int 0, .int 0, .int 0, .int 0, .int 0, .int 0, .int 0, .int 0, .int 0, .ref H_175.size, .int 0, .int 0, .ref H_185.size, .int 0, .ref H_258.size, .int 0, .ref H_269.size, .ref H_280.size, .ref H_295.size, .int 0, .ref H_310.size, .ref H_321.size, .ref H_332.size, .ref H_343.size, .ref H_354.size, .ref H_365.size, .ref H_376.size, .ref H_387.size, .ref H_398.size, .ref H_409.size, .ref H_426.size, .ref H_437.size, .ref H_449.size, .ref H_461.size, .ref H_473.size, .int 0, .int 0, .int 0, .ref H_485.size, .null, .null, .int 0, .null, .null, .null])) H_497 := hraw_497
  have hkp_498 := hkp_490.put hr_497
  clear hh_494
  refine lv_aload_n hx hb dX14_init_373 rfl (lv_at hl 0 rfl) ?_
  refine lv_bipush (v := 24) hx hb dX14_init_374 (by decide) ?_
  clear hsz_487 htt_487
  have hsz_499 := hh_497.2.2.2.2.2.1
  have htt_499 := hh_497.2.2.2.2.2.2.1
  refine j7_newiK hx hb hK hh_497 hB (atype := .int) (ty := .int) (htw (.arrayClass .int) (jWr_3 _ (List.mem_of_getElem? (i := 20) rfl))) rfl rfl (fun _ h => h) hB205 1 rfl (by decide) (by decide) hbs (x := 24) (by decide) (by omega) (fun j => by first | trivial | decide | rfl | exact Or.inl rfl | exact Or.inr (Or.inl (by decide)) | (refine ⟨?_, ?_⟩ <;> decide)) (by rw [hRc]; omega) (by rw [hRs]; omega) dX14_init_376 (fun H_499 hfr_499 hh_499 => ?_)
  have hh_499 : jSt (dC, dI) B base G0 (va_up G_487 H_497.size (some (205, 24))) EX14_initW s.heap ((((((((((((((((((((((((((((((((((((((((((((((((((0 + 1) + 1) + 1) + 1) + 1) + (1)) + 1) + (1)) + 1) + 1) + 1) + 1) + 1) + 1) + 1) + 1) + 1) + 1) + 1) + 1) + 1) + (6)) + 1) + (6)) + 1) + (6)) + 1) + 1) + 1) + (6)) + 1) + (6)) + 1) + 1) + 1) + 1) + 1) + 1) + 1) + 1) + 1) + 1) + (28)) + 1) + 1) + 1) + 1) + 1) + 1) + 1) ((((((((((((((((((((((((((((((((((((((((((((((((((0 + 4000) + 20000) + 100000) + 3300) + 4) + (16)) + 4) + (16)) + 3100) + 3100) + 3100) + 3100) + 3100) + 3100) + 3100) + 3100) + 3100) + 3300) + 20) + 3) + 11) + (1700)) + 11) + (1700)) + 11) + (1700)) + 3100) + 1500) + 11) + (1700)) + 11) + (1700)) + 12) + 12) + 12) + 12) + 12) + 240) + 12) + 37200) + 12) + 50) + (720031)) + 3100) + 2) + 2) + 2) + 2) + 38400) + 24) [(H_46.size, 0, 3, .int qc_53), (H_46.size, 0, 0, .ref xa_53), (H_32.size, 0, 3, .int qc_39), (H_32.size, 0, 0, .ref xa_39)] [(H_129.size, 123, 3100, ca 1, (fun _ => 0)), (H_113.size, 122, 3100, ca 1, (fun _ => 0)), (H_23.size, 110, 3300, ca 1, (fun _ => 0))] [(jFz9, jDZ dC dI G_487), ([(208, 0)], jQc dC dI (ca 4) H_437.size 2 (fun _ => none)), ([(201, 0)], jQc dC dI (ca 4) H_185.size 3 (va_up (va_up (va_up (fun _ => none) 0 (some H_187.size)) 1 (some H_208.size)) 2 (some H_227.size)))] H_499 locs_497 := hh_499
  have hZ_499 : jN14 G_487 (va_up G_487 H_497.size (some (205, 24))) := jN14.new (by decide)
  have hN_499 : (jNk [1, 2, 3, 4, 5, 6, 7, 8, 9, 10, 11, 12, 13, 17, 175]) G_487 (va_up G_487 H_497.size (some (205, 24))) := jNk.new (by decide)
  have hgn_499 : (va_up G_487 H_497.size (some (205, 24))) H_497.size = some (205, 24) := jUp_self
  have hle_499 : jLe G_487 (va_up G_487 H_497.size (some (205, 24))) := jLe.new hh_497.2.1.fresh
  have hke_499 : jKe G_487 (va_up G_487 H_497.size (some (205, 24))) H_497 H_499 := jKe.new hfr_499
  have hsy_499 : s.heap.size ≤ H_497.size := hh_497.1.1
  generalize (va_up G_487 H_497.size (some (205, 24))) = G_499 at hN_499 hgn_499 hle_499 hke_499 hh_499 hZ_499
  clear hh_497
  have hNn_499 : (jNk [1, 2, 3, 4, 5, 6, 7, 8, 9, 10, 11, 12, 13, 17, 175]) G0 G_499 := (hNn_487).tr hN_499
  have hg_500 := hle_499 _ _ hg_488
  have hg_501 := hle_499 _ _ hg_489
  have hkp_502 := hkp_498.tr hke_499
  have hraw_503n := hke_499.nr hraw_497.lt hraw_491n
  have hraw_503 := hraw_497.kept (hke_499.1 _ hraw_497.lt)
  try have hz14_499 : jN14 G0 G_499 := (hz14_487).tr hZ_499
  have hd_504 := jDZ.grow (hh_499.iv 0 rfl) hle_499 hZ_499
  have hh_505 := hh_499.sub (L1 := [(H_46.size, 0, 3, .int qc_53), (H_46.size, 0, 0, .ref xa_53), (H_32.size, 0, 3, .int qc_39), (H_32.size, 0, 0, .ref xa_39)]) [0, 1, 2, 3] rfl (M1 := [(H_129.size, 123, 3100, ca 1, (fun _ => 0)), (H_113.size, 122, 3100, ca 1, (fun _ => 0)), (H_23.size, 110, 3300, ca 1, (fun _ => 0))]) [0, 1, 2] rfl (I1 := [([(208, 0)], jQc dC dI (ca 4) H_437.size 2 (fun _ => none)), ([(201, 0)], jQc dC dI (ca 4) H_185.size 3 (va_up (va_up (va_up (fun _ => none) 0 (some H_187.size)) 1 (some H_208.size)) 2 (some H_227.size)))]) [1, 2] rfl
  clear hh_499
  have hh_506 := hh_505.addI (jDZ.ie hd_504)
  clear hh_505
  refine j7_putRF hx hb hown hK hh_506 hB hAp hraw_503 hraw_503n hbr0 (C := RX14) (T := TX14) (N := 74) rfl (i := 68) (by decide) (Nat.le_of_ble_eq_true rfl) hly_16_68 rfl hin2 rfl hlk_145 (ty := (.array .int)) (v := .ref H_497.size) (by decide +kernel) rfl rfl dX14_init_378 (fun H_509 locs_509 hraw_509 hr_509 hh_509 => ?_)
  have hraw_509 : va_at (dC, dI) vwCl (r0, .inr (16, [.ref s.heap.size, .int 0, .ref H_7.size, .int 0, .int 0, .ref H_15.size, .int 0, .int 0, .int 0, .ref H_23.size, .int 0, .int 0, .int 0, .ref H_32.size, .ref H_46.size, .int (-1), .int 0, .ref H_63.size, .ref H_73.size, .ref H_83.size, .ref H_93.size, .ref H_103.size, .ref H_113.size, .ref H_129.size, .ref H_145.size, .ref H_155.size, .int 0, .ref H_165.size, .int 0, .int 0, .int 0, .int 0, .int 0, .int 0, .int 0, .int 0, .int 0, .int 0, .ref H_175.size, .int 0, .int 0, .ref H_185.size, .int 0, .ref H_258.size, .int 0, .ref H_269.size, .ref H_280.size, .ref H_295.size, .int 0, .ref H_310.size, .ref H_321.size, .ref H_332.size, .ref H_343.size, .ref H_354.size, .ref H_365.size, .ref H_376.size, .ref H_387.size, .ref H_398.size, .ref H_409.size, .ref H_426.size, .ref H_437.size, .ref H_449.size, .ref H_461.size, .ref H_473.size, .int 0, .int 0, .int 0, .ref H_485.size, .ref H_497.size, .null, .int 0, .null, .null, .null])) H_509 := hraw_509
  have hkp_510 := hkp_502.put hr_509
  clear hh_506
  refine lv_aload_n hx hb dX14_init_381 rfl (lv_at hl 0 rfl) ?_
  refine lv_sipush (v := 1600) hx hb dX14_init_382 (by decide) ?_
  clear hsz_499 htt_499
  have hsz_511 := hh_509.2.2.2.2.2.1
  have htt_511 := hh_509.2.2.2.2.2.2.1
  refine j7_newiK hx hb hK hh_509 hB (atype := .int) (ty := .int) (htw (.arrayClass .int) (jWr_3 _ (List.mem_of_getElem? (i := 20) rfl))) rfl rfl (fun _ h => h) hB113 1 rfl (by decide) (by decide) hbs (x := 1600) (by decide) (by omega) (fun j => by first | trivial | decide | rfl | exact Or.inl rfl | exact Or.inr (Or.inl (by decide)) | (refine ⟨?_, ?_⟩ <;> decide)) (by rw [hRc]; omega) (by rw [hRs]; omega) dX14_init_385 (fun H_511 hfr_511 hh_511 => ?_)
  have hh_511 : jSt (dC, dI) B base G0 (va_up G_499 H_509.size (some (113, 1600))) EX14_initW s.heap (((((((((((((((((((((((((((((((((((((((((((((((((((0 + 1) + 1) + 1) + 1) + 1) + (1)) + 1) + (1)) + 1) + 1) + 1) + 1) + 1) + 1) + 1) + 1) + 1) + 1) + 1) + 1) + 1) + (6)) + 1) + (6)) + 1) + (6)) + 1) + 1) + 1) + (6)) + 1) + (6)) + 1) + 1) + 1) + 1) + 1) + 1) + 1) + 1) + 1) + 1) + (28)) + 1) + 1) + 1) + 1) + 1) + 1) + 1) + 1) (((((((((((((((((((((((((((((((((((((((((((((((((((0 + 4000) + 20000) + 100000) + 3300) + 4) + (16)) + 4) + (16)) + 3100) + 3100) + 3100) + 3100) + 3100) + 3100) + 3100) + 3100) + 3100) + 3300) + 20) + 3) + 11) + (1700)) + 11) + (1700)) + 11) + (1700)) + 3100) + 1500) + 11) + (1700)) + 11) + (1700)) + 12) + 12) + 12) + 12) + 12) + 240) + 12) + 37200) + 12) + 50) + (720031)) + 3100) + 2) + 2) + 2) + 2) + 38400) + 24) + 1600) [(H_46.size, 0, 3, .int qc_53), (H_46.size, 0, 0, .ref xa_53), (H_32.size, 0, 3, .int qc_39), (H_32.size, 0, 0, .ref xa_39)] [(H_129.size, 123, 3100, ca 1, (fun _ => 0)), (H_113.size, 122, 3100, ca 1, (fun _ => 0)), (H_23.size, 110, 3300, ca 1, (fun _ => 0))] [(jFz9, jDZ dC dI G_499), ([(208, 0)], jQc dC dI (ca 4) H_437.size 2 (fun _ => none)), ([(201, 0)], jQc dC dI (ca 4) H_185.size 3 (va_up (va_up (va_up (fun _ => none) 0 (some H_187.size)) 1 (some H_208.size)) 2 (some H_227.size)))] H_511 locs_509 := hh_511
  have hZ_511 : jN14 G_499 (va_up G_499 H_509.size (some (113, 1600))) := jN14.new (by decide)
  have hN_511 : (jNk [1, 2, 3, 4, 5, 6, 7, 8, 9, 10, 11, 12, 13, 17, 175]) G_499 (va_up G_499 H_509.size (some (113, 1600))) := jNk.new (by decide)
  have hgn_511 : (va_up G_499 H_509.size (some (113, 1600))) H_509.size = some (113, 1600) := jUp_self
  have hle_511 : jLe G_499 (va_up G_499 H_509.size (some (113, 1600))) := jLe.new hh_509.2.1.fresh
  have hke_511 : jKe G_499 (va_up G_499 H_509.size (some (113, 1600))) H_509 H_511 := jKe.new hfr_511
  have hsy_511 : s.heap.size ≤ H_509.size := hh_509.1.1
  generalize (va_up G_499 H_509.size (some (113, 1600))) = G_511 at hN_511 hgn_511 hle_511 hke_511 hh_511 hZ_511
  clear hh_509
  have hNn_511 : (jNk [1, 2, 3, 4, 5, 6, 7, 8, 9, 10, 11, 12, 13, 17, 175]) G0 G_511 := (hNn_499).tr hN_511
  have hg_512 := hle_511 _ _ hg_500
  have hg_513 := hle_511 _ _ hg_501
  have hkp_514 := hkp_510.tr hke_511
  have hraw_515n := hke_511.nr hraw_509.lt hraw_503n
  have hraw_515 := hraw_509.kept (hke_511.1 _ hraw_509.lt)
  try have hz14_511 : jN14 G0 G_511 := (hz14_499).tr hZ_511
  have hd_516 := jDZ.grow (hh_511.iv 0 rfl) hle_511 hZ_511
  have hh_517 := hh_511.sub (L1 := [(H_46.size, 0, 3, .int qc_53), (H_46.size, 0, 0, .ref xa_53), (H_32.size, 0, 3, .int qc_39), (H_32.size, 0, 0, .ref xa_39)]) [0, 1, 2, 3] rfl (M1 := [(H_129.size, 123, 3100, ca 1, (fun _ => 0)), (H_113.size, 122, 3100, ca 1, (fun _ => 0)), (H_23.size, 110, 3300, ca 1, (fun _ => 0))]) [0, 1, 2] rfl (I1 := [([(208, 0)], jQc dC dI (ca 4) H_437.size 2 (fun _ => none)), ([(201, 0)], jQc dC dI (ca 4) H_185.size 3 (va_up (va_up (va_up (fun _ => none) 0 (some H_187.size)) 1 (some H_208.size)) 2 (some H_227.size)))]) [1, 2] rfl
  clear hh_511
  have hh_518 := hh_517.addI (jDZ.ie hd_516)
  clear hh_517
  refine j7_putRF hx hb hown hK hh_518 hB hAp hraw_515 hraw_515n hbr0 (C := RX14) (T := TX14) (N := 74) rfl (i := 69) (by decide) (Nat.le_of_ble_eq_true rfl) hly_16_69 rfl hin2 rfl hlk_148 (ty := (.array .int)) (v := .ref H_509.size) (by decide +kernel) rfl rfl dX14_init_387 (fun H_521 locs_521 hraw_521 hr_521 hh_521 => ?_)
  have hraw_521 : va_at (dC, dI) vwCl (r0, .inr (16, [.ref s.heap.size, .int 0, .ref H_7.size, .int 0, .int 0, .ref H_15.size, .int 0, .int 0, .int 0, .ref H_23.size, .int 0, .int 0, .int 0, .ref H_32.size, .ref H_46.size, .int (-1), .int 0, .ref H_63.size, .ref H_73.size, .ref H_83.size, .ref H_93.size, .ref H_103.size, .ref H_113.size, .ref H_129.size, .ref H_145.size, .ref H_155.size, .int 0, .ref H_165.size, .int 0, .int 0, .int 0, .int 0, .int 0, .int 0, .int 0, .int 0, .int 0, .int 0, .ref H_175.size, .int 0, .int 0, .ref H_185.size, .int 0, .ref H_258.size, .int 0, .ref H_269.size, .ref H_280.size, .ref H_295.size, .int 0, .ref H_310.size, .ref H_321.size, .ref H_332.size, .ref H_343.size, .ref H_354.size, .ref H_365.size, .ref H_376.size, .ref H_387.size, .ref H_398.size, .ref H_409.size, .ref H_426.size, .ref H_437.size, .ref H_449.size, .ref H_461.size, .ref H_473.size, .int 0, .int 0, .int 0, .ref H_485.size, .ref H_497.size, .ref H_509.size, .int 0, .null, .null, .null])) H_521 := hraw_521
  have hkp_522 := hkp_514.put hr_521
  clear hh_518
  refine lv_aload_n hx hb dX14_init_390 rfl (lv_at hl 0 rfl) ?_
  have hlt_nw : H_295.size < H_521.size := (hh_521.ab (((((((((((((((((((hle_312).tr hle_323).tr hle_334).tr hle_345).tr hle_356).tr hle_367).tr hle_378).tr hle_389).tr hle_400).tr hb_4162).tr hle_428).tr hle_439).tr hle_451).tr hle_463).tr hle_475).tr hle_487).tr hle_499).tr hle_511) _ _ hgc_302)).2
  clear hsz_511 htt_511
  have hsz_523 := hh_521.2.2.2.2.2.1
  have htt_523 := hh_521.2.2.2.2.2.2.1
  refine j7_newo (k := 14) (C := RX12) (T := TX12) (N := 11) (fs := [.null, .int 0, .int 0, .null, .int 0, .int 0, .null, .null, .null, .int 0, .null]) hx hb htw jWc_wsX120 (fun k => ([(.array .int), .int, .int, (.array .int), .int, .int, (.array .int), (.array .int), (.array .int), .int, (.array .int)] : List FieldType).getD k .int) (by decide +kernel) hown (htw (.classLink RX14 71 RX12) (jWr_11 _ (List.mem_of_getElem? (i := 16) rfl))) (htw (.instantiable RX12 11) (jWr_11 _ (List.mem_of_getElem? (i := 17) rfl))) (htw (.initialized RX12) (jWr_11 _ (List.mem_of_getElem? (i := 18) rfl))) hK rfl (fun j hj => by rcases (by omega : j = 0 ∨ j = 1 ∨ j = 2 ∨ j = 3 ∨ j = 4 ∨ j = 5 ∨ j = 6 ∨ j = 7 ∨ j = 8 ∨ j = 9 ∨ j = 10) with rfl | rfl | rfl | rfl | rfl | rfl | rfl | rfl | rfl | rfl | rfl <;> rfl) hh_521 hB (by rw [hRc]; omega) (by rw [hRs]; omega) dX14_init_391 (fun H_523 hraw_523 hfr_523 hnr_523 hh_523 => ?_)
  have hlt_524 := hraw_521.lt
  have hke_523 : jKe G_511 G_511 H_521 H_523 := jKe.raw hfr_523
  have hbr_523 : base ≤ H_521.size := Nat.le_trans hbs hh_521.1.1
  have hsy_523 : s.heap.size ≤ H_521.size := hh_521.1.1
  clear hh_521
  have hkp_525 := hkp_522.tr hke_523
  have hraw_526n := hke_523.nr hraw_521.lt hraw_515n
  have hraw_526 := hraw_521.kept (hke_523.1 _ hraw_521.lt)
  have hne_527 : r0 ≠ H_521.size := Nat.ne_of_lt hlt_524
  refine lv_dup hx hb dX14_init_394 rfl ?_
  clear hsz_523 htt_523
  have hsz_528 := hh_523.2.2.2.2.2.1
  have htt_528 := hh_523.2.2.2.2.2.2.1
  refine W.room (fun hrc_528 hrs_528 => ?_)
  refine va_callv (A0 := jA base) (H0 := s.heap) (va_runIN (As := []) (rest := [.ref H_521.size, .ref r0]) ⟨hx, hb, hml, hown, hts⟩ (uX12_initE l dC dI ca base B hB hAp hB14 hB190 hB191 hB192 hB193 hB194 hB195 G_511 H_523 H_521.size LC LS) ⟨va_cnB 0 hts (jgW (jWr_13 _ (List.mem_of_getElem? (i := 21) rfl))) rfl rfl rfl (hG.2.2.1 RX14 73 yX12_init "ProofServerModel" (List.mem_of_getElem? (i := 1726) (by decide +kernel))) (htw (.initialized RX12) (jWr_11 _ (List.mem_of_getElem? (i := 18) rfl))) (by decide +kernel) ⟨by rw [← hR]; exact Nat.le_of_ble_eq_true rfl, by rw [← hR]; exact Nat.le_of_ble_eq_true rfl⟩, rfl, htw (.instanceMethod yX12_init) (jWr_13 _ (List.mem_of_getElem? (i := 20) rfl))⟩ ⟨fun a U g mk q => by obtain ⟨q0, q1, q2, qK, q10, q11, q12, q13, q14, q15⟩ := q; exact ⟨q0, q1, q2, jG.calling g mk a qK, q10, q11, q12, q13, q14, q15⟩, fun U hU hW => ⟨rfl, hU, hh_523.2.1, hG.step hW hU hh_523.1, hraw_523, hnr_523, hbr_523, jP.nil, (hh_523.2.2.2.2.2.2.2.2.sub (L1 := [(jFz9, jDZ dC dI G_511)]) [0] rfl), (by omega), (by omega), trivial⟩⟩ rfl rfl hl.1 rfl (lv_room (Nat.le_of_ble_eq_true rfl)) dX14_init_395 ⟨by rw [hRc]; omega, by rw [hRs]; omega⟩) hh_523.1 (fun q _ h => h) (fun q h => h) (fun u_528 t_528 H_528 locs_528 ht_528 hvm_528 hr_529 hb_528 hz_528 hk_528 hS_528 => ?_)
  rw [ht_528] at hb_528
  obtain ⟨G_528, rfl⟩ : ∃ z, z = u_528 := ⟨_, rfl⟩
  try simp only at hb_528
  obtain ⟨⟨hb_5281, hb_5282, hb_5283, hb_5284, hb_5285, hb_5286⟩, hN_528, hgc_528, hbX_528, hbE_528⟩ := hb_528
  have hN_528 : (jNk [1, 2, 3, 4, 5, 6, 7, 8, 9, 10, 11, 12, 13, 17, 175]) G_511 G_528 := hN_528.sub (by decide)
  have hh_528 : jSt (dC, dI) B base G0 G_528 EX14_initW s.heap (((((((((((((((((((((((((((((((((((((((((((((((((((((0 + 1) + 1) + 1) + 1) + 1) + (1)) + 1) + (1)) + 1) + 1) + 1) + 1) + 1) + 1) + 1) + 1) + 1) + 1) + 1) + 1) + 1) + (6)) + 1) + (6)) + 1) + (6)) + 1) + 1) + 1) + (6)) + 1) + (6)) + 1) + 1) + 1) + 1) + 1) + 1) + 1) + 1) + 1) + 1) + (28)) + 1) + 1) + 1) + 1) + 1) + 1) + 1) + 1) + 1) + (6)) (((((((((((((((((((((((((((((((((((((((((((((((((((((0 + 4000) + 20000) + 100000) + 3300) + 4) + (16)) + 4) + (16)) + 3100) + 3100) + 3100) + 3100) + 3100) + 3100) + 3100) + 3100) + 3100) + 3300) + 20) + 3) + 11) + (1700)) + 11) + (1700)) + 11) + (1700)) + 3100) + 1500) + 11) + (1700)) + 11) + (1700)) + 12) + 12) + 12) + 12) + 12) + 240) + 12) + 37200) + 12) + 50) + (720031)) + 3100) + 2) + 2) + 2) + 2) + 38400) + 24) + 1600) + 11) + (1700)) [(H_46.size, 0, 3, .int qc_53), (H_46.size, 0, 0, .ref xa_53), (H_32.size, 0, 3, .int qc_39), (H_32.size, 0, 0, .ref xa_39)] [(H_129.size, 123, 3100, ca 1, (fun _ => 0)), (H_113.size, 122, 3100, ca 1, (fun _ => 0)), (H_23.size, 110, 3300, ca 1, (fun _ => 0))] [([(208, 0)], jQc dC dI (ca 4) H_437.size 2 (fun _ => none)), ([(201, 0)], jQc dC dI (ca 4) H_185.size 3 (va_up (va_up (va_up (fun _ => none) 0 (some H_187.size)) 1 (some H_208.size)) 2 (some H_227.size)))] H_528 locs_528 := (hh_523.callG hb_5281 hb_5282 hb_5283 hb_5284 hb_5285 hS_528 rfl (L1 := [(H_46.size, 0, 3, .int qc_53), (H_46.size, 0, 0, .ref xa_53), (H_32.size, 0, 3, .int qc_39), (H_32.size, 0, 0, .ref xa_39)]) [0, 1, 2, 3] rfl rfl (M1 := [(H_129.size, 123, 3100, ca 1, (fun _ => 0)), (H_113.size, 122, 3100, ca 1, (fun _ => 0)), (H_23.size, 110, 3300, ca 1, (fun _ => 0))]) [0, 1, 2] rfl rfl (I1 := [([(208, 0)], jQc dC dI (ca 4) H_437.size 2 (fun _ => none)), ([(201, 0)], jQc dC dI (ca 4) H_185.size 3 (va_up (va_up (va_up (fun _ => none) 0 (some H_187.size)) 1 (some H_208.size)) 2 (some H_227.size)))]) [1, 2] rfl rfl).more hb_5286
  have hNn_528 : (jNk [1, 2, 3, 4, 5, 6, 7, 8, 9, 10, 11, 12, 13, 17, 175]) G0 G_528 := (hNn_511).tr hN_528
  have hg_530 := hb_5282 _ _ hg_512
  have hg_531 := hb_5282 _ _ hg_513
  have hh_534 := hh_528.addIs hbE_528
  try simp only at hr_529
  have hkp_535 := hkp_525.in hbX_528 hsy_523
  have hraw_536x := hbX_528.ke hraw_526.lt hne_527 hraw_526n
  have hraw_536 := hraw_526.kept hraw_536x.1
  refine j7_putRF hx hb hown hK hh_534 hB hAp hraw_536 hraw_536x.2 hbr0 (C := RX14) (T := TX14) (N := 74) rfl (i := 71) (by decide) (Nat.le_of_ble_eq_true rfl) hly_16_71 rfl hin2 rfl hlk_151 (ty := (.object "ProofServerModel$Document")) (v := .ref H_521.size) (by decide +kernel) rfl rfl dX14_init_398 (fun H_537 locs_537 hraw_537 hr_537 hh_537 => ?_)
  have hraw_537 : va_at (dC, dI) vwCl (r0, .inr (16, [.ref s.heap.size, .int 0, .ref H_7.size, .int 0, .int 0, .ref H_15.size, .int 0, .int 0, .int 0, .ref H_23.size, .int 0, .int 0, .int 0, .ref H_32.size, .ref H_46.size, .int (-1), .int 0, .ref H_63.size, .ref H_73.size, .ref H_83.size, .ref H_93.size, .ref H_103.size, .ref H_113.size, .ref H_129.size, .ref H_145.size, .ref H_155.size, .int 0, .ref H_165.size, .int 0, .int 0, .int 0, .int 0, .int 0, .int 0, .int 0, .int 0, .int 0, .int 0, .ref H_175.size, .int 0, .int 0, .ref H_185.size, .int 0, .ref H_258.size, .int 0, .ref H_269.size, .ref H_280.size, .ref H_295.size, .int 0, .ref H_310.size, .ref H_321.size, .ref H_332.size, .ref H_343.size, .ref H_354.size, .ref H_365.size, .ref H_376.size, .ref H_387.size, .ref H_398.size, .ref H_409.size, .ref H_426.size, .ref H_437.size, .ref H_449.size, .ref H_461.size, .ref H_473.size, .int 0, .int 0, .int 0, .ref H_485.size, .ref H_497.size, .ref H_509.size, .int 0, .ref H_521.size, .null, .null])) H_537 := hraw_537
  have hkp_538 := hkp_535.put hr_537
  clear hh_534
  refine lv_aload_n hx hb dX14_init_401 rfl (lv_at hl 0 rfl) ?_
  refine lv_bipush (v := 40) hx hb dX14_init_402 (by decide) ?_
  clear hsz_528 htt_528 hrc_528 hrs_528
  have hsz_539 := hh_537.2.2.2.2.2.1
  have htt_539 := hh_537.2.2.2.2.2.2.1
  refine j7_newiK hx hb hK hh_537 hB (atype := .int) (ty := .int) (htw (.arrayClass .int) (jWr_3 _ (List.mem_of_getElem? (i := 20) rfl))) rfl rfl (fun _ h => h) hB101 1 rfl (by decide) (by decide) hbs (x := 40) (by decide) (by omega) (fun j => by first | trivial | decide | rfl | exact Or.inl rfl | exact Or.inr (Or.inl (by decide)) | (refine ⟨?_, ?_⟩ <;> decide)) (by rw [hRc]; omega) (by rw [hRs]; omega) dX14_init_404 (fun H_539 hfr_539 hh_539 => ?_)
  have hh_539 : jSt (dC, dI) B base G0 (va_up G_528 H_537.size (some (101, 40))) EX14_initW s.heap ((((((((((((((((((((((((((((((((((((((((((((((((((((((0 + 1) + 1) + 1) + 1) + 1) + (1)) + 1) + (1)) + 1) + 1) + 1) + 1) + 1) + 1) + 1) + 1) + 1) + 1) + 1) + 1) + 1) + (6)) + 1) + (6)) + 1) + (6)) + 1) + 1) + 1) + (6)) + 1) + (6)) + 1) + 1) + 1) + 1) + 1) + 1) + 1) + 1) + 1) + 1) + (28)) + 1) + 1) + 1) + 1) + 1) + 1) + 1) + 1) + 1) + (6)) + 1) ((((((((((((((((((((((((((((((((((((((((((((((((((((((0 + 4000) + 20000) + 100000) + 3300) + 4) + (16)) + 4) + (16)) + 3100) + 3100) + 3100) + 3100) + 3100) + 3100) + 3100) + 3100) + 3100) + 3300) + 20) + 3) + 11) + (1700)) + 11) + (1700)) + 11) + (1700)) + 3100) + 1500) + 11) + (1700)) + 11) + (1700)) + 12) + 12) + 12) + 12) + 12) + 240) + 12) + 37200) + 12) + 50) + (720031)) + 3100) + 2) + 2) + 2) + 2) + 38400) + 24) + 1600) + 11) + (1700)) + 40) [(H_46.size, 0, 3, .int qc_53), (H_46.size, 0, 0, .ref xa_53), (H_32.size, 0, 3, .int qc_39), (H_32.size, 0, 0, .ref xa_39)] [(H_129.size, 123, 3100, ca 1, (fun _ => 0)), (H_113.size, 122, 3100, ca 1, (fun _ => 0)), (H_23.size, 110, 3300, ca 1, (fun _ => 0))] [(jFz9, jDZ dC dI G_528), ([(208, 0)], jQc dC dI (ca 4) H_437.size 2 (fun _ => none)), ([(201, 0)], jQc dC dI (ca 4) H_185.size 3 (va_up (va_up (va_up (fun _ => none) 0 (some H_187.size)) 1 (some H_208.size)) 2 (some H_227.size)))] H_539 locs_537 := hh_539
  have hZ_539 : jN14 G_528 (va_up G_528 H_537.size (some (101, 40))) := jN14.new (by decide)
  have hN_539 : (jNk [1, 2, 3, 4, 5, 6, 7, 8, 9, 10, 11, 12, 13, 17, 175]) G_528 (va_up G_528 H_537.size (some (101, 40))) := jNk.new (by decide)
  have hgn_539 : (va_up G_528 H_537.size (some (101, 40))) H_537.size = some (101, 40) := jUp_self
  have hle_539 : jLe G_528 (va_up G_528 H_537.size (some (101, 40))) := jLe.new hh_537.2.1.fresh
  have hke_539 : jKe G_528 (va_up G_528 H_537.size (some (101, 40))) H_537 H_539 := jKe.new hfr_539
  have hsy_539 : s.heap.size ≤ H_537.size := hh_537.1.1
  generalize (va_up G_528 H_537.size (some (101, 40))) = G_539 at hN_539 hgn_539 hle_539 hke_539 hh_539 hZ_539
  clear hh_537
  have hNn_539 : (jNk [1, 2, 3, 4, 5, 6, 7, 8, 9, 10, 11, 12, 13, 17, 175]) G0 G_539 := (hNn_528).tr hN_539
  have hg_540 := hle_539 _ _ hg_530
  have hg_541 := hle_539 _ _ hg_531
  have hkp_542 := hkp_538.tr hke_539
  have hraw_543n := hke_539.nr hraw_537.lt hraw_536x.2
  have hraw_543 := hraw_537.kept (hke_539.1 _ hraw_537.lt)
  try have hz14_539 : jN14 G0 G_539 := (hz14_511).tr hZ_539
  have hd_544 := jDZ.grow (hh_539.iv 0 rfl) hle_539 hZ_539
  have hh_545 := hh_539.sub (L1 := [(H_46.size, 0, 3, .int qc_53), (H_46.size, 0, 0, .ref xa_53), (H_32.size, 0, 3, .int qc_39), (H_32.size, 0, 0, .ref xa_39)]) [0, 1, 2, 3] rfl (M1 := [(H_129.size, 123, 3100, ca 1, (fun _ => 0)), (H_113.size, 122, 3100, ca 1, (fun _ => 0)), (H_23.size, 110, 3300, ca 1, (fun _ => 0))]) [0, 1, 2] rfl (I1 := [([(208, 0)], jQc dC dI (ca 4) H_437.size 2 (fun _ => none)), ([(201, 0)], jQc dC dI (ca 4) H_185.size 3 (va_up (va_up (va_up (fun _ => none) 0 (some H_187.size)) 1 (some H_208.size)) 2 (some H_227.size)))]) [1, 2] rfl
  clear hh_539
  have hh_546 := hh_545.addI (jDZ.ie hd_544)
  clear hh_545
  refine j7_putRF hx hb hown hK hh_546 hB hAp hraw_543 hraw_543n hbr0 (C := RX14) (T := TX14) (N := 74) rfl (i := 72) (by decide) (Nat.le_of_ble_eq_true rfl) hly_16_72 rfl hin2 rfl hlk_154 (ty := (.array .int)) (v := .ref H_537.size) (by decide +kernel) rfl rfl dX14_init_406 (fun H_549 locs_549 hraw_549 hr_549 hh_549 => ?_)
  have hraw_549 : va_at (dC, dI) vwCl (r0, .inr (16, [.ref s.heap.size, .int 0, .ref H_7.size, .int 0, .int 0, .ref H_15.size, .int 0, .int 0, .int 0, .ref H_23.size, .int 0, .int 0, .int 0, .ref H_32.size, .ref H_46.size, .int (-1), .int 0, .ref H_63.size, .ref H_73.size, .ref H_83.size, .ref H_93.size, .ref H_103.size, .ref H_113.size, .ref H_129.size, .ref H_145.size, .ref H_155.size, .int 0, .ref H_165.size, .int 0, .int 0, .int 0, .int 0, .int 0, .int 0, .int 0, .int 0, .int 0, .int 0, .ref H_175.size, .int 0, .int 0, .ref H_185.size, .int 0, .ref H_258.size, .int 0, .ref H_269.size, .ref H_280.size, .ref H_295.size, .int 0, .ref H_310.size, .ref H_321.size, .ref H_332.size, .ref H_343.size, .ref H_354.size, .ref H_365.size, .ref H_376.size, .ref H_387.size, .ref H_398.size, .ref H_409.size, .ref H_426.size, .ref H_437.size, .ref H_449.size, .ref H_461.size, .ref H_473.size, .int 0, .int 0, .int 0, .ref H_485.size, .ref H_497.size, .ref H_509.size, .int 0, .ref H_521.size, .ref H_537.size, .null])) H_549 := hraw_549
  have hkp_550 := hkp_542.put hr_549
  clear hh_546
  refine lv_aload_n hx hb dX14_init_409 rfl (lv_at hl 0 rfl) ?_
  refine lv_bipush (v := 40) hx hb dX14_init_410 (by decide) ?_
  clear hsz_539 htt_539
  have hsz_551 := hh_549.2.2.2.2.2.1
  have htt_551 := hh_549.2.2.2.2.2.2.1
  refine j7_newiK hx hb hK hh_549 hB (atype := .int) (ty := .int) (htw (.arrayClass .int) (jWr_3 _ (List.mem_of_getElem? (i := 20) rfl))) rfl rfl (fun _ h => h) hB101 1 rfl (by decide) (by decide) hbs (x := 40) (by decide) (by omega) (fun j => by first | trivial | decide | rfl | exact Or.inl rfl | exact Or.inr (Or.inl (by decide)) | (refine ⟨?_, ?_⟩ <;> decide)) (by rw [hRc]; omega) (by rw [hRs]; omega) dX14_init_412 (fun H_551 hfr_551 hh_551 => ?_)
  have hh_551 : jSt (dC, dI) B base G0 (va_up G_539 H_549.size (some (101, 40))) EX14_initW s.heap (((((((((((((((((((((((((((((((((((((((((((((((((((((((0 + 1) + 1) + 1) + 1) + 1) + (1)) + 1) + (1)) + 1) + 1) + 1) + 1) + 1) + 1) + 1) + 1) + 1) + 1) + 1) + 1) + 1) + (6)) + 1) + (6)) + 1) + (6)) + 1) + 1) + 1) + (6)) + 1) + (6)) + 1) + 1) + 1) + 1) + 1) + 1) + 1) + 1) + 1) + 1) + (28)) + 1) + 1) + 1) + 1) + 1) + 1) + 1) + 1) + 1) + (6)) + 1) + 1) (((((((((((((((((((((((((((((((((((((((((((((((((((((((0 + 4000) + 20000) + 100000) + 3300) + 4) + (16)) + 4) + (16)) + 3100) + 3100) + 3100) + 3100) + 3100) + 3100) + 3100) + 3100) + 3100) + 3300) + 20) + 3) + 11) + (1700)) + 11) + (1700)) + 11) + (1700)) + 3100) + 1500) + 11) + (1700)) + 11) + (1700)) + 12) + 12) + 12) + 12) + 12) + 240) + 12) + 37200) + 12) + 50) + (720031)) + 3100) + 2) + 2) + 2) + 2) + 38400) + 24) + 1600) + 11) + (1700)) + 40) + 40) [(H_46.size, 0, 3, .int qc_53), (H_46.size, 0, 0, .ref xa_53), (H_32.size, 0, 3, .int qc_39), (H_32.size, 0, 0, .ref xa_39)] [(H_129.size, 123, 3100, ca 1, (fun _ => 0)), (H_113.size, 122, 3100, ca 1, (fun _ => 0)), (H_23.size, 110, 3300, ca 1, (fun _ => 0))] [(jFz9, jDZ dC dI G_539), ([(208, 0)], jQc dC dI (ca 4) H_437.size 2 (fun _ => none)), ([(201, 0)], jQc dC dI (ca 4) H_185.size 3 (va_up (va_up (va_up (fun _ => none) 0 (some H_187.size)) 1 (some H_208.size)) 2 (some H_227.size)))] H_551 locs_549 := hh_551
  have hZ_551 : jN14 G_539 (va_up G_539 H_549.size (some (101, 40))) := jN14.new (by decide)
  have hN_551 : (jNk [1, 2, 3, 4, 5, 6, 7, 8, 9, 10, 11, 12, 13, 17, 175]) G_539 (va_up G_539 H_549.size (some (101, 40))) := jNk.new (by decide)
  have hgn_551 : (va_up G_539 H_549.size (some (101, 40))) H_549.size = some (101, 40) := jUp_self
  have hle_551 : jLe G_539 (va_up G_539 H_549.size (some (101, 40))) := jLe.new hh_549.2.1.fresh
  have hke_551 : jKe G_539 (va_up G_539 H_549.size (some (101, 40))) H_549 H_551 := jKe.new hfr_551
  have hsy_551 : s.heap.size ≤ H_549.size := hh_549.1.1
  generalize (va_up G_539 H_549.size (some (101, 40))) = G_551 at hN_551 hgn_551 hle_551 hke_551 hh_551 hZ_551
  clear hh_549
  have hNn_551 : (jNk [1, 2, 3, 4, 5, 6, 7, 8, 9, 10, 11, 12, 13, 17, 175]) G0 G_551 := (hNn_539).tr hN_551
  have hg_552 := hle_551 _ _ hg_540
  have hg_553 := hle_551 _ _ hg_541
  have hkp_554 := hkp_550.tr hke_551
  have hraw_555n := hke_551.nr hraw_549.lt hraw_543n
  have hraw_555 := hraw_549.kept (hke_551.1 _ hraw_549.lt)
  try have hz14_551 : jN14 G0 G_551 := (hz14_539).tr hZ_551
  have hd_556 := jDZ.grow (hh_551.iv 0 rfl) hle_551 hZ_551
  have hh_557 := hh_551.sub (L1 := [(H_46.size, 0, 3, .int qc_53), (H_46.size, 0, 0, .ref xa_53), (H_32.size, 0, 3, .int qc_39), (H_32.size, 0, 0, .ref xa_39)]) [0, 1, 2, 3] rfl (M1 := [(H_129.size, 123, 3100, ca 1, (fun _ => 0)), (H_113.size, 122, 3100, ca 1, (fun _ => 0)), (H_23.size, 110, 3300, ca 1, (fun _ => 0))]) [0, 1, 2] rfl (I1 := [([(208, 0)], jQc dC dI (ca 4) H_437.size 2 (fun _ => none)), ([(201, 0)], jQc dC dI (ca 4) H_185.size 3 (va_up (va_up (va_up (fun _ => none) 0 (some H_187.size)) 1 (some H_208.size)) 2 (some H_227.size)))]) [1, 2] rfl
  clear hh_551
  have hh_558 := hh_557.addI (jDZ.ie hd_556)
  clear hh_557
  refine j7_putRF hx hb hown hK hh_558 hB hAp hraw_555 hraw_555n hbr0 (C := RX14) (T := TX14) (N := 74) rfl (i := 73) (by decide) (Nat.le_of_ble_eq_true rfl) hly_16_73 rfl hin2 rfl hlk_157 (ty := (.array .int)) (v := .ref H_549.size) (by decide +kernel) rfl rfl dX14_init_414 (fun H_561 locs_561 hraw_561 hr_561 hh_561 => ?_)
  have hraw_561 : va_at (dC, dI) vwCl (r0, .inr (16, [.ref s.heap.size, .int 0, .ref H_7.size, .int 0, .int 0, .ref H_15.size, .int 0, .int 0, .int 0, .ref H_23.size, .int 0, .int 0, .int 0, .ref H_32.size, .ref H_46.size, .int (-1), .int 0, .ref H_63.size, .ref H_73.size, .ref H_83.size, .ref H_93.size, .ref H_103.size, .ref H_113.size, .ref H_129.size, .ref H_145.size, .ref H_155.size, .int 0, .ref H_165.size, .int 0, .int 0, .int 0, .int 0, .int 0, .int 0, .int 0, .int 0, .int 0, .int 0, .ref H_175.size, .int 0, .int 0, .ref H_185.size, .int 0, .ref H_258.size, .int 0, .ref H_269.size, .ref H_280.size, .ref H_295.size, .int 0, .ref H_310.size, .ref H_321.size, .ref H_332.size, .ref H_343.size, .ref H_354.size, .ref H_365.size, .ref H_376.size, .ref H_387.size, .ref H_398.size, .ref H_409.size, .ref H_426.size, .ref H_437.size, .ref H_449.size, .ref H_461.size, .ref H_473.size, .int 0, .int 0, .int 0, .ref H_485.size, .ref H_497.size, .ref H_509.size, .int 0, .ref H_521.size, .ref H_537.size, .ref H_549.size])) H_561 := hraw_561
  have hkp_562 := hkp_554.put hr_561
  clear hh_558
  clear hsz_551 htt_551
  have hsz_563 := hh_561.2.2.2.2.2.1
  have htt_563 := hh_561.2.2.2.2.2.2.1
  refine W.room (fun hrc_563 hrs_563 => ?_)
  refine W.widen (k := LC - s.heap.size) (n := LS - jTot s.heap) (by omega) (by omega) ?_
  rw [hQ]
  have hle_564 : jLe G_551 (va_up G_551 r0 (some (16, 0))) := jLe.typ hraw_555n
  have hg_565 := hle_564 _ _ hg_552
  have hg_566 := hle_564 _ _ hg_553
  have hg_567 := (((((((((((((((((((((((((((((((((((((((((((((hle_9).tr hle_17).tr hle_25).tr hb_392).tr hb_532).tr hle_65).tr hle_75).tr hle_85).tr hle_95).tr hle_105).tr hle_120).tr hle_136).tr hle_147).tr hle_157).tr hle_167).tr hle_177).tr hb_2002).tr hb_2192).tr hb_2382).tr hle_249).tr hle_260).tr hle_271).tr hb_2872).tr hb_3022).tr hle_312).tr hle_323).tr hle_334).tr hle_345).tr hle_356).tr hle_367).tr hle_378).tr hle_389).tr hle_400).tr hb_4162).tr hle_428).tr hle_439).tr hle_451).tr hle_463).tr hle_475).tr hle_487).tr hle_499).tr hle_511).tr hb_5282).tr hle_539).tr hle_551).tr hle_564 _ _ hgn_1
  have hg_568 := ((((((((((((((((((((((((((((((((((((((((((((hle_17).tr hle_25).tr hb_392).tr hb_532).tr hle_65).tr hle_75).tr hle_85).tr hle_95).tr hle_105).tr hle_120).tr hle_136).tr hle_147).tr hle_157).tr hle_167).tr hle_177).tr hb_2002).tr hb_2192).tr hb_2382).tr hle_249).tr hle_260).tr hle_271).tr hb_2872).tr hb_3022).tr hle_312).tr hle_323).tr hle_334).tr hle_345).tr hle_356).tr hle_367).tr hle_378).tr hle_389).tr hle_400).tr hb_4162).tr hle_428).tr hle_439).tr hle_451).tr hle_463).tr hle_475).tr hle_487).tr hle_499).tr hle_511).tr hb_5282).tr hle_539).tr hle_551).tr hle_564 _ _ hgn_9
  have hg_569 := (((((((((((((((((((((((((((((((((((((((((((hle_25).tr hb_392).tr hb_532).tr hle_65).tr hle_75).tr hle_85).tr hle_95).tr hle_105).tr hle_120).tr hle_136).tr hle_147).tr hle_157).tr hle_167).tr hle_177).tr hb_2002).tr hb_2192).tr hb_2382).tr hle_249).tr hle_260).tr hle_271).tr hb_2872).tr hb_3022).tr hle_312).tr hle_323).tr hle_334).tr hle_345).tr hle_356).tr hle_367).tr hle_378).tr hle_389).tr hle_400).tr hb_4162).tr hle_428).tr hle_439).tr hle_451).tr hle_463).tr hle_475).tr hle_487).tr hle_499).tr hle_511).tr hb_5282).tr hle_539).tr hle_551).tr hle_564 _ _ hgn_17
  have hg_570 := ((((((((((((((((((((((((((((((((((((((((((hb_392).tr hb_532).tr hle_65).tr hle_75).tr hle_85).tr hle_95).tr hle_105).tr hle_120).tr hle_136).tr hle_147).tr hle_157).tr hle_167).tr hle_177).tr hb_2002).tr hb_2192).tr hb_2382).tr hle_249).tr hle_260).tr hle_271).tr hb_2872).tr hb_3022).tr hle_312).tr hle_323).tr hle_334).tr hle_345).tr hle_356).tr hle_367).tr hle_378).tr hle_389).tr hle_400).tr hb_4162).tr hle_428).tr hle_439).tr hle_451).tr hle_463).tr hle_475).tr hle_487).tr hle_499).tr hle_511).tr hb_5282).tr hle_539).tr hle_551).tr hle_564 _ _ hgn_25
  have hg_571 := (((((((((((((((((((((((((((((((((((((((((hb_532).tr hle_65).tr hle_75).tr hle_85).tr hle_95).tr hle_105).tr hle_120).tr hle_136).tr hle_147).tr hle_157).tr hle_167).tr hle_177).tr hb_2002).tr hb_2192).tr hb_2382).tr hle_249).tr hle_260).tr hle_271).tr hb_2872).tr hb_3022).tr hle_312).tr hle_323).tr hle_334).tr hle_345).tr hle_356).tr hle_367).tr hle_378).tr hle_389).tr hle_400).tr hb_4162).tr hle_428).tr hle_439).tr hle_451).tr hle_463).tr hle_475).tr hle_487).tr hle_499).tr hle_511).tr hb_5282).tr hle_539).tr hle_551).tr hle_564 _ _ hgc_39
  have hg_572 := ((((((((((((((((((((((((((((((((((((((((hle_65).tr hle_75).tr hle_85).tr hle_95).tr hle_105).tr hle_120).tr hle_136).tr hle_147).tr hle_157).tr hle_167).tr hle_177).tr hb_2002).tr hb_2192).tr hb_2382).tr hle_249).tr hle_260).tr hle_271).tr hb_2872).tr hb_3022).tr hle_312).tr hle_323).tr hle_334).tr hle_345).tr hle_356).tr hle_367).tr hle_378).tr hle_389).tr hle_400).tr hb_4162).tr hle_428).tr hle_439).tr hle_451).tr hle_463).tr hle_475).tr hle_487).tr hle_499).tr hle_511).tr hb_5282).tr hle_539).tr hle_551).tr hle_564 _ _ hgc_53
  have hg_573 := (((((((((((((((((((((((((((((((((((((((hle_75).tr hle_85).tr hle_95).tr hle_105).tr hle_120).tr hle_136).tr hle_147).tr hle_157).tr hle_167).tr hle_177).tr hb_2002).tr hb_2192).tr hb_2382).tr hle_249).tr hle_260).tr hle_271).tr hb_2872).tr hb_3022).tr hle_312).tr hle_323).tr hle_334).tr hle_345).tr hle_356).tr hle_367).tr hle_378).tr hle_389).tr hle_400).tr hb_4162).tr hle_428).tr hle_439).tr hle_451).tr hle_463).tr hle_475).tr hle_487).tr hle_499).tr hle_511).tr hb_5282).tr hle_539).tr hle_551).tr hle_564 _ _ hgn_65
  have hg_574 := ((((((((((((((((((((((((((((((((((((((hle_85).tr hle_95).tr hle_105).tr hle_120).tr hle_136).tr hle_147).tr hle_157).tr hle_167).tr hle_177).tr hb_2002).tr hb_2192).tr hb_2382).tr hle_249).tr hle_260).tr hle_271).tr hb_2872).tr hb_3022).tr hle_312).tr hle_323).tr hle_334).tr hle_345).tr hle_356).tr hle_367).tr hle_378).tr hle_389).tr hle_400).tr hb_4162).tr hle_428).tr hle_439).tr hle_451).tr hle_463).tr hle_475).tr hle_487).tr hle_499).tr hle_511).tr hb_5282).tr hle_539).tr hle_551).tr hle_564 _ _ hgn_75
  have hg_575 := (((((((((((((((((((((((((((((((((((((hle_95).tr hle_105).tr hle_120).tr hle_136).tr hle_147).tr hle_157).tr hle_167).tr hle_177).tr hb_2002).tr hb_2192).tr hb_2382).tr hle_249).tr hle_260).tr hle_271).tr hb_2872).tr hb_3022).tr hle_312).tr hle_323).tr hle_334).tr hle_345).tr hle_356).tr hle_367).tr hle_378).tr hle_389).tr hle_400).tr hb_4162).tr hle_428).tr hle_439).tr hle_451).tr hle_463).tr hle_475).tr hle_487).tr hle_499).tr hle_511).tr hb_5282).tr hle_539).tr hle_551).tr hle_564 _ _ hgn_85
  have hg_576 := ((((((((((((((((((((((((((((((((((((hle_105).tr hle_120).tr hle_136).tr hle_147).tr hle_157).tr hle_167).tr hle_177).tr hb_2002).tr hb_2192).tr hb_2382).tr hle_249).tr hle_260).tr hle_271).tr hb_2872).tr hb_3022).tr hle_312).tr hle_323).tr hle_334).tr hle_345).tr hle_356).tr hle_367).tr hle_378).tr hle_389).tr hle_400).tr hb_4162).tr hle_428).tr hle_439).tr hle_451).tr hle_463).tr hle_475).tr hle_487).tr hle_499).tr hle_511).tr hb_5282).tr hle_539).tr hle_551).tr hle_564 _ _ hgn_95
  have hg_577 := (((((((((((((((((((((((((((((((((((hle_120).tr hle_136).tr hle_147).tr hle_157).tr hle_167).tr hle_177).tr hb_2002).tr hb_2192).tr hb_2382).tr hle_249).tr hle_260).tr hle_271).tr hb_2872).tr hb_3022).tr hle_312).tr hle_323).tr hle_334).tr hle_345).tr hle_356).tr hle_367).tr hle_378).tr hle_389).tr hle_400).tr hb_4162).tr hle_428).tr hle_439).tr hle_451).tr hle_463).tr hle_475).tr hle_487).tr hle_499).tr hle_511).tr hb_5282).tr hle_539).tr hle_551).tr hle_564 _ _ hgn_105
  have hg_578 := ((((((((((((((((((((((((((((((((((hle_136).tr hle_147).tr hle_157).tr hle_167).tr hle_177).tr hb_2002).tr hb_2192).tr hb_2382).tr hle_249).tr hle_260).tr hle_271).tr hb_2872).tr hb_3022).tr hle_312).tr hle_323).tr hle_334).tr hle_345).tr hle_356).tr hle_367).tr hle_378).tr hle_389).tr hle_400).tr hb_4162).tr hle_428).tr hle_439).tr hle_451).tr hle_463).tr hle_475).tr hle_487).tr hle_499).tr hle_511).tr hb_5282).tr hle_539).tr hle_551).tr hle_564 _ _ hgn_120
  have hg_579 := (((((((((((((((((((((((((((((((((hle_147).tr hle_157).tr hle_167).tr hle_177).tr hb_2002).tr hb_2192).tr hb_2382).tr hle_249).tr hle_260).tr hle_271).tr hb_2872).tr hb_3022).tr hle_312).tr hle_323).tr hle_334).tr hle_345).tr hle_356).tr hle_367).tr hle_378).tr hle_389).tr hle_400).tr hb_4162).tr hle_428).tr hle_439).tr hle_451).tr hle_463).tr hle_475).tr hle_487).tr hle_499).tr hle_511).tr hb_5282).tr hle_539).tr hle_551).tr hle_564 _ _ hgn_136
  have hg_580 := ((((((((((((((((((((((((((((((((hle_157).tr hle_167).tr hle_177).tr hb_2002).tr hb_2192).tr hb_2382).tr hle_249).tr hle_260).tr hle_271).tr hb_2872).tr hb_3022).tr hle_312).tr hle_323).tr hle_334).tr hle_345).tr hle_356).tr hle_367).tr hle_378).tr hle_389).tr hle_400).tr hb_4162).tr hle_428).tr hle_439).tr hle_451).tr hle_463).tr hle_475).tr hle_487).tr hle_499).tr hle_511).tr hb_5282).tr hle_539).tr hle_551).tr hle_564 _ _ hgn_147
  have hg_581 := (((((((((((((((((((((((((((((((hle_167).tr hle_177).tr hb_2002).tr hb_2192).tr hb_2382).tr hle_249).tr hle_260).tr hle_271).tr hb_2872).tr hb_3022).tr hle_312).tr hle_323).tr hle_334).tr hle_345).tr hle_356).tr hle_367).tr hle_378).tr hle_389).tr hle_400).tr hb_4162).tr hle_428).tr hle_439).tr hle_451).tr hle_463).tr hle_475).tr hle_487).tr hle_499).tr hle_511).tr hb_5282).tr hle_539).tr hle_551).tr hle_564 _ _ hgn_157
  have hg_582 := ((((((((((((((((((((((((((((((hle_177).tr hb_2002).tr hb_2192).tr hb_2382).tr hle_249).tr hle_260).tr hle_271).tr hb_2872).tr hb_3022).tr hle_312).tr hle_323).tr hle_334).tr hle_345).tr hle_356).tr hle_367).tr hle_378).tr hle_389).tr hle_400).tr hb_4162).tr hle_428).tr hle_439).tr hle_451).tr hle_463).tr hle_475).tr hle_487).tr hle_499).tr hle_511).tr hb_5282).tr hle_539).tr hle_551).tr hle_564 _ _ hgn_167
  have hg_583 := (((((((((((((((((((((((((((((hb_2002).tr hb_2192).tr hb_2382).tr hle_249).tr hle_260).tr hle_271).tr hb_2872).tr hb_3022).tr hle_312).tr hle_323).tr hle_334).tr hle_345).tr hle_356).tr hle_367).tr hle_378).tr hle_389).tr hle_400).tr hb_4162).tr hle_428).tr hle_439).tr hle_451).tr hle_463).tr hle_475).tr hle_487).tr hle_499).tr hle_511).tr hb_5282).tr hle_539).tr hle_551).tr hle_564 _ _ hgn_177
  have hg_584 := (((((((((((((((((((((((((hle_260).tr hle_271).tr hb_2872).tr hb_3022).tr hle_312).tr hle_323).tr hle_334).tr hle_345).tr hle_356).tr hle_367).tr hle_378).tr hle_389).tr hle_400).tr hb_4162).tr hle_428).tr hle_439).tr hle_451).tr hle_463).tr hle_475).tr hle_487).tr hle_499).tr hle_511).tr hb_5282).tr hle_539).tr hle_551).tr hle_564 _ _ hgn_249
  have hg_585 := ((((((((((((((((((((((((hle_271).tr hb_2872).tr hb_3022).tr hle_312).tr hle_323).tr hle_334).tr hle_345).tr hle_356).tr hle_367).tr hle_378).tr hle_389).tr hle_400).tr hb_4162).tr hle_428).tr hle_439).tr hle_451).tr hle_463).tr hle_475).tr hle_487).tr hle_499).tr hle_511).tr hb_5282).tr hle_539).tr hle_551).tr hle_564 _ _ hgn_260
  have hg_586 := (((((((((((((((((((((((hb_2872).tr hb_3022).tr hle_312).tr hle_323).tr hle_334).tr hle_345).tr hle_356).tr hle_367).tr hle_378).tr hle_389).tr hle_400).tr hb_4162).tr hle_428).tr hle_439).tr hle_451).tr hle_463).tr hle_475).tr hle_487).tr hle_499).tr hle_511).tr hb_5282).tr hle_539).tr hle_551).tr hle_564 _ _ hgn_271
  have hg_587 := ((((((((((((((((((((((hb_3022).tr hle_312).tr hle_323).tr hle_334).tr hle_345).tr hle_356).tr hle_367).tr hle_378).tr hle_389).tr hle_400).tr hb_4162).tr hle_428).tr hle_439).tr hle_451).tr hle_463).tr hle_475).tr hle_487).tr hle_499).tr hle_511).tr hb_5282).tr hle_539).tr hle_551).tr hle_564 _ _ hgc_287
  have hg_588 := (((((((((((((((((((((hle_312).tr hle_323).tr hle_334).tr hle_345).tr hle_356).tr hle_367).tr hle_378).tr hle_389).tr hle_400).tr hb_4162).tr hle_428).tr hle_439).tr hle_451).tr hle_463).tr hle_475).tr hle_487).tr hle_499).tr hle_511).tr hb_5282).tr hle_539).tr hle_551).tr hle_564 _ _ hgc_302
  have hg_589 := ((((((((((((((((((((hle_323).tr hle_334).tr hle_345).tr hle_356).tr hle_367).tr hle_378).tr hle_389).tr hle_400).tr hb_4162).tr hle_428).tr hle_439).tr hle_451).tr hle_463).tr hle_475).tr hle_487).tr hle_499).tr hle_511).tr hb_5282).tr hle_539).tr hle_551).tr hle_564 _ _ hgn_312
  have hg_590 := (((((((((((((((((((hle_334).tr hle_345).tr hle_356).tr hle_367).tr hle_378).tr hle_389).tr hle_400).tr hb_4162).tr hle_428).tr hle_439).tr hle_451).tr hle_463).tr hle_475).tr hle_487).tr hle_499).tr hle_511).tr hb_5282).tr hle_539).tr hle_551).tr hle_564 _ _ hgn_323
  have hg_591 := ((((((((((((((((((hle_345).tr hle_356).tr hle_367).tr hle_378).tr hle_389).tr hle_400).tr hb_4162).tr hle_428).tr hle_439).tr hle_451).tr hle_463).tr hle_475).tr hle_487).tr hle_499).tr hle_511).tr hb_5282).tr hle_539).tr hle_551).tr hle_564 _ _ hgn_334
  have hg_592 := (((((((((((((((((hle_356).tr hle_367).tr hle_378).tr hle_389).tr hle_400).tr hb_4162).tr hle_428).tr hle_439).tr hle_451).tr hle_463).tr hle_475).tr hle_487).tr hle_499).tr hle_511).tr hb_5282).tr hle_539).tr hle_551).tr hle_564 _ _ hgn_345
  have hg_593 := ((((((((((((((((hle_367).tr hle_378).tr hle_389).tr hle_400).tr hb_4162).tr hle_428).tr hle_439).tr hle_451).tr hle_463).tr hle_475).tr hle_487).tr hle_499).tr hle_511).tr hb_5282).tr hle_539).tr hle_551).tr hle_564 _ _ hgn_356
  have hg_594 := (((((((((((((((hle_378).tr hle_389).tr hle_400).tr hb_4162).tr hle_428).tr hle_439).tr hle_451).tr hle_463).tr hle_475).tr hle_487).tr hle_499).tr hle_511).tr hb_5282).tr hle_539).tr hle_551).tr hle_564 _ _ hgn_367
  have hg_595 := ((((((((((((((hle_389).tr hle_400).tr hb_4162).tr hle_428).tr hle_439).tr hle_451).tr hle_463).tr hle_475).tr hle_487).tr hle_499).tr hle_511).tr hb_5282).tr hle_539).tr hle_551).tr hle_564 _ _ hgn_378
  have hg_596 := (((((((((((((hle_400).tr hb_4162).tr hle_428).tr hle_439).tr hle_451).tr hle_463).tr hle_475).tr hle_487).tr hle_499).tr hle_511).tr hb_5282).tr hle_539).tr hle_551).tr hle_564 _ _ hgn_389
  have hg_597 := ((((((((((((hb_4162).tr hle_428).tr hle_439).tr hle_451).tr hle_463).tr hle_475).tr hle_487).tr hle_499).tr hle_511).tr hb_5282).tr hle_539).tr hle_551).tr hle_564 _ _ hgn_400
  have hg_598 := (((((((((((hle_428).tr hle_439).tr hle_451).tr hle_463).tr hle_475).tr hle_487).tr hle_499).tr hle_511).tr hb_5282).tr hle_539).tr hle_551).tr hle_564 _ _ hgc_416
  have hg_599 := ((((((((((hle_439).tr hle_451).tr hle_463).tr hle_475).tr hle_487).tr hle_499).tr hle_511).tr hb_5282).tr hle_539).tr hle_551).tr hle_564 _ _ hgn_428
  have hg_600 := (((((((((hle_451).tr hle_463).tr hle_475).tr hle_487).tr hle_499).tr hle_511).tr hb_5282).tr hle_539).tr hle_551).tr hle_564 _ _ hgn_439
  have hg_601 := ((((((((hle_463).tr hle_475).tr hle_487).tr hle_499).tr hle_511).tr hb_5282).tr hle_539).tr hle_551).tr hle_564 _ _ hgn_451
  have hg_602 := (((((((hle_475).tr hle_487).tr hle_499).tr hle_511).tr hb_5282).tr hle_539).tr hle_551).tr hle_564 _ _ hgn_463
  have hg_603 := ((((((hle_487).tr hle_499).tr hle_511).tr hb_5282).tr hle_539).tr hle_551).tr hle_564 _ _ hgn_475
  have hg_604 := (((((hle_499).tr hle_511).tr hb_5282).tr hle_539).tr hle_551).tr hle_564 _ _ hgn_487
  have hg_605 := ((((hle_511).tr hb_5282).tr hle_539).tr hle_551).tr hle_564 _ _ hgn_499
  have hg_606 := (((hb_5282).tr hle_539).tr hle_551).tr hle_564 _ _ hgn_511
  have hg_607 := ((hle_539).tr hle_551).tr hle_564 _ _ hgc_528
  have hg_608 := (hle_551).tr hle_564 _ _ hgn_539
  have hg_609 := (jLe.rf).tr hle_564 _ _ hgn_551
  have hfa_564 : jRf (va_up G_551 r0 (some (16, 0))) 111 4000 (.ref s.heap.size) ∧ jI 0 4000 (.int 0) ∧ jRf (va_up G_551 r0 (some (16, 0))) 101 20000 (.ref H_7.size) ∧ jI 0 20000 (.int 0) ∧ jIa (.int 0) ∧ jRf (va_up G_551 r0 (some (16, 0))) 101 100000 (.ref H_15.size) ∧ jI 0 100000 (.int 0) ∧ jZb (.int 0) ∧ jIa (.int 0) ∧ jRf (va_up G_551 r0 (some (16, 0))) 110 3300 (.ref H_23.size) ∧ jIa (.int 0) ∧ jIa (.int 0) ∧ jIa (.int 0) ∧ jRf (va_up G_551 r0 (some (16, 0))) 0 0 (.ref H_32.size) ∧ jRf (va_up G_551 r0 (some (16, 0))) 0 0 (.ref H_46.size) ∧ jI (-1) 3000 (.int (-1)) ∧ jIa (.int 0) ∧ jRf (va_up G_551 r0 (some (16, 0))) 117 3100 (.ref H_63.size) ∧ jRf (va_up G_551 r0 (some (16, 0))) 118 3100 (.ref H_73.size) ∧ jRf (va_up G_551 r0 (some (16, 0))) 119 3100 (.ref H_83.size) ∧ jRf (va_up G_551 r0 (some (16, 0))) 120 3100 (.ref H_93.size) ∧ jRf (va_up G_551 r0 (some (16, 0))) 121 3100 (.ref H_103.size) ∧ jRf (va_up G_551 r0 (some (16, 0))) 122 3100 (.ref H_113.size) ∧ jRf (va_up G_551 r0 (some (16, 0))) 123 3100 (.ref H_129.size) ∧ jRf (va_up G_551 r0 (some (16, 0))) 124 3100 (.ref H_145.size) ∧ jRf (va_up G_551 r0 (some (16, 0))) 125 3100 (.ref H_155.size) ∧ jI 0 3100 (.int 0) ∧ jRf (va_up G_551 r0 (some (16, 0))) 127 3300 (.ref H_165.size) ∧ jI 0 3300 (.int 0) ∧ jI 0 100000 (.int 0) ∧ jI 0 3000 (.int 0) ∧ jZb (.int 0) ∧ jI 0 3300 (.int 0) ∧ jIa (.int 0) ∧ jZb (.int 0) ∧ jZb (.int 0) ∧ jZb (.int 0) ∧ jIa (.int 0) ∧ jRf (va_up G_551 r0 (some (16, 0))) 101 20 (.ref H_175.size) ∧ jI (-3300) 20 (.int 0) ∧ jZb (.int 0) ∧ jRf (va_up G_551 r0 (some (16, 0))) 201 3 (.ref H_185.size) ∧ jI 0 3 (.int 0) ∧ jRf (va_up G_551 r0 (some (16, 0))) 112 3100 (.ref H_258.size) ∧ jI 0 1500 (.int 0) ∧ jRf (va_up G_551 r0 (some (16, 0))) 101 1500 (.ref H_269.size) ∧ jRf (va_up G_551 r0 (some (16, 0))) 14 0 (.ref H_280.size) ∧ jRf (va_up G_551 r0 (some (16, 0))) 14 0 (.ref H_295.size) ∧ jI 0 12 (.int 0) ∧ jRf (va_up G_551 r0 (some (16, 0))) 202 12 (.ref H_310.size) ∧ jRf (va_up G_551 r0 (some (16, 0))) 103 12 (.ref H_321.size) ∧ jRf (va_up G_551 r0 (some (16, 0))) 206 12 (.ref H_332.size) ∧ jRf (va_up G_551 r0 (some (16, 0))) 104 12 (.ref H_343.size) ∧ jRf (va_up G_551 r0 (some (16, 0))) 116 12 (.ref H_354.size) ∧ jRf (va_up G_551 r0 (some (16, 0))) 126 240 (.ref H_365.size) ∧ jRf (va_up G_551 r0 (some (16, 0))) 203 12 (.ref H_376.size) ∧ jRf (va_up G_551 r0 (some (16, 0))) 101 37200 (.ref H_387.size) ∧ jRf (va_up G_551 r0 (some (16, 0))) 204 12 (.ref H_398.size) ∧ jRf (va_up G_551 r0 (some (16, 0))) 15 0 (.ref H_409.size) ∧ jRf (va_up G_551 r0 (some (16, 0))) 101 3100 (.ref H_426.size) ∧ jRf (va_up G_551 r0 (some (16, 0))) 208 2 (.ref H_437.size) ∧ jRf (va_up G_551 r0 (some (16, 0))) 207 2 (.ref H_449.size) ∧ jRf (va_up G_551 r0 (some (16, 0))) 115 2 (.ref H_461.size) ∧ jRf (va_up G_551 r0 (some (16, 0))) 105 2 (.ref H_473.size) ∧ jIa (.int 0) ∧ jIa (.int 0) ∧ jI 0 24 (.int 0) ∧ jRf (va_up G_551 r0 (some (16, 0))) 114 38400 (.ref H_485.size) ∧ jRf (va_up G_551 r0 (some (16, 0))) 205 24 (.ref H_497.size) ∧ jRf (va_up G_551 r0 (some (16, 0))) 113 1600 (.ref H_509.size) ∧ jI 0 1600 (.int 0) ∧ jRf (va_up G_551 r0 (some (16, 0))) 14 0 (.ref H_521.size) ∧ jRf (va_up G_551 r0 (some (16, 0))) 101 40 (.ref H_537.size) ∧ jRf (va_up G_551 r0 (some (16, 0))) 101 40 (.ref H_549.size) ∧ True := ⟨⟨_, rfl, hg_567⟩, ⟨_, rfl, by omega, by omega⟩, ⟨_, rfl, hg_568⟩, ⟨_, rfl, by omega, by omega⟩, ⟨_, rfl⟩, ⟨_, rfl, hg_569⟩, ⟨_, rfl, by omega, by omega⟩, ⟨_, rfl, Or.inl rfl⟩, ⟨_, rfl⟩, ⟨_, rfl, hg_570⟩, ⟨_, rfl⟩, ⟨_, rfl⟩, ⟨_, rfl⟩, ⟨_, rfl, hg_571⟩, ⟨_, rfl, hg_572⟩, ⟨_, rfl, by omega, by omega⟩, ⟨_, rfl⟩, ⟨_, rfl, hg_573⟩, ⟨_, rfl, hg_574⟩, ⟨_, rfl, hg_575⟩, ⟨_, rfl, hg_576⟩, ⟨_, rfl, hg_577⟩, ⟨_, rfl, hg_578⟩, ⟨_, rfl, hg_579⟩, ⟨_, rfl, hg_580⟩, ⟨_, rfl, hg_581⟩, ⟨_, rfl, by omega, by omega⟩, ⟨_, rfl, hg_582⟩, ⟨_, rfl, by omega, by omega⟩, ⟨_, rfl, by omega, by omega⟩, ⟨_, rfl, by omega, by omega⟩, ⟨_, rfl, Or.inl rfl⟩, ⟨_, rfl, by omega, by omega⟩, ⟨_, rfl⟩, ⟨_, rfl, Or.inl rfl⟩, ⟨_, rfl, Or.inl rfl⟩, ⟨_, rfl, Or.inl rfl⟩, ⟨_, rfl⟩, ⟨_, rfl, hg_583⟩, ⟨_, rfl, by omega, by omega⟩, ⟨_, rfl, Or.inl rfl⟩, ⟨_, rfl, hg_584⟩, ⟨_, rfl, by omega, by omega⟩, ⟨_, rfl, hg_585⟩, ⟨_, rfl, by omega, by omega⟩, ⟨_, rfl, hg_586⟩, ⟨_, rfl, hg_587⟩, ⟨_, rfl, hg_588⟩, ⟨_, rfl, by omega, by omega⟩, ⟨_, rfl, hg_589⟩, ⟨_, rfl, hg_590⟩, ⟨_, rfl, hg_591⟩, ⟨_, rfl, hg_592⟩, ⟨_, rfl, hg_593⟩, ⟨_, rfl, hg_594⟩, ⟨_, rfl, hg_595⟩, ⟨_, rfl, hg_596⟩, ⟨_, rfl, hg_597⟩, ⟨_, rfl, hg_598⟩, ⟨_, rfl, hg_599⟩, ⟨_, rfl, hg_600⟩, ⟨_, rfl, hg_601⟩, ⟨_, rfl, hg_602⟩, ⟨_, rfl, hg_603⟩, ⟨_, rfl⟩, ⟨_, rfl⟩, ⟨_, rfl, by omega, by omega⟩, ⟨_, rfl, hg_604⟩, ⟨_, rfl, hg_605⟩, ⟨_, rfl, hg_606⟩, ⟨_, rfl, by omega, by omega⟩, ⟨_, rfl, hg_607⟩, ⟨_, rfl, hg_608⟩, ⟨_, rfl, hg_609⟩, trivial⟩
  have hh_564 := hh_561.typ (k := 16) (n := 0) hB hraw_555n hbr0 hraw_561.lt (jOb.of (C := RX14) (T := TX14) (N := 74) (F := F16) hB16 rfl hraw_561 (show jFx (F16 0 (va_up G_551 r0 (some (16, 0)))) [.ref s.heap.size, .int 0, .ref H_7.size, .int 0, .int 0, .ref H_15.size, .int 0, .int 0, .int 0, .ref H_23.size, .int 0, .int 0, .int 0, .ref H_32.size, .ref H_46.size, .int (-1), .int 0, .ref H_63.size, .ref H_73.size, .ref H_83.size, .ref H_93.size, .ref H_103.size, .ref H_113.size, .ref H_129.size, .ref H_145.size, .ref H_155.size, .int 0, .ref H_165.size, .int 0, .int 0, .int 0, .int 0, .int 0, .int 0, .int 0, .int 0, .int 0, .int 0, .ref H_175.size, .int 0, .int 0, .ref H_185.size, .int 0, .ref H_258.size, .int 0, .ref H_269.size, .ref H_280.size, .ref H_295.size, .int 0, .ref H_310.size, .ref H_321.size, .ref H_332.size, .ref H_343.size, .ref H_354.size, .ref H_365.size, .ref H_376.size, .ref H_387.size, .ref H_398.size, .ref H_409.size, .ref H_426.size, .ref H_437.size, .ref H_449.size, .ref H_461.size, .ref H_473.size, .int 0, .int 0, .int 0, .ref H_485.size, .ref H_497.size, .ref H_509.size, .int 0, .ref H_521.size, .ref H_537.size, .ref H_549.size] from hfa_564))
  have hgn_564 : (va_up G_551 r0 (some (16, 0))) r0 = some (16, 0) := jUp_self
  have hN_564 : (jNk [1, 2, 3, 4, 5, 6, 7, 8, 9, 10, 11, 12, 13, 17, 175]) G_551 (va_up G_551 r0 (some (16, 0))) := jNk.new (by decide)
  have hNn_564 : (jNk [1, 2, 3, 4, 5, 6, 7, 8, 9, 10, 11, 12, 13, 17, 175]) G0 (va_up G_551 r0 (some (16, 0))) := (hNn_551).tr hN_564
  have hkp_610 := hkp_562.typ (t := some (16, 0))
  have hg_611 := ((((((((((((((((((((((((((((((((((((((((((hb_532).tr hle_65).tr hle_75).tr hle_85).tr hle_95).tr hle_105).tr hle_120).tr hle_136).tr hle_147).tr hle_157).tr hle_167).tr hle_177).tr hb_2002).tr hb_2192).tr hb_2382).tr hle_249).tr hle_260).tr hle_271).tr hb_2872).tr hb_3022).tr hle_312).tr hle_323).tr hle_334).tr hle_345).tr hle_356).tr hle_367).tr hle_378).tr hle_389).tr hle_400).tr hb_4162).tr hle_428).tr hle_439).tr hle_451).tr hle_463).tr hle_475).tr hle_487).tr hle_499).tr hle_511).tr hb_5282).tr hle_539).tr hle_551).tr hle_564) _ _ hgc_39
  have hg_612 := (((((((((((((((((((((((((((((((((((((((((hle_65).tr hle_75).tr hle_85).tr hle_95).tr hle_105).tr hle_120).tr hle_136).tr hle_147).tr hle_157).tr hle_167).tr hle_177).tr hb_2002).tr hb_2192).tr hb_2382).tr hle_249).tr hle_260).tr hle_271).tr hb_2872).tr hb_3022).tr hle_312).tr hle_323).tr hle_334).tr hle_345).tr hle_356).tr hle_367).tr hle_378).tr hle_389).tr hle_400).tr hb_4162).tr hle_428).tr hle_439).tr hle_451).tr hle_463).tr hle_475).tr hle_487).tr hle_499).tr hle_511).tr hb_5282).tr hle_539).tr hle_551).tr hle_564) _ _ hgc_53
  have hg_613 := (((((((((((((((((((((((((((((((((((((((((((hb_392).tr hb_532).tr hle_65).tr hle_75).tr hle_85).tr hle_95).tr hle_105).tr hle_120).tr hle_136).tr hle_147).tr hle_157).tr hle_167).tr hle_177).tr hb_2002).tr hb_2192).tr hb_2382).tr hle_249).tr hle_260).tr hle_271).tr hb_2872).tr hb_3022).tr hle_312).tr hle_323).tr hle_334).tr hle_345).tr hle_356).tr hle_367).tr hle_378).tr hle_389).tr hle_400).tr hb_4162).tr hle_428).tr hle_439).tr hle_451).tr hle_463).tr hle_475).tr hle_487).tr hle_499).tr hle_511).tr hb_5282).tr hle_539).tr hle_551).tr hle_564) _ _ hgn_25
  have hg_614 := ((((((((((((((((((((((((((hle_260).tr hle_271).tr hb_2872).tr hb_3022).tr hle_312).tr hle_323).tr hle_334).tr hle_345).tr hle_356).tr hle_367).tr hle_378).tr hle_389).tr hle_400).tr hb_4162).tr hle_428).tr hle_439).tr hle_451).tr hle_463).tr hle_475).tr hle_487).tr hle_499).tr hle_511).tr hb_5282).tr hle_539).tr hle_551).tr hle_564) _ _ hgn_249
  have hg_615 := ((((((((((hle_451).tr hle_463).tr hle_475).tr hle_487).tr hle_499).tr hle_511).tr hb_5282).tr hle_539).tr hle_551).tr hle_564) _ _ hgn_439
  have hg_616 := (((((((((hle_463).tr hle_475).tr hle_487).tr hle_499).tr hle_511).tr hb_5282).tr hle_539).tr hle_551).tr hle_564) _ _ hgn_451
  have hg_617 := (((((((((((((((((((((((hb_3022).tr hle_312).tr hle_323).tr hle_334).tr hle_345).tr hle_356).tr hle_367).tr hle_378).tr hle_389).tr hle_400).tr hb_4162).tr hle_428).tr hle_439).tr hle_451).tr hle_463).tr hle_475).tr hle_487).tr hle_499).tr hle_511).tr hb_5282).tr hle_539).tr hle_551).tr hle_564) _ _ hgc_287
  have hg_618 := ((((((((((((((((((((((hle_312).tr hle_323).tr hle_334).tr hle_345).tr hle_356).tr hle_367).tr hle_378).tr hle_389).tr hle_400).tr hb_4162).tr hle_428).tr hle_439).tr hle_451).tr hle_463).tr hle_475).tr hle_487).tr hle_499).tr hle_511).tr hb_5282).tr hle_539).tr hle_551).tr hle_564) _ _ hgc_302
  have hg_619 := (((hle_539).tr hle_551).tr hle_564) _ _ hgc_528
  have hg_620 := (((((((((((((((((((((((((((((((((((hle_136).tr hle_147).tr hle_157).tr hle_167).tr hle_177).tr hb_2002).tr hb_2192).tr hb_2382).tr hle_249).tr hle_260).tr hle_271).tr hb_2872).tr hb_3022).tr hle_312).tr hle_323).tr hle_334).tr hle_345).tr hle_356).tr hle_367).tr hle_378).tr hle_389).tr hle_400).tr hb_4162).tr hle_428).tr hle_439).tr hle_451).tr hle_463).tr hle_475).tr hle_487).tr hle_499).tr hle_511).tr hb_5282).tr hle_539).tr hle_551).tr hle_564) _ _ hgn_120
  have hg_621 := ((((((((((((((((((((((((((((((((((hle_147).tr hle_157).tr hle_167).tr hle_177).tr hb_2002).tr hb_2192).tr hb_2382).tr hle_249).tr hle_260).tr hle_271).tr hb_2872).tr hb_3022).tr hle_312).tr hle_323).tr hle_334).tr hle_345).tr hle_356).tr hle_367).tr hle_378).tr hle_389).tr hle_400).tr hb_4162).tr hle_428).tr hle_439).tr hle_451).tr hle_463).tr hle_475).tr hle_487).tr hle_499).tr hle_511).tr hb_5282).tr hle_539).tr hle_551).tr hle_564) _ _ hgn_136
  have hg_622 := ((((((((hle_475).tr hle_487).tr hle_499).tr hle_511).tr hb_5282).tr hle_539).tr hle_551).tr hle_564) _ _ hgn_463
  have hg_623 := (((((((((((((((((((((hle_323).tr hle_334).tr hle_345).tr hle_356).tr hle_367).tr hle_378).tr hle_389).tr hle_400).tr hb_4162).tr hle_428).tr hle_439).tr hle_451).tr hle_463).tr hle_475).tr hle_487).tr hle_499).tr hle_511).tr hb_5282).tr hle_539).tr hle_551).tr hle_564) _ _ hgn_312
  have hg_624 := (((((((((((((((((((hle_345).tr hle_356).tr hle_367).tr hle_378).tr hle_389).tr hle_400).tr hb_4162).tr hle_428).tr hle_439).tr hle_451).tr hle_463).tr hle_475).tr hle_487).tr hle_499).tr hle_511).tr hb_5282).tr hle_539).tr hle_551).tr hle_564) _ _ hgn_334
  have hg_625 := ((((((((((((((((((hle_356).tr hle_367).tr hle_378).tr hle_389).tr hle_400).tr hb_4162).tr hle_428).tr hle_439).tr hle_451).tr hle_463).tr hle_475).tr hle_487).tr hle_499).tr hle_511).tr hb_5282).tr hle_539).tr hle_551).tr hle_564) _ _ hgn_345
  have hg_626 := (((((((((((((((((hle_367).tr hle_378).tr hle_389).tr hle_400).tr hb_4162).tr hle_428).tr hle_439).tr hle_451).tr hle_463).tr hle_475).tr hle_487).tr hle_499).tr hle_511).tr hb_5282).tr hle_539).tr hle_551).tr hle_564) _ _ hgn_356
  have hg_627 := ((((((((((((((((hle_378).tr hle_389).tr hle_400).tr hb_4162).tr hle_428).tr hle_439).tr hle_451).tr hle_463).tr hle_475).tr hle_487).tr hle_499).tr hle_511).tr hb_5282).tr hle_539).tr hle_551).tr hle_564) _ _ hgn_367
  have hg_628 := (((((((((((((((hle_389).tr hle_400).tr hb_4162).tr hle_428).tr hle_439).tr hle_451).tr hle_463).tr hle_475).tr hle_487).tr hle_499).tr hle_511).tr hb_5282).tr hle_539).tr hle_551).tr hle_564) _ _ hgn_378
  have hg_629 := ((((((hle_499).tr hle_511).tr hb_5282).tr hle_539).tr hle_551).tr hle_564) _ _ hgn_487
  have hg_630 := (((((hle_511).tr hb_5282).tr hle_539).tr hle_551).tr hle_564) _ _ hgn_499
  have hh_631 := hh_564.more (P1 := ((r0, 16, 1, .int 0) :: (r0, 16, 12, .int 0) :: (r0, 16, 11, .int 0) :: (r0, 16, 15, .int (-1)) :: (r0, 16, 16, .int 0) :: (r0, 16, 7, .int 0) :: (r0, 16, 34, .int 0) :: (r0, 16, 35, .int 0) :: (r0, 16, 13, .ref H_32.size) :: (r0, 16, 14, .ref H_46.size) :: (r0, 16, 9, .ref H_23.size) :: (r0, 16, 41, .ref H_185.size) :: (r0, 16, 42, .int 0) :: (r0, 16, 60, .ref H_437.size) :: (r0, 16, 61, .ref H_449.size) :: (r0, 16, 46, .ref H_280.size) :: (r0, 16, 47, .ref H_295.size) :: (r0, 16, 71, .ref H_521.size) :: (r0, 16, 22, .ref H_113.size) :: (r0, 16, 23, .ref H_129.size) :: (r0, 16, 62, .ref H_461.size) :: (r0, 16, 48, .int 0) :: (r0, 16, 49, .ref H_310.size) :: (r0, 16, 51, .ref H_332.size) :: (r0, 16, 52, .ref H_343.size) :: (r0, 16, 53, .ref H_354.size) :: (r0, 16, 54, .ref H_365.size) :: (r0, 16, 55, .ref H_376.size) :: (r0, 16, 66, .int 0) :: (r0, 16, 67, .ref H_485.size) :: (r0, 16, 68, .ref H_497.size) :: [])) (jP.cons hgn_564 (jf.raw (C := RX14) (T := TX14) (N := 74) rfl hraw_561 (i := 1) (by decide)) (jP.cons hgn_564 (jf.raw (C := RX14) (T := TX14) (N := 74) rfl hraw_561 (i := 12) (by decide)) (jP.cons hgn_564 (jf.raw (C := RX14) (T := TX14) (N := 74) rfl hraw_561 (i := 11) (by decide)) (jP.cons hgn_564 (jf.raw (C := RX14) (T := TX14) (N := 74) rfl hraw_561 (i := 15) (by decide)) (jP.cons hgn_564 (jf.raw (C := RX14) (T := TX14) (N := 74) rfl hraw_561 (i := 16) (by decide)) (jP.cons hgn_564 (jf.raw (C := RX14) (T := TX14) (N := 74) rfl hraw_561 (i := 7) (by decide)) (jP.cons hgn_564 (jf.raw (C := RX14) (T := TX14) (N := 74) rfl hraw_561 (i := 34) (by decide)) (jP.cons hgn_564 (jf.raw (C := RX14) (T := TX14) (N := 74) rfl hraw_561 (i := 35) (by decide)) (jP.cons hgn_564 (jf.raw (C := RX14) (T := TX14) (N := 74) rfl hraw_561 (i := 13) (by decide)) (jP.cons hgn_564 (jf.raw (C := RX14) (T := TX14) (N := 74) rfl hraw_561 (i := 14) (by decide)) (jP.cons hgn_564 (jf.raw (C := RX14) (T := TX14) (N := 74) rfl hraw_561 (i := 9) (by decide)) (jP.cons hgn_564 (jf.raw (C := RX14) (T := TX14) (N := 74) rfl hraw_561 (i := 41) (by decide)) (jP.cons hgn_564 (jf.raw (C := RX14) (T := TX14) (N := 74) rfl hraw_561 (i := 42) (by decide)) (jP.cons hgn_564 (jf.raw (C := RX14) (T := TX14) (N := 74) rfl hraw_561 (i := 60) (by decide)) (jP.cons hgn_564 (jf.raw (C := RX14) (T := TX14) (N := 74) rfl hraw_561 (i := 61) (by decide)) (jP.cons hgn_564 (jf.raw (C := RX14) (T := TX14) (N := 74) rfl hraw_561 (i := 46) (by decide)) (jP.cons hgn_564 (jf.raw (C := RX14) (T := TX14) (N := 74) rfl hraw_561 (i := 47) (by decide)) (jP.cons hgn_564 (jf.raw (C := RX14) (T := TX14) (N := 74) rfl hraw_561 (i := 71) (by decide)) (jP.cons hgn_564 (jf.raw (C := RX14) (T := TX14) (N := 74) rfl hraw_561 (i := 22) (by decide)) (jP.cons hgn_564 (jf.raw (C := RX14) (T := TX14) (N := 74) rfl hraw_561 (i := 23) (by decide)) (jP.cons hgn_564 (jf.raw (C := RX14) (T := TX14) (N := 74) rfl hraw_561 (i := 62) (by decide)) (jP.cons hgn_564 (jf.raw (C := RX14) (T := TX14) (N := 74) rfl hraw_561 (i := 48) (by decide)) (jP.cons hgn_564 (jf.raw (C := RX14) (T := TX14) (N := 74) rfl hraw_561 (i := 49) (by decide)) (jP.cons hgn_564 (jf.raw (C := RX14) (T := TX14) (N := 74) rfl hraw_561 (i := 51) (by decide)) (jP.cons hgn_564 (jf.raw (C := RX14) (T := TX14) (N := 74) rfl hraw_561 (i := 52) (by decide)) (jP.cons hgn_564 (jf.raw (C := RX14) (T := TX14) (N := 74) rfl hraw_561 (i := 53) (by decide)) (jP.cons hgn_564 (jf.raw (C := RX14) (T := TX14) (N := 74) rfl hraw_561 (i := 54) (by decide)) (jP.cons hgn_564 (jf.raw (C := RX14) (T := TX14) (N := 74) rfl hraw_561 (i := 55) (by decide)) (jP.cons hgn_564 (jf.raw (C := RX14) (T := TX14) (N := 74) rfl hraw_561 (i := 66) (by decide)) (jP.cons hgn_564 (jf.raw (C := RX14) (T := TX14) (N := 74) rfl hraw_561 (i := 67) (by decide)) (jP.cons hgn_564 (jf.raw (C := RX14) (T := TX14) (N := 74) rfl hraw_561 (i := 68) (by decide)) jP.nil)))))))))))))))))))))))))))))))
  have hM_564 : jNk [11] G_551 (va_up G_551 r0 (some (16, 0))) := jNk.new (by decide)
  have hZ_564 : jN14 G_551 (va_up G_551 r0 (some (16, 0))) := jN14.new (by decide)
  have hd_632 := jDZ.grow (hh_631.iv 0 rfl) hle_564 hZ_564
  have hh_633 := hh_631.sub (L1 := ((r0, 16, 1, .int 0) :: (r0, 16, 12, .int 0) :: (r0, 16, 11, .int 0) :: (r0, 16, 15, .int (-1)) :: (r0, 16, 16, .int 0) :: (r0, 16, 7, .int 0) :: (r0, 16, 34, .int 0) :: (r0, 16, 35, .int 0) :: (r0, 16, 13, .ref H_32.size) :: (r0, 16, 14, .ref H_46.size) :: (r0, 16, 9, .ref H_23.size) :: (r0, 16, 41, .ref H_185.size) :: (r0, 16, 42, .int 0) :: (r0, 16, 60, .ref H_437.size) :: (r0, 16, 61, .ref H_449.size) :: (r0, 16, 46, .ref H_280.size) :: (r0, 16, 47, .ref H_295.size) :: (r0, 16, 71, .ref H_521.size) :: (r0, 16, 22, .ref H_113.size) :: (r0, 16, 23, .ref H_129.size) :: (r0, 16, 62, .ref H_461.size) :: (r0, 16, 48, .int 0) :: (r0, 16, 49, .ref H_310.size) :: (r0, 16, 51, .ref H_332.size) :: (r0, 16, 52, .ref H_343.size) :: (r0, 16, 53, .ref H_354.size) :: (r0, 16, 54, .ref H_365.size) :: (r0, 16, 55, .ref H_376.size) :: (r0, 16, 66, .int 0) :: (r0, 16, 67, .ref H_485.size) :: (r0, 16, 68, .ref H_497.size) :: (H_46.size, 0, 3, .int qc_53) :: (H_46.size, 0, 0, .ref xa_53) :: (H_32.size, 0, 3, .int qc_39) :: (H_32.size, 0, 0, .ref xa_39) :: [])) [0, 1, 2, 3, 4, 5, 6, 7, 8, 9, 10, 11, 12, 13, 14, 15, 16, 17, 18, 19, 20, 21, 22, 23, 24, 25, 26, 27, 28, 29, 30, 31, 32, 33, 34] rfl (M1 := [(H_129.size, 123, 3100, ca 1, (fun _ => 0)), (H_113.size, 122, 3100, ca 1, (fun _ => 0)), (H_23.size, 110, 3300, ca 1, (fun _ => 0))]) [0, 1, 2] rfl (I1 := [([(208, 0)], jQc dC dI (ca 4) H_437.size 2 (fun _ => none)), ([(201, 0)], jQc dC dI (ca 4) H_185.size 3 (va_up (va_up (va_up (fun _ => none) 0 (some H_187.size)) 1 (some H_208.size)) 2 (some H_227.size)))]) [1, 2] rfl
  clear hh_631
  have hh_634 := hh_633.addI (jDZ.ie hd_632)
  clear hh_633
  have hz8 := hh_634.iv 0 rfl
  obtain ⟨tr9, hrd9, htz9⟩ := jDZ.rd (ca := ca) hz8 hh_634.2.1 hB194 hB195
  obtain ⟨fs9, hh_637⟩ := hh_634.cpin hB207 (by decide) (by decide) hg_616
  have hz9 := hh_637.iv 0 rfl
  have hdy9 := jDZ.dy (ca := ca) hz9 hh_637.2.1 hB190 hB191
  have hvl9 := jDZ.vl hz9
  have hh_638 := hh_637.addI (jVl.ie hvl9)
  clear hh_637
  have hh_639 := hh_638.addI (jDY.ie hdy9)
  clear hh_638
  have hft9 : jFT dC dI ca (va_up G_551 r0 (some (16, 0))) H_113.size H_129.size H_561 := ⟨fun _ => 0, fun _ => 0, hh_639.2.2.2.2.2.2.2.1.sub (L1 := [(H_113.size, 122, 3100, ca 1, (fun _ => 0)), (H_129.size, 123, 3100, ca 1, (fun _ => 0))]) [2, 1] rfl, fun i _ _ => Int.le_refl _⟩
  have hh_640 := hh_639.addI (jFT.ie hft9 hg_620 hg_621)
  clear hh_639
  have hro9 : jRo dC dI ca (va_up G_551 r0 (some (16, 0))) r0 H_561 ∧ jRS dC dI ca (va_up G_551 r0 (some (16, 0))) r0 (0, fun _ => jdDz) H_561 := ⟨⟨H_185.size, H_437.size, H_449.size, H_280.size, H_295.size, H_521.size, H_113.size, H_129.size, hg_614, hg_615, hg_616, hg_617, hg_618, hg_619, hg_620, hg_621, ⟨fun _ => 0, fun _ => 0, fs9, (va_up (va_up (va_up (fun _ => none) 0 (some H_187.size)) 1 (some H_208.size)) 2 (some H_227.size)), (fun _ => none), 0, hh_640.2.2.1.sub (L1 := [(r0, 16, 41, .ref H_185.size), (r0, 16, 42, .int 0), (r0, 16, 60, .ref H_437.size), (r0, 16, 61, .ref H_449.size), (r0, 16, 46, .ref H_280.size), (r0, 16, 47, .ref H_295.size), (r0, 16, 71, .ref H_521.size)]) [11, 12, 13, 14, 15, 16, 17] rfl, hh_640.2.2.2.2.2.2.2.1.sub (L1 := [(H_449.size, 207, 2, ca 1, fs9)]) [0] rfl, hh_640.2.2.2.2.2.2.2.2.sub (L1 := [(jFs, jDY dC dI ca (va_up G_551 r0 (some (16, 0))) none (fun _ => 0)), (jF9, jVl dC dI (va_up G_551 r0 (some (16, 0))) 9 (fun _ => 0)), ([(201, 0)], jQc dC dI (ca 4) H_185.size 3 (va_up (va_up (va_up (fun _ => none) 0 (some H_187.size)) 1 (some H_208.size)) 2 (some H_227.size))), ([(208, 0)], jQc dC dI (ca 4) H_437.size 2 (fun _ => none))]) [1, 2, 5, 4] rfl, jPu.zero (a := H_187.size) (b := H_208.size) (c := H_227.size) (by first | rfl | simp [va_up]) (by first | rfl | simp [va_up]) (by first | rfl | simp [va_up]) hlt_d0 hlt_d1 hlt_d2 hlt_ol hlt_nw (fun _ _ => rfl)⟩, hh_640.2.2.1.sub (L1 := [(r0, 16, 22, .ref H_113.size), (r0, 16, 23, .ref H_129.size)]) [18, 19] rfl, hh_640.2.2.2.2.2.2.2.2.sub (L1 := [(jFt, jFT dC dI ca (va_up G_551 r0 (some (16, 0))) H_113.size H_129.size)]) [0] rfl⟩, jRS.z hgn_564 (hh_640.at 11 rfl) hg_614 (hh_640.iv 5 rfl) (hh_640.at 12 rfl) (by decide) hrd9 htz9 (fun i hi => by rcases (by omega : i = 0 ∨ i = 1 ∨ i = 2) with rfl | rfl | rfl; exact ⟨H_187.size, by first | rfl | simp [va_up]⟩; exact ⟨H_208.size, by first | rfl | simp [va_up]⟩; exact ⟨H_227.size, by first | rfl | simp [va_up]⟩)⟩
  obtain ⟨qx9, hxd9, hxz9⟩ := jDZ.xd (ca := ca) hz8 hh_640.2.1 hB190 hB191 hB192
  have hBf9 : jBZ dC dI ca (va_up G_551 r0 (some (16, 0))) r0 (0, fun _ => jdDz) jwZ0 H_561 := jBZ.mk0 (a := H_187.size) (b := H_208.size) (c := H_227.size) hgn_564 (hh_640.at 11 rfl) hg_614 (hh_640.iv 5 rfl) (hh_640.at 12 rfl) (hh_640.at 13 rfl) hg_615 (hh_640.iv 4 rfl) (hh_640.at 21 rfl) (hh_640.at 22 rfl) hg_623 (jAq.va ((hB202 _ _ _ _).mp (hh_640.2.1.1 _ _ _ hg_623 (by decide) (fun q => by cases q)))) (hh_640.at 28 rfl) (hh_640.at 14 rfl) hg_616 (jAr.va ((hB207 _ _ _ _).mp (hh_640.2.1.1 _ _ _ hg_616 (by decide) (fun q => by cases q)))) (hh_640.at 20 rfl) hg_622 (jAr.va ((hB115 _ _ _ _).mp (hh_640.2.1.1 _ _ _ hg_622 (by decide) (fun q => by cases q)))) (hh_640.at 23 rfl) hg_624 (jAr.va ((hB206 _ _ _ _).mp (hh_640.2.1.1 _ _ _ hg_624 (by decide) (fun q => by cases q)))) (hh_640.at 24 rfl) hg_625 (jAr.va ((hB104 _ _ _ _).mp (hh_640.2.1.1 _ _ _ hg_625 (by decide) (fun q => by cases q)))) (hh_640.at 25 rfl) hg_626 (jAr.va ((hB116 _ _ _ _).mp (hh_640.2.1.1 _ _ _ hg_626 (by decide) (fun q => by cases q)))) (hh_640.at 26 rfl) hg_627 (jAr.va ((hB126 _ _ _ _).mp (hh_640.2.1.1 _ _ _ hg_627 (by decide) (fun q => by cases q)))) (hh_640.at 27 rfl) hg_628 (jAr.va ((hB203 _ _ _ _).mp (hh_640.2.1.1 _ _ _ hg_628 (by decide) (fun q => by cases q)))) (hh_640.at 29 rfl) hg_629 (jAr.va ((hB114 _ _ _ _).mp (hh_640.2.1.1 _ _ _ hg_629 (by decide) (fun q => by cases q)))) (hh_640.at 30 rfl) hg_630 (jAr.va ((hB205 _ _ _ _).mp (hh_640.2.1.1 _ _ _ hg_630 (by decide) (fun q => by cases q)))) (hh_640.at 15 rfl) hg_617 (hh_640.at 16 rfl) hg_618 (hh_640.at 17 rfl) hg_619 hrd9 hxd9 htz9 hxz9 (by first | rfl | simp [va_up]) (by first | rfl | simp [va_up]) (by first | rfl | simp [va_up]) hlt_d0 hlt_d1 hlt_d2 hlt_ol hlt_nw (fun _ _ => rfl)
  exact W.vret hx hb hr (fun t ht hW => ⟨⟨(0, 0, 0, (-1), 0, 0, qc_39, qc_53, 0, 0, H_32.size, 0, H_46.size, 0, xa_39, m_xa_39, xa_53, m_xa_53, H_23.size, 3300, (fun _ => 0), (va_up G_551 r0 (some (16, 0)))), rfl, by (try dsimp only); exact ⟨(by first | omega | rfl | assumption | fail), (by first | omega | rfl | assumption | fail), (by first | omega | rfl | assumption | fail), (by first | omega | rfl | assumption | fail), (by first | omega | rfl | assumption | fail), (by first | omega | rfl | assumption | fail), (by first | omega | rfl | assumption | fail), (by first | omega | rfl | assumption | fail), (by first | omega | rfl | assumption | fail), (by first | omega | rfl | assumption | fail), (by first | omega | rfl | assumption | fail), (by first | omega | rfl | assumption | fail), (by first | omega | rfl | assumption | fail), (by first | omega | rfl | assumption | fail), (by first | omega | rfl | assumption | fail), (by first | omega | rfl | assumption | fail), (by first | omega | rfl | assumption | fail)⟩, ⟨hh_640.ra (by first | (simp only; omega) | omega) (by first | (simp only; omega) | omega) (M1 := [(r0, 16, 1, .int 0), (r0, 16, 12, .int 0), (r0, 16, 11, .int 0), (r0, 16, 15, .int (-1)), (r0, 16, 16, .int 0), (r0, 16, 7, .int 0), (H_32.size, 0, 3, .int qc_39), (H_46.size, 0, 3, .int qc_53), (r0, 16, 34, .int 0), (r0, 16, 35, .int 0), (r0, 16, 13, .ref H_32.size), (r0, 16, 14, .ref H_46.size), (H_32.size, 0, 0, .ref xa_39), (H_46.size, 0, 0, .ref xa_53), (r0, 16, 9, .ref H_23.size)]) [0, 1, 2, 3, 4, 5, 33, 31, 6, 7, 8, 9, 34, 32, 10] rfl ht, hg_611, hg_612, hg_566, hg_565, hg_613, hNn_564, hgn_564, by rw [ht]; exact hkp_610, by rw [ht]; exact hh_640.2.2.2.2.2.2.2.2.sub (L1 := [(jFz9, jDZ dC dI (va_up G_551 r0 (some (16, 0))))]) [3] rfl, by rw [ht]; exact hh_640.2.2.2.2.2.2.2.1.sub [3] rfl, by rw [ht]; exact ⟨hro9.1, hro9.2, hBf9⟩⟩⟩, by rw [ht]; try exact hh_640.1.1, fun q h9 hq => by rw [ht]; try exact hh_640.1.2.1 q h9 hq⟩) hh_640.1.2.2 dX14_init_417
end
