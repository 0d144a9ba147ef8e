section
def EX11_initW : List (Nat × Nat) := [(8, 3), (101, 0), (102, 0), (132, 0), (133, 0)]
set_option maxHeartbeats 40000000 in
set_option maxRecDepth 20000 in
theorem uX11_initW (l : Launch) (dC : Nat → ClassId) (dI : Nat → Nat → Nat) (ca : Nat → ClassId) (base : Nat) (B : jF) (hB : jBok B) (hAp : jAp (dC, dI)) (hB1 : ∀ n G a H, B 1 n G a H ↔ jOb (dC, dI) 1 3 (F1 n G) a H) (hB2 : ∀ n G a H, B 2 n G a H ↔ jOb (dC, dI) 2 2 (F2 n G) a H) (hB3 : ∀ n G a H, B 3 n G a H ↔ jOb (dC, dI) 3 17 (F3 n G) a H) (hB4 : ∀ n G a H, B 4 n G a H ↔ jOb (dC, dI) 4 12 (F4 n G) a H) (hB5 : ∀ n G a H, B 5 n G a H ↔ jOb (dC, dI) 5 4 (F5 n G) a H) (hB6 : ∀ n G a H, B 6 n G a H ↔ jOb (dC, dI) 6 12 (F6 n G) a H) (hB7 : ∀ n G a H, B 7 n G a H ↔ jOb (dC, dI) 7 11 (F7 n G) a H) (hB8 : ∀ n G a H, B 8 n G a H ↔ jOb (dC, dI) 8 4 (F8 n G) a H) (hB9 : ∀ n G a H, B 9 n G a H ↔ jOb (dC, dI) 9 5 (F9b n G) a H) (hB10 : ∀ n G a H, B 10 n G a H ↔ jOb (dC, dI) 10 5 (F10 n G) a H) (hB11 : ∀ n G a H, B 11 n G a H ↔ jOb (dC, dI) 11 9 (F11 n G) a H) (hB12 : ∀ n G a H, B 12 n G a H ↔ jOb (dC, dI) 12 11 (F12b n G) a H) (hB13 : ∀ n G a H, B 13 n G a H ↔ jOb (dC, dI) 13 19 (F13 n G) a H) (hB17 : ∀ n G a H, B 17 n G a H ↔ jOb (dC, dI) 17 2 (F17 n G) a H) (hB100 : ∀ n G a H, B 100 n G a H ↔ jAr (dC, dI) (ca 0) (fun j z => True) n a H) (hB101 : ∀ n G a H, B 101 n G a H ↔ jAr (dC, dI) (ca 1) (fun j z => True) n a H) (hB102 : ∀ n G a H, B 102 n G a H ↔ jAl (dC, dI) (ca 2) n a H) (hB132 : ∀ n G a H, B 132 n G a H ↔ jAr (dC, dI) (ca 1) (fun j z => 0 ≤ z.toInt ∧ z.toInt ≤ 10) n a H) (hB133 : ∀ n G a H, B 133 n G a H ↔ jAr (dC, dI) (ca 1) (fun j z => 0 ≤ z.toInt ∧ z.toInt ≤ 8192) n a H) (hB140 : ∀ n G a H, B 140 n G a H ↔ jAr (dC, dI) (ca 1) (fun j z => True) n a H) (hB141 : ∀ n G a H, B 141 n G a H ↔ jAr (dC, dI) (ca 1) (fun j z => True) n a H) (hB142 : ∀ n G a H, B 142 n G a H ↔ jAr (dC, dI) (ca 1) (fun j z => True) n a H) (hB143 : ∀ n G a H, B 143 n G a H ↔ jAr (dC, dI) (ca 1) (fun j z => True) n a H) (hB144 : ∀ n G a H, B 144 n G a H ↔ jAr (dC, dI) (ca 1) (fun j z => 0 ≤ z.toInt ∧ z.toInt ≤ 3000) n a H) (hB145 : ∀ n G a H, B 145 n G a H ↔ jAr (dC, dI) (ca 1) (fun j z => True) n a H) (hB146 : ∀ n G a H, B 146 n G a H ↔ jAr (dC, dI) (ca 1) (fun j z => True) n a H) (hB171 : ∀ n G a H, B 171 n G a H ↔ jAr (dC, dI) (ca 1) (fun j z => 0 ≤ z.toInt ∧ z.toInt ≤ 1500) n a H) (hB172 : ∀ n G a H, B 172 n G a H ↔ jAr (dC, dI) (ca 1) (fun j z => 0 ≤ z.toInt ∧ z.toInt ≤ 1500) n a H) (hB173 : ∀ n G a H, B 173 n G a H ↔ jAr (dC, dI) (ca 1) (fun j z => True) n a H) (hB174 : ∀ n G a H, B 174 n G a H ↔ jAr (dC, dI) (ca 1) (fun j z => True) n a H) (hB175 : ∀ n G a H, B 175 n G a H ↔ jAr (dC, dI) (ca 1) (fun j z => True) n a H) (hB176 : ∀ n G a H, B 176 n G a H ↔ jAr (dC, dI) (ca 1) (fun j z => True) n a H) (hB177 : ∀ n G a H, B 177 n G a H ↔ jAr (dC, dI) (ca 1) (fun j z => True) n a H) (hB196 : ∀ n G a H, B 196 n G a H ↔ jAr (dC, dI) (ca 0) (fun j z => jBf j z) n a H) (hB197 : ∀ n G a H, B 197 n G a H ↔ jAr (dC, dI) (ca 0) (fun j z => jBf j z) n a H) (hB199 : ∀ n G a H, B 199 n G a H ↔ jAr (dC, dI) (ca 0) (fun j z => jBf j z) n a H) (hB210 : ∀ n G a H, B 210 n G a H ↔ jAq (dC, dI) (ca 6) (jQn 11 0) n G a H) (hB211 : ∀ n G a H, B 211 n G a H ↔ jAq (dC, dI) (ca 7) (jQh) n G a H) (hB212 : ∀ n G a H, B 212 n G a H ↔ jAq (dC, dI) (ca 5) (jQn 3 0) n G a H) (hB214 : ∀ n G a H, B 214 n G a H ↔ jAq (dC, dI) (ca 7) (jQg) n G a H) (hB280 : ∀ n G a H, B 280 n G a H ↔ jAr (dC, dI) (ca 1) (fun j z => -1 ≤ z.toInt) n a H) (hB286 : ∀ n G a H, B 286 n G a H ↔ jAr (dC, dI) (ca 1) (fun j z => (0 ≤ z.toInt ∨ z.toInt = -3)) n a H) (hB287 : ∀ n G a H, B 287 n G a H ↔ jAr (dC, dI) (ca 1) (fun j z => 0 ≤ z.toInt ∧ z.toInt ≤ 65535) n a H) (hB288 : ∀ n G a H, B 288 n G a H ↔ jAr (dC, dI) (ca 1) (fun j z => 0 ≤ z.toInt ∧ z.toInt ≤ 160) n a H) (hB290 : ∀ n G a H, B 290 n G a H ↔ jAr (dC, dI) (ca 1) (fun j z => 0 ≤ z.toInt ∧ z.toInt ≤ 3000) n a H) (hB291 : ∀ n G a H, B 291 n G a H ↔ jAr (dC, dI) (ca 1) (fun j z => 0 ≤ z.toInt ∧ z.toInt ≤ 3000) n a H) (hB292 : ∀ n G a H, B 292 n G a H ↔ jAr (dC, dI) (ca 1) (fun j z => 0 ≤ z.toInt ∧ z.toInt ≤ 8191) n a H) (hB293 : ∀ n G a H, B 293 n G a H ↔ jAr (dC, dI) (ca 1) (fun j z => -1 ≤ z.toInt ∧ z.toInt ≤ 8191) n a H) (hB313 : ∀ n G a H, B 313 n G a H ↔ jAq (dC, dI) (ca 8) (jQk 280 80) n G a H) (G0 : jT) (H0 : Heap) (r0 : Nat) (ph : Nat) (tq : jDtl) (wl : jWl9) (kq : jKg) (qq : jRqG) (us : Nat → List Int) (rw : Nat → List Int) (ib : Nat → List Int) (LC LS : Nat) : Met l yX11_init (jw yX11_init cX11_init 1 none) ({ frames := 6, cells := LC - H0.size, slots := LS - jTot H0, locals := 184 }) (va_Pc [.ref r0] (fun U => U.heap = H0 ∧ jX B base G0 [] H0 ∧ jG dC dI ca base U ∧ jK2 dC dI ca U ∧ jK5 dC dI ca U ∧ jK6 U ∧ jK7 dC dI ca base U ∧ va_at (dC, dI) vwCl (r0, .inr (13, [.null, .null, .null, .null, .null, .null, .null, .null, .null, .null, .null, .int 0, .int 0, .int 0, .int 0, .null, .null, .null, .int 0])) H0 ∧ (∀ t, G0 r0 ≠ some t) ∧ base ≤ r0 ∧ jP (dC, dI) G0 H0 [] ∧ jIs (dC, dI) G0 H0 [(jFy, jYb dC dI G0), (jFs11, jSef dC dI G0), (jFl, jLs dC dI ca G0 0 none wl), (jFdo, jDcc dC dI ca G0 none ph), (jFcd, jCD dC dI ca G0 none tq), (jFkd, jKD dC dI ca G0 none kq), (jFun, jUN dC dI ca G0 0 us rw), (jFqd, jQD dC dI ca G0 none qq), (jFib, jIB dC dI ca G0 0 ib)] ∧ H0.size + 60 ≤ LC ∧ jTot H0 + 81884 ≤ LS ∧ jdIv tq (wl.s1 0 wl.2.1))) (va_Qv (S := Int32 × Int32 × Int32 × Int32 × Int32 × Int32 × Int32 × Int32 × Int32 × Int32 × Int32 × Nat × Nat × Nat × Nat × Nat × Nat × Nat × Nat × Nat × Nat × (Nat → Int32) × jDtl × jKg × (Nat → List Int) × (Nat → List Int) × jT) (fun u => u.2.2.2.2.2.2.2.2.2.2.2.2.2.2.2.1 ≠ u.2.2.2.2.2.2.2.2.2.2.2.2.2.2.2.2.2.1 ∧ u.2.2.2.2.2.2.2.2.2.2.2.2.2.2.2.2.1 = 0 ∧ u.2.2.2.2.2.2.2.2.2.2.2.2.2.2.2.2.2.2.1 = 0 ∧ u.2.2.2.2.2.2.2.2.2.2.2.2.1 = 4000 ∧ u.2.2.2.2.2.2.2.2.2.2.2.2.2.2.1 = 0 ∧ u.1.toInt = 0 ∧ u.2.1.toInt = 0 ∧ u.2.2.1.toInt = 0 ∧ u.2.2.2.1.toInt = -1 ∧ u.2.2.2.2.1.toInt = 0 ∧ u.2.2.2.2.2.1.toInt = 0 ∧ u.2.2.2.2.2.2.1.toInt = 0 ∧ u.2.2.2.2.2.2.2.1.toInt = 0 ∧ u.2.2.2.2.2.2.2.2.1.toInt = 0 ∧ u.2.2.2.2.2.2.2.2.2.1.toInt = 0 ∧ u.2.2.2.2.2.2.2.2.2.2.1.toInt = 0 ∧ u.2.2.2.2.2.2.2.2.2.2.2.2.2.2.2.2.2.2.2.2.1 = 3000 ∧ u.2.2.2.2.2.2.2.2.2.2.2.2.2.2.2.2.2.2.2.2.2.1 = (fun _ => 0) ∧ jdIv u.2.2.2.2.2.2.2.2.2.2.2.2.2.2.2.2.2.2.2.2.2.2.1 (wl.s1 0 wl.2.1)) (fun u t => jRa (dC, dI) B base G0 u.2.2.2.2.2.2.2.2.2.2.2.2.2.2.2.2.2.2.2.2.2.2.2.2.2.2 EX11_initW H0 (60) (81884) [(u.2.2.2.2.2.2.2.2.2.2.2.1, 2, 1, .int u.1), (u.2.2.2.2.2.2.2.2.2.2.2.2.2.1, 4, 4, .int u.2.1), (u.2.2.2.2.2.2.2.2.2.2.2.2.2.1, 4, 5, .int u.2.2.1), (u.2.2.2.2.2.2.2.2.2.2.2.2.2.1, 4, 6, .int u.2.2.2.1), (u.2.2.2.2.2.2.2.2.2.2.2.2.2.1, 4, 2, .int u.2.2.2.2.1), (u.2.2.2.2.2.2.2.2.2.2.2.2.2.1, 4, 8, .int u.2.2.2.2.2.1), (u.2.2.2.2.2.2.2.2.2.2.2.2.2.1, 4, 9, .int u.2.2.2.2.2.2.1), (u.2.2.2.2.2.2.2.2.2.2.2.2.2.1, 4, 10, .int u.2.2.2.2.2.2.2.1), (u.2.2.2.2.2.2.2.2.2.2.2.2.2.1, 4, 11, .int u.2.2.2.2.2.2.2.2.1), (u.2.2.2.2.2.2.2.2.2.2.2.2.2.1, 4, 7, .int u.2.2.2.2.2.2.2.2.2.1), (r0, 13, 11, .int u.2.2.2.2.2.2.2.2.2.2.1), (r0, 13, 0, .ref u.2.2.2.2.2.2.2.2.2.2.2.1), (r0, 13, 1, .ref u.2.2.2.2.2.2.2.2.2.2.2.2.2.1), (r0, 13, 4, .ref u.2.2.2.2.2.2.2.2.2.2.2.2.2.2.2.1), (r0, 13, 17, .ref u.2.2.2.2.2.2.2.2.2.2.2.2.2.2.2.2.2.1), (u.2.2.2.2.2.2.2.2.2.2.2.2.2.1, 4, 0, .ref u.2.2.2.2.2.2.2.2.2.2.2.2.2.2.2.2.2.2.2.1)] t.heap ∧ u.2.2.2.2.2.2.2.2.2.2.2.2.2.2.2.2.2.2.2.2.2.2.2.2.2.2 u.2.2.2.2.2.2.2.2.2.2.2.1 = some (2, u.2.2.2.2.2.2.2.2.2.2.2.2.1) ∧ u.2.2.2.2.2.2.2.2.2.2.2.2.2.2.2.2.2.2.2.2.2.2.2.2.2.2 u.2.2.2.2.2.2.2.2.2.2.2.2.2.1 = some (4, u.2.2.2.2.2.2.2.2.2.2.2.2.2.2.1) ∧ u.2.2.2.2.2.2.2.2.2.2.2.2.2.2.2.2.2.2.2.2.2.2.2.2.2.2 u.2.2.2.2.2.2.2.2.2.2.2.2.2.2.2.1 = some (2, u.2.2.2.2.2.2.2.2.2.2.2.2.2.2.2.2.1) ∧ u.2.2.2.2.2.2.2.2.2.2.2.2.2.2.2.2.2.2.2.2.2.2.2.2.2.2 u.2.2.2.2.2.2.2.2.2.2.2.2.2.2.2.2.2.1 = some (2, u.2.2.2.2.2.2.2.2.2.2.2.2.2.2.2.2.2.2.1) ∧ u.2.2.2.2.2.2.2.2.2.2.2.2.2.2.2.2.2.2.2.2.2.2.2.2.2.2 u.2.2.2.2.2.2.2.2.2.2.2.2.2.2.2.2.2.2.2.1 = some (100, u.2.2.2.2.2.2.2.2.2.2.2.2.2.2.2.2.2.2.2.2.1) ∧ (jNk [0, 5, 10, 14, 15, 16, 17]) G0 u.2.2.2.2.2.2.2.2.2.2.2.2.2.2.2.2.2.2.2.2.2.2.2.2.2.2 ∧ u.2.2.2.2.2.2.2.2.2.2.2.2.2.2.2.2.2.2.2.2.2.2.2.2.2.2 r0 = some (13, 0) ∧ jKx r0 G0 u.2.2.2.2.2.2.2.2.2.2.2.2.2.2.2.2.2.2.2.2.2.2.2.2.2.2 H0 t.heap ∧ jIs (dC, dI) u.2.2.2.2.2.2.2.2.2.2.2.2.2.2.2.2.2.2.2.2.2.2.2.2.2.2 t.heap [(jFy, jYb dC dI u.2.2.2.2.2.2.2.2.2.2.2.2.2.2.2.2.2.2.2.2.2.2.2.2.2.2), (jFs11, jSef dC dI u.2.2.2.2.2.2.2.2.2.2.2.2.2.2.2.2.2.2.2.2.2.2.2.2.2.2), (jFl, jLs dC dI ca u.2.2.2.2.2.2.2.2.2.2.2.2.2.2.2.2.2.2.2.2.2.2.2.2.2.2 3 none (((wl.s1 0 wl.2.1).s2 []).s3 [])), (jFdo, jDcc dC dI ca u.2.2.2.2.2.2.2.2.2.2.2.2.2.2.2.2.2.2.2.2.2.2.2.2.2.2 none (ph + 1500)), (jFcd, jCD dC dI ca u.2.2.2.2.2.2.2.2.2.2.2.2.2.2.2.2.2.2.2.2.2.2.2.2.2.2 none (u.2.2.2.2.2.2.2.2.2.2.2.2.2.2.2.2.2.2.2.2.2.2.1)), (jFkd, jKD dC dI ca u.2.2.2.2.2.2.2.2.2.2.2.2.2.2.2.2.2.2.2.2.2.2.2.2.2.2 none (u.2.2.2.2.2.2.2.2.2.2.2.2.2.2.2.2.2.2.2.2.2.2.2.1)), (jFun, jUN dC dI ca u.2.2.2.2.2.2.2.2.2.2.2.2.2.2.2.2.2.2.2.2.2.2.2.2.2.2 0 (u.2.2.2.2.2.2.2.2.2.2.2.2.2.2.2.2.2.2.2.2.2.2.2.2.1) (u.2.2.2.2.2.2.2.2.2.2.2.2.2.2.2.2.2.2.2.2.2.2.2.2.2.1)), (jFqd, jQD dC dI ca u.2.2.2.2.2.2.2.2.2.2.2.2.2.2.2.2.2.2.2.2.2.2.2.2.2.2 none qq), (jFib, jIB dC dI ca u.2.2.2.2.2.2.2.2.2.2.2.2.2.2.2.2.2.2.2.2.2.2.2.2.2.2 0 ib)] ∧ jMc (dC, dI) u.2.2.2.2.2.2.2.2.2.2.2.2.2.2.2.2.2.2.2.2.2.2.2.2.2.2 t.heap [(u.2.2.2.2.2.2.2.2.2.2.2.2.2.2.2.2.2.2.2.1, 100, u.2.2.2.2.2.2.2.2.2.2.2.2.2.2.2.2.2.2.2.2.1, ca 0, u.2.2.2.2.2.2.2.2.2.2.2.2.2.2.2.2.2.2.2.2.2.1)] ∧ jCZ dC dI ca u.2.2.2.2.2.2.2.2.2.2.2.2.2.2.2.2.2.2.2.2.2.2.2.2.2.2 r0 (0, fun _ => jdDz) jwZ0 t.heap) (jA base)) (LC - H0.size) (LS - jTot H0) (jA base) := by
  refine Met.ofW (cc := cX11_init) (maxL := 1) (ret := none) (by decide) rfl ?_
  intro p e s m args below meth c s₁ Bd hml hv
  obtain ⟨rfl, hH0, hX, hG, hK2, hK5, hK6, hK7, hraw0, hnr0, hbr0, hP0, hI0, hLC0, hLS0, hp0⟩ := hv
  have hK := hG.1
  have hx := Bd.exec
  have hb := Bd.bytes
  have hr := Bd.returns
  have hts := atoms_spec (ws := (jw yX11_init cX11_init 1 none)) Bd.pre
  have htw : ∀ w ∈ jWl, w.before _ s = true := fun w h => hts w (List.mem_cons_of_mem _ h)
  have hown : s.vm.findClass RX11 = some m.cls := findClass_of_methodNamed Bd.named
  have hlocks := Bd.notSynchronized
  obtain ⟨Q, hQ⟩ : ∃ Q, Q = MQ below (va_Qv (S := Int32 × Int32 × Int32 × Int32 × Int32 × Int32 × Int32 × Int32 × Int32 × Int32 × Int32 × Nat × Nat × Nat × Nat × Nat × Nat × Nat × Nat × Nat × Nat × (Nat → Int32) × jDtl × jKg × (Nat → List Int) × (Nat → List Int) × jT) (fun u => u.2.2.2.2.2.2.2.2.2.2.2.2.2.2.2.1 ≠ u.2.2.2.2.2.2.2.2.2.2.2.2.2.2.2.2.2.1 ∧ u.2.2.2.2.2.2.2.2.2.2.2.2.2.2.2.2.1 = 0 ∧ u.2.2.2.2.2.2.2.2.2.2.2.2.2.2.2.2.2.2.1 = 0 ∧ u.2.2.2.2.2.2.2.2.2.2.2.2.1 = 4000 ∧ u.2.2.2.2.2.2.2.2.2.2.2.2.2.2.1 = 0 ∧ u.1.toInt = 0 ∧ u.2.1.toInt = 0 ∧ u.2.2.1.toInt = 0 ∧ u.2.2.2.1.toInt = -1 ∧ u.2.2.2.2.1.toInt = 0 ∧ u.2.2.2.2.2.1.toInt = 0 ∧ u.2.2.2.2.2.2.1.toInt = 0 ∧ u.2.2.2.2.2.2.2.1.toInt = 0 ∧ u.2.2.2.2.2.2.2.2.1.toInt = 0 ∧ u.2.2.2.2.2.2.2.2.2.1.toInt = 0 ∧ u.2.2.2.2.2.2.2.2.2.2.1.toInt = 0 ∧ u.2.2.2.2.2.2.2.2.2.2.2.2.2.2.2.2.2.2.2.2.1 = 3000 ∧ u.2.2.2.2.2.2.2.2.2.2.2.2.2.2.2.2.2.2.2.2.2.1 = (fun _ => 0) ∧ jdIv u.2.2.2.2.2.2.2.2.2.2.2.2.2.2.2.2.2.2.2.2.2.2.1 (wl.s1 0 wl.2.1)) (fun u t => jRa (dC, dI) B base G0 u.2.2.2.2.2.2.2.2.2.2.2.2.2.2.2.2.2.2.2.2.2.2.2.2.2.2 EX11_initW H0 (60) (81884) [(u.2.2.2.2.2.2.2.2.2.2.2.1, 2, 1, .int u.1), (u.2.2.2.2.2.2.2.2.2.2.2.2.2.1, 4, 4, .int u.2.1), (u.2.2.2.2.2.2.2.2.2.2.2.2.2.1, 4, 5, .int u.2.2.1), (u.2.2.2.2.2.2.2.2.2.2.2.2.2.1, 4, 6, .int u.2.2.2.1), (u.2.2.2.2.2.2.2.2.2.2.2.2.2.1, 4, 2, .int u.2.2.2.2.1), (u.2.2.2.2.2.2.2.2.2.2.2.2.2.1, 4, 8, .int u.2.2.2.2.2.1), (u.2.2.2.2.2.2.2.2.2.2.2.2.2.1, 4, 9, .int u.2.2.2.2.2.2.1), (u.2.2.2.2.2.2.2.2.2.2.2.2.2.1, 4, 10, .int u.2.2.2.2.2.2.2.1), (u.2.2.2.2.2.2.2.2.2.2.2.2.2.1, 4, 11, .int u.2.2.2.2.2.2.2.2.1), (u.2.2.2.2.2.2.2.2.2.2.2.2.2.1, 4, 7, .int u.2.2.2.2.2.2.2.2.2.1), (r0, 13, 11, .int u.2.2.2.2.2.2.2.2.2.2.1), (r0, 13, 0, .ref u.2.2.2.2.2.2.2.2.2.2.2.1), (r0, 13, 1, .ref u.2.2.2.2.2.2.2.2.2.2.2.2.2.1), (r0, 13, 4, .ref u.2.2.2.2.2.2.2.2.2.2.2.2.2.2.2.1), (r0, 13, 17, .ref u.2.2.2.2.2.2.2.2.2.2.2.2.2.2.2.2.2.1), (u.2.2.2.2.2.2.2.2.2.2.2.2.2.1, 4, 0, .ref u.2.2.2.2.2.2.2.2.2.2.2.2.2.2.2.2.2.2.2.1)] t.heap ∧ u.2.2.2.2.2.2.2.2.2.2.2.2.2.2.2.2.2.2.2.2.2.2.2.2.2.2 u.2.2.2.2.2.2.2.2.2.2.2.1 = some (2, u.2.2.2.2.2.2.2.2.2.2.2.2.1) ∧ u.2.2.2.2.2.2.2.2.2.2.2.2.2.2.2.2.2.2.2.2.2.2.2.2.2.2 u.2.2.2.2.2.2.2.2.2.2.2.2.2.1 = some (4, u.2.2.2.2.2.2.2.2.2.2.2.2.2.2.1) ∧ u.2.2.2.2.2.2.2.2.2.2.2.2.2.2.2.2.2.2.2.2.2.2.2.2.2.2 u.2.2.2.2.2.2.2.2.2.2.2.2.2.2.2.1 = some (2, u.2.2.2.2.2.2.2.2.2.2.2.2.2.2.2.2.1) ∧ u.2.2.2.2.2.2.2.2.2.2.2.2.2.2.2.2.2.2.2.2.2.2.2.2.2.2 u.2.2.2.2.2.2.2.2.2.2.2.2.2.2.2.2.2.1 = some (2, u.2.2.2.2.2.2.2.2.2.2.2.2.2.2.2.2.2.2.1) ∧ u.2.2.2.2.2.2.2.2.2.2.2.2.2.2.2.2.2.2.2.2.2.2.2.2.2.2 u.2.2.2.2.2.2.2.2.2.2.2.2.2.2.2.2.2.2.2.1 = some (100, u.2.2.2.2.2.2.2.2.2.2.2.2.2.2.2.2.2.2.2.2.1) ∧ (jNk [0, 5, 10, 14, 15, 16, 17]) G0 u.2.2.2.2.2.2.2.2.2.2.2.2.2.2.2.2.2.2.2.2.2.2.2.2.2.2 ∧ u.2.2.2.2.2.2.2.2.2.2.2.2.2.2.2.2.2.2.2.2.2.2.2.2.2.2 r0 = some (13, 0) ∧ jKx r0 G0 u.2.2.2.2.2.2.2.2.2.2.2.2.2.2.2.2.2.2.2.2.2.2.2.2.2.2 H0 t.heap ∧ jIs (dC, dI) u.2.2.2.2.2.2.2.2.2.2.2.2.2.2.2.2.2.2.2.2.2.2.2.2.2.2 t.heap [(jFy, jYb dC dI u.2.2.2.2.2.2.2.2.2.2.2.2.2.2.2.2.2.2.2.2.2.2.2.2.2.2), (jFs11, jSef dC dI u.2.2.2.2.2.2.2.2.2.2.2.2.2.2.2.2.2.2.2.2.2.2.2.2.2.2), (jFl, jLs dC dI ca u.2.2.2.2.2.2.2.2.2.2.2.2.2.2.2.2.2.2.2.2.2.2.2.2.2.2 3 none (((wl.s1 0 wl.2.1).s2 []).s3 [])), (jFdo, jDcc dC dI ca u.2.2.2.2.2.2.2.2.2.2.2.2.2.2.2.2.2.2.2.2.2.2.2.2.2.2 none (ph + 1500)), (jFcd, jCD dC dI ca u.2.2.2.2.2.2.2.2.2.2.2.2.2.2.2.2.2.2.2.2.2.2.2.2.2.2 none (u.2.2.2.2.2.2.2.2.2.2.2.2.2.2.2.2.2.2.2.2.2.2.1)), (jFkd, jKD dC dI ca u.2.2.2.2.2.2.2.2.2.2.2.2.2.2.2.2.2.2.2.2.2.2.2.2.2.2 none (u.2.2.2.2.2.2.2.2.2.2.2.2.2.2.2.2.2.2.2.2.2.2.2.1)), (jFun, jUN dC dI ca u.2.2.2.2.2.2.2.2.2.2.2.2.2.2.2.2.2.2.2.2.2.2.2.2.2.2 0 (u.2.2.2.2.2.2.2.2.2.2.2.2.2.2.2.2.2.2.2.2.2.2.2.2.1) (u.2.2.2.2.2.2.2.2.2.2.2.2.2.2.2.2.2.2.2.2.2.2.2.2.2.1)), (jFqd, jQD dC dI ca u.2.2.2.2.2.2.2.2.2.2.2.2.2.2.2.2.2.2.2.2.2.2.2.2.2.2 none qq), (jFib, jIB dC dI ca u.2.2.2.2.2.2.2.2.2.2.2.2.2.2.2.2.2.2.2.2.2.2.2.2.2.2 0 ib)] ∧ jMc (dC, dI) u.2.2.2.2.2.2.2.2.2.2.2.2.2.2.2.2.2.2.2.2.2.2.2.2.2.2 t.heap [(u.2.2.2.2.2.2.2.2.2.2.2.2.2.2.2.2.2.2.2.1, 100, u.2.2.2.2.2.2.2.2.2.2.2.2.2.2.2.2.2.2.2.2.1, ca 0, u.2.2.2.2.2.2.2.2.2.2.2.2.2.2.2.2.2.2.2.2.2.1)] ∧ jCZ dC dI ca u.2.2.2.2.2.2.2.2.2.2.2.2.2.2.2.2.2.2.2.2.2.2.2.2.2.2 r0 (0, fun _ => jdDz) jwZ0 t.heap) (jA base)) ([.ref r0] : List Value).toArray s (LC - H0.size) (LS - jTot H0) (jA base) := ⟨_, rfl⟩
  rw [← hQ]
  have hl := lv_entry ([.ref r0]) (n := 1) (Nat.le_of_ble_eq_true rfl)
  rw [lg_entry_eq]
  generalize (lg_sl ([.ref r0]) ++ List.replicate (1 - (lg_sl ([.ref r0])).length) Slot.unset).toArray = ls at hl ⊢
  have hl : lv_has ls 1 [(0, .ref r0)] := hl
  generalize hR : (headSpec (jw yX11_init cX11_init 1 none) ({ frames := 6, cells := LC - H0.size, slots := LS - jTot H0, locals := 184 })).room = R
  subst hH0
  have hh : jSt (dC, dI) B base G0 G0 EX11_initW s.heap 0 0 [] [] [(jFy, jYb dC dI G0), (jFs11, jSef dC dI G0), (jFl, jLs dC dI ca G0 0 none wl), (jFdo, jDcc dC dI ca G0 none ph), (jFcd, jCD dC dI ca G0 none tq), (jFkd, jKD dC dI ca G0 none kq), (jFun, jUN dC dI ca G0 0 us rw), (jFqd, jQD dC dI ca G0 none qq), (jFib, jIB dC dI ca G0 0 ib)] s.heap [] := jSt.start hX hP0 jMc.nil hI0
  clear hX hP0
  have hkm2 : ((-2) : Int32).toInt = (-2) := by decide
  have hk0 : (0 : Int32).toInt = 0 := by decide
  have hk1 : (1 : Int32).toInt = 1 := by decide
  have hk2 : (2 : Int32).toInt = 2 := by decide
  have hk256 : (256 : Int32).toInt = 256 := by decide
  have hk1024 : (1024 : Int32).toInt = 1024 := by decide
  have hk4000 : (4000 : Int32).toInt = 4000 := by decide
  have hk20000 : (20000 : Int32).toInt = 20000 := by decide
  have hly_7_0 := htw (u_lay RX5 TX5 0) (jWc_wsX50 _ (u_in_lay (by decide)))
  have hly_13_0 := htw (u_lay RX11 TX11 0) (jWc_wsX110 _ (u_in_lay (by decide)))
  have hly_13_1 := htw (u_lay RX11 TX11 1) (jWc_wsX110 _ (u_in_lay (by decide)))
  have hly_13_2 := htw (u_lay RX11 TX11 2) (jWc_wsX110 _ (u_in_lay (by decide)))
  have hly_13_3 := htw (u_lay RX11 TX11 3) (jWc_wsX110 _ (u_in_lay (by decide)))
  have hly_13_4 := htw (u_lay RX11 TX11 4) (jWc_wsX110 _ (u_in_lay (by decide)))
  have hly_13_5 := htw (u_lay RX11 TX11 5) (jWc_wsX110 _ (u_in_lay (by decide)))
  have hly_13_6 := htw (u_lay RX11 TX11 6) (jWc_wsX110 _ (u_in_lay (by decide)))
  have hly_13_7 := htw (u_lay RX11 TX11 7) (jWc_wsX110 _ (u_in_lay (by decide)))
  have hly_13_8 := htw (u_lay RX11 TX11 8) (jWc_wsX110 _ (u_in_lay (by decide)))
  have hly_13_9 := htw (u_lay RX11 TX11 9) (jWc_wsX110 _ (u_in_lay (by decide)))
  have hly_13_10 := htw (u_lay RX11 TX11 10) (jWc_wsX110 _ (u_in_lay (by decide)))
  have hly_13_11 := htw (u_lay RX11 TX11 11) (jWc_wsX110 _ (u_in_lay (by decide)))
  have hly_13_15 := htw (u_lay RX11 TX11 15) (jWc_wsX110 _ (u_in_lay (by decide)))
  have hly_13_17 := htw (u_lay RX11 TX11 17) (jWc_wsX110 _ (u_in_lay (by decide)))
  have hly_13_18 := htw (u_lay RX11 TX11 18) (jWc_wsX110 _ (u_in_lay (by decide)))
  have hlk_14 := (htw (.fieldLink RX11 14 "ProofServer" "tape" "LProofServer$Bytes;") (jWr_1 _ (List.mem_of_getElem? (i := 15) rfl)))
  have hlk_21 := (htw (.fieldLink RX11 21 "ProofServer" "frames" "LProofServer$Frames;") (jWr_1 _ (List.mem_of_getElem? (i := 19) rfl)))
  have hlk_28 := (htw (.fieldLink RX11 28 "ProofServer" "json" "LProofServer$Json;") (jWr_1 _ (List.mem_of_getElem? (i := 23) rfl)))
  have hlk_32 := (htw (.fieldLink RX11 32 "ProofServer" "output" "LProofServer$Bytes;") (jWr_2 _ (List.mem_of_getElem? (i := 0) rfl)))
  have hlk_35 := (htw (.fieldLink RX11 35 "ProofServer" "body" "LProofServer$Bytes;") (jWr_2 _ (List.mem_of_getElem? (i := 1) rfl)))
  have hlk_41 := (htw (.fieldLink RX11 41 "ProofServer" "kernel" "LProofServer$Kernel;") (jWr_2 _ (List.mem_of_getElem? (i := 5) rfl)))
  have hlk_47 := (htw (.fieldLink RX11 47 "ProofServer$Kernel" "names" "LProofServer$Names;") (jWr_2 _ (List.mem_of_getElem? (i := 9) rfl)))
  have hlk_54 := (htw (.fieldLink RX11 54 "ProofServer" "printer" "LProofServer$Printer;") (jWr_2 _ (List.mem_of_getElem? (i := 10) rfl)))
  have hlk_61 := (htw (.fieldLink RX11 61 "ProofServer" "open" "Ljava/util/List;") (jWr_2 _ (List.mem_of_getElem? (i := 14) rfl)))
  have hlk_65 := (htw (.fieldLink RX11 65 "ProofServer" "waiting" "Ljava/util/List;") (jWr_2 _ (List.mem_of_getElem? (i := 15) rfl)))
  have hlk_68 := (htw (.fieldLink RX11 68 "ProofServer" "cache" "Ljava/util/List;") (jWr_2 _ (List.mem_of_getElem? (i := 16) rfl)))
  have hlk_73 := (htw (.fieldLink RX11 73 "ProofServer" "hands" "[LProofServer$Document;") (jWr_2 _ (List.mem_of_getElem? (i := 18) rfl)))
  have hlk_77 := (htw (.fieldLink RX11 77 "ProofServer" "phase" "I") (jWr_2 _ (List.mem_of_getElem? (i := 19) rfl)))
  have hlk_82 := (htw (.fieldLink RX11 82 "ProofServer" "spare" "LProofServer$Document;") (jWr_2 _ (List.mem_of_getElem? (i := 22) rfl)))
  have hlk_86 := (htw (.fieldLink RX11 86 "ProofServer" "shown" "LProofServer$Bytes;") (jWr_2 _ (List.mem_of_getElem? (i := 23) rfl)))
  have hlk_89 := (htw (.fieldLink RX11 89 "ProofServer" "shownOf" "I") (jWr_3 _ (List.mem_of_getElem? (i := 0) rfl)))
  have hbs : base ≤ s.heap.size := Nat.le_of_lt (Nat.lt_of_le_of_lt hbr0 hraw0.lt)
  have hRc : R.cells = LC - s.heap.size := by rw [← hR]; rfl
  have hRs : R.slots = LS - jTot s.heap := by rw [← hR]; rfl
  have hU0 := hh.iv 4 rfl
  have hJi0 := hh.iv 8 rfl
  have hab0 : ∀ {a : Nat} {t : Nat × Nat}, G0 a = some t → a < s.heap.size := fun ht => (hh.ab ht).2
  have hKd0 := hh.iv 5 rfl
  have hE0 := hh.iv 3 rfl
  have hab0 : ∀ {a : Nat} {t : Nat × Nat}, G0 a = some t → a < s.heap.size := fun ht => (hh.ab ht).2
  have hin2 : meth.name = "<init>" := (name_of_methodNamed Bd.named Bd.method).1
  have hkp : jKx r0 G0 G0 s.heap s.heap := jKx.rf
  refine lv_aload_n hx hb dX11_init_0 rfl (lv_at hl 0 rfl) ?_
  refine W.objInit hx hb hown (htw (.methodLink RX11 1 objectInit) (jWr_1 _ (List.mem_of_getElem? (i := 9) rfl))) (htw (.instanceMethod objectInit) (jWr_1 _ (List.mem_of_getElem? (i := 10) rfl))) (htw (.code objectInit ⟨#[0xb1]⟩ 1 none) (jWr_1 _ (List.mem_of_getElem? (i := 11) rfl))) rfl (by rw [hml]; exact hl.1) rfl dX11_init_1 (by rw [← hR]; exact Nat.le_of_ble_eq_true rfl) (by rw [← hR]; exact Nat.le_of_ble_eq_true rfl) ?_
  refine W.eq (g2 := F0 m 4 ls []) rfl ?_
  refine lv_aload_n hx hb dX11_init_4 rfl (lv_at hl 0 rfl) ?_
  have hsz_1 := hh.2.2.2.2.2.1
  have htt_1 := hh.2.2.2.2.2.2.1
  refine j7_newo (k := 2) (C := RX0) (T := TX0) (N := 2) (fs := [.null, .int 0]) hx hb htw jWc_wsX00 (fun k => ([(.array .byte), .int] : List FieldType).getD k .int) (by decide +kernel) hown (htw (.classLink RX11 7 RX0) (jWr_1 _ (List.mem_of_getElem? (i := 12) rfl))) (htw (.instantiable RX0 2) (jWr_1 _ (List.mem_of_getElem? (i := 13) rfl))) (htw (.initialized RX0) (jWr_1 _ (List.mem_of_getElem? (i := 14) rfl))) hK rfl (fun j hj => by rcases (by omega : j = 0 ∨ j = 1) with rfl | rfl <;> rfl) hh hB (by rw [hRc]; omega) (by rw [hRs]; omega) dX11_init_5 (fun H_1 hraw_1 hfr_1 hnr_1 hh_1 => ?_)
  have hlt_2 := hraw0.lt
  have hke_1 : jKe G0 G0 s.heap H_1 := jKe.raw hfr_1
  have hbr_1 : base ≤ s.heap.size := Nat.le_trans hbs hh.1.1
  have hsy_1 : s.heap.size ≤ s.heap.size := hh.1.1
  clear hh
  have hkp_3 := hkp.tr hke_1
  have hraw_4n := hke_1.nr hraw0.lt hnr0
  have hraw_4 := hraw0.kept (hke_1.1 _ hraw0.lt)
  have hne_5 : r0 ≠ s.heap.size := Nat.ne_of_lt hlt_2
  refine lv_dup hx hb dX11_init_8 rfl ?_
  refine lv_sipush (v := 4000) hx hb dX11_init_9 (by decide) ?_
  clear hsz_1 htt_1
  have hsz_6 := hh_1.2.2.2.2.2.1
  have htt_6 := hh_1.2.2.2.2.2.2.1
  refine W.room (fun hrc_6 hrs_6 => ?_)
  refine va_callv (A0 := jA base) (H0 := s.heap) (va_runI (As := [.int 4000]) (rest := [.ref s.heap.size, .ref r0]) ⟨hx, hb, hml, hown, hts⟩ (uX0_initT l dC dI ca base B hB hAp hB2 hB17 hB196 hB197 hB199 G0 H_1 s.heap.size 4000 LC LS) (cwI 1 hts (jgW (jWr_3 _ (List.mem_of_getElem? (i := 3) rfl))) rfl rfl rfl (htw (.initialized RX0) (jWr_1 _ (List.mem_of_getElem? (i := 14) rfl))) (htw (.methodLink RX11 11 yX0_init) (jWr_3 _ (List.mem_of_getElem? (i := 1) rfl))) (htw (.instanceMethod yX0_init) (jWr_3 _ (List.mem_of_getElem? (i := 2) rfl))) rfl (by decide +kernel) ⟨by rw [← hR]; exact Nat.le_of_ble_eq_true rfl, by rw [← hR]; exact Nat.le_of_ble_eq_true rfl⟩) ⟨fun a U g mk q => by obtain ⟨q0, q1, q2, qK, q10, q11, q12, q13, q14, q15⟩ := q; exact ⟨q0, q1, q2, jG.calling g mk a qK, q10, q11, q12, q13, q14, q15⟩, fun U hU hW => ⟨rfl, hU, hh_1.2.1, hG.step hW hU hh_1.1, hraw_1, hnr_1, hbr_1, jP.nil, (hh_1.2.2.2.2.2.2.2.2.sub (L1 := [(jFy, jYb dC dI G0)]) [0] rfl), (by omega), (by omega), by first | omega | rfl | assumption | exact fun h9 => absurd h9 (by decide)⟩⟩ rfl rfl hl.1 rfl (lv_room (Nat.le_of_ble_eq_true rfl)) dX11_init_12 ⟨by rw [hRc]; omega, by rw [hRs]; omega⟩) hh_1.1 (fun q _ h => h) (fun q h => h) (fun u_6 t_6 H_6 locs_6 ht_6 hvm_6 hr_7 hb_6 hz_6 hk_6 hS_6 => ?_)
  obtain ⟨qc_6, qa_6, m_qa_6, G_6⟩ := u_6
  rw [ht_6] at hb_6
  simp only at hb_6
  obtain ⟨⟨hb_61, hb_62, hb_63, hb_64, hb_65, hb_66⟩, hgq_6_0, hN_6, hgc_6, hbX_6, hbE_6⟩ := hb_6
  have hE9_6 := hN_6
  try have hn3_6 : jNk [3] G0 G_6 := (jNk.rf).tr (hE9_6.sub (ks1 := [3]) (by decide))
  have hL_6 := hN_6
  have hM_6 := hN_6
  have hW_6 := hN_6
  have hN_6 : (jNk [0, 5, 10, 14, 15, 16, 17]) G0 G_6 := hN_6.sub (by decide)
  have hh_6 : jSt (dC, dI) B base G0 G_6 EX11_initW s.heap ((0 + 1) + (1)) ((0 + 2) + (4000)) [(s.heap.size, 2, 1, .int qc_6), (s.heap.size, 2, 0, .ref qa_6)] [] [(jFs11, jSef dC dI G0), (jFl, jLs dC dI ca G0 0 none wl), (jFdo, jDcc dC dI ca G0 none ph), (jFcd, jCD dC dI ca G0 none tq), (jFkd, jKD dC dI ca G0 none kq), (jFun, jUN dC dI ca G0 0 us rw), (jFqd, jQD dC dI ca G0 none qq), (jFib, jIB dC dI ca G0 0 ib)] H_6 locs_6 := (hh_1.callG hb_61 hb_62 hb_63 hb_64 hb_65 hS_6 rfl (L1 := []) [] rfl rfl (M1 := []) [] rfl rfl (I1 := [(jFs11, jSef dC dI G0), (jFl, jLs dC dI ca G0 0 none wl), (jFdo, jDcc dC dI ca G0 none ph), (jFcd, jCD dC dI ca G0 none tq), (jFkd, jKD dC dI ca G0 none kq), (jFun, jUN dC dI ca G0 0 us rw), (jFqd, jQD dC dI ca G0 none qq), (jFib, jIB dC dI ca G0 0 ib)]) [1, 2, 3, 4, 5, 6, 7, 8] rfl rfl).more hb_66
  have hNn_6 : (jNk [0, 5, 10, 14, 15, 16, 17]) G0 G_6 := (jNk.rf).tr hN_6
  have hd_8 := jSef.grow (hh_6.iv 0 rfl) hb_62 hM_6 (by decide)
  have hh_9 := hh_6.sub (L1 := [(s.heap.size, 2, 1, .int qc_6), (s.heap.size, 2, 0, .ref qa_6)]) [0, 1] rfl (M1 := []) [] rfl (I1 := [(jFl, jLs dC dI ca G0 0 none wl), (jFdo, jDcc dC dI ca G0 none ph), (jFcd, jCD dC dI ca G0 none tq), (jFkd, jKD dC dI ca G0 none kq), (jFun, jUN dC dI ca G0 0 us rw), (jFqd, jQD dC dI ca G0 none qq), (jFib, jIB dC dI ca G0 0 ib)]) [1, 2, 3, 4, 5, 6, 7] rfl
  clear hh_6
  have hh_10 := hh_9.addI (jSef.ie hd_8)
  clear hh_9
  have hd_11 := jLs.grow (hh_10.iv 1 rfl) hb_62 hL_6 (by decide)
  have hh_12 := hh_10.sub (L1 := [(s.heap.size, 2, 1, .int qc_6), (s.heap.size, 2, 0, .ref qa_6)]) [0, 1] rfl (M1 := []) [] rfl (I1 := [(jFs11, jSef dC dI G_6), (jFdo, jDcc dC dI ca G0 none ph), (jFcd, jCD dC dI ca G0 none tq), (jFkd, jKD dC dI ca G0 none kq), (jFun, jUN dC dI ca G0 0 us rw), (jFqd, jQD dC dI ca G0 none qq), (jFib, jIB dC dI ca G0 0 ib)]) [0, 2, 3, 4, 5, 6, 7] rfl
  clear hh_10
  have hh_13 := hh_12.addI (jLs.ie hd_11)
  clear hh_12
  have hd_14 := jDcc.grow (hh_13.iv 2 rfl) hb_62 hE9_6 (by decide)
  have hh_15 := hh_13.sub (L1 := [(s.heap.size, 2, 1, .int qc_6), (s.heap.size, 2, 0, .ref qa_6)]) [0, 1] rfl (M1 := []) [] rfl (I1 := [(jFl, jLs dC dI ca G_6 0 none wl), (jFs11, jSef dC dI G_6), (jFcd, jCD dC dI ca G0 none tq), (jFkd, jKD dC dI ca G0 none kq), (jFun, jUN dC dI ca G0 0 us rw), (jFqd, jQD dC dI ca G0 none qq), (jFib, jIB dC dI ca G0 0 ib)]) [0, 1, 3, 4, 5, 6, 7] rfl
  clear hh_13
  have hh_16 := hh_15.addI (jDcc.ie hd_14)
  clear hh_15
  have hd_17 := jCD.grow (hh_16.iv 3 rfl) hb_62 hE9_6 (by decide)
  have hh_18 := hh_16.sub (L1 := [(s.heap.size, 2, 1, .int qc_6), (s.heap.size, 2, 0, .ref qa_6)]) [0, 1] rfl (M1 := []) [] rfl (I1 := [(jFdo, jDcc dC dI ca G_6 none ph), (jFl, jLs dC dI ca G_6 0 none wl), (jFs11, jSef dC dI G_6), (jFkd, jKD dC dI ca G0 none kq), (jFun, jUN dC dI ca G0 0 us rw), (jFqd, jQD dC dI ca G0 none qq), (jFib, jIB dC dI ca G0 0 ib)]) [0, 1, 2, 4, 5, 6, 7] rfl
  clear hh_16
  have hh_19 := hh_18.addI (jCD.ie hd_17)
  clear hh_18
  have hd_20 := jKD.grow (ca := ca) (hh_19.iv 4 rfl) hb_62 hW_6 (by decide)
  have hh_21 := hh_19.sub (L1 := [(s.heap.size, 2, 1, .int qc_6), (s.heap.size, 2, 0, .ref qa_6)]) [0, 1] rfl (M1 := []) [] rfl (I1 := [(jFcd, jCD dC dI ca G_6 none tq), (jFdo, jDcc dC dI ca G_6 none ph), (jFl, jLs dC dI ca G_6 0 none wl), (jFs11, jSef dC dI G_6), (jFun, jUN dC dI ca G0 0 us rw), (jFqd, jQD dC dI ca G0 none qq), (jFib, jIB dC dI ca G0 0 ib)]) [0, 1, 2, 3, 5, 6, 7] rfl
  clear hh_19
  have hh_22 := hh_21.addI (jKD.ie hd_20)
  clear hh_21
  have hd_23 := jUN.grow (r := 0) (hh_22.iv 5 rfl) hb_62 hW_6 (by decide) (by decide)
  have hh_24 := hh_22.sub (L1 := [(s.heap.size, 2, 1, .int qc_6), (s.heap.size, 2, 0, .ref qa_6)]) [0, 1] rfl (M1 := []) [] rfl (I1 := [(jFkd, jKD dC dI ca G_6 none kq), (jFcd, jCD dC dI ca G_6 none tq), (jFdo, jDcc dC dI ca G_6 none ph), (jFl, jLs dC dI ca G_6 0 none wl), (jFs11, jSef dC dI G_6), (jFqd, jQD dC dI ca G0 none qq), (jFib, jIB dC dI ca G0 0 ib)]) [0, 1, 2, 3, 4, 6, 7] rfl
  clear hh_22
  have hh_25 := hh_24.addI (jUN.ie hd_23)
  clear hh_24
  have hd_26 := jQD.grow (ca := ca) (hh_25.iv 6 rfl) hb_62 hW_6 (by decide)
  have hh_27 := hh_25.sub (L1 := [(s.heap.size, 2, 1, .int qc_6), (s.heap.size, 2, 0, .ref qa_6)]) [0, 1] rfl (M1 := []) [] rfl (I1 := [(jFun, jUN dC dI ca G_6 0 us rw), (jFkd, jKD dC dI ca G_6 none kq), (jFcd, jCD dC dI ca G_6 none tq), (jFdo, jDcc dC dI ca G_6 none ph), (jFl, jLs dC dI ca G_6 0 none wl), (jFs11, jSef dC dI G_6), (jFib, jIB dC dI ca G0 0 ib)]) [0, 1, 2, 3, 4, 5, 7] rfl
  clear hh_25
  have hh_28 := hh_27.addI (jQD.ie hd_26)
  clear hh_27
  have hd_29 := jIB.grow (r := 0) (hh_28.iv 7 rfl) hb_62 hW_6 (by decide)
  have hh_30 := hh_28.sub (L1 := [(s.heap.size, 2, 1, .int qc_6), (s.heap.size, 2, 0, .ref qa_6)]) [0, 1] rfl (M1 := []) [] rfl (I1 := [(jFqd, jQD dC dI ca G_6 none qq), (jFun, jUN dC dI ca G_6 0 us rw), (jFkd, jKD dC dI ca G_6 none kq), (jFcd, jCD dC dI ca G_6 none tq), (jFdo, jDcc dC dI ca G_6 none ph), (jFl, jLs dC dI ca G_6 0 none wl), (jFs11, jSef dC dI G_6)]) [0, 1, 2, 3, 4, 5, 6] rfl
  clear hh_28
  have hh_31 := hh_30.addI (jIB.ie hd_29)
  clear hh_30
  have hh_32 := hh_31.addIs hbE_6
  try simp only at hr_7
  obtain ⟨hr_7_0, hr_7_1⟩ := hr_7
  have hkp_33 := hkp_3.in hbX_6 hsy_1
  have hraw_34x := hbX_6.ke hraw_4.lt hne_5 hraw_4n
  clear hne_5
  have hraw_34 := hraw_4.kept hraw_34x.1
  refine j7_putRF hx hb hown hK hh_32 hB hAp hraw_34 hraw_34x.2 hbr0 (C := RX11) (T := TX11) (N := 19) rfl (i := 0) (by decide) (Nat.le_of_ble_eq_true rfl) hly_13_0 rfl hin2 rfl hlk_14 (ty := (.object "ProofServer$Bytes")) (v := .ref s.heap.size) (by decide +kernel) rfl rfl dX11_init_15 (fun H_35 locs_35 hraw_35 hr_35 hh_35 => ?_)
  have hraw_35 : va_at (dC, dI) vwCl (r0, .inr (13, [.ref s.heap.size, .null, .null, .null, .null, .null, .null, .null, .null, .null, .null, .int 0, .int 0, .int 0, .int 0, .null, .null, .null, .int 0])) H_35 := hraw_35
  have hkp_36 := hkp_33.put hr_35
  clear hh_32
  refine lv_aload_n hx hb dX11_init_18 rfl (lv_at hl 0 rfl) ?_
  clear hsz_6 htt_6 hrc_6 hrs_6
  (try clear hb_64); (try clear hb_65); (try clear hz_6)
  have hsz_37 := hh_35.2.2.2.2.2.1
  have htt_37 := hh_35.2.2.2.2.2.2.1
  refine j7_newo (k := 4) (C := RX2) (T := TX2) (N := 12) (fs := [.null, .int 0, .int 0, .int 0, .int 0, .int 0, .int 0, .int 0, .int 0, .int 0, .int 0, .int 0]) hx hb htw jWc_wsX20 (fun k => ([(.array .byte), .int, .int, .int, .boolean, .int, .int, .int, .int, .boolean, .int, .int] : List FieldType).getD k .int) (by decide +kernel) hown (htw (.classLink RX11 18 RX2) (jWr_1 _ (List.mem_of_getElem? (i := 16) rfl))) (htw (.instantiable RX2 12) (jWr_1 _ (List.mem_of_getElem? (i := 17) rfl))) (htw (.initialized RX2) (jWr_1 _ (List.mem_of_getElem? (i := 18) rfl))) hK rfl (fun j hj => by rcases (by omega : j = 0 ∨ j = 1 ∨ j = 2 ∨ j = 3 ∨ j = 4 ∨ j = 5 ∨ j = 6 ∨ j = 7 ∨ j = 8 ∨ j = 9 ∨ j = 10 ∨ j = 11) with rfl | rfl | rfl | rfl | rfl | rfl | rfl | rfl | rfl | rfl | rfl | rfl <;> rfl) hh_35 hB (by rw [hRc]; omega) (by rw [hRs]; omega) dX11_init_19 (fun H_37 hraw_37 hfr_37 hnr_37 hh_37 => ?_)
  have hlt_38 := hraw_35.lt
  have hke_37 : jKe G_6 G_6 H_35 H_37 := jKe.raw hfr_37
  have hbr_37 : base ≤ H_35.size := Nat.le_trans hbs hh_35.1.1
  have hsy_37 : s.heap.size ≤ H_35.size := hh_35.1.1
  clear hh_35
  have hkp_39 := hkp_36.tr hke_37
  have hraw_40n := hke_37.nr hraw_35.lt hraw_34x.2
  have hraw_40 := hraw_35.kept (hke_37.1 _ hraw_35.lt)
  have hne_41 : r0 ≠ H_35.size := Nat.ne_of_lt hlt_38
  refine lv_dup hx hb dX11_init_22 rfl ?_
  clear hsz_37 htt_37
  have hsz_42 := hh_37.2.2.2.2.2.1
  have htt_42 := hh_37.2.2.2.2.2.2.1
  refine W.room (fun hrc_42 hrs_42 => ?_)
  refine va_callv (A0 := jA base) (H0 := s.heap) (va_runIN (As := []) (rest := [.ref H_35.size, .ref r0]) ⟨hx, hb, hml, hown, hts⟩ (uX2_initU l dC dI ca base B hB hAp hB4 hB100 G_6 H_37 H_35.size LC LS) ⟨va_cnB 0 hts (jgW (jWr_3 _ (List.mem_of_getElem? (i := 12) rfl))) rfl rfl rfl (hG.2.2.1 RX11 20 yX2_init "ProofServer" (List.mem_of_getElem? (i := 62) (by decide +kernel))) (htw (.initialized RX2) (jWr_1 _ (List.mem_of_getElem? (i := 18) rfl))) (by decide +kernel) ⟨by rw [← hR]; exact Nat.le_of_ble_eq_true rfl, by rw [← hR]; exact Nat.le_of_ble_eq_true rfl⟩, rfl, htw (.instanceMethod yX2_init) (jWr_3 _ (List.mem_of_getElem? (i := 11) rfl))⟩ ⟨fun a U g mk q => by obtain ⟨q0, q1, q2, qK, q10, q11, q12, q13, q14⟩ := q; exact ⟨q0, q1, q2, jG.calling g mk a qK, q10, q11, q12, q13, q14⟩, fun U hU hW => ⟨rfl, hU, hh_37.2.1, hG.step hW hU hh_37.1, hraw_37, hnr_37, hbr_37, jP.nil, (by omega), (by omega), trivial⟩⟩ rfl rfl hl.1 rfl (lv_room (Nat.le_of_ble_eq_true rfl)) dX11_init_23 ⟨by rw [hRc]; omega, by rw [hRs]; omega⟩) hh_37.1 (fun q _ h => h) (fun q h => h) (fun u_42 t_42 H_42 locs_42 ht_42 hvm_42 hr_43 hb_42 hz_42 hk_42 hS_42 => ?_)
  obtain ⟨qb_42, qp_42, qo_42, qk_42, qg_42, ql_42, qd_42, qv_42, qf_42, bd_42, m_bd_42, gb_42, G_42⟩ := u_42
  rw [ht_42] at hb_42
  simp only at hb_42
  obtain ⟨⟨hb_421, hb_422, hb_423, hb_424, hb_425, hb_426⟩, hgq_42_0, hN_42, hgc_42, hbX_42, hbM_42⟩ := hb_42
  have hE9_42 := hN_42
  try have hn3_42 : jNk [3] G0 G_42 := (hn3_6).tr (hE9_42.sub (ks1 := [3]) (by decide))
  have hL_42 := hN_42
  have hY_42 := hN_42
  have hM_42 := hN_42
  have hW_42 := hN_42
  have hN_42 : (jNk [0, 5, 10, 14, 15, 16, 17]) G_6 G_42 := hN_42.sub (by decide)
  have hh_42 : jSt (dC, dI) B base G0 G_42 EX11_initW s.heap ((((0 + 1) + (1)) + 1) + (1)) ((((0 + 2) + (4000)) + 12) + (3000)) [(H_35.size, 4, 4, .int qb_42), (H_35.size, 4, 5, .int qp_42), (H_35.size, 4, 6, .int qo_42), (H_35.size, 4, 2, .int qk_42), (H_35.size, 4, 8, .int qg_42), (H_35.size, 4, 9, .int ql_42), (H_35.size, 4, 10, .int qd_42), (H_35.size, 4, 11, .int qv_42), (H_35.size, 4, 7, .int qf_42), (H_35.size, 4, 0, .ref bd_42), (s.heap.size, 2, 1, .int qc_6), (s.heap.size, 2, 0, .ref qa_6)] [] [(jFy, jYb dC dI G_6), (jFib, jIB dC dI ca G_6 0 ib), (jFqd, jQD dC dI ca G_6 none qq), (jFun, jUN dC dI ca G_6 0 us rw), (jFkd, jKD dC dI ca G_6 none kq), (jFcd, jCD dC dI ca G_6 none tq), (jFdo, jDcc dC dI ca G_6 none ph), (jFl, jLs dC dI ca G_6 0 none wl), (jFs11, jSef dC dI G_6)] H_42 locs_42 := (hh_37.callG hb_421 hb_422 hb_423 hb_424 hb_425 hS_42 rfl (L1 := [(s.heap.size, 2, 1, .int qc_6), (s.heap.size, 2, 0, .ref qa_6)]) [0, 1] rfl rfl (M1 := []) [] rfl rfl (I1 := [(jFy, jYb dC dI G_6), (jFib, jIB dC dI ca G_6 0 ib), (jFqd, jQD dC dI ca G_6 none qq), (jFun, jUN dC dI ca G_6 0 us rw), (jFkd, jKD dC dI ca G_6 none kq), (jFcd, jCD dC dI ca G_6 none tq), (jFdo, jDcc dC dI ca G_6 none ph), (jFl, jLs dC dI ca G_6 0 none wl), (jFs11, jSef dC dI G_6)]) [0, 1, 2, 3, 4, 5, 6, 7, 8] rfl rfl).more hb_426
  have hNn_42 : (jNk [0, 5, 10, 14, 15, 16, 17]) G0 G_42 := (hNn_6).tr hN_42
  have hg_44 := hb_422 _ _ hgq_6_0
  have hd_45 := jYb.grow (hh_42.iv 0 rfl) hb_422 hY_42 (by decide)
  have hh_46 := hh_42.sub (L1 := [(H_35.size, 4, 4, .int qb_42), (H_35.size, 4, 5, .int qp_42), (H_35.size, 4, 6, .int qo_42), (H_35.size, 4, 2, .int qk_42), (H_35.size, 4, 8, .int qg_42), (H_35.size, 4, 9, .int ql_42), (H_35.size, 4, 10, .int qd_42), (H_35.size, 4, 11, .int qv_42), (H_35.size, 4, 7, .int qf_42), (H_35.size, 4, 0, .ref bd_42), (s.heap.size, 2, 1, .int qc_6), (s.heap.size, 2, 0, .ref qa_6)]) [0, 1, 2, 3, 4, 5, 6, 7, 8, 9, 10, 11] rfl (M1 := []) [] rfl (I1 := [(jFib, jIB dC dI ca G_6 0 ib), (jFqd, jQD dC dI ca G_6 none qq), (jFun, jUN dC dI ca G_6 0 us rw), (jFkd, jKD dC dI ca G_6 none kq), (jFcd, jCD dC dI ca G_6 none tq), (jFdo, jDcc dC dI ca G_6 none ph), (jFl, jLs dC dI ca G_6 0 none wl), (jFs11, jSef dC dI G_6)]) [1, 2, 3, 4, 5, 6, 7, 8] rfl
  clear hh_42
  have hh_47 := hh_46.addI (jYb.ie hd_45)
  clear hh_46
  have hd_48 := jIB.grow (r := 0) (hh_47.iv 1 rfl) hb_422 hW_42 (by decide)
  have hh_49 := hh_47.sub (L1 := [(H_35.size, 4, 4, .int qb_42), (H_35.size, 4, 5, .int qp_42), (H_35.size, 4, 6, .int qo_42), (H_35.size, 4, 2, .int qk_42), (H_35.size, 4, 8, .int qg_42), (H_35.size, 4, 9, .int ql_42), (H_35.size, 4, 10, .int qd_42), (H_35.size, 4, 11, .int qv_42), (H_35.size, 4, 7, .int qf_42), (H_35.size, 4, 0, .ref bd_42), (s.heap.size, 2, 1, .int qc_6), (s.heap.size, 2, 0, .ref qa_6)]) [0, 1, 2, 3, 4, 5, 6, 7, 8, 9, 10, 11] rfl (M1 := []) [] rfl (I1 := [(jFy, jYb dC dI G_42), (jFqd, jQD dC dI ca G_6 none qq), (jFun, jUN dC dI ca G_6 0 us rw), (jFkd, jKD dC dI ca G_6 none kq), (jFcd, jCD dC dI ca G_6 none tq), (jFdo, jDcc dC dI ca G_6 none ph), (jFl, jLs dC dI ca G_6 0 none wl), (jFs11, jSef dC dI G_6)]) [0, 2, 3, 4, 5, 6, 7, 8] rfl
  clear hh_47
  have hh_50 := hh_49.addI (jIB.ie hd_48)
  clear hh_49
  have hd_51 := jQD.grow (ca := ca) (hh_50.iv 2 rfl) hb_422 hW_42 (by decide)
  have hh_52 := hh_50.sub (L1 := [(H_35.size, 4, 4, .int qb_42), (H_35.size, 4, 5, .int qp_42), (H_35.size, 4, 6, .int qo_42), (H_35.size, 4, 2, .int qk_42), (H_35.size, 4, 8, .int qg_42), (H_35.size, 4, 9, .int ql_42), (H_35.size, 4, 10, .int qd_42), (H_35.size, 4, 11, .int qv_42), (H_35.size, 4, 7, .int qf_42), (H_35.size, 4, 0, .ref bd_42), (s.heap.size, 2, 1, .int qc_6), (s.heap.size, 2, 0, .ref qa_6)]) [0, 1, 2, 3, 4, 5, 6, 7, 8, 9, 10, 11] rfl (M1 := []) [] rfl (I1 := [(jFib, jIB dC dI ca G_42 0 ib), (jFy, jYb dC dI G_42), (jFun, jUN dC dI ca G_6 0 us rw), (jFkd, jKD dC dI ca G_6 none kq), (jFcd, jCD dC dI ca G_6 none tq), (jFdo, jDcc dC dI ca G_6 none ph), (jFl, jLs dC dI ca G_6 0 none wl), (jFs11, jSef dC dI G_6)]) [0, 1, 3, 4, 5, 6, 7, 8] rfl
  clear hh_50
  have hh_53 := hh_52.addI (jQD.ie hd_51)
  clear hh_52
  have hd_54 := jUN.grow (r := 0) (hh_53.iv 3 rfl) hb_422 hW_42 (by decide) (by decide)
  have hh_55 := hh_53.sub (L1 := [(H_35.size, 4, 4, .int qb_42), (H_35.size, 4, 5, .int qp_42), (H_35.size, 4, 6, .int qo_42), (H_35.size, 4, 2, .int qk_42), (H_35.size, 4, 8, .int qg_42), (H_35.size, 4, 9, .int ql_42), (H_35.size, 4, 10, .int qd_42), (H_35.size, 4, 11, .int qv_42), (H_35.size, 4, 7, .int qf_42), (H_35.size, 4, 0, .ref bd_42), (s.heap.size, 2, 1, .int qc_6), (s.heap.size, 2, 0, .ref qa_6)]) [0, 1, 2, 3, 4, 5, 6, 7, 8, 9, 10, 11] rfl (M1 := []) [] rfl (I1 := [(jFqd, jQD dC dI ca G_42 none qq), (jFib, jIB dC dI ca G_42 0 ib), (jFy, jYb dC dI G_42), (jFkd, jKD dC dI ca G_6 none kq), (jFcd, jCD dC dI ca G_6 none tq), (jFdo, jDcc dC dI ca G_6 none ph), (jFl, jLs dC dI ca G_6 0 none wl), (jFs11, jSef dC dI G_6)]) [0, 1, 2, 4, 5, 6, 7, 8] rfl
  clear hh_53
  have hh_56 := hh_55.addI (jUN.ie hd_54)
  clear hh_55
  have hd_57 := jKD.grow (ca := ca) (hh_56.iv 4 rfl) hb_422 hW_42 (by decide)
  have hh_58 := hh_56.sub (L1 := [(H_35.size, 4, 4, .int qb_42), (H_35.size, 4, 5, .int qp_42), (H_35.size, 4, 6, .int qo_42), (H_35.size, 4, 2, .int qk_42), (H_35.size, 4, 8, .int qg_42), (H_35.size, 4, 9, .int ql_42), (H_35.size, 4, 10, .int qd_42), (H_35.size, 4, 11, .int qv_42), (H_35.size, 4, 7, .int qf_42), (H_35.size, 4, 0, .ref bd_42), (s.heap.size, 2, 1, .int qc_6), (s.heap.size, 2, 0, .ref qa_6)]) [0, 1, 2, 3, 4, 5, 6, 7, 8, 9, 10, 11] rfl (M1 := []) [] rfl (I1 := [(jFun, jUN dC dI ca G_42 0 us rw), (jFqd, jQD dC dI ca G_42 none qq), (jFib, jIB dC dI ca G_42 0 ib), (jFy, jYb dC dI G_42), (jFcd, jCD dC dI ca G_6 none tq), (jFdo, jDcc dC dI ca G_6 none ph), (jFl, jLs dC dI ca G_6 0 none wl), (jFs11, jSef dC dI G_6)]) [0, 1, 2, 3, 5, 6, 7, 8] rfl
  clear hh_56
  have hh_59 := hh_58.addI (jKD.ie hd_57)
  clear hh_58
  have hd_60 := jCD.grow (hh_59.iv 5 rfl) hb_422 hE9_42 (by decide)
  have hh_61 := hh_59.sub (L1 := [(H_35.size, 4, 4, .int qb_42), (H_35.size, 4, 5, .int qp_42), (H_35.size, 4, 6, .int qo_42), (H_35.size, 4, 2, .int qk_42), (H_35.size, 4, 8, .int qg_42), (H_35.size, 4, 9, .int ql_42), (H_35.size, 4, 10, .int qd_42), (H_35.size, 4, 11, .int qv_42), (H_35.size, 4, 7, .int qf_42), (H_35.size, 4, 0, .ref bd_42), (s.heap.size, 2, 1, .int qc_6), (s.heap.size, 2, 0, .ref qa_6)]) [0, 1, 2, 3, 4, 5, 6, 7, 8, 9, 10, 11] rfl (M1 := []) [] rfl (I1 := [(jFkd, jKD dC dI ca G_42 none kq), (jFun, jUN dC dI ca G_42 0 us rw), (jFqd, jQD dC dI ca G_42 none qq), (jFib, jIB dC dI ca G_42 0 ib), (jFy, jYb dC dI G_42), (jFdo, jDcc dC dI ca G_6 none ph), (jFl, jLs dC dI ca G_6 0 none wl), (jFs11, jSef dC dI G_6)]) [0, 1, 2, 3, 4, 6, 7, 8] rfl
  clear hh_59
  have hh_62 := hh_61.addI (jCD.ie hd_60)
  clear hh_61
  have hd_63 := jDcc.grow (hh_62.iv 6 rfl) hb_422 hE9_42 (by decide)
  have hh_64 := hh_62.sub (L1 := [(H_35.size, 4, 4, .int qb_42), (H_35.size, 4, 5, .int qp_42), (H_35.size, 4, 6, .int qo_42), (H_35.size, 4, 2, .int qk_42), (H_35.size, 4, 8, .int qg_42), (H_35.size, 4, 9, .int ql_42), (H_35.size, 4, 10, .int qd_42), (H_35.size, 4, 11, .int qv_42), (H_35.size, 4, 7, .int qf_42), (H_35.size, 4, 0, .ref bd_42), (s.heap.size, 2, 1, .int qc_6), (s.heap.size, 2, 0, .ref qa_6)]) [0, 1, 2, 3, 4, 5, 6, 7, 8, 9, 10, 11] rfl (M1 := []) [] rfl (I1 := [(jFcd, jCD dC dI ca G_42 none tq), (jFkd, jKD dC dI ca G_42 none kq), (jFun, jUN dC dI ca G_42 0 us rw), (jFqd, jQD dC dI ca G_42 none qq), (jFib, jIB dC dI ca G_42 0 ib), (jFy, jYb dC dI G_42), (jFl, jLs dC dI ca G_6 0 none wl), (jFs11, jSef dC dI G_6)]) [0, 1, 2, 3, 4, 5, 7, 8] rfl
  clear hh_62
  have hh_65 := hh_64.addI (jDcc.ie hd_63)
  clear hh_64
  have hd_66 := jLs.grow (hh_65.iv 7 rfl) hb_422 hL_42 (by decide)
  have hh_67 := hh_65.sub (L1 := [(H_35.size, 4, 4, .int qb_42), (H_35.size, 4, 5, .int qp_42), (H_35.size, 4, 6, .int qo_42), (H_35.size, 4, 2, .int qk_42), (H_35.size, 4, 8, .int qg_42), (H_35.size, 4, 9, .int ql_42), (H_35.size, 4, 10, .int qd_42), (H_35.size, 4, 11, .int qv_42), (H_35.size, 4, 7, .int qf_42), (H_35.size, 4, 0, .ref bd_42), (s.heap.size, 2, 1, .int qc_6), (s.heap.size, 2, 0, .ref qa_6)]) [0, 1, 2, 3, 4, 5, 6, 7, 8, 9, 10, 11] rfl (M1 := []) [] rfl (I1 := [(jFdo, jDcc dC dI ca G_42 none ph), (jFcd, jCD dC dI ca G_42 none tq), (jFkd, jKD dC dI ca G_42 none kq), (jFun, jUN dC dI ca G_42 0 us rw), (jFqd, jQD dC dI ca G_42 none qq), (jFib, jIB dC dI ca G_42 0 ib), (jFy, jYb dC dI G_42), (jFs11, jSef dC dI G_6)]) [0, 1, 2, 3, 4, 5, 6, 8] rfl
  clear hh_65
  have hh_68 := hh_67.addI (jLs.ie hd_66)
  clear hh_67
  have hd_69 := jSef.grow (hh_68.iv 8 rfl) hb_422 hM_42 (by decide)
  have hh_70 := hh_68.sub (L1 := [(H_35.size, 4, 4, .int qb_42), (H_35.size, 4, 5, .int qp_42), (H_35.size, 4, 6, .int qo_42), (H_35.size, 4, 2, .int qk_42), (H_35.size, 4, 8, .int qg_42), (H_35.size, 4, 9, .int ql_42), (H_35.size, 4, 10, .int qd_42), (H_35.size, 4, 11, .int qv_42), (H_35.size, 4, 7, .int qf_42), (H_35.size, 4, 0, .ref bd_42), (s.heap.size, 2, 1, .int qc_6), (s.heap.size, 2, 0, .ref qa_6)]) [0, 1, 2, 3, 4, 5, 6, 7, 8, 9, 10, 11] rfl (M1 := []) [] rfl (I1 := [(jFl, jLs dC dI ca G_42 0 none wl), (jFdo, jDcc dC dI ca G_42 none ph), (jFcd, jCD dC dI ca G_42 none tq), (jFkd, jKD dC dI ca G_42 none kq), (jFun, jUN dC dI ca G_42 0 us rw), (jFqd, jQD dC dI ca G_42 none qq), (jFib, jIB dC dI ca G_42 0 ib), (jFy, jYb dC dI G_42)]) [0, 1, 2, 3, 4, 5, 6, 7] rfl
  clear hh_68
  have hh_71 := hh_70.addI (jSef.ie hd_69)
  clear hh_70
  have hh_72 := hh_71.moreM hbM_42
  try simp only at hr_43
  obtain ⟨hr_43_0, hr_43_1, hr_43_2, hr_43_3, hr_43_4, hr_43_5, hr_43_6, hr_43_7, hr_43_8, hr_43_9, hr_43_10⟩ := hr_43
  have hkp_73 := hkp_39.in hbX_42 hsy_37
  have hraw_74x := hbX_42.ke hraw_40.lt hne_41 hraw_40n
  clear hne_41
  have hraw_74 := hraw_40.kept hraw_74x.1
  refine j7_putRF hx hb hown hK hh_72 hB hAp hraw_74 hraw_74x.2 hbr0 (C := RX11) (T := TX11) (N := 19) rfl (i := 1) (by decide) (Nat.le_of_ble_eq_true rfl) hly_13_1 rfl hin2 rfl hlk_21 (ty := (.object "ProofServer$Frames")) (v := .ref H_35.size) (by decide +kernel) rfl rfl dX11_init_26 (fun H_75 locs_75 hraw_75 hr_75 hh_75 => ?_)
  have hraw_75 : va_at (dC, dI) vwCl (r0, .inr (13, [.ref s.heap.size, .ref H_35.size, .null, .null, .null, .null, .null, .null, .null, .null, .null, .int 0, .int 0, .int 0, .int 0, .null, .null, .null, .int 0])) H_75 := hraw_75
  have hkp_76 := hkp_73.put hr_75
  clear hh_72
  refine lv_aload_n hx hb dX11_init_29 rfl (lv_at hl 0 rfl) ?_
  clear hsz_42 htt_42 hrc_42 hrs_42
  (try clear hb_424); (try clear hb_425); (try clear hz_42)
  have hsz_77 := hh_75.2.2.2.2.2.1
  have htt_77 := hh_75.2.2.2.2.2.2.1
  refine j7_newo (k := 6) (C := RX4) (T := TX4) (N := 12) (fs := [.null, .null, .null, .null, .null, .null, .null, .int 0, .int 0, .null, .int 0, .int 0]) hx hb htw jWc_wsX40 (fun k => ([(.array .int), (.array .int), (.array .int), (.array .int), (.array .int), (.array .int), (.array .int), .int, .int, (.array .byte), .int, .int] : List FieldType).getD k .int) (by decide +kernel) hown (htw (.classLink RX11 25 RX4) (jWr_1 _ (List.mem_of_getElem? (i := 20) rfl))) (htw (.instantiable RX4 12) (jWr_1 _ (List.mem_of_getElem? (i := 21) rfl))) (htw (.initialized RX4) (jWr_1 _ (List.mem_of_getElem? (i := 22) rfl))) hK rfl (fun j hj => by rcases (by omega : j = 0 ∨ j = 1 ∨ j = 2 ∨ j = 3 ∨ j = 4 ∨ j = 5 ∨ j = 6 ∨ j = 7 ∨ j = 8 ∨ j = 9 ∨ j = 10 ∨ j = 11) with rfl | rfl | rfl | rfl | rfl | rfl | rfl | rfl | rfl | rfl | rfl | rfl <;> rfl) hh_75 hB (by rw [hRc]; omega) (by rw [hRs]; omega) dX11_init_30 (fun H_77 hraw_77 hfr_77 hnr_77 hh_77 => ?_)
  have hlt_78 := hraw_75.lt
  have hke_77 : jKe G_42 G_42 H_75 H_77 := jKe.raw hfr_77
  have hbr_77 : base ≤ H_75.size := Nat.le_trans hbs hh_75.1.1
  have hsy_77 : s.heap.size ≤ H_75.size := hh_75.1.1
  clear hh_75
  have hkp_79 := hkp_76.tr hke_77
  have hraw_80n := hke_77.nr hraw_75.lt hraw_74x.2
  have hraw_80 := hraw_75.kept (hke_77.1 _ hraw_75.lt)
  have hne_81 : r0 ≠ H_75.size := Nat.ne_of_lt hlt_78
  refine lv_dup hx hb dX11_init_33 rfl ?_
  clear hsz_77 htt_77
  have hsz_82 := hh_77.2.2.2.2.2.1
  have htt_82 := hh_77.2.2.2.2.2.2.1
  refine W.room (fun hrc_82 hrs_82 => ?_)
  refine va_callv (A0 := jA base) (H0 := s.heap) (va_runIN (As := []) (rest := [.ref H_75.size, .ref r0]) ⟨hx, hb, hml, hown, hts⟩ (uX4_init l dC dI ca base B hB hAp hB6 hB100 hB140 hB141 hB142 hB143 hB144 hB145 hB146 G_42 H_77 H_75.size LC LS) ⟨va_cnB 0 hts (jgW (jWr_3 _ (List.mem_of_getElem? (i := 18) rfl))) rfl rfl rfl (hG.2.2.1 RX11 27 yX4_init "ProofServer" (List.mem_of_getElem? (i := 110) (by decide +kernel))) (htw (.initialized RX4) (jWr_1 _ (List.mem_of_getElem? (i := 22) rfl))) (by decide +kernel) ⟨by rw [← hR]; exact Nat.le_of_ble_eq_true rfl, by rw [← hR]; exact Nat.le_of_ble_eq_true rfl⟩, rfl, htw (.instanceMethod yX4_init) (jWr_3 _ (List.mem_of_getElem? (i := 17) rfl))⟩ ⟨fun a U g mk q => by obtain ⟨q0, q1, q2, qK, q10, q11, q12, q13, q14⟩ := q; exact ⟨q0, q1, q2, jG.calling g mk a qK, q10, q11, q12, q13, q14⟩, fun U hU hW => ⟨rfl, hU, hh_77.2.1, hG.step hW hU hh_77.1, hraw_77, hnr_77, hbr_77, jP.nil, (by omega), (by omega), trivial⟩⟩ rfl rfl hl.1 rfl (lv_room (Nat.le_of_ble_eq_true rfl)) dX11_init_34 ⟨by rw [hRc]; omega, by rw [hRs]; omega⟩) hh_77.1 (fun q _ h => h) (fun q h => h) (fun u_82 t_82 H_82 locs_82 ht_82 hvm_82 hr_83 hb_82 hz_82 hk_82 hS_82 => ?_)
  rw [ht_82] at hb_82
  obtain ⟨G_82, rfl⟩ : ∃ z, z = u_82 := ⟨_, rfl⟩
  try simp only at hb_82
  obtain ⟨⟨hb_821, hb_822, hb_823, hb_824, hb_825, hb_826⟩, hN_82, hgc_82, hbX_82⟩ := hb_82
  have hE9_82 := hN_82
  try have hn3_82 : jNk [3] G0 G_82 := (hn3_42).tr (hE9_82.sub (ks1 := [3]) (by decide))
  have hL_82 := hN_82
  have hY_82 := hN_82
  have hM_82 := hN_82
  have hW_82 := hN_82
  have hN_82 : (jNk [0, 5, 10, 14, 15, 16, 17]) G_42 G_82 := hN_82.sub (by decide)
  have hh_82 : jSt (dC, dI) B base G0 G_82 EX11_initW s.heap ((((((0 + 1) + (1)) + 1) + (1)) + 1) + (8)) ((((((0 + 2) + (4000)) + 12) + (3000)) + 12) + (12012)) [(H_35.size, 4, 4, .int qb_42), (H_35.size, 4, 5, .int qp_42), (H_35.size, 4, 6, .int qo_42), (H_35.size, 4, 2, .int qk_42), (H_35.size, 4, 8, .int qg_42), (H_35.size, 4, 9, .int ql_42), (H_35.size, 4, 10, .int qd_42), (H_35.size, 4, 11, .int qv_42), (H_35.size, 4, 7, .int qf_42), (H_35.size, 4, 0, .ref bd_42), (s.heap.size, 2, 1, .int qc_6), (s.heap.size, 2, 0, .ref qa_6)] [(bd_42, 100, m_bd_42, ca 0, gb_42)] [(jFs11, jSef dC dI G_42), (jFl, jLs dC dI ca G_42 0 none wl), (jFdo, jDcc dC dI ca G_42 none ph), (jFcd, jCD dC dI ca G_42 none tq), (jFkd, jKD dC dI ca G_42 none kq), (jFun, jUN dC dI ca G_42 0 us rw), (jFqd, jQD dC dI ca G_42 none qq), (jFib, jIB dC dI ca G_42 0 ib), (jFy, jYb dC dI G_42)] H_82 locs_82 := (hh_77.callG hb_821 hb_822 hb_823 hb_824 hb_825 hS_82 rfl (L1 := [(H_35.size, 4, 4, .int qb_42), (H_35.size, 4, 5, .int qp_42), (H_35.size, 4, 6, .int qo_42), (H_35.size, 4, 2, .int qk_42), (H_35.size, 4, 8, .int qg_42), (H_35.size, 4, 9, .int ql_42), (H_35.size, 4, 10, .int qd_42), (H_35.size, 4, 11, .int qv_42), (H_35.size, 4, 7, .int qf_42), (H_35.size, 4, 0, .ref bd_42), (s.heap.size, 2, 1, .int qc_6), (s.heap.size, 2, 0, .ref qa_6)]) [0, 1, 2, 3, 4, 5, 6, 7, 8, 9, 10, 11] rfl rfl (M1 := [(bd_42, 100, m_bd_42, ca 0, gb_42)]) [0] rfl rfl (I1 := [(jFs11, jSef dC dI G_42), (jFl, jLs dC dI ca G_42 0 none wl), (jFdo, jDcc dC dI ca G_42 none ph), (jFcd, jCD dC dI ca G_42 none tq), (jFkd, jKD dC dI ca G_42 none kq), (jFun, jUN dC dI ca G_42 0 us rw), (jFqd, jQD dC dI ca G_42 none qq), (jFib, jIB dC dI ca G_42 0 ib), (jFy, jYb dC dI G_42)]) [0, 1, 2, 3, 4, 5, 6, 7, 8] rfl rfl).more hb_826
  have hNn_82 : (jNk [0, 5, 10, 14, 15, 16, 17]) G0 G_82 := (hNn_42).tr hN_82
  have hg_84 := hb_822 _ _ hgq_42_0
  have hg_85 := hb_822 _ _ hg_44
  have hd_86 := jSef.grow (hh_82.iv 0 rfl) hb_822 hM_82 (by decide)
  have hh_87 := hh_82.sub (L1 := [(H_35.size, 4, 4, .int qb_42), (H_35.size, 4, 5, .int qp_42), (H_35.size, 4, 6, .int qo_42), (H_35.size, 4, 2, .int qk_42), (H_35.size, 4, 8, .int qg_42), (H_35.size, 4, 9, .int ql_42), (H_35.size, 4, 10, .int qd_42), (H_35.size, 4, 11, .int qv_42), (H_35.size, 4, 7, .int qf_42), (H_35.size, 4, 0, .ref bd_42), (s.heap.size, 2, 1, .int qc_6), (s.heap.size, 2, 0, .ref qa_6)]) [0, 1, 2, 3, 4, 5, 6, 7, 8, 9, 10, 11] rfl (M1 := [(bd_42, 100, m_bd_42, ca 0, gb_42)]) [0] rfl (I1 := [(jFl, jLs dC dI ca G_42 0 none wl), (jFdo, jDcc dC dI ca G_42 none ph), (jFcd, jCD dC dI ca G_42 none tq), (jFkd, jKD dC dI ca G_42 none kq), (jFun, jUN dC dI ca G_42 0 us rw), (jFqd, jQD dC dI ca G_42 none qq), (jFib, jIB dC dI ca G_42 0 ib), (jFy, jYb dC dI G_42)]) [1, 2, 3, 4, 5, 6, 7, 8] rfl
  clear hh_82
  have hh_88 := hh_87.addI (jSef.ie hd_86)
  clear hh_87
  have hd_89 := jLs.grow (hh_88.iv 1 rfl) hb_822 hL_82 (by decide)
  have hh_90 := hh_88.sub (L1 := [(H_35.size, 4, 4, .int qb_42), (H_35.size, 4, 5, .int qp_42), (H_35.size, 4, 6, .int qo_42), (H_35.size, 4, 2, .int qk_42), (H_35.size, 4, 8, .int qg_42), (H_35.size, 4, 9, .int ql_42), (H_35.size, 4, 10, .int qd_42), (H_35.size, 4, 11, .int qv_42), (H_35.size, 4, 7, .int qf_42), (H_35.size, 4, 0, .ref bd_42), (s.heap.size, 2, 1, .int qc_6), (s.heap.size, 2, 0, .ref qa_6)]) [0, 1, 2, 3, 4, 5, 6, 7, 8, 9, 10, 11] rfl (M1 := [(bd_42, 100, m_bd_42, ca 0, gb_42)]) [0] rfl (I1 := [(jFs11, jSef dC dI G_82), (jFdo, jDcc dC dI ca G_42 none ph), (jFcd, jCD dC dI ca G_42 none tq), (jFkd, jKD dC dI ca G_42 none kq), (jFun, jUN dC dI ca G_42 0 us rw), (jFqd, jQD dC dI ca G_42 none qq), (jFib, jIB dC dI ca G_42 0 ib), (jFy, jYb dC dI G_42)]) [0, 2, 3, 4, 5, 6, 7, 8] rfl
  clear hh_88
  have hh_91 := hh_90.addI (jLs.ie hd_89)
  clear hh_90
  have hd_92 := jDcc.grow (hh_91.iv 2 rfl) hb_822 hE9_82 (by decide)
  have hh_93 := hh_91.sub (L1 := [(H_35.size, 4, 4, .int qb_42), (H_35.size, 4, 5, .int qp_42), (H_35.size, 4, 6, .int qo_42), (H_35.size, 4, 2, .int qk_42), (H_35.size, 4, 8, .int qg_42), (H_35.size, 4, 9, .int ql_42), (H_35.size, 4, 10, .int qd_42), (H_35.size, 4, 11, .int qv_42), (H_35.size, 4, 7, .int qf_42), (H_35.size, 4, 0, .ref bd_42), (s.heap.size, 2, 1, .int qc_6), (s.heap.size, 2, 0, .ref qa_6)]) [0, 1, 2, 3, 4, 5, 6, 7, 8, 9, 10, 11] rfl (M1 := [(bd_42, 100, m_bd_42, ca 0, gb_42)]) [0] rfl (I1 := [(jFl, jLs dC dI ca G_82 0 none wl), (jFs11, jSef dC dI G_82), (jFcd, jCD dC dI ca G_42 none tq), (jFkd, jKD dC dI ca G_42 none kq), (jFun, jUN dC dI ca G_42 0 us rw), (jFqd, jQD dC dI ca G_42 none qq), (jFib, jIB dC dI ca G_42 0 ib), (jFy, jYb dC dI G_42)]) [0, 1, 3, 4, 5, 6, 7, 8] rfl
  clear hh_91
  have hh_94 := hh_93.addI (jDcc.ie hd_92)
  clear hh_93
  have hd_95 := jCD.grow (hh_94.iv 3 rfl) hb_822 hE9_82 (by decide)
  have hh_96 := hh_94.sub (L1 := [(H_35.size, 4, 4, .int qb_42), (H_35.size, 4, 5, .int qp_42), (H_35.size, 4, 6, .int qo_42), (H_35.size, 4, 2, .int qk_42), (H_35.size, 4, 8, .int qg_42), (H_35.size, 4, 9, .int ql_42), (H_35.size, 4, 10, .int qd_42), (H_35.size, 4, 11, .int qv_42), (H_35.size, 4, 7, .int qf_42), (H_35.size, 4, 0, .ref bd_42), (s.heap.size, 2, 1, .int qc_6), (s.heap.size, 2, 0, .ref qa_6)]) [0, 1, 2, 3, 4, 5, 6, 7, 8, 9, 10, 11] rfl (M1 := [(bd_42, 100, m_bd_42, ca 0, gb_42)]) [0] rfl (I1 := [(jFdo, jDcc dC dI ca G_82 none ph), (jFl, jLs dC dI ca G_82 0 none wl), (jFs11, jSef dC dI G_82), (jFkd, jKD dC dI ca G_42 none kq), (jFun, jUN dC dI ca G_42 0 us rw), (jFqd, jQD dC dI ca G_42 none qq), (jFib, jIB dC dI ca G_42 0 ib), (jFy, jYb dC dI G_42)]) [0, 1, 2, 4, 5, 6, 7, 8] rfl
  clear hh_94
  have hh_97 := hh_96.addI (jCD.ie hd_95)
  clear hh_96
  have hd_98 := jKD.grow (ca := ca) (hh_97.iv 4 rfl) hb_822 hW_82 (by decide)
  have hh_99 := hh_97.sub (L1 := [(H_35.size, 4, 4, .int qb_42), (H_35.size, 4, 5, .int qp_42), (H_35.size, 4, 6, .int qo_42), (H_35.size, 4, 2, .int qk_42), (H_35.size, 4, 8, .int qg_42), (H_35.size, 4, 9, .int ql_42), (H_35.size, 4, 10, .int qd_42), (H_35.size, 4, 11, .int qv_42), (H_35.size, 4, 7, .int qf_42), (H_35.size, 4, 0, .ref bd_42), (s.heap.size, 2, 1, .int qc_6), (s.heap.size, 2, 0, .ref qa_6)]) [0, 1, 2, 3, 4, 5, 6, 7, 8, 9, 10, 11] rfl (M1 := [(bd_42, 100, m_bd_42, ca 0, gb_42)]) [0] rfl (I1 := [(jFcd, jCD dC dI ca G_82 none tq), (jFdo, jDcc dC dI ca G_82 none ph), (jFl, jLs dC dI ca G_82 0 none wl), (jFs11, jSef dC dI G_82), (jFun, jUN dC dI ca G_42 0 us rw), (jFqd, jQD dC dI ca G_42 none qq), (jFib, jIB dC dI ca G_42 0 ib), (jFy, jYb dC dI G_42)]) [0, 1, 2, 3, 5, 6, 7, 8] rfl
  clear hh_97
  have hh_100 := hh_99.addI (jKD.ie hd_98)
  clear hh_99
  have hd_101 := jUN.grow (r := 0) (hh_100.iv 5 rfl) hb_822 hW_82 (by decide) (by decide)
  have hh_102 := hh_100.sub (L1 := [(H_35.size, 4, 4, .int qb_42), (H_35.size, 4, 5, .int qp_42), (H_35.size, 4, 6, .int qo_42), (H_35.size, 4, 2, .int qk_42), (H_35.size, 4, 8, .int qg_42), (H_35.size, 4, 9, .int ql_42), (H_35.size, 4, 10, .int qd_42), (H_35.size, 4, 11, .int qv_42), (H_35.size, 4, 7, .int qf_42), (H_35.size, 4, 0, .ref bd_42), (s.heap.size, 2, 1, .int qc_6), (s.heap.size, 2, 0, .ref qa_6)]) [0, 1, 2, 3, 4, 5, 6, 7, 8, 9, 10, 11] rfl (M1 := [(bd_42, 100, m_bd_42, ca 0, gb_42)]) [0] rfl (I1 := [(jFkd, jKD dC dI ca G_82 none kq), (jFcd, jCD dC dI ca G_82 none tq), (jFdo, jDcc dC dI ca G_82 none ph), (jFl, jLs dC dI ca G_82 0 none wl), (jFs11, jSef dC dI G_82), (jFqd, jQD dC dI ca G_42 none qq), (jFib, jIB dC dI ca G_42 0 ib), (jFy, jYb dC dI G_42)]) [0, 1, 2, 3, 4, 6, 7, 8] rfl
  clear hh_100
  have hh_103 := hh_102.addI (jUN.ie hd_101)
  clear hh_102
  have hd_104 := jQD.grow (ca := ca) (hh_103.iv 6 rfl) hb_822 hW_82 (by decide)
  have hh_105 := hh_103.sub (L1 := [(H_35.size, 4, 4, .int qb_42), (H_35.size, 4, 5, .int qp_42), (H_35.size, 4, 6, .int qo_42), (H_35.size, 4, 2, .int qk_42), (H_35.size, 4, 8, .int qg_42), (H_35.size, 4, 9, .int ql_42), (H_35.size, 4, 10, .int qd_42), (H_35.size, 4, 11, .int qv_42), (H_35.size, 4, 7, .int qf_42), (H_35.size, 4, 0, .ref bd_42), (s.heap.size, 2, 1, .int qc_6), (s.heap.size, 2, 0, .ref qa_6)]) [0, 1, 2, 3, 4, 5, 6, 7, 8, 9, 10, 11] rfl (M1 := [(bd_42, 100, m_bd_42, ca 0, gb_42)]) [0] rfl (I1 := [(jFun, jUN dC dI ca G_82 0 us rw), (jFkd, jKD dC dI ca G_82 none kq), (jFcd, jCD dC dI ca G_82 none tq), (jFdo, jDcc dC dI ca G_82 none ph), (jFl, jLs dC dI ca G_82 0 none wl), (jFs11, jSef dC dI G_82), (jFib, jIB dC dI ca G_42 0 ib), (jFy, jYb dC dI G_42)]) [0, 1, 2, 3, 4, 5, 7, 8] rfl
  clear hh_103
  have hh_106 := hh_105.addI (jQD.ie hd_104)
  clear hh_105
  have hd_107 := jIB.grow (r := 0) (hh_106.iv 7 rfl) hb_822 hW_82 (by decide)
  have hh_108 := hh_106.sub (L1 := [(H_35.size, 4, 4, .int qb_42), (H_35.size, 4, 5, .int qp_42), (H_35.size, 4, 6, .int qo_42), (H_35.size, 4, 2, .int qk_42), (H_35.size, 4, 8, .int qg_42), (H_35.size, 4, 9, .int ql_42), (H_35.size, 4, 10, .int qd_42), (H_35.size, 4, 11, .int qv_42), (H_35.size, 4, 7, .int qf_42), (H_35.size, 4, 0, .ref bd_42), (s.heap.size, 2, 1, .int qc_6), (s.heap.size, 2, 0, .ref qa_6)]) [0, 1, 2, 3, 4, 5, 6, 7, 8, 9, 10, 11] rfl (M1 := [(bd_42, 100, m_bd_42, ca 0, gb_42)]) [0] rfl (I1 := [(jFqd, jQD dC dI ca G_82 none qq), (jFun, jUN dC dI ca G_82 0 us rw), (jFkd, jKD dC dI ca G_82 none kq), (jFcd, jCD dC dI ca G_82 none tq), (jFdo, jDcc dC dI ca G_82 none ph), (jFl, jLs dC dI ca G_82 0 none wl), (jFs11, jSef dC dI G_82), (jFy, jYb dC dI G_42)]) [0, 1, 2, 3, 4, 5, 6, 8] rfl
  clear hh_106
  have hh_109 := hh_108.addI (jIB.ie hd_107)
  clear hh_108
  have hd_110 := jYb.grow (hh_109.iv 8 rfl) hb_822 hY_82 (by decide)
  have hh_111 := hh_109.sub (L1 := [(H_35.size, 4, 4, .int qb_42), (H_35.size, 4, 5, .int qp_42), (H_35.size, 4, 6, .int qo_42), (H_35.size, 4, 2, .int qk_42), (H_35.size, 4, 8, .int qg_42), (H_35.size, 4, 9, .int ql_42), (H_35.size, 4, 10, .int qd_42), (H_35.size, 4, 11, .int qv_42), (H_35.size, 4, 7, .int qf_42), (H_35.size, 4, 0, .ref bd_42), (s.heap.size, 2, 1, .int qc_6), (s.heap.size, 2, 0, .ref qa_6)]) [0, 1, 2, 3, 4, 5, 6, 7, 8, 9, 10, 11] rfl (M1 := [(bd_42, 100, m_bd_42, ca 0, gb_42)]) [0] rfl (I1 := [(jFib, jIB dC dI ca G_82 0 ib), (jFqd, jQD dC dI ca G_82 none qq), (jFun, jUN dC dI ca G_82 0 us rw), (jFkd, jKD dC dI ca G_82 none kq), (jFcd, jCD dC dI ca G_82 none tq), (jFdo, jDcc dC dI ca G_82 none ph), (jFl, jLs dC dI ca G_82 0 none wl), (jFs11, jSef dC dI G_82)]) [0, 1, 2, 3, 4, 5, 6, 7] rfl
  clear hh_109
  have hh_112 := hh_111.addI (jYb.ie hd_110)
  clear hh_111
  try simp only at hr_83
  have hkp_113 := hkp_79.in hbX_82 hsy_77
  have hraw_114x := hbX_82.ke hraw_80.lt hne_81 hraw_80n
  clear hne_81
  have hraw_114 := hraw_80.kept hraw_114x.1
  refine j7_putRF hx hb hown hK hh_112 hB hAp hraw_114 hraw_114x.2 hbr0 (C := RX11) (T := TX11) (N := 19) rfl (i := 2) (by decide) (Nat.le_of_ble_eq_true rfl) hly_13_2 rfl hin2 rfl hlk_28 (ty := (.object "ProofServer$Json")) (v := .ref H_75.size) (by decide +kernel) rfl rfl dX11_init_37 (fun H_115 locs_115 hraw_115 hr_115 hh_115 => ?_)
  have hraw_115 : va_at (dC, dI) vwCl (r0, .inr (13, [.ref s.heap.size, .ref H_35.size, .ref H_75.size, .null, .null, .null, .null, .null, .null, .null, .null, .int 0, .int 0, .int 0, .int 0, .null, .null, .null, .int 0])) H_115 := hraw_115
  have hkp_116 := hkp_113.put hr_115
  clear hh_112
  refine lv_aload_n hx hb dX11_init_40 rfl (lv_at hl 0 rfl) ?_
  clear hsz_82 htt_82 hrc_82 hrs_82
  (try clear hb_824); (try clear hb_825); (try clear hz_82)
  have hsz_117 := hh_115.2.2.2.2.2.1
  have htt_117 := hh_115.2.2.2.2.2.2.1
  refine j7_newo (k := 2) (C := RX0) (T := TX0) (N := 2) (fs := [.null, .int 0]) hx hb htw jWc_wsX00 (fun k => ([(.array .byte), .int] : List FieldType).getD k .int) (by decide +kernel) hown (htw (.classLink RX11 7 RX0) (jWr_1 _ (List.mem_of_getElem? (i := 12) rfl))) (htw (.instantiable RX0 2) (jWr_1 _ (List.mem_of_getElem? (i := 13) rfl))) (htw (.initialized RX0) (jWr_1 _ (List.mem_of_getElem? (i := 14) rfl))) hK rfl (fun j hj => by rcases (by omega : j = 0 ∨ j = 1) with rfl | rfl <;> rfl) hh_115 hB (by rw [hRc]; omega) (by rw [hRs]; omega) dX11_init_41 (fun H_117 hraw_117 hfr_117 hnr_117 hh_117 => ?_)
  have hlt_118 := hraw_115.lt
  have hke_117 : jKe G_82 G_82 H_115 H_117 := jKe.raw hfr_117
  have hbr_117 : base ≤ H_115.size := Nat.le_trans hbs hh_115.1.1
  have hsy_117 : s.heap.size ≤ H_115.size := hh_115.1.1
  clear hh_115
  have hkp_119 := hkp_116.tr hke_117
  have hraw_120n := hke_117.nr hraw_115.lt hraw_114x.2
  have hraw_120 := hraw_115.kept (hke_117.1 _ hraw_115.lt)
  have hne_121 : r0 ≠ H_115.size := Nat.ne_of_lt hlt_118
  refine lv_dup hx hb dX11_init_44 rfl ?_
  refine lv_sipush (v := 20000) hx hb dX11_init_45 (by decide) ?_
  clear hsz_117 htt_117
  have hsz_122 := hh_117.2.2.2.2.2.1
  have htt_122 := hh_117.2.2.2.2.2.2.1
  refine W.room (fun hrc_122 hrs_122 => ?_)
  refine va_callv (A0 := jA base) (H0 := s.heap) (va_runI (As := [.int 20000]) (rest := [.ref H_115.size, .ref r0]) ⟨hx, hb, hml, hown, hts⟩ (uX0_initY l dC dI ca base B hB hAp hB2 hB17 hB196 hB199 G_82 H_117 H_115.size 20000 20000 LC LS) (cwI 1 hts (jgW (jWr_3 _ (List.mem_of_getElem? (i := 3) rfl))) rfl rfl rfl (htw (.initialized RX0) (jWr_1 _ (List.mem_of_getElem? (i := 14) rfl))) (htw (.methodLink RX11 11 yX0_init) (jWr_3 _ (List.mem_of_getElem? (i := 1) rfl))) (htw (.instanceMethod yX0_init) (jWr_3 _ (List.mem_of_getElem? (i := 2) rfl))) rfl (by decide +kernel) ⟨by rw [← hR]; exact Nat.le_of_ble_eq_true rfl, by rw [← hR]; exact Nat.le_of_ble_eq_true rfl⟩) ⟨fun a U g mk q => by obtain ⟨q0, q1, q2, qK, q10, q11, q12, q13, q14, q15⟩ := q; exact ⟨q0, q1, q2, jG.calling g mk a qK, q10, q11, q12, q13, q14, q15⟩, fun U hU hW => ⟨rfl, hU, hh_117.2.1, hG.step hW hU hh_117.1, hraw_117, hnr_117, hbr_117, jP.nil, (hh_117.2.2.2.2.2.2.2.2.sub (L1 := [(jFy, jYb dC dI G_82)]) [0] rfl), (by omega), (by omega), ⟨(by first | omega | rfl | assumption | exact fun h9 => absurd h9 (by decide)), (by first | omega | rfl | assumption | exact fun h9 => absurd h9 (by decide)), (by first | omega | rfl | assumption | exact fun h9 => absurd h9 (by decide)), (by first | assumption | exact fun h9 => absurd h9 (by decide) | omega), (by first | omega | rfl | assumption | exact fun h9 => absurd h9 (by decide))⟩⟩⟩ rfl rfl hl.1 rfl (lv_room (Nat.le_of_ble_eq_true rfl)) dX11_init_48 ⟨by rw [hRc]; omega, by rw [hRs]; omega⟩) hh_117.1 (fun q _ h => h) (fun q h => h) (fun u_122 t_122 H_122 locs_122 ht_122 hvm_122 hr_123 hb_122 hz_122 hk_122 hS_122 => ?_)
  obtain ⟨qc_122, qa_122, m_qa_122, G_122⟩ := u_122
  rw [ht_122] at hb_122
  simp only at hb_122
  obtain ⟨⟨hb_1221, hb_1222, hb_1223, hb_1224, hb_1225, hb_1226⟩, hgq_122_0, hN_122, hgc_122, hbX_122, hbE_122⟩ := hb_122
  have hE9_122 := hN_122
  try have hn3_122 : jNk [3] G0 G_122 := (hn3_82).tr (hE9_122.sub (ks1 := [3]) (by decide))
  have hL_122 := hN_122
  have hM_122 := hN_122
  have hW_122 := hN_122
  have hN_122 : (jNk [0, 5, 10, 14, 15, 16, 17]) G_82 G_122 := hN_122.sub (by decide)
  have hh_122 : jSt (dC, dI) B base G0 G_122 EX11_initW s.heap ((((((((0 + 1) + (1)) + 1) + (1)) + 1) + (8)) + 1) + (1)) ((((((((0 + 2) + (4000)) + 12) + (3000)) + 12) + (12012)) + 2) + (20000)) [(H_115.size, 2, 1, .int qc_122), (H_115.size, 2, 0, .ref qa_122), (H_35.size, 4, 4, .int qb_42), (H_35.size, 4, 5, .int qp_42), (H_35.size, 4, 6, .int qo_42), (H_35.size, 4, 2, .int qk_42), (H_35.size, 4, 8, .int qg_42), (H_35.size, 4, 9, .int ql_42), (H_35.size, 4, 10, .int qd_42), (H_35.size, 4, 11, .int qv_42), (H_35.size, 4, 7, .int qf_42), (H_35.size, 4, 0, .ref bd_42), (s.heap.size, 2, 1, .int qc_6), (s.heap.size, 2, 0, .ref qa_6)] [(bd_42, 100, m_bd_42, ca 0, gb_42)] [(jFib, jIB dC dI ca G_82 0 ib), (jFqd, jQD dC dI ca G_82 none qq), (jFun, jUN dC dI ca G_82 0 us rw), (jFkd, jKD dC dI ca G_82 none kq), (jFcd, jCD dC dI ca G_82 none tq), (jFdo, jDcc dC dI ca G_82 none ph), (jFl, jLs dC dI ca G_82 0 none wl), (jFs11, jSef dC dI G_82)] H_122 locs_122 := (hh_117.callG hb_1221 hb_1222 hb_1223 hb_1224 hb_1225 hS_122 rfl (L1 := [(H_35.size, 4, 4, .int qb_42), (H_35.size, 4, 5, .int qp_42), (H_35.size, 4, 6, .int qo_42), (H_35.size, 4, 2, .int qk_42), (H_35.size, 4, 8, .int qg_42), (H_35.size, 4, 9, .int ql_42), (H_35.size, 4, 10, .int qd_42), (H_35.size, 4, 11, .int qv_42), (H_35.size, 4, 7, .int qf_42), (H_35.size, 4, 0, .ref bd_42), (s.heap.size, 2, 1, .int qc_6), (s.heap.size, 2, 0, .ref qa_6)]) [0, 1, 2, 3, 4, 5, 6, 7, 8, 9, 10, 11] rfl rfl (M1 := [(bd_42, 100, m_bd_42, ca 0, gb_42)]) [0] rfl rfl (I1 := [(jFib, jIB dC dI ca G_82 0 ib), (jFqd, jQD dC dI ca G_82 none qq), (jFun, jUN dC dI ca G_82 0 us rw), (jFkd, jKD dC dI ca G_82 none kq), (jFcd, jCD dC dI ca G_82 none tq), (jFdo, jDcc dC dI ca G_82 none ph), (jFl, jLs dC dI ca G_82 0 none wl), (jFs11, jSef dC dI G_82)]) [1, 2, 3, 4, 5, 6, 7, 8] rfl rfl).more hb_1226
  have hNn_122 : (jNk [0, 5, 10, 14, 15, 16, 17]) G0 G_122 := (hNn_82).tr hN_122
  have hg_124 := hb_1222 _ _ hg_84
  have hg_125 := hb_1222 _ _ hg_85
  have hd_126 := jIB.grow (r := 0) (hh_122.iv 0 rfl) hb_1222 hW_122 (by decide)
  have hh_127 := hh_122.sub (L1 := [(H_115.size, 2, 1, .int qc_122), (H_115.size, 2, 0, .ref qa_122), (H_35.size, 4, 4, .int qb_42), (H_35.size, 4, 5, .int qp_42), (H_35.size, 4, 6, .int qo_42), (H_35.size, 4, 2, .int qk_42), (H_35.size, 4, 8, .int qg_42), (H_35.size, 4, 9, .int ql_42), (H_35.size, 4, 10, .int qd_42), (H_35.size, 4, 11, .int qv_42), (H_35.size, 4, 7, .int qf_42), (H_35.size, 4, 0, .ref bd_42), (s.heap.size, 2, 1, .int qc_6), (s.heap.size, 2, 0, .ref qa_6)]) [0, 1, 2, 3, 4, 5, 6, 7, 8, 9, 10, 11, 12, 13] rfl (M1 := [(bd_42, 100, m_bd_42, ca 0, gb_42)]) [0] rfl (I1 := [(jFqd, jQD dC dI ca G_82 none qq), (jFun, jUN dC dI ca G_82 0 us rw), (jFkd, jKD dC dI ca G_82 none kq), (jFcd, jCD dC dI ca G_82 none tq), (jFdo, jDcc dC dI ca G_82 none ph), (jFl, jLs dC dI ca G_82 0 none wl), (jFs11, jSef dC dI G_82)]) [1, 2, 3, 4, 5, 6, 7] rfl
  clear hh_122
  have hh_128 := hh_127.addI (jIB.ie hd_126)
  clear hh_127
  have hd_129 := jQD.grow (ca := ca) (hh_128.iv 1 rfl) hb_1222 hW_122 (by decide)
  have hh_130 := hh_128.sub (L1 := [(H_115.size, 2, 1, .int qc_122), (H_115.size, 2, 0, .ref qa_122), (H_35.size, 4, 4, .int qb_42), (H_35.size, 4, 5, .int qp_42), (H_35.size, 4, 6, .int qo_42), (H_35.size, 4, 2, .int qk_42), (H_35.size, 4, 8, .int qg_42), (H_35.size, 4, 9, .int ql_42), (H_35.size, 4, 10, .int qd_42), (H_35.size, 4, 11, .int qv_42), (H_35.size, 4, 7, .int qf_42), (H_35.size, 4, 0, .ref bd_42), (s.heap.size, 2, 1, .int qc_6), (s.heap.size, 2, 0, .ref qa_6)]) [0, 1, 2, 3, 4, 5, 6, 7, 8, 9, 10, 11, 12, 13] rfl (M1 := [(bd_42, 100, m_bd_42, ca 0, gb_42)]) [0] rfl (I1 := [(jFib, jIB dC dI ca G_122 0 ib), (jFun, jUN dC dI ca G_82 0 us rw), (jFkd, jKD dC dI ca G_82 none kq), (jFcd, jCD dC dI ca G_82 none tq), (jFdo, jDcc dC dI ca G_82 none ph), (jFl, jLs dC dI ca G_82 0 none wl), (jFs11, jSef dC dI G_82)]) [0, 2, 3, 4, 5, 6, 7] rfl
  clear hh_128
  have hh_131 := hh_130.addI (jQD.ie hd_129)
  clear hh_130
  have hd_132 := jUN.grow (r := 0) (hh_131.iv 2 rfl) hb_1222 hW_122 (by decide) (by decide)
  have hh_133 := hh_131.sub (L1 := [(H_115.size, 2, 1, .int qc_122), (H_115.size, 2, 0, .ref qa_122), (H_35.size, 4, 4, .int qb_42), (H_35.size, 4, 5, .int qp_42), (H_35.size, 4, 6, .int qo_42), (H_35.size, 4, 2, .int qk_42), (H_35.size, 4, 8, .int qg_42), (H_35.size, 4, 9, .int ql_42), (H_35.size, 4, 10, .int qd_42), (H_35.size, 4, 11, .int qv_42), (H_35.size, 4, 7, .int qf_42), (H_35.size, 4, 0, .ref bd_42), (s.heap.size, 2, 1, .int qc_6), (s.heap.size, 2, 0, .ref qa_6)]) [0, 1, 2, 3, 4, 5, 6, 7, 8, 9, 10, 11, 12, 13] rfl (M1 := [(bd_42, 100, m_bd_42, ca 0, gb_42)]) [0] rfl (I1 := [(jFqd, jQD dC dI ca G_122 none qq), (jFib, jIB dC dI ca G_122 0 ib), (jFkd, jKD dC dI ca G_82 none kq), (jFcd, jCD dC dI ca G_82 none tq), (jFdo, jDcc dC dI ca G_82 none ph), (jFl, jLs dC dI ca G_82 0 none wl), (jFs11, jSef dC dI G_82)]) [0, 1, 3, 4, 5, 6, 7] rfl
  clear hh_131
  have hh_134 := hh_133.addI (jUN.ie hd_132)
  clear hh_133
  have hd_135 := jKD.grow (ca := ca) (hh_134.iv 3 rfl) hb_1222 hW_122 (by decide)
  have hh_136 := hh_134.sub (L1 := [(H_115.size, 2, 1, .int qc_122), (H_115.size, 2, 0, .ref qa_122), (H_35.size, 4, 4, .int qb_42), (H_35.size, 4, 5, .int qp_42), (H_35.size, 4, 6, .int qo_42), (H_35.size, 4, 2, .int qk_42), (H_35.size, 4, 8, .int qg_42), (H_35.size, 4, 9, .int ql_42), (H_35.size, 4, 10, .int qd_42), (H_35.size, 4, 11, .int qv_42), (H_35.size, 4, 7, .int qf_42), (H_35.size, 4, 0, .ref bd_42), (s.heap.size, 2, 1, .int qc_6), (s.heap.size, 2, 0, .ref qa_6)]) [0, 1, 2, 3, 4, 5, 6, 7, 8, 9, 10, 11, 12, 13] rfl (M1 := [(bd_42, 100, m_bd_42, ca 0, gb_42)]) [0] rfl (I1 := [(jFun, jUN dC dI ca G_122 0 us rw), (jFqd, jQD dC dI ca G_122 none qq), (jFib, jIB dC dI ca G_122 0 ib), (jFcd, jCD dC dI ca G_82 none tq), (jFdo, jDcc dC dI ca G_82 none ph), (jFl, jLs dC dI ca G_82 0 none wl), (jFs11, jSef dC dI G_82)]) [0, 1, 2, 4, 5, 6, 7] rfl
  clear hh_134
  have hh_137 := hh_136.addI (jKD.ie hd_135)
  clear hh_136
  have hd_138 := jCD.grow (hh_137.iv 4 rfl) hb_1222 hE9_122 (by decide)
  have hh_139 := hh_137.sub (L1 := [(H_115.size, 2, 1, .int qc_122), (H_115.size, 2, 0, .ref qa_122), (H_35.size, 4, 4, .int qb_42), (H_35.size, 4, 5, .int qp_42), (H_35.size, 4, 6, .int qo_42), (H_35.size, 4, 2, .int qk_42), (H_35.size, 4, 8, .int qg_42), (H_35.size, 4, 9, .int ql_42), (H_35.size, 4, 10, .int qd_42), (H_35.size, 4, 11, .int qv_42), (H_35.size, 4, 7, .int qf_42), (H_35.size, 4, 0, .ref bd_42), (s.heap.size, 2, 1, .int qc_6), (s.heap.size, 2, 0, .ref qa_6)]) [0, 1, 2, 3, 4, 5, 6, 7, 8, 9, 10, 11, 12, 13] rfl (M1 := [(bd_42, 100, m_bd_42, ca 0, gb_42)]) [0] rfl (I1 := [(jFkd, jKD dC dI ca G_122 none kq), (jFun, jUN dC dI ca G_122 0 us rw), (jFqd, jQD dC dI ca G_122 none qq), (jFib, jIB dC dI ca G_122 0 ib), (jFdo, jDcc dC dI ca G_82 none ph), (jFl, jLs dC dI ca G_82 0 none wl), (jFs11, jSef dC dI G_82)]) [0, 1, 2, 3, 5, 6, 7] rfl
  clear hh_137
  have hh_140 := hh_139.addI (jCD.ie hd_138)
  clear hh_139
  have hd_141 := jDcc.grow (hh_140.iv 5 rfl) hb_1222 hE9_122 (by decide)
  have hh_142 := hh_140.sub (L1 := [(H_115.size, 2, 1, .int qc_122), (H_115.size, 2, 0, .ref qa_122), (H_35.size, 4, 4, .int qb_42), (H_35.size, 4, 5, .int qp_42), (H_35.size, 4, 6, .int qo_42), (H_35.size, 4, 2, .int qk_42), (H_35.size, 4, 8, .int qg_42), (H_35.size, 4, 9, .int ql_42), (H_35.size, 4, 10, .int qd_42), (H_35.size, 4, 11, .int qv_42), (H_35.size, 4, 7, .int qf_42), (H_35.size, 4, 0, .ref bd_42), (s.heap.size, 2, 1, .int qc_6), (s.heap.size, 2, 0, .ref qa_6)]) [0, 1, 2, 3, 4, 5, 6, 7, 8, 9, 10, 11, 12, 13] rfl (M1 := [(bd_42, 100, m_bd_42, ca 0, gb_42)]) [0] rfl (I1 := [(jFcd, jCD dC dI ca G_122 none tq), (jFkd, jKD dC dI ca G_122 none kq), (jFun, jUN dC dI ca G_122 0 us rw), (jFqd, jQD dC dI ca G_122 none qq), (jFib, jIB dC dI ca G_122 0 ib), (jFl, jLs dC dI ca G_82 0 none wl), (jFs11, jSef dC dI G_82)]) [0, 1, 2, 3, 4, 6, 7] rfl
  clear hh_140
  have hh_143 := hh_142.addI (jDcc.ie hd_141)
  clear hh_142
  have hd_144 := jLs.grow (hh_143.iv 6 rfl) hb_1222 hL_122 (by decide)
  have hh_145 := hh_143.sub (L1 := [(H_115.size, 2, 1, .int qc_122), (H_115.size, 2, 0, .ref qa_122), (H_35.size, 4, 4, .int qb_42), (H_35.size, 4, 5, .int qp_42), (H_35.size, 4, 6, .int qo_42), (H_35.size, 4, 2, .int qk_42), (H_35.size, 4, 8, .int qg_42), (H_35.size, 4, 9, .int ql_42), (H_35.size, 4, 10, .int qd_42), (H_35.size, 4, 11, .int qv_42), (H_35.size, 4, 7, .int qf_42), (H_35.size, 4, 0, .ref bd_42), (s.heap.size, 2, 1, .int qc_6), (s.heap.size, 2, 0, .ref qa_6)]) [0, 1, 2, 3, 4, 5, 6, 7, 8, 9, 10, 11, 12, 13] rfl (M1 := [(bd_42, 100, m_bd_42, ca 0, gb_42)]) [0] rfl (I1 := [(jFdo, jDcc dC dI ca G_122 none ph), (jFcd, jCD dC dI ca G_122 none tq), (jFkd, jKD dC dI ca G_122 none kq), (jFun, jUN dC dI ca G_122 0 us rw), (jFqd, jQD dC dI ca G_122 none qq), (jFib, jIB dC dI ca G_122 0 ib), (jFs11, jSef dC dI G_82)]) [0, 1, 2, 3, 4, 5, 7] rfl
  clear hh_143
  have hh_146 := hh_145.addI (jLs.ie hd_144)
  clear hh_145
  have hd_147 := jSef.grow (hh_146.iv 7 rfl) hb_1222 hM_122 (by decide)
  have hh_148 := hh_146.sub (L1 := [(H_115.size, 2, 1, .int qc_122), (H_115.size, 2, 0, .ref qa_122), (H_35.size, 4, 4, .int qb_42), (H_35.size, 4, 5, .int qp_42), (H_35.size, 4, 6, .int qo_42), (H_35.size, 4, 2, .int qk_42), (H_35.size, 4, 8, .int qg_42), (H_35.size, 4, 9, .int ql_42), (H_35.size, 4, 10, .int qd_42), (H_35.size, 4, 11, .int qv_42), (H_35.size, 4, 7, .int qf_42), (H_35.size, 4, 0, .ref bd_42), (s.heap.size, 2, 1, .int qc_6), (s.heap.size, 2, 0, .ref qa_6)]) [0, 1, 2, 3, 4, 5, 6, 7, 8, 9, 10, 11, 12, 13] rfl (M1 := [(bd_42, 100, m_bd_42, ca 0, gb_42)]) [0] rfl (I1 := [(jFl, jLs dC dI ca G_122 0 none wl), (jFdo, jDcc dC dI ca G_122 none ph), (jFcd, jCD dC dI ca G_122 none tq), (jFkd, jKD dC dI ca G_122 none kq), (jFun, jUN dC dI ca G_122 0 us rw), (jFqd, jQD dC dI ca G_122 none qq), (jFib, jIB dC dI ca G_122 0 ib)]) [0, 1, 2, 3, 4, 5, 6] rfl
  clear hh_146
  have hh_149 := hh_148.addI (jSef.ie hd_147)
  clear hh_148
  have hh_150 := hh_149.addIs hbE_122
  try simp only at hr_123
  obtain ⟨hr_123_0, hr_123_1⟩ := hr_123
  have hkp_151 := hkp_119.in hbX_122 hsy_117
  have hraw_152x := hbX_122.ke hraw_120.lt hne_121 hraw_120n
  clear hne_121
  have hraw_152 := hraw_120.kept hraw_152x.1
  refine j7_putRF hx hb hown hK hh_150 hB hAp hraw_152 hraw_152x.2 hbr0 (C := RX11) (T := TX11) (N := 19) rfl (i := 3) (by decide) (Nat.le_of_ble_eq_true rfl) hly_13_3 rfl hin2 rfl hlk_32 (ty := (.object "ProofServer$Bytes")) (v := .ref H_115.size) (by decide +kernel) rfl rfl dX11_init_51 (fun H_153 locs_153 hraw_153 hr_153 hh_153 => ?_)
  have hraw_153 : va_at (dC, dI) vwCl (r0, .inr (13, [.ref s.heap.size, .ref H_35.size, .ref H_75.size, .ref H_115.size, .null, .null, .null, .null, .null, .null, .null, .int 0, .int 0, .int 0, .int 0, .null, .null, .null, .int 0])) H_153 := hraw_153
  have hkp_154 := hkp_151.put hr_153
  clear hh_150
  refine lv_aload_n hx hb dX11_init_54 rfl (lv_at hl 0 rfl) ?_
  clear hsz_122 htt_122 hrc_122 hrs_122
  (try clear hb_1224); (try clear hb_1225); (try clear hz_122)
  have hsz_155 := hh_153.2.2.2.2.2.1
  have htt_155 := hh_153.2.2.2.2.2.2.1
  refine j7_newo (k := 2) (C := RX0) (T := TX0) (N := 2) (fs := [.null, .int 0]) hx hb htw jWc_wsX00 (fun k => ([(.array .byte), .int] : List FieldType).getD k .int) (by decide +kernel) hown (htw (.classLink RX11 7 RX0) (jWr_1 _ (List.mem_of_getElem? (i := 12) rfl))) (htw (.instantiable RX0 2) (jWr_1 _ (List.mem_of_getElem? (i := 13) rfl))) (htw (.initialized RX0) (jWr_1 _ (List.mem_of_getElem? (i := 14) rfl))) hK rfl (fun j hj => by rcases (by omega : j = 0 ∨ j = 1) with rfl | rfl <;> rfl) hh_153 hB (by rw [hRc]; omega) (by rw [hRs]; omega) dX11_init_55 (fun H_155 hraw_155 hfr_155 hnr_155 hh_155 => ?_)
  have hlt_156 := hraw_153.lt
  have hke_155 : jKe G_122 G_122 H_153 H_155 := jKe.raw hfr_155
  have hbr_155 : base ≤ H_153.size := Nat.le_trans hbs hh_153.1.1
  have hsy_155 : s.heap.size ≤ H_153.size := hh_153.1.1
  clear hh_153
  have hkp_157 := hkp_154.tr hke_155
  have hraw_158n := hke_155.nr hraw_153.lt hraw_152x.2
  have hraw_158 := hraw_153.kept (hke_155.1 _ hraw_153.lt)
  have hne_159 : r0 ≠ H_153.size := Nat.ne_of_lt hlt_156
  refine lv_dup hx hb dX11_init_58 rfl ?_
  refine lv_sipush (v := 1024) hx hb dX11_init_59 (by decide) ?_
  clear hsz_155 htt_155
  have hsz_160 := hh_155.2.2.2.2.2.1
  have htt_160 := hh_155.2.2.2.2.2.2.1
  refine W.room (fun hrc_160 hrs_160 => ?_)
  refine va_callv (A0 := jA base) (H0 := s.heap) (va_runI (As := [.int 1024]) (rest := [.ref H_153.size, .ref r0]) ⟨hx, hb, hml, hown, hts⟩ (uX0_initY l dC dI ca base B hB hAp hB2 hB17 hB196 hB199 G_122 H_155 H_153.size 1024 0 LC LS) (cwI 1 hts (jgW (jWr_3 _ (List.mem_of_getElem? (i := 3) rfl))) rfl rfl rfl (htw (.initialized RX0) (jWr_1 _ (List.mem_of_getElem? (i := 14) rfl))) (htw (.methodLink RX11 11 yX0_init) (jWr_3 _ (List.mem_of_getElem? (i := 1) rfl))) (htw (.instanceMethod yX0_init) (jWr_3 _ (List.mem_of_getElem? (i := 2) rfl))) rfl (by decide +kernel) ⟨by rw [← hR]; exact Nat.le_of_ble_eq_true rfl, by rw [← hR]; exact Nat.le_of_ble_eq_true rfl⟩) ⟨fun a U g mk q => by obtain ⟨q0, q1, q2, qK, q10, q11, q12, q13, q14, q15⟩ := q; exact ⟨q0, q1, q2, jG.calling g mk a qK, q10, q11, q12, q13, q14, q15⟩, fun U hU hW => ⟨rfl, hU, hh_155.2.1, hG.step hW hU hh_155.1, hraw_155, hnr_155, hbr_155, jP.nil, (hh_155.2.2.2.2.2.2.2.2.sub (L1 := [(jFy, jYb dC dI G_122)]) [0] rfl), (by omega), (by omega), ⟨(by first | omega | rfl | assumption | exact fun _ => ⟨6, by decide, by decide⟩), (by first | omega | rfl | assumption | exact fun _ => ⟨6, by decide, by decide⟩), (by first | omega | rfl | assumption | exact fun _ => ⟨6, by decide, by decide⟩), (by first | assumption | exact fun _ => ⟨6, by decide, by decide⟩ | omega), (by first | omega | rfl | assumption | exact fun _ => ⟨6, by decide, by decide⟩)⟩⟩⟩ rfl rfl hl.1 rfl (lv_room (Nat.le_of_ble_eq_true rfl)) dX11_init_62 ⟨by rw [hRc]; omega, by rw [hRs]; omega⟩) hh_155.1 (fun q _ h => h) (fun q h => h) (fun u_160 t_160 H_160 locs_160 ht_160 hvm_160 hr_161 hb_160 hz_160 hk_160 hS_160 => ?_)
  obtain ⟨qc_160, qa_160, m_qa_160, G_160⟩ := u_160
  rw [ht_160] at hb_160
  simp only at hb_160
  obtain ⟨⟨hb_1601, hb_1602, hb_1603, hb_1604, hb_1605, hb_1606⟩, hgq_160_0, hN_160, hgc_160, hbX_160, hbE_160⟩ := hb_160
  have hE9_160 := hN_160
  try have hn3_160 : jNk [3] G0 G_160 := (hn3_122).tr (hE9_160.sub (ks1 := [3]) (by decide))
  have hL_160 := hN_160
  have hM_160 := hN_160
  have hW_160 := hN_160
  have hN_160 : (jNk [0, 5, 10, 14, 15, 16, 17]) G_122 G_160 := hN_160.sub (by decide)
  have hh_160 : jSt (dC, dI) B base G0 G_160 EX11_initW s.heap ((((((((((0 + 1) + (1)) + 1) + (1)) + 1) + (8)) + 1) + (1)) + 1) + (1)) ((((((((((0 + 2) + (4000)) + 12) + (3000)) + 12) + (12012)) + 2) + (20000)) + 2) + (1024)) [(H_153.size, 2, 1, .int qc_160), (H_153.size, 2, 0, .ref qa_160), (H_115.size, 2, 1, .int qc_122), (H_115.size, 2, 0, .ref qa_122), (H_35.size, 4, 4, .int qb_42), (H_35.size, 4, 5, .int qp_42), (H_35.size, 4, 6, .int qo_42), (H_35.size, 4, 2, .int qk_42), (H_35.size, 4, 8, .int qg_42), (H_35.size, 4, 9, .int ql_42), (H_35.size, 4, 10, .int qd_42), (H_35.size, 4, 11, .int qv_42), (H_35.size, 4, 7, .int qf_42), (H_35.size, 4, 0, .ref bd_42), (s.heap.size, 2, 1, .int qc_6), (s.heap.size, 2, 0, .ref qa_6)] [(bd_42, 100, m_bd_42, ca 0, gb_42)] [(jFs11, jSef dC dI G_122), (jFl, jLs dC dI ca G_122 0 none wl), (jFdo, jDcc dC dI ca G_122 none ph), (jFcd, jCD dC dI ca G_122 none tq), (jFkd, jKD dC dI ca G_122 none kq), (jFun, jUN dC dI ca G_122 0 us rw), (jFqd, jQD dC dI ca G_122 none qq), (jFib, jIB dC dI ca G_122 0 ib)] H_160 locs_160 := (hh_155.callG hb_1601 hb_1602 hb_1603 hb_1604 hb_1605 hS_160 rfl (L1 := [(H_115.size, 2, 1, .int qc_122), (H_115.size, 2, 0, .ref qa_122), (H_35.size, 4, 4, .int qb_42), (H_35.size, 4, 5, .int qp_42), (H_35.size, 4, 6, .int qo_42), (H_35.size, 4, 2, .int qk_42), (H_35.size, 4, 8, .int qg_42), (H_35.size, 4, 9, .int ql_42), (H_35.size, 4, 10, .int qd_42), (H_35.size, 4, 11, .int qv_42), (H_35.size, 4, 7, .int qf_42), (H_35.size, 4, 0, .ref bd_42), (s.heap.size, 2, 1, .int qc_6), (s.heap.size, 2, 0, .ref qa_6)]) [0, 1, 2, 3, 4, 5, 6, 7, 8, 9, 10, 11, 12, 13] rfl rfl (M1 := [(bd_42, 100, m_bd_42, ca 0, gb_42)]) [0] rfl rfl (I1 := [(jFs11, jSef dC dI G_122), (jFl, jLs dC dI ca G_122 0 none wl), (jFdo, jDcc dC dI ca G_122 none ph), (jFcd, jCD dC dI ca G_122 none tq), (jFkd, jKD dC dI ca G_122 none kq), (jFun, jUN dC dI ca G_122 0 us rw), (jFqd, jQD dC dI ca G_122 none qq), (jFib, jIB dC dI ca G_122 0 ib)]) [1, 2, 3, 4, 5, 6, 7, 8] rfl rfl).more hb_1606
  have hNn_160 : (jNk [0, 5, 10, 14, 15, 16, 17]) G0 G_160 := (hNn_122).tr hN_160
  have hg_162 := hb_1602 _ _ hgq_122_0
  have hg_163 := hb_1602 _ _ hg_124
  have hg_164 := hb_1602 _ _ hg_125
  have hd_165 := jSef.grow (hh_160.iv 0 rfl) hb_1602 hM_160 (by decide)
  have hh_166 := hh_160.sub (L1 := [(H_153.size, 2, 1, .int qc_160), (H_153.size, 2, 0, .ref qa_160), (H_115.size, 2, 1, .int qc_122), (H_115.size, 2, 0, .ref qa_122), (H_35.size, 4, 4, .int qb_42), (H_35.size, 4, 5, .int qp_42), (H_35.size, 4, 6, .int qo_42), (H_35.size, 4, 2, .int qk_42), (H_35.size, 4, 8, .int qg_42), (H_35.size, 4, 9, .int ql_42), (H_35.size, 4, 10, .int qd_42), (H_35.size, 4, 11, .int qv_42), (H_35.size, 4, 7, .int qf_42), (H_35.size, 4, 0, .ref bd_42), (s.heap.size, 2, 1, .int qc_6), (s.heap.size, 2, 0, .ref qa_6)]) [0, 1, 2, 3, 4, 5, 6, 7, 8, 9, 10, 11, 12, 13, 14, 15] rfl (M1 := [(bd_42, 100, m_bd_42, ca 0, gb_42)]) [0] rfl (I1 := [(jFl, jLs dC dI ca G_122 0 none wl), (jFdo, jDcc dC dI ca G_122 none ph), (jFcd, jCD dC dI ca G_122 none tq), (jFkd, jKD dC dI ca G_122 none kq), (jFun, jUN dC dI ca G_122 0 us rw), (jFqd, jQD dC dI ca G_122 none qq), (jFib, jIB dC dI ca G_122 0 ib)]) [1, 2, 3, 4, 5, 6, 7] rfl
  clear hh_160
  have hh_167 := hh_166.addI (jSef.ie hd_165)
  clear hh_166
  have hd_168 := jLs.grow (hh_167.iv 1 rfl) hb_1602 hL_160 (by decide)
  have hh_169 := hh_167.sub (L1 := [(H_153.size, 2, 1, .int qc_160), (H_153.size, 2, 0, .ref qa_160), (H_115.size, 2, 1, .int qc_122), (H_115.size, 2, 0, .ref qa_122), (H_35.size, 4, 4, .int qb_42), (H_35.size, 4, 5, .int qp_42), (H_35.size, 4, 6, .int qo_42), (H_35.size, 4, 2, .int qk_42), (H_35.size, 4, 8, .int qg_42), (H_35.size, 4, 9, .int ql_42), (H_35.size, 4, 10, .int qd_42), (H_35.size, 4, 11, .int qv_42), (H_35.size, 4, 7, .int qf_42), (H_35.size, 4, 0, .ref bd_42), (s.heap.size, 2, 1, .int qc_6), (s.heap.size, 2, 0, .ref qa_6)]) [0, 1, 2, 3, 4, 5, 6, 7, 8, 9, 10, 11, 12, 13, 14, 15] rfl (M1 := [(bd_42, 100, m_bd_42, ca 0, gb_42)]) [0] rfl (I1 := [(jFs11, jSef dC dI G_160), (jFdo, jDcc dC dI ca G_122 none ph), (jFcd, jCD dC dI ca G_122 none tq), (jFkd, jKD dC dI ca G_122 none kq), (jFun, jUN dC dI ca G_122 0 us rw), (jFqd, jQD dC dI ca G_122 none qq), (jFib, jIB dC dI ca G_122 0 ib)]) [0, 2, 3, 4, 5, 6, 7] rfl
  clear hh_167
  have hh_170 := hh_169.addI (jLs.ie hd_168)
  clear hh_169
  have hd_171 := jDcc.grow (hh_170.iv 2 rfl) hb_1602 hE9_160 (by decide)
  have hh_172 := hh_170.sub (L1 := [(H_153.size, 2, 1, .int qc_160), (H_153.size, 2, 0, .ref qa_160), (H_115.size, 2, 1, .int qc_122), (H_115.size, 2, 0, .ref qa_122), (H_35.size, 4, 4, .int qb_42), (H_35.size, 4, 5, .int qp_42), (H_35.size, 4, 6, .int qo_42), (H_35.size, 4, 2, .int qk_42), (H_35.size, 4, 8, .int qg_42), (H_35.size, 4, 9, .int ql_42), (H_35.size, 4, 10, .int qd_42), (H_35.size, 4, 11, .int qv_42), (H_35.size, 4, 7, .int qf_42), (H_35.size, 4, 0, .ref bd_42), (s.heap.size, 2, 1, .int qc_6), (s.heap.size, 2, 0, .ref qa_6)]) [0, 1, 2, 3, 4, 5, 6, 7, 8, 9, 10, 11, 12, 13, 14, 15] rfl (M1 := [(bd_42, 100, m_bd_42, ca 0, gb_42)]) [0] rfl (I1 := [(jFl, jLs dC dI ca G_160 0 none wl), (jFs11, jSef dC dI G_160), (jFcd, jCD dC dI ca G_122 none tq), (jFkd, jKD dC dI ca G_122 none kq), (jFun, jUN dC dI ca G_122 0 us rw), (jFqd, jQD dC dI ca G_122 none qq), (jFib, jIB dC dI ca G_122 0 ib)]) [0, 1, 3, 4, 5, 6, 7] rfl
  clear hh_170
  have hh_173 := hh_172.addI (jDcc.ie hd_171)
  clear hh_172
  have hd_174 := jCD.grow (hh_173.iv 3 rfl) hb_1602 hE9_160 (by decide)
  have hh_175 := hh_173.sub (L1 := [(H_153.size, 2, 1, .int qc_160), (H_153.size, 2, 0, .ref qa_160), (H_115.size, 2, 1, .int qc_122), (H_115.size, 2, 0, .ref qa_122), (H_35.size, 4, 4, .int qb_42), (H_35.size, 4, 5, .int qp_42), (H_35.size, 4, 6, .int qo_42), (H_35.size, 4, 2, .int qk_42), (H_35.size, 4, 8, .int qg_42), (H_35.size, 4, 9, .int ql_42), (H_35.size, 4, 10, .int qd_42), (H_35.size, 4, 11, .int qv_42), (H_35.size, 4, 7, .int qf_42), (H_35.size, 4, 0, .ref bd_42), (s.heap.size, 2, 1, .int qc_6), (s.heap.size, 2, 0, .ref qa_6)]) [0, 1, 2, 3, 4, 5, 6, 7, 8, 9, 10, 11, 12, 13, 14, 15] rfl (M1 := [(bd_42, 100, m_bd_42, ca 0, gb_42)]) [0] rfl (I1 := [(jFdo, jDcc dC dI ca G_160 none ph), (jFl, jLs dC dI ca G_160 0 none wl), (jFs11, jSef dC dI G_160), (jFkd, jKD dC dI ca G_122 none kq), (jFun, jUN dC dI ca G_122 0 us rw), (jFqd, jQD dC dI ca G_122 none qq), (jFib, jIB dC dI ca G_122 0 ib)]) [0, 1, 2, 4, 5, 6, 7] rfl
  clear hh_173
  have hh_176 := hh_175.addI (jCD.ie hd_174)
  clear hh_175
  have hd_177 := jKD.grow (ca := ca) (hh_176.iv 4 rfl) hb_1602 hW_160 (by decide)
  have hh_178 := hh_176.sub (L1 := [(H_153.size, 2, 1, .int qc_160), (H_153.size, 2, 0, .ref qa_160), (H_115.size, 2, 1, .int qc_122), (H_115.size, 2, 0, .ref qa_122), (H_35.size, 4, 4, .int qb_42), (H_35.size, 4, 5, .int qp_42), (H_35.size, 4, 6, .int qo_42), (H_35.size, 4, 2, .int qk_42), (H_35.size, 4, 8, .int qg_42), (H_35.size, 4, 9, .int ql_42), (H_35.size, 4, 10, .int qd_42), (H_35.size, 4, 11, .int qv_42), (H_35.size, 4, 7, .int qf_42), (H_35.size, 4, 0, .ref bd_42), (s.heap.size, 2, 1, .int qc_6), (s.heap.size, 2, 0, .ref qa_6)]) [0, 1, 2, 3, 4, 5, 6, 7, 8, 9, 10, 11, 12, 13, 14, 15] rfl (M1 := [(bd_42, 100, m_bd_42, ca 0, gb_42)]) [0] rfl (I1 := [(jFcd, jCD dC dI ca G_160 none tq), (jFdo, jDcc dC dI ca G_160 none ph), (jFl, jLs dC dI ca G_160 0 none wl), (jFs11, jSef dC dI G_160), (jFun, jUN dC dI ca G_122 0 us rw), (jFqd, jQD dC dI ca G_122 none qq), (jFib, jIB dC dI ca G_122 0 ib)]) [0, 1, 2, 3, 5, 6, 7] rfl
  clear hh_176
  have hh_179 := hh_178.addI (jKD.ie hd_177)
  clear hh_178
  have hd_180 := jUN.grow (r := 0) (hh_179.iv 5 rfl) hb_1602 hW_160 (by decide) (by decide)
  have hh_181 := hh_179.sub (L1 := [(H_153.size, 2, 1, .int qc_160), (H_153.size, 2, 0, .ref qa_160), (H_115.size, 2, 1, .int qc_122), (H_115.size, 2, 0, .ref qa_122), (H_35.size, 4, 4, .int qb_42), (H_35.size, 4, 5, .int qp_42), (H_35.size, 4, 6, .int qo_42), (H_35.size, 4, 2, .int qk_42), (H_35.size, 4, 8, .int qg_42), (H_35.size, 4, 9, .int ql_42), (H_35.size, 4, 10, .int qd_42), (H_35.size, 4, 11, .int qv_42), (H_35.size, 4, 7, .int qf_42), (H_35.size, 4, 0, .ref bd_42), (s.heap.size, 2, 1, .int qc_6), (s.heap.size, 2, 0, .ref qa_6)]) [0, 1, 2, 3, 4, 5, 6, 7, 8, 9, 10, 11, 12, 13, 14, 15] rfl (M1 := [(bd_42, 100, m_bd_42, ca 0, gb_42)]) [0] rfl (I1 := [(jFkd, jKD dC dI ca G_160 none kq), (jFcd, jCD dC dI ca G_160 none tq), (jFdo, jDcc dC dI ca G_160 none ph), (jFl, jLs dC dI ca G_160 0 none wl), (jFs11, jSef dC dI G_160), (jFqd, jQD dC dI ca G_122 none qq), (jFib, jIB dC dI ca G_122 0 ib)]) [0, 1, 2, 3, 4, 6, 7] rfl
  clear hh_179
  have hh_182 := hh_181.addI (jUN.ie hd_180)
  clear hh_181
  have hd_183 := jQD.grow (ca := ca) (hh_182.iv 6 rfl) hb_1602 hW_160 (by decide)
  have hh_184 := hh_182.sub (L1 := [(H_153.size, 2, 1, .int qc_160), (H_153.size, 2, 0, .ref qa_160), (H_115.size, 2, 1, .int qc_122), (H_115.size, 2, 0, .ref qa_122), (H_35.size, 4, 4, .int qb_42), (H_35.size, 4, 5, .int qp_42), (H_35.size, 4, 6, .int qo_42), (H_35.size, 4, 2, .int qk_42), (H_35.size, 4, 8, .int qg_42), (H_35.size, 4, 9, .int ql_42), (H_35.size, 4, 10, .int qd_42), (H_35.size, 4, 11, .int qv_42), (H_35.size, 4, 7, .int qf_42), (H_35.size, 4, 0, .ref bd_42), (s.heap.size, 2, 1, .int qc_6), (s.heap.size, 2, 0, .ref qa_6)]) [0, 1, 2, 3, 4, 5, 6, 7, 8, 9, 10, 11, 12, 13, 14, 15] rfl (M1 := [(bd_42, 100, m_bd_42, ca 0, gb_42)]) [0] rfl (I1 := [(jFun, jUN dC dI ca G_160 0 us rw), (jFkd, jKD dC dI ca G_160 none kq), (jFcd, jCD dC dI ca G_160 none tq), (jFdo, jDcc dC dI ca G_160 none ph), (jFl, jLs dC dI ca G_160 0 none wl), (jFs11, jSef dC dI G_160), (jFib, jIB dC dI ca G_122 0 ib)]) [0, 1, 2, 3, 4, 5, 7] rfl
  clear hh_182
  have hh_185 := hh_184.addI (jQD.ie hd_183)
  clear hh_184
  have hd_186 := jIB.grow (r := 0) (hh_185.iv 7 rfl) hb_1602 hW_160 (by decide)
  have hh_187 := hh_185.sub (L1 := [(H_153.size, 2, 1, .int qc_160), (H_153.size, 2, 0, .ref qa_160), (H_115.size, 2, 1, .int qc_122), (H_115.size, 2, 0, .ref qa_122), (H_35.size, 4, 4, .int qb_42), (H_35.size, 4, 5, .int qp_42), (H_35.size, 4, 6, .int qo_42), (H_35.size, 4, 2, .int qk_42), (H_35.size, 4, 8, .int qg_42), (H_35.size, 4, 9, .int ql_42), (H_35.size, 4, 10, .int qd_42), (H_35.size, 4, 11, .int qv_42), (H_35.size, 4, 7, .int qf_42), (H_35.size, 4, 0, .ref bd_42), (s.heap.size, 2, 1, .int qc_6), (s.heap.size, 2, 0, .ref qa_6)]) [0, 1, 2, 3, 4, 5, 6, 7, 8, 9, 10, 11, 12, 13, 14, 15] rfl (M1 := [(bd_42, 100, m_bd_42, ca 0, gb_42)]) [0] rfl (I1 := [(jFqd, jQD dC dI ca G_160 none qq), (jFun, jUN dC dI ca G_160 0 us rw), (jFkd, jKD dC dI ca G_160 none kq), (jFcd, jCD dC dI ca G_160 none tq), (jFdo, jDcc dC dI ca G_160 none ph), (jFl, jLs dC dI ca G_160 0 none wl), (jFs11, jSef dC dI G_160)]) [0, 1, 2, 3, 4, 5, 6] rfl
  clear hh_185
  have hh_188 := hh_187.addI (jIB.ie hd_186)
  clear hh_187
  have hh_189 := hh_188.addIs hbE_160
  try simp only at hr_161
  obtain ⟨hr_161_0, hr_161_1⟩ := hr_161
  have hkp_190 := hkp_157.in hbX_160 hsy_155
  have hraw_191x := hbX_160.ke hraw_158.lt hne_159 hraw_158n
  clear hne_159
  have hraw_191 := hraw_158.kept hraw_191x.1
  refine j7_putRF hx hb hown hK hh_189 hB hAp hraw_191 hraw_191x.2 hbr0 (C := RX11) (T := TX11) (N := 19) rfl (i := 4) (by decide) (Nat.le_of_ble_eq_true rfl) hly_13_4 rfl hin2 rfl hlk_35 (ty := (.object "ProofServer$Bytes")) (v := .ref H_153.size) (by decide +kernel) rfl rfl dX11_init_65 (fun H_192 locs_192 hraw_192 hr_192 hh_192 => ?_)
  have hraw_192 : va_at (dC, dI) vwCl (r0, .inr (13, [.ref s.heap.size, .ref H_35.size, .ref H_75.size, .ref H_115.size, .ref H_153.size, .null, .null, .null, .null, .null, .null, .int 0, .int 0, .int 0, .int 0, .null, .null, .null, .int 0])) H_192 := hraw_192
  have hkp_193 := hkp_190.put hr_192
  clear hh_189
  refine lv_aload_n hx hb dX11_init_68 rfl (lv_at hl 0 rfl) ?_
  clear hsz_160 htt_160 hrc_160 hrs_160
  (try clear hb_1604); (try clear hb_1605); (try clear hz_160)
  have hsz_194 := hh_192.2.2.2.2.2.1
  have htt_194 := hh_192.2.2.2.2.2.2.1
  refine j7_newo (k := 7) (C := RX5) (T := TX5) (N := 11) (fs := [.null, .null, .null, .null, .null, .null, .null, .null, .null, .null, .int 0]) hx hb htw jWc_wsX50 (fun k => ([(.object "ProofServer$Names"), (.object "ProofServer$Syntax"), (.object "ProofServer$State"), (.array .int), (.array .int), (.array .int), (.array .int), (.array .int), (.array .int), (.array (.object "ProofServer$Goal")), .int] : List FieldType).getD k .int) (by decide +kernel) hown (htw (.classLink RX11 38 RX5) (jWr_2 _ (List.mem_of_getElem? (i := 2) rfl))) (htw (.instantiable RX5 11) (jWr_2 _ (List.mem_of_getElem? (i := 3) rfl))) (htw (.initialized RX5) (jWr_2 _ (List.mem_of_getElem? (i := 4) rfl))) hK rfl (fun j hj => by rcases (by omega : j = 0 ∨ j = 1 ∨ j = 2 ∨ j = 3 ∨ j = 4 ∨ j = 5 ∨ j = 6 ∨ j = 7 ∨ j = 8 ∨ j = 9 ∨ j = 10) with rfl | rfl | rfl | rfl | rfl | rfl | rfl | rfl | rfl | rfl | rfl <;> rfl) hh_192 hB (by rw [hRc]; omega) (by rw [hRs]; omega) dX11_init_69 (fun H_194 hraw_194 hfr_194 hnr_194 hh_194 => ?_)
  have hlt_195 := hraw_192.lt
  have hke_194 : jKe G_160 G_160 H_192 H_194 := jKe.raw hfr_194
  have hbr_194 : base ≤ H_192.size := Nat.le_trans hbs hh_192.1.1
  have hsy_194 : s.heap.size ≤ H_192.size := hh_192.1.1
  clear hh_192
  have hkp_196 := hkp_193.tr hke_194
  have hraw_197n := hke_194.nr hraw_192.lt hraw_191x.2
  have hraw_197 := hraw_192.kept (hke_194.1 _ hraw_192.lt)
  have hne_198 : r0 ≠ H_192.size := Nat.ne_of_lt hlt_195
  refine lv_dup hx hb dX11_init_72 rfl ?_
  clear hsz_194 htt_194
  have hsz_199 := hh_194.2.2.2.2.2.1
  have htt_199 := hh_194.2.2.2.2.2.2.1
  refine W.room (fun hrc_199 hrs_199 => ?_)
  refine va_callv (A0 := jA base) (H0 := s.heap) (va_runIN (As := []) (rest := [.ref H_192.size, .ref r0]) ⟨hx, hb, hml, hown, hts⟩ (uX5_initW l dC dI ca base B hB hAp hB5 hB7 hB8 hB11 hB12 hB101 hB102 hB132 hB133 hB175 hB211 hB214 hB280 hB290 hB291 hB292 hB293 hB313 G_160 H_194 H_192.size us rw LC LS) ⟨va_cnB 0 hts (jgW (jWr_4 _ (List.mem_of_getElem? (i := 6) rfl))) rfl rfl rfl (hG.2.2.1 RX11 40 yX5_init "ProofServer" (List.mem_of_getElem? (i := 154) (by decide +kernel))) (htw (.initialized RX5) (jWr_2 _ (List.mem_of_getElem? (i := 4) rfl))) (by decide +kernel) ⟨by rw [← hR]; exact Nat.le_of_ble_eq_true rfl, by rw [← hR]; exact Nat.le_of_ble_eq_true rfl⟩, rfl, htw (.instanceMethod yX5_init) (jWr_4 _ (List.mem_of_getElem? (i := 5) rfl))⟩ ⟨fun a U g mk q => by obtain ⟨q0, q1, q2, qK, q10, q11, q12, q13, q14, q15, q16, q17, q18⟩ := q; exact ⟨q0, q1, q2, jG.calling g mk a qK, (va_K.moved (Vm.Alike.refl U.vm) q10), (jK5.moved (Vm.Alike.refl U.vm) q11), (jK6.moved (Vm.Alike.refl U.vm) q12), q13, q14, q15, q16, q17, q18⟩, fun U hU hW => ⟨rfl, hU, hh_194.2.1, hG.step hW hU hh_194.1, va_K.moved hW.alike hK2, jK5.moved hW.alike hK5, jK6.moved hW.alike hK6, hraw_194, hnr_194, hbr_194, jP.nil, (hh_194.2.2.2.2.2.2.2.2.sub (L1 := [(jFs11, jSef dC dI G_160), (jFun, jUN dC dI ca G_160 0 us rw)]) [8, 3] rfl), (by omega), (by omega), trivial⟩⟩ rfl rfl hl.1 rfl (lv_room (Nat.le_of_ble_eq_true rfl)) dX11_init_73 ⟨by rw [hRc]; omega, by rw [hRs]; omega⟩) hh_194.1 (fun q _ h => h) (fun q h => h) (fun u_199 t_199 H_199 locs_199 ht_199 hvm_199 hr_200 hb_199 hz_199 hk_199 hS_199 => ?_)
  rw [ht_199] at hb_199
  obtain ⟨st_199, m_st_199, qu_199, qr_199, G_199⟩ := u_199
  simp only at hb_199
  obtain ⟨⟨hb_1991, hb_1992, hb_1993, hb_1994, hb_1995, hb_1996⟩, hgq_199_0, hN_199, hgc_199, hbX_199, hbE_199⟩ := hb_199
  have hE9_199 := hN_199
  try have hn3_199 : jNk [3] G0 G_199 := (hn3_160).tr (hE9_199.sub (ks1 := [3]) (by decide))
  have hL_199 := hN_199
  have hY_199 := hN_199
  have hW_199 := hN_199
  have hN_199 : (jNk [0, 5, 10, 14, 15, 16, 17]) G_160 G_199 := hN_199.sub (by decide)
  have hh_199 : jSt (dC, dI) B base G0 G_199 EX11_initW s.heap ((((((((((((0 + 1) + (1)) + 1) + (1)) + 1) + (8)) + 1) + (1)) + 1) + (1)) + 1) + (24)) ((((((((((((0 + 2) + (4000)) + 12) + (3000)) + 12) + (12012)) + 2) + (20000)) + 2) + (1024)) + 11) + (38990)) [(H_192.size, 7, 2, .ref st_199), (H_153.size, 2, 1, .int qc_160), (H_153.size, 2, 0, .ref qa_160), (H_115.size, 2, 1, .int qc_122), (H_115.size, 2, 0, .ref qa_122), (H_35.size, 4, 4, .int qb_42), (H_35.size, 4, 5, .int qp_42), (H_35.size, 4, 6, .int qo_42), (H_35.size, 4, 2, .int qk_42), (H_35.size, 4, 8, .int qg_42), (H_35.size, 4, 9, .int ql_42), (H_35.size, 4, 10, .int qd_42), (H_35.size, 4, 11, .int qv_42), (H_35.size, 4, 7, .int qf_42), (H_35.size, 4, 0, .ref bd_42), (s.heap.size, 2, 1, .int qc_6), (s.heap.size, 2, 0, .ref qa_6)] [(bd_42, 100, m_bd_42, ca 0, gb_42)] [(jFy, jYb dC dI G_160), (jFib, jIB dC dI ca G_160 0 ib), (jFqd, jQD dC dI ca G_160 none qq), (jFkd, jKD dC dI ca G_160 none kq), (jFcd, jCD dC dI ca G_160 none tq), (jFdo, jDcc dC dI ca G_160 none ph), (jFl, jLs dC dI ca G_160 0 none wl)] H_199 locs_199 := (hh_194.callG hb_1991 hb_1992 hb_1993 hb_1994 hb_1995 hS_199 rfl (L1 := [(H_153.size, 2, 1, .int qc_160), (H_153.size, 2, 0, .ref qa_160), (H_115.size, 2, 1, .int qc_122), (H_115.size, 2, 0, .ref qa_122), (H_35.size, 4, 4, .int qb_42), (H_35.size, 4, 5, .int qp_42), (H_35.size, 4, 6, .int qo_42), (H_35.size, 4, 2, .int qk_42), (H_35.size, 4, 8, .int qg_42), (H_35.size, 4, 9, .int ql_42), (H_35.size, 4, 10, .int qd_42), (H_35.size, 4, 11, .int qv_42), (H_35.size, 4, 7, .int qf_42), (H_35.size, 4, 0, .ref bd_42), (s.heap.size, 2, 1, .int qc_6), (s.heap.size, 2, 0, .ref qa_6)]) [0, 1, 2, 3, 4, 5, 6, 7, 8, 9, 10, 11, 12, 13, 14, 15] rfl rfl (M1 := [(bd_42, 100, m_bd_42, ca 0, gb_42)]) [0] rfl rfl (I1 := [(jFy, jYb dC dI G_160), (jFib, jIB dC dI ca G_160 0 ib), (jFqd, jQD dC dI ca G_160 none qq), (jFkd, jKD dC dI ca G_160 none kq), (jFcd, jCD dC dI ca G_160 none tq), (jFdo, jDcc dC dI ca G_160 none ph), (jFl, jLs dC dI ca G_160 0 none wl)]) [0, 1, 2, 4, 5, 6, 7] rfl rfl).more hb_1996
  have hNn_199 : (jNk [0, 5, 10, 14, 15, 16, 17]) G0 G_199 := (hNn_160).tr hN_199
  have hg_201 := hb_1992 _ _ hgq_160_0
  have hg_202 := hb_1992 _ _ hg_162
  have hg_203 := hb_1992 _ _ hg_163
  have hg_204 := hb_1992 _ _ hg_164
  have hd_205 := jYb.grow (hh_199.iv 0 rfl) hb_1992 hY_199 (by decide)
  have hh_206 := hh_199.sub (L1 := [(H_192.size, 7, 2, .ref st_199), (H_153.size, 2, 1, .int qc_160), (H_153.size, 2, 0, .ref qa_160), (H_115.size, 2, 1, .int qc_122), (H_115.size, 2, 0, .ref qa_122), (H_35.size, 4, 4, .int qb_42), (H_35.size, 4, 5, .int qp_42), (H_35.size, 4, 6, .int qo_42), (H_35.size, 4, 2, .int qk_42), (H_35.size, 4, 8, .int qg_42), (H_35.size, 4, 9, .int ql_42), (H_35.size, 4, 10, .int qd_42), (H_35.size, 4, 11, .int qv_42), (H_35.size, 4, 7, .int qf_42), (H_35.size, 4, 0, .ref bd_42), (s.heap.size, 2, 1, .int qc_6), (s.heap.size, 2, 0, .ref qa_6)]) [0, 1, 2, 3, 4, 5, 6, 7, 8, 9, 10, 11, 12, 13, 14, 15, 16] rfl (M1 := [(bd_42, 100, m_bd_42, ca 0, gb_42)]) [0] rfl (I1 := [(jFib, jIB dC dI ca G_160 0 ib), (jFqd, jQD dC dI ca G_160 none qq), (jFkd, jKD dC dI ca G_160 none kq), (jFcd, jCD dC dI ca G_160 none tq), (jFdo, jDcc dC dI ca G_160 none ph), (jFl, jLs dC dI ca G_160 0 none wl)]) [1, 2, 3, 4, 5, 6] rfl
  clear hh_199
  have hh_207 := hh_206.addI (jYb.ie hd_205)
  clear hh_206
  have hd_208 := jIB.grow (r := 0) (hh_207.iv 1 rfl) hb_1992 hW_199 (by decide)
  have hh_209 := hh_207.sub (L1 := [(H_192.size, 7, 2, .ref st_199), (H_153.size, 2, 1, .int qc_160), (H_153.size, 2, 0, .ref qa_160), (H_115.size, 2, 1, .int qc_122), (H_115.size, 2, 0, .ref qa_122), (H_35.size, 4, 4, .int qb_42), (H_35.size, 4, 5, .int qp_42), (H_35.size, 4, 6, .int qo_42), (H_35.size, 4, 2, .int qk_42), (H_35.size, 4, 8, .int qg_42), (H_35.size, 4, 9, .int ql_42), (H_35.size, 4, 10, .int qd_42), (H_35.size, 4, 11, .int qv_42), (H_35.size, 4, 7, .int qf_42), (H_35.size, 4, 0, .ref bd_42), (s.heap.size, 2, 1, .int qc_6), (s.heap.size, 2, 0, .ref qa_6)]) [0, 1, 2, 3, 4, 5, 6, 7, 8, 9, 10, 11, 12, 13, 14, 15, 16] rfl (M1 := [(bd_42, 100, m_bd_42, ca 0, gb_42)]) [0] rfl (I1 := [(jFy, jYb dC dI G_199), (jFqd, jQD dC dI ca G_160 none qq), (jFkd, jKD dC dI ca G_160 none kq), (jFcd, jCD dC dI ca G_160 none tq), (jFdo, jDcc dC dI ca G_160 none ph), (jFl, jLs dC dI ca G_160 0 none wl)]) [0, 2, 3, 4, 5, 6] rfl
  clear hh_207
  have hh_210 := hh_209.addI (jIB.ie hd_208)
  clear hh_209
  have hd_211 := jQD.grow (ca := ca) (hh_210.iv 2 rfl) hb_1992 hW_199 (by decide)
  have hh_212 := hh_210.sub (L1 := [(H_192.size, 7, 2, .ref st_199), (H_153.size, 2, 1, .int qc_160), (H_153.size, 2, 0, .ref qa_160), (H_115.size, 2, 1, .int qc_122), (H_115.size, 2, 0, .ref qa_122), (H_35.size, 4, 4, .int qb_42), (H_35.size, 4, 5, .int qp_42), (H_35.size, 4, 6, .int qo_42), (H_35.size, 4, 2, .int qk_42), (H_35.size, 4, 8, .int qg_42), (H_35.size, 4, 9, .int ql_42), (H_35.size, 4, 10, .int qd_42), (H_35.size, 4, 11, .int qv_42), (H_35.size, 4, 7, .int qf_42), (H_35.size, 4, 0, .ref bd_42), (s.heap.size, 2, 1, .int qc_6), (s.heap.size, 2, 0, .ref qa_6)]) [0, 1, 2, 3, 4, 5, 6, 7, 8, 9, 10, 11, 12, 13, 14, 15, 16] rfl (M1 := [(bd_42, 100, m_bd_42, ca 0, gb_42)]) [0] rfl (I1 := [(jFib, jIB dC dI ca G_199 0 ib), (jFy, jYb dC dI G_199), (jFkd, jKD dC dI ca G_160 none kq), (jFcd, jCD dC dI ca G_160 none tq), (jFdo, jDcc dC dI ca G_160 none ph), (jFl, jLs dC dI ca G_160 0 none wl)]) [0, 1, 3, 4, 5, 6] rfl
  clear hh_210
  have hh_213 := hh_212.addI (jQD.ie hd_211)
  clear hh_212
  have hd_214 := jKD.grow (ca := ca) (hh_213.iv 3 rfl) hb_1992 hW_199 (by decide)
  have hh_215 := hh_213.sub (L1 := [(H_192.size, 7, 2, .ref st_199), (H_153.size, 2, 1, .int qc_160), (H_153.size, 2, 0, .ref qa_160), (H_115.size, 2, 1, .int qc_122), (H_115.size, 2, 0, .ref qa_122), (H_35.size, 4, 4, .int qb_42), (H_35.size, 4, 5, .int qp_42), (H_35.size, 4, 6, .int qo_42), (H_35.size, 4, 2, .int qk_42), (H_35.size, 4, 8, .int qg_42), (H_35.size, 4, 9, .int ql_42), (H_35.size, 4, 10, .int qd_42), (H_35.size, 4, 11, .int qv_42), (H_35.size, 4, 7, .int qf_42), (H_35.size, 4, 0, .ref bd_42), (s.heap.size, 2, 1, .int qc_6), (s.heap.size, 2, 0, .ref qa_6)]) [0, 1, 2, 3, 4, 5, 6, 7, 8, 9, 10, 11, 12, 13, 14, 15, 16] rfl (M1 := [(bd_42, 100, m_bd_42, ca 0, gb_42)]) [0] rfl (I1 := [(jFqd, jQD dC dI ca G_199 none qq), (jFib, jIB dC dI ca G_199 0 ib), (jFy, jYb dC dI G_199), (jFcd, jCD dC dI ca G_160 none tq), (jFdo, jDcc dC dI ca G_160 none ph), (jFl, jLs dC dI ca G_160 0 none wl)]) [0, 1, 2, 4, 5, 6] rfl
  clear hh_213
  have hh_216 := hh_215.addI (jKD.ie hd_214)
  clear hh_215
  have hd_217 := jCD.grow (hh_216.iv 4 rfl) hb_1992 hE9_199 (by decide)
  have hh_218 := hh_216.sub (L1 := [(H_192.size, 7, 2, .ref st_199), (H_153.size, 2, 1, .int qc_160), (H_153.size, 2, 0, .ref qa_160), (H_115.size, 2, 1, .int qc_122), (H_115.size, 2, 0, .ref qa_122), (H_35.size, 4, 4, .int qb_42), (H_35.size, 4, 5, .int qp_42), (H_35.size, 4, 6, .int qo_42), (H_35.size, 4, 2, .int qk_42), (H_35.size, 4, 8, .int qg_42), (H_35.size, 4, 9, .int ql_42), (H_35.size, 4, 10, .int qd_42), (H_35.size, 4, 11, .int qv_42), (H_35.size, 4, 7, .int qf_42), (H_35.size, 4, 0, .ref bd_42), (s.heap.size, 2, 1, .int qc_6), (s.heap.size, 2, 0, .ref qa_6)]) [0, 1, 2, 3, 4, 5, 6, 7, 8, 9, 10, 11, 12, 13, 14, 15, 16] rfl (M1 := [(bd_42, 100, m_bd_42, ca 0, gb_42)]) [0] rfl (I1 := [(jFkd, jKD dC dI ca G_199 none kq), (jFqd, jQD dC dI ca G_199 none qq), (jFib, jIB dC dI ca G_199 0 ib), (jFy, jYb dC dI G_199), (jFdo, jDcc dC dI ca G_160 none ph), (jFl, jLs dC dI ca G_160 0 none wl)]) [0, 1, 2, 3, 5, 6] rfl
  clear hh_216
  have hh_219 := hh_218.addI (jCD.ie hd_217)
  clear hh_218
  have hd_220 := jDcc.grow (hh_219.iv 5 rfl) hb_1992 hE9_199 (by decide)
  have hh_221 := hh_219.sub (L1 := [(H_192.size, 7, 2, .ref st_199), (H_153.size, 2, 1, .int qc_160), (H_153.size, 2, 0, .ref qa_160), (H_115.size, 2, 1, .int qc_122), (H_115.size, 2, 0, .ref qa_122), (H_35.size, 4, 4, .int qb_42), (H_35.size, 4, 5, .int qp_42), (H_35.size, 4, 6, .int qo_42), (H_35.size, 4, 2, .int qk_42), (H_35.size, 4, 8, .int qg_42), (H_35.size, 4, 9, .int ql_42), (H_35.size, 4, 10, .int qd_42), (H_35.size, 4, 11, .int qv_42), (H_35.size, 4, 7, .int qf_42), (H_35.size, 4, 0, .ref bd_42), (s.heap.size, 2, 1, .int qc_6), (s.heap.size, 2, 0, .ref qa_6)]) [0, 1, 2, 3, 4, 5, 6, 7, 8, 9, 10, 11, 12, 13, 14, 15, 16] rfl (M1 := [(bd_42, 100, m_bd_42, ca 0, gb_42)]) [0] rfl (I1 := [(jFcd, jCD dC dI ca G_199 none tq), (jFkd, jKD dC dI ca G_199 none kq), (jFqd, jQD dC dI ca G_199 none qq), (jFib, jIB dC dI ca G_199 0 ib), (jFy, jYb dC dI G_199), (jFl, jLs dC dI ca G_160 0 none wl)]) [0, 1, 2, 3, 4, 6] rfl
  clear hh_219
  have hh_222 := hh_221.addI (jDcc.ie hd_220)
  clear hh_221
  have hd_223 := jLs.grow (hh_222.iv 6 rfl) hb_1992 hL_199 (by decide)
  have hh_224 := hh_222.sub (L1 := [(H_192.size, 7, 2, .ref st_199), (H_153.size, 2, 1, .int qc_160), (H_153.size, 2, 0, .ref qa_160), (H_115.size, 2, 1, .int qc_122), (H_115.size, 2, 0, .ref qa_122), (H_35.size, 4, 4, .int qb_42), (H_35.size, 4, 5, .int qp_42), (H_35.size, 4, 6, .int qo_42), (H_35.size, 4, 2, .int qk_42), (H_35.size, 4, 8, .int qg_42), (H_35.size, 4, 9, .int ql_42), (H_35.size, 4, 10, .int qd_42), (H_35.size, 4, 11, .int qv_42), (H_35.size, 4, 7, .int qf_42), (H_35.size, 4, 0, .ref bd_42), (s.heap.size, 2, 1, .int qc_6), (s.heap.size, 2, 0, .ref qa_6)]) [0, 1, 2, 3, 4, 5, 6, 7, 8, 9, 10, 11, 12, 13, 14, 15, 16] rfl (M1 := [(bd_42, 100, m_bd_42, ca 0, gb_42)]) [0] rfl (I1 := [(jFdo, jDcc dC dI ca G_199 none ph), (jFcd, jCD dC dI ca G_199 none tq), (jFkd, jKD dC dI ca G_199 none kq), (jFqd, jQD dC dI ca G_199 none qq), (jFib, jIB dC dI ca G_199 0 ib), (jFy, jYb dC dI G_199)]) [0, 1, 2, 3, 4, 5] rfl
  clear hh_222
  have hh_225 := hh_224.addI (jLs.ie hd_223)
  clear hh_224
  have hh_226 := hh_225.addIs hbE_199
  try simp only at hr_200
  obtain ⟨hr_200_0, hr_200_1⟩ := hr_200
  have hkp_227 := hkp_196.in hbX_199 hsy_194
  have hraw_228x := hbX_199.ke hraw_197.lt hne_198 hraw_197n
  clear hne_198
  have hraw_228 := hraw_197.kept hraw_228x.1
  refine j7_putRF hx hb hown hK hh_226 hB hAp hraw_228 hraw_228x.2 hbr0 (C := RX11) (T := TX11) (N := 19) rfl (i := 5) (by decide) (Nat.le_of_ble_eq_true rfl) hly_13_5 rfl hin2 rfl hlk_41 (ty := (.object "ProofServer$Kernel")) (v := .ref H_192.size) (by decide +kernel) rfl rfl dX11_init_76 (fun H_229 locs_229 hraw_229 hr_229 hh_229 => ?_)
  have hraw_229 : va_at (dC, dI) vwCl (r0, .inr (13, [.ref s.heap.size, .ref H_35.size, .ref H_75.size, .ref H_115.size, .ref H_153.size, .ref H_192.size, .null, .null, .null, .null, .null, .int 0, .int 0, .int 0, .int 0, .null, .null, .null, .int 0])) H_229 := hraw_229
  have hkp_230 := hkp_227.put hr_229
  clear hh_226
  refine lv_aload_n hx hb dX11_init_79 rfl (lv_at hl 0 rfl) ?_
  clear hsz_199 htt_199 hrc_199 hrs_199
  (try clear hb_1994); (try clear hb_1995); (try clear hz_199)
  have hsz_231 := hh_229.2.2.2.2.2.1
  have htt_231 := hh_229.2.2.2.2.2.2.1
  refine j7_newo (k := 9) (C := RX7) (T := TX7) (N := 5) (fs := [.null, .null, .int 0, .null, .null]) hx hb htw jWc_wsX70 (fun k => ([(.object "ProofServer$Names"), (.array .int), .int, (.array .int), (.array .int)] : List FieldType).getD k .int) (by decide +kernel) hown (htw (.classLink RX11 45 RX7) (jWr_2 _ (List.mem_of_getElem? (i := 6) rfl))) (htw (.instantiable RX7 5) (jWr_2 _ (List.mem_of_getElem? (i := 7) rfl))) (htw (.initialized RX7) (jWr_2 _ (List.mem_of_getElem? (i := 8) rfl))) hK rfl (fun j hj => by rcases (by omega : j = 0 ∨ j = 1 ∨ j = 2 ∨ j = 3 ∨ j = 4) with rfl | rfl | rfl | rfl | rfl <;> rfl) hh_229 hB (by rw [hRc]; omega) (by rw [hRs]; omega) dX11_init_80 (fun H_231 hraw_231 hfr_231 hnr_231 hh_231 => ?_)
  have hlt_232 := hraw_229.lt
  have hke_231 : jKe G_199 G_199 H_229 H_231 := jKe.raw hfr_231
  have hbr_231 : base ≤ H_229.size := Nat.le_trans hbs hh_229.1.1
  have hsy_231 : s.heap.size ≤ H_229.size := hh_229.1.1
  clear hh_229
  have hkp_233 := hkp_230.tr hke_231
  have hraw_234n := hke_231.nr hraw_229.lt hraw_228x.2
  have hraw_234 := hraw_229.kept (hke_231.1 _ hraw_229.lt)
  have hne_235 : r0 ≠ H_229.size := Nat.ne_of_lt hlt_232
  refine lv_dup hx hb dX11_init_83 rfl ?_
  refine lv_aload_n hx hb dX11_init_84 rfl (lv_at hl 0 rfl) ?_
  refine j7_read hx hb hown hK (C := RX11) (T := TX11) (N := 19) rfl hly_13_5 hlk_41 (jf.raw (C := RX11) (T := TX11) (N := 19) rfl hraw_234 (i := 5) (by decide)) dX11_init_85 ?_
  have hg_236 := (jLe.rf) _ _ hgc_199
  obtain ⟨v_237, hv_237, hh_238⟩ := hh_231.pin (C := RX5) (T := TX5) (N := 11) hB7 rfl (by decide) hg_236 (i := 0) (by decide) rfl
  clear hh_231
  obtain ⟨names_239, rfl, hg_names_239⟩ := hv_237
  refine j7_read hx hb hown hK (C := RX5) (T := TX5) (N := 11) rfl hly_7_0 hlk_47 (hh_238.at 0 rfl) dX11_init_88 ?_
  clear hsz_231 htt_231
  have hsz_240 := hh_238.2.2.2.2.2.1
  have htt_240 := hh_238.2.2.2.2.2.2.1
  refine W.room (fun hrc_240 hrs_240 => ?_)
  refine va_callv (A0 := jA base) (H0 := s.heap) (va_runI (As := [.ref names_239]) (rest := [.ref H_229.size, .ref r0]) ⟨hx, hb, hml, hown, hts⟩ (uX7_init l dC dI ca base B hB hAp hB8 hB9 hB286 hB287 hB288 G_199 H_231 H_229.size names_239 LC LS) (cwI 1 hts (jgW (jWr_9 _ (List.mem_of_getElem? (i := 5) rfl))) rfl rfl rfl (htw (.initialized RX7) (jWr_2 _ (List.mem_of_getElem? (i := 8) rfl))) (htw (.methodLink RX11 51 yX7_init) (jWr_9 _ (List.mem_of_getElem? (i := 3) rfl))) (htw (.instanceMethod yX7_init) (jWr_9 _ (List.mem_of_getElem? (i := 4) rfl))) rfl (by decide +kernel) ⟨by rw [← hR]; exact Nat.le_of_ble_eq_true rfl, by rw [← hR]; exact Nat.le_of_ble_eq_true rfl⟩) ⟨fun a U g mk q => by obtain ⟨q0, q1, q2, qK, q10, q11, q12, q13, q14, q15⟩ := q; exact ⟨q0, q1, q2, jG.calling g mk a qK, q10, q11, q12, q13, q14, q15⟩, fun U hU hW => ⟨rfl, hU, hh_238.2.1, hG.step hW hU hh_238.1, hg_names_239, hraw_231, hnr_231, hbr_231, jP.nil, (by omega), (by omega), trivial⟩⟩ rfl rfl hl.1 rfl (lv_room (Nat.le_of_ble_eq_true rfl)) dX11_init_91 ⟨by rw [hRc]; omega, by rw [hRs]; omega⟩) hh_238.1 (fun q _ h => h) (fun q h => h) (fun u_240 t_240 H_240 locs_240 ht_240 hvm_240 hr_241 hb_240 hz_240 hk_240 hS_240 => ?_)
  rw [ht_240] at hb_240
  obtain ⟨G_240, rfl⟩ : ∃ z, z = u_240 := ⟨_, rfl⟩
  try simp only at hb_240
  obtain ⟨⟨hb_2401, hb_2402, hb_2403, hb_2404, hb_2405, hb_2406⟩, hN_240, hgc_240, hbX_240⟩ := hb_240
  have hE9_240 := hN_240
  try have hn3_240 : jNk [3] G0 G_240 := (hn3_199).tr (hE9_240.sub (ks1 := [3]) (by decide))
  have hL_240 := hN_240
  have hY_240 := hN_240
  have hM_240 := hN_240
  have hW_240 := hN_240
  have hN_240 : (jNk [0, 5, 10, 14, 15, 16, 17]) G_199 G_240 := hN_240.sub (by decide)
  have hh_240 : jSt (dC, dI) B base G0 G_240 EX11_initW s.heap ((((((((((((((0 + 1) + (1)) + 1) + (1)) + 1) + (8)) + 1) + (1)) + 1) + (1)) + 1) + (24)) + 1) + (3)) ((((((((((((((0 + 2) + (4000)) + 12) + (3000)) + 12) + (12012)) + 2) + (20000)) + 2) + (1024)) + 11) + (38990)) + 5) + (826)) [(H_192.size, 7, 0, .ref names_239), (H_192.size, 7, 2, .ref st_199), (H_153.size, 2, 1, .int qc_160), (H_153.size, 2, 0, .ref qa_160), (H_115.size, 2, 1, .int qc_122), (H_115.size, 2, 0, .ref qa_122), (H_35.size, 4, 4, .int qb_42), (H_35.size, 4, 5, .int qp_42), (H_35.size, 4, 6, .int qo_42), (H_35.size, 4, 2, .int qk_42), (H_35.size, 4, 8, .int qg_42), (H_35.size, 4, 9, .int ql_42), (H_35.size, 4, 10, .int qd_42), (H_35.size, 4, 11, .int qv_42), (H_35.size, 4, 7, .int qf_42), (H_35.size, 4, 0, .ref bd_42), (s.heap.size, 2, 1, .int qc_6), (s.heap.size, 2, 0, .ref qa_6)] [(bd_42, 100, m_bd_42, ca 0, gb_42)] [(jFs11, jSef dC dI G_199), (jFun, jUN dC dI ca G_199 0 qu_199 qr_199), (jFl, jLs dC dI ca G_199 0 none wl), (jFdo, jDcc dC dI ca G_199 none ph), (jFcd, jCD dC dI ca G_199 none tq), (jFkd, jKD dC dI ca G_199 none kq), (jFqd, jQD dC dI ca G_199 none qq), (jFib, jIB dC dI ca G_199 0 ib), (jFy, jYb dC dI G_199)] H_240 locs_240 := (hh_238.callG hb_2401 hb_2402 hb_2403 hb_2404 hb_2405 hS_240 rfl (L1 := [(H_192.size, 7, 0, .ref names_239), (H_192.size, 7, 2, .ref st_199), (H_153.size, 2, 1, .int qc_160), (H_153.size, 2, 0, .ref qa_160), (H_115.size, 2, 1, .int qc_122), (H_115.size, 2, 0, .ref qa_122), (H_35.size, 4, 4, .int qb_42), (H_35.size, 4, 5, .int qp_42), (H_35.size, 4, 6, .int qo_42), (H_35.size, 4, 2, .int qk_42), (H_35.size, 4, 8, .int qg_42), (H_35.size, 4, 9, .int ql_42), (H_35.size, 4, 10, .int qd_42), (H_35.size, 4, 11, .int qv_42), (H_35.size, 4, 7, .int qf_42), (H_35.size, 4, 0, .ref bd_42), (s.heap.size, 2, 1, .int qc_6), (s.heap.size, 2, 0, .ref qa_6)]) [0, 1, 2, 3, 4, 5, 6, 7, 8, 9, 10, 11, 12, 13, 14, 15, 16, 17] rfl rfl (M1 := [(bd_42, 100, m_bd_42, ca 0, gb_42)]) [0] rfl rfl (I1 := [(jFs11, jSef dC dI G_199), (jFun, jUN dC dI ca G_199 0 qu_199 qr_199), (jFl, jLs dC dI ca G_199 0 none wl), (jFdo, jDcc dC dI ca G_199 none ph), (jFcd, jCD dC dI ca G_199 none tq), (jFkd, jKD dC dI ca G_199 none kq), (jFqd, jQD dC dI ca G_199 none qq), (jFib, jIB dC dI ca G_199 0 ib), (jFy, jYb dC dI G_199)]) [0, 1, 2, 3, 4, 5, 6, 7, 8] rfl rfl).more hb_2406
  have hNn_240 : (jNk [0, 5, 10, 14, 15, 16, 17]) G0 G_240 := (hNn_199).tr hN_240
  have hg_242 := hb_2402 _ _ hg_names_239
  have hg_243 := hb_2402 _ _ hgq_199_0
  have hg_244 := hb_2402 _ _ hg_201
  have hg_245 := hb_2402 _ _ hg_202
  have hg_246 := hb_2402 _ _ hg_203
  have hg_247 := hb_2402 _ _ hg_204
  have hd_248 := jSef.grow (hh_240.iv 0 rfl) hb_2402 hM_240 (by decide)
  have hh_249 := hh_240.sub (L1 := [(H_192.size, 7, 0, .ref names_239), (H_192.size, 7, 2, .ref st_199), (H_153.size, 2, 1, .int qc_160), (H_153.size, 2, 0, .ref qa_160), (H_115.size, 2, 1, .int qc_122), (H_115.size, 2, 0, .ref qa_122), (H_35.size, 4, 4, .int qb_42), (H_35.size, 4, 5, .int qp_42), (H_35.size, 4, 6, .int qo_42), (H_35.size, 4, 2, .int qk_42), (H_35.size, 4, 8, .int qg_42), (H_35.size, 4, 9, .int ql_42), (H_35.size, 4, 10, .int qd_42), (H_35.size, 4, 11, .int qv_42), (H_35.size, 4, 7, .int qf_42), (H_35.size, 4, 0, .ref bd_42), (s.heap.size, 2, 1, .int qc_6), (s.heap.size, 2, 0, .ref qa_6)]) [0, 1, 2, 3, 4, 5, 6, 7, 8, 9, 10, 11, 12, 13, 14, 15, 16, 17] rfl (M1 := [(bd_42, 100, m_bd_42, ca 0, gb_42)]) [0] rfl (I1 := [(jFun, jUN dC dI ca G_199 0 qu_199 qr_199), (jFl, jLs dC dI ca G_199 0 none wl), (jFdo, jDcc dC dI ca G_199 none ph), (jFcd, jCD dC dI ca G_199 none tq), (jFkd, jKD dC dI ca G_199 none kq), (jFqd, jQD dC dI ca G_199 none qq), (jFib, jIB dC dI ca G_199 0 ib), (jFy, jYb dC dI G_199)]) [1, 2, 3, 4, 5, 6, 7, 8] rfl
  clear hh_240
  have hh_250 := hh_249.addI (jSef.ie hd_248)
  clear hh_249
  have hd_251 := jUN.grow (r := 0) (hh_250.iv 1 rfl) hb_2402 hW_240 (by decide) (by decide)
  have hh_252 := hh_250.sub (L1 := [(H_192.size, 7, 0, .ref names_239), (H_192.size, 7, 2, .ref st_199), (H_153.size, 2, 1, .int qc_160), (H_153.size, 2, 0, .ref qa_160), (H_115.size, 2, 1, .int qc_122), (H_115.size, 2, 0, .ref qa_122), (H_35.size, 4, 4, .int qb_42), (H_35.size, 4, 5, .int qp_42), (H_35.size, 4, 6, .int qo_42), (H_35.size, 4, 2, .int qk_42), (H_35.size, 4, 8, .int qg_42), (H_35.size, 4, 9, .int ql_42), (H_35.size, 4, 10, .int qd_42), (H_35.size, 4, 11, .int qv_42), (H_35.size, 4, 7, .int qf_42), (H_35.size, 4, 0, .ref bd_42), (s.heap.size, 2, 1, .int qc_6), (s.heap.size, 2, 0, .ref qa_6)]) [0, 1, 2, 3, 4, 5, 6, 7, 8, 9, 10, 11, 12, 13, 14, 15, 16, 17] rfl (M1 := [(bd_42, 100, m_bd_42, ca 0, gb_42)]) [0] rfl (I1 := [(jFs11, jSef dC dI G_240), (jFl, jLs dC dI ca G_199 0 none wl), (jFdo, jDcc dC dI ca G_199 none ph), (jFcd, jCD dC dI ca G_199 none tq), (jFkd, jKD dC dI ca G_199 none kq), (jFqd, jQD dC dI ca G_199 none qq), (jFib, jIB dC dI ca G_199 0 ib), (jFy, jYb dC dI G_199)]) [0, 2, 3, 4, 5, 6, 7, 8] rfl
  clear hh_250
  have hh_253 := hh_252.addI (jUN.ie hd_251)
  clear hh_252
  have hd_254 := jLs.grow (hh_253.iv 2 rfl) hb_2402 hL_240 (by decide)
  have hh_255 := hh_253.sub (L1 := [(H_192.size, 7, 0, .ref names_239), (H_192.size, 7, 2, .ref st_199), (H_153.size, 2, 1, .int qc_160), (H_153.size, 2, 0, .ref qa_160), (H_115.size, 2, 1, .int qc_122), (H_115.size, 2, 0, .ref qa_122), (H_35.size, 4, 4, .int qb_42), (H_35.size, 4, 5, .int qp_42), (H_35.size, 4, 6, .int qo_42), (H_35.size, 4, 2, .int qk_42), (H_35.size, 4, 8, .int qg_42), (H_35.size, 4, 9, .int ql_42), (H_35.size, 4, 10, .int qd_42), (H_35.size, 4, 11, .int qv_42), (H_35.size, 4, 7, .int qf_42), (H_35.size, 4, 0, .ref bd_42), (s.heap.size, 2, 1, .int qc_6), (s.heap.size, 2, 0, .ref qa_6)]) [0, 1, 2, 3, 4, 5, 6, 7, 8, 9, 10, 11, 12, 13, 14, 15, 16, 17] rfl (M1 := [(bd_42, 100, m_bd_42, ca 0, gb_42)]) [0] rfl (I1 := [(jFun, jUN dC dI ca G_240 0 qu_199 qr_199), (jFs11, jSef dC dI G_240), (jFdo, jDcc dC dI ca G_199 none ph), (jFcd, jCD dC dI ca G_199 none tq), (jFkd, jKD dC dI ca G_199 none kq), (jFqd, jQD dC dI ca G_199 none qq), (jFib, jIB dC dI ca G_199 0 ib), (jFy, jYb dC dI G_199)]) [0, 1, 3, 4, 5, 6, 7, 8] rfl
  clear hh_253
  have hh_256 := hh_255.addI (jLs.ie hd_254)
  clear hh_255
  have hd_257 := jDcc.grow (hh_256.iv 3 rfl) hb_2402 hE9_240 (by decide)
  have hh_258 := hh_256.sub (L1 := [(H_192.size, 7, 0, .ref names_239), (H_192.size, 7, 2, .ref st_199), (H_153.size, 2, 1, .int qc_160), (H_153.size, 2, 0, .ref qa_160), (H_115.size, 2, 1, .int qc_122), (H_115.size, 2, 0, .ref qa_122), (H_35.size, 4, 4, .int qb_42), (H_35.size, 4, 5, .int qp_42), (H_35.size, 4, 6, .int qo_42), (H_35.size, 4, 2, .int qk_42), (H_35.size, 4, 8, .int qg_42), (H_35.size, 4, 9, .int ql_42), (H_35.size, 4, 10, .int qd_42), (H_35.size, 4, 11, .int qv_42), (H_35.size, 4, 7, .int qf_42), (H_35.size, 4, 0, .ref bd_42), (s.heap.size, 2, 1, .int qc_6), (s.heap.size, 2, 0, .ref qa_6)]) [0, 1, 2, 3, 4, 5, 6, 7, 8, 9, 10, 11, 12, 13, 14, 15, 16, 17] rfl (M1 := [(bd_42, 100, m_bd_42, ca 0, gb_42)]) [0] rfl (I1 := [(jFl, jLs dC dI ca G_240 0 none wl), (jFun, jUN dC dI ca G_240 0 qu_199 qr_199), (jFs11, jSef dC dI G_240), (jFcd, jCD dC dI ca G_199 none tq), (jFkd, jKD dC dI ca G_199 none kq), (jFqd, jQD dC dI ca G_199 none qq), (jFib, jIB dC dI ca G_199 0 ib), (jFy, jYb dC dI G_199)]) [0, 1, 2, 4, 5, 6, 7, 8] rfl
  clear hh_256
  have hh_259 := hh_258.addI (jDcc.ie hd_257)
  clear hh_258
  have hd_260 := jCD.grow (hh_259.iv 4 rfl) hb_2402 hE9_240 (by decide)
  have hh_261 := hh_259.sub (L1 := [(H_192.size, 7, 0, .ref names_239), (H_192.size, 7, 2, .ref st_199), (H_153.size, 2, 1, .int qc_160), (H_153.size, 2, 0, .ref qa_160), (H_115.size, 2, 1, .int qc_122), (H_115.size, 2, 0, .ref qa_122), (H_35.size, 4, 4, .int qb_42), (H_35.size, 4, 5, .int qp_42), (H_35.size, 4, 6, .int qo_42), (H_35.size, 4, 2, .int qk_42), (H_35.size, 4, 8, .int qg_42), (H_35.size, 4, 9, .int ql_42), (H_35.size, 4, 10, .int qd_42), (H_35.size, 4, 11, .int qv_42), (H_35.size, 4, 7, .int qf_42), (H_35.size, 4, 0, .ref bd_42), (s.heap.size, 2, 1, .int qc_6), (s.heap.size, 2, 0, .ref qa_6)]) [0, 1, 2, 3, 4, 5, 6, 7, 8, 9, 10, 11, 12, 13, 14, 15, 16, 17] rfl (M1 := [(bd_42, 100, m_bd_42, ca 0, gb_42)]) [0] rfl (I1 := [(jFdo, jDcc dC dI ca G_240 none ph), (jFl, jLs dC dI ca G_240 0 none wl), (jFun, jUN dC dI ca G_240 0 qu_199 qr_199), (jFs11, jSef dC dI G_240), (jFkd, jKD dC dI ca G_199 none kq), (jFqd, jQD dC dI ca G_199 none qq), (jFib, jIB dC dI ca G_199 0 ib), (jFy, jYb dC dI G_199)]) [0, 1, 2, 3, 5, 6, 7, 8] rfl
  clear hh_259
  have hh_262 := hh_261.addI (jCD.ie hd_260)
  clear hh_261
  have hd_263 := jKD.grow (ca := ca) (hh_262.iv 5 rfl) hb_2402 hW_240 (by decide)
  have hh_264 := hh_262.sub (L1 := [(H_192.size, 7, 0, .ref names_239), (H_192.size, 7, 2, .ref st_199), (H_153.size, 2, 1, .int qc_160), (H_153.size, 2, 0, .ref qa_160), (H_115.size, 2, 1, .int qc_122), (H_115.size, 2, 0, .ref qa_122), (H_35.size, 4, 4, .int qb_42), (H_35.size, 4, 5, .int qp_42), (H_35.size, 4, 6, .int qo_42), (H_35.size, 4, 2, .int qk_42), (H_35.size, 4, 8, .int qg_42), (H_35.size, 4, 9, .int ql_42), (H_35.size, 4, 10, .int qd_42), (H_35.size, 4, 11, .int qv_42), (H_35.size, 4, 7, .int qf_42), (H_35.size, 4, 0, .ref bd_42), (s.heap.size, 2, 1, .int qc_6), (s.heap.size, 2, 0, .ref qa_6)]) [0, 1, 2, 3, 4, 5, 6, 7, 8, 9, 10, 11, 12, 13, 14, 15, 16, 17] rfl (M1 := [(bd_42, 100, m_bd_42, ca 0, gb_42)]) [0] rfl (I1 := [(jFcd, jCD dC dI ca G_240 none tq), (jFdo, jDcc dC dI ca G_240 none ph), (jFl, jLs dC dI ca G_240 0 none wl), (jFun, jUN dC dI ca G_240 0 qu_199 qr_199), (jFs11, jSef dC dI G_240), (jFqd, jQD dC dI ca G_199 none qq), (jFib, jIB dC dI ca G_199 0 ib), (jFy, jYb dC dI G_199)]) [0, 1, 2, 3, 4, 6, 7, 8] rfl
  clear hh_262
  have hh_265 := hh_264.addI (jKD.ie hd_263)
  clear hh_264
  have hd_266 := jQD.grow (ca := ca) (hh_265.iv 6 rfl) hb_2402 hW_240 (by decide)
  have hh_267 := hh_265.sub (L1 := [(H_192.size, 7, 0, .ref names_239), (H_192.size, 7, 2, .ref st_199), (H_153.size, 2, 1, .int qc_160), (H_153.size, 2, 0, .ref qa_160), (H_115.size, 2, 1, .int qc_122), (H_115.size, 2, 0, .ref qa_122), (H_35.size, 4, 4, .int qb_42), (H_35.size, 4, 5, .int qp_42), (H_35.size, 4, 6, .int qo_42), (H_35.size, 4, 2, .int qk_42), (H_35.size, 4, 8, .int qg_42), (H_35.size, 4, 9, .int ql_42), (H_35.size, 4, 10, .int qd_42), (H_35.size, 4, 11, .int qv_42), (H_35.size, 4, 7, .int qf_42), (H_35.size, 4, 0, .ref bd_42), (s.heap.size, 2, 1, .int qc_6), (s.heap.size, 2, 0, .ref qa_6)]) [0, 1, 2, 3, 4, 5, 6, 7, 8, 9, 10, 11, 12, 13, 14, 15, 16, 17] rfl (M1 := [(bd_42, 100, m_bd_42, ca 0, gb_42)]) [0] rfl (I1 := [(jFkd, jKD dC dI ca G_240 none kq), (jFcd, jCD dC dI ca G_240 none tq), (jFdo, jDcc dC dI ca G_240 none ph), (jFl, jLs dC dI ca G_240 0 none wl), (jFun, jUN dC dI ca G_240 0 qu_199 qr_199), (jFs11, jSef dC dI G_240), (jFib, jIB dC dI ca G_199 0 ib), (jFy, jYb dC dI G_199)]) [0, 1, 2, 3, 4, 5, 7, 8] rfl
  clear hh_265
  have hh_268 := hh_267.addI (jQD.ie hd_266)
  clear hh_267
  have hd_269 := jIB.grow (r := 0) (hh_268.iv 7 rfl) hb_2402 hW_240 (by decide)
  have hh_270 := hh_268.sub (L1 := [(H_192.size, 7, 0, .ref names_239), (H_192.size, 7, 2, .ref st_199), (H_153.size, 2, 1, .int qc_160), (H_153.size, 2, 0, .ref qa_160), (H_115.size, 2, 1, .int qc_122), (H_115.size, 2, 0, .ref qa_122), (H_35.size, 4, 4, .int qb_42), (H_35.size, 4, 5, .int qp_42), (H_35.size, 4, 6, .int qo_42), (H_35.size, 4, 2, .int qk_42), (H_35.size, 4, 8, .int qg_42), (H_35.size, 4, 9, .int ql_42), (H_35.size, 4, 10, .int qd_42), (H_35.size, 4, 11, .int qv_42), (H_35.size, 4, 7, .int qf_42), (H_35.size, 4, 0, .ref bd_42), (s.heap.size, 2, 1, .int qc_6), (s.heap.size, 2, 0, .ref qa_6)]) [0, 1, 2, 3, 4, 5, 6, 7, 8, 9, 10, 11, 12, 13, 14, 15, 16, 17] rfl (M1 := [(bd_42, 100, m_bd_42, ca 0, gb_42)]) [0] rfl (I1 := [(jFqd, jQD dC dI ca G_240 none qq), (jFkd, jKD dC dI ca G_240 none kq), (jFcd, jCD dC dI ca G_240 none tq), (jFdo, jDcc dC dI ca G_240 none ph), (jFl, jLs dC dI ca G_240 0 none wl), (jFun, jUN dC dI ca G_240 0 qu_199 qr_199), (jFs11, jSef dC dI G_240), (jFy, jYb dC dI G_199)]) [0, 1, 2, 3, 4, 5, 6, 8] rfl
  clear hh_268
  have hh_271 := hh_270.addI (jIB.ie hd_269)
  clear hh_270
  have hd_272 := jYb.grow (hh_271.iv 8 rfl) hb_2402 hY_240 (by decide)
  have hh_273 := hh_271.sub (L1 := [(H_192.size, 7, 0, .ref names_239), (H_192.size, 7, 2, .ref st_199), (H_153.size, 2, 1, .int qc_160), (H_153.size, 2, 0, .ref qa_160), (H_115.size, 2, 1, .int qc_122), (H_115.size, 2, 0, .ref qa_122), (H_35.size, 4, 4, .int qb_42), (H_35.size, 4, 5, .int qp_42), (H_35.size, 4, 6, .int qo_42), (H_35.size, 4, 2, .int qk_42), (H_35.size, 4, 8, .int qg_42), (H_35.size, 4, 9, .int ql_42), (H_35.size, 4, 10, .int qd_42), (H_35.size, 4, 11, .int qv_42), (H_35.size, 4, 7, .int qf_42), (H_35.size, 4, 0, .ref bd_42), (s.heap.size, 2, 1, .int qc_6), (s.heap.size, 2, 0, .ref qa_6)]) [0, 1, 2, 3, 4, 5, 6, 7, 8, 9, 10, 11, 12, 13, 14, 15, 16, 17] rfl (M1 := [(bd_42, 100, m_bd_42, ca 0, gb_42)]) [0] rfl (I1 := [(jFib, jIB dC dI ca G_240 0 ib), (jFqd, jQD dC dI ca G_240 none qq), (jFkd, jKD dC dI ca G_240 none kq), (jFcd, jCD dC dI ca G_240 none tq), (jFdo, jDcc dC dI ca G_240 none ph), (jFl, jLs dC dI ca G_240 0 none wl), (jFun, jUN dC dI ca G_240 0 qu_199 qr_199), (jFs11, jSef dC dI G_240)]) [0, 1, 2, 3, 4, 5, 6, 7] rfl
  clear hh_271
  have hh_274 := hh_273.addI (jYb.ie hd_272)
  clear hh_273
  try simp only at hr_241
  have hkp_275 := hkp_233.in hbX_240 hsy_231
  have hraw_276x := hbX_240.ke hraw_234.lt hne_235 hraw_234n
  clear hne_235
  have hraw_276 := hraw_234.kept hraw_276x.1
  refine j7_putRF hx hb hown hK hh_274 hB hAp hraw_276 hraw_276x.2 hbr0 (C := RX11) (T := TX11) (N := 19) rfl (i := 6) (by decide) (Nat.le_of_ble_eq_true rfl) hly_13_6 rfl hin2 rfl hlk_54 (ty := (.object "ProofServer$Printer")) (v := .ref H_229.size) (by decide +kernel) rfl rfl dX11_init_94 (fun H_277 locs_277 hraw_277 hr_277 hh_277 => ?_)
  have hraw_277 : va_at (dC, dI) vwCl (r0, .inr (13, [.ref s.heap.size, .ref H_35.size, .ref H_75.size, .ref H_115.size, .ref H_153.size, .ref H_192.size, .ref H_229.size, .null, .null, .null, .null, .int 0, .int 0, .int 0, .int 0, .null, .null, .null, .int 0])) H_277 := hraw_277
  have hkp_278 := hkp_275.put hr_277
  clear hh_274
  refine lv_aload_n hx hb dX11_init_97 rfl (lv_at hl 0 rfl) ?_
  clear hsz_240 htt_240 hrc_240 hrs_240
  (try clear hb_2404); (try clear hb_2405); (try clear hz_240)
  have hsz_279 := hh_277.2.2.2.2.2.1
  have htt_279 := hh_277.2.2.2.2.2.2.1
  refine j7_newo (k := 1) (C := RJx4a65c) (T := TJx4a65c) (N := 3) (fs := [.int 0, .null, .int 0]) hx hb htw jWc_wsJx4a65c0 (fun k => ([.int, (.array (.object "java/lang/Object")), .int] : List FieldType).getD k .int) (by decide +kernel) hown (htw (.classLink RX11 58 RJx4a65c) (jWr_2 _ (List.mem_of_getElem? (i := 11) rfl))) (htw (.instantiable RJx4a65c 3) (jWr_2 _ (List.mem_of_getElem? (i := 12) rfl))) (htw (.initialized RJx4a65c) (jWr_2 _ (List.mem_of_getElem? (i := 13) rfl))) hK rfl (fun j hj => by rcases (by omega : j = 0 ∨ j = 1 ∨ j = 2) with rfl | rfl | rfl <;> rfl) hh_277 hB (by rw [hRc]; omega) (by rw [hRs]; omega) dX11_init_98 (fun H_279 hraw_279 hfr_279 hnr_279 hh_279 => ?_)
  have hlt_280 := hraw_277.lt
  have hke_279 : jKe G_240 G_240 H_277 H_279 := jKe.raw hfr_279
  have hbr_279 : base ≤ H_277.size := Nat.le_trans hbs hh_277.1.1
  have hsy_279 : s.heap.size ≤ H_277.size := hh_277.1.1
  clear hh_277
  have hkp_281 := hkp_278.tr hke_279
  have hraw_282n := hke_279.nr hraw_277.lt hraw_276x.2
  have hraw_282 := hraw_277.kept (hke_279.1 _ hraw_277.lt)
  have hne_283 : r0 ≠ H_277.size := Nat.ne_of_lt hlt_280
  refine lv_dup hx hb dX11_init_101 rfl ?_
  clear hsz_279 htt_279
  have hsz_284 := hh_279.2.2.2.2.2.1
  have htt_284 := hh_279.2.2.2.2.2.2.1
  refine W.room (fun hrc_284 hrs_284 => ?_)
  refine va_callv (A0 := jA base) (H0 := s.heap) (va_runI (As := []) (rest := [.ref H_277.size, .ref r0]) ⟨hx, hb, hml, hown, hts⟩ (uJx4a65c_init_da8c8C1 l dC dI ca base B hB hAp hB1 G_240 H_279 H_277.size wl LC LS) (cwI 0 hts (jgW (jWr_9 _ (List.mem_of_getElem? (i := 13) rfl))) rfl rfl rfl (htw (.initialized RJx4a65c) (jWr_2 _ (List.mem_of_getElem? (i := 13) rfl))) (htw (.methodLink RX11 60 yJx4a65c_init_da8c8) (jWr_9 _ (List.mem_of_getElem? (i := 11) rfl))) (htw (.instanceMethod yJx4a65c_init_da8c8) (jWr_9 _ (List.mem_of_getElem? (i := 12) rfl))) rfl (by decide +kernel) ⟨by rw [← hR]; exact Nat.le_of_ble_eq_true rfl, by rw [← hR]; exact Nat.le_of_ble_eq_true rfl⟩) ⟨fun a U g mk q => by obtain ⟨q0, q1, q2, qK, q10, q11, q12, q13, q14, q15, q16⟩ := q; exact ⟨q0, q1, q2, jG.calling g mk a qK, (jK7.calling g mk a q10), q11, q12, q13, q14, q15, q16⟩, fun U hU hW => ⟨rfl, hU, hh_279.2.1, hG.step hW hU hh_279.1, (hK7.step hW hU hh_279.1), hraw_279, hnr_279, hbr_279, jP.nil, (hh_279.2.2.2.2.2.2.2.2.sub (L1 := [(jFl, jLs dC dI ca G_240 0 none wl)]) [6] rfl), (by omega), (by omega), trivial⟩⟩ rfl rfl hl.1 rfl (lv_room (Nat.le_of_ble_eq_true rfl)) dX11_init_102 ⟨by rw [hRc]; omega, by rw [hRs]; omega⟩) hh_279.1 (fun q _ h => h) (fun q h => h) (fun u_284 t_284 H_284 locs_284 ht_284 hvm_284 hr_285 hb_284 hz_284 hk_284 hS_284 => ?_)
  rw [ht_284] at hb_284
  obtain ⟨G_284, rfl⟩ : ∃ z, z = u_284 := ⟨_, rfl⟩
  try simp only at hb_284
  obtain ⟨⟨hb_2841, hb_2842, hb_2843, hb_2844, hb_2845, hb_2846⟩, hN_284, hgc_284, hbX_284, hbE_284⟩ := hb_284
  have hE9_284 := hN_284
  try have hn3_284 : jNk [3] G0 G_284 := (hn3_240).tr (hE9_284.sub (ks1 := [3]) (by decide))
  have hY_284 := hN_284
  have hM_284 := hN_284
  have hW_284 := hN_284
  have hN_284 : (jNk [0, 5, 10, 14, 15, 16, 17]) G_240 G_284 := hN_284.sub (by decide)
  have hh_284 : jSt (dC, dI) B base G0 G_284 EX11_initW s.heap ((((((((((((((((0 + 1) + (1)) + 1) + (1)) + 1) + (8)) + 1) + (1)) + 1) + (1)) + 1) + (24)) + 1) + (3)) + 1) + (0)) ((((((((((((((((0 + 2) + (4000)) + 12) + (3000)) + 12) + (12012)) + 2) + (20000)) + 2) + (1024)) + 11) + (38990)) + 5) + (826)) + 3) + (0)) [(H_192.size, 7, 0, .ref names_239), (H_192.size, 7, 2, .ref st_199), (H_153.size, 2, 1, .int qc_160), (H_153.size, 2, 0, .ref qa_160), (H_115.size, 2, 1, .int qc_122), (H_115.size, 2, 0, .ref qa_122), (H_35.size, 4, 4, .int qb_42), (H_35.size, 4, 5, .int qp_42), (H_35.size, 4, 6, .int qo_42), (H_35.size, 4, 2, .int qk_42), (H_35.size, 4, 8, .int qg_42), (H_35.size, 4, 9, .int ql_42), (H_35.size, 4, 10, .int qd_42), (H_35.size, 4, 11, .int qv_42), (H_35.size, 4, 7, .int qf_42), (H_35.size, 4, 0, .ref bd_42), (s.heap.size, 2, 1, .int qc_6), (s.heap.size, 2, 0, .ref qa_6)] [(bd_42, 100, m_bd_42, ca 0, gb_42)] [(jFy, jYb dC dI G_240), (jFib, jIB dC dI ca G_240 0 ib), (jFqd, jQD dC dI ca G_240 none qq), (jFkd, jKD dC dI ca G_240 none kq), (jFcd, jCD dC dI ca G_240 none tq), (jFdo, jDcc dC dI ca G_240 none ph), (jFun, jUN dC dI ca G_240 0 qu_199 qr_199), (jFs11, jSef dC dI G_240)] H_284 locs_284 := (hh_279.callG hb_2841 hb_2842 hb_2843 hb_2844 hb_2845 hS_284 rfl (L1 := [(H_192.size, 7, 0, .ref names_239), (H_192.size, 7, 2, .ref st_199), (H_153.size, 2, 1, .int qc_160), (H_153.size, 2, 0, .ref qa_160), (H_115.size, 2, 1, .int qc_122), (H_115.size, 2, 0, .ref qa_122), (H_35.size, 4, 4, .int qb_42), (H_35.size, 4, 5, .int qp_42), (H_35.size, 4, 6, .int qo_42), (H_35.size, 4, 2, .int qk_42), (H_35.size, 4, 8, .int qg_42), (H_35.size, 4, 9, .int ql_42), (H_35.size, 4, 10, .int qd_42), (H_35.size, 4, 11, .int qv_42), (H_35.size, 4, 7, .int qf_42), (H_35.size, 4, 0, .ref bd_42), (s.heap.size, 2, 1, .int qc_6), (s.heap.size, 2, 0, .ref qa_6)]) [0, 1, 2, 3, 4, 5, 6, 7, 8, 9, 10, 11, 12, 13, 14, 15, 16, 17] rfl rfl (M1 := [(bd_42, 100, m_bd_42, ca 0, gb_42)]) [0] rfl rfl (I1 := [(jFy, jYb dC dI G_240), (jFib, jIB dC dI ca G_240 0 ib), (jFqd, jQD dC dI ca G_240 none qq), (jFkd, jKD dC dI ca G_240 none kq), (jFcd, jCD dC dI ca G_240 none tq), (jFdo, jDcc dC dI ca G_240 none ph), (jFun, jUN dC dI ca G_240 0 qu_199 qr_199), (jFs11, jSef dC dI G_240)]) [0, 1, 2, 3, 4, 5, 7, 8] rfl rfl).more hb_2846
  have hNn_284 : (jNk [0, 5, 10, 14, 15, 16, 17]) G0 G_284 := (hNn_240).tr hN_284
  have hg_286 := hb_2842 _ _ hg_242
  have hg_287 := hb_2842 _ _ hg_243
  have hg_288 := hb_2842 _ _ hg_244
  have hg_289 := hb_2842 _ _ hg_245
  have hg_290 := hb_2842 _ _ hg_246
  have hg_291 := hb_2842 _ _ hg_247
  have hd_292 := jYb.grow (hh_284.iv 0 rfl) hb_2842 hY_284 (by decide)
  have hh_293 := hh_284.sub (L1 := [(H_192.size, 7, 0, .ref names_239), (H_192.size, 7, 2, .ref st_199), (H_153.size, 2, 1, .int qc_160), (H_153.size, 2, 0, .ref qa_160), (H_115.size, 2, 1, .int qc_122), (H_115.size, 2, 0, .ref qa_122), (H_35.size, 4, 4, .int qb_42), (H_35.size, 4, 5, .int qp_42), (H_35.size, 4, 6, .int qo_42), (H_35.size, 4, 2, .int qk_42), (H_35.size, 4, 8, .int qg_42), (H_35.size, 4, 9, .int ql_42), (H_35.size, 4, 10, .int qd_42), (H_35.size, 4, 11, .int qv_42), (H_35.size, 4, 7, .int qf_42), (H_35.size, 4, 0, .ref bd_42), (s.heap.size, 2, 1, .int qc_6), (s.heap.size, 2, 0, .ref qa_6)]) [0, 1, 2, 3, 4, 5, 6, 7, 8, 9, 10, 11, 12, 13, 14, 15, 16, 17] rfl (M1 := [(bd_42, 100, m_bd_42, ca 0, gb_42)]) [0] rfl (I1 := [(jFib, jIB dC dI ca G_240 0 ib), (jFqd, jQD dC dI ca G_240 none qq), (jFkd, jKD dC dI ca G_240 none kq), (jFcd, jCD dC dI ca G_240 none tq), (jFdo, jDcc dC dI ca G_240 none ph), (jFun, jUN dC dI ca G_240 0 qu_199 qr_199), (jFs11, jSef dC dI G_240)]) [1, 2, 3, 4, 5, 6, 7] rfl
  clear hh_284
  have hh_294 := hh_293.addI (jYb.ie hd_292)
  clear hh_293
  have hd_295 := jIB.grow (r := 0) (hh_294.iv 1 rfl) hb_2842 hW_284 (by decide)
  have hh_296 := hh_294.sub (L1 := [(H_192.size, 7, 0, .ref names_239), (H_192.size, 7, 2, .ref st_199), (H_153.size, 2, 1, .int qc_160), (H_153.size, 2, 0, .ref qa_160), (H_115.size, 2, 1, .int qc_122), (H_115.size, 2, 0, .ref qa_122), (H_35.size, 4, 4, .int qb_42), (H_35.size, 4, 5, .int qp_42), (H_35.size, 4, 6, .int qo_42), (H_35.size, 4, 2, .int qk_42), (H_35.size, 4, 8, .int qg_42), (H_35.size, 4, 9, .int ql_42), (H_35.size, 4, 10, .int qd_42), (H_35.size, 4, 11, .int qv_42), (H_35.size, 4, 7, .int qf_42), (H_35.size, 4, 0, .ref bd_42), (s.heap.size, 2, 1, .int qc_6), (s.heap.size, 2, 0, .ref qa_6)]) [0, 1, 2, 3, 4, 5, 6, 7, 8, 9, 10, 11, 12, 13, 14, 15, 16, 17] rfl (M1 := [(bd_42, 100, m_bd_42, ca 0, gb_42)]) [0] rfl (I1 := [(jFy, jYb dC dI G_284), (jFqd, jQD dC dI ca G_240 none qq), (jFkd, jKD dC dI ca G_240 none kq), (jFcd, jCD dC dI ca G_240 none tq), (jFdo, jDcc dC dI ca G_240 none ph), (jFun, jUN dC dI ca G_240 0 qu_199 qr_199), (jFs11, jSef dC dI G_240)]) [0, 2, 3, 4, 5, 6, 7] rfl
  clear hh_294
  have hh_297 := hh_296.addI (jIB.ie hd_295)
  clear hh_296
  have hd_298 := jQD.grow (ca := ca) (hh_297.iv 2 rfl) hb_2842 hW_284 (by decide)
  have hh_299 := hh_297.sub (L1 := [(H_192.size, 7, 0, .ref names_239), (H_192.size, 7, 2, .ref st_199), (H_153.size, 2, 1, .int qc_160), (H_153.size, 2, 0, .ref qa_160), (H_115.size, 2, 1, .int qc_122), (H_115.size, 2, 0, .ref qa_122), (H_35.size, 4, 4, .int qb_42), (H_35.size, 4, 5, .int qp_42), (H_35.size, 4, 6, .int qo_42), (H_35.size, 4, 2, .int qk_42), (H_35.size, 4, 8, .int qg_42), (H_35.size, 4, 9, .int ql_42), (H_35.size, 4, 10, .int qd_42), (H_35.size, 4, 11, .int qv_42), (H_35.size, 4, 7, .int qf_42), (H_35.size, 4, 0, .ref bd_42), (s.heap.size, 2, 1, .int qc_6), (s.heap.size, 2, 0, .ref qa_6)]) [0, 1, 2, 3, 4, 5, 6, 7, 8, 9, 10, 11, 12, 13, 14, 15, 16, 17] rfl (M1 := [(bd_42, 100, m_bd_42, ca 0, gb_42)]) [0] rfl (I1 := [(jFib, jIB dC dI ca G_284 0 ib), (jFy, jYb dC dI G_284), (jFkd, jKD dC dI ca G_240 none kq), (jFcd, jCD dC dI ca G_240 none tq), (jFdo, jDcc dC dI ca G_240 none ph), (jFun, jUN dC dI ca G_240 0 qu_199 qr_199), (jFs11, jSef dC dI G_240)]) [0, 1, 3, 4, 5, 6, 7] rfl
  clear hh_297
  have hh_300 := hh_299.addI (jQD.ie hd_298)
  clear hh_299
  have hd_301 := jKD.grow (ca := ca) (hh_300.iv 3 rfl) hb_2842 hW_284 (by decide)
  have hh_302 := hh_300.sub (L1 := [(H_192.size, 7, 0, .ref names_239), (H_192.size, 7, 2, .ref st_199), (H_153.size, 2, 1, .int qc_160), (H_153.size, 2, 0, .ref qa_160), (H_115.size, 2, 1, .int qc_122), (H_115.size, 2, 0, .ref qa_122), (H_35.size, 4, 4, .int qb_42), (H_35.size, 4, 5, .int qp_42), (H_35.size, 4, 6, .int qo_42), (H_35.size, 4, 2, .int qk_42), (H_35.size, 4, 8, .int qg_42), (H_35.size, 4, 9, .int ql_42), (H_35.size, 4, 10, .int qd_42), (H_35.size, 4, 11, .int qv_42), (H_35.size, 4, 7, .int qf_42), (H_35.size, 4, 0, .ref bd_42), (s.heap.size, 2, 1, .int qc_6), (s.heap.size, 2, 0, .ref qa_6)]) [0, 1, 2, 3, 4, 5, 6, 7, 8, 9, 10, 11, 12, 13, 14, 15, 16, 17] rfl (M1 := [(bd_42, 100, m_bd_42, ca 0, gb_42)]) [0] rfl (I1 := [(jFqd, jQD dC dI ca G_284 none qq), (jFib, jIB dC dI ca G_284 0 ib), (jFy, jYb dC dI G_284), (jFcd, jCD dC dI ca G_240 none tq), (jFdo, jDcc dC dI ca G_240 none ph), (jFun, jUN dC dI ca G_240 0 qu_199 qr_199), (jFs11, jSef dC dI G_240)]) [0, 1, 2, 4, 5, 6, 7] rfl
  clear hh_300
  have hh_303 := hh_302.addI (jKD.ie hd_301)
  clear hh_302
  have hd_304 := jCD.grow (hh_303.iv 4 rfl) hb_2842 hE9_284 (by decide)
  have hh_305 := hh_303.sub (L1 := [(H_192.size, 7, 0, .ref names_239), (H_192.size, 7, 2, .ref st_199), (H_153.size, 2, 1, .int qc_160), (H_153.size, 2, 0, .ref qa_160), (H_115.size, 2, 1, .int qc_122), (H_115.size, 2, 0, .ref qa_122), (H_35.size, 4, 4, .int qb_42), (H_35.size, 4, 5, .int qp_42), (H_35.size, 4, 6, .int qo_42), (H_35.size, 4, 2, .int qk_42), (H_35.size, 4, 8, .int qg_42), (H_35.size, 4, 9, .int ql_42), (H_35.size, 4, 10, .int qd_42), (H_35.size, 4, 11, .int qv_42), (H_35.size, 4, 7, .int qf_42), (H_35.size, 4, 0, .ref bd_42), (s.heap.size, 2, 1, .int qc_6), (s.heap.size, 2, 0, .ref qa_6)]) [0, 1, 2, 3, 4, 5, 6, 7, 8, 9, 10, 11, 12, 13, 14, 15, 16, 17] rfl (M1 := [(bd_42, 100, m_bd_42, ca 0, gb_42)]) [0] rfl (I1 := [(jFkd, jKD dC dI ca G_284 none kq), (jFqd, jQD dC dI ca G_284 none qq), (jFib, jIB dC dI ca G_284 0 ib), (jFy, jYb dC dI G_284), (jFdo, jDcc dC dI ca G_240 none ph), (jFun, jUN dC dI ca G_240 0 qu_199 qr_199), (jFs11, jSef dC dI G_240)]) [0, 1, 2, 3, 5, 6, 7] rfl
  clear hh_303
  have hh_306 := hh_305.addI (jCD.ie hd_304)
  clear hh_305
  have hd_307 := jDcc.grow (hh_306.iv 5 rfl) hb_2842 hE9_284 (by decide)
  have hh_308 := hh_306.sub (L1 := [(H_192.size, 7, 0, .ref names_239), (H_192.size, 7, 2, .ref st_199), (H_153.size, 2, 1, .int qc_160), (H_153.size, 2, 0, .ref qa_160), (H_115.size, 2, 1, .int qc_122), (H_115.size, 2, 0, .ref qa_122), (H_35.size, 4, 4, .int qb_42), (H_35.size, 4, 5, .int qp_42), (H_35.size, 4, 6, .int qo_42), (H_35.size, 4, 2, .int qk_42), (H_35.size, 4, 8, .int qg_42), (H_35.size, 4, 9, .int ql_42), (H_35.size, 4, 10, .int qd_42), (H_35.size, 4, 11, .int qv_42), (H_35.size, 4, 7, .int qf_42), (H_35.size, 4, 0, .ref bd_42), (s.heap.size, 2, 1, .int qc_6), (s.heap.size, 2, 0, .ref qa_6)]) [0, 1, 2, 3, 4, 5, 6, 7, 8, 9, 10, 11, 12, 13, 14, 15, 16, 17] rfl (M1 := [(bd_42, 100, m_bd_42, ca 0, gb_42)]) [0] rfl (I1 := [(jFcd, jCD dC dI ca G_284 none tq), (jFkd, jKD dC dI ca G_284 none kq), (jFqd, jQD dC dI ca G_284 none qq), (jFib, jIB dC dI ca G_284 0 ib), (jFy, jYb dC dI G_284), (jFun, jUN dC dI ca G_240 0 qu_199 qr_199), (jFs11, jSef dC dI G_240)]) [0, 1, 2, 3, 4, 6, 7] rfl
  clear hh_306
  have hh_309 := hh_308.addI (jDcc.ie hd_307)
  clear hh_308
  have hd_310 := jUN.grow (r := 0) (hh_309.iv 6 rfl) hb_2842 hW_284 (by decide) (by decide)
  have hh_311 := hh_309.sub (L1 := [(H_192.size, 7, 0, .ref names_239), (H_192.size, 7, 2, .ref st_199), (H_153.size, 2, 1, .int qc_160), (H_153.size, 2, 0, .ref qa_160), (H_115.size, 2, 1, .int qc_122), (H_115.size, 2, 0, .ref qa_122), (H_35.size, 4, 4, .int qb_42), (H_35.size, 4, 5, .int qp_42), (H_35.size, 4, 6, .int qo_42), (H_35.size, 4, 2, .int qk_42), (H_35.size, 4, 8, .int qg_42), (H_35.size, 4, 9, .int ql_42), (H_35.size, 4, 10, .int qd_42), (H_35.size, 4, 11, .int qv_42), (H_35.size, 4, 7, .int qf_42), (H_35.size, 4, 0, .ref bd_42), (s.heap.size, 2, 1, .int qc_6), (s.heap.size, 2, 0, .ref qa_6)]) [0, 1, 2, 3, 4, 5, 6, 7, 8, 9, 10, 11, 12, 13, 14, 15, 16, 17] rfl (M1 := [(bd_42, 100, m_bd_42, ca 0, gb_42)]) [0] rfl (I1 := [(jFdo, jDcc dC dI ca G_284 none ph), (jFcd, jCD dC dI ca G_284 none tq), (jFkd, jKD dC dI ca G_284 none kq), (jFqd, jQD dC dI ca G_284 none qq), (jFib, jIB dC dI ca G_284 0 ib), (jFy, jYb dC dI G_284), (jFs11, jSef dC dI G_240)]) [0, 1, 2, 3, 4, 5, 7] rfl
  clear hh_309
  have hh_312 := hh_311.addI (jUN.ie hd_310)
  clear hh_311
  have hd_313 := jSef.grow (hh_312.iv 7 rfl) hb_2842 hM_284 (by decide)
  have hh_314 := hh_312.sub (L1 := [(H_192.size, 7, 0, .ref names_239), (H_192.size, 7, 2, .ref st_199), (H_153.size, 2, 1, .int qc_160), (H_153.size, 2, 0, .ref qa_160), (H_115.size, 2, 1, .int qc_122), (H_115.size, 2, 0, .ref qa_122), (H_35.size, 4, 4, .int qb_42), (H_35.size, 4, 5, .int qp_42), (H_35.size, 4, 6, .int qo_42), (H_35.size, 4, 2, .int qk_42), (H_35.size, 4, 8, .int qg_42), (H_35.size, 4, 9, .int ql_42), (H_35.size, 4, 10, .int qd_42), (H_35.size, 4, 11, .int qv_42), (H_35.size, 4, 7, .int qf_42), (H_35.size, 4, 0, .ref bd_42), (s.heap.size, 2, 1, .int qc_6), (s.heap.size, 2, 0, .ref qa_6)]) [0, 1, 2, 3, 4, 5, 6, 7, 8, 9, 10, 11, 12, 13, 14, 15, 16, 17] rfl (M1 := [(bd_42, 100, m_bd_42, ca 0, gb_42)]) [0] rfl (I1 := [(jFun, jUN dC dI ca G_284 0 qu_199 qr_199), (jFdo, jDcc dC dI ca G_284 none ph), (jFcd, jCD dC dI ca G_284 none tq), (jFkd, jKD dC dI ca G_284 none kq), (jFqd, jQD dC dI ca G_284 none qq), (jFib, jIB dC dI ca G_284 0 ib), (jFy, jYb dC dI G_284)]) [0, 1, 2, 3, 4, 5, 6] rfl
  clear hh_312
  have hh_315 := hh_314.addI (jSef.ie hd_313)
  clear hh_314
  have hh_316 := hh_315.addIs hbE_284
  try simp only at hr_285
  have hkp_317 := hkp_281.in hbX_284 hsy_279
  have hraw_318x := hbX_284.ke hraw_282.lt hne_283 hraw_282n
  clear hne_283
  have hraw_318 := hraw_282.kept hraw_318x.1
  refine j7_putRF hx hb hown hK hh_316 hB hAp hraw_318 hraw_318x.2 hbr0 (C := RX11) (T := TX11) (N := 19) rfl (i := 7) (by decide) (Nat.le_of_ble_eq_true rfl) hly_13_7 rfl hin2 rfl hlk_61 (ty := (.object "java/util/List")) (v := .ref H_277.size) (by decide +kernel) rfl rfl dX11_init_105 (fun H_319 locs_319 hraw_319 hr_319 hh_319 => ?_)
  have hraw_319 : va_at (dC, dI) vwCl (r0, .inr (13, [.ref s.heap.size, .ref H_35.size, .ref H_75.size, .ref H_115.size, .ref H_153.size, .ref H_192.size, .ref H_229.size, .ref H_277.size, .null, .null, .null, .int 0, .int 0, .int 0, .int 0, .null, .null, .null, .int 0])) H_319 := hraw_319
  have hkp_320 := hkp_317.put hr_319
  clear hh_316
  refine lv_aload_n hx hb dX11_init_108 rfl (lv_at hl 0 rfl) ?_
  clear hsz_284 htt_284 hrc_284 hrs_284
  (try clear hb_2844); (try clear hb_2845); (try clear hz_284)
  have hsz_321 := hh_319.2.2.2.2.2.1
  have htt_321 := hh_319.2.2.2.2.2.2.1
  refine j7_newo (k := 1) (C := RJx4a65c) (T := TJx4a65c) (N := 3) (fs := [.int 0, .null, .int 0]) hx hb htw jWc_wsJx4a65c0 (fun k => ([.int, (.array (.object "java/lang/Object")), .int] : List FieldType).getD k .int) (by decide +kernel) hown (htw (.classLink RX11 58 RJx4a65c) (jWr_2 _ (List.mem_of_getElem? (i := 11) rfl))) (htw (.instantiable RJx4a65c 3) (jWr_2 _ (List.mem_of_getElem? (i := 12) rfl))) (htw (.initialized RJx4a65c) (jWr_2 _ (List.mem_of_getElem? (i := 13) rfl))) hK rfl (fun j hj => by rcases (by omega : j = 0 ∨ j = 1 ∨ j = 2) with rfl | rfl | rfl <;> rfl) hh_319 hB (by rw [hRc]; omega) (by rw [hRs]; omega) dX11_init_109 (fun H_321 hraw_321 hfr_321 hnr_321 hh_321 => ?_)
  have hlt_322 := hraw_319.lt
  have hke_321 : jKe G_284 G_284 H_319 H_321 := jKe.raw hfr_321
  have hbr_321 : base ≤ H_319.size := Nat.le_trans hbs hh_319.1.1
  have hsy_321 : s.heap.size ≤ H_319.size := hh_319.1.1
  clear hh_319
  have hkp_323 := hkp_320.tr hke_321
  have hraw_324n := hke_321.nr hraw_319.lt hraw_318x.2
  have hraw_324 := hraw_319.kept (hke_321.1 _ hraw_319.lt)
  have hne_325 : r0 ≠ H_319.size := Nat.ne_of_lt hlt_322
  refine lv_dup hx hb dX11_init_112 rfl ?_
  clear hsz_321 htt_321
  have hsz_326 := hh_321.2.2.2.2.2.1
  have htt_326 := hh_321.2.2.2.2.2.2.1
  refine W.room (fun hrc_326 hrs_326 => ?_)
  refine va_callv (A0 := jA base) (H0 := s.heap) (va_runI (As := []) (rest := [.ref H_319.size, .ref r0]) ⟨hx, hb, hml, hown, hts⟩ (uJx4a65c_init_da8c8C2 l dC dI ca base B hB hAp hB1 G_284 H_321 H_319.size (wl.s1 0 wl.2.1) LC LS) (cwI 0 hts (jgW (jWr_9 _ (List.mem_of_getElem? (i := 13) rfl))) rfl rfl rfl (htw (.initialized RJx4a65c) (jWr_2 _ (List.mem_of_getElem? (i := 13) rfl))) (htw (.methodLink RX11 60 yJx4a65c_init_da8c8) (jWr_9 _ (List.mem_of_getElem? (i := 11) rfl))) (htw (.instanceMethod yJx4a65c_init_da8c8) (jWr_9 _ (List.mem_of_getElem? (i := 12) rfl))) rfl (by decide +kernel) ⟨by rw [← hR]; exact Nat.le_of_ble_eq_true rfl, by rw [← hR]; exact Nat.le_of_ble_eq_true rfl⟩) ⟨fun a U g mk q => by obtain ⟨q0, q1, q2, qK, q10, q11, q12, q13, q14, q15, q16⟩ := q; exact ⟨q0, q1, q2, jG.calling g mk a qK, (jK7.calling g mk a q10), q11, q12, q13, q14, q15, q16⟩, fun U hU hW => ⟨rfl, hU, hh_321.2.1, hG.step hW hU hh_321.1, (hK7.step hW hU hh_321.1), hraw_321, hnr_321, hbr_321, jP.nil, (hh_321.2.2.2.2.2.2.2.2.sub (L1 := [(jFl, jLs dC dI ca G_284 1 none (wl.s1 0 wl.2.1))]) [0] rfl), (by omega), (by omega), trivial⟩⟩ rfl rfl hl.1 rfl (lv_room (Nat.le_of_ble_eq_true rfl)) dX11_init_113 ⟨by rw [hRc]; omega, by rw [hRs]; omega⟩) hh_321.1 (fun q _ h => h) (fun q h => h) (fun u_326 t_326 H_326 locs_326 ht_326 hvm_326 hr_327 hb_326 hz_326 hk_326 hS_326 => ?_)
  rw [ht_326] at hb_326
  obtain ⟨G_326, rfl⟩ : ∃ z, z = u_326 := ⟨_, rfl⟩
  try simp only at hb_326
  obtain ⟨⟨hb_3261, hb_3262, hb_3263, hb_3264, hb_3265, hb_3266⟩, hN_326, hgc_326, hbX_326, hbE_326⟩ := hb_326
  have hE9_326 := hN_326
  try have hn3_326 : jNk [3] G0 G_326 := (hn3_284).tr (hE9_326.sub (ks1 := [3]) (by decide))
  have hY_326 := hN_326
  have hM_326 := hN_326
  have hW_326 := hN_326
  have hN_326 : (jNk [0, 5, 10, 14, 15, 16, 17]) G_284 G_326 := hN_326.sub (by decide)
  have hh_326 : jSt (dC, dI) B base G0 G_326 EX11_initW s.heap ((((((((((((((((((0 + 1) + (1)) + 1) + (1)) + 1) + (8)) + 1) + (1)) + 1) + (1)) + 1) + (24)) + 1) + (3)) + 1) + (0)) + 1) + (0)) ((((((((((((((((((0 + 2) + (4000)) + 12) + (3000)) + 12) + (12012)) + 2) + (20000)) + 2) + (1024)) + 11) + (38990)) + 5) + (826)) + 3) + (0)) + 3) + (0)) [(H_192.size, 7, 0, .ref names_239), (H_192.size, 7, 2, .ref st_199), (H_153.size, 2, 1, .int qc_160), (H_153.size, 2, 0, .ref qa_160), (H_115.size, 2, 1, .int qc_122), (H_115.size, 2, 0, .ref qa_122), (H_35.size, 4, 4, .int qb_42), (H_35.size, 4, 5, .int qp_42), (H_35.size, 4, 6, .int qo_42), (H_35.size, 4, 2, .int qk_42), (H_35.size, 4, 8, .int qg_42), (H_35.size, 4, 9, .int ql_42), (H_35.size, 4, 10, .int qd_42), (H_35.size, 4, 11, .int qv_42), (H_35.size, 4, 7, .int qf_42), (H_35.size, 4, 0, .ref bd_42), (s.heap.size, 2, 1, .int qc_6), (s.heap.size, 2, 0, .ref qa_6)] [(bd_42, 100, m_bd_42, ca 0, gb_42)] [(jFs11, jSef dC dI G_284), (jFun, jUN dC dI ca G_284 0 qu_199 qr_199), (jFdo, jDcc dC dI ca G_284 none ph), (jFcd, jCD dC dI ca G_284 none tq), (jFkd, jKD dC dI ca G_284 none kq), (jFqd, jQD dC dI ca G_284 none qq), (jFib, jIB dC dI ca G_284 0 ib), (jFy, jYb dC dI G_284)] H_326 locs_326 := (hh_321.callG hb_3261 hb_3262 hb_3263 hb_3264 hb_3265 hS_326 rfl (L1 := [(H_192.size, 7, 0, .ref names_239), (H_192.size, 7, 2, .ref st_199), (H_153.size, 2, 1, .int qc_160), (H_153.size, 2, 0, .ref qa_160), (H_115.size, 2, 1, .int qc_122), (H_115.size, 2, 0, .ref qa_122), (H_35.size, 4, 4, .int qb_42), (H_35.size, 4, 5, .int qp_42), (H_35.size, 4, 6, .int qo_42), (H_35.size, 4, 2, .int qk_42), (H_35.size, 4, 8, .int qg_42), (H_35.size, 4, 9, .int ql_42), (H_35.size, 4, 10, .int qd_42), (H_35.size, 4, 11, .int qv_42), (H_35.size, 4, 7, .int qf_42), (H_35.size, 4, 0, .ref bd_42), (s.heap.size, 2, 1, .int qc_6), (s.heap.size, 2, 0, .ref qa_6)]) [0, 1, 2, 3, 4, 5, 6, 7, 8, 9, 10, 11, 12, 13, 14, 15, 16, 17] rfl rfl (M1 := [(bd_42, 100, m_bd_42, ca 0, gb_42)]) [0] rfl rfl (I1 := [(jFs11, jSef dC dI G_284), (jFun, jUN dC dI ca G_284 0 qu_199 qr_199), (jFdo, jDcc dC dI ca G_284 none ph), (jFcd, jCD dC dI ca G_284 none tq), (jFkd, jKD dC dI ca G_284 none kq), (jFqd, jQD dC dI ca G_284 none qq), (jFib, jIB dC dI ca G_284 0 ib), (jFy, jYb dC dI G_284)]) [1, 2, 3, 4, 5, 6, 7, 8] rfl rfl).more hb_3266
  have hNn_326 : (jNk [0, 5, 10, 14, 15, 16, 17]) G0 G_326 := (hNn_284).tr hN_326
  have hg_328 := hb_3262 _ _ hg_286
  have hg_329 := hb_3262 _ _ hg_287
  have hg_330 := hb_3262 _ _ hg_288
  have hg_331 := hb_3262 _ _ hg_289
  have hg_332 := hb_3262 _ _ hg_290
  have hg_333 := hb_3262 _ _ hg_291
  have hd_334 := jSef.grow (hh_326.iv 0 rfl) hb_3262 hM_326 (by decide)
  have hh_335 := hh_326.sub (L1 := [(H_192.size, 7, 0, .ref names_239), (H_192.size, 7, 2, .ref st_199), (H_153.size, 2, 1, .int qc_160), (H_153.size, 2, 0, .ref qa_160), (H_115.size, 2, 1, .int qc_122), (H_115.size, 2, 0, .ref qa_122), (H_35.size, 4, 4, .int qb_42), (H_35.size, 4, 5, .int qp_42), (H_35.size, 4, 6, .int qo_42), (H_35.size, 4, 2, .int qk_42), (H_35.size, 4, 8, .int qg_42), (H_35.size, 4, 9, .int ql_42), (H_35.size, 4, 10, .int qd_42), (H_35.size, 4, 11, .int qv_42), (H_35.size, 4, 7, .int qf_42), (H_35.size, 4, 0, .ref bd_42), (s.heap.size, 2, 1, .int qc_6), (s.heap.size, 2, 0, .ref qa_6)]) [0, 1, 2, 3, 4, 5, 6, 7, 8, 9, 10, 11, 12, 13, 14, 15, 16, 17] rfl (M1 := [(bd_42, 100, m_bd_42, ca 0, gb_42)]) [0] rfl (I1 := [(jFun, jUN dC dI ca G_284 0 qu_199 qr_199), (jFdo, jDcc dC dI ca G_284 none ph), (jFcd, jCD dC dI ca G_284 none tq), (jFkd, jKD dC dI ca G_284 none kq), (jFqd, jQD dC dI ca G_284 none qq), (jFib, jIB dC dI ca G_284 0 ib), (jFy, jYb dC dI G_284)]) [1, 2, 3, 4, 5, 6, 7] rfl
  clear hh_326
  have hh_336 := hh_335.addI (jSef.ie hd_334)
  clear hh_335
  have hd_337 := jUN.grow (r := 0) (hh_336.iv 1 rfl) hb_3262 hW_326 (by decide) (by decide)
  have hh_338 := hh_336.sub (L1 := [(H_192.size, 7, 0, .ref names_239), (H_192.size, 7, 2, .ref st_199), (H_153.size, 2, 1, .int qc_160), (H_153.size, 2, 0, .ref qa_160), (H_115.size, 2, 1, .int qc_122), (H_115.size, 2, 0, .ref qa_122), (H_35.size, 4, 4, .int qb_42), (H_35.size, 4, 5, .int qp_42), (H_35.size, 4, 6, .int qo_42), (H_35.size, 4, 2, .int qk_42), (H_35.size, 4, 8, .int qg_42), (H_35.size, 4, 9, .int ql_42), (H_35.size, 4, 10, .int qd_42), (H_35.size, 4, 11, .int qv_42), (H_35.size, 4, 7, .int qf_42), (H_35.size, 4, 0, .ref bd_42), (s.heap.size, 2, 1, .int qc_6), (s.heap.size, 2, 0, .ref qa_6)]) [0, 1, 2, 3, 4, 5, 6, 7, 8, 9, 10, 11, 12, 13, 14, 15, 16, 17] rfl (M1 := [(bd_42, 100, m_bd_42, ca 0, gb_42)]) [0] rfl (I1 := [(jFs11, jSef dC dI G_326), (jFdo, jDcc dC dI ca G_284 none ph), (jFcd, jCD dC dI ca G_284 none tq), (jFkd, jKD dC dI ca G_284 none kq), (jFqd, jQD dC dI ca G_284 none qq), (jFib, jIB dC dI ca G_284 0 ib), (jFy, jYb dC dI G_284)]) [0, 2, 3, 4, 5, 6, 7] rfl
  clear hh_336
  have hh_339 := hh_338.addI (jUN.ie hd_337)
  clear hh_338
  have hd_340 := jDcc.grow (hh_339.iv 2 rfl) hb_3262 hE9_326 (by decide)
  have hh_341 := hh_339.sub (L1 := [(H_192.size, 7, 0, .ref names_239), (H_192.size, 7, 2, .ref st_199), (H_153.size, 2, 1, .int qc_160), (H_153.size, 2, 0, .ref qa_160), (H_115.size, 2, 1, .int qc_122), (H_115.size, 2, 0, .ref qa_122), (H_35.size, 4, 4, .int qb_42), (H_35.size, 4, 5, .int qp_42), (H_35.size, 4, 6, .int qo_42), (H_35.size, 4, 2, .int qk_42), (H_35.size, 4, 8, .int qg_42), (H_35.size, 4, 9, .int ql_42), (H_35.size, 4, 10, .int qd_42), (H_35.size, 4, 11, .int qv_42), (H_35.size, 4, 7, .int qf_42), (H_35.size, 4, 0, .ref bd_42), (s.heap.size, 2, 1, .int qc_6), (s.heap.size, 2, 0, .ref qa_6)]) [0, 1, 2, 3, 4, 5, 6, 7, 8, 9, 10, 11, 12, 13, 14, 15, 16, 17] rfl (M1 := [(bd_42, 100, m_bd_42, ca 0, gb_42)]) [0] rfl (I1 := [(jFun, jUN dC dI ca G_326 0 qu_199 qr_199), (jFs11, jSef dC dI G_326), (jFcd, jCD dC dI ca G_284 none tq), (jFkd, jKD dC dI ca G_284 none kq), (jFqd, jQD dC dI ca G_284 none qq), (jFib, jIB dC dI ca G_284 0 ib), (jFy, jYb dC dI G_284)]) [0, 1, 3, 4, 5, 6, 7] rfl
  clear hh_339
  have hh_342 := hh_341.addI (jDcc.ie hd_340)
  clear hh_341
  have hd_343 := jCD.grow (hh_342.iv 3 rfl) hb_3262 hE9_326 (by decide)
  have hh_344 := hh_342.sub (L1 := [(H_192.size, 7, 0, .ref names_239), (H_192.size, 7, 2, .ref st_199), (H_153.size, 2, 1, .int qc_160), (H_153.size, 2, 0, .ref qa_160), (H_115.size, 2, 1, .int qc_122), (H_115.size, 2, 0, .ref qa_122), (H_35.size, 4, 4, .int qb_42), (H_35.size, 4, 5, .int qp_42), (H_35.size, 4, 6, .int qo_42), (H_35.size, 4, 2, .int qk_42), (H_35.size, 4, 8, .int qg_42), (H_35.size, 4, 9, .int ql_42), (H_35.size, 4, 10, .int qd_42), (H_35.size, 4, 11, .int qv_42), (H_35.size, 4, 7, .int qf_42), (H_35.size, 4, 0, .ref bd_42), (s.heap.size, 2, 1, .int qc_6), (s.heap.size, 2, 0, .ref qa_6)]) [0, 1, 2, 3, 4, 5, 6, 7, 8, 9, 10, 11, 12, 13, 14, 15, 16, 17] rfl (M1 := [(bd_42, 100, m_bd_42, ca 0, gb_42)]) [0] rfl (I1 := [(jFdo, jDcc dC dI ca G_326 none ph), (jFun, jUN dC dI ca G_326 0 qu_199 qr_199), (jFs11, jSef dC dI G_326), (jFkd, jKD dC dI ca G_284 none kq), (jFqd, jQD dC dI ca G_284 none qq), (jFib, jIB dC dI ca G_284 0 ib), (jFy, jYb dC dI G_284)]) [0, 1, 2, 4, 5, 6, 7] rfl
  clear hh_342
  have hh_345 := hh_344.addI (jCD.ie hd_343)
  clear hh_344
  have hd_346 := jKD.grow (ca := ca) (hh_345.iv 4 rfl) hb_3262 hW_326 (by decide)
  have hh_347 := hh_345.sub (L1 := [(H_192.size, 7, 0, .ref names_239), (H_192.size, 7, 2, .ref st_199), (H_153.size, 2, 1, .int qc_160), (H_153.size, 2, 0, .ref qa_160), (H_115.size, 2, 1, .int qc_122), (H_115.size, 2, 0, .ref qa_122), (H_35.size, 4, 4, .int qb_42), (H_35.size, 4, 5, .int qp_42), (H_35.size, 4, 6, .int qo_42), (H_35.size, 4, 2, .int qk_42), (H_35.size, 4, 8, .int qg_42), (H_35.size, 4, 9, .int ql_42), (H_35.size, 4, 10, .int qd_42), (H_35.size, 4, 11, .int qv_42), (H_35.size, 4, 7, .int qf_42), (H_35.size, 4, 0, .ref bd_42), (s.heap.size, 2, 1, .int qc_6), (s.heap.size, 2, 0, .ref qa_6)]) [0, 1, 2, 3, 4, 5, 6, 7, 8, 9, 10, 11, 12, 13, 14, 15, 16, 17] rfl (M1 := [(bd_42, 100, m_bd_42, ca 0, gb_42)]) [0] rfl (I1 := [(jFcd, jCD dC dI ca G_326 none tq), (jFdo, jDcc dC dI ca G_326 none ph), (jFun, jUN dC dI ca G_326 0 qu_199 qr_199), (jFs11, jSef dC dI G_326), (jFqd, jQD dC dI ca G_284 none qq), (jFib, jIB dC dI ca G_284 0 ib), (jFy, jYb dC dI G_284)]) [0, 1, 2, 3, 5, 6, 7] rfl
  clear hh_345
  have hh_348 := hh_347.addI (jKD.ie hd_346)
  clear hh_347
  have hd_349 := jQD.grow (ca := ca) (hh_348.iv 5 rfl) hb_3262 hW_326 (by decide)
  have hh_350 := hh_348.sub (L1 := [(H_192.size, 7, 0, .ref names_239), (H_192.size, 7, 2, .ref st_199), (H_153.size, 2, 1, .int qc_160), (H_153.size, 2, 0, .ref qa_160), (H_115.size, 2, 1, .int qc_122), (H_115.size, 2, 0, .ref qa_122), (H_35.size, 4, 4, .int qb_42), (H_35.size, 4, 5, .int qp_42), (H_35.size, 4, 6, .int qo_42), (H_35.size, 4, 2, .int qk_42), (H_35.size, 4, 8, .int qg_42), (H_35.size, 4, 9, .int ql_42), (H_35.size, 4, 10, .int qd_42), (H_35.size, 4, 11, .int qv_42), (H_35.size, 4, 7, .int qf_42), (H_35.size, 4, 0, .ref bd_42), (s.heap.size, 2, 1, .int qc_6), (s.heap.size, 2, 0, .ref qa_6)]) [0, 1, 2, 3, 4, 5, 6, 7, 8, 9, 10, 11, 12, 13, 14, 15, 16, 17] rfl (M1 := [(bd_42, 100, m_bd_42, ca 0, gb_42)]) [0] rfl (I1 := [(jFkd, jKD dC dI ca G_326 none kq), (jFcd, jCD dC dI ca G_326 none tq), (jFdo, jDcc dC dI ca G_326 none ph), (jFun, jUN dC dI ca G_326 0 qu_199 qr_199), (jFs11, jSef dC dI G_326), (jFib, jIB dC dI ca G_284 0 ib), (jFy, jYb dC dI G_284)]) [0, 1, 2, 3, 4, 6, 7] rfl
  clear hh_348
  have hh_351 := hh_350.addI (jQD.ie hd_349)
  clear hh_350
  have hd_352 := jIB.grow (r := 0) (hh_351.iv 6 rfl) hb_3262 hW_326 (by decide)
  have hh_353 := hh_351.sub (L1 := [(H_192.size, 7, 0, .ref names_239), (H_192.size, 7, 2, .ref st_199), (H_153.size, 2, 1, .int qc_160), (H_153.size, 2, 0, .ref qa_160), (H_115.size, 2, 1, .int qc_122), (H_115.size, 2, 0, .ref qa_122), (H_35.size, 4, 4, .int qb_42), (H_35.size, 4, 5, .int qp_42), (H_35.size, 4, 6, .int qo_42), (H_35.size, 4, 2, .int qk_42), (H_35.size, 4, 8, .int qg_42), (H_35.size, 4, 9, .int ql_42), (H_35.size, 4, 10, .int qd_42), (H_35.size, 4, 11, .int qv_42), (H_35.size, 4, 7, .int qf_42), (H_35.size, 4, 0, .ref bd_42), (s.heap.size, 2, 1, .int qc_6), (s.heap.size, 2, 0, .ref qa_6)]) [0, 1, 2, 3, 4, 5, 6, 7, 8, 9, 10, 11, 12, 13, 14, 15, 16, 17] rfl (M1 := [(bd_42, 100, m_bd_42, ca 0, gb_42)]) [0] rfl (I1 := [(jFqd, jQD dC dI ca G_326 none qq), (jFkd, jKD dC dI ca G_326 none kq), (jFcd, jCD dC dI ca G_326 none tq), (jFdo, jDcc dC dI ca G_326 none ph), (jFun, jUN dC dI ca G_326 0 qu_199 qr_199), (jFs11, jSef dC dI G_326), (jFy, jYb dC dI G_284)]) [0, 1, 2, 3, 4, 5, 7] rfl
  clear hh_351
  have hh_354 := hh_353.addI (jIB.ie hd_352)
  clear hh_353
  have hd_355 := jYb.grow (hh_354.iv 7 rfl) hb_3262 hY_326 (by decide)
  have hh_356 := hh_354.sub (L1 := [(H_192.size, 7, 0, .ref names_239), (H_192.size, 7, 2, .ref st_199), (H_153.size, 2, 1, .int qc_160), (H_153.size, 2, 0, .ref qa_160), (H_115.size, 2, 1, .int qc_122), (H_115.size, 2, 0, .ref qa_122), (H_35.size, 4, 4, .int qb_42), (H_35.size, 4, 5, .int qp_42), (H_35.size, 4, 6, .int qo_42), (H_35.size, 4, 2, .int qk_42), (H_35.size, 4, 8, .int qg_42), (H_35.size, 4, 9, .int ql_42), (H_35.size, 4, 10, .int qd_42), (H_35.size, 4, 11, .int qv_42), (H_35.size, 4, 7, .int qf_42), (H_35.size, 4, 0, .ref bd_42), (s.heap.size, 2, 1, .int qc_6), (s.heap.size, 2, 0, .ref qa_6)]) [0, 1, 2, 3, 4, 5, 6, 7, 8, 9, 10, 11, 12, 13, 14, 15, 16, 17] rfl (M1 := [(bd_42, 100, m_bd_42, ca 0, gb_42)]) [0] rfl (I1 := [(jFib, jIB dC dI ca G_326 0 ib), (jFqd, jQD dC dI ca G_326 none qq), (jFkd, jKD dC dI ca G_326 none kq), (jFcd, jCD dC dI ca G_326 none tq), (jFdo, jDcc dC dI ca G_326 none ph), (jFun, jUN dC dI ca G_326 0 qu_199 qr_199), (jFs11, jSef dC dI G_326)]) [0, 1, 2, 3, 4, 5, 6] rfl
  clear hh_354
  have hh_357 := hh_356.addI (jYb.ie hd_355)
  clear hh_356
  have hh_358 := hh_357.addIs hbE_326
  try simp only at hr_327
  have hkp_359 := hkp_323.in hbX_326 hsy_321
  have hraw_360x := hbX_326.ke hraw_324.lt hne_325 hraw_324n
  clear hne_325
  have hraw_360 := hraw_324.kept hraw_360x.1
  refine j7_putRF hx hb hown hK hh_358 hB hAp hraw_360 hraw_360x.2 hbr0 (C := RX11) (T := TX11) (N := 19) rfl (i := 8) (by decide) (Nat.le_of_ble_eq_true rfl) hly_13_8 rfl hin2 rfl hlk_65 (ty := (.object "java/util/List")) (v := .ref H_319.size) (by decide +kernel) rfl rfl dX11_init_116 (fun H_361 locs_361 hraw_361 hr_361 hh_361 => ?_)
  have hraw_361 : va_at (dC, dI) vwCl (r0, .inr (13, [.ref s.heap.size, .ref H_35.size, .ref H_75.size, .ref H_115.size, .ref H_153.size, .ref H_192.size, .ref H_229.size, .ref H_277.size, .ref H_319.size, .null, .null, .int 0, .int 0, .int 0, .int 0, .null, .null, .null, .int 0])) H_361 := hraw_361
  have hkp_362 := hkp_359.put hr_361
  clear hh_358
  refine lv_aload_n hx hb dX11_init_119 rfl (lv_at hl 0 rfl) ?_
  clear hsz_326 htt_326 hrc_326 hrs_326
  (try clear hb_3264); (try clear hb_3265); (try clear hz_326)
  have hsz_363 := hh_361.2.2.2.2.2.1
  have htt_363 := hh_361.2.2.2.2.2.2.1
  refine j7_newo (k := 1) (C := RJx4a65c) (T := TJx4a65c) (N := 3) (fs := [.int 0, .null, .int 0]) hx hb htw jWc_wsJx4a65c0 (fun k => ([.int, (.array (.object "java/lang/Object")), .int] : List FieldType).getD k .int) (by decide +kernel) hown (htw (.classLink RX11 58 RJx4a65c) (jWr_2 _ (List.mem_of_getElem? (i := 11) rfl))) (htw (.instantiable RJx4a65c 3) (jWr_2 _ (List.mem_of_getElem? (i := 12) rfl))) (htw (.initialized RJx4a65c) (jWr_2 _ (List.mem_of_getElem? (i := 13) rfl))) hK rfl (fun j hj => by rcases (by omega : j = 0 ∨ j = 1 ∨ j = 2) with rfl | rfl | rfl <;> rfl) hh_361 hB (by rw [hRc]; omega) (by rw [hRs]; omega) dX11_init_120 (fun H_363 hraw_363 hfr_363 hnr_363 hh_363 => ?_)
  have hlt_364 := hraw_361.lt
  have hke_363 : jKe G_326 G_326 H_361 H_363 := jKe.raw hfr_363
  have hbr_363 : base ≤ H_361.size := Nat.le_trans hbs hh_361.1.1
  have hsy_363 : s.heap.size ≤ H_361.size := hh_361.1.1
  clear hh_361
  have hkp_365 := hkp_362.tr hke_363
  have hraw_366n := hke_363.nr hraw_361.lt hraw_360x.2
  have hraw_366 := hraw_361.kept (hke_363.1 _ hraw_361.lt)
  have hne_367 : r0 ≠ H_361.size := Nat.ne_of_lt hlt_364
  refine lv_dup hx hb dX11_init_123 rfl ?_
  clear hsz_363 htt_363
  have hsz_368 := hh_363.2.2.2.2.2.1
  have htt_368 := hh_363.2.2.2.2.2.2.1
  refine W.room (fun hrc_368 hrs_368 => ?_)
  refine va_callv (A0 := jA base) (H0 := s.heap) (va_runI (As := []) (rest := [.ref H_361.size, .ref r0]) ⟨hx, hb, hml, hown, hts⟩ (uJx4a65c_init_da8c8C3 l dC dI ca base B hB hAp hB1 G_326 H_363 H_361.size ((wl.s1 0 wl.2.1).s2 []) LC LS) (cwI 0 hts (jgW (jWr_9 _ (List.mem_of_getElem? (i := 13) rfl))) rfl rfl rfl (htw (.initialized RJx4a65c) (jWr_2 _ (List.mem_of_getElem? (i := 13) rfl))) (htw (.methodLink RX11 60 yJx4a65c_init_da8c8) (jWr_9 _ (List.mem_of_getElem? (i := 11) rfl))) (htw (.instanceMethod yJx4a65c_init_da8c8) (jWr_9 _ (List.mem_of_getElem? (i := 12) rfl))) rfl (by decide +kernel) ⟨by rw [← hR]; exact Nat.le_of_ble_eq_true rfl, by rw [← hR]; exact Nat.le_of_ble_eq_true rfl⟩) ⟨fun a U g mk q => by obtain ⟨q0, q1, q2, qK, q10, q11, q12, q13, q14, q15, q16⟩ := q; exact ⟨q0, q1, q2, jG.calling g mk a qK, (jK7.calling g mk a q10), q11, q12, q13, q14, q15, q16⟩, fun U hU hW => ⟨rfl, hU, hh_363.2.1, hG.step hW hU hh_363.1, (hK7.step hW hU hh_363.1), hraw_363, hnr_363, hbr_363, jP.nil, (hh_363.2.2.2.2.2.2.2.2.sub (L1 := [(jFl, jLs dC dI ca G_326 2 none ((wl.s1 0 wl.2.1).s2 []))]) [0] rfl), (by omega), (by omega), trivial⟩⟩ rfl rfl hl.1 rfl (lv_room (Nat.le_of_ble_eq_true rfl)) dX11_init_124 ⟨by rw [hRc]; omega, by rw [hRs]; omega⟩) hh_363.1 (fun q _ h => h) (fun q h => h) (fun u_368 t_368 H_368 locs_368 ht_368 hvm_368 hr_369 hb_368 hz_368 hk_368 hS_368 => ?_)
  rw [ht_368] at hb_368
  obtain ⟨G_368, rfl⟩ : ∃ z, z = u_368 := ⟨_, rfl⟩
  try simp only at hb_368
  obtain ⟨⟨hb_3681, hb_3682, hb_3683, hb_3684, hb_3685, hb_3686⟩, hN_368, hgc_368, hbX_368, hbE_368⟩ := hb_368
  have hE9_368 := hN_368
  try have hn3_368 : jNk [3] G0 G_368 := (hn3_326).tr (hE9_368.sub (ks1 := [3]) (by decide))
  have hY_368 := hN_368
  have hM_368 := hN_368
  have hW_368 := hN_368
  have hN_368 : (jNk [0, 5, 10, 14, 15, 16, 17]) G_326 G_368 := hN_368.sub (by decide)
  have hh_368 : jSt (dC, dI) B base G0 G_368 EX11_initW s.heap ((((((((((((((((((((0 + 1) + (1)) + 1) + (1)) + 1) + (8)) + 1) + (1)) + 1) + (1)) + 1) + (24)) + 1) + (3)) + 1) + (0)) + 1) + (0)) + 1) + (0)) ((((((((((((((((((((0 + 2) + (4000)) + 12) + (3000)) + 12) + (12012)) + 2) + (20000)) + 2) + (1024)) + 11) + (38990)) + 5) + (826)) + 3) + (0)) + 3) + (0)) + 3) + (0)) [(H_192.size, 7, 0, .ref names_239), (H_192.size, 7, 2, .ref st_199), (H_153.size, 2, 1, .int qc_160), (H_153.size, 2, 0, .ref qa_160), (H_115.size, 2, 1, .int qc_122), (H_115.size, 2, 0, .ref qa_122), (H_35.size, 4, 4, .int qb_42), (H_35.size, 4, 5, .int qp_42), (H_35.size, 4, 6, .int qo_42), (H_35.size, 4, 2, .int qk_42), (H_35.size, 4, 8, .int qg_42), (H_35.size, 4, 9, .int ql_42), (H_35.size, 4, 10, .int qd_42), (H_35.size, 4, 11, .int qv_42), (H_35.size, 4, 7, .int qf_42), (H_35.size, 4, 0, .ref bd_42), (s.heap.size, 2, 1, .int qc_6), (s.heap.size, 2, 0, .ref qa_6)] [(bd_42, 100, m_bd_42, ca 0, gb_42)] [(jFy, jYb dC dI G_326), (jFib, jIB dC dI ca G_326 0 ib), (jFqd, jQD dC dI ca G_326 none qq), (jFkd, jKD dC dI ca G_326 none kq), (jFcd, jCD dC dI ca G_326 none tq), (jFdo, jDcc dC dI ca G_326 none ph), (jFun, jUN dC dI ca G_326 0 qu_199 qr_199), (jFs11, jSef dC dI G_326)] H_368 locs_368 := (hh_363.callG hb_3681 hb_3682 hb_3683 hb_3684 hb_3685 hS_368 rfl (L1 := [(H_192.size, 7, 0, .ref names_239), (H_192.size, 7, 2, .ref st_199), (H_153.size, 2, 1, .int qc_160), (H_153.size, 2, 0, .ref qa_160), (H_115.size, 2, 1, .int qc_122), (H_115.size, 2, 0, .ref qa_122), (H_35.size, 4, 4, .int qb_42), (H_35.size, 4, 5, .int qp_42), (H_35.size, 4, 6, .int qo_42), (H_35.size, 4, 2, .int qk_42), (H_35.size, 4, 8, .int qg_42), (H_35.size, 4, 9, .int ql_42), (H_35.size, 4, 10, .int qd_42), (H_35.size, 4, 11, .int qv_42), (H_35.size, 4, 7, .int qf_42), (H_35.size, 4, 0, .ref bd_42), (s.heap.size, 2, 1, .int qc_6), (s.heap.size, 2, 0, .ref qa_6)]) [0, 1, 2, 3, 4, 5, 6, 7, 8, 9, 10, 11, 12, 13, 14, 15, 16, 17] rfl rfl (M1 := [(bd_42, 100, m_bd_42, ca 0, gb_42)]) [0] rfl rfl (I1 := [(jFy, jYb dC dI G_326), (jFib, jIB dC dI ca G_326 0 ib), (jFqd, jQD dC dI ca G_326 none qq), (jFkd, jKD dC dI ca G_326 none kq), (jFcd, jCD dC dI ca G_326 none tq), (jFdo, jDcc dC dI ca G_326 none ph), (jFun, jUN dC dI ca G_326 0 qu_199 qr_199), (jFs11, jSef dC dI G_326)]) [1, 2, 3, 4, 5, 6, 7, 8] rfl rfl).more hb_3686
  have hNn_368 : (jNk [0, 5, 10, 14, 15, 16, 17]) G0 G_368 := (hNn_326).tr hN_368
  have hg_370 := hb_3682 _ _ hg_328
  have hg_371 := hb_3682 _ _ hg_329
  have hg_372 := hb_3682 _ _ hg_330
  have hg_373 := hb_3682 _ _ hg_331
  have hg_374 := hb_3682 _ _ hg_332
  have hg_375 := hb_3682 _ _ hg_333
  have hd_376 := jYb.grow (hh_368.iv 0 rfl) hb_3682 hY_368 (by decide)
  have hh_377 := hh_368.sub (L1 := [(H_192.size, 7, 0, .ref names_239), (H_192.size, 7, 2, .ref st_199), (H_153.size, 2, 1, .int qc_160), (H_153.size, 2, 0, .ref qa_160), (H_115.size, 2, 1, .int qc_122), (H_115.size, 2, 0, .ref qa_122), (H_35.size, 4, 4, .int qb_42), (H_35.size, 4, 5, .int qp_42), (H_35.size, 4, 6, .int qo_42), (H_35.size, 4, 2, .int qk_42), (H_35.size, 4, 8, .int qg_42), (H_35.size, 4, 9, .int ql_42), (H_35.size, 4, 10, .int qd_42), (H_35.size, 4, 11, .int qv_42), (H_35.size, 4, 7, .int qf_42), (H_35.size, 4, 0, .ref bd_42), (s.heap.size, 2, 1, .int qc_6), (s.heap.size, 2, 0, .ref qa_6)]) [0, 1, 2, 3, 4, 5, 6, 7, 8, 9, 10, 11, 12, 13, 14, 15, 16, 17] rfl (M1 := [(bd_42, 100, m_bd_42, ca 0, gb_42)]) [0] rfl (I1 := [(jFib, jIB dC dI ca G_326 0 ib), (jFqd, jQD dC dI ca G_326 none qq), (jFkd, jKD dC dI ca G_326 none kq), (jFcd, jCD dC dI ca G_326 none tq), (jFdo, jDcc dC dI ca G_326 none ph), (jFun, jUN dC dI ca G_326 0 qu_199 qr_199), (jFs11, jSef dC dI G_326)]) [1, 2, 3, 4, 5, 6, 7] rfl
  clear hh_368
  have hh_378 := hh_377.addI (jYb.ie hd_376)
  clear hh_377
  have hd_379 := jIB.grow (r := 0) (hh_378.iv 1 rfl) hb_3682 hW_368 (by decide)
  have hh_380 := hh_378.sub (L1 := [(H_192.size, 7, 0, .ref names_239), (H_192.size, 7, 2, .ref st_199), (H_153.size, 2, 1, .int qc_160), (H_153.size, 2, 0, .ref qa_160), (H_115.size, 2, 1, .int qc_122), (H_115.size, 2, 0, .ref qa_122), (H_35.size, 4, 4, .int qb_42), (H_35.size, 4, 5, .int qp_42), (H_35.size, 4, 6, .int qo_42), (H_35.size, 4, 2, .int qk_42), (H_35.size, 4, 8, .int qg_42), (H_35.size, 4, 9, .int ql_42), (H_35.size, 4, 10, .int qd_42), (H_35.size, 4, 11, .int qv_42), (H_35.size, 4, 7, .int qf_42), (H_35.size, 4, 0, .ref bd_42), (s.heap.size, 2, 1, .int qc_6), (s.heap.size, 2, 0, .ref qa_6)]) [0, 1, 2, 3, 4, 5, 6, 7, 8, 9, 10, 11, 12, 13, 14, 15, 16, 17] rfl (M1 := [(bd_42, 100, m_bd_42, ca 0, gb_42)]) [0] rfl (I1 := [(jFy, jYb dC dI G_368), (jFqd, jQD dC dI ca G_326 none qq), (jFkd, jKD dC dI ca G_326 none kq), (jFcd, jCD dC dI ca G_326 none tq), (jFdo, jDcc dC dI ca G_326 none ph), (jFun, jUN dC dI ca G_326 0 qu_199 qr_199), (jFs11, jSef dC dI G_326)]) [0, 2, 3, 4, 5, 6, 7] rfl
  clear hh_378
  have hh_381 := hh_380.addI (jIB.ie hd_379)
  clear hh_380
  have hd_382 := jQD.grow (ca := ca) (hh_381.iv 2 rfl) hb_3682 hW_368 (by decide)
  have hh_383 := hh_381.sub (L1 := [(H_192.size, 7, 0, .ref names_239), (H_192.size, 7, 2, .ref st_199), (H_153.size, 2, 1, .int qc_160), (H_153.size, 2, 0, .ref qa_160), (H_115.size, 2, 1, .int qc_122), (H_115.size, 2, 0, .ref qa_122), (H_35.size, 4, 4, .int qb_42), (H_35.size, 4, 5, .int qp_42), (H_35.size, 4, 6, .int qo_42), (H_35.size, 4, 2, .int qk_42), (H_35.size, 4, 8, .int qg_42), (H_35.size, 4, 9, .int ql_42), (H_35.size, 4, 10, .int qd_42), (H_35.size, 4, 11, .int qv_42), (H_35.size, 4, 7, .int qf_42), (H_35.size, 4, 0, .ref bd_42), (s.heap.size, 2, 1, .int qc_6), (s.heap.size, 2, 0, .ref qa_6)]) [0, 1, 2, 3, 4, 5, 6, 7, 8, 9, 10, 11, 12, 13, 14, 15, 16, 17] rfl (M1 := [(bd_42, 100, m_bd_42, ca 0, gb_42)]) [0] rfl (I1 := [(jFib, jIB dC dI ca G_368 0 ib), (jFy, jYb dC dI G_368), (jFkd, jKD dC dI ca G_326 none kq), (jFcd, jCD dC dI ca G_326 none tq), (jFdo, jDcc dC dI ca G_326 none ph), (jFun, jUN dC dI ca G_326 0 qu_199 qr_199), (jFs11, jSef dC dI G_326)]) [0, 1, 3, 4, 5, 6, 7] rfl
  clear hh_381
  have hh_384 := hh_383.addI (jQD.ie hd_382)
  clear hh_383
  have hd_385 := jKD.grow (ca := ca) (hh_384.iv 3 rfl) hb_3682 hW_368 (by decide)
  have hh_386 := hh_384.sub (L1 := [(H_192.size, 7, 0, .ref names_239), (H_192.size, 7, 2, .ref st_199), (H_153.size, 2, 1, .int qc_160), (H_153.size, 2, 0, .ref qa_160), (H_115.size, 2, 1, .int qc_122), (H_115.size, 2, 0, .ref qa_122), (H_35.size, 4, 4, .int qb_42), (H_35.size, 4, 5, .int qp_42), (H_35.size, 4, 6, .int qo_42), (H_35.size, 4, 2, .int qk_42), (H_35.size, 4, 8, .int qg_42), (H_35.size, 4, 9, .int ql_42), (H_35.size, 4, 10, .int qd_42), (H_35.size, 4, 11, .int qv_42), (H_35.size, 4, 7, .int qf_42), (H_35.size, 4, 0, .ref bd_42), (s.heap.size, 2, 1, .int qc_6), (s.heap.size, 2, 0, .ref qa_6)]) [0, 1, 2, 3, 4, 5, 6, 7, 8, 9, 10, 11, 12, 13, 14, 15, 16, 17] rfl (M1 := [(bd_42, 100, m_bd_42, ca 0, gb_42)]) [0] rfl (I1 := [(jFqd, jQD dC dI ca G_368 none qq), (jFib, jIB dC dI ca G_368 0 ib), (jFy, jYb dC dI G_368), (jFcd, jCD dC dI ca G_326 none tq), (jFdo, jDcc dC dI ca G_326 none ph), (jFun, jUN dC dI ca G_326 0 qu_199 qr_199), (jFs11, jSef dC dI G_326)]) [0, 1, 2, 4, 5, 6, 7] rfl
  clear hh_384
  have hh_387 := hh_386.addI (jKD.ie hd_385)
  clear hh_386
  have hd_388 := jCD.grow (hh_387.iv 4 rfl) hb_3682 hE9_368 (by decide)
  have hh_389 := hh_387.sub (L1 := [(H_192.size, 7, 0, .ref names_239), (H_192.size, 7, 2, .ref st_199), (H_153.size, 2, 1, .int qc_160), (H_153.size, 2, 0, .ref qa_160), (H_115.size, 2, 1, .int qc_122), (H_115.size, 2, 0, .ref qa_122), (H_35.size, 4, 4, .int qb_42), (H_35.size, 4, 5, .int qp_42), (H_35.size, 4, 6, .int qo_42), (H_35.size, 4, 2, .int qk_42), (H_35.size, 4, 8, .int qg_42), (H_35.size, 4, 9, .int ql_42), (H_35.size, 4, 10, .int qd_42), (H_35.size, 4, 11, .int qv_42), (H_35.size, 4, 7, .int qf_42), (H_35.size, 4, 0, .ref bd_42), (s.heap.size, 2, 1, .int qc_6), (s.heap.size, 2, 0, .ref qa_6)]) [0, 1, 2, 3, 4, 5, 6, 7, 8, 9, 10, 11, 12, 13, 14, 15, 16, 17] rfl (M1 := [(bd_42, 100, m_bd_42, ca 0, gb_42)]) [0] rfl (I1 := [(jFkd, jKD dC dI ca G_368 none kq), (jFqd, jQD dC dI ca G_368 none qq), (jFib, jIB dC dI ca G_368 0 ib), (jFy, jYb dC dI G_368), (jFdo, jDcc dC dI ca G_326 none ph), (jFun, jUN dC dI ca G_326 0 qu_199 qr_199), (jFs11, jSef dC dI G_326)]) [0, 1, 2, 3, 5, 6, 7] rfl
  clear hh_387
  have hh_390 := hh_389.addI (jCD.ie hd_388)
  clear hh_389
  have hd_391 := jDcc.grow (hh_390.iv 5 rfl) hb_3682 hE9_368 (by decide)
  have hh_392 := hh_390.sub (L1 := [(H_192.size, 7, 0, .ref names_239), (H_192.size, 7, 2, .ref st_199), (H_153.size, 2, 1, .int qc_160), (H_153.size, 2, 0, .ref qa_160), (H_115.size, 2, 1, .int qc_122), (H_115.size, 2, 0, .ref qa_122), (H_35.size, 4, 4, .int qb_42), (H_35.size, 4, 5, .int qp_42), (H_35.size, 4, 6, .int qo_42), (H_35.size, 4, 2, .int qk_42), (H_35.size, 4, 8, .int qg_42), (H_35.size, 4, 9, .int ql_42), (H_35.size, 4, 10, .int qd_42), (H_35.size, 4, 11, .int qv_42), (H_35.size, 4, 7, .int qf_42), (H_35.size, 4, 0, .ref bd_42), (s.heap.size, 2, 1, .int qc_6), (s.heap.size, 2, 0, .ref qa_6)]) [0, 1, 2, 3, 4, 5, 6, 7, 8, 9, 10, 11, 12, 13, 14, 15, 16, 17] rfl (M1 := [(bd_42, 100, m_bd_42, ca 0, gb_42)]) [0] rfl (I1 := [(jFcd, jCD dC dI ca G_368 none tq), (jFkd, jKD dC dI ca G_368 none kq), (jFqd, jQD dC dI ca G_368 none qq), (jFib, jIB dC dI ca G_368 0 ib), (jFy, jYb dC dI G_368), (jFun, jUN dC dI ca G_326 0 qu_199 qr_199), (jFs11, jSef dC dI G_326)]) [0, 1, 2, 3, 4, 6, 7] rfl
  clear hh_390
  have hh_393 := hh_392.addI (jDcc.ie hd_391)
  clear hh_392
  have hd_394 := jUN.grow (r := 0) (hh_393.iv 6 rfl) hb_3682 hW_368 (by decide) (by decide)
  have hh_395 := hh_393.sub (L1 := [(H_192.size, 7, 0, .ref names_239), (H_192.size, 7, 2, .ref st_199), (H_153.size, 2, 1, .int qc_160), (H_153.size, 2, 0, .ref qa_160), (H_115.size, 2, 1, .int qc_122), (H_115.size, 2, 0, .ref qa_122), (H_35.size, 4, 4, .int qb_42), (H_35.size, 4, 5, .int qp_42), (H_35.size, 4, 6, .int qo_42), (H_35.size, 4, 2, .int qk_42), (H_35.size, 4, 8, .int qg_42), (H_35.size, 4, 9, .int ql_42), (H_35.size, 4, 10, .int qd_42), (H_35.size, 4, 11, .int qv_42), (H_35.size, 4, 7, .int qf_42), (H_35.size, 4, 0, .ref bd_42), (s.heap.size, 2, 1, .int qc_6), (s.heap.size, 2, 0, .ref qa_6)]) [0, 1, 2, 3, 4, 5, 6, 7, 8, 9, 10, 11, 12, 13, 14, 15, 16, 17] rfl (M1 := [(bd_42, 100, m_bd_42, ca 0, gb_42)]) [0] rfl (I1 := [(jFdo, jDcc dC dI ca G_368 none ph), (jFcd, jCD dC dI ca G_368 none tq), (jFkd, jKD dC dI ca G_368 none kq), (jFqd, jQD dC dI ca G_368 none qq), (jFib, jIB dC dI ca G_368 0 ib), (jFy, jYb dC dI G_368), (jFs11, jSef dC dI G_326)]) [0, 1, 2, 3, 4, 5, 7] rfl
  clear hh_393
  have hh_396 := hh_395.addI (jUN.ie hd_394)
  clear hh_395
  have hd_397 := jSef.grow (hh_396.iv 7 rfl) hb_3682 hM_368 (by decide)
  have hh_398 := hh_396.sub (L1 := [(H_192.size, 7, 0, .ref names_239), (H_192.size, 7, 2, .ref st_199), (H_153.size, 2, 1, .int qc_160), (H_153.size, 2, 0, .ref qa_160), (H_115.size, 2, 1, .int qc_122), (H_115.size, 2, 0, .ref qa_122), (H_35.size, 4, 4, .int qb_42), (H_35.size, 4, 5, .int qp_42), (H_35.size, 4, 6, .int qo_42), (H_35.size, 4, 2, .int qk_42), (H_35.size, 4, 8, .int qg_42), (H_35.size, 4, 9, .int ql_42), (H_35.size, 4, 10, .int qd_42), (H_35.size, 4, 11, .int qv_42), (H_35.size, 4, 7, .int qf_42), (H_35.size, 4, 0, .ref bd_42), (s.heap.size, 2, 1, .int qc_6), (s.heap.size, 2, 0, .ref qa_6)]) [0, 1, 2, 3, 4, 5, 6, 7, 8, 9, 10, 11, 12, 13, 14, 15, 16, 17] rfl (M1 := [(bd_42, 100, m_bd_42, ca 0, gb_42)]) [0] rfl (I1 := [(jFun, jUN dC dI ca G_368 0 qu_199 qr_199), (jFdo, jDcc dC dI ca G_368 none ph), (jFcd, jCD dC dI ca G_368 none tq), (jFkd, jKD dC dI ca G_368 none kq), (jFqd, jQD dC dI ca G_368 none qq), (jFib, jIB dC dI ca G_368 0 ib), (jFy, jYb dC dI G_368)]) [0, 1, 2, 3, 4, 5, 6] rfl
  clear hh_396
  have hh_399 := hh_398.addI (jSef.ie hd_397)
  clear hh_398
  have hh_400 := hh_399.addIs hbE_368
  try simp only at hr_369
  have hkp_401 := hkp_365.in hbX_368 hsy_363
  have hraw_402x := hbX_368.ke hraw_366.lt hne_367 hraw_366n
  clear hne_367
  have hraw_402 := hraw_366.kept hraw_402x.1
  refine j7_putRF hx hb hown hK hh_400 hB hAp hraw_402 hraw_402x.2 hbr0 (C := RX11) (T := TX11) (N := 19) rfl (i := 9) (by decide) (Nat.le_of_ble_eq_true rfl) hly_13_9 rfl hin2 rfl hlk_68 (ty := (.object "java/util/List")) (v := .ref H_361.size) (by decide +kernel) rfl rfl dX11_init_127 (fun H_403 locs_403 hraw_403 hr_403 hh_403 => ?_)
  have hraw_403 : va_at (dC, dI) vwCl (r0, .inr (13, [.ref s.heap.size, .ref H_35.size, .ref H_75.size, .ref H_115.size, .ref H_153.size, .ref H_192.size, .ref H_229.size, .ref H_277.size, .ref H_319.size, .ref H_361.size, .null, .int 0, .int 0, .int 0, .int 0, .null, .null, .null, .int 0])) H_403 := hraw_403
  have hkp_404 := hkp_401.put hr_403
  clear hh_400
  refine lv_aload_n hx hb dX11_init_130 rfl (lv_at hl 0 rfl) ?_
  refine lv_iconst (v := 2) hx hb dX11_init_131 (by decide) ?_
  clear hsz_368 htt_368 hrc_368 hrs_368
  (try clear hb_3684); (try clear hb_3685); (try clear hz_368)
  have hsz_405 := hh_403.2.2.2.2.2.1
  have htt_405 := hh_403.2.2.2.2.2.2.1
  have hsy_405 : s.heap.size ≤ H_403.size := hh_403.1.1
  refine j7_newqK hx hb hown (htw (.classLink RX11 71 RX1) (jWr_2 _ (List.mem_of_getElem? (i := 17) rfl))) hK6.2.1 hK2 hh_403 hB hB212 1 rfl (by decide) hbs (x := 2) (by decide) (by omega) (fun _ => Or.inl rfl) (by rw [hRc]; omega) (by rw [hRs]; omega) dX11_init_132 (fun H_405 hfr_405 hh_405 hqn_405 => ?_)
  have hh_405 : jSt (dC, dI) B base G0 (va_up G_368 H_403.size (some (212, 2))) EX11_initW s.heap (((((((((((((((((((((0 + 1) + (1)) + 1) + (1)) + 1) + (8)) + 1) + (1)) + 1) + (1)) + 1) + (24)) + 1) + (3)) + 1) + (0)) + 1) + (0)) + 1) + (0)) + 1) (((((((((((((((((((((0 + 2) + (4000)) + 12) + (3000)) + 12) + (12012)) + 2) + (20000)) + 2) + (1024)) + 11) + (38990)) + 5) + (826)) + 3) + (0)) + 3) + (0)) + 3) + (0)) + 2) [(H_192.size, 7, 0, .ref names_239), (H_192.size, 7, 2, .ref st_199), (H_153.size, 2, 1, .int qc_160), (H_153.size, 2, 0, .ref qa_160), (H_115.size, 2, 1, .int qc_122), (H_115.size, 2, 0, .ref qa_122), (H_35.size, 4, 4, .int qb_42), (H_35.size, 4, 5, .int qp_42), (H_35.size, 4, 6, .int qo_42), (H_35.size, 4, 2, .int qk_42), (H_35.size, 4, 8, .int qg_42), (H_35.size, 4, 9, .int ql_42), (H_35.size, 4, 10, .int qd_42), (H_35.size, 4, 11, .int qv_42), (H_35.size, 4, 7, .int qf_42), (H_35.size, 4, 0, .ref bd_42), (s.heap.size, 2, 1, .int qc_6), (s.heap.size, 2, 0, .ref qa_6)] [(bd_42, 100, m_bd_42, ca 0, gb_42)] [(jFl, jLs dC dI ca G_368 3 none (((wl.s1 0 wl.2.1).s2 []).s3 [])), (jFs11, jSef dC dI G_368), (jFun, jUN dC dI ca G_368 0 qu_199 qr_199), (jFdo, jDcc dC dI ca G_368 none ph), (jFcd, jCD dC dI ca G_368 none tq), (jFkd, jKD dC dI ca G_368 none kq), (jFqd, jQD dC dI ca G_368 none qq), (jFib, jIB dC dI ca G_368 0 ib), (jFy, jYb dC dI G_368)] H_405 locs_403 := hh_405
  have hM_405 : jNk [1, 2, 3, 11] G_368 (va_up G_368 H_403.size (some (212, 2))) := jNk.new (by decide)
  have hW_405 : jNk [0, 1, 2, 3, 4, 5, 6, 7, 8, 9, 10, 11, 12, 13, 14, 15, 16, 17, 175] G_368 (va_up G_368 H_403.size (some (212, 2))) := jNk.new (by decide)
  have hN_405 : (jNk [0, 5, 10, 14, 15, 16, 17]) G_368 (va_up G_368 H_403.size (some (212, 2))) := jNk.new (by decide)
  have hgn_405 : (va_up G_368 H_403.size (some (212, 2))) H_403.size = some (212, 2) := jUp_self
  have hle_405 : jLe G_368 (va_up G_368 H_403.size (some (212, 2))) := jLe.new hh_403.2.1.fresh
  have hke_405 : jKe G_368 (va_up G_368 H_403.size (some (212, 2))) H_403 H_405 := jKe.new hfr_405
  have hsy_405 : s.heap.size ≤ H_403.size := hh_403.1.1
  generalize (va_up G_368 H_403.size (some (212, 2))) = G_405 at hN_405 hgn_405 hle_405 hke_405 hh_405 hM_405 hW_405
  try have hn17_405 : jNk [17] G0 G_405 := (jNk.rf).tr (hW_405.sub (ks1 := [17]) (by decide))
  clear hh_403
  have hNn_405 : (jNk [0, 5, 10, 14, 15, 16, 17]) G0 G_405 := (hNn_368).tr hN_405
  have hg_406 := hle_405 _ _ hg_370
  have hg_407 := hle_405 _ _ hg_371
  have hg_408 := hle_405 _ _ hg_372
  have hg_409 := hle_405 _ _ hg_373
  have hg_410 := hle_405 _ _ hg_374
  have hg_411 := hle_405 _ _ hg_375
  have hkp_412 := hkp_404.tr hke_405
  have hraw_413n := hke_405.nr hraw_403.lt hraw_402x.2
  have hraw_413 := hraw_403.kept (hke_405.1 _ hraw_403.lt)
  have hn3_405 : jNk [3] G0 G_405 := (hn3_368).tr (hM_405.sub (ks1 := [3]) (by decide))
  have hd_414 := jLs.grow (hh_405.iv 0 rfl) hle_405 hM_405 (by decide)
  have hh_415 := hh_405.sub (L1 := [(H_192.size, 7, 0, .ref names_239), (H_192.size, 7, 2, .ref st_199), (H_153.size, 2, 1, .int qc_160), (H_153.size, 2, 0, .ref qa_160), (H_115.size, 2, 1, .int qc_122), (H_115.size, 2, 0, .ref qa_122), (H_35.size, 4, 4, .int qb_42), (H_35.size, 4, 5, .int qp_42), (H_35.size, 4, 6, .int qo_42), (H_35.size, 4, 2, .int qk_42), (H_35.size, 4, 8, .int qg_42), (H_35.size, 4, 9, .int ql_42), (H_35.size, 4, 10, .int qd_42), (H_35.size, 4, 11, .int qv_42), (H_35.size, 4, 7, .int qf_42), (H_35.size, 4, 0, .ref bd_42), (s.heap.size, 2, 1, .int qc_6), (s.heap.size, 2, 0, .ref qa_6)]) [0, 1, 2, 3, 4, 5, 6, 7, 8, 9, 10, 11, 12, 13, 14, 15, 16, 17] rfl (M1 := [(bd_42, 100, m_bd_42, ca 0, gb_42)]) [0] rfl (I1 := [(jFs11, jSef dC dI G_368), (jFun, jUN dC dI ca G_368 0 qu_199 qr_199), (jFdo, jDcc dC dI ca G_368 none ph), (jFcd, jCD dC dI ca G_368 none tq), (jFkd, jKD dC dI ca G_368 none kq), (jFqd, jQD dC dI ca G_368 none qq), (jFib, jIB dC dI ca G_368 0 ib), (jFy, jYb dC dI G_368)]) [1, 2, 3, 4, 5, 6, 7, 8] rfl
  clear hh_405
  have hh_416 := hh_415.addI (jLs.ie hd_414)
  clear hh_415
  have hd_417 := jSef.grow (hh_416.iv 1 rfl) hle_405 hM_405 (by decide)
  have hh_418 := hh_416.sub (L1 := [(H_192.size, 7, 0, .ref names_239), (H_192.size, 7, 2, .ref st_199), (H_153.size, 2, 1, .int qc_160), (H_153.size, 2, 0, .ref qa_160), (H_115.size, 2, 1, .int qc_122), (H_115.size, 2, 0, .ref qa_122), (H_35.size, 4, 4, .int qb_42), (H_35.size, 4, 5, .int qp_42), (H_35.size, 4, 6, .int qo_42), (H_35.size, 4, 2, .int qk_42), (H_35.size, 4, 8, .int qg_42), (H_35.size, 4, 9, .int ql_42), (H_35.size, 4, 10, .int qd_42), (H_35.size, 4, 11, .int qv_42), (H_35.size, 4, 7, .int qf_42), (H_35.size, 4, 0, .ref bd_42), (s.heap.size, 2, 1, .int qc_6), (s.heap.size, 2, 0, .ref qa_6)]) [0, 1, 2, 3, 4, 5, 6, 7, 8, 9, 10, 11, 12, 13, 14, 15, 16, 17] rfl (M1 := [(bd_42, 100, m_bd_42, ca 0, gb_42)]) [0] rfl (I1 := [(jFl, jLs dC dI ca G_405 3 none (((wl.s1 0 wl.2.1).s2 []).s3 [])), (jFun, jUN dC dI ca G_368 0 qu_199 qr_199), (jFdo, jDcc dC dI ca G_368 none ph), (jFcd, jCD dC dI ca G_368 none tq), (jFkd, jKD dC dI ca G_368 none kq), (jFqd, jQD dC dI ca G_368 none qq), (jFib, jIB dC dI ca G_368 0 ib), (jFy, jYb dC dI G_368)]) [0, 2, 3, 4, 5, 6, 7, 8] rfl
  clear hh_416
  have hh_419 := hh_418.addI (jSef.ie hd_417)
  clear hh_418
  have hd_420 := jUN.grow (r := 0) (hh_419.iv 2 rfl) hle_405 hW_405 (by decide) (by decide)
  have hh_421 := hh_419.sub (L1 := [(H_192.size, 7, 0, .ref names_239), (H_192.size, 7, 2, .ref st_199), (H_153.size, 2, 1, .int qc_160), (H_153.size, 2, 0, .ref qa_160), (H_115.size, 2, 1, .int qc_122), (H_115.size, 2, 0, .ref qa_122), (H_35.size, 4, 4, .int qb_42), (H_35.size, 4, 5, .int qp_42), (H_35.size, 4, 6, .int qo_42), (H_35.size, 4, 2, .int qk_42), (H_35.size, 4, 8, .int qg_42), (H_35.size, 4, 9, .int ql_42), (H_35.size, 4, 10, .int qd_42), (H_35.size, 4, 11, .int qv_42), (H_35.size, 4, 7, .int qf_42), (H_35.size, 4, 0, .ref bd_42), (s.heap.size, 2, 1, .int qc_6), (s.heap.size, 2, 0, .ref qa_6)]) [0, 1, 2, 3, 4, 5, 6, 7, 8, 9, 10, 11, 12, 13, 14, 15, 16, 17] rfl (M1 := [(bd_42, 100, m_bd_42, ca 0, gb_42)]) [0] rfl (I1 := [(jFs11, jSef dC dI G_405), (jFl, jLs dC dI ca G_405 3 none (((wl.s1 0 wl.2.1).s2 []).s3 [])), (jFdo, jDcc dC dI ca G_368 none ph), (jFcd, jCD dC dI ca G_368 none tq), (jFkd, jKD dC dI ca G_368 none kq), (jFqd, jQD dC dI ca G_368 none qq), (jFib, jIB dC dI ca G_368 0 ib), (jFy, jYb dC dI G_368)]) [0, 1, 3, 4, 5, 6, 7, 8] rfl
  clear hh_419
  have hh_422 := hh_421.addI (jUN.ie hd_420)
  clear hh_421
  have hd_423 := jDcc.grow (hh_422.iv 3 rfl) hle_405 hM_405 (by decide)
  have hh_424 := hh_422.sub (L1 := [(H_192.size, 7, 0, .ref names_239), (H_192.size, 7, 2, .ref st_199), (H_153.size, 2, 1, .int qc_160), (H_153.size, 2, 0, .ref qa_160), (H_115.size, 2, 1, .int qc_122), (H_115.size, 2, 0, .ref qa_122), (H_35.size, 4, 4, .int qb_42), (H_35.size, 4, 5, .int qp_42), (H_35.size, 4, 6, .int qo_42), (H_35.size, 4, 2, .int qk_42), (H_35.size, 4, 8, .int qg_42), (H_35.size, 4, 9, .int ql_42), (H_35.size, 4, 10, .int qd_42), (H_35.size, 4, 11, .int qv_42), (H_35.size, 4, 7, .int qf_42), (H_35.size, 4, 0, .ref bd_42), (s.heap.size, 2, 1, .int qc_6), (s.heap.size, 2, 0, .ref qa_6)]) [0, 1, 2, 3, 4, 5, 6, 7, 8, 9, 10, 11, 12, 13, 14, 15, 16, 17] rfl (M1 := [(bd_42, 100, m_bd_42, ca 0, gb_42)]) [0] rfl (I1 := [(jFun, jUN dC dI ca G_405 0 qu_199 qr_199), (jFs11, jSef dC dI G_405), (jFl, jLs dC dI ca G_405 3 none (((wl.s1 0 wl.2.1).s2 []).s3 [])), (jFcd, jCD dC dI ca G_368 none tq), (jFkd, jKD dC dI ca G_368 none kq), (jFqd, jQD dC dI ca G_368 none qq), (jFib, jIB dC dI ca G_368 0 ib), (jFy, jYb dC dI G_368)]) [0, 1, 2, 4, 5, 6, 7, 8] rfl
  clear hh_422
  have hh_425 := hh_424.addI (jDcc.ie hd_423)
  clear hh_424
  have hd_426 := jCD.grow (hh_425.iv 4 rfl) hle_405 hM_405 (by decide)
  have hh_427 := hh_425.sub (L1 := [(H_192.size, 7, 0, .ref names_239), (H_192.size, 7, 2, .ref st_199), (H_153.size, 2, 1, .int qc_160), (H_153.size, 2, 0, .ref qa_160), (H_115.size, 2, 1, .int qc_122), (H_115.size, 2, 0, .ref qa_122), (H_35.size, 4, 4, .int qb_42), (H_35.size, 4, 5, .int qp_42), (H_35.size, 4, 6, .int qo_42), (H_35.size, 4, 2, .int qk_42), (H_35.size, 4, 8, .int qg_42), (H_35.size, 4, 9, .int ql_42), (H_35.size, 4, 10, .int qd_42), (H_35.size, 4, 11, .int qv_42), (H_35.size, 4, 7, .int qf_42), (H_35.size, 4, 0, .ref bd_42), (s.heap.size, 2, 1, .int qc_6), (s.heap.size, 2, 0, .ref qa_6)]) [0, 1, 2, 3, 4, 5, 6, 7, 8, 9, 10, 11, 12, 13, 14, 15, 16, 17] rfl (M1 := [(bd_42, 100, m_bd_42, ca 0, gb_42)]) [0] rfl (I1 := [(jFdo, jDcc dC dI ca G_405 none ph), (jFun, jUN dC dI ca G_405 0 qu_199 qr_199), (jFs11, jSef dC dI G_405), (jFl, jLs dC dI ca G_405 3 none (((wl.s1 0 wl.2.1).s2 []).s3 [])), (jFkd, jKD dC dI ca G_368 none kq), (jFqd, jQD dC dI ca G_368 none qq), (jFib, jIB dC dI ca G_368 0 ib), (jFy, jYb dC dI G_368)]) [0, 1, 2, 3, 5, 6, 7, 8] rfl
  clear hh_425
  have hh_428 := hh_427.addI (jCD.ie hd_426)
  clear hh_427
  have hd_429 := jKD.grow (ca := ca) (hh_428.iv 5 rfl) hle_405 hW_405 (by decide)
  have hh_430 := hh_428.sub (L1 := [(H_192.size, 7, 0, .ref names_239), (H_192.size, 7, 2, .ref st_199), (H_153.size, 2, 1, .int qc_160), (H_153.size, 2, 0, .ref qa_160), (H_115.size, 2, 1, .int qc_122), (H_115.size, 2, 0, .ref qa_122), (H_35.size, 4, 4, .int qb_42), (H_35.size, 4, 5, .int qp_42), (H_35.size, 4, 6, .int qo_42), (H_35.size, 4, 2, .int qk_42), (H_35.size, 4, 8, .int qg_42), (H_35.size, 4, 9, .int ql_42), (H_35.size, 4, 10, .int qd_42), (H_35.size, 4, 11, .int qv_42), (H_35.size, 4, 7, .int qf_42), (H_35.size, 4, 0, .ref bd_42), (s.heap.size, 2, 1, .int qc_6), (s.heap.size, 2, 0, .ref qa_6)]) [0, 1, 2, 3, 4, 5, 6, 7, 8, 9, 10, 11, 12, 13, 14, 15, 16, 17] rfl (M1 := [(bd_42, 100, m_bd_42, ca 0, gb_42)]) [0] rfl (I1 := [(jFcd, jCD dC dI ca G_405 none tq), (jFdo, jDcc dC dI ca G_405 none ph), (jFun, jUN dC dI ca G_405 0 qu_199 qr_199), (jFs11, jSef dC dI G_405), (jFl, jLs dC dI ca G_405 3 none (((wl.s1 0 wl.2.1).s2 []).s3 [])), (jFqd, jQD dC dI ca G_368 none qq), (jFib, jIB dC dI ca G_368 0 ib), (jFy, jYb dC dI G_368)]) [0, 1, 2, 3, 4, 6, 7, 8] rfl
  clear hh_428
  have hh_431 := hh_430.addI (jKD.ie hd_429)
  clear hh_430
  have hd_432 := jQD.grow (ca := ca) (hh_431.iv 6 rfl) hle_405 hW_405 (by decide)
  have hh_433 := hh_431.sub (L1 := [(H_192.size, 7, 0, .ref names_239), (H_192.size, 7, 2, .ref st_199), (H_153.size, 2, 1, .int qc_160), (H_153.size, 2, 0, .ref qa_160), (H_115.size, 2, 1, .int qc_122), (H_115.size, 2, 0, .ref qa_122), (H_35.size, 4, 4, .int qb_42), (H_35.size, 4, 5, .int qp_42), (H_35.size, 4, 6, .int qo_42), (H_35.size, 4, 2, .int qk_42), (H_35.size, 4, 8, .int qg_42), (H_35.size, 4, 9, .int ql_42), (H_35.size, 4, 10, .int qd_42), (H_35.size, 4, 11, .int qv_42), (H_35.size, 4, 7, .int qf_42), (H_35.size, 4, 0, .ref bd_42), (s.heap.size, 2, 1, .int qc_6), (s.heap.size, 2, 0, .ref qa_6)]) [0, 1, 2, 3, 4, 5, 6, 7, 8, 9, 10, 11, 12, 13, 14, 15, 16, 17] rfl (M1 := [(bd_42, 100, m_bd_42, ca 0, gb_42)]) [0] rfl (I1 := [(jFkd, jKD dC dI ca G_405 none kq), (jFcd, jCD dC dI ca G_405 none tq), (jFdo, jDcc dC dI ca G_405 none ph), (jFun, jUN dC dI ca G_405 0 qu_199 qr_199), (jFs11, jSef dC dI G_405), (jFl, jLs dC dI ca G_405 3 none (((wl.s1 0 wl.2.1).s2 []).s3 [])), (jFib, jIB dC dI ca G_368 0 ib), (jFy, jYb dC dI G_368)]) [0, 1, 2, 3, 4, 5, 7, 8] rfl
  clear hh_431
  have hh_434 := hh_433.addI (jQD.ie hd_432)
  clear hh_433
  have hd_435 := jIB.grow (r := 0) (hh_434.iv 7 rfl) hle_405 hW_405 (by decide)
  have hh_436 := hh_434.sub (L1 := [(H_192.size, 7, 0, .ref names_239), (H_192.size, 7, 2, .ref st_199), (H_153.size, 2, 1, .int qc_160), (H_153.size, 2, 0, .ref qa_160), (H_115.size, 2, 1, .int qc_122), (H_115.size, 2, 0, .ref qa_122), (H_35.size, 4, 4, .int qb_42), (H_35.size, 4, 5, .int qp_42), (H_35.size, 4, 6, .int qo_42), (H_35.size, 4, 2, .int qk_42), (H_35.size, 4, 8, .int qg_42), (H_35.size, 4, 9, .int ql_42), (H_35.size, 4, 10, .int qd_42), (H_35.size, 4, 11, .int qv_42), (H_35.size, 4, 7, .int qf_42), (H_35.size, 4, 0, .ref bd_42), (s.heap.size, 2, 1, .int qc_6), (s.heap.size, 2, 0, .ref qa_6)]) [0, 1, 2, 3, 4, 5, 6, 7, 8, 9, 10, 11, 12, 13, 14, 15, 16, 17] rfl (M1 := [(bd_42, 100, m_bd_42, ca 0, gb_42)]) [0] rfl (I1 := [(jFqd, jQD dC dI ca G_405 none qq), (jFkd, jKD dC dI ca G_405 none kq), (jFcd, jCD dC dI ca G_405 none tq), (jFdo, jDcc dC dI ca G_405 none ph), (jFun, jUN dC dI ca G_405 0 qu_199 qr_199), (jFs11, jSef dC dI G_405), (jFl, jLs dC dI ca G_405 3 none (((wl.s1 0 wl.2.1).s2 []).s3 [])), (jFy, jYb dC dI G_368)]) [0, 1, 2, 3, 4, 5, 6, 8] rfl
  clear hh_434
  have hh_437 := hh_436.addI (jIB.ie hd_435)
  clear hh_436
  have hd_438 := jYb.grow (hh_437.iv 8 rfl) hle_405 hM_405 (by decide)
  have hh_439 := hh_437.sub (L1 := [(H_192.size, 7, 0, .ref names_239), (H_192.size, 7, 2, .ref st_199), (H_153.size, 2, 1, .int qc_160), (H_153.size, 2, 0, .ref qa_160), (H_115.size, 2, 1, .int qc_122), (H_115.size, 2, 0, .ref qa_122), (H_35.size, 4, 4, .int qb_42), (H_35.size, 4, 5, .int qp_42), (H_35.size, 4, 6, .int qo_42), (H_35.size, 4, 2, .int qk_42), (H_35.size, 4, 8, .int qg_42), (H_35.size, 4, 9, .int ql_42), (H_35.size, 4, 10, .int qd_42), (H_35.size, 4, 11, .int qv_42), (H_35.size, 4, 7, .int qf_42), (H_35.size, 4, 0, .ref bd_42), (s.heap.size, 2, 1, .int qc_6), (s.heap.size, 2, 0, .ref qa_6)]) [0, 1, 2, 3, 4, 5, 6, 7, 8, 9, 10, 11, 12, 13, 14, 15, 16, 17] rfl (M1 := [(bd_42, 100, m_bd_42, ca 0, gb_42)]) [0] rfl (I1 := [(jFib, jIB dC dI ca G_405 0 ib), (jFqd, jQD dC dI ca G_405 none qq), (jFkd, jKD dC dI ca G_405 none kq), (jFcd, jCD dC dI ca G_405 none tq), (jFdo, jDcc dC dI ca G_405 none ph), (jFun, jUN dC dI ca G_405 0 qu_199 qr_199), (jFs11, jSef dC dI G_405), (jFl, jLs dC dI ca G_405 3 none (((wl.s1 0 wl.2.1).s2 []).s3 []))]) [0, 1, 2, 3, 4, 5, 6, 7] rfl
  clear hh_437
  have hh_440 := hh_439.addI (jYb.ie hd_438)
  clear hh_439
  have hh_441 := hh_440.addI (jQc.ie hqn_405 hgn_405 (by decide) (by decide))
  clear hh_440
  refine j7_putRF hx hb hown hK hh_441 hB hAp hraw_413 hraw_413n hbr0 (C := RX11) (T := TX11) (N := 19) rfl (i := 10) (by decide) (Nat.le_of_ble_eq_true rfl) hly_13_10 rfl hin2 rfl hlk_73 (ty := (.array (.object "ProofServer$Document"))) (v := .ref H_403.size) (by decide +kernel) rfl rfl dX11_init_135 (fun H_442 locs_442 hraw_442 hr_442 hh_442 => ?_)
  have hraw_442 : va_at (dC, dI) vwCl (r0, .inr (13, [.ref s.heap.size, .ref H_35.size, .ref H_75.size, .ref H_115.size, .ref H_153.size, .ref H_192.size, .ref H_229.size, .ref H_277.size, .ref H_319.size, .ref H_361.size, .ref H_403.size, .int 0, .int 0, .int 0, .int 0, .null, .null, .null, .int 0])) H_442 := hraw_442
  have hkp_443 := hkp_412.put hr_442
  clear hh_441
  refine lv_aload_n hx hb dX11_init_138 rfl (lv_at hl 0 rfl) ?_
  refine lv_iconst (v := 0) hx hb dX11_init_139 (by decide) ?_
  refine j7_putR hx hb hown hK hh_442 hB hAp hraw_442 hraw_413n hbr0 (C := RX11) (T := TX11) (N := 19) rfl (i := 11) (by decide) (Nat.le_of_ble_eq_true rfl) hly_13_11 rfl hlk_77 (ty := .int) (v := .int 0) (by decide +kernel) rfl rfl dX11_init_140 (fun H_444 locs_444 hraw_444 hr_444 hh_444 => ?_)
  have hraw_444 : va_at (dC, dI) vwCl (r0, .inr (13, [.ref s.heap.size, .ref H_35.size, .ref H_75.size, .ref H_115.size, .ref H_153.size, .ref H_192.size, .ref H_229.size, .ref H_277.size, .ref H_319.size, .ref H_361.size, .ref H_403.size, .int 0, .int 0, .int 0, .int 0, .null, .null, .null, .int 0])) H_444 := hraw_444
  have hkp_445 := hkp_443.put hr_444
  clear hh_442
  refine lv_aload_n hx hb dX11_init_143 rfl (lv_at hl 0 rfl) ?_
  clear hsz_405 htt_405
  have hsz_446 := hh_444.2.2.2.2.2.1
  have htt_446 := hh_444.2.2.2.2.2.2.1
  refine j7_newo (k := 3) (C := RX1) (T := TX1) (N := 17) (fs := [.null, .int 0, .null, .int 0, .int 0, .null, .null, .null, .null, .null, .int 0, .null, .null, .int 0, .int 0, .int 0, .int 0]) hx hb htw jWc_wsX10 (fun k => ([(.array .int), .int, (.array .int), .int, .int, (.array .int), (.array .int), (.array .int), (.array .int), (.array (.object "ProofServer$State")), .int, (.array .int), (.object "ProofServer$State"), .int, .int, .int, .int] : List FieldType).getD k .int) (by decide +kernel) hown (htw (.classLink RX11 71 RX1) (jWr_2 _ (List.mem_of_getElem? (i := 17) rfl))) (htw (.instantiable RX1 17) (jWr_2 _ (List.mem_of_getElem? (i := 20) rfl))) (htw (.initialized RX1) (jWr_2 _ (List.mem_of_getElem? (i := 21) rfl))) hK rfl (fun j hj => by rcases (by omega : j = 0 ∨ j = 1 ∨ j = 2 ∨ j = 3 ∨ j = 4 ∨ j = 5 ∨ j = 6 ∨ j = 7 ∨ j = 8 ∨ j = 9 ∨ j = 10 ∨ j = 11 ∨ j = 12 ∨ j = 13 ∨ j = 14 ∨ j = 15 ∨ j = 16) with rfl | rfl | rfl | rfl | rfl | rfl | rfl | rfl | rfl | rfl | rfl | rfl | rfl | rfl | rfl | rfl | rfl <;> rfl) hh_444 hB (by rw [hRc]; omega) (by rw [hRs]; omega) dX11_init_144 (fun H_446 hraw_446 hfr_446 hnr_446 hh_446 => ?_)
  have hlt_447 := hraw_444.lt
  have hke_446 : jKe G_405 G_405 H_444 H_446 := jKe.raw hfr_446
  have hbr_446 : base ≤ H_444.size := Nat.le_trans hbs hh_444.1.1
  have hsy_446 : s.heap.size ≤ H_444.size := hh_444.1.1
  clear hh_444
  have hkp_448 := hkp_445.tr hke_446
  have hraw_449n := hke_446.nr hraw_444.lt hraw_413n
  have hraw_449 := hraw_444.kept (hke_446.1 _ hraw_444.lt)
  have hne_450 : r0 ≠ H_444.size := Nat.ne_of_lt hlt_447
  refine lv_dup hx hb dX11_init_147 rfl ?_
  clear hsz_446 htt_446
  have hsz_451 := hh_446.2.2.2.2.2.1
  have htt_451 := hh_446.2.2.2.2.2.2.1
  refine W.room (fun hrc_451 hrs_451 => ?_)
  refine va_callv (A0 := jA base) (H0 := s.heap) (va_runIN (As := []) (rest := [.ref H_444.size, .ref r0]) ⟨hx, hb, hml, hown, hts⟩ (uX1_initK l dC dI ca base B hB hAp hB3 hB11 hB171 hB172 hB173 hB174 hB176 hB177 hB210 G_405 H_446 H_444.size 1 (ph) tq kq LC LS) ⟨va_cnB 0 hts (jgW (jWr_10 _ (List.mem_of_getElem? (i := 3) rfl))) rfl rfl rfl (hG.2.2.1 RX11 81 yX1_init "ProofServer" (List.mem_of_getElem? (i := 434) (by decide +kernel))) (htw (.initialized RX1) (jWr_2 _ (List.mem_of_getElem? (i := 21) rfl))) (by decide +kernel) ⟨by rw [← hR]; exact Nat.le_of_ble_eq_true rfl, by rw [← hR]; exact Nat.le_of_ble_eq_true rfl⟩, rfl, htw (.instanceMethod yX1_init) (jWr_10 _ (List.mem_of_getElem? (i := 2) rfl))⟩ ⟨fun a U g mk q => by obtain ⟨q0, q1, q2, qK, q10, q11, q12, q13, q14, q15, q16, q17⟩ := q; exact ⟨q0, q1, q2, jG.calling g mk a qK, (va_K.moved (Vm.Alike.refl U.vm) q10), (jK6.moved (Vm.Alike.refl U.vm) q11), q12, q13, q14, q15, q16, q17⟩, fun U hU hW => ⟨rfl, hU, hh_446.2.1, hG.step hW hU hh_446.1, va_K.moved hW.alike hK2, jK6.moved hW.alike hK6, hraw_446, hnr_446, hbr_446, jP.nil, (hh_446.2.2.2.2.2.2.2.2.sub (L1 := [(jFdo, jDcc dC dI ca G_405 none ph), (jFcd, jCD dC dI ca G_405 none tq), (jFkd, jKD dC dI ca G_405 none kq)]) [6, 5, 4] rfl), (by omega), (by omega), trivial⟩⟩ rfl rfl hl.1 rfl (lv_room (Nat.le_of_ble_eq_true rfl)) dX11_init_148 ⟨by rw [hRc]; omega, by rw [hRs]; omega⟩) hh_446.1 (fun q _ h => h) (fun q h => h) (fun u_451 t_451 H_451 locs_451 ht_451 hvm_451 hr_452 hb_451 hz_451 hk_451 hS_451 => ?_)
  obtain ⟨qk_451, qs_451, ql_451, qtd_451, gK_451, G_451⟩ := u_451
  rw [ht_451] at hb_451
  simp only at hb_451
  obtain ⟨⟨hb_4511, hb_4512, hb_4513, hb_4514, hb_4515, hb_4516⟩, hN_451, hgc_451, hbX_451, hbE_451⟩ := hb_451
  have hL_451 := hN_451
  have hY_451 := hN_451
  have hM_451 := hN_451
  have hW_451 := hN_451
  have hN_451 : (jNk [0, 5, 10, 14, 15, 16, 17]) G_405 G_451 := hN_451.sub (by decide)
  have hh_451 : jSt (dC, dI) B base G0 G_451 EX11_initW s.heap (((((((((((((((((((((((0 + 1) + (1)) + 1) + (1)) + 1) + (8)) + 1) + (1)) + 1) + (1)) + 1) + (24)) + 1) + (3)) + 1) + (0)) + 1) + (0)) + 1) + (0)) + 1) + 1) + (7)) (((((((((((((((((((((((0 + 2) + (4000)) + 12) + (3000)) + 12) + (12012)) + 2) + (20000)) + 2) + (1024)) + 11) + (38990)) + 5) + (826)) + 3) + (0)) + 3) + (0)) + 3) + (0)) + 2) + 17) + (1700)) [(H_444.size, 3, 10, .int qk_451), (H_444.size, 3, 4, .int qs_451), (H_444.size, 3, 3, .int ql_451), (H_192.size, 7, 0, .ref names_239), (H_192.size, 7, 2, .ref st_199), (H_153.size, 2, 1, .int qc_160), (H_153.size, 2, 0, .ref qa_160), (H_115.size, 2, 1, .int qc_122), (H_115.size, 2, 0, .ref qa_122), (H_35.size, 4, 4, .int qb_42), (H_35.size, 4, 5, .int qp_42), (H_35.size, 4, 6, .int qo_42), (H_35.size, 4, 2, .int qk_42), (H_35.size, 4, 8, .int qg_42), (H_35.size, 4, 9, .int ql_42), (H_35.size, 4, 10, .int qd_42), (H_35.size, 4, 11, .int qv_42), (H_35.size, 4, 7, .int qf_42), (H_35.size, 4, 0, .ref bd_42), (s.heap.size, 2, 1, .int qc_6), (s.heap.size, 2, 0, .ref qa_6)] [(bd_42, 100, m_bd_42, ca 0, gb_42)] [([(212, 0)], jQc dC dI (ca 5) H_403.size 2 (fun _ => none)), (jFy, jYb dC dI G_405), (jFib, jIB dC dI ca G_405 0 ib), (jFqd, jQD dC dI ca G_405 none qq), (jFun, jUN dC dI ca G_405 0 qu_199 qr_199), (jFs11, jSef dC dI G_405), (jFl, jLs dC dI ca G_405 3 none (((wl.s1 0 wl.2.1).s2 []).s3 []))] H_451 locs_451 := (hh_446.callG hb_4511 hb_4512 hb_4513 hb_4514 hb_4515 hS_451 rfl (L1 := [(H_192.size, 7, 0, .ref names_239), (H_192.size, 7, 2, .ref st_199), (H_153.size, 2, 1, .int qc_160), (H_153.size, 2, 0, .ref qa_160), (H_115.size, 2, 1, .int qc_122), (H_115.size, 2, 0, .ref qa_122), (H_35.size, 4, 4, .int qb_42), (H_35.size, 4, 5, .int qp_42), (H_35.size, 4, 6, .int qo_42), (H_35.size, 4, 2, .int qk_42), (H_35.size, 4, 8, .int qg_42), (H_35.size, 4, 9, .int ql_42), (H_35.size, 4, 10, .int qd_42), (H_35.size, 4, 11, .int qv_42), (H_35.size, 4, 7, .int qf_42), (H_35.size, 4, 0, .ref bd_42), (s.heap.size, 2, 1, .int qc_6), (s.heap.size, 2, 0, .ref qa_6)]) [0, 1, 2, 3, 4, 5, 6, 7, 8, 9, 10, 11, 12, 13, 14, 15, 16, 17] rfl rfl (M1 := [(bd_42, 100, m_bd_42, ca 0, gb_42)]) [0] rfl rfl (I1 := [([(212, 0)], jQc dC dI (ca 5) H_403.size 2 (fun _ => none)), (jFy, jYb dC dI G_405), (jFib, jIB dC dI ca G_405 0 ib), (jFqd, jQD dC dI ca G_405 none qq), (jFun, jUN dC dI ca G_405 0 qu_199 qr_199), (jFs11, jSef dC dI G_405), (jFl, jLs dC dI ca G_405 3 none (((wl.s1 0 wl.2.1).s2 []).s3 []))]) [0, 1, 2, 3, 7, 8, 9] rfl rfl).more hb_4516
  have hNn_451 : (jNk [0, 5, 10, 14, 15, 16, 17]) G0 G_451 := (hNn_405).tr hN_451
  have hg_453 := hb_4512 _ _ hg_406
  have hg_454 := hb_4512 _ _ hg_407
  have hg_455 := hb_4512 _ _ hg_408
  have hg_456 := hb_4512 _ _ hg_409
  have hg_457 := hb_4512 _ _ hg_410
  have hg_458 := hb_4512 _ _ hg_411
  have hd_460 := jYb.grow (hh_451.iv 1 rfl) hb_4512 hY_451 (by decide)
  have hh_461 := hh_451.sub (L1 := [(H_444.size, 3, 10, .int qk_451), (H_444.size, 3, 4, .int qs_451), (H_444.size, 3, 3, .int ql_451), (H_192.size, 7, 0, .ref names_239), (H_192.size, 7, 2, .ref st_199), (H_153.size, 2, 1, .int qc_160), (H_153.size, 2, 0, .ref qa_160), (H_115.size, 2, 1, .int qc_122), (H_115.size, 2, 0, .ref qa_122), (H_35.size, 4, 4, .int qb_42), (H_35.size, 4, 5, .int qp_42), (H_35.size, 4, 6, .int qo_42), (H_35.size, 4, 2, .int qk_42), (H_35.size, 4, 8, .int qg_42), (H_35.size, 4, 9, .int ql_42), (H_35.size, 4, 10, .int qd_42), (H_35.size, 4, 11, .int qv_42), (H_35.size, 4, 7, .int qf_42), (H_35.size, 4, 0, .ref bd_42), (s.heap.size, 2, 1, .int qc_6), (s.heap.size, 2, 0, .ref qa_6)]) [0, 1, 2, 3, 4, 5, 6, 7, 8, 9, 10, 11, 12, 13, 14, 15, 16, 17, 18, 19, 20] rfl (M1 := [(bd_42, 100, m_bd_42, ca 0, gb_42)]) [0] rfl (I1 := [([(212, 0)], jQc dC dI (ca 5) H_403.size 2 (fun _ => none)), (jFib, jIB dC dI ca G_405 0 ib), (jFqd, jQD dC dI ca G_405 none qq), (jFun, jUN dC dI ca G_405 0 qu_199 qr_199), (jFs11, jSef dC dI G_405), (jFl, jLs dC dI ca G_405 3 none (((wl.s1 0 wl.2.1).s2 []).s3 []))]) [0, 2, 3, 4, 5, 6] rfl
  clear hh_451
  have hh_462 := hh_461.addI (jYb.ie hd_460)
  clear hh_461
  have hd_463 := jIB.grow (r := 0) (hh_462.iv 2 rfl) hb_4512 hW_451 (by decide)
  have hh_464 := hh_462.sub (L1 := [(H_444.size, 3, 10, .int qk_451), (H_444.size, 3, 4, .int qs_451), (H_444.size, 3, 3, .int ql_451), (H_192.size, 7, 0, .ref names_239), (H_192.size, 7, 2, .ref st_199), (H_153.size, 2, 1, .int qc_160), (H_153.size, 2, 0, .ref qa_160), (H_115.size, 2, 1, .int qc_122), (H_115.size, 2, 0, .ref qa_122), (H_35.size, 4, 4, .int qb_42), (H_35.size, 4, 5, .int qp_42), (H_35.size, 4, 6, .int qo_42), (H_35.size, 4, 2, .int qk_42), (H_35.size, 4, 8, .int qg_42), (H_35.size, 4, 9, .int ql_42), (H_35.size, 4, 10, .int qd_42), (H_35.size, 4, 11, .int qv_42), (H_35.size, 4, 7, .int qf_42), (H_35.size, 4, 0, .ref bd_42), (s.heap.size, 2, 1, .int qc_6), (s.heap.size, 2, 0, .ref qa_6)]) [0, 1, 2, 3, 4, 5, 6, 7, 8, 9, 10, 11, 12, 13, 14, 15, 16, 17, 18, 19, 20] rfl (M1 := [(bd_42, 100, m_bd_42, ca 0, gb_42)]) [0] rfl (I1 := [(jFy, jYb dC dI G_451), ([(212, 0)], jQc dC dI (ca 5) H_403.size 2 (fun _ => none)), (jFqd, jQD dC dI ca G_405 none qq), (jFun, jUN dC dI ca G_405 0 qu_199 qr_199), (jFs11, jSef dC dI G_405), (jFl, jLs dC dI ca G_405 3 none (((wl.s1 0 wl.2.1).s2 []).s3 []))]) [0, 1, 3, 4, 5, 6] rfl
  clear hh_462
  have hh_465 := hh_464.addI (jIB.ie hd_463)
  clear hh_464
  have hd_466 := jQD.grow (ca := ca) (hh_465.iv 3 rfl) hb_4512 hW_451 (by decide)
  have hh_467 := hh_465.sub (L1 := [(H_444.size, 3, 10, .int qk_451), (H_444.size, 3, 4, .int qs_451), (H_444.size, 3, 3, .int ql_451), (H_192.size, 7, 0, .ref names_239), (H_192.size, 7, 2, .ref st_199), (H_153.size, 2, 1, .int qc_160), (H_153.size, 2, 0, .ref qa_160), (H_115.size, 2, 1, .int qc_122), (H_115.size, 2, 0, .ref qa_122), (H_35.size, 4, 4, .int qb_42), (H_35.size, 4, 5, .int qp_42), (H_35.size, 4, 6, .int qo_42), (H_35.size, 4, 2, .int qk_42), (H_35.size, 4, 8, .int qg_42), (H_35.size, 4, 9, .int ql_42), (H_35.size, 4, 10, .int qd_42), (H_35.size, 4, 11, .int qv_42), (H_35.size, 4, 7, .int qf_42), (H_35.size, 4, 0, .ref bd_42), (s.heap.size, 2, 1, .int qc_6), (s.heap.size, 2, 0, .ref qa_6)]) [0, 1, 2, 3, 4, 5, 6, 7, 8, 9, 10, 11, 12, 13, 14, 15, 16, 17, 18, 19, 20] rfl (M1 := [(bd_42, 100, m_bd_42, ca 0, gb_42)]) [0] rfl (I1 := [(jFib, jIB dC dI ca G_451 0 ib), (jFy, jYb dC dI G_451), ([(212, 0)], jQc dC dI (ca 5) H_403.size 2 (fun _ => none)), (jFun, jUN dC dI ca G_405 0 qu_199 qr_199), (jFs11, jSef dC dI G_405), (jFl, jLs dC dI ca G_405 3 none (((wl.s1 0 wl.2.1).s2 []).s3 []))]) [0, 1, 2, 4, 5, 6] rfl
  clear hh_465
  have hh_468 := hh_467.addI (jQD.ie hd_466)
  clear hh_467
  have hd_469 := jUN.grow (r := 0) (hh_468.iv 4 rfl) hb_4512 hW_451 (by decide) (by decide)
  have hh_470 := hh_468.sub (L1 := [(H_444.size, 3, 10, .int qk_451), (H_444.size, 3, 4, .int qs_451), (H_444.size, 3, 3, .int ql_451), (H_192.size, 7, 0, .ref names_239), (H_192.size, 7, 2, .ref st_199), (H_153.size, 2, 1, .int qc_160), (H_153.size, 2, 0, .ref qa_160), (H_115.size, 2, 1, .int qc_122), (H_115.size, 2, 0, .ref qa_122), (H_35.size, 4, 4, .int qb_42), (H_35.size, 4, 5, .int qp_42), (H_35.size, 4, 6, .int qo_42), (H_35.size, 4, 2, .int qk_42), (H_35.size, 4, 8, .int qg_42), (H_35.size, 4, 9, .int ql_42), (H_35.size, 4, 10, .int qd_42), (H_35.size, 4, 11, .int qv_42), (H_35.size, 4, 7, .int qf_42), (H_35.size, 4, 0, .ref bd_42), (s.heap.size, 2, 1, .int qc_6), (s.heap.size, 2, 0, .ref qa_6)]) [0, 1, 2, 3, 4, 5, 6, 7, 8, 9, 10, 11, 12, 13, 14, 15, 16, 17, 18, 19, 20] rfl (M1 := [(bd_42, 100, m_bd_42, ca 0, gb_42)]) [0] rfl (I1 := [(jFqd, jQD dC dI ca G_451 none qq), (jFib, jIB dC dI ca G_451 0 ib), (jFy, jYb dC dI G_451), ([(212, 0)], jQc dC dI (ca 5) H_403.size 2 (fun _ => none)), (jFs11, jSef dC dI G_405), (jFl, jLs dC dI ca G_405 3 none (((wl.s1 0 wl.2.1).s2 []).s3 []))]) [0, 1, 2, 3, 5, 6] rfl
  clear hh_468
  have hh_471 := hh_470.addI (jUN.ie hd_469)
  clear hh_470
  have hd_472 := jSef.grow (hh_471.iv 5 rfl) hb_4512 hM_451 (by decide)
  have hh_473 := hh_471.sub (L1 := [(H_444.size, 3, 10, .int qk_451), (H_444.size, 3, 4, .int qs_451), (H_444.size, 3, 3, .int ql_451), (H_192.size, 7, 0, .ref names_239), (H_192.size, 7, 2, .ref st_199), (H_153.size, 2, 1, .int qc_160), (H_153.size, 2, 0, .ref qa_160), (H_115.size, 2, 1, .int qc_122), (H_115.size, 2, 0, .ref qa_122), (H_35.size, 4, 4, .int qb_42), (H_35.size, 4, 5, .int qp_42), (H_35.size, 4, 6, .int qo_42), (H_35.size, 4, 2, .int qk_42), (H_35.size, 4, 8, .int qg_42), (H_35.size, 4, 9, .int ql_42), (H_35.size, 4, 10, .int qd_42), (H_35.size, 4, 11, .int qv_42), (H_35.size, 4, 7, .int qf_42), (H_35.size, 4, 0, .ref bd_42), (s.heap.size, 2, 1, .int qc_6), (s.heap.size, 2, 0, .ref qa_6)]) [0, 1, 2, 3, 4, 5, 6, 7, 8, 9, 10, 11, 12, 13, 14, 15, 16, 17, 18, 19, 20] rfl (M1 := [(bd_42, 100, m_bd_42, ca 0, gb_42)]) [0] rfl (I1 := [(jFun, jUN dC dI ca G_451 0 qu_199 qr_199), (jFqd, jQD dC dI ca G_451 none qq), (jFib, jIB dC dI ca G_451 0 ib), (jFy, jYb dC dI G_451), ([(212, 0)], jQc dC dI (ca 5) H_403.size 2 (fun _ => none)), (jFl, jLs dC dI ca G_405 3 none (((wl.s1 0 wl.2.1).s2 []).s3 []))]) [0, 1, 2, 3, 4, 6] rfl
  clear hh_471
  have hh_474 := hh_473.addI (jSef.ie hd_472)
  clear hh_473
  have hd_475 := jLs.grow (hh_474.iv 6 rfl) hb_4512 hL_451 (by decide)
  have hh_476 := hh_474.sub (L1 := [(H_444.size, 3, 10, .int qk_451), (H_444.size, 3, 4, .int qs_451), (H_444.size, 3, 3, .int ql_451), (H_192.size, 7, 0, .ref names_239), (H_192.size, 7, 2, .ref st_199), (H_153.size, 2, 1, .int qc_160), (H_153.size, 2, 0, .ref qa_160), (H_115.size, 2, 1, .int qc_122), (H_115.size, 2, 0, .ref qa_122), (H_35.size, 4, 4, .int qb_42), (H_35.size, 4, 5, .int qp_42), (H_35.size, 4, 6, .int qo_42), (H_35.size, 4, 2, .int qk_42), (H_35.size, 4, 8, .int qg_42), (H_35.size, 4, 9, .int ql_42), (H_35.size, 4, 10, .int qd_42), (H_35.size, 4, 11, .int qv_42), (H_35.size, 4, 7, .int qf_42), (H_35.size, 4, 0, .ref bd_42), (s.heap.size, 2, 1, .int qc_6), (s.heap.size, 2, 0, .ref qa_6)]) [0, 1, 2, 3, 4, 5, 6, 7, 8, 9, 10, 11, 12, 13, 14, 15, 16, 17, 18, 19, 20] rfl (M1 := [(bd_42, 100, m_bd_42, ca 0, gb_42)]) [0] rfl (I1 := [(jFs11, jSef dC dI G_451), (jFun, jUN dC dI ca G_451 0 qu_199 qr_199), (jFqd, jQD dC dI ca G_451 none qq), (jFib, jIB dC dI ca G_451 0 ib), (jFy, jYb dC dI G_451), ([(212, 0)], jQc dC dI (ca 5) H_403.size 2 (fun _ => none))]) [0, 1, 2, 3, 4, 5] rfl
  clear hh_474
  have hh_477 := hh_476.addI (jLs.ie hd_475)
  clear hh_476
  have hh_478 := hh_477.addIs hbE_451
  try simp only at hr_452
  obtain ⟨hr_452_0, hr_452_1, hr_452_2, hr_452_3, hr_452_4⟩ := hr_452
  have hkp_479 := hkp_448.in hbX_451 hsy_446
  have hraw_480x := hbX_451.ke hraw_449.lt hne_450 hraw_449n
  clear hne_450
  have hraw_480 := hraw_449.kept hraw_480x.1
  refine j7_putR hx hb hown hK hh_478 hB hAp hraw_480 hraw_480x.2 hbr0 (C := RX11) (T := TX11) (N := 19) rfl (i := 15) (by decide) (Nat.le_of_ble_eq_true rfl) hly_13_15 rfl hlk_82 (ty := (.object "ProofServer$Document")) (v := .ref H_444.size) (by decide +kernel) rfl rfl dX11_init_151 (fun H_481 locs_481 hraw_481 hr_481 hh_481 => ?_)
  have hraw_481 : va_at (dC, dI) vwCl (r0, .inr (13, [.ref s.heap.size, .ref H_35.size, .ref H_75.size, .ref H_115.size, .ref H_153.size, .ref H_192.size, .ref H_229.size, .ref H_277.size, .ref H_319.size, .ref H_361.size, .ref H_403.size, .int 0, .int 0, .int 0, .int 0, .ref H_444.size, .null, .null, .int 0])) H_481 := hraw_481
  have hkp_482 := hkp_479.put hr_481
  clear hh_478
  refine lv_aload_n hx hb dX11_init_154 rfl (lv_at hl 0 rfl) ?_
  have hne : H_153.size ≠ H_481.size := Nat.ne_of_lt (hh_481.ab ((((((((hb_1992).tr hb_2402).tr hb_2842).tr hb_3262).tr hb_3682).tr hle_405).tr hb_4512) _ _ hgc_160)).2
  clear hsz_451 htt_451 hrc_451 hrs_451
  (try clear hb_4514); (try clear hb_4515); (try clear hz_451)
  have hsz_483 := hh_481.2.2.2.2.2.1
  have htt_483 := hh_481.2.2.2.2.2.2.1
  refine j7_newo (k := 2) (C := RX0) (T := TX0) (N := 2) (fs := [.null, .int 0]) hx hb htw jWc_wsX00 (fun k => ([(.array .byte), .int] : List FieldType).getD k .int) (by decide +kernel) hown (htw (.classLink RX11 7 RX0) (jWr_1 _ (List.mem_of_getElem? (i := 12) rfl))) (htw (.instantiable RX0 2) (jWr_1 _ (List.mem_of_getElem? (i := 13) rfl))) (htw (.initialized RX0) (jWr_1 _ (List.mem_of_getElem? (i := 14) rfl))) hK rfl (fun j hj => by rcases (by omega : j = 0 ∨ j = 1) with rfl | rfl <;> rfl) hh_481 hB (by rw [hRc]; omega) (by rw [hRs]; omega) dX11_init_155 (fun H_483 hraw_483 hfr_483 hnr_483 hh_483 => ?_)
  have hlt_484 := hraw_481.lt
  have hke_483 : jKe G_451 G_451 H_481 H_483 := jKe.raw hfr_483
  have hbr_483 : base ≤ H_481.size := Nat.le_trans hbs hh_481.1.1
  have hsy_483 : s.heap.size ≤ H_481.size := hh_481.1.1
  clear hh_481
  have hkp_485 := hkp_482.tr hke_483
  have hraw_486n := hke_483.nr hraw_481.lt hraw_480x.2
  have hraw_486 := hraw_481.kept (hke_483.1 _ hraw_481.lt)
  have hne_487 : r0 ≠ H_481.size := Nat.ne_of_lt hlt_484
  refine lv_dup hx hb dX11_init_158 rfl ?_
  refine lv_sipush (v := 256) hx hb dX11_init_159 (by decide) ?_
  clear hsz_483 htt_483
  have hsz_488 := hh_483.2.2.2.2.2.1
  have htt_488 := hh_483.2.2.2.2.2.2.1
  refine W.room (fun hrc_488 hrs_488 => ?_)
  refine va_callv (A0 := jA base) (H0 := s.heap) (va_runI (As := [.int 256]) (rest := [.ref H_481.size, .ref r0]) ⟨hx, hb, hml, hown, hts⟩ (uX0_initY l dC dI ca base B hB hAp hB2 hB17 hB196 hB199 G_451 H_483 H_481.size 256 0 LC LS) (cwI 1 hts (jgW (jWr_3 _ (List.mem_of_getElem? (i := 3) rfl))) rfl rfl rfl (htw (.initialized RX0) (jWr_1 _ (List.mem_of_getElem? (i := 14) rfl))) (htw (.methodLink RX11 11 yX0_init) (jWr_3 _ (List.mem_of_getElem? (i := 1) rfl))) (htw (.instanceMethod yX0_init) (jWr_3 _ (List.mem_of_getElem? (i := 2) rfl))) rfl (by decide +kernel) ⟨by rw [← hR]; exact Nat.le_of_ble_eq_true rfl, by rw [← hR]; exact Nat.le_of_ble_eq_true rfl⟩) ⟨fun a U g mk q => by obtain ⟨q0, q1, q2, qK, q10, q11, q12, q13, q14, q15⟩ := q; exact ⟨q0, q1, q2, jG.calling g mk a qK, q10, q11, q12, q13, q14, q15⟩, fun U hU hW => ⟨rfl, hU, hh_483.2.1, hG.step hW hU hh_483.1, hraw_483, hnr_483, hbr_483, jP.nil, (hh_483.2.2.2.2.2.2.2.2.sub (L1 := [(jFy, jYb dC dI G_451)]) [8] rfl), (by omega), (by omega), ⟨(by first | omega | rfl | assumption | exact fun _ => ⟨4, by decide, by decide⟩), (by first | omega | rfl | assumption | exact fun _ => ⟨4, by decide, by decide⟩), (by first | omega | rfl | assumption | exact fun _ => ⟨4, by decide, by decide⟩), (by first | assumption | exact fun _ => ⟨4, by decide, by decide⟩ | omega), (by first | omega | rfl | assumption | exact fun _ => ⟨4, by decide, by decide⟩)⟩⟩⟩ rfl rfl hl.1 rfl (lv_room (Nat.le_of_ble_eq_true rfl)) dX11_init_162 ⟨by rw [hRc]; omega, by rw [hRs]; omega⟩) hh_483.1 (fun q _ h => h) (fun q h => h) (fun u_488 t_488 H_488 locs_488 ht_488 hvm_488 hr_489 hb_488 hz_488 hk_488 hS_488 => ?_)
  obtain ⟨qc_488, qa_488, m_qa_488, G_488⟩ := u_488
  rw [ht_488] at hb_488
  simp only at hb_488
  obtain ⟨⟨hb_4881, hb_4882, hb_4883, hb_4884, hb_4885, hb_4886⟩, hgq_488_0, hN_488, hgc_488, hbX_488, hbE_488⟩ := hb_488
  have hE9_488 := hN_488
  try have hn3_488 : jNk [3] G0 G_488 := (hn3_405).tr (hE9_488.sub (ks1 := [3]) (by decide))
  have hL_488 := hN_488
  have hM_488 := hN_488
  have hW_488 := hN_488
  have hN_488 : (jNk [0, 5, 10, 14, 15, 16, 17]) G_451 G_488 := hN_488.sub (by decide)
  have hh_488 : jSt (dC, dI) B base G0 G_488 EX11_initW s.heap (((((((((((((((((((((((((0 + 1) + (1)) + 1) + (1)) + 1) + (8)) + 1) + (1)) + 1) + (1)) + 1) + (24)) + 1) + (3)) + 1) + (0)) + 1) + (0)) + 1) + (0)) + 1) + 1) + (7)) + 1) + (1)) (((((((((((((((((((((((((0 + 2) + (4000)) + 12) + (3000)) + 12) + (12012)) + 2) + (20000)) + 2) + (1024)) + 11) + (38990)) + 5) + (826)) + 3) + (0)) + 3) + (0)) + 3) + (0)) + 2) + 17) + (1700)) + 2) + (256)) [(H_481.size, 2, 1, .int qc_488), (H_481.size, 2, 0, .ref qa_488), (H_444.size, 3, 10, .int qk_451), (H_444.size, 3, 4, .int qs_451), (H_444.size, 3, 3, .int ql_451), (H_192.size, 7, 0, .ref names_239), (H_192.size, 7, 2, .ref st_199), (H_153.size, 2, 1, .int qc_160), (H_153.size, 2, 0, .ref qa_160), (H_115.size, 2, 1, .int qc_122), (H_115.size, 2, 0, .ref qa_122), (H_35.size, 4, 4, .int qb_42), (H_35.size, 4, 5, .int qp_42), (H_35.size, 4, 6, .int qo_42), (H_35.size, 4, 2, .int qk_42), (H_35.size, 4, 8, .int qg_42), (H_35.size, 4, 9, .int ql_42), (H_35.size, 4, 10, .int qd_42), (H_35.size, 4, 11, .int qv_42), (H_35.size, 4, 7, .int qf_42), (H_35.size, 4, 0, .ref bd_42), (s.heap.size, 2, 1, .int qc_6), (s.heap.size, 2, 0, .ref qa_6)] [(bd_42, 100, m_bd_42, ca 0, gb_42)] [(jFdo, jDcc dC dI ca G_451 none (ph + 1500)), (jFcd, jCD dC dI ca G_451 none qtd_451), (jFkd, jKD dC dI ca G_451 none gK_451), (jFl, jLs dC dI ca G_451 3 none (((wl.s1 0 wl.2.1).s2 []).s3 [])), (jFs11, jSef dC dI G_451), (jFun, jUN dC dI ca G_451 0 qu_199 qr_199), (jFqd, jQD dC dI ca G_451 none qq), (jFib, jIB dC dI ca G_451 0 ib), ([(212, 0)], jQc dC dI (ca 5) H_403.size 2 (fun _ => none))] H_488 locs_488 := (hh_483.callG hb_4881 hb_4882 hb_4883 hb_4884 hb_4885 hS_488 rfl (L1 := [(H_444.size, 3, 10, .int qk_451), (H_444.size, 3, 4, .int qs_451), (H_444.size, 3, 3, .int ql_451), (H_192.size, 7, 0, .ref names_239), (H_192.size, 7, 2, .ref st_199), (H_153.size, 2, 1, .int qc_160), (H_153.size, 2, 0, .ref qa_160), (H_115.size, 2, 1, .int qc_122), (H_115.size, 2, 0, .ref qa_122), (H_35.size, 4, 4, .int qb_42), (H_35.size, 4, 5, .int qp_42), (H_35.size, 4, 6, .int qo_42), (H_35.size, 4, 2, .int qk_42), (H_35.size, 4, 8, .int qg_42), (H_35.size, 4, 9, .int ql_42), (H_35.size, 4, 10, .int qd_42), (H_35.size, 4, 11, .int qv_42), (H_35.size, 4, 7, .int qf_42), (H_35.size, 4, 0, .ref bd_42), (s.heap.size, 2, 1, .int qc_6), (s.heap.size, 2, 0, .ref qa_6)]) [0, 1, 2, 3, 4, 5, 6, 7, 8, 9, 10, 11, 12, 13, 14, 15, 16, 17, 18, 19, 20] rfl rfl (M1 := [(bd_42, 100, m_bd_42, ca 0, gb_42)]) [0] rfl rfl (I1 := [(jFdo, jDcc dC dI ca G_451 none (ph + 1500)), (jFcd, jCD dC dI ca G_451 none qtd_451), (jFkd, jKD dC dI ca G_451 none gK_451), (jFl, jLs dC dI ca G_451 3 none (((wl.s1 0 wl.2.1).s2 []).s3 [])), (jFs11, jSef dC dI G_451), (jFun, jUN dC dI ca G_451 0 qu_199 qr_199), (jFqd, jQD dC dI ca G_451 none qq), (jFib, jIB dC dI ca G_451 0 ib), ([(212, 0)], jQc dC dI (ca 5) H_403.size 2 (fun _ => none))]) [0, 1, 2, 3, 4, 5, 6, 7, 9] rfl rfl).more hb_4886
  have hNn_488 : (jNk [0, 5, 10, 14, 15, 16, 17]) G0 G_488 := (hNn_451).tr hN_488
  have hg_490 := hb_4882 _ _ hg_453
  have hg_491 := hb_4882 _ _ hg_454
  have hg_492 := hb_4882 _ _ hg_455
  have hg_493 := hb_4882 _ _ hg_456
  have hg_494 := hb_4882 _ _ hg_457
  have hg_495 := hb_4882 _ _ hg_458
  have hd_496 := jDcc.grow (hh_488.iv 0 rfl) hb_4882 hE9_488 (by decide)
  have hh_497 := hh_488.sub (L1 := [(H_481.size, 2, 1, .int qc_488), (H_481.size, 2, 0, .ref qa_488), (H_444.size, 3, 10, .int qk_451), (H_444.size, 3, 4, .int qs_451), (H_444.size, 3, 3, .int ql_451), (H_192.size, 7, 0, .ref names_239), (H_192.size, 7, 2, .ref st_199), (H_153.size, 2, 1, .int qc_160), (H_153.size, 2, 0, .ref qa_160), (H_115.size, 2, 1, .int qc_122), (H_115.size, 2, 0, .ref qa_122), (H_35.size, 4, 4, .int qb_42), (H_35.size, 4, 5, .int qp_42), (H_35.size, 4, 6, .int qo_42), (H_35.size, 4, 2, .int qk_42), (H_35.size, 4, 8, .int qg_42), (H_35.size, 4, 9, .int ql_42), (H_35.size, 4, 10, .int qd_42), (H_35.size, 4, 11, .int qv_42), (H_35.size, 4, 7, .int qf_42), (H_35.size, 4, 0, .ref bd_42), (s.heap.size, 2, 1, .int qc_6), (s.heap.size, 2, 0, .ref qa_6)]) [0, 1, 2, 3, 4, 5, 6, 7, 8, 9, 10, 11, 12, 13, 14, 15, 16, 17, 18, 19, 20, 21, 22] rfl (M1 := [(bd_42, 100, m_bd_42, ca 0, gb_42)]) [0] rfl (I1 := [(jFcd, jCD dC dI ca G_451 none qtd_451), (jFkd, jKD dC dI ca G_451 none gK_451), (jFl, jLs dC dI ca G_451 3 none (((wl.s1 0 wl.2.1).s2 []).s3 [])), (jFs11, jSef dC dI G_451), (jFun, jUN dC dI ca G_451 0 qu_199 qr_199), (jFqd, jQD dC dI ca G_451 none qq), (jFib, jIB dC dI ca G_451 0 ib), ([(212, 0)], jQc dC dI (ca 5) H_403.size 2 (fun _ => none))]) [1, 2, 3, 4, 5, 6, 7, 8] rfl
  clear hh_488
  have hh_498 := hh_497.addI (jDcc.ie hd_496)
  clear hh_497
  have hd_499 := jCD.grow (hh_498.iv 1 rfl) hb_4882 hE9_488 (by decide)
  have hh_500 := hh_498.sub (L1 := [(H_481.size, 2, 1, .int qc_488), (H_481.size, 2, 0, .ref qa_488), (H_444.size, 3, 10, .int qk_451), (H_444.size, 3, 4, .int qs_451), (H_444.size, 3, 3, .int ql_451), (H_192.size, 7, 0, .ref names_239), (H_192.size, 7, 2, .ref st_199), (H_153.size, 2, 1, .int qc_160), (H_153.size, 2, 0, .ref qa_160), (H_115.size, 2, 1, .int qc_122), (H_115.size, 2, 0, .ref qa_122), (H_35.size, 4, 4, .int qb_42), (H_35.size, 4, 5, .int qp_42), (H_35.size, 4, 6, .int qo_42), (H_35.size, 4, 2, .int qk_42), (H_35.size, 4, 8, .int qg_42), (H_35.size, 4, 9, .int ql_42), (H_35.size, 4, 10, .int qd_42), (H_35.size, 4, 11, .int qv_42), (H_35.size, 4, 7, .int qf_42), (H_35.size, 4, 0, .ref bd_42), (s.heap.size, 2, 1, .int qc_6), (s.heap.size, 2, 0, .ref qa_6)]) [0, 1, 2, 3, 4, 5, 6, 7, 8, 9, 10, 11, 12, 13, 14, 15, 16, 17, 18, 19, 20, 21, 22] rfl (M1 := [(bd_42, 100, m_bd_42, ca 0, gb_42)]) [0] rfl (I1 := [(jFdo, jDcc dC dI ca G_488 none (ph + 1500)), (jFkd, jKD dC dI ca G_451 none gK_451), (jFl, jLs dC dI ca G_451 3 none (((wl.s1 0 wl.2.1).s2 []).s3 [])), (jFs11, jSef dC dI G_451), (jFun, jUN dC dI ca G_451 0 qu_199 qr_199), (jFqd, jQD dC dI ca G_451 none qq), (jFib, jIB dC dI ca G_451 0 ib), ([(212, 0)], jQc dC dI (ca 5) H_403.size 2 (fun _ => none))]) [0, 2, 3, 4, 5, 6, 7, 8] rfl
  clear hh_498
  have hh_501 := hh_500.addI (jCD.ie hd_499)
  clear hh_500
  have hd_502 := jKD.grow (ca := ca) (hh_501.iv 2 rfl) hb_4882 hW_488 (by decide)
  have hh_503 := hh_501.sub (L1 := [(H_481.size, 2, 1, .int qc_488), (H_481.size, 2, 0, .ref qa_488), (H_444.size, 3, 10, .int qk_451), (H_444.size, 3, 4, .int qs_451), (H_444.size, 3, 3, .int ql_451), (H_192.size, 7, 0, .ref names_239), (H_192.size, 7, 2, .ref st_199), (H_153.size, 2, 1, .int qc_160), (H_153.size, 2, 0, .ref qa_160), (H_115.size, 2, 1, .int qc_122), (H_115.size, 2, 0, .ref qa_122), (H_35.size, 4, 4, .int qb_42), (H_35.size, 4, 5, .int qp_42), (H_35.size, 4, 6, .int qo_42), (H_35.size, 4, 2, .int qk_42), (H_35.size, 4, 8, .int qg_42), (H_35.size, 4, 9, .int ql_42), (H_35.size, 4, 10, .int qd_42), (H_35.size, 4, 11, .int qv_42), (H_35.size, 4, 7, .int qf_42), (H_35.size, 4, 0, .ref bd_42), (s.heap.size, 2, 1, .int qc_6), (s.heap.size, 2, 0, .ref qa_6)]) [0, 1, 2, 3, 4, 5, 6, 7, 8, 9, 10, 11, 12, 13, 14, 15, 16, 17, 18, 19, 20, 21, 22] rfl (M1 := [(bd_42, 100, m_bd_42, ca 0, gb_42)]) [0] rfl (I1 := [(jFcd, jCD dC dI ca G_488 none qtd_451), (jFdo, jDcc dC dI ca G_488 none (ph + 1500)), (jFl, jLs dC dI ca G_451 3 none (((wl.s1 0 wl.2.1).s2 []).s3 [])), (jFs11, jSef dC dI G_451), (jFun, jUN dC dI ca G_451 0 qu_199 qr_199), (jFqd, jQD dC dI ca G_451 none qq), (jFib, jIB dC dI ca G_451 0 ib), ([(212, 0)], jQc dC dI (ca 5) H_403.size 2 (fun _ => none))]) [0, 1, 3, 4, 5, 6, 7, 8] rfl
  clear hh_501
  have hh_504 := hh_503.addI (jKD.ie hd_502)
  clear hh_503
  have hd_505 := jLs.grow (hh_504.iv 3 rfl) hb_4882 hL_488 (by decide)
  have hh_506 := hh_504.sub (L1 := [(H_481.size, 2, 1, .int qc_488), (H_481.size, 2, 0, .ref qa_488), (H_444.size, 3, 10, .int qk_451), (H_444.size, 3, 4, .int qs_451), (H_444.size, 3, 3, .int ql_451), (H_192.size, 7, 0, .ref names_239), (H_192.size, 7, 2, .ref st_199), (H_153.size, 2, 1, .int qc_160), (H_153.size, 2, 0, .ref qa_160), (H_115.size, 2, 1, .int qc_122), (H_115.size, 2, 0, .ref qa_122), (H_35.size, 4, 4, .int qb_42), (H_35.size, 4, 5, .int qp_42), (H_35.size, 4, 6, .int qo_42), (H_35.size, 4, 2, .int qk_42), (H_35.size, 4, 8, .int qg_42), (H_35.size, 4, 9, .int ql_42), (H_35.size, 4, 10, .int qd_42), (H_35.size, 4, 11, .int qv_42), (H_35.size, 4, 7, .int qf_42), (H_35.size, 4, 0, .ref bd_42), (s.heap.size, 2, 1, .int qc_6), (s.heap.size, 2, 0, .ref qa_6)]) [0, 1, 2, 3, 4, 5, 6, 7, 8, 9, 10, 11, 12, 13, 14, 15, 16, 17, 18, 19, 20, 21, 22] rfl (M1 := [(bd_42, 100, m_bd_42, ca 0, gb_42)]) [0] rfl (I1 := [(jFkd, jKD dC dI ca G_488 none gK_451), (jFcd, jCD dC dI ca G_488 none qtd_451), (jFdo, jDcc dC dI ca G_488 none (ph + 1500)), (jFs11, jSef dC dI G_451), (jFun, jUN dC dI ca G_451 0 qu_199 qr_199), (jFqd, jQD dC dI ca G_451 none qq), (jFib, jIB dC dI ca G_451 0 ib), ([(212, 0)], jQc dC dI (ca 5) H_403.size 2 (fun _ => none))]) [0, 1, 2, 4, 5, 6, 7, 8] rfl
  clear hh_504
  have hh_507 := hh_506.addI (jLs.ie hd_505)
  clear hh_506
  have hd_508 := jSef.grow (hh_507.iv 4 rfl) hb_4882 hM_488 (by decide)
  have hh_509 := hh_507.sub (L1 := [(H_481.size, 2, 1, .int qc_488), (H_481.size, 2, 0, .ref qa_488), (H_444.size, 3, 10, .int qk_451), (H_444.size, 3, 4, .int qs_451), (H_444.size, 3, 3, .int ql_451), (H_192.size, 7, 0, .ref names_239), (H_192.size, 7, 2, .ref st_199), (H_153.size, 2, 1, .int qc_160), (H_153.size, 2, 0, .ref qa_160), (H_115.size, 2, 1, .int qc_122), (H_115.size, 2, 0, .ref qa_122), (H_35.size, 4, 4, .int qb_42), (H_35.size, 4, 5, .int qp_42), (H_35.size, 4, 6, .int qo_42), (H_35.size, 4, 2, .int qk_42), (H_35.size, 4, 8, .int qg_42), (H_35.size, 4, 9, .int ql_42), (H_35.size, 4, 10, .int qd_42), (H_35.size, 4, 11, .int qv_42), (H_35.size, 4, 7, .int qf_42), (H_35.size, 4, 0, .ref bd_42), (s.heap.size, 2, 1, .int qc_6), (s.heap.size, 2, 0, .ref qa_6)]) [0, 1, 2, 3, 4, 5, 6, 7, 8, 9, 10, 11, 12, 13, 14, 15, 16, 17, 18, 19, 20, 21, 22] rfl (M1 := [(bd_42, 100, m_bd_42, ca 0, gb_42)]) [0] rfl (I1 := [(jFl, jLs dC dI ca G_488 3 none (((wl.s1 0 wl.2.1).s2 []).s3 [])), (jFkd, jKD dC dI ca G_488 none gK_451), (jFcd, jCD dC dI ca G_488 none qtd_451), (jFdo, jDcc dC dI ca G_488 none (ph + 1500)), (jFun, jUN dC dI ca G_451 0 qu_199 qr_199), (jFqd, jQD dC dI ca G_451 none qq), (jFib, jIB dC dI ca G_451 0 ib), ([(212, 0)], jQc dC dI (ca 5) H_403.size 2 (fun _ => none))]) [0, 1, 2, 3, 5, 6, 7, 8] rfl
  clear hh_507
  have hh_510 := hh_509.addI (jSef.ie hd_508)
  clear hh_509
  have hd_511 := jUN.grow (r := 0) (hh_510.iv 5 rfl) hb_4882 hW_488 (by decide) (by decide)
  have hh_512 := hh_510.sub (L1 := [(H_481.size, 2, 1, .int qc_488), (H_481.size, 2, 0, .ref qa_488), (H_444.size, 3, 10, .int qk_451), (H_444.size, 3, 4, .int qs_451), (H_444.size, 3, 3, .int ql_451), (H_192.size, 7, 0, .ref names_239), (H_192.size, 7, 2, .ref st_199), (H_153.size, 2, 1, .int qc_160), (H_153.size, 2, 0, .ref qa_160), (H_115.size, 2, 1, .int qc_122), (H_115.size, 2, 0, .ref qa_122), (H_35.size, 4, 4, .int qb_42), (H_35.size, 4, 5, .int qp_42), (H_35.size, 4, 6, .int qo_42), (H_35.size, 4, 2, .int qk_42), (H_35.size, 4, 8, .int qg_42), (H_35.size, 4, 9, .int ql_42), (H_35.size, 4, 10, .int qd_42), (H_35.size, 4, 11, .int qv_42), (H_35.size, 4, 7, .int qf_42), (H_35.size, 4, 0, .ref bd_42), (s.heap.size, 2, 1, .int qc_6), (s.heap.size, 2, 0, .ref qa_6)]) [0, 1, 2, 3, 4, 5, 6, 7, 8, 9, 10, 11, 12, 13, 14, 15, 16, 17, 18, 19, 20, 21, 22] rfl (M1 := [(bd_42, 100, m_bd_42, ca 0, gb_42)]) [0] rfl (I1 := [(jFs11, jSef dC dI G_488), (jFl, jLs dC dI ca G_488 3 none (((wl.s1 0 wl.2.1).s2 []).s3 [])), (jFkd, jKD dC dI ca G_488 none gK_451), (jFcd, jCD dC dI ca G_488 none qtd_451), (jFdo, jDcc dC dI ca G_488 none (ph + 1500)), (jFqd, jQD dC dI ca G_451 none qq), (jFib, jIB dC dI ca G_451 0 ib), ([(212, 0)], jQc dC dI (ca 5) H_403.size 2 (fun _ => none))]) [0, 1, 2, 3, 4, 6, 7, 8] rfl
  clear hh_510
  have hh_513 := hh_512.addI (jUN.ie hd_511)
  clear hh_512
  have hd_514 := jQD.grow (ca := ca) (hh_513.iv 6 rfl) hb_4882 hW_488 (by decide)
  have hh_515 := hh_513.sub (L1 := [(H_481.size, 2, 1, .int qc_488), (H_481.size, 2, 0, .ref qa_488), (H_444.size, 3, 10, .int qk_451), (H_444.size, 3, 4, .int qs_451), (H_444.size, 3, 3, .int ql_451), (H_192.size, 7, 0, .ref names_239), (H_192.size, 7, 2, .ref st_199), (H_153.size, 2, 1, .int qc_160), (H_153.size, 2, 0, .ref qa_160), (H_115.size, 2, 1, .int qc_122), (H_115.size, 2, 0, .ref qa_122), (H_35.size, 4, 4, .int qb_42), (H_35.size, 4, 5, .int qp_42), (H_35.size, 4, 6, .int qo_42), (H_35.size, 4, 2, .int qk_42), (H_35.size, 4, 8, .int qg_42), (H_35.size, 4, 9, .int ql_42), (H_35.size, 4, 10, .int qd_42), (H_35.size, 4, 11, .int qv_42), (H_35.size, 4, 7, .int qf_42), (H_35.size, 4, 0, .ref bd_42), (s.heap.size, 2, 1, .int qc_6), (s.heap.size, 2, 0, .ref qa_6)]) [0, 1, 2, 3, 4, 5, 6, 7, 8, 9, 10, 11, 12, 13, 14, 15, 16, 17, 18, 19, 20, 21, 22] rfl (M1 := [(bd_42, 100, m_bd_42, ca 0, gb_42)]) [0] rfl (I1 := [(jFun, jUN dC dI ca G_488 0 qu_199 qr_199), (jFs11, jSef dC dI G_488), (jFl, jLs dC dI ca G_488 3 none (((wl.s1 0 wl.2.1).s2 []).s3 [])), (jFkd, jKD dC dI ca G_488 none gK_451), (jFcd, jCD dC dI ca G_488 none qtd_451), (jFdo, jDcc dC dI ca G_488 none (ph + 1500)), (jFib, jIB dC dI ca G_451 0 ib), ([(212, 0)], jQc dC dI (ca 5) H_403.size 2 (fun _ => none))]) [0, 1, 2, 3, 4, 5, 7, 8] rfl
  clear hh_513
  have hh_516 := hh_515.addI (jQD.ie hd_514)
  clear hh_515
  have hd_517 := jIB.grow (r := 0) (hh_516.iv 7 rfl) hb_4882 hW_488 (by decide)
  have hh_518 := hh_516.sub (L1 := [(H_481.size, 2, 1, .int qc_488), (H_481.size, 2, 0, .ref qa_488), (H_444.size, 3, 10, .int qk_451), (H_444.size, 3, 4, .int qs_451), (H_444.size, 3, 3, .int ql_451), (H_192.size, 7, 0, .ref names_239), (H_192.size, 7, 2, .ref st_199), (H_153.size, 2, 1, .int qc_160), (H_153.size, 2, 0, .ref qa_160), (H_115.size, 2, 1, .int qc_122), (H_115.size, 2, 0, .ref qa_122), (H_35.size, 4, 4, .int qb_42), (H_35.size, 4, 5, .int qp_42), (H_35.size, 4, 6, .int qo_42), (H_35.size, 4, 2, .int qk_42), (H_35.size, 4, 8, .int qg_42), (H_35.size, 4, 9, .int ql_42), (H_35.size, 4, 10, .int qd_42), (H_35.size, 4, 11, .int qv_42), (H_35.size, 4, 7, .int qf_42), (H_35.size, 4, 0, .ref bd_42), (s.heap.size, 2, 1, .int qc_6), (s.heap.size, 2, 0, .ref qa_6)]) [0, 1, 2, 3, 4, 5, 6, 7, 8, 9, 10, 11, 12, 13, 14, 15, 16, 17, 18, 19, 20, 21, 22] rfl (M1 := [(bd_42, 100, m_bd_42, ca 0, gb_42)]) [0] rfl (I1 := [(jFqd, jQD dC dI ca G_488 none qq), (jFun, jUN dC dI ca G_488 0 qu_199 qr_199), (jFs11, jSef dC dI G_488), (jFl, jLs dC dI ca G_488 3 none (((wl.s1 0 wl.2.1).s2 []).s3 [])), (jFkd, jKD dC dI ca G_488 none gK_451), (jFcd, jCD dC dI ca G_488 none qtd_451), (jFdo, jDcc dC dI ca G_488 none (ph + 1500)), ([(212, 0)], jQc dC dI (ca 5) H_403.size 2 (fun _ => none))]) [0, 1, 2, 3, 4, 5, 6, 8] rfl
  clear hh_516
  have hh_519 := hh_518.addI (jIB.ie hd_517)
  clear hh_518
  have hh_521 := hh_519.addIs hbE_488
  try simp only at hr_489
  obtain ⟨hr_489_0, hr_489_1⟩ := hr_489
  have hkp_522 := hkp_485.in hbX_488 hsy_483
  have hraw_523x := hbX_488.ke hraw_486.lt hne_487 hraw_486n
  clear hne_487
  have hraw_523 := hraw_486.kept hraw_523x.1
  refine j7_putRF hx hb hown hK hh_521 hB hAp hraw_523 hraw_523x.2 hbr0 (C := RX11) (T := TX11) (N := 19) rfl (i := 17) (by decide) (Nat.le_of_ble_eq_true rfl) hly_13_17 rfl hin2 rfl hlk_86 (ty := (.object "ProofServer$Bytes")) (v := .ref H_481.size) (by decide +kernel) rfl rfl dX11_init_165 (fun H_524 locs_524 hraw_524 hr_524 hh_524 => ?_)
  have hraw_524 : va_at (dC, dI) vwCl (r0, .inr (13, [.ref s.heap.size, .ref H_35.size, .ref H_75.size, .ref H_115.size, .ref H_153.size, .ref H_192.size, .ref H_229.size, .ref H_277.size, .ref H_319.size, .ref H_361.size, .ref H_403.size, .int 0, .int 0, .int 0, .int 0, .ref H_444.size, .null, .ref H_481.size, .int 0])) H_524 := hraw_524
  have hkp_525 := hkp_522.put hr_524
  clear hh_521
  have hiv9 := hr_452_3.iv hp0
  refine lv_aload_n hx hb dX11_init_168 rfl (lv_at hl 0 rfl) ?_
  refine lv_bipush (v := (-2)) hx hb dX11_init_169 (by decide) ?_
  refine j7_putR hx hb hown hK hh_524 hB hAp hraw_524 hraw_523x.2 hbr0 (C := RX11) (T := TX11) (N := 19) rfl (i := 18) (by decide) (Nat.le_of_ble_eq_true rfl) hly_13_18 rfl hlk_89 (ty := .int) (v := .int (-2)) (by decide +kernel) rfl rfl dX11_init_171 (fun H_526 locs_526 hraw_526 hr_526 hh_526 => ?_)
  have hraw_526 : va_at (dC, dI) vwCl (r0, .inr (13, [.ref s.heap.size, .ref H_35.size, .ref H_75.size, .ref H_115.size, .ref H_153.size, .ref H_192.size, .ref H_229.size, .ref H_277.size, .ref H_319.size, .ref H_361.size, .ref H_403.size, .int 0, .int 0, .int 0, .int 0, .ref H_444.size, .null, .ref H_481.size, .int (-2)])) H_526 := hraw_526
  have hkp_527 := hkp_525.put hr_526
  clear hh_524
  clear hsz_488 htt_488 hrc_488 hrs_488
  (try clear hb_4884); (try clear hb_4885); (try clear hz_488)
  have hsz_528 := hh_526.2.2.2.2.2.1
  have htt_528 := hh_526.2.2.2.2.2.2.1
  refine W.room (fun hrc_528 hrs_528 => ?_)
  refine W.widen (k := LC - s.heap.size) (n := LS - jTot s.heap) (by omega) (by omega) ?_
  rw [hQ]
  have hle_529 : jLe G_488 (va_up G_488 r0 (some (13, 0))) := jLe.typ hraw_523x.2
  have hg_530 := hle_529 _ _ hgq_488_0
  have hg_531 := hle_529 _ _ hg_490
  have hg_532 := hle_529 _ _ hg_491
  have hg_533 := hle_529 _ _ hg_492
  have hg_534 := hle_529 _ _ hg_493
  have hg_535 := hle_529 _ _ hg_494
  have hg_536 := hle_529 _ _ hg_495
  have hg_537 := ((((((((((((hb_422).tr hb_822).tr hb_1222).tr hb_1602).tr hb_1992).tr hb_2402).tr hb_2842).tr hb_3262).tr hb_3682).tr hle_405).tr hb_4512).tr hb_4882).tr hle_529 _ _ hgc_6
  have hg_538 := (((((((((((hb_822).tr hb_1222).tr hb_1602).tr hb_1992).tr hb_2402).tr hb_2842).tr hb_3262).tr hb_3682).tr hle_405).tr hb_4512).tr hb_4882).tr hle_529 _ _ hgc_42
  have hg_539 := ((((((((((hb_1222).tr hb_1602).tr hb_1992).tr hb_2402).tr hb_2842).tr hb_3262).tr hb_3682).tr hle_405).tr hb_4512).tr hb_4882).tr hle_529 _ _ hgc_82
  have hg_540 := (((((((((hb_1602).tr hb_1992).tr hb_2402).tr hb_2842).tr hb_3262).tr hb_3682).tr hle_405).tr hb_4512).tr hb_4882).tr hle_529 _ _ hgc_122
  have hg_541 := ((((((((hb_1992).tr hb_2402).tr hb_2842).tr hb_3262).tr hb_3682).tr hle_405).tr hb_4512).tr hb_4882).tr hle_529 _ _ hgc_160
  have hg_542 := (((((((hb_2402).tr hb_2842).tr hb_3262).tr hb_3682).tr hle_405).tr hb_4512).tr hb_4882).tr hle_529 _ _ hgc_199
  have hg_543 := ((((((hb_2842).tr hb_3262).tr hb_3682).tr hle_405).tr hb_4512).tr hb_4882).tr hle_529 _ _ hgc_240
  have hg_544 := (((((hb_3262).tr hb_3682).tr hle_405).tr hb_4512).tr hb_4882).tr hle_529 _ _ hgc_284
  have hg_545 := ((((hb_3682).tr hle_405).tr hb_4512).tr hb_4882).tr hle_529 _ _ hgc_326
  have hg_546 := (((hle_405).tr hb_4512).tr hb_4882).tr hle_529 _ _ hgc_368
  have hg_547 := ((hb_4512).tr hb_4882).tr hle_529 _ _ hgn_405
  have hg_548 := (hb_4882).tr hle_529 _ _ hgc_451
  have hg_549 := (jLe.rf).tr hle_529 _ _ hgc_488
  have hfa_529 : jRf (va_up G_488 r0 (some (13, 0))) 2 4000 (.ref s.heap.size) ∧ jRf (va_up G_488 r0 (some (13, 0))) 4 0 (.ref H_35.size) ∧ jRf (va_up G_488 r0 (some (13, 0))) 6 0 (.ref H_75.size) ∧ jRf (va_up G_488 r0 (some (13, 0))) 2 20000 (.ref H_115.size) ∧ jRf (va_up G_488 r0 (some (13, 0))) 2 0 (.ref H_153.size) ∧ jRf (va_up G_488 r0 (some (13, 0))) 7 0 (.ref H_192.size) ∧ jRf (va_up G_488 r0 (some (13, 0))) 9 0 (.ref H_229.size) ∧ jRf (va_up G_488 r0 (some (13, 0))) 1 1 (.ref H_277.size) ∧ jRf (va_up G_488 r0 (some (13, 0))) 1 2 (.ref H_319.size) ∧ jRf (va_up G_488 r0 (some (13, 0))) 1 3 (.ref H_361.size) ∧ jRf (va_up G_488 r0 (some (13, 0))) 212 2 (.ref H_403.size) ∧ jI 0 2 (.int 0) ∧ jIa (.int 0) ∧ jIa (.int 0) ∧ jIa (.int 0) ∧ jRf (va_up G_488 r0 (some (13, 0))) 3 1 (.ref H_444.size) ∧ jRn (va_up G_488 r0 (some (13, 0))) 3 1 (.null) ∧ jRf (va_up G_488 r0 (some (13, 0))) 2 0 (.ref H_481.size) ∧ jIa (.int (-2)) ∧ True := ⟨⟨_, rfl, hg_537⟩, ⟨_, rfl, hg_538⟩, ⟨_, rfl, hg_539⟩, ⟨_, rfl, hg_540⟩, ⟨_, rfl, hg_541⟩, ⟨_, rfl, hg_542⟩, ⟨_, rfl, hg_543⟩, ⟨_, rfl, hg_544⟩, ⟨_, rfl, hg_545⟩, ⟨_, rfl, hg_546⟩, ⟨_, rfl, hg_547⟩, ⟨_, rfl, by omega, by omega⟩, ⟨_, rfl⟩, ⟨_, rfl⟩, ⟨_, rfl⟩, ⟨_, rfl, hg_548⟩, Or.inl rfl, ⟨_, rfl, hg_549⟩, ⟨_, rfl⟩, trivial⟩
  have hh_529 := hh_526.typ (k := 13) (n := 0) hB hraw_523x.2 hbr0 hraw_526.lt (jOb.of (C := RX11) (T := TX11) (N := 19) (F := F13) hB13 rfl hraw_526 (show jFx (F13 0 (va_up G_488 r0 (some (13, 0)))) [.ref s.heap.size, .ref H_35.size, .ref H_75.size, .ref H_115.size, .ref H_153.size, .ref H_192.size, .ref H_229.size, .ref H_277.size, .ref H_319.size, .ref H_361.size, .ref H_403.size, .int 0, .int 0, .int 0, .int 0, .ref H_444.size, .null, .ref H_481.size, .int (-2)] from hfa_529))
  have hgn_529 : (va_up G_488 r0 (some (13, 0))) r0 = some (13, 0) := jUp_self
  have hN_529 : (jNk [0, 5, 10, 14, 15, 16, 17]) G_488 (va_up G_488 r0 (some (13, 0))) := jNk.new (by decide)
  have hNn_529 : (jNk [0, 5, 10, 14, 15, 16, 17]) G0 (va_up G_488 r0 (some (13, 0))) := (hNn_488).tr hN_529
  have hkp_550 := hkp_527.typ (t := some (13, 0))
  have hg_551 := (((((((((((((hb_422).tr hb_822).tr hb_1222).tr hb_1602).tr hb_1992).tr hb_2402).tr hb_2842).tr hb_3262).tr hb_3682).tr hle_405).tr hb_4512).tr hb_4882).tr hle_529) _ _ hgc_6
  have hg_552 := ((((((((((((hb_822).tr hb_1222).tr hb_1602).tr hb_1992).tr hb_2402).tr hb_2842).tr hb_3262).tr hb_3682).tr hle_405).tr hb_4512).tr hb_4882).tr hle_529) _ _ hgc_42
  have hg_553 := (((((((((hb_1992).tr hb_2402).tr hb_2842).tr hb_3262).tr hb_3682).tr hle_405).tr hb_4512).tr hb_4882).tr hle_529) _ _ hgc_160
  have hg_554 := (hle_529) _ _ hgc_488
  have hg_555 := ((((((((hb_2402).tr hb_2842).tr hb_3262).tr hb_3682).tr hle_405).tr hb_4512).tr hb_4882).tr hle_529) _ _ hgc_199
  have hg_556 := (((hb_4512).tr hb_4882).tr hle_529) _ _ hgn_405
  have hh_557 := hh_529.more (P1 := [(r0, 13, 11, .int 0), (r0, 13, 0, .ref s.heap.size), (r0, 13, 1, .ref H_35.size), (r0, 13, 4, .ref H_153.size), (r0, 13, 17, .ref H_481.size), (r0, 13, 5, .ref H_192.size), (r0, 13, 10, .ref H_403.size)]) (jP.cons hgn_529 (jf.raw (C := RX11) (T := TX11) (N := 19) rfl hraw_526 (i := 11) (by decide)) (jP.cons hgn_529 (jf.raw (C := RX11) (T := TX11) (N := 19) rfl hraw_526 (i := 0) (by decide)) (jP.cons hgn_529 (jf.raw (C := RX11) (T := TX11) (N := 19) rfl hraw_526 (i := 1) (by decide)) (jP.cons hgn_529 (jf.raw (C := RX11) (T := TX11) (N := 19) rfl hraw_526 (i := 4) (by decide)) (jP.cons hgn_529 (jf.raw (C := RX11) (T := TX11) (N := 19) rfl hraw_526 (i := 17) (by decide)) (jP.cons hgn_529 (jf.raw (C := RX11) (T := TX11) (N := 19) rfl hraw_526 (i := 5) (by decide)) (jP.cons hgn_529 (jf.raw (C := RX11) (T := TX11) (N := 19) rfl hraw_526 (i := 10) (by decide)) jP.nil)))))))
  have hM_529 : jNk [1, 2, 3, 11] G_488 (va_up G_488 r0 (some (13, 0))) := jNk.new (by decide)
  have hW_529 : jNk [0, 1, 2, 3, 4, 5, 6, 7, 8, 9, 10, 11, 12, 14, 15, 16, 17, 175] G_488 (va_up G_488 r0 (some (13, 0))) := jNk.new (by decide)
  have hd_558 := jYb.grow (hh_557.iv 0 rfl) hle_529 hM_529 (by decide)
  have hh_559 := hh_557.sub (L1 := [(r0, 13, 11, .int 0), (r0, 13, 0, .ref s.heap.size), (r0, 13, 1, .ref H_35.size), (r0, 13, 4, .ref H_153.size), (r0, 13, 17, .ref H_481.size), (r0, 13, 5, .ref H_192.size), (r0, 13, 10, .ref H_403.size), (H_481.size, 2, 1, .int qc_488), (H_481.size, 2, 0, .ref qa_488), (H_444.size, 3, 10, .int qk_451), (H_444.size, 3, 4, .int qs_451), (H_444.size, 3, 3, .int ql_451), (H_192.size, 7, 0, .ref names_239), (H_192.size, 7, 2, .ref st_199), (H_153.size, 2, 1, .int qc_160), (H_153.size, 2, 0, .ref qa_160), (H_115.size, 2, 1, .int qc_122), (H_115.size, 2, 0, .ref qa_122), (H_35.size, 4, 4, .int qb_42), (H_35.size, 4, 5, .int qp_42), (H_35.size, 4, 6, .int qo_42), (H_35.size, 4, 2, .int qk_42), (H_35.size, 4, 8, .int qg_42), (H_35.size, 4, 9, .int ql_42), (H_35.size, 4, 10, .int qd_42), (H_35.size, 4, 11, .int qv_42), (H_35.size, 4, 7, .int qf_42), (H_35.size, 4, 0, .ref bd_42), (s.heap.size, 2, 1, .int qc_6), (s.heap.size, 2, 0, .ref qa_6)]) [0, 1, 2, 3, 4, 5, 6, 7, 8, 9, 10, 11, 12, 13, 14, 15, 16, 17, 18, 19, 20, 21, 22, 23, 24, 25, 26, 27, 28, 29] rfl (M1 := [(bd_42, 100, m_bd_42, ca 0, gb_42)]) [0] rfl (I1 := [(jFib, jIB dC dI ca G_488 0 ib), (jFqd, jQD dC dI ca G_488 none qq), (jFun, jUN dC dI ca G_488 0 qu_199 qr_199), (jFs11, jSef dC dI G_488), (jFl, jLs dC dI ca G_488 3 none (((wl.s1 0 wl.2.1).s2 []).s3 [])), (jFkd, jKD dC dI ca G_488 none gK_451), (jFcd, jCD dC dI ca G_488 none qtd_451), (jFdo, jDcc dC dI ca G_488 none (ph + 1500)), ([(212, 0)], jQc dC dI (ca 5) H_403.size 2 (fun _ => none))]) [1, 2, 3, 4, 5, 6, 7, 8, 9] rfl
  clear hh_557
  have hh_560 := hh_559.addI (jYb.ie hd_558)
  clear hh_559
  have hd_561 := jIB.grow (r := 0) (hh_560.iv 1 rfl) hle_529 hW_529 (by decide)
  have hh_562 := hh_560.sub (L1 := [(r0, 13, 11, .int 0), (r0, 13, 0, .ref s.heap.size), (r0, 13, 1, .ref H_35.size), (r0, 13, 4, .ref H_153.size), (r0, 13, 17, .ref H_481.size), (r0, 13, 5, .ref H_192.size), (r0, 13, 10, .ref H_403.size), (H_481.size, 2, 1, .int qc_488), (H_481.size, 2, 0, .ref qa_488), (H_444.size, 3, 10, .int qk_451), (H_444.size, 3, 4, .int qs_451), (H_444.size, 3, 3, .int ql_451), (H_192.size, 7, 0, .ref names_239), (H_192.size, 7, 2, .ref st_199), (H_153.size, 2, 1, .int qc_160), (H_153.size, 2, 0, .ref qa_160), (H_115.size, 2, 1, .int qc_122), (H_115.size, 2, 0, .ref qa_122), (H_35.size, 4, 4, .int qb_42), (H_35.size, 4, 5, .int qp_42), (H_35.size, 4, 6, .int qo_42), (H_35.size, 4, 2, .int qk_42), (H_35.size, 4, 8, .int qg_42), (H_35.size, 4, 9, .int ql_42), (H_35.size, 4, 10, .int qd_42), (H_35.size, 4, 11, .int qv_42), (H_35.size, 4, 7, .int qf_42), (H_35.size, 4, 0, .ref bd_42), (s.heap.size, 2, 1, .int qc_6), (s.heap.size, 2, 0, .ref qa_6)]) [0, 1, 2, 3, 4, 5, 6, 7, 8, 9, 10, 11, 12, 13, 14, 15, 16, 17, 18, 19, 20, 21, 22, 23, 24, 25, 26, 27, 28, 29] rfl (M1 := [(bd_42, 100, m_bd_42, ca 0, gb_42)]) [0] rfl (I1 := [(jFy, jYb dC dI (va_up G_488 r0 (some (13, 0)))), (jFqd, jQD dC dI ca G_488 none qq), (jFun, jUN dC dI ca G_488 0 qu_199 qr_199), (jFs11, jSef dC dI G_488), (jFl, jLs dC dI ca G_488 3 none (((wl.s1 0 wl.2.1).s2 []).s3 [])), (jFkd, jKD dC dI ca G_488 none gK_451), (jFcd, jCD dC dI ca G_488 none qtd_451), (jFdo, jDcc dC dI ca G_488 none (ph + 1500)), ([(212, 0)], jQc dC dI (ca 5) H_403.size 2 (fun _ => none))]) [0, 2, 3, 4, 5, 6, 7, 8, 9] rfl
  clear hh_560
  have hh_563 := hh_562.addI (jIB.ie hd_561)
  clear hh_562
  have hd_564 := jQD.grow (ca := ca) (hh_563.iv 2 rfl) hle_529 hW_529 (by decide)
  have hh_565 := hh_563.sub (L1 := [(r0, 13, 11, .int 0), (r0, 13, 0, .ref s.heap.size), (r0, 13, 1, .ref H_35.size), (r0, 13, 4, .ref H_153.size), (r0, 13, 17, .ref H_481.size), (r0, 13, 5, .ref H_192.size), (r0, 13, 10, .ref H_403.size), (H_481.size, 2, 1, .int qc_488), (H_481.size, 2, 0, .ref qa_488), (H_444.size, 3, 10, .int qk_451), (H_444.size, 3, 4, .int qs_451), (H_444.size, 3, 3, .int ql_451), (H_192.size, 7, 0, .ref names_239), (H_192.size, 7, 2, .ref st_199), (H_153.size, 2, 1, .int qc_160), (H_153.size, 2, 0, .ref qa_160), (H_115.size, 2, 1, .int qc_122), (H_115.size, 2, 0, .ref qa_122), (H_35.size, 4, 4, .int qb_42), (H_35.size, 4, 5, .int qp_42), (H_35.size, 4, 6, .int qo_42), (H_35.size, 4, 2, .int qk_42), (H_35.size, 4, 8, .int qg_42), (H_35.size, 4, 9, .int ql_42), (H_35.size, 4, 10, .int qd_42), (H_35.size, 4, 11, .int qv_42), (H_35.size, 4, 7, .int qf_42), (H_35.size, 4, 0, .ref bd_42), (s.heap.size, 2, 1, .int qc_6), (s.heap.size, 2, 0, .ref qa_6)]) [0, 1, 2, 3, 4, 5, 6, 7, 8, 9, 10, 11, 12, 13, 14, 15, 16, 17, 18, 19, 20, 21, 22, 23, 24, 25, 26, 27, 28, 29] rfl (M1 := [(bd_42, 100, m_bd_42, ca 0, gb_42)]) [0] rfl (I1 := [(jFib, jIB dC dI ca (va_up G_488 r0 (some (13, 0))) 0 ib), (jFy, jYb dC dI (va_up G_488 r0 (some (13, 0)))), (jFun, jUN dC dI ca G_488 0 qu_199 qr_199), (jFs11, jSef dC dI G_488), (jFl, jLs dC dI ca G_488 3 none (((wl.s1 0 wl.2.1).s2 []).s3 [])), (jFkd, jKD dC dI ca G_488 none gK_451), (jFcd, jCD dC dI ca G_488 none qtd_451), (jFdo, jDcc dC dI ca G_488 none (ph + 1500)), ([(212, 0)], jQc dC dI (ca 5) H_403.size 2 (fun _ => none))]) [0, 1, 3, 4, 5, 6, 7, 8, 9] rfl
  clear hh_563
  have hh_566 := hh_565.addI (jQD.ie hd_564)
  clear hh_565
  have hd_567 := jUN.grow (r := 0) (hh_566.iv 3 rfl) hle_529 hW_529 (by decide) (by decide)
  have hh_568 := hh_566.sub (L1 := [(r0, 13, 11, .int 0), (r0, 13, 0, .ref s.heap.size), (r0, 13, 1, .ref H_35.size), (r0, 13, 4, .ref H_153.size), (r0, 13, 17, .ref H_481.size), (r0, 13, 5, .ref H_192.size), (r0, 13, 10, .ref H_403.size), (H_481.size, 2, 1, .int qc_488), (H_481.size, 2, 0, .ref qa_488), (H_444.size, 3, 10, .int qk_451), (H_444.size, 3, 4, .int qs_451), (H_444.size, 3, 3, .int ql_451), (H_192.size, 7, 0, .ref names_239), (H_192.size, 7, 2, .ref st_199), (H_153.size, 2, 1, .int qc_160), (H_153.size, 2, 0, .ref qa_160), (H_115.size, 2, 1, .int qc_122), (H_115.size, 2, 0, .ref qa_122), (H_35.size, 4, 4, .int qb_42), (H_35.size, 4, 5, .int qp_42), (H_35.size, 4, 6, .int qo_42), (H_35.size, 4, 2, .int qk_42), (H_35.size, 4, 8, .int qg_42), (H_35.size, 4, 9, .int ql_42), (H_35.size, 4, 10, .int qd_42), (H_35.size, 4, 11, .int qv_42), (H_35.size, 4, 7, .int qf_42), (H_35.size, 4, 0, .ref bd_42), (s.heap.size, 2, 1, .int qc_6), (s.heap.size, 2, 0, .ref qa_6)]) [0, 1, 2, 3, 4, 5, 6, 7, 8, 9, 10, 11, 12, 13, 14, 15, 16, 17, 18, 19, 20, 21, 22, 23, 24, 25, 26, 27, 28, 29] rfl (M1 := [(bd_42, 100, m_bd_42, ca 0, gb_42)]) [0] rfl (I1 := [(jFqd, jQD dC dI ca (va_up G_488 r0 (some (13, 0))) none qq), (jFib, jIB dC dI ca (va_up G_488 r0 (some (13, 0))) 0 ib), (jFy, jYb dC dI (va_up G_488 r0 (some (13, 0)))), (jFs11, jSef dC dI G_488), (jFl, jLs dC dI ca G_488 3 none (((wl.s1 0 wl.2.1).s2 []).s3 [])), (jFkd, jKD dC dI ca G_488 none gK_451), (jFcd, jCD dC dI ca G_488 none qtd_451), (jFdo, jDcc dC dI ca G_488 none (ph + 1500)), ([(212, 0)], jQc dC dI (ca 5) H_403.size 2 (fun _ => none))]) [0, 1, 2, 4, 5, 6, 7, 8, 9] rfl
  clear hh_566
  have hh_569 := hh_568.addI (jUN.ie hd_567)
  clear hh_568
  have hd_570 := jSef.grow (hh_569.iv 4 rfl) hle_529 hM_529 (by decide)
  have hh_571 := hh_569.sub (L1 := [(r0, 13, 11, .int 0), (r0, 13, 0, .ref s.heap.size), (r0, 13, 1, .ref H_35.size), (r0, 13, 4, .ref H_153.size), (r0, 13, 17, .ref H_481.size), (r0, 13, 5, .ref H_192.size), (r0, 13, 10, .ref H_403.size), (H_481.size, 2, 1, .int qc_488), (H_481.size, 2, 0, .ref qa_488), (H_444.size, 3, 10, .int qk_451), (H_444.size, 3, 4, .int qs_451), (H_444.size, 3, 3, .int ql_451), (H_192.size, 7, 0, .ref names_239), (H_192.size, 7, 2, .ref st_199), (H_153.size, 2, 1, .int qc_160), (H_153.size, 2, 0, .ref qa_160), (H_115.size, 2, 1, .int qc_122), (H_115.size, 2, 0, .ref qa_122), (H_35.size, 4, 4, .int qb_42), (H_35.size, 4, 5, .int qp_42), (H_35.size, 4, 6, .int qo_42), (H_35.size, 4, 2, .int qk_42), (H_35.size, 4, 8, .int qg_42), (H_35.size, 4, 9, .int ql_42), (H_35.size, 4, 10, .int qd_42), (H_35.size, 4, 11, .int qv_42), (H_35.size, 4, 7, .int qf_42), (H_35.size, 4, 0, .ref bd_42), (s.heap.size, 2, 1, .int qc_6), (s.heap.size, 2, 0, .ref qa_6)]) [0, 1, 2, 3, 4, 5, 6, 7, 8, 9, 10, 11, 12, 13, 14, 15, 16, 17, 18, 19, 20, 21, 22, 23, 24, 25, 26, 27, 28, 29] rfl (M1 := [(bd_42, 100, m_bd_42, ca 0, gb_42)]) [0] rfl (I1 := [(jFun, jUN dC dI ca (va_up G_488 r0 (some (13, 0))) 0 qu_199 qr_199), (jFqd, jQD dC dI ca (va_up G_488 r0 (some (13, 0))) none qq), (jFib, jIB dC dI ca (va_up G_488 r0 (some (13, 0))) 0 ib), (jFy, jYb dC dI (va_up G_488 r0 (some (13, 0)))), (jFl, jLs dC dI ca G_488 3 none (((wl.s1 0 wl.2.1).s2 []).s3 [])), (jFkd, jKD dC dI ca G_488 none gK_451), (jFcd, jCD dC dI ca G_488 none qtd_451), (jFdo, jDcc dC dI ca G_488 none (ph + 1500)), ([(212, 0)], jQc dC dI (ca 5) H_403.size 2 (fun _ => none))]) [0, 1, 2, 3, 5, 6, 7, 8, 9] rfl
  clear hh_569
  have hh_572 := hh_571.addI (jSef.ie hd_570)
  clear hh_571
  have hd_573 := jLs.grow (hh_572.iv 5 rfl) hle_529 hM_529 (by decide)
  have hh_574 := hh_572.sub (L1 := [(r0, 13, 11, .int 0), (r0, 13, 0, .ref s.heap.size), (r0, 13, 1, .ref H_35.size), (r0, 13, 4, .ref H_153.size), (r0, 13, 17, .ref H_481.size), (r0, 13, 5, .ref H_192.size), (r0, 13, 10, .ref H_403.size), (H_481.size, 2, 1, .int qc_488), (H_481.size, 2, 0, .ref qa_488), (H_444.size, 3, 10, .int qk_451), (H_444.size, 3, 4, .int qs_451), (H_444.size, 3, 3, .int ql_451), (H_192.size, 7, 0, .ref names_239), (H_192.size, 7, 2, .ref st_199), (H_153.size, 2, 1, .int qc_160), (H_153.size, 2, 0, .ref qa_160), (H_115.size, 2, 1, .int qc_122), (H_115.size, 2, 0, .ref qa_122), (H_35.size, 4, 4, .int qb_42), (H_35.size, 4, 5, .int qp_42), (H_35.size, 4, 6, .int qo_42), (H_35.size, 4, 2, .int qk_42), (H_35.size, 4, 8, .int qg_42), (H_35.size, 4, 9, .int ql_42), (H_35.size, 4, 10, .int qd_42), (H_35.size, 4, 11, .int qv_42), (H_35.size, 4, 7, .int qf_42), (H_35.size, 4, 0, .ref bd_42), (s.heap.size, 2, 1, .int qc_6), (s.heap.size, 2, 0, .ref qa_6)]) [0, 1, 2, 3, 4, 5, 6, 7, 8, 9, 10, 11, 12, 13, 14, 15, 16, 17, 18, 19, 20, 21, 22, 23, 24, 25, 26, 27, 28, 29] rfl (M1 := [(bd_42, 100, m_bd_42, ca 0, gb_42)]) [0] rfl (I1 := [(jFs11, jSef dC dI (va_up G_488 r0 (some (13, 0)))), (jFun, jUN dC dI ca (va_up G_488 r0 (some (13, 0))) 0 qu_199 qr_199), (jFqd, jQD dC dI ca (va_up G_488 r0 (some (13, 0))) none qq), (jFib, jIB dC dI ca (va_up G_488 r0 (some (13, 0))) 0 ib), (jFy, jYb dC dI (va_up G_488 r0 (some (13, 0)))), (jFkd, jKD dC dI ca G_488 none gK_451), (jFcd, jCD dC dI ca G_488 none qtd_451), (jFdo, jDcc dC dI ca G_488 none (ph + 1500)), ([(212, 0)], jQc dC dI (ca 5) H_403.size 2 (fun _ => none))]) [0, 1, 2, 3, 4, 6, 7, 8, 9] rfl
  clear hh_572
  have hh_575 := hh_574.addI (jLs.ie hd_573)
  clear hh_574
  have hd_576 := jKD.grow (ca := ca) (hh_575.iv 6 rfl) hle_529 hW_529 (by decide)
  have hh_577 := hh_575.sub (L1 := [(r0, 13, 11, .int 0), (r0, 13, 0, .ref s.heap.size), (r0, 13, 1, .ref H_35.size), (r0, 13, 4, .ref H_153.size), (r0, 13, 17, .ref H_481.size), (r0, 13, 5, .ref H_192.size), (r0, 13, 10, .ref H_403.size), (H_481.size, 2, 1, .int qc_488), (H_481.size, 2, 0, .ref qa_488), (H_444.size, 3, 10, .int qk_451), (H_444.size, 3, 4, .int qs_451), (H_444.size, 3, 3, .int ql_451), (H_192.size, 7, 0, .ref names_239), (H_192.size, 7, 2, .ref st_199), (H_153.size, 2, 1, .int qc_160), (H_153.size, 2, 0, .ref qa_160), (H_115.size, 2, 1, .int qc_122), (H_115.size, 2, 0, .ref qa_122), (H_35.size, 4, 4, .int qb_42), (H_35.size, 4, 5, .int qp_42), (H_35.size, 4, 6, .int qo_42), (H_35.size, 4, 2, .int qk_42), (H_35.size, 4, 8, .int qg_42), (H_35.size, 4, 9, .int ql_42), (H_35.size, 4, 10, .int qd_42), (H_35.size, 4, 11, .int qv_42), (H_35.size, 4, 7, .int qf_42), (H_35.size, 4, 0, .ref bd_42), (s.heap.size, 2, 1, .int qc_6), (s.heap.size, 2, 0, .ref qa_6)]) [0, 1, 2, 3, 4, 5, 6, 7, 8, 9, 10, 11, 12, 13, 14, 15, 16, 17, 18, 19, 20, 21, 22, 23, 24, 25, 26, 27, 28, 29] rfl (M1 := [(bd_42, 100, m_bd_42, ca 0, gb_42)]) [0] rfl (I1 := [(jFl, jLs dC dI ca (va_up G_488 r0 (some (13, 0))) 3 none (((wl.s1 0 wl.2.1).s2 []).s3 [])), (jFs11, jSef dC dI (va_up G_488 r0 (some (13, 0)))), (jFun, jUN dC dI ca (va_up G_488 r0 (some (13, 0))) 0 qu_199 qr_199), (jFqd, jQD dC dI ca (va_up G_488 r0 (some (13, 0))) none qq), (jFib, jIB dC dI ca (va_up G_488 r0 (some (13, 0))) 0 ib), (jFy, jYb dC dI (va_up G_488 r0 (some (13, 0)))), (jFcd, jCD dC dI ca G_488 none qtd_451), (jFdo, jDcc dC dI ca G_488 none (ph + 1500)), ([(212, 0)], jQc dC dI (ca 5) H_403.size 2 (fun _ => none))]) [0, 1, 2, 3, 4, 5, 7, 8, 9] rfl
  clear hh_575
  have hh_578 := hh_577.addI (jKD.ie hd_576)
  clear hh_577
  have hd_579 := jCD.grow (hh_578.iv 7 rfl) hle_529 hM_529 (by decide)
  have hh_580 := hh_578.sub (L1 := [(r0, 13, 11, .int 0), (r0, 13, 0, .ref s.heap.size), (r0, 13, 1, .ref H_35.size), (r0, 13, 4, .ref H_153.size), (r0, 13, 17, .ref H_481.size), (r0, 13, 5, .ref H_192.size), (r0, 13, 10, .ref H_403.size), (H_481.size, 2, 1, .int qc_488), (H_481.size, 2, 0, .ref qa_488), (H_444.size, 3, 10, .int qk_451), (H_444.size, 3, 4, .int qs_451), (H_444.size, 3, 3, .int ql_451), (H_192.size, 7, 0, .ref names_239), (H_192.size, 7, 2, .ref st_199), (H_153.size, 2, 1, .int qc_160), (H_153.size, 2, 0, .ref qa_160), (H_115.size, 2, 1, .int qc_122), (H_115.size, 2, 0, .ref qa_122), (H_35.size, 4, 4, .int qb_42), (H_35.size, 4, 5, .int qp_42), (H_35.size, 4, 6, .int qo_42), (H_35.size, 4, 2, .int qk_42), (H_35.size, 4, 8, .int qg_42), (H_35.size, 4, 9, .int ql_42), (H_35.size, 4, 10, .int qd_42), (H_35.size, 4, 11, .int qv_42), (H_35.size, 4, 7, .int qf_42), (H_35.size, 4, 0, .ref bd_42), (s.heap.size, 2, 1, .int qc_6), (s.heap.size, 2, 0, .ref qa_6)]) [0, 1, 2, 3, 4, 5, 6, 7, 8, 9, 10, 11, 12, 13, 14, 15, 16, 17, 18, 19, 20, 21, 22, 23, 24, 25, 26, 27, 28, 29] rfl (M1 := [(bd_42, 100, m_bd_42, ca 0, gb_42)]) [0] rfl (I1 := [(jFkd, jKD dC dI ca (va_up G_488 r0 (some (13, 0))) none gK_451), (jFl, jLs dC dI ca (va_up G_488 r0 (some (13, 0))) 3 none (((wl.s1 0 wl.2.1).s2 []).s3 [])), (jFs11, jSef dC dI (va_up G_488 r0 (some (13, 0)))), (jFun, jUN dC dI ca (va_up G_488 r0 (some (13, 0))) 0 qu_199 qr_199), (jFqd, jQD dC dI ca (va_up G_488 r0 (some (13, 0))) none qq), (jFib, jIB dC dI ca (va_up G_488 r0 (some (13, 0))) 0 ib), (jFy, jYb dC dI (va_up G_488 r0 (some (13, 0)))), (jFdo, jDcc dC dI ca G_488 none (ph + 1500)), ([(212, 0)], jQc dC dI (ca 5) H_403.size 2 (fun _ => none))]) [0, 1, 2, 3, 4, 5, 6, 8, 9] rfl
  clear hh_578
  have hh_581 := hh_580.addI (jCD.ie hd_579)
  clear hh_580
  have hd_582 := jDcc.grow (hh_581.iv 8 rfl) hle_529 hM_529 (by decide)
  have hh_583 := hh_581.sub (L1 := [(r0, 13, 11, .int 0), (r0, 13, 0, .ref s.heap.size), (r0, 13, 1, .ref H_35.size), (r0, 13, 4, .ref H_153.size), (r0, 13, 17, .ref H_481.size), (r0, 13, 5, .ref H_192.size), (r0, 13, 10, .ref H_403.size), (H_481.size, 2, 1, .int qc_488), (H_481.size, 2, 0, .ref qa_488), (H_444.size, 3, 10, .int qk_451), (H_444.size, 3, 4, .int qs_451), (H_444.size, 3, 3, .int ql_451), (H_192.size, 7, 0, .ref names_239), (H_192.size, 7, 2, .ref st_199), (H_153.size, 2, 1, .int qc_160), (H_153.size, 2, 0, .ref qa_160), (H_115.size, 2, 1, .int qc_122), (H_115.size, 2, 0, .ref qa_122), (H_35.size, 4, 4, .int qb_42), (H_35.size, 4, 5, .int qp_42), (H_35.size, 4, 6, .int qo_42), (H_35.size, 4, 2, .int qk_42), (H_35.size, 4, 8, .int qg_42), (H_35.size, 4, 9, .int ql_42), (H_35.size, 4, 10, .int qd_42), (H_35.size, 4, 11, .int qv_42), (H_35.size, 4, 7, .int qf_42), (H_35.size, 4, 0, .ref bd_42), (s.heap.size, 2, 1, .int qc_6), (s.heap.size, 2, 0, .ref qa_6)]) [0, 1, 2, 3, 4, 5, 6, 7, 8, 9, 10, 11, 12, 13, 14, 15, 16, 17, 18, 19, 20, 21, 22, 23, 24, 25, 26, 27, 28, 29] rfl (M1 := [(bd_42, 100, m_bd_42, ca 0, gb_42)]) [0] rfl (I1 := [(jFcd, jCD dC dI ca (va_up G_488 r0 (some (13, 0))) none qtd_451), (jFkd, jKD dC dI ca (va_up G_488 r0 (some (13, 0))) none gK_451), (jFl, jLs dC dI ca (va_up G_488 r0 (some (13, 0))) 3 none (((wl.s1 0 wl.2.1).s2 []).s3 [])), (jFs11, jSef dC dI (va_up G_488 r0 (some (13, 0)))), (jFun, jUN dC dI ca (va_up G_488 r0 (some (13, 0))) 0 qu_199 qr_199), (jFqd, jQD dC dI ca (va_up G_488 r0 (some (13, 0))) none qq), (jFib, jIB dC dI ca (va_up G_488 r0 (some (13, 0))) 0 ib), (jFy, jYb dC dI (va_up G_488 r0 (some (13, 0)))), ([(212, 0)], jQc dC dI (ca 5) H_403.size 2 (fun _ => none))]) [0, 1, 2, 3, 4, 5, 6, 7, 9] rfl
  clear hh_581
  have hh_584 := hh_583.addI (jDcc.ie hd_582)
  clear hh_583
  have hCf9 : jCZ dC dI ca (va_up G_488 r0 (some (13, 0))) r0 (0, fun _ => jdDz) jwZ0 H_526 := jCZ.z0 hgn_529 (hh_584.iv 1 rfl) (hh_584.iv 2 rfl) (hh_584.iv 3 rfl) (hh_584.at 6 rfl) hg_556 (hh_584.iv 9 rfl) (hh_584.iv 5 rfl) (hh_584.iv 6 rfl) (hh_584.iv 7 rfl) (hh_584.at 5 rfl) hg_555 (hh_584.at 13 rfl) (hiv9.cg0 rfl rfl) rfl rfl rfl (fun _ _ => rfl) (by have h9 := hg_532; have e9 : m_st_199 = 0 := (by have h8 := hr_200_0; omega); rw [e9] at h9; exact h9) hr_200_1
  exact W.vret hx hb hr (fun t ht hW => ⟨⟨(qc_6, qb_42, qp_42, qo_42, qk_42, qg_42, ql_42, qd_42, qv_42, qf_42, 0, s.heap.size, 4000, H_35.size, 0, H_153.size, 0, H_481.size, 0, bd_42, m_bd_42, gb_42, qtd_451, gK_451, qu_199, qr_199, (va_up G_488 r0 (some (13, 0)))), rfl, by (try dsimp only); exact ⟨(by first | omega | rfl | assumption | fail), (by first | omega | rfl | assumption | fail), (by first | omega | rfl | assumption | fail), (by first | omega | rfl | assumption | fail), (by first | omega | rfl | assumption | fail), (by first | omega | rfl | assumption | fail), (by first | omega | rfl | assumption | fail), (by first | omega | rfl | assumption | fail), (by first | omega | rfl | assumption | fail), (by first | omega | rfl | assumption | fail), (by first | omega | rfl | assumption | fail), (by first | omega | rfl | assumption | fail), (by first | omega | rfl | assumption | fail), (by first | omega | rfl | assumption | fail), (by first | omega | rfl | assumption | fail), (by first | omega | rfl | assumption | fail), (by first | omega | rfl | assumption | fail), (by first | omega | rfl | assumption | fail), (by first | assumption | fail | omega)⟩, ⟨hh_584.ra (by first | (simp only; omega) | omega) (by first | (simp only; omega) | omega) (M1 := [(s.heap.size, 2, 1, .int qc_6), (H_35.size, 4, 4, .int qb_42), (H_35.size, 4, 5, .int qp_42), (H_35.size, 4, 6, .int qo_42), (H_35.size, 4, 2, .int qk_42), (H_35.size, 4, 8, .int qg_42), (H_35.size, 4, 9, .int ql_42), (H_35.size, 4, 10, .int qd_42), (H_35.size, 4, 11, .int qv_42), (H_35.size, 4, 7, .int qf_42), (r0, 13, 11, .int 0), (r0, 13, 0, .ref s.heap.size), (r0, 13, 1, .ref H_35.size), (r0, 13, 4, .ref H_153.size), (r0, 13, 17, .ref H_481.size), (H_35.size, 4, 0, .ref bd_42)]) [28, 18, 19, 20, 21, 22, 23, 24, 25, 26, 0, 1, 2, 3, 4, 27] rfl ht, hg_551, hg_552, hg_553, hg_554, hg_535, hNn_529, hgn_529, by rw [ht]; exact hkp_550, by rw [ht]; exact hh_584.2.2.2.2.2.2.2.2.sub (L1 := [(jFy, jYb dC dI (va_up G_488 r0 (some (13, 0)))), (jFs11, jSef dC dI (va_up G_488 r0 (some (13, 0)))), (jFl, jLs dC dI ca (va_up G_488 r0 (some (13, 0))) 3 none (((wl.s1 0 wl.2.1).s2 []).s3 [])), (jFdo, jDcc dC dI ca (va_up G_488 r0 (some (13, 0))) none (ph + 1500)), (jFcd, jCD dC dI ca (va_up G_488 r0 (some (13, 0))) none qtd_451), (jFkd, jKD dC dI ca (va_up G_488 r0 (some (13, 0))) none gK_451), (jFun, jUN dC dI ca (va_up G_488 r0 (some (13, 0))) 0 qu_199 qr_199), (jFqd, jQD dC dI ca (va_up G_488 r0 (some (13, 0))) none qq), (jFib, jIB dC dI ca (va_up G_488 r0 (some (13, 0))) 0 ib)]) [8, 4, 3, 0, 1, 2, 5, 6, 7] rfl, by rw [ht]; exact hh_584.2.2.2.2.2.2.2.1.sub [0] rfl, by rw [ht]; exact hCf9⟩⟩, by rw [ht]; try exact hh_584.1.1, fun q h9 hq => by rw [ht]; try exact hh_584.1.2.1 q h9 hq⟩) hh_584.1.2.2 dX11_init_174
end
