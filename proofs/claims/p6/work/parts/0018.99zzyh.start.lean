section
-- the start: what the Statement gives, as the contracts ask for it
theorem jOvA {args : Array Value} {first s : State} {o : Option Outcome} {idx : List Nat} (h : (Cond.arrayOver (.array .int)).holds args first o s idx = true) : ∃ comp c k, s.vm.findClass (FieldType.array .int).toString = some comp ∧ s.vm.classes[c]? = some k ∧ k.kind = .array comp (.array .int) ∧ s.vm.findClass ("[" ++ (FieldType.array .int).toString) = some c := by
  simp only [Cond.holds, Cond.value, beq_iff_eq] at h
  cases hc : s.vm.findClass (FieldType.array .int).toString with
  | none => simp [hc] at h
  | some comp =>
    simp only [hc, Option.bind_some, Option.bind_eq_some_iff, Option.map_eq_some_iff] at h
    obtain ⟨c, hi, k, hk, hb⟩ := h
    obtain ⟨hlt, hp, -⟩ := Array.findIdx?_eq_some_iff_getElem.mp hi
    have hkk : s.vm.classes[c] = k := (Array.getElem?_eq_some_iff.mp hk).2
    rw [hkk] at hp
    cases hkind : k.kind with
    | array component ty =>
      rw [hkind] at hb hp
      simp at hb hp
      exact ⟨comp, c, k, rfl, hk, by rw [hkind, hp, hb.1], hb.2⟩
    | _ => rw [hkind] at hb; simp at hb
theorem jZ.of {args : Array Value} {s : State} {base : Nat} (hF : ∀ c ∈ flatC narrow_1, c.before args s = true) (hT : ∀ w ∈ tables_1, w.before args s = true) (hb : base = s.heap.size) : jZ base s s.heap := by
  have hA : ∀ a : Nat, a < s.heap.size → ¬ jA base a := fun a ha h => by
    have h9 : base ≤ a := h
    omega
  obtain ⟨t11, e11, h11⟩ := va_Tof (tm := (.static "ProofServer$Syntax" "CHAIN_SIGNS" "[I")) (ty := .int) (N := 3) (f := fun j => .int (([62, 43, 42] : List Int32).getD j 0)) (A := jA base) (by decide) (hF (.arrayOf (.static "ProofServer$Syntax" "CHAIN_SIGNS" "[I") .int) (List.mem_of_getElem? (i := 12) (by decide +kernel))) (va_eqt (hF (.eq (.length (.static "ProofServer$Syntax" "CHAIN_SIGNS" "[I")) (.int 3)) (List.mem_of_getElem? (i := 13) (by decide +kernel)))) (fun j hj => by
    rcases (by omega : j = 0 ∨ j = 1 ∨ j = 2) with rfl | rfl | rfl
    · exact va_eqt (hF (.eq (.elem (.static "ProofServer$Syntax" "CHAIN_SIGNS" "[I") (.int 0)) (.int 62)) (List.mem_of_getElem? (i := 14) (by decide +kernel)))
    · exact va_eqt (hF (.eq (.elem (.static "ProofServer$Syntax" "CHAIN_SIGNS" "[I") (.int 1)) (.int 43)) (List.mem_of_getElem? (i := 15) (by decide +kernel)))
    · exact va_eqt (hF (.eq (.elem (.static "ProofServer$Syntax" "CHAIN_SIGNS" "[I") (.int 2)) (.int 42)) (List.mem_of_getElem? (i := 16) (by decide +kernel)))) hA
  obtain ⟨t17, e17, h17⟩ := va_Tof (tm := (.static "ProofServer$Syntax" "CHAIN_NODES" "[I")) (ty := .int) (N := 3) (f := fun j => .int (([1, 3, 2] : List Int32).getD j 0)) (A := jA base) (by decide) (hF (.arrayOf (.static "ProofServer$Syntax" "CHAIN_NODES" "[I") .int) (List.mem_of_getElem? (i := 18) (by decide +kernel))) (va_eqt (hF (.eq (.length (.static "ProofServer$Syntax" "CHAIN_NODES" "[I")) (.int 3)) (List.mem_of_getElem? (i := 19) (by decide +kernel)))) (fun j hj => by
    rcases (by omega : j = 0 ∨ j = 1 ∨ j = 2) with rfl | rfl | rfl
    · exact va_eqt (hF (.eq (.elem (.static "ProofServer$Syntax" "CHAIN_NODES" "[I") (.int 0)) (.int 1)) (List.mem_of_getElem? (i := 20) (by decide +kernel)))
    · exact va_eqt (hF (.eq (.elem (.static "ProofServer$Syntax" "CHAIN_NODES" "[I") (.int 1)) (.int 3)) (List.mem_of_getElem? (i := 21) (by decide +kernel)))
    · exact va_eqt (hF (.eq (.elem (.static "ProofServer$Syntax" "CHAIN_NODES" "[I") (.int 2)) (.int 2)) (List.mem_of_getElem? (i := 22) (by decide +kernel)))) hA
  refine ⟨va_Zof (hT (.laysStatic "java/lang/String" "COMPACT_STRINGS" "Z") (List.mem_of_getElem? (i := 174) (by decide +kernel))) (hT (.initialized "java/lang/String") (List.mem_of_getElem? (i := 8) (by decide +kernel))) (va_eqt (hF (.eq (.static "java/lang/String" "COMPACT_STRINGS" "Z") (.int 1)) (List.mem_of_getElem? (i := 2) (by decide +kernel)))) hA, ⟨t11, fun j => ([62, 43, 42] : List Int32).getD j 0, va_Zref (hT (.laysStatic "ProofServer$Syntax" "CHAIN_SIGNS" "[I") (List.mem_of_getElem? (i := 1418) (by decide +kernel))) (hT (.initialized "ProofServer$Syntax") (List.mem_of_getElem? (i := 12) (by decide +kernel))) e11 hA, h11, fun j hj => by rcases (by omega : j = 0 ∨ j = 1 ∨ j = 2) with rfl | rfl | rfl <;> decide⟩, ⟨t17, fun j => ([1, 3, 2] : List Int32).getD j 0, va_Zref (hT (.laysStatic "ProofServer$Syntax" "CHAIN_NODES" "[I") (List.mem_of_getElem? (i := 1436) (by decide +kernel))) (hT (.initialized "ProofServer$Syntax") (List.mem_of_getElem? (i := 12) (by decide +kernel))) e17 hA, h17, fun j hj => by rcases (by omega : j = 0 ∨ j = 1 ∨ j = 2) with rfl | rfl | rfl <;> decide⟩, va_Zqof (hT (.laysStatic "jdk/internal/util/Preconditions" "SIOOBE_FORMATTER" "Ljava/util/function/BiFunction;") (List.mem_of_getElem? (i := 190) (by decide +kernel))) (hT (.initialized "jdk/internal/util/Preconditions") (List.mem_of_getElem? (i := 10) (by decide +kernel))) (hF (.isRef (.static "jdk/internal/util/Preconditions" "SIOOBE_FORMATTER" "Ljava/util/function/BiFunction;")) (List.mem_of_getElem? (i := 3) (by decide +kernel))) hA⟩
set_option maxHeartbeats 4000000 in
theorem jStart {args : Array Value} {s : State} {base : Nat} (hF : ∀ c ∈ flatC narrow_1, c.before args s = true) (hT : ∀ w ∈ tables_1, w.before args s = true) (hW : ∀ w ∈ jWl, w.before args s = true) (hb : base = s.heap.size) : ∃ (dC : Nat → ClassId) (dI : Nat → Nat → Nat) (ca : Nat → ClassId), jAp (dC, dI) ∧ jG dC dI ca base s ∧ jK2 dC dI ca s ∧ jK5 dC dI ca s ∧ jK6 s ∧ jK7 dC dI ca base s ∧ jK8 s := by
  have hA : ∀ a : Nat, a < s.heap.size → ¬ jA base a := fun a ha h => by
    have h9 : base ≤ a := h
    omega
  obtain ⟨c0, i0, hKn0⟩ := u_known (C := RJ4) (T := TJ4) (N := 4) (n := 4) hW jWc_wsJ40 (hT (.instantiable RJ4 4) (List.mem_of_getElem? (i := 1694) (by decide +kernel)))
  obtain ⟨c1, i1, hKn1⟩ := u_known (C := RJx4a65c) (T := TJx4a65c) (N := 3) (n := 3) hW jWc_wsJx4a65c0 (hT (.instantiable RJx4a65c 3) (List.mem_of_getElem? (i := 406) (by decide +kernel)))
  obtain ⟨c2, i2, hKn2⟩ := u_known (C := RX0) (T := TX0) (N := 2) (n := 2) hW jWc_wsX00 (hT (.instantiable RX0 2) (List.mem_of_getElem? (i := 40) (by decide +kernel)))
  obtain ⟨c3, i3, hKn3⟩ := u_known (C := RX1) (T := TX1) (N := 17) (n := 17) hW jWc_wsX10 (hT (.instantiable RX1 17) (List.mem_of_getElem? (i := 433) (by decide +kernel)))
  obtain ⟨c4, i4, hKn4⟩ := u_known (C := RX2) (T := TX2) (N := 12) (n := 12) hW jWc_wsX20 (hT (.instantiable RX2 12) (List.mem_of_getElem? (i := 61) (by decide +kernel)))
  obtain ⟨c5, i5, hKn5⟩ := u_known (C := RX3) (T := TX3) (N := 4) (n := 4) hW jWc_wsX30 (hT (.instantiable RX3 4) (List.mem_of_getElem? (i := 1474) (by decide +kernel)))
  obtain ⟨c6, i6, hKn6⟩ := u_known (C := RX4) (T := TX4) (N := 12) (n := 12) hW jWc_wsX40 (hT (.instantiable RX4 12) (List.mem_of_getElem? (i := 109) (by decide +kernel)))
  obtain ⟨c7, i7, hKn7⟩ := u_known (C := RX5) (T := TX5) (N := 11) (n := 11) hW jWc_wsX50 (hT (.instantiable RX5 11) (List.mem_of_getElem? (i := 153) (by decide +kernel)))
  obtain ⟨c8, i8, hKn8⟩ := u_known (C := RX6) (T := TX6) (N := 4) (n := 4) hW jWc_wsX60 (hT (.instantiable RX6 4) (List.mem_of_getElem? (i := 159) (by decide +kernel)))
  obtain ⟨c9, i9, hKn9⟩ := u_known (C := RX7) (T := TX7) (N := 5) (n := 5) hW jWc_wsX70 (hT (.instantiable RX7 5) (List.mem_of_getElem? (i := 384) (by decide +kernel)))
  obtain ⟨c10, i10, hKn10⟩ := u_known (C := RX8) (T := TX8) (N := 5) (n := 5) hW jWc_wsX80 (hT (.instantiable RX8 5) (List.mem_of_getElem? (i := 744) (by decide +kernel)))
  obtain ⟨c11, i11, hKn11⟩ := u_known (C := RX9) (T := TX9) (N := 9) (n := 9) hW jWc_wsX90 (hT (.instantiable RX9 9) (List.mem_of_getElem? (i := 291) (by decide +kernel)))
  obtain ⟨c12, i12, hKn12⟩ := u_known (C := RX10) (T := TX10) (N := 11) (n := 11) hW jWc_wsX100 (hT (.instantiable RX10 11) (List.mem_of_getElem? (i := 246) (by decide +kernel)))
  obtain ⟨c13, i13, hKn13⟩ := u_known (C := RX11) (T := TX11) (N := 19) (n := 19) hW jWc_wsX110 (hT (.instantiable RX11 19) (List.mem_of_getElem? (i := 32) (by decide +kernel)))
  obtain ⟨c14, i14, hKn14⟩ := u_known (C := RX12) (T := TX12) (N := 11) (n := 11) hW jWc_wsX120 (hT (.instantiable RX12 11) (List.mem_of_getElem? (i := 1725) (by decide +kernel)))
  obtain ⟨c15, i15, hKn15⟩ := u_known (C := RX13) (T := TX13) (N := 50) (n := 50) hW jWc_wsX130 (hT (.instantiable RX13 50) (List.mem_of_getElem? (i := 1773) (by decide +kernel)))
  obtain ⟨c16, i16, hKn16⟩ := u_known (C := RX14) (T := TX14) (N := 74) (n := 74) hW jWc_wsX140 (hT (.instantiable RX14 74) (List.mem_of_getElem? (i := 1687) (by decide +kernel)))
  obtain ⟨c17, i17, hKn17⟩ := u_known (C := RX0) (T := TX0) (N := 2) (n := 2) hW jWc_wsX00 (hT (.instantiable RX0 2) (List.mem_of_getElem? (i := 40) (by decide +kernel)))
  obtain ⟨t0, e0, h0⟩ := va_Tof (tm := (.static "java/util/ArrayList" "DEFAULTCAPACITY_EMPTY_ELEMENTDATA" "[Ljava/lang/Object;")) (ty := .object "java/lang/Object") (N := 0) (f := fun _ => .null) (A := jA base) (by decide) (hF (.arrayOf (.static "java/util/ArrayList" "DEFAULTCAPACITY_EMPTY_ELEMENTDATA" "[Ljava/lang/Object;") (.object "java/lang/Object")) (List.mem_of_getElem? (i := 8) (by decide +kernel))) (va_eqt (hF (.eq (.length (.static "java/util/ArrayList" "DEFAULTCAPACITY_EMPTY_ELEMENTDATA" "[Ljava/lang/Object;")) (.int 0)) (List.mem_of_getElem? (i := 10) (by decide +kernel)))) (fun j hj => absurd hj (Nat.not_lt_zero j)) hA
  obtain ⟨mi, hmi⟩ := va_Mi.of (hF (.isRef (.mirror "[Ljava/lang/Object;")) (List.mem_of_getElem? (i := 23) (by decide +kernel)))
  obtain ⟨cB, kB, pB, xB, yB, zB⟩ := Cond.arrayClass_spec (args := args) (first := s) (o := none) (s := s) (idx := []) (type := .byte) (hT (.arrayClass .byte) (List.mem_of_getElem? (i := 59) (by decide +kernel)))
  obtain ⟨cI, kI, pI, xI, yI, zI⟩ := Cond.arrayClass_spec (args := args) (first := s) (o := none) (s := s) (idx := []) (type := .int) (hT (.arrayClass .int) (List.mem_of_getElem? (i := 151) (by decide +kernel)))
  obtain ⟨cJ, kJ, pJ, xJ, yJ, zJ⟩ := Cond.arrayClass_spec (args := args) (first := s) (o := none) (s := s) (idx := []) (type := .long) (hT (.arrayClass .long) (List.mem_of_getElem? (i := 244) (by decide +kernel)))
  obtain ⟨cZ, kZ, pZ, xZ, yZ, zZ⟩ := Cond.arrayClass_spec (args := args) (first := s) (o := none) (s := s) (idx := []) (type := .boolean) (hT (.arrayClass .boolean) (List.mem_of_getElem? (i := 1770) (by decide +kernel)))
  obtain ⟨pM, cM, kM, wM, -, xM, yM, zM⟩ := Cond.arrayOver_spec (args := args) (first := s) (o := none) (s := s) (idx := []) (n := "ProofServerModel$Document") (hT (.arrayOver (.object "ProofServerModel$Document")) (List.mem_of_getElem? (i := 1724) (by decide +kernel)))
  obtain ⟨pD, cD, kD, wD, -, xD, yD, zD⟩ := Cond.arrayOver_spec (args := args) (first := s) (o := none) (s := s) (idx := []) (n := "ProofServer$Document") (hT (.arrayOver (.object "ProofServer$Document")) (List.mem_of_getElem? (i := 432) (by decide +kernel)))
  obtain ⟨pS, cS, kS, wS, -, xS, yS, zS⟩ := Cond.arrayOver_spec (args := args) (first := s) (o := none) (s := s) (idx := []) (n := "ProofServer$State") (hT (.arrayOver (.object "ProofServer$State")) (List.mem_of_getElem? (i := 439) (by decide +kernel)))
  obtain ⟨pG, cG, kG, wG, -, xG, yG, zG⟩ := Cond.arrayOver_spec (args := args) (first := s) (o := none) (s := s) (idx := []) (n := "ProofServer$Goal") (hT (.arrayOver (.object "ProofServer$Goal")) (List.mem_of_getElem? (i := 299) (by decide +kernel)))
  obtain ⟨pO, cO, kO, wO, -, xO, yO, zO⟩ := Cond.arrayOver_spec (args := args) (first := s) (o := none) (s := s) (idx := []) (n := "java/lang/Object") (hT (.arrayOver (.object "java/lang/Object")) (List.mem_of_getElem? (i := 1079) (by decide +kernel)))
  obtain ⟨pA, cA, kA, wA, xA, yA, zA⟩ := jOvA (args := args) (first := s) (o := none) (s := s) (idx := []) (hT (.arrayOver (.array .int)) (List.mem_of_getElem? (i := 297) (by decide +kernel)))
  have epA : cI = pA := Option.some.inj (xI.symm.trans wA)
  subst epA
  obtain ⟨dC, hdC⟩ : ∃ q : Nat → ClassId, q = fun k => if k = 0 then c0 else if k = 1 then c1 else if k = 2 then c2 else if k = 3 then c3 else if k = 4 then c4 else if k = 5 then c5 else if k = 6 then c6 else if k = 7 then c7 else if k = 8 then c8 else if k = 9 then c9 else if k = 10 then c10 else if k = 11 then c11 else if k = 12 then c12 else if k = 13 then c13 else if k = 14 then c14 else if k = 15 then c15 else if k = 16 then c16 else c17 := ⟨_, rfl⟩
  obtain ⟨dI, hdI⟩ : ∃ q : Nat → Nat → Nat, q = fun k => if k = 0 then i0 else if k = 1 then i1 else if k = 2 then i2 else if k = 3 then i3 else if k = 4 then i4 else if k = 5 then i5 else if k = 6 then i6 else if k = 7 then i7 else if k = 8 then i8 else if k = 9 then i9 else if k = 10 then i10 else if k = 11 then i11 else if k = 12 then i12 else if k = 13 then i13 else if k = 14 then i14 else if k = 15 then i15 else if k = 16 then i16 else if k = 17 then i17 else fun i => if i = 0 then t0 else mi := ⟨_, rfl⟩
  obtain ⟨ca, hca⟩ : ∃ q : Nat → ClassId, q = fun k => if k = 0 then cB else if k = 1 then cI else if k = 2 then cJ else if k = 3 then cZ else if k = 4 then cM else if k = 5 then cD else if k = 6 then cS else if k = 7 then cG else if k = 8 then cA else cO := ⟨_, rfl⟩
  have hKc : ∀ (k : Nat) (q : vw_C), vwCl[k]? = some q → u_Kn s q.1 q.2.1 q.2.2 (dC k) (dI k) := by
    intro k q hq
    subst hdC hdI
    match k, hq with
    | 0, hq => cases hq; exact hKn0
    | 1, hq => cases hq; exact hKn1
    | 2, hq => cases hq; exact hKn2
    | 3, hq => cases hq; exact hKn3
    | 4, hq => cases hq; exact hKn4
    | 5, hq => cases hq; exact hKn5
    | 6, hq => cases hq; exact hKn6
    | 7, hq => cases hq; exact hKn7
    | 8, hq => cases hq; exact hKn8
    | 9, hq => cases hq; exact hKn9
    | 10, hq => cases hq; exact hKn10
    | 11, hq => cases hq; exact hKn11
    | 12, hq => cases hq; exact hKn12
    | 13, hq => cases hq; exact hKn13
    | 14, hq => cases hq; exact hKn14
    | 15, hq => cases hq; exact hKn15
    | 16, hq => cases hq; exact hKn16
    | 17, hq => cases hq; exact hKn17
    | k + 18, hq => simp [vwCl] at hq
  have hKt : ∀ tys : List (ClassId × FieldType), (∀ (k : Nat) (q : ClassId × FieldType), tys[k]? = some q → ArrOfT s q.1 q.2 ∧ va_RA s q.1 q.2) → va_K (dC, dI) vwCl tys s := fun tys h => ⟨hKc, h⟩
  have hJ : va_K (dC, dI) vwCl (jty ca) s := hKt _ (fun k q h => by
    subst hca
    match k, h with
    | 0, h => cases h; exact ⟨fun n z => ⟨fun k h => (by cases h), kB, yB, pB, zB⟩, xB⟩
    | 1, h => cases h; exact ⟨fun n z => ⟨fun k h => (by cases h), kI, yI, pI, zI⟩, xI⟩
    | 2, h => cases h; exact ⟨fun n z => ⟨fun k h => (by cases h), kJ, yJ, pJ, zJ⟩, xJ⟩
    | 3, h => cases h; exact ⟨fun n z => ⟨fun k h => (by cases h), kZ, yZ, pZ, zZ⟩, xZ⟩
    | k + 4, h => simp [jty] at h)
  have hK2 : jK2 dC dI ca s := hKt _ (fun k q h => by
    subst hca
    match k, h with
    | 0, h => cases h; exact ⟨fun n z => ⟨fun k h => (by cases h), kM, xM, pM, yM⟩, ⟨kM, pM, xM, yM, wM, zM⟩⟩
    | 1, h => cases h; exact ⟨fun n z => ⟨fun k h => (by cases h), kD, xD, pD, yD⟩, ⟨kD, pD, xD, yD, wD, zD⟩⟩
    | 2, h => cases h; exact ⟨fun n z => ⟨fun k h => (by cases h), kS, xS, pS, yS⟩, ⟨kS, pS, xS, yS, wS, zS⟩⟩
    | 3, h => cases h; exact ⟨fun n z => ⟨fun k h => (by cases h), kG, xG, pG, yG⟩, ⟨kG, pG, xG, yG, wG, zG⟩⟩
    | k + 4, h => simp at h)
  have hK5a : va_K (dC, dI) vwCl [(ca 8, .array .int)] s := hKt _ (fun k q h => by
    subst hca
    match k, h with
    | 0, h => cases h; exact ⟨fun n z => ⟨fun k h => (by cases h), kA, xA, cI, yA⟩, zA⟩
    | k + 1, h => simp at h)
  have hK7a : va_K (dC, dI) vwCl [(ca 9, .object "java/lang/Object")] s := hKt _ (fun k q h => by
    subst hca
    match k, h with
    | 0, h => cases h; exact ⟨fun n z => ⟨fun k h => (by cases h), kO, xO, pO, yO⟩, ⟨kO, pO, xO, yO, wO, zO⟩⟩
    | k + 1, h => simp at h)
  refine ⟨dC, dI, ca, ?_, ⟨hJ, fun a i b n d h q => va_Nw.of rfl (hT _ q), fun a i y h q => va_Nw.of rfl (hT _ q), jStrs hF hT hb, jZ.of hF hT hb⟩, hK2, ⟨hK5a, ⟨kA, by subst hca; exact xA, by subst hca; exact yA⟩, ⟨kI, by subst hca; exact yI⟩, (hT (.arrayOver (.array .int)) (List.mem_of_getElem? (i := 297) (by decide +kernel)))⟩, ⟨va_AO.of (hT (.arrayOver (.object "ProofServerModel$Document")) (List.mem_of_getElem? (i := 1724) (by decide +kernel))), va_AO.of (hT (.arrayOver (.object "ProofServer$Document")) (List.mem_of_getElem? (i := 432) (by decide +kernel))), va_AO.of (hT (.arrayOver (.object "ProofServer$State")) (List.mem_of_getElem? (i := 439) (by decide +kernel))), va_AO.of (hT (.arrayOver (.object "ProofServer$Goal")) (List.mem_of_getElem? (i := 299) (by decide +kernel)))⟩, ⟨hK7a, va_AO.of (hT (.arrayOver (.object "java/lang/Object")) (List.mem_of_getElem? (i := 1079) (by decide +kernel))), ⟨⟨va_Nw.of rfl (hT (.castable "ProofServer$Document" "java/lang/Object") (List.mem_of_getElem? (i := 3064) (by decide +kernel))), va_Nw.of rfl (hT (.castable "ProofServer$Document" "ProofServer$Document") (List.mem_of_getElem? (i := 3049) (by decide +kernel)))⟩, ⟨va_Nw.of rfl (hT (.castable "ProofServer$Request" "java/lang/Object") (List.mem_of_getElem? (i := 3068) (by decide +kernel))), va_Nw.of rfl (hT (.castable "ProofServer$Request" "ProofServer$Request") (List.mem_of_getElem? (i := 3050) (by decide +kernel)))⟩, ⟨va_Nw.of rfl (hT (.castable "ProofServer$State" "java/lang/Object") (List.mem_of_getElem? (i := 3062) (by decide +kernel))), va_Nw.of rfl (hT (.castable "ProofServer$State" "ProofServer$State") (List.mem_of_getElem? (i := 3051) (by decide +kernel)))⟩⟩, ?_, va_Dc.of (hT (.declares ⟨"java/lang/Object", "getClass", "()Ljava/lang/Class;"⟩) (List.mem_of_getElem? (i := 3054) (by decide +kernel))), ⟨va_Fw.of (hT (.declares ⟨"java/util/List", "size", "()I"⟩) (List.mem_of_getElem? (i := 884) (by decide +kernel))) (hT (.interfaceMethod "java/util/List" "java/util/List" "size" "()I") (List.mem_of_getElem? (i := 883) (by decide +kernel))) (hT (.publicMethod yJx4a65c_size_8abf5) (List.mem_of_getElem? (i := 889) (by decide +kernel))) (hT (.unhidden "java/util/ArrayList" "size" "()I") (List.mem_of_getElem? (i := 887) (by decide +kernel))) (hT (.castable "java/util/ArrayList" "java/util/List") (List.mem_of_getElem? (i := 885) (by decide +kernel))), va_Fw.of (hT (.declares ⟨"java/util/List", "get", "(I)Ljava/lang/Object;"⟩) (List.mem_of_getElem? (i := 894) (by decide +kernel))) (hT (.interfaceMethod "java/util/List" "java/util/List" "get" "(I)Ljava/lang/Object;") (List.mem_of_getElem? (i := 893) (by decide +kernel))) (hT (.publicMethod yJx4a65c_get_915e3) (List.mem_of_getElem? (i := 898) (by decide +kernel))) (hT (.unhidden "java/util/ArrayList" "get" "(I)Ljava/lang/Object;") (List.mem_of_getElem? (i := 896) (by decide +kernel))) (hT (.castable "java/util/ArrayList" "java/util/List") (List.mem_of_getElem? (i := 885) (by decide +kernel))), va_Fw.of (hT (.declares ⟨"java/util/List", "add", "(Ljava/lang/Object;)Z"⟩) (List.mem_of_getElem? (i := 1025) (by decide +kernel))) (hT (.interfaceMethod "java/util/List" "java/util/List" "add" "(Ljava/lang/Object;)Z") (List.mem_of_getElem? (i := 1024) (by decide +kernel))) (hT (.publicMethod yJx4a65c_add_9ea2d) (List.mem_of_getElem? (i := 1029) (by decide +kernel))) (hT (.unhidden "java/util/ArrayList" "add" "(Ljava/lang/Object;)Z") (List.mem_of_getElem? (i := 1027) (by decide +kernel))) (hT (.castable "java/util/ArrayList" "java/util/List") (List.mem_of_getElem? (i := 885) (by decide +kernel))), va_Fw.of (hT (.declares ⟨"java/util/List", "remove", "(I)Ljava/lang/Object;"⟩) (List.mem_of_getElem? (i := 1283) (by decide +kernel))) (hT (.interfaceMethod "java/util/List" "java/util/List" "remove" "(I)Ljava/lang/Object;") (List.mem_of_getElem? (i := 1282) (by decide +kernel))) (hT (.publicMethod yJx4a65c_remove_915e3) (List.mem_of_getElem? (i := 1287) (by decide +kernel))) (hT (.unhidden "java/util/ArrayList" "remove" "(I)Ljava/lang/Object;") (List.mem_of_getElem? (i := 1285) (by decide +kernel))) (hT (.castable "java/util/ArrayList" "java/util/List") (List.mem_of_getElem? (i := 885) (by decide +kernel)))⟩, ?_, ?_⟩, va_Nw.of rfl (hT (.castable "[I" "java/lang/Cloneable") (List.mem_of_getElem? (i := 1375) (by decide +kernel)))⟩
  · intro k r hr
    match k, hr with
    | 0, hr => cases hr; exact va_apart (own := "") (C := RJ4) (T := TJ4) (N := 4) (ci := 0) hW jWc_wsJ40 (fun k => ([(.array .byte), .byte, .boolean, .int] : List FieldType).getD k .int) (by decide +kernel) (by decide +kernel) hJ rfl
    | 1, hr => cases hr; exact va_apart (own := "") (C := RJx4a65c) (T := TJx4a65c) (N := 3) (ci := 1) hW jWc_wsJx4a65c0 (fun k => ([.int, (.array (.object "java/lang/Object")), .int] : List FieldType).getD k .int) (by decide +kernel) (by decide +kernel) hJ rfl
    | 2, hr => cases hr; exact va_apart (own := "") (C := RX0) (T := TX0) (N := 2) (ci := 2) hW jWc_wsX00 (fun k => ([(.array .byte), .int] : List FieldType).getD k .int) (by decide +kernel) (by decide +kernel) hJ rfl
    | 3, hr => cases hr; exact va_apart (own := "") (C := RX1) (T := TX1) (N := 17) (ci := 3) hW jWc_wsX10 (fun k => ([(.array .int), .int, (.array .int), .int, .int, (.array .int), (.array .int), (.array .int), (.array .int), (.array (.object "ProofServer$State")), .int, (.array .int), (.object "ProofServer$State"), .int, .int, .int, .int] : List FieldType).getD k .int) (by decide +kernel) (by decide +kernel) hJ rfl
    | 4, hr => cases hr; exact va_apart (own := "") (C := RX2) (T := TX2) (N := 12) (ci := 4) hW jWc_wsX20 (fun k => ([(.array .byte), .int, .int, .int, .boolean, .int, .int, .int, .int, .boolean, .int, .int] : List FieldType).getD k .int) (by decide +kernel) (by decide +kernel) hJ rfl
    | 5, hr => cases hr; exact va_apart (own := "") (C := RX3) (T := TX3) (N := 4) (ci := 5) hW jWc_wsX30 (fun k => ([(.array .int), (.array .int), (.array (.array .int)), (.array .int)] : List FieldType).getD k .int) (by decide +kernel) (by decide +kernel) hJ rfl
    | 6, hr => cases hr; exact va_apart (own := "") (C := RX4) (T := TX4) (N := 12) (ci := 6) hW jWc_wsX40 (fun k => ([(.array .int), (.array .int), (.array .int), (.array .int), (.array .int), (.array .int), (.array .int), .int, .int, (.array .byte), .int, .int] : List FieldType).getD k .int) (by decide +kernel) (by decide +kernel) hJ rfl
    | 7, hr => cases hr; exact va_apart (own := "") (C := RX5) (T := TX5) (N := 11) (ci := 7) hW jWc_wsX50 (fun k => ([(.object "ProofServer$Names"), (.object "ProofServer$Syntax"), (.object "ProofServer$State"), (.array .int), (.array .int), (.array .int), (.array .int), (.array .int), (.array .int), (.array (.object "ProofServer$Goal")), .int] : List FieldType).getD k .int) (by decide +kernel) (by decide +kernel) hJ rfl
    | 8, hr => cases hr; exact va_apart (own := "") (C := RX6) (T := TX6) (N := 4) (ci := 8) hW jWc_wsX60 (fun k => ([(.array .long), (.array .int), (.array .int), .int] : List FieldType).getD k .int) (by decide +kernel) (by decide +kernel) hJ rfl
    | 9, hr => cases hr; exact va_apart (own := "") (C := RX7) (T := TX7) (N := 5) (ci := 9) hW jWc_wsX70 (fun k => ([(.object "ProofServer$Names"), (.array .int), .int, (.array .int), (.array .int)] : List FieldType).getD k .int) (by decide +kernel) (by decide +kernel) hJ rfl
    | 10, hr => cases hr; exact va_apart (own := "") (C := RX8) (T := TX8) (N := 5) (ci := 10) hW jWc_wsX80 (fun k => ([(.object "ProofServer$Bytes"), (.object "ProofServer$Document"), .int, .boolean, .int] : List FieldType).getD k .int) (by decide +kernel) (by decide +kernel) hJ rfl
    | 11, hr => cases hr; exact va_apart (own := "") (C := RX9) (T := TX9) (N := 9) (ci := 11) hW jWc_wsX90 (fun k => ([(.object "ProofServer$State"), (.array .int), .int, (.array .int), (.array .int), (.array (.array .int)), .int, (.array .int), (.array (.object "ProofServer$Goal"))] : List FieldType).getD k .int) (by decide +kernel) (by decide +kernel) hJ rfl
    | 12, hr => cases hr; exact va_apart (own := "") (C := RX10) (T := TX10) (N := 11) (ci := 12) hW jWc_wsX100 (fun k => ([(.object "ProofServer$Names"), (.array .int), (.array .int), .int, .int, .int, (.array .int), .int, .int, (.array .int), .int] : List FieldType).getD k .int) (by decide +kernel) (by decide +kernel) hJ rfl
    | 13, hr => cases hr; exact va_apart (own := "") (C := RX11) (T := TX11) (N := 19) (ci := 13) hW jWc_wsX110 (fun k => ([(.object "ProofServer$Bytes"), (.object "ProofServer$Frames"), (.object "ProofServer$Json"), (.object "ProofServer$Bytes"), (.object "ProofServer$Bytes"), (.object "ProofServer$Kernel"), (.object "ProofServer$Printer"), (.object "java/util/List"), (.object "java/util/List"), (.object "java/util/List"), (.array (.object "ProofServer$Document")), .int, .int, .int, .int, (.object "ProofServer$Document"), (.object "ProofServer$Document"), (.object "ProofServer$Bytes"), .int] : List FieldType).getD k .int) (by decide +kernel) (by decide +kernel) hJ rfl
    | 14, hr => cases hr; exact va_apart (own := "") (C := RX12) (T := TX12) (N := 11) (ci := 14) hW jWc_wsX120 (fun k => ([(.array .int), .int, .int, (.array .int), .int, .int, (.array .int), (.array .int), (.array .int), .int, (.array .int)] : List FieldType).getD k .int) (by decide +kernel) (by decide +kernel) hJ rfl
    | 15, hr => cases hr; exact va_apart (own := "") (C := RX13) (T := TX13) (N := 50) (ci := 15) hW jWc_wsX130 (fun k => ([(.array .int), (.array .int), (.array .int), (.array .int), (.array .int), .int, (.array .int), .int, (.array .int), (.array .int), .int, .int, (.array .int), (.array .boolean), (.array .int), .int, (.array .int), (.array .int), .boolean, .int, .int, .int, (.array .int), (.array .int), (.array .int), (.array .int), (.array .int), (.array .int), (.array .int), (.array .int), .int, .int, .int, .boolean, .int, (.array .int), .int, (.array .int), .int, .int, .int, .int, .int, (.array .int), (.array .int), (.array .int), .int, (.array .int), (.array .int), .int] : List FieldType).getD k .int) (by decide +kernel) (by decide +kernel) hJ rfl
    | 16, hr => cases hr; exact va_apart (own := "") (C := RX14) (T := TX14) (N := 74) (ci := 16) hW jWc_wsX140 (fun k => ([(.array .int), .int, (.array .int), .int, .int, (.array .int), .int, .boolean, .int, (.array .int), .int, .int, .int, (.object "java/lang/StringBuilder"), (.object "java/lang/StringBuilder"), .int, .int, (.array .int), (.array .int), (.array .int), (.array .int), (.array .int), (.array .int), (.array .int), (.array .boolean), (.array .int), .int, (.array .int), .int, .int, .int, .boolean, .int, .int, .boolean, .boolean, .boolean, .int, (.array .int), .int, .boolean, (.array (.object "ProofServerModel$Document")), .int, (.array .int), .int, (.array .int), (.object "ProofServerModel$Document"), (.object "ProofServerModel$Document"), .int, (.array (.object "ProofServerModel$Document")), (.array .boolean), (.array .int), (.array .boolean), (.array .int), (.array .int), (.array .int), (.array .int), (.array .int), (.object "ProofServerModel$Kernel"), (.array .int), (.array (.object "ProofServerModel$Document")), (.array .int), (.array .int), (.array .boolean), .int, .int, .int, (.array .int), (.array .int), (.array .int), .int, (.object "ProofServerModel$Document"), (.array .int), (.array .int)] : List FieldType).getD k .int) (by decide +kernel) (by decide +kernel) hJ rfl
    | 17, hr => cases hr; exact va_apart (own := "") (C := RX0) (T := TX0) (N := 2) (ci := 17) hW jWc_wsX00 (fun k => ([(.array .byte), .int] : List FieldType).getD k .int) (by decide +kernel) (by decide +kernel) hJ rfl
    | k + 18, hr => simp [vwCl] at hr
  · subst hdI; exact hmi
  · subst hdI; exact va_Zref (hT (.laysStatic "java/util/ArrayList" "DEFAULTCAPACITY_EMPTY_ELEMENTDATA" "[Ljava/lang/Object;") (List.mem_of_getElem? (i := 418) (by decide +kernel))) (hT (.initialized "java/util/ArrayList") (List.mem_of_getElem? (i := 17) (by decide +kernel))) e0 hA
  · subst hdI; exact h0
end
