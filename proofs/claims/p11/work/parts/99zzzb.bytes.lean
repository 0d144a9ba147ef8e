-- how long a message is at least that opens or changes a document
def jEs : List Nat → List Nat
  | [] => []
  | i :: is => (2 * i) :: (2 * i + 1) :: jEs is
theorem jEs.mem : ∀ (is : List Nat) (e : Nat), e ∈ jEs is → e / 2 ∈ is
  | [], _, h => by cases h
  | i :: is, e, h => by
    rcases List.mem_cons.mp h with h | h
    · subst h
      rw [show 2 * i / 2 = i by omega]
      exact List.mem_cons_self
    · rcases List.mem_cons.mp h with h | h
      · subst h
        rw [show (2 * i + 1) / 2 = i by omega]
        exact List.mem_cons_self
      · exact List.mem_cons_of_mem _ (jEs.mem is e h)
theorem jEs.apart : ∀ (is : List Nat), is.Pairwise (· ≠ ·) → (jEs is).Pairwise (· ≠ ·)
  | [], _ => List.Pairwise.nil
  | i :: is, h => by
    obtain ⟨h1, h2⟩ := List.pairwise_cons.mp h
    have g := jEs.apart is h2
    refine List.pairwise_cons.mpr ⟨fun e he q => ?_, List.pairwise_cons.mpr ⟨fun e he q => ?_, g⟩⟩
    · rcases List.mem_cons.mp he with he | he
      · omega
      · exact h1 _ (jEs.mem is e he) (by omega)
    · exact h1 _ (jEs.mem is e he) (by omega)
def jWs (D : jC) : List Int → Int
  | [] => 0
  | i :: is => (if jSo D.1 i = 3 then jSo D.2.2.1 i else 0) + jSo D.2.2.2.2 i + jWs D is
theorem jWs.eq {D : jC} : ∀ (is : List Int), (∀ i ∈ is, 0 ≤ i) → jSuu D (jEs (is.map Int.toNat)) = jWs D is
  | [], _ => rfl
  | i :: is, h => by
    have h1 := jWs.eq (D := D) is (fun x hx => h x (List.mem_cons_of_mem _ hx))
    have h2 := h i List.mem_cons_self
    show jln D (2 * i.toNat) + (jln D (2 * i.toNat + 1) + jSuu D (jEs (is.map Int.toNat))) = (if jSo D.1 i = 3 then jSo D.2.2.1 i else 0) + jSo D.2.2.2.2 i + jWs D is
    have n1 : jln D (2 * i.toNat) = (if jSo D.1 i = 3 then jSo D.2.2.1 i else 0) := by
      unfold jln
      rw [if_pos (by omega), show (((2 * i.toNat) / 2 : Nat) : Int) = i by omega]
    have n2 : jln D (2 * i.toNat + 1) = jSo D.2.2.2.2 i := by
      unfold jln
      rw [if_neg (by omega), show (((2 * i.toNat + 1) / 2 : Nat) : Int) = i by omega]
    rw [n1, n2, h1]
    omega
theorem jSb.one : ∀ n : Nat, jSb (fun _ => 1) n = 5 * (n : Int)
  | 0 => rfl
  | n + 1 => by
    have h := jSb.one n
    show jSb (fun _ => 1) n + (if 1 ≤ ((1 : Int32)).toInt then 5 else 2) = 5 * ((n + 1 : Nat) : Int)
    rw [if_pos (by decide), h]
    omega
theorem jCi.all {n : Nat} : ∀ is : List Nat, (∀ i ∈ is, i < n) → jCi n is = 3 * (is.length : Int)
  | [], _ => rfl
  | i :: is, h => by
    have h1 := jCi.all is (fun x hx => h x (List.mem_cons_of_mem _ hx))
    have h2 := h i List.mem_cons_self
    show (if i < n then (3 : Int) else 0) + jCi n is = 3 * ((is.length + 1 : Nat) : Int)
    rw [if_pos h2, h1]
    omega
theorem jCi.len {n : Nat} {is : List Nat} (hp : is.Pairwise (· ≠ ·)) (h : ∀ i ∈ is, i < n) : (is.length : Int) ≤ n := by
  have h1 := jSb.many (f := fun _ => 1) hp (fun _ _ => by decide) n
  rw [jSb.one, jCi.all is h] at h1
  omega
theorem jByt {C D : jC} {qv qu n : Int} (h : jJr C 0 0 D qv qu) (hu : qu + jSb D.2.2.2.2 qv.toNat ≤ n + 1) (is : List Int) (hp : is.Pairwise (· ≠ ·)) (hr : ∀ i ∈ is, 0 ≤ i ∧ i < qv ∧ 1 ≤ jSo D.2.2.2.2 i) : jWs D is + 5 * (is.length : Int) ≤ n + 1 := by
  have hq : (is.map Int.toNat).Pairwise (· ≠ ·) := List.pairwise_map.mpr (hp.imp_of_mem (fun ha hb ne q => ne (by
    have := (hr _ ha).1
    have := (hr _ hb).1
    omega)))
  have hm : ∀ x ∈ is.map Int.toNat, (x : Int) < qv ∧ 1 ≤ (D.2.2.2.2 x).toInt := fun x hx => by
    obtain ⟨i, hi, e⟩ := List.mem_map.mp hx
    have g := hr i hi
    have g3 := g.2.2
    unfold jSo at g3
    rw [← e]
    exact ⟨by omega, g3⟩
  have s1 := h.sum (jEs (is.map Int.toNat)) (fun e he => by
    have := (hm _ (jEs.mem _ _ he)).1
    omega) (jEs.apart _ hq)
  rw [jWs.eq is (fun i hi => (hr i hi).1)] at s1
  have s2 := jSb.many hq (fun i hi => (hm i hi).2) qv.toNat
  have s3 : jCi qv.toNat (is.map Int.toNat) = 3 * ((is.map Int.toNat).length : Int) := jCi.all _ (fun i hi => by
    have := (hm i hi).1
    omega)
  have s4 := jCi.len (n := qv.toNat) hq (fun i hi => by
    have := (hm i hi).1
    omega)
  have s5 := h.1
  rw [s3] at s2
  rw [List.length_map] at s2 s4
  omega
/-- a message that was understood, its method of z units -/
def jMg (D : jC) (pv pu n z : Int) : Prop := (∃ C : jC, jJr C 0 0 D pv pu) ∧ jUd D pv pu n ∧ ∃ m : Int, 0 ≤ m ∧ m < pv ∧ jSo D.2.2.2.2 m = 6 ∧ jSo D.1 m = 3 ∧ jSo D.2.2.1 m = z
/-- a value that has a key -/
def jNde (D : jC) (pv i k z : Int) : Prop := 0 ≤ i ∧ i < pv ∧ jSo D.1 i = k ∧ jSo D.2.2.2.2 i = z
theorem jNde.ne {D : jC} {pv i j k z k1 z1 : Int} (h : jNde D pv i k z) (g : jNde D pv j k1 z1) (hd : k ≠ k1 ∨ z ≠ z1) : i ≠ j := fun e => by
  subst e
  obtain ⟨-, -, h3, h4⟩ := h
  obtain ⟨-, -, g3, g4⟩ := g
  omega
theorem jNde.w {D : jC} {pv i k z : Int} (h : jNde D pv i k z) (hk : k ≠ 3) (is : List Int) : jWs D (i :: is) = z + jWs D is := by
  obtain ⟨h1, h2, h3, h4⟩ := h
  show (if jSo D.1 i = 3 then jSo D.2.2.1 i else 0) + jSo D.2.2.2.2 i + jWs D is = _
  rw [if_neg (by omega), h4]
  omega
theorem jNde.s {D : jC} {pv i z : Int} (h : jNde D pv i 3 z) (is : List Int) : jWs D (i :: is) = jSo D.2.2.1 i + z + jWs D is := by
  obtain ⟨h1, h2, h3, h4⟩ := h
  show (if jSo D.1 i = 3 then jSo D.2.2.1 i else 0) + jSo D.2.2.2.2 i + jWs D is = _
  rw [if_pos h3, h4]
theorem jNde.r {D : jC} {pv i k z : Int} (h : jNde D pv i k z) (hz : 1 ≤ z) : 0 ≤ i ∧ i < pv ∧ 1 ≤ jSo D.2.2.2.2 i := by
  obtain ⟨h1, h2, h3, h4⟩ := h
  omega
theorem jMg.opn {D : jC} {pv pu n p d u v t : Int} (h : jMg D pv pu n 20) (hp : jNde D pv p 1 6) (hd : jNde D pv d 1 12) (hu : jNde D pv u 3 3) (hv : jNde D pv v 4 7) (ht : jNde D pv t 3 4) : 102 + jSo D.2.2.1 u + jSo D.2.2.1 t ≤ n := by
  obtain ⟨⟨C, h1⟩, ⟨h2, j, j0, j1, j2, j3, j4⟩, m, m0, m1, m2, m3, m4⟩ := h
  have hj : jNde D pv j 3 7 := ⟨j0, j1, j3, j2⟩
  have hm : jNde D pv m 3 6 := ⟨m0, m1, m3, m2⟩
  have nil : ∀ a ∈ ([] : List Int), False := fun a ha => by cases ha
  have b := jByt h1 h2 [j, m, p, d, u, v, t]
    (List.pairwise_cons.mpr ⟨List.forall_mem_cons.mpr ⟨hj.ne hm (by omega), List.forall_mem_cons.mpr ⟨hj.ne hp (by omega), List.forall_mem_cons.mpr ⟨hj.ne hd (by omega), List.forall_mem_cons.mpr ⟨hj.ne hu (by omega), List.forall_mem_cons.mpr ⟨hj.ne hv (by omega), List.forall_mem_cons.mpr ⟨hj.ne ht (by omega), fun a ha => (nil a ha).elim⟩⟩⟩⟩⟩⟩,
    List.pairwise_cons.mpr ⟨List.forall_mem_cons.mpr ⟨hm.ne hp (by omega), List.forall_mem_cons.mpr ⟨hm.ne hd (by omega), List.forall_mem_cons.mpr ⟨hm.ne hu (by omega), List.forall_mem_cons.mpr ⟨hm.ne hv (by omega), List.forall_mem_cons.mpr ⟨hm.ne ht (by omega), fun a ha => (nil a ha).elim⟩⟩⟩⟩⟩,
    List.pairwise_cons.mpr ⟨List.forall_mem_cons.mpr ⟨hp.ne hd (by omega), List.forall_mem_cons.mpr ⟨hp.ne hu (by omega), List.forall_mem_cons.mpr ⟨hp.ne hv (by omega), List.forall_mem_cons.mpr ⟨hp.ne ht (by omega), fun a ha => (nil a ha).elim⟩⟩⟩⟩,
    List.pairwise_cons.mpr ⟨List.forall_mem_cons.mpr ⟨hd.ne hu (by omega), List.forall_mem_cons.mpr ⟨hd.ne hv (by omega), List.forall_mem_cons.mpr ⟨hd.ne ht (by omega), fun a ha => (nil a ha).elim⟩⟩⟩,
    List.pairwise_cons.mpr ⟨List.forall_mem_cons.mpr ⟨hu.ne hv (by omega), List.forall_mem_cons.mpr ⟨hu.ne ht (by omega), fun a ha => (nil a ha).elim⟩⟩,
    List.pairwise_cons.mpr ⟨List.forall_mem_cons.mpr ⟨hv.ne ht (by omega), fun a ha => (nil a ha).elim⟩,
    List.pairwise_cons.mpr ⟨fun a ha => (nil a ha).elim, List.Pairwise.nil⟩⟩⟩⟩⟩⟩⟩)
    (List.forall_mem_cons.mpr ⟨hj.r (by omega), List.forall_mem_cons.mpr ⟨hm.r (by omega), List.forall_mem_cons.mpr ⟨hp.r (by omega), List.forall_mem_cons.mpr ⟨hd.r (by omega), List.forall_mem_cons.mpr ⟨hu.r (by omega), List.forall_mem_cons.mpr ⟨hv.r (by omega), List.forall_mem_cons.mpr ⟨ht.r (by omega), fun a ha => (nil a ha).elim⟩⟩⟩⟩⟩⟩⟩)
  rw [hj.s, hm.s, hp.w (by omega), hd.w (by omega), hu.s, hv.w (by omega), ht.s, show jWs D [] = 0 from rfl, j4, m4, show (([j, m, p, d, u, v, t].length : Nat) : Int) = 7 from rfl] at b
  omega
theorem jMg.chg {D : jC} {pv pu n p d u v c t : Int} (h : jMg D pv pu n 22) (hp : jNde D pv p 1 6) (hd : jNde D pv d 1 12) (hu : jNde D pv u 3 3) (hv : jNde D pv v 4 7) (hc : jNde D pv c 2 14) (ht : jNde D pv t 3 4) : 123 ≤ n := by
  obtain ⟨⟨C, h1⟩, ⟨h2, j, j0, j1, j2, j3, j4⟩, m, m0, m1, m2, m3, m4⟩ := h
  have hj : jNde D pv j 3 7 := ⟨j0, j1, j3, j2⟩
  have hm : jNde D pv m 3 6 := ⟨m0, m1, m3, m2⟩
  have nil : ∀ a ∈ ([] : List Int), False := fun a ha => by cases ha
  have zu := (h1.2.2.1 (2 * u.toNat) (by have := hu.1; omega) (by have := hu.1; have := hu.2.1; omega)).1.1
  have zt := (h1.2.2.1 (2 * t.toNat) (by have := ht.1; omega) (by have := ht.1; have := ht.2.1; omega)).1.1
  have eu : jln D (2 * u.toNat) = jSo D.2.2.1 u := by
    unfold jln
    rw [if_pos (by omega), show (((2 * u.toNat) / 2 : Nat) : Int) = u by have := hu.1; omega, if_pos hu.2.2.1]
  have et : jln D (2 * t.toNat) = jSo D.2.2.1 t := by
    unfold jln
    rw [if_pos (by omega), show (((2 * t.toNat) / 2 : Nat) : Int) = t by have := ht.1; omega, if_pos ht.2.2.1]
  rw [eu] at zu
  rw [et] at zt
  have b := jByt h1 h2 [j, m, p, d, u, v, c, t]
    (List.pairwise_cons.mpr ⟨List.forall_mem_cons.mpr ⟨hj.ne hm (by omega), List.forall_mem_cons.mpr ⟨hj.ne hp (by omega), List.forall_mem_cons.mpr ⟨hj.ne hd (by omega), List.forall_mem_cons.mpr ⟨hj.ne hu (by omega), List.forall_mem_cons.mpr ⟨hj.ne hv (by omega), List.forall_mem_cons.mpr ⟨hj.ne hc (by omega), List.forall_mem_cons.mpr ⟨hj.ne ht (by omega), fun a ha => (nil a ha).elim⟩⟩⟩⟩⟩⟩⟩,
    List.pairwise_cons.mpr ⟨List.forall_mem_cons.mpr ⟨hm.ne hp (by omega), List.forall_mem_cons.mpr ⟨hm.ne hd (by omega), List.forall_mem_cons.mpr ⟨hm.ne hu (by omega), List.forall_mem_cons.mpr ⟨hm.ne hv (by omega), List.forall_mem_cons.mpr ⟨hm.ne hc (by omega), List.forall_mem_cons.mpr ⟨hm.ne ht (by omega), fun a ha => (nil a ha).elim⟩⟩⟩⟩⟩⟩,
    List.pairwise_cons.mpr ⟨List.forall_mem_cons.mpr ⟨hp.ne hd (by omega), List.forall_mem_cons.mpr ⟨hp.ne hu (by omega), List.forall_mem_cons.mpr ⟨hp.ne hv (by omega), List.forall_mem_cons.mpr ⟨hp.ne hc (by omega), List.forall_mem_cons.mpr ⟨hp.ne ht (by omega), fun a ha => (nil a ha).elim⟩⟩⟩⟩⟩,
    List.pairwise_cons.mpr ⟨List.forall_mem_cons.mpr ⟨hd.ne hu (by omega), List.forall_mem_cons.mpr ⟨hd.ne hv (by omega), List.forall_mem_cons.mpr ⟨hd.ne hc (by omega), List.forall_mem_cons.mpr ⟨hd.ne ht (by omega), fun a ha => (nil a ha).elim⟩⟩⟩⟩,
    List.pairwise_cons.mpr ⟨List.forall_mem_cons.mpr ⟨hu.ne hv (by omega), List.forall_mem_cons.mpr ⟨hu.ne hc (by omega), List.forall_mem_cons.mpr ⟨hu.ne ht (by omega), fun a ha => (nil a ha).elim⟩⟩⟩,
    List.pairwise_cons.mpr ⟨List.forall_mem_cons.mpr ⟨hv.ne hc (by omega), List.forall_mem_cons.mpr ⟨hv.ne ht (by omega), fun a ha => (nil a ha).elim⟩⟩,
    List.pairwise_cons.mpr ⟨List.forall_mem_cons.mpr ⟨hc.ne ht (by omega), fun a ha => (nil a ha).elim⟩,
    List.pairwise_cons.mpr ⟨fun a ha => (nil a ha).elim, List.Pairwise.nil⟩⟩⟩⟩⟩⟩⟩⟩)
    (List.forall_mem_cons.mpr ⟨hj.r (by omega), List.forall_mem_cons.mpr ⟨hm.r (by omega), List.forall_mem_cons.mpr ⟨hp.r (by omega), List.forall_mem_cons.mpr ⟨hd.r (by omega), List.forall_mem_cons.mpr ⟨hu.r (by omega), List.forall_mem_cons.mpr ⟨hv.r (by omega), List.forall_mem_cons.mpr ⟨hc.r (by omega), List.forall_mem_cons.mpr ⟨ht.r (by omega), fun a ha => (nil a ha).elim⟩⟩⟩⟩⟩⟩⟩⟩)
  rw [hj.s, hm.s, hp.w (by omega), hd.w (by omega), hu.s, hv.w (by omega), hc.w (by omega), ht.s, show jWs D [] = 0 from rfl, j4, m4, show (([j, m, p, d, u, v, c, t].length : Nat) : Int) = 8 from rfl] at b
  omega
theorem jMg.q {D : jC} {pv pu n z : Int} (h : jMg D pv pu n z) (hq : pu ≤ 3000) : jJq D.1 D.2.1 D.2.2.1 pv := h.1.elim (fun _ g => g.p hq)
theorem jMg.u {D : jC} {pv pu n z : Int} (h : jMg D pv pu n z) : jJu D.1 D.2.2.1 pv pu := h.1.elim (fun _ g => g.u)
theorem jNde.of {fk fi fz fa fs : Nat → Int32} {pv i k z : Int} (h0 : 0 ≤ i) (h1 : i < pv) (h2 : jSo fk i = k) (h3 : jSo fs i = z) : jNde (fk, fi, fz, fa, fs) pv i k z := ⟨h0, h1, h2, h3⟩
def jMh (D : jC) (pv pu n : Int) : Prop := (∃ C : jC, jJr C 0 0 D pv pu) ∧ jUd D pv pu n
theorem jMh.of {C : jC} {gk gi gz ga gs : Nat → Int32} {qv qu n : Int} (h : jJr C 0 0 (gk, gi, gz, ga, gs) qv qu) (g : jUd (gk, gi, gz, ga, gs) qv qu n) : jMh (gk, gi, gz, ga, gs) qv qu n := ⟨⟨C, h⟩, g⟩
theorem jMh.mg {fk fi fz fa fs : Nat → Int32} {pv pu n z m : Int} (h : jMh (fk, fi, fz, fa, fs) pv pu n) (h0 : 0 ≤ m) (h1 : m < pv) (h2 : jSo fs m = 6) (h3 : jSo fk m = 3) (h4 : jSo fz m = z) : jMg (fk, fi, fz, fa, fs) pv pu n z := ⟨h.1, h.2, m, h0, h1, h2, h3, h4⟩
theorem jMh.q {fk fi fz fa fs : Nat → Int32} {pv pu n : Int} (h : jMh (fk, fi, fz, fa, fs) pv pu n) (hq : pu ≤ 3000) : jJq fk fi fz pv := h.1.elim (fun _ g => g.p hq)
theorem jMh.u {fk fi fz fa fs : Nat → Int32} {pv pu n : Int} (h : jMh (fk, fi, fz, fa, fs) pv pu n) : jJu fk fz pv pu := h.1.elim (fun _ g => g.u)
/-- a message that was understood has some bytes -/
theorem jMh.one {D : jC} {pv pu n : Int} (h : jMh D pv pu n) : 14 ≤ n := by
  obtain ⟨⟨C, h1⟩, h2, j, j0, j1, j2, j3, j4⟩ := h
  have hj : jNde D pv j 3 7 := ⟨j0, j1, j3, j2⟩
  have nil : ∀ a ∈ ([] : List Int), False := fun a ha => by cases ha
  have b := jByt h1 h2 [j] (List.pairwise_cons.mpr ⟨fun a ha => (nil a ha).elim, List.Pairwise.nil⟩) (List.forall_mem_cons.mpr ⟨hj.r (by omega), fun a ha => (nil a ha).elim⟩)
  rw [hj.s, show jWs D [] = 0 from rfl, j4, show (([j].length : Nat) : Int) = 1 from rfl] at b
  omega
theorem jMg.two {D : jC} {pv pu n z : Int} (h : jMg D pv pu n z) : 25 + z ≤ n := by
  obtain ⟨⟨C, h1⟩, ⟨h2, j, j0, j1, j2, j3, j4⟩, m, m0, m1, m2, m3, m4⟩ := h
  have hj : jNde D pv j 3 7 := ⟨j0, j1, j3, j2⟩
  have hm : jNde D pv m 3 6 := ⟨m0, m1, m3, m2⟩
  have nil : ∀ a ∈ ([] : List Int), False := fun a ha => by cases ha
  have b := jByt h1 h2 [j, m] (List.pairwise_cons.mpr ⟨List.forall_mem_cons.mpr ⟨hj.ne hm (by omega), fun a ha => (nil a ha).elim⟩, List.pairwise_cons.mpr ⟨fun a ha => (nil a ha).elim, List.Pairwise.nil⟩⟩) (List.forall_mem_cons.mpr ⟨hj.r (by omega), List.forall_mem_cons.mpr ⟨hm.r (by omega), fun a ha => (nil a ha).elim⟩⟩)
  rw [hj.s, hm.s, show jWs D [] = 0 from rfl, j4, m4, show (([j, m].length : Nat) : Int) = 2 from rfl] at b
  omega
theorem jEd.z {fe : Nat → Int32} {k : Int} (h : k ≤ 0) : jEd fe k = 0 := by
  unfold jEd
  rw [if_pos h]
def jTxf (fk fs : Nat → Int32) (pv : Int) : Prop := ∃ t : Int, 0 ≤ t ∧ t < pv ∧ jSo fs t = 4 ∧ jSo fk t = 3
theorem jEd.ge {fb fe : Nat → Int32} {s u k : Int} (h : jSn fb fe s u) (h1 : k ≤ s) : 0 ≤ jEd fe k := by
  unfold jEd
  by_cases q : k ≤ 0
  · rw [if_pos q]; omega
  · rw [if_neg q]
    have := h (k - 1) (by omega) (by omega)
    omega
theorem jSn.ge {fb fe : Nat → Int32} {s u k : Int} (h : jSn fb fe s u) (h0 : 0 ≤ k) : s ≤ k ∨ 0 ≤ jSo fe k := by
  by_cases q : s ≤ k
  · exact Or.inl q
  · have := h k h0 (by omega)
    exact Or.inr (by omega)
theorem jMh.pu {D : jC} {pv pu n : Int} (h : jMh D pv pu n) : pu ≤ n + 1 := by
  have h1 := h.2.1
  have h2 := jSb.lo D.2.2.2.2 pv.toNat
  omega
/-- one or the other, hidden until it is resolved -/
def jOr (p q : Prop) : Prop := p ∨ q
theorem jOr.of {p q : Prop} (h : p ∨ q) : jOr p q := h
theorem jOr.or {p q : Prop} (h : jOr p q) : p ∨ q := h
theorem jOr.resolve_left {p q : Prop} (h : jOr p q) (n : ¬p) : q := Or.resolve_left h n
theorem jOr.resolve_right {p q : Prop} (h : jOr p q) (n : ¬q) : p := Or.resolve_right h n
