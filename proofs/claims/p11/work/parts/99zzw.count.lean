-- how many bytes a message has at least: its strings and keys stand apart
def jSuu (D : jC) : List Nat → Int
  | [] => 0
  | e :: es => jln D e + jSuu D es
def jCl (D : jC) (N : Int) (e : Nat) : Int := if N ≤ jlo D e then 0 else if N ≤ jlo D e + jln D e then N - jlo D e else jln D e
def jCss (D : jC) (N : Int) : List Nat → Int
  | [] => 0
  | e :: es => jCl D N e + jCss D N es
def jIn1 (D : jC) (N : Int) (e : Nat) : Int := if jlo D e ≤ N ∧ N < jlo D e + jln D e then 1 else 0
def jIs1 (D : jC) (N : Int) : List Nat → Int
  | [] => 0
  | e :: es => jIn1 D N e + jIs1 D N es
theorem jCl.suc {D : jC} {N : Int} {e : Nat} (h : 0 ≤ jln D e) : jCl D (N + 1) e = jCl D N e + jIn1 D N e := by
  unfold jCl jIn1
  by_cases a : N + 1 ≤ jlo D e
  · rw [if_pos a, if_pos (by omega), if_neg (by omega)]; rfl
  · rw [if_neg a]
    by_cases b : N + 1 ≤ jlo D e + jln D e
    · rw [if_pos b, if_pos (by omega : jlo D e ≤ N ∧ N < jlo D e + jln D e)]
      by_cases c : N ≤ jlo D e
      · rw [if_pos c]; omega
      · rw [if_neg c, if_pos (by omega)]; omega
    · rw [if_neg b, if_neg (by omega : ¬ (jlo D e ≤ N ∧ N < jlo D e + jln D e))]
      by_cases c : N ≤ jlo D e
      · rw [if_pos c]; omega
      · rw [if_neg c]
        by_cases d : N ≤ jlo D e + jln D e
        · rw [if_pos d]; omega
        · rw [if_neg d]; omega
theorem jCss.suc {D : jC} {N : Int} : ∀ es : List Nat, (∀ e ∈ es, 0 ≤ jln D e) → jCss D (N + 1) es = jCss D N es + jIs1 D N es
  | [], _ => rfl
  | e :: es, h => by
    have h1 := jCss.suc (N := N) es (fun x hx => h x (List.mem_cons_of_mem _ hx))
    have h2 := jCl.suc (N := N) (h e List.mem_cons_self)
    show jCl D (N + 1) e + jCss D (N + 1) es = jCl D N e + jCss D N es + (jIn1 D N e + jIs1 D N es)
    omega
theorem jIs1.none {D : jC} {N : Int} : ∀ es : List Nat, (∀ e ∈ es, jIn1 D N e = 0) → jIs1 D N es = 0
  | [], _ => rfl
  | e :: es, h => by
    have h1 := jIs1.none es (fun x hx => h x (List.mem_cons_of_mem _ hx))
    have h2 := h e List.mem_cons_self
    show jIn1 D N e + jIs1 D N es = 0
    omega
theorem jIs1.le {D : jC} {N : Int} : ∀ es : List Nat, es.Pairwise (jDjn D) → (∀ e ∈ es, 0 ≤ jln D e) → jIs1 D N es ≤ 1
  | [], _, _ => by show (0 : Int) ≤ 1; omega
  | e :: es, hp, h => by
    obtain ⟨p1, p2⟩ := List.pairwise_cons.mp hp
    have h1 := jIs1.le (N := N) es p2 (fun x hx => h x (List.mem_cons_of_mem _ hx))
    show jIn1 D N e + jIs1 D N es ≤ 1
    by_cases q : jlo D e ≤ N ∧ N < jlo D e + jln D e
    · have h2 : jIs1 D N es = 0 := jIs1.none es (fun x hx => by
        have d := p1 x hx
        have l := h x (List.mem_cons_of_mem _ hx)
        unfold jDjn at d
        unfold jIn1
        rw [if_neg (by omega)])
      have h3 : jIn1 D N e = 1 := by unfold jIn1; rw [if_pos q]
      omega
    · have h3 : jIn1 D N e = 0 := by unfold jIn1; rw [if_neg q]
      omega
theorem jCss.le {D : jC} {es : List Nat} (hp : es.Pairwise (jDjn D)) (h : ∀ e ∈ es, 0 ≤ jln D e) (h0 : ∀ e ∈ es, 0 ≤ jlo D e) : ∀ N : Nat, jCss D (N : Int) es ≤ N
  | 0 => by
    have z : ∀ es : List Nat, (∀ e ∈ es, 0 ≤ jlo D e) → jCss D ((0 : Nat) : Int) es = 0 := fun es => by
      induction es with
      | nil => exact fun _ => rfl
      | cons e es ih =>
        intro hq
        have h1 := ih (fun x hx => hq x (List.mem_cons_of_mem _ hx))
        have h2 := hq e List.mem_cons_self
        show jCl D _ e + jCss D _ es = 0
        have h3 : jCl D ((0 : Nat) : Int) e = 0 := by unfold jCl; rw [if_pos (by omega)]
        omega
    rw [z es h0]
    exact Int.le_refl _
  | N + 1 => by
    have h1 := jCss.le hp h h0 N
    have h2 := jCss.suc (N := (N : Int)) es h
    have h3 := jIs1.le (N := (N : Int)) es hp h
    have e1 : ((N + 1 : Nat) : Int) = (N : Int) + 1 := by omega
    rw [e1]
    omega
theorem jCss.all {D : jC} {N : Int} : ∀ es : List Nat, (∀ e ∈ es, 0 ≤ jln D e ∧ jlo D e + jln D e ≤ N) → jCss D N es = jSuu D es
  | [], _ => rfl
  | e :: es, h => by
    have h1 := jCss.all (N := N) es (fun x hx => h x (List.mem_cons_of_mem _ hx))
    have h2 := h e List.mem_cons_self
    show jCl D N e + jCss D N es = jln D e + jSuu D es
    have h3 : jCl D N e = jln D e := by
      unfold jCl
      by_cases a : N ≤ jlo D e
      · rw [if_pos a]; omega
      · rw [if_neg a]
        by_cases b : N ≤ jlo D e + jln D e
        · rw [if_pos b]; omega
        · rw [if_neg b]
    omega
theorem jJr.sum {C D : jC} {qv qu : Int} (h : jJr C 0 0 D qv qu) (es : List Nat) (hl : ∀ e ∈ es, (e : Int) < 2 * qv) (hn : es.Pairwise (· ≠ ·)) : jSuu D es ≤ qu := by
  obtain ⟨h1, h2, h3, h4⟩ := h
  have b : ∀ e ∈ es, (0 ≤ jln D e ∧ 0 ≤ jlo D e) ∧ jlo D e + jln D e ≤ qu := fun e he => by
    have := h3 e (by omega) (hl e he)
    omega
  have hp : es.Pairwise (jDjn D) := hn.imp_of_mem (fun ha hb ne => h4 _ _ (by omega) (hl _ ha) (by omega) (hl _ hb) ne)
  have c := jCss.le hp (fun e he => (b e he).1.1) (fun e he => (b e he).1.2) qu.toNat
  have e1 : ((qu.toNat : Nat) : Int) = qu := by omega
  rw [e1, jCss.all es (fun e he => ⟨(b e he).1.1, (b e he).2⟩)] at c
  exact c
/-- and how many values have a key -/
def jCi (n : Nat) : List Nat → Int
  | [] => 0
  | i :: is => (if i < n then 3 else 0) + jCi n is
theorem jCi.out {n : Nat} : ∀ is : List Nat, (∀ i ∈ is, i ≠ n) → jCi (n + 1) is = jCi n is
  | [], _ => rfl
  | i :: is, h => by
    have h1 := jCi.out is (fun x hx => h x (List.mem_cons_of_mem _ hx))
    have h2 := h i List.mem_cons_self
    show (if i < n + 1 then (3 : Int) else 0) + jCi (n + 1) is = (if i < n then 3 else 0) + jCi n is
    rw [h1]
    by_cases q : i < n
    · rw [if_pos q, if_pos (by omega)]
    · rw [if_neg q, if_neg (by omega)]
theorem jCi.suc {n : Nat} {f : Nat → Int32} : ∀ is : List Nat, is.Pairwise (· ≠ ·) → (∀ i ∈ is, 1 ≤ (f i).toInt) → jCi (n + 1) is ≤ jCi n is + (if 1 ≤ (f n).toInt then 3 else 0)
  | [], _, _ => by show (0 : Int) ≤ 0 + _; split <;> omega
  | i :: is, hp, hf => by
    obtain ⟨p1, p2⟩ := List.pairwise_cons.mp hp
    show (if i < n + 1 then (3 : Int) else 0) + jCi (n + 1) is ≤ (if i < n then 3 else 0) + jCi n is + _
    by_cases e : i = n
    · subst e
      rw [jCi.out is (fun x hx q => p1 x hx q.symm), if_pos (by omega : i < i + 1), if_neg (by omega : ¬ i < i), if_pos (hf i List.mem_cons_self)]
      omega
    · have h1 := jCi.suc (n := n) (f := f) is p2 (fun x hx => hf x (List.mem_cons_of_mem _ hx))
      have e2 : (if i < n + 1 then (3 : Int) else 0) = (if i < n then 3 else 0) := by
        by_cases q : i < n
        · rw [if_pos q, if_pos (by omega)]
        · rw [if_neg q, if_neg (by omega)]
      rw [e2]
      omega
theorem jSb.many {f : Nat → Int32} {is : List Nat} (hp : is.Pairwise (· ≠ ·)) (hf : ∀ i ∈ is, 1 ≤ (f i).toInt) : ∀ n : Nat, jCi n is + 2 * (n : Int) ≤ jSb f n
  | 0 => by
    have z : ∀ is : List Nat, jCi 0 is = 0 := fun is => by
      induction is with
      | nil => rfl
      | cons i is ih => show (if i < 0 then (3 : Int) else 0) + jCi 0 is = 0; rw [if_neg (by omega), ih]; rfl
    rw [z is]
    show (0 : Int) + 2 * 0 ≤ 0
    omega
  | n + 1 => by
    have h1 := jSb.many hp hf n
    have h2 := jCi.suc (n := n) (f := f) is hp hf
    show jCi (n + 1) is + 2 * ((n + 1 : Nat) : Int) ≤ jSb f n + (if 1 ≤ (f n).toInt then 5 else 2)
    by_cases q : 1 ≤ (f n).toInt
    · rw [if_pos q] at h2 ⊢; omega
    · rw [if_neg q] at h2 ⊢; omega
