section
-- p8: one asks (the reference)
section J92
variable {t : jDtr} {q : jXg} {fd co : Nat → Option Nat} {dc : Int} {cs cl : Nat → Int32} {W : List jwA} {ol nw td x : Nat} {S : Int × (Int → jdD)} {Z : jwSt} {d : Int}
theorem jrZ.psh {nd : Int} {I : jwI} (h : jrZ t q fd dc co cs cl W ol nw td S Z) (hd0 : 0 ≤ d) (hd : d < dc) (hx : fd d.toNat = some x) : jrZ t q fd dc co cs cl (jwPw W (x, nd, I)) ol nw td S (Z.1, Z.2.1, jwPu Z.2.2.1 (d, nd, I), Z.2.2.2) := by
  have h3 := h.dc3
  refine ⟨h.1, h.2.1, h.2.2.1, h.2.2.2.1, h.2.2.2.2.1, h.2.2.2.2.2.1, h.2.2.2.2.2.2.1, ?_⟩
  obtain ⟨h1, h2⟩ := h.2.2.2.2.2.2.2
  have hl : Z.2.2.1.length = W.length := by rw [h2, List.length_map]
  show jrW fd dc (jwPw W (x, nd, I)) (jwPu Z.2.2.1 (d, nd, I))
  unfold jwPw jwPu
  rw [hl]
  by_cases g : W.length < 12
  · rw [if_pos g, if_pos g]
    refine ⟨fun a ha => ?_, ?_⟩
    · rcases List.mem_append.mp ha with ha | ha
      · exact h1 a ha
      · rw [List.mem_singleton.mp ha]
        exact ⟨d.toNat, by omega, by omega, hx⟩
    · rw [h2, List.map_append]
      congr 1
      show [(d, nd, I)] = [(jrNu fd x, nd, I)]
      rw [h.nu (d := d.toNat) (by omega) hx]
      congr 2
      omega
  · rw [if_neg g, if_neg g]
    exact ⟨h1, h2⟩
theorem jwNd_s {f : Nat → Int32} {n s p k k1 : Int} {y : Nat} (hy : 0 < y) (h : k < s) (he : jcE f n k.toNat ≤ p) (e : k1 = k + 1) : jwNd f n s p (y - 1) k1 = jwNd f n s p y k := by
  subst e
  cases y with
  | zero => omega
  | succ y => exact (if_pos ⟨h, he⟩).symm
theorem jwNd_e {f : Nat → Int32} {n s p k : Int} {y : Nat} (h : y = 0 ∨ s ≤ k ∨ p < jcE f n k.toNat) : jwNd f n s p y k = k := by
  cases y with
  | zero => rfl
  | succ y => exact if_neg (fun z => by omega)
theorem jwGo.z {T : Nat → Int → Int} {v p : Int} (h : jrZ t q fd dc co cs cl W ol nw td S Z) (hd0 : 0 ≤ d) (hd : d < dc) (hx : fd d.toNat = some x) (hp : p = jdT T v (jSo (t.tx x)) (t.ln x).toInt (jwPo T v)) (hp0 : p < 0) : jwGo T v S Z d = Z := by
  have hl := h.l0 x
  have e : S.2 d = jdR1 t x := by
    have := h.doc (d := d.toNat) (by omega) hx
    rw [show ((d.toNat : Nat) : Int) = d by omega] at this
    exact this
  have e1 : jdT T v (S.2 d).2.2.1 (S.2 d).2.1 (jwPo T v) = p := by
    rw [e, hp]
    show jdT T v (jdKp (t.ln x).toInt (jSo (t.tx x))) (t.ln x).toInt (jwPo T v) = _
    exact jdT.cg jdKp.v hl.1
  exact jwGo.n (fun z => by omega)
theorem jwErN {p : jwQ → Bool} {f : jwA → jwQ} (h : ∀ a ∈ W, ¬ p (f a) = true) : (W.map f).eraseP p = W.map f := List.eraseP_of_forall_not (fun b hb => by
  obtain ⟨a, ha, e⟩ := List.mem_map.mp hb
  rw [← e]; exact h a ha)
theorem jwCa.no {T : Nat → Int → Int} {v i : Int} (h : jrZ t q fd dc co cs cl W ol nw td S Z) (hi : (W.length : Int) ≤ i) (hn : ∀ j : Int, 0 ≤ j → j < i → ¬ jwIq W j T v (jwPi T v)) : jwCa T v Z = Z := by
  have hq := h.2.2.2.2.2.2.2
  unfold jwCa
  split
  · have : Z.2.2.1.eraseP (fun z => decide (z.2.2 = jwId T v (jwPi T v))) = Z.2.2.1 := by
      rw [hq.2]
      refine jwErN (fun a ha w => ?_)
      obtain ⟨j, hj⟩ := List.mem_iff_getElem?.mp ha
      have hl := (List.getElem?_eq_some_iff.mp hj).1
      exact hn (j : Int) (by omega) (by omega) ⟨a, by rw [show ((j : Int)).toNat = j by omega]; exact hj, of_decide_eq_true w⟩
    rw [this]
  · rfl
theorem jwCa.nk {T : Nat → Int → Int} {v : Int} (hk : ¬ (jqK T v (jwPi T v) = 4 ∨ (jqK T v (jwPi T v) = 3 ∧ T 3 (jwPi T v) ≤ 20))) : jwCa T v Z = Z := if_neg hk
end J92
end
