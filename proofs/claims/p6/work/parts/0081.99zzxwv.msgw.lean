section
-- p8: a message, a byte, a batch (the reference)
section J93
variable {T : Nat → Int → Int} {v p m : Int} {S : Int × (Int → jdD)} {Z : jwSt}
theorem jwRq.z (hm : m = jdMe T v) (h : p ≠ 1 ∨ jqI T v (jChT jdIn) 10 m = 1 ∨ jqI T v (jChT "shutdown") 8 m = 1) : jwRq T v p S Z = Z := by
  subst hm
  exact if_neg (fun q => h.elim (fun w => w q.1) (fun w => w.elim q.2.1 q.2.2))
theorem jwRq.g (hm : m = jdMe T v) (hp : p = 1) (h : jqI T v (jChT jdIn) 10 m ≠ 1) (h1 : jqI T v (jChT "shutdown") 8 m ≠ 1) (h2 : jqI T v (jChT "proof/goals") 11 m = 1) : jwRq T v p S Z = jwGo T v S Z (jdWh T v S.1 S.2) := by
  subst hm; unfold jwRq
  rw [if_pos ⟨hp, h, h1⟩, if_pos h2]
theorem jwNo.z (hp : p ≠ 1) : jwNo T v p S Z = Z := if_pos hp
theorem jwNo.c (hm : m = jdMe T v) (hp : p = 1) (h : jqI T v (jChT "textDocument/didOpen") 20 m ≠ 1) (h1 : jqI T v (jChT "textDocument/didChange") 22 m = 1) : jwNo T v p S Z = jwCg T v S Z := by
  subst hm; unfold jwNo; rw [if_neg (fun q => q hp), if_neg h, if_pos h1]
theorem jwNo.l (hm : m = jdMe T v) (hp : p = 1) (h : jqI T v (jChT "textDocument/didOpen") 20 m ≠ 1) (h1 : jqI T v (jChT "textDocument/didChange") 22 m ≠ 1) (h2 : jqI T v (jChT "textDocument/didClose") 21 m = 1) : jwNo T v p S Z = jwCl T v S Z := by
  subst hm; unfold jwNo; rw [if_neg (fun q => q hp), if_neg h, if_neg h1, if_pos h2]
theorem jwNo.k (hm : m = jdMe T v) (hp : p = 1) (h : jqI T v (jChT "textDocument/didOpen") 20 m ≠ 1) (h1 : jqI T v (jChT "textDocument/didChange") 22 m ≠ 1) (h2 : jqI T v (jChT "textDocument/didClose") 21 m ≠ 1) (h3 : jqI T v (jChT "$/cancelRequest") 15 m = 1) : jwNo T v p S Z = jwCa T v Z := by
  subst hm; unfold jwNo; rw [if_neg (fun q => q hp), if_neg h, if_neg h1, if_neg h2, if_pos h3]
theorem jwMg.x (hg : jdGd T v ≠ 1) : jwMg T v p S Z = Z := if_neg hg
theorem jwMg.r (hg : jdGd T v = 1) (hi : 0 ≤ jdId T v) : jwMg T v p S Z = jwRq T v p S Z := by
  unfold jwMg; rw [if_pos hg, if_pos hi]
theorem jwMg.t (hg : jdGd T v = 1) (hi : jdId T v < 0) : jwMg T v p S Z = jwNz T v p S Z := by
  unfold jwMg; rw [if_pos hg, if_neg (by omega)]; rfl
theorem jdGd.id (hg : jdGd T v = 1) (hi : 0 ≤ jdId T v) : jqK T v (jdId T v) = 4 ∨ (jqK T v (jdId T v) = 3 ∧ T 3 (jdId T v) ≤ 20) := by
  unfold jdGd at hg
  split at hg
  · rename_i h
    exact h.2.2.2.resolve_left (fun w => by omega)
  · cases hg
theorem jwMs.no {D : Int → Int} {z : Int} (hD : jfBy D) (h : (jjRd (jB8 (jfCu D)) z).1 = 0) : jwMs D z p S Z = Z := if_neg (by rw [← jB8.cu hD]; omega)
theorem jwMs.ya {D : Int → Int} {z u : Int} (hD : jfBy D) (h : jjRd (jB8 (jfCu D)) z = (1, v, u, T)) : jwMs D z p S Z = jwMg T v p S Z := by
  have e : jjRd (jB8 (jfCn D)) z = (1, v, u, T) := by rw [← jB8.cu hD]; exact h
  unfold jwMs
  rw [e, if_pos rfl]
end J93
section J94
variable {X : Nat → Int} {s : jdSt} {c r bk pk m h l b cn cv qm qh ql qb qn qv e p z z1 n : Int} {fn fv gn gv fk gk : Nat → Int32} {S S1 : Int × (Int → jdD)} {D : Int → Int} {Z : jwSt}
theorem jwByte.a0 {Y : Nat → Int} {w : Int} (h0 : s.1 0 = 0) (ha : jfAc s.1 c = (Y, 0, w)) : jwByte s Z c = Z := by
  unfold jwByte
  rw [ha, if_neg (by rw [h0]; decide), if_neg (by show ¬ (0 : Int) = 1; decide)]
theorem jwByte.a1 {Y : Nat → Int} {w : Int} (h0 : s.1 0 = 0) (ha : jfAc s.1 c = (Y, 1, w)) : jwByte s Z c = jwMs (jdBy s c) w s.2.2.1 s.2.2.2 Z := by
  unfold jwByte
  rw [ha, if_neg (by rw [h0]; decide), if_pos (by show (1 : Int) = 1; rfl)]
theorem jwByte.x (hq : jrQ s pk m h l b fn cn fv cv fk z S) (hk : pk = 0) (hm : m ≠ 6) (hH : jfHq s.1 c r qm qh ql qb gn qn gv qv) (hr : r = 0) : jwByte s Z c = Z := by
  obtain ⟨q1, q2, q3, q4, q5⟩ := hq
  obtain ⟨-, h0, hR⟩ := q1.resolve_left (fun w => by have := w.1; omega)
  have hx := (hH.resolve_right (fun w => by have := w.1; omega)).2
  exact jwByte.a0 h0 (jfAc.h0 (hR.n6 hm) hx)
theorem jwByte.hh (hq : jrQ s pk m h l b fn cn fv cv fk z S) (hk : pk = 0) (hm : m ≠ 6) (hH : jfHq s.1 c r qm qh ql qb gn qn gv qv) (hr : r = 1) (hw : qm ≠ 6 ∨ qb < ql) : jwByte s Z c = Z := by
  obtain ⟨q1, q2, q3, q4, q5⟩ := hq
  obtain ⟨-, h0, hR⟩ := q1.resolve_left (fun w => by have := w.1; omega)
  have n6 := hR.n6 hm
  obtain ⟨-, a3, ad, aR⟩ := hH.resolve_left (fun w => by have := w.1; omega)
  have ew : jfW (jfNx s.1 c) = (jfNx s.1 c, 0, 0) := if_neg (fun w => by
    have w1 : jfNx s.1 c 1 = 6 := w.1
    have w2 : jfNx s.1 c 2 ≤ jfNx s.1 c 8 := w.2
    by_cases q : qm = 6
    · obtain ⟨-, g2, g3⟩ := aR.y6 q
      omega
    · exact aR.n6 q w1)
  exact jwByte.a0 h0 ((jfAc.h1 n6 a3 ad).trans ew)
theorem jwByte.mm (hq : jrQ s pk m h l b fn cn fv cv fk z S) (hk : pk = 0) (hm : m ≠ 6) (hH : jfHq s.1 c r qm qh ql qb gn qn gv qv) (hr : r = 1) (hw : qm = 6) (hl : ql ≤ qb) (hn : n = ql) : jwByte s Z c = jwMs s.2.1 n z S Z := by
  obtain ⟨q1, q2, q3, q4, q5⟩ := hq
  obtain ⟨-, h0, hR⟩ := q1.resolve_left (fun w => by have := w.1; omega)
  have n6 := hR.n6 hm
  obtain ⟨-, a3, ad, aR⟩ := hH.resolve_left (fun w => by have := w.1; omega)
  have eb : jdBy s c = s.2.1 := if_neg n6
  obtain ⟨g1, g2, g3⟩ := aR.y6 hw
  have ew : jfW (jfNx s.1 c) = (jfV 0 0 (-1) 0 (jfNx s.1 c 4) (jfNx s.1 c 5) (jfNx s.1 c 6) (jfNx s.1 c 7) 0, 1, jfNx s.1 c 2) := if_pos ⟨g1, by omega⟩
  rw [jwByte.a1 h0 ((jfAc.h1 n6 a3 ad).trans ew), eb, g2, ← hn, q4, q5]
theorem jwByte.bn (hq : jrQ s pk m h l b fn cn fv cv fk z S) (hk : pk = 0) (hm : m = 6) (hw : b + 1 < l) : jwByte s Z c = Z := by
  obtain ⟨q1, q2, q3, q4, q5⟩ := hq
  obtain ⟨-, g0, hR⟩ := q1.resolve_left (fun w => by have := w.1; omega)
  obtain ⟨g1, g2, g3⟩ := hR.y6 hm
  exact jwByte.a0 (c := c) g0 ((jfAc.b6 g1).trans (jfW_n (Or.inr (by omega))))
theorem jwByte.bm (hq : jrQ s pk m h l b fn cn fv cv fk z S) (hk : pk = 0) (hm : m = 6) (hw : l ≤ b + 1) (hn : n = l) : jwByte s Z c = jwMs (jfBu s.2.1 b c) n z S Z := by
  obtain ⟨q1, q2, q3, q4, q5⟩ := hq
  obtain ⟨-, g0, hR⟩ := q1.resolve_left (fun w => by have := w.1; omega)
  obtain ⟨g1, g2, g3⟩ := hR.y6 hm
  have eb : jdBy s c = jfBu s.2.1 b c := by rw [g3]; exact if_pos g1
  rw [jwByte.a1 g0 ((jfAc.b6 g1).trans (jfW_y rfl (by omega))), eb, g2, ← hn, q4, q5]
end J94
theorem jwByte.br {s : jdSt} {Z : jwSt} {c : Int} (h : s.1 0 = 1) : jwByte s Z c = Z := if_pos h
theorem jwFd.brk {b : Int → Int} {s : jdSt} {Z : jwSt} {k : Nat} (h : (jdFd b s k).1 0 = 1) : ∀ m, jwFd b s Z (k + m) = jwFd b s Z k
  | 0 => rfl
  | m + 1 => by
    show jwByte (jdFd b s (k + m)) (jwFd b s Z (k + m)) (b ((k + m : Nat) : Int)) = _
    rw [jwFd.brk h m, jwByte.br (by rw [jdFd.brk h m]; exact h)]
theorem jwFd.br {b : Int → Int} {s : jdSt} {Z : jwSt} {k n : Nat} (h : (jdFd b s k).1 0 = 1) (hn : k ≤ n) : jwFd b s Z n = jwFd b s Z k := by
  have := jwFd.brk (Z := Z) h (n - k)
  rw [show k + (n - k) = n by omega] at this
  exact this
-- a document's numbers
end
