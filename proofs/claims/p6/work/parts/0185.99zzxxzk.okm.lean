section
-- p8: what holds of the machine stays, from message to message
section J9OM
variable {T : Nat → Int → Int} {v p : Int} {S S1 : Int × (Int → jdD)} {Z : jwSt} {d e : Int}
theorem jwOq.wo {k : Int} (h : jwOq S Z) : jwOq S (jwWork S k Z).2 := by
  unfold jwWork
  split
  · exact ⟨jwOk.wk _ _ h.1, h.2⟩
  · exact h
end J9OM
end
section
-- p8: what both sides hold between two calls
def jlJ (a0 a1 a2 a3 a4 a5 a6 a7 a8 : Int) (fb : Nat → Int32) (z : Int) (bk m h l b : Int) (fn : Nat → Int32) (cn : Int) (fv : Nat → Int32) (cv : Int) (fk : Nat → Int32) (zr : Int) (S : Int × (Int → jdD)) : Prop := ∃ s : jdSt, jfQ s.1 a0 a1 a2 a3 a4 a5 a6 a7 a8 ∧ jfBd s.2.1 fb 3000 ∧ s.2.2.1 = z ∧ s.2.2.2 = S ∧ jrQ s bk m h l b fn cn fv cv fk zr S
section
variable {a0 a1 a2 a3 a4 a5 a6 a7 a8 z bk m h l b cn cv zr : Int} {fb fn fv fk : Nat → Int32} {S : Int × (Int → jdD)}
theorem jlJ.gv {s1 s2 : jdSt} (h1 : jfQ s1.1 a0 a1 a2 a3 a4 a5 a6 a7 a8) (h2 : jfBd s1.2.1 fb 3000) (h3 : s1.2.2.1 = z) (h4 : s1.2.2.2 = S) (h5 : jrQ s2 bk m h l b fn cn fv cv fk zr S) (he : s2 = s1) : jlJ a0 a1 a2 a3 a4 a5 a6 a7 a8 fb z bk m h l b fn cn fv cv fk zr S := by
  subst he
  exact ⟨s2, h1, h2, h3, h4, h5⟩
theorem jlJ.zz (h0 : a0 = 0) (h1 : a1 = 0) (h2 : a2 = -1) (h3 : a3 = 0) (h4 : a4 = 0) (h5 : a5 = 0) (h6 : a6 = 0) (h7 : a7 = 0) (h8 : a8 = 0) (hb : fb = fun _ => 0) (hz : z = 0) (k0 : bk = 0) (k1 : m = 0) (k2 : h = 0) (k3 : l = -1) (hk : fk = fun _ => 0) (hr : zr = 0) : jlJ a0 a1 a2 a3 a4 a5 a6 a7 a8 fb z bk m h l b fn cn fv cv fk zr (0, fun _ => jdDz) := by
  subst h0 h1 h2 h3 h4 h5 h6 h7 h8 hb hz k0 k1 k2 k3 hk hr
  refine ⟨(jfV 0 0 (-1) 0 0 0 0 0 0, fun _ => 0, 0, (0, fun _ => jdDz)), Or.inr ⟨rfl, rfl⟩, fun j h0 h1 => ?_, rfl, rfl, ?_⟩
  · refine ⟨?_, ?_, ?_⟩
    · show (0 : Int32).toInt % 256 = 0
      decide
    · show (-128 : Int) ≤ (0 : Int32).toInt
      decide
    · show (0 : Int32).toInt ≤ (127 : Int)
      decide
  · exact ⟨Or.inr ⟨rfl, rfl, ⟨rfl, Or.inr ⟨rfl, rfl, Or.inl ⟨rfl, rfl⟩⟩⟩⟩, fun j => by show (0 : Int) ≤ 0 ∧ (0 : Int) ≤ 255; decide, jfCu.z, rfl, rfl⟩
end
theorem jwFd.cg {a b : Int → Int} {s : jdSt} {Z : jwSt} : ∀ k : Nat, (∀ j : Nat, j < k → a j = b j) → jwFd a s Z k = jwFd b s Z k
  | 0, _ => rfl
  | k + 1, h => by
    show jwByte (jdFd a s k) (jwFd a s Z k) (a k) = jwByte (jdFd b s k) (jwFd b s Z k) (b k)
    rw [jdFd.cg k (fun j hj => h j (by omega)), jwFd.cg k (fun j hj => h j (by omega)), h k (by omega)]
theorem jlFw {f g : Nat → Int32} {s : jdSt} {Z : jwSt} {a p a1 p1 : Int} (hT : jTe f g p) (ha : a1 = a) (hp : p1 = p) : jwFd (jB8 g) s Z (jdN a1 p1) = jwFd (jB8 f) s Z (jdN a p) := by
  subst ha hp
  refine jwFd.cg _ (fun j hj => ?_)
  have h1 : (j : Int) < p1 := by
    unfold jdN at hj
    split at hj <;> omega
  exact (hT j (by omega) h1).symm
theorem jwOq.z0 : jwOq (0, fun _ => jdDz) jwZ0 := by
  refine ⟨⟨fun d h0 h1 => ?_, fun w _ => Or.inl rfl, fun _ => rfl, fun q hq => ?_, Nat.zero_le _, Nat.zero_le _⟩, Int.le_refl 0, fun d h0 h1 => ?_⟩
  · have h1 : d < 0 := h1
    omega
  · cases hq
  · have h1 : d < 0 := h1
    omega
section
variable {dC : Nat → ClassId} {dI : Nat → Nat → Nat} {ca : Nat → ClassId} {G : jT} {H : Heap}
theorem jXD.dy {q : jXg} (h : jXD dC dI ca G none q H) (hs : ∀ a, jSrt (q.sb a) (q.se a) (q.sn a).toInt 1500 ∧ 0 ≤ (q.sn a).toInt ∧ (q.sn a).toInt ≤ 40) : jDY dC dI ca G none q.sn H := by
  obtain ⟨Yb, Ye, Yf, h1, h2, h3, h4, h5⟩ := h
  refine ⟨Yb, Ye, fun a ha => ?_, fun a b ha hb e => h2 a b 0 0 ha hb e, fun a b ha hb e => h3 a b 0 0 ha hb e, fun a ha _ => ?_⟩
  · obtain ⟨p1, p2, p3, p4, p5, p6⟩ := h1 a 0 ha
    exact ⟨p1, p3, p2, p4⟩
  · obtain ⟨p1, p2, p3, p4, p5, p6⟩ := h1 a 0 ha
    obtain ⟨hP, hM, -⟩ := h5 a 0 ha (fun e => by cases e)
    exact ⟨q.sb a, q.se a, p2, p4, jP.cons ha p1 (jP.cons ha p3 (jP.cons ha (hP _ List.mem_cons_self).2 jP.nil)), hM.sub [0, 1] rfl, hs a⟩
theorem jXD.vl {q : jXg} (h : jXD dC dI ca G none q H) : jVl dC dI G 9 q.ck H := by
  obtain ⟨Yb, Ye, Yf, h1, h2, h3, h4, h5⟩ := h
  intro a ha
  obtain ⟨hP, hM, -⟩ := h5 a 0 ha (fun e => by cases e)
  exact (hP _ (List.mem_of_getElem? (i := 1) rfl)).2
theorem jKD.zero {q : jKg} (h : ∀ a t, G a ≠ some t) : jKD dC dI ca G none q H := ⟨fun _ => 0, fun _ => 0, fun _ => 0, fun _ => 0, fun a n ha => absurd ha (h _ _), fun a b n m ha => absurd ha (h _ _), fun a b n m ha => absurd ha (h _ _), fun a b n m ha => absurd ha (h _ _), fun a b n m ha => absurd ha (h _ _), fun a n ha => absurd ha (h _ _)⟩
theorem jUN.zero {us rw : Nat → List Int} (h : ∀ a t, G a ≠ some t) : jUN dC dI ca G 0 us rw H := ⟨fun y k ha => absurd ha (h _ _), fun a ha => absurd ha (h _ _)⟩
theorem jQD.zero {q : jRqG} (h : ∀ a t, G a ≠ some t) : jQD dC dI ca G none q H := fun a n ha => absurd ha (h _ _)
theorem jIB.zero {ib : Nat → List Int} (h : ∀ a t, G a ≠ some t) : jIB dC dI ca G 0 ib H := ⟨fun _ => 0, fun a ha => absurd ha (h _ _), fun a b ha => absurd ha (h _ _)⟩
end
theorem jlWrk {S : Int × (Int → jdD)} {Z : jwSt} {r1 r2 c c1 : Int} (e1 : r1 = (jwWork S c Z).1) (e2 : r2 = (jwWork S c1 Z).1) (ec : c1 = c) : r1 = r2 := by
  subst ec
  rw [e1, e2]
end
