section
theorem dX14_document_0 : decode cX14_document 0 = .ok (.iload_n 1, 1) := by decide +kernel
theorem dX14_document_1 : decode cX14_document 1 = .ok (.ifCond .lt 11, 3) := by decide +kernel
theorem dX14_document_4 : decode cX14_document 4 = .ok (.iload_n 1, 1) := by decide +kernel
theorem dX14_document_5 : decode cX14_document 5 = .ok (.aload_n 0, 1) := by decide +kernel
theorem dX14_document_6 : decode cX14_document 6 = .ok (.getfield 505, 3) := by decide +kernel
theorem dX14_document_9 : decode cX14_document 9 = .ok (.if_icmp .lt 5, 3) := by decide +kernel
theorem dX14_document_12 : decode cX14_document 12 = .ok (.iconst (-1), 1) := by decide +kernel
theorem dX14_document_13 : decode cX14_document 13 = .ok (.ireturn, 1) := by decide +kernel
theorem dX14_document_14 : decode cX14_document 14 = .ok (.aload_n 0, 1) := by decide +kernel
theorem dX14_document_15 : decode cX14_document 15 = .ok (.getfield 74, 3) := by decide +kernel
theorem dX14_document_18 : decode cX14_document 18 = .ok (.iload_n 1, 1) := by decide +kernel
theorem dX14_document_19 : decode cX14_document 19 = .ok (.aaload, 1) := by decide +kernel
theorem dX14_document_20 : decode cX14_document 20 = .ok (.astore_n 3, 1) := by decide +kernel
theorem dX14_document_21 : decode cX14_document 21 = .ok (.iload_n 2, 1) := by decide +kernel
theorem dX14_document_22 : decode cX14_document 22 = .ok (.ifCond .ne 10, 3) := by decide +kernel
theorem dX14_document_25 : decode cX14_document 25 = .ok (.aload_n 3, 1) := by decide +kernel
theorem dX14_document_26 : decode cX14_document 26 = .ok (.getfield 524, 3) := by decide +kernel
theorem dX14_document_29 : decode cX14_document 29 = .ok (.goto 40, 3) := by decide +kernel
theorem dX14_document_32 : decode cX14_document 32 = .ok (.iload_n 2, 1) := by decide +kernel
theorem dX14_document_33 : decode cX14_document 33 = .ok (.iconst 1, 1) := by decide +kernel
theorem dX14_document_34 : decode cX14_document 34 = .ok (.if_icmp .ne 10, 3) := by decide +kernel
theorem dX14_document_37 : decode cX14_document 37 = .ok (.aload_n 3, 1) := by decide +kernel
theorem dX14_document_38 : decode cX14_document 38 = .ok (.getfield 526, 3) := by decide +kernel
theorem dX14_document_41 : decode cX14_document 41 = .ok (.goto 28, 3) := by decide +kernel
theorem dX14_document_44 : decode cX14_document 44 = .ok (.iload_n 2, 1) := by decide +kernel
theorem dX14_document_45 : decode cX14_document 45 = .ok (.iconst 2, 1) := by decide +kernel
theorem dX14_document_46 : decode cX14_document 46 = .ok (.if_icmp .ne 10, 3) := by decide +kernel
theorem dX14_document_49 : decode cX14_document 49 = .ok (.aload_n 3, 1) := by decide +kernel
theorem dX14_document_50 : decode cX14_document 50 = .ok (.getfield 587, 3) := by decide +kernel
theorem dX14_document_53 : decode cX14_document 53 = .ok (.goto 16, 3) := by decide +kernel
theorem dX14_document_56 : decode cX14_document 56 = .ok (.iload_n 2, 1) := by decide +kernel
theorem dX14_document_57 : decode cX14_document 57 = .ok (.iconst 3, 1) := by decide +kernel
theorem dX14_document_58 : decode cX14_document 58 = .ok (.if_icmp .ne 10, 3) := by decide +kernel
theorem dX14_document_61 : decode cX14_document 61 = .ok (.aload_n 3, 1) := by decide +kernel
theorem dX14_document_62 : decode cX14_document 62 = .ok (.getfield 531, 3) := by decide +kernel
theorem dX14_document_65 : decode cX14_document 65 = .ok (.goto 4, 3) := by decide +kernel
theorem dX14_document_68 : decode cX14_document 68 = .ok (.iconst (-1), 1) := by decide +kernel
theorem dX14_document_69 : decode cX14_document 69 = .ok (.ireturn, 1) := by decide +kernel
end
section
-- p9: what the class's methods say of JSON
section
variable {T T1 : Nat → Int → Int} {v u v1 k f z : Int} {fk fi fz fn fa fs fu gk gi gz gn ga gs gu : Nat → Int32}
end
section
variable {X : Int × Int × Int × Int × (Nat → Int → Int)} {e d r a v u a0 v0 u0 : Int} {T : Nat → Int → Int} {fk fi fz fn fa fs fu : Nat → Int32}
end
section
variable {b : Int → Int} {e a v u r a1 v1 u1 z c : Int} {T T1 : Nat → Int → Int}
end
section
variable {b : Int → Int} {e a v u r qt qv qu d c : Int} {T : Nat → Int → Int} {fk fi fz fn fa fs fu : Nat → Int32} {n : Nat}
end
section
variable {b : Int → Int} {e o h : Int} {V : Int → Int → Int → (Nat → Int → Int) → Int × Int × Int × Int × (Nat → Int → Int)}
variable {k : Nat} {a v u l a1 u1 r r1 a2 v2 u2 q a3 d d1 qt qv qu : Int} {T T1 T2 : Nat → Int → Int} {X : Int × Int × Int × Int × (Nat → Int → Int)} {fk fi fz fn fa fs fu gk gi gz gn ga gs gu : Nat → Int32}
end
section
variable {b : Int → Int} {e a l1 l2 l3 l4 w w1 q : Int}
theorem jjN3.i {u s : Int} (h : jjN3 b e a l2 l3 l4 w) (hl : (l1 = 1 ∧ jjK b e a = 45) ∨ (l1 = 0 ∧ jjK b e a ≠ 45)) (hv : u = jjNw b e a ∨ (2147483648 < u ∧ 2147483648 < jjNw b e a)) (hs : (l1 = 1 ∧ s = -u) ∨ (l1 = 0 ∧ s = u)) (h4 : l4 = 1) (h5 : -2147483648 ≤ s) (h6 : s ≤ 2147483647) : jjNi b e a ∧ jjNv b e a = s := by
  obtain ⟨w2, ⟨k1, k2, k3, k5, k6⟩, k7, k8, k9⟩ := h
  have hv2 : u = jjNw b e a := by omega
  have e1 : jjNv b e a = s := by
    unfold jjNv
    rcases hl with ⟨q1, q2⟩ | ⟨q1, q2⟩
    · rw [if_pos q2]; omega
    · rw [if_neg q2]; omega
  exact ⟨⟨by rw [← k7, ← k1, ← k2]; omega, by omega, by omega⟩, e1⟩
end
section
variable {b : Int → Int} {e a d w r r1 v u q v0 u0 : Int} {fk fi fz fn fa fs fu : Nat → Int32} {T0 : Nat → Int → Int}
end
end
section
-- p9: what a message does
section
variable {T : Nat → Int → Int} {v p m : Int} {S S1 : Int × (Int → jdD)}
theorem jdNo.o (hm : m = jdMe T v) (hp : p = 1) (h : jqI T v (jChT "textDocument/didOpen") 20 m = 1) : jdNo T v p S = jdOpen T v S := by
  subst hm; unfold jdNo; rw [if_neg (fun q => q hp), if_pos h]
end
section JR8
variable {dC : Nat → ClassId} {dI : Nat → Nat → Nat} {G : jT} {a nn yy : Nat} {P Q : Prop} {H : Heap}
end JR8
end
section
-- p8: what is checked, by whom, who waits, what the cache keeps: a machine over the documents' numbers
/-- what document(d, what) answers -/
def jwDoc (S : Int × (Int → jdD)) (Z : jwSt) (d w : Int) : Int := if 0 ≤ d ∧ d < S.1 then (if w = 0 then (S.2 d).1 else if w = 1 then (S.2 d).2.1 else if w = 2 then jwS S d else if w = 3 then Z.1 d else -1) else -1
-- messages
end
section
-- p8: a message, a byte, a batch (the reference)
section J93
variable {T : Nat → Int → Int} {v p m : Int} {S : Int × (Int → jdD)} {Z : jwSt}
theorem jwNo.o (hm : m = jdMe T v) (hp : p = 1) (h : jqI T v (jChT "textDocument/didOpen") 20 m = 1) : jwNo T v p S Z = jwOp T v S Z := by
  subst hm; unfold jwNo; rw [if_neg (fun q => q hp), if_pos h]
end J93
section J94
variable {X : Nat → Int} {s : jdSt} {c r bk pk m h l b cn cv qm qh ql qb qn qv e p z z1 n : Int} {fn fv gn gv fk gk : Nat → Int32} {S S1 : Int × (Int → jdD)} {D : Int → Int} {Z : jwSt}
end J94
theorem jwDoc.o {S : Int × (Int → jdD)} {Z : jwSt} {d w : Int} (h : d < 0 ∨ S.1 ≤ d) : jwDoc S Z d w = -1 := if_neg (fun q => by omega)
theorem jwDoc.i {S : Int × (Int → jdD)} {Z : jwSt} {d w : Int} (h0 : 0 ≤ d) (h1 : d < S.1) : jwDoc S Z d w = if w = 0 then (S.2 d).1 else if w = 1 then (S.2 d).2.1 else if w = 2 then jwS S d else if w = 3 then Z.1 d else -1 := if_pos ⟨h0, h1⟩
theorem jrZ.dv {t : jDtr} {q : jXg} {fd co : Nat → Option Nat} {dc : Int} {cs cl : Nat → Int32} {W : List jwA} {ol nw td x : Nat} {S : Int × (Int → jdD)} {Z : jwSt} {d w : Int} (h : jrZ t q fd dc co cs cl W ol nw td S Z) (h0 : 0 ≤ d) (hd : d < dc) (hx : some x = fd d.toNat) : jwDoc S Z d w = if w = 0 then (t.ve x).toInt else if w = 1 then (t.ln x).toInt else if w = 2 then (q.sn x).toInt else if w = 3 then (q.ck x).toInt else -1 := by
  have hn := h.n
  have e : S.2 d = jdR1 t x := by
    have := h.doc (d := d.toNat) (by omega) hx.symm
    rw [show ((d.toNat : Nat) : Int) = d by omega] at this
    exact this
  have hv := h.nx h0 hd hx
  rw [jwDoc.i h0 (by omega), e, hv.1, hv.2.1]
  rfl
end
