-- a constructor that another one calls for its own object
theorem jKx.self {r : Nat} {G0 G G1 : jT} {H0 H H1 : Heap} (h : jKx r G0 G H0 H) (h1 : jKx r G G1 H H1) : jKx r G0 G1 H0 H1 :=
  ⟨fun q hq hn => (h1.1 q (jLtz hq (h.1 q hq hn)) hn).trans (h.1 q hq hn), fun q t hq hn hg => h.2 q t hq hn (h1.2 q t (jLtz hq (h.1 q hq hn)) hn hg)⟩
theorem jKx.ke {a r : Nat} {G G1 : jT} {H H1 : Heap} (h : jKx r G G1 H H1) (hlt : a < H.size) (hne : a ≠ r) (hn : ∀ t, G a ≠ some t) : H1[a]? = H[a]? ∧ ∀ t, G1 a ≠ some t := ⟨h.1 a hlt hne, fun t e => hn t (h.2 a t hlt hne e)⟩
