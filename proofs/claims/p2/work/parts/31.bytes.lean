theorem jPost2.other {dC : Nat → ClassId} {dI : Nat → Nat → Nat} {ca : Nat → ClassId} {base : Nat} {B : jF} {G0 G : jT} {X : List Nat} {a len0 len o leno no : Nat} {cnt0 cnt cnto : Int32} {K : Nat} {H0 H : Heap} (h : jPost2 dC dI ca base B G0 X a len0 cnt0 K H0 (G, len, cnt) H) (h0 : jX B base G0 X H0) (hga : ∃ n, G0 a = some (2, n)) (ho : jBy dC dI ca G0 o leno cnto H0) (hgo : G0 o = some (2, no)) (hne : o ≠ a) : jBy dC dI ca G o leno cnto H := by
  obtain ⟨n, hga⟩ := hga
  refine (ho.kept (fun q hq => h.2.2.2.1 q ?_ (fun h1 => hne (jSup.only hgo (by omega) hga (by omega) h1 hq)))).ext (h0.le h.2.1)
  rcases hq with e | ⟨i, e⟩
  · rw [e]; exact (h0.2 _ _ hgo).2
  · exact (h0.2 _ _ e).2
