-- less is known of the room
theorem jSt.wk {dC : Nat → ClassId} {dI : Nat → Nat → Nat} {B : jF} {base : Nat} {G0 G : jT} {E : List (Nat × Nat)} {H0 : Heap} {zc zs : Nat} {L : List jPin} {M : List jCt} {I : List jIv} {H : Heap} {locs : List Loc} (hh : jSt (dC, dI) B base G0 G E H0 zc zs L M I H locs) {zc1 zs1 : Nat} (h1 : zc ≤ zc1) (h2 : zs ≤ zs1) : jSt (dC, dI) B base G0 G E H0 zc1 zs1 L M I H locs := by
  obtain ⟨g1, g2, g3, g4, g5, g6, g7, g8, g9⟩ := hh
  exact ⟨g1, g2, g3, g4, g5, by omega, by omega, g8, g9⟩
