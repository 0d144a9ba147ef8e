section
-- p8: the class: units of sentences that are kept (kind 175), and the States: the row of sentences that each one stands behind
abbrev jFus : List (Nat × Nat) := [(175, 0)]
abbrev jFns : List (Nat × Nat) := [(11, 0), (11, 1)]
section J95
variable {dC : Nat → ClassId} {dI : Nat → Nat → Nat} {ca : Nat → ClassId} {G G1 : jT} {H : Heap} {us rw : Nat → List Int} {a : Nat}
theorem jUS.ie {dC : Nat → ClassId} {dI : Nat → Nat → Nat} {ca : Nat → ClassId} {G : jT} {H : Heap} {us : Nat → List Int} (h : jUS dC dI ca G us H) : ((jFus, jUS dC dI ca G us) : jIv).2 H ∧ ∀ H1 H2 : Heap, jAg (dC, dI) G ((jFus, jUS dC dI ca G us) : jIv).1 H1 H2 → ((jFus, jUS dC dI ca G us) : jIv).2 H1 → ((jFus, jUS dC dI ca G us) : jIv).2 H2 := by
  refine ⟨h, fun H1 H2 hA hq => fun y k g => ?_⟩
  obtain ⟨f, hv, e⟩ := hq y k g
  exact ⟨f, hv.kept (hA.2 _ _ _ g (by omega) (by omega) rfl), e⟩
theorem jNS.ie {dC : Nat → ClassId} {dI : Nat → Nat → Nat} {G : jT} {H : Heap} {us rw : Nat → List Int} (h : jNS dC dI G us rw H) : ((jFns, jNS dC dI G us rw) : jIv).2 H ∧ ∀ H1 H2 : Heap, jAg (dC, dI) G ((jFns, jNS dC dI G us rw) : jIv).1 H1 H2 → ((jFns, jNS dC dI G us rw) : jIv).2 H1 → ((jFns, jNS dC dI G us rw) : jIv).2 H2 := by
  refine ⟨h, fun H1 H2 hA hq => fun a ha => ?_⟩
  obtain ⟨y, k, av, p0, p1, g, hr⟩ := hq a ha
  exact ⟨y, k, av, hA.1 a 11 0 0 _ ha rfl p0, hA.1 a 11 0 1 _ ha rfl p1, g, hr⟩
end J95
section J96
variable {G : jT} {rw : Nat → List Int} {a b : Nat} {av bv : Value} {l m : List Int}
end J96
end
section
-- p8: the class: States and kept units as one entry; requests; ids
abbrev jFun : List (Nat × Nat) := [(11, 0), (11, 1), (175, 0)]
section J97
variable {dC : Nat → ClassId} {dI : Nat → Nat → Nat} {ca : Nat → ClassId} {G G1 : jT} {H : Heap} {r : Nat} {us rw : Nat → List Int}
theorem jUN.ie {dC : Nat → ClassId} {dI : Nat → Nat → Nat} {ca : Nat → ClassId} {G : jT} {H : Heap} {r : Nat} {us rw : Nat → List Int} (h : jUN dC dI ca G r us rw H) : ((jFun, jUN dC dI ca G r us rw) : jIv).2 H ∧ ∀ H1 H2 : Heap, jAg (dC, dI) G ((jFun, jUN dC dI ca G r us rw) : jIv).1 H1 H2 → ((jFun, jUN dC dI ca G r us rw) : jIv).2 H1 → ((jFun, jUN dC dI ca G r us rw) : jIv).2 H2 :=
  ⟨h, fun H1 H2 hA hq => ⟨(jUS.ie hq.1).2 H1 H2 (hA.sub rfl) hq.1, (jNS.ie hq.2).2 H1 H2 (hA.sub rfl) hq.2⟩⟩
end J97
-- requests: how many sentences are needed, the id, the document
abbrev jFqd : List (Nat × Nat) := [(10, 0), (10, 1), (10, 2)]
section J98
variable {dC : Nat → ClassId} {dI : Nat → Nat → Nat} {ca : Nat → ClassId} {G G1 : jT} {H H1 : Heap} {x : Option Nat} {q : jRqG} {a : Nat} {nd : Int32} {iv ab : Value}
theorem jQD.ie {dC : Nat → ClassId} {dI : Nat → Nat → Nat} {ca : Nat → ClassId} {G : jT} {H : Heap} {x : Option Nat} {q : jRqG} (h : jQD dC dI ca G x q H) : ((jFqd, jQD dC dI ca G x q) : jIv).2 H ∧ ∀ H1 H2 : Heap, jAg (dC, dI) G ((jFqd, jQD dC dI ca G x q) : jIv).1 H1 H2 → ((jFqd, jQD dC dI ca G x q) : jIv).2 H1 → ((jFqd, jQD dC dI ca G x q) : jIv).2 H2 := by
  refine ⟨h, fun H1 H2 hA hq => fun a n ha hx => ?_⟩
  obtain ⟨p2, p0, p1⟩ := hq a n ha hx
  exact ⟨hA.1 a 10 n 2 _ ha rfl p2, hA.1 a 10 n 0 _ ha rfl p0, hA.1 a 10 n 1 _ ha rfl p1⟩
end J98
-- ids: Bytes of kind 17, their rows of kind 199
abbrev jFib : List (Nat × Nat) := [(17, 0), (17, 1), (199, 0)]
/-- all but xa, whose row is xy; their rows lie below xn -/
def jIX2 (dC : Nat → ClassId) (dI : Nat → Nat → Nat) (ca : Nat → ClassId) (G : jT) (_r xa xy xn : Nat) (ib : Nat → List Int) (H : Heap) : Prop := ∃ Y : Nat → Nat, (∀ a, G a = some (17, 0) → a ≠ xa → jI1 dC dI ca G a (Y a) (ib a) H ∧ Y a ≠ xy ∧ Y a < xn) ∧ ∀ a b, G a = some (17, 0) → G b = some (17, 0) → a ≠ xa → b ≠ xa → Y a = Y b → a = b
section J99
variable {dC : Nat → ClassId} {dI : Nat → Nat → Nat} {ca : Nat → ClassId} {G G1 : jT} {H H1 : Heap} {r xa xy xn : Nat} {ib : Nat → List Int}
theorem jI1.ag {a y : Nat} {l : List Int} (h : jI1 dC dI ca G a y l H) (ha : G a = some (17, 0)) (hA : jAg (dC, dI) G jFib H H1) : jI1 dC dI ca G a y l H1 := by
  obtain ⟨m, c, f, p0, p1, g, c0, c1, v, e⟩ := h
  exact ⟨m, c, f, hA.1 a 17 0 0 _ ha rfl p0, hA.1 a 17 0 1 _ ha rfl p1, g, c0, c1, v.kept (hA.2 _ _ _ g (by omega) (by omega) rfl), e⟩
theorem jIB.ie {dC : Nat → ClassId} {dI : Nat → Nat → Nat} {ca : Nat → ClassId} {G : jT} {H : Heap} {r : Nat} {ib : Nat → List Int} (h : jIB dC dI ca G r ib H) : ((jFib, jIB dC dI ca G r ib) : jIv).2 H ∧ ∀ H1 H2 : Heap, jAg (dC, dI) G ((jFib, jIB dC dI ca G r ib) : jIv).1 H1 H2 → ((jFib, jIB dC dI ca G r ib) : jIv).2 H1 → ((jFib, jIB dC dI ca G r ib) : jIv).2 H2 :=
  ⟨h, fun H1 H2 hA ⟨Y, h1, h2⟩ => ⟨Y, fun a ha => (h1 a ha).ag ha hA, h2⟩⟩
theorem jIX2.ie {dC : Nat → ClassId} {dI : Nat → Nat → Nat} {ca : Nat → ClassId} {G : jT} {H : Heap} {r xa xy xn : Nat} {ib : Nat → List Int} (h : jIX2 dC dI ca G r xa xy xn ib H) : ((jFib, jIX2 dC dI ca G r xa xy xn ib) : jIv).2 H ∧ ∀ H1 H2 : Heap, jAg (dC, dI) G ((jFib, jIX2 dC dI ca G r xa xy xn ib) : jIv).1 H1 H2 → ((jFib, jIX2 dC dI ca G r xa xy xn ib) : jIv).2 H1 → ((jFib, jIX2 dC dI ca G r xa xy xn ib) : jIv).2 H2 :=
  ⟨h, fun H1 H2 hA ⟨Y, h1, h2⟩ => ⟨Y, fun a ha hx => ⟨(h1 a ha hx).1.ag ha hA, (h1 a ha hx).2⟩, h2⟩⟩
end J99
-- the State that stands ahead of all
abbrev jFhs : List (Nat × Nat) := [(13, 5), (7, 2)]
def jHst (dC : Nat → ClassId) (dI : Nat → Nat → Nat) (_ca : Nat → ClassId) (G : jT) (r : Nat) (s0 : Nat) (H : Heap) : Prop := ∃ kr n : Nat, G r = some (13, n) ∧ G kr = some (7, 0) ∧ jf (dC, dI) 13 r 5 (.ref kr) H ∧ jf (dC, dI) 7 kr 2 (.ref s0) H
theorem jHst.ie {dC : Nat → ClassId} {dI : Nat → Nat → Nat} {ca : Nat → ClassId} {G : jT} {H : Heap} {r s0 : Nat} (h : jHst dC dI ca G r s0 H) : ((jFhs, jHst dC dI ca G r s0) : jIv).2 H ∧ ∀ H1 H2 : Heap, jAg (dC, dI) G ((jFhs, jHst dC dI ca G r s0) : jIv).1 H1 H2 → ((jFhs, jHst dC dI ca G r s0) : jIv).2 H1 → ((jFhs, jHst dC dI ca G r s0) : jIv).2 H2 := by
  refine ⟨h, fun H1 H2 hA hq => ?_⟩
  obtain ⟨kr, n, g1, g2, p1, p2⟩ := hq
  exact ⟨kr, n, g1, g2, hA.1 r 13 n 5 _ g1 rfl p1, hA.1 kr 7 0 2 _ g2 rfl p2⟩
end
section
-- p8: two States are compared: unit by unit, State by State
section J9A
variable {G : jT} {rw : Nat → List Int} {a b x y x1 y1 : Nat} {o p : Option Nat} {i i1 : Int} {av bv : Value} {l m : List Int}
theorem jnI.yes (h : jnI rw a b o p i) (e : o = p) : rw a = rw b := h.2.2.1.mpr (by rw [e])
end J9A
end
section
-- p8: the class: units of a sentence, compared; States behind sentences
theorem jwNd.e {f : Nat → Int32} {n s p k : Int} {x : Nat} (h : ¬ (k < s ∧ jcE f n k.toNat ≤ p)) : jwNd f n s p x k = k := by
  cases x with
  | zero => rfl
  | succ x => exact if_neg h
end
section
-- p8: the class's documents, hands, lists, States as the machine
section J9C
variable {G : jT} {s0 : Nat} {t : jDtl} {q : jKg} {w : jWl9} {ho : Nat → Option Nat} {us rw : Nat → List Int} {qq : jRqG} {ib : Nat → List Int} {S : Int × (Int → jdD)} {Z : jwSt}
end J9C
section J9D
variable {G : jT} {s0 : Nat} {t : jDtl} {q : jKg} {w : jWl9} {ho : Nat → Option Nat} {us rw : Nat → List Int} {qq : jRqG} {ib : Nat → List Int} {S : Int × (Int → jdD)} {Z : jwSt} {o : Option Nat} {v v1 : Int} {a : Nat}
end J9D
section J9E
variable {ho h h1 : Nat → Option Nat} {a : Nat} {v v1 : Int} {o : Option Nat}
theorem jzRh.e (hR : jzRh ho h a v) (hv : 2 ≤ v) : ∀ i : Nat, i < 2 → h i = if ho i = some a then none else ho i := fun i hi => by rw [hR i hi, if_pos (by omega)]
end J9E
end
section
-- p8: a check begins: the State ahead, the cache
section J9H
variable {G : jT} {rw us : Nat → List Int} {bh : Nat → Option Nat} {s0 x b y : Nat} {f : Nat → Int32} {n k v v1 : Int} {l : List Nat} {R : List Int} {wf av : Value} {u : List Int}
theorem jzF.e (h : jnQ G rw x av u) (ha : av = .ref b) : jnE (rw b) := by
  rcases h.2.2 with ⟨e0, -⟩ | ⟨c, e1, -, -, -, e3⟩
  · rw [ha] at e0; cases e0
  · rw [ha] at e1; cases e1; exact e3
end J9H
end
section
-- p8: the class's scheduler as one entry: S, Z
abbrev jFCZ : List (Nat × Nat) := jFcd ++ jFkd ++ jFl ++ jFHh ++ jFun ++ jFqd ++ jFib ++ jFhs
def jCZ (dC : Nat → ClassId) (dI : Nat → Nat → Nat) (ca : Nat → ClassId) (G : jT) (r : Nat) (S : Int × (Int → jdD)) (Z : jwSt) (H : Heap) : Prop := ∃ (s0 : Nat) (t : jDtl) (q : jKg) (w : jWl9) (ho : Nat → Option Nat) (us rw : Nat → List Int) (qq : jRqG) (ib : Nat → List Int), jCD dC dI ca G none t H ∧ jKD dC dI ca G none q H ∧ jLs dC dI ca G 3 none w H ∧ jHh dC dI ca G r ho H ∧ jUN dC dI ca G 0 us rw H ∧ jQD dC dI ca G none qq H ∧ jIB dC dI ca G 0 ib H ∧ jHst dC dI ca G r s0 H ∧ jcZ G s0 t q w ho us rw qq ib S Z
section J9I
variable {dC : Nat → ClassId} {dI : Nat → Nat → Nat} {ca : Nat → ClassId} {G G1 : jT} {H : Heap} {r : Nat} {S : Int × (Int → jdD)} {Z : jwSt}
theorem jCZ.ie {dC : Nat → ClassId} {dI : Nat → Nat → Nat} {ca : Nat → ClassId} {G : jT} {H : Heap} {r : Nat} {S : Int × (Int → jdD)} {Z : jwSt} (h : jCZ dC dI ca G r S Z H) : ((jFCZ, jCZ dC dI ca G r S Z) : jIv).2 H ∧ ∀ H1 H2 : Heap, jAg (dC, dI) G ((jFCZ, jCZ dC dI ca G r S Z) : jIv).1 H1 H2 → ((jFCZ, jCZ dC dI ca G r S Z) : jIv).2 H1 → ((jFCZ, jCZ dC dI ca G r S Z) : jIv).2 H2 := by
  refine ⟨h, fun H1 H2 hA hq => ?_⟩
  obtain ⟨s0, t, q, w, ho, us, rw, qq, ib, h1, h2, h3, h4, h5, h6, h7, h8, h9⟩ := hq
  exact ⟨s0, t, q, w, ho, us, rw, qq, ib, (jCD.ie h1).2 H1 H2 (hA.sub rfl) h1, (jKD.ie h2).2 H1 H2 (hA.sub rfl) h2, (jLs.ie h3).2 H1 H2 (hA.sub rfl) h3, (jHh.ie h4).2 H1 H2 (hA.sub rfl) h4, (jUN.ie (r := 0) h5).2 H1 H2 (hA.sub rfl) h5, (jQD.ie (ca := ca) h6).2 H1 H2 (hA.sub rfl) h6, (jIB.ie (r := 0) h7).2 H1 H2 (hA.sub rfl) h7, (jHst.ie (ca := ca) h8).2 H1 H2 (hA.sub rfl) h8, h9⟩
end J9I
end
section
-- p8: those that wait: who is ready, who asked about a document
def jzPs (p : Nat → Bool) (W0 W : List Nat) (v : Int) : Prop := 0 ≤ v ∧ v ≤ W.length ∧ W0.filter p = (W.take v.toNat) ++ (W.drop v.toNat).filter p ∧ ∀ a ∈ W.take v.toNat, p a = true
theorem jzPs.e {p : Nat → Bool} {W0 W : List Nat} {v : Int} (h : jzPs p W0 W v) (hv : (W.length : Int) ≤ v) : W = W0.filter p := by
  obtain ⟨h0, h1, h2, h3⟩ := h
  rw [h2, List.drop_of_length_le (by omega), List.take_of_length_le (by omega)]
  exact (List.append_nil _).symm
end
section
-- p8: work, told by the machine
section J9N
variable {S : Int × (Int → jdD)} {Z Y : jwSt} {k v v1 j j1 : Int}
def jwWo (S : Int × (Int → jdD)) (Z : jwSt) (k v : Int) (Y : jwSt) : Prop := jwOk S Y ∧ ((jwWk S (k - v).toNat Y).1 + v, (jwWk S (k - v).toNat Y).2) = jwWk S k.toNat Z
theorem jwWn.s (h : jwWn S Z k v j Y) (hj : j = 0 ∨ j = 1) (e : j1 = j + 1) : jwWn S Z k v j1 (jwAd S Y j) := by
  obtain ⟨Z8, g1, g2, g3, g4⟩ := h
  refine ⟨Z8, g1, g2, ?_, g4⟩
  rw [g3]
  exact jwAk.s hj e
theorem jwWn.o (h : jwWn S Z k v j Y) (hj : 2 ≤ j) (h0 : 0 ≤ v) (hv : v < k) (e : v1 = v + 1) : jwWo S Z k v1 Y := by
  obtain ⟨Z8, g1, g2, g3, g4⟩ := h
  rw [jwAk.e hj] at g3
  subst g3
  refine ⟨(g1.ad (Or.inl rfl)).ad (Or.inr rfl), ?_⟩
  rw [← g4, jwWk.s (k := (k - v).toNat) (k1 := (k - v1).toNat) (by omega) g2]
  congr 1
  omega
theorem jwWo.e (h : jwWo S Z k v Y) (hk : 0 ≤ k ∧ k ≤ 10000) (hc : k ≤ v ∨ jwHs S Y ≠ 1) : (jwWork S k Z).1 = v ∧ (jwWork S k Z).2 = Y := by
  have h9 := h.2
  rw [jwWk.e (hc.imp (fun q => by omega) id)] at h9
  unfold jwWork
  rw [if_pos hk, ← h9]
  exact ⟨by show 0 + v = v; omega, rfl⟩
end J9N
end
section
-- p8: what is kept of a text that has changed
section J9R
variable {G : jT} {rw us : Nat → List Int} {x : Nat} {f g : Nat → Int32} {n m k v v1 pk ps : Int} {av : Value} {u : List Int}
theorem jzSm.nx (h : jzSm f n g m v) (e : jcU f n v.toNat = jcU g m v.toNat) (e1 : v1 = v + 1) : jzSm f n g m v1 := fun j h0 h1 => by
  by_cases c : j < v
  · exact h j h0 c
  · rw [show j = v by omega]; exact e
theorem jzSm.br (h : jzSm f n g m v) (hn : 0 ≤ n) (hm : 0 ≤ m) (hc : pk ≤ jPar f n) (h0 : 0 ≤ v) (h1 : v < pk) (hs : v ≤ jPar g m) (hne : jPar g m ≤ v ∨ jcU f n v.toNat ≠ jcU g m v.toNat) : v = (if pk ≤ jwSy f n g m then pk else jwSy f n g m) ∧ jwSy f n g m ≤ pk := by
  have := jwSy.min hn hm hc h0 (by omega) hs h (fun _ => hne)
  refine ⟨this, ?_⟩
  by_cases c : pk ≤ jwSy f n g m
  · rw [if_pos c] at this; omega
  · omega
theorem jzSm.yes (h : jzSm f n g m pk) (hn : 0 ≤ n) (hm : 0 ≤ m) (hc : pk < jPar f n) (h0 : 0 ≤ pk) (hs : pk < jPar g m) (e : jcU f n pk.toNat = jcU g m pk.toNat) : pk < jwSy f n g m := by
  have := jwSy.min (c := pk + 1) hn hm (by omega) (by omega) (by omega) (by omega) (h.nx e rfl) (fun q => by omega)
  by_cases c : pk + 1 ≤ jwSy f n g m
  · omega
  · rw [if_neg c] at this; omega
end J9R
end
section
-- p8: a request waits, or is cancelled: on the class's side
section J9V
variable {G G1 : jT} {s0 a d x i : Nat} {t : jDtl} {q : jKg} {w w1 : jWl9} {ho : Nat → Option Nat} {us rw : Nat → List Int} {qq qq1 : jRqG} {ib ib1 : Nat → List Int} {S : Int × (Int → jdD)} {Z : jwSt} {nd : Int} {id : jwI}
theorem jzR.tr {x : Nat} {p : jwQ} (h : jzR w qq ib x p) (W : List Nat) (h1 : qq1.ab x = qq.ab x) (h2 : qq1.nd x = qq.nd x) (h3 : qq1.iv x = qq.iv x) (h4 : ∀ i, qq.iv x = .ref i → ib1 i = ib i) : jzR (w.s2 W) qq1 ib1 x p := by
  obtain ⟨e, b, i, r1, r2, r3, r4, r5, r6, r7, r8⟩ := h
  exact ⟨e, b, i, r1, r2, by rw [h1]; exact r3, r4, by rw [h2]; exact r5, by rw [h3]; exact r6, by rw [h4 i r6]; exact r7, r8⟩
end J9V
end
section
-- p8: the units of strings that are read have no half pairs
/-- strings of a message have no half pairs -/
def jdTw (T : Nat → Int → Int) (v : Int) : Prop := ∀ i : Int, jqK T v i = 3 → jpW (jwUn T v i (T 3 i).toNat 0)
end
section
-- p8: bytes of ids, put behind each other
theorem jbL.len {f : Nat → Int32} : ∀ (k b : Nat), (jbL f k b).length = k
  | 0, _ => rfl
  | k + 1, b => by
    show (jbL f k (b + 1)).length + 1 = k + 1
    rw [jbL.len k (b + 1)]
theorem jiP.tr {ib i1 i2 : Nat → List Int} {a : Nat} {L M : List Int} (h : jiP ib i1 a L) (h1 : i2 = jUf i1 a (i1 a ++ M)) : jiP ib i2 a (L ++ M) := by
  unfold jiP at h ⊢
  rw [h1, h, jUf_s, List.append_assoc]
  funext b
  by_cases c : b = a
  · rw [c, jUf_s, jUf_s]
  · rw [jUf_n _ _ c, jUf_n _ _ c, jUf_n _ _ c]
section J9BV
variable {p : Program} {l : Launch} {e : Env} {R : Room} {s : State} {m : MethodId} {args : Array Value} {below : List Frame} {meth : Method} {c : Code} {H : Heap} {locs : List Loc} {cells slots : Nat} {Q : State → Prop}
variable {cc : ByteArray} {pc : Nat} {ls : Array Slot} {rest : List Value} {dC : Nat → ClassId} {dI : Nat → Nat → Nat} {ca : Nat → ClassId} {B : jF} {base : Nat} {G0 G : jT} {E : List (Nat × Nat)} {H0 : Heap} {zc zs : Nat} {L : List jPin} {M : List jCt} {I : List jIv} {a k n : Nat} {cA : ClassId} {tys : List (ClassId × FieldType)}
end J9BV
end
section
-- p8: ids: numbers and strings as they are written, step by step
section J9ID
variable {ib i1 i2 : Nat → List Int} {a : Nat}
/-- k digits of m are still to be written -/
def jiM (ib ix : Nat → List Int) (a : Nat) (k m b n : Int) : Prop := ∃ L, jiP ib ix a L ∧ L ++ jpL k.toNat m b = jpN n
theorem jTen.p {v k : Int} (h : jTen v k) (hk : 1 ≤ k) : v = 10 ^ (k.toNat - 1) ∧ (v = 1 ↔ k.toNat - 1 = 0) := by
  obtain ⟨h0, h1⟩ := h
  obtain ⟨j, hj⟩ : ∃ j : Nat, k.toNat = j + 1 := ⟨k.toNat - 1, by omega⟩
  rw [hj] at h1 ⊢
  rw [Int.pow_succ, Int.mul_ediv_cancel _ (by decide)] at h1
  show v = 10 ^ j ∧ (v = 1 ↔ j = 0)
  refine ⟨h1, fun e => ?_, fun e => by rw [h1, e]; rfl⟩
  cases j with
  | zero => rfl
  | succ j =>
    have := jpP j
    rw [Int.pow_succ] at h1
    omega
theorem jiM.y {k k1 m b b1 n v d x : Int} (h : jiM ib i1 a k m b n) (hk : 1 ≤ k) (ht : jTen v k) (hd : d = m / v % 10) (hc : b = 1 ∨ 0 < d ∨ v = 1) (hx : x = 48 + d) (e : k1 = k - 1) (h1 : i2 = jUf i1 a (i1 a ++ [x % 256])) (hb : b1 = 1) : jiM ib i2 a k1 m b1 n := by
  obtain ⟨L, p, q⟩ := h
  obtain ⟨t1, t2⟩ := ht.p hk
  refine ⟨L ++ [x % 256], p.tr h1, ?_⟩
  rw [← q, show k.toNat = k1.toNat + 1 by omega]
  rw [show k.toNat - 1 = k1.toNat by omega] at t1 t2
  have hd2 : d = m / 10 ^ k1.toNat % 10 := by rw [hd, t1]
  have e2 : jpL (k1.toNat + 1) m b = (48 + m / 10 ^ k1.toNat % 10) :: jpL k1.toNat m 1 := if_pos (by
    rcases hc with c | c | c
    · exact Or.inl c
    · exact Or.inr (Or.inl (by rw [← hd2]; exact c))
    · exact Or.inr (Or.inr (t2.mp c)))
  rw [e2, hb, ← hd2, hx, Int.emod_eq_of_lt (by omega) (by omega), List.append_assoc]
  rfl
theorem jiM.n {k k1 m b b1 n v d : Int} (h : jiM ib i1 a k m b n) (hk : 1 ≤ k) (ht : jTen v k) (hd : d = m / v % 10) (hc : b ≠ 1) (hc1 : d ≤ 0) (hc2 : v ≠ 1) (e : k1 = k - 1) (hb : b1 = 0) : jiM ib i1 a k1 m b1 n := by
  obtain ⟨L, p, q⟩ := h
  obtain ⟨t1, t2⟩ := ht.p hk
  refine ⟨L, p, ?_⟩
  rw [← q, show k.toNat = k1.toNat + 1 by omega]
  rw [show k.toNat - 1 = k1.toNat by omega] at t1 t2
  have hd2 : d = m / 10 ^ k1.toNat % 10 := by rw [hd, t1]
  have e2 : jpL (k1.toNat + 1) m b = jpL k1.toNat m 0 := if_neg (fun c => by
    rcases c with c | c | c
    · exact hc c
    · rw [← hd2] at c; omega
    · exact hc2 (t2.mpr c))
  rw [e2, hb]
end J9ID
section J9IQ
variable {ib i1 i2 : Nat → List Int} {a : Nat} {f : Nat → Int32} {n v v1 : Int}
end J9IQ
end
section
-- p8: a request is made: its id as it is written
section J9RI
variable {ib iB : Nat → List Int} {N i : Nat} {T : Nat → Int → Int} {v x : Int}
end J9RI
/-- two requests have ids that are written the same -/
def jzHi (q : jRqG) (ib : Nat → List Int) (a b : Nat) : Prop := ∃ i j : Nat, q.iv a = .ref i ∧ q.iv b = .ref j ∧ ib i = ib j
section J9HI
variable {q : jRqG} {ib : Nat → List Int} {a b i j : Nat} {f g : Nat → Int32} {n m v : Int}
theorem jzHi.ln (h1 : q.iv a = .ref i) (h2 : q.iv b = .ref j) (e1 : ib i = jbL f n.toNat 0) (e2 : ib j = jbL g m.toNat 0) (h0 : 0 ≤ n) (h3 : 0 ≤ m) (hne : n ≠ m) : ¬ jzHi q ib a b := fun ⟨x, y, k1, k2, k3⟩ => by
  rw [h1] at k1; rw [h2] at k2
  cases k1; cases k2
  have := congrArg List.length k3
  rw [e1, e2, jbL.len, jbL.len] at this
  omega
theorem jzHi.yes (h1 : q.iv a = .ref i) (h2 : q.iv b = .ref j) (e1 : ib i = jbL f n.toNat 0) (e2 : ib j = jbL g n.toNat 0) (h : ∀ k : Int, 0 ≤ k → k < v → jSo f k = jSo g k) (hv : n ≤ v) : jzHi q ib a b := by
  refine ⟨i, j, h1, h2, ?_⟩
  rw [e1, e2]
  exact jbL.cg _ _ (fun k _ h9 => by
    have := h k (by omega) (by omega)
    unfold jSo at this
    rw [show ((k : Int)).toNat = k by omega] at this
    rw [this])
end J9HI
end
section
-- p8: a request is aimed at a document
/-- it is about b, and needs nd sentences -/
def jzAm (q q1 : jRqG) (a b : Nat) (nd : Int) : Prop := ∃ n : Int32, n.toInt = nd ∧ q1 = q.put a n (q.iv a) (.ref b)
/-- the place that it tells -/
def jwGp (T : Nat → Int → Int) (v : Int) (S : Int × (Int → jdD)) (d : Int) : Int := jdT T v (S.2 d).2.2.1 (S.2 d).2.1 (jwPo T v)
section J9AM
variable {G : jT} {s0 a : Nat} {t : jDtl} {q : jKg} {w : jWl9} {ho : Nat → Option Nat} {us rw : Nat → List Int} {qq q1 : jRqG} {ib : Nat → List Int} {S : Int × (Int → jdD)} {Z : jwSt} {T : Nat → Int → Int} {v x : Int} {r1 : Nat}
theorem jcZ.gp {d p : Int} (h : jcZ G s0 t q w ho us rw qq ib S Z) (h0 : 0 ≤ d) (h1 : d < w.1) (ha : w.2.1 d.toNat = some a) (hp : p = jwPo T v) : jwGp T v S d = jdT T v (jSo (t.tx a)) (t.ln a).toInt p := by
  have hD := h.doc (d := d.toNat) (by omega) ha
  rw [show ((d.toNat : Nat) : Int) = d by omega] at hD
  unfold jwGp
  rw [hD, hp]
  exact jdT.cg (fun j j0 j1 => jdKp.at j0 j1) (h.l0 a).1
theorem jcZ.ndd {d p : Int} (h : jcZ G s0 t q w ho us rw qq ib S Z) (h0 : 0 ≤ d) (h1 : d < w.1) (ha : w.2.1 d.toNat = some a) : jwNd (jwF S d) (jwL S d) (jwS S d) p 40 0 = jwNd (t.tx a) (t.ln a).toInt (q.sn a).toInt p 40 0 := by
  have e : ((d.toNat : Nat) : Int) = d := by omega
  have k1 := h.ln (d := d.toNat) (by omega) ha
  have k2 := h.tx (d := d.toNat) (by omega) ha
  have k3 := h.sn (d := d.toNat) (by omega) ha
  rw [e] at k1 k2 k3
  rw [k1, k3]
  exact jwNd.cg (h.l0 a).1 k2 40 0
theorem jcZ.dp {d : Int} (h : jcZ G s0 t q w ho us rw qq ib S Z) (h0 : 0 ≤ d) (h1 : d < w.1) (ha : w.2.1 d.toNat = some a) : 0 ≤ (q.sn a).toInt ∧ (q.sn a).toInt ≤ 40 ∧ jcP (t.tx a) (t.ln a).toInt (q.sb a) (q.se a) (q.sn a).toInt ∧ jwS S d = (q.sn a).toInt := by
  obtain ⟨k1, k2, k3, k4, k5, k6, k7, k8, k9⟩ := h.2.2.1 d.toNat a (by omega) ha
  have k := h.sn (d := d.toNat) (by omega) ha
  rw [show ((d.toNat : Nat) : Int) = d by omega] at k
  exact ⟨by omega, k7, k2, k⟩
/-- what aimAtPlace leaves -/
def jzGo (T : Nat → Int → Int) (v : Int) (S : Int × (Int → jdD)) (w : jWl9) (q q1 : jRqG) (a : Nat) (r : Int) : Prop := (r = 1 ∧ ∃ b, 0 ≤ jdWh T v S.1 S.2 ∧ jdWh T v S.1 S.2 < w.1 ∧ w.2.1 (jdWh T v S.1 S.2).toNat = some b ∧ 0 ≤ jwGp T v S (jdWh T v S.1 S.2) ∧ jzAm q q1 a b (jwNd (jwF S (jdWh T v S.1 S.2)) (jwL S (jdWh T v S.1 S.2)) (jwS S (jdWh T v S.1 S.2)) (jwGp T v S (jdWh T v S.1 S.2)) 40 0)) ∨ (r = 0 ∧ q1 = q ∧ ¬ (0 ≤ jdWh T v S.1 S.2 ∧ 0 ≤ jwGp T v S (jdWh T v S.1 S.2)))
def jzGn (T : Nat → Int → Int) (v : Int) (S : Int × (Int → jdD)) (w : jWl9) (q q1 : jRqG) (a : Nat) (r : Int) : Prop := (r = 1 ∧ ∃ b, 0 ≤ jdWh T v S.1 S.2 ∧ jdWh T v S.1 S.2 < w.1 ∧ w.2.1 (jdWh T v S.1 S.2).toNat = some b ∧ jqK T v (jwNa T v) = 3 ∧ jzAm q q1 a b (jwS S (jdWh T v S.1 S.2))) ∨ (r = 0 ∧ q1 = q ∧ ¬ (0 ≤ jdWh T v S.1 S.2 ∧ jqK T v (jwNa T v) = 3))
theorem jzGo.y {p nd : Int} {n : Int32} {r : Int} (h : jcZ G s0 t q w ho us rw qq ib S Z) (hr : r = 1) (hx : 0 ≤ jdWh T v S.1 S.2 ∧ jdWh T v S.1 S.2 < w.1 ∧ w.2.1 (jdWh T v S.1 S.2).toNat = some a) (hx1 : x = jwPo T v) (hp : p = jdT T v (jSo (t.tx a)) (t.ln a).toInt x) (hp0 : 0 ≤ p) (hn : nd = jwNd (t.tx a) (t.ln a).toInt (q.sn a).toInt p 40 0) (e : n.toInt = nd) (hq : q1 = qq.put r1 n (qq.iv r1) (.ref a)) : jzGo T v S w qq q1 r1 r := by
  obtain ⟨x0, x1, x2⟩ := hx
  have g := h.gp (T := T) (v := v) x0 x1 x2 hx1
  refine Or.inl ⟨hr, a, x0, x1, x2, by rw [g, ← hp]; exact hp0, n, ?_, hq⟩
  rw [h.ndd x0 x1 x2, g, ← hp, e, hn]
theorem jzGn.y {n : Int32} {r : Int} (h : jcZ G s0 t q w ho us rw qq ib S Z) (hr : r = 1) (hx : 0 ≤ jdWh T v S.1 S.2 ∧ jdWh T v S.1 S.2 < w.1 ∧ w.2.1 (jdWh T v S.1 S.2).toNat = some a) (hk : jqK T v (jwNa T v) = 3) (e : n = q.sn a) (hq : q1 = qq.put r1 n (qq.iv r1) (.ref a)) : jzGn T v S w qq q1 r1 r := by
  obtain ⟨x0, x1, x2⟩ := hx
  exact Or.inl ⟨hr, a, x0, x1, x2, hk, n, by rw [(h.dp x0 x1 x2).2.2.2, e], hq⟩
end J9AM
end
section
-- p8: a request is cancelled, on the class's side
section J9CA
variable {T : Nat → Int → Int} {v u m : Int} {fk fi fz fn fa fs fu : Nat → Int32}
theorem jjTC.i2 (h : jjTC T v u fk fi fz fn fa fs fu) (h0 : 0 ≤ m) (h1 : m < v) : -2147483648 ≤ T 2 m ∧ T 2 m ≤ 2147483647 := by
  rw [h.2.1 m h0 h1]
  unfold jSo
  have := jb_rng (fi m.toNat)
  omega
theorem jwId.o (hT : jjTC T v u fk fi fz fn fa fs fu) (hw : jdTw T v) (hk : jqK T v m = 4 ∨ jqK T v m = 3) : jpO (jwId T v m) := by
  unfold jwId
  by_cases c : jqK T v m = 3
  · rw [if_pos c]
    exact Or.inl ⟨rfl, rfl, hw m c⟩
  · rw [if_neg c]
    obtain ⟨p0, p1, -⟩ := jqK.p (T := T) (v := v) (i := m) (by omega)
    have := hT.i2 p0 p1
    exact Or.inr ⟨rfl, this.1, this.2, rfl⟩
end J9CA
section J9CB
variable {G G1 : jT} {s0 x N n z : Nat} {t : jDtl} {q : jKg} {w w1 : jWl9} {ho : Nat → Option Nat} {us rw : Nat → List Int} {qq gQ : jRqG} {ib iB : Nat → List Int} {S : Int × (Int → jdD)} {Z Z8 : jwSt} {iV : Value} {T : Nat → Int → Int} {v u m : Int} {fk fi fz fn fa fs fu : Nat → Int32}
/-- what a request just made knows of those that wait -/
def jzCx (w : jWl9) (gQ : jRqG) (iB : Nat → List Int) (x : Nat) (n : Int) : Prop := ∀ (i z : Nat), (i : Int) < n → w.2.2.1[i]? = some z → ¬ jzHi gQ iB z x
theorem jzCx.s {n n1 : Int} (h : jzCx w gQ iB x n) (h0 : 0 ≤ n) (hz : w.2.2.1[n.toNat]? = some z) (hn : ¬ jzHi gQ iB z x) (e : n1 = n + 1) : jzCx w gQ iB x n1 := fun i y hi hy => by
  by_cases c : (i : Int) < n
  · exact h i y c hy
  · have e1 : i = n.toNat := by omega
    subst e1
    rw [hz] at hy
    cases hy
    exact hn
end J9CB
end
section
-- p8: a message is understood: the request that is made of it
section J9US
variable {G G1 : jT} {s0 x N y : Nat} {t : jDtl} {q : jKg} {w : jWl9} {ho : Nat → Option Nat} {us rw : Nat → List Int} {qq gQ : jRqG} {ib iB : Nat → List Int} {S : Int × (Int → jdD)} {Z : jwSt} {iV : Value} {T : Nat → Int → Int} {v u m : Int} {fk fi fz fn fa fs fu : Nat → Int32} {P : Prop} {l : List Int}
theorem jRqG.pi (hg : gQ = qq.put x 0 iV .null) : gQ.iv x = iV := by rw [hg]; exact jUf_s _ _ _
theorem jzRi.yes (hR : jzRi ib iB N iV P l) (hg : gQ = qq.put x 0 iV .null) (e : gQ.iv x = .ref y) : P := by
  rw [jRqG.pi hg] at e
  exact (hR.ref e).1
theorem jzUx.rf (hx : ∀ a t, G a = some t → a ≠ x) (hg : gQ = qq.put x 0 iV .null) (hR : jzRi ib iB N iV (jqK T v m = 4 ∨ (jqK T v m = 3 ∧ jqZ T v m ≤ 20)) (jpI (jwId T v m))) (hm : m = jdId T v) (h0 : 0 ≤ m) (e : gQ.iv x = .ref y) (hT : jjTC T v u fk fi fz fn fa fs fu) (hTw : jdTw T v) : jzUx G gQ iB T v (some x) := fun z hz => by
  cases hz
  refine ⟨hx, Or.inl ⟨by omega, ⟨y, e, ?_⟩, ?_⟩⟩
  · rw [← hm]
    exact (hR.ref ((jRqG.pi hg).symm.trans e)).2
  · rw [← hm]
    exact jwId.o hT hTw (by rcases hR.yes hg e with c | c; exact Or.inl c; exact Or.inr c.1)
end J9US
end
section
-- p8: a batch leaves the open documents, their States and rows as they are
def jzBt (w : jWl9) (t t1 : jDtl) : Prop := ∀ e b : Nat, (e : Int) < w.1 → w.2.1 e = some b → t1.tx b = t.tx b ∧ t1.ln b = t.ln b
def jzBn (w : jWl9) (q q1 : jKg) : Prop := ∀ e b : Nat, (e : Int) < w.1 → w.2.1 e = some b → jzAg q q1 b
def jzBs (G : jT) (us us1 rw rw1 : Nat → List Int) : Prop := (∀ z m, G z = some (175, m) → us1 z = us z) ∧ ∀ z, G z = some (11, 0) → rw1 z = rw z
section J9BT
variable {G G1 : jT} {s0 x : Nat} {t t1 t2 : jDtl} {q q1 q2 : jKg} {w : jWl9} {ho : Nat → Option Nat} {us us1 us2 rw rw1 : Nat → List Int} {qq : jRqG} {ib : Nat → List Int} {S : Int × (Int → jdD)} {Z : jwSt}
theorem jzBt.rf : jzBt w t t := fun _ _ _ _ => ⟨rfl, rfl⟩
theorem jzBn.rf : jzBn w q q := fun _ _ _ _ => jzAg.rfl
theorem jzBs.rf : jzBs G us us rw rw := ⟨fun _ _ _ => rfl, fun _ _ => rfl⟩
end J9BT
end
section
-- how long a message is at least that opens or changes a document
def jWs (D : jC) : List Int → Int
  | [] => 0
  | i :: is => (if jSo D.1 i = 3 then jSo D.2.2.1 i else 0) + jSo D.2.2.2.2 i + jWs D is
/-- a value that has a key -/
def jNde (D : jC) (pv i k z : Int) : Prop := 0 ≤ i ∧ i < pv ∧ jSo D.1 i = k ∧ jSo D.2.2.2.2 i = z
theorem jNde.s {D : jC} {pv i z : Int} (h : jNde D pv i 3 z) (is : List Int) : jWs D (i :: is) = jSo D.2.2.1 i + z + jWs D is := by
  obtain ⟨h1, h2, h3, h4⟩ := h
  show (if jSo D.1 i = 3 then jSo D.2.2.1 i else 0) + jSo D.2.2.2.2 i + jWs D is = _
  rw [if_pos h3, h4]
theorem jNde.of {fk fi fz fa fs : Nat → Int32} {pv i k z : Int} (h0 : 0 ≤ i) (h1 : i < pv) (h2 : jSo fk i = k) (h3 : jSo fs i = z) : jNde (fk, fi, fz, fa, fs) pv i k z := ⟨h0, h1, h2, h3⟩
def jMh (D : jC) (pv pu n : Int) : Prop := (∃ C : jC, jJr C 0 0 D pv pu) ∧ jUd D pv pu n
theorem jMh.of {C : jC} {gk gi gz ga gs : Nat → Int32} {qv qu n : Int} (h : jJr C 0 0 (gk, gi, gz, ga, gs) qv qu) (g : jUd (gk, gi, gz, ga, gs) qv qu n) : jMh (gk, gi, gz, ga, gs) qv qu n := ⟨⟨C, h⟩, g⟩
/-- one or the other, hidden until it is resolved -/
def jOr (p q : Prop) : Prop := p ∨ q
theorem jOr.of {p q : Prop} (h : p ∨ q) : jOr p q := h
theorem jOr.resolve_left {p q : Prop} (h : jOr p q) (n : ¬p) : q := Or.resolve_left h n
theorem jOr.resolve_right {p q : Prop} (h : jOr p q) (n : ¬q) : p := Or.resolve_right h n
end
section
-- the documents of the reference while it is made
abbrev jFz9 : List (Nat × Nat) := [(14, 5), (14, 6), (14, 7), (14, 9), (190, 0), (191, 0), (14, 0), (14, 1), (14, 2), (14, 3), (14, 4), (194, 0), (195, 0), (14, 8), (192, 0)]
def jDZa (dC : Nat → ClassId) (dI : Nat → Nat → Nat) (G : jT) (H : Heap) : Prop := ∃ Yb Ye : Nat → Nat, (∀ a, G a = some (14, 0) → jf (dC, dI) 14 a 6 (.ref (Yb a)) H ∧ jf (dC, dI) 14 a 7 (.ref (Ye a)) H ∧ G (Yb a) = some (190, 40) ∧ G (Ye a) = some (191, 40)) ∧ (∀ a b, G a = some (14, 0) → G b = some (14, 0) → Yb a = Yb b → a = b) ∧ (∀ a b, G a = some (14, 0) → G b = some (14, 0) → Ye a = Ye b → a = b) ∧ ∀ a, G a = some (14, 0) → jf (dC, dI) 14 a 5 (.int 0) H ∧ jf (dC, dI) 14 a 9 (.int 0) H
def jRZ (dC : Nat → ClassId) (dI : Nat → Nat → Nat) (G : jT) (H : Heap) : Prop := ∃ Yb Ye : Nat → Nat, (∀ a, G a = some (14, 0) → jf (dC, dI) 14 a 3 (.ref (Yb a)) H ∧ jf (dC, dI) 14 a 0 (.ref (Ye a)) H ∧ G (Yb a) = some (194, 1500) ∧ G (Ye a) = some (195, 40)) ∧ (∀ a b, G a = some (14, 0) → G b = some (14, 0) → Yb a = Yb b → a = b) ∧ (∀ a b, G a = some (14, 0) → G b = some (14, 0) → Ye a = Ye b → a = b) ∧ ∀ a, G a = some (14, 0) → jf (dC, dI) 14 a 1 (.int 0) H ∧ jf (dC, dI) 14 a 2 (.int 0) H ∧ jf (dC, dI) 14 a 4 (.int 0) H
section J45
variable {dC : Nat → ClassId} {dI : Nat → Nat → Nat} {ca : Nat → ClassId} {G G1 : jT} {H : Heap}
theorem jDZa.ie (h : jDZa dC dI G H) : ((jFz9, jDZa dC dI G) : jIv).2 H ∧ ∀ H1 H2 : Heap, jAg (dC, dI) G ((jFz9, jDZa dC dI G) : jIv).1 H1 H2 → ((jFz9, jDZa dC dI G) : jIv).2 H1 → ((jFz9, jDZa dC dI G) : jIv).2 H2 := by
  refine ⟨h, fun H1 H2 hA hq => ?_⟩
  obtain ⟨Yb, Ye, h1, h2, h3, h4⟩ := hq
  refine ⟨Yb, Ye, fun a ha => ?_, h2, h3, fun a ha => ?_⟩
  · obtain ⟨g1, g2, g3, g4⟩ := h1 a ha
    exact ⟨hA.1 a 14 0 6 _ ha rfl g1, hA.1 a 14 0 7 _ ha rfl g2, g3, g4⟩
  · obtain ⟨g1, g2⟩ := h4 a ha
    exact ⟨hA.1 a 14 0 5 _ ha rfl g1, hA.1 a 14 0 9 _ ha rfl g2⟩
theorem jRZ.ie (h : jRZ dC dI G H) : ((jFz9, jRZ dC dI G) : jIv).2 H ∧ ∀ H1 H2 : Heap, jAg (dC, dI) G ((jFz9, jRZ dC dI G) : jIv).1 H1 H2 → ((jFz9, jRZ dC dI G) : jIv).2 H1 → ((jFz9, jRZ dC dI G) : jIv).2 H2 := by
  refine ⟨h, fun H1 H2 hA hq => ?_⟩
  obtain ⟨Yb, Ye, h1, h2, h3, h4⟩ := hq
  refine ⟨Yb, Ye, fun a ha => ?_, h2, h3, fun a ha => ?_⟩
  · obtain ⟨g1, g2, g3, g4⟩ := h1 a ha
    exact ⟨hA.1 a 14 0 3 _ ha rfl g1, hA.1 a 14 0 0 _ ha rfl g2, g3, g4⟩
  · obtain ⟨g1, g2, g3⟩ := h4 a ha
    exact ⟨hA.1 a 14 0 1 _ ha rfl g1, hA.1 a 14 0 2 _ ha rfl g2, hA.1 a 14 0 4 _ ha rfl g3⟩
/-- the flaws' rows -/
def jFZ (dC : Nat → ClassId) (dI : Nat → Nat → Nat) (G : jT) (H : Heap) : Prop := ∃ Yf : Nat → Nat, (∀ a, G a = some (14, 0) → jf (dC, dI) 14 a 8 (.ref (Yf a)) H ∧ G (Yf a) = some (192, 40)) ∧ (∀ a b, G a = some (14, 0) → G b = some (14, 0) → Yf a = Yf b → a = b)
theorem jFZ.ie (h : jFZ dC dI G H) : ((jFz9, jFZ dC dI G) : jIv).2 H ∧ ∀ H1 H2 : Heap, jAg (dC, dI) G ((jFz9, jFZ dC dI G) : jIv).1 H1 H2 → ((jFz9, jFZ dC dI G) : jIv).2 H1 → ((jFz9, jFZ dC dI G) : jIv).2 H2 := by
  refine ⟨h, fun H1 H2 hA hq => ?_⟩
  obtain ⟨Yf, h1, h2⟩ := hq
  refine ⟨Yf, fun a ha => ?_, h2⟩
  obtain ⟨g1, g3⟩ := h1 a ha
  exact ⟨hA.1 a 14 0 8 _ ha rfl g1, g3⟩
/-- both -/
def jDZ (dC : Nat → ClassId) (dI : Nat → Nat → Nat) (G : jT) (H : Heap) : Prop := jDZa dC dI G H ∧ jRZ dC dI G H ∧ jFZ dC dI G H
theorem jDZ.ie (h : jDZ dC dI G H) : ((jFz9, jDZ dC dI G) : jIv).2 H ∧ ∀ H1 H2 : Heap, jAg (dC, dI) G ((jFz9, jDZ dC dI G) : jIv).1 H1 H2 → ((jFz9, jDZ dC dI G) : jIv).2 H1 → ((jFz9, jDZ dC dI G) : jIv).2 H2 := ⟨h, fun H1 H2 hA hq => ⟨(jDZa.ie hq.1).2 H1 H2 hA hq.1, (jRZ.ie hq.2.1).2 H1 H2 hA hq.2.1, (jFZ.ie hq.2.2).2 H1 H2 hA hq.2.2⟩⟩
end J45
end
