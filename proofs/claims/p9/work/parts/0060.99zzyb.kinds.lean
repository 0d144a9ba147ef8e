section
-- the kinds: one table
abbrev jPk : Type := Nat → jT → Nat → Heap → Prop
def jGo (P : jPk) : Prop := (∀ n G a H H1, H1[a]? = H[a]? → P n G a H → P n G a H1) ∧ ∀ n G G1 a H, jLe G G1 → P n G a H → P n G1 a H
theorem jRf.le {G G1 : jT} {k n : Nat} (hle : jLe G G1) : ∀ v, jRf G k n v → jRf G1 k n v := fun _ ⟨x, e, h⟩ => ⟨x, e, hle _ _ h⟩
theorem jRk.le {G G1 : jT} {k n : Nat} (hle : jLe G G1) : ∀ v, jRk G k n v → jRk G1 k n v := fun _ ⟨x, j, e, h, g⟩ => ⟨x, j, e, hle _ _ h, g⟩
theorem jRn.le {G G1 : jT} {k n : Nat} (hle : jLe G G1) : ∀ v, jRn G k n v → jRn G1 k n v := fun _ h => h.elim Or.inl (fun ⟨x, e, h⟩ => Or.inr ⟨x, e, hle _ _ h⟩)
theorem jRm.le {G G1 : jT} {k n : Nat} (hle : jLe G G1) : ∀ v, jRm G k n v → jRm G1 k n v := fun _ h => h.elim Or.inl (fun ⟨x, j, e, h, g⟩ => Or.inr ⟨x, j, e, hle _ _ h, g⟩)
theorem jBr.le {G G1 : jT} {n : Nat} (hle : jLe G G1) : ∀ v, jBr n G v → jBr n G1 v := fun _ ⟨x, m, e, h, g⟩ => ⟨x, m, e, hle _ _ h, g⟩
theorem jGv.le {G G1 : jT} {n : Nat} (hle : jLe G G1) : ∀ v, jGv n G v → jGv n G1 v := fun _ ⟨x, m, e, h, g⟩ => ⟨x, m, e, hle _ _ h, g⟩
theorem jGn.le {G G1 : jT} {n : Nat} (hle : jLe G G1) : ∀ v, jGn n G v → jGn n G1 v := fun _ ⟨x, e, h⟩ => ⟨x, e, hle _ _ h⟩
theorem jGh.le {G G1 : jT} {n : Nat} (hle : jLe G G1) : ∀ v, jGh n G v → jGh n G1 v := fun _ ⟨x, m, e, h, g⟩ => ⟨x, m, e, hle _ _ h, g⟩
theorem jGfo.le {G G1 : jT} {n : Nat} (hle : jLe G G1) : ∀ v, jGfo n G v → jGfo n G1 v := fun _ h => h.elim Or.inl (fun ⟨x, j, e, h, g⟩ => Or.inr ⟨x, j, e, hle _ _ h, g⟩)
section J50
variable {dC : Nat → ClassId} {dI : Nat → Nat → Nat} {ca : Nat → ClassId}
theorem jGo.ob {k N : Nat} {F : Nat → jT → List (Value → Prop)} (hF : ∀ n G G1, jLe G G1 → jF2 (F n G) (F n G1)) : jGo (fun n G a H => jOb (dC, dI) k N (F n G) a H) := by
  refine ⟨fun n G a H H1 e h => ?_, fun n G G1 a H hle h => ?_⟩
  · obtain ⟨V, ⟨cell, h1, h2⟩, h3⟩ := h
    exact ⟨V, ⟨cell, by rw [e]; exact h1, h2⟩, h3⟩
  · obtain ⟨V, h1, h3⟩ := h
    refine ⟨V, h1, fun i q hq => ?_⟩
    obtain ⟨p, hp, hpq⟩ := (hF n G G1 hle).at _ _ i q hq
    exact hpq _ (h3 i p hp)
theorem jGo.ar {c : ClassId} {P : Nat → Int32 → Prop} : jGo (fun n _ a H => jAr (dC, dI) c P n a H) := ⟨fun _ _ _ _ _ e ⟨f, h1, h2⟩ => ⟨f, h1.kept e, h2⟩, fun _ _ _ _ _ _ h => h⟩
theorem jGo.al {c : ClassId} : jGo (fun n _ a H => jAl (dC, dI) c n a H) := ⟨fun _ _ _ _ _ e ⟨f, h1⟩ => ⟨f, h1.kept e⟩, fun _ _ _ _ _ _ h => h⟩
theorem jGo.aq {c : ClassId} {P : jT → Option Nat → Prop} (hP : ∀ G G1 o, jLe G G1 → P G o → P G1 o) : jGo (fun n G a H => jAq (dC, dI) c P n G a H) := ⟨fun _ _ _ _ _ e ⟨f, h1, h2⟩ => ⟨f, h1.kept e, h2⟩, fun _ _ _ _ _ hle ⟨f, h1, h2⟩ => ⟨f, h1, fun j hj => hP _ _ _ hle (h2 j hj)⟩⟩
theorem jGo.az {c : ClassId} : jGo (fun n _ a H => jAqZ (dC, dI) c n a H) := ⟨fun _ _ _ _ _ e ⟨f, h1, h2⟩ => ⟨f, h1.kept e, h2⟩, fun _ _ _ _ _ _ h => h⟩
theorem jQs.le {k n : Nat} {G G1 : jT} {o : Option Nat} (hle : jLe G G1) (h : jQs k n G o) : jQs k n G1 o := by obtain ⟨x, e, g⟩ := h; exact ⟨x, e, hle _ _ g⟩
theorem jQn.le {k n : Nat} {G G1 : jT} {o : Option Nat} (hle : jLe G G1) (h : jQn k n G o) : jQn k n G1 o := h.elim Or.inl (fun ⟨x, e, g⟩ => Or.inr ⟨x, e, hle _ _ g⟩)
theorem jQa.le {k : Nat} {G G1 : jT} {o : Option Nat} (hle : jLe G G1) (h : jQa k G o) : jQa k G1 o := h.elim Or.inl (fun ⟨x, n, e, g⟩ => Or.inr ⟨x, n, e, hle _ _ g⟩)
theorem jQg.le {G G1 : jT} {o : Option Nat} (hle : jLe G G1) (h : jQg G o) : jQg G1 o := by obtain ⟨x, n, e, g, q⟩ := h; exact ⟨x, n, e, hle _ _ g, q⟩
theorem jQh.le {G G1 : jT} {o : Option Nat} (hle : jLe G G1) (h : jQh G o) : jQh G1 o := h.elim Or.inl (fun ⟨x, n, e, g, q⟩ => Or.inr ⟨x, n, e, hle _ _ g, q⟩)
theorem jQk.le {k m : Nat} {G G1 : jT} {o : Option Nat} (hle : jLe G G1) (h : jQk k m G o) : jQk k m G1 o := by obtain ⟨x, n, e, g, q⟩ := h; exact ⟨x, n, e, hle _ _ g, q⟩
end J50
def jLk : List (Nat × jPk) → Nat → jPk
  | [], _ => fun _ _ _ _ => False
  | q :: l, k => bif Nat.beq k q.1 then q.2 else jLk l k
theorem jLk.good : ∀ l : List (Nat × jPk), (∀ q ∈ l, jGo q.2) → ∀ k, jGo (jLk l k)
  | [], _, _ => ⟨fun _ _ _ _ _ _ h => h, fun _ _ _ _ _ _ h => h⟩
  | q :: l, h, k => by
    show jGo (bif Nat.beq k q.1 then q.2 else jLk l k)
    cases Nat.beq k q.1
    · exact jLk.good l (fun x hx => h x (List.mem_cons_of_mem _ hx)) k
    · exact h q List.mem_cons_self
theorem jFm_0 : ∀ n G G1, jLe G G1 → jF2 (Fz0 n G) (Fz0 n G1) := fun n G G1 hle => ⟨jRk.le hle, fun _ h => h, fun _ h => h, fun _ h => h, trivial⟩
theorem jFm_1 : ∀ n G G1, jLe G G1 → jF2 (F1 n G) (F1 n G1) := fun n G G1 hle => ⟨fun _ h => h, fun _ h => h, fun _ h => h, trivial⟩
theorem jFm_2 : ∀ n G G1, jLe G G1 → jF2 (F2 n G) (F2 n G1) := fun n G G1 hle => ⟨jBr.le hle, fun _ h => h, trivial⟩
theorem jFm_3 : ∀ n G G1, jLe G G1 → jF2 (F3 n G) (F3 n G1) := fun n G G1 hle => ⟨jRk.le hle, fun _ h => h, jRf.le hle, fun _ h => h, fun _ h => h, jRf.le hle, jRf.le hle, jRf.le hle, jRf.le hle, jRf.le hle, fun _ h => h, jRm.le hle, jRn.le hle, fun _ h => h, fun _ h => h, fun _ h => h, fun _ h => h, trivial⟩
theorem jFm_4 : ∀ n G G1, jLe G G1 → jF2 (F4 n G) (F4 n G1) := fun n G G1 hle => ⟨jRf.le hle, fun _ h => h, fun _ h => h, fun _ h => h, fun _ h => h, fun _ h => h, fun _ h => h, fun _ h => h, fun _ h => h, fun _ h => h, fun _ h => h, fun _ h => h, trivial⟩
theorem jFm_5 : ∀ n G G1, jLe G G1 → jF2 (F5 n G) (F5 n G1) := fun n G G1 hle => ⟨jGv.le hle, jGn.le hle, jGh.le hle, jGfo.le hle, trivial⟩
theorem jFm_6 : ∀ n G G1, jLe G G1 → jF2 (F6 n G) (F6 n G1) := fun n G G1 hle => ⟨jRf.le hle, jRf.le hle, jRf.le hle, jRf.le hle, jRf.le hle, jRf.le hle, jRf.le hle, fun _ h => h, fun _ h => h, jRk.le hle, fun _ h => h, fun _ h => h, trivial⟩
theorem jFm_7 : ∀ n G G1, jLe G G1 → jF2 (F7 n G) (F7 n G1) := fun n G G1 hle => ⟨jRf.le hle, jRf.le hle, jRf.le hle, jRf.le hle, jRf.le hle, jRk.le hle, jRf.le hle, jRf.le hle, jRf.le hle, jRf.le hle, fun _ h => h, trivial⟩
theorem jFm_8 : ∀ n G G1, jLe G G1 → jF2 (F8 n G) (F8 n G1) := fun n G G1 hle => ⟨jRf.le hle, jRf.le hle, jRf.le hle, fun _ h => h, trivial⟩
theorem jFm_9 : ∀ n G G1, jLe G G1 → jF2 (F9b n G) (F9b n G1) := fun n G G1 hle => ⟨jRf.le hle, jRf.le hle, fun _ h => h, jRf.le hle, jRf.le hle, trivial⟩
theorem jFm_10 : ∀ n G G1, jLe G G1 → jF2 (F10 n G) (F10 n G1) := fun n G G1 hle => ⟨jRn.le hle, jRn.le hle, fun _ h => h, fun _ h => h, fun _ h => h, trivial⟩
theorem jFm_11 : ∀ n G G1, jLe G G1 → jF2 (F11 n G) (F11 n G1) := fun n G G1 hle => ⟨jRn.le hle, jRk.le hle, fun _ h => h, jRk.le hle, jRk.le hle, jRk.le hle, fun _ h => h, jRk.le hle, jRk.le hle, trivial⟩
theorem jFm_12 : ∀ n G G1, jLe G G1 → jF2 (F12b n G) (F12b n G1) := fun n G G1 hle => ⟨jRf.le hle, jRf.le hle, jRf.le hle, fun _ h => h, fun _ h => h, fun _ h => h, jRf.le hle, fun _ h => h, fun _ h => h, jRf.le hle, fun _ h => h, trivial⟩
theorem jFm_13 : ∀ n G G1, jLe G G1 → jF2 (F13 n G) (F13 n G1) := fun n G G1 hle => ⟨jRf.le hle, jRf.le hle, jRf.le hle, jRf.le hle, jRf.le hle, jRf.le hle, jRf.le hle, jRf.le hle, jRf.le hle, jRf.le hle, jRf.le hle, fun _ h => h, fun _ h => h, fun _ h => h, fun _ h => h, jRf.le hle, jRn.le hle, jRf.le hle, fun _ h => h, trivial⟩
theorem jFm_14 : ∀ n G G1, jLe G G1 → jF2 (F14 n G) (F14 n G1) := fun n G G1 hle => ⟨jRf.le hle, fun _ h => h, fun _ h => h, jRf.le hle, fun _ h => h, fun _ h => h, jRf.le hle, jRf.le hle, jRf.le hle, fun _ h => h, jRf.le hle, trivial⟩
theorem jFm_15 : ∀ n G G1, jLe G G1 → jF2 (F15 n G) (F15 n G1) := fun n G G1 hle => ⟨jRf.le hle, jRf.le hle, jRf.le hle, jRf.le hle, jRf.le hle, fun _ h => h, jRf.le hle, fun _ h => h, jRf.le hle, jRf.le hle, fun _ h => h, fun _ h => h, jRf.le hle, jRf.le hle, jRf.le hle, fun _ h => h, jRf.le hle, jRf.le hle, fun _ h => h, fun _ h => h, fun _ h => h, fun _ h => h, jRf.le hle, jRf.le hle, jRf.le hle, jRf.le hle, jRf.le hle, jRf.le hle, jRf.le hle, jRf.le hle, fun _ h => h, fun _ h => h, fun _ h => h, fun _ h => h, fun _ h => h, jRf.le hle, fun _ h => h, jRf.le hle, fun _ h => h, fun _ h => h, fun _ h => h, fun _ h => h, fun _ h => h, jRf.le hle, jRf.le hle, jRf.le hle, fun _ h => h, jRf.le hle, jRf.le hle, fun _ h => h, trivial⟩
theorem jFm_16 : ∀ n G G1, jLe G G1 → jF2 (F16 n G) (F16 n G1) := fun n G G1 hle => ⟨jRf.le hle, fun _ h => h, jRf.le hle, fun _ h => h, fun _ h => h, jRf.le hle, fun _ h => h, fun _ h => h, fun _ h => h, jRf.le hle, fun _ h => h, fun _ h => h, fun _ h => h, jRf.le hle, jRf.le hle, fun _ h => h, fun _ h => h, jRf.le hle, jRf.le hle, jRf.le hle, jRf.le hle, jRf.le hle, jRf.le hle, jRf.le hle, jRf.le hle, jRf.le hle, fun _ h => h, jRf.le hle, fun _ h => h, fun _ h => h, fun _ h => h, fun _ h => h, fun _ h => h, fun _ h => h, fun _ h => h, fun _ h => h, fun _ h => h, fun _ h => h, jRf.le hle, fun _ h => h, fun _ h => h, jRf.le hle, fun _ h => h, jRf.le hle, fun _ h => h, jRf.le hle, jRf.le hle, jRf.le hle, fun _ h => h, jRf.le hle, jRf.le hle, jRf.le hle, jRf.le hle, jRf.le hle, jRf.le hle, jRf.le hle, jRf.le hle, jRf.le hle, jRf.le hle, jRf.le hle, jRf.le hle, jRf.le hle, jRf.le hle, jRf.le hle, fun _ h => h, fun _ h => h, fun _ h => h, jRf.le hle, jRf.le hle, jRf.le hle, fun _ h => h, jRf.le hle, jRf.le hle, jRf.le hle, trivial⟩
theorem jGk_0 (dC : Nat → ClassId) (dI : Nat → Nat → Nat) (ca : Nat → ClassId) : jGo (fun n G a H => jOb (dC, dI) 0 4 (Fz0 n G) a H) := jGo.ob jFm_0
theorem jGk_1 (dC : Nat → ClassId) (dI : Nat → Nat → Nat) (ca : Nat → ClassId) : jGo (fun n G a H => jOb (dC, dI) 1 3 (F1 n G) a H) := jGo.ob jFm_1
theorem jGk_2 (dC : Nat → ClassId) (dI : Nat → Nat → Nat) (ca : Nat → ClassId) : jGo (fun n G a H => jOb (dC, dI) 2 2 (F2 n G) a H) := jGo.ob jFm_2
theorem jGk_3 (dC : Nat → ClassId) (dI : Nat → Nat → Nat) (ca : Nat → ClassId) : jGo (fun n G a H => jOb (dC, dI) 3 17 (F3 n G) a H) := jGo.ob jFm_3
theorem jGk_4 (dC : Nat → ClassId) (dI : Nat → Nat → Nat) (ca : Nat → ClassId) : jGo (fun n G a H => jOb (dC, dI) 4 12 (F4 n G) a H) := jGo.ob jFm_4
theorem jGk_5 (dC : Nat → ClassId) (dI : Nat → Nat → Nat) (ca : Nat → ClassId) : jGo (fun n G a H => jOb (dC, dI) 5 4 (F5 n G) a H) := jGo.ob jFm_5
theorem jGk_6 (dC : Nat → ClassId) (dI : Nat → Nat → Nat) (ca : Nat → ClassId) : jGo (fun n G a H => jOb (dC, dI) 6 12 (F6 n G) a H) := jGo.ob jFm_6
theorem jGk_7 (dC : Nat → ClassId) (dI : Nat → Nat → Nat) (ca : Nat → ClassId) : jGo (fun n G a H => jOb (dC, dI) 7 11 (F7 n G) a H) := jGo.ob jFm_7
theorem jGk_8 (dC : Nat → ClassId) (dI : Nat → Nat → Nat) (ca : Nat → ClassId) : jGo (fun n G a H => jOb (dC, dI) 8 4 (F8 n G) a H) := jGo.ob jFm_8
theorem jGk_9 (dC : Nat → ClassId) (dI : Nat → Nat → Nat) (ca : Nat → ClassId) : jGo (fun n G a H => jOb (dC, dI) 9 5 (F9b n G) a H) := jGo.ob jFm_9
theorem jGk_10 (dC : Nat → ClassId) (dI : Nat → Nat → Nat) (ca : Nat → ClassId) : jGo (fun n G a H => jOb (dC, dI) 10 5 (F10 n G) a H) := jGo.ob jFm_10
theorem jGk_11 (dC : Nat → ClassId) (dI : Nat → Nat → Nat) (ca : Nat → ClassId) : jGo (fun n G a H => jOb (dC, dI) 11 9 (F11 n G) a H) := jGo.ob jFm_11
theorem jGk_12 (dC : Nat → ClassId) (dI : Nat → Nat → Nat) (ca : Nat → ClassId) : jGo (fun n G a H => jOb (dC, dI) 12 11 (F12b n G) a H) := jGo.ob jFm_12
theorem jGk_13 (dC : Nat → ClassId) (dI : Nat → Nat → Nat) (ca : Nat → ClassId) : jGo (fun n G a H => jOb (dC, dI) 13 19 (F13 n G) a H) := jGo.ob jFm_13
theorem jGk_14 (dC : Nat → ClassId) (dI : Nat → Nat → Nat) (ca : Nat → ClassId) : jGo (fun n G a H => jOb (dC, dI) 14 11 (F14 n G) a H) := jGo.ob jFm_14
theorem jGk_15 (dC : Nat → ClassId) (dI : Nat → Nat → Nat) (ca : Nat → ClassId) : jGo (fun n G a H => jOb (dC, dI) 15 50 (F15 n G) a H) := jGo.ob jFm_15
theorem jGk_16 (dC : Nat → ClassId) (dI : Nat → Nat → Nat) (ca : Nat → ClassId) : jGo (fun n G a H => jOb (dC, dI) 16 74 (F16 n G) a H) := jGo.ob jFm_16
theorem jGk_100 (dC : Nat → ClassId) (dI : Nat → Nat → Nat) (ca : Nat → ClassId) : jGo (fun n G a H => jAr (dC, dI) (ca 0) (fun j z => True) n a H) := jGo.ar
theorem jGk_101 (dC : Nat → ClassId) (dI : Nat → Nat → Nat) (ca : Nat → ClassId) : jGo (fun n G a H => jAr (dC, dI) (ca 1) (fun j z => True) n a H) := jGo.ar
theorem jGk_102 (dC : Nat → ClassId) (dI : Nat → Nat → Nat) (ca : Nat → ClassId) : jGo (fun n G a H => jAl (dC, dI) (ca 2) n a H) := jGo.al
theorem jGk_103 (dC : Nat → ClassId) (dI : Nat → Nat → Nat) (ca : Nat → ClassId) : jGo (fun n G a H => jAr (dC, dI) (ca 3) (fun j z => (z = 0 ∨ z = 1)) n a H) := jGo.ar
theorem jGk_110 (dC : Nat → ClassId) (dI : Nat → Nat → Nat) (ca : Nat → ClassId) : jGo (fun n G a H => jAr (dC, dI) (ca 1) (fun j z => 0 ≤ z.toInt ∧ z.toInt ≤ 255) n a H) := jGo.ar
theorem jGk_111 (dC : Nat → ClassId) (dI : Nat → Nat → Nat) (ca : Nat → ClassId) : jGo (fun n G a H => jAr (dC, dI) (ca 1) (fun j z => 0 ≤ z.toInt ∧ z.toInt ≤ 255) n a H) := jGo.ar
theorem jGk_112 (dC : Nat → ClassId) (dI : Nat → Nat → Nat) (ca : Nat → ClassId) : jGo (fun n G a H => jAr (dC, dI) (ca 1) (fun j z => True) n a H) := jGo.ar
theorem jGk_117 (dC : Nat → ClassId) (dI : Nat → Nat → Nat) (ca : Nat → ClassId) : jGo (fun n G a H => jAr (dC, dI) (ca 1) (fun j z => True) n a H) := jGo.ar
theorem jGk_118 (dC : Nat → ClassId) (dI : Nat → Nat → Nat) (ca : Nat → ClassId) : jGo (fun n G a H => jAr (dC, dI) (ca 1) (fun j z => -1 ≤ z.toInt ∧ z.toInt ≤ 3099) n a H) := jGo.ar
theorem jGk_119 (dC : Nat → ClassId) (dI : Nat → Nat → Nat) (ca : Nat → ClassId) : jGo (fun n G a H => jAr (dC, dI) (ca 1) (fun j z => z.toInt = -1 ∨ z.toInt = 0 ∨ ((j : Nat) < z.toInt ∧ z.toInt ≤ 3099)) n a H) := jGo.ar
theorem jGk_120 (dC : Nat → ClassId) (dI : Nat → Nat → Nat) (ca : Nat → ClassId) : jGo (fun n G a H => jAr (dC, dI) (ca 1) (fun j z => 0 ≤ z.toInt ∧ z.toInt ≤ 3300) n a H) := jGo.ar
theorem jGk_121 (dC : Nat → ClassId) (dI : Nat → Nat → Nat) (ca : Nat → ClassId) : jGo (fun n G a H => jAr (dC, dI) (ca 1) (fun j z => 0 ≤ z.toInt ∧ z.toInt ≤ 3300) n a H) := jGo.ar
theorem jGk_122 (dC : Nat → ClassId) (dI : Nat → Nat → Nat) (ca : Nat → ClassId) : jGo (fun n G a H => jAr (dC, dI) (ca 1) (fun j z => 0 ≤ z.toInt ∧ z.toInt ≤ 3100) n a H) := jGo.ar
theorem jGk_123 (dC : Nat → ClassId) (dI : Nat → Nat → Nat) (ca : Nat → ClassId) : jGo (fun n G a H => jAr (dC, dI) (ca 1) (fun j z => 0 ≤ z.toInt ∧ z.toInt ≤ 3100) n a H) := jGo.ar
theorem jGk_124 (dC : Nat → ClassId) (dI : Nat → Nat → Nat) (ca : Nat → ClassId) : jGo (fun n G a H => jAr (dC, dI) (ca 3) (fun j z => (z = 0 ∨ z = 1)) n a H) := jGo.ar
theorem jGk_125 (dC : Nat → ClassId) (dI : Nat → Nat → Nat) (ca : Nat → ClassId) : jGo (fun n G a H => jAr (dC, dI) (ca 1) (fun j z => True) n a H) := jGo.ar
theorem jGk_127 (dC : Nat → ClassId) (dI : Nat → Nat → Nat) (ca : Nat → ClassId) : jGo (fun n G a H => jAr (dC, dI) (ca 1) (fun j z => True) n a H) := jGo.ar
theorem jGk_132 (dC : Nat → ClassId) (dI : Nat → Nat → Nat) (ca : Nat → ClassId) : jGo (fun n G a H => jAr (dC, dI) (ca 1) (fun j z => 0 ≤ z.toInt ∧ z.toInt ≤ 10) n a H) := jGo.ar
theorem jGk_133 (dC : Nat → ClassId) (dI : Nat → Nat → Nat) (ca : Nat → ClassId) : jGo (fun n G a H => jAr (dC, dI) (ca 1) (fun j z => 0 ≤ z.toInt ∧ z.toInt ≤ 8192) n a H) := jGo.ar
theorem jGk_140 (dC : Nat → ClassId) (dI : Nat → Nat → Nat) (ca : Nat → ClassId) : jGo (fun n G a H => jAr (dC, dI) (ca 1) (fun j z => True) n a H) := jGo.ar
theorem jGk_141 (dC : Nat → ClassId) (dI : Nat → Nat → Nat) (ca : Nat → ClassId) : jGo (fun n G a H => jAr (dC, dI) (ca 1) (fun j z => True) n a H) := jGo.ar
theorem jGk_142 (dC : Nat → ClassId) (dI : Nat → Nat → Nat) (ca : Nat → ClassId) : jGo (fun n G a H => jAr (dC, dI) (ca 1) (fun j z => True) n a H) := jGo.ar
theorem jGk_143 (dC : Nat → ClassId) (dI : Nat → Nat → Nat) (ca : Nat → ClassId) : jGo (fun n G a H => jAr (dC, dI) (ca 1) (fun j z => True) n a H) := jGo.ar
theorem jGk_144 (dC : Nat → ClassId) (dI : Nat → Nat → Nat) (ca : Nat → ClassId) : jGo (fun n G a H => jAr (dC, dI) (ca 1) (fun j z => 0 ≤ z.toInt ∧ z.toInt ≤ 3000) n a H) := jGo.ar
theorem jGk_145 (dC : Nat → ClassId) (dI : Nat → Nat → Nat) (ca : Nat → ClassId) : jGo (fun n G a H => jAr (dC, dI) (ca 1) (fun j z => True) n a H) := jGo.ar
theorem jGk_146 (dC : Nat → ClassId) (dI : Nat → Nat → Nat) (ca : Nat → ClassId) : jGo (fun n G a H => jAr (dC, dI) (ca 1) (fun j z => True) n a H) := jGo.ar
theorem jGk_150 (dC : Nat → ClassId) (dI : Nat → Nat → Nat) (ca : Nat → ClassId) : jGo (fun n G a H => jAr (dC, dI) (ca 1) (fun j z => True) n a H) := jGo.ar
theorem jGk_151 (dC : Nat → ClassId) (dI : Nat → Nat → Nat) (ca : Nat → ClassId) : jGo (fun n G a H => jAr (dC, dI) (ca 1) (fun j z => True) n a H) := jGo.ar
theorem jGk_152 (dC : Nat → ClassId) (dI : Nat → Nat → Nat) (ca : Nat → ClassId) : jGo (fun n G a H => jAr (dC, dI) (ca 1) (fun j z => True) n a H) := jGo.ar
theorem jGk_153 (dC : Nat → ClassId) (dI : Nat → Nat → Nat) (ca : Nat → ClassId) : jGo (fun n G a H => jAr (dC, dI) (ca 1) (fun j z => True) n a H) := jGo.ar
theorem jGk_154 (dC : Nat → ClassId) (dI : Nat → Nat → Nat) (ca : Nat → ClassId) : jGo (fun n G a H => jAr (dC, dI) (ca 1) (fun j z => True) n a H) := jGo.ar
theorem jGk_155 (dC : Nat → ClassId) (dI : Nat → Nat → Nat) (ca : Nat → ClassId) : jGo (fun n G a H => jAr (dC, dI) (ca 1) (fun j z => 0 ≤ z.toInt ∧ z.toInt ≤ 11990) n a H) := jGo.ar
theorem jGk_156 (dC : Nat → ClassId) (dI : Nat → Nat → Nat) (ca : Nat → ClassId) : jGo (fun n G a H => jAr (dC, dI) (ca 1) (fun j z => 0 ≤ z.toInt ∧ z.toInt ≤ 10) n a H) := jGo.ar
theorem jGk_157 (dC : Nat → ClassId) (dI : Nat → Nat → Nat) (ca : Nat → ClassId) : jGo (fun n G a H => jAr (dC, dI) (ca 1) (fun j z => 0 ≤ z.toInt ∧ z.toInt ≤ 1599) n a H) := jGo.ar
theorem jGk_158 (dC : Nat → ClassId) (dI : Nat → Nat → Nat) (ca : Nat → ClassId) : jGo (fun n G a H => jAr (dC, dI) (ca 1) (fun j z => 0 ≤ z.toInt ∧ z.toInt ≤ 6) n a H) := jGo.ar
theorem jGk_159 (dC : Nat → ClassId) (dI : Nat → Nat → Nat) (ca : Nat → ClassId) : jGo (fun n G a H => jAr (dC, dI) (ca 1) (fun j z => 0 ≤ z.toInt ∧ z.toInt ≤ 8) n a H) := jGo.ar
theorem jGk_160 (dC : Nat → ClassId) (dI : Nat → Nat → Nat) (ca : Nat → ClassId) : jGo (fun n G a H => jAr (dC, dI) (ca 1) (fun j z => 0 ≤ z.toInt ∧ z.toInt ≤ 119999) n a H) := jGo.ar
theorem jGk_161 (dC : Nat → ClassId) (dI : Nat → Nat → Nat) (ca : Nat → ClassId) : jGo (fun n G a H => jAr (dC, dI) (ca 1) (fun j z => 0 ≤ z.toInt ∧ z.toInt ≤ 119999) n a H) := jGo.ar
theorem jGk_162 (dC : Nat → ClassId) (dI : Nat → Nat → Nat) (ca : Nat → ClassId) : jGo (fun n G a H => jAr (dC, dI) (ca 1) (fun j z => 0 ≤ z.toInt ∧ z.toInt ≤ 119999) n a H) := jGo.ar
theorem jGk_163 (dC : Nat → ClassId) (dI : Nat → Nat → Nat) (ca : Nat → ClassId) : jGo (fun n G a H => jAr (dC, dI) (ca 1) (fun j z => 0 ≤ z.toInt ∧ z.toInt ≤ 1599) n a H) := jGo.ar
theorem jGk_164 (dC : Nat → ClassId) (dI : Nat → Nat → Nat) (ca : Nat → ClassId) : jGo (fun n G a H => jAr (dC, dI) (ca 1) (fun j z => 0 ≤ z.toInt ∧ z.toInt ≤ 100000) n a H) := jGo.ar
theorem jGk_165 (dC : Nat → ClassId) (dI : Nat → Nat → Nat) (ca : Nat → ClassId) : jGo (fun n G a H => jAr (dC, dI) (ca 1) (fun j z => 0 ≤ z.toInt ∧ z.toInt ≤ 3) n a H) := jGo.ar
theorem jGk_166 (dC : Nat → ClassId) (dI : Nat → Nat → Nat) (ca : Nat → ClassId) : jGo (fun n G a H => jAr (dC, dI) (ca 1) (fun j z => True) n a H) := jGo.ar
theorem jGk_167 (dC : Nat → ClassId) (dI : Nat → Nat → Nat) (ca : Nat → ClassId) : jGo (fun n G a H => jAr (dC, dI) (ca 1) (fun j z => True) n a H) := jGo.ar
theorem jGk_168 (dC : Nat → ClassId) (dI : Nat → Nat → Nat) (ca : Nat → ClassId) : jGo (fun n G a H => jAr (dC, dI) (ca 1) (fun j z => 0 ≤ z.toInt ∧ z.toInt ≤ 119999) n a H) := jGo.ar
theorem jGk_169 (dC : Nat → ClassId) (dI : Nat → Nat → Nat) (ca : Nat → ClassId) : jGo (fun n G a H => jAr (dC, dI) (ca 1) (fun j z => True) n a H) := jGo.ar
theorem jGk_171 (dC : Nat → ClassId) (dI : Nat → Nat → Nat) (ca : Nat → ClassId) : jGo (fun n G a H => jAr (dC, dI) (ca 1) (fun j z => 0 ≤ z.toInt ∧ z.toInt ≤ 1500) n a H) := jGo.ar
theorem jGk_172 (dC : Nat → ClassId) (dI : Nat → Nat → Nat) (ca : Nat → ClassId) : jGo (fun n G a H => jAr (dC, dI) (ca 1) (fun j z => 0 ≤ z.toInt ∧ z.toInt ≤ 1500) n a H) := jGo.ar
theorem jGk_173 (dC : Nat → ClassId) (dI : Nat → Nat → Nat) (ca : Nat → ClassId) : jGo (fun n G a H => jAr (dC, dI) (ca 1) (fun j z => True) n a H) := jGo.ar
theorem jGk_174 (dC : Nat → ClassId) (dI : Nat → Nat → Nat) (ca : Nat → ClassId) : jGo (fun n G a H => jAr (dC, dI) (ca 1) (fun j z => True) n a H) := jGo.ar
theorem jGk_190 (dC : Nat → ClassId) (dI : Nat → Nat → Nat) (ca : Nat → ClassId) : jGo (fun n G a H => jAr (dC, dI) (ca 1) (fun j z => 0 ≤ z.toInt ∧ z.toInt ≤ 1500) n a H) := jGo.ar
theorem jGk_191 (dC : Nat → ClassId) (dI : Nat → Nat → Nat) (ca : Nat → ClassId) : jGo (fun n G a H => jAr (dC, dI) (ca 1) (fun j z => 0 ≤ z.toInt ∧ z.toInt ≤ 1500) n a H) := jGo.ar
theorem jGk_192 (dC : Nat → ClassId) (dI : Nat → Nat → Nat) (ca : Nat → ClassId) : jGo (fun n G a H => jAr (dC, dI) (ca 1) (fun j z => 0 ≤ z.toInt ∧ z.toInt ≤ 2) n a H) := jGo.ar
theorem jGk_193 (dC : Nat → ClassId) (dI : Nat → Nat → Nat) (ca : Nat → ClassId) : jGo (fun n G a H => jAr (dC, dI) (ca 1) (fun j z => True) n a H) := jGo.ar
theorem jGk_194 (dC : Nat → ClassId) (dI : Nat → Nat → Nat) (ca : Nat → ClassId) : jGo (fun n G a H => jAr (dC, dI) (ca 1) (fun j z => True) n a H) := jGo.ar
theorem jGk_195 (dC : Nat → ClassId) (dI : Nat → Nat → Nat) (ca : Nat → ClassId) : jGo (fun n G a H => jAr (dC, dI) (ca 1) (fun j z => True) n a H) := jGo.ar
theorem jGk_196 (dC : Nat → ClassId) (dI : Nat → Nat → Nat) (ca : Nat → ClassId) : jGo (fun n G a H => jAr (dC, dI) (ca 0) (fun j z => jBf j z) n a H) := jGo.ar
theorem jGk_197 (dC : Nat → ClassId) (dI : Nat → Nat → Nat) (ca : Nat → ClassId) : jGo (fun n G a H => jAr (dC, dI) (ca 0) (fun j z => jBf j z) n a H) := jGo.ar
theorem jGk_198 (dC : Nat → ClassId) (dI : Nat → Nat → Nat) (ca : Nat → ClassId) : jGo (fun n G a H => jAr (dC, dI) (ca 0) (fun j z => jBf j z) n a H) := jGo.ar
theorem jGk_201 (dC : Nat → ClassId) (dI : Nat → Nat → Nat) (ca : Nat → ClassId) : jGo (fun n G a H => jAq (dC, dI) (ca 4) (jQs 14 0) n G a H) := jGo.aq (fun _ _ _ hle h => jQs.le hle h)
theorem jGk_202 (dC : Nat → ClassId) (dI : Nat → Nat → Nat) (ca : Nat → ClassId) : jGo (fun n G a H => jAq (dC, dI) (ca 4) (jQn 14 0) n G a H) := jGo.aq (fun _ _ _ hle h => jQn.le hle h)
theorem jGk_203 (dC : Nat → ClassId) (dI : Nat → Nat → Nat) (ca : Nat → ClassId) : jGo (fun n G a H => jAr (dC, dI) (ca 1) (fun j z => -3300 ≤ z.toInt ∧ z.toInt ≤ 20) n a H) := jGo.ar
theorem jGk_204 (dC : Nat → ClassId) (dI : Nat → Nat → Nat) (ca : Nat → ClassId) : jGo (fun n G a H => jAr (dC, dI) (ca 1) (fun j z => -3100 ≤ z.toInt ∧ z.toInt ≤ 3100) n a H) := jGo.ar
theorem jGk_205 (dC : Nat → ClassId) (dI : Nat → Nat → Nat) (ca : Nat → ClassId) : jGo (fun n G a H => jAr (dC, dI) (ca 1) (fun j z => 0 ≤ z.toInt ∧ z.toInt ≤ 1600) n a H) := jGo.ar
theorem jGk_206 (dC : Nat → ClassId) (dI : Nat → Nat → Nat) (ca : Nat → ClassId) : jGo (fun n G a H => jAr (dC, dI) (ca 1) (fun j z => 0 ≤ z.toInt ∧ z.toInt ≤ 40) n a H) := jGo.ar
theorem jGk_207 (dC : Nat → ClassId) (dI : Nat → Nat → Nat) (ca : Nat → ClassId) : jGo (fun n G a H => jAr (dC, dI) (ca 1) (fun j z => 0 ≤ z.toInt ∧ z.toInt ≤ 39) n a H) := jGo.ar
theorem jGk_208 (dC : Nat → ClassId) (dI : Nat → Nat → Nat) (ca : Nat → ClassId) : jGo (fun n G a H => jAq (dC, dI) (ca 4) (jQn 14 0) n G a H) := jGo.aq (fun _ _ _ hle h => jQn.le hle h)
theorem jGk_210 (dC : Nat → ClassId) (dI : Nat → Nat → Nat) (ca : Nat → ClassId) : jGo (fun n G a H => jAq (dC, dI) (ca 6) (jQn 11 0) n G a H) := jGo.aq (fun _ _ _ hle h => jQn.le hle h)
theorem jGk_211 (dC : Nat → ClassId) (dI : Nat → Nat → Nat) (ca : Nat → ClassId) : jGo (fun n G a H => jAq (dC, dI) (ca 7) (jQh) n G a H) := jGo.aq (fun _ _ _ hle h => jQh.le hle h)
theorem jGk_212 (dC : Nat → ClassId) (dI : Nat → Nat → Nat) (ca : Nat → ClassId) : jGo (fun n G a H => jAq (dC, dI) (ca 5) (jQn 3 0) n G a H) := jGo.aq (fun _ _ _ hle h => jQn.le hle h)
theorem jGk_214 (dC : Nat → ClassId) (dI : Nat → Nat → Nat) (ca : Nat → ClassId) : jGo (fun n G a H => jAq (dC, dI) (ca 7) (jQg) n G a H) := jGo.aq (fun _ _ _ hle h => jQg.le hle h)
theorem jGk_221 (dC : Nat → ClassId) (dI : Nat → Nat → Nat) (ca : Nat → ClassId) : jGo (fun n G a H => jAq (dC, dI) (ca 9) (jQn 3 0) n G a H) := jGo.aq (fun _ _ _ hle h => jQn.le hle h)
theorem jGk_222 (dC : Nat → ClassId) (dI : Nat → Nat → Nat) (ca : Nat → ClassId) : jGo (fun n G a H => jAq (dC, dI) (ca 9) (jQn 10 0) n G a H) := jGo.aq (fun _ _ _ hle h => jQn.le hle h)
theorem jGk_223 (dC : Nat → ClassId) (dI : Nat → Nat → Nat) (ca : Nat → ClassId) : jGo (fun n G a H => jAq (dC, dI) (ca 9) (jQn 11 0) n G a H) := jGo.aq (fun _ _ _ hle h => jQn.le hle h)
theorem jGk_280 (dC : Nat → ClassId) (dI : Nat → Nat → Nat) (ca : Nat → ClassId) : jGo (fun n G a H => jAr (dC, dI) (ca 1) (fun j z => -1 ≤ z.toInt) n a H) := jGo.ar
theorem jGk_286 (dC : Nat → ClassId) (dI : Nat → Nat → Nat) (ca : Nat → ClassId) : jGo (fun n G a H => jAr (dC, dI) (ca 1) (fun j z => (0 ≤ z.toInt ∨ z.toInt = -3)) n a H) := jGo.ar
theorem jGk_287 (dC : Nat → ClassId) (dI : Nat → Nat → Nat) (ca : Nat → ClassId) : jGo (fun n G a H => jAr (dC, dI) (ca 1) (fun j z => 0 ≤ z.toInt ∧ z.toInt ≤ 65535) n a H) := jGo.ar
theorem jGk_288 (dC : Nat → ClassId) (dI : Nat → Nat → Nat) (ca : Nat → ClassId) : jGo (fun n G a H => jAr (dC, dI) (ca 1) (fun j z => 0 ≤ z.toInt ∧ z.toInt ≤ 160) n a H) := jGo.ar
theorem jGk_290 (dC : Nat → ClassId) (dI : Nat → Nat → Nat) (ca : Nat → ClassId) : jGo (fun n G a H => jAr (dC, dI) (ca 1) (fun j z => 0 ≤ z.toInt ∧ z.toInt ≤ 3000) n a H) := jGo.ar
theorem jGk_291 (dC : Nat → ClassId) (dI : Nat → Nat → Nat) (ca : Nat → ClassId) : jGo (fun n G a H => jAr (dC, dI) (ca 1) (fun j z => 0 ≤ z.toInt ∧ z.toInt ≤ 3000) n a H) := jGo.ar
theorem jGk_292 (dC : Nat → ClassId) (dI : Nat → Nat → Nat) (ca : Nat → ClassId) : jGo (fun n G a H => jAr (dC, dI) (ca 1) (fun j z => 0 ≤ z.toInt ∧ z.toInt ≤ 8191) n a H) := jGo.ar
theorem jGk_293 (dC : Nat → ClassId) (dI : Nat → Nat → Nat) (ca : Nat → ClassId) : jGo (fun n G a H => jAr (dC, dI) (ca 1) (fun j z => -1 ≤ z.toInt ∧ z.toInt ≤ 8191) n a H) := jGo.ar
theorem jGk_313 (dC : Nat → ClassId) (dI : Nat → Nat → Nat) (ca : Nat → ClassId) : jGo (fun n G a H => jAq (dC, dI) (ca 8) (jQk 280 80) n G a H) := jGo.aq (fun _ _ _ hle h => jQk.le hle h)
theorem jGk_315 (dC : Nat → ClassId) (dI : Nat → Nat → Nat) (ca : Nat → ClassId) : jGo (fun n G a H => jAqZ (dC, dI) (ca 8) n a H) := jGo.az
def jBk0 (dC : Nat → ClassId) (dI : Nat → Nat → Nat) (ca : Nat → ClassId) : List (Nat × jPk) := [(0, fun n G a H => jOb (dC, dI) 0 4 (Fz0 n G) a H), (1, fun n G a H => jOb (dC, dI) 1 3 (F1 n G) a H), (2, fun n G a H => jOb (dC, dI) 2 2 (F2 n G) a H), (3, fun n G a H => jOb (dC, dI) 3 17 (F3 n G) a H), (4, fun n G a H => jOb (dC, dI) 4 12 (F4 n G) a H), (5, fun n G a H => jOb (dC, dI) 5 4 (F5 n G) a H), (6, fun n G a H => jOb (dC, dI) 6 12 (F6 n G) a H), (7, fun n G a H => jOb (dC, dI) 7 11 (F7 n G) a H), (8, fun n G a H => jOb (dC, dI) 8 4 (F8 n G) a H), (9, fun n G a H => jOb (dC, dI) 9 5 (F9b n G) a H), (10, fun n G a H => jOb (dC, dI) 10 5 (F10 n G) a H), (11, fun n G a H => jOb (dC, dI) 11 9 (F11 n G) a H)]
theorem jBg0 (dC : Nat → ClassId) (dI : Nat → Nat → Nat) (ca : Nat → ClassId) : ∀ q ∈ jBk0 dC dI ca, jGo q.2 := List.forall_mem_cons.mpr ⟨jGk_0 dC dI ca, List.forall_mem_cons.mpr ⟨jGk_1 dC dI ca, List.forall_mem_cons.mpr ⟨jGk_2 dC dI ca, List.forall_mem_cons.mpr ⟨jGk_3 dC dI ca, List.forall_mem_cons.mpr ⟨jGk_4 dC dI ca, List.forall_mem_cons.mpr ⟨jGk_5 dC dI ca, List.forall_mem_cons.mpr ⟨jGk_6 dC dI ca, List.forall_mem_cons.mpr ⟨jGk_7 dC dI ca, List.forall_mem_cons.mpr ⟨jGk_8 dC dI ca, List.forall_mem_cons.mpr ⟨jGk_9 dC dI ca, List.forall_mem_cons.mpr ⟨jGk_10 dC dI ca, List.forall_mem_cons.mpr ⟨jGk_11 dC dI ca, fun _ h => absurd h List.not_mem_nil⟩⟩⟩⟩⟩⟩⟩⟩⟩⟩⟩⟩
def jBk1 (dC : Nat → ClassId) (dI : Nat → Nat → Nat) (ca : Nat → ClassId) : List (Nat × jPk) := [(12, fun n G a H => jOb (dC, dI) 12 11 (F12b n G) a H), (13, fun n G a H => jOb (dC, dI) 13 19 (F13 n G) a H), (14, fun n G a H => jOb (dC, dI) 14 11 (F14 n G) a H), (15, fun n G a H => jOb (dC, dI) 15 50 (F15 n G) a H), (16, fun n G a H => jOb (dC, dI) 16 74 (F16 n G) a H), (100, fun n G a H => jAr (dC, dI) (ca 0) (fun j z => True) n a H), (101, fun n G a H => jAr (dC, dI) (ca 1) (fun j z => True) n a H), (102, fun n G a H => jAl (dC, dI) (ca 2) n a H), (103, fun n G a H => jAr (dC, dI) (ca 3) (fun j z => (z = 0 ∨ z = 1)) n a H), (110, fun n G a H => jAr (dC, dI) (ca 1) (fun j z => 0 ≤ z.toInt ∧ z.toInt ≤ 255) n a H), (111, fun n G a H => jAr (dC, dI) (ca 1) (fun j z => 0 ≤ z.toInt ∧ z.toInt ≤ 255) n a H), (112, fun n G a H => jAr (dC, dI) (ca 1) (fun j z => True) n a H)]
theorem jBg1 (dC : Nat → ClassId) (dI : Nat → Nat → Nat) (ca : Nat → ClassId) : ∀ q ∈ jBk1 dC dI ca, jGo q.2 := List.forall_mem_cons.mpr ⟨jGk_12 dC dI ca, List.forall_mem_cons.mpr ⟨jGk_13 dC dI ca, List.forall_mem_cons.mpr ⟨jGk_14 dC dI ca, List.forall_mem_cons.mpr ⟨jGk_15 dC dI ca, List.forall_mem_cons.mpr ⟨jGk_16 dC dI ca, List.forall_mem_cons.mpr ⟨jGk_100 dC dI ca, List.forall_mem_cons.mpr ⟨jGk_101 dC dI ca, List.forall_mem_cons.mpr ⟨jGk_102 dC dI ca, List.forall_mem_cons.mpr ⟨jGk_103 dC dI ca, List.forall_mem_cons.mpr ⟨jGk_110 dC dI ca, List.forall_mem_cons.mpr ⟨jGk_111 dC dI ca, List.forall_mem_cons.mpr ⟨jGk_112 dC dI ca, fun _ h => absurd h List.not_mem_nil⟩⟩⟩⟩⟩⟩⟩⟩⟩⟩⟩⟩
def jBk2 (dC : Nat → ClassId) (dI : Nat → Nat → Nat) (ca : Nat → ClassId) : List (Nat × jPk) := [(117, fun n G a H => jAr (dC, dI) (ca 1) (fun j z => True) n a H), (118, fun n G a H => jAr (dC, dI) (ca 1) (fun j z => -1 ≤ z.toInt ∧ z.toInt ≤ 3099) n a H), (119, fun n G a H => jAr (dC, dI) (ca 1) (fun j z => z.toInt = -1 ∨ z.toInt = 0 ∨ ((j : Nat) < z.toInt ∧ z.toInt ≤ 3099)) n a H), (120, fun n G a H => jAr (dC, dI) (ca 1) (fun j z => 0 ≤ z.toInt ∧ z.toInt ≤ 3300) n a H), (121, fun n G a H => jAr (dC, dI) (ca 1) (fun j z => 0 ≤ z.toInt ∧ z.toInt ≤ 3300) n a H), (122, fun n G a H => jAr (dC, dI) (ca 1) (fun j z => 0 ≤ z.toInt ∧ z.toInt ≤ 3100) n a H), (123, fun n G a H => jAr (dC, dI) (ca 1) (fun j z => 0 ≤ z.toInt ∧ z.toInt ≤ 3100) n a H), (124, fun n G a H => jAr (dC, dI) (ca 3) (fun j z => (z = 0 ∨ z = 1)) n a H), (125, fun n G a H => jAr (dC, dI) (ca 1) (fun j z => True) n a H), (127, fun n G a H => jAr (dC, dI) (ca 1) (fun j z => True) n a H), (132, fun n G a H => jAr (dC, dI) (ca 1) (fun j z => 0 ≤ z.toInt ∧ z.toInt ≤ 10) n a H), (133, fun n G a H => jAr (dC, dI) (ca 1) (fun j z => 0 ≤ z.toInt ∧ z.toInt ≤ 8192) n a H)]
theorem jBg2 (dC : Nat → ClassId) (dI : Nat → Nat → Nat) (ca : Nat → ClassId) : ∀ q ∈ jBk2 dC dI ca, jGo q.2 := List.forall_mem_cons.mpr ⟨jGk_117 dC dI ca, List.forall_mem_cons.mpr ⟨jGk_118 dC dI ca, List.forall_mem_cons.mpr ⟨jGk_119 dC dI ca, List.forall_mem_cons.mpr ⟨jGk_120 dC dI ca, List.forall_mem_cons.mpr ⟨jGk_121 dC dI ca, List.forall_mem_cons.mpr ⟨jGk_122 dC dI ca, List.forall_mem_cons.mpr ⟨jGk_123 dC dI ca, List.forall_mem_cons.mpr ⟨jGk_124 dC dI ca, List.forall_mem_cons.mpr ⟨jGk_125 dC dI ca, List.forall_mem_cons.mpr ⟨jGk_127 dC dI ca, List.forall_mem_cons.mpr ⟨jGk_132 dC dI ca, List.forall_mem_cons.mpr ⟨jGk_133 dC dI ca, fun _ h => absurd h List.not_mem_nil⟩⟩⟩⟩⟩⟩⟩⟩⟩⟩⟩⟩
def jBk3 (dC : Nat → ClassId) (dI : Nat → Nat → Nat) (ca : Nat → ClassId) : List (Nat × jPk) := [(140, fun n G a H => jAr (dC, dI) (ca 1) (fun j z => True) n a H), (141, fun n G a H => jAr (dC, dI) (ca 1) (fun j z => True) n a H), (142, fun n G a H => jAr (dC, dI) (ca 1) (fun j z => True) n a H), (143, fun n G a H => jAr (dC, dI) (ca 1) (fun j z => True) n a H), (144, fun n G a H => jAr (dC, dI) (ca 1) (fun j z => 0 ≤ z.toInt ∧ z.toInt ≤ 3000) n a H), (145, fun n G a H => jAr (dC, dI) (ca 1) (fun j z => True) n a H), (146, fun n G a H => jAr (dC, dI) (ca 1) (fun j z => True) n a H), (150, fun n G a H => jAr (dC, dI) (ca 1) (fun j z => True) n a H), (151, fun n G a H => jAr (dC, dI) (ca 1) (fun j z => True) n a H), (152, fun n G a H => jAr (dC, dI) (ca 1) (fun j z => True) n a H), (153, fun n G a H => jAr (dC, dI) (ca 1) (fun j z => True) n a H), (154, fun n G a H => jAr (dC, dI) (ca 1) (fun j z => True) n a H)]
theorem jBg3 (dC : Nat → ClassId) (dI : Nat → Nat → Nat) (ca : Nat → ClassId) : ∀ q ∈ jBk3 dC dI ca, jGo q.2 := List.forall_mem_cons.mpr ⟨jGk_140 dC dI ca, List.forall_mem_cons.mpr ⟨jGk_141 dC dI ca, List.forall_mem_cons.mpr ⟨jGk_142 dC dI ca, List.forall_mem_cons.mpr ⟨jGk_143 dC dI ca, List.forall_mem_cons.mpr ⟨jGk_144 dC dI ca, List.forall_mem_cons.mpr ⟨jGk_145 dC dI ca, List.forall_mem_cons.mpr ⟨jGk_146 dC dI ca, List.forall_mem_cons.mpr ⟨jGk_150 dC dI ca, List.forall_mem_cons.mpr ⟨jGk_151 dC dI ca, List.forall_mem_cons.mpr ⟨jGk_152 dC dI ca, List.forall_mem_cons.mpr ⟨jGk_153 dC dI ca, List.forall_mem_cons.mpr ⟨jGk_154 dC dI ca, fun _ h => absurd h List.not_mem_nil⟩⟩⟩⟩⟩⟩⟩⟩⟩⟩⟩⟩
def jBk4 (dC : Nat → ClassId) (dI : Nat → Nat → Nat) (ca : Nat → ClassId) : List (Nat × jPk) := [(155, fun n G a H => jAr (dC, dI) (ca 1) (fun j z => 0 ≤ z.toInt ∧ z.toInt ≤ 11990) n a H), (156, fun n G a H => jAr (dC, dI) (ca 1) (fun j z => 0 ≤ z.toInt ∧ z.toInt ≤ 10) n a H), (157, fun n G a H => jAr (dC, dI) (ca 1) (fun j z => 0 ≤ z.toInt ∧ z.toInt ≤ 1599) n a H), (158, fun n G a H => jAr (dC, dI) (ca 1) (fun j z => 0 ≤ z.toInt ∧ z.toInt ≤ 6) n a H), (159, fun n G a H => jAr (dC, dI) (ca 1) (fun j z => 0 ≤ z.toInt ∧ z.toInt ≤ 8) n a H), (160, fun n G a H => jAr (dC, dI) (ca 1) (fun j z => 0 ≤ z.toInt ∧ z.toInt ≤ 119999) n a H), (161, fun n G a H => jAr (dC, dI) (ca 1) (fun j z => 0 ≤ z.toInt ∧ z.toInt ≤ 119999) n a H), (162, fun n G a H => jAr (dC, dI) (ca 1) (fun j z => 0 ≤ z.toInt ∧ z.toInt ≤ 119999) n a H), (163, fun n G a H => jAr (dC, dI) (ca 1) (fun j z => 0 ≤ z.toInt ∧ z.toInt ≤ 1599) n a H), (164, fun n G a H => jAr (dC, dI) (ca 1) (fun j z => 0 ≤ z.toInt ∧ z.toInt ≤ 100000) n a H), (165, fun n G a H => jAr (dC, dI) (ca 1) (fun j z => 0 ≤ z.toInt ∧ z.toInt ≤ 3) n a H), (166, fun n G a H => jAr (dC, dI) (ca 1) (fun j z => True) n a H)]
theorem jBg4 (dC : Nat → ClassId) (dI : Nat → Nat → Nat) (ca : Nat → ClassId) : ∀ q ∈ jBk4 dC dI ca, jGo q.2 := List.forall_mem_cons.mpr ⟨jGk_155 dC dI ca, List.forall_mem_cons.mpr ⟨jGk_156 dC dI ca, List.forall_mem_cons.mpr ⟨jGk_157 dC dI ca, List.forall_mem_cons.mpr ⟨jGk_158 dC dI ca, List.forall_mem_cons.mpr ⟨jGk_159 dC dI ca, List.forall_mem_cons.mpr ⟨jGk_160 dC dI ca, List.forall_mem_cons.mpr ⟨jGk_161 dC dI ca, List.forall_mem_cons.mpr ⟨jGk_162 dC dI ca, List.forall_mem_cons.mpr ⟨jGk_163 dC dI ca, List.forall_mem_cons.mpr ⟨jGk_164 dC dI ca, List.forall_mem_cons.mpr ⟨jGk_165 dC dI ca, List.forall_mem_cons.mpr ⟨jGk_166 dC dI ca, fun _ h => absurd h List.not_mem_nil⟩⟩⟩⟩⟩⟩⟩⟩⟩⟩⟩⟩
def jBk5 (dC : Nat → ClassId) (dI : Nat → Nat → Nat) (ca : Nat → ClassId) : List (Nat × jPk) := [(167, fun n G a H => jAr (dC, dI) (ca 1) (fun j z => True) n a H), (168, fun n G a H => jAr (dC, dI) (ca 1) (fun j z => 0 ≤ z.toInt ∧ z.toInt ≤ 119999) n a H), (169, fun n G a H => jAr (dC, dI) (ca 1) (fun j z => True) n a H), (171, fun n G a H => jAr (dC, dI) (ca 1) (fun j z => 0 ≤ z.toInt ∧ z.toInt ≤ 1500) n a H), (172, fun n G a H => jAr (dC, dI) (ca 1) (fun j z => 0 ≤ z.toInt ∧ z.toInt ≤ 1500) n a H), (173, fun n G a H => jAr (dC, dI) (ca 1) (fun j z => True) n a H), (174, fun n G a H => jAr (dC, dI) (ca 1) (fun j z => True) n a H), (190, fun n G a H => jAr (dC, dI) (ca 1) (fun j z => 0 ≤ z.toInt ∧ z.toInt ≤ 1500) n a H), (191, fun n G a H => jAr (dC, dI) (ca 1) (fun j z => 0 ≤ z.toInt ∧ z.toInt ≤ 1500) n a H), (192, fun n G a H => jAr (dC, dI) (ca 1) (fun j z => 0 ≤ z.toInt ∧ z.toInt ≤ 2) n a H), (193, fun n G a H => jAr (dC, dI) (ca 1) (fun j z => True) n a H), (194, fun n G a H => jAr (dC, dI) (ca 1) (fun j z => True) n a H)]
theorem jBg5 (dC : Nat → ClassId) (dI : Nat → Nat → Nat) (ca : Nat → ClassId) : ∀ q ∈ jBk5 dC dI ca, jGo q.2 := List.forall_mem_cons.mpr ⟨jGk_167 dC dI ca, List.forall_mem_cons.mpr ⟨jGk_168 dC dI ca, List.forall_mem_cons.mpr ⟨jGk_169 dC dI ca, List.forall_mem_cons.mpr ⟨jGk_171 dC dI ca, List.forall_mem_cons.mpr ⟨jGk_172 dC dI ca, List.forall_mem_cons.mpr ⟨jGk_173 dC dI ca, List.forall_mem_cons.mpr ⟨jGk_174 dC dI ca, List.forall_mem_cons.mpr ⟨jGk_190 dC dI ca, List.forall_mem_cons.mpr ⟨jGk_191 dC dI ca, List.forall_mem_cons.mpr ⟨jGk_192 dC dI ca, List.forall_mem_cons.mpr ⟨jGk_193 dC dI ca, List.forall_mem_cons.mpr ⟨jGk_194 dC dI ca, fun _ h => absurd h List.not_mem_nil⟩⟩⟩⟩⟩⟩⟩⟩⟩⟩⟩⟩
def jBk6 (dC : Nat → ClassId) (dI : Nat → Nat → Nat) (ca : Nat → ClassId) : List (Nat × jPk) := [(195, fun n G a H => jAr (dC, dI) (ca 1) (fun j z => True) n a H), (196, fun n G a H => jAr (dC, dI) (ca 0) (fun j z => jBf j z) n a H), (197, fun n G a H => jAr (dC, dI) (ca 0) (fun j z => jBf j z) n a H), (198, fun n G a H => jAr (dC, dI) (ca 0) (fun j z => jBf j z) n a H), (201, fun n G a H => jAq (dC, dI) (ca 4) (jQs 14 0) n G a H), (202, fun n G a H => jAq (dC, dI) (ca 4) (jQn 14 0) n G a H), (203, fun n G a H => jAr (dC, dI) (ca 1) (fun j z => -3300 ≤ z.toInt ∧ z.toInt ≤ 20) n a H), (204, fun n G a H => jAr (dC, dI) (ca 1) (fun j z => -3100 ≤ z.toInt ∧ z.toInt ≤ 3100) n a H), (205, fun n G a H => jAr (dC, dI) (ca 1) (fun j z => 0 ≤ z.toInt ∧ z.toInt ≤ 1600) n a H), (206, fun n G a H => jAr (dC, dI) (ca 1) (fun j z => 0 ≤ z.toInt ∧ z.toInt ≤ 40) n a H), (207, fun n G a H => jAr (dC, dI) (ca 1) (fun j z => 0 ≤ z.toInt ∧ z.toInt ≤ 39) n a H), (208, fun n G a H => jAq (dC, dI) (ca 4) (jQn 14 0) n G a H)]
theorem jBg6 (dC : Nat → ClassId) (dI : Nat → Nat → Nat) (ca : Nat → ClassId) : ∀ q ∈ jBk6 dC dI ca, jGo q.2 := List.forall_mem_cons.mpr ⟨jGk_195 dC dI ca, List.forall_mem_cons.mpr ⟨jGk_196 dC dI ca, List.forall_mem_cons.mpr ⟨jGk_197 dC dI ca, List.forall_mem_cons.mpr ⟨jGk_198 dC dI ca, List.forall_mem_cons.mpr ⟨jGk_201 dC dI ca, List.forall_mem_cons.mpr ⟨jGk_202 dC dI ca, List.forall_mem_cons.mpr ⟨jGk_203 dC dI ca, List.forall_mem_cons.mpr ⟨jGk_204 dC dI ca, List.forall_mem_cons.mpr ⟨jGk_205 dC dI ca, List.forall_mem_cons.mpr ⟨jGk_206 dC dI ca, List.forall_mem_cons.mpr ⟨jGk_207 dC dI ca, List.forall_mem_cons.mpr ⟨jGk_208 dC dI ca, fun _ h => absurd h List.not_mem_nil⟩⟩⟩⟩⟩⟩⟩⟩⟩⟩⟩⟩
def jBk7 (dC : Nat → ClassId) (dI : Nat → Nat → Nat) (ca : Nat → ClassId) : List (Nat × jPk) := [(210, fun n G a H => jAq (dC, dI) (ca 6) (jQn 11 0) n G a H), (211, fun n G a H => jAq (dC, dI) (ca 7) (jQh) n G a H), (212, fun n G a H => jAq (dC, dI) (ca 5) (jQn 3 0) n G a H), (214, fun n G a H => jAq (dC, dI) (ca 7) (jQg) n G a H), (221, fun n G a H => jAq (dC, dI) (ca 9) (jQn 3 0) n G a H), (222, fun n G a H => jAq (dC, dI) (ca 9) (jQn 10 0) n G a H), (223, fun n G a H => jAq (dC, dI) (ca 9) (jQn 11 0) n G a H), (280, fun n G a H => jAr (dC, dI) (ca 1) (fun j z => -1 ≤ z.toInt) n a H), (286, fun n G a H => jAr (dC, dI) (ca 1) (fun j z => (0 ≤ z.toInt ∨ z.toInt = -3)) n a H), (287, fun n G a H => jAr (dC, dI) (ca 1) (fun j z => 0 ≤ z.toInt ∧ z.toInt ≤ 65535) n a H), (288, fun n G a H => jAr (dC, dI) (ca 1) (fun j z => 0 ≤ z.toInt ∧ z.toInt ≤ 160) n a H), (290, fun n G a H => jAr (dC, dI) (ca 1) (fun j z => 0 ≤ z.toInt ∧ z.toInt ≤ 3000) n a H)]
theorem jBg7 (dC : Nat → ClassId) (dI : Nat → Nat → Nat) (ca : Nat → ClassId) : ∀ q ∈ jBk7 dC dI ca, jGo q.2 := List.forall_mem_cons.mpr ⟨jGk_210 dC dI ca, List.forall_mem_cons.mpr ⟨jGk_211 dC dI ca, List.forall_mem_cons.mpr ⟨jGk_212 dC dI ca, List.forall_mem_cons.mpr ⟨jGk_214 dC dI ca, List.forall_mem_cons.mpr ⟨jGk_221 dC dI ca, List.forall_mem_cons.mpr ⟨jGk_222 dC dI ca, List.forall_mem_cons.mpr ⟨jGk_223 dC dI ca, List.forall_mem_cons.mpr ⟨jGk_280 dC dI ca, List.forall_mem_cons.mpr ⟨jGk_286 dC dI ca, List.forall_mem_cons.mpr ⟨jGk_287 dC dI ca, List.forall_mem_cons.mpr ⟨jGk_288 dC dI ca, List.forall_mem_cons.mpr ⟨jGk_290 dC dI ca, fun _ h => absurd h List.not_mem_nil⟩⟩⟩⟩⟩⟩⟩⟩⟩⟩⟩⟩
def jBk8 (dC : Nat → ClassId) (dI : Nat → Nat → Nat) (ca : Nat → ClassId) : List (Nat × jPk) := [(291, fun n G a H => jAr (dC, dI) (ca 1) (fun j z => 0 ≤ z.toInt ∧ z.toInt ≤ 3000) n a H), (292, fun n G a H => jAr (dC, dI) (ca 1) (fun j z => 0 ≤ z.toInt ∧ z.toInt ≤ 8191) n a H), (293, fun n G a H => jAr (dC, dI) (ca 1) (fun j z => -1 ≤ z.toInt ∧ z.toInt ≤ 8191) n a H), (313, fun n G a H => jAq (dC, dI) (ca 8) (jQk 280 80) n G a H), (315, fun n G a H => jAqZ (dC, dI) (ca 8) n a H)]
theorem jBg8 (dC : Nat → ClassId) (dI : Nat → Nat → Nat) (ca : Nat → ClassId) : ∀ q ∈ jBk8 dC dI ca, jGo q.2 := List.forall_mem_cons.mpr ⟨jGk_291 dC dI ca, List.forall_mem_cons.mpr ⟨jGk_292 dC dI ca, List.forall_mem_cons.mpr ⟨jGk_293 dC dI ca, List.forall_mem_cons.mpr ⟨jGk_313 dC dI ca, List.forall_mem_cons.mpr ⟨jGk_315 dC dI ca, fun _ h => absurd h List.not_mem_nil⟩⟩⟩⟩⟩
def jBk (dC : Nat → ClassId) (dI : Nat → Nat → Nat) (ca : Nat → ClassId) : List (Nat × jPk) := jBk0 dC dI ca ++ (jBk1 dC dI ca ++ (jBk2 dC dI ca ++ (jBk3 dC dI ca ++ (jBk4 dC dI ca ++ (jBk5 dC dI ca ++ (jBk6 dC dI ca ++ (jBk7 dC dI ca ++ (jBk8 dC dI ca))))))))
theorem jBg (dC : Nat → ClassId) (dI : Nat → Nat → Nat) (ca : Nat → ClassId) : ∀ q ∈ jBk dC dI ca, jGo q.2 := List.forall_mem_append.mpr ⟨jBg0 dC dI ca, List.forall_mem_append.mpr ⟨jBg1 dC dI ca, List.forall_mem_append.mpr ⟨jBg2 dC dI ca, List.forall_mem_append.mpr ⟨jBg3 dC dI ca, List.forall_mem_append.mpr ⟨jBg4 dC dI ca, List.forall_mem_append.mpr ⟨jBg5 dC dI ca, List.forall_mem_append.mpr ⟨jBg6 dC dI ca, List.forall_mem_append.mpr ⟨jBg7 dC dI ca, jBg8 dC dI ca⟩⟩⟩⟩⟩⟩⟩⟩
def jBB (dC : Nat → ClassId) (dI : Nat → Nat → Nat) (ca : Nat → ClassId) : jF := fun k n G a H => jLk (jBk dC dI ca) k n G a H
theorem jBB.ok (dC : Nat → ClassId) (dI : Nat → Nat → Nat) (ca : Nat → ClassId) : jBok (jBB dC dI ca) := ⟨fun k n G a H H1 h => (jLk.good _ (jBg dC dI ca) k).1 n G a H H1 (h a jSup.root), fun k n G G1 a H => (jLk.good _ (jBg dC dI ca) k).2 n G G1 a H⟩
end
section
-- the documents of the reference while it is made
section J45
variable {dC : Nat → ClassId} {dI : Nat → Nat → Nat} {ca : Nat → ClassId} {G G1 : jT} {H : Heap}
theorem jDZa.typ {r yb ye : Nat} (h : jDZa dC dI G H) (hn : ∀ t, G r ≠ some t) (h5 : jf (dC, dI) 14 r 5 (.int 0) H) (h9 : jf (dC, dI) 14 r 9 (.int 0) H) (h6 : jf (dC, dI) 14 r 6 (.ref yb) H) (h7 : jf (dC, dI) 14 r 7 (.ref ye) H) (hb : G yb = some (190, 40)) (he : G ye = some (191, 40))
    (hd : ∀ a, G a = some (14, 0) → ∀ y, (jf (dC, dI) 14 a 6 (.ref y) H → y ≠ yb) ∧ (jf (dC, dI) 14 a 7 (.ref y) H → y ≠ ye)) : jDZa dC dI (va_up G r (some (14, 0))) H := by
  have hle : jLe G (va_up G r (some (14, 0))) := jLe.typ hn
  obtain ⟨Yb, Ye, g1, g2, g3, g4⟩ := h
  have key : ∀ a, va_up G r (some (14, 0)) a = some (14, 0) → a = r ∨ (a ≠ r ∧ G a = some (14, 0)) := fun a ha => by
    by_cases e : a = r
    · exact Or.inl e
    · rw [va_up_ne _ _ e] at ha
      exact Or.inr ⟨e, ha⟩
  refine ⟨fun b => if b = r then yb else Yb b, fun b => if b = r then ye else Ye b, fun a ha => ?_, fun a b ha hb1 e => ?_, fun a b ha hb1 e => ?_, fun a ha => ?_⟩
  · rcases key a ha with rfl | ⟨ne, ha1⟩
    · simp only [if_pos]
      exact ⟨h6, h7, hle _ _ hb, hle _ _ he⟩
    · obtain ⟨q1, q2, q3, q4⟩ := g1 a ha1
      simp only [if_neg ne]
      exact ⟨q1, q2, hle _ _ q3, hle _ _ q4⟩
  · rcases key a ha with rfl | ⟨ne, ha1⟩
    · rcases key b hb1 with rfl | ⟨ne', hb2⟩
      · rfl
      · simp only [if_pos, if_neg ne'] at e
        exact absurd e.symm (((hd b hb2 (Yb b)).1) (g1 b hb2).1)
    · rcases key b hb1 with rfl | ⟨ne', hb2⟩
      · simp only [if_pos, if_neg ne] at e
        exact absurd e (((hd a ha1 (Yb a)).1) (g1 a ha1).1)
      · simp only [if_neg ne, if_neg ne'] at e
        exact g2 a b ha1 hb2 e
  · rcases key a ha with rfl | ⟨ne, ha1⟩
    · rcases key b hb1 with rfl | ⟨ne', hb2⟩
      · rfl
      · simp only [if_pos, if_neg ne'] at e
        exact absurd e.symm (((hd b hb2 (Ye b)).2) (g1 b hb2).2.1)
    · rcases key b hb1 with rfl | ⟨ne', hb2⟩
      · simp only [if_pos, if_neg ne] at e
        exact absurd e (((hd a ha1 (Ye a)).2) (g1 a ha1).2.1)
      · simp only [if_neg ne, if_neg ne'] at e
        exact g3 a b ha1 hb2 e
  · rcases key a ha with rfl | ⟨ne, ha1⟩
    · exact ⟨h5, h9⟩
    · exact g4 a ha1
theorem jDZa.fresh {G0 : jT} {H0 : Heap} {r yb ye : Nat} (h : jDZa dC dI G0 H0) (hab : ∀ a t, G0 a = some t → a < H0.size) (hr : ∀ t, G0 r ≠ some t) (hn : jN14 G0 G) (hk : jKx r G0 G H0 H) (hb : H0.size ≤ yb) (he : H0.size ≤ ye) : ∀ a, G a = some (14, 0) → ∀ y, (jf (dC, dI) 14 a 6 (.ref y) H → y ≠ yb) ∧ (jf (dC, dI) 14 a 7 (.ref y) H → y ≠ ye) := fun a ha y => by
  have h0 := hn a ha
  obtain ⟨Yb, Ye, h1, -⟩ := h
  obtain ⟨q1, q2, q3, q4⟩ := h1 a h0
  have c : H[a]? = H0[a]? := hk.1 a (hab _ _ h0) (fun e => hr _ (by rw [← e]; exact h0))
  have l1 := hab _ _ q3
  have l2 := hab _ _ q4
  refine ⟨fun g => ?_, fun g => ?_⟩
  · have e := jf.uniq g (q1.kept c)
    cases e
    exact Nat.ne_of_lt (Nat.lt_of_lt_of_le l1 hb)
  · have e := jf.uniq g (q2.kept c)
    cases e
    exact Nat.ne_of_lt (Nat.lt_of_lt_of_le l2 he)
theorem jDZa.dy {B : jF} {base : Nat} {P Q : Nat → Int32 → Prop} (h : jDZa dC dI G H) (hX : jX B base G [] H) (hb : ∀ n G a H, B 190 n G a H ↔ jAr (dC, dI) (ca 1) P n a H) (he : ∀ n G a H, B 191 n G a H ↔ jAr (dC, dI) (ca 1) Q n a H) : jDY dC dI ca G none (fun _ => 0) H := by
  obtain ⟨Yb, Ye, h1, h2, h3, h4⟩ := h
  refine ⟨Yb, Ye, h1, h2, h3, fun a ha _ => ?_⟩
  obtain ⟨g1, g2, g3, g4⟩ := h1 a ha
  obtain ⟨fb, b1, -⟩ := (hb _ _ _ _).mp (hX.1 _ _ _ g3 (by decide) (fun q => by cases q))
  obtain ⟨fe, e1, -⟩ := (he _ _ _ _).mp (hX.1 _ _ _ g4 (by decide) (fun q => by cases q))
  have hsr : jSrt fb fe ((0 : Int32)).toInt 1500 := by
    rw [show (0 : Int32).toInt = 0 by decide]
    exact jSrt.nil _ _ _
  refine ⟨fb, fe, g3, g4, fun q hq => ?_, fun q hq => ?_, hsr, (by show (0 : Int) ≤ (0 : Int32).toInt; decide), (by show (0 : Int32).toInt ≤ 40; decide)⟩
  · simp only [List.mem_cons, List.not_mem_nil, or_false] at hq
    rcases hq with rfl | rfl | rfl
    · exact ⟨⟨_, ha⟩, g1⟩
    · exact ⟨⟨_, ha⟩, g2⟩
    · exact ⟨⟨_, ha⟩, (h4 a ha).1⟩
  · simp only [List.mem_cons, List.not_mem_nil, or_false] at hq
    rcases hq with rfl | rfl
    · exact ⟨g3, (by show (17 : Nat) ≤ 190; decide), (by show (190 : Nat) < 1000; decide), b1⟩
    · exact ⟨g4, (by show (17 : Nat) ≤ 191; decide), (by show (191 : Nat) < 1000; decide), e1⟩
theorem jDZa.vl (h : jDZa dC dI G H) : jVl dC dI G 9 (fun _ => 0) H := by
  obtain ⟨Yb, Ye, h1, h2, h3, h4⟩ := h
  exact fun a ha => (h4 a ha).2
theorem jRZ.typ {r yb ye : Nat} (h : jRZ dC dI G H) (hn : ∀ t, G r ≠ some t) (h11 : jf (dC, dI) 14 r 1 (.int 0) H) (h12 : jf (dC, dI) 14 r 2 (.int 0) H) (h14 : jf (dC, dI) 14 r 4 (.int 0) H) (h6 : jf (dC, dI) 14 r 3 (.ref yb) H) (h7 : jf (dC, dI) 14 r 0 (.ref ye) H) (hb : G yb = some (194, 1500)) (he : G ye = some (195, 40))
    (hd : ∀ a, G a = some (14, 0) → ∀ y, (jf (dC, dI) 14 a 3 (.ref y) H → y ≠ yb) ∧ (jf (dC, dI) 14 a 0 (.ref y) H → y ≠ ye)) : jRZ dC dI (va_up G r (some (14, 0))) H := by
  have hle : jLe G (va_up G r (some (14, 0))) := jLe.typ hn
  obtain ⟨Yb, Ye, g1, g2, g3, g4⟩ := h
  have key : ∀ a, va_up G r (some (14, 0)) a = some (14, 0) → a = r ∨ (a ≠ r ∧ G a = some (14, 0)) := fun a ha => by
    by_cases e : a = r
    · exact Or.inl e
    · rw [va_up_ne _ _ e] at ha
      exact Or.inr ⟨e, ha⟩
  refine ⟨fun b => if b = r then yb else Yb b, fun b => if b = r then ye else Ye b, fun a ha => ?_, fun a b ha hb1 e => ?_, fun a b ha hb1 e => ?_, fun a ha => ?_⟩
  · rcases key a ha with rfl | ⟨ne, ha1⟩
    · simp only [if_pos]
      exact ⟨h6, h7, hle _ _ hb, hle _ _ he⟩
    · obtain ⟨q1, q2, q3, q4⟩ := g1 a ha1
      simp only [if_neg ne]
      exact ⟨q1, q2, hle _ _ q3, hle _ _ q4⟩
  · rcases key a ha with rfl | ⟨ne, ha1⟩
    · rcases key b hb1 with rfl | ⟨ne', hb2⟩
      · rfl
      · simp only [if_pos, if_neg ne'] at e
        exact absurd e.symm (((hd b hb2 (Yb b)).1) (g1 b hb2).1)
    · rcases key b hb1 with rfl | ⟨ne', hb2⟩
      · simp only [if_pos, if_neg ne] at e
        exact absurd e (((hd a ha1 (Yb a)).1) (g1 a ha1).1)
      · simp only [if_neg ne, if_neg ne'] at e
        exact g2 a b ha1 hb2 e
  · rcases key a ha with rfl | ⟨ne, ha1⟩
    · rcases key b hb1 with rfl | ⟨ne', hb2⟩
      · rfl
      · simp only [if_pos, if_neg ne'] at e
        exact absurd e.symm (((hd b hb2 (Ye b)).2) (g1 b hb2).2.1)
    · rcases key b hb1 with rfl | ⟨ne', hb2⟩
      · simp only [if_pos, if_neg ne] at e
        exact absurd e (((hd a ha1 (Ye a)).2) (g1 a ha1).2.1)
      · simp only [if_neg ne, if_neg ne'] at e
        exact g3 a b ha1 hb2 e
  · rcases key a ha with rfl | ⟨ne, ha1⟩
    · exact ⟨h11, h12, h14⟩
    · exact g4 a ha1
theorem jRZ.fresh {G0 : jT} {H0 : Heap} {r yb ye : Nat} (h : jRZ dC dI G0 H0) (hab : ∀ a t, G0 a = some t → a < H0.size) (hr : ∀ t, G0 r ≠ some t) (hn : jN14 G0 G) (hk : jKx r G0 G H0 H) (hb : H0.size ≤ yb) (he : H0.size ≤ ye) : ∀ a, G a = some (14, 0) → ∀ y, (jf (dC, dI) 14 a 3 (.ref y) H → y ≠ yb) ∧ (jf (dC, dI) 14 a 0 (.ref y) H → y ≠ ye) := fun a ha y => by
  have h0 := hn a ha
  obtain ⟨Yb, Ye, h1, -⟩ := h
  obtain ⟨q1, q2, q3, q4⟩ := h1 a h0
  have c : H[a]? = H0[a]? := hk.1 a (hab _ _ h0) (fun e => hr _ (by rw [← e]; exact h0))
  have l1 := hab _ _ q3
  have l2 := hab _ _ q4
  refine ⟨fun g => ?_, fun g => ?_⟩
  · have e := jf.uniq g (q1.kept c)
    cases e
    exact Nat.ne_of_lt (Nat.lt_of_lt_of_le l1 hb)
  · have e := jf.uniq g (q2.kept c)
    cases e
    exact Nat.ne_of_lt (Nat.lt_of_lt_of_le l2 he)
theorem jDZ.typ {r yb ye yt yu : Nat} (h : jDZ dC dI G H) (hn : ∀ t, G r ≠ some t) (h5 : jf (dC, dI) 14 r 5 (.int 0) H) (h9 : jf (dC, dI) 14 r 9 (.int 0) H) (h6 : jf (dC, dI) 14 r 6 (.ref yb) H) (h7 : jf (dC, dI) 14 r 7 (.ref ye) H) (hb : G yb = some (190, 40)) (he : G ye = some (191, 40))
    (hd : ∀ a, G a = some (14, 0) → ∀ y, (jf (dC, dI) 14 a 6 (.ref y) H → y ≠ yb) ∧ (jf (dC, dI) 14 a 7 (.ref y) H → y ≠ ye)) (h11 : jf (dC, dI) 14 r 1 (.int 0) H) (h12 : jf (dC, dI) 14 r 2 (.int 0) H) (h14 : jf (dC, dI) 14 r 4 (.int 0) H) (h3 : jf (dC, dI) 14 r 3 (.ref yt) H) (h0 : jf (dC, dI) 14 r 0 (.ref yu) H) (ht : G yt = some (194, 1500)) (hu : G yu = some (195, 40))
    (hd2 : ∀ a, G a = some (14, 0) → ∀ y, (jf (dC, dI) 14 a 3 (.ref y) H → y ≠ yt) ∧ (jf (dC, dI) 14 a 0 (.ref y) H → y ≠ yu)) : jDZ dC dI (va_up G r (some (14, 0))) H := ⟨h.1.typ hn h5 h9 h6 h7 hb he hd, h.2.typ hn h11 h12 h14 h3 h0 ht hu hd2⟩
theorem jDZ.fresh {G0 : jT} {H0 : Heap} {r yb ye : Nat} (h : jDZ dC dI G0 H0) (hab : ∀ a t, G0 a = some t → a < H0.size) (hr : ∀ t, G0 r ≠ some t) (hn : jN14 G0 G) (hk : jKx r G0 G H0 H) (hb : H0.size ≤ yb) (he : H0.size ≤ ye) : ∀ a, G a = some (14, 0) → ∀ y, (jf (dC, dI) 14 a 6 (.ref y) H → y ≠ yb) ∧ (jf (dC, dI) 14 a 7 (.ref y) H → y ≠ ye) := h.1.fresh hab hr hn hk hb he
theorem jDZ.frest {G0 : jT} {H0 : Heap} {r yb ye : Nat} (h : jDZ dC dI G0 H0) (hab : ∀ a t, G0 a = some t → a < H0.size) (hr : ∀ t, G0 r ≠ some t) (hn : jN14 G0 G) (hk : jKx r G0 G H0 H) (hb : H0.size ≤ yb) (he : H0.size ≤ ye) : ∀ a, G a = some (14, 0) → ∀ y, (jf (dC, dI) 14 a 3 (.ref y) H → y ≠ yb) ∧ (jf (dC, dI) 14 a 0 (.ref y) H → y ≠ ye) := h.2.fresh hab hr hn hk hb he
theorem jDZ.dy {B : jF} {base : Nat} {P Q : Nat → Int32 → Prop} (h : jDZ dC dI G H) (hX : jX B base G [] H) (hb : ∀ n G a H, B 190 n G a H ↔ jAr (dC, dI) (ca 1) P n a H) (he : ∀ n G a H, B 191 n G a H ↔ jAr (dC, dI) (ca 1) Q n a H) : jDY dC dI ca G none (fun _ => 0) H := h.1.dy hX hb he
theorem jDZ.vl (h : jDZ dC dI G H) : jVl dC dI G 9 (fun _ => 0) H := h.1.vl
theorem jDZ.rd {B : jF} {base : Nat} {P Q : Nat → Int32 → Prop} (h : jDZ dC dI G H) (hX : jX B base G [] H) (hb : ∀ n G a H, B 194 n G a H ↔ jAr (dC, dI) (ca 1) P n a H) (he : ∀ n G a H, B 195 n G a H ↔ jAr (dC, dI) (ca 1) Q n a H) : ∃ t : jDtr, jRD dC dI ca G none t H ∧ ∀ a, t.ln a = 0 ∧ t.ul a = 0 := by
  obtain ⟨Yt, Yu, h1, h2, h3, h4⟩ := h.2
  have key : ∀ a, ∃ p : (Nat → Int32) × (Nat → Int32), G a = some (14, 0) → va_at (dC, dI) vwCl (Yt a, .inl (ca 1, 1500, .inl p.1)) H ∧ va_at (dC, dI) vwCl (Yu a, .inl (ca 1, 40, .inl p.2)) H := fun a => by
    by_cases ha : G a = some (14, 0)
    · obtain ⟨g1, g2, g3, g4⟩ := h1 a ha
      obtain ⟨ft, b1, -⟩ := (hb _ _ _ _).mp (hX.1 _ _ _ g3 (by decide) (fun q => by cases q))
      obtain ⟨fu, e1, -⟩ := (he _ _ _ _).mp (hX.1 _ _ _ g4 (by decide) (fun q => by cases q))
      exact ⟨(ft, fu), fun _ => ⟨b1, e1⟩⟩
    · exact ⟨(fun _ => 0, fun _ => 0), fun q => absurd q ha⟩
  refine ⟨(fun _ => 0, fun _ => 0, fun a => (Classical.choose (key a)).1, fun _ => 0, fun a => (Classical.choose (key a)).2), ⟨Yt, Yu, h1, h2, h3, fun a ha _ => ⟨fun q hq => ?_, fun q hq => ?_⟩⟩, fun a => ⟨rfl, rfl⟩⟩
  · obtain ⟨g1, g2, g3⟩ := h4 a ha
    simp only [List.mem_cons, List.not_mem_nil, or_false] at hq
    rcases hq with rfl | rfl | rfl
    · exact ⟨⟨_, ha⟩, g2⟩
    · exact ⟨⟨_, ha⟩, g3⟩
    · exact ⟨⟨_, ha⟩, g1⟩
  · obtain ⟨g1, g2, g3, g4⟩ := h1 a ha
    have gk := Classical.choose_spec (key a) ha
    simp only [List.mem_cons, List.not_mem_nil, or_false] at hq
    rcases hq with rfl | rfl
    · exact ⟨g3, (by show (17 : Nat) ≤ 194; decide), (by show (194 : Nat) < 1000; decide), gk.1⟩
    · exact ⟨g4, (by show (17 : Nat) ≤ 195; decide), (by show (195 : Nat) < 1000; decide), gk.2⟩
theorem jQs3 {G1 : jT} {k n a b c : Nat} (hle : jLe G G1) (ha : G a = some (k, n)) (hb : G b = some (k, n)) (hc : G c = some (k, n)) : ∀ j, j < 3 → jQs k n G1 (va_up (va_up (va_up (fun _ => none) 0 (some a)) 1 (some b)) 2 (some c) j) := fun j hj => by
  rcases (by omega : j = 0 ∨ j = 1 ∨ j = 2) with rfl | rfl | rfl
  · exact ⟨a, by simp [va_up], hle _ _ ha⟩
  · exact ⟨b, by simp [va_up], hle _ _ hb⟩
  · exact ⟨c, by simp [va_up], hle _ _ hc⟩
/-- what the reference's constructor leaves of its documents and of its JSON -/
def jRo (dC : Nat → ClassId) (dI : Nat → Nat → Nat) (ca : Nat → ClassId) (G : jT) (r : Nat) (H : Heap) : Prop := ∃ dd co cs ol nw td xb xe : Nat, G dd = some (201, 3) ∧ G co = some (208, 2) ∧ G cs = some (207, 2) ∧ G ol = some (14, 0) ∧ G nw = some (14, 0) ∧ G td = some (14, 0) ∧ G xb = some (122, 3100) ∧ G xe = some (123, 3100) ∧ jDV dC dI ca G r dd co cs ol nw td H ∧ jP (dC, dI) G H [(r, 16, 22, .ref xb), (r, 16, 23, .ref xe)] ∧ jIs (dC, dI) G H [(jFt, jFT dC dI ca G xb xe)]
end J45
end
section
-- the row 'next' of the reference's JSON: once a value was made, the first one has none behind it
theorem jNrU {G : jT} {a b : Nat} {t : Option (Nat × Nat)} (hn : ∀ t, G a ≠ some t) (hne : a ≠ b) : ∀ u, va_up G b t a ≠ some u := fun u e => hn u (by rw [← e]; simp [va_up, hne])
end
section
def EX12_initE : List (Nat × Nat) := []
set_option maxHeartbeats 4000000 in
set_option maxRecDepth 20000 in
theorem uX12_initE (l : Launch) (dC : Nat → ClassId) (dI : Nat → Nat → Nat) (ca : Nat → ClassId) (base : Nat) (B : jF) (hB : jBok B) (hAp : jAp (dC, dI)) (hB14 : ∀ n G a H, B 14 n G a H ↔ jOb (dC, dI) 14 11 (F14 n G) a H) (hB190 : ∀ n G a H, B 190 n G a H ↔ jAr (dC, dI) (ca 1) (fun j z => 0 ≤ z.toInt ∧ z.toInt ≤ 1500) n a H) (hB191 : ∀ n G a H, B 191 n G a H ↔ jAr (dC, dI) (ca 1) (fun j z => 0 ≤ z.toInt ∧ z.toInt ≤ 1500) n a H) (hB192 : ∀ n G a H, B 192 n G a H ↔ jAr (dC, dI) (ca 1) (fun j z => 0 ≤ z.toInt ∧ z.toInt ≤ 2) n a H) (hB193 : ∀ n G a H, B 193 n G a H ↔ jAr (dC, dI) (ca 1) (fun j z => True) n a H) (hB194 : ∀ n G a H, B 194 n G a H ↔ jAr (dC, dI) (ca 1) (fun j z => True) n a H) (hB195 : ∀ n G a H, B 195 n G a H ↔ jAr (dC, dI) (ca 1) (fun j z => True) n a H) (G0 : jT) (H0 : Heap) (r0 : Nat) (LC LS : Nat) : Met l yX12_init (jw yX12_init cX12_init 1 none) ({ frames := 1, cells := LC - H0.size, slots := LS - jTot H0, locals := 31 }) (va_Pc [.ref r0] (fun U => U.heap = H0 ∧ jX B base G0 [] H0 ∧ jG dC dI ca base U ∧ va_at (dC, dI) vwCl (r0, .inr (14, [.null, .int 0, .int 0, .null, .int 0, .int 0, .null, .null, .null, .int 0, .null])) H0 ∧ (∀ t, G0 r0 ≠ some t) ∧ base ≤ r0 ∧ jP (dC, dI) G0 H0 [] ∧ jIs (dC, dI) G0 H0 [(jFz9, jDZ dC dI G0)] ∧ H0.size + 6 ≤ LC ∧ jTot H0 + 1700 ≤ LS ∧ True)) (va_Qv (S := jT) (fun u => True) (fun u t => jRa (dC, dI) B base G0 u EX12_initE H0 (6) (1700) [] t.heap ∧ (jNk [0, 1, 2, 3, 4, 5, 6, 7, 8, 9, 10, 11, 12, 13, 15, 16]) G0 u ∧ u r0 = some (14, 0) ∧ jKx r0 G0 u H0 t.heap ∧ jIs (dC, dI) u t.heap [(jFz9, jDZ dC dI u)]) (jA base)) (LC - H0.size) (LS - jTot H0) (jA base) := by
  refine Met.ofW (cc := cX12_init) (maxL := 1) (ret := none) (by decide) rfl ?_
  intro p e s m args below meth c s₁ Bd hml hv
  obtain ⟨rfl, hH0, hX, hG, hraw0, hnr0, hbr0, hP0, hI0, hLC0, hLS0, hp0⟩ := hv
  have hK := hG.1
  have hx := Bd.exec
  have hb := Bd.bytes
  have hr := Bd.returns
  have hts := atoms_spec (ws := (jw yX12_init cX12_init 1 none)) Bd.pre
  have htw : ∀ w ∈ jWl, w.before _ s = true := fun w h => hts w (List.mem_cons_of_mem _ h)
  have hown : s.vm.findClass RX12 = some m.cls := findClass_of_methodNamed Bd.named
  have hlocks := Bd.notSynchronized
  obtain ⟨Q, hQ⟩ : ∃ Q, Q = MQ below (va_Qv (S := jT) (fun u => True) (fun u t => jRa (dC, dI) B base G0 u EX12_initE H0 (6) (1700) [] t.heap ∧ (jNk [0, 1, 2, 3, 4, 5, 6, 7, 8, 9, 10, 11, 12, 13, 15, 16]) G0 u ∧ u r0 = some (14, 0) ∧ jKx r0 G0 u H0 t.heap ∧ jIs (dC, dI) u t.heap [(jFz9, jDZ dC dI u)]) (jA base)) ([.ref r0] : List Value).toArray s (LC - H0.size) (LS - jTot H0) (jA base) := ⟨_, rfl⟩
  rw [← hQ]
  have hl := lv_entry ([.ref r0]) (n := 1) (Nat.le_of_ble_eq_true rfl)
  rw [lg_entry_eq]
  generalize (lg_sl ([.ref r0]) ++ List.replicate (1 - (lg_sl ([.ref r0])).length) Slot.unset).toArray = ls at hl ⊢
  have hl : lv_has ls 1 [(0, .ref r0)] := hl
  generalize hR : (headSpec (jw yX12_init cX12_init 1 none) ({ frames := 1, cells := LC - H0.size, slots := LS - jTot H0, locals := 31 })).room = R
  subst hH0
  have hh : jSt (dC, dI) B base G0 G0 EX12_initE s.heap 0 0 [] [] [(jFz9, jDZ dC dI G0)] s.heap [] := jSt.start hX hP0 jMc.nil hI0
  clear hX hP0
  have hk0 : (0 : Int32).toInt = 0 := by decide
  have hk1 : (1 : Int32).toInt = 1 := by decide
  have hk40 : (40 : Int32).toInt = 40 := by decide
  have hk1500 : (1500 : Int32).toInt = 1500 := by decide
  have hly_14_0 := htw (u_lay RX12 TX12 0) (jWc_wsX120 _ (u_in_lay (by decide)))
  have hly_14_3 := htw (u_lay RX12 TX12 3) (jWc_wsX120 _ (u_in_lay (by decide)))
  have hly_14_6 := htw (u_lay RX12 TX12 6) (jWc_wsX120 _ (u_in_lay (by decide)))
  have hly_14_7 := htw (u_lay RX12 TX12 7) (jWc_wsX120 _ (u_in_lay (by decide)))
  have hly_14_8 := htw (u_lay RX12 TX12 8) (jWc_wsX120 _ (u_in_lay (by decide)))
  have hly_14_10 := htw (u_lay RX12 TX12 10) (jWc_wsX120 _ (u_in_lay (by decide)))
  have hlk_9 := (htw (.fieldLink RX12 9 "ProofServerModel$Document" "uri" "[I") (jWr_13 _ (List.mem_of_getElem? (i := 23) rfl)))
  have hlk_15 := (htw (.fieldLink RX12 15 "ProofServerModel$Document" "text" "[I") (jWr_14 _ (List.mem_of_getElem? (i := 0) rfl)))
  have hlk_18 := (htw (.fieldLink RX12 18 "ProofServerModel$Document" "begin" "[I") (jWr_14 _ (List.mem_of_getElem? (i := 1) rfl)))
  have hlk_21 := (htw (.fieldLink RX12 21 "ProofServerModel$Document" "end" "[I") (jWr_14 _ (List.mem_of_getElem? (i := 2) rfl)))
  have hlk_24 := (htw (.fieldLink RX12 24 "ProofServerModel$Document" "flaw" "[I") (jWr_14 _ (List.mem_of_getElem? (i := 3) rfl)))
  have hlk_27 := (htw (.fieldLink RX12 27 "ProofServerModel$Document" "fault" "[I") (jWr_14 _ (List.mem_of_getElem? (i := 4) rfl)))
  have hbs : base ≤ s.heap.size := Nat.le_of_lt (Nat.lt_of_le_of_lt hbr0 hraw0.lt)
  have hRc : R.cells = LC - s.heap.size := by rw [← hR]; rfl
  have hRs : R.slots = LS - jTot s.heap := by rw [← hR]; rfl
  have hE0 := hh.iv 0 rfl
  have hab0 : ∀ {a : Nat} {t : Nat × Nat}, G0 a = some t → a < s.heap.size := fun ht => (hh.ab ht).2
  have hin2 : meth.name = "<init>" := (name_of_methodNamed Bd.named Bd.method).1
  have hkp : jKx r0 G0 G0 s.heap s.heap := jKx.rf
  refine lv_aload_n hx hb dX12_init_0 rfl (lv_at hl 0 rfl) ?_
  refine W.objInit hx hb hown (htw (.methodLink RX12 3 objectInit) (jWr_13 _ (List.mem_of_getElem? (i := 22) rfl))) (htw (.instanceMethod objectInit) (jWr_1 _ (List.mem_of_getElem? (i := 10) rfl))) (htw (.code objectInit ⟨#[0xb1]⟩ 1 none) (jWr_1 _ (List.mem_of_getElem? (i := 11) rfl))) rfl (by rw [hml]; exact hl.1) rfl dX12_init_1 (by rw [← hR]; exact Nat.le_of_ble_eq_true rfl) (by rw [← hR]; exact Nat.le_of_ble_eq_true rfl) ?_
  refine W.eq (g2 := F0 m 4 ls []) rfl ?_
  refine lv_aload_n hx hb dX12_init_4 rfl (lv_at hl 0 rfl) ?_
  refine lv_bipush (v := 40) hx hb dX12_init_5 (by decide) ?_
  have hsz_1 := hh.2.2.2.2.2.1
  have htt_1 := hh.2.2.2.2.2.2.1
  refine j7_newiK hx hb hK hh hB (atype := .int) (ty := .int) (htw (.arrayClass .int) (jWr_3 _ (List.mem_of_getElem? (i := 20) rfl))) rfl rfl (fun _ h => h) hB195 1 rfl (by decide) (by decide) hbs (x := 40) (by decide) (by omega) (fun j => by first | trivial | decide | rfl | exact Or.inl rfl | exact Or.inr (Or.inl (by decide)) | (refine ⟨?_, ?_⟩ <;> decide)) (by rw [hRc]; omega) (by rw [hRs]; omega) dX12_init_7 (fun H_1 hfr_1 hh_1 => ?_)
  have hh_1 : jSt (dC, dI) B base G0 (va_up G0 s.heap.size (some (195, 40))) EX12_initE s.heap (0 + 1) (0 + 40) [] [] [(jFz9, jDZ dC dI G0)] H_1 [] := hh_1
  have hZ_1 : jN14 G0 (va_up G0 s.heap.size (some (195, 40))) := jN14.new (by decide)
  have hN_1 : (jNk [0, 1, 2, 3, 4, 5, 6, 7, 8, 9, 10, 11, 12, 13, 15, 16]) G0 (va_up G0 s.heap.size (some (195, 40))) := jNk.new (by decide)
  have hgn_1 : (va_up G0 s.heap.size (some (195, 40))) s.heap.size = some (195, 40) := jUp_self
  have hle_1 : jLe G0 (va_up G0 s.heap.size (some (195, 40))) := jLe.new hh.2.1.fresh
  have hke_1 : jKe G0 (va_up G0 s.heap.size (some (195, 40))) s.heap H_1 := jKe.new hfr_1
  have hsy_1 : s.heap.size ≤ s.heap.size := hh.1.1
  generalize (va_up G0 s.heap.size (some (195, 40))) = G_1 at hN_1 hgn_1 hle_1 hke_1 hh_1 hZ_1
  clear hh
  have hNn_1 : (jNk [0, 1, 2, 3, 4, 5, 6, 7, 8, 9, 10, 11, 12, 13, 15, 16]) G0 G_1 := (jNk.rf).tr hN_1
  have hkp_2 := hkp.tr hke_1
  have hraw_3n := hke_1.nr hraw0.lt hnr0
  have hraw_3 := hraw0.kept (hke_1.1 _ hraw0.lt)
  try have hz14_1 : jN14 G0 G_1 := (jN14.rf).tr hZ_1
  have hd_4 := jDZ.grow (hh_1.iv 0 rfl) hle_1 hZ_1
  have hh_5 := hh_1.sub (L1 := []) [] rfl (M1 := []) [] rfl (I1 := []) [] rfl
  clear hh_1
  have hh_6 := hh_5.addI (jDZ.ie hd_4)
  clear hh_5
  refine j7_putRF hx hb hown hK hh_6 hB hAp hraw_3 hraw_3n hbr0 (C := RX12) (T := TX12) (N := 11) rfl (i := 0) (by decide) (Nat.le_of_ble_eq_true rfl) hly_14_0 rfl hin2 rfl hlk_9 (ty := (.array .int)) (v := .ref s.heap.size) (by decide +kernel) rfl rfl dX12_init_9 (fun H_7 locs_7 hraw_7 hr_7 hh_7 => ?_)
  have hraw_7 : va_at (dC, dI) vwCl (r0, .inr (14, [.ref s.heap.size, .int 0, .int 0, .null, .int 0, .int 0, .null, .null, .null, .int 0, .null])) H_7 := hraw_7
  have hkp_8 := hkp_2.put hr_7
  clear hh_6
  refine lv_aload_n hx hb dX12_init_12 rfl (lv_at hl 0 rfl) ?_
  refine lv_sipush (v := 1500) hx hb dX12_init_13 (by decide) ?_
  have hsz_9 := hh_7.2.2.2.2.2.1
  have htt_9 := hh_7.2.2.2.2.2.2.1
  refine j7_newiK hx hb hK hh_7 hB (atype := .int) (ty := .int) (htw (.arrayClass .int) (jWr_3 _ (List.mem_of_getElem? (i := 20) rfl))) rfl rfl (fun _ h => h) hB194 1 rfl (by decide) (by decide) hbs (x := 1500) (by decide) (by omega) (fun j => by first | trivial | decide | rfl | exact Or.inl rfl | exact Or.inr (Or.inl (by decide)) | (refine ⟨?_, ?_⟩ <;> decide)) (by rw [hRc]; omega) (by rw [hRs]; omega) dX12_init_16 (fun H_9 hfr_9 hh_9 => ?_)
  have hh_9 : jSt (dC, dI) B base G0 (va_up G_1 H_7.size (some (194, 1500))) EX12_initE s.heap ((0 + 1) + 1) ((0 + 40) + 1500) [] [] [(jFz9, jDZ dC dI G_1)] H_9 locs_7 := hh_9
  have hZ_9 : jN14 G_1 (va_up G_1 H_7.size (some (194, 1500))) := jN14.new (by decide)
  have hN_9 : (jNk [0, 1, 2, 3, 4, 5, 6, 7, 8, 9, 10, 11, 12, 13, 15, 16]) G_1 (va_up G_1 H_7.size (some (194, 1500))) := jNk.new (by decide)
  have hgn_9 : (va_up G_1 H_7.size (some (194, 1500))) H_7.size = some (194, 1500) := jUp_self
  have hle_9 : jLe G_1 (va_up G_1 H_7.size (some (194, 1500))) := jLe.new hh_7.2.1.fresh
  have hke_9 : jKe G_1 (va_up G_1 H_7.size (some (194, 1500))) H_7 H_9 := jKe.new hfr_9
  have hsy_9 : s.heap.size ≤ H_7.size := hh_7.1.1
  generalize (va_up G_1 H_7.size (some (194, 1500))) = G_9 at hN_9 hgn_9 hle_9 hke_9 hh_9 hZ_9
  clear hh_7
  have hNn_9 : (jNk [0, 1, 2, 3, 4, 5, 6, 7, 8, 9, 10, 11, 12, 13, 15, 16]) G0 G_9 := (hNn_1).tr hN_9
  have hkp_10 := hkp_8.tr hke_9
  have hraw_11n := hke_9.nr hraw_7.lt hraw_3n
  have hraw_11 := hraw_7.kept (hke_9.1 _ hraw_7.lt)
  try have hz14_9 : jN14 G0 G_9 := (hz14_1).tr hZ_9
  have hd_12 := jDZ.grow (hh_9.iv 0 rfl) hle_9 hZ_9
  have hh_13 := hh_9.sub (L1 := []) [] rfl (M1 := []) [] rfl (I1 := []) [] rfl
  clear hh_9
  have hh_14 := hh_13.addI (jDZ.ie hd_12)
  clear hh_13
  refine j7_putRF hx hb hown hK hh_14 hB hAp hraw_11 hraw_11n hbr0 (C := RX12) (T := TX12) (N := 11) rfl (i := 3) (by decide) (Nat.le_of_ble_eq_true rfl) hly_14_3 rfl hin2 rfl hlk_15 (ty := (.array .int)) (v := .ref H_7.size) (by decide +kernel) rfl rfl dX12_init_18 (fun H_15 locs_15 hraw_15 hr_15 hh_15 => ?_)
  have hraw_15 : va_at (dC, dI) vwCl (r0, .inr (14, [.ref s.heap.size, .int 0, .int 0, .ref H_7.size, .int 0, .int 0, .null, .null, .null, .int 0, .null])) H_15 := hraw_15
  have hkp_16 := hkp_10.put hr_15
  clear hh_14
  refine lv_aload_n hx hb dX12_init_21 rfl (lv_at hl 0 rfl) ?_
  refine lv_bipush (v := 40) hx hb dX12_init_22 (by decide) ?_
  have hsz_17 := hh_15.2.2.2.2.2.1
  have htt_17 := hh_15.2.2.2.2.2.2.1
  refine j7_newiK hx hb hK hh_15 hB (atype := .int) (ty := .int) (htw (.arrayClass .int) (jWr_3 _ (List.mem_of_getElem? (i := 20) rfl))) rfl rfl (fun _ h => h) hB190 1 rfl (by decide) (by decide) hbs (x := 40) (by decide) (by omega) (fun j => by first | trivial | decide | rfl | exact Or.inl rfl | exact Or.inr (Or.inl (by decide)) | (refine ⟨?_, ?_⟩ <;> decide)) (by rw [hRc]; omega) (by rw [hRs]; omega) dX12_init_24 (fun H_17 hfr_17 hh_17 => ?_)
  have hh_17 : jSt (dC, dI) B base G0 (va_up G_9 H_15.size (some (190, 40))) EX12_initE s.heap (((0 + 1) + 1) + 1) (((0 + 40) + 1500) + 40) [] [] [(jFz9, jDZ dC dI G_9)] H_17 locs_15 := hh_17
  have hZ_17 : jN14 G_9 (va_up G_9 H_15.size (some (190, 40))) := jN14.new (by decide)
  have hN_17 : (jNk [0, 1, 2, 3, 4, 5, 6, 7, 8, 9, 10, 11, 12, 13, 15, 16]) G_9 (va_up G_9 H_15.size (some (190, 40))) := jNk.new (by decide)
  have hgn_17 : (va_up G_9 H_15.size (some (190, 40))) H_15.size = some (190, 40) := jUp_self
  have hle_17 : jLe G_9 (va_up G_9 H_15.size (some (190, 40))) := jLe.new hh_15.2.1.fresh
  have hke_17 : jKe G_9 (va_up G_9 H_15.size (some (190, 40))) H_15 H_17 := jKe.new hfr_17
  have hsy_17 : s.heap.size ≤ H_15.size := hh_15.1.1
  generalize (va_up G_9 H_15.size (some (190, 40))) = G_17 at hN_17 hgn_17 hle_17 hke_17 hh_17 hZ_17
  clear hh_15
  have hNn_17 : (jNk [0, 1, 2, 3, 4, 5, 6, 7, 8, 9, 10, 11, 12, 13, 15, 16]) G0 G_17 := (hNn_9).tr hN_17
  have hkp_18 := hkp_16.tr hke_17
  have hraw_19n := hke_17.nr hraw_15.lt hraw_11n
  have hraw_19 := hraw_15.kept (hke_17.1 _ hraw_15.lt)
  try have hz14_17 : jN14 G0 G_17 := (hz14_9).tr hZ_17
  have hd_20 := jDZ.grow (hh_17.iv 0 rfl) hle_17 hZ_17
  have hh_21 := hh_17.sub (L1 := []) [] rfl (M1 := []) [] rfl (I1 := []) [] rfl
  clear hh_17
  have hh_22 := hh_21.addI (jDZ.ie hd_20)
  clear hh_21
  refine j7_putRF hx hb hown hK hh_22 hB hAp hraw_19 hraw_19n hbr0 (C := RX12) (T := TX12) (N := 11) rfl (i := 6) (by decide) (Nat.le_of_ble_eq_true rfl) hly_14_6 rfl hin2 rfl hlk_18 (ty := (.array .int)) (v := .ref H_15.size) (by decide +kernel) rfl rfl dX12_init_26 (fun H_23 locs_23 hraw_23 hr_23 hh_23 => ?_)
  have hraw_23 : va_at (dC, dI) vwCl (r0, .inr (14, [.ref s.heap.size, .int 0, .int 0, .ref H_7.size, .int 0, .int 0, .ref H_15.size, .null, .null, .int 0, .null])) H_23 := hraw_23
  have hkp_24 := hkp_18.put hr_23
  clear hh_22
  refine lv_aload_n hx hb dX12_init_29 rfl (lv_at hl 0 rfl) ?_
  refine lv_bipush (v := 40) hx hb dX12_init_30 (by decide) ?_
  have hsz_25 := hh_23.2.2.2.2.2.1
  have htt_25 := hh_23.2.2.2.2.2.2.1
  refine j7_newiK hx hb hK hh_23 hB (atype := .int) (ty := .int) (htw (.arrayClass .int) (jWr_3 _ (List.mem_of_getElem? (i := 20) rfl))) rfl rfl (fun _ h => h) hB191 1 rfl (by decide) (by decide) hbs (x := 40) (by decide) (by omega) (fun j => by first | trivial | decide | rfl | exact Or.inl rfl | exact Or.inr (Or.inl (by decide)) | (refine ⟨?_, ?_⟩ <;> decide)) (by rw [hRc]; omega) (by rw [hRs]; omega) dX12_init_32 (fun H_25 hfr_25 hh_25 => ?_)
  have hh_25 : jSt (dC, dI) B base G0 (va_up G_17 H_23.size (some (191, 40))) EX12_initE s.heap ((((0 + 1) + 1) + 1) + 1) ((((0 + 40) + 1500) + 40) + 40) [] [] [(jFz9, jDZ dC dI G_17)] H_25 locs_23 := hh_25
  have hZ_25 : jN14 G_17 (va_up G_17 H_23.size (some (191, 40))) := jN14.new (by decide)
  have hN_25 : (jNk [0, 1, 2, 3, 4, 5, 6, 7, 8, 9, 10, 11, 12, 13, 15, 16]) G_17 (va_up G_17 H_23.size (some (191, 40))) := jNk.new (by decide)
  have hgn_25 : (va_up G_17 H_23.size (some (191, 40))) H_23.size = some (191, 40) := jUp_self
  have hle_25 : jLe G_17 (va_up G_17 H_23.size (some (191, 40))) := jLe.new hh_23.2.1.fresh
  have hke_25 : jKe G_17 (va_up G_17 H_23.size (some (191, 40))) H_23 H_25 := jKe.new hfr_25
  have hsy_25 : s.heap.size ≤ H_23.size := hh_23.1.1
  generalize (va_up G_17 H_23.size (some (191, 40))) = G_25 at hN_25 hgn_25 hle_25 hke_25 hh_25 hZ_25
  clear hh_23
  have hNn_25 : (jNk [0, 1, 2, 3, 4, 5, 6, 7, 8, 9, 10, 11, 12, 13, 15, 16]) G0 G_25 := (hNn_17).tr hN_25
  have hkp_26 := hkp_24.tr hke_25
  have hraw_27n := hke_25.nr hraw_23.lt hraw_19n
  have hraw_27 := hraw_23.kept (hke_25.1 _ hraw_23.lt)
  try have hz14_25 : jN14 G0 G_25 := (hz14_17).tr hZ_25
  have hd_28 := jDZ.grow (hh_25.iv 0 rfl) hle_25 hZ_25
  have hh_29 := hh_25.sub (L1 := []) [] rfl (M1 := []) [] rfl (I1 := []) [] rfl
  clear hh_25
  have hh_30 := hh_29.addI (jDZ.ie hd_28)
  clear hh_29
  refine j7_putRF hx hb hown hK hh_30 hB hAp hraw_27 hraw_27n hbr0 (C := RX12) (T := TX12) (N := 11) rfl (i := 7) (by decide) (Nat.le_of_ble_eq_true rfl) hly_14_7 rfl hin2 rfl hlk_21 (ty := (.array .int)) (v := .ref H_23.size) (by decide +kernel) rfl rfl dX12_init_34 (fun H_31 locs_31 hraw_31 hr_31 hh_31 => ?_)
  have hraw_31 : va_at (dC, dI) vwCl (r0, .inr (14, [.ref s.heap.size, .int 0, .int 0, .ref H_7.size, .int 0, .int 0, .ref H_15.size, .ref H_23.size, .null, .int 0, .null])) H_31 := hraw_31
  have hkp_32 := hkp_26.put hr_31
  clear hh_30
  refine lv_aload_n hx hb dX12_init_37 rfl (lv_at hl 0 rfl) ?_
  refine lv_bipush (v := 40) hx hb dX12_init_38 (by decide) ?_
  have hsz_33 := hh_31.2.2.2.2.2.1
  have htt_33 := hh_31.2.2.2.2.2.2.1
  refine j7_newiK hx hb hK hh_31 hB (atype := .int) (ty := .int) (htw (.arrayClass .int) (jWr_3 _ (List.mem_of_getElem? (i := 20) rfl))) rfl rfl (fun _ h => h) hB192 1 rfl (by decide) (by decide) hbs (x := 40) (by decide) (by omega) (fun j => by first | trivial | decide | rfl | exact Or.inl rfl | exact Or.inr (Or.inl (by decide)) | (refine ⟨?_, ?_⟩ <;> decide)) (by rw [hRc]; omega) (by rw [hRs]; omega) dX12_init_40 (fun H_33 hfr_33 hh_33 => ?_)
  have hh_33 : jSt (dC, dI) B base G0 (va_up G_25 H_31.size (some (192, 40))) EX12_initE s.heap (((((0 + 1) + 1) + 1) + 1) + 1) (((((0 + 40) + 1500) + 40) + 40) + 40) [] [] [(jFz9, jDZ dC dI G_25)] H_33 locs_31 := hh_33
  have hZ_33 : jN14 G_25 (va_up G_25 H_31.size (some (192, 40))) := jN14.new (by decide)
  have hN_33 : (jNk [0, 1, 2, 3, 4, 5, 6, 7, 8, 9, 10, 11, 12, 13, 15, 16]) G_25 (va_up G_25 H_31.size (some (192, 40))) := jNk.new (by decide)
  have hgn_33 : (va_up G_25 H_31.size (some (192, 40))) H_31.size = some (192, 40) := jUp_self
  have hle_33 : jLe G_25 (va_up G_25 H_31.size (some (192, 40))) := jLe.new hh_31.2.1.fresh
  have hke_33 : jKe G_25 (va_up G_25 H_31.size (some (192, 40))) H_31 H_33 := jKe.new hfr_33
  have hsy_33 : s.heap.size ≤ H_31.size := hh_31.1.1
  generalize (va_up G_25 H_31.size (some (192, 40))) = G_33 at hN_33 hgn_33 hle_33 hke_33 hh_33 hZ_33
  clear hh_31
  have hNn_33 : (jNk [0, 1, 2, 3, 4, 5, 6, 7, 8, 9, 10, 11, 12, 13, 15, 16]) G0 G_33 := (hNn_25).tr hN_33
  have hkp_34 := hkp_32.tr hke_33
  have hraw_35n := hke_33.nr hraw_31.lt hraw_27n
  have hraw_35 := hraw_31.kept (hke_33.1 _ hraw_31.lt)
  try have hz14_33 : jN14 G0 G_33 := (hz14_25).tr hZ_33
  have hd_36 := jDZ.grow (hh_33.iv 0 rfl) hle_33 hZ_33
  have hh_37 := hh_33.sub (L1 := []) [] rfl (M1 := []) [] rfl (I1 := []) [] rfl
  clear hh_33
  have hh_38 := hh_37.addI (jDZ.ie hd_36)
  clear hh_37
  refine j7_putRF hx hb hown hK hh_38 hB hAp hraw_35 hraw_35n hbr0 (C := RX12) (T := TX12) (N := 11) rfl (i := 8) (by decide) (Nat.le_of_ble_eq_true rfl) hly_14_8 rfl hin2 rfl hlk_24 (ty := (.array .int)) (v := .ref H_31.size) (by decide +kernel) rfl rfl dX12_init_42 (fun H_39 locs_39 hraw_39 hr_39 hh_39 => ?_)
  have hraw_39 : va_at (dC, dI) vwCl (r0, .inr (14, [.ref s.heap.size, .int 0, .int 0, .ref H_7.size, .int 0, .int 0, .ref H_15.size, .ref H_23.size, .ref H_31.size, .int 0, .null])) H_39 := hraw_39
  have hkp_40 := hkp_34.put hr_39
  clear hh_38
  refine lv_aload_n hx hb dX12_init_45 rfl (lv_at hl 0 rfl) ?_
  refine lv_bipush (v := 40) hx hb dX12_init_46 (by decide) ?_
  have hsz_41 := hh_39.2.2.2.2.2.1
  have htt_41 := hh_39.2.2.2.2.2.2.1
  refine j7_newiK hx hb hK hh_39 hB (atype := .int) (ty := .int) (htw (.arrayClass .int) (jWr_3 _ (List.mem_of_getElem? (i := 20) rfl))) rfl rfl (fun _ h => h) hB193 1 rfl (by decide) (by decide) hbs (x := 40) (by decide) (by omega) (fun j => by first | trivial | decide | rfl | exact Or.inl rfl | exact Or.inr (Or.inl (by decide)) | (refine ⟨?_, ?_⟩ <;> decide)) (by rw [hRc]; omega) (by rw [hRs]; omega) dX12_init_48 (fun H_41 hfr_41 hh_41 => ?_)
  have hh_41 : jSt (dC, dI) B base G0 (va_up G_33 H_39.size (some (193, 40))) EX12_initE s.heap ((((((0 + 1) + 1) + 1) + 1) + 1) + 1) ((((((0 + 40) + 1500) + 40) + 40) + 40) + 40) [] [] [(jFz9, jDZ dC dI G_33)] H_41 locs_39 := hh_41
  have hZ_41 : jN14 G_33 (va_up G_33 H_39.size (some (193, 40))) := jN14.new (by decide)
  have hN_41 : (jNk [0, 1, 2, 3, 4, 5, 6, 7, 8, 9, 10, 11, 12, 13, 15, 16]) G_33 (va_up G_33 H_39.size (some (193, 40))) := jNk.new (by decide)
  have hgn_41 : (va_up G_33 H_39.size (some (193, 40))) H_39.size = some (193, 40) := jUp_self
  have hle_41 : jLe G_33 (va_up G_33 H_39.size (some (193, 40))) := jLe.new hh_39.2.1.fresh
  have hke_41 : jKe G_33 (va_up G_33 H_39.size (some (193, 40))) H_39 H_41 := jKe.new hfr_41
  have hsy_41 : s.heap.size ≤ H_39.size := hh_39.1.1
  generalize (va_up G_33 H_39.size (some (193, 40))) = G_41 at hN_41 hgn_41 hle_41 hke_41 hh_41 hZ_41
  clear hh_39
  have hNn_41 : (jNk [0, 1, 2, 3, 4, 5, 6, 7, 8, 9, 10, 11, 12, 13, 15, 16]) G0 G_41 := (hNn_33).tr hN_41
  have hkp_42 := hkp_40.tr hke_41
  have hraw_43n := hke_41.nr hraw_39.lt hraw_35n
  have hraw_43 := hraw_39.kept (hke_41.1 _ hraw_39.lt)
  try have hz14_41 : jN14 G0 G_41 := (hz14_33).tr hZ_41
  have hd_44 := jDZ.grow (hh_41.iv 0 rfl) hle_41 hZ_41
  have hh_45 := hh_41.sub (L1 := []) [] rfl (M1 := []) [] rfl (I1 := []) [] rfl
  clear hh_41
  have hh_46 := hh_45.addI (jDZ.ie hd_44)
  clear hh_45
  refine j7_putRF hx hb hown hK hh_46 hB hAp hraw_43 hraw_43n hbr0 (C := RX12) (T := TX12) (N := 11) rfl (i := 10) (by decide) (Nat.le_of_ble_eq_true rfl) hly_14_10 rfl hin2 rfl hlk_27 (ty := (.array .int)) (v := .ref H_39.size) (by decide +kernel) rfl rfl dX12_init_50 (fun H_47 locs_47 hraw_47 hr_47 hh_47 => ?_)
  have hraw_47 : va_at (dC, dI) vwCl (r0, .inr (14, [.ref s.heap.size, .int 0, .int 0, .ref H_7.size, .int 0, .int 0, .ref H_15.size, .ref H_23.size, .ref H_31.size, .int 0, .ref H_39.size])) H_47 := hraw_47
  have hkp_48 := hkp_42.put hr_47
  clear hh_46
  have hsz_49 := hh_47.2.2.2.2.2.1
  have htt_49 := hh_47.2.2.2.2.2.2.1
  refine W.room (fun hrc_49 hrs_49 => ?_)
  refine W.widen (k := LC - s.heap.size) (n := LS - jTot s.heap) (by omega) (by omega) ?_
  rw [hQ]
  have hg_50 := (((hle_25).tr hle_33).tr hle_41) _ _ hgn_17
  have hg_51 := ((hle_33).tr hle_41) _ _ hgn_25
  have hg_53 := ((((hle_17).tr hle_25).tr hle_33).tr hle_41) _ _ hgn_9
  have hg_54 := (((((hle_9).tr hle_17).tr hle_25).tr hle_33).tr hle_41) _ _ hgn_1
  have hd_52 := jDZ.typ (hh_47.iv 0 rfl) hraw_43n (jf.raw (C := RX12) (T := TX12) (N := 11) rfl hraw_47 (i := 5) (by decide)) (jf.raw (C := RX12) (T := TX12) (N := 11) rfl hraw_47 (i := 9) (by decide)) (jf.raw (C := RX12) (T := TX12) (N := 11) rfl hraw_47 (i := 6) (by decide)) (jf.raw (C := RX12) (T := TX12) (N := 11) rfl hraw_47 (i := 7) (by decide)) hg_50 hg_51 (jDZ.fresh hE0 (fun a t ht => hab0 ht) hnr0 hz14_41 hkp_48 hsy_17 hsy_25) (jf.raw (C := RX12) (T := TX12) (N := 11) rfl hraw_47 (i := 1) (by decide)) (jf.raw (C := RX12) (T := TX12) (N := 11) rfl hraw_47 (i := 2) (by decide)) (jf.raw (C := RX12) (T := TX12) (N := 11) rfl hraw_47 (i := 4) (by decide)) (jf.raw (C := RX12) (T := TX12) (N := 11) rfl hraw_47 (i := 3) (by decide)) (jf.raw (C := RX12) (T := TX12) (N := 11) rfl hraw_47 (i := 0) (by decide)) hg_53 hg_54 (jDZ.frest hE0 (fun a t ht => hab0 ht) hnr0 hz14_41 hkp_48 hsy_9 hsy_1)
  have hh_55 := hh_47.sub (L1 := []) [] rfl (M1 := []) [] rfl (I1 := []) [] rfl
  clear hh_47
  have hle_56 : jLe G_41 (va_up G_41 r0 (some (14, 0))) := jLe.typ hraw_43n
  have hg_57 := (((((hle_9).tr hle_17).tr hle_25).tr hle_33).tr hle_41).tr hle_56 _ _ hgn_1
  have hg_58 := ((((hle_17).tr hle_25).tr hle_33).tr hle_41).tr hle_56 _ _ hgn_9
  have hg_59 := (((hle_25).tr hle_33).tr hle_41).tr hle_56 _ _ hgn_17
  have hg_60 := ((hle_33).tr hle_41).tr hle_56 _ _ hgn_25
  have hg_61 := (hle_41).tr hle_56 _ _ hgn_33
  have hg_62 := (jLe.rf).tr hle_56 _ _ hgn_41
  have hfa_56 : jRf (va_up G_41 r0 (some (14, 0))) 195 40 (.ref s.heap.size) ∧ jI 0 40 (.int 0) ∧ jIa (.int 0) ∧ jRf (va_up G_41 r0 (some (14, 0))) 194 1500 (.ref H_7.size) ∧ jI 0 1500 (.int 0) ∧ jI 0 40 (.int 0) ∧ jRf (va_up G_41 r0 (some (14, 0))) 190 40 (.ref H_15.size) ∧ jRf (va_up G_41 r0 (some (14, 0))) 191 40 (.ref H_23.size) ∧ jRf (va_up G_41 r0 (some (14, 0))) 192 40 (.ref H_31.size) ∧ jI 0 40 (.int 0) ∧ jRf (va_up G_41 r0 (some (14, 0))) 193 40 (.ref H_39.size) ∧ True := ⟨⟨_, rfl, hg_57⟩, ⟨_, rfl, by omega, by omega⟩, ⟨_, rfl⟩, ⟨_, rfl, hg_58⟩, ⟨_, rfl, by omega, by omega⟩, ⟨_, rfl, by omega, by omega⟩, ⟨_, rfl, hg_59⟩, ⟨_, rfl, hg_60⟩, ⟨_, rfl, hg_61⟩, ⟨_, rfl, by omega, by omega⟩, ⟨_, rfl, hg_62⟩, trivial⟩
  have hh_56 := hh_55.typ (k := 14) (n := 0) hB hraw_43n hbr0 hraw_47.lt (jOb.of (C := RX12) (T := TX12) (N := 11) (F := F14) hB14 rfl hraw_47 (show jFx (F14 0 (va_up G_41 r0 (some (14, 0)))) [.ref s.heap.size, .int 0, .int 0, .ref H_7.size, .int 0, .int 0, .ref H_15.size, .ref H_23.size, .ref H_31.size, .int 0, .ref H_39.size] from hfa_56))
  have hgn_56 : (va_up G_41 r0 (some (14, 0))) r0 = some (14, 0) := jUp_self
  have hN_56 : (jNk [0, 1, 2, 3, 4, 5, 6, 7, 8, 9, 10, 11, 12, 13, 15, 16]) G_41 (va_up G_41 r0 (some (14, 0))) := jNk.new (by decide)
  have hNn_56 : (jNk [0, 1, 2, 3, 4, 5, 6, 7, 8, 9, 10, 11, 12, 13, 15, 16]) G0 (va_up G_41 r0 (some (14, 0))) := (hNn_41).tr hN_56
  have hkp_63 := hkp_48.typ (t := some (14, 0))
  have hh_64 := hh_56.addI (jDZ.ie hd_52)
  clear hh_56
  exact W.vret hx hb hr (fun t ht hW => ⟨⟨(va_up G_41 r0 (some (14, 0))), rfl, trivial, ⟨hh_64.ra (by first | (simp only; omega) | omega) (by first | (simp only; omega) | omega) (M1 := []) [] rfl ht, hNn_56, hgn_56, by rw [ht]; exact hkp_63, by rw [ht]; exact hh_64.2.2.2.2.2.2.2.2.sub (L1 := [(jFz9, jDZ dC dI (va_up G_41 r0 (some (14, 0))))]) [0] rfl⟩⟩, by rw [ht]; try exact hh_64.1.1, fun q h9 hq => by rw [ht]; try exact hh_64.1.2.1 q h9 hq⟩) hh_64.1.2.2 dX12_init_53
end
section
theorem dX14_init_0 : decode cX14_init 0 = .ok (.aload_n 0, 1) := by decide +kernel
theorem dX14_init_1 : decode cX14_init 1 = .ok (.invokespecial 1, 3) := by decide +kernel
theorem dX14_init_4 : decode cX14_init 4 = .ok (.aload_n 0, 1) := by decide +kernel
theorem dX14_init_5 : decode cX14_init 5 = .ok (.sipush 4000, 3) := by decide +kernel
theorem dX14_init_8 : decode cX14_init 8 = .ok (.newarray .int, 2) := by decide +kernel
theorem dX14_init_10 : decode cX14_init 10 = .ok (.putfield 9, 3) := by decide +kernel
theorem dX14_init_13 : decode cX14_init 13 = .ok (.aload_n 0, 1) := by decide +kernel
theorem dX14_init_14 : decode cX14_init 14 = .ok (.sipush 20000, 3) := by decide +kernel
theorem dX14_init_17 : decode cX14_init 17 = .ok (.newarray .int, 2) := by decide +kernel
theorem dX14_init_19 : decode cX14_init 19 = .ok (.putfield 13, 3) := by decide +kernel
theorem dX14_init_22 : decode cX14_init 22 = .ok (.aload_n 0, 1) := by decide +kernel
theorem dX14_init_23 : decode cX14_init 23 = .ok (.ldc 16, 2) := by decide +kernel
theorem dX14_init_25 : decode cX14_init 25 = .ok (.newarray .int, 2) := by decide +kernel
theorem dX14_init_27 : decode cX14_init 27 = .ok (.putfield 17, 3) := by decide +kernel
theorem dX14_init_30 : decode cX14_init 30 = .ok (.aload_n 0, 1) := by decide +kernel
theorem dX14_init_31 : decode cX14_init 31 = .ok (.sipush 3300, 3) := by decide +kernel
theorem dX14_init_34 : decode cX14_init 34 = .ok (.newarray .int, 2) := by decide +kernel
theorem dX14_init_36 : decode cX14_init 36 = .ok (.putfield 20, 3) := by decide +kernel
theorem dX14_init_39 : decode cX14_init 39 = .ok (.aload_n 0, 1) := by decide +kernel
theorem dX14_init_40 : decode cX14_init 40 = .ok (.new 23, 3) := by decide +kernel
theorem dX14_init_43 : decode cX14_init 43 = .ok (.dup, 1) := by decide +kernel
theorem dX14_init_44 : decode cX14_init 44 = .ok (.invokespecial 25, 3) := by decide +kernel
theorem dX14_init_47 : decode cX14_init 47 = .ok (.putfield 26, 3) := by decide +kernel
theorem dX14_init_50 : decode cX14_init 50 = .ok (.aload_n 0, 1) := by decide +kernel
theorem dX14_init_51 : decode cX14_init 51 = .ok (.new 23, 3) := by decide +kernel
theorem dX14_init_54 : decode cX14_init 54 = .ok (.dup, 1) := by decide +kernel
theorem dX14_init_55 : decode cX14_init 55 = .ok (.invokespecial 25, 3) := by decide +kernel
theorem dX14_init_58 : decode cX14_init 58 = .ok (.putfield 30, 3) := by decide +kernel
theorem dX14_init_61 : decode cX14_init 61 = .ok (.aload_n 0, 1) := by decide +kernel
theorem dX14_init_62 : decode cX14_init 62 = .ok (.iconst (-1), 1) := by decide +kernel
theorem dX14_init_63 : decode cX14_init 63 = .ok (.putfield 33, 3) := by decide +kernel
theorem dX14_init_66 : decode cX14_init 66 = .ok (.aload_n 0, 1) := by decide +kernel
theorem dX14_init_67 : decode cX14_init 67 = .ok (.sipush 3100, 3) := by decide +kernel
theorem dX14_init_70 : decode cX14_init 70 = .ok (.newarray .int, 2) := by decide +kernel
theorem dX14_init_72 : decode cX14_init 72 = .ok (.putfield 37, 3) := by decide +kernel
theorem dX14_init_75 : decode cX14_init 75 = .ok (.aload_n 0, 1) := by decide +kernel
theorem dX14_init_76 : decode cX14_init 76 = .ok (.sipush 3100, 3) := by decide +kernel
theorem dX14_init_79 : decode cX14_init 79 = .ok (.newarray .int, 2) := by decide +kernel
theorem dX14_init_81 : decode cX14_init 81 = .ok (.putfield 40, 3) := by decide +kernel
theorem dX14_init_84 : decode cX14_init 84 = .ok (.aload_n 0, 1) := by decide +kernel
theorem dX14_init_85 : decode cX14_init 85 = .ok (.sipush 3100, 3) := by decide +kernel
theorem dX14_init_88 : decode cX14_init 88 = .ok (.newarray .int, 2) := by decide +kernel
theorem dX14_init_90 : decode cX14_init 90 = .ok (.putfield 43, 3) := by decide +kernel
theorem dX14_init_93 : decode cX14_init 93 = .ok (.aload_n 0, 1) := by decide +kernel
theorem dX14_init_94 : decode cX14_init 94 = .ok (.sipush 3100, 3) := by decide +kernel
theorem dX14_init_97 : decode cX14_init 97 = .ok (.newarray .int, 2) := by decide +kernel
theorem dX14_init_99 : decode cX14_init 99 = .ok (.putfield 46, 3) := by decide +kernel
theorem dX14_init_102 : decode cX14_init 102 = .ok (.aload_n 0, 1) := by decide +kernel
theorem dX14_init_103 : decode cX14_init 103 = .ok (.sipush 3100, 3) := by decide +kernel
theorem dX14_init_106 : decode cX14_init 106 = .ok (.newarray .int, 2) := by decide +kernel
theorem dX14_init_108 : decode cX14_init 108 = .ok (.putfield 49, 3) := by decide +kernel
theorem dX14_init_111 : decode cX14_init 111 = .ok (.aload_n 0, 1) := by decide +kernel
theorem dX14_init_112 : decode cX14_init 112 = .ok (.sipush 3100, 3) := by decide +kernel
theorem dX14_init_115 : decode cX14_init 115 = .ok (.newarray .int, 2) := by decide +kernel
theorem dX14_init_117 : decode cX14_init 117 = .ok (.putfield 52, 3) := by decide +kernel
theorem dX14_init_120 : decode cX14_init 120 = .ok (.aload_n 0, 1) := by decide +kernel
theorem dX14_init_121 : decode cX14_init 121 = .ok (.sipush 3100, 3) := by decide +kernel
theorem dX14_init_124 : decode cX14_init 124 = .ok (.newarray .int, 2) := by decide +kernel
theorem dX14_init_126 : decode cX14_init 126 = .ok (.putfield 55, 3) := by decide +kernel
theorem dX14_init_129 : decode cX14_init 129 = .ok (.aload_n 0, 1) := by decide +kernel
theorem dX14_init_130 : decode cX14_init 130 = .ok (.sipush 3100, 3) := by decide +kernel
theorem dX14_init_133 : decode cX14_init 133 = .ok (.newarray .boolean, 2) := by decide +kernel
theorem dX14_init_135 : decode cX14_init 135 = .ok (.putfield 58, 3) := by decide +kernel
theorem dX14_init_138 : decode cX14_init 138 = .ok (.aload_n 0, 1) := by decide +kernel
theorem dX14_init_139 : decode cX14_init 139 = .ok (.sipush 3100, 3) := by decide +kernel
theorem dX14_init_142 : decode cX14_init 142 = .ok (.newarray .int, 2) := by decide +kernel
theorem dX14_init_144 : decode cX14_init 144 = .ok (.putfield 62, 3) := by decide +kernel
theorem dX14_init_147 : decode cX14_init 147 = .ok (.aload_n 0, 1) := by decide +kernel
theorem dX14_init_148 : decode cX14_init 148 = .ok (.sipush 3300, 3) := by decide +kernel
theorem dX14_init_151 : decode cX14_init 151 = .ok (.newarray .int, 2) := by decide +kernel
theorem dX14_init_153 : decode cX14_init 153 = .ok (.putfield 65, 3) := by decide +kernel
theorem dX14_init_156 : decode cX14_init 156 = .ok (.aload_n 0, 1) := by decide +kernel
theorem dX14_init_157 : decode cX14_init 157 = .ok (.bipush 20, 2) := by decide +kernel
theorem dX14_init_159 : decode cX14_init 159 = .ok (.newarray .int, 2) := by decide +kernel
theorem dX14_init_161 : decode cX14_init 161 = .ok (.putfield 68, 3) := by decide +kernel
theorem dX14_init_164 : decode cX14_init 164 = .ok (.aload_n 0, 1) := by decide +kernel
theorem dX14_init_165 : decode cX14_init 165 = .ok (.iconst 3, 1) := by decide +kernel
theorem dX14_init_166 : decode cX14_init 166 = .ok (.anewarray 71, 3) := by decide +kernel
theorem dX14_init_169 : decode cX14_init 169 = .ok (.dup, 1) := by decide +kernel
theorem dX14_init_170 : decode cX14_init 170 = .ok (.iconst 0, 1) := by decide +kernel
theorem dX14_init_171 : decode cX14_init 171 = .ok (.new 71, 3) := by decide +kernel
theorem dX14_init_174 : decode cX14_init 174 = .ok (.dup, 1) := by decide +kernel
theorem dX14_init_175 : decode cX14_init 175 = .ok (.invokespecial 73, 3) := by decide +kernel
theorem dX14_init_178 : decode cX14_init 178 = .ok (.aastore, 1) := by decide +kernel
theorem dX14_init_179 : decode cX14_init 179 = .ok (.dup, 1) := by decide +kernel
theorem dX14_init_180 : decode cX14_init 180 = .ok (.iconst 1, 1) := by decide +kernel
theorem dX14_init_181 : decode cX14_init 181 = .ok (.new 71, 3) := by decide +kernel
theorem dX14_init_184 : decode cX14_init 184 = .ok (.dup, 1) := by decide +kernel
theorem dX14_init_185 : decode cX14_init 185 = .ok (.invokespecial 73, 3) := by decide +kernel
theorem dX14_init_188 : decode cX14_init 188 = .ok (.aastore, 1) := by decide +kernel
theorem dX14_init_189 : decode cX14_init 189 = .ok (.dup, 1) := by decide +kernel
theorem dX14_init_190 : decode cX14_init 190 = .ok (.iconst 2, 1) := by decide +kernel
theorem dX14_init_191 : decode cX14_init 191 = .ok (.new 71, 3) := by decide +kernel
theorem dX14_init_194 : decode cX14_init 194 = .ok (.dup, 1) := by decide +kernel
theorem dX14_init_195 : decode cX14_init 195 = .ok (.invokespecial 73, 3) := by decide +kernel
theorem dX14_init_198 : decode cX14_init 198 = .ok (.aastore, 1) := by decide +kernel
theorem dX14_init_199 : decode cX14_init 199 = .ok (.putfield 74, 3) := by decide +kernel
theorem dX14_init_202 : decode cX14_init 202 = .ok (.aload_n 0, 1) := by decide +kernel
theorem dX14_init_203 : decode cX14_init 203 = .ok (.sipush 3100, 3) := by decide +kernel
theorem dX14_init_206 : decode cX14_init 206 = .ok (.newarray .int, 2) := by decide +kernel
theorem dX14_init_208 : decode cX14_init 208 = .ok (.putfield 78, 3) := by decide +kernel
theorem dX14_init_211 : decode cX14_init 211 = .ok (.aload_n 0, 1) := by decide +kernel
theorem dX14_init_212 : decode cX14_init 212 = .ok (.sipush 1500, 3) := by decide +kernel
theorem dX14_init_215 : decode cX14_init 215 = .ok (.newarray .int, 2) := by decide +kernel
theorem dX14_init_217 : decode cX14_init 217 = .ok (.putfield 81, 3) := by decide +kernel
theorem dX14_init_220 : decode cX14_init 220 = .ok (.aload_n 0, 1) := by decide +kernel
theorem dX14_init_221 : decode cX14_init 221 = .ok (.new 71, 3) := by decide +kernel
theorem dX14_init_224 : decode cX14_init 224 = .ok (.dup, 1) := by decide +kernel
theorem dX14_init_225 : decode cX14_init 225 = .ok (.invokespecial 73, 3) := by decide +kernel
theorem dX14_init_228 : decode cX14_init 228 = .ok (.putfield 84, 3) := by decide +kernel
theorem dX14_init_231 : decode cX14_init 231 = .ok (.aload_n 0, 1) := by decide +kernel
theorem dX14_init_232 : decode cX14_init 232 = .ok (.new 71, 3) := by decide +kernel
theorem dX14_init_235 : decode cX14_init 235 = .ok (.dup, 1) := by decide +kernel
theorem dX14_init_236 : decode cX14_init 236 = .ok (.invokespecial 73, 3) := by decide +kernel
theorem dX14_init_239 : decode cX14_init 239 = .ok (.putfield 88, 3) := by decide +kernel
theorem dX14_init_242 : decode cX14_init 242 = .ok (.aload_n 0, 1) := by decide +kernel
theorem dX14_init_243 : decode cX14_init 243 = .ok (.bipush 12, 2) := by decide +kernel
theorem dX14_init_245 : decode cX14_init 245 = .ok (.anewarray 71, 3) := by decide +kernel
theorem dX14_init_248 : decode cX14_init 248 = .ok (.putfield 91, 3) := by decide +kernel
theorem dX14_init_251 : decode cX14_init 251 = .ok (.aload_n 0, 1) := by decide +kernel
theorem dX14_init_252 : decode cX14_init 252 = .ok (.bipush 12, 2) := by decide +kernel
theorem dX14_init_254 : decode cX14_init 254 = .ok (.newarray .boolean, 2) := by decide +kernel
theorem dX14_init_256 : decode cX14_init 256 = .ok (.putfield 94, 3) := by decide +kernel
theorem dX14_init_259 : decode cX14_init 259 = .ok (.aload_n 0, 1) := by decide +kernel
theorem dX14_init_260 : decode cX14_init 260 = .ok (.bipush 12, 2) := by decide +kernel
theorem dX14_init_262 : decode cX14_init 262 = .ok (.newarray .int, 2) := by decide +kernel
theorem dX14_init_264 : decode cX14_init 264 = .ok (.putfield 97, 3) := by decide +kernel
theorem dX14_init_267 : decode cX14_init 267 = .ok (.aload_n 0, 1) := by decide +kernel
theorem dX14_init_268 : decode cX14_init 268 = .ok (.bipush 12, 2) := by decide +kernel
theorem dX14_init_270 : decode cX14_init 270 = .ok (.newarray .boolean, 2) := by decide +kernel
theorem dX14_init_272 : decode cX14_init 272 = .ok (.putfield 100, 3) := by decide +kernel
theorem dX14_init_275 : decode cX14_init 275 = .ok (.aload_n 0, 1) := by decide +kernel
theorem dX14_init_276 : decode cX14_init 276 = .ok (.bipush 12, 2) := by decide +kernel
theorem dX14_init_278 : decode cX14_init 278 = .ok (.newarray .int, 2) := by decide +kernel
theorem dX14_init_280 : decode cX14_init 280 = .ok (.putfield 103, 3) := by decide +kernel
theorem dX14_init_283 : decode cX14_init 283 = .ok (.aload_n 0, 1) := by decide +kernel
theorem dX14_init_284 : decode cX14_init 284 = .ok (.sipush 240, 3) := by decide +kernel
theorem dX14_init_287 : decode cX14_init 287 = .ok (.newarray .int, 2) := by decide +kernel
theorem dX14_init_289 : decode cX14_init 289 = .ok (.putfield 106, 3) := by decide +kernel
theorem dX14_init_292 : decode cX14_init 292 = .ok (.aload_n 0, 1) := by decide +kernel
theorem dX14_init_293 : decode cX14_init 293 = .ok (.bipush 12, 2) := by decide +kernel
theorem dX14_init_295 : decode cX14_init 295 = .ok (.newarray .int, 2) := by decide +kernel
theorem dX14_init_297 : decode cX14_init 297 = .ok (.putfield 109, 3) := by decide +kernel
theorem dX14_init_300 : decode cX14_init 300 = .ok (.aload_n 0, 1) := by decide +kernel
theorem dX14_init_301 : decode cX14_init 301 = .ok (.ldc 112, 2) := by decide +kernel
theorem dX14_init_303 : decode cX14_init 303 = .ok (.newarray .int, 2) := by decide +kernel
theorem dX14_init_305 : decode cX14_init 305 = .ok (.putfield 113, 3) := by decide +kernel
theorem dX14_init_308 : decode cX14_init 308 = .ok (.aload_n 0, 1) := by decide +kernel
theorem dX14_init_309 : decode cX14_init 309 = .ok (.bipush 12, 2) := by decide +kernel
theorem dX14_init_311 : decode cX14_init 311 = .ok (.newarray .int, 2) := by decide +kernel
theorem dX14_init_313 : decode cX14_init 313 = .ok (.putfield 116, 3) := by decide +kernel
theorem dX14_init_316 : decode cX14_init 316 = .ok (.aload_n 0, 1) := by decide +kernel
theorem dX14_init_317 : decode cX14_init 317 = .ok (.new 119, 3) := by decide +kernel
theorem dX14_init_320 : decode cX14_init 320 = .ok (.dup, 1) := by decide +kernel
theorem dX14_init_321 : decode cX14_init 321 = .ok (.invokespecial 121, 3) := by decide +kernel
theorem dX14_init_324 : decode cX14_init 324 = .ok (.putfield 122, 3) := by decide +kernel
theorem dX14_init_327 : decode cX14_init 327 = .ok (.aload_n 0, 1) := by decide +kernel
theorem dX14_init_328 : decode cX14_init 328 = .ok (.sipush 3100, 3) := by decide +kernel
theorem dX14_init_331 : decode cX14_init 331 = .ok (.newarray .int, 2) := by decide +kernel
theorem dX14_init_333 : decode cX14_init 333 = .ok (.putfield 126, 3) := by decide +kernel
theorem dX14_init_336 : decode cX14_init 336 = .ok (.aload_n 0, 1) := by decide +kernel
theorem dX14_init_337 : decode cX14_init 337 = .ok (.iconst 2, 1) := by decide +kernel
theorem dX14_init_338 : decode cX14_init 338 = .ok (.anewarray 71, 3) := by decide +kernel
theorem dX14_init_341 : decode cX14_init 341 = .ok (.putfield 129, 3) := by decide +kernel
theorem dX14_init_344 : decode cX14_init 344 = .ok (.aload_n 0, 1) := by decide +kernel
theorem dX14_init_345 : decode cX14_init 345 = .ok (.iconst 2, 1) := by decide +kernel
theorem dX14_init_346 : decode cX14_init 346 = .ok (.newarray .int, 2) := by decide +kernel
theorem dX14_init_348 : decode cX14_init 348 = .ok (.putfield 132, 3) := by decide +kernel
theorem dX14_init_351 : decode cX14_init 351 = .ok (.aload_n 0, 1) := by decide +kernel
theorem dX14_init_352 : decode cX14_init 352 = .ok (.iconst 2, 1) := by decide +kernel
theorem dX14_init_353 : decode cX14_init 353 = .ok (.newarray .int, 2) := by decide +kernel
theorem dX14_init_355 : decode cX14_init 355 = .ok (.putfield 135, 3) := by decide +kernel
theorem dX14_init_358 : decode cX14_init 358 = .ok (.aload_n 0, 1) := by decide +kernel
theorem dX14_init_359 : decode cX14_init 359 = .ok (.iconst 2, 1) := by decide +kernel
theorem dX14_init_360 : decode cX14_init 360 = .ok (.newarray .boolean, 2) := by decide +kernel
theorem dX14_init_362 : decode cX14_init 362 = .ok (.putfield 138, 3) := by decide +kernel
theorem dX14_init_365 : decode cX14_init 365 = .ok (.aload_n 0, 1) := by decide +kernel
theorem dX14_init_366 : decode cX14_init 366 = .ok (.ldc 141, 2) := by decide +kernel
theorem dX14_init_368 : decode cX14_init 368 = .ok (.newarray .int, 2) := by decide +kernel
theorem dX14_init_370 : decode cX14_init 370 = .ok (.putfield 142, 3) := by decide +kernel
theorem dX14_init_373 : decode cX14_init 373 = .ok (.aload_n 0, 1) := by decide +kernel
theorem dX14_init_374 : decode cX14_init 374 = .ok (.bipush 24, 2) := by decide +kernel
theorem dX14_init_376 : decode cX14_init 376 = .ok (.newarray .int, 2) := by decide +kernel
theorem dX14_init_378 : decode cX14_init 378 = .ok (.putfield 145, 3) := by decide +kernel
theorem dX14_init_381 : decode cX14_init 381 = .ok (.aload_n 0, 1) := by decide +kernel
theorem dX14_init_382 : decode cX14_init 382 = .ok (.sipush 1600, 3) := by decide +kernel
theorem dX14_init_385 : decode cX14_init 385 = .ok (.newarray .int, 2) := by decide +kernel
theorem dX14_init_387 : decode cX14_init 387 = .ok (.putfield 148, 3) := by decide +kernel
theorem dX14_init_390 : decode cX14_init 390 = .ok (.aload_n 0, 1) := by decide +kernel
theorem dX14_init_391 : decode cX14_init 391 = .ok (.new 71, 3) := by decide +kernel
theorem dX14_init_394 : decode cX14_init 394 = .ok (.dup, 1) := by decide +kernel
theorem dX14_init_395 : decode cX14_init 395 = .ok (.invokespecial 73, 3) := by decide +kernel
theorem dX14_init_398 : decode cX14_init 398 = .ok (.putfield 151, 3) := by decide +kernel
theorem dX14_init_401 : decode cX14_init 401 = .ok (.aload_n 0, 1) := by decide +kernel
theorem dX14_init_402 : decode cX14_init 402 = .ok (.bipush 40, 2) := by decide +kernel
theorem dX14_init_404 : decode cX14_init 404 = .ok (.newarray .int, 2) := by decide +kernel
theorem dX14_init_406 : decode cX14_init 406 = .ok (.putfield 154, 3) := by decide +kernel
theorem dX14_init_409 : decode cX14_init 409 = .ok (.aload_n 0, 1) := by decide +kernel
theorem dX14_init_410 : decode cX14_init 410 = .ok (.bipush 40, 2) := by decide +kernel
theorem dX14_init_412 : decode cX14_init 412 = .ok (.newarray .int, 2) := by decide +kernel
theorem dX14_init_414 : decode cX14_init 414 = .ok (.putfield 157, 3) := by decide +kernel
theorem dX14_init_417 : decode cX14_init 417 = .ok (.return_, 1) := by decide +kernel
end
