-- what the walks take of the launch: the classes, the nest mates' links, the text constants, the statics (all outside of what a walk writes: addresses from base on)
def jty (ca : Nat → ClassId) : List (ClassId × FieldType) := [(ca 0, .byte), (ca 1, .int), (ca 2, .long), (ca 3, .boolean)]
theorem jb_fz {v : Int32} (h : v = 0 ∨ v = 1) : fits .boolean (.int v) = true := by
  rcases h with rfl | rfl <;> rfl
abbrev jA (base : Nat) : Nat → Prop := fun q => base ≤ q
def jStr (base a n : Nat) (U : State) (H : Heap) : Prop := va_O "java/lang/String" a (jA base) U H ∧ va_OF "java/lang/String" "coder" "B" (.int 0) a (jA base) U H ∧ ∃ (v : Nat) (f : Nat → Int32), va_OF "java/lang/String" "value" "[B" (.ref v) a (jA base) U H ∧ va_T .byte v n (fun j => .int (f j)) (jA base) U H
theorem jStr.moved {base a n : Nat} {u U : State} {H : Heap} (hvm : u.vm.Alike U.vm) (h : jStr base a n u H) : jStr base a n U H := by
  obtain ⟨h1, h2, v, f, h3, h4⟩ := h
  exact ⟨h1.moved hvm, h2.moved hvm, v, f, h3.moved hvm, h4.moved hvm⟩
theorem jStr.kept {base a n : Nat} {U : State} {H H1 : Heap} (h : jStr base a n U H) (hq : ∀ a : Nat, a < H.size → ¬ jA base a → H1[a]? = H[a]?) : jStr base a n U H1 := by
  obtain ⟨h1, h2, v, f, h3, h4⟩ := h
  exact ⟨h1.kept hq, h2.kept hq, v, f, h3.kept hq, h4.kept hq⟩
/-- a text constant: its bytes are its signs -/
def jChT (tx : String) (j : Nat) : Int32 := Int32.ofNat (tx.toList.getD j 'a').toNat
def jStrT (base a : Nat) (tx : String) (U : State) (H : Heap) : Prop := va_O "java/lang/String" a (jA base) U H ∧ va_OF "java/lang/String" "coder" "B" (.int 0) a (jA base) U H ∧ ∃ v : Nat, va_OF "java/lang/String" "value" "[B" (.ref v) a (jA base) U H ∧ va_T .byte v tx.length (fun j => .int (jChT tx j)) (jA base) U H
theorem jStrT.moved {base a : Nat} {tx : String} {u U : State} {H : Heap} (hvm : u.vm.Alike U.vm) (h : jStrT base a tx u H) : jStrT base a tx U H := by
  obtain ⟨h1, h2, v, h3, h4⟩ := h
  exact ⟨h1.moved hvm, h2.moved hvm, v, h3.moved hvm, h4.moved hvm⟩
theorem jStrT.kept {base a : Nat} {tx : String} {U : State} {H H1 : Heap} (h : jStrT base a tx U H) (hq : ∀ a : Nat, a < H.size → ¬ jA base a → H1[a]? = H[a]?) : jStrT base a tx U H1 := by
  obtain ⟨h1, h2, v, h3, h4⟩ := h
  exact ⟨h1.kept hq, h2.kept hq, v, h3.kept hq, h4.kept hq⟩
theorem jStrT.str {base a : Nat} {tx : String} {U : State} {H : Heap} (h : jStrT base a tx U H) : jStr base a tx.length U H := by
  obtain ⟨h1, h2, v, h3, h4⟩ := h
  exact ⟨h1, h2, v, _, h3, h4⟩
def jZ (base : Nat) (U : State) (H : Heap) : Prop := va_Z "java/lang/String" "COMPACT_STRINGS" "Z" (.int 1) (jA base) U H ∧
  (∃ (t : Nat) (f : Nat → Int32), va_Z "ProofServer$Syntax" "CHAIN_SIGNS" "[I" (.ref t) (jA base) U H ∧ va_T .int t 3 (fun j => .int (f j)) (jA base) U H ∧ ∀ j, j < 3 → 0 < (f j).toInt) ∧
  (∃ (t : Nat) (f : Nat → Int32), va_Z "ProofServer$Syntax" "CHAIN_NODES" "[I" (.ref t) (jA base) U H ∧ va_T .int t 3 (fun j => .int (f j)) (jA base) U H ∧ ∀ j, j < 3 → 0 < (f j).toInt) ∧
  (va_Z "jdk/internal/util/Preconditions" "SIOOBE_FORMATTER" "Ljava/util/function/BiFunction;" .null (jA base) U H ∨ ∃ t, va_Z "jdk/internal/util/Preconditions" "SIOOBE_FORMATTER" "Ljava/util/function/BiFunction;" (.ref t) (jA base) U H)
theorem jZ.moved {base : Nat} {u U : State} {H : Heap} (hvm : u.vm.Alike U.vm) (h : jZ base u H) : jZ base U H := by
  obtain ⟨h1, ⟨t, f, h2, h3, g1⟩, ⟨t2, f2, h4, h5, g2⟩, h6⟩ := h
  exact ⟨h1.moved hvm, ⟨t, f, h2.moved hvm, h3.moved hvm, g1⟩, ⟨t2, f2, h4.moved hvm, h5.moved hvm, g2⟩, h6.elim (fun h => Or.inl (h.moved hvm)) (fun ⟨t, h⟩ => Or.inr ⟨t, h.moved hvm⟩)⟩
theorem jZ.kept {base : Nat} {U : State} {H H1 : Heap} (h : jZ base U H) (hq : ∀ a : Nat, a < H.size → ¬ jA base a → H1[a]? = H[a]?) : jZ base U H1 := by
  obtain ⟨h1, ⟨t, f, h2, h3, g1⟩, ⟨t2, f2, h4, h5, g2⟩, h6⟩ := h
  exact ⟨h1.kept hq, ⟨t, f, h2.kept hq, h3.kept hq, g1⟩, ⟨t2, f2, h4.kept hq, h5.kept hq, g2⟩, h6.elim (fun h => Or.inl (h.kept hq)) (fun ⟨t, h⟩ => Or.inr ⟨t, h.kept hq⟩)⟩
def jG (dC : Nat → ClassId) (dI : Nat → Nat → Nat) (ca : Nat → ClassId) (base : Nat) (U : State) : Prop :=
  va_K (dC, dI) vwCl (jty ca) U ∧ (∀ a i b n d h, Cond.fieldLinkNest a i b n d h ∈ tables_1 → va_Nw (.fieldLinkNest a i b n d h) U) ∧ (∀ a i y h, Cond.methodLinkNest a i y h ∈ tables_1 → va_Nw (.methodLinkNest a i y h) U) ∧ (∀ o k tx, Cond.stringRef o k tx ∈ tables_1 → ∃ a, vk_R o k tx a U ∧ jStrT base a tx U U.heap) ∧ jZ base U U.heap
theorem jG.step {dC : Nat → ClassId} {dI : Nat → Nat → Nat} {ca : Nat → ClassId} {base : Nat} {s U : State} {H : Heap} {locs : List Loc} (h : jG dC dI ca base s) (hW : s.WarmedH U.vm) (hU : U.heap = H) (hS : va_S (jA base) s.heap H locs) : jG dC dI ca base U := by
  obtain ⟨h1, h2, h3, h4, h5⟩ := h
  have hq : ∀ a : Nat, a < s.heap.size → ¬ jA base a → U.heap[a]? = s.heap[a]? := fun a ha hn => by rw [hU]; exact hS.2.1 a ha hn
  refine ⟨va_K.moved hW.alike h1, fun a i b n d h q => va_Nw.warmF hW (h2 a i b n d h q), fun a i y h q => va_Nw.warmM hW (h3 a i y h q), fun o k tx q => ?_, (h5.moved hW.alike).kept hq⟩
  obtain ⟨a, h6, h7⟩ := h4 o k tx q
  exact ⟨a, h6.warm hW, (h7.moved hW.alike).kept hq⟩
theorem jG.calling {dC : Nat → ClassId} {dI : Nat → Nat → Nat} {ca : Nat → ClassId} {base : Nat} {U : State} (g : JFrame) (mk : MethodId) (a : Array Value) (h : jG dC dI ca base U) : jG dC dI ca base (U.calling g mk a) := by
  obtain ⟨h1, h2, h3, h4, h5⟩ := h
  have hv : U.vm.Alike (U.calling g mk a).vm := Vm.Alike.refl U.vm
  refine ⟨va_K.moved hv h1, fun a i b n d h q => va_Nw.same rfl rfl (h2 a i b n d h q), fun a i y h q => va_Nw.same rfl rfl (h3 a i y h q), fun o k tx q => ?_, h5.moved hv⟩
  obtain ⟨a, h6, h7⟩ := h4 o k tx q
  exact ⟨a, h6.same rfl, h7.moved hv⟩
theorem jS_put {base a : Nat} {H0 H H1 : Heap} {locs locs1 : List Loc} (hS : va_S (jA base) H0 H locs) (hz : H1.size = H.size) (hfr : ∀ q, q ≠ a → H1[q]? = H[q]?) (hA : base ≤ a) (hL : ∀ q ∈ locs1, base ≤ q.base) : va_S (jA base) H0 H1 locs1 :=
  ⟨by rw [hz]; exact hS.1, fun q h1 h2 => (hfr q (fun h => h2 (by rw [h]; exact hA))).trans (hS.2.1 q h1 h2), hL⟩
theorem jb_ishr {x s : Int32} {a : Int} (k : Nat) (hx : x.toInt = a) (hs : ((s &&& 31).toBitVec.smod 32).toNat = k) : (x >>> (s &&& 31)).toInt = a / 2 ^ k := by
  rw [pk_shr _ _ k hs, hx, Int.shiftRight_eq_div_pow]; simp
theorem jb_char (x : Int32) : 0 ≤ ((x &&& 255).toUInt32 % 65536).toInt32.toInt ∧ ((x &&& 255).toUInt32 % 65536).toInt32.toInt ≤ 255 := by
  rw [sc_c2]
  exact jb_and x (m := 255) (k := 8) (by decide) (by decide)
theorem jb_01 {r : Int32} (h : r = 0 ∨ r = 1) : r.toInt = 0 ∨ r.toInt = 1 := h.elim (fun h => Or.inl (by rw [h]; decide)) (fun h => Or.inr (by rw [h]; decide))
theorem jStr_recv {base a n : Nat} {s : State} {H : Heap} {locs : List Loc} (h : jStr base a n s s.heap) (hS : va_S (jA base) s.heap H locs) : ∃ cell : Cell, H[a]? = some cell ∧ cell.vm.isStatics = false ∧ s.vm.findClass "java/lang/String" = some cell.cls := by
  obtain ⟨cell, h1, h2, h3, -⟩ := h.1.kept hS.2.1
  exact ⟨cell, h1, h2, h3⟩
theorem jb_nch {r : Int32} (h1 : 0 ≤ r.toInt) (h2 : r.toInt ≤ 255) : narrow .char (.int r) = .int r := by
  have h0 : (0 : Int32).toInt = 0 := by decide
  have h5 : (255 : Int32).toInt = 255 := by decide
  have a1 : ¬ r < 0 := fun h => by
    have h6 := Int32.lt_iff_toInt_lt.mp h
    omega
  have a2 : r ≤ 255 := Int32.le_iff_toInt_le.mpr (by omega)
  obtain ⟨j, hj, e⟩ := nI_of2 (M := 255) (n := 255) (by decide) a1 a2
  rw [e]
  exact (pk_charN (by omega)).1
theorem jG.str {dC : Nat → ClassId} {dI : Nat → Nat → Nat} {ca : Nat → ClassId} {base : Nat} {U : State} (h : jG dC dI ca base U) {o tx : String} {k : Nat} (hm : Cond.stringRef o k tx ∈ tables_1) : ∃ a, vk_R o k tx a U ∧ jStr base a tx.length U U.heap := by
  obtain ⟨a, h1, h2⟩ := h.2.2.2.1 o k tx hm
  exact ⟨a, h1, h2.str⟩
theorem jG.strT {dC : Nat → ClassId} {dI : Nat → Nat → Nat} {ca : Nat → ClassId} {base : Nat} {U : State} (h : jG dC dI ca base U) {o tx : String} {k : Nat} (hm : Cond.stringRef o k tx ∈ tables_1) : ∃ a, vk_R o k tx a U ∧ jStrT base a tx U U.heap := h.2.2.2.1 o k tx hm
