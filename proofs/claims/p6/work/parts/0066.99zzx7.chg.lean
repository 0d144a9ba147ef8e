section
-- p9: a document is changed
theorem jdJ.zz {T : Nat → Int → Int} {v c c0 n n0 : Int} {k k0 : Nat} {f f0 : Nat → Int32} {R : Int × Int × (Int → Int)} (hT : ∀ x, jqK T v x = 3 → 0 ≤ T 3 x) (hR : R = jdCh T v k0 c0 n0 (jSo f0)) (hk : k = k0) (hc : c = c0) (hn : n = n0) (h0 : 0 ≤ n) (h1 : n ≤ 1500) (h : jdW f f0) : jdJ T v k c n f R := by
  subst hk hc hn hR
  exact jdJ.z hT h0 h1 h
theorem jdJ.ss {T : Nat → Int → Int} {v c c1 n n1 r : Int} {k k1 : Nat} {f f1 : Nat → Int32} {R : Int × Int × (Int → Int)} (hT : ∀ x, jqK T v x = 3 → 0 ≤ T 3 x) (hn : 0 ≤ n) (h : jdJ T v k c n f R) (hk : k = k1 + 1) (ha : jdA T v n c f f1 r n1) (hr : r ≠ 0) (hc : c1 = jqN T v c) : jdJ T v k1 c1 n1 f1 R := by
  have h9 := jdJ.s hT hn h (by omega) ha hr (ha.nx hr hc)
  rw [show k - 1 = k1 by omega] at h9
  exact h9
end
section
-- p9: the state of a server as both sides tell it; what a byte does, what many do
theorem jdFd.brk {b : Int → Int} {s : jdSt} {k : Nat} (h : (jdFd b s k).1 0 = 1) : ∀ m, jdFd b s (k + m) = jdFd b s k
  | 0 => rfl
  | m + 1 => by
    have e := jdFd.brk h m
    show jdStep (jdFd b s (k + m)) (b ((k + m : Nat) : Int)) = _
    rw [e]
    exact if_pos h
theorem jdFd.br {b : Int → Int} {s : jdSt} {k n : Nat} (h : (jdFd b s k).1 0 = 1) (hn : k ≤ n) : jdFd b s n = jdFd b s k := by
  have e := jdFd.brk h (n - k)
  rw [show k + (n - k) = n by omega] at e
  exact e
section
variable {s : jdSt} {u r br qn qb pl to ke sg il dg sv fi a1 a2 a3 a4 a5 a6 a7 a8 : Int}
end
section JP9
variable {dC : Nat → ClassId} {dI : Nat → Nat → Nat} {ca : Nat → ClassId} {B : jF} {base : Nat} {G0 G : jT} {E : List (Nat × Nat)} {H0 H : Heap} {zc zs : Nat} {L : List jPin} {M : List jCt} {I : List jIv} {locs : List Loc} {a k n : Nat}
theorem jAtcg {cA : ClassId} {f g : Nat → Int32} (h : va_at (dC, dI) vwCl (a, .inl (cA, n, .inl f)) H) (hfg : ∀ j, j < n → f j = g j) : va_at (dC, dI) vwCl (a, .inl (cA, n, .inl g)) H := by
  have e1 : H[a]? = some (vp_cell cA (n, .inl f)) := h
  show H[a]? = some (vp_cell cA (n, .inl g))
  rw [e1, vp_cell_i, vp_cell_i]
  congr 1
  exact arrV_cg (fun j hj => by rw [hfg j hj])
theorem jSt.cgM {cA : ClassId} {f g : Nat → Int32} (hh : jSt (dC, dI) B base G0 G E H0 zc zs L ((a, k, n, cA, f) :: M) I H locs) (hfg : ∀ j, j < n → f j = g j) : jSt (dC, dI) B base G0 G E H0 zc zs L ((a, k, n, cA, g) :: M) I H locs := by
  obtain ⟨h1, h2, h3, h4, h5, h6, h7, h8, h9⟩ := hh
  refine ⟨h1, h2, h3, h4, h5, h6, h7, fun q hq => ?_, h9⟩
  rcases List.mem_cons.mp hq with e | e
  · subst e
    obtain ⟨g1, g2, g3, g4⟩ := h8 _ List.mem_cons_self
    refine ⟨g1, g2, g3, ?_⟩
    have g4 : va_at (dC, dI) vwCl (a, .inl (cA, n, .inl f)) H := g4
    show va_at (dC, dI) vwCl (a, .inl (cA, n, .inl g)) H
    exact jAtcg g4 hfg
  · exact h8 q (List.mem_cons_of_mem _ e)
end JP9
theorem jfQ.mm {Y : Nat → Int} {m m1 a1 a2 a3 a4 a5 a6 a7 a8 : Int} (h : jfQ Y m a1 a2 a3 a4 a5 a6 a7 a8) (e : m1 = m) : jfQ Y m1 a1 a2 a3 a4 a5 a6 a7 a8 := by
  subst e
  exact h
end
section
-- p9: the reference's documents: what its JSON tells, places, changes
section
variable {T : Nat → Int → Int} {v u a : Int} {ms mh mx mf mt mb me mi mn mp f : Nat → Int32} {n : Nat}
theorem jjRB.memb (h : jjRB T v u ms mh mx mf mt mb me mi mn mp) (hn : 0 < n) (ha : a < v) : jMb ms mh mf mt mx mp f n a = jqM T v f n a := jMb.q h.1 h.2.1 h.2.2.1 hn ha h.2.2.2.1 h.2.2.2.2.1
theorem jjRB.whl (h : jjRB T v u ms mh mx mf mt mb me mi mn mp) (h0 : 0 ≤ a) (h1 : a < v) : (jSo ms a = 3 ∧ jSo mi a = 1 ∧ jqK T v a = 4 ∧ T 2 a = jSo mn a) ∨ ((jSo ms a ≠ 3 ∨ jSo mi a = 0) ∧ jqK T v a ≠ 4) := by
  have k : jqK T v a = T 1 a := if_pos ⟨h0, h1⟩
  rw [k]
  obtain ⟨r, -, -⟩ := h.1 a h0 h1
  rcases r with ⟨a1, a2, -⟩ | ⟨a1, a2, -⟩ | ⟨a1, a2, -, -⟩ | ⟨a1, a3, a2, a4⟩ | ⟨a1, a3, a2⟩ | ⟨a0, a1, a2⟩
  · exact Or.inr ⟨Or.inl (by omega), by omega⟩
  · exact Or.inr ⟨Or.inl (by omega), by omega⟩
  · exact Or.inr ⟨Or.inl (by omega), by omega⟩
  · exact Or.inl ⟨a1, a3, a2, a4⟩
  · exact Or.inr ⟨Or.inr a3, by omega⟩
  · exact Or.inr ⟨Or.inl (by omega), by omega⟩
theorem jjRB.obj (h : jjRB T v u ms mh mx mf mt mb me mi mn mp) (h0 : 0 ≤ a) (h1 : a < v) : (jSo ms a = 6 ∧ jqK T v a = 1) ∨ (jSo ms a = 5 ∧ jqK T v a = 2 ∧ T 2 a = jSo mh a) ∨ (jSo ms a ≠ 6 ∧ jSo ms a ≠ 5 ∧ jqK T v a ≠ 1 ∧ jqK T v a ≠ 2) := by
  have k : jqK T v a = T 1 a := if_pos ⟨h0, h1⟩
  rw [k]
  obtain ⟨r, -, -⟩ := h.1 a h0 h1
  rcases r with ⟨a1, a2, -⟩ | ⟨a1, a2, a3⟩ | ⟨a1, a2, -, -⟩ | ⟨a1, -, a2, -⟩ | ⟨a1, -, a2⟩ | ⟨a0, a1, a2⟩
  · exact Or.inl ⟨a1, a2⟩
  · exact Or.inr (Or.inl ⟨a1, a2, a3⟩)
  · exact Or.inr (Or.inr ⟨by omega, by omega, by omega, by omega⟩)
  · exact Or.inr (Or.inr ⟨by omega, by omega, by omega, by omega⟩)
  · exact Or.inr (Or.inr ⟨by omega, by omega, by omega, by omega⟩)
  · exact Or.inr (Or.inr ⟨by omega, by omega, by omega, by omega⟩)
theorem jqK.neg (h : a < 0) : jqK T v a = 0 := if_neg (fun q => by omega)
end
-- places
section
variable {g : Int → Int} {n w a p a1 p1 : Int}
theorem jdL.nl (h : a < n) (h1 : p < w) (h2 : g a ≠ 10) (h3 : g a ≠ 13) (ea : a1 = a + 1) : jdL g n w (n - a1).toNat a1 p = jdL g n w (n - a).toNat a p := jdL.st h h1 ea (by rw [jdE.z h2 h3]; omega)
end
theorem jdB.tl {g : Int → Int} {f f1 : Nat → Int32} {s e z n n1 i : Int} {q : Int → Int} (h : jdB g (jSo f) s e z n z q) (hx : jSo f1 i = g (n - s - z + e)) (ho : ∀ j, j < 1500 → j ≠ i.toNat → f1 j = f j) (hi : i = n) (h1 : n1 = n + 1) (h0 : 0 ≤ s ∧ 0 ≤ z ∧ s + z ≤ n) (hn : n1 ≤ 1500) : jdB g (jSo f1) s e z n1 z q := by
  have k : ∀ j : Int, 0 ≤ j → j < 1500 → j ≠ i → jSo f1 j = jSo f j := fun j j0 j1 j2 => by
    show (f1 j.toNat).toInt = (f j.toNat).toInt
    rw [ho j.toNat (by omega) (by omega)]
  obtain ⟨a, b, c⟩ := h
  refine ⟨fun j j0 j1 => (k j j0 (by omega) (by omega)).trans (a j j0 j1), fun j j0 j1 => (k j (by omega) (by omega) (by omega)).trans (b j j0 j1), fun j j0 j1 => ?_⟩
  by_cases w : j < n
  · exact (k j (by omega) (by omega) (by omega)).trans (c j j0 w)
  · rw [show j = i by omega, show i - s - z + e = n - s - z + e by omega]
    exact hx
end
section
def EX14_memberR : List (Nat × Nat) := []
def EX14_isStringR : List (Nat × Nat) := []
def EX14_isWholeR : List (Nat × Nat) := []
def EX14_lineOfR : List (Nat × Nat) := []
def EX14_characterOfR : List (Nat × Nat) := []
set_option maxHeartbeats 4000000 in
set_option maxRecDepth 20000 in
theorem uX14_memberR (l : Launch) (dC : Nat → ClassId) (dI : Nat → Nat → Nat) (ca : Nat → ClassId) (base : Nat) (B : jF) (hB : jBok B) (hAp : jAp (dC, dI)) (hB16 : ∀ n G a H, B 16 n G a H ↔ jOb (dC, dI) 16 74 (F16 n G) a H) (hB117 : ∀ n G a H, B 117 n G a H ↔ jAr (dC, dI) (ca 1) (fun j z => True) n a H) (hB118 : ∀ n G a H, B 118 n G a H ↔ jAr (dC, dI) (ca 1) (fun j z => -1 ≤ z.toInt ∧ z.toInt ≤ 3099) n a H) (hB119 : ∀ n G a H, B 119 n G a H ↔ jAr (dC, dI) (ca 1) (fun j z => z.toInt = -1 ∨ z.toInt = 0 ∨ ((j : Nat) < z.toInt ∧ z.toInt ≤ 3099)) n a H) (hB120 : ∀ n G a H, B 120 n G a H ↔ jAr (dC, dI) (ca 1) (fun j z => 0 ≤ z.toInt ∧ z.toInt ≤ 3300) n a H) (hB121 : ∀ n G a H, B 121 n G a H ↔ jAr (dC, dI) (ca 1) (fun j z => 0 ≤ z.toInt ∧ z.toInt ≤ 3300) n a H) (hB127 : ∀ n G a H, B 127 n G a H ↔ jAr (dC, dI) (ca 1) (fun j z => True) n a H) (G0 : jT) (H0 : Heap) (r0 : Nat) (a1 : Int32) (r2 : Nat) (n2 : Nat) (f2 : Nat → Int32) (zm : Nat) (xh : Nat) (xn : Nat) (xf : Nat) (xt : Nat) (xb : Nat) (xe : Nat) (xi : Nat) (xg : Nat) (xp : Nat) (T9 : Nat → Int → Int) (nd9 po9 : Int) (ms : Nat → Int32) (mh : Nat → Int32) (mx : Nat → Int32) (mf : Nat → Int32) (mt : Nat → Int32) (mb : Nat → Int32) (me : Nat → Int32) (mi : Nat → Int32) (mn : Nat → Int32) (fu : Nat → Int32) : Met l yX14_member (jw yX14_member cX14_member 5 (some .int)) ({ frames := 5, cells := 0, slots := 0, locals := 165 }) (va_Pc [.ref r0, .int a1, .ref r2] (fun U => U.heap = H0 ∧ jX B base G0 [] H0 ∧ jG dC dI ca base U ∧ jStrF base r2 n2 f2 U H0 ∧ G0 r0 = some (16, 0) ∧ G0 zm = some (117, 3100) ∧ G0 xh = some (118, 3100) ∧ G0 xn = some (119, 3100) ∧ G0 xf = some (120, 3100) ∧ G0 xt = some (121, 3100) ∧ G0 xb = some (122, 3100) ∧ G0 xe = some (123, 3100) ∧ G0 xi = some (124, 3100) ∧ G0 xg = some (125, 3100) ∧ G0 xp = some (127, 3300) ∧ jP (dC, dI) G0 H0 [(r0, 16, 17, .ref zm), (r0, 16, 18, .ref xh), (r0, 16, 19, .ref xn), (r0, 16, 20, .ref xf), (r0, 16, 21, .ref xt), (r0, 16, 22, .ref xb), (r0, 16, 23, .ref xe), (r0, 16, 24, .ref xi), (r0, 16, 25, .ref xg), (r0, 16, 27, .ref xp)] ∧ jMc (dC, dI) G0 H0 [(zm, 117, 3100, ca 1, ms), (xh, 118, 3100, ca 1, mh), (xn, 119, 3100, ca 1, mx), (xf, 120, 3100, ca 1, mf), (xt, 121, 3100, ca 1, mt), (xb, 122, 3100, ca 1, mb), (xe, 123, 3100, ca 1, me), (xi, 124, 3100, ca 3, mi), (xg, 125, 3100, ca 1, mn), (xp, 127, 3300, ca 1, fu)] ∧ 0 ≤ nd9 ∧ nd9 ≤ 3100 ∧ jjRB T9 nd9 po9 ms mh mx mf mt mb me mi mn fu ∧ a1.toInt < nd9 ∧ n2 < 2147483648 ∧ 0 < n2 ∧ jSo mx 0 = -1)) (va_Qi (S := Unit) (fun r u => (r.toInt = jqM T9 nd9 f2 n2 a1.toInt ∧ -1 ≤ r.toInt ∧ r.toInt < nd9)) (fun u t => jRt (dC, dI) B base G0 EX14_memberR H0 [] t.heap) (jA base)) 0 0 (jA base) := by
  refine Met.ofW (cc := cX14_member) (maxL := 5) (ret := (some .int)) (by decide) rfl ?_
  intro p e s m args below meth c s₁ Bd hml hv
  obtain ⟨rfl, hH0, hX, hG, hstrF_r2, hg_r0, hg_zm, hg_xh, hg_xn, hg_xf, hg_xt, hg_xb, hg_xe, hg_xi, hg_xg, hg_xp, hP0, hM0, hp0, hp1, hp2, hp3, hp4, hp5, hp6⟩ := hv
  have hK := hG.1
  have hx := Bd.exec
  have hb := Bd.bytes
  have hr := Bd.returns
  have hts := atoms_spec (ws := (jw yX14_member cX14_member 5 (some .int))) Bd.pre
  have htw : ∀ w ∈ jWl, w.before _ s = true := fun w h => hts w (List.mem_cons_of_mem _ h)
  have hown : s.vm.findClass RX14 = some m.cls := findClass_of_methodNamed Bd.named
  have hlocks := Bd.notSynchronized
  obtain ⟨Q, hQ⟩ : ∃ Q, Q = MQ below (va_Qi (S := Unit) (fun r u => (r.toInt = jqM T9 nd9 f2 n2 a1.toInt ∧ -1 ≤ r.toInt ∧ r.toInt < nd9)) (fun u t => jRt (dC, dI) B base G0 EX14_memberR H0 [] t.heap) (jA base)) ([.ref r0, .int a1, .ref r2] : List Value).toArray s 0 0 (jA base) := ⟨_, rfl⟩
  rw [← hQ]
  have hl := lv_entry ([.ref r0, .int a1, .ref r2]) (n := 5) (Nat.le_of_ble_eq_true rfl)
  rw [lg_entry_eq]
  generalize (lg_sl ([.ref r0, .int a1, .ref r2]) ++ List.replicate (5 - (lg_sl ([.ref r0, .int a1, .ref r2])).length) Slot.unset).toArray = ls at hl ⊢
  have hstr_r2 := hstrF_r2.str
  have hl : lv_has ls 5 [(0, .ref r0), (1, .int a1), (2, .ref r2)] := hl
  generalize hR : (headSpec (jw yX14_member cX14_member 5 (some .int)) ({ frames := 5, cells := 0, slots := 0, locals := 165 })).room = R
  subst hH0
  have hh : jSt (dC, dI) B base G0 G0 EX14_memberR s.heap 0 0 [(r0, 16, 17, .ref zm), (r0, 16, 18, .ref xh), (r0, 16, 19, .ref xn), (r0, 16, 20, .ref xf), (r0, 16, 21, .ref xt), (r0, 16, 22, .ref xb), (r0, 16, 23, .ref xe), (r0, 16, 24, .ref xi), (r0, 16, 25, .ref xg), (r0, 16, 27, .ref xp)] [(zm, 117, 3100, ca 1, ms), (xh, 118, 3100, ca 1, mh), (xn, 119, 3100, ca 1, mx), (xf, 120, 3100, ca 1, mf), (xt, 121, 3100, ca 1, mt), (xb, 122, 3100, ca 1, mb), (xe, 123, 3100, ca 1, me), (xi, 124, 3100, ca 3, mi), (xg, 125, 3100, ca 1, mn), (xp, 127, 3300, ca 1, fu)] [] s.heap [] := jSt.start hX hP0 hM0 jIs.nil
  clear hX hP0
  have hkm1 : ((-1) : Int32).toInt = (-1) := by decide
  have hk0 : (0 : Int32).toInt = 0 := by decide
  have hk1 : (1 : Int32).toInt = 1 := by decide
  have hk6 : (6 : Int32).toInt = 6 := by decide
  have hly_16_17 := htw (u_lay RX14 TX14 17) (jWc_wsX140 _ (u_in_lay (by decide)))
  have hly_16_18 := htw (u_lay RX14 TX14 18) (jWc_wsX140 _ (u_in_lay (by decide)))
  have hly_16_19 := htw (u_lay RX14 TX14 19) (jWc_wsX140 _ (u_in_lay (by decide)))
  have hly_16_20 := htw (u_lay RX14 TX14 20) (jWc_wsX140 _ (u_in_lay (by decide)))
  have hly_16_21 := htw (u_lay RX14 TX14 21) (jWc_wsX140 _ (u_in_lay (by decide)))
  have hlk_37 := (htw (.fieldLink RX14 37 "ProofServerModel" "sort" "[I") (jWr_11 _ (List.mem_of_getElem? (i := 4) rfl)))
  have hlk_40 := (htw (.fieldLink RX14 40 "ProofServerModel" "heir" "[I") (jWr_11 _ (List.mem_of_getElem? (i := 5) rfl)))
  have hlk_46 := (htw (.fieldLink RX14 46 "ProofServerModel" "nameFrom" "[I") (jWr_11 _ (List.mem_of_getElem? (i := 7) rfl)))
  have hlk_49 := (htw (.fieldLink RX14 49 "ProofServerModel" "nameTo" "[I") (jWr_11 _ (List.mem_of_getElem? (i := 8) rfl)))
  have hlk_43 := (htw (.fieldLink RX14 43 "ProofServerModel" "next" "[I") (jWr_11 _ (List.mem_of_getElem? (i := 6) rfl)))
  have hrg_a1 := jb_rng a1
  refine lv_iconst (v := (-1)) hx hb dX14_member_0 (by decide) ?_
  refine lv_istore_n (lv' := [(3, .int (-1)), (0, .ref r0), (1, .int a1), (2, .ref r2)]) hx hb dX14_member_1 rfl hl (by decide) rfl (fun ls hl => ?_)
  refine lv_iload_n hx hb dX14_member_2 rfl (lv_at hl 2 rfl) ?_
  refine lv_if_lt (tgt := 17) hx hb dX14_member_3 (by decide) (fun c_1 => ?_) (fun c_1 => ?_)
  · skip
    have c_1' : a1.toInt < 0 := jb_lt (rfl) ((by decide)) c_1
    refine lv_iconst (v := (-1)) hx hb dX14_member_17 (by decide) ?_
    rw [hQ]
    exact W.iret (v := (-1)) hx hb hr (fun t ht hW => ⟨⟨(-1), (), rfl, by refine ⟨?_, by omega, by omega⟩; refine Eq.trans ?_ (hp2.memb (f := f2) (n := n2) (a := a1.toInt) (by omega) (by omega)); unfold jMb; rw [if_pos (by exact Or.inl (by omega))]; exact hkm1, hh.rt (M1 := []) [] rfl ht⟩, by rw [ht]; try exact hh.1.1, fun q h9 hq => by rw [ht]; try exact hh.1.2.1 q h9 hq⟩) hh.1.2.2 dX14_member_18
  · skip
    have c_1' : a1.toInt ≥ 0 := jb_lt_n (rfl) ((by decide)) c_1
    refine lv_aload_n hx hb dX14_member_6 rfl (lv_at hl 1 rfl) ?_
    refine j7_read hx hb hown hK (C := RX14) (T := TX14) (N := 74) rfl hly_16_17 hlk_37 (hh.at 0 rfl) dX14_member_7 ?_
    refine lv_iload_n hx hb dX14_member_10 rfl (lv_at hl 2 rfl) ?_
    refine j7_ialdM hx hb hK hh hB117 1 rfl (by decide) hg_zm (x := a1.toInt) (rfl) (by omega) (j := 0) rfl dX14_member_11 (fun z_2 ez_2 (hz_2 : True) => ?_)
    have hqz_2 : z_2.toInt = jSo ms (a1.toInt) := by unfold jSo; rw [ez_2]
    refine lv_bipush (v := 6) hx hb dX14_member_12 (by decide) ?_
    refine lv_icmp_eq (tgt := 19) hx hb dX14_member_14 (by decide) (fun c_3 => ?_) (fun c_3 => ?_)
    · skip
      have c_3' : z_2.toInt = 6 := jb_eq (rfl) ((by decide)) c_3
      refine lv_aload_n hx hb dX14_member_19 rfl (lv_at hl 1 rfl) ?_
      refine j7_read hx hb hown hK (C := RX14) (T := TX14) (N := 74) rfl hly_16_18 hlk_40 (hh.at 1 rfl) dX14_member_20 ?_
      refine lv_iload_n hx hb dX14_member_23 rfl (lv_at hl 2 rfl) ?_
      refine j7_ialdM hx hb hK hh hB118 1 rfl (by decide) hg_xh (x := a1.toInt) (rfl) (by omega) (j := 1) rfl dX14_member_24 (fun z_4 ez_4 (hz_4 : -1 ≤ z_4.toInt ∧ z_4.toInt ≤ 3099) => ?_)
      have hqz_4 : z_4.toInt = jSo mh (a1.toInt) := by unfold jSo; rw [ez_4]
      refine lv_istore (lv' := [(4, .int z_4), (3, .int (-1)), (0, .ref r0), (1, .int a1), (2, .ref r2)]) hx hb dX14_member_25 hl (by decide) rfl (fun ls hl => ?_)
      have L27 : ∀ (N : Nat) (v3_5 : Int32) (v4_5 : Int32) (kf : Nat) (H_5 : Heap) (locs_5 : List Loc), jSt (dC, dI) B base G0 G0 EX14_memberR s.heap 0 0 [(r0, 16, 17, .ref zm), (r0, 16, 18, .ref xh), (r0, 16, 19, .ref xn), (r0, 16, 20, .ref xf), (r0, 16, 21, .ref xt), (r0, 16, 22, .ref xb), (r0, 16, 23, .ref xe), (r0, 16, 24, .ref xi), (r0, 16, 25, .ref xg), (r0, 16, 27, .ref xp)] [(zm, 117, 3100, ca 1, ms), (xh, 118, 3100, ca 1, mh), (xn, 119, 3100, ca 1, mx), (xf, 120, 3100, ca 1, mf), (xt, 121, 3100, ca 1, mt), (xb, 122, 3100, ca 1, mb), (xe, 123, 3100, ca 1, me), (xi, 124, 3100, ca 3, mi), (xg, 125, 3100, ca 1, mn), (xp, 127, 3300, ca 1, fu)] [] H_5 locs_5 → (-1 ≤ v4_5.toInt ∧ v4_5.toInt ≤ 3099 ∧ -1 ≤ v3_5.toInt ∧ v3_5.toInt ≤ 3099 ∧ (v4_5.toInt = -1 ∨ (v4_5.toInt = 0 ∧ 2 ≤ kf) ∨ (1 ≤ v4_5.toInt ∧ 3103 - v4_5.toInt ≤ kf)) ∧ 0 < kf ∧ jMn mf mt mx fu f2 n2 kf v4_5.toInt v3_5.toInt = jMn mf mt mx fu f2 n2 3102 (jSo mh a1.toInt) (-1)) → ((kf : Int) : Int) < N → ∀ ls : Array Slot, lv_has ls 5 [(0, .ref r0), (1, .int a1), (2, .ref r2), (3, .int v3_5), (4, .int v4_5)] → W p l e R s m ([.ref r0, .int a1, .ref r2] : List Value).toArray below meth c H_5 locs_5 0 0 Q (F0 m 27 ls []) := by
        intro N
        induction N with
        | zero => intro v3_5 v4_5 kf H_5 locs_5 hh_5  hi_5 hm; exact absurd hm (by omega)
        | succ N L27 =>
          intro v3_5 v4_5 kf H_5 locs_5 hh_5  hi_5 hm_5 ls hl
          obtain ⟨hi_5_0, hi_5_1, hi_5_2, hi_5_3, hi_5_4, hi_5_5, hi_5_6⟩ := hi_5
          refine lv_iload hx hb dX14_member_27 (lv_at hl 4 rfl) ?_
          refine lv_if_lt (tgt := 73) hx hb dX14_member_29 (by decide) (fun c_6 => ?_) (fun c_6 => ?_)
          · skip
            have c_6' : v4_5.toInt < 0 := jb_lt (rfl) ((by decide)) c_6
            refine lv_iload_n hx hb dX14_member_73 rfl (lv_at hl 3 rfl) ?_
            rw [hQ]
            exact W.iret (v := v3_5) hx hb hr (fun t ht hW => ⟨⟨v3_5, (), rfl, by have h9 : v3_5.toInt = jqM T9 nd9 f2 n2 a1.toInt := (by refine Eq.trans ?_ (hp2.memb (f := f2) (n := n2) (a := a1.toInt) (by omega) (by omega)); unfold jMb; rw [if_neg (by rw [← hqz_2]; omega)]; exact (jMn_e (by omega) (by omega) rfl).trans hi_5_6); have h8 := hp2.lt (f := f2) (n := n2) (a := a1.toInt) (by omega); exact ⟨h9, by omega, by omega⟩, hh_5.rt (M1 := []) [] rfl ht⟩, by rw [ht]; try exact hh_5.1.1, fun q h9 hq => by rw [ht]; try exact hh_5.1.2.1 q h9 hq⟩) hh_5.1.2.2 dX14_member_74
          · skip
            have c_6' : v4_5.toInt ≥ 0 := jb_lt_n (rfl) ((by decide)) c_6
            refine lv_aload_n hx hb dX14_member_32 rfl (lv_at hl 0 rfl) ?_
            refine lv_aload_n hx hb dX14_member_33 rfl (lv_at hl 0 rfl) ?_
            refine j7_read hx hb hown hK (C := RX14) (T := TX14) (N := 74) rfl hly_16_20 hlk_46 (hh_5.at 3 rfl) dX14_member_34 ?_
            refine lv_iload hx hb dX14_member_37 (lv_at hl 4 rfl) ?_
            refine j7_ialdM hx hb hK hh_5 hB120 1 rfl (by decide) hg_xf (x := v4_5.toInt) (rfl) (by omega) (j := 3) rfl dX14_member_39 (fun z_7 ez_7 (hz_7 : 0 ≤ z_7.toInt ∧ z_7.toInt ≤ 3300) => ?_)
            have hqz_7 : z_7.toInt = jSo mf (v4_5.toInt) := by unfold jSo; rw [ez_7]
            refine lv_aload_n hx hb dX14_member_40 rfl (lv_at hl 0 rfl) ?_
            refine j7_read hx hb hown hK (C := RX14) (T := TX14) (N := 74) rfl hly_16_21 hlk_49 (hh_5.at 4 rfl) dX14_member_41 ?_
            refine lv_iload hx hb dX14_member_44 (lv_at hl 4 rfl) ?_
            refine j7_ialdM hx hb hK hh_5 hB121 1 rfl (by decide) hg_xt (x := v4_5.toInt) (rfl) (by omega) (j := 4) rfl dX14_member_46 (fun z_8 ez_8 (hz_8 : 0 ≤ z_8.toInt ∧ z_8.toInt ≤ 3300) => ?_)
            have hqz_8 : z_8.toInt = jSo mt (v4_5.toInt) := by unfold jSo; rw [ez_8]
            refine lv_aload_n hx hb dX14_member_47 rfl (lv_at hl 2 rfl) ?_
            refine va_calli (A0 := jA base) (H0 := s.heap) (va_runV (As := [.int z_7, .int z_8, .ref r2]) (rest := []) ⟨hx, hb, hml, hown, hts⟩ (uX14_isTextK l dC dI ca base B hB hAp hB16 hB127 G0 H_5 r0 z_7 z_8 r2 n2 f2 xp fu) (cwV 3 hts (jgV (jWr_55 _ (List.mem_of_getElem? (i := 19) rfl)) (jWr_55 _ (List.mem_of_getElem? (i := 20) rfl)) (jWr_55 _ (List.mem_of_getElem? (i := 21) rfl)) (jWr_1 _ (List.mem_of_getElem? (i := 5) rfl)) (jWr_55 _ (List.mem_of_getElem? (i := 22) rfl))) rfl rfl rfl (by decide +kernel) ⟨by rw [← hR]; exact Nat.le_of_ble_eq_true rfl, by rw [← hR]; exact Nat.le_of_ble_eq_true rfl⟩) ⟨fun a U g mk q => by obtain ⟨q0, q1, q2, qK, q10, q11, q12, q13, q14, q15⟩ := q; exact ⟨q0, q1, q2, jG.calling g mk a qK, (q10.moved (Vm.Alike.refl U.vm)), q11, q12, q13, q14, q15⟩, hh_5.recv (C := RX14) (T := TX14) (N := 74) hB16 rfl (by decide) hg_r0 hK, fun U hU hW => ⟨rfl, hU, hh_5.2.1, hG.step hW hU hh_5.1, (hstrF_r2.moved hW.alike).kept hh_5.1.2.1, hg_r0, hg_xp, (hh_5.2.2.1.sub (L1 := [(r0, 16, 27, .ref xp)]) [9] rfl), (hh_5.2.2.2.2.2.2.2.1.sub (L1 := [(xp, 127, 3300, ca 1, fu)]) [9] rfl), by first | omega | (refine ⟨?_, ?_, ?_, ?_, ?_⟩ <;> (first | omega | rfl | assumption | decide | exact Or.inl rfl | exact Or.inr rfl | (simp only; omega)))⟩⟩ rfl rfl hl.1 rfl (lv_room (Nat.le_of_ble_eq_true rfl)) dX14_member_48 ⟨Nat.zero_le _, Nat.zero_le _⟩) hh_5.1 (fun q _ h => h) (fun q h => h) (fun r_10 u_9 t_9 H_9 locs_9 ht_9 hvm_9 hr_10 hb_9 hz_9 hk_9 hS_9 => ?_)
            rw [ht_9] at hb_9
            obtain ⟨hb_91, hb_92, hb_93, hb_94, hb_95⟩ := hb_9
            have hh_9 : jSt (dC, dI) B base G0 G0 EX14_memberR s.heap 0 0 [(r0, 16, 17, .ref zm), (r0, 16, 18, .ref xh), (r0, 16, 19, .ref xn), (r0, 16, 20, .ref xf), (r0, 16, 21, .ref xt), (r0, 16, 22, .ref xb), (r0, 16, 23, .ref xe), (r0, 16, 24, .ref xi), (r0, 16, 25, .ref xg), (r0, 16, 27, .ref xp)] [(zm, 117, 3100, ca 1, ms), (xh, 118, 3100, ca 1, mh), (xn, 119, 3100, ca 1, mx), (xf, 120, 3100, ca 1, mf), (xt, 121, 3100, ca 1, mt), (xb, 122, 3100, ca 1, mb), (xe, 123, 3100, ca 1, me), (xi, 124, 3100, ca 3, mi), (xg, 125, 3100, ca 1, mn), (xp, 127, 3300, ca 1, fu)] [] H_9 locs_9 := ((hh_5.call hb_91 hb_92 hb_93 hb_94 hS_9 rfl (L1 := [(r0, 16, 17, .ref zm), (r0, 16, 18, .ref xh), (r0, 16, 19, .ref xn), (r0, 16, 20, .ref xf), (r0, 16, 21, .ref xt), (r0, 16, 22, .ref xb), (r0, 16, 23, .ref xe), (r0, 16, 24, .ref xi), (r0, 16, 25, .ref xg), (r0, 16, 27, .ref xp)]) [0, 1, 2, 3, 4, 5, 6, 7, 8, 9] rfl rfl (M1 := [(zm, 117, 3100, ca 1, ms), (xh, 118, 3100, ca 1, mh), (xn, 119, 3100, ca 1, mx), (xf, 120, 3100, ca 1, mf), (xt, 121, 3100, ca 1, mt), (xb, 122, 3100, ca 1, mb), (xe, 123, 3100, ca 1, me), (xi, 124, 3100, ca 3, mi), (xg, 125, 3100, ca 1, mn), (xp, 127, 3300, ca 1, fu)]) [0, 1, 2, 3, 4, 5, 6, 7, 8, 9] rfl rfl (I1 := []) [] rfl rfl).more hb_95)
            clear hh_5 ht_9 hvm_9 hz_9 hk_9 hS_9 hb_91 hb_92 hb_93 hb_94 hb_95
            obtain ⟨hr_10b, hr_10p⟩ := hr_10
            have hr_10' := jb_01 hr_10b
            refine lv_if_eq (tgt := 59) hx hb dX14_member_51 (by decide) (fun c_11 => ?_) (fun c_11 => ?_)
            · skip
              have c_11' : r_10.toInt = 0 := jb_eq (rfl) ((by decide)) c_11
              refine lv_iload_n hx hb dX14_member_59 rfl (lv_at hl 3 rfl) ?_
              refine lv_istore_n (lv' := [(3, .int v3_5), (0, .ref r0), (1, .int a1), (2, .ref r2), (4, .int v4_5)]) hx hb dX14_member_60 rfl hl (by decide) rfl (fun ls hl => ?_)
              refine lv_aload_n hx hb dX14_member_61 rfl (lv_at hl 1 rfl) ?_
              have hx0 : v4_5.toInt = 0 → jSo mx v4_5.toInt = -1 := fun h9 => by rw [h9]; exact hp6
              refine j7_read hx hb hown hK (C := RX14) (T := TX14) (N := 74) rfl hly_16_19 hlk_43 (hh_9.at 2 rfl) dX14_member_62 ?_
              refine lv_iload hx hb dX14_member_65 (lv_at hl 4 rfl) ?_
              refine j7_ialdM hx hb hK hh_9 hB119 1 rfl (by decide) hg_xn (x := v4_5.toInt) (rfl) (by omega) (j := 2) rfl dX14_member_67 (fun z_12 ez_12 (hz_12 : z_12.toInt = -1 ∨ z_12.toInt = 0 ∨ (((v4_5.toInt).toNat : Nat) < z_12.toInt ∧ z_12.toInt ≤ 3099)) => ?_)
              have hqz_12 : z_12.toInt = jSo mx (v4_5.toInt) := by unfold jSo; rw [ez_12]
              refine lv_istore (lv' := [(4, .int z_12), (3, .int v3_5), (0, .ref r0), (1, .int a1), (2, .ref r2)]) hx hb dX14_member_68 hl (by decide) rfl (fun ls hl => ?_)
              refine lv_goto (tgt := 27) hx hb dX14_member_70 (by decide) ?_
              exact L27 v3_5 z_12 (kf - 1) _ _ hh_9 (by refine ⟨by omega, by omega, by omega, by omega, by omega, by omega, ?_⟩; first | exact (jMn_s (by omega) (by omega) hqz_12 (Or.inl ⟨(by rw [← hqz_7, ← hqz_8, ← hr_10p]; omega), by omega⟩)).trans hi_5_6 | exact (jMn_s (by omega) (by omega) hqz_12 (Or.inr ⟨(by rw [← hqz_7, ← hqz_8, ← hr_10p]; omega), by omega⟩)).trans hi_5_6) (by omega) _ (lv_sub hl [2, 3, 4, 1, 0] rfl)
            · skip
              have c_11' : r_10.toInt ≠ 0 := jb_eq_n (rfl) ((by decide)) c_11
              refine lv_iload hx hb dX14_member_54 (lv_at hl 4 rfl) ?_
              refine lv_goto (tgt := 60) hx hb dX14_member_56 (by decide) ?_
              refine lv_istore_n (lv' := [(3, .int v4_5), (0, .ref r0), (1, .int a1), (2, .ref r2), (4, .int v4_5)]) hx hb dX14_member_60 rfl hl (by decide) rfl (fun ls hl => ?_)
              refine lv_aload_n hx hb dX14_member_61 rfl (lv_at hl 1 rfl) ?_
              have hx0 : v4_5.toInt = 0 → jSo mx v4_5.toInt = -1 := fun h9 => by rw [h9]; exact hp6
              refine j7_read hx hb hown hK (C := RX14) (T := TX14) (N := 74) rfl hly_16_19 hlk_43 (hh_9.at 2 rfl) dX14_member_62 ?_
              refine lv_iload hx hb dX14_member_65 (lv_at hl 4 rfl) ?_
              refine j7_ialdM hx hb hK hh_9 hB119 1 rfl (by decide) hg_xn (x := v4_5.toInt) (rfl) (by omega) (j := 2) rfl dX14_member_67 (fun z_13 ez_13 (hz_13 : z_13.toInt = -1 ∨ z_13.toInt = 0 ∨ (((v4_5.toInt).toNat : Nat) < z_13.toInt ∧ z_13.toInt ≤ 3099)) => ?_)
              have hqz_13 : z_13.toInt = jSo mx (v4_5.toInt) := by unfold jSo; rw [ez_13]
              refine lv_istore (lv' := [(4, .int z_13), (3, .int v4_5), (0, .ref r0), (1, .int a1), (2, .ref r2)]) hx hb dX14_member_68 hl (by decide) rfl (fun ls hl => ?_)
              refine lv_goto (tgt := 27) hx hb dX14_member_70 (by decide) ?_
              exact L27 v4_5 z_13 (kf - 1) _ _ hh_9 (by refine ⟨by omega, by omega, by omega, by omega, by omega, by omega, ?_⟩; first | exact (jMn_s (by omega) (by omega) hqz_13 (Or.inl ⟨(by rw [← hqz_7, ← hqz_8, ← hr_10p]; omega), by omega⟩)).trans hi_5_6 | exact (jMn_s (by omega) (by omega) hqz_13 (Or.inr ⟨(by rw [← hqz_7, ← hqz_8, ← hr_10p]; omega), by omega⟩)).trans hi_5_6) (by omega) _ (lv_sub hl [2, 3, 4, 1, 0] rfl)
      exact L27 (((3102) : Int) : Int).toNat.succ (-1) z_4 (3102) _ _ hh (by refine ⟨by omega, by omega, by omega, by omega, by omega, by omega, ?_⟩; rw [hqz_4, hkm1]) (by omega) _ (lv_sub hl [2, 3, 4, 1, 0] rfl)
    · skip
      have c_3' : z_2.toInt ≠ 6 := jb_eq_n (rfl) ((by decide)) c_3
      refine lv_iconst (v := (-1)) hx hb dX14_member_17 (by decide) ?_
      rw [hQ]
      exact W.iret (v := (-1)) hx hb hr (fun t ht hW => ⟨⟨(-1), (), rfl, by refine ⟨?_, by omega, by omega⟩; refine Eq.trans ?_ (hp2.memb (f := f2) (n := n2) (a := a1.toInt) (by omega) (by omega)); unfold jMb; rw [if_pos (by exact Or.inr (by rw [← hqz_2]; omega))]; exact hkm1, hh.rt (M1 := []) [] rfl ht⟩, by rw [ht]; try exact hh.1.1, fun q h9 hq => by rw [ht]; try exact hh.1.2.1 q h9 hq⟩) hh.1.2.2 dX14_member_18
set_option maxHeartbeats 4000000 in
set_option maxRecDepth 20000 in
theorem uX14_isStringR (l : Launch) (dC : Nat → ClassId) (dI : Nat → Nat → Nat) (ca : Nat → ClassId) (base : Nat) (B : jF) (hB : jBok B) (hAp : jAp (dC, dI)) (hB16 : ∀ n G a H, B 16 n G a H ↔ jOb (dC, dI) 16 74 (F16 n G) a H) (hB117 : ∀ n G a H, B 117 n G a H ↔ jAr (dC, dI) (ca 1) (fun j z => True) n a H) (G0 : jT) (H0 : Heap) (r0 : Nat) (a1 : Int32) (zm : Nat) (xh : Nat) (xn : Nat) (xf : Nat) (xt : Nat) (xb : Nat) (xe : Nat) (xi : Nat) (xg : Nat) (xp : Nat) (T9 : Nat → Int → Int) (nd9 po9 : Int) (ms : Nat → Int32) (mh : Nat → Int32) (mx : Nat → Int32) (mf : Nat → Int32) (mt : Nat → Int32) (mb : Nat → Int32) (me : Nat → Int32) (mi : Nat → Int32) (mn : Nat → Int32) (fu : Nat → Int32) : Met l yX14_isString (jw yX14_isString cX14_isString 2 (some .boolean)) ({ frames := 0, cells := 0, slots := 0, locals := 0 }) (va_Pc [.ref r0, .int a1] (fun U => U.heap = H0 ∧ jX B base G0 [] H0 ∧ jG dC dI ca base U ∧ G0 r0 = some (16, 0) ∧ G0 zm = some (117, 3100) ∧ G0 xh = some (118, 3100) ∧ G0 xn = some (119, 3100) ∧ G0 xf = some (120, 3100) ∧ G0 xt = some (121, 3100) ∧ G0 xb = some (122, 3100) ∧ G0 xe = some (123, 3100) ∧ G0 xi = some (124, 3100) ∧ G0 xg = some (125, 3100) ∧ G0 xp = some (127, 3300) ∧ jP (dC, dI) G0 H0 [(r0, 16, 17, .ref zm), (r0, 16, 18, .ref xh), (r0, 16, 19, .ref xn), (r0, 16, 20, .ref xf), (r0, 16, 21, .ref xt), (r0, 16, 22, .ref xb), (r0, 16, 23, .ref xe), (r0, 16, 24, .ref xi), (r0, 16, 25, .ref xg), (r0, 16, 27, .ref xp)] ∧ jMc (dC, dI) G0 H0 [(zm, 117, 3100, ca 1, ms), (xh, 118, 3100, ca 1, mh), (xn, 119, 3100, ca 1, mx), (xf, 120, 3100, ca 1, mf), (xt, 121, 3100, ca 1, mt), (xb, 122, 3100, ca 1, mb), (xe, 123, 3100, ca 1, me), (xi, 124, 3100, ca 3, mi), (xg, 125, 3100, ca 1, mn), (xp, 127, 3300, ca 1, fu)] ∧ 0 ≤ nd9 ∧ nd9 ≤ 3100 ∧ jjRB T9 nd9 po9 ms mh mx mf mt mb me mi mn fu ∧ a1.toInt < nd9)) (va_Qi (S := Unit) (fun r u => (r = 0 ∨ r = 1) ∧ (((r.toInt = 1 ∧ jqK T9 nd9 a1.toInt = 3) ∨ (r.toInt = 0 ∧ ¬ jqK T9 nd9 a1.toInt = 3)))) (fun u t => jRt (dC, dI) B base G0 EX14_isStringR H0 [] t.heap) (jA base)) 0 0 (jA base) := by
  refine Met.ofW (cc := cX14_isString) (maxL := 2) (ret := (some .boolean)) (by decide) rfl ?_
  intro p e s m args below meth c s₁ Bd hml hv
  obtain ⟨rfl, hH0, hX, hG, hg_r0, hg_zm, hg_xh, hg_xn, hg_xf, hg_xt, hg_xb, hg_xe, hg_xi, hg_xg, hg_xp, hP0, hM0, hp0, hp1, hp2, hp3⟩ := hv
  have hK := hG.1
  have hx := Bd.exec
  have hb := Bd.bytes
  have hr := Bd.returns
  have hts := atoms_spec (ws := (jw yX14_isString cX14_isString 2 (some .boolean))) Bd.pre
  have htw : ∀ w ∈ jWl, w.before _ s = true := fun w h => hts w (List.mem_cons_of_mem _ h)
  have hown : s.vm.findClass RX14 = some m.cls := findClass_of_methodNamed Bd.named
  have hlocks := Bd.notSynchronized
  obtain ⟨Q, hQ⟩ : ∃ Q, Q = MQ below (va_Qi (S := Unit) (fun r u => (r = 0 ∨ r = 1) ∧ (((r.toInt = 1 ∧ jqK T9 nd9 a1.toInt = 3) ∨ (r.toInt = 0 ∧ ¬ jqK T9 nd9 a1.toInt = 3)))) (fun u t => jRt (dC, dI) B base G0 EX14_isStringR H0 [] t.heap) (jA base)) ([.ref r0, .int a1] : List Value).toArray s 0 0 (jA base) := ⟨_, rfl⟩
  rw [← hQ]
  have hl := lv_entry ([.ref r0, .int a1]) (n := 2) (Nat.le_of_ble_eq_true rfl)
  rw [lg_entry_eq]
  generalize (lg_sl ([.ref r0, .int a1]) ++ List.replicate (2 - (lg_sl ([.ref r0, .int a1])).length) Slot.unset).toArray = ls at hl ⊢
  have hl : lv_has ls 2 [(0, .ref r0), (1, .int a1)] := hl
  generalize hR : (headSpec (jw yX14_isString cX14_isString 2 (some .boolean)) ({ frames := 0, cells := 0, slots := 0, locals := 0 })).room = R
  subst hH0
  have hh : jSt (dC, dI) B base G0 G0 EX14_isStringR s.heap 0 0 [(r0, 16, 17, .ref zm), (r0, 16, 18, .ref xh), (r0, 16, 19, .ref xn), (r0, 16, 20, .ref xf), (r0, 16, 21, .ref xt), (r0, 16, 22, .ref xb), (r0, 16, 23, .ref xe), (r0, 16, 24, .ref xi), (r0, 16, 25, .ref xg), (r0, 16, 27, .ref xp)] [(zm, 117, 3100, ca 1, ms), (xh, 118, 3100, ca 1, mh), (xn, 119, 3100, ca 1, mx), (xf, 120, 3100, ca 1, mf), (xt, 121, 3100, ca 1, mt), (xb, 122, 3100, ca 1, mb), (xe, 123, 3100, ca 1, me), (xi, 124, 3100, ca 3, mi), (xg, 125, 3100, ca 1, mn), (xp, 127, 3300, ca 1, fu)] [] s.heap [] := jSt.start hX hP0 hM0 jIs.nil
  clear hX hP0
  have hk0 : (0 : Int32).toInt = 0 := by decide
  have hk1 : (1 : Int32).toInt = 1 := by decide
  have hk4 : (4 : Int32).toInt = 4 := by decide
  have hly_16_17 := htw (u_lay RX14 TX14 17) (jWc_wsX140 _ (u_in_lay (by decide)))
  have hlk_37 := (htw (.fieldLink RX14 37 "ProofServerModel" "sort" "[I") (jWr_11 _ (List.mem_of_getElem? (i := 4) rfl)))
  have hrg_a1 := jb_rng a1
  refine lv_iload_n hx hb dX14_isString_0 rfl (lv_at hl 1 rfl) ?_
  refine lv_if_lt (tgt := 18) hx hb dX14_isString_1 (by decide) (fun c_1 => ?_) (fun c_1 => ?_)
  · skip
    have c_1' : a1.toInt < 0 := jb_lt (rfl) ((by decide)) c_1
    refine lv_iconst (v := 0) hx hb dX14_isString_18 (by decide) ?_
    rw [hQ]
    exact W.zret (v := 0) hx hb hr (jb_nz (Or.inl rfl)) (fun t ht hW => ⟨⟨0, (), rfl, ⟨(Or.inl rfl), by exact Or.inr ⟨hk0, fun q => by rw [jqK.neg (by omega)] at q; exact absurd q (by decide)⟩⟩, hh.rt (M1 := []) [] rfl ht⟩, by rw [ht]; try exact hh.1.1, fun q h9 hq => by rw [ht]; try exact hh.1.2.1 q h9 hq⟩) hh.1.2.2 dX14_isString_19
  · skip
    have c_1' : a1.toInt ≥ 0 := jb_lt_n (rfl) ((by decide)) c_1
    refine lv_aload_n hx hb dX14_isString_4 rfl (lv_at hl 0 rfl) ?_
    refine j7_read hx hb hown hK (C := RX14) (T := TX14) (N := 74) rfl hly_16_17 hlk_37 (hh.at 0 rfl) dX14_isString_5 ?_
    refine lv_iload_n hx hb dX14_isString_8 rfl (lv_at hl 1 rfl) ?_
    refine j7_ialdM hx hb hK hh hB117 1 rfl (by decide) hg_zm (x := a1.toInt) (rfl) (by omega) (j := 0) rfl dX14_isString_9 (fun z_2 ez_2 (hz_2 : True) => ?_)
    have hqz_2 : z_2.toInt = jSo ms (a1.toInt) := by unfold jSo; rw [ez_2]
    refine lv_iconst (v := 4) hx hb dX14_isString_10 (by decide) ?_
    refine lv_icmp_ne (tgt := 18) hx hb dX14_isString_11 (by decide) (fun c_3 => ?_) (fun c_3 => ?_)
    · skip
      have c_3' : z_2.toInt ≠ 4 := jb_ne (rfl) ((by decide)) c_3
      refine lv_iconst (v := 0) hx hb dX14_isString_18 (by decide) ?_
      rw [hQ]
      exact W.zret (v := 0) hx hb hr (jb_nz (Or.inl rfl)) (fun t ht hW => ⟨⟨0, (), rfl, ⟨(Or.inl rfl), by have h9 := hp2.str (a := a1.toInt) (by omega) (by omega); have h8 := hqz_2; exact Or.inr ⟨hk0, (h9.resolve_left (fun q => by have h7 := q.1; omega)).2⟩⟩, hh.rt (M1 := []) [] rfl ht⟩, by rw [ht]; try exact hh.1.1, fun q h9 hq => by rw [ht]; try exact hh.1.2.1 q h9 hq⟩) hh.1.2.2 dX14_isString_19
    · skip
      have c_3' : z_2.toInt = 4 := jb_ne_n (rfl) ((by decide)) c_3
      refine lv_iconst (v := 1) hx hb dX14_isString_14 (by decide) ?_
      refine lv_goto (tgt := 19) hx hb dX14_isString_15 (by decide) ?_
      rw [hQ]
      exact W.zret (v := 1) hx hb hr (jb_nz (Or.inr rfl)) (fun t ht hW => ⟨⟨1, (), rfl, ⟨(Or.inr rfl), by have h9 := hp2.str (a := a1.toInt) (by omega) (by omega); have h8 := hqz_2; exact Or.inl ⟨hk1, (h9.resolve_right (fun q => q.1 (by omega))).2.1⟩⟩, hh.rt (M1 := []) [] rfl ht⟩, by rw [ht]; try exact hh.1.1, fun q h9 hq => by rw [ht]; try exact hh.1.2.1 q h9 hq⟩) hh.1.2.2 dX14_isString_19
set_option maxHeartbeats 4000000 in
set_option maxRecDepth 20000 in
theorem uX14_isWholeR (l : Launch) (dC : Nat → ClassId) (dI : Nat → Nat → Nat) (ca : Nat → ClassId) (base : Nat) (B : jF) (hB : jBok B) (hAp : jAp (dC, dI)) (hB16 : ∀ n G a H, B 16 n G a H ↔ jOb (dC, dI) 16 74 (F16 n G) a H) (hB117 : ∀ n G a H, B 117 n G a H ↔ jAr (dC, dI) (ca 1) (fun j z => True) n a H) (hB124 : ∀ n G a H, B 124 n G a H ↔ jAr (dC, dI) (ca 3) (fun j z => (z = 0 ∨ z = 1)) n a H) (G0 : jT) (H0 : Heap) (r0 : Nat) (a1 : Int32) (zm : Nat) (xh : Nat) (xn : Nat) (xf : Nat) (xt : Nat) (xb : Nat) (xe : Nat) (xi : Nat) (xg : Nat) (xp : Nat) (T9 : Nat → Int → Int) (nd9 po9 : Int) (ms : Nat → Int32) (mh : Nat → Int32) (mx : Nat → Int32) (mf : Nat → Int32) (mt : Nat → Int32) (mb : Nat → Int32) (me : Nat → Int32) (mi : Nat → Int32) (mn : Nat → Int32) (fu : Nat → Int32) : Met l yX14_isWhole (jw yX14_isWhole cX14_isWhole 2 (some .boolean)) ({ frames := 0, cells := 0, slots := 0, locals := 0 }) (va_Pc [.ref r0, .int a1] (fun U => U.heap = H0 ∧ jX B base G0 [] H0 ∧ jG dC dI ca base U ∧ G0 r0 = some (16, 0) ∧ G0 zm = some (117, 3100) ∧ G0 xh = some (118, 3100) ∧ G0 xn = some (119, 3100) ∧ G0 xf = some (120, 3100) ∧ G0 xt = some (121, 3100) ∧ G0 xb = some (122, 3100) ∧ G0 xe = some (123, 3100) ∧ G0 xi = some (124, 3100) ∧ G0 xg = some (125, 3100) ∧ G0 xp = some (127, 3300) ∧ jP (dC, dI) G0 H0 [(r0, 16, 17, .ref zm), (r0, 16, 18, .ref xh), (r0, 16, 19, .ref xn), (r0, 16, 20, .ref xf), (r0, 16, 21, .ref xt), (r0, 16, 22, .ref xb), (r0, 16, 23, .ref xe), (r0, 16, 24, .ref xi), (r0, 16, 25, .ref xg), (r0, 16, 27, .ref xp)] ∧ jMc (dC, dI) G0 H0 [(zm, 117, 3100, ca 1, ms), (xh, 118, 3100, ca 1, mh), (xn, 119, 3100, ca 1, mx), (xf, 120, 3100, ca 1, mf), (xt, 121, 3100, ca 1, mt), (xb, 122, 3100, ca 1, mb), (xe, 123, 3100, ca 1, me), (xi, 124, 3100, ca 3, mi), (xg, 125, 3100, ca 1, mn), (xp, 127, 3300, ca 1, fu)] ∧ 0 ≤ nd9 ∧ nd9 ≤ 3100 ∧ jjRB T9 nd9 po9 ms mh mx mf mt mb me mi mn fu ∧ a1.toInt < nd9)) (va_Qi (S := Unit) (fun r u => (r = 0 ∨ r = 1) ∧ (((r.toInt = 1 ∧ jqK T9 nd9 a1.toInt = 4) ∨ (r.toInt = 0 ∧ ¬ jqK T9 nd9 a1.toInt = 4)))) (fun u t => jRt (dC, dI) B base G0 EX14_isWholeR H0 [] t.heap) (jA base)) 0 0 (jA base) := by
  refine Met.ofW (cc := cX14_isWhole) (maxL := 2) (ret := (some .boolean)) (by decide) rfl ?_
  intro p e s m args below meth c s₁ Bd hml hv
  obtain ⟨rfl, hH0, hX, hG, hg_r0, hg_zm, hg_xh, hg_xn, hg_xf, hg_xt, hg_xb, hg_xe, hg_xi, hg_xg, hg_xp, hP0, hM0, hp0, hp1, hp2, hp3⟩ := hv
  have hK := hG.1
  have hx := Bd.exec
  have hb := Bd.bytes
  have hr := Bd.returns
  have hts := atoms_spec (ws := (jw yX14_isWhole cX14_isWhole 2 (some .boolean))) Bd.pre
  have htw : ∀ w ∈ jWl, w.before _ s = true := fun w h => hts w (List.mem_cons_of_mem _ h)
  have hown : s.vm.findClass RX14 = some m.cls := findClass_of_methodNamed Bd.named
  have hlocks := Bd.notSynchronized
  obtain ⟨Q, hQ⟩ : ∃ Q, Q = MQ below (va_Qi (S := Unit) (fun r u => (r = 0 ∨ r = 1) ∧ (((r.toInt = 1 ∧ jqK T9 nd9 a1.toInt = 4) ∨ (r.toInt = 0 ∧ ¬ jqK T9 nd9 a1.toInt = 4)))) (fun u t => jRt (dC, dI) B base G0 EX14_isWholeR H0 [] t.heap) (jA base)) ([.ref r0, .int a1] : List Value).toArray s 0 0 (jA base) := ⟨_, rfl⟩
  rw [← hQ]
  have hl := lv_entry ([.ref r0, .int a1]) (n := 2) (Nat.le_of_ble_eq_true rfl)
  rw [lg_entry_eq]
  generalize (lg_sl ([.ref r0, .int a1]) ++ List.replicate (2 - (lg_sl ([.ref r0, .int a1])).length) Slot.unset).toArray = ls at hl ⊢
  have hl : lv_has ls 2 [(0, .ref r0), (1, .int a1)] := hl
  generalize hR : (headSpec (jw yX14_isWhole cX14_isWhole 2 (some .boolean)) ({ frames := 0, cells := 0, slots := 0, locals := 0 })).room = R
  subst hH0
  have hh : jSt (dC, dI) B base G0 G0 EX14_isWholeR s.heap 0 0 [(r0, 16, 17, .ref zm), (r0, 16, 18, .ref xh), (r0, 16, 19, .ref xn), (r0, 16, 20, .ref xf), (r0, 16, 21, .ref xt), (r0, 16, 22, .ref xb), (r0, 16, 23, .ref xe), (r0, 16, 24, .ref xi), (r0, 16, 25, .ref xg), (r0, 16, 27, .ref xp)] [(zm, 117, 3100, ca 1, ms), (xh, 118, 3100, ca 1, mh), (xn, 119, 3100, ca 1, mx), (xf, 120, 3100, ca 1, mf), (xt, 121, 3100, ca 1, mt), (xb, 122, 3100, ca 1, mb), (xe, 123, 3100, ca 1, me), (xi, 124, 3100, ca 3, mi), (xg, 125, 3100, ca 1, mn), (xp, 127, 3300, ca 1, fu)] [] s.heap [] := jSt.start hX hP0 hM0 jIs.nil
  clear hX hP0
  have hk0 : (0 : Int32).toInt = 0 := by decide
  have hk1 : (1 : Int32).toInt = 1 := by decide
  have hk3 : (3 : Int32).toInt = 3 := by decide
  have hly_16_17 := htw (u_lay RX14 TX14 17) (jWc_wsX140 _ (u_in_lay (by decide)))
  have hly_16_24 := htw (u_lay RX14 TX14 24) (jWc_wsX140 _ (u_in_lay (by decide)))
  have hlk_37 := (htw (.fieldLink RX14 37 "ProofServerModel" "sort" "[I") (jWr_11 _ (List.mem_of_getElem? (i := 4) rfl)))
  have hlk_58 := (htw (.fieldLink RX14 58 "ProofServerModel" "isInt" "[Z") (jWr_11 _ (List.mem_of_getElem? (i := 12) rfl)))
  have hrg_a1 := jb_rng a1
  refine lv_iload_n hx hb dX14_isWhole_0 rfl (lv_at hl 1 rfl) ?_
  refine lv_if_lt (tgt := 27) hx hb dX14_isWhole_1 (by decide) (fun c_1 => ?_) (fun c_1 => ?_)
  · skip
    have c_1' : a1.toInt < 0 := jb_lt (rfl) ((by decide)) c_1
    refine lv_iconst (v := 0) hx hb dX14_isWhole_27 (by decide) ?_
    rw [hQ]
    exact W.zret (v := 0) hx hb hr (jb_nz (Or.inl rfl)) (fun t ht hW => ⟨⟨0, (), rfl, ⟨(Or.inl rfl), by exact Or.inr ⟨hk0, fun q => by rw [jqK.neg (by omega)] at q; exact absurd q (by decide)⟩⟩, hh.rt (M1 := []) [] rfl ht⟩, by rw [ht]; try exact hh.1.1, fun q h9 hq => by rw [ht]; try exact hh.1.2.1 q h9 hq⟩) hh.1.2.2 dX14_isWhole_28
  · skip
    have c_1' : a1.toInt ≥ 0 := jb_lt_n (rfl) ((by decide)) c_1
    refine lv_aload_n hx hb dX14_isWhole_4 rfl (lv_at hl 0 rfl) ?_
    refine j7_read hx hb hown hK (C := RX14) (T := TX14) (N := 74) rfl hly_16_17 hlk_37 (hh.at 0 rfl) dX14_isWhole_5 ?_
    refine lv_iload_n hx hb dX14_isWhole_8 rfl (lv_at hl 1 rfl) ?_
    refine j7_ialdM hx hb hK hh hB117 1 rfl (by decide) hg_zm (x := a1.toInt) (rfl) (by omega) (j := 0) rfl dX14_isWhole_9 (fun z_2 ez_2 (hz_2 : True) => ?_)
    have hqz_2 : z_2.toInt = jSo ms (a1.toInt) := by unfold jSo; rw [ez_2]
    refine lv_iconst (v := 3) hx hb dX14_isWhole_10 (by decide) ?_
    refine lv_icmp_ne (tgt := 27) hx hb dX14_isWhole_11 (by decide) (fun c_3 => ?_) (fun c_3 => ?_)
    · skip
      have c_3' : z_2.toInt ≠ 3 := jb_ne (rfl) ((by decide)) c_3
      refine lv_iconst (v := 0) hx hb dX14_isWhole_27 (by decide) ?_
      rw [hQ]
      exact W.zret (v := 0) hx hb hr (jb_nz (Or.inl rfl)) (fun t ht hW => ⟨⟨0, (), rfl, ⟨(Or.inl rfl), by have h9 := hp2.whl (a := a1.toInt) (by omega) (by omega); have h8 := hqz_2; exact Or.inr ⟨hk0, (h9.resolve_left (fun q => by have h6 := q.1; have h5 := q.2.1; omega)).2⟩⟩, hh.rt (M1 := []) [] rfl ht⟩, by rw [ht]; try exact hh.1.1, fun q h9 hq => by rw [ht]; try exact hh.1.2.1 q h9 hq⟩) hh.1.2.2 dX14_isWhole_28
    · skip
      have c_3' : z_2.toInt = 3 := jb_ne_n (rfl) ((by decide)) c_3
      refine lv_aload_n hx hb dX14_isWhole_14 rfl (lv_at hl 0 rfl) ?_
      refine j7_read hx hb hown hK (C := RX14) (T := TX14) (N := 74) rfl hly_16_24 hlk_58 (hh.at 7 rfl) dX14_isWhole_15 ?_
      refine lv_iload_n hx hb dX14_isWhole_18 rfl (lv_at hl 1 rfl) ?_
      refine j7_zaldM hx hb hK hh hB124 3 rfl (by decide) hg_xi (x := a1.toInt) (rfl) (by omega) (j := 7) rfl dX14_isWhole_19 (fun z_4 ez_4 (hz_4 : (z_4 = 0 ∨ z_4 = 1)) => ?_)
      have hqz_4 : z_4.toInt = jSo mi (a1.toInt) := by unfold jSo; rw [ez_4]
      have hz_4' := jb_01 hz_4
      refine lv_if_eq (tgt := 27) hx hb dX14_isWhole_20 (by decide) (fun c_5 => ?_) (fun c_5 => ?_)
      · skip
        have c_5' : z_4.toInt = 0 := jb_eq (rfl) ((by decide)) c_5
        refine lv_iconst (v := 0) hx hb dX14_isWhole_27 (by decide) ?_
        rw [hQ]
        exact W.zret (v := 0) hx hb hr (jb_nz (Or.inl rfl)) (fun t ht hW => ⟨⟨0, (), rfl, ⟨(Or.inl rfl), by have h9 := hp2.whl (a := a1.toInt) (by omega) (by omega); have h8 := hqz_2; have h7 := hqz_4; exact Or.inr ⟨hk0, (h9.resolve_left (fun q => by have h6 := q.1; have h5 := q.2.1; omega)).2⟩⟩, hh.rt (M1 := []) [] rfl ht⟩, by rw [ht]; try exact hh.1.1, fun q h9 hq => by rw [ht]; try exact hh.1.2.1 q h9 hq⟩) hh.1.2.2 dX14_isWhole_28
      · skip
        have c_5' : z_4.toInt ≠ 0 := jb_eq_n (rfl) ((by decide)) c_5
        refine lv_iconst (v := 1) hx hb dX14_isWhole_23 (by decide) ?_
        refine lv_goto (tgt := 28) hx hb dX14_isWhole_24 (by decide) ?_
        rw [hQ]
        exact W.zret (v := 1) hx hb hr (jb_nz (Or.inr rfl)) (fun t ht hW => ⟨⟨1, (), rfl, ⟨(Or.inr rfl), by have h9 := hp2.whl (a := a1.toInt) (by omega) (by omega); have h8 := hqz_2; have h7 := hqz_4; exact Or.inl ⟨hk1, (h9.resolve_right (fun q => q.1.elim (fun e => e (by omega)) (fun e => by omega))).2.2.1⟩⟩, hh.rt (M1 := []) [] rfl ht⟩, by rw [ht]; try exact hh.1.1, fun q h9 hq => by rw [ht]; try exact hh.1.2.1 q h9 hq⟩) hh.1.2.2 dX14_isWhole_28
set_option maxHeartbeats 4000000 in
set_option maxRecDepth 20000 in
theorem uX14_lineOfR (l : Launch) (dC : Nat → ClassId) (dI : Nat → Nat → Nat) (ca : Nat → ClassId) (base : Nat) (B : jF) (hB : jBok B) (hAp : jAp (dC, dI)) (hB16 : ∀ n G a H, B 16 n G a H ↔ jOb (dC, dI) 16 74 (F16 n G) a H) (hB117 : ∀ n G a H, B 117 n G a H ↔ jAr (dC, dI) (ca 1) (fun j z => True) n a H) (hB118 : ∀ n G a H, B 118 n G a H ↔ jAr (dC, dI) (ca 1) (fun j z => -1 ≤ z.toInt ∧ z.toInt ≤ 3099) n a H) (hB119 : ∀ n G a H, B 119 n G a H ↔ jAr (dC, dI) (ca 1) (fun j z => z.toInt = -1 ∨ z.toInt = 0 ∨ ((j : Nat) < z.toInt ∧ z.toInt ≤ 3099)) n a H) (hB120 : ∀ n G a H, B 120 n G a H ↔ jAr (dC, dI) (ca 1) (fun j z => 0 ≤ z.toInt ∧ z.toInt ≤ 3300) n a H) (hB121 : ∀ n G a H, B 121 n G a H ↔ jAr (dC, dI) (ca 1) (fun j z => 0 ≤ z.toInt ∧ z.toInt ≤ 3300) n a H) (hB125 : ∀ n G a H, B 125 n G a H ↔ jAr (dC, dI) (ca 1) (fun j z => True) n a H) (hB127 : ∀ n G a H, B 127 n G a H ↔ jAr (dC, dI) (ca 1) (fun j z => True) n a H) (G0 : jT) (H0 : Heap) (r0 : Nat) (a1 : Int32) (zm : Nat) (xh : Nat) (xn : Nat) (xf : Nat) (xt : Nat) (xb : Nat) (xe : Nat) (xi : Nat) (xg : Nat) (xp : Nat) (T9 : Nat → Int → Int) (nd9 po9 : Int) (ms : Nat → Int32) (mh : Nat → Int32) (mx : Nat → Int32) (mf : Nat → Int32) (mt : Nat → Int32) (mb : Nat → Int32) (me : Nat → Int32) (mi : Nat → Int32) (mn : Nat → Int32) (fu : Nat → Int32) : Met l yX14_lineOf (jw yX14_lineOf cX14_lineOf 2 (some .int)) ({ frames := 6, cells := 0, slots := 0, locals := 189 }) (va_Pc [.ref r0, .int a1] (fun U => U.heap = H0 ∧ jX B base G0 [] H0 ∧ jG dC dI ca base U ∧ G0 r0 = some (16, 0) ∧ G0 zm = some (117, 3100) ∧ G0 xh = some (118, 3100) ∧ G0 xn = some (119, 3100) ∧ G0 xf = some (120, 3100) ∧ G0 xt = some (121, 3100) ∧ G0 xb = some (122, 3100) ∧ G0 xe = some (123, 3100) ∧ G0 xi = some (124, 3100) ∧ G0 xg = some (125, 3100) ∧ G0 xp = some (127, 3300) ∧ jP (dC, dI) G0 H0 [(r0, 16, 17, .ref zm), (r0, 16, 18, .ref xh), (r0, 16, 19, .ref xn), (r0, 16, 20, .ref xf), (r0, 16, 21, .ref xt), (r0, 16, 22, .ref xb), (r0, 16, 23, .ref xe), (r0, 16, 24, .ref xi), (r0, 16, 25, .ref xg), (r0, 16, 27, .ref xp)] ∧ jMc (dC, dI) G0 H0 [(zm, 117, 3100, ca 1, ms), (xh, 118, 3100, ca 1, mh), (xn, 119, 3100, ca 1, mx), (xf, 120, 3100, ca 1, mf), (xt, 121, 3100, ca 1, mt), (xb, 122, 3100, ca 1, mb), (xe, 123, 3100, ca 1, me), (xi, 124, 3100, ca 3, mi), (xg, 125, 3100, ca 1, mn), (xp, 127, 3300, ca 1, fu)] ∧ 0 ≤ nd9 ∧ nd9 ≤ 3100 ∧ jjRB T9 nd9 po9 ms mh mx mf mt mb me mi mn fu ∧ a1.toInt < nd9 ∧ jSo mx 0 = -1 ∧ jqK T9 nd9 (jqM T9 nd9 (jChT "line") 4 a1.toInt) = 4)) (va_Qi (S := Unit) (fun r u => (r.toInt = T9 2 (jqM T9 nd9 (jChT "line") 4 a1.toInt))) (fun u t => jRt (dC, dI) B base G0 EX14_lineOfR H0 [] t.heap) (jA base)) 0 0 (jA base) := by
  refine Met.ofW (cc := cX14_lineOf) (maxL := 2) (ret := (some .int)) (by decide) rfl ?_
  intro p e s m args below meth c s₁ Bd hml hv
  obtain ⟨rfl, hH0, hX, hG, hg_r0, hg_zm, hg_xh, hg_xn, hg_xf, hg_xt, hg_xb, hg_xe, hg_xi, hg_xg, hg_xp, hP0, hM0, hp0, hp1, hp2, hp3, hp4, hp5⟩ := hv
  have hK := hG.1
  have hx := Bd.exec
  have hb := Bd.bytes
  have hr := Bd.returns
  have hts := atoms_spec (ws := (jw yX14_lineOf cX14_lineOf 2 (some .int))) Bd.pre
  have htw : ∀ w ∈ jWl, w.before _ s = true := fun w h => hts w (List.mem_cons_of_mem _ h)
  have hown : s.vm.findClass RX14 = some m.cls := findClass_of_methodNamed Bd.named
  have hlocks := Bd.notSynchronized
  obtain ⟨Q, hQ⟩ : ∃ Q, Q = MQ below (va_Qi (S := Unit) (fun r u => (r.toInt = T9 2 (jqM T9 nd9 (jChT "line") 4 a1.toInt))) (fun u t => jRt (dC, dI) B base G0 EX14_lineOfR H0 [] t.heap) (jA base)) ([.ref r0, .int a1] : List Value).toArray s 0 0 (jA base) := ⟨_, rfl⟩
  rw [← hQ]
  have hl := lv_entry ([.ref r0, .int a1]) (n := 2) (Nat.le_of_ble_eq_true rfl)
  rw [lg_entry_eq]
  generalize (lg_sl ([.ref r0, .int a1]) ++ List.replicate (2 - (lg_sl ([.ref r0, .int a1])).length) Slot.unset).toArray = ls at hl ⊢
  have hl : lv_has ls 2 [(0, .ref r0), (1, .int a1)] := hl
  generalize hR : (headSpec (jw yX14_lineOf cX14_lineOf 2 (some .int)) ({ frames := 6, cells := 0, slots := 0, locals := 189 })).room = R
  subst hH0
  have hh : jSt (dC, dI) B base G0 G0 EX14_lineOfR s.heap 0 0 [(r0, 16, 17, .ref zm), (r0, 16, 18, .ref xh), (r0, 16, 19, .ref xn), (r0, 16, 20, .ref xf), (r0, 16, 21, .ref xt), (r0, 16, 22, .ref xb), (r0, 16, 23, .ref xe), (r0, 16, 24, .ref xi), (r0, 16, 25, .ref xg), (r0, 16, 27, .ref xp)] [(zm, 117, 3100, ca 1, ms), (xh, 118, 3100, ca 1, mh), (xn, 119, 3100, ca 1, mx), (xf, 120, 3100, ca 1, mf), (xt, 121, 3100, ca 1, mt), (xb, 122, 3100, ca 1, mb), (xe, 123, 3100, ca 1, me), (xi, 124, 3100, ca 3, mi), (xg, 125, 3100, ca 1, mn), (xp, 127, 3300, ca 1, fu)] [] s.heap [] := jSt.start hX hP0 hM0 jIs.nil
  clear hX hP0
  have hk0 : (0 : Int32).toInt = 0 := by decide
  have hk1 : (1 : Int32).toInt = 1 := by decide
  have hly_16_25 := htw (u_lay RX14 TX14 25) (jWc_wsX140 _ (u_in_lay (by decide)))
  have hlk_62 := (htw (.fieldLink RX14 62 "ProofServerModel" "ints" "[I") (jWr_11 _ (List.mem_of_getElem? (i := 13) rfl)))
  obtain ⟨str544, rstr544, hstr5440⟩ := hG.strT (o := RX14) (k := 544) (tx := "line") (List.mem_of_getElem? (i := 2895) (by decide +kernel))
  have hTstr544 : jStrF base str544 4 (jChT "line") s s.heap := hstr5440.F (by decide +kernel)
  have hstr544 : jStr base str544 4 s s.heap := hTstr544.str
  have hrg_a1 := jb_rng a1
  refine lv_aload_n hx hb dX14_lineOf_0 rfl (lv_at hl 0 rfl) ?_
  refine j7_read hx hb hown hK (C := RX14) (T := TX14) (N := 74) rfl hly_16_25 hlk_62 (hh.at 8 rfl) dX14_lineOf_1 ?_
  refine lv_aload_n hx hb dX14_lineOf_4 rfl (lv_at hl 0 rfl) ?_
  refine lv_iload_n hx hb dX14_lineOf_5 rfl (lv_at hl 1 rfl) ?_
  refine j_ldcSw hx hb hown rstr544 dX14_lineOf_6 ?_
  refine va_calli (A0 := jA base) (H0 := s.heap) (va_runV (As := [.int a1, .ref str544]) (rest := [.ref xg]) ⟨hx, hb, hml, hown, hts⟩ (uX14_memberR l dC dI ca base B hB hAp hB16 hB117 hB118 hB119 hB120 hB121 hB127 G0 s.heap r0 a1 str544 4 (jChT "line") zm xh xn xf xt xb xe xi xg xp T9 nd9 po9 ms mh mx mf mt mb me mi mn fu) (cwV 2 hts (jgV (jWr_55 _ (List.mem_of_getElem? (i := 15) rfl)) (jWr_55 _ (List.mem_of_getElem? (i := 16) rfl)) (jWr_55 _ (List.mem_of_getElem? (i := 17) rfl)) (jWr_1 _ (List.mem_of_getElem? (i := 5) rfl)) (jWr_55 _ (List.mem_of_getElem? (i := 18) rfl))) rfl rfl rfl (by decide +kernel) ⟨by rw [← hR]; exact Nat.le_of_ble_eq_true rfl, by rw [← hR]; exact Nat.le_of_ble_eq_true rfl⟩) ⟨fun a U g mk q => by obtain ⟨q0, q1, q2, qK, q10, q11, q12, q13, q14, q15, q16, q17, q18, q19, q20, q21, q22, q23, q24⟩ := q; exact ⟨q0, q1, q2, jG.calling g mk a qK, (q10.moved (Vm.Alike.refl U.vm)), q11, q12, q13, q14, q15, q16, q17, q18, q19, q20, q21, q22, q23, q24⟩, hh.recv (C := RX14) (T := TX14) (N := 74) hB16 rfl (by decide) hg_r0 hK, fun U hU hW => ⟨rfl, hU, hh.2.1, hG.step hW hU hh.1, (hTstr544.moved hW.alike).kept hh.1.2.1, hg_r0, hg_zm, hg_xh, hg_xn, hg_xf, hg_xt, hg_xb, hg_xe, hg_xi, hg_xg, hg_xp, (hh.2.2.1.sub (L1 := [(r0, 16, 17, .ref zm), (r0, 16, 18, .ref xh), (r0, 16, 19, .ref xn), (r0, 16, 20, .ref xf), (r0, 16, 21, .ref xt), (r0, 16, 22, .ref xb), (r0, 16, 23, .ref xe), (r0, 16, 24, .ref xi), (r0, 16, 25, .ref xg), (r0, 16, 27, .ref xp)]) [0, 1, 2, 3, 4, 5, 6, 7, 8, 9] rfl), (hh.2.2.2.2.2.2.2.1.sub (L1 := [(zm, 117, 3100, ca 1, ms), (xh, 118, 3100, ca 1, mh), (xn, 119, 3100, ca 1, mx), (xf, 120, 3100, ca 1, mf), (xt, 121, 3100, ca 1, mt), (xb, 122, 3100, ca 1, mb), (xe, 123, 3100, ca 1, me), (xi, 124, 3100, ca 3, mi), (xg, 125, 3100, ca 1, mn), (xp, 127, 3300, ca 1, fu)]) [0, 1, 2, 3, 4, 5, 6, 7, 8, 9] rfl), by first | omega | (refine ⟨?_, ?_, ?_, ?_, ?_, ?_, ?_⟩ <;> (first | omega | rfl | assumption | decide | exact Or.inl rfl | exact Or.inr rfl | (simp only; omega)))⟩⟩ rfl rfl hl.1 rfl (lv_room (Nat.le_of_ble_eq_true rfl)) dX14_lineOf_9 ⟨Nat.zero_le _, Nat.zero_le _⟩) hh.1 (fun q _ h => h) (fun q h => h) (fun r_2 u_1 t_1 H_1 locs_1 ht_1 hvm_1 hr_2 hb_1 hz_1 hk_1 hS_1 => ?_)
  rw [ht_1] at hb_1
  obtain ⟨hb_11, hb_12, hb_13, hb_14, hb_15⟩ := hb_1
  have hh_1 : jSt (dC, dI) B base G0 G0 EX14_lineOfR s.heap 0 0 [(r0, 16, 17, .ref zm), (r0, 16, 18, .ref xh), (r0, 16, 19, .ref xn), (r0, 16, 20, .ref xf), (r0, 16, 21, .ref xt), (r0, 16, 22, .ref xb), (r0, 16, 23, .ref xe), (r0, 16, 24, .ref xi), (r0, 16, 25, .ref xg), (r0, 16, 27, .ref xp)] [(zm, 117, 3100, ca 1, ms), (xh, 118, 3100, ca 1, mh), (xn, 119, 3100, ca 1, mx), (xf, 120, 3100, ca 1, mf), (xt, 121, 3100, ca 1, mt), (xb, 122, 3100, ca 1, mb), (xe, 123, 3100, ca 1, me), (xi, 124, 3100, ca 3, mi), (xg, 125, 3100, ca 1, mn), (xp, 127, 3300, ca 1, fu)] [] H_1 locs_1 := ((hh.call hb_11 hb_12 hb_13 hb_14 hS_1 rfl (L1 := [(r0, 16, 17, .ref zm), (r0, 16, 18, .ref xh), (r0, 16, 19, .ref xn), (r0, 16, 20, .ref xf), (r0, 16, 21, .ref xt), (r0, 16, 22, .ref xb), (r0, 16, 23, .ref xe), (r0, 16, 24, .ref xi), (r0, 16, 25, .ref xg), (r0, 16, 27, .ref xp)]) [0, 1, 2, 3, 4, 5, 6, 7, 8, 9] rfl rfl (M1 := [(zm, 117, 3100, ca 1, ms), (xh, 118, 3100, ca 1, mh), (xn, 119, 3100, ca 1, mx), (xf, 120, 3100, ca 1, mf), (xt, 121, 3100, ca 1, mt), (xb, 122, 3100, ca 1, mb), (xe, 123, 3100, ca 1, me), (xi, 124, 3100, ca 3, mi), (xg, 125, 3100, ca 1, mn), (xp, 127, 3300, ca 1, fu)]) [0, 1, 2, 3, 4, 5, 6, 7, 8, 9] rfl rfl (I1 := []) [] rfl rfl).more hb_15)
  clear hh ht_1 hvm_1 hz_1 hk_1 hS_1 hb_11 hb_12 hb_13 hb_14 hb_15
  obtain ⟨hr_2_0, hr_2_1, hr_2_2⟩ := hr_2
  have hk9 := hp5
  rw [← hr_2_0] at hk9
  have hka := jqK.p (T := T9) (v := nd9) (i := r_2.toInt) (by omega)
  have hw9 := (hp2.whl (a := r_2.toInt) hka.1 hka.2.1).resolve_right (fun q => q.2 hk9)
  refine j7_ialdM hx hb hK hh_1 hB125 1 rfl (by decide) hg_xg (x := r_2.toInt) (rfl) (by omega) (j := 8) rfl dX14_lineOf_12 (fun z_3 ez_3 (hz_3 : True) => ?_)
  have hqz_3 : z_3.toInt = jSo mn (r_2.toInt) := by unfold jSo; rw [ez_3]
  rw [hQ]
  exact W.iret (v := z_3) hx hb hr (fun t ht hW => ⟨⟨z_3, (), rfl, by rw [← hr_2_0]; have h9 := hw9.2.2.2; have h8 := hqz_3; omega, hh_1.rt (M1 := []) [] rfl ht⟩, by rw [ht]; try exact hh_1.1.1, fun q h9 hq => by rw [ht]; try exact hh_1.1.2.1 q h9 hq⟩) hh_1.1.2.2 dX14_lineOf_13
set_option maxHeartbeats 4000000 in
set_option maxRecDepth 20000 in
theorem uX14_characterOfR (l : Launch) (dC : Nat → ClassId) (dI : Nat → Nat → Nat) (ca : Nat → ClassId) (base : Nat) (B : jF) (hB : jBok B) (hAp : jAp (dC, dI)) (hB16 : ∀ n G a H, B 16 n G a H ↔ jOb (dC, dI) 16 74 (F16 n G) a H) (hB117 : ∀ n G a H, B 117 n G a H ↔ jAr (dC, dI) (ca 1) (fun j z => True) n a H) (hB118 : ∀ n G a H, B 118 n G a H ↔ jAr (dC, dI) (ca 1) (fun j z => -1 ≤ z.toInt ∧ z.toInt ≤ 3099) n a H) (hB119 : ∀ n G a H, B 119 n G a H ↔ jAr (dC, dI) (ca 1) (fun j z => z.toInt = -1 ∨ z.toInt = 0 ∨ ((j : Nat) < z.toInt ∧ z.toInt ≤ 3099)) n a H) (hB120 : ∀ n G a H, B 120 n G a H ↔ jAr (dC, dI) (ca 1) (fun j z => 0 ≤ z.toInt ∧ z.toInt ≤ 3300) n a H) (hB121 : ∀ n G a H, B 121 n G a H ↔ jAr (dC, dI) (ca 1) (fun j z => 0 ≤ z.toInt ∧ z.toInt ≤ 3300) n a H) (hB125 : ∀ n G a H, B 125 n G a H ↔ jAr (dC, dI) (ca 1) (fun j z => True) n a H) (hB127 : ∀ n G a H, B 127 n G a H ↔ jAr (dC, dI) (ca 1) (fun j z => True) n a H) (G0 : jT) (H0 : Heap) (r0 : Nat) (a1 : Int32) (zm : Nat) (xh : Nat) (xn : Nat) (xf : Nat) (xt : Nat) (xb : Nat) (xe : Nat) (xi : Nat) (xg : Nat) (xp : Nat) (T9 : Nat → Int → Int) (nd9 po9 : Int) (ms : Nat → Int32) (mh : Nat → Int32) (mx : Nat → Int32) (mf : Nat → Int32) (mt : Nat → Int32) (mb : Nat → Int32) (me : Nat → Int32) (mi : Nat → Int32) (mn : Nat → Int32) (fu : Nat → Int32) : Met l yX14_characterOf (jw yX14_characterOf cX14_characterOf 2 (some .int)) ({ frames := 6, cells := 0, slots := 0, locals := 189 }) (va_Pc [.ref r0, .int a1] (fun U => U.heap = H0 ∧ jX B base G0 [] H0 ∧ jG dC dI ca base U ∧ G0 r0 = some (16, 0) ∧ G0 zm = some (117, 3100) ∧ G0 xh = some (118, 3100) ∧ G0 xn = some (119, 3100) ∧ G0 xf = some (120, 3100) ∧ G0 xt = some (121, 3100) ∧ G0 xb = some (122, 3100) ∧ G0 xe = some (123, 3100) ∧ G0 xi = some (124, 3100) ∧ G0 xg = some (125, 3100) ∧ G0 xp = some (127, 3300) ∧ jP (dC, dI) G0 H0 [(r0, 16, 17, .ref zm), (r0, 16, 18, .ref xh), (r0, 16, 19, .ref xn), (r0, 16, 20, .ref xf), (r0, 16, 21, .ref xt), (r0, 16, 22, .ref xb), (r0, 16, 23, .ref xe), (r0, 16, 24, .ref xi), (r0, 16, 25, .ref xg), (r0, 16, 27, .ref xp)] ∧ jMc (dC, dI) G0 H0 [(zm, 117, 3100, ca 1, ms), (xh, 118, 3100, ca 1, mh), (xn, 119, 3100, ca 1, mx), (xf, 120, 3100, ca 1, mf), (xt, 121, 3100, ca 1, mt), (xb, 122, 3100, ca 1, mb), (xe, 123, 3100, ca 1, me), (xi, 124, 3100, ca 3, mi), (xg, 125, 3100, ca 1, mn), (xp, 127, 3300, ca 1, fu)] ∧ 0 ≤ nd9 ∧ nd9 ≤ 3100 ∧ jjRB T9 nd9 po9 ms mh mx mf mt mb me mi mn fu ∧ a1.toInt < nd9 ∧ jSo mx 0 = -1 ∧ jqK T9 nd9 (jqM T9 nd9 (jChT "character") 9 a1.toInt) = 4)) (va_Qi (S := Unit) (fun r u => (r.toInt = T9 2 (jqM T9 nd9 (jChT "character") 9 a1.toInt))) (fun u t => jRt (dC, dI) B base G0 EX14_characterOfR H0 [] t.heap) (jA base)) 0 0 (jA base) := by
  refine Met.ofW (cc := cX14_characterOf) (maxL := 2) (ret := (some .int)) (by decide) rfl ?_
  intro p e s m args below meth c s₁ Bd hml hv
  obtain ⟨rfl, hH0, hX, hG, hg_r0, hg_zm, hg_xh, hg_xn, hg_xf, hg_xt, hg_xb, hg_xe, hg_xi, hg_xg, hg_xp, hP0, hM0, hp0, hp1, hp2, hp3, hp4, hp5⟩ := hv
  have hK := hG.1
  have hx := Bd.exec
  have hb := Bd.bytes
  have hr := Bd.returns
  have hts := atoms_spec (ws := (jw yX14_characterOf cX14_characterOf 2 (some .int))) Bd.pre
  have htw : ∀ w ∈ jWl, w.before _ s = true := fun w h => hts w (List.mem_cons_of_mem _ h)
  have hown : s.vm.findClass RX14 = some m.cls := findClass_of_methodNamed Bd.named
  have hlocks := Bd.notSynchronized
  obtain ⟨Q, hQ⟩ : ∃ Q, Q = MQ below (va_Qi (S := Unit) (fun r u => (r.toInt = T9 2 (jqM T9 nd9 (jChT "character") 9 a1.toInt))) (fun u t => jRt (dC, dI) B base G0 EX14_characterOfR H0 [] t.heap) (jA base)) ([.ref r0, .int a1] : List Value).toArray s 0 0 (jA base) := ⟨_, rfl⟩
  rw [← hQ]
  have hl := lv_entry ([.ref r0, .int a1]) (n := 2) (Nat.le_of_ble_eq_true rfl)
  rw [lg_entry_eq]
  generalize (lg_sl ([.ref r0, .int a1]) ++ List.replicate (2 - (lg_sl ([.ref r0, .int a1])).length) Slot.unset).toArray = ls at hl ⊢
  have hl : lv_has ls 2 [(0, .ref r0), (1, .int a1)] := hl
  generalize hR : (headSpec (jw yX14_characterOf cX14_characterOf 2 (some .int)) ({ frames := 6, cells := 0, slots := 0, locals := 189 })).room = R
  subst hH0
  have hh : jSt (dC, dI) B base G0 G0 EX14_characterOfR s.heap 0 0 [(r0, 16, 17, .ref zm), (r0, 16, 18, .ref xh), (r0, 16, 19, .ref xn), (r0, 16, 20, .ref xf), (r0, 16, 21, .ref xt), (r0, 16, 22, .ref xb), (r0, 16, 23, .ref xe), (r0, 16, 24, .ref xi), (r0, 16, 25, .ref xg), (r0, 16, 27, .ref xp)] [(zm, 117, 3100, ca 1, ms), (xh, 118, 3100, ca 1, mh), (xn, 119, 3100, ca 1, mx), (xf, 120, 3100, ca 1, mf), (xt, 121, 3100, ca 1, mt), (xb, 122, 3100, ca 1, mb), (xe, 123, 3100, ca 1, me), (xi, 124, 3100, ca 3, mi), (xg, 125, 3100, ca 1, mn), (xp, 127, 3300, ca 1, fu)] [] s.heap [] := jSt.start hX hP0 hM0 jIs.nil
  clear hX hP0
  have hk0 : (0 : Int32).toInt = 0 := by decide
  have hk1 : (1 : Int32).toInt = 1 := by decide
  have hly_16_25 := htw (u_lay RX14 TX14 25) (jWc_wsX140 _ (u_in_lay (by decide)))
  have hlk_62 := (htw (.fieldLink RX14 62 "ProofServerModel" "ints" "[I") (jWr_11 _ (List.mem_of_getElem? (i := 13) rfl)))
  obtain ⟨str546, rstr546, hstr5460⟩ := hG.strT (o := RX14) (k := 546) (tx := "character") (List.mem_of_getElem? (i := 2896) (by decide +kernel))
  have hTstr546 : jStrF base str546 9 (jChT "character") s s.heap := hstr5460.F (by decide +kernel)
  have hstr546 : jStr base str546 9 s s.heap := hTstr546.str
  have hrg_a1 := jb_rng a1
  refine lv_aload_n hx hb dX14_characterOf_0 rfl (lv_at hl 0 rfl) ?_
  refine j7_read hx hb hown hK (C := RX14) (T := TX14) (N := 74) rfl hly_16_25 hlk_62 (hh.at 8 rfl) dX14_characterOf_1 ?_
  refine lv_aload_n hx hb dX14_characterOf_4 rfl (lv_at hl 0 rfl) ?_
  refine lv_iload_n hx hb dX14_characterOf_5 rfl (lv_at hl 1 rfl) ?_
  refine j_ldcSw hx hb hown rstr546 dX14_characterOf_6 ?_
  refine va_calli (A0 := jA base) (H0 := s.heap) (va_runV (As := [.int a1, .ref str546]) (rest := [.ref xg]) ⟨hx, hb, hml, hown, hts⟩ (uX14_memberR l dC dI ca base B hB hAp hB16 hB117 hB118 hB119 hB120 hB121 hB127 G0 s.heap r0 a1 str546 9 (jChT "character") zm xh xn xf xt xb xe xi xg xp T9 nd9 po9 ms mh mx mf mt mb me mi mn fu) (cwV 2 hts (jgV (jWr_55 _ (List.mem_of_getElem? (i := 15) rfl)) (jWr_55 _ (List.mem_of_getElem? (i := 16) rfl)) (jWr_55 _ (List.mem_of_getElem? (i := 17) rfl)) (jWr_1 _ (List.mem_of_getElem? (i := 5) rfl)) (jWr_55 _ (List.mem_of_getElem? (i := 18) rfl))) rfl rfl rfl (by decide +kernel) ⟨by rw [← hR]; exact Nat.le_of_ble_eq_true rfl, by rw [← hR]; exact Nat.le_of_ble_eq_true rfl⟩) ⟨fun a U g mk q => by obtain ⟨q0, q1, q2, qK, q10, q11, q12, q13, q14, q15, q16, q17, q18, q19, q20, q21, q22, q23, q24⟩ := q; exact ⟨q0, q1, q2, jG.calling g mk a qK, (q10.moved (Vm.Alike.refl U.vm)), q11, q12, q13, q14, q15, q16, q17, q18, q19, q20, q21, q22, q23, q24⟩, hh.recv (C := RX14) (T := TX14) (N := 74) hB16 rfl (by decide) hg_r0 hK, fun U hU hW => ⟨rfl, hU, hh.2.1, hG.step hW hU hh.1, (hTstr546.moved hW.alike).kept hh.1.2.1, hg_r0, hg_zm, hg_xh, hg_xn, hg_xf, hg_xt, hg_xb, hg_xe, hg_xi, hg_xg, hg_xp, (hh.2.2.1.sub (L1 := [(r0, 16, 17, .ref zm), (r0, 16, 18, .ref xh), (r0, 16, 19, .ref xn), (r0, 16, 20, .ref xf), (r0, 16, 21, .ref xt), (r0, 16, 22, .ref xb), (r0, 16, 23, .ref xe), (r0, 16, 24, .ref xi), (r0, 16, 25, .ref xg), (r0, 16, 27, .ref xp)]) [0, 1, 2, 3, 4, 5, 6, 7, 8, 9] rfl), (hh.2.2.2.2.2.2.2.1.sub (L1 := [(zm, 117, 3100, ca 1, ms), (xh, 118, 3100, ca 1, mh), (xn, 119, 3100, ca 1, mx), (xf, 120, 3100, ca 1, mf), (xt, 121, 3100, ca 1, mt), (xb, 122, 3100, ca 1, mb), (xe, 123, 3100, ca 1, me), (xi, 124, 3100, ca 3, mi), (xg, 125, 3100, ca 1, mn), (xp, 127, 3300, ca 1, fu)]) [0, 1, 2, 3, 4, 5, 6, 7, 8, 9] rfl), by first | omega | (refine ⟨?_, ?_, ?_, ?_, ?_, ?_, ?_⟩ <;> (first | omega | rfl | assumption | decide | exact Or.inl rfl | exact Or.inr rfl | (simp only; omega)))⟩⟩ rfl rfl hl.1 rfl (lv_room (Nat.le_of_ble_eq_true rfl)) dX14_characterOf_9 ⟨Nat.zero_le _, Nat.zero_le _⟩) hh.1 (fun q _ h => h) (fun q h => h) (fun r_2 u_1 t_1 H_1 locs_1 ht_1 hvm_1 hr_2 hb_1 hz_1 hk_1 hS_1 => ?_)
  rw [ht_1] at hb_1
  obtain ⟨hb_11, hb_12, hb_13, hb_14, hb_15⟩ := hb_1
  have hh_1 : jSt (dC, dI) B base G0 G0 EX14_characterOfR s.heap 0 0 [(r0, 16, 17, .ref zm), (r0, 16, 18, .ref xh), (r0, 16, 19, .ref xn), (r0, 16, 20, .ref xf), (r0, 16, 21, .ref xt), (r0, 16, 22, .ref xb), (r0, 16, 23, .ref xe), (r0, 16, 24, .ref xi), (r0, 16, 25, .ref xg), (r0, 16, 27, .ref xp)] [(zm, 117, 3100, ca 1, ms), (xh, 118, 3100, ca 1, mh), (xn, 119, 3100, ca 1, mx), (xf, 120, 3100, ca 1, mf), (xt, 121, 3100, ca 1, mt), (xb, 122, 3100, ca 1, mb), (xe, 123, 3100, ca 1, me), (xi, 124, 3100, ca 3, mi), (xg, 125, 3100, ca 1, mn), (xp, 127, 3300, ca 1, fu)] [] H_1 locs_1 := ((hh.call hb_11 hb_12 hb_13 hb_14 hS_1 rfl (L1 := [(r0, 16, 17, .ref zm), (r0, 16, 18, .ref xh), (r0, 16, 19, .ref xn), (r0, 16, 20, .ref xf), (r0, 16, 21, .ref xt), (r0, 16, 22, .ref xb), (r0, 16, 23, .ref xe), (r0, 16, 24, .ref xi), (r0, 16, 25, .ref xg), (r0, 16, 27, .ref xp)]) [0, 1, 2, 3, 4, 5, 6, 7, 8, 9] rfl rfl (M1 := [(zm, 117, 3100, ca 1, ms), (xh, 118, 3100, ca 1, mh), (xn, 119, 3100, ca 1, mx), (xf, 120, 3100, ca 1, mf), (xt, 121, 3100, ca 1, mt), (xb, 122, 3100, ca 1, mb), (xe, 123, 3100, ca 1, me), (xi, 124, 3100, ca 3, mi), (xg, 125, 3100, ca 1, mn), (xp, 127, 3300, ca 1, fu)]) [0, 1, 2, 3, 4, 5, 6, 7, 8, 9] rfl rfl (I1 := []) [] rfl rfl).more hb_15)
  clear hh ht_1 hvm_1 hz_1 hk_1 hS_1 hb_11 hb_12 hb_13 hb_14 hb_15
  obtain ⟨hr_2_0, hr_2_1, hr_2_2⟩ := hr_2
  have hk9 := hp5
  rw [← hr_2_0] at hk9
  have hka := jqK.p (T := T9) (v := nd9) (i := r_2.toInt) (by omega)
  have hw9 := (hp2.whl (a := r_2.toInt) hka.1 hka.2.1).resolve_right (fun q => q.2 hk9)
  refine j7_ialdM hx hb hK hh_1 hB125 1 rfl (by decide) hg_xg (x := r_2.toInt) (rfl) (by omega) (j := 8) rfl dX14_characterOf_12 (fun z_3 ez_3 (hz_3 : True) => ?_)
  have hqz_3 : z_3.toInt = jSo mn (r_2.toInt) := by unfold jSo; rw [ez_3]
  rw [hQ]
  exact W.iret (v := z_3) hx hb hr (fun t ht hW => ⟨⟨z_3, (), rfl, by rw [← hr_2_0]; have h9 := hw9.2.2.2; have h8 := hqz_3; omega, hh_1.rt (M1 := []) [] rfl ht⟩, by rw [ht]; try exact hh_1.1.1, fun q h9 hq => by rw [ht]; try exact hh_1.1.2.1 q h9 hq⟩) hh_1.1.2.2 dX14_characterOf_13
end
section
def EX14_isString_R : List (Nat × Nat) := []
def EX14_isIdR : List (Nat × Nat) := []
set_option maxHeartbeats 4000000 in
set_option maxRecDepth 20000 in
theorem uX14_isString_R (l : Launch) (dC : Nat → ClassId) (dI : Nat → Nat → Nat) (ca : Nat → ClassId) (base : Nat) (B : jF) (hB : jBok B) (hAp : jAp (dC, dI)) (hB16 : ∀ n G a H, B 16 n G a H ↔ jOb (dC, dI) 16 74 (F16 n G) a H) (hB117 : ∀ n G a H, B 117 n G a H ↔ jAr (dC, dI) (ca 1) (fun j z => True) n a H) (hB122 : ∀ n G a H, B 122 n G a H ↔ jAr (dC, dI) (ca 1) (fun j z => 0 ≤ z.toInt ∧ z.toInt ≤ 3100) n a H) (hB123 : ∀ n G a H, B 123 n G a H ↔ jAr (dC, dI) (ca 1) (fun j z => 0 ≤ z.toInt ∧ z.toInt ≤ 3100) n a H) (hB127 : ∀ n G a H, B 127 n G a H ↔ jAr (dC, dI) (ca 1) (fun j z => True) n a H) (G0 : jT) (H0 : Heap) (r0 : Nat) (a1 : Int32) (r2 : Nat) (n2 : Nat) (f2 : Nat → Int32) (zm : Nat) (xh : Nat) (xn : Nat) (xf : Nat) (xt : Nat) (xb : Nat) (xe : Nat) (xi : Nat) (xg : Nat) (xp : Nat) (T9 : Nat → Int → Int) (nd9 po9 : Int) (ms : Nat → Int32) (mh : Nat → Int32) (mx : Nat → Int32) (mf : Nat → Int32) (mt : Nat → Int32) (mb : Nat → Int32) (me : Nat → Int32) (mi : Nat → Int32) (mn : Nat → Int32) (fu : Nat → Int32) : Met l yX14_isString_ (jw yX14_isString_ cX14_isString_ 3 (some .boolean)) ({ frames := 5, cells := 0, slots := 0, locals := 165 }) (va_Pc [.ref r0, .int a1, .ref r2] (fun U => U.heap = H0 ∧ jX B base G0 [] H0 ∧ jG dC dI ca base U ∧ jStrF base r2 n2 f2 U H0 ∧ G0 r0 = some (16, 0) ∧ G0 zm = some (117, 3100) ∧ G0 xh = some (118, 3100) ∧ G0 xn = some (119, 3100) ∧ G0 xf = some (120, 3100) ∧ G0 xt = some (121, 3100) ∧ G0 xb = some (122, 3100) ∧ G0 xe = some (123, 3100) ∧ G0 xi = some (124, 3100) ∧ G0 xg = some (125, 3100) ∧ G0 xp = some (127, 3300) ∧ jP (dC, dI) G0 H0 [(r0, 16, 17, .ref zm), (r0, 16, 18, .ref xh), (r0, 16, 19, .ref xn), (r0, 16, 20, .ref xf), (r0, 16, 21, .ref xt), (r0, 16, 22, .ref xb), (r0, 16, 23, .ref xe), (r0, 16, 24, .ref xi), (r0, 16, 25, .ref xg), (r0, 16, 27, .ref xp)] ∧ jMc (dC, dI) G0 H0 [(zm, 117, 3100, ca 1, ms), (xh, 118, 3100, ca 1, mh), (xn, 119, 3100, ca 1, mx), (xf, 120, 3100, ca 1, mf), (xt, 121, 3100, ca 1, mt), (xb, 122, 3100, ca 1, mb), (xe, 123, 3100, ca 1, me), (xi, 124, 3100, ca 3, mi), (xg, 125, 3100, ca 1, mn), (xp, 127, 3300, ca 1, fu)] ∧ 0 ≤ nd9 ∧ nd9 ≤ 3100 ∧ jjRB T9 nd9 po9 ms mh mx mf mt mb me mi mn fu ∧ a1.toInt < nd9 ∧ n2 < 2147483648)) (va_Qi (S := Unit) (fun r u => (r = 0 ∨ r = 1) ∧ (r.toInt = jqI T9 nd9 f2 n2 a1.toInt)) (fun u t => jRt (dC, dI) B base G0 EX14_isString_R H0 [] t.heap) (jA base)) 0 0 (jA base) := by
  refine Met.ofW (cc := cX14_isString_) (maxL := 3) (ret := (some .boolean)) (by decide) rfl ?_
  intro p e s m args below meth c s₁ Bd hml hv
  obtain ⟨rfl, hH0, hX, hG, hstrF_r2, hg_r0, hg_zm, hg_xh, hg_xn, hg_xf, hg_xt, hg_xb, hg_xe, hg_xi, hg_xg, hg_xp, hP0, hM0, hp0, hp1, hp2, hp3, hp4⟩ := hv
  have hK := hG.1
  have hx := Bd.exec
  have hb := Bd.bytes
  have hr := Bd.returns
  have hts := atoms_spec (ws := (jw yX14_isString_ cX14_isString_ 3 (some .boolean))) Bd.pre
  have htw : ∀ w ∈ jWl, w.before _ s = true := fun w h => hts w (List.mem_cons_of_mem _ h)
  have hown : s.vm.findClass RX14 = some m.cls := findClass_of_methodNamed Bd.named
  have hlocks := Bd.notSynchronized
  obtain ⟨Q, hQ⟩ : ∃ Q, Q = MQ below (va_Qi (S := Unit) (fun r u => (r = 0 ∨ r = 1) ∧ (r.toInt = jqI T9 nd9 f2 n2 a1.toInt)) (fun u t => jRt (dC, dI) B base G0 EX14_isString_R H0 [] t.heap) (jA base)) ([.ref r0, .int a1, .ref r2] : List Value).toArray s 0 0 (jA base) := ⟨_, rfl⟩
  rw [← hQ]
  have hl := lv_entry ([.ref r0, .int a1, .ref r2]) (n := 3) (Nat.le_of_ble_eq_true rfl)
  rw [lg_entry_eq]
  generalize (lg_sl ([.ref r0, .int a1, .ref r2]) ++ List.replicate (3 - (lg_sl ([.ref r0, .int a1, .ref r2])).length) Slot.unset).toArray = ls at hl ⊢
  have hstr_r2 := hstrF_r2.str
  have hl : lv_has ls 3 [(0, .ref r0), (1, .int a1), (2, .ref r2)] := hl
  generalize hR : (headSpec (jw yX14_isString_ cX14_isString_ 3 (some .boolean)) ({ frames := 5, cells := 0, slots := 0, locals := 165 })).room = R
  subst hH0
  have hh : jSt (dC, dI) B base G0 G0 EX14_isString_R s.heap 0 0 [(r0, 16, 17, .ref zm), (r0, 16, 18, .ref xh), (r0, 16, 19, .ref xn), (r0, 16, 20, .ref xf), (r0, 16, 21, .ref xt), (r0, 16, 22, .ref xb), (r0, 16, 23, .ref xe), (r0, 16, 24, .ref xi), (r0, 16, 25, .ref xg), (r0, 16, 27, .ref xp)] [(zm, 117, 3100, ca 1, ms), (xh, 118, 3100, ca 1, mh), (xn, 119, 3100, ca 1, mx), (xf, 120, 3100, ca 1, mf), (xt, 121, 3100, ca 1, mt), (xb, 122, 3100, ca 1, mb), (xe, 123, 3100, ca 1, me), (xi, 124, 3100, ca 3, mi), (xg, 125, 3100, ca 1, mn), (xp, 127, 3300, ca 1, fu)] [] s.heap [] := jSt.start hX hP0 hM0 jIs.nil
  clear hX hP0
  have hk0 : (0 : Int32).toInt = 0 := by decide
  have hk1 : (1 : Int32).toInt = 1 := by decide
  have hly_16_22 := htw (u_lay RX14 TX14 22) (jWc_wsX140 _ (u_in_lay (by decide)))
  have hly_16_23 := htw (u_lay RX14 TX14 23) (jWc_wsX140 _ (u_in_lay (by decide)))
  have hlk_52 := (htw (.fieldLink RX14 52 "ProofServerModel" "from" "[I") (jWr_11 _ (List.mem_of_getElem? (i := 9) rfl)))
  have hlk_55 := (htw (.fieldLink RX14 55 "ProofServerModel" "to" "[I") (jWr_11 _ (List.mem_of_getElem? (i := 10) rfl)))
  have hrg_a1 := jb_rng a1
  refine lv_aload_n hx hb dX14_isString__0 rfl (lv_at hl 0 rfl) ?_
  refine lv_iload_n hx hb dX14_isString__1 rfl (lv_at hl 1 rfl) ?_
  refine va_calli (A0 := jA base) (H0 := s.heap) (va_runV (As := [.int a1]) (rest := []) ⟨hx, hb, hml, hown, hts⟩ (uX14_isStringR l dC dI ca base B hB hAp hB16 hB117 G0 s.heap r0 a1 zm xh xn xf xt xb xe xi xg xp T9 nd9 po9 ms mh mx mf mt mb me mi mn fu) (cwV 1 hts (jgV (jWr_56 _ (List.mem_of_getElem? (i := 3) rfl)) (jWr_56 _ (List.mem_of_getElem? (i := 4) rfl)) (jWr_56 _ (List.mem_of_getElem? (i := 5) rfl)) (jWr_1 _ (List.mem_of_getElem? (i := 5) rfl)) (jWr_56 _ (List.mem_of_getElem? (i := 6) rfl))) rfl rfl rfl (by decide +kernel) ⟨by rw [← hR]; exact Nat.le_of_ble_eq_true rfl, by rw [← hR]; exact Nat.le_of_ble_eq_true rfl⟩) ⟨fun a U g mk q => by obtain ⟨q0, q1, q2, qK, q10, q11, q12, q13, q14, q15, q16, q17, q18, q19, q20, q21, q22, q23⟩ := q; exact ⟨q0, q1, q2, jG.calling g mk a qK, q10, q11, q12, q13, q14, q15, q16, q17, q18, q19, q20, q21, q22, q23⟩, hh.recv (C := RX14) (T := TX14) (N := 74) hB16 rfl (by decide) hg_r0 hK, fun U hU hW => ⟨rfl, hU, hh.2.1, hG.step hW hU hh.1, hg_r0, hg_zm, hg_xh, hg_xn, hg_xf, hg_xt, hg_xb, hg_xe, hg_xi, hg_xg, hg_xp, (hh.2.2.1.sub (L1 := [(r0, 16, 17, .ref zm), (r0, 16, 18, .ref xh), (r0, 16, 19, .ref xn), (r0, 16, 20, .ref xf), (r0, 16, 21, .ref xt), (r0, 16, 22, .ref xb), (r0, 16, 23, .ref xe), (r0, 16, 24, .ref xi), (r0, 16, 25, .ref xg), (r0, 16, 27, .ref xp)]) [0, 1, 2, 3, 4, 5, 6, 7, 8, 9] rfl), (hh.2.2.2.2.2.2.2.1.sub (L1 := [(zm, 117, 3100, ca 1, ms), (xh, 118, 3100, ca 1, mh), (xn, 119, 3100, ca 1, mx), (xf, 120, 3100, ca 1, mf), (xt, 121, 3100, ca 1, mt), (xb, 122, 3100, ca 1, mb), (xe, 123, 3100, ca 1, me), (xi, 124, 3100, ca 3, mi), (xg, 125, 3100, ca 1, mn), (xp, 127, 3300, ca 1, fu)]) [0, 1, 2, 3, 4, 5, 6, 7, 8, 9] rfl), by first | omega | (refine ⟨?_, ?_, ?_, ?_⟩ <;> (first | omega | rfl | assumption | decide | exact Or.inl rfl | exact Or.inr rfl | (simp only; omega)))⟩⟩ rfl rfl hl.1 rfl (lv_room (Nat.le_of_ble_eq_true rfl)) dX14_isString__2 ⟨Nat.zero_le _, Nat.zero_le _⟩) hh.1 (fun q _ h => h) (fun q h => h) (fun r_2 u_1 t_1 H_1 locs_1 ht_1 hvm_1 hr_2 hb_1 hz_1 hk_1 hS_1 => ?_)
  rw [ht_1] at hb_1
  obtain ⟨hb_11, hb_12, hb_13, hb_14, hb_15⟩ := hb_1
  have hh_1 : jSt (dC, dI) B base G0 G0 EX14_isString_R s.heap 0 0 [(r0, 16, 17, .ref zm), (r0, 16, 18, .ref xh), (r0, 16, 19, .ref xn), (r0, 16, 20, .ref xf), (r0, 16, 21, .ref xt), (r0, 16, 22, .ref xb), (r0, 16, 23, .ref xe), (r0, 16, 24, .ref xi), (r0, 16, 25, .ref xg), (r0, 16, 27, .ref xp)] [(zm, 117, 3100, ca 1, ms), (xh, 118, 3100, ca 1, mh), (xn, 119, 3100, ca 1, mx), (xf, 120, 3100, ca 1, mf), (xt, 121, 3100, ca 1, mt), (xb, 122, 3100, ca 1, mb), (xe, 123, 3100, ca 1, me), (xi, 124, 3100, ca 3, mi), (xg, 125, 3100, ca 1, mn), (xp, 127, 3300, ca 1, fu)] [] H_1 locs_1 := ((hh.call hb_11 hb_12 hb_13 hb_14 hS_1 rfl (L1 := [(r0, 16, 17, .ref zm), (r0, 16, 18, .ref xh), (r0, 16, 19, .ref xn), (r0, 16, 20, .ref xf), (r0, 16, 21, .ref xt), (r0, 16, 22, .ref xb), (r0, 16, 23, .ref xe), (r0, 16, 24, .ref xi), (r0, 16, 25, .ref xg), (r0, 16, 27, .ref xp)]) [0, 1, 2, 3, 4, 5, 6, 7, 8, 9] rfl rfl (M1 := [(zm, 117, 3100, ca 1, ms), (xh, 118, 3100, ca 1, mh), (xn, 119, 3100, ca 1, mx), (xf, 120, 3100, ca 1, mf), (xt, 121, 3100, ca 1, mt), (xb, 122, 3100, ca 1, mb), (xe, 123, 3100, ca 1, me), (xi, 124, 3100, ca 3, mi), (xg, 125, 3100, ca 1, mn), (xp, 127, 3300, ca 1, fu)]) [0, 1, 2, 3, 4, 5, 6, 7, 8, 9] rfl rfl (I1 := []) [] rfl rfl).more hb_15)
  clear hh ht_1 hvm_1 hz_1 hk_1 hS_1 hb_11 hb_12 hb_13 hb_14 hb_15
  obtain ⟨hr_2b, hr_2p⟩ := hr_2
  have hs2 := hr_2p
  have hr_2' := jb_01 hr_2b
  refine lv_if_eq (tgt := 32) hx hb dX14_isString__5 (by decide) (fun c_3 => ?_) (fun c_3 => ?_)
  · skip
    have c_3' : r_2.toInt = 0 := jb_eq (rfl) ((by decide)) c_3
    first | (have hr_2pq := hr_2p.resolve_left (by omega); clear hr_2p) | (have hr_2pq := hr_2p.resolve_right (by omega); clear hr_2p) | try clear hr_2p
    refine lv_iconst (v := 0) hx hb dX14_isString__32 (by decide) ?_
    rw [hQ]
    exact W.zret (v := 0) hx hb hr (jb_nz (Or.inl rfl)) (fun t ht hW => ⟨⟨0, (), rfl, ⟨(Or.inl rfl), by rw [show jqI T9 nd9 f2 n2 a1.toInt = 0 from if_neg (hs2.resolve_left (fun q => by omega)).2]; exact hk0⟩, hh_1.rt (M1 := []) [] rfl ht⟩, by rw [ht]; try exact hh_1.1.1, fun q h9 hq => by rw [ht]; try exact hh_1.1.2.1 q h9 hq⟩) hh_1.1.2.2 dX14_isString__33
  · skip
    have c_3' : r_2.toInt ≠ 0 := jb_eq_n (rfl) ((by decide)) c_3
    first | (have hr_2pq := hr_2p.resolve_left (by omega); clear hr_2p) | (have hr_2pq := hr_2p.resolve_right (by omega); clear hr_2p) | try clear hr_2p
    have hq2 := (hs2.resolve_right (fun q => by omega)).2
    have hj2 := jqK.p (T := T9) (v := nd9) (i := a1.toInt) (by omega)
    have hs2s := (hp2.str (a := a1.toInt) hj2.1 hj2.2.1).resolve_right (fun q => q.2 hq2)
    have hb2 := hp2.2.2.2.2.2.1 a1.toInt hj2.1 hj2.2.1 (by rw [← hj2.2.2]; exact hq2)
    refine lv_aload_n hx hb dX14_isString__8 rfl (lv_at hl 0 rfl) ?_
    refine lv_aload_n hx hb dX14_isString__9 rfl (lv_at hl 0 rfl) ?_
    refine j7_read hx hb hown hK (C := RX14) (T := TX14) (N := 74) rfl hly_16_22 hlk_52 (hh_1.at 5 rfl) dX14_isString__10 ?_
    refine lv_iload_n hx hb dX14_isString__13 rfl (lv_at hl 1 rfl) ?_
    refine j7_ialdM hx hb hK hh_1 hB122 1 rfl (by decide) hg_xb (x := a1.toInt) (rfl) (by omega) (j := 5) rfl dX14_isString__14 (fun z_4 ez_4 (hz_4 : 0 ≤ z_4.toInt ∧ z_4.toInt ≤ 3100) => ?_)
    have hqz_4 : z_4.toInt = jSo mb (a1.toInt) := by unfold jSo; rw [ez_4]
    refine lv_aload_n hx hb dX14_isString__15 rfl (lv_at hl 0 rfl) ?_
    refine j7_read hx hb hown hK (C := RX14) (T := TX14) (N := 74) rfl hly_16_23 hlk_55 (hh_1.at 6 rfl) dX14_isString__16 ?_
    refine lv_iload_n hx hb dX14_isString__19 rfl (lv_at hl 1 rfl) ?_
    refine j7_ialdM hx hb hK hh_1 hB123 1 rfl (by decide) hg_xe (x := a1.toInt) (rfl) (by omega) (j := 6) rfl dX14_isString__20 (fun z_5 ez_5 (hz_5 : 0 ≤ z_5.toInt ∧ z_5.toInt ≤ 3100) => ?_)
    have hqz_5 : z_5.toInt = jSo me (a1.toInt) := by unfold jSo; rw [ez_5]
    refine lv_aload_n hx hb dX14_isString__21 rfl (lv_at hl 2 rfl) ?_
    refine va_calli (A0 := jA base) (H0 := s.heap) (va_runV (As := [.int z_4, .int z_5, .ref r2]) (rest := []) ⟨hx, hb, hml, hown, hts⟩ (uX14_isTextK l dC dI ca base B hB hAp hB16 hB127 G0 H_1 r0 z_4 z_5 r2 n2 f2 xp fu) (cwV 3 hts (jgV (jWr_55 _ (List.mem_of_getElem? (i := 19) rfl)) (jWr_55 _ (List.mem_of_getElem? (i := 20) rfl)) (jWr_55 _ (List.mem_of_getElem? (i := 21) rfl)) (jWr_1 _ (List.mem_of_getElem? (i := 5) rfl)) (jWr_55 _ (List.mem_of_getElem? (i := 22) rfl))) rfl rfl rfl (by decide +kernel) ⟨by rw [← hR]; exact Nat.le_of_ble_eq_true rfl, by rw [← hR]; exact Nat.le_of_ble_eq_true rfl⟩) ⟨fun a U g mk q => by obtain ⟨q0, q1, q2, qK, q10, q11, q12, q13, q14, q15⟩ := q; exact ⟨q0, q1, q2, jG.calling g mk a qK, (q10.moved (Vm.Alike.refl U.vm)), q11, q12, q13, q14, q15⟩, hh_1.recv (C := RX14) (T := TX14) (N := 74) hB16 rfl (by decide) hg_r0 hK, fun U hU hW => ⟨rfl, hU, hh_1.2.1, hG.step hW hU hh_1.1, (hstrF_r2.moved hW.alike).kept hh_1.1.2.1, hg_r0, hg_xp, (hh_1.2.2.1.sub (L1 := [(r0, 16, 27, .ref xp)]) [9] rfl), (hh_1.2.2.2.2.2.2.2.1.sub (L1 := [(xp, 127, 3300, ca 1, fu)]) [9] rfl), by first | omega | (refine ⟨?_, ?_, ?_, ?_, ?_⟩ <;> (first | omega | rfl | assumption | decide | exact Or.inl rfl | exact Or.inr rfl | (simp only; omega)))⟩⟩ rfl rfl hl.1 rfl (lv_room (Nat.le_of_ble_eq_true rfl)) dX14_isString__22 ⟨Nat.zero_le _, Nat.zero_le _⟩) hh_1.1 (fun q _ h => h) (fun q h => h) (fun r_7 u_6 t_6 H_6 locs_6 ht_6 hvm_6 hr_7 hb_6 hz_6 hk_6 hS_6 => ?_)
    rw [ht_6] at hb_6
    obtain ⟨hb_61, hb_62, hb_63, hb_64, hb_65⟩ := hb_6
    have hh_6 : jSt (dC, dI) B base G0 G0 EX14_isString_R s.heap 0 0 [(r0, 16, 17, .ref zm), (r0, 16, 18, .ref xh), (r0, 16, 19, .ref xn), (r0, 16, 20, .ref xf), (r0, 16, 21, .ref xt), (r0, 16, 22, .ref xb), (r0, 16, 23, .ref xe), (r0, 16, 24, .ref xi), (r0, 16, 25, .ref xg), (r0, 16, 27, .ref xp)] [(zm, 117, 3100, ca 1, ms), (xh, 118, 3100, ca 1, mh), (xn, 119, 3100, ca 1, mx), (xf, 120, 3100, ca 1, mf), (xt, 121, 3100, ca 1, mt), (xb, 122, 3100, ca 1, mb), (xe, 123, 3100, ca 1, me), (xi, 124, 3100, ca 3, mi), (xg, 125, 3100, ca 1, mn), (xp, 127, 3300, ca 1, fu)] [] H_6 locs_6 := ((hh_1.call hb_61 hb_62 hb_63 hb_64 hS_6 rfl (L1 := [(r0, 16, 17, .ref zm), (r0, 16, 18, .ref xh), (r0, 16, 19, .ref xn), (r0, 16, 20, .ref xf), (r0, 16, 21, .ref xt), (r0, 16, 22, .ref xb), (r0, 16, 23, .ref xe), (r0, 16, 24, .ref xi), (r0, 16, 25, .ref xg), (r0, 16, 27, .ref xp)]) [0, 1, 2, 3, 4, 5, 6, 7, 8, 9] rfl rfl (M1 := [(zm, 117, 3100, ca 1, ms), (xh, 118, 3100, ca 1, mh), (xn, 119, 3100, ca 1, mx), (xf, 120, 3100, ca 1, mf), (xt, 121, 3100, ca 1, mt), (xb, 122, 3100, ca 1, mb), (xe, 123, 3100, ca 1, me), (xi, 124, 3100, ca 3, mi), (xg, 125, 3100, ca 1, mn), (xp, 127, 3300, ca 1, fu)]) [0, 1, 2, 3, 4, 5, 6, 7, 8, 9] rfl rfl (I1 := []) [] rfl rfl).more hb_65)
    clear hh_1 ht_6 hvm_6 hz_6 hk_6 hS_6 hb_61 hb_62 hb_63 hb_64 hb_65
    obtain ⟨hr_7b, hr_7p⟩ := hr_7
    have hr_7' := jb_01 hr_7b
    refine lv_if_eq (tgt := 32) hx hb dX14_isString__25 (by decide) (fun c_8 => ?_) (fun c_8 => ?_)
    · skip
      have c_8' : r_7.toInt = 0 := jb_eq (rfl) ((by decide)) c_8
      refine lv_iconst (v := 0) hx hb dX14_isString__32 (by decide) ?_
      rw [hQ]
      exact W.zret (v := 0) hx hb hr (jb_nz (Or.inl rfl)) (fun t ht hW => ⟨⟨0, (), rfl, ⟨(Or.inl rfl), by have h9 := jqI.r (f := f2) (n := n2) hp2 hq2 (hr_7p.trans (by rw [hqz_4, hqz_5])); rw [← h9]; omega⟩, hh_6.rt (M1 := []) [] rfl ht⟩, by rw [ht]; try exact hh_6.1.1, fun q h9 hq => by rw [ht]; try exact hh_6.1.2.1 q h9 hq⟩) hh_6.1.2.2 dX14_isString__33
    · skip
      have c_8' : r_7.toInt ≠ 0 := jb_eq_n (rfl) ((by decide)) c_8
      refine lv_iconst (v := 1) hx hb dX14_isString__28 (by decide) ?_
      refine lv_goto (tgt := 33) hx hb dX14_isString__29 (by decide) ?_
      rw [hQ]
      exact W.zret (v := 1) hx hb hr (jb_nz (Or.inr rfl)) (fun t ht hW => ⟨⟨1, (), rfl, ⟨(Or.inr rfl), by have h9 := jqI.r (f := f2) (n := n2) hp2 hq2 (hr_7p.trans (by rw [hqz_4, hqz_5])); rw [← h9]; omega⟩, hh_6.rt (M1 := []) [] rfl ht⟩, by rw [ht]; try exact hh_6.1.1, fun q h9 hq => by rw [ht]; try exact hh_6.1.2.1 q h9 hq⟩) hh_6.1.2.2 dX14_isString__33
set_option maxHeartbeats 4000000 in
set_option maxRecDepth 20000 in
theorem uX14_isIdR (l : Launch) (dC : Nat → ClassId) (dI : Nat → Nat → Nat) (ca : Nat → ClassId) (base : Nat) (B : jF) (hB : jBok B) (hAp : jAp (dC, dI)) (hB16 : ∀ n G a H, B 16 n G a H ↔ jOb (dC, dI) 16 74 (F16 n G) a H) (hB117 : ∀ n G a H, B 117 n G a H ↔ jAr (dC, dI) (ca 1) (fun j z => True) n a H) (hB122 : ∀ n G a H, B 122 n G a H ↔ jAr (dC, dI) (ca 1) (fun j z => 0 ≤ z.toInt ∧ z.toInt ≤ 3100) n a H) (hB123 : ∀ n G a H, B 123 n G a H ↔ jAr (dC, dI) (ca 1) (fun j z => 0 ≤ z.toInt ∧ z.toInt ≤ 3100) n a H) (hB124 : ∀ n G a H, B 124 n G a H ↔ jAr (dC, dI) (ca 3) (fun j z => (z = 0 ∨ z = 1)) n a H) (G0 : jT) (H0 : Heap) (r0 : Nat) (a1 : Int32) (zm : Nat) (xh : Nat) (xn : Nat) (xf : Nat) (xt : Nat) (xb : Nat) (xe : Nat) (xi : Nat) (xg : Nat) (xp : Nat) (T9 : Nat → Int → Int) (nd9 po9 : Int) (ms : Nat → Int32) (mh : Nat → Int32) (mx : Nat → Int32) (mf : Nat → Int32) (mt : Nat → Int32) (mb : Nat → Int32) (me : Nat → Int32) (mi : Nat → Int32) (mn : Nat → Int32) (fu : Nat → Int32) : Met l yX14_isId (jw yX14_isId cX14_isId 2 (some .boolean)) ({ frames := 1, cells := 0, slots := 0, locals := 21 }) (va_Pc [.ref r0, .int a1] (fun U => U.heap = H0 ∧ jX B base G0 [] H0 ∧ jG dC dI ca base U ∧ G0 r0 = some (16, 0) ∧ G0 zm = some (117, 3100) ∧ G0 xh = some (118, 3100) ∧ G0 xn = some (119, 3100) ∧ G0 xf = some (120, 3100) ∧ G0 xt = some (121, 3100) ∧ G0 xb = some (122, 3100) ∧ G0 xe = some (123, 3100) ∧ G0 xi = some (124, 3100) ∧ G0 xg = some (125, 3100) ∧ G0 xp = some (127, 3300) ∧ jP (dC, dI) G0 H0 [(r0, 16, 17, .ref zm), (r0, 16, 18, .ref xh), (r0, 16, 19, .ref xn), (r0, 16, 20, .ref xf), (r0, 16, 21, .ref xt), (r0, 16, 22, .ref xb), (r0, 16, 23, .ref xe), (r0, 16, 24, .ref xi), (r0, 16, 25, .ref xg), (r0, 16, 27, .ref xp)] ∧ jMc (dC, dI) G0 H0 [(zm, 117, 3100, ca 1, ms), (xh, 118, 3100, ca 1, mh), (xn, 119, 3100, ca 1, mx), (xf, 120, 3100, ca 1, mf), (xt, 121, 3100, ca 1, mt), (xb, 122, 3100, ca 1, mb), (xe, 123, 3100, ca 1, me), (xi, 124, 3100, ca 3, mi), (xg, 125, 3100, ca 1, mn), (xp, 127, 3300, ca 1, fu)] ∧ 0 ≤ nd9 ∧ nd9 ≤ 3100 ∧ jjRB T9 nd9 po9 ms mh mx mf mt mb me mi mn fu ∧ a1.toInt < nd9)) (va_Qi (S := Unit) (fun r u => (r = 0 ∨ r = 1) ∧ (((r.toInt = 1 ∧ (jqK T9 nd9 a1.toInt = 4 ∨ (jqK T9 nd9 a1.toInt = 3 ∧ T9 3 a1.toInt ≤ 20))) ∨ (r.toInt = 0 ∧ ¬ (jqK T9 nd9 a1.toInt = 4 ∨ (jqK T9 nd9 a1.toInt = 3 ∧ T9 3 a1.toInt ≤ 20)))))) (fun u t => jRt (dC, dI) B base G0 EX14_isIdR H0 [] t.heap) (jA base)) 0 0 (jA base) := by
  refine Met.ofW (cc := cX14_isId) (maxL := 2) (ret := (some .boolean)) (by decide) rfl ?_
  intro p e s m args below meth c s₁ Bd hml hv
  obtain ⟨rfl, hH0, hX, hG, hg_r0, hg_zm, hg_xh, hg_xn, hg_xf, hg_xt, hg_xb, hg_xe, hg_xi, hg_xg, hg_xp, hP0, hM0, hp0, hp1, hp2, hp3⟩ := hv
  have hK := hG.1
  have hx := Bd.exec
  have hb := Bd.bytes
  have hr := Bd.returns
  have hts := atoms_spec (ws := (jw yX14_isId cX14_isId 2 (some .boolean))) Bd.pre
  have htw : ∀ w ∈ jWl, w.before _ s = true := fun w h => hts w (List.mem_cons_of_mem _ h)
  have hown : s.vm.findClass RX14 = some m.cls := findClass_of_methodNamed Bd.named
  have hlocks := Bd.notSynchronized
  obtain ⟨Q, hQ⟩ : ∃ Q, Q = MQ below (va_Qi (S := Unit) (fun r u => (r = 0 ∨ r = 1) ∧ (((r.toInt = 1 ∧ (jqK T9 nd9 a1.toInt = 4 ∨ (jqK T9 nd9 a1.toInt = 3 ∧ T9 3 a1.toInt ≤ 20))) ∨ (r.toInt = 0 ∧ ¬ (jqK T9 nd9 a1.toInt = 4 ∨ (jqK T9 nd9 a1.toInt = 3 ∧ T9 3 a1.toInt ≤ 20)))))) (fun u t => jRt (dC, dI) B base G0 EX14_isIdR H0 [] t.heap) (jA base)) ([.ref r0, .int a1] : List Value).toArray s 0 0 (jA base) := ⟨_, rfl⟩
  rw [← hQ]
  have hl := lv_entry ([.ref r0, .int a1]) (n := 2) (Nat.le_of_ble_eq_true rfl)
  rw [lg_entry_eq]
  generalize (lg_sl ([.ref r0, .int a1]) ++ List.replicate (2 - (lg_sl ([.ref r0, .int a1])).length) Slot.unset).toArray = ls at hl ⊢
  have hl : lv_has ls 2 [(0, .ref r0), (1, .int a1)] := hl
  generalize hR : (headSpec (jw yX14_isId cX14_isId 2 (some .boolean)) ({ frames := 1, cells := 0, slots := 0, locals := 21 })).room = R
  subst hH0
  have hh : jSt (dC, dI) B base G0 G0 EX14_isIdR s.heap 0 0 [(r0, 16, 17, .ref zm), (r0, 16, 18, .ref xh), (r0, 16, 19, .ref xn), (r0, 16, 20, .ref xf), (r0, 16, 21, .ref xt), (r0, 16, 22, .ref xb), (r0, 16, 23, .ref xe), (r0, 16, 24, .ref xi), (r0, 16, 25, .ref xg), (r0, 16, 27, .ref xp)] [(zm, 117, 3100, ca 1, ms), (xh, 118, 3100, ca 1, mh), (xn, 119, 3100, ca 1, mx), (xf, 120, 3100, ca 1, mf), (xt, 121, 3100, ca 1, mt), (xb, 122, 3100, ca 1, mb), (xe, 123, 3100, ca 1, me), (xi, 124, 3100, ca 3, mi), (xg, 125, 3100, ca 1, mn), (xp, 127, 3300, ca 1, fu)] [] s.heap [] := jSt.start hX hP0 hM0 jIs.nil
  clear hX hP0
  have hk0 : (0 : Int32).toInt = 0 := by decide
  have hk1 : (1 : Int32).toInt = 1 := by decide
  have hk20 : (20 : Int32).toInt = 20 := by decide
  have hly_16_22 := htw (u_lay RX14 TX14 22) (jWc_wsX140 _ (u_in_lay (by decide)))
  have hly_16_23 := htw (u_lay RX14 TX14 23) (jWc_wsX140 _ (u_in_lay (by decide)))
  have hlk_55 := (htw (.fieldLink RX14 55 "ProofServerModel" "to" "[I") (jWr_11 _ (List.mem_of_getElem? (i := 10) rfl)))
  have hlk_52 := (htw (.fieldLink RX14 52 "ProofServerModel" "from" "[I") (jWr_11 _ (List.mem_of_getElem? (i := 9) rfl)))
  have hrg_a1 := jb_rng a1
  refine lv_aload_n hx hb dX14_isId_0 rfl (lv_at hl 0 rfl) ?_
  refine lv_iload_n hx hb dX14_isId_1 rfl (lv_at hl 1 rfl) ?_
  refine va_calli (A0 := jA base) (H0 := s.heap) (va_runV (As := [.int a1]) (rest := []) ⟨hx, hb, hml, hown, hts⟩ (uX14_isWholeR l dC dI ca base B hB hAp hB16 hB117 hB124 G0 s.heap r0 a1 zm xh xn xf xt xb xe xi xg xp T9 nd9 po9 ms mh mx mf mt mb me mi mn fu) (cwV 1 hts (jgV (jWr_56 _ (List.mem_of_getElem? (i := 11) rfl)) (jWr_56 _ (List.mem_of_getElem? (i := 12) rfl)) (jWr_56 _ (List.mem_of_getElem? (i := 13) rfl)) (jWr_1 _ (List.mem_of_getElem? (i := 5) rfl)) (jWr_56 _ (List.mem_of_getElem? (i := 14) rfl))) rfl rfl rfl (by decide +kernel) ⟨by rw [← hR]; exact Nat.le_of_ble_eq_true rfl, by rw [← hR]; exact Nat.le_of_ble_eq_true rfl⟩) ⟨fun a U g mk q => by obtain ⟨q0, q1, q2, qK, q10, q11, q12, q13, q14, q15, q16, q17, q18, q19, q20, q21, q22, q23⟩ := q; exact ⟨q0, q1, q2, jG.calling g mk a qK, q10, q11, q12, q13, q14, q15, q16, q17, q18, q19, q20, q21, q22, q23⟩, hh.recv (C := RX14) (T := TX14) (N := 74) hB16 rfl (by decide) hg_r0 hK, fun U hU hW => ⟨rfl, hU, hh.2.1, hG.step hW hU hh.1, hg_r0, hg_zm, hg_xh, hg_xn, hg_xf, hg_xt, hg_xb, hg_xe, hg_xi, hg_xg, hg_xp, (hh.2.2.1.sub (L1 := [(r0, 16, 17, .ref zm), (r0, 16, 18, .ref xh), (r0, 16, 19, .ref xn), (r0, 16, 20, .ref xf), (r0, 16, 21, .ref xt), (r0, 16, 22, .ref xb), (r0, 16, 23, .ref xe), (r0, 16, 24, .ref xi), (r0, 16, 25, .ref xg), (r0, 16, 27, .ref xp)]) [0, 1, 2, 3, 4, 5, 6, 7, 8, 9] rfl), (hh.2.2.2.2.2.2.2.1.sub (L1 := [(zm, 117, 3100, ca 1, ms), (xh, 118, 3100, ca 1, mh), (xn, 119, 3100, ca 1, mx), (xf, 120, 3100, ca 1, mf), (xt, 121, 3100, ca 1, mt), (xb, 122, 3100, ca 1, mb), (xe, 123, 3100, ca 1, me), (xi, 124, 3100, ca 3, mi), (xg, 125, 3100, ca 1, mn), (xp, 127, 3300, ca 1, fu)]) [0, 1, 2, 3, 4, 5, 6, 7, 8, 9] rfl), by first | omega | (refine ⟨?_, ?_, ?_, ?_⟩ <;> (first | omega | rfl | assumption | decide | exact Or.inl rfl | exact Or.inr rfl | (simp only; omega)))⟩⟩ rfl rfl hl.1 rfl (lv_room (Nat.le_of_ble_eq_true rfl)) dX14_isId_2 ⟨Nat.zero_le _, Nat.zero_le _⟩) hh.1 (fun q _ h => h) (fun q h => h) (fun r_2 u_1 t_1 H_1 locs_1 ht_1 hvm_1 hr_2 hb_1 hz_1 hk_1 hS_1 => ?_)
  rw [ht_1] at hb_1
  obtain ⟨hb_11, hb_12, hb_13, hb_14, hb_15⟩ := hb_1
  have hh_1 : jSt (dC, dI) B base G0 G0 EX14_isIdR s.heap 0 0 [(r0, 16, 17, .ref zm), (r0, 16, 18, .ref xh), (r0, 16, 19, .ref xn), (r0, 16, 20, .ref xf), (r0, 16, 21, .ref xt), (r0, 16, 22, .ref xb), (r0, 16, 23, .ref xe), (r0, 16, 24, .ref xi), (r0, 16, 25, .ref xg), (r0, 16, 27, .ref xp)] [(zm, 117, 3100, ca 1, ms), (xh, 118, 3100, ca 1, mh), (xn, 119, 3100, ca 1, mx), (xf, 120, 3100, ca 1, mf), (xt, 121, 3100, ca 1, mt), (xb, 122, 3100, ca 1, mb), (xe, 123, 3100, ca 1, me), (xi, 124, 3100, ca 3, mi), (xg, 125, 3100, ca 1, mn), (xp, 127, 3300, ca 1, fu)] [] H_1 locs_1 := ((hh.call hb_11 hb_12 hb_13 hb_14 hS_1 rfl (L1 := [(r0, 16, 17, .ref zm), (r0, 16, 18, .ref xh), (r0, 16, 19, .ref xn), (r0, 16, 20, .ref xf), (r0, 16, 21, .ref xt), (r0, 16, 22, .ref xb), (r0, 16, 23, .ref xe), (r0, 16, 24, .ref xi), (r0, 16, 25, .ref xg), (r0, 16, 27, .ref xp)]) [0, 1, 2, 3, 4, 5, 6, 7, 8, 9] rfl rfl (M1 := [(zm, 117, 3100, ca 1, ms), (xh, 118, 3100, ca 1, mh), (xn, 119, 3100, ca 1, mx), (xf, 120, 3100, ca 1, mf), (xt, 121, 3100, ca 1, mt), (xb, 122, 3100, ca 1, mb), (xe, 123, 3100, ca 1, me), (xi, 124, 3100, ca 3, mi), (xg, 125, 3100, ca 1, mn), (xp, 127, 3300, ca 1, fu)]) [0, 1, 2, 3, 4, 5, 6, 7, 8, 9] rfl rfl (I1 := []) [] rfl rfl).more hb_15)
  clear hh ht_1 hvm_1 hz_1 hk_1 hS_1 hb_11 hb_12 hb_13 hb_14 hb_15
  obtain ⟨hr_2b, hr_2p⟩ := hr_2
  have hs2 := hr_2p
  have hr_2' := jb_01 hr_2b
  refine lv_if_ne (tgt := 34) hx hb dX14_isId_5 (by decide) (fun c_3 => ?_) (fun c_3 => ?_)
  · skip
    have c_3' : r_2.toInt ≠ 0 := jb_ne (rfl) ((by decide)) c_3
    first | (have hr_2pq := hr_2p.resolve_left (by omega); clear hr_2p) | (have hr_2pq := hr_2p.resolve_right (by omega); clear hr_2p) | try clear hr_2p
    refine lv_iconst (v := 1) hx hb dX14_isId_34 (by decide) ?_
    refine lv_goto (tgt := 39) hx hb dX14_isId_35 (by decide) ?_
    rw [hQ]
    exact W.zret (v := 1) hx hb hr (jb_nz (Or.inr rfl)) (fun t ht hW => ⟨⟨1, (), rfl, ⟨(Or.inr rfl), Or.inl ⟨hk1, Or.inl (hs2.resolve_right (fun q => by omega)).2⟩⟩, hh_1.rt (M1 := []) [] rfl ht⟩, by rw [ht]; try exact hh_1.1.1, fun q h9 hq => by rw [ht]; try exact hh_1.1.2.1 q h9 hq⟩) hh_1.1.2.2 dX14_isId_39
  · skip
    have c_3' : r_2.toInt = 0 := jb_ne_n (rfl) ((by decide)) c_3
    first | (have hr_2pq := hr_2p.resolve_left (by omega); clear hr_2p) | (have hr_2pq := hr_2p.resolve_right (by omega); clear hr_2p) | try clear hr_2p
    refine lv_aload_n hx hb dX14_isId_8 rfl (lv_at hl 0 rfl) ?_
    refine lv_iload_n hx hb dX14_isId_9 rfl (lv_at hl 1 rfl) ?_
    refine va_calli (A0 := jA base) (H0 := s.heap) (va_runV (As := [.int a1]) (rest := []) ⟨hx, hb, hml, hown, hts⟩ (uX14_isStringR l dC dI ca base B hB hAp hB16 hB117 G0 H_1 r0 a1 zm xh xn xf xt xb xe xi xg xp T9 nd9 po9 ms mh mx mf mt mb me mi mn fu) (cwV 1 hts (jgV (jWr_56 _ (List.mem_of_getElem? (i := 3) rfl)) (jWr_56 _ (List.mem_of_getElem? (i := 4) rfl)) (jWr_56 _ (List.mem_of_getElem? (i := 5) rfl)) (jWr_1 _ (List.mem_of_getElem? (i := 5) rfl)) (jWr_56 _ (List.mem_of_getElem? (i := 6) rfl))) rfl rfl rfl (by decide +kernel) ⟨by rw [← hR]; exact Nat.le_of_ble_eq_true rfl, by rw [← hR]; exact Nat.le_of_ble_eq_true rfl⟩) ⟨fun a U g mk q => by obtain ⟨q0, q1, q2, qK, q10, q11, q12, q13, q14, q15, q16, q17, q18, q19, q20, q21, q22, q23⟩ := q; exact ⟨q0, q1, q2, jG.calling g mk a qK, q10, q11, q12, q13, q14, q15, q16, q17, q18, q19, q20, q21, q22, q23⟩, hh_1.recv (C := RX14) (T := TX14) (N := 74) hB16 rfl (by decide) hg_r0 hK, fun U hU hW => ⟨rfl, hU, hh_1.2.1, hG.step hW hU hh_1.1, hg_r0, hg_zm, hg_xh, hg_xn, hg_xf, hg_xt, hg_xb, hg_xe, hg_xi, hg_xg, hg_xp, (hh_1.2.2.1.sub (L1 := [(r0, 16, 17, .ref zm), (r0, 16, 18, .ref xh), (r0, 16, 19, .ref xn), (r0, 16, 20, .ref xf), (r0, 16, 21, .ref xt), (r0, 16, 22, .ref xb), (r0, 16, 23, .ref xe), (r0, 16, 24, .ref xi), (r0, 16, 25, .ref xg), (r0, 16, 27, .ref xp)]) [0, 1, 2, 3, 4, 5, 6, 7, 8, 9] rfl), (hh_1.2.2.2.2.2.2.2.1.sub (L1 := [(zm, 117, 3100, ca 1, ms), (xh, 118, 3100, ca 1, mh), (xn, 119, 3100, ca 1, mx), (xf, 120, 3100, ca 1, mf), (xt, 121, 3100, ca 1, mt), (xb, 122, 3100, ca 1, mb), (xe, 123, 3100, ca 1, me), (xi, 124, 3100, ca 3, mi), (xg, 125, 3100, ca 1, mn), (xp, 127, 3300, ca 1, fu)]) [0, 1, 2, 3, 4, 5, 6, 7, 8, 9] rfl), by first | omega | (refine ⟨?_, ?_, ?_, ?_⟩ <;> (first | omega | rfl | assumption | decide | exact Or.inl rfl | exact Or.inr rfl | (simp only; omega)))⟩⟩ rfl rfl hl.1 rfl (lv_room (Nat.le_of_ble_eq_true rfl)) dX14_isId_10 ⟨Nat.zero_le _, Nat.zero_le _⟩) hh_1.1 (fun q _ h => h) (fun q h => h) (fun r_5 u_4 t_4 H_4 locs_4 ht_4 hvm_4 hr_5 hb_4 hz_4 hk_4 hS_4 => ?_)
    rw [ht_4] at hb_4
    obtain ⟨hb_41, hb_42, hb_43, hb_44, hb_45⟩ := hb_4
    have hh_4 : jSt (dC, dI) B base G0 G0 EX14_isIdR s.heap 0 0 [(r0, 16, 17, .ref zm), (r0, 16, 18, .ref xh), (r0, 16, 19, .ref xn), (r0, 16, 20, .ref xf), (r0, 16, 21, .ref xt), (r0, 16, 22, .ref xb), (r0, 16, 23, .ref xe), (r0, 16, 24, .ref xi), (r0, 16, 25, .ref xg), (r0, 16, 27, .ref xp)] [(zm, 117, 3100, ca 1, ms), (xh, 118, 3100, ca 1, mh), (xn, 119, 3100, ca 1, mx), (xf, 120, 3100, ca 1, mf), (xt, 121, 3100, ca 1, mt), (xb, 122, 3100, ca 1, mb), (xe, 123, 3100, ca 1, me), (xi, 124, 3100, ca 3, mi), (xg, 125, 3100, ca 1, mn), (xp, 127, 3300, ca 1, fu)] [] H_4 locs_4 := ((hh_1.call hb_41 hb_42 hb_43 hb_44 hS_4 rfl (L1 := [(r0, 16, 17, .ref zm), (r0, 16, 18, .ref xh), (r0, 16, 19, .ref xn), (r0, 16, 20, .ref xf), (r0, 16, 21, .ref xt), (r0, 16, 22, .ref xb), (r0, 16, 23, .ref xe), (r0, 16, 24, .ref xi), (r0, 16, 25, .ref xg), (r0, 16, 27, .ref xp)]) [0, 1, 2, 3, 4, 5, 6, 7, 8, 9] rfl rfl (M1 := [(zm, 117, 3100, ca 1, ms), (xh, 118, 3100, ca 1, mh), (xn, 119, 3100, ca 1, mx), (xf, 120, 3100, ca 1, mf), (xt, 121, 3100, ca 1, mt), (xb, 122, 3100, ca 1, mb), (xe, 123, 3100, ca 1, me), (xi, 124, 3100, ca 3, mi), (xg, 125, 3100, ca 1, mn), (xp, 127, 3300, ca 1, fu)]) [0, 1, 2, 3, 4, 5, 6, 7, 8, 9] rfl rfl (I1 := []) [] rfl rfl).more hb_45)
    clear hh_1 ht_4 hvm_4 hz_4 hk_4 hS_4 hb_41 hb_42 hb_43 hb_44 hb_45
    obtain ⟨hr_5b, hr_5p⟩ := hr_5
    have hs10 := hr_5p
    have hr_5' := jb_01 hr_5b
    refine lv_if_eq (tgt := 38) hx hb dX14_isId_13 (by decide) (fun c_6 => ?_) (fun c_6 => ?_)
    · skip
      have c_6' : r_5.toInt = 0 := jb_eq (rfl) ((by decide)) c_6
      first | (have hr_5pq := hr_5p.resolve_left (by omega); clear hr_5p) | (have hr_5pq := hr_5p.resolve_right (by omega); clear hr_5p) | try clear hr_5p
      refine lv_iconst (v := 0) hx hb dX14_isId_38 (by decide) ?_
      rw [hQ]
      exact W.zret (v := 0) hx hb hr (jb_nz (Or.inl rfl)) (fun t ht hW => ⟨⟨0, (), rfl, ⟨(Or.inl rfl), Or.inr ⟨hk0, fun q => q.elim (hs2.resolve_left (fun q => by omega)).2 (fun e => (hs10.resolve_left (fun q => by omega)).2 e.1)⟩⟩, hh_4.rt (M1 := []) [] rfl ht⟩, by rw [ht]; try exact hh_4.1.1, fun q h9 hq => by rw [ht]; try exact hh_4.1.2.1 q h9 hq⟩) hh_4.1.2.2 dX14_isId_39
    · skip
      have c_6' : r_5.toInt ≠ 0 := jb_eq_n (rfl) ((by decide)) c_6
      first | (have hr_5pq := hr_5p.resolve_left (by omega); clear hr_5p) | (have hr_5pq := hr_5p.resolve_right (by omega); clear hr_5p) | try clear hr_5p
      have hq10 := (hs10.resolve_right (fun q => by omega)).2
      have hj10 := jqK.p (T := T9) (v := nd9) (i := a1.toInt) (by omega)
      have hs10s := (hp2.str (a := a1.toInt) hj10.1 hj10.2.1).resolve_right (fun q => q.2 hq10)
      have hb10 := hp2.2.2.2.2.2.1 a1.toInt hj10.1 hj10.2.1 (by rw [← hj10.2.2]; exact hq10)
      refine lv_aload_n hx hb dX14_isId_16 rfl (lv_at hl 0 rfl) ?_
      refine j7_read hx hb hown hK (C := RX14) (T := TX14) (N := 74) rfl hly_16_23 hlk_55 (hh_4.at 6 rfl) dX14_isId_17 ?_
      refine lv_iload_n hx hb dX14_isId_20 rfl (lv_at hl 1 rfl) ?_
      refine j7_ialdM hx hb hK hh_4 hB123 1 rfl (by decide) hg_xe (x := a1.toInt) (rfl) (by omega) (j := 6) rfl dX14_isId_21 (fun z_7 ez_7 (hz_7 : 0 ≤ z_7.toInt ∧ z_7.toInt ≤ 3100) => ?_)
      have hqz_7 : z_7.toInt = jSo me (a1.toInt) := by unfold jSo; rw [ez_7]
      refine lv_aload_n hx hb dX14_isId_22 rfl (lv_at hl 0 rfl) ?_
      refine j7_read hx hb hown hK (C := RX14) (T := TX14) (N := 74) rfl hly_16_22 hlk_52 (hh_4.at 5 rfl) dX14_isId_23 ?_
      refine lv_iload_n hx hb dX14_isId_26 rfl (lv_at hl 1 rfl) ?_
      refine j7_ialdM hx hb hK hh_4 hB122 1 rfl (by decide) hg_xb (x := a1.toInt) (rfl) (by omega) (j := 5) rfl dX14_isId_27 (fun z_8 ez_8 (hz_8 : 0 ≤ z_8.toInt ∧ z_8.toInt ≤ 3100) => ?_)
      have hqz_8 : z_8.toInt = jSo mb (a1.toInt) := by unfold jSo; rw [ez_8]
      refine lv_isub hx hb dX14_isId_28 ?_
      refine lv_topi (fun z_9 ez_9 => ?_)
      have hz_9 : z_9.toInt = z_7.toInt - z_8.toInt := by rw [ez_9]; exact jb_isub2 (rfl) (rfl) (by omega)
      refine lv_bipush (v := 20) hx hb dX14_isId_29 (by decide) ?_
      refine lv_icmp_gt (tgt := 38) hx hb dX14_isId_31 (by decide) (fun c_10 => ?_) (fun c_10 => ?_)
      · skip
        have c_10' : z_9.toInt > 20 := jb_gt (rfl) ((by decide)) c_10
        refine lv_iconst (v := 0) hx hb dX14_isId_38 (by decide) ?_
        rw [hQ]
        exact W.zret (v := 0) hx hb hr (jb_nz (Or.inl rfl)) (fun t ht hW => ⟨⟨0, (), rfl, ⟨(Or.inl rfl), Or.inr ⟨hk0, fun q => q.elim (hs2.resolve_left (fun q => by omega)).2 (fun e => by have h9 := hqz_7; have h8 := hqz_8; have h7 := e.2; omega)⟩⟩, hh_4.rt (M1 := []) [] rfl ht⟩, by rw [ht]; try exact hh_4.1.1, fun q h9 hq => by rw [ht]; try exact hh_4.1.2.1 q h9 hq⟩) hh_4.1.2.2 dX14_isId_39
      · skip
        have c_10' : z_9.toInt ≤ 20 := jb_gt_n (rfl) ((by decide)) c_10
        refine lv_iconst (v := 1) hx hb dX14_isId_34 (by decide) ?_
        refine lv_goto (tgt := 39) hx hb dX14_isId_35 (by decide) ?_
        rw [hQ]
        exact W.zret (v := 1) hx hb hr (jb_nz (Or.inr rfl)) (fun t ht hW => ⟨⟨1, (), rfl, ⟨(Or.inr rfl), Or.inl ⟨hk1, Or.inr ⟨hq10, by have h9 := hqz_7; have h8 := hqz_8; omega⟩⟩⟩, hh_4.rt (M1 := []) [] rfl ht⟩, by rw [ht]; try exact hh_4.1.1, fun q h9 hq => by rw [ht]; try exact hh_4.1.2.1 q h9 hq⟩) hh_4.1.2.2 dX14_isId_39
end
