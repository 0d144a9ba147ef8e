section
-- p8: references stored into an array of an open object
section J9B
variable {p : Program} {l : Launch} {e : Env} {R : Room} {s : State} {m : MethodId} {args : Array Value} {below : List Frame} {meth : Method} {c : Code} {H : Heap} {locs : List Loc} {cells slots : Nat} {Q : State → Prop}
variable {cc : ByteArray} {pc : Nat} {ls : Array Slot} {rest : List Value} {dC : Nat → ClassId} {dI : Nat → Nat → Nat} {ca : Nat → ClassId} {B : jF} {base : Nat} {G0 G : jT} {E : List (Nat × Nat)} {H0 : Heap} {zc zs : Nat} {L : List jPin} {M : List jCt} {I : List jIv} {a k n i N : Nat} {cA : ClassId} {tys : List (ClassId × FieldType)} {C own : String} {T : u_T} {index : Nat}
theorem j7_qastX {P : jT → Option Nat → Prop} (hexec : p.tables.exec = Jvm.exec) (hb : c.code = cc) (hK : va_K (dC, dI) vwCl tys s) (hh : jSt (dC, dI) B base G0 G E H0 zc zs L M I H locs) (hB : jBok B) (hBk : ∀ n G a H, B k n G a H ↔ jAq (dC, dI) cA P n G a H) (t0 : Nat) (ht : tys[t0]? = some (cA, .object C)) (hk : k < 1000) (hk2 : 18 ≤ k) (hE : E.contains (k, 0) = true) (hM : M.all (fun q => !(q.2.1 == k)) = true) (hI : I.all (fun q => !(q.1.contains (k, 0))) = true) (ha : G a = some (k, n)) {i : Int32} {x : Int} (hi : i.toInt = x) (h12 : 0 ≤ x ∧ x < n)
    {v kv nv N : Nat} {T : u_T} {F : Nat → jT → List (Value → Prop)} (hBv : ∀ n G a H, B kv n G a H ↔ jOb (dC, dI) kv N (F n G) a H) (hc : vwCl[kv]? = some (C, T, N)) (hkv : kv < 1000) (hv : G v = some (kv, nv)) (hP : P G (some v)) {f0 : Nat → Option Nat} {cB : ClassId} (hq0 : jQc dC dI cB a n f0 H) (hdg : decode cc pc = .ok (.aastore, 1))
    (kk : ∀ (H1 : Heap) (locs1 : List Loc) (g : Nat → Option Nat), g x.toNat = (some v) → (∀ j, j < n → j ≠ x.toNat → g j = f0 j) → jQc dC dI cA a n g H1 → (∀ q, q ≠ a → H1[q]? = H[q]?) → jSt (dC, dI) B base G0 G E H0 zc zs L M I H1 locs1 → W p l e R s m args below meth c H1 locs1 cells slots Q (F0 m (pc + 1) ls rest)) : W p l e R s m args below meth c H locs cells slots Q (F0 m pc ls (.ref v :: .int i :: .ref a :: rest)) := by
  obtain ⟨h1, h2⟩ := h12
  obtain ⟨f, g1, g2⟩ := hh.aq hBk hk ha
  obtain ⟨V, ⟨cellV, q1, q2, q3, q4⟩, hV⟩ := (hBv _ _ _ _).mp (hh.2.1.1 v kv nv hv hkv (fun h => by cases h))
  have hlt := jb_cl_lt hi h1 h2
  have hcls := (hK.1 kv _ hc).2
  obtain ⟨kA, comp, k1, k2, k3, -⟩ := (hK.2 t0 _ ht).2
  have hcomp : comp = dC kv := Option.some.inj (k3.symm.trans hcls.1)
  subst hcomp
  obtain ⟨kC, hkC, -⟩ := hcls.2
  refine W.aast hexec hb g1 (fun q h => by cases h) (fun h => by cases h) k1 k2 rfl hkC ⟨jb_n0 hi h1, by show _ < (arrV _ _ _).slots.size; rw [arrV_size]; exact hlt⟩ q1 (fun q h => by rw [q3] at h; cases h) (by rw [q2]; exact hkC) (by rw [q2]; exact va_assign hcls) rfl rfl hdg fun H1 e1 z oq => ?_
  have hat : jQc dC dI cA a n (va_up f i.toNatClampNeg (some v)) H1 := by
    show H1[a]? = some (vp_cell _ _)
    rw [e1]
    rw [vp_cell_q, vp_cell_q, arrV_store]
    congr 2
    funext q
    by_cases hq : q = i.toNatClampNeg
    · subst hq
      simp [updV, va_up, va_rf]
    · simp [updV, va_up, hq]
  refine kk H1 _ (va_up f i.toNatClampNeg (some v)) (by rw [← jb_cl hi h1]; simp [va_up]) (fun j hj hne => ?_) hat oq (hh.arr hB ha hk hk2 hE hM hI z oq (jTot_set z g1 e1 (jSet_sz _ _ _) oq) (fun q hq => ?_) ((hBk _ _ _ _).mpr ⟨_, hat, jAq_up g2 hP⟩))
  · rw [va_up_ne _ _ (by rw [jb_cl hi h1]; exact hne)]; exact jQc_eq g1 hq0 hj
  · rcases List.mem_append.mp hq with h | h
    · exact hh.1.2.2 q h
    · cases List.mem_singleton.mp h; exact (hh.ab ha).1
end J9B
end
section
-- p8: what becomes of what is told of the class's documents
/-- a checked sentence is added: the State behind it -/
def jzAd (q g : jKg) (a x : Nat) : Prop := ∃ (c : Int32) (b : Nat → Option Nat), g = q.put a (q.sn a) c (q.lf a) (q.cv a) (q.fv a) (q.sb a) (q.se a) (q.sc a) b ∧ c.toInt = (q.ck a).toInt + 1 ∧ b (q.ck a).toInt.toNat = some x ∧ ∀ j, j < 40 → j ≠ (q.ck a).toInt.toNat → b j = q.bh a j
end
section
-- p8: the class's documents, hands, lists, States as the machine
section J9C
variable {G : jT} {s0 : Nat} {t : jDtl} {q : jKg} {w : jWl9} {ho : Nat → Option Nat} {us rw : Nat → List Int} {qq : jRqG} {ib : Nat → List Int} {S : Int × (Int → jdD)} {Z : jwSt}
end J9C
section J9D
variable {G : jT} {s0 : Nat} {t : jDtl} {q : jKg} {w : jWl9} {ho : Nat → Option Nat} {us rw : Nat → List Int} {qq : jRqG} {ib : Nat → List Int} {S : Int × (Int → jdD)} {Z : jwSt} {o : Option Nat} {v v1 : Int} {a : Nat}
theorem jzN.zz (h : jcZ G s0 t q w ho us rw qq ib S Z) (hv : v = 0) : jzN S Z w none v := by
  subst hv
  refine ⟨-1, by omega, by omega, rfl, ?_⟩
  unfold jwNx
  rw [h.n, Int.sub_zero]
theorem jzN.bu (hN : jzN S Z w o v) (h : jcZ G s0 t q w ho us rw qq ib S Z) (h0 : 0 ≤ v) (hv : v < w.1) (ha : w.2.1 v.toNat = some a) (hb : q.cv a ≠ .null ∨ (q.sn a).toInt ≤ (q.ck a).toInt) (e : v1 = v + 1) : jzN S Z w o v1 := by
  obtain ⟨y, y0, y1, y2, y3⟩ := hN
  obtain ⟨n1, n2, n3, n4, n5, n6, n7, n8⟩ := h.nx h0 hv ha
  refine ⟨y, y0, by omega, y2, ?_⟩
  rw [← y3, show (w.1 - v1).toNat = (w.1 - v).toNat - 1 by omega]
  refine jwN_n (by omega) ?_ e
  rcases hb with hb | hb
  · by_cases c0 : ho 0 = some a
    · exact Or.inr (Or.inl (n4.mpr c0))
    · by_cases c1 : ho 1 = some a
      · exact Or.inr (Or.inr (n5.mpr c1))
      · exact absurd (n7.mpr ⟨c0, c1⟩) hb
  · exact Or.inl (by omega)
theorem jzN.fi (hN : jzN S Z w o v) (h : jcZ G s0 t q w ho us rw qq ib S Z) (h0 : 0 ≤ v) (hv : v < w.1) (ha : w.2.1 v.toNat = some a) (hc : q.cv a = .null) (hl : (q.ck a).toInt < (q.sn a).toInt) (hx : ¬ ∃ x ∈ w.2.2.1, qq.ab x = .ref a) (e : v1 = v + 1) : (o = none → jzN S Z w (some a) v1) ∧ (o ≠ none → jzN S Z w o v1) := by
  obtain ⟨y, y0, y1, y2, y3⟩ := hN
  obtain ⟨n1, n2, n3, n4, n5, n6, n7, n8⟩ := h.nx h0 hv ha
  have c := n7.mp hc
  have key : ∀ x1 : Int, x1 = (if y < 0 then v else y) → jwN S Z (w.1 - v1).toNat v1 x1 = jwNx S Z := fun x1 e1 => by
    rw [← y3, show (w.1 - v1).toNat = (w.1 - v).toNat - 1 by omega]
    exact jwN_f (by omega) (by omega) (fun e => c.1 (n4.mp e)) (fun e => c.2 (n5.mp e)) (fun e => hx (n6.mp e)) e e1
  refine ⟨fun eo => ?_, fun eo => ?_⟩
  · have y4 : y < 0 := by
      by_cases z : y < 0
      · exact z
      · exfalso
        rw [eo] at y2
        unfold jdRf at y2
        rw [if_neg z] at y2
        obtain ⟨b, hb⟩ := h.1.2.1 y.toNat (by omega)
        rw [hb] at y2
        cases y2
    exact ⟨v, by omega, by omega, jdRf.of h0 ha, key v (by rw [if_pos y4])⟩
  · have y4 : ¬ y < 0 := fun z => by
      unfold jdRf at y2
      rw [if_pos z] at y2
      cases o with
      | none => exact eo rfl
      | some b => cases y2
    exact ⟨y, by omega, by omega, y2, key y (by rw [if_neg y4])⟩
end J9D
section J9E
variable {ho h h1 : Nat → Option Nat} {a : Nat} {v v1 : Int} {o : Option Nat}
theorem jzRh.zz (hv : v = 0) : jzRh ho ho a v := fun i _ => by rw [if_neg (by omega)]
end J9E
end
section
def EX1_addCheckedK : List (Nat × Nat) := [(3, 10), (210, 0)]
def EX11_releaseK : List (Nat × Nat) := [(3, 11), (3, 12), (3, 13), (212, 0)]
set_option maxHeartbeats 4000000 in
set_option maxRecDepth 20000 in
theorem uX1_addCheckedK (l : Launch) (dC : Nat → ClassId) (dI : Nat → Nat → Nat) (ca : Nat → ClassId) (base : Nat) (B : jF) (hB : jBok B) (hAp : jAp (dC, dI)) (hB3 : ∀ n G a H, B 3 n G a H ↔ jOb (dC, dI) 3 17 (F3 n G) a H) (hB11 : ∀ n G a H, B 11 n G a H ↔ jOb (dC, dI) 11 9 (F11 n G) a H) (hB171 : ∀ n G a H, B 171 n G a H ↔ jAr (dC, dI) (ca 1) (fun j z => 0 ≤ z.toInt ∧ z.toInt ≤ 1500) n a H) (hB172 : ∀ n G a H, B 172 n G a H ↔ jAr (dC, dI) (ca 1) (fun j z => 0 ≤ z.toInt ∧ z.toInt ≤ 1500) n a H) (hB176 : ∀ n G a H, B 176 n G a H ↔ jAr (dC, dI) (ca 1) (fun j z => True) n a H) (hB210 : ∀ n G a H, B 210 n G a H ↔ jAq (dC, dI) (ca 6) (jQn 11 0) n G a H) (G0 : jT) (H0 : Heap) (r0 : Nat) (r1 : Nat) (sa_ : Nat) (ea_ : Nat) (ps : Int32) (pk : Int32) (ph : Nat) (kq : jKg) : Met l yX1_addChecked (jw yX1_addChecked cX1_addChecked 2 none) ({ frames := 0, cells := 0, slots := 0, locals := 0 }) (va_Pc [.ref r0, .ref r1] (fun U => U.heap = H0 ∧ jX B base G0 [] H0 ∧ jG dC dI ca base U ∧ jK2 dC dI ca U ∧ G0 r0 = some (3, 0) ∧ G0 r1 = some (11, 0) ∧ G0 sa_ = some (171, 40) ∧ G0 ea_ = some (172, 40) ∧ jP (dC, dI) G0 H0 [(r0, 3, 5, .ref sa_), (r0, 3, 6, .ref ea_), (r0, 3, 4, .int ps), (r0, 3, 10, .int pk)] ∧ jIs (dC, dI) G0 H0 [(jFkd, jKD dC dI ca G0 none kq), (jFdo, jDcc dC dI ca G0 (some r0) ph)] ∧ 0 ≤ pk.toInt ∧ pk.toInt < ps.toInt ∧ ps.toInt ≤ 40)) (va_Qv (S := Int32 × (jKg)) (fun u => u.1.toInt = pk.toInt + 1 ∧ jzAd kq u.2 r0 r1) (fun u t => ((jRt (dC, dI) B base G0 EX1_addCheckedK H0 [(r0, 3, 10, .int u.1)] t.heap) ∧ jOw (dC, dI) G0 3 r0 H0 t.heap) ∧ jIs (dC, dI) G0 t.heap [(jFkd, jKD dC dI ca G0 none (u.2)), (jFdo, jDcc dC dI ca G0 (some r0) ph)]) (jA base)) 0 0 (jA base) := by
  refine Met.ofW (cc := cX1_addChecked) (maxL := 2) (ret := none) (by decide) rfl ?_
  intro p e s m args below meth c s₁ Bd hml hv
  obtain ⟨rfl, hH0, hX, hG, hK2, hg_r0, hg_r1, hg_sa_, hg_ea_, hP0, hI0, hp0, hp1, hp2⟩ := hv
  have hK := hG.1
  have hx := Bd.exec
  have hb := Bd.bytes
  have hr := Bd.returns
  have hts := atoms_spec (ws := (jw yX1_addChecked cX1_addChecked 2 none)) Bd.pre
  have htw : ∀ w ∈ jWl, w.before _ s = true := fun w h => hts w (List.mem_cons_of_mem _ h)
  have hown : s.vm.findClass RX1 = some m.cls := findClass_of_methodNamed Bd.named
  have hlocks := Bd.notSynchronized
  obtain ⟨Q, hQ⟩ : ∃ Q, Q = MQ below (va_Qv (S := Int32 × (jKg)) (fun u => u.1.toInt = pk.toInt + 1 ∧ jzAd kq u.2 r0 r1) (fun u t => ((jRt (dC, dI) B base G0 EX1_addCheckedK H0 [(r0, 3, 10, .int u.1)] t.heap) ∧ jOw (dC, dI) G0 3 r0 H0 t.heap) ∧ jIs (dC, dI) G0 t.heap [(jFkd, jKD dC dI ca G0 none (u.2)), (jFdo, jDcc dC dI ca G0 (some r0) ph)]) (jA base)) ([.ref r0, .ref r1] : List Value).toArray s 0 0 (jA base) := ⟨_, rfl⟩
  rw [← hQ]
  have hl := lv_entry ([.ref r0, .ref r1]) (n := 2) (Nat.le_of_ble_eq_true rfl)
  rw [lg_entry_eq]
  generalize (lg_sl ([.ref r0, .ref r1]) ++ List.replicate (2 - (lg_sl ([.ref r0, .ref r1])).length) Slot.unset).toArray = ls at hl ⊢
  have hl : lv_has ls 2 [(0, .ref r0), (1, .ref r1)] := hl
  generalize hR : (headSpec (jw yX1_addChecked cX1_addChecked 2 none) ({ frames := 0, cells := 0, slots := 0, locals := 0 })).room = R
  subst hH0
  have hh : jSt (dC, dI) B base G0 G0 EX1_addCheckedK s.heap 0 0 [(r0, 3, 5, .ref sa_), (r0, 3, 6, .ref ea_), (r0, 3, 4, .int ps), (r0, 3, 10, .int pk)] [] [(jFkd, jKD dC dI ca G0 none kq), (jFdo, jDcc dC dI ca G0 (some r0) ph)] s.heap [] := jSt.start hX hP0 jMc.nil hI0
  clear hX hP0
  have hk0 : (0 : Int32).toInt = 0 := by decide
  have hk1 : (1 : Int32).toInt = 1 := by decide
  have hly_3_4 := htw (u_lay RX1 TX1 4) (jWc_wsX10 _ (u_in_lay (by decide)))
  have hly_3_9 := htw (u_lay RX1 TX1 9) (jWc_wsX10 _ (u_in_lay (by decide)))
  have hly_3_10 := htw (u_lay RX1 TX1 10) (jWc_wsX10 _ (u_in_lay (by decide)))
  have hlk_72 := (htw (.fieldLink RX1 72 "ProofServer$Document" "checked" "I") (jWr_42 _ (List.mem_of_getElem? (i := 20) rfl)))
  have hlk_69 := (htw (.fieldLink RX1 69 "ProofServer$Document" "sentences" "I") (jWr_29 _ (List.mem_of_getElem? (i := 14) rfl)))
  have hlk_32 := (htw (.fieldLink RX1 32 "ProofServer$Document" "behind" "[LProofServer$State;") (jWr_10 _ (List.mem_of_getElem? (i := 12) rfl)))
  have hh_1 := hh.addI (jOw.ie (dC := dC) (dI := dI) (G0 := G0) (k := 3) (r := r0) (H0 := s.heap) (F := [(3, 0), (3, 1), (3, 2), (3, 3), (3, 4), (3, 5), (3, 6), (3, 7), (3, 8), (3, 9), (3, 10), (3, 11), (3, 12), (3, 13), (3, 14), (3, 15), (3, 16)]) (C := RX1) (T := TX1) (N := 17) rfl (by decide) hh.2.2.2.2.1 (jOw.rf))
  clear hh
  obtain ⟨⟨ysb_2, yse_2, ysc_2, ybh_2, hgsb_2, hgse_2, hgsc_2, hgbh_2, hgP_2, hgM_2, hqbh_2⟩, hGe_2⟩ := jKD.opn (ca := ca) (hh_1.iv 1 rfl) hg_r0
  obtain rfl : sa_ = ysb_2 := by have h9 := jf.uniq (hh_1.at 0 rfl) (hgP_2 _ (List.mem_of_getElem? (i := 0) rfl)).2; cases h9; rfl
  obtain rfl : ea_ = yse_2 := by have h9 := jf.uniq (hh_1.at 1 rfl) (hgP_2 _ (List.mem_of_getElem? (i := 1) rfl)).2; cases h9; rfl
  have hge_2_4 := congrArg Int32.toInt (Value.int.inj (jf.uniq (hh_1.at 2 rfl) (hgP_2 _ (List.mem_of_getElem? (i := 4) rfl)).2))
  have hge_2_5 := congrArg Int32.toInt (Value.int.inj (jf.uniq (hh_1.at 3 rfl) (hgP_2 _ (List.mem_of_getElem? (i := 5) rfl)).2))
  have hh_3 := ((hh_1.sub (L1 := []) [] rfl (M1 := []) [] rfl (I1 := [([(3, 0), (3, 1), (3, 2), (3, 3), (3, 4), (3, 5), (3, 6), (3, 7), (3, 8), (3, 9), (3, 10), (3, 11), (3, 12), (3, 13), (3, 14), (3, 15), (3, 16)], jOw (dC, dI) G0 3 r0 s.heap), (jFkd, jKD dC dI ca G0 none kq), (jFdo, jDcc dC dI ca G0 (some r0) ph)]) [0, 1, 2] rfl).more (hgP_2.sub (L1 := [(r0, 3, 5, .ref sa_), (r0, 3, 6, .ref ea_), (r0, 3, 7, .ref ysc_2), (r0, 3, 9, .ref ybh_2), (r0, 3, 4, .int (kq.sn r0)), (r0, 3, 10, .int (kq.ck r0)), (r0, 3, 13, .int (kq.lf r0)), (r0, 3, 11, (kq.cv r0)), (r0, 3, 12, (kq.fv r0))]) [0, 1, 2, 3, 4, 5, 6, 7, 8] rfl)).moreM hgM_2
  clear hh_1
  have hh_4 := hh_3.addI (jQc.ie hqbh_2 hgbh_2 (by decide) (by decide))
  clear hh_3
  have hh_5 := hh_4.sub (L1 := [(r0, 3, 5, .ref sa_), (r0, 3, 6, .ref ea_), (r0, 3, 7, .ref ysc_2), (r0, 3, 9, .ref ybh_2), (r0, 3, 4, .int (kq.sn r0)), (r0, 3, 10, .int (kq.ck r0)), (r0, 3, 13, .int (kq.lf r0)), (r0, 3, 11, (kq.cv r0)), (r0, 3, 12, (kq.fv r0))]) [0, 1, 2, 3, 4, 5, 6, 7, 8] rfl (M1 := [(sa_, 171, 40, ca 1, (kq.sb r0)), (ea_, 172, 40, ca 1, (kq.se r0)), (ysc_2, 176, 40, ca 1, (kq.sc r0))]) [0, 1, 2] rfl (I1 := [([(210, 0)], jQc dC dI (ca 6) ybh_2 40 (kq.bh r0)), ([(3, 0), (3, 1), (3, 2), (3, 3), (3, 4), (3, 5), (3, 6), (3, 7), (3, 8), (3, 9), (3, 10), (3, 11), (3, 12), (3, 13), (3, 14), (3, 15), (3, 16)], jOw (dC, dI) G0 3 r0 s.heap), (jFdo, jDcc dC dI ca G0 (some r0) ph)]) [0, 1, 3] rfl
  clear hh_4
  have hh_6 := hh_5.addI (jKD.ie hGe_2)
  clear hh_5
  refine lv_aload_n hx hb dX1_addChecked_0 rfl (lv_at hl 0 rfl) ?_
  refine j7_read hx hb hown hK (C := RX1) (T := TX1) (N := 17) rfl hly_3_10 hlk_72 (hh_6.at 5 rfl) dX1_addChecked_1 ?_
  refine lv_aload_n hx hb dX1_addChecked_4 rfl (lv_at hl 0 rfl) ?_
  refine j7_read hx hb hown hK (C := RX1) (T := TX1) (N := 17) rfl hly_3_4 hlk_69 (hh_6.at 4 rfl) dX1_addChecked_5 ?_
  refine lv_icmp_ge (tgt := 31) hx hb dX1_addChecked_8 (by decide) (fun c_7 => ?_) (fun c_7 => ?_)
  · skip
    have c_7' : (kq.ck r0).toInt ≥ (kq.sn r0).toInt := jb_ge (rfl) (rfl) c_7
    exact absurd c_7' (by omega)
  · skip
    have c_7' : (kq.ck r0).toInt < (kq.sn r0).toInt := jb_ge_n (rfl) (rfl) c_7
    refine lv_aload_n hx hb dX1_addChecked_11 rfl (lv_at hl 0 rfl) ?_
    refine j7_read hx hb hown hK (C := RX1) (T := TX1) (N := 17) rfl hly_3_9 hlk_32 (hh_6.at 3 rfl) dX1_addChecked_12 ?_
    refine lv_aload_n hx hb dX1_addChecked_15 rfl (lv_at hl 0 rfl) ?_
    refine j7_read hx hb hown hK (C := RX1) (T := TX1) (N := 17) rfl hly_3_10 hlk_72 (hh_6.at 5 rfl) dX1_addChecked_16 ?_
    refine lv_aload_n hx hb dX1_addChecked_19 rfl (lv_at hl 1 rfl) ?_
    have hd_9 := hh_6.iv 1 rfl
    have hd_10 := hh_6.iv 0 rfl
    have hd_10f := hh_6.at 3 rfl
    have hh_12 := hh_6.sub (L1 := [(r0, 3, 5, .ref sa_), (r0, 3, 6, .ref ea_), (r0, 3, 7, .ref ysc_2), (r0, 3, 9, .ref ybh_2), (r0, 3, 4, .int (kq.sn r0)), (r0, 3, 10, .int (kq.ck r0)), (r0, 3, 13, .int (kq.lf r0)), (r0, 3, 11, (kq.cv r0)), (r0, 3, 12, (kq.fv r0))]) [0, 1, 2, 3, 4, 5, 6, 7, 8] rfl (M1 := [(sa_, 171, 40, ca 1, (kq.sb r0)), (ea_, 172, 40, ca 1, (kq.se r0)), (ysc_2, 176, 40, ca 1, (kq.sc r0))]) [0, 1, 2] rfl (I1 := [([(3, 0), (3, 1), (3, 2), (3, 3), (3, 4), (3, 5), (3, 6), (3, 7), (3, 8), (3, 9), (3, 10), (3, 11), (3, 12), (3, 13), (3, 14), (3, 15), (3, 16)], jOw (dC, dI) G0 3 r0 s.heap), (jFdo, jDcc dC dI ca G0 (some r0) ph)]) [2, 3] rfl
    clear hh_6
    refine j7_qastX hx hb hK2 hh_12 hB hB210 2 rfl (by decide) (by decide) rfl rfl rfl hgbh_2 (x := (kq.ck r0).toInt) (rfl) (by omega) hB11 (T := TX9) (N := 9) rfl (by decide) hg_r1 (Or.inr ⟨_, rfl, hg_r1⟩) hd_9 dX1_addChecked_20 (fun H_8 locs_8 fq_11 hv_8 ho_8 hq_8 hr_8 hh_8 => ?_)
    clear hh_12
    have hd_10n := jKD.a9 hd_10 hg_r0 hgbh_2 hd_10f hr_8
    have hh_13 := hh_8.addI (jKD.ie hd_10n)
    clear hh_8
    have hh_14 := hh_13.addI (hq_8.ie hgbh_2 (by decide) (by decide))
    clear hh_13
    clear hd_9 hd_10 hd_10f hd_10n hr_8
    refine lv_aload_n hx hb dX1_addChecked_21 rfl (lv_at hl 0 rfl) ?_
    refine lv_dup hx hb dX1_addChecked_22 rfl ?_
    refine j7_read hx hb hown hK (C := RX1) (T := TX1) (N := 17) rfl hly_3_10 hlk_72 (hh_14.at 5 rfl) dX1_addChecked_23 ?_
    refine lv_iconst (v := 1) hx hb dX1_addChecked_26 (by decide) ?_
    refine lv_iadd hx hb dX1_addChecked_27 ?_
    refine lv_topi (fun z_15 ez_15 => ?_)
    have hz_15 : z_15.toInt = ((kq.ck r0).toInt) + 1 := by rw [ez_15]; exact jb_iadd2 (rfl) ((by decide)) (by omega)
    have hdg_16 := hh_14.iv 1 rfl
    have hdg_16_5 := hh_14.at 0 rfl
    have hdg_16_6 := hh_14.at 1 rfl
    have hdg_16_7 := hh_14.at 2 rfl
    have hdg_16_9 := hh_14.at 3 rfl
    have hh_17 := hh_14.sub (L1 := [(r0, 3, 5, .ref sa_), (r0, 3, 6, .ref ea_), (r0, 3, 7, .ref ysc_2), (r0, 3, 9, .ref ybh_2), (r0, 3, 4, .int (kq.sn r0)), (r0, 3, 10, .int (kq.ck r0)), (r0, 3, 13, .int (kq.lf r0)), (r0, 3, 11, (kq.cv r0)), (r0, 3, 12, (kq.fv r0))]) [0, 1, 2, 3, 4, 5, 6, 7, 8] rfl (M1 := [(sa_, 171, 40, ca 1, (kq.sb r0)), (ea_, 172, 40, ca 1, (kq.se r0)), (ysc_2, 176, 40, ca 1, (kq.sc r0))]) [0, 1, 2] rfl (I1 := [([(210, 0)], jQc dC dI (ca 6) ybh_2 40 fq_11), ([(3, 0), (3, 1), (3, 2), (3, 3), (3, 4), (3, 5), (3, 6), (3, 7), (3, 8), (3, 9), (3, 10), (3, 11), (3, 12), (3, 13), (3, 14), (3, 15), (3, 16)], jOw (dC, dI) G0 3 r0 s.heap), (jFdo, jDcc dC dI ca G0 (some r0) ph)]) [0, 2, 3] rfl
    clear hh_14
    have hd_19 := hh_17.iv 2 rfl
    have hd_195 := hh_17.at 0 rfl
    have hd_196 := hh_17.at 1 rfl
    have hd_19o := hh_17.iv 1 rfl
    have hh_20 := hh_17.sub (L1 := [(r0, 3, 5, .ref sa_), (r0, 3, 6, .ref ea_), (r0, 3, 7, .ref ysc_2), (r0, 3, 9, .ref ybh_2), (r0, 3, 4, .int (kq.sn r0)), (r0, 3, 10, .int (kq.ck r0)), (r0, 3, 13, .int (kq.lf r0)), (r0, 3, 11, (kq.cv r0)), (r0, 3, 12, (kq.fv r0))]) [0, 1, 2, 3, 4, 5, 6, 7, 8] rfl (M1 := [(sa_, 171, 40, ca 1, (kq.sb r0)), (ea_, 172, 40, ca 1, (kq.se r0)), (ysc_2, 176, 40, ca 1, (kq.sc r0))]) [0, 1, 2] rfl (I1 := [([(210, 0)], jQc dC dI (ca 6) ybh_2 40 fq_11)]) [0] rfl
    clear hh_17
    refine j7_putX hx hb hown hK hh_20 hB hAp hB3 (C := RX1) (T := TX1) (N := 17) rfl (by decide) hg_r0 (i := 10) (by decide) hly_3_10 rfl hlk_72 rfl (ty := .int) (v := .int z_15) (by decide +kernel) rfl rfl (⟨_, rfl, by omega, by omega⟩) rfl (L1 := [(r0, 3, 5, .ref sa_), (r0, 3, 6, .ref ea_), (r0, 3, 7, .ref ysc_2), (r0, 3, 9, .ref ybh_2), (r0, 3, 4, .int (kq.sn r0)), (r0, 3, 13, .int (kq.lf r0)), (r0, 3, 11, (kq.cv r0)), (r0, 3, 12, (kq.fv r0))]) [0, 1, 2, 3, 4, 6, 7, 8] rfl rfl rfl dX1_addChecked_28 (fun H_18 locs_18 hr_18 hh_18 => ?_)
    clear hh_20
    have hd_19n := jDcc.fld hd_19 hg_r0 hr_18 hd_195 hd_196 (hh_18.at 1 rfl) (hh_18.at 2 rfl)
    have hd_19on := jOw.put hd_19o hr_18
    have hh_21 := hh_18.addI (jDcc.ie hd_19n)
    clear hh_18
    have hh_22 := hh_21.addI (jOw.ie (dC := dC) (dI := dI) (G0 := G0) (k := 3) (r := r0) (H0 := s.heap) (F := [(3, 0), (3, 1), (3, 2), (3, 3), (3, 4), (3, 5), (3, 6), (3, 7), (3, 8), (3, 9), (3, 10), (3, 11), (3, 12), (3, 13), (3, 14), (3, 15), (3, 16)]) (C := RX1) (T := TX1) (N := 17) rfl (by decide) hh_21.2.2.2.2.1 (hd_19on))
    clear hh_21
    clear hd_19 hd_19n hd_195 hd_196 hd_19o hd_19on
    have hdg_16n := jKD.fld (ca := ca) hdg_16 hg_r0 hr_18 hdg_16_5 hdg_16_6 hdg_16_7 hdg_16_9 (hh_22.at 1 rfl) (hh_22.at 2 rfl) (hh_22.at 3 rfl) (hh_22.at 4 rfl)
    have hh_23 := hh_22.addI (jKD.ie hdg_16n)
    clear hh_22
    clear hdg_16 hdg_16n hr_18 hdg_16_5 hdg_16_6 hdg_16_7 hdg_16_9
    have hF_24 := jKD.full (ca := ca) (hh_23.iv 0 rfl) hg_r0 (hh_23.at 1 rfl) (hh_23.at 2 rfl) (hh_23.at 3 rfl) (hh_23.at 4 rfl) (hh_23.at 5 rfl) (hh_23.at 0 rfl) (hh_23.at 6 rfl) (hh_23.at 7 rfl) (hh_23.at 8 rfl) (hh_23.2.2.2.2.2.2.2.1.sub (L1 := [(sa_, 171, 40, ca 1, (kq.sb r0)), (ea_, 172, 40, ca 1, (kq.se r0)), (ysc_2, 176, 40, ca 1, (kq.sc r0))]) [0, 1, 2] rfl) (hh_23.iv 3 rfl)
    obtain ⟨g_24, ht_25⟩ : ∃ q : jKg, q = kq.put r0 (kq.sn r0) z_15 (kq.lf r0) ((kq.cv r0)) ((kq.fv r0)) (kq.sb r0) (kq.se r0) (kq.sc r0) fq_11 := ⟨_, rfl⟩
    rw [← ht_25] at hF_24
    have hh_26 := hh_23.sub (L1 := [(r0, 3, 10, .int z_15), (r0, 3, 5, .ref sa_), (r0, 3, 6, .ref ea_), (r0, 3, 7, .ref ysc_2), (r0, 3, 9, .ref ybh_2), (r0, 3, 4, .int (kq.sn r0)), (r0, 3, 13, .int (kq.lf r0)), (r0, 3, 11, (kq.cv r0)), (r0, 3, 12, (kq.fv r0))]) [0, 1, 2, 3, 4, 5, 6, 7, 8] rfl (M1 := [(sa_, 171, 40, ca 1, (kq.sb r0)), (ea_, 172, 40, ca 1, (kq.se r0)), (ysc_2, 176, 40, ca 1, (kq.sc r0))]) [0, 1, 2] rfl (I1 := [([(3, 0), (3, 1), (3, 2), (3, 3), (3, 4), (3, 5), (3, 6), (3, 7), (3, 8), (3, 9), (3, 10), (3, 11), (3, 12), (3, 13), (3, 14), (3, 15), (3, 16)], jOw (dC, dI) G0 3 r0 s.heap), (jFdo, jDcc dC dI ca G0 (some r0) ph)]) [1, 2] rfl
    clear hh_23
    have hh_27 := hh_26.addI (jKD.ie hF_24)
    clear hh_26
    rw [hQ]
    exact W.vret hx hb hr (fun t ht hW => ⟨⟨(z_15, g_24), rfl, by (try dsimp only); exact ⟨by omega, _, _, ht_25, by omega, hv_8, ho_8⟩, ⟨⟨hh_27.rt (M1 := [(r0, 3, 10, .int z_15)]) [0] rfl ht, by rw [ht]; exact hh_27.iv 1 rfl⟩, by rw [ht]; exact hh_27.2.2.2.2.2.2.2.2.sub (L1 := [(jFkd, jKD dC dI ca G0 none g_24), (jFdo, jDcc dC dI ca G0 (some r0) ph)]) [0, 2] rfl⟩⟩, by rw [ht]; try exact hh_27.1.1, fun q h9 hq => by rw [ht]; try exact hh_27.1.2.1 q h9 hq⟩) hh_27.1.2.2 dX1_addChecked_31
set_option maxHeartbeats 4000000 in
set_option maxRecDepth 20000 in
theorem uX11_releaseK (l : Launch) (dC : Nat → ClassId) (dI : Nat → Nat → Nat) (ca : Nat → ClassId) (base : Nat) (B : jF) (hB : jBok B) (hAp : jAp (dC, dI)) (hB3 : ∀ n G a H, B 3 n G a H ↔ jOb (dC, dI) 3 17 (F3 n G) a H) (hB11 : ∀ n G a H, B 11 n G a H ↔ jOb (dC, dI) 11 9 (F11 n G) a H) (hB13 : ∀ n G a H, B 13 n G a H ↔ jOb (dC, dI) 13 19 (F13 n G) a H) (hB171 : ∀ n G a H, B 171 n G a H ↔ jAr (dC, dI) (ca 1) (fun j z => 0 ≤ z.toInt ∧ z.toInt ≤ 1500) n a H) (hB172 : ∀ n G a H, B 172 n G a H ↔ jAr (dC, dI) (ca 1) (fun j z => 0 ≤ z.toInt ∧ z.toInt ≤ 1500) n a H) (hB175 : ∀ n G a H, B 175 n G a H ↔ jAr (dC, dI) (ca 1) (fun j z => True) n a H) (hB176 : ∀ n G a H, B 176 n G a H ↔ jAr (dC, dI) (ca 1) (fun j z => True) n a H) (hB210 : ∀ n G a H, B 210 n G a H ↔ jAq (dC, dI) (ca 6) (jQn 11 0) n G a H) (hB212 : ∀ n G a H, B 212 n G a H ↔ jAq (dC, dI) (ca 5) (jQn 3 0) n G a H) (G0 : jT) (H0 : Heap) (r0 : Nat) (r1 : Nat) (sa_ : Nat) (ea_ : Nat) (ph : Nat) (kq : jKg) (ho : Nat → Option Nat) : Met l yX11_release (jw yX11_release cX11_release 3 none) ({ frames := 0, cells := 0, slots := 0, locals := 0 }) (va_Pc [.ref r0, .ref r1] (fun U => U.heap = H0 ∧ jX B base G0 [] H0 ∧ jG dC dI ca base U ∧ jK2 dC dI ca U ∧ G0 r0 = some (13, 0) ∧ G0 r1 = some (3, 0) ∧ G0 sa_ = some (171, 40) ∧ G0 ea_ = some (172, 40) ∧ jP (dC, dI) G0 H0 [(r1, 3, 5, .ref sa_), (r1, 3, 6, .ref ea_)] ∧ jIs (dC, dI) G0 H0 [(jFkd, jKD dC dI ca G0 none kq), (jFHh, jHh dC dI ca G0 r0 ho), (jFdo, jDcc dC dI ca G0 (some r1) ph)] ∧ True)) (va_Qv (S := (jKg) × ((Nat → Option Nat))) (fun u => jzRe kq u.1 r1 ∧ (∀ i : Nat, i < 2 → u.2 i = (if ho i = some r1 then none else ho i))) (fun u t => (jRt (dC, dI) B base G0 EX11_releaseK H0 [(r1, 3, 11, .null)] t.heap) ∧ jIs (dC, dI) G0 t.heap [(jFkd, jKD dC dI ca G0 none (u.1)), (jFHh, jHh dC dI ca G0 r0 (u.2)), (jFdo, jDcc dC dI ca G0 (some r1) ph)]) (jA base)) 0 0 (jA base) := by
  refine Met.ofW (cc := cX11_release) (maxL := 3) (ret := none) (by decide) rfl ?_
  intro p e s m args below meth c s₁ Bd hml hv
  obtain ⟨rfl, hH0, hX, hG, hK2, hg_r0, hg_r1, hg_sa_, hg_ea_, hP0, hI0, hp0⟩ := hv
  have hK := hG.1
  have hx := Bd.exec
  have hb := Bd.bytes
  have hr := Bd.returns
  have hts := atoms_spec (ws := (jw yX11_release cX11_release 3 none)) Bd.pre
  have htw : ∀ w ∈ jWl, w.before _ s = true := fun w h => hts w (List.mem_cons_of_mem _ h)
  have hown : s.vm.findClass RX11 = some m.cls := findClass_of_methodNamed Bd.named
  have hlocks := Bd.notSynchronized
  obtain ⟨Q, hQ⟩ : ∃ Q, Q = MQ below (va_Qv (S := (jKg) × ((Nat → Option Nat))) (fun u => jzRe kq u.1 r1 ∧ (∀ i : Nat, i < 2 → u.2 i = (if ho i = some r1 then none else ho i))) (fun u t => (jRt (dC, dI) B base G0 EX11_releaseK H0 [(r1, 3, 11, .null)] t.heap) ∧ jIs (dC, dI) G0 t.heap [(jFkd, jKD dC dI ca G0 none (u.1)), (jFHh, jHh dC dI ca G0 r0 (u.2)), (jFdo, jDcc dC dI ca G0 (some r1) ph)]) (jA base)) ([.ref r0, .ref r1] : List Value).toArray s 0 0 (jA base) := ⟨_, rfl⟩
  rw [← hQ]
  have hl := lv_entry ([.ref r0, .ref r1]) (n := 3) (Nat.le_of_ble_eq_true rfl)
  rw [lg_entry_eq]
  generalize (lg_sl ([.ref r0, .ref r1]) ++ List.replicate (3 - (lg_sl ([.ref r0, .ref r1])).length) Slot.unset).toArray = ls at hl ⊢
  have hl : lv_has ls 3 [(0, .ref r0), (1, .ref r1)] := hl
  generalize hR : (headSpec (jw yX11_release cX11_release 3 none) ({ frames := 0, cells := 0, slots := 0, locals := 0 })).room = R
  subst hH0
  have hh : jSt (dC, dI) B base G0 G0 EX11_releaseK s.heap 0 0 [(r1, 3, 5, .ref sa_), (r1, 3, 6, .ref ea_)] [] [(jFkd, jKD dC dI ca G0 none kq), (jFHh, jHh dC dI ca G0 r0 ho), (jFdo, jDcc dC dI ca G0 (some r1) ph)] s.heap [] := jSt.start hX hP0 jMc.nil hI0
  clear hX hP0
  have hk0 : (0 : Int32).toInt = 0 := by decide
  have hk1 : (1 : Int32).toInt = 1 := by decide
  have hk2 : (2 : Int32).toInt = 2 := by decide
  have hly_3_11 := htw (u_lay RX1 TX1 11) (jWc_wsX10 _ (u_in_lay (by decide)))
  have hly_3_12 := htw (u_lay RX1 TX1 12) (jWc_wsX10 _ (u_in_lay (by decide)))
  have hly_3_13 := htw (u_lay RX1 TX1 13) (jWc_wsX10 _ (u_in_lay (by decide)))
  have hly_13_10 := htw (u_lay RX11 TX11 10) (jWc_wsX110 _ (u_in_lay (by decide)))
  have hlk_567 := (htw (.fieldLink RX11 567 "ProofServer$Document" "checking" "[I") (jWr_43 _ (List.mem_of_getElem? (i := 7) rfl)))
  have hlk_580 := (htw (.fieldLink RX11 580 "ProofServer$Document" "found" "LProofServer$State;") (jWr_43 _ (List.mem_of_getElem? (i := 8) rfl)))
  have hlk_577 := (htw (.fieldLink RX11 577 "ProofServer$Document" "left" "I") (jWr_43 _ (List.mem_of_getElem? (i := 9) rfl)))
  have hlk_73 := (htw (.fieldLink RX11 73 "ProofServer" "hands" "[LProofServer$Document;") (jWr_2 _ (List.mem_of_getElem? (i := 18) rfl)))
  obtain ⟨⟨ysb_1, yse_1, ysc_1, ybh_1, hgsb_1, hgse_1, hgsc_1, hgbh_1, hgP_1, hgM_1, hqbh_1⟩, hGe_1⟩ := jKD.opn (ca := ca) (hh.iv 0 rfl) hg_r1
  obtain rfl : sa_ = ysb_1 := by have h9 := jf.uniq (hh.at 0 rfl) (hgP_1 _ (List.mem_of_getElem? (i := 0) rfl)).2; cases h9; rfl
  obtain rfl : ea_ = yse_1 := by have h9 := jf.uniq (hh.at 1 rfl) (hgP_1 _ (List.mem_of_getElem? (i := 1) rfl)).2; cases h9; rfl
  have hh_2 := ((hh.sub (L1 := []) [] rfl (M1 := []) [] rfl (I1 := [(jFkd, jKD dC dI ca G0 none kq), (jFHh, jHh dC dI ca G0 r0 ho), (jFdo, jDcc dC dI ca G0 (some r1) ph)]) [0, 1, 2] rfl).more (hgP_1.sub (L1 := [(r1, 3, 5, .ref sa_), (r1, 3, 6, .ref ea_), (r1, 3, 7, .ref ysc_1), (r1, 3, 9, .ref ybh_1), (r1, 3, 4, .int (kq.sn r1)), (r1, 3, 10, .int (kq.ck r1)), (r1, 3, 13, .int (kq.lf r1)), (r1, 3, 11, (kq.cv r1)), (r1, 3, 12, (kq.fv r1))]) [0, 1, 2, 3, 4, 5, 6, 7, 8] rfl)).moreM hgM_1
  clear hh
  have hh_3 := hh_2.addI (jQc.ie hqbh_1 hgbh_1 (by decide) (by decide))
  clear hh_2
  have hh_4 := hh_3.sub (L1 := [(r1, 3, 5, .ref sa_), (r1, 3, 6, .ref ea_), (r1, 3, 7, .ref ysc_1), (r1, 3, 9, .ref ybh_1), (r1, 3, 4, .int (kq.sn r1)), (r1, 3, 10, .int (kq.ck r1)), (r1, 3, 13, .int (kq.lf r1)), (r1, 3, 11, (kq.cv r1)), (r1, 3, 12, (kq.fv r1))]) [0, 1, 2, 3, 4, 5, 6, 7, 8] rfl (M1 := [(sa_, 171, 40, ca 1, (kq.sb r1)), (ea_, 172, 40, ca 1, (kq.se r1)), (ysc_1, 176, 40, ca 1, (kq.sc r1))]) [0, 1, 2] rfl (I1 := [([(210, 0)], jQc dC dI (ca 6) ybh_1 40 (kq.bh r1)), (jFHh, jHh dC dI ca G0 r0 ho), (jFdo, jDcc dC dI ca G0 (some r1) ph)]) [0, 2, 3] rfl
  clear hh_3
  have hh_5 := hh_4.addI (jKD.ie hGe_1)
  clear hh_4
  refine lv_aload_n hx hb dX11_release_0 rfl (lv_at hl 1 rfl) ?_
  refine lv_null hx hb dX11_release_1 ?_
  have hdg_6 := hh_5.iv 0 rfl
  have hdg_6_5 := hh_5.at 0 rfl
  have hdg_6_6 := hh_5.at 1 rfl
  have hdg_6_7 := hh_5.at 2 rfl
  have hdg_6_9 := hh_5.at 3 rfl
  have hh_7 := hh_5.sub (L1 := [(r1, 3, 5, .ref sa_), (r1, 3, 6, .ref ea_), (r1, 3, 7, .ref ysc_1), (r1, 3, 9, .ref ybh_1), (r1, 3, 4, .int (kq.sn r1)), (r1, 3, 10, .int (kq.ck r1)), (r1, 3, 13, .int (kq.lf r1)), (r1, 3, 11, (kq.cv r1)), (r1, 3, 12, (kq.fv r1))]) [0, 1, 2, 3, 4, 5, 6, 7, 8] rfl (M1 := [(sa_, 171, 40, ca 1, (kq.sb r1)), (ea_, 172, 40, ca 1, (kq.se r1)), (ysc_1, 176, 40, ca 1, (kq.sc r1))]) [0, 1, 2] rfl (I1 := [([(210, 0)], jQc dC dI (ca 6) ybh_1 40 (kq.bh r1)), (jFHh, jHh dC dI ca G0 r0 ho), (jFdo, jDcc dC dI ca G0 (some r1) ph)]) [1, 2, 3] rfl
  clear hh_5
  have hd_9 := hh_7.iv 2 rfl
  have hd_95 := hh_7.at 0 rfl
  have hd_96 := hh_7.at 1 rfl
  have hh_10 := hh_7.sub (L1 := [(r1, 3, 5, .ref sa_), (r1, 3, 6, .ref ea_), (r1, 3, 7, .ref ysc_1), (r1, 3, 9, .ref ybh_1), (r1, 3, 4, .int (kq.sn r1)), (r1, 3, 10, .int (kq.ck r1)), (r1, 3, 13, .int (kq.lf r1)), (r1, 3, 11, (kq.cv r1)), (r1, 3, 12, (kq.fv r1))]) [0, 1, 2, 3, 4, 5, 6, 7, 8] rfl (M1 := [(sa_, 171, 40, ca 1, (kq.sb r1)), (ea_, 172, 40, ca 1, (kq.se r1)), (ysc_1, 176, 40, ca 1, (kq.sc r1))]) [0, 1, 2] rfl (I1 := [([(210, 0)], jQc dC dI (ca 6) ybh_1 40 (kq.bh r1)), (jFHh, jHh dC dI ca G0 r0 ho)]) [0, 1] rfl
  clear hh_7
  refine j7_putX hx hb hown hK hh_10 hB hAp hB3 (C := RX1) (T := TX1) (N := 17) rfl (by decide) hg_r1 (i := 11) (by decide) hly_3_11 rfl hlk_567 rfl (ty := (.array .int)) (v := .null) (by decide +kernel) rfl rfl (Or.inl rfl) rfl (L1 := [(r1, 3, 5, .ref sa_), (r1, 3, 6, .ref ea_), (r1, 3, 7, .ref ysc_1), (r1, 3, 9, .ref ybh_1), (r1, 3, 4, .int (kq.sn r1)), (r1, 3, 10, .int (kq.ck r1)), (r1, 3, 13, .int (kq.lf r1)), (r1, 3, 12, (kq.fv r1))]) [0, 1, 2, 3, 4, 5, 6, 8] rfl rfl rfl dX11_release_2 (fun H_8 locs_8 hr_8 hh_8 => ?_)
  clear hh_10
  have hd_9n := jDcc.fld hd_9 hg_r1 hr_8 hd_95 hd_96 (hh_8.at 1 rfl) (hh_8.at 2 rfl)
  have hh_11 := hh_8.addI (jDcc.ie hd_9n)
  clear hh_8
  clear hd_9 hd_9n hd_95 hd_96
  have hdg_6n := jKD.fld (ca := ca) hdg_6 hg_r1 hr_8 hdg_6_5 hdg_6_6 hdg_6_7 hdg_6_9 (hh_11.at 1 rfl) (hh_11.at 2 rfl) (hh_11.at 3 rfl) (hh_11.at 4 rfl)
  have hh_12 := hh_11.addI (jKD.ie hdg_6n)
  clear hh_11
  clear hdg_6 hdg_6n hr_8 hdg_6_5 hdg_6_6 hdg_6_7 hdg_6_9
  refine lv_aload_n hx hb dX11_release_5 rfl (lv_at hl 1 rfl) ?_
  refine lv_null hx hb dX11_release_6 ?_
  have hdg_13 := hh_12.iv 0 rfl
  have hdg_13_5 := hh_12.at 1 rfl
  have hdg_13_6 := hh_12.at 2 rfl
  have hdg_13_7 := hh_12.at 3 rfl
  have hdg_13_9 := hh_12.at 4 rfl
  have hh_14 := hh_12.sub (L1 := [(r1, 3, 11, .null), (r1, 3, 5, .ref sa_), (r1, 3, 6, .ref ea_), (r1, 3, 7, .ref ysc_1), (r1, 3, 9, .ref ybh_1), (r1, 3, 4, .int (kq.sn r1)), (r1, 3, 10, .int (kq.ck r1)), (r1, 3, 13, .int (kq.lf r1)), (r1, 3, 12, (kq.fv r1))]) [0, 1, 2, 3, 4, 5, 6, 7, 8] rfl (M1 := [(sa_, 171, 40, ca 1, (kq.sb r1)), (ea_, 172, 40, ca 1, (kq.se r1)), (ysc_1, 176, 40, ca 1, (kq.sc r1))]) [0, 1, 2] rfl (I1 := [(jFdo, jDcc dC dI ca G0 (some r1) ph), ([(210, 0)], jQc dC dI (ca 6) ybh_1 40 (kq.bh r1)), (jFHh, jHh dC dI ca G0 r0 ho)]) [1, 2, 3] rfl
  clear hh_12
  refine j7_putX hx hb hown hK hh_14 hB hAp hB3 (C := RX1) (T := TX1) (N := 17) rfl (by decide) hg_r1 (i := 12) (by decide) hly_3_12 rfl hlk_580 rfl (ty := (.object "ProofServer$State")) (v := .null) (by decide +kernel) rfl rfl (Or.inl rfl) rfl (L1 := [(r1, 3, 11, .null), (r1, 3, 5, .ref sa_), (r1, 3, 6, .ref ea_), (r1, 3, 7, .ref ysc_1), (r1, 3, 9, .ref ybh_1), (r1, 3, 4, .int (kq.sn r1)), (r1, 3, 10, .int (kq.ck r1)), (r1, 3, 13, .int (kq.lf r1))]) [0, 1, 2, 3, 4, 5, 6, 7] rfl rfl rfl dX11_release_7 (fun H_15 locs_15 hr_15 hh_15 => ?_)
  clear hh_14
  have hdg_13n := jKD.fld (ca := ca) hdg_13 hg_r1 hr_15 hdg_13_5 hdg_13_6 hdg_13_7 hdg_13_9 (hh_15.at 2 rfl) (hh_15.at 3 rfl) (hh_15.at 4 rfl) (hh_15.at 5 rfl)
  have hh_16 := hh_15.addI (jKD.ie hdg_13n)
  clear hh_15
  clear hdg_13 hdg_13n hr_15 hdg_13_5 hdg_13_6 hdg_13_7 hdg_13_9
  refine lv_aload_n hx hb dX11_release_10 rfl (lv_at hl 1 rfl) ?_
  refine lv_iconst (v := 0) hx hb dX11_release_11 (by decide) ?_
  have hdg_17 := hh_16.iv 0 rfl
  have hdg_17_5 := hh_16.at 2 rfl
  have hdg_17_6 := hh_16.at 3 rfl
  have hdg_17_7 := hh_16.at 4 rfl
  have hdg_17_9 := hh_16.at 5 rfl
  have hh_18 := hh_16.sub (L1 := [(r1, 3, 12, .null), (r1, 3, 11, .null), (r1, 3, 5, .ref sa_), (r1, 3, 6, .ref ea_), (r1, 3, 7, .ref ysc_1), (r1, 3, 9, .ref ybh_1), (r1, 3, 4, .int (kq.sn r1)), (r1, 3, 10, .int (kq.ck r1)), (r1, 3, 13, .int (kq.lf r1))]) [0, 1, 2, 3, 4, 5, 6, 7, 8] rfl (M1 := [(sa_, 171, 40, ca 1, (kq.sb r1)), (ea_, 172, 40, ca 1, (kq.se r1)), (ysc_1, 176, 40, ca 1, (kq.sc r1))]) [0, 1, 2] rfl (I1 := [(jFdo, jDcc dC dI ca G0 (some r1) ph), ([(210, 0)], jQc dC dI (ca 6) ybh_1 40 (kq.bh r1)), (jFHh, jHh dC dI ca G0 r0 ho)]) [1, 2, 3] rfl
  clear hh_16
  refine j7_putX hx hb hown hK hh_18 hB hAp hB3 (C := RX1) (T := TX1) (N := 17) rfl (by decide) hg_r1 (i := 13) (by decide) hly_3_13 rfl hlk_577 rfl (ty := .int) (v := .int 0) (by decide +kernel) rfl rfl (⟨_, rfl⟩) rfl (L1 := [(r1, 3, 12, .null), (r1, 3, 11, .null), (r1, 3, 5, .ref sa_), (r1, 3, 6, .ref ea_), (r1, 3, 7, .ref ysc_1), (r1, 3, 9, .ref ybh_1), (r1, 3, 4, .int (kq.sn r1)), (r1, 3, 10, .int (kq.ck r1))]) [0, 1, 2, 3, 4, 5, 6, 7] rfl rfl rfl dX11_release_12 (fun H_19 locs_19 hr_19 hh_19 => ?_)
  clear hh_18
  have hdg_17n := jKD.fld (ca := ca) hdg_17 hg_r1 hr_19 hdg_17_5 hdg_17_6 hdg_17_7 hdg_17_9 (hh_19.at 3 rfl) (hh_19.at 4 rfl) (hh_19.at 5 rfl) (hh_19.at 6 rfl)
  have hh_20 := hh_19.addI (jKD.ie hdg_17n)
  clear hh_19
  clear hdg_17 hdg_17n hr_19 hdg_17_5 hdg_17_6 hdg_17_7 hdg_17_9
  have hF_21 := jKD.full (ca := ca) (hh_20.iv 0 rfl) hg_r1 (hh_20.at 3 rfl) (hh_20.at 4 rfl) (hh_20.at 5 rfl) (hh_20.at 6 rfl) (hh_20.at 7 rfl) (hh_20.at 8 rfl) (hh_20.at 0 rfl) (hh_20.at 2 rfl) (hh_20.at 1 rfl) (hh_20.2.2.2.2.2.2.2.1.sub (L1 := [(sa_, 171, 40, ca 1, (kq.sb r1)), (ea_, 172, 40, ca 1, (kq.se r1)), (ysc_1, 176, 40, ca 1, (kq.sc r1))]) [0, 1, 2] rfl) (hh_20.iv 2 rfl)
  obtain ⟨g_21, ht_22⟩ : ∃ q : jKg, q = kq.put r1 (kq.sn r1) (kq.ck r1) (0 : Int32) .null .null (kq.sb r1) (kq.se r1) (kq.sc r1) (kq.bh r1) := ⟨_, rfl⟩
  rw [← ht_22] at hF_21
  have hh_23 := hh_20.sub (L1 := [(r1, 3, 13, .int 0), (r1, 3, 12, .null), (r1, 3, 11, .null), (r1, 3, 5, .ref sa_), (r1, 3, 6, .ref ea_), (r1, 3, 7, .ref ysc_1), (r1, 3, 9, .ref ybh_1), (r1, 3, 4, .int (kq.sn r1)), (r1, 3, 10, .int (kq.ck r1))]) [0, 1, 2, 3, 4, 5, 6, 7, 8] rfl (M1 := [(sa_, 171, 40, ca 1, (kq.sb r1)), (ea_, 172, 40, ca 1, (kq.se r1)), (ysc_1, 176, 40, ca 1, (kq.sc r1))]) [0, 1, 2] rfl (I1 := [(jFdo, jDcc dC dI ca G0 (some r1) ph), (jFHh, jHh dC dI ca G0 r0 ho)]) [1, 3] rfl
  clear hh_20
  have hh_24 := hh_23.addI (jKD.ie hF_21)
  clear hh_23
  obtain ⟨yho_25, -, hgho_25, hoP_25, hoM_25, hqho_25, -⟩ := hh_24.iv 2 rfl
  have hh_26 := ((hh_24.sub (L1 := [(r1, 3, 13, .int 0), (r1, 3, 12, .null), (r1, 3, 11, .null), (r1, 3, 5, .ref sa_), (r1, 3, 6, .ref ea_), (r1, 3, 7, .ref ysc_1), (r1, 3, 9, .ref ybh_1), (r1, 3, 4, .int (kq.sn r1)), (r1, 3, 10, .int (kq.ck r1))]) [0, 1, 2, 3, 4, 5, 6, 7, 8] rfl (M1 := [(sa_, 171, 40, ca 1, (kq.sb r1)), (ea_, 172, 40, ca 1, (kq.se r1)), (ysc_1, 176, 40, ca 1, (kq.sc r1))]) [0, 1, 2] rfl (I1 := [(jFkd, jKD dC dI ca G0 none g_21), (jFdo, jDcc dC dI ca G0 (some r1) ph)]) [0, 1] rfl).more hoP_25).moreM hoM_25
  clear hh_24
  have hh_27 := hh_26.addI (jQc.ie hqho_25 hgho_25 (by decide) (by decide))
  clear hh_26
  refine lv_iconst (v := 0) hx hb dX11_release_15 (by decide) ?_
  refine lv_istore_n (lv' := [(2, .int 0), (0, .ref r0), (1, .ref r1)]) hx hb dX11_release_16 rfl hl (by decide) rfl (fun ls hl => ?_)
  have L17 : ∀ (N : Nat) (v2_28 : Int32) (hox_28 : Nat → Option Nat) (H_28 : Heap) (locs_28 : List Loc), jSt (dC, dI) B base G0 G0 EX11_releaseK s.heap 0 0 [(r0, 13, 10, .ref yho_25), (r1, 3, 13, .int 0), (r1, 3, 12, .null), (r1, 3, 11, .null), (r1, 3, 5, .ref sa_), (r1, 3, 6, .ref ea_), (r1, 3, 7, .ref ysc_1), (r1, 3, 9, .ref ybh_1), (r1, 3, 4, .int (kq.sn r1)), (r1, 3, 10, .int (kq.ck r1))] [(sa_, 171, 40, ca 1, (kq.sb r1)), (ea_, 172, 40, ca 1, (kq.se r1)), (ysc_1, 176, 40, ca 1, (kq.sc r1))] [([(212, 0)], jQc dC dI (ca 5) yho_25 2 hox_28), (jFkd, jKD dC dI ca G0 none g_21), (jFdo, jDcc dC dI ca G0 (some r1) ph)] H_28 locs_28 → (0 ≤ v2_28.toInt ∧ v2_28.toInt ≤ 2 ∧ jzRh ho hox_28 r1 v2_28.toInt) → (2 - v2_28.toInt : Int) < N → ∀ ls : Array Slot, lv_has ls 3 [(0, .ref r0), (1, .ref r1), (2, .int v2_28)] → W p l e R s m ([.ref r0, .ref r1] : List Value).toArray below meth c H_28 locs_28 0 0 Q (F0 m 17 ls []) := by
    intro N
    induction N with
    | zero => intro v2_28 hox_28 H_28 locs_28 hh_28  hi_28 hm; exact absurd hm (by omega)
    | succ N L17 =>
      intro v2_28 hox_28 H_28 locs_28 hh_28  hi_28 hm_28 ls hl
      obtain ⟨hi_28_0, hi_28_1, hi_28_2⟩ := hi_28
      refine lv_iload_n hx hb dX11_release_17 rfl (lv_at hl 2 rfl) ?_
      refine lv_iconst (v := 2) hx hb dX11_release_18 (by decide) ?_
      refine lv_icmp_ge (tgt := 45) hx hb dX11_release_19 (by decide) (fun c_29 => ?_) (fun c_29 => ?_)
      · skip
        have c_29' : v2_28.toInt ≥ 2 := jb_ge (rfl) ((by decide)) c_29
        have hHf_30 : jHh dC dI ca G0 r0 hox_28 H_28 := ⟨yho_25, ⟨_, hg_r0⟩, hgho_25, hh_28.2.2.1.sub (L1 := [(r0, 13, 10, .ref yho_25)]) [0] rfl, hh_28.2.2.2.2.2.2.2.1.sub (L1 := []) [] rfl, hh_28.iv 0 rfl, trivial⟩
        have hh_31 := hh_28.sub (L1 := [(r0, 13, 10, .ref yho_25), (r1, 3, 13, .int 0), (r1, 3, 12, .null), (r1, 3, 11, .null), (r1, 3, 5, .ref sa_), (r1, 3, 6, .ref ea_), (r1, 3, 7, .ref ysc_1), (r1, 3, 9, .ref ybh_1), (r1, 3, 4, .int (kq.sn r1)), (r1, 3, 10, .int (kq.ck r1))]) [0, 1, 2, 3, 4, 5, 6, 7, 8, 9] rfl (M1 := [(sa_, 171, 40, ca 1, (kq.sb r1)), (ea_, 172, 40, ca 1, (kq.se r1)), (ysc_1, 176, 40, ca 1, (kq.sc r1))]) [0, 1, 2] rfl (I1 := [(jFkd, jKD dC dI ca G0 none g_21), (jFdo, jDcc dC dI ca G0 (some r1) ph)]) [1, 2] rfl
        clear hh_28
        have hh_32 := hh_31.addI (jHh.ie hHf_30)
        clear hh_31
        rw [hQ]
        exact W.vret hx hb hr (fun t ht hW => ⟨⟨(g_21, hox_28), rfl, by (try dsimp only); exact ⟨ht_22, hi_28_2.e (by omega)⟩, ⟨hh_32.rt (M1 := [(r1, 3, 11, .null)]) [3] rfl ht, by rw [ht]; exact hh_32.2.2.2.2.2.2.2.2.sub (L1 := [(jFkd, jKD dC dI ca G0 none g_21), (jFHh, jHh dC dI ca G0 r0 hox_28), (jFdo, jDcc dC dI ca G0 (some r1) ph)]) [1, 0, 2] rfl⟩⟩, by rw [ht]; try exact hh_32.1.1, fun q h9 hq => by rw [ht]; try exact hh_32.1.2.1 q h9 hq⟩) hh_32.1.2.2 dX11_release_45
      · skip
        have c_29' : v2_28.toInt < 2 := jb_ge_n (rfl) ((by decide)) c_29
        refine lv_aload_n hx hb dX11_release_22 rfl (lv_at hl 0 rfl) ?_
        refine j7_read hx hb hown hK (C := RX11) (T := TX11) (N := 19) rfl hly_13_10 hlk_73 (hh_28.at 0 rfl) dX11_release_23 ?_
        refine lv_iload_n hx hb dX11_release_26 rfl (lv_at hl 2 rfl) ?_
        refine j7_qaldI hx hb hK2 hh_28 hB212 1 rfl (by decide) hgho_25 (x := v2_28.toInt) (rfl) (by omega) (hh_28.iv 0 rfl) dX11_release_27 (fun o_33 ho_33 heo_33 => ?_)
        rcases ho_33 with rfl | ⟨el_34, rfl, hg_el_34⟩
        · simp only [va_rf]
          refine lv_aload_n hx hb dX11_release_28 rfl (lv_at hl 1 rfl) ?_
          refine lv_acmp_ne (rx := none) (ry := (some r1)) (tgt := 39) hx hb dX11_release_29 (by decide) (fun c_35 => ?_) (fun c_35 => ?_)
          · skip
            obtain ⟨z_36, ez_36⟩ : ∃ y : Int32, y = v2_28 + 1 := ⟨_, rfl⟩
            refine lv_iinc (v := z_36) (lv' := [(2, .int z_36), (0, .ref r0), (1, .ref r1)]) hx hb dX11_release_39 hl (k := 2) rfl (by rw [ez_36]; rfl) (by decide) rfl (fun ls hl => ?_)
            have hz_36 : z_36.toInt = v2_28.toInt + 1 := by rw [ez_36]; exact jb_iadd2 (rfl) (by decide) (by omega)
            refine lv_goto (tgt := 17) hx hb dX11_release_42 (by decide) ?_
            exact L17 z_36 hox_28 _ _ hh_28 (⟨by omega, by omega, hi_28_2.n (by omega) (by omega) (by omega) heo_33 c_35⟩) (by omega) _ (lv_sub hl [1, 2, 0] rfl)
          · skip
            cases c_35
        · simp only [va_rf]
          refine lv_aload_n hx hb dX11_release_28 rfl (lv_at hl 1 rfl) ?_
          refine lv_acmp_ne (rx := (some el_34)) (ry := (some r1)) (tgt := 39) hx hb dX11_release_29 (by decide) (fun c_37 => ?_) (fun c_37 => ?_)
          · skip
            obtain ⟨z_38, ez_38⟩ : ∃ y : Int32, y = v2_28 + 1 := ⟨_, rfl⟩
            refine lv_iinc (v := z_38) (lv' := [(2, .int z_38), (0, .ref r0), (1, .ref r1)]) hx hb dX11_release_39 hl (k := 2) rfl (by rw [ez_38]; rfl) (by decide) rfl (fun ls hl => ?_)
            have hz_38 : z_38.toInt = v2_28.toInt + 1 := by rw [ez_38]; exact jb_iadd2 (rfl) (by decide) (by omega)
            refine lv_goto (tgt := 17) hx hb dX11_release_42 (by decide) ?_
            exact L17 z_38 hox_28 _ _ hh_28 (⟨by omega, by omega, hi_28_2.n (by omega) (by omega) (by omega) heo_33 c_37⟩) (by omega) _ (lv_sub hl [1, 2, 0] rfl)
          · skip
            refine lv_aload_n hx hb dX11_release_32 rfl (lv_at hl 0 rfl) ?_
            refine j7_read hx hb hown hK (C := RX11) (T := TX11) (N := 19) rfl hly_13_10 hlk_73 (hh_28.at 0 rfl) dX11_release_33 ?_
            refine lv_iload_n hx hb dX11_release_36 rfl (lv_at hl 2 rfl) ?_
            refine lv_null hx hb dX11_release_37 ?_
            have hd_40 := hh_28.iv 0 rfl
            have hh_42 := hh_28.sub (L1 := [(r0, 13, 10, .ref yho_25), (r1, 3, 13, .int 0), (r1, 3, 12, .null), (r1, 3, 11, .null), (r1, 3, 5, .ref sa_), (r1, 3, 6, .ref ea_), (r1, 3, 7, .ref ysc_1), (r1, 3, 9, .ref ybh_1), (r1, 3, 4, .int (kq.sn r1)), (r1, 3, 10, .int (kq.ck r1))]) [0, 1, 2, 3, 4, 5, 6, 7, 8, 9] rfl (M1 := [(sa_, 171, 40, ca 1, (kq.sb r1)), (ea_, 172, 40, ca 1, (kq.se r1)), (ysc_1, 176, 40, ca 1, (kq.sc r1))]) [0, 1, 2] rfl (I1 := [(jFkd, jKD dC dI ca G0 none g_21), (jFdo, jDcc dC dI ca G0 (some r1) ph)]) [1, 2] rfl
            clear hh_28
            refine j7_qastNI hx hb hK2 hh_42 hB hB212 1 rfl (by decide) (by decide) rfl rfl rfl hgho_25 (x := v2_28.toInt) (rfl) (by omega) (Or.inl rfl) hd_40 dX11_release_38 (fun H_39 locs_39 fq_41 hv_39 ho_39 hq_39 hh_39 => ?_)
            clear hh_42
            have hh_43 := hh_39.addI (hq_39.ie hgho_25 (by decide) (by decide))
            clear hh_39
            clear hd_40
            obtain ⟨z_44, ez_44⟩ : ∃ y : Int32, y = v2_28 + 1 := ⟨_, rfl⟩
            refine lv_iinc (v := z_44) (lv' := [(2, .int z_44), (0, .ref r0), (1, .ref r1)]) hx hb dX11_release_39 hl (k := 2) rfl (by rw [ez_44]; rfl) (by decide) rfl (fun ls hl => ?_)
            have hz_44 : z_44.toInt = v2_28.toInt + 1 := by rw [ez_44]; exact jb_iadd2 (rfl) (by decide) (by omega)
            refine lv_goto (tgt := 17) hx hb dX11_release_42 (by decide) ?_
            exact L17 z_44 fq_41 _ _ hh_43 (⟨by omega, by omega, hi_28_2.y (by omega) (by omega) (by omega) heo_33 c_37 hv_39 ho_39⟩) (by omega) _ (lv_sub hl [1, 2, 0] rfl)
  exact L17 (2 - (0 : Int32).toInt : Int).toNat.succ 0 ho _ _ hh_27 (⟨by omega, by omega, jzRh.zz (by omega)⟩) (by omega) _ (lv_sub hl [1, 2, 0] rfl)
end
