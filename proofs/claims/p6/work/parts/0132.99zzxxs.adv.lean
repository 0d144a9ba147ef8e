section
-- p8: a hand advances: on the class's side
theorem jzWw {w qv qw : jWl9} {p : Nat → Bool} (h : qv = w.s3 qv.2.2.2) (h1 : qw = qv.s2 (qv.2.2.1.filter p)) : qw = (w.s3 qv.2.2.2).s2 (w.2.2.1.filter p) := by
  rw [h1]
  generalize qv.2.2.2 = l at h
  subst h
  rfl
section J9M
variable {G G1 : jT} {s0 a b d i : Nat} {t : jDtl} {q q1 q2 q3 : jKg} {w w1 : jWl9} {ho ho1 : Nat → Option Nat} {us us1 rw rw1 : Nat → List Int} {qq : jRqG} {ib : Nat → List Int} {S : Int × (Int → jdD)} {Z Z1 : jwSt} {k v : Int} {c : Int32} {x : Nat} {l4 : List Nat}
/-- what begin asks -/
theorem jcZ.beg (h : jcZ G s0 t q w ho us rw qq ib S Z) (hx : Value.ref a = jdRf w (jwNx S Z)) : 0 ≤ (q.ck a).toInt ∧ (q.ck a).toInt < (q.sn a).toInt ∧ (q.sn a).toInt ≤ 40 ∧ 0 ≤ (t.ln a).toInt ∧ (t.ln a).toInt ≤ 1500 ∧ jcP (t.tx a) (t.ln a).toInt (q.sb a) (q.se a) (q.sn a).toInt ∧ jcPc (t.tx a) (t.ln a).toInt (q.sc a) (q.sn a).toInt ∧ jzH G rw (q.bh a) s0 (t.tx a) (t.ln a).toInt (q.ck a).toInt ∧ (∀ x ∈ w.2.2.2, jnE (rw x) ∧ rw x ≠ []) ∧ (∀ c ∈ jcU (t.tx a) (t.ln a).toInt (q.ck a).toInt.toNat, c ≠ (-1 : Int)) ∧ q.cv a = .null := by
  obtain ⟨x0, x1⟩ := jdRf.y hx
  obtain ⟨r1, r2, r3, r4, r5⟩ := (jwNx.rg (S := S) (Z := Z)).resolve_left (fun c => by omega)
  have hdw : jwNx S Z < w.1 := by rw [← h.n]; exact r2
  have ed : (((jwNx S Z).toNat : Nat) : Int) = jwNx S Z := by omega
  have hd1 : (((jwNx S Z).toNat : Nat) : Int) < w.1 := by omega
  obtain ⟨n1, n2, n3, n4, n5, n6, n7, n8⟩ := h.nx x0 hdw x1
  obtain ⟨k1, k2, k3, k4, k5, k6, k7, k8, k9⟩ := h.2.2.1 (jwNx S Z).toNat a hd1 x1
  rw [ed] at k4 k5 k6 k8
  obtain ⟨l1, l2⟩ := h.l0 a
  have hlt : (q.ck a).toInt < (q.sn a).toInt := by rw [← n2, ← n1]; exact r3
  obtain ⟨-, -, p3⟩ := k2 (q.ck a).toInt.toNat (by omega)
  refine ⟨by omega, hlt, k7, l1, l2, k2, k3, ⟨h.2.2.2.2.2.2.2.2.2.1, h.2.2.2.2.2.2.2.2.2.2.1, fun i hi => k8 i (by omega)⟩, fun x hx => ⟨(h.2.2.2.2.2.2.2.2.2.2.2.1 x hx).2.2, (h.2.2.2.2.2.2.2.2.2.2.2.1 x hx).2.1⟩, jcU.nn (h.2.2.2.2.2.2.2.2.2.2.2.2 _ a hd1 x1) l1 p3, n7.mpr ⟨fun c => r4 (n4.mpr c), fun c => r5 (n5.mpr c)⟩⟩
/-- a hand holds one -/
theorem jcZ.hd2 (h : jcZ G s0 t q w ho us rw qq ib S Z) (h0 : 0 ≤ v) (h1 : v < 2) (e : some a = ho v.toNat) (hok : jwOk S Z) : ∃ (d : Nat) (Z1 : jwSt), jcY G s0 t q w ho us rw qq ib S Z1 a d v.toNat ∧ jwAd S Z v = jwDo S Z1 v ∧ jwOk S Z1 ∧ q.fv a = .null := by
  obtain ⟨d, hY⟩ := h.hd (i := v.toNat) (by omega) e.symm
  obtain ⟨y, m, z1, -⟩ := hY.at (by omega)
  rw [show ((v.toNat : Nat) : Int) = v by omega] at z1
  exact ⟨d, Z, hY, jwAd.ha (by rw [z1]; show ¬ ((d : Int)) < 0; omega), hok, (h.2.2.1 d a hY.2.2.1 hY.2.2.2.1).2.2.2.2.2.2.2.2⟩
/-- a hand takes one -/
theorem jcZ.tk2 {y m : Nat} (h : jcZ G s0 t q w ho us rw qq ib S Z) (hle : jLe G G1) (h0 : 0 ≤ v) (h1 : v < 2) (hn : none = ho v.toNat) (hok : jwOk S Z) (hx : Value.ref a = jdRf w (jwNx S Z)) (hB : jzBe G q q1 a us us1 rw w.2.2.2 (t.tx a) (t.ln a).toInt y) (gy : G1 y = some (175, m)) (hv : ho1 v.toNat = some a) (hk : ∀ j, j < 2 → j ≠ v.toNat → ho1 j = ho j) : ∃ (d : Nat) (Z1 : jwSt), jcY G1 s0 t q1 w ho1 us1 rw qq ib S Z1 a d v.toNat ∧ jwAd S Z v = jwDo S Z1 v ∧ jwOk S Z1 := by
  have hm := h.hn (i := v.toNat) (by omega) hn.symm
  rw [show ((v.toNat : Nat) : Int) = v by omega] at hm
  have := h.take hle (i := v.toNat) (by omega) hn.symm hx hB gy hv hk
  rw [show ((v.toNat : Nat) : Int) = v by omega] at this
  exact ⟨_, _, this, jwAd.tk hm, hok.tk (by omega) hm⟩
/-- nothing to take -/
theorem jcZ.no2 (h : jcZ G s0 t q w ho us rw qq ib S Z) (h0 : 0 ≤ v) (h1 : v < 2) (hn : none = ho v.toNat) (hx : Value.null = jdRf w (jwNx S Z)) (hv : ho1 v.toNat = none) (hk : ∀ j, j < 2 → j ≠ v.toNat → ho1 j = ho j) : jcZ G s0 t q w ho1 us rw qq ib S (jwAd S Z v) := by
  have hm := h.hn (i := v.toNat) (by omega) hn.symm
  rw [show ((v.toNat : Nat) : Int) = v by omega] at hm
  have e : jwTk S Z v = Z := if_pos (h.nn hx)
  rw [jwAd.no hm (by rw [e]; exact hm), e]
  refine h.hoc (fun j hj => ?_)
  by_cases c : j = v.toNat
  · rw [c, hv]; exact hn
  · exact hk j hj c
theorem jcY.dcA {cv fv : Value} (h : jcY G s0 t q w ho us rw qq ib S Z1 a d v.toNat) (h0 : 0 ≤ v) (h1 : v < 2) (hA : jwAd S Z v = jwDo S Z1 v) (hq : q1 = q.put a (q.sn a) (q.ck a) c cv fv (q.sb a) (q.se a) (q.sc a) (q.bh a)) (hcv : q.cv a = cv) (hfv : q.fv a = fv) (hc : c.toInt = (q.lf a).toInt - 1) (hp : 0 < c.toInt) : jcZ G s0 t q1 w ho us rw qq ib S (jwAd S Z v) := by
  obtain ⟨y, m, z1, -⟩ := h.at (by omega)
  have := h.dec2 (by omega) hq hcv hfv hc hp
  rw [show ((v.toNat : Nat) : Int) = v by omega] at this z1
  rw [hA, ← jwDo.dc (S := S) (by rw [z1]; show 0 ≤ ((d : Int)); omega) (by rw [z1]; show 1 < (q.lf a).toInt; omega)]
  exact this
theorem jcY.finA {cv fv : Value} (h : jcY G s0 t q w ho us rw qq ib S Z1 a d v.toNat) (h0 : 0 ≤ v) (h1 : v < 2) (hle : jLe G G1) (hA : jwAd S Z v = jwDo S Z1 v) (hok : jwOk S Z1) (hq : q1 = q.put a (q.sn a) (q.ck a) c cv fv (q.sb a) (q.se a) (q.sc a) (q.bh a)) (hcv : q.cv a = cv) (hfv : q.fv a = fv) (hc : c.toInt = (q.lf a).toInt - 1) (hp : c.toInt ≤ 0) (hAd : jzAd q1 q2 a x) (hR : jzRe q2 q3 a) (hx : rw1 x = jcR (t.tx a) (t.ln a).toInt (Z1.1 d + 1).toNat) (gx : G1 x = some (11, 0)) (hr : ∀ z, G z = some (11, 0) → rw1 z = rw z) (hh : ∀ j, j < 2 → ho1 j = if ho j = some a then none else ho j) (hl : l4.map rw1 = jwKp (w.2.2.2.map rw1) (rw1 x)) (hm : ∀ z ∈ l4, z ∈ w.2.2.2 ∨ z = x) (hw : w1 = (w.s3 l4).s2 (w.2.2.1.filter (fun z => !jzRd q3 qq z))) : jcZ G1 s0 t q3 w1 ho1 us rw1 qq ib S (jwAd S Z v) := by
  obtain ⟨hlt, hp0, -⟩ := h.lt (by omega) hok
  obtain ⟨y, m, z1, -⟩ := h.at (by omega)
  have hf := h.fin2 (by omega) hle hok hlt hq hcv hfv hAd hR hx gx hr hh hl hm hw
  rw [show ((v.toNat : Nat) : Int) = v by omega] at hf z1 hp0
  have e : jwDo S Z1 v = jwFin S Z1 v d := by
    unfold jwDo
    rw [if_neg (by omega), if_pos (by rw [z1]; show (q.lf a).toInt ≤ 1; omega), z1]
  rw [hA, e]
  exact hf
end J9M
theorem jzNw {G : jT} {rw rw1 : Nat → List Int} {rr : List Int} {x qn : Nat} (e : rw1 = jUf rw qn rr) (h : Value.ref x = .ref qn) (h1 : ∀ z : Nat, G z = some (11, 0) → z ≠ qn) : rw1 x = rr ∧ ∀ z, G z = some (11, 0) → rw1 z = rw z := by
  cases h
  rw [e]
  exact ⟨jUf_s _ _ _, fun z hz => jUf_n _ _ (h1 z hz)⟩
theorem jcY.fnd {G : jT} {s0 a d i x : Nat} {t : jDtl} {q : jKg} {w : jWl9} {ho : Nat → Option Nat} {us rw : Nat → List Int} {qq : jRqG} {ib : Nat → List Int} {S : Int × (Int → jdD)} {Z : jwSt} (h : jcY G s0 t q w ho us rw qq ib S Z a d i) (e : q.fv a = .ref x) : rw x = jcR (t.tx a) (t.ln a).toInt (Z.1 d + 1).toNat ∧ ∀ z, G z = some (11, 0) → rw z = rw z := by
  rcases h.2.2.2.2 with c | ⟨y, e1, -, e2, -⟩
  · rw [e] at c; cases c
  · rw [e] at e1; cases e1; exact ⟨e2, fun _ _ => rfl⟩
theorem jcY.ca {G : jT} {s0 a d i : Nat} {t : jDtl} {q : jKg} {w : jWl9} {ho : Nat → Option Nat} {us rw rw1 : Nat → List Int} {qq : jRqG} {ib : Nat → List Int} {S : Int × (Int → jdD)} {Z : jwSt} (h : jcY G s0 t q w ho us rw qq ib S Z a d i) (hr : ∀ z, G z = some (11, 0) → rw1 z = rw z) : ∀ z ∈ w.2.2.2, jnE (rw1 z) := fun z hz => by
  have := h.1.2.2.2.2.2.2.2.2.2.2.2.1 z hz
  rw [hr z this.1]
  exact this.2.2
end
section
-- p8: work, told by the machine
section J9N
variable {S : Int × (Int → jdD)} {Z Y : jwSt} {k v v1 j j1 : Int}
theorem jwWo.inn (h : jwWo S Z k v Y) (hs : jwHs S Y = 1) (e : j = 0) : jwWn S Z k v j Y := by
  subst e
  exact ⟨Y, h.1, hs, rfl, h.2⟩
end J9N
end
section
-- p8: bytes of ids, put behind each other
theorem jiP.e {ib i1 : Nat → List Int} {a : Nat} {L M : List Int} (h : jiP ib i1 a L) (e : L = M) : i1 = jUf ib a (ib a ++ M) := by rw [← e]; exact h
/-- signs of a text -/
def jiT (f : Nat → Int32) : Nat → List Int
  | 0 => []
  | k + 1 => jiT f k ++ [(jCv (f k)).toInt % 256]
section J9BV
variable {p : Program} {l : Launch} {e : Env} {R : Room} {s : State} {m : MethodId} {args : Array Value} {below : List Frame} {meth : Method} {c : Code} {H : Heap} {locs : List Loc} {cells slots : Nat} {Q : State → Prop}
variable {cc : ByteArray} {pc : Nat} {ls : Array Slot} {rest : List Value} {dC : Nat → ClassId} {dI : Nat → Nat → Nat} {ca : Nat → ClassId} {B : jF} {base : Nat} {G0 G : jT} {E : List (Nat × Nat)} {H0 : Heap} {zc zs : Nat} {L : List jPin} {M : List jCt} {I : List jIv} {a k n : Nat} {cA : ClassId} {tys : List (ClassId × FieldType)}
end J9BV
end
section
-- p8: ids: numbers and strings as they are written, step by step
theorem jiT.e {f : Nat → Int32} {k : Nat} {c : Int} (h : c = (jCv (f k)).toInt) : jiT f k ++ [c % 256] = jiT f (k + 1) := by
  rw [h]
  rfl
section J9ID
variable {ib i1 i2 : Nat → List Int} {a : Nat}
theorem jiM.e {k m b n : Int} (h : jiM ib i1 a k m b n) (hk : k = 0) : i1 = jUf ib a (ib a ++ jpN n) := by
  obtain ⟨L, p, q⟩ := h
  rw [hk] at q
  exact p.e (by rw [← q]; show L = L ++ []; rw [List.append_nil])
end J9ID
section J9IQ
variable {ib i1 i2 : Nat → List Int} {a : Nat} {f : Nat → Int32} {n v v1 : Int}
theorem jiQ.e {c : Int} (h : jiQ ib i1 a f n v) (hv : n ≤ v) (h1 : i2 = jUf i1 a (i1 a ++ [c % 256])) (hc : c = 34) : i2 = jUf ib a (ib a ++ (34 :: (jpQ (jcL f n.toNat 0) ++ [34]))) := by
  obtain ⟨hW, M, p, q⟩ := h
  rw [show (n - v).toNat = 0 by omega] at q
  have q : M ++ [] = 34 :: jpQ (jcL f n.toNat 0) := q
  rw [List.append_nil] at q
  refine (p.tr h1).e ?_
  rw [q, hc]
  rfl
end J9IQ
end
section
-- p8: what holds of the machine stays, from message to message
def jdLq (S : Int × (Int → jdD)) : Prop := 0 ≤ S.1 ∧ ∀ d : Int, 0 ≤ d → d < S.1 → 0 ≤ (S.2 d).2.1
def jwOq (S : Int × (Int → jdD)) (Z : jwSt) : Prop := jwOk S Z ∧ jdLq S
section J9OM
variable {T : Nat → Int → Int} {v p : Int} {S S1 : Int × (Int → jdD)} {Z : jwSt} {d e : Int}
theorem jwOq.ca (h : jwOq S Z) : jwOq S (jwCa T v Z) := by
  unfold jwCa
  split
  · obtain ⟨⟨h1, h2, h3, h4, h5, h6⟩, h7⟩ := h
    exact ⟨⟨h1, h2, h3, fun r hr => h4 r (List.mem_of_mem_eraseP hr), Nat.le_trans (List.eraseP_sublist).length_le h5, h6⟩, h7⟩
  · exact h
end J9OM
end
section
-- p8: a message is understood: the request that is made of it
section J9US
variable {G G1 : jT} {s0 x N y : Nat} {t : jDtl} {q : jKg} {w : jWl9} {ho : Nat → Option Nat} {us rw : Nat → List Int} {qq gQ : jRqG} {ib iB : Nat → List Int} {S : Int × (Int → jdD)} {Z : jwSt} {iV : Value} {T : Nat → Int → Int} {v u m : Int} {fk fi fz fn fa fs fu : Nat → Int32} {P : Prop} {l : List Int}
theorem jzRi.nul (hR : jzRi ib iB N iV P l) (hg : gQ = qq.put x 0 iV .null) (e : gQ.iv x = .null) : ¬ P := by
  rw [jRqG.pi hg] at e
  rcases hR with ⟨-, i, e1, -⟩ | ⟨p, -⟩
  · rw [e] at e1; cases e1
  · exact p
end J9US
end
section
-- how long a message is at least that opens or changes a document
theorem jEd.ge {fb fe : Nat → Int32} {s u k : Int} (h : jSn fb fe s u) (h1 : k ≤ s) : 0 ≤ jEd fe k := by
  unfold jEd
  by_cases q : k ≤ 0
  · rw [if_pos q]; omega
  · rw [if_neg q]
    have := h (k - 1) (by omega) (by omega)
    omega
theorem jSn.ge {fb fe : Nat → Int32} {s u k : Int} (h : jSn fb fe s u) (h0 : 0 ≤ k) : s ≤ k ∨ 0 ≤ jSo fe k := by
  by_cases q : s ≤ k
  · exact Or.inl q
  · have := h k h0 (by omega)
    exact Or.inr (by omega)
end
section
theorem dX11_work_0 : decode cX11_work 0 = .ok (.iload_n 1, 1) := by decide +kernel
theorem dX11_work_1 : decode cX11_work 1 = .ok (.ifCond .lt 10, 3) := by decide +kernel
theorem dX11_work_4 : decode cX11_work 4 = .ok (.iload_n 1, 1) := by decide +kernel
theorem dX11_work_5 : decode cX11_work 5 = .ok (.sipush 10000, 3) := by decide +kernel
theorem dX11_work_8 : decode cX11_work 8 = .ok (.if_icmp .le 5, 3) := by decide +kernel
theorem dX11_work_11 : decode cX11_work 11 = .ok (.iconst (-1), 1) := by decide +kernel
theorem dX11_work_12 : decode cX11_work 12 = .ok (.ireturn, 1) := by decide +kernel
theorem dX11_work_13 : decode cX11_work 13 = .ok (.iconst 0, 1) := by decide +kernel
theorem dX11_work_14 : decode cX11_work 14 = .ok (.istore_n 2, 1) := by decide +kernel
theorem dX11_work_15 : decode cX11_work 15 = .ok (.iload_n 2, 1) := by decide +kernel
theorem dX11_work_16 : decode cX11_work 16 = .ok (.iload_n 1, 1) := by decide +kernel
theorem dX11_work_17 : decode cX11_work 17 = .ok (.if_icmp .ge 34, 3) := by decide +kernel
theorem dX11_work_20 : decode cX11_work 20 = .ok (.aload_n 0, 1) := by decide +kernel
theorem dX11_work_21 : decode cX11_work 21 = .ok (.invokevirtual 126, 3) := by decide +kernel
theorem dX11_work_24 : decode cX11_work 24 = .ok (.ifCond .eq 27, 3) := by decide +kernel
theorem dX11_work_27 : decode cX11_work 27 = .ok (.iconst 0, 1) := by decide +kernel
theorem dX11_work_28 : decode cX11_work 28 = .ok (.istore_n 3, 1) := by decide +kernel
theorem dX11_work_29 : decode cX11_work 29 = .ok (.iload_n 3, 1) := by decide +kernel
theorem dX11_work_30 : decode cX11_work 30 = .ok (.iconst 2, 1) := by decide +kernel
theorem dX11_work_31 : decode cX11_work 31 = .ok (.if_icmp .ge 14, 3) := by decide +kernel
theorem dX11_work_34 : decode cX11_work 34 = .ok (.aload_n 0, 1) := by decide +kernel
theorem dX11_work_35 : decode cX11_work 35 = .ok (.iload_n 3, 1) := by decide +kernel
theorem dX11_work_36 : decode cX11_work 36 = .ok (.invokevirtual 130, 3) := by decide +kernel
theorem dX11_work_39 : decode cX11_work 39 = .ok (.iinc 3 1, 3) := by decide +kernel
theorem dX11_work_42 : decode cX11_work 42 = .ok (.goto (-13), 3) := by decide +kernel
theorem dX11_work_45 : decode cX11_work 45 = .ok (.iinc 2 1, 3) := by decide +kernel
theorem dX11_work_48 : decode cX11_work 48 = .ok (.goto (-33), 3) := by decide +kernel
theorem dX11_work_51 : decode cX11_work 51 = .ok (.aload_n 0, 1) := by decide +kernel
theorem dX11_work_52 : decode cX11_work 52 = .ok (.dup, 1) := by decide +kernel
theorem dX11_work_53 : decode cX11_work 53 = .ok (.getfield 133, 3) := by decide +kernel
theorem dX11_work_56 : decode cX11_work 56 = .ok (.iload_n 2, 1) := by decide +kernel
theorem dX11_work_57 : decode cX11_work 57 = .ok (.iadd, 1) := by decide +kernel
theorem dX11_work_58 : decode cX11_work 58 = .ok (.putfield 133, 3) := by decide +kernel
theorem dX11_work_61 : decode cX11_work 61 = .ok (.iload_n 2, 1) := by decide +kernel
theorem dX11_work_62 : decode cX11_work 62 = .ok (.ireturn, 1) := by decide +kernel
theorem dX11_advance_0 : decode cX11_advance 0 = .ok (.aload_n 0, 1) := by decide +kernel
theorem dX11_advance_1 : decode cX11_advance 1 = .ok (.getfield 73, 3) := by decide +kernel
theorem dX11_advance_4 : decode cX11_advance 4 = .ok (.iload_n 1, 1) := by decide +kernel
theorem dX11_advance_5 : decode cX11_advance 5 = .ok (.aaload, 1) := by decide +kernel
theorem dX11_advance_6 : decode cX11_advance 6 = .ok (.ifnonnull 33, 3) := by decide +kernel
theorem dX11_advance_9 : decode cX11_advance 9 = .ok (.aload_n 0, 1) := by decide +kernel
theorem dX11_advance_10 : decode cX11_advance 10 = .ok (.getfield 73, 3) := by decide +kernel
theorem dX11_advance_13 : decode cX11_advance 13 = .ok (.iload_n 1, 1) := by decide +kernel
theorem dX11_advance_14 : decode cX11_advance 14 = .ok (.aload_n 0, 1) := by decide +kernel
theorem dX11_advance_15 : decode cX11_advance 15 = .ok (.invokevirtual 564, 3) := by decide +kernel
theorem dX11_advance_18 : decode cX11_advance 18 = .ok (.aastore, 1) := by decide +kernel
theorem dX11_advance_19 : decode cX11_advance 19 = .ok (.aload_n 0, 1) := by decide +kernel
theorem dX11_advance_20 : decode cX11_advance 20 = .ok (.getfield 73, 3) := by decide +kernel
theorem dX11_advance_23 : decode cX11_advance 23 = .ok (.iload_n 1, 1) := by decide +kernel
theorem dX11_advance_24 : decode cX11_advance 24 = .ok (.aaload, 1) := by decide +kernel
theorem dX11_advance_25 : decode cX11_advance 25 = .ok (.ifnonnull 4, 3) := by decide +kernel
theorem dX11_advance_28 : decode cX11_advance 28 = .ok (.return_, 1) := by decide +kernel
theorem dX11_advance_29 : decode cX11_advance 29 = .ok (.aload_n 0, 1) := by decide +kernel
theorem dX11_advance_30 : decode cX11_advance 30 = .ok (.aload_n 0, 1) := by decide +kernel
theorem dX11_advance_31 : decode cX11_advance 31 = .ok (.getfield 73, 3) := by decide +kernel
theorem dX11_advance_34 : decode cX11_advance 34 = .ok (.iload_n 1, 1) := by decide +kernel
theorem dX11_advance_35 : decode cX11_advance 35 = .ok (.aaload, 1) := by decide +kernel
theorem dX11_advance_36 : decode cX11_advance 36 = .ok (.invokevirtual 574, 3) := by decide +kernel
theorem dX11_advance_39 : decode cX11_advance 39 = .ok (.aload_n 0, 1) := by decide +kernel
theorem dX11_advance_40 : decode cX11_advance 40 = .ok (.getfield 73, 3) := by decide +kernel
theorem dX11_advance_43 : decode cX11_advance 43 = .ok (.iload_n 1, 1) := by decide +kernel
theorem dX11_advance_44 : decode cX11_advance 44 = .ok (.aaload, 1) := by decide +kernel
theorem dX11_advance_45 : decode cX11_advance 45 = .ok (.astore_n 2, 1) := by decide +kernel
theorem dX11_advance_46 : decode cX11_advance 46 = .ok (.aload_n 2, 1) := by decide +kernel
theorem dX11_advance_47 : decode cX11_advance 47 = .ok (.dup, 1) := by decide +kernel
theorem dX11_advance_48 : decode cX11_advance 48 = .ok (.getfield 577, 3) := by decide +kernel
theorem dX11_advance_51 : decode cX11_advance 51 = .ok (.iconst 1, 1) := by decide +kernel
theorem dX11_advance_52 : decode cX11_advance 52 = .ok (.isub, 1) := by decide +kernel
theorem dX11_advance_53 : decode cX11_advance 53 = .ok (.putfield 577, 3) := by decide +kernel
theorem dX11_advance_56 : decode cX11_advance 56 = .ok (.aload_n 2, 1) := by decide +kernel
theorem dX11_advance_57 : decode cX11_advance 57 = .ok (.getfield 577, 3) := by decide +kernel
theorem dX11_advance_60 : decode cX11_advance 60 = .ok (.ifCond .gt 10, 3) := by decide +kernel
theorem dX11_advance_63 : decode cX11_advance 63 = .ok (.aload_n 2, 1) := by decide +kernel
theorem dX11_advance_64 : decode cX11_advance 64 = .ok (.getfield 567, 3) := by decide +kernel
theorem dX11_advance_67 : decode cX11_advance 67 = .ok (.ifnonnull 4, 3) := by decide +kernel
theorem dX11_advance_70 : decode cX11_advance 70 = .ok (.return_, 1) := by decide +kernel
theorem dX11_advance_71 : decode cX11_advance 71 = .ok (.aload_n 2, 1) := by decide +kernel
theorem dX11_advance_72 : decode cX11_advance 72 = .ok (.getfield 580, 3) := by decide +kernel
theorem dX11_advance_75 : decode cX11_advance 75 = .ok (.astore_n 3, 1) := by decide +kernel
theorem dX11_advance_76 : decode cX11_advance 76 = .ok (.aload_n 3, 1) := by decide +kernel
theorem dX11_advance_77 : decode cX11_advance 77 = .ok (.ifnull 16, 3) := by decide +kernel
theorem dX11_advance_80 : decode cX11_advance 80 = .ok (.aload_n 0, 1) := by decide +kernel
theorem dX11_advance_81 : decode cX11_advance 81 = .ok (.dup, 1) := by decide +kernel
theorem dX11_advance_82 : decode cX11_advance 82 = .ok (.getfield 148, 3) := by decide +kernel
theorem dX11_advance_85 : decode cX11_advance 85 = .ok (.iconst 1, 1) := by decide +kernel
theorem dX11_advance_86 : decode cX11_advance 86 = .ok (.iadd, 1) := by decide +kernel
theorem dX11_advance_87 : decode cX11_advance 87 = .ok (.putfield 148, 3) := by decide +kernel
theorem dX11_advance_90 : decode cX11_advance 90 = .ok (.goto 34, 3) := by decide +kernel
theorem dX11_advance_93 : decode cX11_advance 93 = .ok (.aload_n 0, 1) := by decide +kernel
theorem dX11_advance_94 : decode cX11_advance 94 = .ok (.getfield 41, 3) := by decide +kernel
theorem dX11_advance_97 : decode cX11_advance 97 = .ok (.aload_n 2, 1) := by decide +kernel
theorem dX11_advance_98 : decode cX11_advance 98 = .ok (.aload_n 2, 1) := by decide +kernel
theorem dX11_advance_99 : decode cX11_advance 99 = .ok (.getfield 171, 3) := by decide +kernel
theorem dX11_advance_102 : decode cX11_advance 102 = .ok (.aload_n 0, 1) := by decide +kernel
theorem dX11_advance_103 : decode cX11_advance 103 = .ok (.getfield 41, 3) := by decide +kernel
theorem dX11_advance_106 : decode cX11_advance 106 = .ok (.getfield 217, 3) := by decide +kernel
theorem dX11_advance_109 : decode cX11_advance 109 = .ok (.invokevirtual 221, 3) := by decide +kernel
theorem dX11_advance_112 : decode cX11_advance 112 = .ok (.aload_n 2, 1) := by decide +kernel
theorem dX11_advance_113 : decode cX11_advance 113 = .ok (.getfield 567, 3) := by decide +kernel
theorem dX11_advance_116 : decode cX11_advance 116 = .ok (.aload_n 2, 1) := by decide +kernel
theorem dX11_advance_117 : decode cX11_advance 117 = .ok (.invokevirtual 583, 3) := by decide +kernel
theorem dX11_advance_120 : decode cX11_advance 120 = .ok (.invokevirtual 228, 3) := by decide +kernel
theorem dX11_advance_123 : decode cX11_advance 123 = .ok (.astore_n 3, 1) := by decide +kernel
theorem dX11_advance_124 : decode cX11_advance 124 = .ok (.aload_n 2, 1) := by decide +kernel
theorem dX11_advance_125 : decode cX11_advance 125 = .ok (.aload_n 3, 1) := by decide +kernel
theorem dX11_advance_126 : decode cX11_advance 126 = .ok (.invokevirtual 586, 3) := by decide +kernel
theorem dX11_advance_129 : decode cX11_advance 129 = .ok (.aload_n 0, 1) := by decide +kernel
theorem dX11_advance_130 : decode cX11_advance 130 = .ok (.aload_n 3, 1) := by decide +kernel
theorem dX11_advance_131 : decode cX11_advance 131 = .ok (.invokevirtual 590, 3) := by decide +kernel
theorem dX11_advance_134 : decode cX11_advance 134 = .ok (.aload_n 0, 1) := by decide +kernel
theorem dX11_advance_135 : decode cX11_advance 135 = .ok (.aload_n 2, 1) := by decide +kernel
theorem dX11_advance_136 : decode cX11_advance 136 = .ok (.invokevirtual 403, 3) := by decide +kernel
theorem dX11_advance_139 : decode cX11_advance 139 = .ok (.aload_n 2, 1) := by decide +kernel
theorem dX11_advance_140 : decode cX11_advance 140 = .ok (.getfield 171, 3) := by decide +kernel
theorem dX11_advance_143 : decode cX11_advance 143 = .ok (.aload_n 2, 1) := by decide +kernel
theorem dX11_advance_144 : decode cX11_advance 144 = .ok (.getfield 168, 3) := by decide +kernel
theorem dX11_advance_147 : decode cX11_advance 147 = .ok (.if_icmp .ne 9, 3) := by decide +kernel
theorem dX11_advance_150 : decode cX11_advance 150 = .ok (.aload_n 0, 1) := by decide +kernel
theorem dX11_advance_151 : decode cX11_advance 151 = .ok (.aload_n 2, 1) := by decide +kernel
theorem dX11_advance_152 : decode cX11_advance 152 = .ok (.iconst 1, 1) := by decide +kernel
theorem dX11_advance_153 : decode cX11_advance 153 = .ok (.invokevirtual 378, 3) := by decide +kernel
theorem dX11_advance_156 : decode cX11_advance 156 = .ok (.aload_n 0, 1) := by decide +kernel
theorem dX11_advance_157 : decode cX11_advance 157 = .ok (.invokevirtual 593, 3) := by decide +kernel
theorem dX11_advance_160 : decode cX11_advance 160 = .ok (.return_, 1) := by decide +kernel
end
