section
-- lists: arrays of Object, the interface's calls
section J32
variable {p : Program} {l : Launch} {e : Env} {R : Room} {s : State} {m : MethodId} {args : Array Value} {below : List Frame} {meth : Method} {c : Code} {H : Heap} {locs : List Loc} {cells slots : Nat} {Q : State → Prop}
variable {cc : ByteArray} {pc : Nat} {ls : Array Slot} {rest : List Value} {dC : Nat → ClassId} {dI : Nat → Nat → Nat} {ca : Nat → ClassId} {B : jF} {base : Nat} {G0 G : jT} {E : List (Nat × Nat)} {H0 : Heap} {zc zs : Nat} {L : List jPin} {M : List jCt} {I : List jIv} {a a0 k k0 n n0 index : Nat} {tys tys0 : List (ClassId × FieldType)} {own C CE : String} {cA : ClassId}
/-- null into such an array -/
theorem j7_qastNO {P : jT → Option Nat → Prop} (hexec : p.tables.exec = Jvm.exec) (hb : c.code = cc) (hK : va_K (dC, dI) vwCl tys s) (hh : jSt (dC, dI) B base G0 G E H0 zc zs L M I H locs) (hB : jBok B) (hBk : ∀ n G a H, B k n G a H ↔ jAq (dC, dI) cA P n G a H) (t0 : Nat) (ht : tys[t0]? = some (cA, .object C)) (hk : k < 1000) (hk2 : 17 ≤ k) (hE : E.contains (k, 0) = true) (hM : M.all (fun q => !(q.2.1 == k)) = true) (hI : I.all (fun q => !(q.1.contains (k, 0))) = true) (ha : G a = some (k, n)) {i : Int32} {x : Int} (hi : i.toInt = x) (h12 : 0 ≤ x ∧ x < n) (hP : P G none) {f0 : Nat → Option Nat} {cB : ClassId} (hq0 : jQc dC dI cB a n f0 H) (hdg : decode cc pc = .ok (.aastore, 1))
    (kk : ∀ (H1 : Heap) (locs1 : List Loc) (g : Nat → Option Nat), g x.toNat = none → (∀ j, j < n → j ≠ x.toNat → g j = f0 j) → jQc dC dI cA a n g H1 → (∀ q, q ≠ a → H1[q]? = H[q]?) → jSt (dC, dI) B base G0 G E H0 zc zs L M I H1 locs1 → W p l e R s m args below meth c H1 locs1 cells slots Q (F0 m (pc + 1) ls rest)) : W p l e R s m args below meth c H locs cells slots Q (F0 m pc ls (.null :: .int i :: .ref a :: rest)) := by
  obtain ⟨h1, h2⟩ := h12
  obtain ⟨f, g1, g2⟩ := hh.aq hBk hk ha
  have hcl := jb_cl hi h1
  refine va_WaastN (C := C) hexec hb g1 ((hK.2 t0 _ ht).1 n (fun j => va_rf (f j))) (fun h => by cases h) (by show ¬ (i < 0 ∨ (arrV _ _ _).slots.size ≤ _); rw [arrV_size]; exact jb_in hi h1 h2) rfl rfl hdg fun H1 e1 z oq => ?_
  have hat : jQc dC dI cA a n (va_up f x.toNat none) H1 := by
    show H1[a]? = some (vp_cell _ _)
    rw [e1, vp_cell_q, vp_cell_q, arrV_store, hcl]
    congr 2
    funext q
    by_cases hq : q = x.toNat
    · subst hq
      simp [updV, va_up, va_rf]
    · simp [updV, va_up, hq]
  refine kk H1 _ (va_up f x.toNat none) (by simp [va_up]) (fun j hj hne => by rw [va_up_ne _ _ hne]; exact jQc_eq g1 hq0 hj) hat oq (hh.arr hB ha hk hk2 hE hM hI z oq (jTot_set z g1 e1 (jSet_sz _ _ _) oq) (fun q hq => ?_) ((hBk _ _ _ _).mpr ⟨_, hat, jAq_up g2 hP⟩))
  rcases List.mem_append.mp hq with h | h
  · exact hh.1.2.2 q h
  · cases List.mem_singleton.mp h; exact (hh.ab ha).1
/-- System.arraycopy of objects of one kind, the arrays' contents known -/
theorem j7_qcopy {kv nv N : Nat} {T : u_T} {F : Nat → jT → List (Value → Prop)} {f g : Nat → Option Nat} {cB cB1 : ClassId} (hexec : p.tables.exec = Jvm.exec) (hb : c.code = cc) (hml : c.maxLocals = ls.size) (hown : s.vm.findClass own = some m.cls) (hlink : (Cond.methodLink own index arraycopyName).before args s = true) (hnat : (Cond.native arraycopyName).before args s = true) (hstat : (Cond.static arraycopyName).before args s = true) (hini : (Cond.initialized "java/lang/System").before args s = true)
    (hK0 : va_K (dC, dI) vwCl tys0 s) (hK : va_K (dC, dI) vwCl tys s) (hh : jSt (dC, dI) B base G0 G E H0 zc zs L M I H locs) (hB : jBok B) (hBk : ∀ n G a H, B k n G a H ↔ jAq (dC, dI) cA (jQn kv nv) n G a H) (t0 : Nat) (ht : tys[t0]? = some (cA, .object CE)) (hk : k < 1000) (hk2 : 17 ≤ k) (hE : E.contains (k, 0) = true) (hM : M.all (fun q => !(q.2.1 == k)) = true) (hI : I.all (fun q => !(q.1.contains (k, 0))) = true) (ha0 : G a0 = some (k, n0)) (ha : G a = some (k, n)) (hq0 : jQc dC dI cB a0 n0 f H) (hq1 : jQc dC dI cB1 a n g H)
    (hBv : ∀ n G a H, B kv n G a H ↔ jOb (dC, dI) kv N (F n G) a H) (hc : vwCl[kv]? = some (C, T, N)) (hkv : kv < 1000) (hca : va_Nw (.castable C CE) s)
    {sp dp w : Int32} {x y z : Int} (hx : sp.toInt = x) (hy : dp.toInt = y) (hz : w.toInt = z) (h1 : 0 ≤ x ∧ 0 ≤ y ∧ 0 ≤ z ∧ x + z ≤ n0 ∧ y + z ≤ n)
    (hframes : 1 ≤ R.frames) (hlocals : (rest.map fun v => v.category).sum + (nativeFrameWords "java/lang/System" "arraycopy" 5 + 11) ≤ R.locals) (hdg : decode cc pc = .ok (.invokestatic index, 3))
    (kk : ∀ (H1 : Heap) (locs1 : List Loc) (g1 : Nat → Option Nat), (∀ j, j < n → g1 j = if y.toNat ≤ j ∧ j < y.toNat + z.toNat then f (x.toNat + (j - y.toNat)) else g j) → jQc dC dI cA a n g1 H1 → (∀ q, q ≠ a → H1[q]? = H[q]?) → jSt (dC, dI) B base G0 G E H0 zc zs L M I H1 locs1 → W p l e R s m args below meth c H1 locs1 cells slots Q (F0 m (pc + 3) ls rest)) : W p l e R s m args below meth c H locs cells slots Q (F0 m pc ls (.int w :: .int dp :: .ref a :: .int sp :: .ref a0 :: rest)) := by
  obtain ⟨q1, q2, q3, q4, q5⟩ := h1
  obtain ⟨f', f1, f2⟩ := hh.aq hBk hk ha0
  obtain ⟨g', g1, g2⟩ := hh.aq hBk hk ha
  have s0 : ¬ sp < 0 := jb_n0 hx q1
  have d0 : ¬ dp < 0 := jb_n0 hy q2
  have w0 : ¬ w < 0 := jb_n0 hz q3
  have es : sp.toNatClampNeg = x.toNat := jb_cl hx q1
  have ed : dp.toNatClampNeg = y.toNat := jb_cl hy q2
  have ew : w.toNatClampNeg = z.toNat := jb_cl hz q3
  have h4 : sp.toNatClampNeg + w.toNatClampNeg ≤ n0 := by rw [es, ew]; omega
  have c0 : H[a0]? = some (vp_cell cA (n0, .inr (.inr (.inr (.inr f'))))) := f1
  have c1 : H[a]? = some (vp_cell cA (n, .inr (.inr (.inr (.inr g'))))) := g1
  have hcls := (hK0.1 kv _ hc).2
  intro T hT X
  obtain ⟨-, k9, hk9, cm9, hkk9⟩ := (hK.2 t0 _ ht).1 n0 (fun j => va_rf (f' j))
  obtain ⟨-, k8, hk8, cm8, hkk8⟩ := (hK.2 t0 _ ht).1 n (fun j => va_rf (g' j))
  obtain ⟨vm', X', step⟩ := X.arraycopy hexec hown hlink hnat hstat hini (src := a0) (dst := a) (cs := vp_cell cA (n0, .inr (.inr (.inr (.inr f'))))) (cd := vp_cell cA (n, .inr (.inr (.inr (.inr g'))))) (srcPos := sp) (destPos := dp) (n := w) (by rw [hT]; exact c0) (by rw [hT]; exact c1)
    (fun _ h => by cases h) (fun _ h => by cases h) (fun h => by cases h) (fun h => by cases h) hk9 hk8 hkk9 hkk8 rfl s0 d0 w0
    (by rw [hx, hz]; show ¬ _ > ((arrV cA n0 (fun j => va_rf (f' j))).slots.size : Int); rw [arrV_size]; omega)
    (by rw [hy, hz]; show ¬ _ > ((arrV cA n (fun j => va_rf (g' j))).slots.size : Int); rw [arrV_size]; omega)
    (fun vm₁ hal i hi => by
      have e9 : (vp_cell cA (n0, .inr (.inr (.inr (.inr f'))))).slots.getD (sp.toNatClampNeg + i) .null = va_rf (f' (sp.toNatClampNeg + i)) := by
        show (arrV cA n0 (fun j => va_rf (f' j))).slots.getD _ _ = _
        rw [Array.getD_eq_getD_getElem?, arrV_read _ _ (by omega)]
        rfl
      rw [e9]
      cases hy9 : f' (sp.toNatClampNeg + i) with
      | none => exact ⟨rfl, trivial⟩
      | some y9 =>
        have hp9 := f2 (sp.toNatClampNeg + i) (by omega)
        rw [hy9] at hp9
        rcases hp9 with hp9 | ⟨x9, e8, hg9⟩
        · cases hp9
        · cases e8
          obtain ⟨V9, ⟨cellV, r1, r2, r3, r4⟩, -⟩ := (hBv _ _ _ _).mp (hh.2.1.1 y9 kv nv hg9 hkv (fun h => by cases h))
          obtain ⟨kA, comp, k1, k2, k3, -⟩ := (hK.2 t0 _ ht).2
          cases hk8.symm.trans k1
          cases hkk8.symm.trans k2
          obtain ⟨kE, hkE, -⟩ := Vm.findClass_spec k3
          obtain ⟨kC, hkC, -⟩ := hcls.2
          obtain ⟨kC', hkC', -⟩ := hal.2.2 _ _ hkC
          obtain ⟨kE', hkE', -⟩ := hal.2.2 _ _ hkE
          obtain ⟨c7, t7, w1, w2, w3⟩ := Cond.castable_spec (va_Nw.use (A := args) rfl hca)
          cases hcls.1.symm.trans w1
          cases k3.symm.trans w2
          refine ⟨rfl, cellV, (show T.heap[y9]? = some cellV by rw [hT]; exact r1), (fun q h => by rw [r3] at h; cases h), ⟨kC', by rw [r2]; exact hkC'⟩, ?_, ?_⟩
          · exact ⟨kE', hkE'⟩
          · show vm₁.assignable _ _ = true
            rw [hal.assignable, r2]
            exact w3)
    (g := F0 m pc ls (.int w :: .int dp :: .ref a :: .int sp :: .ref a0 :: rest)) rfl (by rw [hml]) (rest := rest) rfl (by rw [hb]; exact hdg) hframes (by show 2 * 0 + _ + _ ≤ _; omega)
  have e1 : copied (vp_cell cA (n0, .inr (.inr (.inr (.inr f'))))) (vp_cell cA (n, .inr (.inr (.inr (.inr g'))))) sp dp w = vp_cell cA (n, .inr (.inr (.inr (.inr (va_cpy f' g' sp.toNatClampNeg dp.toNatClampNeg w.toNatClampNeg))))) := by
    rw [vp_cell_q, vp_cell_q, vp_cell_q]
    exact va_copied (fun z => va_rf z) cA cA f' g' h4
  rw [e1] at X' step
  have hl : a < H.size := (Array.getElem?_eq_some_iff.mp c1).1
  generalize hcp : va_cpy f' g' sp.toNatClampNeg dp.toNatClampNeg w.toNatClampNeg = gn at X' step
  have hheap : ((T.setVm vm').setCell a (vp_cell cA (n, .inr (.inr (.inr (.inr gn)))))).heap = H.setIfInBounds a (vp_cell cA (n, .inr (.inr (.inr (.inr gn))))) := by rw [← hT]; rfl
  have oq : ∀ q : Nat, q ≠ a → (H.setIfInBounds a (vp_cell cA (n, .inr (.inr (.inr (.inr gn))))))[q]? = H[q]? := fun q hq => by simp [Array.getElem?_setIfInBounds, Ne.symm hq]
  have ha1 : (H.setIfInBounds a (vp_cell cA (n, .inr (.inr (.inr (.inr gn))))))[a]? = some (vp_cell cA (n, .inr (.inr (.inr (.inr gn))))) := by simp [Array.getElem?_setIfInBounds, hl]
  have hsz : (H.setIfInBounds a (vp_cell cA (n, .inr (.inr (.inr (.inr gn)))))).size = H.size := by simp
  have hgn : ∀ j, j < n → gn j = if y.toNat ≤ j ∧ j < y.toNat + z.toNat then f (x.toNat + (j - y.toNat)) else g j := fun j hj => by
    rw [← hcp]
    unfold va_cpy
    rw [es, ed, ew]
    split
    · rename_i hc9
      exact jQc_eq f1 hq0 (by omega)
    · exact jQc_eq g1 hq1 hj
  have hPn : ∀ j, j < n → jQn kv nv G (gn j) := fun j hj => by
    rw [← hcp]
    unfold va_cpy
    split
    · rename_i hc9
      exact f2 _ (by omega)
    · exact g2 j hj
  obtain ⟨t, a1, b1⟩ := kk _ _ gn hgn ha1 oq (hh.arr hB ha hk hk2 hE hM hI hsz oq (jTot_set hsz c1 ha1 (by rw [vp_cell_q, vp_cell_q, arrV_size, arrV_size]) oq) (fun q hq => by
      rcases List.mem_append.mp hq with h | h
      · exact hh.1.2.2 q h
      · obtain ⟨z9, -, hz9⟩ := List.mem_map.mp h
        rw [← hz9]
        exact (hh.ab ha).1) ((hBk _ _ _ _).mpr ⟨gn, ha1, hPn⟩)) _ hheap X'
  exact ⟨t, step t a1, b1⟩
end J32
end
section
-- what is known of all lists (o: the one that is open); k: as many there are
section J33
variable {dC : Nat → ClassId} {dI : Nat → Nat → Nat} {ca : Nat → ClassId} {G G1 : jT} {H H1 : Heap} {a c k r x m n : Nat} {o : Option Nat} {ks : List Nat}
end J33
theorem jRm.copy {f g1 g2 : Nat → Option Nat} {z i nz x w : Int} {n : Nat} (h : ∀ k : Nat, (k : Int) < z → f k ≠ none) (hz : nz = z - 1) (hi : 0 ≤ i) (hc : ∀ j, j < n → g1 j = if i.toNat ≤ j ∧ j < i.toNat + w.toNat then f (x.toNat + (j - i.toNat)) else f j) (hx : x = i + 1) (hw : w = nz - i) (hn : z ≤ n) (ho : ∀ j, j < n → j ≠ nz.toNat → g2 j = g1 j) : ∀ k : Nat, (k : Int) < nz → g2 k ≠ none := fun k hk => by
  rw [ho k (by omega) (by omega), hc k (by omega)]
  split
  · exact h _ (by omega)
  · exact h k (by omega)
end
section
def EJx4a65c_elementData_915e3L2 : List (Nat × Nat) := []
def EJx4a65c_get_915e3L2 : List (Nat × Nat) := []
set_option maxHeartbeats 4000000 in
set_option maxRecDepth 20000 in
theorem uJx4a65c_elementData_915e3L2 (l : Launch) (dC : Nat → ClassId) (dI : Nat → Nat → Nat) (ca : Nat → ClassId) (base : Nat) (B : jF) (hB : jBok B) (hAp : jAp (dC, dI)) (hB1 : ∀ n G a H, B 1 n G a H ↔ jOb (dC, dI) 1 3 (F1 n G) a H) (hB10 : ∀ n G a H, B 10 n G a H ↔ jOb (dC, dI) 10 5 (F10 n G) a H) (hB222 : ∀ n G a H, B 222 n G a H ↔ jAq (dC, dI) (ca 9) (jQn 10 0) n G a H) (G0 : jT) (H0 : Heap) (r0 : Nat) (a1 : Int32) (ed : Nat) (n_ed : Nat) (fq : Nat → Option Nat) : Met l yJx4a65c_elementData_915e3 (jw yJx4a65c_elementData_915e3 cJx4a65c_elementData_915e3 2 (some (.object "java/lang/Object"))) ({ frames := 0, cells := 0, slots := 0, locals := 0 }) (va_Pc [.ref r0, .int a1] (fun U => U.heap = H0 ∧ jX B base G0 [] H0 ∧ jG dC dI ca base U ∧ jK7 dC dI ca base U ∧ G0 r0 = some (1, 2) ∧ G0 ed = some (222, n_ed) ∧ jP (dC, dI) G0 H0 [(r0, 1, 1, .ref ed)] ∧ jIs (dC, dI) G0 H0 [([(222, 0)], jQc dC dI (ca 9) ed n_ed fq)] ∧ 0 ≤ a1.toInt ∧ a1.toInt < n_ed ∧ fq (a1.toInt).toNat ≠ none)) (jQx (S := Unit) (fun v u => jRf G0 10 0 v) (fun u t => jRt (dC, dI) B base G0 EJx4a65c_elementData_915e3L2 H0 [] t.heap) (jA base)) 0 0 (jA base) := by
  refine Met.ofW (cc := cJx4a65c_elementData_915e3) (maxL := 2) (ret := (some (.object "java/lang/Object"))) (by decide) rfl ?_
  intro p e s m args below meth c s₁ Bd hml hv
  obtain ⟨rfl, hH0, hX, hG, hK7, hg_r0, hg_ed, hP0, hI0, hp0, hp1, hp2⟩ := hv
  have hK := hG.1
  have hx := Bd.exec
  have hb := Bd.bytes
  have hr := Bd.returns
  have hts := atoms_spec (ws := (jw yJx4a65c_elementData_915e3 cJx4a65c_elementData_915e3 2 (some (.object "java/lang/Object")))) Bd.pre
  have htw : ∀ w ∈ jWl, w.before _ s = true := fun w h => hts w (List.mem_cons_of_mem _ h)
  have hown : s.vm.findClass RJx4a65c = some m.cls := findClass_of_methodNamed Bd.named
  have hlocks := Bd.notSynchronized
  obtain ⟨Q, hQ⟩ : ∃ Q, Q = MQ below (jQx (S := Unit) (fun v u => jRf G0 10 0 v) (fun u t => jRt (dC, dI) B base G0 EJx4a65c_elementData_915e3L2 H0 [] t.heap) (jA base)) ([.ref r0, .int a1] : List Value).toArray s 0 0 (jA base) := ⟨_, rfl⟩
  rw [← hQ]
  have hl := lv_entry ([.ref r0, .int a1]) (n := 2) (Nat.le_of_ble_eq_true rfl)
  rw [lg_entry_eq]
  generalize (lg_sl ([.ref r0, .int a1]) ++ List.replicate (2 - (lg_sl ([.ref r0, .int a1])).length) Slot.unset).toArray = ls at hl ⊢
  have hl : lv_has ls 2 [(0, .ref r0), (1, .int a1)] := hl
  generalize hR : (headSpec (jw yJx4a65c_elementData_915e3 cJx4a65c_elementData_915e3 2 (some (.object "java/lang/Object"))) ({ frames := 0, cells := 0, slots := 0, locals := 0 })).room = R
  subst hH0
  have hh : jSt (dC, dI) B base G0 G0 EJx4a65c_elementData_915e3L2 s.heap 0 0 [(r0, 1, 1, .ref ed)] [] [([(222, 0)], jQc dC dI (ca 9) ed n_ed fq)] s.heap [] := jSt.start hX hP0 jMc.nil hI0
  clear hX hP0
  have hk0 : (0 : Int32).toInt = 0 := by decide
  have hk1 : (1 : Int32).toInt = 1 := by decide
  have hly_1_1 := htw (u_lay RJx4a65c TJx4a65c 1) (jWc_wsJx4a65c0 _ (u_in_lay (by decide)))
  have hlk_9 := (htw (.fieldLink RJx4a65c 9 "java/util/ArrayList" "elementData" "[Ljava/lang/Object;") (jWr_9 _ (List.mem_of_getElem? (i := 15) rfl)))
  have hrg_a1 := jb_rng a1
  refine lv_aload_n hx hb dJx4a65c_elementData_915e3_0 rfl (lv_at hl 0 rfl) ?_
  refine j7_read hx hb hown hK (C := RJx4a65c) (T := TJx4a65c) (N := 3) rfl hly_1_1 hlk_9 (hh.at 0 rfl) dJx4a65c_elementData_915e3_1 ?_
  refine lv_iload_n hx hb dJx4a65c_elementData_915e3_4 rfl (lv_at hl 1 rfl) ?_
  refine j7_qaldI hx hb hK7.1 hh hB222 0 rfl (by decide) hg_ed (x := a1.toInt) (rfl) (by omega) (hh.iv 0 rfl) dJx4a65c_elementData_915e3_5 (fun o_1 ho_1 heo_1 => ?_)
  rcases ho_1 with rfl | ⟨el_2, rfl, hg_el_2⟩
  · simp only [va_rf]
    exact absurd heo_1.symm hp2
  · simp only [va_rf]
    rw [hQ]
    exact W.aret (v := .ref el_2) hx hb hr (Or.inl ⟨_, rfl⟩) (Or.inr ⟨_, rfl⟩) (fun t ht hW => ⟨⟨.ref el_2, (), rfl, ⟨_, rfl, hg_el_2⟩, hh.rt (M1 := []) [] rfl ht⟩, by rw [ht]; try exact hh.1.1, fun q h9 hq => by rw [ht]; try exact hh.1.2.1 q h9 hq⟩) hh.1.2.2 dJx4a65c_elementData_915e3_6
set_option maxHeartbeats 4000000 in
set_option maxRecDepth 20000 in
theorem uJx4a65c_get_915e3L2 (l : Launch) (dC : Nat → ClassId) (dI : Nat → Nat → Nat) (ca : Nat → ClassId) (base : Nat) (B : jF) (hB : jBok B) (hAp : jAp (dC, dI)) (hB1 : ∀ n G a H, B 1 n G a H ↔ jOb (dC, dI) 1 3 (F1 n G) a H) (hB10 : ∀ n G a H, B 10 n G a H ↔ jOb (dC, dI) 10 5 (F10 n G) a H) (hB222 : ∀ n G a H, B 222 n G a H ↔ jAq (dC, dI) (ca 9) (jQn 10 0) n G a H) (G0 : jT) (H0 : Heap) (r0 : Nat) (a1 : Int32) (lz : Int32) : Met l yJx4a65c_get_915e3 (jw yJx4a65c_get_915e3 cJx4a65c_get_915e3 2 (some (.object "java/lang/Object"))) ({ frames := 2, cells := 0, slots := 0, locals := 43 }) (va_Pc [.ref r0, .int a1] (fun U => U.heap = H0 ∧ jX B base G0 [] H0 ∧ jG dC dI ca base U ∧ jK7 dC dI ca base U ∧ G0 r0 = some (1, 2) ∧ jP (dC, dI) G0 H0 [(r0, 1, 2, .int lz)] ∧ jIs (dC, dI) G0 H0 [(jFl, jLs dC dI ca G0 3 none)] ∧ 0 ≤ a1.toInt ∧ a1.toInt < lz.toInt)) (jQx (S := Unit) (fun v u => jRf G0 10 0 v) (fun u t => (jRt (dC, dI) B base G0 EJx4a65c_get_915e3L2 H0 [] t.heap) ∧ jIs (dC, dI) G0 t.heap [(jFl, jLs dC dI ca G0 3 none)]) (jA base)) 0 0 (jA base) := by
  refine Met.ofW (cc := cJx4a65c_get_915e3) (maxL := 2) (ret := (some (.object "java/lang/Object"))) (by decide) rfl ?_
  intro p e s m args below meth c s₁ Bd hml hv
  obtain ⟨rfl, hH0, hX, hG, hK7, hg_r0, hP0, hI0, hp0, hp1⟩ := hv
  have hK := hG.1
  have hx := Bd.exec
  have hb := Bd.bytes
  have hr := Bd.returns
  have hts := atoms_spec (ws := (jw yJx4a65c_get_915e3 cJx4a65c_get_915e3 2 (some (.object "java/lang/Object")))) Bd.pre
  have htw : ∀ w ∈ jWl, w.before _ s = true := fun w h => hts w (List.mem_cons_of_mem _ h)
  have hown : s.vm.findClass RJx4a65c = some m.cls := findClass_of_methodNamed Bd.named
  have hlocks := Bd.notSynchronized
  obtain ⟨Q, hQ⟩ : ∃ Q, Q = MQ below (jQx (S := Unit) (fun v u => jRf G0 10 0 v) (fun u t => (jRt (dC, dI) B base G0 EJx4a65c_get_915e3L2 H0 [] t.heap) ∧ jIs (dC, dI) G0 t.heap [(jFl, jLs dC dI ca G0 3 none)]) (jA base)) ([.ref r0, .int a1] : List Value).toArray s 0 0 (jA base) := ⟨_, rfl⟩
  rw [← hQ]
  have hl := lv_entry ([.ref r0, .int a1]) (n := 2) (Nat.le_of_ble_eq_true rfl)
  rw [lg_entry_eq]
  generalize (lg_sl ([.ref r0, .int a1]) ++ List.replicate (2 - (lg_sl ([.ref r0, .int a1])).length) Slot.unset).toArray = ls at hl ⊢
  have hl : lv_has ls 2 [(0, .ref r0), (1, .int a1)] := hl
  generalize hR : (headSpec (jw yJx4a65c_get_915e3 cJx4a65c_get_915e3 2 (some (.object "java/lang/Object"))) ({ frames := 2, cells := 0, slots := 0, locals := 43 })).room = R
  subst hH0
  have hh : jSt (dC, dI) B base G0 G0 EJx4a65c_get_915e3L2 s.heap 0 0 [(r0, 1, 2, .int lz)] [] [(jFl, jLs dC dI ca G0 3 none)] s.heap [] := jSt.start hX hP0 jMc.nil hI0
  clear hX hP0
  have hk0 : (0 : Int32).toInt = 0 := by decide
  have hk1 : (1 : Int32).toInt = 1 := by decide
  have hly_1_2 := htw (u_lay RJx4a65c TJx4a65c 2) (jWc_wsJx4a65c0 _ (u_in_lay (by decide)))
  have hlk_48 := (htw (.fieldLink RJx4a65c 48 "java/util/ArrayList" "size" "I") (jWr_28 _ (List.mem_of_getElem? (i := 2) rfl)))
  have hrg_a1 := jb_rng a1
  obtain ⟨lz_1, lx_1, hl1_1, hl2_1, hl3_1, hl4_1⟩ := jLs.at (hh.iv 0 rfl) hg_r0
  obtain rfl : lz = lz_1 := Value.int.inj (jf.uniq (hh.at 0 rfl) hl1_1)
  have hl3_1 : 0 ≤ lz.toInt ∧ lz.toInt ≤ 12 := hl3_1
  rcases hl4_1 with ⟨rfl, hl5_1⟩ | ⟨lm_1, lf_1, hg_lx_1, hlm_1, hl6_1, hl7_1, hl8_1⟩
  · skip
    exact (by omega : False).elim
  · skip
    have hh_2 := hh.more (P1 := [(r0, 1, 1, .ref lx_1)]) (jP.cons hg_r0 hl2_1 jP.nil)
    clear hh
    have hh_3 := hh_2.addI (jQc.ie hl7_1 hg_lx_1 (by decide) (by decide))
    clear hh_2
    refine lv_iload_n hx hb dJx4a65c_get_915e3_0 rfl (lv_at hl 1 rfl) ?_
    refine lv_aload_n hx hb dJx4a65c_get_915e3_1 rfl (lv_at hl 0 rfl) ?_
    refine j7_read hx hb hown hK (C := RJx4a65c) (T := TJx4a65c) (N := 3) rfl hly_1_2 hlk_48 (hh_3.at 1 rfl) dJx4a65c_get_915e3_2 ?_
    refine va_calli (A0 := jA base) (H0 := s.heap) (va_runS (As := [.int a1, .int lz]) (rest := []) ⟨hx, hb, hml, hown, hts⟩ (uJ15_checkIndex_7cf53 l dC dI ca base B hB hAp G0 s.heap a1 lz) (va_cwS 2 hts (jgS (jWr_28 _ (List.mem_of_getElem? (i := 7) rfl)) (jWr_28 _ (List.mem_of_getElem? (i := 8) rfl)) (jWr_28 _ (List.mem_of_getElem? (i := 9) rfl)) (jWr_28 _ (List.mem_of_getElem? (i := 10) rfl))) rfl rfl rfl (by decide +kernel) ⟨by rw [← hR]; exact Nat.le_of_ble_eq_true rfl, by rw [← hR]; exact Nat.le_of_ble_eq_true rfl⟩) ⟨fun a U g mk q => by obtain ⟨q0, q1, q2, qK, q10, q11⟩ := q; exact ⟨q0, q1, q2, jG.calling g mk a qK, q10, q11⟩, fun U hU hW => ⟨rfl, hU, hh_3.2.1, hG.step hW hU hh_3.1, jP.nil, by first | omega | (refine ⟨?_, ?_⟩ <;> (first | omega | rfl | assumption | decide | exact Or.inl rfl | exact Or.inr rfl | (simp only; omega)))⟩⟩ rfl rfl hl.1 rfl (lv_room (Nat.le_of_ble_eq_true rfl)) dJx4a65c_get_915e3_5 ⟨Nat.zero_le _, Nat.zero_le _⟩) hh_3.1 (fun q _ h => h) (fun q h => h) (fun r_5 u_4 t_4 H_4 locs_4 ht_4 hvm_4 hr_5 hb_4 hz_4 hk_4 hS_4 => ?_)
    rw [ht_4] at hb_4
    obtain ⟨hb_41, hb_42, hb_43, hb_44, hb_45⟩ := hb_4
    have hh_4 : jSt (dC, dI) B base G0 G0 EJx4a65c_get_915e3L2 s.heap 0 0 [(r0, 1, 1, .ref lx_1), (r0, 1, 2, .int lz)] [] [([(222, 0)], jQc dC dI (ca 9) lx_1 lm_1 lf_1), (jFl, jLs dC dI ca G0 3 none)] H_4 locs_4 := ((hh_3.call hb_41 hb_42 hb_43 hb_44 hS_4 rfl (L1 := [(r0, 1, 1, .ref lx_1), (r0, 1, 2, .int lz)]) [0, 1] rfl rfl (M1 := []) [] rfl rfl (I1 := [([(222, 0)], jQc dC dI (ca 9) lx_1 lm_1 lf_1), (jFl, jLs dC dI ca G0 3 none)]) [0, 1] rfl rfl).more hb_45)
    clear hh_3 ht_4 hvm_4 hz_4 hk_4 hS_4 hb_41 hb_42 hb_43 hb_44 hb_45
    refine lv_pop hx hb dJx4a65c_get_915e3_8 rfl ?_
    refine lv_aload_n hx hb dJx4a65c_get_915e3_9 rfl (lv_at hl 0 rfl) ?_
    refine lv_iload_n hx hb dJx4a65c_get_915e3_10 rfl (lv_at hl 1 rfl) ?_
    refine j_callx (A0 := jA base) (H0 := s.heap) (va_runV (As := [.int a1]) (rest := []) ⟨hx, hb, hml, hown, hts⟩ (uJx4a65c_elementData_915e3L2 l dC dI ca base B hB hAp hB1 hB10 hB222 G0 H_4 r0 a1 lx_1 lm_1 lf_1) (cwV 1 hts (jgV (jWr_28 _ (List.mem_of_getElem? (i := 12) rfl)) (jWr_28 _ (List.mem_of_getElem? (i := 13) rfl)) (jWr_28 _ (List.mem_of_getElem? (i := 14) rfl)) (jWr_2 _ (List.mem_of_getElem? (i := 13) rfl)) (jWr_28 _ (List.mem_of_getElem? (i := 15) rfl))) rfl rfl rfl (by decide +kernel) ⟨by rw [← hR]; exact Nat.le_of_ble_eq_true rfl, by rw [← hR]; exact Nat.le_of_ble_eq_true rfl⟩) ⟨fun a U g mk q => by obtain ⟨q0, q1, q2, qK, q10, q11, q12, q13, q14, q15⟩ := q; exact ⟨q0, q1, q2, jG.calling g mk a qK, (jK7.calling g mk a q10), q11, q12, q13, q14, q15⟩, hh_4.recv (C := RJx4a65c) (T := TJx4a65c) (N := 3) hB1 rfl (by decide) hg_r0 hK, fun U hU hW => ⟨rfl, hU, hh_4.2.1, hG.step hW hU hh_4.1, (hK7.step hW hU hh_4.1), hg_r0, hg_lx_1, (hh_4.2.2.1.sub (L1 := [(r0, 1, 1, .ref lx_1)]) [0] rfl), (hh_4.2.2.2.2.2.2.2.2.sub (L1 := [([(222, 0)], jQc dC dI (ca 9) lx_1 lm_1 lf_1)]) [0] rfl), ⟨(by first | omega | rfl | assumption | exact hl8_1 _ (by omega)), (by first | omega | rfl | assumption | exact hl8_1 _ (by omega)), (by first | omega | rfl | assumption | exact hl8_1 _ (by omega))⟩⟩⟩ rfl rfl hl.1 rfl (lv_room (Nat.le_of_ble_eq_true rfl)) dJx4a65c_get_915e3_11 ⟨Nat.zero_le _, Nat.zero_le _⟩) hh_4.1 (fun q _ h => h) (fun q h => h) (fun r_7 u_6 t_6 H_6 locs_6 ht_6 hvm_6 hr_7 hb_6 hz_6 hk_6 hS_6 => ?_)
    rw [ht_6] at hb_6
    obtain ⟨hb_61, hb_62, hb_63, hb_64, hb_65⟩ := hb_6
    have hh_6 : jSt (dC, dI) B base G0 G0 EJx4a65c_get_915e3L2 s.heap 0 0 [(r0, 1, 1, .ref lx_1), (r0, 1, 2, .int lz)] [] [([(222, 0)], jQc dC dI (ca 9) lx_1 lm_1 lf_1), (jFl, jLs dC dI ca G0 3 none)] H_6 locs_6 := ((hh_4.call hb_61 hb_62 hb_63 hb_64 hS_6 rfl (L1 := [(r0, 1, 1, .ref lx_1), (r0, 1, 2, .int lz)]) [0, 1] rfl rfl (M1 := []) [] rfl rfl (I1 := [([(222, 0)], jQc dC dI (ca 9) lx_1 lm_1 lf_1), (jFl, jLs dC dI ca G0 3 none)]) [0, 1] rfl rfl).more hb_65)
    clear hh_4 ht_6 hvm_6 hz_6 hk_6 hS_6 hb_61 hb_62 hb_63 hb_64 hb_65
    obtain ⟨ret_8, rfl, hg_ret_8⟩ := hr_7
    rw [hQ]
    exact W.aret (v := .ref ret_8) hx hb hr (Or.inl ⟨_, rfl⟩) (Or.inr ⟨_, rfl⟩) (fun t ht hW => ⟨⟨.ref ret_8, (), rfl, ⟨_, rfl, hg_ret_8⟩, ⟨hh_6.rt (M1 := []) [] rfl ht, by rw [ht]; exact hh_6.2.2.2.2.2.2.2.2.sub (L1 := [(jFl, jLs dC dI ca G0 3 none)]) [1] rfl⟩⟩, by rw [ht]; try exact hh_6.1.1, fun q h9 hq => by rw [ht]; try exact hh_6.1.2.1 q h9 hq⟩) hh_6.1.2.2 dJx4a65c_get_915e3_14
end
section
theorem dJx4a65c_remove_915e3_0 : decode cJx4a65c_remove_915e3 0 = .ok (.iload_n 1, 1) := by decide +kernel
theorem dJx4a65c_remove_915e3_1 : decode cJx4a65c_remove_915e3 1 = .ok (.aload_n 0, 1) := by decide +kernel
theorem dJx4a65c_remove_915e3_2 : decode cJx4a65c_remove_915e3 2 = .ok (.getfield 48, 3) := by decide +kernel
theorem dJx4a65c_remove_915e3_5 : decode cJx4a65c_remove_915e3 5 = .ok (.invokestatic 118, 3) := by decide +kernel
theorem dJx4a65c_remove_915e3_8 : decode cJx4a65c_remove_915e3 8 = .ok (.pop, 1) := by decide +kernel
theorem dJx4a65c_remove_915e3_9 : decode cJx4a65c_remove_915e3 9 = .ok (.aload_n 0, 1) := by decide +kernel
theorem dJx4a65c_remove_915e3_10 : decode cJx4a65c_remove_915e3 10 = .ok (.getfield 9, 3) := by decide +kernel
theorem dJx4a65c_remove_915e3_13 : decode cJx4a65c_remove_915e3 13 = .ok (.astore_n 2, 1) := by decide +kernel
theorem dJx4a65c_remove_915e3_14 : decode cJx4a65c_remove_915e3 14 = .ok (.aload_n 2, 1) := by decide +kernel
theorem dJx4a65c_remove_915e3_15 : decode cJx4a65c_remove_915e3 15 = .ok (.iload_n 1, 1) := by decide +kernel
theorem dJx4a65c_remove_915e3_16 : decode cJx4a65c_remove_915e3 16 = .ok (.aaload, 1) := by decide +kernel
theorem dJx4a65c_remove_915e3_17 : decode cJx4a65c_remove_915e3 17 = .ok (.astore_n 3, 1) := by decide +kernel
theorem dJx4a65c_remove_915e3_18 : decode cJx4a65c_remove_915e3 18 = .ok (.aload_n 0, 1) := by decide +kernel
theorem dJx4a65c_remove_915e3_19 : decode cJx4a65c_remove_915e3 19 = .ok (.aload_n 2, 1) := by decide +kernel
theorem dJx4a65c_remove_915e3_20 : decode cJx4a65c_remove_915e3 20 = .ok (.iload_n 1, 1) := by decide +kernel
theorem dJx4a65c_remove_915e3_21 : decode cJx4a65c_remove_915e3 21 = .ok (.invokevirtual 144, 3) := by decide +kernel
theorem dJx4a65c_remove_915e3_24 : decode cJx4a65c_remove_915e3 24 = .ok (.aload_n 3, 1) := by decide +kernel
theorem dJx4a65c_remove_915e3_25 : decode cJx4a65c_remove_915e3 25 = .ok (.areturn, 1) := by decide +kernel
theorem dJx4a65c_fastRemove_b59b0_0 : decode cJx4a65c_fastRemove_b59b0 0 = .ok (.aload_n 0, 1) := by decide +kernel
theorem dJx4a65c_fastRemove_b59b0_1 : decode cJx4a65c_fastRemove_b59b0 1 = .ok (.dup, 1) := by decide +kernel
theorem dJx4a65c_fastRemove_b59b0_2 : decode cJx4a65c_fastRemove_b59b0 2 = .ok (.getfield 63, 3) := by decide +kernel
theorem dJx4a65c_fastRemove_b59b0_5 : decode cJx4a65c_fastRemove_b59b0 5 = .ok (.iconst 1, 1) := by decide +kernel
theorem dJx4a65c_fastRemove_b59b0_6 : decode cJx4a65c_fastRemove_b59b0 6 = .ok (.iadd, 1) := by decide +kernel
theorem dJx4a65c_fastRemove_b59b0_7 : decode cJx4a65c_fastRemove_b59b0 7 = .ok (.putfield 63, 3) := by decide +kernel
theorem dJx4a65c_fastRemove_b59b0_10 : decode cJx4a65c_fastRemove_b59b0 10 = .ok (.aload_n 0, 1) := by decide +kernel
theorem dJx4a65c_fastRemove_b59b0_11 : decode cJx4a65c_fastRemove_b59b0 11 = .ok (.getfield 48, 3) := by decide +kernel
theorem dJx4a65c_fastRemove_b59b0_14 : decode cJx4a65c_fastRemove_b59b0 14 = .ok (.iconst 1, 1) := by decide +kernel
theorem dJx4a65c_fastRemove_b59b0_15 : decode cJx4a65c_fastRemove_b59b0 15 = .ok (.isub, 1) := by decide +kernel
theorem dJx4a65c_fastRemove_b59b0_16 : decode cJx4a65c_fastRemove_b59b0 16 = .ok (.dup, 1) := by decide +kernel
theorem dJx4a65c_fastRemove_b59b0_17 : decode cJx4a65c_fastRemove_b59b0 17 = .ok (.istore_n 3, 1) := by decide +kernel
theorem dJx4a65c_fastRemove_b59b0_18 : decode cJx4a65c_fastRemove_b59b0 18 = .ok (.iload_n 2, 1) := by decide +kernel
theorem dJx4a65c_fastRemove_b59b0_19 : decode cJx4a65c_fastRemove_b59b0 19 = .ok (.if_icmp .le 15, 3) := by decide +kernel
theorem dJx4a65c_fastRemove_b59b0_22 : decode cJx4a65c_fastRemove_b59b0 22 = .ok (.aload_n 1, 1) := by decide +kernel
theorem dJx4a65c_fastRemove_b59b0_23 : decode cJx4a65c_fastRemove_b59b0 23 = .ok (.iload_n 2, 1) := by decide +kernel
theorem dJx4a65c_fastRemove_b59b0_24 : decode cJx4a65c_fastRemove_b59b0 24 = .ok (.iconst 1, 1) := by decide +kernel
theorem dJx4a65c_fastRemove_b59b0_25 : decode cJx4a65c_fastRemove_b59b0 25 = .ok (.iadd, 1) := by decide +kernel
theorem dJx4a65c_fastRemove_b59b0_26 : decode cJx4a65c_fastRemove_b59b0 26 = .ok (.aload_n 1, 1) := by decide +kernel
theorem dJx4a65c_fastRemove_b59b0_27 : decode cJx4a65c_fastRemove_b59b0 27 = .ok (.iload_n 2, 1) := by decide +kernel
theorem dJx4a65c_fastRemove_b59b0_28 : decode cJx4a65c_fastRemove_b59b0 28 = .ok (.iload_n 3, 1) := by decide +kernel
theorem dJx4a65c_fastRemove_b59b0_29 : decode cJx4a65c_fastRemove_b59b0 29 = .ok (.iload_n 2, 1) := by decide +kernel
theorem dJx4a65c_fastRemove_b59b0_30 : decode cJx4a65c_fastRemove_b59b0 30 = .ok (.isub, 1) := by decide +kernel
theorem dJx4a65c_fastRemove_b59b0_31 : decode cJx4a65c_fastRemove_b59b0 31 = .ok (.invokestatic 112, 3) := by decide +kernel
theorem dJx4a65c_fastRemove_b59b0_34 : decode cJx4a65c_fastRemove_b59b0 34 = .ok (.aload_n 1, 1) := by decide +kernel
theorem dJx4a65c_fastRemove_b59b0_35 : decode cJx4a65c_fastRemove_b59b0 35 = .ok (.aload_n 0, 1) := by decide +kernel
theorem dJx4a65c_fastRemove_b59b0_36 : decode cJx4a65c_fastRemove_b59b0 36 = .ok (.iload_n 3, 1) := by decide +kernel
theorem dJx4a65c_fastRemove_b59b0_37 : decode cJx4a65c_fastRemove_b59b0 37 = .ok (.dup_x1, 1) := by decide +kernel
theorem dJx4a65c_fastRemove_b59b0_38 : decode cJx4a65c_fastRemove_b59b0 38 = .ok (.putfield 48, 3) := by decide +kernel
theorem dJx4a65c_fastRemove_b59b0_41 : decode cJx4a65c_fastRemove_b59b0 41 = .ok (.aconst_null, 1) := by decide +kernel
theorem dJx4a65c_fastRemove_b59b0_42 : decode cJx4a65c_fastRemove_b59b0 42 = .ok (.aastore, 1) := by decide +kernel
theorem dJx4a65c_fastRemove_b59b0_43 : decode cJx4a65c_fastRemove_b59b0 43 = .ok (.return_, 1) := by decide +kernel
def EJx4a65c_fastRemove_b59b0L2 : List (Nat × Nat) := [(1, 0), (1, 2), (222, 0)]
def EJx4a65c_remove_915e3L2 : List (Nat × Nat) := [(1, 0), (1, 2), (222, 0)]
set_option maxHeartbeats 4000000 in
set_option maxRecDepth 20000 in
theorem uJx4a65c_fastRemove_b59b0L2 (l : Launch) (dC : Nat → ClassId) (dI : Nat → Nat → Nat) (ca : Nat → ClassId) (base : Nat) (B : jF) (hB : jBok B) (hAp : jAp (dC, dI)) (hB1 : ∀ n G a H, B 1 n G a H ↔ jOb (dC, dI) 1 3 (F1 n G) a H) (hB10 : ∀ n G a H, B 10 n G a H ↔ jOb (dC, dI) 10 5 (F10 n G) a H) (hB222 : ∀ n G a H, B 222 n G a H ↔ jAq (dC, dI) (ca 9) (jQn 10 0) n G a H) (G0 : jT) (H0 : Heap) (r0 : Nat) (r1 : Nat) (a2 : Int32) (n1 : Nat) (lz : Int32) : Met l yJx4a65c_fastRemove_b59b0 (jw yJx4a65c_fastRemove_b59b0 cJx4a65c_fastRemove_b59b0 4 none) ({ frames := 1, cells := 0, slots := 0, locals := 61 }) (va_Pc [.ref r0, .ref r1, .int a2] (fun U => U.heap = H0 ∧ jX B base G0 [] H0 ∧ jG dC dI ca base U ∧ jK7 dC dI ca base U ∧ G0 r0 = some (1, 2) ∧ G0 r1 = some (222, n1) ∧ jP (dC, dI) G0 H0 [(r0, 1, 1, .ref r1), (r0, 1, 2, .int lz)] ∧ jIs (dC, dI) G0 H0 [(jFl, jLs dC dI ca G0 3 none)] ∧ 0 ≤ a2.toInt ∧ a2.toInt < lz.toInt)) (va_Qv (S := Int32) (fun u => u.toInt = lz.toInt - 1) (fun u t => ((jRt (dC, dI) B base G0 EJx4a65c_fastRemove_b59b0L2 H0 [(r0, 1, 2, .int u)] t.heap) ∧ jOw (dC, dI) G0 1 r0 H0 t.heap) ∧ jIs (dC, dI) G0 t.heap [(jFl, jLs dC dI ca G0 3 none)]) (jA base)) 0 0 (jA base) := by
  refine Met.ofW (cc := cJx4a65c_fastRemove_b59b0) (maxL := 4) (ret := none) (by decide) rfl ?_
  intro p e s m args below meth c s₁ Bd hml hv
  obtain ⟨rfl, hH0, hX, hG, hK7, hg_r0, hg_r1, hP0, hI0, hp0, hp1⟩ := hv
  have hK := hG.1
  have hx := Bd.exec
  have hb := Bd.bytes
  have hr := Bd.returns
  have hts := atoms_spec (ws := (jw yJx4a65c_fastRemove_b59b0 cJx4a65c_fastRemove_b59b0 4 none)) Bd.pre
  have htw : ∀ w ∈ jWl, w.before _ s = true := fun w h => hts w (List.mem_cons_of_mem _ h)
  have hown : s.vm.findClass RJx4a65c = some m.cls := findClass_of_methodNamed Bd.named
  have hlocks := Bd.notSynchronized
  obtain ⟨Q, hQ⟩ : ∃ Q, Q = MQ below (va_Qv (S := Int32) (fun u => u.toInt = lz.toInt - 1) (fun u t => ((jRt (dC, dI) B base G0 EJx4a65c_fastRemove_b59b0L2 H0 [(r0, 1, 2, .int u)] t.heap) ∧ jOw (dC, dI) G0 1 r0 H0 t.heap) ∧ jIs (dC, dI) G0 t.heap [(jFl, jLs dC dI ca G0 3 none)]) (jA base)) ([.ref r0, .ref r1, .int a2] : List Value).toArray s 0 0 (jA base) := ⟨_, rfl⟩
  rw [← hQ]
  have hl := lv_entry ([.ref r0, .ref r1, .int a2]) (n := 4) (Nat.le_of_ble_eq_true rfl)
  rw [lg_entry_eq]
  generalize (lg_sl ([.ref r0, .ref r1, .int a2]) ++ List.replicate (4 - (lg_sl ([.ref r0, .ref r1, .int a2])).length) Slot.unset).toArray = ls at hl ⊢
  have hl : lv_has ls 4 [(0, .ref r0), (1, .ref r1), (2, .int a2)] := hl
  generalize hR : (headSpec (jw yJx4a65c_fastRemove_b59b0 cJx4a65c_fastRemove_b59b0 4 none) ({ frames := 1, cells := 0, slots := 0, locals := 61 })).room = R
  subst hH0
  have hh : jSt (dC, dI) B base G0 G0 EJx4a65c_fastRemove_b59b0L2 s.heap 0 0 [(r0, 1, 1, .ref r1), (r0, 1, 2, .int lz)] [] [(jFl, jLs dC dI ca G0 3 none)] s.heap [] := jSt.start hX hP0 jMc.nil hI0
  clear hX hP0
  have hk0 : (0 : Int32).toInt = 0 := by decide
  have hk1 : (1 : Int32).toInt = 1 := by decide
  have hly_1_0 := htw (u_lay RJx4a65c TJx4a65c 0) (jWc_wsJx4a65c0 _ (u_in_lay (by decide)))
  have hly_1_2 := htw (u_lay RJx4a65c TJx4a65c 2) (jWc_wsJx4a65c0 _ (u_in_lay (by decide)))
  have hlk_63 := (htw (.fieldLink RJx4a65c 63 "java/util/ArrayList" "modCount" "I") (jWr_33 _ (List.mem_of_getElem? (i := 11) rfl)))
  have hlk_48 := (htw (.fieldLink RJx4a65c 48 "java/util/ArrayList" "size" "I") (jWr_28 _ (List.mem_of_getElem? (i := 2) rfl)))
  have hrg_a2 := jb_rng a2
  have hh_1 := hh.addI (jOw.ie (dC := dC) (dI := dI) (G0 := G0) (k := 1) (r := r0) (H0 := s.heap) (F := [(1, 0), (1, 1), (1, 2)]) (C := RJx4a65c) (T := TJx4a65c) (N := 3) rfl (by decide) hh.2.2.2.2.1 (jOw.rf))
  clear hh
  obtain ⟨lz_2, lx_2, hl1_2, hl2_2, hl3_2, hl4_2⟩ := jLs.at (hh_1.iv 1 rfl) hg_r0
  obtain rfl : lz = lz_2 := Value.int.inj (jf.uniq (hh_1.at 1 rfl) hl1_2)
  have hl3_2 : 0 ≤ lz.toInt ∧ lz.toInt ≤ 12 := hl3_2
  obtain rfl : r1 = lx_2 := Value.ref.inj (jf.uniq (hh_1.at 0 rfl) hl2_2)
  rcases hl4_2 with ⟨hl9_2, hl5_2⟩ | ⟨lm_2, lf_2, hg_lx_2, hlm_2, hl6_2, hl7_2, hl8_2⟩
  · skip
    exact (by omega : False).elim
  · skip
    obtain rfl : n1 = lm_2 := by have h9 := Option.some.inj (hg_r1.symm.trans hg_lx_2); exact congrArg Prod.snd h9
    have hd_3 := jLs.less (hh_1.iv 1 rfl) r0
    have hh_4 := hh_1.sub (L1 := [(r0, 1, 1, .ref r1), (r0, 1, 2, .int lz)]) [0, 1] rfl (M1 := []) [] rfl (I1 := [([(1, 0), (1, 1), (1, 2)], jOw (dC, dI) G0 1 r0 s.heap)]) [0] rfl
    clear hh_1
    have hh_5 := hh_4.addI (jLs.ie hd_3)
    clear hh_4
    have hh_6 := hh_5.addI (jQc.ie hl7_2 hg_lx_2 (by decide) (by decide))
    clear hh_5
    refine lv_aload_n hx hb dJx4a65c_fastRemove_b59b0_0 rfl (lv_at hl 0 rfl) ?_
    refine lv_dup hx hb dJx4a65c_fastRemove_b59b0_1 rfl ?_
    obtain ⟨v_7, hv_7, hh_8⟩ := hh_6.pin (C := RJx4a65c) (T := TJx4a65c) (N := 3) hB1 rfl (by decide) hg_r0 (i := 0) (by decide) rfl
    clear hh_6
    obtain ⟨modCount_9, rfl⟩ := hv_7
    refine j7_readS hx hb hown hK (C := RJx4a65c) (T := TJx4a65c) (N := 3) rfl hly_1_0 hlk_63 (htw (.sameField "java/util/ArrayList" "java/util/AbstractList" "modCount" "I") (jWr_33 _ (List.mem_of_getElem? (i := 12) rfl))) (hh_8.at 0 rfl) dJx4a65c_fastRemove_b59b0_2 ?_
    refine lv_iconst (v := 1) hx hb dJx4a65c_fastRemove_b59b0_5 (by decide) ?_
    refine lv_iadd hx hb dJx4a65c_fastRemove_b59b0_6 ?_
    refine lv_topi (fun z_10 ez_10 => ?_)
    have hd_12 := hh_8.iv 2 rfl
    have hh_13 := hh_8.sub (L1 := [(r0, 1, 0, .int modCount_9), (r0, 1, 1, .ref r1), (r0, 1, 2, .int lz)]) [0, 1, 2] rfl (M1 := []) [] rfl (I1 := [([(222, 0)], jQc dC dI (ca 9) r1 n1 lf_2), (jFl, jLs dC dI ca G0 3 (some r0))]) [0, 1] rfl
    clear hh_8
    refine j7_putS hx hb hown hK hh_13 hB hAp hB1 (C := RJx4a65c) (T := TJx4a65c) (N := 3) rfl (by decide) hg_r0 (i := 0) (by decide) hly_1_0 rfl hlk_63 (htw (.sameField "java/util/ArrayList" "java/util/AbstractList" "modCount" "I") (jWr_33 _ (List.mem_of_getElem? (i := 12) rfl))) rfl (ty := .int) (v := .int z_10) (by decide +kernel) rfl rfl (⟨_, rfl⟩) rfl (L1 := [(r0, 1, 1, .ref r1), (r0, 1, 2, .int lz)]) [1, 2] rfl rfl rfl dJx4a65c_fastRemove_b59b0_7 (fun H_11 locs_11 hr_11 hh_11 => ?_)
    clear hh_13
    have hd_12n := jOw.put hd_12 hr_11
    have hh_14 := hh_11.addI (jOw.ie (dC := dC) (dI := dI) (G0 := G0) (k := 1) (r := r0) (H0 := s.heap) (F := [(1, 0), (1, 1), (1, 2)]) (C := RJx4a65c) (T := TJx4a65c) (N := 3) rfl (by decide) hh_11.2.2.2.2.1 (hd_12n))
    clear hh_11
    clear hd_12 hd_12n
    clear hr_11
    refine lv_aload_n hx hb dJx4a65c_fastRemove_b59b0_10 rfl (lv_at hl 0 rfl) ?_
    refine j7_read hx hb hown hK (C := RJx4a65c) (T := TJx4a65c) (N := 3) rfl hly_1_2 hlk_48 (hh_14.at 2 rfl) dJx4a65c_fastRemove_b59b0_11 ?_
    refine lv_iconst (v := 1) hx hb dJx4a65c_fastRemove_b59b0_14 (by decide) ?_
    refine lv_isub hx hb dJx4a65c_fastRemove_b59b0_15 ?_
    refine lv_topi (fun z_15 ez_15 => ?_)
    have hz_15 : z_15.toInt = lz.toInt - 1 := by rw [ez_15]; exact jb_isub2 (rfl) ((by decide)) (by omega)
    refine lv_dup hx hb dJx4a65c_fastRemove_b59b0_16 rfl ?_
    refine lv_istore_n (lv' := [(3, .int z_15), (0, .ref r0), (1, .ref r1), (2, .int a2)]) hx hb dJx4a65c_fastRemove_b59b0_17 rfl hl (by decide) rfl (fun ls hl => ?_)
    refine lv_iload_n hx hb dJx4a65c_fastRemove_b59b0_18 rfl (lv_at hl 3 rfl) ?_
    refine lv_icmp_le (tgt := 34) hx hb dJx4a65c_fastRemove_b59b0_19 (by decide) (fun c_16 => ?_) (fun c_16 => ?_)
    · skip
      have c_16' : z_15.toInt ≤ a2.toInt := jb_le (rfl) (rfl) c_16
      refine lv_aload_n hx hb dJx4a65c_fastRemove_b59b0_34 rfl (lv_at hl 2 rfl) ?_
      refine lv_aload_n hx hb dJx4a65c_fastRemove_b59b0_35 rfl (lv_at hl 1 rfl) ?_
      refine lv_iload_n hx hb dJx4a65c_fastRemove_b59b0_36 rfl (lv_at hl 0 rfl) ?_
      refine lv_dup_x1 hx hb dJx4a65c_fastRemove_b59b0_37 rfl rfl ?_
      have hd_18 := hh_14.iv 0 rfl
      have hh_19 := hh_14.sub (L1 := [(r0, 1, 0, .int z_10), (r0, 1, 1, .ref r1), (r0, 1, 2, .int lz)]) [0, 1, 2] rfl (M1 := []) [] rfl (I1 := [([(222, 0)], jQc dC dI (ca 9) r1 n1 lf_2), (jFl, jLs dC dI ca G0 3 (some r0))]) [1, 2] rfl
      clear hh_14
      have hd_20 := hh_19.iv 1 rfl
      have hh_21 := hh_19.sub (L1 := [(r0, 1, 0, .int z_10), (r0, 1, 1, .ref r1), (r0, 1, 2, .int lz)]) [0, 1, 2] rfl (M1 := []) [] rfl (I1 := [([(222, 0)], jQc dC dI (ca 9) r1 n1 lf_2)]) [0] rfl
      clear hh_19
      refine j7_putX hx hb hown hK hh_21 hB hAp hB1 (C := RJx4a65c) (T := TJx4a65c) (N := 3) rfl (by decide) hg_r0 (i := 2) (by decide) hly_1_2 rfl hlk_48 rfl (ty := .int) (v := .int z_15) (by decide +kernel) rfl rfl (⟨_, rfl, by omega, by omega⟩) rfl (L1 := [(r0, 1, 0, .int z_10), (r0, 1, 1, .ref r1)]) [0, 1] rfl rfl rfl dJx4a65c_fastRemove_b59b0_38 (fun H_17 locs_17 hr_17 hh_17 => ?_)
      clear hh_21
      have hd_20n := jLs.fld hd_20 hg_r0 hr_17
      have hh_22 := hh_17.addI (jLs.ie hd_20n)
      clear hh_17
      have hd_18n := jOw.put hd_18 hr_17
      have hh_23 := hh_22.addI (jOw.ie (dC := dC) (dI := dI) (G0 := G0) (k := 1) (r := r0) (H0 := s.heap) (F := [(1, 0), (1, 1), (1, 2)]) (C := RJx4a65c) (T := TJx4a65c) (N := 3) rfl (by decide) hh_22.2.2.2.2.1 (hd_18n))
      clear hh_22
      clear hd_18 hd_18n
      clear hd_20 hd_20n hr_17
      refine lv_null hx hb dJx4a65c_fastRemove_b59b0_41 ?_
      have hd_25 := hh_23.iv 2 rfl
      have hd_26 := hh_23.iv 1 rfl
      have hh_28 := hh_23.sub (L1 := [(r0, 1, 2, .int z_15), (r0, 1, 0, .int z_10), (r0, 1, 1, .ref r1)]) [0, 1, 2] rfl (M1 := []) [] rfl (I1 := [([(1, 0), (1, 1), (1, 2)], jOw (dC, dI) G0 1 r0 s.heap)]) [0] rfl
      clear hh_23
      refine j7_qastNO hx hb hK7.1 hh_28 hB hB222 0 rfl (by decide) (by decide) rfl rfl rfl hg_r1 (x := z_15.toInt) (rfl) (by omega) (Or.inl rfl) hd_25 dJx4a65c_fastRemove_b59b0_42 (fun H_24 locs_24 fq_27 hv_24 ho_24 hq_24 hr_24 hh_24 => ?_)
      clear hh_28
      have hd_26n := jLs.arr hd_26 hg_r0 hg_r1 hr_24
      have hh_29 := hh_24.addI (jLs.ie hd_26n)
      clear hh_24
      have hh_30 := hh_29.addI (hq_24.ie hg_r1 (by decide) (by decide))
      clear hh_29
      clear hd_25 hd_26 hd_26n hr_24
      have hd_31 := jLs.full (hh_30.iv 1 rfl) hg_r0 ⟨_, _, hh_30.at 0 rfl, hh_30.at 2 rfl, ⟨by omega, (show _ ≤ (12 : Int) by omega)⟩, Or.inr ⟨_, _, hg_r1, by omega, by omega, hh_30.iv 0 rfl, by first | exact jRm.copy hl8_2 (by omega) (by omega) (zz_none) (by omega) (by omega) (by omega) ho_24 | exact jRm.last hl8_2 (by omega) (by omega) ho_24⟩⟩
      have hh_32 := hh_30.sub (L1 := [(r0, 1, 2, .int z_15), (r0, 1, 0, .int z_10), (r0, 1, 1, .ref r1)]) [0, 1, 2] rfl (M1 := []) [] rfl (I1 := [([(222, 0)], jQc dC dI (ca 9) r1 n1 fq_27), ([(1, 0), (1, 1), (1, 2)], jOw (dC, dI) G0 1 r0 s.heap)]) [0, 2] rfl
      clear hh_30
      have hh_33 := hh_32.addI (jLs.ie hd_31)
      clear hh_32
      rw [hQ]
      exact W.vret hx hb hr (fun t ht hW => ⟨⟨z_15, rfl, by first | omega | rfl | assumption | decide | exact Or.inl rfl | exact Or.inr rfl | (simp only; omega), ⟨⟨hh_33.rt (M1 := [(r0, 1, 2, .int z_15)]) [0] rfl ht, by rw [ht]; exact hh_33.iv 2 rfl⟩, by rw [ht]; exact hh_33.2.2.2.2.2.2.2.2.sub (L1 := [(jFl, jLs dC dI ca G0 3 none)]) [0] rfl⟩⟩, by rw [ht]; try exact hh_33.1.1, fun q h9 hq => by rw [ht]; try exact hh_33.1.2.1 q h9 hq⟩) hh_33.1.2.2 dJx4a65c_fastRemove_b59b0_43
    · skip
      have c_16' : z_15.toInt > a2.toInt := jb_le_n (rfl) (rfl) c_16
      refine lv_aload_n hx hb dJx4a65c_fastRemove_b59b0_22 rfl (lv_at hl 2 rfl) ?_
      refine lv_iload_n hx hb dJx4a65c_fastRemove_b59b0_23 rfl (lv_at hl 3 rfl) ?_
      refine lv_iconst (v := 1) hx hb dJx4a65c_fastRemove_b59b0_24 (by decide) ?_
      refine lv_iadd hx hb dJx4a65c_fastRemove_b59b0_25 ?_
      refine lv_topi (fun z_34 ez_34 => ?_)
      have hz_34 : z_34.toInt = a2.toInt + 1 := by rw [ez_34]; exact jb_iadd2 (rfl) ((by decide)) (by omega)
      refine lv_aload_n hx hb dJx4a65c_fastRemove_b59b0_26 rfl (lv_at hl 2 rfl) ?_
      refine lv_iload_n hx hb dJx4a65c_fastRemove_b59b0_27 rfl (lv_at hl 3 rfl) ?_
      refine lv_iload_n hx hb dJx4a65c_fastRemove_b59b0_28 rfl (lv_at hl 0 rfl) ?_
      refine lv_iload_n hx hb dJx4a65c_fastRemove_b59b0_29 rfl (lv_at hl 3 rfl) ?_
      refine lv_isub hx hb dJx4a65c_fastRemove_b59b0_30 ?_
      refine lv_topi (fun z_35 ez_35 => ?_)
      have hz_35 : z_35.toInt = z_15.toInt - a2.toInt := by rw [ez_35]; exact jb_isub2 (rfl) (rfl) (by omega)
      have hd_37 := hh_14.iv 1 rfl
      have hd_38 := hh_14.iv 1 rfl
      have hd_39 := hh_14.iv 2 rfl
      have hh_41 := hh_14.sub (L1 := [(r0, 1, 0, .int z_10), (r0, 1, 1, .ref r1), (r0, 1, 2, .int lz)]) [0, 1, 2] rfl (M1 := []) [] rfl (I1 := [([(1, 0), (1, 1), (1, 2)], jOw (dC, dI) G0 1 r0 s.heap)]) [0] rfl
      clear hh_14
      refine j7_qcopy hx hb (by rw [hml]; exact hl.1.symm) hown (htw (.methodLink RJx4a65c 112 arraycopyName) (jWr_42 _ (List.mem_of_getElem? (i := 15) rfl))) (htw (.native arraycopyName) (jWr_16 _ (List.mem_of_getElem? (i := 19) rfl))) (htw (.static arraycopyName) (jWr_16 _ (List.mem_of_getElem? (i := 20) rfl))) (htw (.initialized "java/lang/System") (jWr_16 _ (List.mem_of_getElem? (i := 21) rfl))) hK hK7.1 hh_41 hB hB222 0 rfl (by decide) (by decide) rfl rfl rfl hg_r1 hg_r1 hd_38 hd_37 hB10 (T := TX8) (N := 5) rfl (by decide) hK7.2.2.1.2.1.1 (x := z_34.toInt) (y := a2.toInt) (z := z_35.toInt) rfl rfl rfl (by omega) (by rw [← hR]; exact Nat.le_of_ble_eq_true rfl) (by rw [← hR]; exact Nat.le_of_ble_eq_true rfl) dJx4a65c_fastRemove_b59b0_31 (fun H_36 locs_36 fq_40 hc_36 hq_36 hr_36 hh_36 => ?_)
      clear hh_41
      have hd_39n := jLs.arr hd_39 hg_r0 hg_r1 hr_36
      have hh_42 := hh_36.addI (jLs.ie hd_39n)
      clear hh_36
      have hh_43 := hh_42.addI (hq_36.ie hg_r1 (by decide) (by decide))
      clear hh_42
      refine lv_aload_n hx hb dJx4a65c_fastRemove_b59b0_34 rfl (lv_at hl 2 rfl) ?_
      refine lv_aload_n hx hb dJx4a65c_fastRemove_b59b0_35 rfl (lv_at hl 1 rfl) ?_
      refine lv_iload_n hx hb dJx4a65c_fastRemove_b59b0_36 rfl (lv_at hl 0 rfl) ?_
      refine lv_dup_x1 hx hb dJx4a65c_fastRemove_b59b0_37 rfl rfl ?_
      have hd_45 := hh_43.iv 2 rfl
      have hh_46 := hh_43.sub (L1 := [(r0, 1, 0, .int z_10), (r0, 1, 1, .ref r1), (r0, 1, 2, .int lz)]) [0, 1, 2] rfl (M1 := []) [] rfl (I1 := [([(222, 0)], jQc dC dI (ca 9) r1 n1 fq_40), (jFl, jLs dC dI ca G0 3 (some r0))]) [0, 1] rfl
      clear hh_43
      have hd_47 := hh_46.iv 1 rfl
      have hh_48 := hh_46.sub (L1 := [(r0, 1, 0, .int z_10), (r0, 1, 1, .ref r1), (r0, 1, 2, .int lz)]) [0, 1, 2] rfl (M1 := []) [] rfl (I1 := [([(222, 0)], jQc dC dI (ca 9) r1 n1 fq_40)]) [0] rfl
      clear hh_46
      refine j7_putX hx hb hown hK hh_48 hB hAp hB1 (C := RJx4a65c) (T := TJx4a65c) (N := 3) rfl (by decide) hg_r0 (i := 2) (by decide) hly_1_2 rfl hlk_48 rfl (ty := .int) (v := .int z_15) (by decide +kernel) rfl rfl (⟨_, rfl, by omega, by omega⟩) rfl (L1 := [(r0, 1, 0, .int z_10), (r0, 1, 1, .ref r1)]) [0, 1] rfl rfl rfl dJx4a65c_fastRemove_b59b0_38 (fun H_44 locs_44 hr_44 hh_44 => ?_)
      clear hh_48
      have hd_47n := jLs.fld hd_47 hg_r0 hr_44
      have hh_49 := hh_44.addI (jLs.ie hd_47n)
      clear hh_44
      have hd_45n := jOw.put hd_45 hr_44
      have hh_50 := hh_49.addI (jOw.ie (dC := dC) (dI := dI) (G0 := G0) (k := 1) (r := r0) (H0 := s.heap) (F := [(1, 0), (1, 1), (1, 2)]) (C := RJx4a65c) (T := TJx4a65c) (N := 3) rfl (by decide) hh_49.2.2.2.2.1 (hd_45n))
      clear hh_49
      clear hd_45 hd_45n
      clear hd_47 hd_47n hr_44
      refine lv_null hx hb dJx4a65c_fastRemove_b59b0_41 ?_
      have hd_52 := hh_50.iv 2 rfl
      have hd_53 := hh_50.iv 1 rfl
      have hh_55 := hh_50.sub (L1 := [(r0, 1, 2, .int z_15), (r0, 1, 0, .int z_10), (r0, 1, 1, .ref r1)]) [0, 1, 2] rfl (M1 := []) [] rfl (I1 := [([(1, 0), (1, 1), (1, 2)], jOw (dC, dI) G0 1 r0 s.heap)]) [0] rfl
      clear hh_50
      refine j7_qastNO hx hb hK7.1 hh_55 hB hB222 0 rfl (by decide) (by decide) rfl rfl rfl hg_r1 (x := z_15.toInt) (rfl) (by omega) (Or.inl rfl) hd_52 dJx4a65c_fastRemove_b59b0_42 (fun H_51 locs_51 fq_54 hv_51 ho_51 hq_51 hr_51 hh_51 => ?_)
      clear hh_55
      have hd_53n := jLs.arr hd_53 hg_r0 hg_r1 hr_51
      have hh_56 := hh_51.addI (jLs.ie hd_53n)
      clear hh_51
      have hh_57 := hh_56.addI (hq_51.ie hg_r1 (by decide) (by decide))
      clear hh_56
      clear hd_52 hd_53 hd_53n hr_51
      have hd_58 := jLs.full (hh_57.iv 1 rfl) hg_r0 ⟨_, _, hh_57.at 0 rfl, hh_57.at 2 rfl, ⟨by omega, (show _ ≤ (12 : Int) by omega)⟩, Or.inr ⟨_, _, hg_r1, by omega, by omega, hh_57.iv 0 rfl, by first | exact jRm.copy hl8_2 (by omega) (by omega) hc_36 (by omega) (by omega) (by omega) ho_51 | exact jRm.last hl8_2 (by omega) (by omega) ho_51⟩⟩
      have hh_59 := hh_57.sub (L1 := [(r0, 1, 2, .int z_15), (r0, 1, 0, .int z_10), (r0, 1, 1, .ref r1)]) [0, 1, 2] rfl (M1 := []) [] rfl (I1 := [([(222, 0)], jQc dC dI (ca 9) r1 n1 fq_54), ([(1, 0), (1, 1), (1, 2)], jOw (dC, dI) G0 1 r0 s.heap)]) [0, 2] rfl
      clear hh_57
      have hh_60 := hh_59.addI (jLs.ie hd_58)
      clear hh_59
      rw [hQ]
      exact W.vret hx hb hr (fun t ht hW => ⟨⟨z_15, rfl, by first | omega | rfl | assumption | decide | exact Or.inl rfl | exact Or.inr rfl | (simp only; omega), ⟨⟨hh_60.rt (M1 := [(r0, 1, 2, .int z_15)]) [0] rfl ht, by rw [ht]; exact hh_60.iv 2 rfl⟩, by rw [ht]; exact hh_60.2.2.2.2.2.2.2.2.sub (L1 := [(jFl, jLs dC dI ca G0 3 none)]) [0] rfl⟩⟩, by rw [ht]; try exact hh_60.1.1, fun q h9 hq => by rw [ht]; try exact hh_60.1.2.1 q h9 hq⟩) hh_60.1.2.2 dJx4a65c_fastRemove_b59b0_43
set_option maxHeartbeats 4000000 in
set_option maxRecDepth 20000 in
theorem uJx4a65c_remove_915e3L2 (l : Launch) (dC : Nat → ClassId) (dI : Nat → Nat → Nat) (ca : Nat → ClassId) (base : Nat) (B : jF) (hB : jBok B) (hAp : jAp (dC, dI)) (hB1 : ∀ n G a H, B 1 n G a H ↔ jOb (dC, dI) 1 3 (F1 n G) a H) (hB10 : ∀ n G a H, B 10 n G a H ↔ jOb (dC, dI) 10 5 (F10 n G) a H) (hB222 : ∀ n G a H, B 222 n G a H ↔ jAq (dC, dI) (ca 9) (jQn 10 0) n G a H) (G0 : jT) (H0 : Heap) (r0 : Nat) (a1 : Int32) (lz : Int32) : Met l yJx4a65c_remove_915e3 (jw yJx4a65c_remove_915e3 cJx4a65c_remove_915e3 4 (some (.object "java/lang/Object"))) ({ frames := 2, cells := 0, slots := 0, locals := 84 }) (va_Pc [.ref r0, .int a1] (fun U => U.heap = H0 ∧ jX B base G0 [] H0 ∧ jG dC dI ca base U ∧ jK7 dC dI ca base U ∧ G0 r0 = some (1, 2) ∧ jP (dC, dI) G0 H0 [(r0, 1, 2, .int lz)] ∧ jIs (dC, dI) G0 H0 [(jFl, jLs dC dI ca G0 3 none)] ∧ 0 ≤ a1.toInt ∧ a1.toInt < lz.toInt)) (jQx (S := Int32) (fun v u => jRf G0 10 0 v ∧ u.toInt = lz.toInt - 1) (fun u t => ((jRt (dC, dI) B base G0 EJx4a65c_remove_915e3L2 H0 [(r0, 1, 2, .int u)] t.heap) ∧ jOw (dC, dI) G0 1 r0 H0 t.heap) ∧ jIs (dC, dI) G0 t.heap [(jFl, jLs dC dI ca G0 3 none)]) (jA base)) 0 0 (jA base) := by
  refine Met.ofW (cc := cJx4a65c_remove_915e3) (maxL := 4) (ret := (some (.object "java/lang/Object"))) (by decide) rfl ?_
  intro p e s m args below meth c s₁ Bd hml hv
  obtain ⟨rfl, hH0, hX, hG, hK7, hg_r0, hP0, hI0, hp0, hp1⟩ := hv
  have hK := hG.1
  have hx := Bd.exec
  have hb := Bd.bytes
  have hr := Bd.returns
  have hts := atoms_spec (ws := (jw yJx4a65c_remove_915e3 cJx4a65c_remove_915e3 4 (some (.object "java/lang/Object")))) Bd.pre
  have htw : ∀ w ∈ jWl, w.before _ s = true := fun w h => hts w (List.mem_cons_of_mem _ h)
  have hown : s.vm.findClass RJx4a65c = some m.cls := findClass_of_methodNamed Bd.named
  have hlocks := Bd.notSynchronized
  obtain ⟨Q, hQ⟩ : ∃ Q, Q = MQ below (jQx (S := Int32) (fun v u => jRf G0 10 0 v ∧ u.toInt = lz.toInt - 1) (fun u t => ((jRt (dC, dI) B base G0 EJx4a65c_remove_915e3L2 H0 [(r0, 1, 2, .int u)] t.heap) ∧ jOw (dC, dI) G0 1 r0 H0 t.heap) ∧ jIs (dC, dI) G0 t.heap [(jFl, jLs dC dI ca G0 3 none)]) (jA base)) ([.ref r0, .int a1] : List Value).toArray s 0 0 (jA base) := ⟨_, rfl⟩
  rw [← hQ]
  have hl := lv_entry ([.ref r0, .int a1]) (n := 4) (Nat.le_of_ble_eq_true rfl)
  rw [lg_entry_eq]
  generalize (lg_sl ([.ref r0, .int a1]) ++ List.replicate (4 - (lg_sl ([.ref r0, .int a1])).length) Slot.unset).toArray = ls at hl ⊢
  have hl : lv_has ls 4 [(0, .ref r0), (1, .int a1)] := hl
  generalize hR : (headSpec (jw yJx4a65c_remove_915e3 cJx4a65c_remove_915e3 4 (some (.object "java/lang/Object"))) ({ frames := 2, cells := 0, slots := 0, locals := 84 })).room = R
  subst hH0
  have hh : jSt (dC, dI) B base G0 G0 EJx4a65c_remove_915e3L2 s.heap 0 0 [(r0, 1, 2, .int lz)] [] [(jFl, jLs dC dI ca G0 3 none)] s.heap [] := jSt.start hX hP0 jMc.nil hI0
  clear hX hP0
  have hk0 : (0 : Int32).toInt = 0 := by decide
  have hk1 : (1 : Int32).toInt = 1 := by decide
  have hly_1_1 := htw (u_lay RJx4a65c TJx4a65c 1) (jWc_wsJx4a65c0 _ (u_in_lay (by decide)))
  have hly_1_2 := htw (u_lay RJx4a65c TJx4a65c 2) (jWc_wsJx4a65c0 _ (u_in_lay (by decide)))
  have hlk_48 := (htw (.fieldLink RJx4a65c 48 "java/util/ArrayList" "size" "I") (jWr_28 _ (List.mem_of_getElem? (i := 2) rfl)))
  have hlk_9 := (htw (.fieldLink RJx4a65c 9 "java/util/ArrayList" "elementData" "[Ljava/lang/Object;") (jWr_9 _ (List.mem_of_getElem? (i := 15) rfl)))
  have hrg_a1 := jb_rng a1
  have hh_1 := hh.addI (jOw.ie (dC := dC) (dI := dI) (G0 := G0) (k := 1) (r := r0) (H0 := s.heap) (F := [(1, 0), (1, 1), (1, 2)]) (C := RJx4a65c) (T := TJx4a65c) (N := 3) rfl (by decide) hh.2.2.2.2.1 (jOw.rf))
  clear hh
  obtain ⟨lz_2, lx_2, hl1_2, hl2_2, hl3_2, hl4_2⟩ := jLs.at (hh_1.iv 1 rfl) hg_r0
  obtain rfl : lz = lz_2 := Value.int.inj (jf.uniq (hh_1.at 0 rfl) hl1_2)
  have hl3_2 : 0 ≤ lz.toInt ∧ lz.toInt ≤ 12 := hl3_2
  rcases hl4_2 with ⟨rfl, hl5_2⟩ | ⟨lm_2, lf_2, hg_lx_2, hlm_2, hl6_2, hl7_2, hl8_2⟩
  · skip
    exact (by omega : False).elim
  · skip
    have hh_3 := hh_1.more (P1 := [(r0, 1, 1, .ref lx_2)]) (jP.cons hg_r0 hl2_2 jP.nil)
    clear hh_1
    have hh_4 := hh_3.addI (jQc.ie hl7_2 hg_lx_2 (by decide) (by decide))
    clear hh_3
    refine lv_iload_n hx hb dJx4a65c_remove_915e3_0 rfl (lv_at hl 1 rfl) ?_
    refine lv_aload_n hx hb dJx4a65c_remove_915e3_1 rfl (lv_at hl 0 rfl) ?_
    refine j7_read hx hb hown hK (C := RJx4a65c) (T := TJx4a65c) (N := 3) rfl hly_1_2 hlk_48 (hh_4.at 1 rfl) dJx4a65c_remove_915e3_2 ?_
    refine va_calli (A0 := jA base) (H0 := s.heap) (va_runS (As := [.int a1, .int lz]) (rest := []) ⟨hx, hb, hml, hown, hts⟩ (uJ15_checkIndex_7cf53 l dC dI ca base B hB hAp G0 s.heap a1 lz) (va_cwS 2 hts (jgS (jWr_28 _ (List.mem_of_getElem? (i := 7) rfl)) (jWr_28 _ (List.mem_of_getElem? (i := 8) rfl)) (jWr_28 _ (List.mem_of_getElem? (i := 9) rfl)) (jWr_28 _ (List.mem_of_getElem? (i := 10) rfl))) rfl rfl rfl (by decide +kernel) ⟨by rw [← hR]; exact Nat.le_of_ble_eq_true rfl, by rw [← hR]; exact Nat.le_of_ble_eq_true rfl⟩) ⟨fun a U g mk q => by obtain ⟨q0, q1, q2, qK, q10, q11⟩ := q; exact ⟨q0, q1, q2, jG.calling g mk a qK, q10, q11⟩, fun U hU hW => ⟨rfl, hU, hh_4.2.1, hG.step hW hU hh_4.1, jP.nil, by first | omega | (refine ⟨?_, ?_⟩ <;> (first | omega | rfl | assumption | decide | exact Or.inl rfl | exact Or.inr rfl | (simp only; omega)))⟩⟩ rfl rfl hl.1 rfl (lv_room (Nat.le_of_ble_eq_true rfl)) dJx4a65c_remove_915e3_5 ⟨Nat.zero_le _, Nat.zero_le _⟩) hh_4.1 (fun q _ h => h) (fun q h => h) (fun r_6 u_5 t_5 H_5 locs_5 ht_5 hvm_5 hr_6 hb_5 hz_5 hk_5 hS_5 => ?_)
    rw [ht_5] at hb_5
    obtain ⟨hb_51, hb_52, hb_53, hb_54, hb_55⟩ := hb_5
    have hh_5 : jSt (dC, dI) B base G0 G0 EJx4a65c_remove_915e3L2 s.heap 0 0 [(r0, 1, 1, .ref lx_2), (r0, 1, 2, .int lz)] [] [([(222, 0)], jQc dC dI (ca 9) lx_2 lm_2 lf_2), ([(1, 0), (1, 1), (1, 2)], jOw (dC, dI) G0 1 r0 s.heap), (jFl, jLs dC dI ca G0 3 none)] H_5 locs_5 := ((hh_4.call hb_51 hb_52 hb_53 hb_54 hS_5 rfl (L1 := [(r0, 1, 1, .ref lx_2), (r0, 1, 2, .int lz)]) [0, 1] rfl rfl (M1 := []) [] rfl rfl (I1 := [([(222, 0)], jQc dC dI (ca 9) lx_2 lm_2 lf_2), ([(1, 0), (1, 1), (1, 2)], jOw (dC, dI) G0 1 r0 s.heap), (jFl, jLs dC dI ca G0 3 none)]) [0, 1, 2] rfl rfl).more hb_55)
    clear hh_4 ht_5 hvm_5 hz_5 hk_5 hS_5 hb_51 hb_52 hb_53 hb_54 hb_55
    refine lv_pop hx hb dJx4a65c_remove_915e3_8 rfl ?_
    refine lv_aload_n hx hb dJx4a65c_remove_915e3_9 rfl (lv_at hl 0 rfl) ?_
    refine j7_read hx hb hown hK (C := RJx4a65c) (T := TJx4a65c) (N := 3) rfl hly_1_1 hlk_9 (hh_5.at 0 rfl) dJx4a65c_remove_915e3_10 ?_
    refine lv_astore_n (lv' := [(2, .ref lx_2), (0, .ref r0), (1, .int a1)]) hx hb dJx4a65c_remove_915e3_13 rfl hl (by decide) rfl (fun ls hl => ?_)
    refine lv_aload_n hx hb dJx4a65c_remove_915e3_14 rfl (lv_at hl 0 rfl) ?_
    refine lv_iload_n hx hb dJx4a65c_remove_915e3_15 rfl (lv_at hl 2 rfl) ?_
    refine j7_qaldI hx hb hK7.1 hh_5 hB222 0 rfl (by decide) hg_lx_2 (x := a1.toInt) (rfl) (by omega) (hh_5.iv 0 rfl) dJx4a65c_remove_915e3_16 (fun o_7 ho_7 heo_7 => ?_)
    rcases ho_7 with rfl | ⟨el_8, rfl, hg_el_8⟩
    · simp only [va_rf]
      exact absurd heo_7.symm (hl8_2 _ (by omega))
    · simp only [va_rf]
      refine lv_astore_n (lv' := [(3, .ref el_8), (2, .ref lx_2), (0, .ref r0), (1, .int a1)]) hx hb dJx4a65c_remove_915e3_17 rfl hl (by decide) rfl (fun ls hl => ?_)
      refine lv_aload_n hx hb dJx4a65c_remove_915e3_18 rfl (lv_at hl 2 rfl) ?_
      refine lv_aload_n hx hb dJx4a65c_remove_915e3_19 rfl (lv_at hl 1 rfl) ?_
      refine lv_iload_n hx hb dJx4a65c_remove_915e3_20 rfl (lv_at hl 3 rfl) ?_
      refine va_callv (A0 := jA base) (H0 := s.heap) (va_runV (As := [.ref lx_2, .int a1]) (rest := []) ⟨hx, hb, hml, hown, hts⟩ (uJx4a65c_fastRemove_b59b0L2 l dC dI ca base B hB hAp hB1 hB10 hB222 G0 H_5 r0 lx_2 a1 lm_2 lz) (cwV 2 hts (jgV (jWr_42 _ (List.mem_of_getElem? (i := 11) rfl)) (jWr_42 _ (List.mem_of_getElem? (i := 12) rfl)) (jWr_42 _ (List.mem_of_getElem? (i := 13) rfl)) (jWr_2 _ (List.mem_of_getElem? (i := 13) rfl)) (jWr_42 _ (List.mem_of_getElem? (i := 14) rfl))) rfl rfl rfl (by decide +kernel) ⟨by rw [← hR]; exact Nat.le_of_ble_eq_true rfl, by rw [← hR]; exact Nat.le_of_ble_eq_true rfl⟩) ⟨fun a U g mk q => by obtain ⟨q0, q1, q2, qK, q10, q11, q12, q13, q14, q15⟩ := q; exact ⟨q0, q1, q2, jG.calling g mk a qK, (jK7.calling g mk a q10), q11, q12, q13, q14, q15⟩, hh_5.recv (C := RJx4a65c) (T := TJx4a65c) (N := 3) hB1 rfl (by decide) hg_r0 hK, fun U hU hW => ⟨rfl, hU, hh_5.2.1, hG.step hW hU hh_5.1, (hK7.step hW hU hh_5.1), hg_r0, hg_lx_2, (hh_5.2.2.1.sub (L1 := [(r0, 1, 1, .ref lx_2), (r0, 1, 2, .int lz)]) [0, 1] rfl), (hh_5.2.2.2.2.2.2.2.2.sub (L1 := [(jFl, jLs dC dI ca G0 3 none)]) [2] rfl), by first | omega | (refine ⟨?_, ?_⟩ <;> (first | omega | rfl | assumption | decide | exact Or.inl rfl | exact Or.inr rfl | (simp only; omega)))⟩⟩ rfl rfl hl.1 rfl (lv_room (Nat.le_of_ble_eq_true rfl)) dJx4a65c_remove_915e3_21 ⟨Nat.zero_le _, Nat.zero_le _⟩) hh_5.1 (fun q _ h => h) (fun q h => h) (fun u_9 t_9 H_9 locs_9 ht_9 hvm_9 hr_10 hb_9 hz_9 hk_9 hS_9 => ?_)
      obtain ⟨qz_9, rfl⟩ : ∃ z, z = u_9 := ⟨_, rfl⟩
      rw [ht_9] at hb_9
      obtain ⟨hb_9, hbE_9⟩ := hb_9
      obtain ⟨hb_9, hbO_9⟩ := hb_9
      obtain ⟨hb_91, hb_92, hb_93, hb_94, hb_95⟩ := hb_9
      have hh_9 : jSt (dC, dI) B base G0 G0 EJx4a65c_remove_915e3L2 s.heap 0 0 [(r0, 1, 2, .int qz_9), (r0, 1, 1, .ref lx_2)] [] [(jFl, jLs dC dI ca G0 3 none)] H_9 locs_9 := (((hh_5.call hb_91 hb_92 hb_93 hb_94 hS_9 rfl (L1 := [(r0, 1, 1, .ref lx_2)]) [0] rfl rfl (M1 := []) [] rfl rfl (I1 := []) [] rfl rfl).more hb_95)).addIs hbE_9
      have hd_11 := jOw.tr (hh_5.iv 1 rfl) hh_5.2.2.2.2.1 hbO_9
      have hh_12 := hh_9.addI (jOw.ie (dC := dC) (dI := dI) (G0 := G0) (k := 1) (r := r0) (H0 := s.heap) (F := [(1, 0), (1, 1), (1, 2)]) (C := RJx4a65c) (T := TJx4a65c) (N := 3) rfl (by decide) hh_9.2.2.2.2.1 (hd_11))
      clear hh_9
      clear hh_5 ht_9 hvm_9 hz_9 hk_9 hS_9 hb_91 hb_92 hb_93 hb_94 hb_95
      clear  hbE_9
      refine lv_aload_n hx hb dJx4a65c_remove_915e3_24 rfl (lv_at hl 0 rfl) ?_
      rw [hQ]
      exact W.aret (v := .ref el_8) hx hb hr (Or.inl ⟨_, rfl⟩) (Or.inr ⟨_, rfl⟩) (fun t ht hW => ⟨⟨.ref el_8, qz_9, rfl, ⟨⟨_, rfl, hg_el_8⟩, by first | omega | rfl | assumption | decide | exact Or.inl rfl | exact Or.inr rfl | (simp only; omega)⟩, ⟨⟨hh_12.rt (M1 := [(r0, 1, 2, .int qz_9)]) [0] rfl ht, by rw [ht]; exact hh_12.iv 0 rfl⟩, by rw [ht]; exact hh_12.2.2.2.2.2.2.2.2.sub (L1 := [(jFl, jLs dC dI ca G0 3 none)]) [1] rfl⟩⟩, by rw [ht]; try exact hh_12.1.1, fun q h9 hq => by rw [ht]; try exact hh_12.1.2.1 q h9 hq⟩) hh_12.1.2.2 dJx4a65c_remove_915e3_25
end
section
theorem dX11_dismiss_0 : decode cX11_dismiss 0 = .ok (.iconst 0, 1) := by decide +kernel
theorem dX11_dismiss_1 : decode cX11_dismiss 1 = .ok (.istore_n 2, 1) := by decide +kernel
theorem dX11_dismiss_2 : decode cX11_dismiss 2 = .ok (.iconst 0, 1) := by decide +kernel
theorem dX11_dismiss_3 : decode cX11_dismiss 3 = .ok (.istore_n 3, 1) := by decide +kernel
theorem dX11_dismiss_4 : decode cX11_dismiss 4 = .ok (.iload_n 3, 1) := by decide +kernel
theorem dX11_dismiss_5 : decode cX11_dismiss 5 = .ok (.bipush 12, 2) := by decide +kernel
theorem dX11_dismiss_7 : decode cX11_dismiss 7 = .ok (.if_icmp .ge 68, 3) := by decide +kernel
theorem dX11_dismiss_10 : decode cX11_dismiss 10 = .ok (.iload_n 2, 1) := by decide +kernel
theorem dX11_dismiss_11 : decode cX11_dismiss 11 = .ok (.aload_n 0, 1) := by decide +kernel
theorem dX11_dismiss_12 : decode cX11_dismiss 12 = .ok (.getfield 65, 3) := by decide +kernel
theorem dX11_dismiss_15 : decode cX11_dismiss 15 = .ok (.invokeinterface 142 1, 5) := by decide +kernel
theorem dX11_dismiss_20 : decode cX11_dismiss 20 = .ok (.if_icmp .ge 55, 3) := by decide +kernel
theorem dX11_dismiss_23 : decode cX11_dismiss 23 = .ok (.aload_n 0, 1) := by decide +kernel
theorem dX11_dismiss_24 : decode cX11_dismiss 24 = .ok (.getfield 65, 3) := by decide +kernel
theorem dX11_dismiss_27 : decode cX11_dismiss 27 = .ok (.iload_n 2, 1) := by decide +kernel
theorem dX11_dismiss_28 : decode cX11_dismiss 28 = .ok (.invokeinterface 249 2, 5) := by decide +kernel
theorem dX11_dismiss_33 : decode cX11_dismiss 33 = .ok (.checkcast 115, 3) := by decide +kernel
theorem dX11_dismiss_36 : decode cX11_dismiss 36 = .ok (.getfield 432, 3) := by decide +kernel
theorem dX11_dismiss_39 : decode cX11_dismiss 39 = .ok (.aload_n 1, 1) := by decide +kernel
theorem dX11_dismiss_40 : decode cX11_dismiss 40 = .ok (.if_acmp .ne 26, 3) := by decide +kernel
theorem dX11_dismiss_43 : decode cX11_dismiss 43 = .ok (.aload_n 0, 1) := by decide +kernel
theorem dX11_dismiss_44 : decode cX11_dismiss 44 = .ok (.aload_n 0, 1) := by decide +kernel
theorem dX11_dismiss_45 : decode cX11_dismiss 45 = .ok (.getfield 65, 3) := by decide +kernel
theorem dX11_dismiss_48 : decode cX11_dismiss 48 = .ok (.iload_n 2, 1) := by decide +kernel
theorem dX11_dismiss_49 : decode cX11_dismiss 49 = .ok (.invokeinterface 423 2, 5) := by decide +kernel
theorem dX11_dismiss_54 : decode cX11_dismiss 54 = .ok (.checkcast 115, 3) := by decide +kernel
theorem dX11_dismiss_57 : decode cX11_dismiss 57 = .ok (.ldc_w 459, 3) := by decide +kernel
theorem dX11_dismiss_60 : decode cX11_dismiss 60 = .ok (.invokevirtual 267, 3) := by decide +kernel
theorem dX11_dismiss_63 : decode cX11_dismiss 63 = .ok (.goto 6, 3) := by decide +kernel
theorem dX11_dismiss_66 : decode cX11_dismiss 66 = .ok (.iinc 2 1, 3) := by decide +kernel
theorem dX11_dismiss_69 : decode cX11_dismiss 69 = .ok (.iinc 3 1, 3) := by decide +kernel
theorem dX11_dismiss_72 : decode cX11_dismiss 72 = .ok (.goto (-68), 3) := by decide +kernel
theorem dX11_dismiss_75 : decode cX11_dismiss 75 = .ok (.return_, 1) := by decide +kernel
def EX11_dismiss : List (Nat × Nat) := [(1, 0), (1, 2), (2, 0), (2, 1), (13, 14), (196, 0), (221, 0), (222, 0), (223, 0)]
set_option maxHeartbeats 4000000 in
set_option maxRecDepth 20000 in
theorem uX11_dismiss (l : Launch) (dC : Nat → ClassId) (dI : Nat → Nat → Nat) (ca : Nat → ClassId) (base : Nat) (B : jF) (hB : jBok B) (hAp : jAp (dC, dI)) (hB1 : ∀ n G a H, B 1 n G a H ↔ jOb (dC, dI) 1 3 (F1 n G) a H) (hB2 : ∀ n G a H, B 2 n G a H ↔ jOb (dC, dI) 2 2 (F2 n G) a H) (hB3 : ∀ n G a H, B 3 n G a H ↔ jOb (dC, dI) 3 17 (F3 n G) a H) (hB4 : ∀ n G a H, B 4 n G a H ↔ jOb (dC, dI) 4 12 (F4 n G) a H) (hB10 : ∀ n G a H, B 10 n G a H ↔ jOb (dC, dI) 10 5 (F10 n G) a H) (hB13 : ∀ n G a H, B 13 n G a H ↔ jOb (dC, dI) 13 19 (F13 n G) a H) (hB196 : ∀ n G a H, B 196 n G a H ↔ jAr (dC, dI) (ca 0) (fun j z => jBf j z) n a H) (hB222 : ∀ n G a H, B 222 n G a H ↔ jAq (dC, dI) (ca 9) (jQn 10 0) n G a H) (G0 : jT) (H0 : Heap) (r0 : Nat) (r1 : Nat) (bo : Nat) (pc : Int32) (pa : Nat) (n_pa : Nat) (ou : Nat) (op : Nat) (sz : Int32) (LC LS : Nat) : Met l yX11_dismiss (jw yX11_dismiss cX11_dismiss 4 none) ({ frames := 7, cells := LC - H0.size, slots := LS - jTot H0, locals := 207 }) (va_Pc [.ref r0, .ref r1] (fun U => U.heap = H0 ∧ jX B base G0 [] H0 ∧ jG dC dI ca base U ∧ jK5 dC dI ca U ∧ jK7 dC dI ca base U ∧ G0 r0 = some (13, 0) ∧ G0 r1 = some (3, 0) ∧ G0 bo = some (2, 0) ∧ G0 pa = some (196, n_pa) ∧ G0 ou = some (2, 20000) ∧ G0 op = some (1, 1) ∧ jP (dC, dI) G0 H0 [(r0, 13, 4, .ref bo), (bo, 2, 1, .int pc), (bo, 2, 0, .ref pa), (r0, 13, 3, .ref ou), (r0, 13, 7, .ref op), (op, 1, 2, .int sz)] ∧ jIs (dC, dI) G0 H0 [(jFy, jYb dC dI G0), (jFl, jLs dC dI ca G0 3 none)] ∧ H0.size + (1048576 - n_pa) / 16 + 1 ≤ LC ∧ jTot H0 + 2 * (1048576 - n_pa) ≤ LS ∧ 0 ≤ pc.toInt ∧ pc.toInt ≤ n_pa ∧ 16 ≤ n_pa ∧ n_pa ≤ 1048576 ∧ jPw n_pa)) (va_Qv (S := Int32 × Int32 × Nat × Nat × jT) (fun u => 0 ≤ u.1.toInt ∧ u.1.toInt ≤ u.2.2.2.1 ∧ n_pa ≤ u.2.2.2.1 ∧ u.2.2.2.1 ≤ 1048576 ∧ jPw u.2.2.2.1 ∧ u.2.1.toInt = sz.toInt) (fun u t => jRa (dC, dI) B base G0 u.2.2.2.2 EX11_dismiss H0 ((u.2.2.2.1 - n_pa) / 16) (2 * (u.2.2.2.1 - n_pa)) [(bo, 2, 1, .int u.1), (op, 1, 2, .int u.2.1), (bo, 2, 0, .ref u.2.2.1)] t.heap ∧ u.2.2.2.2 u.2.2.1 = some (196, u.2.2.2.1) ∧ (jNk [0, 1, 2, 3, 4, 5, 6, 7, 8, 9, 10, 11, 12, 13, 14, 15, 16]) G0 u.2.2.2.2 ∧ jOl (dC, dI) G0 2 [bo, ou] H0 t.heap ∧ jIs (dC, dI) u.2.2.2.2 t.heap [(jFy, jYb dC dI u.2.2.2.2), (jFl, jLs dC dI ca u.2.2.2.2 3 none)]) (jA base)) (LC - H0.size) (LS - jTot H0) (jA base) := by
  refine Met.ofW (cc := cX11_dismiss) (maxL := 4) (ret := none) (by decide) rfl ?_
  intro p e s m args below meth c s₁ Bd hml hv
  obtain ⟨rfl, hH0, hX, hG, hK5, hK7, hg_r0, hg_r1, hg_bo, hg_pa, hg_ou, hg_op, hP0, hI0, hLC0, hLS0, hp0, hp1, hp2, hp3, hp4⟩ := hv
  have hK := hG.1
  have hx := Bd.exec
  have hb := Bd.bytes
  have hr := Bd.returns
  have hts := atoms_spec (ws := (jw yX11_dismiss cX11_dismiss 4 none)) Bd.pre
  have htw : ∀ w ∈ jWl, w.before _ s = true := fun w h => hts w (List.mem_cons_of_mem _ h)
  have hown : s.vm.findClass RX11 = some m.cls := findClass_of_methodNamed Bd.named
  have hlocks := Bd.notSynchronized
  obtain ⟨Q, hQ⟩ : ∃ Q, Q = MQ below (va_Qv (S := Int32 × Int32 × Nat × Nat × jT) (fun u => 0 ≤ u.1.toInt ∧ u.1.toInt ≤ u.2.2.2.1 ∧ n_pa ≤ u.2.2.2.1 ∧ u.2.2.2.1 ≤ 1048576 ∧ jPw u.2.2.2.1 ∧ u.2.1.toInt = sz.toInt) (fun u t => jRa (dC, dI) B base G0 u.2.2.2.2 EX11_dismiss H0 ((u.2.2.2.1 - n_pa) / 16) (2 * (u.2.2.2.1 - n_pa)) [(bo, 2, 1, .int u.1), (op, 1, 2, .int u.2.1), (bo, 2, 0, .ref u.2.2.1)] t.heap ∧ u.2.2.2.2 u.2.2.1 = some (196, u.2.2.2.1) ∧ (jNk [0, 1, 2, 3, 4, 5, 6, 7, 8, 9, 10, 11, 12, 13, 14, 15, 16]) G0 u.2.2.2.2 ∧ jOl (dC, dI) G0 2 [bo, ou] H0 t.heap ∧ jIs (dC, dI) u.2.2.2.2 t.heap [(jFy, jYb dC dI u.2.2.2.2), (jFl, jLs dC dI ca u.2.2.2.2 3 none)]) (jA base)) ([.ref r0, .ref r1] : List Value).toArray s (LC - H0.size) (LS - jTot H0) (jA base) := ⟨_, rfl⟩
  rw [← hQ]
  have hl := lv_entry ([.ref r0, .ref r1]) (n := 4) (Nat.le_of_ble_eq_true rfl)
  rw [lg_entry_eq]
  generalize (lg_sl ([.ref r0, .ref r1]) ++ List.replicate (4 - (lg_sl ([.ref r0, .ref r1])).length) Slot.unset).toArray = ls at hl ⊢
  have hl : lv_has ls 4 [(0, .ref r0), (1, .ref r1)] := hl
  generalize hR : (headSpec (jw yX11_dismiss cX11_dismiss 4 none) ({ frames := 7, cells := LC - H0.size, slots := LS - jTot H0, locals := 207 })).room = R
  subst hH0
  have hh : jSt (dC, dI) B base G0 G0 EX11_dismiss s.heap 0 0 [(r0, 13, 4, .ref bo), (bo, 2, 1, .int pc), (bo, 2, 0, .ref pa), (r0, 13, 3, .ref ou), (r0, 13, 7, .ref op), (op, 1, 2, .int sz)] [] [(jFy, jYb dC dI G0), (jFl, jLs dC dI ca G0 3 none)] s.heap [] := jSt.start hX hP0 jMc.nil hI0
  clear hX hP0
  have hkm32801 : ((-32801) : Int32).toInt = (-32801) := by decide
  have hk0 : (0 : Int32).toInt = 0 := by decide
  have hk1 : (1 : Int32).toInt = 1 := by decide
  have hk12 : (12 : Int32).toInt = 12 := by decide
  have hly_10_1 := htw (u_lay RX8 TX8 1) (jWc_wsX80 _ (u_in_lay (by decide)))
  have hly_13_8 := htw (u_lay RX11 TX11 8) (jWc_wsX110 _ (u_in_lay (by decide)))
  have hlk_65 := (htw (.fieldLink RX11 65 "ProofServer" "waiting" "Ljava/util/List;") (jWr_2 _ (List.mem_of_getElem? (i := 15) rfl)))
  have hlk_432 := (htw (.fieldLink RX11 432 "ProofServer$Request" "about" "LProofServer$Document;") (jWr_27 _ (List.mem_of_getElem? (i := 14) rfl)))
  have hcs_459 := htw (.constant RX11 459 (-32801)) (jWr_42 _ (List.mem_of_getElem? (i := 6) rfl))
  have hbs : base ≤ s.heap.size := Nat.le_of_lt (Nat.lt_of_le_of_lt (hh.ab hg_r0).1 (hh.ab hg_r0).2)
  have hRc : R.cells = LC - s.heap.size := by rw [← hR]; rfl
  have hRs : R.slots = LS - jTot s.heap := by rw [← hR]; rfl
  have hh_1 := hh.addI (jOl.ie (dC := dC) (dI := dI) (G0 := G0) (k := 2) (rs := [bo, ou]) (H0 := s.heap) (F := [(2, 0), (2, 1)]) (C := RX0) (T := TX0) (N := 2) rfl (by decide) hh.2.2.2.2.1 (jOl.rf))
  clear hh
  refine lv_iconst (v := 0) hx hb dX11_dismiss_0 (by decide) ?_
  refine lv_istore_n (lv' := [(2, .int 0), (0, .ref r0), (1, .ref r1)]) hx hb dX11_dismiss_1 rfl hl (by decide) rfl (fun ls hl => ?_)
  refine lv_iconst (v := 0) hx hb dX11_dismiss_2 (by decide) ?_
  refine lv_istore_n (lv' := [(3, .int 0), (2, .int 0), (0, .ref r0), (1, .ref r1)]) hx hb dX11_dismiss_3 rfl hl (by decide) rfl (fun ls hl => ?_)
  have L4 : ∀ (N : Nat) (Gx_2 : jT) (zcx_2 : Nat) (zsx_2 : Nat) (v2_2 : Int32) (v3_2 : Int32) (wc_2 : Int32) (wr_2 : Nat) (m_wr_2 : Nat) (wz_2 : Int32) (H_2 : Heap) (locs_2 : List Loc), jSt (dC, dI) B base G0 Gx_2 EX11_dismiss s.heap zcx_2 zsx_2 [(bo, 2, 1, .int wc_2), (bo, 2, 0, .ref wr_2), (op, 1, 2, .int wz_2), (r0, 13, 4, .ref bo), (r0, 13, 3, .ref ou), (r0, 13, 7, .ref op)] [] [([(2, 0), (2, 1)], jOl (dC, dI) G0 2 [bo, ou] s.heap), (jFy, jYb dC dI Gx_2), (jFl, jLs dC dI ca Gx_2 3 none)] H_2 locs_2 → (jNk [0, 1, 2, 3, 4, 5, 6, 7, 8, 9, 10, 11, 12, 13, 14, 15, 16]) G0 Gx_2 → jLe G0 Gx_2 → Gx_2 wr_2 = some (196, m_wr_2) → (0 ≤ wc_2.toInt ∧ wc_2.toInt ≤ m_wr_2 ∧ n_pa ≤ m_wr_2 ∧ m_wr_2 ≤ 1048576 ∧ jPw m_wr_2 ∧ zcx_2 ≤ (m_wr_2 - n_pa) / 16 ∧ zsx_2 ≤ 2 * (m_wr_2 - n_pa) ∧ wz_2.toInt = sz.toInt ∧ 0 ≤ v2_2.toInt ∧ v2_2.toInt ≤ v3_2.toInt ∧ v3_2.toInt ≤ 12) → (12 - v3_2.toInt : Int) < N → ∀ ls : Array Slot, lv_has ls 4 [(0, .ref r0), (1, .ref r1), (2, .int v2_2), (3, .int v3_2)] → W p l e R s m ([.ref r0, .ref r1] : List Value).toArray below meth c H_2 locs_2 zcx_2 zsx_2 Q (F0 m 4 ls []) := by
    intro N
    induction N with
    | zero => intro Gx_2 zcx_2 zsx_2 v2_2 v3_2 wc_2 wr_2 m_wr_2 wz_2 H_2 locs_2 hh_2 hN_2 hle_2 hg_wr_2 hi_2 hm; exact absurd hm (by omega)
    | succ N L4 =>
      intro Gx_2 zcx_2 zsx_2 v2_2 v3_2 wc_2 wr_2 m_wr_2 wz_2 H_2 locs_2 hh_2 hN_2 hle_2 hg_wr_2 hi_2 hm_2 ls hl
      have hg_3 := hle_2 _ _ hg_r0
      have hg_4 := hle_2 _ _ hg_r1
      have hg_5 := hle_2 _ _ hg_bo
      have hg_6 := hle_2 _ _ hg_ou
      have hg_7 := hle_2 _ _ hg_op
      obtain ⟨hi_2_0, hi_2_1, hi_2_2, hi_2_3, hi_2_4, hi_2_5, hi_2_6, hi_2_7, hi_2_8, hi_2_9, hi_2_10⟩ := hi_2
      refine lv_iload_n hx hb dX11_dismiss_4 rfl (lv_at hl 3 rfl) ?_
      refine lv_bipush (v := 12) hx hb dX11_dismiss_5 (by decide) ?_
      refine lv_icmp_ge (tgt := 75) hx hb dX11_dismiss_7 (by decide) (fun c_8 => ?_) (fun c_8 => ?_)
      · skip
        have c_8' : v3_2.toInt ≥ 12 := jb_ge (rfl) ((by decide)) c_8
        have hsz_9 := hh_2.2.2.2.2.2.1
        have htt_9 := hh_2.2.2.2.2.2.2.1
        refine W.room (fun hrc_9 hrs_9 => ?_)
        refine W.widen (k := LC - s.heap.size) (n := LS - jTot s.heap) (by omega) (by omega) ?_
        rw [hQ]
        exact W.vret hx hb hr (fun t ht hW => ⟨⟨(wc_2, wz_2, wr_2, m_wr_2, Gx_2), rfl, by (try dsimp only); exact ⟨(by first | omega | rfl | assumption | fail), (by first | omega | rfl | assumption | fail), (by first | omega | rfl | assumption | fail), (by first | omega | rfl | assumption | fail), (by first | assumption | fail | omega), (by first | omega | rfl | assumption | fail)⟩, ⟨hh_2.ra (by first | omega | (simp only; omega)) (by first | omega | (simp only; omega)) (M1 := [(bo, 2, 1, .int wc_2), (op, 1, 2, .int wz_2), (bo, 2, 0, .ref wr_2)]) [0, 2, 1] rfl ht, hg_wr_2, hN_2, by rw [ht]; exact hh_2.iv 0 rfl, by rw [ht]; exact hh_2.2.2.2.2.2.2.2.2.sub (L1 := [(jFy, jYb dC dI Gx_2), (jFl, jLs dC dI ca Gx_2 3 none)]) [1, 2] rfl⟩⟩, by rw [ht]; try exact hh_2.1.1, fun q h9 hq => by rw [ht]; try exact hh_2.1.2.1 q h9 hq⟩) hh_2.1.2.2 dX11_dismiss_75
      · skip
        have c_8' : v3_2.toInt < 12 := jb_ge_n (rfl) ((by decide)) c_8
        refine lv_iload_n hx hb dX11_dismiss_10 rfl (lv_at hl 2 rfl) ?_
        refine lv_aload_n hx hb dX11_dismiss_11 rfl (lv_at hl 0 rfl) ?_
        obtain ⟨v_10, hv_10, hh_11⟩ := hh_2.pin (C := RX11) (T := TX11) (N := 19) hB13 rfl (by decide) hg_3 (i := 8) (by decide) rfl
        clear hh_2
        obtain ⟨waiting_12, rfl, hg_waiting_12⟩ := hv_10
        refine j7_read hx hb hown hK (C := RX11) (T := TX11) (N := 19) rfl hly_13_8 hlk_65 (hh_11.at 0 rfl) dX11_dismiss_12 ?_
        obtain ⟨v_15, hv_15, hh_16⟩ := hh_11.pin (C := RJx4a65c) (T := TJx4a65c) (N := 3) hB1 rfl (by decide) hg_waiting_12 (i := 2) (by decide) rfl
        obtain ⟨size_17, rfl, hlosize_17, hhisize_17⟩ := hv_15
        have hsz_13 := hh_16.2.2.2.2.2.1
        have htt_13 := hh_16.2.2.2.2.2.2.1
        refine W.room (fun hrc_13 hrs_13 => ?_)
        refine va_callFi (A0 := jA base) (H0 := s.heap) (va_runF (hK.1 1 _ rfl).2 (As := []) (rest := [.int v2_2]) ⟨hx, hb, hml, hown, hts⟩ (uJx4a65c_size_8abf5 l dC dI ca base B hB hAp hB1 Gx_2 H_2 waiting_12 2 size_17) (va_cwF 0 hts (jgF (jWr_27 _ (List.mem_of_getElem? (i := 22) rfl)) (jWr_27 _ (List.mem_of_getElem? (i := 23) rfl)) (jWr_28 _ (List.mem_of_getElem? (i := 0) rfl)) (jWr_2 _ (List.mem_of_getElem? (i := 13) rfl)) (jWr_28 _ (List.mem_of_getElem? (i := 1) rfl))) rfl rfl rfl hK7.2.2.2.2.2.1.1 ⟨by decide, by decide, by decide +kernel⟩ ⟨by rw [← hR]; exact Nat.le_of_ble_eq_true rfl, by rw [← hR]; exact Nat.le_of_ble_eq_true rfl⟩) ⟨fun a U g mk q => by obtain ⟨q0, q1, q2, qK, q10, q11, q12⟩ := q; exact ⟨q0, q1, q2, jG.calling g mk a qK, q10, q11, q12⟩, hh_16.recv (C := RJx4a65c) (T := TJx4a65c) (N := 3) hB1 rfl (by decide) hg_waiting_12 hK, fun U hU hW => ⟨rfl, hU, hh_16.2.1, hG.step hW hU hh_16.1, hg_waiting_12, (hh_16.2.2.1.sub (L1 := [(waiting_12, 1, 2, .int size_17)]) [0] rfl), trivial⟩⟩ rfl rfl hl.1 rfl (lv_room (Nat.le_of_ble_eq_true rfl)) dX11_dismiss_15 ⟨by rw [hRc]; show _ + 0 ≤ _; omega, by rw [hRs]; show _ + 0 ≤ _; omega⟩) hh_16.1 (fun q _ h => h) (fun q h => h) (fun r_14 u_13 t_13 H_13 locs_13 ht_13 hvm_13 hr_14 hb_13 hz_13 hk_13 hS_13 => ?_)
        rw [ht_13] at hb_13
        obtain ⟨hb_131, hb_132, hb_133, hb_134, hb_135⟩ := hb_13
        have hh_13 : jSt (dC, dI) B base G0 Gx_2 EX11_dismiss s.heap zcx_2 zsx_2 [(waiting_12, 1, 2, .int size_17), (r0, 13, 8, .ref waiting_12), (bo, 2, 1, .int wc_2), (bo, 2, 0, .ref wr_2), (op, 1, 2, .int wz_2), (r0, 13, 4, .ref bo), (r0, 13, 3, .ref ou), (r0, 13, 7, .ref op)] [] [([(2, 0), (2, 1)], jOl (dC, dI) G0 2 [bo, ou] s.heap), (jFy, jYb dC dI Gx_2), (jFl, jLs dC dI ca Gx_2 3 none)] H_13 locs_13 := ((hh_16.call hb_131 hb_132 hb_133 hb_134 hS_13 rfl (L1 := [(waiting_12, 1, 2, .int size_17), (r0, 13, 8, .ref waiting_12), (bo, 2, 1, .int wc_2), (bo, 2, 0, .ref wr_2), (op, 1, 2, .int wz_2), (r0, 13, 4, .ref bo), (r0, 13, 3, .ref ou), (r0, 13, 7, .ref op)]) [0, 1, 2, 3, 4, 5, 6, 7] rfl rfl (M1 := []) [] rfl rfl (I1 := [([(2, 0), (2, 1)], jOl (dC, dI) G0 2 [bo, ou] s.heap), (jFy, jYb dC dI Gx_2), (jFl, jLs dC dI ca Gx_2 3 none)]) [0, 1, 2] rfl rfl).more hb_135)
        clear hh_16 ht_13 hvm_13 hz_13 hk_13 hS_13 hb_131 hb_132 hb_133 hb_134 hb_135
        refine lv_icmp_ge (tgt := 75) hx hb dX11_dismiss_20 (by decide) (fun c_18 => ?_) (fun c_18 => ?_)
        · skip
          have c_18' : v2_2.toInt ≥ r_14.toInt := jb_ge (rfl) (rfl) c_18
          have hsz_19 := hh_13.2.2.2.2.2.1
          have htt_19 := hh_13.2.2.2.2.2.2.1
          refine W.room (fun hrc_19 hrs_19 => ?_)
          refine W.widen (k := LC - s.heap.size) (n := LS - jTot s.heap) (by omega) (by omega) ?_
          rw [hQ]
          exact W.vret hx hb hr (fun t ht hW => ⟨⟨(wc_2, wz_2, wr_2, m_wr_2, Gx_2), rfl, by (try dsimp only); exact ⟨(by first | omega | rfl | assumption | fail), (by first | omega | rfl | assumption | fail), (by first | omega | rfl | assumption | fail), (by first | omega | rfl | assumption | fail), (by first | assumption | fail | omega), (by first | omega | rfl | assumption | fail)⟩, ⟨hh_13.ra (by first | omega | (simp only; omega)) (by first | omega | (simp only; omega)) (M1 := [(bo, 2, 1, .int wc_2), (op, 1, 2, .int wz_2), (bo, 2, 0, .ref wr_2)]) [2, 4, 3] rfl ht, hg_wr_2, hN_2, by rw [ht]; exact hh_13.iv 0 rfl, by rw [ht]; exact hh_13.2.2.2.2.2.2.2.2.sub (L1 := [(jFy, jYb dC dI Gx_2), (jFl, jLs dC dI ca Gx_2 3 none)]) [1, 2] rfl⟩⟩, by rw [ht]; try exact hh_13.1.1, fun q h9 hq => by rw [ht]; try exact hh_13.1.2.1 q h9 hq⟩) hh_13.1.2.2 dX11_dismiss_75
        · skip
          have c_18' : v2_2.toInt < r_14.toInt := jb_ge_n (rfl) (rfl) c_18
          refine lv_aload_n hx hb dX11_dismiss_23 rfl (lv_at hl 0 rfl) ?_
          refine j7_read hx hb hown hK (C := RX11) (T := TX11) (N := 19) rfl hly_13_8 hlk_65 (hh_13.at 1 rfl) dX11_dismiss_24 ?_
          refine lv_iload_n hx hb dX11_dismiss_27 rfl (lv_at hl 2 rfl) ?_
          have hsz_20 := hh_13.2.2.2.2.2.1
          have htt_20 := hh_13.2.2.2.2.2.2.1
          refine W.room (fun hrc_20 hrs_20 => ?_)
          refine j_callFx (A0 := jA base) (H0 := s.heap) (va_runF (hK.1 1 _ rfl).2 (As := [.int v2_2]) (rest := []) ⟨hx, hb, hml, hown, hts⟩ (uJx4a65c_get_915e3L2 l dC dI ca base B hB hAp hB1 hB10 hB222 Gx_2 H_13 waiting_12 v2_2 size_17) (va_cwF 1 hts (jgF (jWr_28 _ (List.mem_of_getElem? (i := 3) rfl)) (jWr_28 _ (List.mem_of_getElem? (i := 4) rfl)) (jWr_28 _ (List.mem_of_getElem? (i := 5) rfl)) (jWr_2 _ (List.mem_of_getElem? (i := 13) rfl)) (jWr_28 _ (List.mem_of_getElem? (i := 6) rfl))) rfl rfl rfl hK7.2.2.2.2.2.1.2.1 ⟨by decide, by decide, by decide +kernel⟩ ⟨by rw [← hR]; exact Nat.le_of_ble_eq_true rfl, by rw [← hR]; exact Nat.le_of_ble_eq_true rfl⟩) ⟨fun a U g mk q => by obtain ⟨q0, q1, q2, qK, q10, q11, q12, q13, q14⟩ := q; exact ⟨q0, q1, q2, jG.calling g mk a qK, (jK7.calling g mk a q10), q11, q12, q13, q14⟩, hh_13.recv (C := RJx4a65c) (T := TJx4a65c) (N := 3) hB1 rfl (by decide) hg_waiting_12 hK, fun U hU hW => ⟨rfl, hU, hh_13.2.1, hG.step hW hU hh_13.1, (hK7.step hW hU hh_13.1), hg_waiting_12, (hh_13.2.2.1.sub (L1 := [(waiting_12, 1, 2, .int size_17)]) [0] rfl), (hh_13.2.2.2.2.2.2.2.2.sub (L1 := [(jFl, jLs dC dI ca Gx_2 3 none)]) [2] rfl), ⟨(by first | omega | rfl | assumption | fail), (by first | omega | rfl | assumption | fail)⟩⟩⟩ rfl rfl hl.1 rfl (lv_room (Nat.le_of_ble_eq_true rfl)) dX11_dismiss_28 ⟨by rw [hRc]; show _ + 0 ≤ _; omega, by rw [hRs]; show _ + 0 ≤ _; omega⟩) hh_13.1 (fun q _ h => h) (fun q h => h) (fun r_21 u_20 t_20 H_20 locs_20 ht_20 hvm_20 hr_21 hb_20 hz_20 hk_20 hS_20 => ?_)
          rw [ht_20] at hb_20
          obtain ⟨hb_20, hbE_20⟩ := hb_20
          obtain ⟨hb_201, hb_202, hb_203, hb_204, hb_205⟩ := hb_20
          have hh_20 : jSt (dC, dI) B base G0 Gx_2 EX11_dismiss s.heap zcx_2 zsx_2 [(waiting_12, 1, 2, .int size_17), (r0, 13, 8, .ref waiting_12), (bo, 2, 1, .int wc_2), (bo, 2, 0, .ref wr_2), (op, 1, 2, .int wz_2), (r0, 13, 4, .ref bo), (r0, 13, 3, .ref ou), (r0, 13, 7, .ref op)] [] [(jFl, jLs dC dI ca Gx_2 3 none), ([(2, 0), (2, 1)], jOl (dC, dI) G0 2 [bo, ou] s.heap), (jFy, jYb dC dI Gx_2)] H_20 locs_20 := (((hh_13.call hb_201 hb_202 hb_203 hb_204 hS_20 rfl (L1 := [(waiting_12, 1, 2, .int size_17), (r0, 13, 8, .ref waiting_12), (bo, 2, 1, .int wc_2), (bo, 2, 0, .ref wr_2), (op, 1, 2, .int wz_2), (r0, 13, 4, .ref bo), (r0, 13, 3, .ref ou), (r0, 13, 7, .ref op)]) [0, 1, 2, 3, 4, 5, 6, 7] rfl rfl (M1 := []) [] rfl rfl (I1 := [([(2, 0), (2, 1)], jOl (dC, dI) G0 2 [bo, ou] s.heap), (jFy, jYb dC dI Gx_2)]) [0, 1] rfl rfl).more hb_205)).addIs hbE_20
          clear hh_13 ht_20 hvm_20 hz_20 hk_20 hS_20 hb_201 hb_202 hb_203 hb_204 hb_205
          clear  hbE_20
          obtain ⟨ret_22, rfl, hg_ret_22⟩ := hr_21
          refine va_castY hx hb hown (htw (.classLink RX11 115 "ProofServer$Request") (jWr_42 _ (List.mem_of_getElem? (i := 5) rfl))) hK7.2.2.1.2.1.2 (hh_20.recv (C := RX8) (T := TX8) (N := 5) hB10 rfl (by decide) hg_ret_22 hK) dX11_dismiss_33 ?_
          obtain ⟨v_23, hv_23, hh_24⟩ := hh_20.pin (C := RX8) (T := TX8) (N := 5) hB10 rfl (by decide) hg_ret_22 (i := 1) (by decide) rfl
          clear hh_20
          rcases hv_23 with rfl | ⟨about_25, rfl, hg_about_25⟩
          · refine j7_read hx hb hown hK (C := RX8) (T := TX8) (N := 5) rfl hly_10_1 hlk_432 (hh_24.at 0 rfl) dX11_dismiss_36 ?_
            refine lv_aload_n hx hb dX11_dismiss_39 rfl (lv_at hl 1 rfl) ?_
            refine lv_acmp_ne (rx := none) (ry := (some r1)) (tgt := 66) hx hb dX11_dismiss_40 (by decide) (fun c_26 => ?_) (fun c_26 => ?_)
            · skip
              obtain ⟨z_27, ez_27⟩ : ∃ y : Int32, y = v2_2 + 1 := ⟨_, rfl⟩
              refine lv_iinc (v := z_27) (lv' := [(2, .int z_27), (0, .ref r0), (1, .ref r1), (3, .int v3_2)]) hx hb dX11_dismiss_66 hl (k := 2) rfl (by rw [ez_27]; rfl) (by decide) rfl (fun ls hl => ?_)
              have hz_27 : z_27.toInt = v2_2.toInt + 1 := by rw [ez_27]; exact jb_iadd2 (rfl) (by decide) (by omega)
              obtain ⟨z_28, ez_28⟩ : ∃ y : Int32, y = v3_2 + 1 := ⟨_, rfl⟩
              refine lv_iinc (v := z_28) (lv' := [(3, .int z_28), (2, .int z_27), (0, .ref r0), (1, .ref r1)]) hx hb dX11_dismiss_69 hl (k := 3) rfl (by rw [ez_28]; rfl) (by decide) rfl (fun ls hl => ?_)
              have hz_28 : z_28.toInt = v3_2.toInt + 1 := by rw [ez_28]; exact jb_iadd2 (rfl) (by decide) (by omega)
              refine lv_goto (tgt := 4) hx hb dX11_dismiss_72 (by decide) ?_
              refine W.tight (c2 := zcx_2) (n2 := zsx_2) hh_24.2.2.2.2.2.1 hh_24.2.2.2.2.2.2.1 ?_
              exact L4 Gx_2 zcx_2 zsx_2 z_27 z_28 wc_2 wr_2 m_wr_2 wz_2 _ _ (hh_24.sub (L1 := [(bo, 2, 1, .int wc_2), (bo, 2, 0, .ref wr_2), (op, 1, 2, .int wz_2), (r0, 13, 4, .ref bo), (r0, 13, 3, .ref ou), (r0, 13, 7, .ref op)]) [3, 4, 5, 6, 7, 8] rfl (M1 := []) [] rfl (I1 := [([(2, 0), (2, 1)], jOl (dC, dI) G0 2 [bo, ou] s.heap), (jFy, jYb dC dI Gx_2), (jFl, jLs dC dI ca Gx_2 3 none)]) [1, 2, 0] rfl) (hN_2) (hle_2) hg_wr_2 (⟨(by first | omega | rfl | assumption | fail), (by first | omega | rfl | assumption | fail), (by first | omega | rfl | assumption | fail), (by first | omega | rfl | assumption | fail), (by first | assumption | fail | omega), (by first | omega | rfl | assumption | fail), (by first | omega | rfl | assumption | fail), (by first | omega | rfl | assumption | fail), (by first | omega | rfl | assumption | fail), (by first | omega | rfl | assumption | fail), (by first | omega | rfl | assumption | fail)⟩) (by omega) _ (lv_sub hl [2, 3, 1, 0] rfl)
            · skip
              cases c_26
          · refine j7_read hx hb hown hK (C := RX8) (T := TX8) (N := 5) rfl hly_10_1 hlk_432 (hh_24.at 0 rfl) dX11_dismiss_36 ?_
            refine lv_aload_n hx hb dX11_dismiss_39 rfl (lv_at hl 1 rfl) ?_
            refine lv_acmp_ne (rx := (some about_25)) (ry := (some r1)) (tgt := 66) hx hb dX11_dismiss_40 (by decide) (fun c_29 => ?_) (fun c_29 => ?_)
            · skip
              obtain ⟨z_30, ez_30⟩ : ∃ y : Int32, y = v2_2 + 1 := ⟨_, rfl⟩
              refine lv_iinc (v := z_30) (lv' := [(2, .int z_30), (0, .ref r0), (1, .ref r1), (3, .int v3_2)]) hx hb dX11_dismiss_66 hl (k := 2) rfl (by rw [ez_30]; rfl) (by decide) rfl (fun ls hl => ?_)
              have hz_30 : z_30.toInt = v2_2.toInt + 1 := by rw [ez_30]; exact jb_iadd2 (rfl) (by decide) (by omega)
              obtain ⟨z_31, ez_31⟩ : ∃ y : Int32, y = v3_2 + 1 := ⟨_, rfl⟩
              refine lv_iinc (v := z_31) (lv' := [(3, .int z_31), (2, .int z_30), (0, .ref r0), (1, .ref r1)]) hx hb dX11_dismiss_69 hl (k := 3) rfl (by rw [ez_31]; rfl) (by decide) rfl (fun ls hl => ?_)
              have hz_31 : z_31.toInt = v3_2.toInt + 1 := by rw [ez_31]; exact jb_iadd2 (rfl) (by decide) (by omega)
              refine lv_goto (tgt := 4) hx hb dX11_dismiss_72 (by decide) ?_
              refine W.tight (c2 := zcx_2) (n2 := zsx_2) hh_24.2.2.2.2.2.1 hh_24.2.2.2.2.2.2.1 ?_
              exact L4 Gx_2 zcx_2 zsx_2 z_30 z_31 wc_2 wr_2 m_wr_2 wz_2 _ _ (hh_24.sub (L1 := [(bo, 2, 1, .int wc_2), (bo, 2, 0, .ref wr_2), (op, 1, 2, .int wz_2), (r0, 13, 4, .ref bo), (r0, 13, 3, .ref ou), (r0, 13, 7, .ref op)]) [3, 4, 5, 6, 7, 8] rfl (M1 := []) [] rfl (I1 := [([(2, 0), (2, 1)], jOl (dC, dI) G0 2 [bo, ou] s.heap), (jFy, jYb dC dI Gx_2), (jFl, jLs dC dI ca Gx_2 3 none)]) [1, 2, 0] rfl) (hN_2) (hle_2) hg_wr_2 (⟨(by first | omega | rfl | assumption | fail), (by first | omega | rfl | assumption | fail), (by first | omega | rfl | assumption | fail), (by first | omega | rfl | assumption | fail), (by first | assumption | fail | omega), (by first | omega | rfl | assumption | fail), (by first | omega | rfl | assumption | fail), (by first | omega | rfl | assumption | fail), (by first | omega | rfl | assumption | fail), (by first | omega | rfl | assumption | fail), (by first | omega | rfl | assumption | fail)⟩) (by omega) _ (lv_sub hl [2, 3, 1, 0] rfl)
            · skip
              refine lv_aload_n hx hb dX11_dismiss_43 rfl (lv_at hl 0 rfl) ?_
              refine lv_aload_n hx hb dX11_dismiss_44 rfl (lv_at hl 0 rfl) ?_
              refine j7_read hx hb hown hK (C := RX11) (T := TX11) (N := 19) rfl hly_13_8 hlk_65 (hh_24.at 2 rfl) dX11_dismiss_45 ?_
              refine lv_iload_n hx hb dX11_dismiss_48 rfl (lv_at hl 2 rfl) ?_
              have hsz_32 := hh_24.2.2.2.2.2.1
              have htt_32 := hh_24.2.2.2.2.2.2.1
              refine W.room (fun hrc_32 hrs_32 => ?_)
              refine j_callFx (A0 := jA base) (H0 := s.heap) (va_runF (hK.1 1 _ rfl).2 (As := [.int v2_2]) (rest := [.ref r0]) ⟨hx, hb, hml, hown, hts⟩ (uJx4a65c_remove_915e3L2 l dC dI ca base B hB hAp hB1 hB10 hB222 Gx_2 H_20 waiting_12 v2_2 size_17) (va_cwF 1 hts (jgF (jWr_42 _ (List.mem_of_getElem? (i := 7) rfl)) (jWr_42 _ (List.mem_of_getElem? (i := 8) rfl)) (jWr_42 _ (List.mem_of_getElem? (i := 9) rfl)) (jWr_2 _ (List.mem_of_getElem? (i := 13) rfl)) (jWr_42 _ (List.mem_of_getElem? (i := 10) rfl))) rfl rfl rfl hK7.2.2.2.2.2.1.2.2.2 ⟨by decide, by decide, by decide +kernel⟩ ⟨by rw [← hR]; exact Nat.le_of_ble_eq_true rfl, by rw [← hR]; exact Nat.le_of_ble_eq_true rfl⟩) ⟨fun a U g mk q => by obtain ⟨q0, q1, q2, qK, q10, q11, q12, q13, q14⟩ := q; exact ⟨q0, q1, q2, jG.calling g mk a qK, (jK7.calling g mk a q10), q11, q12, q13, q14⟩, hh_24.recv (C := RJx4a65c) (T := TJx4a65c) (N := 3) hB1 rfl (by decide) hg_waiting_12 hK, fun U hU hW => ⟨rfl, hU, hh_24.2.1, hG.step hW hU hh_24.1, (hK7.step hW hU hh_24.1), hg_waiting_12, (hh_24.2.2.1.sub (L1 := [(waiting_12, 1, 2, .int size_17)]) [1] rfl), (hh_24.2.2.2.2.2.2.2.2.sub (L1 := [(jFl, jLs dC dI ca Gx_2 3 none)]) [0] rfl), ⟨(by first | omega | rfl | assumption | fail), (by first | omega | rfl | assumption | fail)⟩⟩⟩ rfl rfl hl.1 rfl (lv_room (Nat.le_of_ble_eq_true rfl)) dX11_dismiss_49 ⟨by rw [hRc]; show _ + 0 ≤ _; omega, by rw [hRs]; show _ + 0 ≤ _; omega⟩) hh_24.1 (fun q _ h => h) (fun q h => h) (fun r_33 u_32 t_32 H_32 locs_32 ht_32 hvm_32 hr_33 hb_32 hz_32 hk_32 hS_32 => ?_)
              obtain ⟨qz_32, rfl⟩ : ∃ z, z = u_32 := ⟨_, rfl⟩
              rw [ht_32] at hb_32
              obtain ⟨hb_32, hbE_32⟩ := hb_32
              obtain ⟨hb_32, hbO_32⟩ := hb_32
              obtain ⟨hb_321, hb_322, hb_323, hb_324, hb_325⟩ := hb_32
              have hh_32 : jSt (dC, dI) B base G0 Gx_2 EX11_dismiss s.heap zcx_2 zsx_2 [(waiting_12, 1, 2, .int qz_32), (ret_22, 10, 1, .ref about_25), (r0, 13, 8, .ref waiting_12), (bo, 2, 1, .int wc_2), (bo, 2, 0, .ref wr_2), (r0, 13, 4, .ref bo), (r0, 13, 3, .ref ou), (r0, 13, 7, .ref op)] [] [(jFl, jLs dC dI ca Gx_2 3 none), ([(2, 0), (2, 1)], jOl (dC, dI) G0 2 [bo, ou] s.heap), (jFy, jYb dC dI Gx_2)] H_32 locs_32 := (((hh_24.call hb_321 hb_322 hb_323 hb_324 hS_32 rfl (L1 := [(ret_22, 10, 1, .ref about_25), (r0, 13, 8, .ref waiting_12), (bo, 2, 1, .int wc_2), (bo, 2, 0, .ref wr_2), (r0, 13, 4, .ref bo), (r0, 13, 3, .ref ou), (r0, 13, 7, .ref op)]) [0, 2, 3, 4, 6, 7, 8] rfl rfl (M1 := []) [] rfl rfl (I1 := [([(2, 0), (2, 1)], jOl (dC, dI) G0 2 [bo, ou] s.heap), (jFy, jYb dC dI Gx_2)]) [1, 2] rfl rfl).more hb_325)).addIs hbE_32
              have hh_34 := hh_32.more (P1 := [(op, 1, 2, .int wz_2)]) (jP.cons hg_7 (hbO_32 _ _ _ _ (by first | assumption | exact Ne.symm (by assumption) | exact jnek hg_7 hg_waiting_12 (by decide)) hg_7 (hh_24.at 5 rfl)) jP.nil)
              clear hh_24 ht_32 hvm_32 hz_32 hk_32 hS_32 hb_321 hb_322 hb_323 hb_324 hb_325
              clear  hbE_32
              obtain ⟨hr_33, hr_33p⟩ := hr_33
              obtain ⟨ret_35, rfl, hg_ret_35⟩ := hr_33
              refine va_castY hx hb hown (htw (.classLink RX11 115 "ProofServer$Request") (jWr_42 _ (List.mem_of_getElem? (i := 5) rfl))) hK7.2.2.1.2.1.2 (hh_34.recv (C := RX8) (T := TX8) (N := 5) hB10 rfl (by decide) hg_ret_35 hK) dX11_dismiss_54 ?_
              refine lv_ldcw hx hb hown hcs_459 dX11_dismiss_57 ?_
              have hsz_36 := hh_34.2.2.2.2.2.1
              have htt_36 := hh_34.2.2.2.2.2.2.1
              refine W.room (fun hrc_36 hrs_36 => ?_)
              refine va_callv (A0 := jA base) (H0 := s.heap) (va_runV (As := [.ref ret_35, .int (-32801)]) (rest := []) ⟨hx, hb, hml, hown, hts⟩ (uX11_refuse l dC dI ca base B hB hAp hB2 hB4 hB10 hB13 hB196 Gx_2 H_32 r0 ret_35 (-32801) bo wc_2 wr_2 m_wr_2 ou LC LS) (cwV 2 hts (jgV (jWr_26 _ (List.mem_of_getElem? (i := 3) rfl)) (jWr_26 _ (List.mem_of_getElem? (i := 4) rfl)) (jWr_26 _ (List.mem_of_getElem? (i := 5) rfl)) (jWr_1 _ (List.mem_of_getElem? (i := 2) rfl)) (jWr_26 _ (List.mem_of_getElem? (i := 6) rfl))) rfl rfl rfl (by decide +kernel) ⟨by rw [← hR]; exact Nat.le_of_ble_eq_true rfl, by rw [← hR]; exact Nat.le_of_ble_eq_true rfl⟩) ⟨fun a U g mk q => by obtain ⟨q0, q1, q2, qK, q10, q11, q12, q13, q14, q15, q16, q17⟩ := q; exact ⟨q0, q1, q2, jG.calling g mk a qK, q10, q11, q12, q13, q14, q15, q16, q17⟩, hh_34.recv (C := RX11) (T := TX11) (N := 19) hB13 rfl (by decide) hg_3 hK, fun U hU hW => ⟨rfl, hU, hh_34.2.1, hG.step hW hU hh_34.1, hg_ret_35, hg_3, hg_5, hg_wr_2, hg_6, (hh_34.2.2.1.sub (L1 := [(r0, 13, 4, .ref bo), (bo, 2, 1, .int wc_2), (bo, 2, 0, .ref wr_2), (r0, 13, 3, .ref ou)]) [6, 4, 5, 7] rfl), (hh_34.2.2.2.2.2.2.2.2.sub (L1 := [(jFy, jYb dC dI Gx_2)]) [2] rfl), (by omega), (by omega), ⟨(by first | omega | rfl | assumption | fail), (by first | omega | rfl | assumption | fail), (by first | omega | rfl | assumption | fail), (by first | omega | rfl | assumption | fail), (by first | assumption | fail | omega)⟩⟩⟩ rfl rfl hl.1 rfl (lv_room (Nat.le_of_ble_eq_true rfl)) dX11_dismiss_60 ⟨by rw [hRc]; omega, by rw [hRs]; omega⟩) hh_34.1 (fun q _ h => h) (fun q h => h) (fun u_36 t_36 H_36 locs_36 ht_36 hvm_36 hr_37 hb_36 hz_36 hk_36 hS_36 => ?_)
              obtain ⟨qc_36, qa_36, m_qa_36, G_36⟩ := u_36
              rw [ht_36] at hb_36
              simp only at hb_36
              obtain ⟨⟨hb_361, hb_362, hb_363, hb_364, hb_365, hb_366⟩, hgq_36_0, hN_36, hbO_36, hbE_36⟩ := hb_36
              have hh_36 : jSt (dC, dI) B base G0 G_36 EX11_dismiss s.heap (zcx_2 + ((m_qa_36 - m_wr_2) / 16)) (zsx_2 + (2 * (m_qa_36 - m_wr_2))) [(bo, 2, 1, .int qc_36), (bo, 2, 0, .ref qa_36), (op, 1, 2, .int wz_2), (waiting_12, 1, 2, .int qz_32), (ret_22, 10, 1, .ref about_25), (r0, 13, 8, .ref waiting_12), (r0, 13, 4, .ref bo), (r0, 13, 3, .ref ou), (r0, 13, 7, .ref op)] [] [(jFl, jLs dC dI ca Gx_2 3 none)] H_36 locs_36 := (hh_34.callG hb_361 hb_362 hb_363 hb_364 hb_365 hS_36 rfl (L1 := [(op, 1, 2, .int wz_2), (waiting_12, 1, 2, .int qz_32), (ret_22, 10, 1, .ref about_25), (r0, 13, 8, .ref waiting_12), (r0, 13, 4, .ref bo), (r0, 13, 3, .ref ou), (r0, 13, 7, .ref op)]) [0, 1, 2, 3, 6, 7, 8] rfl rfl (M1 := []) [] rfl rfl (I1 := [(jFl, jLs dC dI ca Gx_2 3 none)]) [0] rfl rfl).more hb_366
              have hNn_36 : (jNk [0, 1, 2, 3, 4, 5, 6, 7, 8, 9, 10, 11, 12, 13, 14, 15, 16]) G0 G_36 := (hN_2).tr hN_36
              have hg_38 := hb_362 _ _ hg_3
              have hg_39 := hb_362 _ _ hg_4
              have hg_40 := hb_362 _ _ hg_about_25
              have hg_41 := hb_362 _ _ hg_waiting_12
              have hg_42 := hb_362 _ _ hg_5
              have hg_43 := hb_362 _ _ hg_6
              have hg_44 := hb_362 _ _ hg_7
              have hd_45 := jLs.grow (hh_36.iv 0 rfl) hb_362 hN_36 (by decide)
              have hh_46 := hh_36.sub (L1 := [(bo, 2, 1, .int qc_36), (bo, 2, 0, .ref qa_36), (op, 1, 2, .int wz_2), (waiting_12, 1, 2, .int qz_32), (ret_22, 10, 1, .ref about_25), (r0, 13, 8, .ref waiting_12), (r0, 13, 4, .ref bo), (r0, 13, 3, .ref ou), (r0, 13, 7, .ref op)]) [0, 1, 2, 3, 4, 5, 6, 7, 8] rfl (M1 := []) [] rfl (I1 := []) [] rfl
              clear hh_36
              have hh_47 := hh_46.addI (jLs.ie hd_45)
              clear hh_46
              have hh_48 := hh_47.addIs hbE_36
              have hd_49 := jOl.trL (hh_34.iv 1 rfl) hh_34.2.2.2.2.1 hbO_36 (by simp)
              have hh_50 := hh_48.addI (jOl.ie (dC := dC) (dI := dI) (G0 := G0) (k := 2) (rs := [bo, ou]) (H0 := s.heap) (F := [(2, 0), (2, 1)]) (C := RX0) (T := TX0) (N := 2) rfl (by decide) hh_48.2.2.2.2.1 (hd_49))
              clear hh_48
              try simp only at hr_37
              obtain ⟨hr_37_0, hr_37_1, hr_37_2, hr_37_3, hr_37_4⟩ := hr_37
              have hh_51 := hh_50.wk (zc1 := (m_qa_36 - n_pa) / 16) (zs1 := 2 * (m_qa_36 - n_pa)) (by omega) (by omega)
              clear hh_50
              try clear hsz_36 htt_36 hrc_36 hrs_36
              try clear hb_364 hb_365
              refine lv_goto (tgt := 69) hx hb dX11_dismiss_63 (by decide) ?_
              obtain ⟨z_52, ez_52⟩ : ∃ y : Int32, y = v3_2 + 1 := ⟨_, rfl⟩
              refine lv_iinc (v := z_52) (lv' := [(3, .int z_52), (0, .ref r0), (1, .ref r1), (2, .int v2_2)]) hx hb dX11_dismiss_69 hl (k := 3) rfl (by rw [ez_52]; rfl) (by decide) rfl (fun ls hl => ?_)
              have hz_52 : z_52.toInt = v3_2.toInt + 1 := by rw [ez_52]; exact jb_iadd2 (rfl) (by decide) (by omega)
              refine lv_goto (tgt := 4) hx hb dX11_dismiss_72 (by decide) ?_
              refine W.tight (c2 := ((m_qa_36 - n_pa) / 16)) (n2 := (2 * (m_qa_36 - n_pa))) hh_51.2.2.2.2.2.1 hh_51.2.2.2.2.2.2.1 ?_
              exact L4 G_36 ((m_qa_36 - n_pa) / 16) (2 * (m_qa_36 - n_pa)) v2_2 z_52 qc_36 qa_36 m_qa_36 wz_2 _ _ (hh_51.sub (L1 := [(bo, 2, 1, .int qc_36), (bo, 2, 0, .ref qa_36), (op, 1, 2, .int wz_2), (r0, 13, 4, .ref bo), (r0, 13, 3, .ref ou), (r0, 13, 7, .ref op)]) [0, 1, 2, 6, 7, 8] rfl (M1 := []) [] rfl (I1 := [([(2, 0), (2, 1)], jOl (dC, dI) G0 2 [bo, ou] s.heap), (jFy, jYb dC dI G_36), (jFl, jLs dC dI ca G_36 3 none)]) [0, 1, 2] rfl) (hNn_36) ((hle_2).tr hb_362) hgq_36_0 (⟨(by first | omega | rfl | assumption | fail), (by first | omega | rfl | assumption | fail), (by first | omega | rfl | assumption | fail), (by first | omega | rfl | assumption | fail), (by first | assumption | fail | omega), (by first | omega | rfl | assumption | fail), (by first | omega | rfl | assumption | fail), (by first | omega | rfl | assumption | fail), (by first | omega | rfl | assumption | fail), (by first | omega | rfl | assumption | fail), (by first | omega | rfl | assumption | fail)⟩) (by omega) _ (lv_sub hl [1, 2, 3, 0] rfl)
  refine W.tight (c2 := 0) (n2 := 0) hh_1.2.2.2.2.2.1 hh_1.2.2.2.2.2.2.1 ?_
  exact L4 (12 - (0 : Int32).toInt : Int).toNat.succ G0 0 0 0 0 pc pa n_pa sz _ _ (hh_1.sub (L1 := [(bo, 2, 1, .int pc), (bo, 2, 0, .ref pa), (op, 1, 2, .int sz), (r0, 13, 4, .ref bo), (r0, 13, 3, .ref ou), (r0, 13, 7, .ref op)]) [1, 2, 5, 0, 3, 4] rfl (M1 := []) [] rfl (I1 := [([(2, 0), (2, 1)], jOl (dC, dI) G0 2 [bo, ou] s.heap), (jFy, jYb dC dI G0), (jFl, jLs dC dI ca G0 3 none)]) [0, 1, 2] rfl) (jNk.rf) (jLe.rf) hg_pa (⟨(by first | omega | rfl | assumption | fail), (by first | omega | rfl | assumption | fail), (by first | omega | rfl | assumption | fail), (by first | omega | rfl | assumption | fail), (by first | assumption | fail | omega), (by first | omega | rfl | assumption | fail), (by first | omega | rfl | assumption | fail), (by first | omega | rfl | assumption | fail), (by first | omega | rfl | assumption | fail), (by first | omega | rfl | assumption | fail), (by first | omega | rfl | assumption | fail)⟩) (by omega) _ (lv_sub hl [2, 3, 1, 0] rfl)
end
section
theorem dX11_placeTold_0 : decode cX11_placeTold 0 = .ok (.aload_n 0, 1) := by decide +kernel
theorem dX11_placeTold_1 : decode cX11_placeTold 1 = .ok (.getfield 28, 3) := by decide +kernel
theorem dX11_placeTold_4 : decode cX11_placeTold 4 = .ok (.iload_n 1, 1) := by decide +kernel
theorem dX11_placeTold_5 : decode cX11_placeTold 5 = .ok (.ldc_w 415, 3) := by decide +kernel
theorem dX11_placeTold_8 : decode cX11_placeTold 8 = .ok (.invokevirtual 260, 3) := by decide +kernel
theorem dX11_placeTold_11 : decode cX11_placeTold 11 = .ok (.istore_n 3, 1) := by decide +kernel
theorem dX11_placeTold_12 : decode cX11_placeTold 12 = .ok (.aload_n 0, 1) := by decide +kernel
theorem dX11_placeTold_13 : decode cX11_placeTold 13 = .ok (.getfield 28, 3) := by decide +kernel
theorem dX11_placeTold_16 : decode cX11_placeTold 16 = .ok (.iload_n 1, 1) := by decide +kernel
theorem dX11_placeTold_17 : decode cX11_placeTold 17 = .ok (.ldc_w 417, 3) := by decide +kernel
theorem dX11_placeTold_20 : decode cX11_placeTold 20 = .ok (.invokevirtual 260, 3) := by decide +kernel
theorem dX11_placeTold_23 : decode cX11_placeTold 23 = .ok (.istore 4, 2) := by decide +kernel
theorem dX11_placeTold_25 : decode cX11_placeTold 25 = .ok (.aload_n 0, 1) := by decide +kernel
theorem dX11_placeTold_26 : decode cX11_placeTold 26 = .ok (.getfield 28, 3) := by decide +kernel
theorem dX11_placeTold_29 : decode cX11_placeTold 29 = .ok (.iload_n 3, 1) := by decide +kernel
theorem dX11_placeTold_30 : decode cX11_placeTold 30 = .ok (.invokevirtual 283, 3) := by decide +kernel
theorem dX11_placeTold_33 : decode cX11_placeTold 33 = .ok (.iconst 4, 1) := by decide +kernel
theorem dX11_placeTold_34 : decode cX11_placeTold 34 = .ok (.if_icmp .ne 16, 3) := by decide +kernel
theorem dX11_placeTold_37 : decode cX11_placeTold 37 = .ok (.aload_n 0, 1) := by decide +kernel
theorem dX11_placeTold_38 : decode cX11_placeTold 38 = .ok (.getfield 28, 3) := by decide +kernel
theorem dX11_placeTold_41 : decode cX11_placeTold 41 = .ok (.iload 4, 2) := by decide +kernel
theorem dX11_placeTold_43 : decode cX11_placeTold 43 = .ok (.invokevirtual 283, 3) := by decide +kernel
theorem dX11_placeTold_46 : decode cX11_placeTold 46 = .ok (.iconst 4, 1) := by decide +kernel
theorem dX11_placeTold_47 : decode cX11_placeTold 47 = .ok (.if_icmp .eq 5, 3) := by decide +kernel
theorem dX11_placeTold_50 : decode cX11_placeTold 50 = .ok (.iconst (-1), 1) := by decide +kernel
theorem dX11_placeTold_51 : decode cX11_placeTold 51 = .ok (.ireturn, 1) := by decide +kernel
theorem dX11_placeTold_52 : decode cX11_placeTold 52 = .ok (.aload_n 2, 1) := by decide +kernel
theorem dX11_placeTold_53 : decode cX11_placeTold 53 = .ok (.aload_n 0, 1) := by decide +kernel
theorem dX11_placeTold_54 : decode cX11_placeTold 54 = .ok (.getfield 28, 3) := by decide +kernel
theorem dX11_placeTold_57 : decode cX11_placeTold 57 = .ok (.iload_n 3, 1) := by decide +kernel
theorem dX11_placeTold_58 : decode cX11_placeTold 58 = .ok (.invokevirtual 367, 3) := by decide +kernel
theorem dX11_placeTold_61 : decode cX11_placeTold 61 = .ok (.aload_n 0, 1) := by decide +kernel
theorem dX11_placeTold_62 : decode cX11_placeTold 62 = .ok (.getfield 28, 3) := by decide +kernel
theorem dX11_placeTold_65 : decode cX11_placeTold 65 = .ok (.iload 4, 2) := by decide +kernel
theorem dX11_placeTold_67 : decode cX11_placeTold 67 = .ok (.invokevirtual 367, 3) := by decide +kernel
theorem dX11_placeTold_70 : decode cX11_placeTold 70 = .ok (.invokevirtual 419, 3) := by decide +kernel
theorem dX11_placeTold_73 : decode cX11_placeTold 73 = .ok (.ireturn, 1) := by decide +kernel
end
section
-- what reading JSON leaves: the strings and keys of the values stand apart among the units, and take bytes
theorem jNnl {x : Nat} {P : Prop} (h : (Value.ref x) = .null ∨ P) : P := h.elim (fun q => by cases q) id
end
section
-- the documents of the class: sentences in order, and what is still to be checked of the open ones
section J41
variable {dC : Nat → ClassId} {dI : Nat → Nat → Nat} {ca : Nat → ClassId} {G G1 : jT} {H H1 : Heap} {x : Option Nat} {ph : Nat}
theorem jPo.mkR {fe : Nat → Int32} {ps pk : Int} {x : Nat} (h : pk < ps) : jPo fe ps pk (.ref x) (575 * (ps - pk) - 16 + (1500 - jSo fe pk)).toNat := ⟨by omega, Or.inr ⟨(fun q => by cases q), h, Int.self_le_toNat _⟩⟩
end J41
end
section
def EX1_isSentenceE : List (Nat × Nat) := []
def EX1_keepCheckedE : List (Nat × Nat) := [(3, 10)]
def EX11_releaseE : List (Nat × Nat) := [(3, 11), (3, 12), (3, 13), (212, 0)]
set_option maxHeartbeats 4000000 in
set_option maxRecDepth 20000 in
theorem uX1_isSentenceE (l : Launch) (dC : Nat → ClassId) (dI : Nat → Nat → Nat) (ca : Nat → ClassId) (base : Nat) (B : jF) (hB : jBok B) (hAp : jAp (dC, dI)) (hB3 : ∀ n G a H, B 3 n G a H ↔ jOb (dC, dI) 3 17 (F3 n G) a H) (hB101 : ∀ n G a H, B 101 n G a H ↔ jAr (dC, dI) (ca 1) (fun j z => True) n a H) (hB171 : ∀ n G a H, B 171 n G a H ↔ jAr (dC, dI) (ca 1) (fun j z => 0 ≤ z.toInt ∧ z.toInt ≤ 1500) n a H) (hB172 : ∀ n G a H, B 172 n G a H ↔ jAr (dC, dI) (ca 1) (fun j z => 0 ≤ z.toInt ∧ z.toInt ≤ 1500) n a H) (G0 : jT) (H0 : Heap) (r0 : Nat) (a1 : Int32) (r2 : Nat) (n2 : Nat) (ps : Int32) : Met l yX1_isSentence (jw yX1_isSentence cX1_isSentence 4 (some .boolean)) ({ frames := 0, cells := 0, slots := 0, locals := 0 }) (va_Pc [.ref r0, .int a1, .ref r2] (fun U => U.heap = H0 ∧ jX B base G0 [] H0 ∧ jG dC dI ca base U ∧ G0 r0 = some (3, 0) ∧ G0 r2 = some (101, n2) ∧ jP (dC, dI) G0 H0 [(r0, 3, 4, .int ps)] ∧ n2 ≤ 3000 ∧ ps.toInt ≤ 40)) (va_Qi (S := Unit) (fun r u => (r = 0 ∨ r = 1) ∧ (r.toInt = 0 ∨ (0 ≤ a1.toInt ∧ a1.toInt < ps.toInt))) (fun u t => jRt (dC, dI) B base G0 EX1_isSentenceE H0 [] t.heap) (jA base)) 0 0 (jA base) := by
  refine Met.ofW (cc := cX1_isSentence) (maxL := 4) (ret := (some .boolean)) (by decide) rfl ?_
  intro p e s m args below meth c s₁ Bd hml hv
  obtain ⟨rfl, hH0, hX, hG, hg_r0, hg_r2, hP0, hp0, hp1⟩ := hv
  have hK := hG.1
  have hx := Bd.exec
  have hb := Bd.bytes
  have hr := Bd.returns
  have hts := atoms_spec (ws := (jw yX1_isSentence cX1_isSentence 4 (some .boolean))) Bd.pre
  have htw : ∀ w ∈ jWl, w.before _ s = true := fun w h => hts w (List.mem_cons_of_mem _ h)
  have hown : s.vm.findClass RX1 = some m.cls := findClass_of_methodNamed Bd.named
  have hlocks := Bd.notSynchronized
  obtain ⟨Q, hQ⟩ : ∃ Q, Q = MQ below (va_Qi (S := Unit) (fun r u => (r = 0 ∨ r = 1) ∧ (r.toInt = 0 ∨ (0 ≤ a1.toInt ∧ a1.toInt < ps.toInt))) (fun u t => jRt (dC, dI) B base G0 EX1_isSentenceE H0 [] t.heap) (jA base)) ([.ref r0, .int a1, .ref r2] : List Value).toArray s 0 0 (jA base) := ⟨_, rfl⟩
  rw [← hQ]
  have hl := lv_entry ([.ref r0, .int a1, .ref r2]) (n := 4) (Nat.le_of_ble_eq_true rfl)
  rw [lg_entry_eq]
  generalize (lg_sl ([.ref r0, .int a1, .ref r2]) ++ List.replicate (4 - (lg_sl ([.ref r0, .int a1, .ref r2])).length) Slot.unset).toArray = ls at hl ⊢
  have hl : lv_has ls 4 [(0, .ref r0), (1, .int a1), (2, .ref r2)] := hl
  generalize hR : (headSpec (jw yX1_isSentence cX1_isSentence 4 (some .boolean)) ({ frames := 0, cells := 0, slots := 0, locals := 0 })).room = R
  subst hH0
  have hh : jSt (dC, dI) B base G0 G0 EX1_isSentenceE s.heap 0 0 [(r0, 3, 4, .int ps)] [] [] s.heap [] := jSt.start hX hP0 jMc.nil jIs.nil
  clear hX hP0
  have hk0 : (0 : Int32).toInt = 0 := by decide
  have hk1 : (1 : Int32).toInt = 1 := by decide
  have hly_3_2 := htw (u_lay RX1 TX1 2) (jWc_wsX10 _ (u_in_lay (by decide)))
  have hly_3_4 := htw (u_lay RX1 TX1 4) (jWc_wsX10 _ (u_in_lay (by decide)))
  have hly_3_5 := htw (u_lay RX1 TX1 5) (jWc_wsX10 _ (u_in_lay (by decide)))
  have hly_3_6 := htw (u_lay RX1 TX1 6) (jWc_wsX10 _ (u_in_lay (by decide)))
  have hlk_69 := (htw (.fieldLink RX1 69 "ProofServer$Document" "sentences" "I") (jWr_29 _ (List.mem_of_getElem? (i := 14) rfl)))
  have hlk_21 := (htw (.fieldLink RX1 21 "ProofServer$Document" "ends" "[I") (jWr_10 _ (List.mem_of_getElem? (i := 8) rfl)))
  have hlk_18 := (htw (.fieldLink RX1 18 "ProofServer$Document" "starts" "[I") (jWr_10 _ (List.mem_of_getElem? (i := 7) rfl)))
  have hlk_15 := (htw (.fieldLink RX1 15 "ProofServer$Document" "text" "[I") (jWr_10 _ (List.mem_of_getElem? (i := 6) rfl)))
  have hrg_a1 := jb_rng a1
  refine lv_iload_n hx hb dX1_isSentence_0 rfl (lv_at hl 1 rfl) ?_
  refine lv_if_lt (tgt := 30) hx hb dX1_isSentence_1 (by decide) (fun c_1 => ?_) (fun c_1 => ?_)
  · skip
    have c_1' : a1.toInt < 0 := jb_lt (rfl) ((by decide)) c_1
    refine lv_iconst (v := 0) hx hb dX1_isSentence_30 (by decide) ?_
    rw [hQ]
    exact W.zret (v := 0) hx hb hr (jb_nz (Or.inl rfl)) (fun t ht hW => ⟨⟨0, (), rfl, ⟨(Or.inl rfl), by first | omega | rfl | assumption | decide | exact Or.inl rfl | exact Or.inr rfl | (simp only; omega)⟩, hh.rt (M1 := []) [] rfl ht⟩, by rw [ht]; try exact hh.1.1, fun q h9 hq => by rw [ht]; try exact hh.1.2.1 q h9 hq⟩) hh.1.2.2 dX1_isSentence_31
  · skip
    have c_1' : a1.toInt ≥ 0 := jb_lt_n (rfl) ((by decide)) c_1
    refine lv_iload_n hx hb dX1_isSentence_4 rfl (lv_at hl 1 rfl) ?_
    refine lv_aload_n hx hb dX1_isSentence_5 rfl (lv_at hl 0 rfl) ?_
    refine j7_read hx hb hown hK (C := RX1) (T := TX1) (N := 17) rfl hly_3_4 hlk_69 (hh.at 0 rfl) dX1_isSentence_6 ?_
    refine lv_icmp_ge (tgt := 30) hx hb dX1_isSentence_9 (by decide) (fun c_2 => ?_) (fun c_2 => ?_)
    · skip
      have c_2' : a1.toInt ≥ ps.toInt := jb_ge (rfl) (rfl) c_2
      refine lv_iconst (v := 0) hx hb dX1_isSentence_30 (by decide) ?_
      rw [hQ]
      exact W.zret (v := 0) hx hb hr (jb_nz (Or.inl rfl)) (fun t ht hW => ⟨⟨0, (), rfl, ⟨(Or.inl rfl), by first | omega | rfl | assumption | decide | exact Or.inl rfl | exact Or.inr rfl | (simp only; omega)⟩, hh.rt (M1 := []) [] rfl ht⟩, by rw [ht]; try exact hh.1.1, fun q h9 hq => by rw [ht]; try exact hh.1.2.1 q h9 hq⟩) hh.1.2.2 dX1_isSentence_31
    · skip
      have c_2' : a1.toInt < ps.toInt := jb_ge_n (rfl) (rfl) c_2
      obtain ⟨v_3, hv_3, hh_4⟩ := hh.pin (C := RX1) (T := TX1) (N := 17) hB3 rfl (by decide) hg_r0 (i := 5) (by decide) rfl
      obtain ⟨starts_5, rfl, hg_starts_5⟩ := hv_3
      obtain ⟨f_starts_6, hh_6⟩ := hh_4.cpin hB171 (by decide) (by decide) hg_starts_5
      clear hh_4
      obtain ⟨v_7, hv_7, hh_8⟩ := hh_6.pin (C := RX1) (T := TX1) (N := 17) hB3 rfl (by decide) hg_r0 (i := 6) (by decide) rfl
      obtain ⟨ends_9, rfl, hg_ends_9⟩ := hv_7
      obtain ⟨f_ends_10, hh_10⟩ := hh_8.cpin hB172 (by decide) (by decide) hg_ends_9
      clear hh_8
      refine lv_aload_n hx hb dX1_isSentence_12 rfl (lv_at hl 0 rfl) ?_
      refine j7_read hx hb hown hK (C := RX1) (T := TX1) (N := 17) rfl hly_3_6 hlk_21 (hh_10.at 0 rfl) dX1_isSentence_13 ?_
      refine lv_iload_n hx hb dX1_isSentence_16 rfl (lv_at hl 1 rfl) ?_
      refine j7_ialdM hx hb hK hh_10 hB172 1 rfl (by decide) hg_ends_9 (x := a1.toInt) (rfl) (by omega) (j := 0) rfl dX1_isSentence_17 (fun z_11 ez_11 (hz_11 : 0 ≤ z_11.toInt ∧ z_11.toInt ≤ 1500) => ?_)
      have hqz_11 : z_11.toInt = jSo f_ends_10 (a1.toInt) := by unfold jSo; rw [ez_11]
      refine lv_aload_n hx hb dX1_isSentence_18 rfl (lv_at hl 0 rfl) ?_
      refine j7_read hx hb hown hK (C := RX1) (T := TX1) (N := 17) rfl hly_3_5 hlk_18 (hh_10.at 1 rfl) dX1_isSentence_19 ?_
      refine lv_iload_n hx hb dX1_isSentence_22 rfl (lv_at hl 1 rfl) ?_
      refine j7_ialdM hx hb hK hh_10 hB171 1 rfl (by decide) hg_starts_5 (x := a1.toInt) (rfl) (by omega) (j := 1) rfl dX1_isSentence_23 (fun z_12 ez_12 (hz_12 : 0 ≤ z_12.toInt ∧ z_12.toInt ≤ 1500) => ?_)
      have hqz_12 : z_12.toInt = jSo f_starts_6 (a1.toInt) := by unfold jSo; rw [ez_12]
      refine lv_isub hx hb dX1_isSentence_24 ?_
      refine lv_topi (fun z_13 ez_13 => ?_)
      have hz_13 : z_13.toInt = z_11.toInt - z_12.toInt := by rw [ez_13]; exact jb_isub2 (rfl) (rfl) (by omega)
      refine lv_aload_n hx hb dX1_isSentence_25 rfl (lv_at hl 2 rfl) ?_
      refine j7_len hx hb hK hh_10 hB101 1 rfl (by decide) hg_r2 (by omega) dX1_isSentence_26 (fun z_14 hz_14 => ?_)
      refine lv_icmp_eq (tgt := 32) hx hb dX1_isSentence_27 (by decide) (fun c_15 => ?_) (fun c_15 => ?_)
      · skip
        have c_15' : z_13.toInt = z_14.toInt := jb_eq (rfl) (rfl) c_15
        refine lv_iconst (v := 0) hx hb dX1_isSentence_32 (by decide) ?_
        refine lv_istore_n (lv' := [(3, .int 0), (0, .ref r0), (1, .int a1), (2, .ref r2)]) hx hb dX1_isSentence_33 rfl hl (by decide) rfl (fun ls hl => ?_)
        have L34 : ∀ (N : Nat) (v3_16 : Int32) (H_16 : Heap) (locs_16 : List Loc), jSt (dC, dI) B base G0 G0 EX1_isSentenceE s.heap 0 0 [(r0, 3, 6, .ref ends_9), (r0, 3, 5, .ref starts_5), (r0, 3, 4, .int ps)] [(ends_9, 172, 40, ca 1, f_ends_10), (starts_5, 171, 40, ca 1, f_starts_6)] [] H_16 locs_16 → (0 ≤ v3_16.toInt ∧ v3_16.toInt ≤ n2) → (n2 - v3_16.toInt : Int) < N → ∀ ls : Array Slot, lv_has ls 4 [(0, .ref r0), (1, .int a1), (2, .ref r2), (3, .int v3_16)] → W p l e R s m ([.ref r0, .int a1, .ref r2] : List Value).toArray below meth c H_16 locs_16 0 0 Q (F0 m 34 ls []) := by
          intro N
          induction N with
          | zero => intro v3_16 H_16 locs_16 hh_16  hi_16 hm; exact absurd hm (by omega)
          | succ N L34 =>
            intro v3_16 H_16 locs_16 hh_16  hi_16 hm_16 ls hl
            obtain ⟨hi_16_0, hi_16_1⟩ := hi_16
            refine lv_iload_n hx hb dX1_isSentence_34 rfl (lv_at hl 3 rfl) ?_
            refine lv_aload_n hx hb dX1_isSentence_35 rfl (lv_at hl 2 rfl) ?_
            refine j7_len hx hb hK hh_16 hB101 1 rfl (by decide) hg_r2 (by omega) dX1_isSentence_36 (fun z_17 hz_17 => ?_)
            refine lv_icmp_ge (tgt := 67) hx hb dX1_isSentence_37 (by decide) (fun c_18 => ?_) (fun c_18 => ?_)
            · skip
              have c_18' : v3_16.toInt ≥ z_17.toInt := jb_ge (rfl) (rfl) c_18
              refine lv_iconst (v := 1) hx hb dX1_isSentence_67 (by decide) ?_
              rw [hQ]
              exact W.zret (v := 1) hx hb hr (jb_nz (Or.inr rfl)) (fun t ht hW => ⟨⟨1, (), rfl, ⟨(Or.inr rfl), by first | omega | rfl | assumption | decide | exact Or.inl rfl | exact Or.inr rfl | (simp only; omega)⟩, hh_16.rt (M1 := []) [] rfl ht⟩, by rw [ht]; try exact hh_16.1.1, fun q h9 hq => by rw [ht]; try exact hh_16.1.2.1 q h9 hq⟩) hh_16.1.2.2 dX1_isSentence_68
            · skip
              have c_18' : v3_16.toInt < z_17.toInt := jb_ge_n (rfl) (rfl) c_18
              refine lv_aload_n hx hb dX1_isSentence_40 rfl (lv_at hl 0 rfl) ?_
              obtain ⟨v_19, hv_19, hh_20⟩ := hh_16.pin (C := RX1) (T := TX1) (N := 17) hB3 rfl (by decide) hg_r0 (i := 2) (by decide) rfl
              clear hh_16
              obtain ⟨text_21, rfl, hg_text_21⟩ := hv_19
              refine j7_read hx hb hown hK (C := RX1) (T := TX1) (N := 17) rfl hly_3_2 hlk_15 (hh_20.at 0 rfl) dX1_isSentence_41 ?_
              refine lv_aload_n hx hb dX1_isSentence_44 rfl (lv_at hl 0 rfl) ?_
              refine j7_read hx hb hown hK (C := RX1) (T := TX1) (N := 17) rfl hly_3_5 hlk_18 (hh_20.at 2 rfl) dX1_isSentence_45 ?_
              refine lv_iload_n hx hb dX1_isSentence_48 rfl (lv_at hl 1 rfl) ?_
              refine j7_ialdM hx hb hK hh_20 hB171 1 rfl (by decide) hg_starts_5 (x := a1.toInt) (rfl) (by omega) (j := 1) rfl dX1_isSentence_49 (fun z_22 ez_22 (hz_22 : 0 ≤ z_22.toInt ∧ z_22.toInt ≤ 1500) => ?_)
              have hqz_22 : z_22.toInt = jSo f_starts_6 (a1.toInt) := by unfold jSo; rw [ez_22]
              refine lv_iload_n hx hb dX1_isSentence_50 rfl (lv_at hl 3 rfl) ?_
              refine lv_iadd hx hb dX1_isSentence_51 ?_
              refine lv_topi (fun z_23 ez_23 => ?_)
              have hz_23 : z_23.toInt = z_22.toInt + v3_16.toInt := by rw [ez_23]; exact jb_iadd2 (rfl) (rfl) (by omega)
              refine j7_iald hx hb hK hh_20 hB101 1 rfl (by decide) hg_text_21 (x := z_23.toInt) (rfl) (by omega) dX1_isSentence_52 (fun z_24 (hz_24 : True) => ?_)
              refine lv_aload_n hx hb dX1_isSentence_53 rfl (lv_at hl 2 rfl) ?_
              refine lv_iload_n hx hb dX1_isSentence_54 rfl (lv_at hl 3 rfl) ?_
              refine j7_iald hx hb hK hh_20 hB101 1 rfl (by decide) hg_r2 (x := v3_16.toInt) (rfl) (by omega) dX1_isSentence_55 (fun z_25 (hz_25 : True) => ?_)
              refine lv_icmp_eq (tgt := 61) hx hb dX1_isSentence_56 (by decide) (fun c_26 => ?_) (fun c_26 => ?_)
              · skip
                have c_26' : z_24.toInt = z_25.toInt := jb_eq (rfl) (rfl) c_26
                obtain ⟨z_27, ez_27⟩ : ∃ y : Int32, y = v3_16 + 1 := ⟨_, rfl⟩
                refine lv_iinc (v := z_27) (lv' := [(3, .int z_27), (0, .ref r0), (1, .int a1), (2, .ref r2)]) hx hb dX1_isSentence_61 hl (k := 3) rfl (by rw [ez_27]; rfl) (by decide) rfl (fun ls hl => ?_)
                have hz_27 : z_27.toInt = v3_16.toInt + 1 := by rw [ez_27]; exact jb_iadd2 (rfl) (by decide) (by omega)
                refine lv_goto (tgt := 34) hx hb dX1_isSentence_64 (by decide) ?_
                exact L34 z_27 _ _ (hh_20.sub (L1 := [(r0, 3, 6, .ref ends_9), (r0, 3, 5, .ref starts_5), (r0, 3, 4, .int ps)]) [1, 2, 3] rfl (M1 := [(ends_9, 172, 40, ca 1, f_ends_10), (starts_5, 171, 40, ca 1, f_starts_6)]) [0, 1] rfl (I1 := []) [] rfl) (by first | omega | (refine ⟨?_, ?_⟩ <;> (first | omega | rfl | assumption | decide | exact Or.inl rfl | exact Or.inr rfl | (simp only; omega)))) (by omega) _ (lv_sub hl [1, 2, 3, 0] rfl)
              · skip
                have c_26' : z_24.toInt ≠ z_25.toInt := jb_eq_n (rfl) (rfl) c_26
                refine lv_iconst (v := 0) hx hb dX1_isSentence_59 (by decide) ?_
                rw [hQ]
                exact W.zret (v := 0) hx hb hr (jb_nz (Or.inl rfl)) (fun t ht hW => ⟨⟨0, (), rfl, ⟨(Or.inl rfl), by first | omega | rfl | assumption | decide | exact Or.inl rfl | exact Or.inr rfl | (simp only; omega)⟩, hh_20.rt (M1 := []) [] rfl ht⟩, by rw [ht]; try exact hh_20.1.1, fun q h9 hq => by rw [ht]; try exact hh_20.1.2.1 q h9 hq⟩) hh_20.1.2.2 dX1_isSentence_60
        exact L34 (n2 - (0 : Int32).toInt : Int).toNat.succ 0 _ _ hh_10 (by first | omega | (refine ⟨?_, ?_⟩ <;> (first | omega | rfl | assumption | decide | exact Or.inl rfl | exact Or.inr rfl | (simp only; omega)))) (by omega) _ (lv_sub hl [1, 2, 3, 0] rfl)
      · skip
        have c_15' : z_13.toInt ≠ z_14.toInt := jb_eq_n (rfl) (rfl) c_15
        refine lv_iconst (v := 0) hx hb dX1_isSentence_30 (by decide) ?_
        rw [hQ]
        exact W.zret (v := 0) hx hb hr (jb_nz (Or.inl rfl)) (fun t ht hW => ⟨⟨0, (), rfl, ⟨(Or.inl rfl), by first | omega | rfl | assumption | decide | exact Or.inl rfl | exact Or.inr rfl | (simp only; omega)⟩, hh_10.rt (M1 := []) [] rfl ht⟩, by rw [ht]; try exact hh_10.1.1, fun q h9 hq => by rw [ht]; try exact hh_10.1.2.1 q h9 hq⟩) hh_10.1.2.2 dX1_isSentence_31
set_option maxHeartbeats 4000000 in
set_option maxRecDepth 20000 in
theorem uX1_keepCheckedE (l : Launch) (dC : Nat → ClassId) (dI : Nat → Nat → Nat) (ca : Nat → ClassId) (base : Nat) (B : jF) (hB : jBok B) (hAp : jAp (dC, dI)) (hB3 : ∀ n G a H, B 3 n G a H ↔ jOb (dC, dI) 3 17 (F3 n G) a H) (hB11 : ∀ n G a H, B 11 n G a H ↔ jOb (dC, dI) 11 9 (F11 n G) a H) (hB101 : ∀ n G a H, B 101 n G a H ↔ jAr (dC, dI) (ca 1) (fun j z => True) n a H) (hB171 : ∀ n G a H, B 171 n G a H ↔ jAr (dC, dI) (ca 1) (fun j z => 0 ≤ z.toInt ∧ z.toInt ≤ 1500) n a H) (hB172 : ∀ n G a H, B 172 n G a H ↔ jAr (dC, dI) (ca 1) (fun j z => 0 ≤ z.toInt ∧ z.toInt ≤ 1500) n a H) (hB210 : ∀ n G a H, B 210 n G a H ↔ jAq (dC, dI) (ca 6) (jQn 11 0) n G a H) (G0 : jT) (H0 : Heap) (r0 : Nat) (sa_ : Nat) (ea_ : Nat) (ps : Int32) (pk : Int32) (ph : Nat) : Met l yX1_keepChecked (jw yX1_keepChecked cX1_keepChecked 3 (some .boolean)) ({ frames := 1, cells := 0, slots := 0, locals := 23 }) (va_Pc [.ref r0] (fun U => U.heap = H0 ∧ jX B base G0 [] H0 ∧ jG dC dI ca base U ∧ jK2 dC dI ca U ∧ G0 r0 = some (3, 0) ∧ G0 sa_ = some (171, 40) ∧ G0 ea_ = some (172, 40) ∧ jP (dC, dI) G0 H0 [(r0, 3, 5, .ref sa_), (r0, 3, 6, .ref ea_), (r0, 3, 4, .int ps), (r0, 3, 10, .int pk)] ∧ jIs (dC, dI) G0 H0 [(jFdo, jDcc dC dI ca G0 (some r0) ph)] ∧ 0 ≤ pk.toInt ∧ pk.toInt ≤ 40 ∧ 0 ≤ ps.toInt ∧ ps.toInt ≤ 40)) (va_Qi (S := Int32) (fun r u => (r = 0 ∨ r = 1) ∧ (0 ≤ u.toInt ∧ u.toInt ≤ ps.toInt ∧ u.toInt ≤ pk.toInt ∧ (r.toInt = 0 ∨ u.toInt < ps.toInt))) (fun u t => ((jRt (dC, dI) B base G0 EX1_keepCheckedE H0 [(r0, 3, 10, .int u)] t.heap) ∧ jOw (dC, dI) G0 3 r0 H0 t.heap) ∧ jIs (dC, dI) G0 t.heap [(jFdo, jDcc dC dI ca G0 (some r0) ph)]) (jA base)) 0 0 (jA base) := by
  refine Met.ofW (cc := cX1_keepChecked) (maxL := 3) (ret := (some .boolean)) (by decide) rfl ?_
  intro p e s m args below meth c s₁ Bd hml hv
  obtain ⟨rfl, hH0, hX, hG, hK2, hg_r0, hg_sa_, hg_ea_, hP0, hI0, hp0, hp1, hp2, hp3⟩ := hv
  have hK := hG.1
  have hx := Bd.exec
  have hb := Bd.bytes
  have hr := Bd.returns
  have hts := atoms_spec (ws := (jw yX1_keepChecked cX1_keepChecked 3 (some .boolean))) Bd.pre
  have htw : ∀ w ∈ jWl, w.before _ s = true := fun w h => hts w (List.mem_cons_of_mem _ h)
  have hown : s.vm.findClass RX1 = some m.cls := findClass_of_methodNamed Bd.named
  have hlocks := Bd.notSynchronized
  obtain ⟨Q, hQ⟩ : ∃ Q, Q = MQ below (va_Qi (S := Int32) (fun r u => (r = 0 ∨ r = 1) ∧ (0 ≤ u.toInt ∧ u.toInt ≤ ps.toInt ∧ u.toInt ≤ pk.toInt ∧ (r.toInt = 0 ∨ u.toInt < ps.toInt))) (fun u t => ((jRt (dC, dI) B base G0 EX1_keepCheckedE H0 [(r0, 3, 10, .int u)] t.heap) ∧ jOw (dC, dI) G0 3 r0 H0 t.heap) ∧ jIs (dC, dI) G0 t.heap [(jFdo, jDcc dC dI ca G0 (some r0) ph)]) (jA base)) ([.ref r0] : List Value).toArray s 0 0 (jA base) := ⟨_, rfl⟩
  rw [← hQ]
  have hl := lv_entry ([.ref r0]) (n := 3) (Nat.le_of_ble_eq_true rfl)
  rw [lg_entry_eq]
  generalize (lg_sl ([.ref r0]) ++ List.replicate (3 - (lg_sl ([.ref r0])).length) Slot.unset).toArray = ls at hl ⊢
  have hl : lv_has ls 3 [(0, .ref r0)] := hl
  generalize hR : (headSpec (jw yX1_keepChecked cX1_keepChecked 3 (some .boolean)) ({ frames := 1, cells := 0, slots := 0, locals := 23 })).room = R
  subst hH0
  have hh : jSt (dC, dI) B base G0 G0 EX1_keepCheckedE s.heap 0 0 [(r0, 3, 5, .ref sa_), (r0, 3, 6, .ref ea_), (r0, 3, 4, .int ps), (r0, 3, 10, .int pk)] [] [(jFdo, jDcc dC dI ca G0 (some r0) ph)] s.heap [] := jSt.start hX hP0 jMc.nil hI0
  clear hX hP0
  have hk0 : (0 : Int32).toInt = 0 := by decide
  have hk1 : (1 : Int32).toInt = 1 := by decide
  have hly_3_9 := htw (u_lay RX1 TX1 9) (jWc_wsX10 _ (u_in_lay (by decide)))
  have hly_3_10 := htw (u_lay RX1 TX1 10) (jWc_wsX10 _ (u_in_lay (by decide)))
  have hly_3_11 := htw (u_lay RX1 TX1 11) (jWc_wsX10 _ (u_in_lay (by decide)))
  have hly_11_1 := htw (u_lay RX9 TX9 1) (jWc_wsX90 _ (u_in_lay (by decide)))
  have hlk_72 := (htw (.fieldLink RX1 72 "ProofServer$Document" "checked" "I") (jWr_42 _ (List.mem_of_getElem? (i := 20) rfl)))
  have hlk_32 := (htw (.fieldLink RX1 32 "ProofServer$Document" "behind" "[LProofServer$State;") (jWr_10 _ (List.mem_of_getElem? (i := 12) rfl)))
  have hlk_98 := (htw (.fieldLink RX1 98 "ProofServer$State" "units" "[I") (jWr_42 _ (List.mem_of_getElem? (i := 21) rfl)))
  have hlk_105 := (htw (.fieldLink RX1 105 "ProofServer$Document" "checking" "[I") (jWr_42 _ (List.mem_of_getElem? (i := 22) rfl)))
  have hh_1 := hh.addI (jOw.ie (dC := dC) (dI := dI) (G0 := G0) (k := 3) (r := r0) (H0 := s.heap) (F := [(3, 0), (3, 1), (3, 2), (3, 3), (3, 4), (3, 5), (3, 6), (3, 7), (3, 8), (3, 9), (3, 10), (3, 11), (3, 12), (3, 13), (3, 14), (3, 15), (3, 16)]) (C := RX1) (T := TX1) (N := 17) rfl (by decide) hh.2.2.2.2.1 (jOw.rf))
  clear hh
  refine lv_iconst (v := 0) hx hb dX1_keepChecked_0 (by decide) ?_
  refine lv_istore_n (lv' := [(1, .int 0), (0, .ref r0)]) hx hb dX1_keepChecked_1 rfl hl (by decide) rfl (fun ls hl => ?_)
  obtain ⟨v_2, hv_2, hh_3⟩ := hh_1.pin (C := RX1) (T := TX1) (N := 17) hB3 rfl (by decide) hg_r0 (i := 9) (by decide) rfl
  obtain ⟨behind_4, rfl, hg_behind_4⟩ := hv_2
  have L2 : ∀ (N : Nat) (v1_5 : Int32) (H_5 : Heap) (locs_5 : List Loc), jSt (dC, dI) B base G0 G0 EX1_keepCheckedE s.heap 0 0 [(r0, 3, 9, .ref behind_4), (r0, 3, 5, .ref sa_), (r0, 3, 6, .ref ea_), (r0, 3, 4, .int ps), (r0, 3, 10, .int pk)] [] [([(3, 0), (3, 1), (3, 2), (3, 3), (3, 4), (3, 5), (3, 6), (3, 7), (3, 8), (3, 9), (3, 10), (3, 11), (3, 12), (3, 13), (3, 14), (3, 15), (3, 16)], jOw (dC, dI) G0 3 r0 s.heap), (jFdo, jDcc dC dI ca G0 (some r0) ph)] H_5 locs_5 → (0 ≤ v1_5.toInt ∧ v1_5.toInt ≤ pk.toInt ∧ v1_5.toInt ≤ ps.toInt) → (pk.toInt - v1_5.toInt : Int) < N → ∀ ls : Array Slot, lv_has ls 3 [(0, .ref r0), (1, .int v1_5)] → W p l e R s m ([.ref r0] : List Value).toArray below meth c H_5 locs_5 0 0 Q (F0 m 2 ls []) := by
    intro N
    induction N with
    | zero => intro v1_5 H_5 locs_5 hh_5  hi_5 hm; exact absurd hm (by omega)
    | succ N L2 =>
      intro v1_5 H_5 locs_5 hh_5  hi_5 hm_5 ls hl
      obtain ⟨hi_5_0, hi_5_1, hi_5_2⟩ := hi_5
      obtain ⟨fq_6, hfq_6a, hfq_6p⟩ := hh_5.aq hB210 (by decide) hg_behind_4
      have hh_7 := hh_5.addI (jQc.ie hfq_6a hg_behind_4 (by decide) (by decide))
      clear hh_5
      refine lv_iload_n hx hb dX1_keepChecked_2 rfl (lv_at hl 1 rfl) ?_
      refine lv_aload_n hx hb dX1_keepChecked_3 rfl (lv_at hl 0 rfl) ?_
      refine j7_read hx hb hown hK (C := RX1) (T := TX1) (N := 17) rfl hly_3_10 hlk_72 (hh_7.at 4 rfl) dX1_keepChecked_4 ?_
      refine lv_icmp_ge (tgt := 42) hx hb dX1_keepChecked_7 (by decide) (fun c_8 => ?_) (fun c_8 => ?_)
      · skip
        have c_8' : v1_5.toInt ≥ pk.toInt := jb_ge (rfl) (rfl) c_8
        refine lv_iload_n hx hb dX1_keepChecked_42 rfl (lv_at hl 1 rfl) ?_
        refine lv_aload_n hx hb dX1_keepChecked_43 rfl (lv_at hl 0 rfl) ?_
        refine j7_read hx hb hown hK (C := RX1) (T := TX1) (N := 17) rfl hly_3_10 hlk_72 (hh_7.at 4 rfl) dX1_keepChecked_44 ?_
        refine lv_icmp_ne (tgt := 73) hx hb dX1_keepChecked_47 (by decide) (fun c_9 => ?_) (fun c_9 => ?_)
        · skip
          have c_9' : v1_5.toInt ≠ pk.toInt := jb_ne (rfl) (rfl) c_9
          refine lv_iconst (v := 0) hx hb dX1_keepChecked_73 (by decide) ?_
          refine lv_istore_n (lv' := [(2, .int 0), (0, .ref r0), (1, .int v1_5)]) hx hb dX1_keepChecked_74 rfl hl (by decide) rfl (fun ls hl => ?_)
          refine lv_aload_n hx hb dX1_keepChecked_75 rfl (lv_at hl 1 rfl) ?_
          refine lv_iload_n hx hb dX1_keepChecked_76 rfl (lv_at hl 2 rfl) ?_
          have hd_11 := hh_7.iv 2 rfl
          have hd_115 := hh_7.at 1 rfl
          have hd_116 := hh_7.at 2 rfl
          have hd_11o := hh_7.iv 1 rfl
          have hh_12 := hh_7.sub (L1 := [(r0, 3, 9, .ref behind_4), (r0, 3, 5, .ref sa_), (r0, 3, 6, .ref ea_), (r0, 3, 4, .int ps), (r0, 3, 10, .int pk)]) [0, 1, 2, 3, 4] rfl (M1 := []) [] rfl (I1 := [([(210, 0)], jQc dC dI (ca 6) behind_4 40 fq_6)]) [0] rfl
          clear hh_7
          refine j7_putX hx hb hown hK hh_12 hB hAp hB3 (C := RX1) (T := TX1) (N := 17) rfl (by decide) hg_r0 (i := 10) (by decide) hly_3_10 rfl hlk_72 rfl (ty := .int) (v := .int v1_5) (by decide +kernel) rfl rfl (⟨_, rfl, by omega, by omega⟩) rfl (L1 := [(r0, 3, 9, .ref behind_4), (r0, 3, 5, .ref sa_), (r0, 3, 6, .ref ea_), (r0, 3, 4, .int ps)]) [0, 1, 2, 3] rfl rfl rfl dX1_keepChecked_77 (fun H_10 locs_10 hr_10 hh_10 => ?_)
          clear hh_12
          have hd_11n := jDcc.fld hd_11 hg_r0 hr_10 hd_115 hd_116 (hh_10.at 2 rfl) (hh_10.at 3 rfl)
          have hd_11on := jOw.put hd_11o hr_10
          have hh_13 := hh_10.addI (jDcc.ie hd_11n)
          clear hh_10
          have hh_14 := hh_13.addI (jOw.ie (dC := dC) (dI := dI) (G0 := G0) (k := 3) (r := r0) (H0 := s.heap) (F := [(3, 0), (3, 1), (3, 2), (3, 3), (3, 4), (3, 5), (3, 6), (3, 7), (3, 8), (3, 9), (3, 10), (3, 11), (3, 12), (3, 13), (3, 14), (3, 15), (3, 16)]) (C := RX1) (T := TX1) (N := 17) rfl (by decide) hh_13.2.2.2.2.1 (hd_11on))
          clear hh_13
          clear hd_11 hd_11n hd_115 hd_116 hr_10 hd_11o hd_11on
          refine lv_iload_n hx hb dX1_keepChecked_80 rfl (lv_at hl 0 rfl) ?_
          rw [hQ]
          exact W.zret (v := 0) hx hb hr (jb_nz (Or.inl rfl)) (fun t ht hW => ⟨⟨0, v1_5, rfl, ⟨(Or.inl rfl), by (try dsimp only); first | omega | (refine ⟨?_, ?_, ?_, ?_⟩ <;> (first | omega | rfl | assumption | decide | exact Or.inl rfl | exact Or.inr rfl | (simp only; omega)))⟩, ⟨⟨hh_14.rt (M1 := [(r0, 3, 10, .int v1_5)]) [0] rfl ht, by rw [ht]; exact hh_14.iv 0 rfl⟩, by rw [ht]; exact hh_14.2.2.2.2.2.2.2.2.sub (L1 := [(jFdo, jDcc dC dI ca G0 (some r0) ph)]) [1] rfl⟩⟩, by rw [ht]; try exact hh_14.1.1, fun q h9 hq => by rw [ht]; try exact hh_14.1.2.1 q h9 hq⟩) hh_14.1.2.2 dX1_keepChecked_81
        · skip
          have c_9' : v1_5.toInt = pk.toInt := jb_ne_n (rfl) (rfl) c_9
          refine lv_aload_n hx hb dX1_keepChecked_50 rfl (lv_at hl 0 rfl) ?_
          obtain ⟨v_15, hv_15, hh_16⟩ := hh_7.pin (C := RX1) (T := TX1) (N := 17) hB3 rfl (by decide) hg_r0 (i := 11) (by decide) rfl
          clear hh_7
          rcases hv_15 with rfl | ⟨checking_17, nchecking_17, rfl, hg_checking_17, hn_checking_17⟩
          · refine j7_read hx hb hown hK (C := RX1) (T := TX1) (N := 17) rfl hly_3_11 hlk_105 (hh_16.at 0 rfl) dX1_keepChecked_51 ?_
            refine lv_ifnullN (tgt := 73) hx hb dX1_keepChecked_54 (by decide) ?_
            refine lv_iconst (v := 0) hx hb dX1_keepChecked_73 (by decide) ?_
            refine lv_istore_n (lv' := [(2, .int 0), (0, .ref r0), (1, .int v1_5)]) hx hb dX1_keepChecked_74 rfl hl (by decide) rfl (fun ls hl => ?_)
            refine lv_aload_n hx hb dX1_keepChecked_75 rfl (lv_at hl 1 rfl) ?_
            refine lv_iload_n hx hb dX1_keepChecked_76 rfl (lv_at hl 2 rfl) ?_
            have hd_19 := hh_16.iv 2 rfl
            have hd_195 := hh_16.at 2 rfl
            have hd_196 := hh_16.at 3 rfl
            have hd_19o := hh_16.iv 1 rfl
            have hh_20 := hh_16.sub (L1 := [(r0, 3, 11, .null), (r0, 3, 9, .ref behind_4), (r0, 3, 5, .ref sa_), (r0, 3, 6, .ref ea_), (r0, 3, 4, .int ps), (r0, 3, 10, .int pk)]) [0, 1, 2, 3, 4, 5] rfl (M1 := []) [] rfl (I1 := [([(210, 0)], jQc dC dI (ca 6) behind_4 40 fq_6)]) [0] rfl
            clear hh_16
            refine j7_putX hx hb hown hK hh_20 hB hAp hB3 (C := RX1) (T := TX1) (N := 17) rfl (by decide) hg_r0 (i := 10) (by decide) hly_3_10 rfl hlk_72 rfl (ty := .int) (v := .int v1_5) (by decide +kernel) rfl rfl (⟨_, rfl, by omega, by omega⟩) rfl (L1 := [(r0, 3, 11, .null), (r0, 3, 9, .ref behind_4), (r0, 3, 5, .ref sa_), (r0, 3, 6, .ref ea_), (r0, 3, 4, .int ps)]) [0, 1, 2, 3, 4] rfl rfl rfl dX1_keepChecked_77 (fun H_18 locs_18 hr_18 hh_18 => ?_)
            clear hh_20
            have hd_19n := jDcc.fld hd_19 hg_r0 hr_18 hd_195 hd_196 (hh_18.at 3 rfl) (hh_18.at 4 rfl)
            have hd_19on := jOw.put hd_19o hr_18
            have hh_21 := hh_18.addI (jDcc.ie hd_19n)
            clear hh_18
            have hh_22 := hh_21.addI (jOw.ie (dC := dC) (dI := dI) (G0 := G0) (k := 3) (r := r0) (H0 := s.heap) (F := [(3, 0), (3, 1), (3, 2), (3, 3), (3, 4), (3, 5), (3, 6), (3, 7), (3, 8), (3, 9), (3, 10), (3, 11), (3, 12), (3, 13), (3, 14), (3, 15), (3, 16)]) (C := RX1) (T := TX1) (N := 17) rfl (by decide) hh_21.2.2.2.2.1 (hd_19on))
            clear hh_21
            clear hd_19 hd_19n hd_195 hd_196 hr_18 hd_19o hd_19on
            refine lv_iload_n hx hb dX1_keepChecked_80 rfl (lv_at hl 0 rfl) ?_
            rw [hQ]
            exact W.zret (v := 0) hx hb hr (jb_nz (Or.inl rfl)) (fun t ht hW => ⟨⟨0, v1_5, rfl, ⟨(Or.inl rfl), by (try dsimp only); first | omega | (refine ⟨?_, ?_, ?_, ?_⟩ <;> (first | omega | rfl | assumption | decide | exact Or.inl rfl | exact Or.inr rfl | (simp only; omega)))⟩, ⟨⟨hh_22.rt (M1 := [(r0, 3, 10, .int v1_5)]) [0] rfl ht, by rw [ht]; exact hh_22.iv 0 rfl⟩, by rw [ht]; exact hh_22.2.2.2.2.2.2.2.2.sub (L1 := [(jFdo, jDcc dC dI ca G0 (some r0) ph)]) [1] rfl⟩⟩, by rw [ht]; try exact hh_22.1.1, fun q h9 hq => by rw [ht]; try exact hh_22.1.2.1 q h9 hq⟩) hh_22.1.2.2 dX1_keepChecked_81
          · refine j7_read hx hb hown hK (C := RX1) (T := TX1) (N := 17) rfl hly_3_11 hlk_105 (hh_16.at 0 rfl) dX1_keepChecked_51 ?_
            refine lv_ifnull hx hb dX1_keepChecked_54 ?_
            refine lv_aload_n hx hb dX1_keepChecked_57 rfl (lv_at hl 0 rfl) ?_
            refine lv_iload_n hx hb dX1_keepChecked_58 rfl (lv_at hl 1 rfl) ?_
            refine lv_aload_n hx hb dX1_keepChecked_59 rfl (lv_at hl 0 rfl) ?_
            refine j7_read hx hb hown hK (C := RX1) (T := TX1) (N := 17) rfl hly_3_11 hlk_105 (hh_16.at 0 rfl) dX1_keepChecked_60 ?_
            refine va_calli (A0 := jA base) (H0 := s.heap) (va_runV (As := [.int v1_5, .ref checking_17]) (rest := []) ⟨hx, hb, hml, hown, hts⟩ (uX1_isSentenceE l dC dI ca base B hB hAp hB3 hB101 hB171 hB172 G0 H_5 r0 v1_5 checking_17 nchecking_17 ps) (cwV 2 hts (jgV (jWr_42 _ (List.mem_of_getElem? (i := 23) rfl)) (jWr_43 _ (List.mem_of_getElem? (i := 0) rfl)) (jWr_43 _ (List.mem_of_getElem? (i := 1) rfl)) (jWr_2 _ (List.mem_of_getElem? (i := 21) rfl)) (jWr_43 _ (List.mem_of_getElem? (i := 2) rfl))) rfl rfl rfl (by decide +kernel) ⟨by rw [← hR]; exact Nat.le_of_ble_eq_true rfl, by rw [← hR]; exact Nat.le_of_ble_eq_true rfl⟩) ⟨fun a U g mk q => by obtain ⟨q0, q1, q2, qK, q10, q11, q12, q13⟩ := q; exact ⟨q0, q1, q2, jG.calling g mk a qK, q10, q11, q12, q13⟩, hh_16.recv (C := RX1) (T := TX1) (N := 17) hB3 rfl (by decide) hg_r0 hK, fun U hU hW => ⟨rfl, hU, hh_16.2.1, hG.step hW hU hh_16.1, hg_r0, hg_checking_17, (hh_16.2.2.1.sub (L1 := [(r0, 3, 4, .int ps)]) [4] rfl), by first | omega | (refine ⟨?_, ?_⟩ <;> (first | omega | rfl | assumption | decide | exact Or.inl rfl | exact Or.inr rfl | (simp only; omega)))⟩⟩ rfl rfl hl.1 rfl (lv_room (Nat.le_of_ble_eq_true rfl)) dX1_keepChecked_63 ⟨Nat.zero_le _, Nat.zero_le _⟩) hh_16.1 (fun q _ h => h) (fun q h => h) (fun r_24 u_23 t_23 H_23 locs_23 ht_23 hvm_23 hr_24 hb_23 hz_23 hk_23 hS_23 => ?_)
            rw [ht_23] at hb_23
            obtain ⟨hb_231, hb_232, hb_233, hb_234, hb_235⟩ := hb_23
            have hh_23 : jSt (dC, dI) B base G0 G0 EX1_keepCheckedE s.heap 0 0 [(r0, 3, 11, .ref checking_17), (r0, 3, 9, .ref behind_4), (r0, 3, 5, .ref sa_), (r0, 3, 6, .ref ea_), (r0, 3, 4, .int ps), (r0, 3, 10, .int pk)] [] [([(210, 0)], jQc dC dI (ca 6) behind_4 40 fq_6), ([(3, 0), (3, 1), (3, 2), (3, 3), (3, 4), (3, 5), (3, 6), (3, 7), (3, 8), (3, 9), (3, 10), (3, 11), (3, 12), (3, 13), (3, 14), (3, 15), (3, 16)], jOw (dC, dI) G0 3 r0 s.heap), (jFdo, jDcc dC dI ca G0 (some r0) ph)] H_23 locs_23 := ((hh_16.call hb_231 hb_232 hb_233 hb_234 hS_23 rfl (L1 := [(r0, 3, 11, .ref checking_17), (r0, 3, 9, .ref behind_4), (r0, 3, 5, .ref sa_), (r0, 3, 6, .ref ea_), (r0, 3, 4, .int ps), (r0, 3, 10, .int pk)]) [0, 1, 2, 3, 4, 5] rfl rfl (M1 := []) [] rfl rfl (I1 := [([(210, 0)], jQc dC dI (ca 6) behind_4 40 fq_6), ([(3, 0), (3, 1), (3, 2), (3, 3), (3, 4), (3, 5), (3, 6), (3, 7), (3, 8), (3, 9), (3, 10), (3, 11), (3, 12), (3, 13), (3, 14), (3, 15), (3, 16)], jOw (dC, dI) G0 3 r0 s.heap), (jFdo, jDcc dC dI ca G0 (some r0) ph)]) [0, 1, 2] rfl rfl).more hb_235)
            clear hh_16 ht_23 hvm_23 hz_23 hk_23 hS_23 hb_231 hb_232 hb_233 hb_234 hb_235
            obtain ⟨hr_24b, hr_24p⟩ := hr_24
            have hr_24' := jb_01 hr_24b
            refine lv_if_eq (tgt := 73) hx hb dX1_keepChecked_66 (by decide) (fun c_25 => ?_) (fun c_25 => ?_)
            · skip
              have c_25' : r_24.toInt = 0 := jb_eq (rfl) ((by decide)) c_25
              first | (have hr_24pq := hr_24p.resolve_left (by omega); clear hr_24p) | (have hr_24pq := hr_24p.resolve_right (by omega); clear hr_24p) | try clear hr_24p
              refine lv_iconst (v := 0) hx hb dX1_keepChecked_73 (by decide) ?_
              refine lv_istore_n (lv' := [(2, .int 0), (0, .ref r0), (1, .int v1_5)]) hx hb dX1_keepChecked_74 rfl hl (by decide) rfl (fun ls hl => ?_)
              refine lv_aload_n hx hb dX1_keepChecked_75 rfl (lv_at hl 1 rfl) ?_
              refine lv_iload_n hx hb dX1_keepChecked_76 rfl (lv_at hl 2 rfl) ?_
              have hd_27 := hh_23.iv 2 rfl
              have hd_275 := hh_23.at 2 rfl
              have hd_276 := hh_23.at 3 rfl
              have hd_27o := hh_23.iv 1 rfl
              have hh_28 := hh_23.sub (L1 := [(r0, 3, 11, .ref checking_17), (r0, 3, 9, .ref behind_4), (r0, 3, 5, .ref sa_), (r0, 3, 6, .ref ea_), (r0, 3, 4, .int ps), (r0, 3, 10, .int pk)]) [0, 1, 2, 3, 4, 5] rfl (M1 := []) [] rfl (I1 := [([(210, 0)], jQc dC dI (ca 6) behind_4 40 fq_6)]) [0] rfl
              clear hh_23
              refine j7_putX hx hb hown hK hh_28 hB hAp hB3 (C := RX1) (T := TX1) (N := 17) rfl (by decide) hg_r0 (i := 10) (by decide) hly_3_10 rfl hlk_72 rfl (ty := .int) (v := .int v1_5) (by decide +kernel) rfl rfl (⟨_, rfl, by omega, by omega⟩) rfl (L1 := [(r0, 3, 11, .ref checking_17), (r0, 3, 9, .ref behind_4), (r0, 3, 5, .ref sa_), (r0, 3, 6, .ref ea_), (r0, 3, 4, .int ps)]) [0, 1, 2, 3, 4] rfl rfl rfl dX1_keepChecked_77 (fun H_26 locs_26 hr_26 hh_26 => ?_)
              clear hh_28
              have hd_27n := jDcc.fld hd_27 hg_r0 hr_26 hd_275 hd_276 (hh_26.at 3 rfl) (hh_26.at 4 rfl)
              have hd_27on := jOw.put hd_27o hr_26
              have hh_29 := hh_26.addI (jDcc.ie hd_27n)
              clear hh_26
              have hh_30 := hh_29.addI (jOw.ie (dC := dC) (dI := dI) (G0 := G0) (k := 3) (r := r0) (H0 := s.heap) (F := [(3, 0), (3, 1), (3, 2), (3, 3), (3, 4), (3, 5), (3, 6), (3, 7), (3, 8), (3, 9), (3, 10), (3, 11), (3, 12), (3, 13), (3, 14), (3, 15), (3, 16)]) (C := RX1) (T := TX1) (N := 17) rfl (by decide) hh_29.2.2.2.2.1 (hd_27on))
              clear hh_29
              clear hd_27 hd_27n hd_275 hd_276 hr_26 hd_27o hd_27on
              refine lv_iload_n hx hb dX1_keepChecked_80 rfl (lv_at hl 0 rfl) ?_
              rw [hQ]
              exact W.zret (v := 0) hx hb hr (jb_nz (Or.inl rfl)) (fun t ht hW => ⟨⟨0, v1_5, rfl, ⟨(Or.inl rfl), by (try dsimp only); first | omega | (refine ⟨?_, ?_, ?_, ?_⟩ <;> (first | omega | rfl | assumption | decide | exact Or.inl rfl | exact Or.inr rfl | (simp only; omega)))⟩, ⟨⟨hh_30.rt (M1 := [(r0, 3, 10, .int v1_5)]) [0] rfl ht, by rw [ht]; exact hh_30.iv 0 rfl⟩, by rw [ht]; exact hh_30.2.2.2.2.2.2.2.2.sub (L1 := [(jFdo, jDcc dC dI ca G0 (some r0) ph)]) [1] rfl⟩⟩, by rw [ht]; try exact hh_30.1.1, fun q h9 hq => by rw [ht]; try exact hh_30.1.2.1 q h9 hq⟩) hh_30.1.2.2 dX1_keepChecked_81
            · skip
              have c_25' : r_24.toInt ≠ 0 := jb_eq_n (rfl) ((by decide)) c_25
              first | (have hr_24pq := hr_24p.resolve_left (by omega); clear hr_24p) | (have hr_24pq := hr_24p.resolve_right (by omega); clear hr_24p) | try clear hr_24p
              refine lv_iconst (v := 1) hx hb dX1_keepChecked_69 (by decide) ?_
              refine lv_goto (tgt := 74) hx hb dX1_keepChecked_70 (by decide) ?_
              refine lv_istore_n (lv' := [(2, .int 1), (0, .ref r0), (1, .int v1_5)]) hx hb dX1_keepChecked_74 rfl hl (by decide) rfl (fun ls hl => ?_)
              refine lv_aload_n hx hb dX1_keepChecked_75 rfl (lv_at hl 1 rfl) ?_
              refine lv_iload_n hx hb dX1_keepChecked_76 rfl (lv_at hl 2 rfl) ?_
              have hd_32 := hh_23.iv 2 rfl
              have hd_325 := hh_23.at 2 rfl
              have hd_326 := hh_23.at 3 rfl
              have hd_32o := hh_23.iv 1 rfl
              have hh_33 := hh_23.sub (L1 := [(r0, 3, 11, .ref checking_17), (r0, 3, 9, .ref behind_4), (r0, 3, 5, .ref sa_), (r0, 3, 6, .ref ea_), (r0, 3, 4, .int ps), (r0, 3, 10, .int pk)]) [0, 1, 2, 3, 4, 5] rfl (M1 := []) [] rfl (I1 := [([(210, 0)], jQc dC dI (ca 6) behind_4 40 fq_6)]) [0] rfl
              clear hh_23
              refine j7_putX hx hb hown hK hh_33 hB hAp hB3 (C := RX1) (T := TX1) (N := 17) rfl (by decide) hg_r0 (i := 10) (by decide) hly_3_10 rfl hlk_72 rfl (ty := .int) (v := .int v1_5) (by decide +kernel) rfl rfl (⟨_, rfl, by omega, by omega⟩) rfl (L1 := [(r0, 3, 11, .ref checking_17), (r0, 3, 9, .ref behind_4), (r0, 3, 5, .ref sa_), (r0, 3, 6, .ref ea_), (r0, 3, 4, .int ps)]) [0, 1, 2, 3, 4] rfl rfl rfl dX1_keepChecked_77 (fun H_31 locs_31 hr_31 hh_31 => ?_)
              clear hh_33
              have hd_32n := jDcc.fld hd_32 hg_r0 hr_31 hd_325 hd_326 (hh_31.at 3 rfl) (hh_31.at 4 rfl)
              have hd_32on := jOw.put hd_32o hr_31
              have hh_34 := hh_31.addI (jDcc.ie hd_32n)
              clear hh_31
              have hh_35 := hh_34.addI (jOw.ie (dC := dC) (dI := dI) (G0 := G0) (k := 3) (r := r0) (H0 := s.heap) (F := [(3, 0), (3, 1), (3, 2), (3, 3), (3, 4), (3, 5), (3, 6), (3, 7), (3, 8), (3, 9), (3, 10), (3, 11), (3, 12), (3, 13), (3, 14), (3, 15), (3, 16)]) (C := RX1) (T := TX1) (N := 17) rfl (by decide) hh_34.2.2.2.2.1 (hd_32on))
              clear hh_34
              clear hd_32 hd_32n hd_325 hd_326 hr_31 hd_32o hd_32on
              refine lv_iload_n hx hb dX1_keepChecked_80 rfl (lv_at hl 0 rfl) ?_
              rw [hQ]
              exact W.zret (v := 1) hx hb hr (jb_nz (Or.inr rfl)) (fun t ht hW => ⟨⟨1, v1_5, rfl, ⟨(Or.inr rfl), by (try dsimp only); first | omega | (refine ⟨?_, ?_, ?_, ?_⟩ <;> (first | omega | rfl | assumption | decide | exact Or.inl rfl | exact Or.inr rfl | (simp only; omega)))⟩, ⟨⟨hh_35.rt (M1 := [(r0, 3, 10, .int v1_5)]) [0] rfl ht, by rw [ht]; exact hh_35.iv 0 rfl⟩, by rw [ht]; exact hh_35.2.2.2.2.2.2.2.2.sub (L1 := [(jFdo, jDcc dC dI ca G0 (some r0) ph)]) [1] rfl⟩⟩, by rw [ht]; try exact hh_35.1.1, fun q h9 hq => by rw [ht]; try exact hh_35.1.2.1 q h9 hq⟩) hh_35.1.2.2 dX1_keepChecked_81
      · skip
        have c_8' : v1_5.toInt < pk.toInt := jb_ge_n (rfl) (rfl) c_8
        refine lv_aload_n hx hb dX1_keepChecked_10 rfl (lv_at hl 0 rfl) ?_
        refine j7_read hx hb hown hK (C := RX1) (T := TX1) (N := 17) rfl hly_3_9 hlk_32 (hh_7.at 0 rfl) dX1_keepChecked_11 ?_
        refine lv_iload_n hx hb dX1_keepChecked_14 rfl (lv_at hl 1 rfl) ?_
        refine j7_qaldI hx hb hK2 hh_7 hB210 2 rfl (by decide) hg_behind_4 (x := v1_5.toInt) (rfl) (by omega) (hh_7.iv 0 rfl) dX1_keepChecked_15 (fun o_36 ho_36 heo_36 => ?_)
        rcases ho_36 with rfl | ⟨el_37, rfl, hg_el_37⟩
        · simp only [va_rf]
          refine lv_ifnullN (tgt := 42) hx hb dX1_keepChecked_16 (by decide) ?_
          refine lv_iload_n hx hb dX1_keepChecked_42 rfl (lv_at hl 1 rfl) ?_
          refine lv_aload_n hx hb dX1_keepChecked_43 rfl (lv_at hl 0 rfl) ?_
          refine j7_read hx hb hown hK (C := RX1) (T := TX1) (N := 17) rfl hly_3_10 hlk_72 (hh_7.at 4 rfl) dX1_keepChecked_44 ?_
          refine lv_icmp_ne (tgt := 73) hx hb dX1_keepChecked_47 (by decide) (fun c_38 => ?_) (fun c_38 => ?_)
          · skip
            have c_38' : v1_5.toInt ≠ pk.toInt := jb_ne (rfl) (rfl) c_38
            refine lv_iconst (v := 0) hx hb dX1_keepChecked_73 (by decide) ?_
            refine lv_istore_n (lv' := [(2, .int 0), (0, .ref r0), (1, .int v1_5)]) hx hb dX1_keepChecked_74 rfl hl (by decide) rfl (fun ls hl => ?_)
            refine lv_aload_n hx hb dX1_keepChecked_75 rfl (lv_at hl 1 rfl) ?_
            refine lv_iload_n hx hb dX1_keepChecked_76 rfl (lv_at hl 2 rfl) ?_
            have hd_40 := hh_7.iv 2 rfl
            have hd_405 := hh_7.at 1 rfl
            have hd_406 := hh_7.at 2 rfl
            have hd_40o := hh_7.iv 1 rfl
            have hh_41 := hh_7.sub (L1 := [(r0, 3, 9, .ref behind_4), (r0, 3, 5, .ref sa_), (r0, 3, 6, .ref ea_), (r0, 3, 4, .int ps), (r0, 3, 10, .int pk)]) [0, 1, 2, 3, 4] rfl (M1 := []) [] rfl (I1 := [([(210, 0)], jQc dC dI (ca 6) behind_4 40 fq_6)]) [0] rfl
            clear hh_7
            refine j7_putX hx hb hown hK hh_41 hB hAp hB3 (C := RX1) (T := TX1) (N := 17) rfl (by decide) hg_r0 (i := 10) (by decide) hly_3_10 rfl hlk_72 rfl (ty := .int) (v := .int v1_5) (by decide +kernel) rfl rfl (⟨_, rfl, by omega, by omega⟩) rfl (L1 := [(r0, 3, 9, .ref behind_4), (r0, 3, 5, .ref sa_), (r0, 3, 6, .ref ea_), (r0, 3, 4, .int ps)]) [0, 1, 2, 3] rfl rfl rfl dX1_keepChecked_77 (fun H_39 locs_39 hr_39 hh_39 => ?_)
            clear hh_41
            have hd_40n := jDcc.fld hd_40 hg_r0 hr_39 hd_405 hd_406 (hh_39.at 2 rfl) (hh_39.at 3 rfl)
            have hd_40on := jOw.put hd_40o hr_39
            have hh_42 := hh_39.addI (jDcc.ie hd_40n)
            clear hh_39
            have hh_43 := hh_42.addI (jOw.ie (dC := dC) (dI := dI) (G0 := G0) (k := 3) (r := r0) (H0 := s.heap) (F := [(3, 0), (3, 1), (3, 2), (3, 3), (3, 4), (3, 5), (3, 6), (3, 7), (3, 8), (3, 9), (3, 10), (3, 11), (3, 12), (3, 13), (3, 14), (3, 15), (3, 16)]) (C := RX1) (T := TX1) (N := 17) rfl (by decide) hh_42.2.2.2.2.1 (hd_40on))
            clear hh_42
            clear hd_40 hd_40n hd_405 hd_406 hr_39 hd_40o hd_40on
            refine lv_iload_n hx hb dX1_keepChecked_80 rfl (lv_at hl 0 rfl) ?_
            rw [hQ]
            exact W.zret (v := 0) hx hb hr (jb_nz (Or.inl rfl)) (fun t ht hW => ⟨⟨0, v1_5, rfl, ⟨(Or.inl rfl), by (try dsimp only); first | omega | (refine ⟨?_, ?_, ?_, ?_⟩ <;> (first | omega | rfl | assumption | decide | exact Or.inl rfl | exact Or.inr rfl | (simp only; omega)))⟩, ⟨⟨hh_43.rt (M1 := [(r0, 3, 10, .int v1_5)]) [0] rfl ht, by rw [ht]; exact hh_43.iv 0 rfl⟩, by rw [ht]; exact hh_43.2.2.2.2.2.2.2.2.sub (L1 := [(jFdo, jDcc dC dI ca G0 (some r0) ph)]) [1] rfl⟩⟩, by rw [ht]; try exact hh_43.1.1, fun q h9 hq => by rw [ht]; try exact hh_43.1.2.1 q h9 hq⟩) hh_43.1.2.2 dX1_keepChecked_81
          · skip
            have c_38' : v1_5.toInt = pk.toInt := jb_ne_n (rfl) (rfl) c_38
            refine lv_aload_n hx hb dX1_keepChecked_50 rfl (lv_at hl 0 rfl) ?_
            obtain ⟨v_44, hv_44, hh_45⟩ := hh_7.pin (C := RX1) (T := TX1) (N := 17) hB3 rfl (by decide) hg_r0 (i := 11) (by decide) rfl
            clear hh_7
            rcases hv_44 with rfl | ⟨checking_46, nchecking_46, rfl, hg_checking_46, hn_checking_46⟩
            · refine j7_read hx hb hown hK (C := RX1) (T := TX1) (N := 17) rfl hly_3_11 hlk_105 (hh_45.at 0 rfl) dX1_keepChecked_51 ?_
              refine lv_ifnullN (tgt := 73) hx hb dX1_keepChecked_54 (by decide) ?_
              refine lv_iconst (v := 0) hx hb dX1_keepChecked_73 (by decide) ?_
              refine lv_istore_n (lv' := [(2, .int 0), (0, .ref r0), (1, .int v1_5)]) hx hb dX1_keepChecked_74 rfl hl (by decide) rfl (fun ls hl => ?_)
              refine lv_aload_n hx hb dX1_keepChecked_75 rfl (lv_at hl 1 rfl) ?_
              refine lv_iload_n hx hb dX1_keepChecked_76 rfl (lv_at hl 2 rfl) ?_
              have hd_48 := hh_45.iv 2 rfl
              have hd_485 := hh_45.at 2 rfl
              have hd_486 := hh_45.at 3 rfl
              have hd_48o := hh_45.iv 1 rfl
              have hh_49 := hh_45.sub (L1 := [(r0, 3, 11, .null), (r0, 3, 9, .ref behind_4), (r0, 3, 5, .ref sa_), (r0, 3, 6, .ref ea_), (r0, 3, 4, .int ps), (r0, 3, 10, .int pk)]) [0, 1, 2, 3, 4, 5] rfl (M1 := []) [] rfl (I1 := [([(210, 0)], jQc dC dI (ca 6) behind_4 40 fq_6)]) [0] rfl
              clear hh_45
              refine j7_putX hx hb hown hK hh_49 hB hAp hB3 (C := RX1) (T := TX1) (N := 17) rfl (by decide) hg_r0 (i := 10) (by decide) hly_3_10 rfl hlk_72 rfl (ty := .int) (v := .int v1_5) (by decide +kernel) rfl rfl (⟨_, rfl, by omega, by omega⟩) rfl (L1 := [(r0, 3, 11, .null), (r0, 3, 9, .ref behind_4), (r0, 3, 5, .ref sa_), (r0, 3, 6, .ref ea_), (r0, 3, 4, .int ps)]) [0, 1, 2, 3, 4] rfl rfl rfl dX1_keepChecked_77 (fun H_47 locs_47 hr_47 hh_47 => ?_)
              clear hh_49
              have hd_48n := jDcc.fld hd_48 hg_r0 hr_47 hd_485 hd_486 (hh_47.at 3 rfl) (hh_47.at 4 rfl)
              have hd_48on := jOw.put hd_48o hr_47
              have hh_50 := hh_47.addI (jDcc.ie hd_48n)
              clear hh_47
              have hh_51 := hh_50.addI (jOw.ie (dC := dC) (dI := dI) (G0 := G0) (k := 3) (r := r0) (H0 := s.heap) (F := [(3, 0), (3, 1), (3, 2), (3, 3), (3, 4), (3, 5), (3, 6), (3, 7), (3, 8), (3, 9), (3, 10), (3, 11), (3, 12), (3, 13), (3, 14), (3, 15), (3, 16)]) (C := RX1) (T := TX1) (N := 17) rfl (by decide) hh_50.2.2.2.2.1 (hd_48on))
              clear hh_50
              clear hd_48 hd_48n hd_485 hd_486 hr_47 hd_48o hd_48on
              refine lv_iload_n hx hb dX1_keepChecked_80 rfl (lv_at hl 0 rfl) ?_
              rw [hQ]
              exact W.zret (v := 0) hx hb hr (jb_nz (Or.inl rfl)) (fun t ht hW => ⟨⟨0, v1_5, rfl, ⟨(Or.inl rfl), by (try dsimp only); first | omega | (refine ⟨?_, ?_, ?_, ?_⟩ <;> (first | omega | rfl | assumption | decide | exact Or.inl rfl | exact Or.inr rfl | (simp only; omega)))⟩, ⟨⟨hh_51.rt (M1 := [(r0, 3, 10, .int v1_5)]) [0] rfl ht, by rw [ht]; exact hh_51.iv 0 rfl⟩, by rw [ht]; exact hh_51.2.2.2.2.2.2.2.2.sub (L1 := [(jFdo, jDcc dC dI ca G0 (some r0) ph)]) [1] rfl⟩⟩, by rw [ht]; try exact hh_51.1.1, fun q h9 hq => by rw [ht]; try exact hh_51.1.2.1 q h9 hq⟩) hh_51.1.2.2 dX1_keepChecked_81
            · refine j7_read hx hb hown hK (C := RX1) (T := TX1) (N := 17) rfl hly_3_11 hlk_105 (hh_45.at 0 rfl) dX1_keepChecked_51 ?_
              refine lv_ifnull hx hb dX1_keepChecked_54 ?_
              refine lv_aload_n hx hb dX1_keepChecked_57 rfl (lv_at hl 0 rfl) ?_
              refine lv_iload_n hx hb dX1_keepChecked_58 rfl (lv_at hl 1 rfl) ?_
              refine lv_aload_n hx hb dX1_keepChecked_59 rfl (lv_at hl 0 rfl) ?_
              refine j7_read hx hb hown hK (C := RX1) (T := TX1) (N := 17) rfl hly_3_11 hlk_105 (hh_45.at 0 rfl) dX1_keepChecked_60 ?_
              refine va_calli (A0 := jA base) (H0 := s.heap) (va_runV (As := [.int v1_5, .ref checking_46]) (rest := []) ⟨hx, hb, hml, hown, hts⟩ (uX1_isSentenceE l dC dI ca base B hB hAp hB3 hB101 hB171 hB172 G0 H_5 r0 v1_5 checking_46 nchecking_46 ps) (cwV 2 hts (jgV (jWr_42 _ (List.mem_of_getElem? (i := 23) rfl)) (jWr_43 _ (List.mem_of_getElem? (i := 0) rfl)) (jWr_43 _ (List.mem_of_getElem? (i := 1) rfl)) (jWr_2 _ (List.mem_of_getElem? (i := 21) rfl)) (jWr_43 _ (List.mem_of_getElem? (i := 2) rfl))) rfl rfl rfl (by decide +kernel) ⟨by rw [← hR]; exact Nat.le_of_ble_eq_true rfl, by rw [← hR]; exact Nat.le_of_ble_eq_true rfl⟩) ⟨fun a U g mk q => by obtain ⟨q0, q1, q2, qK, q10, q11, q12, q13⟩ := q; exact ⟨q0, q1, q2, jG.calling g mk a qK, q10, q11, q12, q13⟩, hh_45.recv (C := RX1) (T := TX1) (N := 17) hB3 rfl (by decide) hg_r0 hK, fun U hU hW => ⟨rfl, hU, hh_45.2.1, hG.step hW hU hh_45.1, hg_r0, hg_checking_46, (hh_45.2.2.1.sub (L1 := [(r0, 3, 4, .int ps)]) [4] rfl), by first | omega | (refine ⟨?_, ?_⟩ <;> (first | omega | rfl | assumption | decide | exact Or.inl rfl | exact Or.inr rfl | (simp only; omega)))⟩⟩ rfl rfl hl.1 rfl (lv_room (Nat.le_of_ble_eq_true rfl)) dX1_keepChecked_63 ⟨Nat.zero_le _, Nat.zero_le _⟩) hh_45.1 (fun q _ h => h) (fun q h => h) (fun r_53 u_52 t_52 H_52 locs_52 ht_52 hvm_52 hr_53 hb_52 hz_52 hk_52 hS_52 => ?_)
              rw [ht_52] at hb_52
              obtain ⟨hb_521, hb_522, hb_523, hb_524, hb_525⟩ := hb_52
              have hh_52 : jSt (dC, dI) B base G0 G0 EX1_keepCheckedE s.heap 0 0 [(r0, 3, 11, .ref checking_46), (r0, 3, 9, .ref behind_4), (r0, 3, 5, .ref sa_), (r0, 3, 6, .ref ea_), (r0, 3, 4, .int ps), (r0, 3, 10, .int pk)] [] [([(210, 0)], jQc dC dI (ca 6) behind_4 40 fq_6), ([(3, 0), (3, 1), (3, 2), (3, 3), (3, 4), (3, 5), (3, 6), (3, 7), (3, 8), (3, 9), (3, 10), (3, 11), (3, 12), (3, 13), (3, 14), (3, 15), (3, 16)], jOw (dC, dI) G0 3 r0 s.heap), (jFdo, jDcc dC dI ca G0 (some r0) ph)] H_52 locs_52 := ((hh_45.call hb_521 hb_522 hb_523 hb_524 hS_52 rfl (L1 := [(r0, 3, 11, .ref checking_46), (r0, 3, 9, .ref behind_4), (r0, 3, 5, .ref sa_), (r0, 3, 6, .ref ea_), (r0, 3, 4, .int ps), (r0, 3, 10, .int pk)]) [0, 1, 2, 3, 4, 5] rfl rfl (M1 := []) [] rfl rfl (I1 := [([(210, 0)], jQc dC dI (ca 6) behind_4 40 fq_6), ([(3, 0), (3, 1), (3, 2), (3, 3), (3, 4), (3, 5), (3, 6), (3, 7), (3, 8), (3, 9), (3, 10), (3, 11), (3, 12), (3, 13), (3, 14), (3, 15), (3, 16)], jOw (dC, dI) G0 3 r0 s.heap), (jFdo, jDcc dC dI ca G0 (some r0) ph)]) [0, 1, 2] rfl rfl).more hb_525)
              clear hh_45 ht_52 hvm_52 hz_52 hk_52 hS_52 hb_521 hb_522 hb_523 hb_524 hb_525
              obtain ⟨hr_53b, hr_53p⟩ := hr_53
              have hr_53' := jb_01 hr_53b
              refine lv_if_eq (tgt := 73) hx hb dX1_keepChecked_66 (by decide) (fun c_54 => ?_) (fun c_54 => ?_)
              · skip
                have c_54' : r_53.toInt = 0 := jb_eq (rfl) ((by decide)) c_54
                first | (have hr_53pq := hr_53p.resolve_left (by omega); clear hr_53p) | (have hr_53pq := hr_53p.resolve_right (by omega); clear hr_53p) | try clear hr_53p
                refine lv_iconst (v := 0) hx hb dX1_keepChecked_73 (by decide) ?_
                refine lv_istore_n (lv' := [(2, .int 0), (0, .ref r0), (1, .int v1_5)]) hx hb dX1_keepChecked_74 rfl hl (by decide) rfl (fun ls hl => ?_)
                refine lv_aload_n hx hb dX1_keepChecked_75 rfl (lv_at hl 1 rfl) ?_
                refine lv_iload_n hx hb dX1_keepChecked_76 rfl (lv_at hl 2 rfl) ?_
                have hd_56 := hh_52.iv 2 rfl
                have hd_565 := hh_52.at 2 rfl
                have hd_566 := hh_52.at 3 rfl
                have hd_56o := hh_52.iv 1 rfl
                have hh_57 := hh_52.sub (L1 := [(r0, 3, 11, .ref checking_46), (r0, 3, 9, .ref behind_4), (r0, 3, 5, .ref sa_), (r0, 3, 6, .ref ea_), (r0, 3, 4, .int ps), (r0, 3, 10, .int pk)]) [0, 1, 2, 3, 4, 5] rfl (M1 := []) [] rfl (I1 := [([(210, 0)], jQc dC dI (ca 6) behind_4 40 fq_6)]) [0] rfl
                clear hh_52
                refine j7_putX hx hb hown hK hh_57 hB hAp hB3 (C := RX1) (T := TX1) (N := 17) rfl (by decide) hg_r0 (i := 10) (by decide) hly_3_10 rfl hlk_72 rfl (ty := .int) (v := .int v1_5) (by decide +kernel) rfl rfl (⟨_, rfl, by omega, by omega⟩) rfl (L1 := [(r0, 3, 11, .ref checking_46), (r0, 3, 9, .ref behind_4), (r0, 3, 5, .ref sa_), (r0, 3, 6, .ref ea_), (r0, 3, 4, .int ps)]) [0, 1, 2, 3, 4] rfl rfl rfl dX1_keepChecked_77 (fun H_55 locs_55 hr_55 hh_55 => ?_)
                clear hh_57
                have hd_56n := jDcc.fld hd_56 hg_r0 hr_55 hd_565 hd_566 (hh_55.at 3 rfl) (hh_55.at 4 rfl)
                have hd_56on := jOw.put hd_56o hr_55
                have hh_58 := hh_55.addI (jDcc.ie hd_56n)
                clear hh_55
                have hh_59 := hh_58.addI (jOw.ie (dC := dC) (dI := dI) (G0 := G0) (k := 3) (r := r0) (H0 := s.heap) (F := [(3, 0), (3, 1), (3, 2), (3, 3), (3, 4), (3, 5), (3, 6), (3, 7), (3, 8), (3, 9), (3, 10), (3, 11), (3, 12), (3, 13), (3, 14), (3, 15), (3, 16)]) (C := RX1) (T := TX1) (N := 17) rfl (by decide) hh_58.2.2.2.2.1 (hd_56on))
                clear hh_58
                clear hd_56 hd_56n hd_565 hd_566 hr_55 hd_56o hd_56on
                refine lv_iload_n hx hb dX1_keepChecked_80 rfl (lv_at hl 0 rfl) ?_
                rw [hQ]
                exact W.zret (v := 0) hx hb hr (jb_nz (Or.inl rfl)) (fun t ht hW => ⟨⟨0, v1_5, rfl, ⟨(Or.inl rfl), by (try dsimp only); first | omega | (refine ⟨?_, ?_, ?_, ?_⟩ <;> (first | omega | rfl | assumption | decide | exact Or.inl rfl | exact Or.inr rfl | (simp only; omega)))⟩, ⟨⟨hh_59.rt (M1 := [(r0, 3, 10, .int v1_5)]) [0] rfl ht, by rw [ht]; exact hh_59.iv 0 rfl⟩, by rw [ht]; exact hh_59.2.2.2.2.2.2.2.2.sub (L1 := [(jFdo, jDcc dC dI ca G0 (some r0) ph)]) [1] rfl⟩⟩, by rw [ht]; try exact hh_59.1.1, fun q h9 hq => by rw [ht]; try exact hh_59.1.2.1 q h9 hq⟩) hh_59.1.2.2 dX1_keepChecked_81
              · skip
                have c_54' : r_53.toInt ≠ 0 := jb_eq_n (rfl) ((by decide)) c_54
                first | (have hr_53pq := hr_53p.resolve_left (by omega); clear hr_53p) | (have hr_53pq := hr_53p.resolve_right (by omega); clear hr_53p) | try clear hr_53p
                refine lv_iconst (v := 1) hx hb dX1_keepChecked_69 (by decide) ?_
                refine lv_goto (tgt := 74) hx hb dX1_keepChecked_70 (by decide) ?_
                refine lv_istore_n (lv' := [(2, .int 1), (0, .ref r0), (1, .int v1_5)]) hx hb dX1_keepChecked_74 rfl hl (by decide) rfl (fun ls hl => ?_)
                refine lv_aload_n hx hb dX1_keepChecked_75 rfl (lv_at hl 1 rfl) ?_
                refine lv_iload_n hx hb dX1_keepChecked_76 rfl (lv_at hl 2 rfl) ?_
                have hd_61 := hh_52.iv 2 rfl
                have hd_615 := hh_52.at 2 rfl
                have hd_616 := hh_52.at 3 rfl
                have hd_61o := hh_52.iv 1 rfl
                have hh_62 := hh_52.sub (L1 := [(r0, 3, 11, .ref checking_46), (r0, 3, 9, .ref behind_4), (r0, 3, 5, .ref sa_), (r0, 3, 6, .ref ea_), (r0, 3, 4, .int ps), (r0, 3, 10, .int pk)]) [0, 1, 2, 3, 4, 5] rfl (M1 := []) [] rfl (I1 := [([(210, 0)], jQc dC dI (ca 6) behind_4 40 fq_6)]) [0] rfl
                clear hh_52
                refine j7_putX hx hb hown hK hh_62 hB hAp hB3 (C := RX1) (T := TX1) (N := 17) rfl (by decide) hg_r0 (i := 10) (by decide) hly_3_10 rfl hlk_72 rfl (ty := .int) (v := .int v1_5) (by decide +kernel) rfl rfl (⟨_, rfl, by omega, by omega⟩) rfl (L1 := [(r0, 3, 11, .ref checking_46), (r0, 3, 9, .ref behind_4), (r0, 3, 5, .ref sa_), (r0, 3, 6, .ref ea_), (r0, 3, 4, .int ps)]) [0, 1, 2, 3, 4] rfl rfl rfl dX1_keepChecked_77 (fun H_60 locs_60 hr_60 hh_60 => ?_)
                clear hh_62
                have hd_61n := jDcc.fld hd_61 hg_r0 hr_60 hd_615 hd_616 (hh_60.at 3 rfl) (hh_60.at 4 rfl)
                have hd_61on := jOw.put hd_61o hr_60
                have hh_63 := hh_60.addI (jDcc.ie hd_61n)
                clear hh_60
                have hh_64 := hh_63.addI (jOw.ie (dC := dC) (dI := dI) (G0 := G0) (k := 3) (r := r0) (H0 := s.heap) (F := [(3, 0), (3, 1), (3, 2), (3, 3), (3, 4), (3, 5), (3, 6), (3, 7), (3, 8), (3, 9), (3, 10), (3, 11), (3, 12), (3, 13), (3, 14), (3, 15), (3, 16)]) (C := RX1) (T := TX1) (N := 17) rfl (by decide) hh_63.2.2.2.2.1 (hd_61on))
                clear hh_63
                clear hd_61 hd_61n hd_615 hd_616 hr_60 hd_61o hd_61on
                refine lv_iload_n hx hb dX1_keepChecked_80 rfl (lv_at hl 0 rfl) ?_
                rw [hQ]
                exact W.zret (v := 1) hx hb hr (jb_nz (Or.inr rfl)) (fun t ht hW => ⟨⟨1, v1_5, rfl, ⟨(Or.inr rfl), by (try dsimp only); first | omega | (refine ⟨?_, ?_, ?_, ?_⟩ <;> (first | omega | rfl | assumption | decide | exact Or.inl rfl | exact Or.inr rfl | (simp only; omega)))⟩, ⟨⟨hh_64.rt (M1 := [(r0, 3, 10, .int v1_5)]) [0] rfl ht, by rw [ht]; exact hh_64.iv 0 rfl⟩, by rw [ht]; exact hh_64.2.2.2.2.2.2.2.2.sub (L1 := [(jFdo, jDcc dC dI ca G0 (some r0) ph)]) [1] rfl⟩⟩, by rw [ht]; try exact hh_64.1.1, fun q h9 hq => by rw [ht]; try exact hh_64.1.2.1 q h9 hq⟩) hh_64.1.2.2 dX1_keepChecked_81
        · simp only [va_rf]
          refine lv_ifnull hx hb dX1_keepChecked_16 ?_
          refine lv_aload_n hx hb dX1_keepChecked_19 rfl (lv_at hl 0 rfl) ?_
          refine lv_iload_n hx hb dX1_keepChecked_20 rfl (lv_at hl 1 rfl) ?_
          refine lv_aload_n hx hb dX1_keepChecked_21 rfl (lv_at hl 0 rfl) ?_
          refine j7_read hx hb hown hK (C := RX1) (T := TX1) (N := 17) rfl hly_3_9 hlk_32 (hh_7.at 0 rfl) dX1_keepChecked_22 ?_
          refine lv_iload_n hx hb dX1_keepChecked_25 rfl (lv_at hl 1 rfl) ?_
          refine j7_qaldI hx hb hK2 hh_7 hB210 2 rfl (by decide) hg_behind_4 (x := v1_5.toInt) (rfl) (by omega) (hh_7.iv 0 rfl) dX1_keepChecked_26 (fun o_65 ho_65 heo_65 => ?_)
          rcases ho_65 with rfl | ⟨el_66, rfl, hg_el_66⟩
          · simp only [va_rf]
            exact absurd (heo_65.trans heo_36.symm) (by simp)
          · simp only [va_rf]
            obtain rfl : el_37 = el_66 := (Option.some.inj (heo_65.trans heo_36.symm)).symm
            obtain ⟨v_67, hv_67, hh_68⟩ := hh_7.pin (C := RX9) (T := TX9) (N := 9) hB11 rfl (by decide) hg_el_37 (i := 1) (by decide) rfl
            clear hh_7
            obtain ⟨units_69, nunits_69, rfl, hg_units_69, hn_units_69⟩ := hv_67
            refine j7_read hx hb hown hK (C := RX9) (T := TX9) (N := 9) rfl hly_11_1 hlk_98 (hh_68.at 0 rfl) dX1_keepChecked_27 ?_
            refine va_calli (A0 := jA base) (H0 := s.heap) (va_runV (As := [.int v1_5, .ref units_69]) (rest := []) ⟨hx, hb, hml, hown, hts⟩ (uX1_isSentenceE l dC dI ca base B hB hAp hB3 hB101 hB171 hB172 G0 H_5 r0 v1_5 units_69 nunits_69 ps) (cwV 2 hts (jgV (jWr_42 _ (List.mem_of_getElem? (i := 23) rfl)) (jWr_43 _ (List.mem_of_getElem? (i := 0) rfl)) (jWr_43 _ (List.mem_of_getElem? (i := 1) rfl)) (jWr_2 _ (List.mem_of_getElem? (i := 21) rfl)) (jWr_43 _ (List.mem_of_getElem? (i := 2) rfl))) rfl rfl rfl (by decide +kernel) ⟨by rw [← hR]; exact Nat.le_of_ble_eq_true rfl, by rw [← hR]; exact Nat.le_of_ble_eq_true rfl⟩) ⟨fun a U g mk q => by obtain ⟨q0, q1, q2, qK, q10, q11, q12, q13⟩ := q; exact ⟨q0, q1, q2, jG.calling g mk a qK, q10, q11, q12, q13⟩, hh_68.recv (C := RX1) (T := TX1) (N := 17) hB3 rfl (by decide) hg_r0 hK, fun U hU hW => ⟨rfl, hU, hh_68.2.1, hG.step hW hU hh_68.1, hg_r0, hg_units_69, (hh_68.2.2.1.sub (L1 := [(r0, 3, 4, .int ps)]) [4] rfl), by first | omega | (refine ⟨?_, ?_⟩ <;> (first | omega | rfl | assumption | decide | exact Or.inl rfl | exact Or.inr rfl | (simp only; omega)))⟩⟩ rfl rfl hl.1 rfl (lv_room (Nat.le_of_ble_eq_true rfl)) dX1_keepChecked_30 ⟨Nat.zero_le _, Nat.zero_le _⟩) hh_68.1 (fun q _ h => h) (fun q h => h) (fun r_71 u_70 t_70 H_70 locs_70 ht_70 hvm_70 hr_71 hb_70 hz_70 hk_70 hS_70 => ?_)
            rw [ht_70] at hb_70
            obtain ⟨hb_701, hb_702, hb_703, hb_704, hb_705⟩ := hb_70
            have hh_70 : jSt (dC, dI) B base G0 G0 EX1_keepCheckedE s.heap 0 0 [(el_37, 11, 1, .ref units_69), (r0, 3, 9, .ref behind_4), (r0, 3, 5, .ref sa_), (r0, 3, 6, .ref ea_), (r0, 3, 4, .int ps), (r0, 3, 10, .int pk)] [] [([(210, 0)], jQc dC dI (ca 6) behind_4 40 fq_6), ([(3, 0), (3, 1), (3, 2), (3, 3), (3, 4), (3, 5), (3, 6), (3, 7), (3, 8), (3, 9), (3, 10), (3, 11), (3, 12), (3, 13), (3, 14), (3, 15), (3, 16)], jOw (dC, dI) G0 3 r0 s.heap), (jFdo, jDcc dC dI ca G0 (some r0) ph)] H_70 locs_70 := ((hh_68.call hb_701 hb_702 hb_703 hb_704 hS_70 rfl (L1 := [(el_37, 11, 1, .ref units_69), (r0, 3, 9, .ref behind_4), (r0, 3, 5, .ref sa_), (r0, 3, 6, .ref ea_), (r0, 3, 4, .int ps), (r0, 3, 10, .int pk)]) [0, 1, 2, 3, 4, 5] rfl rfl (M1 := []) [] rfl rfl (I1 := [([(210, 0)], jQc dC dI (ca 6) behind_4 40 fq_6), ([(3, 0), (3, 1), (3, 2), (3, 3), (3, 4), (3, 5), (3, 6), (3, 7), (3, 8), (3, 9), (3, 10), (3, 11), (3, 12), (3, 13), (3, 14), (3, 15), (3, 16)], jOw (dC, dI) G0 3 r0 s.heap), (jFdo, jDcc dC dI ca G0 (some r0) ph)]) [0, 1, 2] rfl rfl).more hb_705)
            clear hh_68 ht_70 hvm_70 hz_70 hk_70 hS_70 hb_701 hb_702 hb_703 hb_704 hb_705
            obtain ⟨hr_71b, hr_71p⟩ := hr_71
            have hr_71' := jb_01 hr_71b
            refine lv_if_eq (tgt := 42) hx hb dX1_keepChecked_33 (by decide) (fun c_72 => ?_) (fun c_72 => ?_)
            · skip
              have c_72' : r_71.toInt = 0 := jb_eq (rfl) ((by decide)) c_72
              first | (have hr_71pq := hr_71p.resolve_left (by omega); clear hr_71p) | (have hr_71pq := hr_71p.resolve_right (by omega); clear hr_71p) | try clear hr_71p
              refine lv_iload_n hx hb dX1_keepChecked_42 rfl (lv_at hl 1 rfl) ?_
              refine lv_aload_n hx hb dX1_keepChecked_43 rfl (lv_at hl 0 rfl) ?_
              refine j7_read hx hb hown hK (C := RX1) (T := TX1) (N := 17) rfl hly_3_10 hlk_72 (hh_70.at 5 rfl) dX1_keepChecked_44 ?_
              refine lv_icmp_ne (tgt := 73) hx hb dX1_keepChecked_47 (by decide) (fun c_73 => ?_) (fun c_73 => ?_)
              · skip
                have c_73' : v1_5.toInt ≠ pk.toInt := jb_ne (rfl) (rfl) c_73
                refine lv_iconst (v := 0) hx hb dX1_keepChecked_73 (by decide) ?_
                refine lv_istore_n (lv' := [(2, .int 0), (0, .ref r0), (1, .int v1_5)]) hx hb dX1_keepChecked_74 rfl hl (by decide) rfl (fun ls hl => ?_)
                refine lv_aload_n hx hb dX1_keepChecked_75 rfl (lv_at hl 1 rfl) ?_
                refine lv_iload_n hx hb dX1_keepChecked_76 rfl (lv_at hl 2 rfl) ?_
                have hd_75 := hh_70.iv 2 rfl
                have hd_755 := hh_70.at 2 rfl
                have hd_756 := hh_70.at 3 rfl
                have hd_75o := hh_70.iv 1 rfl
                have hh_76 := hh_70.sub (L1 := [(el_37, 11, 1, .ref units_69), (r0, 3, 9, .ref behind_4), (r0, 3, 5, .ref sa_), (r0, 3, 6, .ref ea_), (r0, 3, 4, .int ps), (r0, 3, 10, .int pk)]) [0, 1, 2, 3, 4, 5] rfl (M1 := []) [] rfl (I1 := [([(210, 0)], jQc dC dI (ca 6) behind_4 40 fq_6)]) [0] rfl
                clear hh_70
                refine j7_putX hx hb hown hK hh_76 hB hAp hB3 (C := RX1) (T := TX1) (N := 17) rfl (by decide) hg_r0 (i := 10) (by decide) hly_3_10 rfl hlk_72 rfl (ty := .int) (v := .int v1_5) (by decide +kernel) rfl rfl (⟨_, rfl, by omega, by omega⟩) rfl (L1 := [(el_37, 11, 1, .ref units_69), (r0, 3, 9, .ref behind_4), (r0, 3, 5, .ref sa_), (r0, 3, 6, .ref ea_), (r0, 3, 4, .int ps)]) [0, 1, 2, 3, 4] rfl rfl rfl dX1_keepChecked_77 (fun H_74 locs_74 hr_74 hh_74 => ?_)
                clear hh_76
                have hd_75n := jDcc.fld hd_75 hg_r0 hr_74 hd_755 hd_756 (hh_74.at 3 rfl) (hh_74.at 4 rfl)
                have hd_75on := jOw.put hd_75o hr_74
                have hh_77 := hh_74.addI (jDcc.ie hd_75n)
                clear hh_74
                have hh_78 := hh_77.addI (jOw.ie (dC := dC) (dI := dI) (G0 := G0) (k := 3) (r := r0) (H0 := s.heap) (F := [(3, 0), (3, 1), (3, 2), (3, 3), (3, 4), (3, 5), (3, 6), (3, 7), (3, 8), (3, 9), (3, 10), (3, 11), (3, 12), (3, 13), (3, 14), (3, 15), (3, 16)]) (C := RX1) (T := TX1) (N := 17) rfl (by decide) hh_77.2.2.2.2.1 (hd_75on))
                clear hh_77
                clear hd_75 hd_75n hd_755 hd_756 hr_74 hd_75o hd_75on
                refine lv_iload_n hx hb dX1_keepChecked_80 rfl (lv_at hl 0 rfl) ?_
                rw [hQ]
                exact W.zret (v := 0) hx hb hr (jb_nz (Or.inl rfl)) (fun t ht hW => ⟨⟨0, v1_5, rfl, ⟨(Or.inl rfl), by (try dsimp only); first | omega | (refine ⟨?_, ?_, ?_, ?_⟩ <;> (first | omega | rfl | assumption | decide | exact Or.inl rfl | exact Or.inr rfl | (simp only; omega)))⟩, ⟨⟨hh_78.rt (M1 := [(r0, 3, 10, .int v1_5)]) [0] rfl ht, by rw [ht]; exact hh_78.iv 0 rfl⟩, by rw [ht]; exact hh_78.2.2.2.2.2.2.2.2.sub (L1 := [(jFdo, jDcc dC dI ca G0 (some r0) ph)]) [1] rfl⟩⟩, by rw [ht]; try exact hh_78.1.1, fun q h9 hq => by rw [ht]; try exact hh_78.1.2.1 q h9 hq⟩) hh_78.1.2.2 dX1_keepChecked_81
              · skip
                have c_73' : v1_5.toInt = pk.toInt := jb_ne_n (rfl) (rfl) c_73
                refine lv_aload_n hx hb dX1_keepChecked_50 rfl (lv_at hl 0 rfl) ?_
                obtain ⟨v_79, hv_79, hh_80⟩ := hh_70.pin (C := RX1) (T := TX1) (N := 17) hB3 rfl (by decide) hg_r0 (i := 11) (by decide) rfl
                clear hh_70
                rcases hv_79 with rfl | ⟨checking_81, nchecking_81, rfl, hg_checking_81, hn_checking_81⟩
                · refine j7_read hx hb hown hK (C := RX1) (T := TX1) (N := 17) rfl hly_3_11 hlk_105 (hh_80.at 0 rfl) dX1_keepChecked_51 ?_
                  refine lv_ifnullN (tgt := 73) hx hb dX1_keepChecked_54 (by decide) ?_
                  refine lv_iconst (v := 0) hx hb dX1_keepChecked_73 (by decide) ?_
                  refine lv_istore_n (lv' := [(2, .int 0), (0, .ref r0), (1, .int v1_5)]) hx hb dX1_keepChecked_74 rfl hl (by decide) rfl (fun ls hl => ?_)
                  refine lv_aload_n hx hb dX1_keepChecked_75 rfl (lv_at hl 1 rfl) ?_
                  refine lv_iload_n hx hb dX1_keepChecked_76 rfl (lv_at hl 2 rfl) ?_
                  have hd_83 := hh_80.iv 2 rfl
                  have hd_835 := hh_80.at 3 rfl
                  have hd_836 := hh_80.at 4 rfl
                  have hd_83o := hh_80.iv 1 rfl
                  have hh_84 := hh_80.sub (L1 := [(r0, 3, 11, .null), (el_37, 11, 1, .ref units_69), (r0, 3, 9, .ref behind_4), (r0, 3, 5, .ref sa_), (r0, 3, 6, .ref ea_), (r0, 3, 4, .int ps), (r0, 3, 10, .int pk)]) [0, 1, 2, 3, 4, 5, 6] rfl (M1 := []) [] rfl (I1 := [([(210, 0)], jQc dC dI (ca 6) behind_4 40 fq_6)]) [0] rfl
                  clear hh_80
                  refine j7_putX hx hb hown hK hh_84 hB hAp hB3 (C := RX1) (T := TX1) (N := 17) rfl (by decide) hg_r0 (i := 10) (by decide) hly_3_10 rfl hlk_72 rfl (ty := .int) (v := .int v1_5) (by decide +kernel) rfl rfl (⟨_, rfl, by omega, by omega⟩) rfl (L1 := [(r0, 3, 11, .null), (el_37, 11, 1, .ref units_69), (r0, 3, 9, .ref behind_4), (r0, 3, 5, .ref sa_), (r0, 3, 6, .ref ea_), (r0, 3, 4, .int ps)]) [0, 1, 2, 3, 4, 5] rfl rfl rfl dX1_keepChecked_77 (fun H_82 locs_82 hr_82 hh_82 => ?_)
                  clear hh_84
                  have hd_83n := jDcc.fld hd_83 hg_r0 hr_82 hd_835 hd_836 (hh_82.at 4 rfl) (hh_82.at 5 rfl)
                  have hd_83on := jOw.put hd_83o hr_82
                  have hh_85 := hh_82.addI (jDcc.ie hd_83n)
                  clear hh_82
                  have hh_86 := hh_85.addI (jOw.ie (dC := dC) (dI := dI) (G0 := G0) (k := 3) (r := r0) (H0 := s.heap) (F := [(3, 0), (3, 1), (3, 2), (3, 3), (3, 4), (3, 5), (3, 6), (3, 7), (3, 8), (3, 9), (3, 10), (3, 11), (3, 12), (3, 13), (3, 14), (3, 15), (3, 16)]) (C := RX1) (T := TX1) (N := 17) rfl (by decide) hh_85.2.2.2.2.1 (hd_83on))
                  clear hh_85
                  clear hd_83 hd_83n hd_835 hd_836 hr_82 hd_83o hd_83on
                  refine lv_iload_n hx hb dX1_keepChecked_80 rfl (lv_at hl 0 rfl) ?_
                  rw [hQ]
                  exact W.zret (v := 0) hx hb hr (jb_nz (Or.inl rfl)) (fun t ht hW => ⟨⟨0, v1_5, rfl, ⟨(Or.inl rfl), by (try dsimp only); first | omega | (refine ⟨?_, ?_, ?_, ?_⟩ <;> (first | omega | rfl | assumption | decide | exact Or.inl rfl | exact Or.inr rfl | (simp only; omega)))⟩, ⟨⟨hh_86.rt (M1 := [(r0, 3, 10, .int v1_5)]) [0] rfl ht, by rw [ht]; exact hh_86.iv 0 rfl⟩, by rw [ht]; exact hh_86.2.2.2.2.2.2.2.2.sub (L1 := [(jFdo, jDcc dC dI ca G0 (some r0) ph)]) [1] rfl⟩⟩, by rw [ht]; try exact hh_86.1.1, fun q h9 hq => by rw [ht]; try exact hh_86.1.2.1 q h9 hq⟩) hh_86.1.2.2 dX1_keepChecked_81
                · refine j7_read hx hb hown hK (C := RX1) (T := TX1) (N := 17) rfl hly_3_11 hlk_105 (hh_80.at 0 rfl) dX1_keepChecked_51 ?_
                  refine lv_ifnull hx hb dX1_keepChecked_54 ?_
                  refine lv_aload_n hx hb dX1_keepChecked_57 rfl (lv_at hl 0 rfl) ?_
                  refine lv_iload_n hx hb dX1_keepChecked_58 rfl (lv_at hl 1 rfl) ?_
                  refine lv_aload_n hx hb dX1_keepChecked_59 rfl (lv_at hl 0 rfl) ?_
                  refine j7_read hx hb hown hK (C := RX1) (T := TX1) (N := 17) rfl hly_3_11 hlk_105 (hh_80.at 0 rfl) dX1_keepChecked_60 ?_
                  refine va_calli (A0 := jA base) (H0 := s.heap) (va_runV (As := [.int v1_5, .ref checking_81]) (rest := []) ⟨hx, hb, hml, hown, hts⟩ (uX1_isSentenceE l dC dI ca base B hB hAp hB3 hB101 hB171 hB172 G0 H_70 r0 v1_5 checking_81 nchecking_81 ps) (cwV 2 hts (jgV (jWr_42 _ (List.mem_of_getElem? (i := 23) rfl)) (jWr_43 _ (List.mem_of_getElem? (i := 0) rfl)) (jWr_43 _ (List.mem_of_getElem? (i := 1) rfl)) (jWr_2 _ (List.mem_of_getElem? (i := 21) rfl)) (jWr_43 _ (List.mem_of_getElem? (i := 2) rfl))) rfl rfl rfl (by decide +kernel) ⟨by rw [← hR]; exact Nat.le_of_ble_eq_true rfl, by rw [← hR]; exact Nat.le_of_ble_eq_true rfl⟩) ⟨fun a U g mk q => by obtain ⟨q0, q1, q2, qK, q10, q11, q12, q13⟩ := q; exact ⟨q0, q1, q2, jG.calling g mk a qK, q10, q11, q12, q13⟩, hh_80.recv (C := RX1) (T := TX1) (N := 17) hB3 rfl (by decide) hg_r0 hK, fun U hU hW => ⟨rfl, hU, hh_80.2.1, hG.step hW hU hh_80.1, hg_r0, hg_checking_81, (hh_80.2.2.1.sub (L1 := [(r0, 3, 4, .int ps)]) [5] rfl), by first | omega | (refine ⟨?_, ?_⟩ <;> (first | omega | rfl | assumption | decide | exact Or.inl rfl | exact Or.inr rfl | (simp only; omega)))⟩⟩ rfl rfl hl.1 rfl (lv_room (Nat.le_of_ble_eq_true rfl)) dX1_keepChecked_63 ⟨Nat.zero_le _, Nat.zero_le _⟩) hh_80.1 (fun q _ h => h) (fun q h => h) (fun r_88 u_87 t_87 H_87 locs_87 ht_87 hvm_87 hr_88 hb_87 hz_87 hk_87 hS_87 => ?_)
                  rw [ht_87] at hb_87
                  obtain ⟨hb_871, hb_872, hb_873, hb_874, hb_875⟩ := hb_87
                  have hh_87 : jSt (dC, dI) B base G0 G0 EX1_keepCheckedE s.heap 0 0 [(r0, 3, 11, .ref checking_81), (el_37, 11, 1, .ref units_69), (r0, 3, 9, .ref behind_4), (r0, 3, 5, .ref sa_), (r0, 3, 6, .ref ea_), (r0, 3, 4, .int ps), (r0, 3, 10, .int pk)] [] [([(210, 0)], jQc dC dI (ca 6) behind_4 40 fq_6), ([(3, 0), (3, 1), (3, 2), (3, 3), (3, 4), (3, 5), (3, 6), (3, 7), (3, 8), (3, 9), (3, 10), (3, 11), (3, 12), (3, 13), (3, 14), (3, 15), (3, 16)], jOw (dC, dI) G0 3 r0 s.heap), (jFdo, jDcc dC dI ca G0 (some r0) ph)] H_87 locs_87 := ((hh_80.call hb_871 hb_872 hb_873 hb_874 hS_87 rfl (L1 := [(r0, 3, 11, .ref checking_81), (el_37, 11, 1, .ref units_69), (r0, 3, 9, .ref behind_4), (r0, 3, 5, .ref sa_), (r0, 3, 6, .ref ea_), (r0, 3, 4, .int ps), (r0, 3, 10, .int pk)]) [0, 1, 2, 3, 4, 5, 6] rfl rfl (M1 := []) [] rfl rfl (I1 := [([(210, 0)], jQc dC dI (ca 6) behind_4 40 fq_6), ([(3, 0), (3, 1), (3, 2), (3, 3), (3, 4), (3, 5), (3, 6), (3, 7), (3, 8), (3, 9), (3, 10), (3, 11), (3, 12), (3, 13), (3, 14), (3, 15), (3, 16)], jOw (dC, dI) G0 3 r0 s.heap), (jFdo, jDcc dC dI ca G0 (some r0) ph)]) [0, 1, 2] rfl rfl).more hb_875)
                  clear hh_80 ht_87 hvm_87 hz_87 hk_87 hS_87 hb_871 hb_872 hb_873 hb_874 hb_875
                  obtain ⟨hr_88b, hr_88p⟩ := hr_88
                  have hr_88' := jb_01 hr_88b
                  refine lv_if_eq (tgt := 73) hx hb dX1_keepChecked_66 (by decide) (fun c_89 => ?_) (fun c_89 => ?_)
                  · skip
                    have c_89' : r_88.toInt = 0 := jb_eq (rfl) ((by decide)) c_89
                    first | (have hr_88pq := hr_88p.resolve_left (by omega); clear hr_88p) | (have hr_88pq := hr_88p.resolve_right (by omega); clear hr_88p) | try clear hr_88p
                    refine lv_iconst (v := 0) hx hb dX1_keepChecked_73 (by decide) ?_
                    refine lv_istore_n (lv' := [(2, .int 0), (0, .ref r0), (1, .int v1_5)]) hx hb dX1_keepChecked_74 rfl hl (by decide) rfl (fun ls hl => ?_)
                    refine lv_aload_n hx hb dX1_keepChecked_75 rfl (lv_at hl 1 rfl) ?_
                    refine lv_iload_n hx hb dX1_keepChecked_76 rfl (lv_at hl 2 rfl) ?_
                    have hd_91 := hh_87.iv 2 rfl
                    have hd_915 := hh_87.at 3 rfl
                    have hd_916 := hh_87.at 4 rfl
                    have hd_91o := hh_87.iv 1 rfl
                    have hh_92 := hh_87.sub (L1 := [(r0, 3, 11, .ref checking_81), (el_37, 11, 1, .ref units_69), (r0, 3, 9, .ref behind_4), (r0, 3, 5, .ref sa_), (r0, 3, 6, .ref ea_), (r0, 3, 4, .int ps), (r0, 3, 10, .int pk)]) [0, 1, 2, 3, 4, 5, 6] rfl (M1 := []) [] rfl (I1 := [([(210, 0)], jQc dC dI (ca 6) behind_4 40 fq_6)]) [0] rfl
                    clear hh_87
                    refine j7_putX hx hb hown hK hh_92 hB hAp hB3 (C := RX1) (T := TX1) (N := 17) rfl (by decide) hg_r0 (i := 10) (by decide) hly_3_10 rfl hlk_72 rfl (ty := .int) (v := .int v1_5) (by decide +kernel) rfl rfl (⟨_, rfl, by omega, by omega⟩) rfl (L1 := [(r0, 3, 11, .ref checking_81), (el_37, 11, 1, .ref units_69), (r0, 3, 9, .ref behind_4), (r0, 3, 5, .ref sa_), (r0, 3, 6, .ref ea_), (r0, 3, 4, .int ps)]) [0, 1, 2, 3, 4, 5] rfl rfl rfl dX1_keepChecked_77 (fun H_90 locs_90 hr_90 hh_90 => ?_)
                    clear hh_92
                    have hd_91n := jDcc.fld hd_91 hg_r0 hr_90 hd_915 hd_916 (hh_90.at 4 rfl) (hh_90.at 5 rfl)
                    have hd_91on := jOw.put hd_91o hr_90
                    have hh_93 := hh_90.addI (jDcc.ie hd_91n)
                    clear hh_90
                    have hh_94 := hh_93.addI (jOw.ie (dC := dC) (dI := dI) (G0 := G0) (k := 3) (r := r0) (H0 := s.heap) (F := [(3, 0), (3, 1), (3, 2), (3, 3), (3, 4), (3, 5), (3, 6), (3, 7), (3, 8), (3, 9), (3, 10), (3, 11), (3, 12), (3, 13), (3, 14), (3, 15), (3, 16)]) (C := RX1) (T := TX1) (N := 17) rfl (by decide) hh_93.2.2.2.2.1 (hd_91on))
                    clear hh_93
                    clear hd_91 hd_91n hd_915 hd_916 hr_90 hd_91o hd_91on
                    refine lv_iload_n hx hb dX1_keepChecked_80 rfl (lv_at hl 0 rfl) ?_
                    rw [hQ]
                    exact W.zret (v := 0) hx hb hr (jb_nz (Or.inl rfl)) (fun t ht hW => ⟨⟨0, v1_5, rfl, ⟨(Or.inl rfl), by (try dsimp only); first | omega | (refine ⟨?_, ?_, ?_, ?_⟩ <;> (first | omega | rfl | assumption | decide | exact Or.inl rfl | exact Or.inr rfl | (simp only; omega)))⟩, ⟨⟨hh_94.rt (M1 := [(r0, 3, 10, .int v1_5)]) [0] rfl ht, by rw [ht]; exact hh_94.iv 0 rfl⟩, by rw [ht]; exact hh_94.2.2.2.2.2.2.2.2.sub (L1 := [(jFdo, jDcc dC dI ca G0 (some r0) ph)]) [1] rfl⟩⟩, by rw [ht]; try exact hh_94.1.1, fun q h9 hq => by rw [ht]; try exact hh_94.1.2.1 q h9 hq⟩) hh_94.1.2.2 dX1_keepChecked_81
                  · skip
                    have c_89' : r_88.toInt ≠ 0 := jb_eq_n (rfl) ((by decide)) c_89
                    first | (have hr_88pq := hr_88p.resolve_left (by omega); clear hr_88p) | (have hr_88pq := hr_88p.resolve_right (by omega); clear hr_88p) | try clear hr_88p
                    refine lv_iconst (v := 1) hx hb dX1_keepChecked_69 (by decide) ?_
                    refine lv_goto (tgt := 74) hx hb dX1_keepChecked_70 (by decide) ?_
                    refine lv_istore_n (lv' := [(2, .int 1), (0, .ref r0), (1, .int v1_5)]) hx hb dX1_keepChecked_74 rfl hl (by decide) rfl (fun ls hl => ?_)
                    refine lv_aload_n hx hb dX1_keepChecked_75 rfl (lv_at hl 1 rfl) ?_
                    refine lv_iload_n hx hb dX1_keepChecked_76 rfl (lv_at hl 2 rfl) ?_
                    have hd_96 := hh_87.iv 2 rfl
                    have hd_965 := hh_87.at 3 rfl
                    have hd_966 := hh_87.at 4 rfl
                    have hd_96o := hh_87.iv 1 rfl
                    have hh_97 := hh_87.sub (L1 := [(r0, 3, 11, .ref checking_81), (el_37, 11, 1, .ref units_69), (r0, 3, 9, .ref behind_4), (r0, 3, 5, .ref sa_), (r0, 3, 6, .ref ea_), (r0, 3, 4, .int ps), (r0, 3, 10, .int pk)]) [0, 1, 2, 3, 4, 5, 6] rfl (M1 := []) [] rfl (I1 := [([(210, 0)], jQc dC dI (ca 6) behind_4 40 fq_6)]) [0] rfl
                    clear hh_87
                    refine j7_putX hx hb hown hK hh_97 hB hAp hB3 (C := RX1) (T := TX1) (N := 17) rfl (by decide) hg_r0 (i := 10) (by decide) hly_3_10 rfl hlk_72 rfl (ty := .int) (v := .int v1_5) (by decide +kernel) rfl rfl (⟨_, rfl, by omega, by omega⟩) rfl (L1 := [(r0, 3, 11, .ref checking_81), (el_37, 11, 1, .ref units_69), (r0, 3, 9, .ref behind_4), (r0, 3, 5, .ref sa_), (r0, 3, 6, .ref ea_), (r0, 3, 4, .int ps)]) [0, 1, 2, 3, 4, 5] rfl rfl rfl dX1_keepChecked_77 (fun H_95 locs_95 hr_95 hh_95 => ?_)
                    clear hh_97
                    have hd_96n := jDcc.fld hd_96 hg_r0 hr_95 hd_965 hd_966 (hh_95.at 4 rfl) (hh_95.at 5 rfl)
                    have hd_96on := jOw.put hd_96o hr_95
                    have hh_98 := hh_95.addI (jDcc.ie hd_96n)
                    clear hh_95
                    have hh_99 := hh_98.addI (jOw.ie (dC := dC) (dI := dI) (G0 := G0) (k := 3) (r := r0) (H0 := s.heap) (F := [(3, 0), (3, 1), (3, 2), (3, 3), (3, 4), (3, 5), (3, 6), (3, 7), (3, 8), (3, 9), (3, 10), (3, 11), (3, 12), (3, 13), (3, 14), (3, 15), (3, 16)]) (C := RX1) (T := TX1) (N := 17) rfl (by decide) hh_98.2.2.2.2.1 (hd_96on))
                    clear hh_98
                    clear hd_96 hd_96n hd_965 hd_966 hr_95 hd_96o hd_96on
                    refine lv_iload_n hx hb dX1_keepChecked_80 rfl (lv_at hl 0 rfl) ?_
                    rw [hQ]
                    exact W.zret (v := 1) hx hb hr (jb_nz (Or.inr rfl)) (fun t ht hW => ⟨⟨1, v1_5, rfl, ⟨(Or.inr rfl), by (try dsimp only); first | omega | (refine ⟨?_, ?_, ?_, ?_⟩ <;> (first | omega | rfl | assumption | decide | exact Or.inl rfl | exact Or.inr rfl | (simp only; omega)))⟩, ⟨⟨hh_99.rt (M1 := [(r0, 3, 10, .int v1_5)]) [0] rfl ht, by rw [ht]; exact hh_99.iv 0 rfl⟩, by rw [ht]; exact hh_99.2.2.2.2.2.2.2.2.sub (L1 := [(jFdo, jDcc dC dI ca G0 (some r0) ph)]) [1] rfl⟩⟩, by rw [ht]; try exact hh_99.1.1, fun q h9 hq => by rw [ht]; try exact hh_99.1.2.1 q h9 hq⟩) hh_99.1.2.2 dX1_keepChecked_81
            · skip
              have c_72' : r_71.toInt ≠ 0 := jb_eq_n (rfl) ((by decide)) c_72
              first | (have hr_71pq := hr_71p.resolve_left (by omega); clear hr_71p) | (have hr_71pq := hr_71p.resolve_right (by omega); clear hr_71p) | try clear hr_71p
              obtain ⟨z_100, ez_100⟩ : ∃ y : Int32, y = v1_5 + 1 := ⟨_, rfl⟩
              refine lv_iinc (v := z_100) (lv' := [(1, .int z_100), (0, .ref r0)]) hx hb dX1_keepChecked_36 hl (k := 1) rfl (by rw [ez_100]; rfl) (by decide) rfl (fun ls hl => ?_)
              have hz_100 : z_100.toInt = v1_5.toInt + 1 := by rw [ez_100]; exact jb_iadd2 (rfl) (by decide) (by omega)
              refine lv_goto (tgt := 2) hx hb dX1_keepChecked_39 (by decide) ?_
              exact L2 z_100 _ _ (hh_70.sub (L1 := [(r0, 3, 9, .ref behind_4), (r0, 3, 5, .ref sa_), (r0, 3, 6, .ref ea_), (r0, 3, 4, .int ps), (r0, 3, 10, .int pk)]) [1, 2, 3, 4, 5] rfl (M1 := []) [] rfl (I1 := [([(3, 0), (3, 1), (3, 2), (3, 3), (3, 4), (3, 5), (3, 6), (3, 7), (3, 8), (3, 9), (3, 10), (3, 11), (3, 12), (3, 13), (3, 14), (3, 15), (3, 16)], jOw (dC, dI) G0 3 r0 s.heap), (jFdo, jDcc dC dI ca G0 (some r0) ph)]) [1, 2] rfl) (by first | omega | (refine ⟨?_, ?_, ?_⟩ <;> (first | omega | rfl | assumption | decide | exact Or.inl rfl | exact Or.inr rfl | (simp only; omega)))) (by omega) _ (lv_sub hl [1, 0] rfl)
  exact L2 (pk.toInt - (0 : Int32).toInt : Int).toNat.succ 0 _ _ hh_3 (by first | omega | (refine ⟨?_, ?_, ?_⟩ <;> (first | omega | rfl | assumption | decide | exact Or.inl rfl | exact Or.inr rfl | (simp only; omega)))) (by omega) _ (lv_sub hl [1, 0] rfl)
set_option maxHeartbeats 4000000 in
set_option maxRecDepth 20000 in
theorem uX11_releaseE (l : Launch) (dC : Nat → ClassId) (dI : Nat → Nat → Nat) (ca : Nat → ClassId) (base : Nat) (B : jF) (hB : jBok B) (hAp : jAp (dC, dI)) (hB3 : ∀ n G a H, B 3 n G a H ↔ jOb (dC, dI) 3 17 (F3 n G) a H) (hB11 : ∀ n G a H, B 11 n G a H ↔ jOb (dC, dI) 11 9 (F11 n G) a H) (hB13 : ∀ n G a H, B 13 n G a H ↔ jOb (dC, dI) 13 19 (F13 n G) a H) (hB101 : ∀ n G a H, B 101 n G a H ↔ jAr (dC, dI) (ca 1) (fun j z => True) n a H) (hB212 : ∀ n G a H, B 212 n G a H ↔ jAq (dC, dI) (ca 5) (jQn 3 0) n G a H) (G0 : jT) (H0 : Heap) (r0 : Nat) (r1 : Nat) (sa_ : Nat) (ea_ : Nat) (ph : Nat) : Met l yX11_release (jw yX11_release cX11_release 3 none) ({ frames := 0, cells := 0, slots := 0, locals := 0 }) (va_Pc [.ref r0, .ref r1] (fun U => U.heap = H0 ∧ jX B base G0 [] H0 ∧ jG dC dI ca base U ∧ jK2 dC dI ca U ∧ G0 r0 = some (13, 0) ∧ G0 r1 = some (3, 0) ∧ G0 sa_ = some (171, 40) ∧ G0 ea_ = some (172, 40) ∧ jP (dC, dI) G0 H0 [(r1, 3, 5, .ref sa_), (r1, 3, 6, .ref ea_)] ∧ jIs (dC, dI) G0 H0 [(jFdo, jDcc dC dI ca G0 (some r1) ph)] ∧ True)) (va_Qv (S := Unit) (fun u => True) (fun u t => (jRt (dC, dI) B base G0 EX11_releaseE H0 [(r1, 3, 11, .null)] t.heap) ∧ jIs (dC, dI) G0 t.heap [(jFdo, jDcc dC dI ca G0 (some r1) ph)]) (jA base)) 0 0 (jA base) := by
  refine Met.ofW (cc := cX11_release) (maxL := 3) (ret := none) (by decide) rfl ?_
  intro p e s m args below meth c s₁ Bd hml hv
  obtain ⟨rfl, hH0, hX, hG, hK2, hg_r0, hg_r1, hg_sa_, hg_ea_, hP0, hI0, hp0⟩ := hv
  have hK := hG.1
  have hx := Bd.exec
  have hb := Bd.bytes
  have hr := Bd.returns
  have hts := atoms_spec (ws := (jw yX11_release cX11_release 3 none)) Bd.pre
  have htw : ∀ w ∈ jWl, w.before _ s = true := fun w h => hts w (List.mem_cons_of_mem _ h)
  have hown : s.vm.findClass RX11 = some m.cls := findClass_of_methodNamed Bd.named
  have hlocks := Bd.notSynchronized
  obtain ⟨Q, hQ⟩ : ∃ Q, Q = MQ below (va_Qv (S := Unit) (fun u => True) (fun u t => (jRt (dC, dI) B base G0 EX11_releaseE H0 [(r1, 3, 11, .null)] t.heap) ∧ jIs (dC, dI) G0 t.heap [(jFdo, jDcc dC dI ca G0 (some r1) ph)]) (jA base)) ([.ref r0, .ref r1] : List Value).toArray s 0 0 (jA base) := ⟨_, rfl⟩
  rw [← hQ]
  have hl := lv_entry ([.ref r0, .ref r1]) (n := 3) (Nat.le_of_ble_eq_true rfl)
  rw [lg_entry_eq]
  generalize (lg_sl ([.ref r0, .ref r1]) ++ List.replicate (3 - (lg_sl ([.ref r0, .ref r1])).length) Slot.unset).toArray = ls at hl ⊢
  have hl : lv_has ls 3 [(0, .ref r0), (1, .ref r1)] := hl
  generalize hR : (headSpec (jw yX11_release cX11_release 3 none) ({ frames := 0, cells := 0, slots := 0, locals := 0 })).room = R
  subst hH0
  have hh : jSt (dC, dI) B base G0 G0 EX11_releaseE s.heap 0 0 [(r1, 3, 5, .ref sa_), (r1, 3, 6, .ref ea_)] [] [(jFdo, jDcc dC dI ca G0 (some r1) ph)] s.heap [] := jSt.start hX hP0 jMc.nil hI0
  clear hX hP0
  have hk0 : (0 : Int32).toInt = 0 := by decide
  have hk1 : (1 : Int32).toInt = 1 := by decide
  have hk2 : (2 : Int32).toInt = 2 := by decide
  have hly_3_11 := htw (u_lay RX1 TX1 11) (jWc_wsX10 _ (u_in_lay (by decide)))
  have hly_3_12 := htw (u_lay RX1 TX1 12) (jWc_wsX10 _ (u_in_lay (by decide)))
  have hly_3_13 := htw (u_lay RX1 TX1 13) (jWc_wsX10 _ (u_in_lay (by decide)))
  have hly_13_10 := htw (u_lay RX11 TX11 10) (jWc_wsX110 _ (u_in_lay (by decide)))
  have hlk_567 := (htw (.fieldLink RX11 567 "ProofServer$Document" "checking" "[I") (jWr_43 _ (List.mem_of_getElem? (i := 7) rfl)))
  have hlk_580 := (htw (.fieldLink RX11 580 "ProofServer$Document" "found" "LProofServer$State;") (jWr_43 _ (List.mem_of_getElem? (i := 8) rfl)))
  have hlk_577 := (htw (.fieldLink RX11 577 "ProofServer$Document" "left" "I") (jWr_43 _ (List.mem_of_getElem? (i := 9) rfl)))
  have hlk_73 := (htw (.fieldLink RX11 73 "ProofServer" "hands" "[LProofServer$Document;") (jWr_2 _ (List.mem_of_getElem? (i := 18) rfl)))
  refine lv_aload_n hx hb dX11_release_0 rfl (lv_at hl 1 rfl) ?_
  refine lv_null hx hb dX11_release_1 ?_
  have hd_2 := hh.iv 0 rfl
  have hd_25 := hh.at 0 rfl
  have hd_26 := hh.at 1 rfl
  have hh_3 := hh.sub (L1 := [(r1, 3, 5, .ref sa_), (r1, 3, 6, .ref ea_)]) [0, 1] rfl (M1 := []) [] rfl (I1 := []) [] rfl
  clear hh
  refine j7_putX hx hb hown hK hh_3 hB hAp hB3 (C := RX1) (T := TX1) (N := 17) rfl (by decide) hg_r1 (i := 11) (by decide) hly_3_11 rfl hlk_567 rfl (ty := (.array .int)) (v := .null) (by decide +kernel) rfl rfl (Or.inl rfl) rfl (L1 := [(r1, 3, 5, .ref sa_), (r1, 3, 6, .ref ea_)]) [0, 1] rfl rfl rfl dX11_release_2 (fun H_1 locs_1 hr_1 hh_1 => ?_)
  clear hh_3
  have hd_2n := jDcc.fld hd_2 hg_r1 hr_1 hd_25 hd_26 (hh_1.at 1 rfl) (hh_1.at 2 rfl)
  have hh_4 := hh_1.addI (jDcc.ie hd_2n)
  clear hh_1
  clear hd_2 hd_2n hd_25 hd_26 hr_1
  refine lv_aload_n hx hb dX11_release_5 rfl (lv_at hl 1 rfl) ?_
  refine lv_null hx hb dX11_release_6 ?_
  refine j7_put hx hb hown hK hh_4 hB hAp hB3 (C := RX1) (T := TX1) (N := 17) rfl (by decide) hg_r1 (i := 12) (by decide) hly_3_12 rfl hlk_580 rfl (ty := (.object "ProofServer$State")) (v := .null) (by decide +kernel) rfl rfl (Or.inl rfl) rfl (L1 := [(r1, 3, 11, .null), (r1, 3, 5, .ref sa_), (r1, 3, 6, .ref ea_)]) [0, 1, 2] rfl rfl rfl dX11_release_7 (fun H_5 locs_5 hh_5 => ?_)
  clear hh_4
  refine lv_aload_n hx hb dX11_release_10 rfl (lv_at hl 1 rfl) ?_
  refine lv_iconst (v := 0) hx hb dX11_release_11 (by decide) ?_
  refine j7_put hx hb hown hK hh_5 hB hAp hB3 (C := RX1) (T := TX1) (N := 17) rfl (by decide) hg_r1 (i := 13) (by decide) hly_3_13 rfl hlk_577 rfl (ty := .int) (v := .int 0) (by decide +kernel) rfl rfl (⟨_, rfl⟩) rfl (L1 := [(r1, 3, 12, .null), (r1, 3, 11, .null), (r1, 3, 5, .ref sa_), (r1, 3, 6, .ref ea_)]) [0, 1, 2, 3] rfl rfl rfl dX11_release_12 (fun H_6 locs_6 hh_6 => ?_)
  clear hh_5
  refine lv_iconst (v := 0) hx hb dX11_release_15 (by decide) ?_
  refine lv_istore_n (lv' := [(2, .int 0), (0, .ref r0), (1, .ref r1)]) hx hb dX11_release_16 rfl hl (by decide) rfl (fun ls hl => ?_)
  have L17 : ∀ (N : Nat) (v2_7 : Int32) (H_7 : Heap) (locs_7 : List Loc), jSt (dC, dI) B base G0 G0 EX11_releaseE s.heap 0 0 [(r1, 3, 13, .int 0), (r1, 3, 12, .null), (r1, 3, 11, .null), (r1, 3, 5, .ref sa_), (r1, 3, 6, .ref ea_)] [] [(jFdo, jDcc dC dI ca G0 (some r1) ph)] H_7 locs_7 → (0 ≤ v2_7.toInt ∧ v2_7.toInt ≤ 2) → (2 - v2_7.toInt : Int) < N → ∀ ls : Array Slot, lv_has ls 3 [(0, .ref r0), (1, .ref r1), (2, .int v2_7)] → W p l e R s m ([.ref r0, .ref r1] : List Value).toArray below meth c H_7 locs_7 0 0 Q (F0 m 17 ls []) := by
    intro N
    induction N with
    | zero => intro v2_7 H_7 locs_7 hh_7  hi_7 hm; exact absurd hm (by omega)
    | succ N L17 =>
      intro v2_7 H_7 locs_7 hh_7  hi_7 hm_7 ls hl
      obtain ⟨hi_7_0, hi_7_1⟩ := hi_7
      refine lv_iload_n hx hb dX11_release_17 rfl (lv_at hl 2 rfl) ?_
      refine lv_iconst (v := 2) hx hb dX11_release_18 (by decide) ?_
      refine lv_icmp_ge (tgt := 45) hx hb dX11_release_19 (by decide) (fun c_8 => ?_) (fun c_8 => ?_)
      · skip
        have c_8' : v2_7.toInt ≥ 2 := jb_ge (rfl) ((by decide)) c_8
        rw [hQ]
        exact W.vret hx hb hr (fun t ht hW => ⟨⟨(), rfl, trivial, ⟨hh_7.rt (M1 := [(r1, 3, 11, .null)]) [2] rfl ht, by rw [ht]; exact hh_7.2.2.2.2.2.2.2.2.sub (L1 := [(jFdo, jDcc dC dI ca G0 (some r1) ph)]) [0] rfl⟩⟩, by rw [ht]; try exact hh_7.1.1, fun q h9 hq => by rw [ht]; try exact hh_7.1.2.1 q h9 hq⟩) hh_7.1.2.2 dX11_release_45
      · skip
        have c_8' : v2_7.toInt < 2 := jb_ge_n (rfl) ((by decide)) c_8
        refine lv_aload_n hx hb dX11_release_22 rfl (lv_at hl 0 rfl) ?_
        obtain ⟨v_9, hv_9, hh_10⟩ := hh_7.pin (C := RX11) (T := TX11) (N := 19) hB13 rfl (by decide) hg_r0 (i := 10) (by decide) rfl
        clear hh_7
        obtain ⟨hands_11, rfl, hg_hands_11⟩ := hv_9
        refine j7_read hx hb hown hK (C := RX11) (T := TX11) (N := 19) rfl hly_13_10 hlk_73 (hh_10.at 0 rfl) dX11_release_23 ?_
        refine lv_iload_n hx hb dX11_release_26 rfl (lv_at hl 2 rfl) ?_
        refine j7_qald hx hb hK2 hh_10 hB212 1 rfl (by decide) hg_hands_11 (x := v2_7.toInt) (rfl) (by omega) dX11_release_27 (fun o_12 ho_12 => ?_)
        rcases ho_12 with rfl | ⟨el_13, rfl, hg_el_13⟩
        · simp only [va_rf]
          refine lv_aload_n hx hb dX11_release_28 rfl (lv_at hl 1 rfl) ?_
          refine lv_acmp_ne (rx := none) (ry := (some r1)) (tgt := 39) hx hb dX11_release_29 (by decide) (fun c_14 => ?_) (fun c_14 => ?_)
          · skip
            obtain ⟨z_15, ez_15⟩ : ∃ y : Int32, y = v2_7 + 1 := ⟨_, rfl⟩
            refine lv_iinc (v := z_15) (lv' := [(2, .int z_15), (0, .ref r0), (1, .ref r1)]) hx hb dX11_release_39 hl (k := 2) rfl (by rw [ez_15]; rfl) (by decide) rfl (fun ls hl => ?_)
            have hz_15 : z_15.toInt = v2_7.toInt + 1 := by rw [ez_15]; exact jb_iadd2 (rfl) (by decide) (by omega)
            refine lv_goto (tgt := 17) hx hb dX11_release_42 (by decide) ?_
            exact L17 z_15 _ _ (hh_10.sub (L1 := [(r1, 3, 13, .int 0), (r1, 3, 12, .null), (r1, 3, 11, .null), (r1, 3, 5, .ref sa_), (r1, 3, 6, .ref ea_)]) [1, 2, 3, 4, 5] rfl (M1 := []) [] rfl (I1 := [(jFdo, jDcc dC dI ca G0 (some r1) ph)]) [0] rfl) (by first | omega | (refine ⟨?_, ?_⟩ <;> (first | omega | rfl | assumption | decide | exact Or.inl rfl | exact Or.inr rfl | (simp only; omega)))) (by omega) _ (lv_sub hl [1, 2, 0] rfl)
          · skip
            cases c_14
        · simp only [va_rf]
          refine lv_aload_n hx hb dX11_release_28 rfl (lv_at hl 1 rfl) ?_
          refine lv_acmp_ne (rx := (some el_13)) (ry := (some r1)) (tgt := 39) hx hb dX11_release_29 (by decide) (fun c_16 => ?_) (fun c_16 => ?_)
          · skip
            obtain ⟨z_17, ez_17⟩ : ∃ y : Int32, y = v2_7 + 1 := ⟨_, rfl⟩
            refine lv_iinc (v := z_17) (lv' := [(2, .int z_17), (0, .ref r0), (1, .ref r1)]) hx hb dX11_release_39 hl (k := 2) rfl (by rw [ez_17]; rfl) (by decide) rfl (fun ls hl => ?_)
            have hz_17 : z_17.toInt = v2_7.toInt + 1 := by rw [ez_17]; exact jb_iadd2 (rfl) (by decide) (by omega)
            refine lv_goto (tgt := 17) hx hb dX11_release_42 (by decide) ?_
            exact L17 z_17 _ _ (hh_10.sub (L1 := [(r1, 3, 13, .int 0), (r1, 3, 12, .null), (r1, 3, 11, .null), (r1, 3, 5, .ref sa_), (r1, 3, 6, .ref ea_)]) [1, 2, 3, 4, 5] rfl (M1 := []) [] rfl (I1 := [(jFdo, jDcc dC dI ca G0 (some r1) ph)]) [0] rfl) (by first | omega | (refine ⟨?_, ?_⟩ <;> (first | omega | rfl | assumption | decide | exact Or.inl rfl | exact Or.inr rfl | (simp only; omega)))) (by omega) _ (lv_sub hl [1, 2, 0] rfl)
          · skip
            refine lv_aload_n hx hb dX11_release_32 rfl (lv_at hl 0 rfl) ?_
            refine j7_read hx hb hown hK (C := RX11) (T := TX11) (N := 19) rfl hly_13_10 hlk_73 (hh_10.at 0 rfl) dX11_release_33 ?_
            refine lv_iload_n hx hb dX11_release_36 rfl (lv_at hl 2 rfl) ?_
            refine lv_null hx hb dX11_release_37 ?_
            refine j7_qastN hx hb hK2 hh_10 hB hB212 1 rfl (by decide) (by decide) rfl rfl rfl hg_hands_11 (x := v2_7.toInt) (rfl) (by omega) (Or.inl rfl) dX11_release_38 (fun H_18 locs_18 hh_18 => ?_)
            clear hh_10
            obtain ⟨z_19, ez_19⟩ : ∃ y : Int32, y = v2_7 + 1 := ⟨_, rfl⟩
            refine lv_iinc (v := z_19) (lv' := [(2, .int z_19), (0, .ref r0), (1, .ref r1)]) hx hb dX11_release_39 hl (k := 2) rfl (by rw [ez_19]; rfl) (by decide) rfl (fun ls hl => ?_)
            have hz_19 : z_19.toInt = v2_7.toInt + 1 := by rw [ez_19]; exact jb_iadd2 (rfl) (by decide) (by omega)
            refine lv_goto (tgt := 17) hx hb dX11_release_42 (by decide) ?_
            exact L17 z_19 _ _ (hh_18.sub (L1 := [(r1, 3, 13, .int 0), (r1, 3, 12, .null), (r1, 3, 11, .null), (r1, 3, 5, .ref sa_), (r1, 3, 6, .ref ea_)]) [1, 2, 3, 4, 5] rfl (M1 := []) [] rfl (I1 := [(jFdo, jDcc dC dI ca G0 (some r1) ph)]) [0] rfl) (by first | omega | (refine ⟨?_, ?_⟩ <;> (first | omega | rfl | assumption | decide | exact Or.inl rfl | exact Or.inr rfl | (simp only; omega)))) (by omega) _ (lv_sub hl [1, 2, 0] rfl)
  exact L17 (2 - (0 : Int32).toInt : Int).toNat.succ 0 _ _ hh_6 (by first | omega | (refine ⟨?_, ?_⟩ <;> (first | omega | rfl | assumption | decide | exact Or.inl rfl | exact Or.inr rfl | (simp only; omega)))) (by omega) _ (lv_sub hl [1, 2, 0] rfl)
end
