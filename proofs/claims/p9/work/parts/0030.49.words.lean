section
theorem jT73 : ∀ w ∈ jTl73, w ∈ jWl := fun w h => jT72 w (List.mem_append_right _ h)
theorem jT74 : ∀ w ∈ jTl74, w ∈ jWl := fun w h => jT73 w (List.mem_append_right _ h)
theorem jT75 : ∀ w ∈ jTl75, w ∈ jWl := fun w h => jT74 w (List.mem_append_right _ h)
theorem jT76 : ∀ w ∈ jTl76, w ∈ jWl := fun w h => jT75 w (List.mem_append_right _ h)
theorem jT77 : ∀ w ∈ jTl77, w ∈ jWl := fun w h => jT76 w (List.mem_append_right _ h)
theorem jT78 : ∀ w ∈ jTl78, w ∈ jWl := fun w h => jT77 w (List.mem_append_right _ h)
theorem jT79 : ∀ w ∈ jTl79, w ∈ jWl := fun w h => jT78 w (List.mem_append_right _ h)
theorem jT80 : ∀ w ∈ jTl80, w ∈ jWl := fun w h => jT79 w (List.mem_append_right _ h)
theorem jT81 : ∀ w ∈ jTl81, w ∈ jWl := fun w h => jT80 w (List.mem_append_right _ h)
theorem jT82 : ∀ w ∈ jTl82, w ∈ jWl := fun w h => jT81 w (List.mem_append_right _ h)
theorem jT83 : ∀ w ∈ jTl83, w ∈ jWl := fun w h => jT82 w (List.mem_append_right _ h)
theorem jT84 : ∀ w ∈ jTl84, w ∈ jWl := fun w h => jT83 w (List.mem_append_right _ h)
theorem jT85 : ∀ w ∈ jTl85, w ∈ jWl := fun w h => jT84 w (List.mem_append_right _ h)
theorem jT86 : ∀ w ∈ jTl86, w ∈ jWl := fun w h => jT85 w (List.mem_append_right _ h)
theorem jT87 : ∀ w ∈ jTl87, w ∈ jWl := fun w h => jT86 w (List.mem_append_right _ h)
theorem jT88 : ∀ w ∈ jTl88, w ∈ jWl := fun w h => jT87 w (List.mem_append_right _ h)
theorem jT89 : ∀ w ∈ jTl89, w ∈ jWl := fun w h => jT88 w (List.mem_append_right _ h)
theorem jT90 : ∀ w ∈ jTl90, w ∈ jWl := fun w h => jT89 w (List.mem_append_right _ h)
theorem jT91 : ∀ w ∈ jTl91, w ∈ jWl := fun w h => jT90 w (List.mem_append_right _ h)
theorem jWr_89 : ∀ w ∈ wsL_law_r89, w ∈ jWl := fun w h => jT89 w (List.mem_append_left _ h)
theorem jWr_90 : ∀ w ∈ wsL_law_r90, w ∈ jWl := fun w h => jT90 w (List.mem_append_left _ h)
theorem jWr_91 : ∀ w ∈ wsL_law_r91, w ∈ jWl := fun w h => jT91 w (List.mem_append_left _ h)
end
section
-- arrays of references
def jQs (k n : Nat) (G : jT) : Option Nat → Prop := fun o => ∃ x, o = some x ∧ G x = some (k, n)
section J10
variable {p : Program} {l : Launch} {e : Env} {R : Room} {s : State} {m : MethodId} {args : Array Value} {below : List Frame} {meth : Method} {c : Code} {H : Heap} {locs : List Loc} {cells slots : Nat} {Q : State → Prop}
variable {cc : ByteArray} {pc : Nat} {ls : Array Slot} {rest : List Value} {dC : Nat → ClassId} {dI : Nat → Nat → Nat} {ca : Nat → ClassId} {B : jF} {base : Nat} {G0 G : jT} {E : List (Nat × Nat)} {H0 : Heap} {zc zs : Nat} {L : List jPin} {M : List jCt} {I : List jIv} {a k n : Nat} {P : jT → Option Nat → Prop} {cA : ClassId} {tys : List (ClassId × FieldType)} {C : String}
end J10
end
section
theorem dX14_inCache_0 : decode cX14_inCache 0 = .ok (.iconst 0, 1) := by decide +kernel
theorem dX14_inCache_1 : decode cX14_inCache 1 = .ok (.istore_n 1, 1) := by decide +kernel
theorem dX14_inCache_2 : decode cX14_inCache 2 = .ok (.iload_n 1, 1) := by decide +kernel
theorem dX14_inCache_3 : decode cX14_inCache 3 = .ok (.aload_n 0, 1) := by decide +kernel
theorem dX14_inCache_4 : decode cX14_inCache 4 = .ok (.getfield 769, 3) := by decide +kernel
theorem dX14_inCache_7 : decode cX14_inCache 7 = .ok (.if_icmp .ge 81, 3) := by decide +kernel
theorem dX14_inCache_10 : decode cX14_inCache 10 = .ok (.aload_n 0, 1) := by decide +kernel
theorem dX14_inCache_11 : decode cX14_inCache 11 = .ok (.getfield 145, 3) := by decide +kernel
theorem dX14_inCache_14 : decode cX14_inCache 14 = .ok (.iload_n 1, 1) := by decide +kernel
theorem dX14_inCache_15 : decode cX14_inCache 15 = .ok (.iaload, 1) := by decide +kernel
theorem dX14_inCache_16 : decode cX14_inCache 16 = .ok (.aload_n 0, 1) := by decide +kernel
theorem dX14_inCache_17 : decode cX14_inCache 17 = .ok (.getfield 766, 3) := by decide +kernel
theorem dX14_inCache_20 : decode cX14_inCache 20 = .ok (.if_icmp .ne 7, 3) := by decide +kernel
theorem dX14_inCache_23 : decode cX14_inCache 23 = .ok (.iconst 1, 1) := by decide +kernel
theorem dX14_inCache_24 : decode cX14_inCache 24 = .ok (.goto 4, 3) := by decide +kernel
theorem dX14_inCache_27 : decode cX14_inCache 27 = .ok (.iconst 0, 1) := by decide +kernel
theorem dX14_inCache_28 : decode cX14_inCache 28 = .ok (.istore_n 2, 1) := by decide +kernel
theorem dX14_inCache_29 : decode cX14_inCache 29 = .ok (.iconst 0, 1) := by decide +kernel
theorem dX14_inCache_30 : decode cX14_inCache 30 = .ok (.istore_n 3, 1) := by decide +kernel
theorem dX14_inCache_31 : decode cX14_inCache 31 = .ok (.iload_n 3, 1) := by decide +kernel
theorem dX14_inCache_32 : decode cX14_inCache 32 = .ok (.aload_n 0, 1) := by decide +kernel
theorem dX14_inCache_33 : decode cX14_inCache 33 = .ok (.getfield 766, 3) := by decide +kernel
theorem dX14_inCache_36 : decode cX14_inCache 36 = .ok (.if_icmp .ge 40, 3) := by decide +kernel
theorem dX14_inCache_39 : decode cX14_inCache 39 = .ok (.iload_n 2, 1) := by decide +kernel
theorem dX14_inCache_40 : decode cX14_inCache 40 = .ok (.ifCond .eq 36, 3) := by decide +kernel
theorem dX14_inCache_43 : decode cX14_inCache 43 = .ok (.aload_n 0, 1) := by decide +kernel
theorem dX14_inCache_44 : decode cX14_inCache 44 = .ok (.getfield 142, 3) := by decide +kernel
theorem dX14_inCache_47 : decode cX14_inCache 47 = .ok (.sipush 1600, 3) := by decide +kernel
theorem dX14_inCache_50 : decode cX14_inCache 50 = .ok (.iload_n 1, 1) := by decide +kernel
theorem dX14_inCache_51 : decode cX14_inCache 51 = .ok (.imul, 1) := by decide +kernel
theorem dX14_inCache_52 : decode cX14_inCache 52 = .ok (.iload_n 3, 1) := by decide +kernel
theorem dX14_inCache_53 : decode cX14_inCache 53 = .ok (.iadd, 1) := by decide +kernel
theorem dX14_inCache_54 : decode cX14_inCache 54 = .ok (.iaload, 1) := by decide +kernel
theorem dX14_inCache_55 : decode cX14_inCache 55 = .ok (.aload_n 0, 1) := by decide +kernel
theorem dX14_inCache_56 : decode cX14_inCache 56 = .ok (.getfield 148, 3) := by decide +kernel
theorem dX14_inCache_59 : decode cX14_inCache 59 = .ok (.iload_n 3, 1) := by decide +kernel
theorem dX14_inCache_60 : decode cX14_inCache 60 = .ok (.iaload, 1) := by decide +kernel
theorem dX14_inCache_61 : decode cX14_inCache 61 = .ok (.if_icmp .ne 7, 3) := by decide +kernel
theorem dX14_inCache_64 : decode cX14_inCache 64 = .ok (.iconst 1, 1) := by decide +kernel
theorem dX14_inCache_65 : decode cX14_inCache 65 = .ok (.goto 4, 3) := by decide +kernel
theorem dX14_inCache_68 : decode cX14_inCache 68 = .ok (.iconst 0, 1) := by decide +kernel
theorem dX14_inCache_69 : decode cX14_inCache 69 = .ok (.istore_n 2, 1) := by decide +kernel
theorem dX14_inCache_70 : decode cX14_inCache 70 = .ok (.iinc 3 1, 3) := by decide +kernel
theorem dX14_inCache_73 : decode cX14_inCache 73 = .ok (.goto (-42), 3) := by decide +kernel
theorem dX14_inCache_76 : decode cX14_inCache 76 = .ok (.iload_n 2, 1) := by decide +kernel
theorem dX14_inCache_77 : decode cX14_inCache 77 = .ok (.ifCond .eq 5, 3) := by decide +kernel
theorem dX14_inCache_80 : decode cX14_inCache 80 = .ok (.iload_n 1, 1) := by decide +kernel
theorem dX14_inCache_81 : decode cX14_inCache 81 = .ok (.ireturn, 1) := by decide +kernel
theorem dX14_inCache_82 : decode cX14_inCache 82 = .ok (.iinc 1 1, 3) := by decide +kernel
theorem dX14_inCache_85 : decode cX14_inCache 85 = .ok (.goto (-83), 3) := by decide +kernel
theorem dX14_inCache_88 : decode cX14_inCache 88 = .ok (.iconst (-1), 1) := by decide +kernel
theorem dX14_inCache_89 : decode cX14_inCache 89 = .ok (.ireturn, 1) := by decide +kernel
theorem dX14_isWaitedFor_0 : decode cX14_isWaitedFor 0 = .ok (.iconst 0, 1) := by decide +kernel
theorem dX14_isWaitedFor_1 : decode cX14_isWaitedFor 1 = .ok (.istore_n 2, 1) := by decide +kernel
theorem dX14_isWaitedFor_2 : decode cX14_isWaitedFor 2 = .ok (.iload_n 2, 1) := by decide +kernel
theorem dX14_isWaitedFor_3 : decode cX14_isWaitedFor 3 = .ok (.aload_n 0, 1) := by decide +kernel
theorem dX14_isWaitedFor_4 : decode cX14_isWaitedFor 4 = .ok (.getfield 711, 3) := by decide +kernel
theorem dX14_isWaitedFor_7 : decode cX14_isWaitedFor 7 = .ok (.if_icmp .ge 21, 3) := by decide +kernel
theorem dX14_isWaitedFor_10 : decode cX14_isWaitedFor 10 = .ok (.aload_n 0, 1) := by decide +kernel
theorem dX14_isWaitedFor_11 : decode cX14_isWaitedFor 11 = .ok (.getfield 91, 3) := by decide +kernel
theorem dX14_isWaitedFor_14 : decode cX14_isWaitedFor 14 = .ok (.iload_n 2, 1) := by decide +kernel
theorem dX14_isWaitedFor_15 : decode cX14_isWaitedFor 15 = .ok (.aaload, 1) := by decide +kernel
theorem dX14_isWaitedFor_16 : decode cX14_isWaitedFor 16 = .ok (.aload_n 1, 1) := by decide +kernel
theorem dX14_isWaitedFor_17 : decode cX14_isWaitedFor 17 = .ok (.if_acmp .ne 5, 3) := by decide +kernel
theorem dX14_isWaitedFor_20 : decode cX14_isWaitedFor 20 = .ok (.iconst 1, 1) := by decide +kernel
theorem dX14_isWaitedFor_21 : decode cX14_isWaitedFor 21 = .ok (.ireturn, 1) := by decide +kernel
theorem dX14_isWaitedFor_22 : decode cX14_isWaitedFor 22 = .ok (.iinc 2 1, 3) := by decide +kernel
theorem dX14_isWaitedFor_25 : decode cX14_isWaitedFor 25 = .ok (.goto (-23), 3) := by decide +kernel
theorem dX14_isWaitedFor_28 : decode cX14_isWaitedFor 28 = .ok (.iconst 0, 1) := by decide +kernel
theorem dX14_isWaitedFor_29 : decode cX14_isWaitedFor 29 = .ok (.ireturn, 1) := by decide +kernel
def EX14_isWaitedFor : List (Nat × Nat) := []
def EX14_inCache : List (Nat × Nat) := []
set_option maxHeartbeats 4000000 in
set_option maxRecDepth 20000 in
theorem uX14_isWaitedFor (l : Launch) (dC : Nat → ClassId) (dI : Nat → Nat → Nat) (ca : Nat → ClassId) (base : Nat) (B : jF) (hB : jBok B) (hAp : jAp (dC, dI)) (hB14 : ∀ n G a H, B 14 n G a H ↔ jOb (dC, dI) 14 11 (F14 n G) a H) (hB16 : ∀ n G a H, B 16 n G a H ↔ jOb (dC, dI) 16 74 (F16 n G) a H) (hB202 : ∀ n G a H, B 202 n G a H ↔ jAq (dC, dI) (ca 4) (jQn 14 0) n G a H) (G0 : jT) (H0 : Heap) (r0 : Nat) (r1 : Nat) : Met l yX14_isWaitedFor (jw yX14_isWaitedFor cX14_isWaitedFor 3 (some .boolean)) ({ frames := 0, cells := 0, slots := 0, locals := 0 }) (va_Pc [.ref r0, .ref r1] (fun U => U.heap = H0 ∧ jX B base G0 [] H0 ∧ jG dC dI ca base U ∧ jK2 dC dI ca U ∧ G0 r1 = some (14, 0) ∧ G0 r0 = some (16, 0) ∧ jP (dC, dI) G0 H0 [] ∧ True)) (va_Qi (S := Unit) (fun r u => (r = 0 ∨ r = 1) ∧ (True)) (fun u t => jRt (dC, dI) B base G0 EX14_isWaitedFor H0 [] t.heap) (jA base)) 0 0 (jA base) := by
  refine Met.ofW (cc := cX14_isWaitedFor) (maxL := 3) (ret := (some .boolean)) (by decide) rfl ?_
  intro p e s m args below meth c s₁ Bd hml hv
  obtain ⟨rfl, hH0, hX, hG, hK2, hg_r1, hg_r0, hP0, hp0⟩ := hv
  have hK := hG.1
  have hx := Bd.exec
  have hb := Bd.bytes
  have hr := Bd.returns
  have hts := atoms_spec (ws := (jw yX14_isWaitedFor cX14_isWaitedFor 3 (some .boolean))) Bd.pre
  have htw : ∀ w ∈ jWl, w.before _ s = true := fun w h => hts w (List.mem_cons_of_mem _ h)
  have hown : s.vm.findClass RX14 = some m.cls := findClass_of_methodNamed Bd.named
  have hlocks := Bd.notSynchronized
  obtain ⟨Q, hQ⟩ : ∃ Q, Q = MQ below (va_Qi (S := Unit) (fun r u => (r = 0 ∨ r = 1) ∧ (True)) (fun u t => jRt (dC, dI) B base G0 EX14_isWaitedFor H0 [] t.heap) (jA base)) ([.ref r0, .ref r1] : List Value).toArray s 0 0 (jA base) := ⟨_, rfl⟩
  rw [← hQ]
  have hl := lv_entry ([.ref r0, .ref r1]) (n := 3) (Nat.le_of_ble_eq_true rfl)
  rw [lg_entry_eq]
  generalize (lg_sl ([.ref r0, .ref r1]) ++ List.replicate (3 - (lg_sl ([.ref r0, .ref r1])).length) Slot.unset).toArray = ls at hl ⊢
  have hl : lv_has ls 3 [(0, .ref r0), (1, .ref r1)] := hl
  generalize hR : (headSpec (jw yX14_isWaitedFor cX14_isWaitedFor 3 (some .boolean)) ({ frames := 0, cells := 0, slots := 0, locals := 0 })).room = R
  subst hH0
  have hh : jSt (dC, dI) B base G0 G0 EX14_isWaitedFor s.heap 0 0 [] [] [] s.heap [] := jSt.start hX hP0 jMc.nil jIs.nil
  clear hX hP0
  have hk0 : (0 : Int32).toInt = 0 := by decide
  have hk1 : (1 : Int32).toInt = 1 := by decide
  have hly_16_48 := htw (u_lay RX14 TX14 48) (jWc_wsX140 _ (u_in_lay (by decide)))
  have hly_16_49 := htw (u_lay RX14 TX14 49) (jWc_wsX140 _ (u_in_lay (by decide)))
  have hlk_711 := (htw (.fieldLink RX14 711 "ProofServerModel" "waits" "I") (jWr_58 _ (List.mem_of_getElem? (i := 11) rfl)))
  have hlk_91 := (htw (.fieldLink RX14 91 "ProofServerModel" "waitOf" "[LProofServerModel$Document;") (jWr_12 _ (List.mem_of_getElem? (i := 0) rfl)))
  refine lv_iconst (v := 0) hx hb dX14_isWaitedFor_0 (by decide) ?_
  refine lv_istore_n (lv' := [(2, .int 0), (0, .ref r0), (1, .ref r1)]) hx hb dX14_isWaitedFor_1 rfl hl (by decide) rfl (fun ls hl => ?_)
  obtain ⟨v_1, hv_1, hh_2⟩ := hh.pin (C := RX14) (T := TX14) (N := 74) hB16 rfl (by decide) hg_r0 (i := 48) (by decide) rfl
  obtain ⟨waits_3, rfl, hlowaits_3, hhiwaits_3⟩ := hv_1
  have L2 : ∀ (N : Nat) (v2_4 : Int32) (H_4 : Heap) (locs_4 : List Loc), jSt (dC, dI) B base G0 G0 EX14_isWaitedFor s.heap 0 0 [(r0, 16, 48, .int waits_3)] [] [] H_4 locs_4 → (0 ≤ v2_4.toInt ∧ v2_4.toInt ≤ waits_3.toInt) → (waits_3.toInt - v2_4.toInt : Int) < N → ∀ ls : Array Slot, lv_has ls 3 [(0, .ref r0), (1, .ref r1), (2, .int v2_4)] → W p l e R s m ([.ref r0, .ref r1] : List Value).toArray below meth c H_4 locs_4 0 0 Q (F0 m 2 ls []) := by
    intro N
    induction N with
    | zero => intro v2_4 H_4 locs_4 hh_4  hi_4 hm; exact absurd hm (by omega)
    | succ N L2 =>
      intro v2_4 H_4 locs_4 hh_4  hi_4 hm_4 ls hl
      obtain ⟨hi_4_0, hi_4_1⟩ := hi_4
      refine lv_iload_n hx hb dX14_isWaitedFor_2 rfl (lv_at hl 2 rfl) ?_
      refine lv_aload_n hx hb dX14_isWaitedFor_3 rfl (lv_at hl 0 rfl) ?_
      refine j7_read hx hb hown hK (C := RX14) (T := TX14) (N := 74) rfl hly_16_48 hlk_711 (hh_4.at 0 rfl) dX14_isWaitedFor_4 ?_
      refine lv_icmp_ge (tgt := 28) hx hb dX14_isWaitedFor_7 (by decide) (fun c_5 => ?_) (fun c_5 => ?_)
      · skip
        have c_5' : v2_4.toInt ≥ waits_3.toInt := jb_ge (rfl) (rfl) c_5
        refine lv_iconst (v := 0) hx hb dX14_isWaitedFor_28 (by decide) ?_
        rw [hQ]
        exact W.zret (v := 0) hx hb hr (jb_nz (Or.inl rfl)) (fun t ht hW => ⟨⟨0, (), rfl, ⟨(Or.inl rfl), trivial⟩, hh_4.rt (M1 := []) [] rfl ht⟩, by rw [ht]; try exact hh_4.1.1, fun q h9 hq => by rw [ht]; try exact hh_4.1.2.1 q h9 hq⟩) hh_4.1.2.2 dX14_isWaitedFor_29
      · skip
        have c_5' : v2_4.toInt < waits_3.toInt := jb_ge_n (rfl) (rfl) c_5
        refine lv_aload_n hx hb dX14_isWaitedFor_10 rfl (lv_at hl 0 rfl) ?_
        obtain ⟨v_6, hv_6, hh_7⟩ := hh_4.pin (C := RX14) (T := TX14) (N := 74) hB16 rfl (by decide) hg_r0 (i := 49) (by decide) rfl
        clear hh_4
        obtain ⟨waitOf_8, rfl, hg_waitOf_8⟩ := hv_6
        refine j7_read hx hb hown hK (C := RX14) (T := TX14) (N := 74) rfl hly_16_49 hlk_91 (hh_7.at 0 rfl) dX14_isWaitedFor_11 ?_
        refine lv_iload_n hx hb dX14_isWaitedFor_14 rfl (lv_at hl 2 rfl) ?_
        refine j7_qald hx hb hK2 hh_7 hB202 0 rfl (by decide) hg_waitOf_8 (x := v2_4.toInt) (rfl) (by omega) dX14_isWaitedFor_15 (fun o_9 ho_9 => ?_)
        rcases ho_9 with rfl | ⟨el_10, rfl, hg_el_10⟩
        · simp only [va_rf]
          refine lv_aload_n hx hb dX14_isWaitedFor_16 rfl (lv_at hl 1 rfl) ?_
          refine lv_acmp_ne (rx := none) (ry := (some r1)) (tgt := 22) hx hb dX14_isWaitedFor_17 (by decide) (fun c_11 => ?_) (fun c_11 => ?_)
          · skip
            obtain ⟨z_12, ez_12⟩ : ∃ y : Int32, y = v2_4 + 1 := ⟨_, rfl⟩
            refine lv_iinc (v := z_12) (lv' := [(2, .int z_12), (0, .ref r0), (1, .ref r1)]) hx hb dX14_isWaitedFor_22 hl (k := 2) rfl (by rw [ez_12]; rfl) (by decide) rfl (fun ls hl => ?_)
            have hz_12 : z_12.toInt = v2_4.toInt + 1 := by rw [ez_12]; exact jb_iadd2 (rfl) (by decide) (by omega)
            refine lv_goto (tgt := 2) hx hb dX14_isWaitedFor_25 (by decide) ?_
            exact L2 z_12 _ _ (hh_7.sub (L1 := [(r0, 16, 48, .int waits_3)]) [1] rfl (M1 := []) [] rfl (I1 := []) [] rfl) (by first | omega | (refine ⟨?_, ?_⟩ <;> (first | omega | rfl | assumption | decide | exact Or.inl rfl | exact Or.inr rfl | (simp only; omega)))) (by omega) _ (lv_sub hl [1, 2, 0] rfl)
          · skip
            cases c_11
        · simp only [va_rf]
          refine lv_aload_n hx hb dX14_isWaitedFor_16 rfl (lv_at hl 1 rfl) ?_
          refine lv_acmp_ne (rx := (some el_10)) (ry := (some r1)) (tgt := 22) hx hb dX14_isWaitedFor_17 (by decide) (fun c_13 => ?_) (fun c_13 => ?_)
          · skip
            obtain ⟨z_14, ez_14⟩ : ∃ y : Int32, y = v2_4 + 1 := ⟨_, rfl⟩
            refine lv_iinc (v := z_14) (lv' := [(2, .int z_14), (0, .ref r0), (1, .ref r1)]) hx hb dX14_isWaitedFor_22 hl (k := 2) rfl (by rw [ez_14]; rfl) (by decide) rfl (fun ls hl => ?_)
            have hz_14 : z_14.toInt = v2_4.toInt + 1 := by rw [ez_14]; exact jb_iadd2 (rfl) (by decide) (by omega)
            refine lv_goto (tgt := 2) hx hb dX14_isWaitedFor_25 (by decide) ?_
            exact L2 z_14 _ _ (hh_7.sub (L1 := [(r0, 16, 48, .int waits_3)]) [1] rfl (M1 := []) [] rfl (I1 := []) [] rfl) (by first | omega | (refine ⟨?_, ?_⟩ <;> (first | omega | rfl | assumption | decide | exact Or.inl rfl | exact Or.inr rfl | (simp only; omega)))) (by omega) _ (lv_sub hl [1, 2, 0] rfl)
          · skip
            refine lv_iconst (v := 1) hx hb dX14_isWaitedFor_20 (by decide) ?_
            rw [hQ]
            exact W.zret (v := 1) hx hb hr (jb_nz (Or.inr rfl)) (fun t ht hW => ⟨⟨1, (), rfl, ⟨(Or.inr rfl), trivial⟩, hh_7.rt (M1 := []) [] rfl ht⟩, by rw [ht]; try exact hh_7.1.1, fun q h9 hq => by rw [ht]; try exact hh_7.1.2.1 q h9 hq⟩) hh_7.1.2.2 dX14_isWaitedFor_21
  exact L2 (waits_3.toInt - (0 : Int32).toInt : Int).toNat.succ 0 _ _ hh_2 (by first | omega | (refine ⟨?_, ?_⟩ <;> (first | omega | rfl | assumption | decide | exact Or.inl rfl | exact Or.inr rfl | (simp only; omega)))) (by omega) _ (lv_sub hl [1, 2, 0] rfl)
set_option maxHeartbeats 4000000 in
set_option maxRecDepth 20000 in
theorem uX14_inCache (l : Launch) (dC : Nat → ClassId) (dI : Nat → Nat → Nat) (ca : Nat → ClassId) (base : Nat) (B : jF) (hB : jBok B) (hAp : jAp (dC, dI)) (hB16 : ∀ n G a H, B 16 n G a H ↔ jOb (dC, dI) 16 74 (F16 n G) a H) (hB101 : ∀ n G a H, B 101 n G a H ↔ jAr (dC, dI) (ca 1) (fun j z => True) n a H) (hB205 : ∀ n G a H, B 205 n G a H ↔ jAr (dC, dI) (ca 1) (fun j z => 0 ≤ z.toInt ∧ z.toInt ≤ 1600) n a H) (G0 : jT) (H0 : Heap) (r0 : Nat) (pq : Int32) : Met l yX14_inCache (jw yX14_inCache cX14_inCache 4 (some .int)) ({ frames := 0, cells := 0, slots := 0, locals := 0 }) (va_Pc [.ref r0] (fun U => U.heap = H0 ∧ jX B base G0 [] H0 ∧ jG dC dI ca base U ∧ G0 r0 = some (16, 0) ∧ jP (dC, dI) G0 H0 [(r0, 16, 66, .int pq)] ∧ 0 ≤ pq.toInt ∧ pq.toInt ≤ 24)) (va_Qi (S := Unit) (fun r u => (-1 ≤ r.toInt ∧ r.toInt < pq.toInt + 1 ∧ (r.toInt = -1 ∨ r.toInt < pq.toInt))) (fun u t => jRt (dC, dI) B base G0 EX14_inCache H0 [] t.heap) (jA base)) 0 0 (jA base) := by
  refine Met.ofW (cc := cX14_inCache) (maxL := 4) (ret := (some .int)) (by decide) rfl ?_
  intro p e s m args below meth c s₁ Bd hml hv
  obtain ⟨rfl, hH0, hX, hG, hg_r0, hP0, hp0, hp1⟩ := hv
  have hK := hG.1
  have hx := Bd.exec
  have hb := Bd.bytes
  have hr := Bd.returns
  have hts := atoms_spec (ws := (jw yX14_inCache cX14_inCache 4 (some .int))) Bd.pre
  have htw : ∀ w ∈ jWl, w.before _ s = true := fun w h => hts w (List.mem_cons_of_mem _ h)
  have hown : s.vm.findClass RX14 = some m.cls := findClass_of_methodNamed Bd.named
  have hlocks := Bd.notSynchronized
  obtain ⟨Q, hQ⟩ : ∃ Q, Q = MQ below (va_Qi (S := Unit) (fun r u => (-1 ≤ r.toInt ∧ r.toInt < pq.toInt + 1 ∧ (r.toInt = -1 ∨ r.toInt < pq.toInt))) (fun u t => jRt (dC, dI) B base G0 EX14_inCache H0 [] t.heap) (jA base)) ([.ref r0] : List Value).toArray s 0 0 (jA base) := ⟨_, rfl⟩
  rw [← hQ]
  have hl := lv_entry ([.ref r0]) (n := 4) (Nat.le_of_ble_eq_true rfl)
  rw [lg_entry_eq]
  generalize (lg_sl ([.ref r0]) ++ List.replicate (4 - (lg_sl ([.ref r0])).length) Slot.unset).toArray = ls at hl ⊢
  have hl : lv_has ls 4 [(0, .ref r0)] := hl
  generalize hR : (headSpec (jw yX14_inCache cX14_inCache 4 (some .int)) ({ frames := 0, cells := 0, slots := 0, locals := 0 })).room = R
  subst hH0
  have hh : jSt (dC, dI) B base G0 G0 EX14_inCache s.heap 0 0 [(r0, 16, 66, .int pq)] [] [] s.heap [] := jSt.start hX hP0 jMc.nil jIs.nil
  clear hX hP0
  have hkm1 : ((-1) : Int32).toInt = (-1) := by decide
  have hk0 : (0 : Int32).toInt = 0 := by decide
  have hk1 : (1 : Int32).toInt = 1 := by decide
  have hk1600 : (1600 : Int32).toInt = 1600 := by decide
  have hly_16_66 := htw (u_lay RX14 TX14 66) (jWc_wsX140 _ (u_in_lay (by decide)))
  have hly_16_67 := htw (u_lay RX14 TX14 67) (jWc_wsX140 _ (u_in_lay (by decide)))
  have hly_16_68 := htw (u_lay RX14 TX14 68) (jWc_wsX140 _ (u_in_lay (by decide)))
  have hly_16_69 := htw (u_lay RX14 TX14 69) (jWc_wsX140 _ (u_in_lay (by decide)))
  have hly_16_70 := htw (u_lay RX14 TX14 70) (jWc_wsX140 _ (u_in_lay (by decide)))
  have hlk_769 := (htw (.fieldLink RX14 769 "ProofServerModel" "cached" "I") (jWr_90 _ (List.mem_of_getElem? (i := 22) rfl)))
  have hlk_145 := (htw (.fieldLink RX14 145 "ProofServerModel" "cacheLength" "[I") (jWr_12 _ (List.mem_of_getElem? (i := 21) rfl)))
  have hlk_766 := (htw (.fieldLink RX14 766 "ProofServerModel" "rowLength" "I") (jWr_90 _ (List.mem_of_getElem? (i := 17) rfl)))
  have hlk_142 := (htw (.fieldLink RX14 142 "ProofServerModel" "cacheUnits" "[I") (jWr_12 _ (List.mem_of_getElem? (i := 20) rfl)))
  have hlk_148 := (htw (.fieldLink RX14 148 "ProofServerModel" "row" "[I") (jWr_12 _ (List.mem_of_getElem? (i := 22) rfl)))
  refine lv_iconst (v := 0) hx hb dX14_inCache_0 (by decide) ?_
  refine lv_istore_n (lv' := [(1, .int 0), (0, .ref r0)]) hx hb dX14_inCache_1 rfl hl (by decide) rfl (fun ls hl => ?_)
  obtain ⟨v_1, hv_1, hh_2⟩ := hh.pin (C := RX14) (T := TX14) (N := 74) hB16 rfl (by decide) hg_r0 (i := 70) (by decide) rfl
  obtain ⟨rowLength_3, rfl, hlorowLength_3, hhirowLength_3⟩ := hv_1
  have L2 : ∀ (N : Nat) (v1_4 : Int32) (H_4 : Heap) (locs_4 : List Loc), jSt (dC, dI) B base G0 G0 EX14_inCache s.heap 0 0 [(r0, 16, 70, .int rowLength_3), (r0, 16, 66, .int pq)] [] [] H_4 locs_4 → (0 ≤ v1_4.toInt ∧ v1_4.toInt ≤ pq.toInt) → (pq.toInt - v1_4.toInt : Int) < N → ∀ ls : Array Slot, lv_has ls 4 [(0, .ref r0), (1, .int v1_4)] → W p l e R s m ([.ref r0] : List Value).toArray below meth c H_4 locs_4 0 0 Q (F0 m 2 ls []) := by
    intro N
    induction N with
    | zero => intro v1_4 H_4 locs_4 hh_4  hi_4 hm; exact absurd hm (by omega)
    | succ N L2 =>
      intro v1_4 H_4 locs_4 hh_4  hi_4 hm_4 ls hl
      obtain ⟨hi_4_0, hi_4_1⟩ := hi_4
      refine lv_iload_n hx hb dX14_inCache_2 rfl (lv_at hl 1 rfl) ?_
      refine lv_aload_n hx hb dX14_inCache_3 rfl (lv_at hl 0 rfl) ?_
      refine j7_read hx hb hown hK (C := RX14) (T := TX14) (N := 74) rfl hly_16_66 hlk_769 (hh_4.at 1 rfl) dX14_inCache_4 ?_
      refine lv_icmp_ge (tgt := 88) hx hb dX14_inCache_7 (by decide) (fun c_5 => ?_) (fun c_5 => ?_)
      · skip
        have c_5' : v1_4.toInt ≥ pq.toInt := jb_ge (rfl) (rfl) c_5
        refine lv_iconst (v := (-1)) hx hb dX14_inCache_88 (by decide) ?_
        rw [hQ]
        exact W.iret (v := (-1)) hx hb hr (fun t ht hW => ⟨⟨(-1), (), rfl, by first | omega | (refine ⟨?_, ?_, ?_⟩ <;> (first | omega | rfl | assumption | decide | exact Or.inl rfl | exact Or.inr rfl | (simp only; omega))), hh_4.rt (M1 := []) [] rfl ht⟩, by rw [ht]; try exact hh_4.1.1, fun q h9 hq => by rw [ht]; try exact hh_4.1.2.1 q h9 hq⟩) hh_4.1.2.2 dX14_inCache_89
      · skip
        have c_5' : v1_4.toInt < pq.toInt := jb_ge_n (rfl) (rfl) c_5
        refine lv_aload_n hx hb dX14_inCache_10 rfl (lv_at hl 0 rfl) ?_
        obtain ⟨v_6, hv_6, hh_7⟩ := hh_4.pin (C := RX14) (T := TX14) (N := 74) hB16 rfl (by decide) hg_r0 (i := 68) (by decide) rfl
        clear hh_4
        obtain ⟨cacheLength_8, rfl, hg_cacheLength_8⟩ := hv_6
        refine j7_read hx hb hown hK (C := RX14) (T := TX14) (N := 74) rfl hly_16_68 hlk_145 (hh_7.at 0 rfl) dX14_inCache_11 ?_
        refine lv_iload_n hx hb dX14_inCache_14 rfl (lv_at hl 1 rfl) ?_
        refine j7_iald hx hb hK hh_7 hB205 1 rfl (by decide) hg_cacheLength_8 (x := v1_4.toInt) (rfl) (by omega) dX14_inCache_15 (fun z_9 (hz_9 : 0 ≤ z_9.toInt ∧ z_9.toInt ≤ 1600) => ?_)
        refine lv_aload_n hx hb dX14_inCache_16 rfl (lv_at hl 0 rfl) ?_
        refine j7_read hx hb hown hK (C := RX14) (T := TX14) (N := 74) rfl hly_16_70 hlk_766 (hh_7.at 1 rfl) dX14_inCache_17 ?_
        have C28 : ∀ (w0_10 : Int32) (H_10 : Heap) (locs_10 : List Loc), jSt (dC, dI) B base G0 G0 EX14_inCache s.heap 0 0 [(r0, 16, 68, .ref cacheLength_8), (r0, 16, 70, .int rowLength_3), (r0, 16, 66, .int pq)] [] [] H_10 locs_10 → (w0_10 = 0 ∨ w0_10 = 1) → (True) → ∀ ls : Array Slot, lv_has ls 4 [(0, .ref r0), (1, .int v1_4)] → W p l e R s m ([.ref r0] : List Value).toArray below meth c H_10 locs_10 0 0 Q (F0 m 28 ls [.int w0_10]) := by
          intro w0_10 H_10 locs_10 hh_10 hb_w0_10 hi_10 ls hl
          have hb_w0_10' := jb_01 hb_w0_10
          refine lv_istore_n (lv' := [(2, .int w0_10), (0, .ref r0), (1, .int v1_4)]) hx hb dX14_inCache_28 rfl hl (by decide) rfl (fun ls hl => ?_)
          refine lv_iconst (v := 0) hx hb dX14_inCache_29 (by decide) ?_
          refine lv_istore_n (lv' := [(3, .int 0), (2, .int w0_10), (0, .ref r0), (1, .int v1_4)]) hx hb dX14_inCache_30 rfl hl (by decide) rfl (fun ls hl => ?_)
          have L31 : ∀ (N : Nat) (v2_11 : Int32) (v3_11 : Int32) (H_11 : Heap) (locs_11 : List Loc), jSt (dC, dI) B base G0 G0 EX14_inCache s.heap 0 0 [(r0, 16, 68, .ref cacheLength_8), (r0, 16, 70, .int rowLength_3), (r0, 16, 66, .int pq)] [] [] H_11 locs_11 → (v2_11 = 0 ∨ v2_11 = 1) → (0 ≤ v3_11.toInt ∧ v3_11.toInt ≤ 1600) → (((rowLength_3.toInt - v3_11.toInt).toNat : Int) : Int) < N → ∀ ls : Array Slot, lv_has ls 4 [(0, .ref r0), (1, .int v1_4), (2, .int v2_11), (3, .int v3_11)] → W p l e R s m ([.ref r0] : List Value).toArray below meth c H_11 locs_11 0 0 Q (F0 m 31 ls []) := by
            intro N
            induction N with
            | zero => intro v2_11 v3_11 H_11 locs_11 hh_11 hb_v2_11 hi_11 hm; exact absurd hm (by omega)
            | succ N L31 =>
              intro v2_11 v3_11 H_11 locs_11 hh_11 hb_v2_11 hi_11 hm_11 ls hl
              obtain ⟨hi_11_0, hi_11_1⟩ := hi_11
              have hb_v2_11' := jb_01 hb_v2_11
              refine lv_iload_n hx hb dX14_inCache_31 rfl (lv_at hl 3 rfl) ?_
              refine lv_aload_n hx hb dX14_inCache_32 rfl (lv_at hl 0 rfl) ?_
              refine j7_read hx hb hown hK (C := RX14) (T := TX14) (N := 74) rfl hly_16_70 hlk_766 (hh_11.at 1 rfl) dX14_inCache_33 ?_
              refine lv_icmp_ge (tgt := 76) hx hb dX14_inCache_36 (by decide) (fun c_12 => ?_) (fun c_12 => ?_)
              · skip
                have c_12' : v3_11.toInt ≥ rowLength_3.toInt := jb_ge (rfl) (rfl) c_12
                refine lv_iload_n hx hb dX14_inCache_76 rfl (lv_at hl 2 rfl) ?_
                refine lv_if_eq (tgt := 82) hx hb dX14_inCache_77 (by decide) (fun c_13 => ?_) (fun c_13 => ?_)
                · skip
                  have c_13' : v2_11.toInt = 0 := jb_eq (rfl) ((by decide)) c_13
                  obtain ⟨z_14, ez_14⟩ : ∃ y : Int32, y = v1_4 + 1 := ⟨_, rfl⟩
                  refine lv_iinc (v := z_14) (lv' := [(1, .int z_14), (0, .ref r0), (2, .int v2_11), (3, .int v3_11)]) hx hb dX14_inCache_82 hl (k := 1) rfl (by rw [ez_14]; rfl) (by decide) rfl (fun ls hl => ?_)
                  have hz_14 : z_14.toInt = v1_4.toInt + 1 := by rw [ez_14]; exact jb_iadd2 (rfl) (by decide) (by omega)
                  refine lv_goto (tgt := 2) hx hb dX14_inCache_85 (by decide) ?_
                  exact L2 z_14 _ _ (hh_11.sub (L1 := [(r0, 16, 70, .int rowLength_3), (r0, 16, 66, .int pq)]) [1, 2] rfl (M1 := []) [] rfl (I1 := []) [] rfl) (by first | omega | (refine ⟨?_, ?_⟩ <;> (first | omega | rfl | assumption | decide | exact Or.inl rfl | exact Or.inr rfl | (simp only; omega)))) (by omega) _ (lv_sub hl [1, 0] rfl)
                · skip
                  have c_13' : v2_11.toInt ≠ 0 := jb_eq_n (rfl) ((by decide)) c_13
                  refine lv_iload_n hx hb dX14_inCache_80 rfl (lv_at hl 1 rfl) ?_
                  rw [hQ]
                  exact W.iret (v := v1_4) hx hb hr (fun t ht hW => ⟨⟨v1_4, (), rfl, by first | omega | (refine ⟨?_, ?_, ?_⟩ <;> (first | omega | rfl | assumption | decide | exact Or.inl rfl | exact Or.inr rfl | (simp only; omega))), hh_11.rt (M1 := []) [] rfl ht⟩, by rw [ht]; try exact hh_11.1.1, fun q h9 hq => by rw [ht]; try exact hh_11.1.2.1 q h9 hq⟩) hh_11.1.2.2 dX14_inCache_81
              · skip
                have c_12' : v3_11.toInt < rowLength_3.toInt := jb_ge_n (rfl) (rfl) c_12
                refine lv_iload_n hx hb dX14_inCache_39 rfl (lv_at hl 2 rfl) ?_
                refine lv_if_eq (tgt := 76) hx hb dX14_inCache_40 (by decide) (fun c_15 => ?_) (fun c_15 => ?_)
                · skip
                  have c_15' : v2_11.toInt = 0 := jb_eq (rfl) ((by decide)) c_15
                  refine lv_iload_n hx hb dX14_inCache_76 rfl (lv_at hl 2 rfl) ?_
                  refine lv_if_eq (tgt := 82) hx hb dX14_inCache_77 (by decide) (fun c_16 => ?_) (fun c_16 => ?_)
                  · skip
                    have c_16' : v2_11.toInt = 0 := jb_eq (rfl) ((by decide)) c_16
                    obtain ⟨z_17, ez_17⟩ : ∃ y : Int32, y = v1_4 + 1 := ⟨_, rfl⟩
                    refine lv_iinc (v := z_17) (lv' := [(1, .int z_17), (0, .ref r0), (2, .int v2_11), (3, .int v3_11)]) hx hb dX14_inCache_82 hl (k := 1) rfl (by rw [ez_17]; rfl) (by decide) rfl (fun ls hl => ?_)
                    have hz_17 : z_17.toInt = v1_4.toInt + 1 := by rw [ez_17]; exact jb_iadd2 (rfl) (by decide) (by omega)
                    refine lv_goto (tgt := 2) hx hb dX14_inCache_85 (by decide) ?_
                    exact L2 z_17 _ _ (hh_11.sub (L1 := [(r0, 16, 70, .int rowLength_3), (r0, 16, 66, .int pq)]) [1, 2] rfl (M1 := []) [] rfl (I1 := []) [] rfl) (by first | omega | (refine ⟨?_, ?_⟩ <;> (first | omega | rfl | assumption | decide | exact Or.inl rfl | exact Or.inr rfl | (simp only; omega)))) (by omega) _ (lv_sub hl [1, 0] rfl)
                  · skip
                    have c_16' : v2_11.toInt ≠ 0 := jb_eq_n (rfl) ((by decide)) c_16
                    exact (by omega : False).elim
                · skip
                  have c_15' : v2_11.toInt ≠ 0 := jb_eq_n (rfl) ((by decide)) c_15
                  refine lv_aload_n hx hb dX14_inCache_43 rfl (lv_at hl 0 rfl) ?_
                  obtain ⟨v_18, hv_18, hh_19⟩ := hh_11.pin (C := RX14) (T := TX14) (N := 74) hB16 rfl (by decide) hg_r0 (i := 67) (by decide) rfl
                  clear hh_11
                  obtain ⟨cacheUnits_20, rfl, hg_cacheUnits_20⟩ := hv_18
                  refine j7_read hx hb hown hK (C := RX14) (T := TX14) (N := 74) rfl hly_16_67 hlk_142 (hh_19.at 0 rfl) dX14_inCache_44 ?_
                  refine lv_sipush (v := 1600) hx hb dX14_inCache_47 (by decide) ?_
                  refine lv_iload_n hx hb dX14_inCache_50 rfl (lv_at hl 1 rfl) ?_
                  refine lv_imul hx hb dX14_inCache_51 ?_
                  refine lv_topi (fun z_21 ez_21 => ?_)
                  have hz_21 : z_21.toInt = 1600 * v1_4.toInt := by rw [ez_21]; exact jb_imul2 ((by decide)) (rfl) (by omega)
                  refine lv_iload_n hx hb dX14_inCache_52 rfl (lv_at hl 3 rfl) ?_
                  refine lv_iadd hx hb dX14_inCache_53 ?_
                  refine lv_topi (fun z_22 ez_22 => ?_)
                  have hz_22 : z_22.toInt = z_21.toInt + v3_11.toInt := by rw [ez_22]; exact jb_iadd2 (rfl) (rfl) (by omega)
                  refine j7_iald hx hb hK hh_19 hB101 1 rfl (by decide) hg_cacheUnits_20 (x := z_22.toInt) (rfl) (by omega) dX14_inCache_54 (fun z_23 (hz_23 : True) => ?_)
                  refine lv_aload_n hx hb dX14_inCache_55 rfl (lv_at hl 0 rfl) ?_
                  obtain ⟨v_24, hv_24, hh_25⟩ := hh_19.pin (C := RX14) (T := TX14) (N := 74) hB16 rfl (by decide) hg_r0 (i := 69) (by decide) rfl
                  clear hh_19
                  obtain ⟨row_26, rfl, hg_row_26⟩ := hv_24
                  refine j7_read hx hb hown hK (C := RX14) (T := TX14) (N := 74) rfl hly_16_69 hlk_148 (hh_25.at 0 rfl) dX14_inCache_56 ?_
                  refine lv_iload_n hx hb dX14_inCache_59 rfl (lv_at hl 3 rfl) ?_
                  refine j7_iald hx hb hK hh_25 hB101 1 rfl (by decide) hg_row_26 (x := v3_11.toInt) (rfl) (by omega) dX14_inCache_60 (fun z_27 (hz_27 : True) => ?_)
                  refine lv_icmp_ne (tgt := 68) hx hb dX14_inCache_61 (by decide) (fun c_28 => ?_) (fun c_28 => ?_)
                  · skip
                    have c_28' : z_23.toInt ≠ z_27.toInt := jb_ne (rfl) (rfl) c_28
                    refine lv_iconst (v := 0) hx hb dX14_inCache_68 (by decide) ?_
                    refine lv_istore_n (lv' := [(2, .int 0), (0, .ref r0), (1, .int v1_4), (3, .int v3_11)]) hx hb dX14_inCache_69 rfl hl (by decide) rfl (fun ls hl => ?_)
                    obtain ⟨z_29, ez_29⟩ : ∃ y : Int32, y = v3_11 + 1 := ⟨_, rfl⟩
                    refine lv_iinc (v := z_29) (lv' := [(3, .int z_29), (2, .int 0), (0, .ref r0), (1, .int v1_4)]) hx hb dX14_inCache_70 hl (k := 3) rfl (by rw [ez_29]; rfl) (by decide) rfl (fun ls hl => ?_)
                    have hz_29 : z_29.toInt = v3_11.toInt + 1 := by rw [ez_29]; exact jb_iadd2 (rfl) (by decide) (by omega)
                    refine lv_goto (tgt := 31) hx hb dX14_inCache_73 (by decide) ?_
                    exact L31 0 z_29 _ _ (hh_25.sub (L1 := [(r0, 16, 68, .ref cacheLength_8), (r0, 16, 70, .int rowLength_3), (r0, 16, 66, .int pq)]) [2, 3, 4] rfl (M1 := []) [] rfl (I1 := []) [] rfl) (Or.inl rfl) (by first | omega | (refine ⟨?_, ?_⟩ <;> (first | omega | rfl | assumption | decide | exact Or.inl rfl | exact Or.inr rfl | (simp only; omega)))) (by omega) _ (lv_sub hl [2, 3, 1, 0] rfl)
                  · skip
                    have c_28' : z_23.toInt = z_27.toInt := jb_ne_n (rfl) (rfl) c_28
                    refine lv_iconst (v := 1) hx hb dX14_inCache_64 (by decide) ?_
                    refine lv_goto (tgt := 69) hx hb dX14_inCache_65 (by decide) ?_
                    refine lv_istore_n (lv' := [(2, .int 1), (0, .ref r0), (1, .int v1_4), (3, .int v3_11)]) hx hb dX14_inCache_69 rfl hl (by decide) rfl (fun ls hl => ?_)
                    obtain ⟨z_30, ez_30⟩ : ∃ y : Int32, y = v3_11 + 1 := ⟨_, rfl⟩
                    refine lv_iinc (v := z_30) (lv' := [(3, .int z_30), (2, .int 1), (0, .ref r0), (1, .int v1_4)]) hx hb dX14_inCache_70 hl (k := 3) rfl (by rw [ez_30]; rfl) (by decide) rfl (fun ls hl => ?_)
                    have hz_30 : z_30.toInt = v3_11.toInt + 1 := by rw [ez_30]; exact jb_iadd2 (rfl) (by decide) (by omega)
                    refine lv_goto (tgt := 31) hx hb dX14_inCache_73 (by decide) ?_
                    exact L31 1 z_30 _ _ (hh_25.sub (L1 := [(r0, 16, 68, .ref cacheLength_8), (r0, 16, 70, .int rowLength_3), (r0, 16, 66, .int pq)]) [2, 3, 4] rfl (M1 := []) [] rfl (I1 := []) [] rfl) (Or.inr rfl) (by first | omega | (refine ⟨?_, ?_⟩ <;> (first | omega | rfl | assumption | decide | exact Or.inl rfl | exact Or.inr rfl | (simp only; omega)))) (by omega) _ (lv_sub hl [2, 3, 1, 0] rfl)
          exact L31 (((rowLength_3.toInt - (0 : Int32).toInt).toNat : Int) : Int).toNat.succ w0_10 0 _ _ hh_10 (hb_w0_10) (by first | omega | (refine ⟨?_, ?_⟩ <;> (first | omega | rfl | assumption | decide | exact Or.inl rfl | exact Or.inr rfl | (simp only; omega)))) (by omega) _ (lv_sub hl [2, 3, 1, 0] rfl)
        refine lv_icmp_ne (tgt := 27) hx hb dX14_inCache_20 (by decide) (fun c_31 => ?_) (fun c_31 => ?_)
        · skip
          have c_31' : z_9.toInt ≠ rowLength_3.toInt := jb_ne (rfl) (rfl) c_31
          refine lv_iconst (v := 0) hx hb dX14_inCache_27 (by decide) ?_
          exact C28 0 _ _ hh_7 (Or.inl rfl) (trivial) _ (lv_sub hl [0, 1] rfl)
        · skip
          have c_31' : z_9.toInt = rowLength_3.toInt := jb_ne_n (rfl) (rfl) c_31
          refine lv_iconst (v := 1) hx hb dX14_inCache_23 (by decide) ?_
          refine lv_goto (tgt := 28) hx hb dX14_inCache_24 (by decide) ?_
          exact C28 1 _ _ hh_7 (Or.inr rfl) (trivial) _ (lv_sub hl [0, 1] rfl)
  exact L2 (pq.toInt - (0 : Int32).toInt : Int).toNat.succ 0 _ _ hh_2 (by first | omega | (refine ⟨?_, ?_⟩ <;> (first | omega | rfl | assumption | decide | exact Or.inl rfl | exact Or.inr rfl | (simp only; omega)))) (by omega) _ (lv_sub hl [1, 0] rfl)
end
section
theorem dX14_keepRow_0 : decode cX14_keepRow 0 = .ok (.aload_n 0, 1) := by decide +kernel
theorem dX14_keepRow_1 : decode cX14_keepRow 1 = .ok (.invokevirtual 772, 3) := by decide +kernel
theorem dX14_keepRow_4 : decode cX14_keepRow 4 = .ok (.istore_n 1, 1) := by decide +kernel
theorem dX14_keepRow_5 : decode cX14_keepRow 5 = .ok (.iload_n 1, 1) := by decide +kernel
theorem dX14_keepRow_6 : decode cX14_keepRow 6 = .ok (.ifCond .ge 14, 3) := by decide +kernel
theorem dX14_keepRow_9 : decode cX14_keepRow 9 = .ok (.aload_n 0, 1) := by decide +kernel
theorem dX14_keepRow_10 : decode cX14_keepRow 10 = .ok (.getfield 769, 3) := by decide +kernel
theorem dX14_keepRow_13 : decode cX14_keepRow 13 = .ok (.bipush 24, 2) := by decide +kernel
theorem dX14_keepRow_15 : decode cX14_keepRow 15 = .ok (.if_icmp .ne 5, 3) := by decide +kernel
theorem dX14_keepRow_18 : decode cX14_keepRow 18 = .ok (.iconst 0, 1) := by decide +kernel
theorem dX14_keepRow_19 : decode cX14_keepRow 19 = .ok (.istore_n 1, 1) := by decide +kernel
theorem dX14_keepRow_20 : decode cX14_keepRow 20 = .ok (.iload_n 1, 1) := by decide +kernel
theorem dX14_keepRow_21 : decode cX14_keepRow 21 = .ok (.ifCond .lt 91, 3) := by decide +kernel
theorem dX14_keepRow_24 : decode cX14_keepRow 24 = .ok (.iload_n 1, 1) := by decide +kernel
theorem dX14_keepRow_25 : decode cX14_keepRow 25 = .ok (.istore_n 2, 1) := by decide +kernel
theorem dX14_keepRow_26 : decode cX14_keepRow 26 = .ok (.iload_n 2, 1) := by decide +kernel
theorem dX14_keepRow_27 : decode cX14_keepRow 27 = .ok (.iconst 1, 1) := by decide +kernel
theorem dX14_keepRow_28 : decode cX14_keepRow 28 = .ok (.iadd, 1) := by decide +kernel
theorem dX14_keepRow_29 : decode cX14_keepRow 29 = .ok (.aload_n 0, 1) := by decide +kernel
theorem dX14_keepRow_30 : decode cX14_keepRow 30 = .ok (.getfield 769, 3) := by decide +kernel
theorem dX14_keepRow_33 : decode cX14_keepRow 33 = .ok (.if_icmp .ge 69, 3) := by decide +kernel
theorem dX14_keepRow_36 : decode cX14_keepRow 36 = .ok (.aload_n 0, 1) := by decide +kernel
theorem dX14_keepRow_37 : decode cX14_keepRow 37 = .ok (.getfield 145, 3) := by decide +kernel
theorem dX14_keepRow_40 : decode cX14_keepRow 40 = .ok (.iload_n 2, 1) := by decide +kernel
theorem dX14_keepRow_41 : decode cX14_keepRow 41 = .ok (.aload_n 0, 1) := by decide +kernel
theorem dX14_keepRow_42 : decode cX14_keepRow 42 = .ok (.getfield 145, 3) := by decide +kernel
theorem dX14_keepRow_45 : decode cX14_keepRow 45 = .ok (.iload_n 2, 1) := by decide +kernel
theorem dX14_keepRow_46 : decode cX14_keepRow 46 = .ok (.iconst 1, 1) := by decide +kernel
theorem dX14_keepRow_47 : decode cX14_keepRow 47 = .ok (.iadd, 1) := by decide +kernel
theorem dX14_keepRow_48 : decode cX14_keepRow 48 = .ok (.iaload, 1) := by decide +kernel
theorem dX14_keepRow_49 : decode cX14_keepRow 49 = .ok (.iastore, 1) := by decide +kernel
theorem dX14_keepRow_50 : decode cX14_keepRow 50 = .ok (.iconst 0, 1) := by decide +kernel
theorem dX14_keepRow_51 : decode cX14_keepRow 51 = .ok (.istore_n 3, 1) := by decide +kernel
theorem dX14_keepRow_52 : decode cX14_keepRow 52 = .ok (.iload_n 3, 1) := by decide +kernel
theorem dX14_keepRow_53 : decode cX14_keepRow 53 = .ok (.aload_n 0, 1) := by decide +kernel
theorem dX14_keepRow_54 : decode cX14_keepRow 54 = .ok (.getfield 145, 3) := by decide +kernel
theorem dX14_keepRow_57 : decode cX14_keepRow 57 = .ok (.iload_n 2, 1) := by decide +kernel
theorem dX14_keepRow_58 : decode cX14_keepRow 58 = .ok (.iaload, 1) := by decide +kernel
theorem dX14_keepRow_59 : decode cX14_keepRow 59 = .ok (.if_icmp .ge 37, 3) := by decide +kernel
theorem dX14_keepRow_62 : decode cX14_keepRow 62 = .ok (.aload_n 0, 1) := by decide +kernel
theorem dX14_keepRow_63 : decode cX14_keepRow 63 = .ok (.getfield 142, 3) := by decide +kernel
theorem dX14_keepRow_66 : decode cX14_keepRow 66 = .ok (.sipush 1600, 3) := by decide +kernel
theorem dX14_keepRow_69 : decode cX14_keepRow 69 = .ok (.iload_n 2, 1) := by decide +kernel
theorem dX14_keepRow_70 : decode cX14_keepRow 70 = .ok (.imul, 1) := by decide +kernel
theorem dX14_keepRow_71 : decode cX14_keepRow 71 = .ok (.iload_n 3, 1) := by decide +kernel
theorem dX14_keepRow_72 : decode cX14_keepRow 72 = .ok (.iadd, 1) := by decide +kernel
theorem dX14_keepRow_73 : decode cX14_keepRow 73 = .ok (.aload_n 0, 1) := by decide +kernel
theorem dX14_keepRow_74 : decode cX14_keepRow 74 = .ok (.getfield 142, 3) := by decide +kernel
theorem dX14_keepRow_77 : decode cX14_keepRow 77 = .ok (.sipush 1600, 3) := by decide +kernel
theorem dX14_keepRow_80 : decode cX14_keepRow 80 = .ok (.iload_n 2, 1) := by decide +kernel
theorem dX14_keepRow_81 : decode cX14_keepRow 81 = .ok (.imul, 1) := by decide +kernel
theorem dX14_keepRow_82 : decode cX14_keepRow 82 = .ok (.sipush 1600, 3) := by decide +kernel
theorem dX14_keepRow_85 : decode cX14_keepRow 85 = .ok (.iadd, 1) := by decide +kernel
theorem dX14_keepRow_86 : decode cX14_keepRow 86 = .ok (.iload_n 3, 1) := by decide +kernel
theorem dX14_keepRow_87 : decode cX14_keepRow 87 = .ok (.iadd, 1) := by decide +kernel
theorem dX14_keepRow_88 : decode cX14_keepRow 88 = .ok (.iaload, 1) := by decide +kernel
theorem dX14_keepRow_89 : decode cX14_keepRow 89 = .ok (.iastore, 1) := by decide +kernel
theorem dX14_keepRow_90 : decode cX14_keepRow 90 = .ok (.iinc 3 1, 3) := by decide +kernel
theorem dX14_keepRow_93 : decode cX14_keepRow 93 = .ok (.goto (-41), 3) := by decide +kernel
theorem dX14_keepRow_96 : decode cX14_keepRow 96 = .ok (.iinc 2 1, 3) := by decide +kernel
theorem dX14_keepRow_99 : decode cX14_keepRow 99 = .ok (.goto (-73), 3) := by decide +kernel
theorem dX14_keepRow_102 : decode cX14_keepRow 102 = .ok (.aload_n 0, 1) := by decide +kernel
theorem dX14_keepRow_103 : decode cX14_keepRow 103 = .ok (.dup, 1) := by decide +kernel
theorem dX14_keepRow_104 : decode cX14_keepRow 104 = .ok (.getfield 769, 3) := by decide +kernel
theorem dX14_keepRow_107 : decode cX14_keepRow 107 = .ok (.iconst 1, 1) := by decide +kernel
theorem dX14_keepRow_108 : decode cX14_keepRow 108 = .ok (.isub, 1) := by decide +kernel
theorem dX14_keepRow_109 : decode cX14_keepRow 109 = .ok (.putfield 769, 3) := by decide +kernel
theorem dX14_keepRow_112 : decode cX14_keepRow 112 = .ok (.aload_n 0, 1) := by decide +kernel
theorem dX14_keepRow_113 : decode cX14_keepRow 113 = .ok (.getfield 145, 3) := by decide +kernel
theorem dX14_keepRow_116 : decode cX14_keepRow 116 = .ok (.aload_n 0, 1) := by decide +kernel
theorem dX14_keepRow_117 : decode cX14_keepRow 117 = .ok (.getfield 769, 3) := by decide +kernel
theorem dX14_keepRow_120 : decode cX14_keepRow 120 = .ok (.aload_n 0, 1) := by decide +kernel
theorem dX14_keepRow_121 : decode cX14_keepRow 121 = .ok (.getfield 766, 3) := by decide +kernel
theorem dX14_keepRow_124 : decode cX14_keepRow 124 = .ok (.iastore, 1) := by decide +kernel
theorem dX14_keepRow_125 : decode cX14_keepRow 125 = .ok (.iconst 0, 1) := by decide +kernel
theorem dX14_keepRow_126 : decode cX14_keepRow 126 = .ok (.istore_n 2, 1) := by decide +kernel
theorem dX14_keepRow_127 : decode cX14_keepRow 127 = .ok (.iload_n 2, 1) := by decide +kernel
theorem dX14_keepRow_128 : decode cX14_keepRow 128 = .ok (.aload_n 0, 1) := by decide +kernel
theorem dX14_keepRow_129 : decode cX14_keepRow 129 = .ok (.getfield 766, 3) := by decide +kernel
theorem dX14_keepRow_132 : decode cX14_keepRow 132 = .ok (.if_icmp .ge 30, 3) := by decide +kernel
theorem dX14_keepRow_135 : decode cX14_keepRow 135 = .ok (.aload_n 0, 1) := by decide +kernel
theorem dX14_keepRow_136 : decode cX14_keepRow 136 = .ok (.getfield 142, 3) := by decide +kernel
theorem dX14_keepRow_139 : decode cX14_keepRow 139 = .ok (.sipush 1600, 3) := by decide +kernel
theorem dX14_keepRow_142 : decode cX14_keepRow 142 = .ok (.aload_n 0, 1) := by decide +kernel
theorem dX14_keepRow_143 : decode cX14_keepRow 143 = .ok (.getfield 769, 3) := by decide +kernel
theorem dX14_keepRow_146 : decode cX14_keepRow 146 = .ok (.imul, 1) := by decide +kernel
theorem dX14_keepRow_147 : decode cX14_keepRow 147 = .ok (.iload_n 2, 1) := by decide +kernel
theorem dX14_keepRow_148 : decode cX14_keepRow 148 = .ok (.iadd, 1) := by decide +kernel
theorem dX14_keepRow_149 : decode cX14_keepRow 149 = .ok (.aload_n 0, 1) := by decide +kernel
theorem dX14_keepRow_150 : decode cX14_keepRow 150 = .ok (.getfield 148, 3) := by decide +kernel
theorem dX14_keepRow_153 : decode cX14_keepRow 153 = .ok (.iload_n 2, 1) := by decide +kernel
theorem dX14_keepRow_154 : decode cX14_keepRow 154 = .ok (.iaload, 1) := by decide +kernel
theorem dX14_keepRow_155 : decode cX14_keepRow 155 = .ok (.iastore, 1) := by decide +kernel
theorem dX14_keepRow_156 : decode cX14_keepRow 156 = .ok (.iinc 2 1, 3) := by decide +kernel
theorem dX14_keepRow_159 : decode cX14_keepRow 159 = .ok (.goto (-32), 3) := by decide +kernel
theorem dX14_keepRow_162 : decode cX14_keepRow 162 = .ok (.aload_n 0, 1) := by decide +kernel
theorem dX14_keepRow_163 : decode cX14_keepRow 163 = .ok (.dup, 1) := by decide +kernel
theorem dX14_keepRow_164 : decode cX14_keepRow 164 = .ok (.getfield 769, 3) := by decide +kernel
theorem dX14_keepRow_167 : decode cX14_keepRow 167 = .ok (.iconst 1, 1) := by decide +kernel
theorem dX14_keepRow_168 : decode cX14_keepRow 168 = .ok (.iadd, 1) := by decide +kernel
theorem dX14_keepRow_169 : decode cX14_keepRow 169 = .ok (.putfield 769, 3) := by decide +kernel
theorem dX14_keepRow_172 : decode cX14_keepRow 172 = .ok (.return_, 1) := by decide +kernel
def EX14_keepRow : List (Nat × Nat) := [(16, 66), (101, 0), (205, 0)]
set_option maxHeartbeats 4000000 in
set_option maxRecDepth 20000 in
theorem uX14_keepRow (l : Launch) (dC : Nat → ClassId) (dI : Nat → Nat → Nat) (ca : Nat → ClassId) (base : Nat) (B : jF) (hB : jBok B) (hAp : jAp (dC, dI)) (hB16 : ∀ n G a H, B 16 n G a H ↔ jOb (dC, dI) 16 74 (F16 n G) a H) (hB101 : ∀ n G a H, B 101 n G a H ↔ jAr (dC, dI) (ca 1) (fun j z => True) n a H) (hB205 : ∀ n G a H, B 205 n G a H ↔ jAr (dC, dI) (ca 1) (fun j z => 0 ≤ z.toInt ∧ z.toInt ≤ 1600) n a H) (G0 : jT) (H0 : Heap) (r0 : Nat) : Met l yX14_keepRow (jw yX14_keepRow cX14_keepRow 4 none) ({ frames := 1, cells := 0, slots := 0, locals := 23 }) (va_Pc [.ref r0] (fun U => U.heap = H0 ∧ jX B base G0 [] H0 ∧ jG dC dI ca base U ∧ G0 r0 = some (16, 0) ∧ jP (dC, dI) G0 H0 [] ∧ True)) (va_Qv (S := Unit) (fun u => True) (fun u t => jRt (dC, dI) B base G0 EX14_keepRow H0 [] t.heap) (jA base)) 0 0 (jA base) := by
  refine Met.ofW (cc := cX14_keepRow) (maxL := 4) (ret := none) (by decide) rfl ?_
  intro p e s m args below meth c s₁ Bd hml hv
  obtain ⟨rfl, hH0, hX, hG, hg_r0, hP0, hp0⟩ := hv
  have hK := hG.1
  have hx := Bd.exec
  have hb := Bd.bytes
  have hr := Bd.returns
  have hts := atoms_spec (ws := (jw yX14_keepRow cX14_keepRow 4 none)) Bd.pre
  have htw : ∀ w ∈ jWl, w.before _ s = true := fun w h => hts w (List.mem_cons_of_mem _ h)
  have hown : s.vm.findClass RX14 = some m.cls := findClass_of_methodNamed Bd.named
  have hlocks := Bd.notSynchronized
  obtain ⟨Q, hQ⟩ : ∃ Q, Q = MQ below (va_Qv (S := Unit) (fun u => True) (fun u t => jRt (dC, dI) B base G0 EX14_keepRow H0 [] t.heap) (jA base)) ([.ref r0] : List Value).toArray s 0 0 (jA base) := ⟨_, rfl⟩
  rw [← hQ]
  have hl := lv_entry ([.ref r0]) (n := 4) (Nat.le_of_ble_eq_true rfl)
  rw [lg_entry_eq]
  generalize (lg_sl ([.ref r0]) ++ List.replicate (4 - (lg_sl ([.ref r0])).length) Slot.unset).toArray = ls at hl ⊢
  have hl : lv_has ls 4 [(0, .ref r0)] := hl
  generalize hR : (headSpec (jw yX14_keepRow cX14_keepRow 4 none) ({ frames := 1, cells := 0, slots := 0, locals := 23 })).room = R
  subst hH0
  have hh : jSt (dC, dI) B base G0 G0 EX14_keepRow s.heap 0 0 [] [] [] s.heap [] := jSt.start hX hP0 jMc.nil jIs.nil
  clear hX hP0
  have hk0 : (0 : Int32).toInt = 0 := by decide
  have hk1 : (1 : Int32).toInt = 1 := by decide
  have hk24 : (24 : Int32).toInt = 24 := by decide
  have hk1600 : (1600 : Int32).toInt = 1600 := by decide
  have hly_16_66 := htw (u_lay RX14 TX14 66) (jWc_wsX140 _ (u_in_lay (by decide)))
  have hly_16_67 := htw (u_lay RX14 TX14 67) (jWc_wsX140 _ (u_in_lay (by decide)))
  have hly_16_68 := htw (u_lay RX14 TX14 68) (jWc_wsX140 _ (u_in_lay (by decide)))
  have hly_16_69 := htw (u_lay RX14 TX14 69) (jWc_wsX140 _ (u_in_lay (by decide)))
  have hly_16_70 := htw (u_lay RX14 TX14 70) (jWc_wsX140 _ (u_in_lay (by decide)))
  have hlk_769 := (htw (.fieldLink RX14 769 "ProofServerModel" "cached" "I") (jWr_90 _ (List.mem_of_getElem? (i := 22) rfl)))
  have hlk_145 := (htw (.fieldLink RX14 145 "ProofServerModel" "cacheLength" "[I") (jWr_12 _ (List.mem_of_getElem? (i := 21) rfl)))
  have hlk_142 := (htw (.fieldLink RX14 142 "ProofServerModel" "cacheUnits" "[I") (jWr_12 _ (List.mem_of_getElem? (i := 20) rfl)))
  have hlk_766 := (htw (.fieldLink RX14 766 "ProofServerModel" "rowLength" "I") (jWr_90 _ (List.mem_of_getElem? (i := 17) rfl)))
  have hlk_148 := (htw (.fieldLink RX14 148 "ProofServerModel" "row" "[I") (jWr_12 _ (List.mem_of_getElem? (i := 22) rfl)))
  refine lv_aload_n hx hb dX14_keepRow_0 rfl (lv_at hl 0 rfl) ?_
  obtain ⟨v_3, hv_3, hh_4⟩ := hh.pin (C := RX14) (T := TX14) (N := 74) hB16 rfl (by decide) hg_r0 (i := 66) (by decide) rfl
  obtain ⟨cached_5, rfl, hlocached_5, hhicached_5⟩ := hv_3
  refine va_calli (A0 := jA base) (H0 := s.heap) (va_runV (As := []) (rest := []) ⟨hx, hb, hml, hown, hts⟩ (uX14_inCache l dC dI ca base B hB hAp hB16 hB101 hB205 G0 s.heap r0 cached_5) (cwV 0 hts (jgV (jWr_90 _ (List.mem_of_getElem? (i := 18) rfl)) (jWr_90 _ (List.mem_of_getElem? (i := 19) rfl)) (jWr_90 _ (List.mem_of_getElem? (i := 20) rfl)) (jWr_1 _ (List.mem_of_getElem? (i := 5) rfl)) (jWr_90 _ (List.mem_of_getElem? (i := 21) rfl))) rfl rfl rfl (by decide +kernel) ⟨by rw [← hR]; exact Nat.le_of_ble_eq_true rfl, by rw [← hR]; exact Nat.le_of_ble_eq_true rfl⟩) ⟨fun a U g mk q => by obtain ⟨q0, q1, q2, qK, q10, q11, q12⟩ := q; exact ⟨q0, q1, q2, jG.calling g mk a qK, q10, q11, q12⟩, hh_4.recv (C := RX14) (T := TX14) (N := 74) hB16 rfl (by decide) hg_r0 hK, fun U hU hW => ⟨rfl, hU, hh_4.2.1, hG.step hW hU hh_4.1, hg_r0, (hh_4.2.2.1.sub (L1 := [(r0, 16, 66, .int cached_5)]) [0] rfl), by first | omega | (refine ⟨?_, ?_⟩ <;> (first | omega | rfl | assumption | decide | exact Or.inl rfl | exact Or.inr rfl | (simp only; omega)))⟩⟩ rfl rfl hl.1 rfl (lv_room (Nat.le_of_ble_eq_true rfl)) dX14_keepRow_1 ⟨Nat.zero_le _, Nat.zero_le _⟩) hh_4.1 (fun q _ h => h) (fun q h => h) (fun r_2 u_1 t_1 H_1 locs_1 ht_1 hvm_1 hr_2 hb_1 hz_1 hk_1 hS_1 => ?_)
  rw [ht_1] at hb_1
  obtain ⟨hb_11, hb_12, hb_13, hb_14, hb_15⟩ := hb_1
  have hh_1 : jSt (dC, dI) B base G0 G0 EX14_keepRow s.heap 0 0 [(r0, 16, 66, .int cached_5)] [] [] H_1 locs_1 := ((hh_4.call hb_11 hb_12 hb_13 hb_14 hS_1 rfl (L1 := [(r0, 16, 66, .int cached_5)]) [0] rfl rfl (M1 := []) [] rfl rfl (I1 := []) [] rfl rfl).more hb_15)
  clear hh_4 ht_1 hvm_1 hz_1 hk_1 hS_1 hb_11 hb_12 hb_13 hb_14 hb_15
  obtain ⟨hr_2_0, hr_2_1, hr_2_2⟩ := hr_2
  refine lv_istore_n (lv' := [(1, .int r_2), (0, .ref r0)]) hx hb dX14_keepRow_4 rfl hl (by decide) rfl (fun ls hl => ?_)
  refine lv_iload_n hx hb dX14_keepRow_5 rfl (lv_at hl 0 rfl) ?_
  have C20 : ∀ (v1_6 : Int32) (H_6 : Heap) (locs_6 : List Loc), jSt (dC, dI) B base G0 G0 EX14_keepRow s.heap 0 0 [(r0, 16, 66, .int cached_5)] [] [] H_6 locs_6 → (-1 ≤ v1_6.toInt ∧ v1_6.toInt ≤ 23 ∧ ((v1_6.toInt = -1 ∧ cached_5.toInt ≤ 23) ∨ (0 ≤ v1_6.toInt ∧ v1_6.toInt < cached_5.toInt))) → ∀ ls : Array Slot, lv_has ls 4 [(0, .ref r0), (1, .int v1_6)] → W p l e R s m ([.ref r0] : List Value).toArray below meth c H_6 locs_6 0 0 Q (F0 m 20 ls []) := by
    intro v1_6 H_6 locs_6 hh_6  hi_6 ls hl
    obtain ⟨hi_6_0, hi_6_1, hi_6_2⟩ := hi_6
    try clear hr_2_2
    refine lv_iload_n hx hb dX14_keepRow_20 rfl (lv_at hl 1 rfl) ?_
    have C112 : ∀ (wq_7 : Int32) (H_7 : Heap) (locs_7 : List Loc), jSt (dC, dI) B base G0 G0 EX14_keepRow s.heap 0 0 [(r0, 16, 66, .int wq_7)] [] [] H_7 locs_7 → (0 ≤ wq_7.toInt ∧ wq_7.toInt ≤ 23) → ∀ ls : Array Slot, lv_has ls 4 [(0, .ref r0), (1, .int v1_6)] → W p l e R s m ([.ref r0] : List Value).toArray below meth c H_7 locs_7 0 0 Q (F0 m 112 ls []) := by
      intro wq_7 H_7 locs_7 hh_7  hi_7 ls hl
      obtain ⟨hi_7_0, hi_7_1⟩ := hi_7
      refine lv_aload_n hx hb dX14_keepRow_112 rfl (lv_at hl 0 rfl) ?_
      obtain ⟨v_8, hv_8, hh_9⟩ := hh_7.pin (C := RX14) (T := TX14) (N := 74) hB16 rfl (by decide) hg_r0 (i := 68) (by decide) rfl
      clear hh_7
      obtain ⟨cacheLength_10, rfl, hg_cacheLength_10⟩ := hv_8
      refine j7_read hx hb hown hK (C := RX14) (T := TX14) (N := 74) rfl hly_16_68 hlk_145 (hh_9.at 0 rfl) dX14_keepRow_113 ?_
      refine lv_aload_n hx hb dX14_keepRow_116 rfl (lv_at hl 0 rfl) ?_
      refine j7_read hx hb hown hK (C := RX14) (T := TX14) (N := 74) rfl hly_16_66 hlk_769 (hh_9.at 1 rfl) dX14_keepRow_117 ?_
      refine lv_aload_n hx hb dX14_keepRow_120 rfl (lv_at hl 0 rfl) ?_
      obtain ⟨v_11, hv_11, hh_12⟩ := hh_9.pin (C := RX14) (T := TX14) (N := 74) hB16 rfl (by decide) hg_r0 (i := 70) (by decide) rfl
      clear hh_9
      obtain ⟨rowLength_13, rfl, hlorowLength_13, hhirowLength_13⟩ := hv_11
      refine j7_read hx hb hown hK (C := RX14) (T := TX14) (N := 74) rfl hly_16_70 hlk_766 (hh_12.at 0 rfl) dX14_keepRow_121 ?_
      refine j7_iast hx hb hK hh_12 hB hB205 1 rfl (by decide) (by decide) rfl rfl rfl hg_cacheLength_10 (x := wq_7.toInt) (rfl) (by omega) (by first | omega | (refine ⟨?_, ?_⟩ <;> (first | omega | rfl | assumption | decide | exact Or.inl rfl | exact Or.inr rfl | (simp only; omega)))) dX14_keepRow_124 (fun H_14 locs_14 hh_14 => ?_)
      clear hh_12
      refine lv_iconst (v := 0) hx hb dX14_keepRow_125 (by decide) ?_
      refine lv_istore_n (lv' := [(2, .int 0), (0, .ref r0), (1, .int v1_6)]) hx hb dX14_keepRow_126 rfl hl (by decide) rfl (fun ls hl => ?_)
      have L127 : ∀ (N : Nat) (v2_15 : Int32) (H_15 : Heap) (locs_15 : List Loc), jSt (dC, dI) B base G0 G0 EX14_keepRow s.heap 0 0 [(r0, 16, 70, .int rowLength_13), (r0, 16, 68, .ref cacheLength_10), (r0, 16, 66, .int wq_7)] [] [] H_15 locs_15 → (0 ≤ v2_15.toInt ∧ v2_15.toInt ≤ 1600) → (((rowLength_13.toInt - v2_15.toInt).toNat : Int) : Int) < N → ∀ ls : Array Slot, lv_has ls 4 [(0, .ref r0), (1, .int v1_6), (2, .int v2_15)] → W p l e R s m ([.ref r0] : List Value).toArray below meth c H_15 locs_15 0 0 Q (F0 m 127 ls []) := by
        intro N
        induction N with
        | zero => intro v2_15 H_15 locs_15 hh_15  hi_15 hm; exact absurd hm (by omega)
        | succ N L127 =>
          intro v2_15 H_15 locs_15 hh_15  hi_15 hm_15 ls hl
          obtain ⟨hi_15_0, hi_15_1⟩ := hi_15
          refine lv_iload_n hx hb dX14_keepRow_127 rfl (lv_at hl 2 rfl) ?_
          refine lv_aload_n hx hb dX14_keepRow_128 rfl (lv_at hl 0 rfl) ?_
          refine j7_read hx hb hown hK (C := RX14) (T := TX14) (N := 74) rfl hly_16_70 hlk_766 (hh_15.at 0 rfl) dX14_keepRow_129 ?_
          refine lv_icmp_ge (tgt := 162) hx hb dX14_keepRow_132 (by decide) (fun c_16 => ?_) (fun c_16 => ?_)
          · skip
            have c_16' : v2_15.toInt ≥ rowLength_13.toInt := jb_ge (rfl) (rfl) c_16
            refine lv_aload_n hx hb dX14_keepRow_162 rfl (lv_at hl 0 rfl) ?_
            refine lv_dup hx hb dX14_keepRow_163 rfl ?_
            refine j7_read hx hb hown hK (C := RX14) (T := TX14) (N := 74) rfl hly_16_66 hlk_769 (hh_15.at 2 rfl) dX14_keepRow_164 ?_
            refine lv_iconst (v := 1) hx hb dX14_keepRow_167 (by decide) ?_
            refine lv_iadd hx hb dX14_keepRow_168 ?_
            refine lv_topi (fun z_17 ez_17 => ?_)
            have hz_17 : z_17.toInt = wq_7.toInt + 1 := by rw [ez_17]; exact jb_iadd2 (rfl) ((by decide)) (by omega)
            refine j7_put hx hb hown hK hh_15 hB hAp hB16 (C := RX14) (T := TX14) (N := 74) rfl (by decide) hg_r0 (i := 66) (by decide) hly_16_66 rfl hlk_769 rfl (ty := .int) (v := .int z_17) (by decide +kernel) rfl rfl (⟨_, rfl, by omega, by omega⟩) rfl (L1 := [(r0, 16, 70, .int rowLength_13), (r0, 16, 68, .ref cacheLength_10)]) [0, 1] rfl rfl rfl dX14_keepRow_169 (fun H_18 locs_18 hh_18 => ?_)
            clear hh_15
            rw [hQ]
            exact W.vret hx hb hr (fun t ht hW => ⟨⟨(), rfl, trivial, hh_18.rt (M1 := []) [] rfl ht⟩, by rw [ht]; try exact hh_18.1.1, fun q h9 hq => by rw [ht]; try exact hh_18.1.2.1 q h9 hq⟩) hh_18.1.2.2 dX14_keepRow_172
          · skip
            have c_16' : v2_15.toInt < rowLength_13.toInt := jb_ge_n (rfl) (rfl) c_16
            refine lv_aload_n hx hb dX14_keepRow_135 rfl (lv_at hl 0 rfl) ?_
            obtain ⟨v_19, hv_19, hh_20⟩ := hh_15.pin (C := RX14) (T := TX14) (N := 74) hB16 rfl (by decide) hg_r0 (i := 67) (by decide) rfl
            clear hh_15
            obtain ⟨cacheUnits_21, rfl, hg_cacheUnits_21⟩ := hv_19
            refine j7_read hx hb hown hK (C := RX14) (T := TX14) (N := 74) rfl hly_16_67 hlk_142 (hh_20.at 0 rfl) dX14_keepRow_136 ?_
            refine lv_sipush (v := 1600) hx hb dX14_keepRow_139 (by decide) ?_
            refine lv_aload_n hx hb dX14_keepRow_142 rfl (lv_at hl 0 rfl) ?_
            refine j7_read hx hb hown hK (C := RX14) (T := TX14) (N := 74) rfl hly_16_66 hlk_769 (hh_20.at 3 rfl) dX14_keepRow_143 ?_
            refine lv_imul hx hb dX14_keepRow_146 ?_
            refine lv_topi (fun z_22 ez_22 => ?_)
            have hz_22 : z_22.toInt = 1600 * wq_7.toInt := by rw [ez_22]; exact jb_imul2 ((by decide)) (rfl) (by omega)
            refine lv_iload_n hx hb dX14_keepRow_147 rfl (lv_at hl 2 rfl) ?_
            refine lv_iadd hx hb dX14_keepRow_148 ?_
            refine lv_topi (fun z_23 ez_23 => ?_)
            have hz_23 : z_23.toInt = z_22.toInt + v2_15.toInt := by rw [ez_23]; exact jb_iadd2 (rfl) (rfl) (by omega)
            refine lv_aload_n hx hb dX14_keepRow_149 rfl (lv_at hl 0 rfl) ?_
            obtain ⟨v_24, hv_24, hh_25⟩ := hh_20.pin (C := RX14) (T := TX14) (N := 74) hB16 rfl (by decide) hg_r0 (i := 69) (by decide) rfl
            clear hh_20
            obtain ⟨row_26, rfl, hg_row_26⟩ := hv_24
            refine j7_read hx hb hown hK (C := RX14) (T := TX14) (N := 74) rfl hly_16_69 hlk_148 (hh_25.at 0 rfl) dX14_keepRow_150 ?_
            refine lv_iload_n hx hb dX14_keepRow_153 rfl (lv_at hl 2 rfl) ?_
            refine j7_iald hx hb hK hh_25 hB101 1 rfl (by decide) hg_row_26 (x := v2_15.toInt) (rfl) (by omega) dX14_keepRow_154 (fun z_27 (hz_27 : True) => ?_)
            refine j7_iast hx hb hK hh_25 hB hB101 1 rfl (by decide) (by decide) rfl rfl rfl hg_cacheUnits_21 (x := z_23.toInt) (rfl) (by omega) (trivial) dX14_keepRow_155 (fun H_28 locs_28 hh_28 => ?_)
            clear hh_25
            obtain ⟨z_29, ez_29⟩ : ∃ y : Int32, y = v2_15 + 1 := ⟨_, rfl⟩
            refine lv_iinc (v := z_29) (lv' := [(2, .int z_29), (0, .ref r0), (1, .int v1_6)]) hx hb dX14_keepRow_156 hl (k := 2) rfl (by rw [ez_29]; rfl) (by decide) rfl (fun ls hl => ?_)
            have hz_29 : z_29.toInt = v2_15.toInt + 1 := by rw [ez_29]; exact jb_iadd2 (rfl) (by decide) (by omega)
            refine lv_goto (tgt := 127) hx hb dX14_keepRow_159 (by decide) ?_
            exact L127 z_29 _ _ (hh_28.sub (L1 := [(r0, 16, 70, .int rowLength_13), (r0, 16, 68, .ref cacheLength_10), (r0, 16, 66, .int wq_7)]) [2, 3, 4] rfl (M1 := []) [] rfl (I1 := []) [] rfl) (by first | omega | (refine ⟨?_, ?_⟩ <;> (first | omega | rfl | assumption | decide | exact Or.inl rfl | exact Or.inr rfl | (simp only; omega)))) (by omega) _ (lv_sub hl [1, 2, 0] rfl)
      exact L127 (((rowLength_13.toInt - (0 : Int32).toInt).toNat : Int) : Int).toNat.succ 0 _ _ hh_14 (by first | omega | (refine ⟨?_, ?_⟩ <;> (first | omega | rfl | assumption | decide | exact Or.inl rfl | exact Or.inr rfl | (simp only; omega)))) (by omega) _ (lv_sub hl [1, 2, 0] rfl)
    refine lv_if_lt (tgt := 112) hx hb dX14_keepRow_21 (by decide) (fun c_30 => ?_) (fun c_30 => ?_)
    · skip
      have c_30' : v1_6.toInt < 0 := jb_lt (rfl) ((by decide)) c_30
      exact C112 cached_5 _ _ hh_6 (by first | omega | (refine ⟨?_, ?_⟩ <;> (first | omega | rfl | assumption | decide | exact Or.inl rfl | exact Or.inr rfl | (simp only; omega)))) _ (lv_sub hl [0, 1] rfl)
    · skip
      have c_30' : v1_6.toInt ≥ 0 := jb_lt_n (rfl) ((by decide)) c_30
      refine lv_iload_n hx hb dX14_keepRow_24 rfl (lv_at hl 1 rfl) ?_
      refine lv_istore_n (lv' := [(2, .int v1_6), (0, .ref r0), (1, .int v1_6)]) hx hb dX14_keepRow_25 rfl hl (by decide) rfl (fun ls hl => ?_)
      have L26 : ∀ (N : Nat) (v2_31 : Int32) (H_31 : Heap) (locs_31 : List Loc), jSt (dC, dI) B base G0 G0 EX14_keepRow s.heap 0 0 [(r0, 16, 66, .int cached_5)] [] [] H_31 locs_31 → (0 ≤ v2_31.toInt ∧ v2_31.toInt ≤ 24) → (((cached_5.toInt - v2_31.toInt).toNat : Int) : Int) < N → ∀ ls : Array Slot, lv_has ls 4 [(0, .ref r0), (1, .int v1_6), (2, .int v2_31)] → W p l e R s m ([.ref r0] : List Value).toArray below meth c H_31 locs_31 0 0 Q (F0 m 26 ls []) := by
        intro N
        induction N with
        | zero => intro v2_31 H_31 locs_31 hh_31  hi_31 hm; exact absurd hm (by omega)
        | succ N L26 =>
          intro v2_31 H_31 locs_31 hh_31  hi_31 hm_31 ls hl
          obtain ⟨hi_31_0, hi_31_1⟩ := hi_31
          refine lv_iload_n hx hb dX14_keepRow_26 rfl (lv_at hl 2 rfl) ?_
          refine lv_iconst (v := 1) hx hb dX14_keepRow_27 (by decide) ?_
          refine lv_iadd hx hb dX14_keepRow_28 ?_
          refine lv_topi (fun z_32 ez_32 => ?_)
          have hz_32 : z_32.toInt = v2_31.toInt + 1 := by rw [ez_32]; exact jb_iadd2 (rfl) ((by decide)) (by omega)
          refine lv_aload_n hx hb dX14_keepRow_29 rfl (lv_at hl 0 rfl) ?_
          refine j7_read hx hb hown hK (C := RX14) (T := TX14) (N := 74) rfl hly_16_66 hlk_769 (hh_31.at 0 rfl) dX14_keepRow_30 ?_
          refine lv_icmp_ge (tgt := 102) hx hb dX14_keepRow_33 (by decide) (fun c_33 => ?_) (fun c_33 => ?_)
          · skip
            have c_33' : z_32.toInt ≥ cached_5.toInt := jb_ge (rfl) (rfl) c_33
            refine lv_aload_n hx hb dX14_keepRow_102 rfl (lv_at hl 0 rfl) ?_
            refine lv_dup hx hb dX14_keepRow_103 rfl ?_
            refine j7_read hx hb hown hK (C := RX14) (T := TX14) (N := 74) rfl hly_16_66 hlk_769 (hh_31.at 0 rfl) dX14_keepRow_104 ?_
            refine lv_iconst (v := 1) hx hb dX14_keepRow_107 (by decide) ?_
            refine lv_isub hx hb dX14_keepRow_108 ?_
            refine lv_topi (fun z_34 ez_34 => ?_)
            have hz_34 : z_34.toInt = cached_5.toInt - 1 := by rw [ez_34]; exact jb_isub2 (rfl) ((by decide)) (by omega)
            refine j7_put hx hb hown hK hh_31 hB hAp hB16 (C := RX14) (T := TX14) (N := 74) rfl (by decide) hg_r0 (i := 66) (by decide) hly_16_66 rfl hlk_769 rfl (ty := .int) (v := .int z_34) (by decide +kernel) rfl rfl (⟨_, rfl, by omega, by omega⟩) rfl (L1 := []) [] rfl rfl rfl dX14_keepRow_109 (fun H_35 locs_35 hh_35 => ?_)
            clear hh_31
            exact C112 z_34 _ _ hh_35 (by first | omega | (refine ⟨?_, ?_⟩ <;> (first | omega | rfl | assumption | decide | exact Or.inl rfl | exact Or.inr rfl | (simp only; omega)))) _ (lv_sub hl [0, 1] rfl)
          · skip
            have c_33' : z_32.toInt < cached_5.toInt := jb_ge_n (rfl) (rfl) c_33
            refine lv_aload_n hx hb dX14_keepRow_36 rfl (lv_at hl 0 rfl) ?_
            obtain ⟨v_36, hv_36, hh_37⟩ := hh_31.pin (C := RX14) (T := TX14) (N := 74) hB16 rfl (by decide) hg_r0 (i := 68) (by decide) rfl
            clear hh_31
            obtain ⟨cacheLength_38, rfl, hg_cacheLength_38⟩ := hv_36
            refine j7_read hx hb hown hK (C := RX14) (T := TX14) (N := 74) rfl hly_16_68 hlk_145 (hh_37.at 0 rfl) dX14_keepRow_37 ?_
            refine lv_iload_n hx hb dX14_keepRow_40 rfl (lv_at hl 2 rfl) ?_
            refine lv_aload_n hx hb dX14_keepRow_41 rfl (lv_at hl 0 rfl) ?_
            refine j7_read hx hb hown hK (C := RX14) (T := TX14) (N := 74) rfl hly_16_68 hlk_145 (hh_37.at 0 rfl) dX14_keepRow_42 ?_
            refine lv_iload_n hx hb dX14_keepRow_45 rfl (lv_at hl 2 rfl) ?_
            refine lv_iconst (v := 1) hx hb dX14_keepRow_46 (by decide) ?_
            refine lv_iadd hx hb dX14_keepRow_47 ?_
            refine lv_topi (fun z_39 ez_39 => ?_)
            have hz_39 : z_39.toInt = v2_31.toInt + 1 := by rw [ez_39]; exact jb_iadd2 (rfl) ((by decide)) (by omega)
            refine j7_iald hx hb hK hh_37 hB205 1 rfl (by decide) hg_cacheLength_38 (x := z_39.toInt) (rfl) (by omega) dX14_keepRow_48 (fun z_40 (hz_40 : 0 ≤ z_40.toInt ∧ z_40.toInt ≤ 1600) => ?_)
            refine j7_iast hx hb hK hh_37 hB hB205 1 rfl (by decide) (by decide) rfl rfl rfl hg_cacheLength_38 (x := v2_31.toInt) (rfl) (by omega) (by first | omega | (refine ⟨?_, ?_⟩ <;> (first | omega | rfl | assumption | decide | exact Or.inl rfl | exact Or.inr rfl | (simp only; omega)))) dX14_keepRow_49 (fun H_41 locs_41 hh_41 => ?_)
            clear hh_37
            refine lv_iconst (v := 0) hx hb dX14_keepRow_50 (by decide) ?_
            refine lv_istore_n (lv' := [(3, .int 0), (0, .ref r0), (1, .int v1_6), (2, .int v2_31)]) hx hb dX14_keepRow_51 rfl hl (by decide) rfl (fun ls hl => ?_)
            have L52 : ∀ (N : Nat) (v3_42 : Int32) (H_42 : Heap) (locs_42 : List Loc), jSt (dC, dI) B base G0 G0 EX14_keepRow s.heap 0 0 [(r0, 16, 68, .ref cacheLength_38), (r0, 16, 66, .int cached_5)] [] [] H_42 locs_42 → (0 ≤ v3_42.toInt ∧ v3_42.toInt ≤ 1600) → (1600 - v3_42.toInt : Int) < N → ∀ ls : Array Slot, lv_has ls 4 [(0, .ref r0), (1, .int v1_6), (2, .int v2_31), (3, .int v3_42)] → W p l e R s m ([.ref r0] : List Value).toArray below meth c H_42 locs_42 0 0 Q (F0 m 52 ls []) := by
              intro N
              induction N with
              | zero => intro v3_42 H_42 locs_42 hh_42  hi_42 hm; exact absurd hm (by omega)
              | succ N L52 =>
                intro v3_42 H_42 locs_42 hh_42  hi_42 hm_42 ls hl
                obtain ⟨hi_42_0, hi_42_1⟩ := hi_42
                refine lv_iload_n hx hb dX14_keepRow_52 rfl (lv_at hl 3 rfl) ?_
                refine lv_aload_n hx hb dX14_keepRow_53 rfl (lv_at hl 0 rfl) ?_
                refine j7_read hx hb hown hK (C := RX14) (T := TX14) (N := 74) rfl hly_16_68 hlk_145 (hh_42.at 0 rfl) dX14_keepRow_54 ?_
                refine lv_iload_n hx hb dX14_keepRow_57 rfl (lv_at hl 2 rfl) ?_
                refine j7_iald hx hb hK hh_42 hB205 1 rfl (by decide) hg_cacheLength_38 (x := v2_31.toInt) (rfl) (by omega) dX14_keepRow_58 (fun z_43 (hz_43 : 0 ≤ z_43.toInt ∧ z_43.toInt ≤ 1600) => ?_)
                refine lv_icmp_ge (tgt := 96) hx hb dX14_keepRow_59 (by decide) (fun c_44 => ?_) (fun c_44 => ?_)
                · skip
                  have c_44' : v3_42.toInt ≥ z_43.toInt := jb_ge (rfl) (rfl) c_44
                  obtain ⟨z_45, ez_45⟩ : ∃ y : Int32, y = v2_31 + 1 := ⟨_, rfl⟩
                  refine lv_iinc (v := z_45) (lv' := [(2, .int z_45), (0, .ref r0), (1, .int v1_6), (3, .int v3_42)]) hx hb dX14_keepRow_96 hl (k := 2) rfl (by rw [ez_45]; rfl) (by decide) rfl (fun ls hl => ?_)
                  have hz_45 : z_45.toInt = v2_31.toInt + 1 := by rw [ez_45]; exact jb_iadd2 (rfl) (by decide) (by omega)
                  refine lv_goto (tgt := 26) hx hb dX14_keepRow_99 (by decide) ?_
                  exact L26 z_45 _ _ (hh_42.sub (L1 := [(r0, 16, 66, .int cached_5)]) [1] rfl (M1 := []) [] rfl (I1 := []) [] rfl) (by first | omega | (refine ⟨?_, ?_⟩ <;> (first | omega | rfl | assumption | decide | exact Or.inl rfl | exact Or.inr rfl | (simp only; omega)))) (by omega) _ (lv_sub hl [1, 2, 0] rfl)
                · skip
                  have c_44' : v3_42.toInt < z_43.toInt := jb_ge_n (rfl) (rfl) c_44
                  refine lv_aload_n hx hb dX14_keepRow_62 rfl (lv_at hl 0 rfl) ?_
                  obtain ⟨v_46, hv_46, hh_47⟩ := hh_42.pin (C := RX14) (T := TX14) (N := 74) hB16 rfl (by decide) hg_r0 (i := 67) (by decide) rfl
                  clear hh_42
                  obtain ⟨cacheUnits_48, rfl, hg_cacheUnits_48⟩ := hv_46
                  refine j7_read hx hb hown hK (C := RX14) (T := TX14) (N := 74) rfl hly_16_67 hlk_142 (hh_47.at 0 rfl) dX14_keepRow_63 ?_
                  refine lv_sipush (v := 1600) hx hb dX14_keepRow_66 (by decide) ?_
                  refine lv_iload_n hx hb dX14_keepRow_69 rfl (lv_at hl 2 rfl) ?_
                  refine lv_imul hx hb dX14_keepRow_70 ?_
                  refine lv_topi (fun z_49 ez_49 => ?_)
                  have hz_49 : z_49.toInt = 1600 * v2_31.toInt := by rw [ez_49]; exact jb_imul2 ((by decide)) (rfl) (by omega)
                  refine lv_iload_n hx hb dX14_keepRow_71 rfl (lv_at hl 3 rfl) ?_
                  refine lv_iadd hx hb dX14_keepRow_72 ?_
                  refine lv_topi (fun z_50 ez_50 => ?_)
                  have hz_50 : z_50.toInt = z_49.toInt + v3_42.toInt := by rw [ez_50]; exact jb_iadd2 (rfl) (rfl) (by omega)
                  refine lv_aload_n hx hb dX14_keepRow_73 rfl (lv_at hl 0 rfl) ?_
                  refine j7_read hx hb hown hK (C := RX14) (T := TX14) (N := 74) rfl hly_16_67 hlk_142 (hh_47.at 0 rfl) dX14_keepRow_74 ?_
                  refine lv_sipush (v := 1600) hx hb dX14_keepRow_77 (by decide) ?_
                  refine lv_iload_n hx hb dX14_keepRow_80 rfl (lv_at hl 2 rfl) ?_
                  refine lv_imul hx hb dX14_keepRow_81 ?_
                  refine lv_topi (fun z_51 ez_51 => ?_)
                  have hz_51 : z_51.toInt = 1600 * v2_31.toInt := by rw [ez_51]; exact jb_imul2 ((by decide)) (rfl) (by omega)
                  refine lv_sipush (v := 1600) hx hb dX14_keepRow_82 (by decide) ?_
                  refine lv_iadd hx hb dX14_keepRow_85 ?_
                  refine lv_topi (fun z_52 ez_52 => ?_)
                  have hz_52 : z_52.toInt = z_51.toInt + 1600 := by rw [ez_52]; exact jb_iadd2 (rfl) ((by decide)) (by omega)
                  refine lv_iload_n hx hb dX14_keepRow_86 rfl (lv_at hl 3 rfl) ?_
                  refine lv_iadd hx hb dX14_keepRow_87 ?_
                  refine lv_topi (fun z_53 ez_53 => ?_)
                  have hz_53 : z_53.toInt = z_52.toInt + v3_42.toInt := by rw [ez_53]; exact jb_iadd2 (rfl) (rfl) (by omega)
                  refine j7_iald hx hb hK hh_47 hB101 1 rfl (by decide) hg_cacheUnits_48 (x := z_53.toInt) (rfl) (by omega) dX14_keepRow_88 (fun z_54 (hz_54 : True) => ?_)
                  refine j7_iast hx hb hK hh_47 hB hB101 1 rfl (by decide) (by decide) rfl rfl rfl hg_cacheUnits_48 (x := z_50.toInt) (rfl) (by omega) (trivial) dX14_keepRow_89 (fun H_55 locs_55 hh_55 => ?_)
                  clear hh_47
                  obtain ⟨z_56, ez_56⟩ : ∃ y : Int32, y = v3_42 + 1 := ⟨_, rfl⟩
                  refine lv_iinc (v := z_56) (lv' := [(3, .int z_56), (0, .ref r0), (1, .int v1_6), (2, .int v2_31)]) hx hb dX14_keepRow_90 hl (k := 3) rfl (by rw [ez_56]; rfl) (by decide) rfl (fun ls hl => ?_)
                  have hz_56 : z_56.toInt = v3_42.toInt + 1 := by rw [ez_56]; exact jb_iadd2 (rfl) (by decide) (by omega)
                  refine lv_goto (tgt := 52) hx hb dX14_keepRow_93 (by decide) ?_
                  exact L52 z_56 _ _ (hh_55.sub (L1 := [(r0, 16, 68, .ref cacheLength_38), (r0, 16, 66, .int cached_5)]) [1, 2] rfl (M1 := []) [] rfl (I1 := []) [] rfl) (by first | omega | (refine ⟨?_, ?_⟩ <;> (first | omega | rfl | assumption | decide | exact Or.inl rfl | exact Or.inr rfl | (simp only; omega)))) (by omega) _ (lv_sub hl [1, 2, 3, 0] rfl)
            exact L52 (1600 - (0 : Int32).toInt : Int).toNat.succ 0 _ _ hh_41 (by first | omega | (refine ⟨?_, ?_⟩ <;> (first | omega | rfl | assumption | decide | exact Or.inl rfl | exact Or.inr rfl | (simp only; omega)))) (by omega) _ (lv_sub hl [1, 2, 3, 0] rfl)
      exact L26 (((cached_5.toInt - (v1_6 : Int32).toInt).toNat : Int) : Int).toNat.succ v1_6 _ _ hh_6 (by first | omega | (refine ⟨?_, ?_⟩ <;> (first | omega | rfl | assumption | decide | exact Or.inl rfl | exact Or.inr rfl | (simp only; omega)))) (by omega) _ (lv_sub hl [1, 2, 0] rfl)
  refine lv_if_ge (tgt := 20) hx hb dX14_keepRow_6 (by decide) (fun c_57 => ?_) (fun c_57 => ?_)
  · skip
    have c_57' : r_2.toInt ≥ 0 := jb_ge (rfl) ((by decide)) c_57
    first | (have hr_2_2q := hr_2_2.resolve_left (by omega); clear hr_2_2) | (have hr_2_2q := hr_2_2.resolve_right (by omega); clear hr_2_2) | skip
    exact C20 r_2 _ _ hh_1 (by first | omega | (refine ⟨?_, ?_, ?_⟩ <;> (first | omega | rfl | assumption | decide | exact Or.inl rfl | exact Or.inr rfl | (simp only; omega)))) _ (lv_sub hl [1, 0] rfl)
  · skip
    have c_57' : r_2.toInt < 0 := jb_ge_n (rfl) ((by decide)) c_57
    first | (have hr_2_2q := hr_2_2.resolve_left (by omega); clear hr_2_2) | (have hr_2_2q := hr_2_2.resolve_right (by omega); clear hr_2_2) | skip
    refine lv_aload_n hx hb dX14_keepRow_9 rfl (lv_at hl 1 rfl) ?_
    refine j7_read hx hb hown hK (C := RX14) (T := TX14) (N := 74) rfl hly_16_66 hlk_769 (hh_1.at 0 rfl) dX14_keepRow_10 ?_
    refine lv_bipush (v := 24) hx hb dX14_keepRow_13 (by decide) ?_
    refine lv_icmp_ne (tgt := 20) hx hb dX14_keepRow_15 (by decide) (fun c_58 => ?_) (fun c_58 => ?_)
    · skip
      have c_58' : cached_5.toInt ≠ 24 := jb_ne (rfl) ((by decide)) c_58
      exact C20 r_2 _ _ hh_1 (by first | omega | (refine ⟨?_, ?_, ?_⟩ <;> (first | omega | rfl | assumption | decide | exact Or.inl rfl | exact Or.inr rfl | (simp only; omega)))) _ (lv_sub hl [1, 0] rfl)
    · skip
      have c_58' : cached_5.toInt = 24 := jb_ne_n (rfl) ((by decide)) c_58
      refine lv_iconst (v := 0) hx hb dX14_keepRow_18 (by decide) ?_
      refine lv_istore_n (lv' := [(1, .int 0), (0, .ref r0)]) hx hb dX14_keepRow_19 rfl hl (by decide) rfl (fun ls hl => ?_)
      exact C20 0 _ _ hh_1 (by first | omega | (refine ⟨?_, ?_, ?_⟩ <;> (first | omega | rfl | assumption | decide | exact Or.inl rfl | exact Or.inr rfl | (simp only; omega)))) _ (lv_sub hl [1, 0] rfl)
end
section
section
variable {p : Program} {l : Launch} {e : Env} {R : Room} {s : State} {m : MethodId} {args : Array Value} {below : List Frame} {meth : Method} {c : Code} {H : Heap} {locs : List Loc} {cells slots : Nat} {Q : State → Prop}
variable {cc : ByteArray} {pc : Nat} {ls : Array Slot} {rest : List Value}
theorem j7_nst_n (hexec : p.tables.exec = Jvm.exec) (hb : c.code = cc) {k : Fin 4} {i nL : Nat} {lv lv' : List (Nat × Value)} (hdg : decode cc pc = .ok (.astore_n k, 1)) (hi : (k : Nat) = i) (h : lv_has ls nL lv) (hn : i < nL) (hl : (i, Value.null) :: lv.filter (fun q => !(q.1 == i) && !(q.1 + 1 == i && q.2.category == 2)) = lv')
    (kk : ∀ ls' : Array Slot, lv_has ls' nL lv' → W p l e R s m args below meth c H locs cells slots Q (F0 m (pc + 1) ls' rest)) : W p l e R s m args below meth c H locs cells slots Q (F0 m pc ls (.null :: rest)) := by
  subst hi
  obtain ⟨ls', e', h'⟩ := lv_store1 (v := .null) h hn rfl
  intro T hT X
  obtain ⟨t, a, b⟩ := kk ls' (hl ▸ h') T hT X
  refine ⟨t, ?_, b⟩
  jvm_step X.here [X.here.top, ↓top_set X.here.top, hexec, hb, hdg, e', Value.isRef]
  exact a
end
section
variable {p : Program} {l : Launch} {e : Env} {R : Room} {s : State} {m : MethodId} {args : Array Value} {below : List Frame} {meth : Method} {c : Code} {H : Heap} {locs : List Loc} {cells slots : Nat} {Q : State → Prop}
variable {cc : ByteArray} {pc : Nat} {ls : Array Slot} {rest : List Value}
theorem j7_nld_n (hexec : p.tables.exec = Jvm.exec) (hb : c.code = cc) {k : Fin 4} {i : Nat} (hdg : decode cc pc = .ok (.aload_n k, 1)) (hi : (k : Nat) = i) (hl : ls[i]? = some (.val .null))
    (k : W p l e R s m args below meth c H locs cells slots Q (F0 m (pc + 1) ls (.null :: rest))) : W p l e R s m args below meth c H locs cells slots Q (F0 m pc ls (rest)) := by
  subst hi
  intro T hT X
  obtain ⟨t, a, b⟩ := k T hT X
  refine ⟨t, ?_, b⟩
  jvm_step X.here [X.here.top, hexec, hb, hdg, hl, Value.isRef]
  exact a
end
theorem dX14_nextDocument_0 : decode cX14_nextDocument 0 = .ok (.aconst_null, 1) := by decide +kernel
theorem dX14_nextDocument_1 : decode cX14_nextDocument 1 = .ok (.astore_n 1, 1) := by decide +kernel
theorem dX14_nextDocument_2 : decode cX14_nextDocument 2 = .ok (.iconst 0, 1) := by decide +kernel
theorem dX14_nextDocument_3 : decode cX14_nextDocument 3 = .ok (.istore_n 2, 1) := by decide +kernel
theorem dX14_nextDocument_4 : decode cX14_nextDocument 4 = .ok (.iload_n 2, 1) := by decide +kernel
theorem dX14_nextDocument_5 : decode cX14_nextDocument 5 = .ok (.aload_n 0, 1) := by decide +kernel
theorem dX14_nextDocument_6 : decode cX14_nextDocument 6 = .ok (.getfield 505, 3) := by decide +kernel
theorem dX14_nextDocument_9 : decode cX14_nextDocument 9 = .ok (.if_icmp .ge 66, 3) := by decide +kernel
theorem dX14_nextDocument_12 : decode cX14_nextDocument 12 = .ok (.aload_n 0, 1) := by decide +kernel
theorem dX14_nextDocument_13 : decode cX14_nextDocument 13 = .ok (.getfield 74, 3) := by decide +kernel
theorem dX14_nextDocument_16 : decode cX14_nextDocument 16 = .ok (.iload_n 2, 1) := by decide +kernel
theorem dX14_nextDocument_17 : decode cX14_nextDocument 17 = .ok (.aaload, 1) := by decide +kernel
theorem dX14_nextDocument_18 : decode cX14_nextDocument 18 = .ok (.astore_n 3, 1) := by decide +kernel
theorem dX14_nextDocument_19 : decode cX14_nextDocument 19 = .ok (.aload_n 3, 1) := by decide +kernel
theorem dX14_nextDocument_20 : decode cX14_nextDocument 20 = .ok (.getfield 531, 3) := by decide +kernel
theorem dX14_nextDocument_23 : decode cX14_nextDocument 23 = .ok (.aload_n 3, 1) := by decide +kernel
theorem dX14_nextDocument_24 : decode cX14_nextDocument 24 = .ok (.getfield 587, 3) := by decide +kernel
theorem dX14_nextDocument_27 : decode cX14_nextDocument 27 = .ok (.if_icmp .eq 42, 3) := by decide +kernel
theorem dX14_nextDocument_30 : decode cX14_nextDocument 30 = .ok (.aload_n 3, 1) := by decide +kernel
theorem dX14_nextDocument_31 : decode cX14_nextDocument 31 = .ok (.aload_n 0, 1) := by decide +kernel
theorem dX14_nextDocument_32 : decode cX14_nextDocument 32 = .ok (.getfield 129, 3) := by decide +kernel
theorem dX14_nextDocument_35 : decode cX14_nextDocument 35 = .ok (.iconst 0, 1) := by decide +kernel
theorem dX14_nextDocument_36 : decode cX14_nextDocument 36 = .ok (.aaload, 1) := by decide +kernel
theorem dX14_nextDocument_37 : decode cX14_nextDocument 37 = .ok (.if_acmp .eq 32, 3) := by decide +kernel
theorem dX14_nextDocument_40 : decode cX14_nextDocument 40 = .ok (.aload_n 3, 1) := by decide +kernel
theorem dX14_nextDocument_41 : decode cX14_nextDocument 41 = .ok (.aload_n 0, 1) := by decide +kernel
theorem dX14_nextDocument_42 : decode cX14_nextDocument 42 = .ok (.getfield 129, 3) := by decide +kernel
theorem dX14_nextDocument_45 : decode cX14_nextDocument 45 = .ok (.iconst 1, 1) := by decide +kernel
theorem dX14_nextDocument_46 : decode cX14_nextDocument 46 = .ok (.aaload, 1) := by decide +kernel
theorem dX14_nextDocument_47 : decode cX14_nextDocument 47 = .ok (.if_acmp .ne 6, 3) := by decide +kernel
theorem dX14_nextDocument_50 : decode cX14_nextDocument 50 = .ok (.goto 19, 3) := by decide +kernel
theorem dX14_nextDocument_53 : decode cX14_nextDocument 53 = .ok (.aload_n 0, 1) := by decide +kernel
theorem dX14_nextDocument_54 : decode cX14_nextDocument 54 = .ok (.aload_n 3, 1) := by decide +kernel
theorem dX14_nextDocument_55 : decode cX14_nextDocument 55 = .ok (.invokevirtual 775, 3) := by decide +kernel
theorem dX14_nextDocument_58 : decode cX14_nextDocument 58 = .ok (.ifCond .eq 5, 3) := by decide +kernel
theorem dX14_nextDocument_61 : decode cX14_nextDocument 61 = .ok (.aload_n 3, 1) := by decide +kernel
theorem dX14_nextDocument_62 : decode cX14_nextDocument 62 = .ok (.areturn, 1) := by decide +kernel
theorem dX14_nextDocument_63 : decode cX14_nextDocument 63 = .ok (.aload_n 1, 1) := by decide +kernel
theorem dX14_nextDocument_64 : decode cX14_nextDocument 64 = .ok (.ifnonnull 5, 3) := by decide +kernel
theorem dX14_nextDocument_67 : decode cX14_nextDocument 67 = .ok (.aload_n 3, 1) := by decide +kernel
theorem dX14_nextDocument_68 : decode cX14_nextDocument 68 = .ok (.astore_n 1, 1) := by decide +kernel
theorem dX14_nextDocument_69 : decode cX14_nextDocument 69 = .ok (.iinc 2 1, 3) := by decide +kernel
theorem dX14_nextDocument_72 : decode cX14_nextDocument 72 = .ok (.goto (-68), 3) := by decide +kernel
theorem dX14_nextDocument_75 : decode cX14_nextDocument 75 = .ok (.aload_n 1, 1) := by decide +kernel
theorem dX14_nextDocument_76 : decode cX14_nextDocument 76 = .ok (.areturn, 1) := by decide +kernel
end
section
theorem dX13_cost_0 : decode cX13_cost 0 = .ok (.iload 4, 2) := by decide +kernel
theorem dX13_cost_2 : decode cX13_cost 2 = .ok (.ifCond .le 5, 3) := by decide +kernel
theorem dX13_cost_5 : decode cX13_cost 5 = .ok (.iconst 4, 1) := by decide +kernel
theorem dX13_cost_6 : decode cX13_cost 6 = .ok (.ireturn, 1) := by decide +kernel
theorem dX13_cost_7 : decode cX13_cost 7 = .ok (.aload_n 0, 1) := by decide +kernel
theorem dX13_cost_8 : decode cX13_cost 8 = .ok (.getfield 103, 3) := by decide +kernel
theorem dX13_cost_11 : decode cX13_cost 11 = .ok (.istore 5, 2) := by decide +kernel
theorem dX13_cost_13 : decode cX13_cost 13 = .ok (.aload_n 0, 1) := by decide +kernel
theorem dX13_cost_14 : decode cX13_cost 14 = .ok (.getfield 106, 3) := by decide +kernel
theorem dX13_cost_17 : decode cX13_cost 17 = .ok (.istore 6, 2) := by decide +kernel
theorem dX13_cost_19 : decode cX13_cost 19 = .ok (.aload_n 0, 1) := by decide +kernel
theorem dX13_cost_20 : decode cX13_cost 20 = .ok (.aload_n 1, 1) := by decide +kernel
theorem dX13_cost_21 : decode cX13_cost 21 = .ok (.iload_n 2, 1) := by decide +kernel
theorem dX13_cost_22 : decode cX13_cost 22 = .ok (.iload_n 3, 1) := by decide +kernel
theorem dX13_cost_23 : decode cX13_cost 23 = .ok (.invokevirtual 167, 3) := by decide +kernel
theorem dX13_cost_26 : decode cX13_cost 26 = .ok (.aload_n 0, 1) := by decide +kernel
theorem dX13_cost_27 : decode cX13_cost 27 = .ok (.iload 5, 2) := by decide +kernel
theorem dX13_cost_29 : decode cX13_cost 29 = .ok (.putfield 103, 3) := by decide +kernel
theorem dX13_cost_32 : decode cX13_cost 32 = .ok (.aload_n 0, 1) := by decide +kernel
theorem dX13_cost_33 : decode cX13_cost 33 = .ok (.iload 6, 2) := by decide +kernel
theorem dX13_cost_35 : decode cX13_cost 35 = .ok (.putfield 106, 3) := by decide +kernel
theorem dX13_cost_38 : decode cX13_cost 38 = .ok (.iconst 3, 1) := by decide +kernel
theorem dX13_cost_39 : decode cX13_cost 39 = .ok (.aload_n 0, 1) := by decide +kernel
theorem dX13_cost_40 : decode cX13_cost 40 = .ok (.getfield 140, 3) := by decide +kernel
theorem dX13_cost_43 : decode cX13_cost 43 = .ok (.iadd, 1) := by decide +kernel
theorem dX13_cost_44 : decode cX13_cost 44 = .ok (.aload_n 0, 1) := by decide +kernel
theorem dX13_cost_45 : decode cX13_cost 45 = .ok (.getfield 143, 3) := by decide +kernel
theorem dX13_cost_48 : decode cX13_cost 48 = .ok (.iadd, 1) := by decide +kernel
theorem dX13_cost_49 : decode cX13_cost 49 = .ok (.ireturn, 1) := by decide +kernel
end
section
def EX13_costv9 : List (Nat × Nat) := [(15, 7), (15, 10), (15, 30), (15, 31), (155, 0), (156, 0), (157, 0), (166, 0), (167, 0)]
set_option maxHeartbeats 4000000 in
set_option maxRecDepth 20000 in
theorem uX13_costv9 (l : Launch) (dC : Nat → ClassId) (dI : Nat → Nat → Nat) (ca : Nat → ClassId) (base : Nat) (B : jF) (hB : jBok B) (hAp : jAp (dC, dI)) (hB15 : ∀ n G a H, B 15 n G a H ↔ jOb (dC, dI) 15 50 (F15 n G) a H) (hB101 : ∀ n G a H, B 101 n G a H ↔ jAr (dC, dI) (ca 1) (fun j z => True) n a H) (hB155 : ∀ n G a H, B 155 n G a H ↔ jAr (dC, dI) (ca 1) (fun j z => 0 ≤ z.toInt ∧ z.toInt ≤ 11990) n a H) (hB156 : ∀ n G a H, B 156 n G a H ↔ jAr (dC, dI) (ca 1) (fun j z => 0 ≤ z.toInt ∧ z.toInt ≤ 10) n a H) (hB157 : ∀ n G a H, B 157 n G a H ↔ jAr (dC, dI) (ca 1) (fun j z => 0 ≤ z.toInt ∧ z.toInt ≤ 1599) n a H) (hB166 : ∀ n G a H, B 166 n G a H ↔ jAr (dC, dI) (ca 1) (fun j z => True) n a H) (hB167 : ∀ n G a H, B 167 n G a H ↔ jAr (dC, dI) (ca 1) (fun j z => True) n a H) (hB194 : ∀ n G a H, B 194 n G a H ↔ jAr (dC, dI) (ca 1) (fun j z => True) n a H) (G0 : jT) (H0 : Heap) (r0 : Nat) (r1 : Nat) (a2 : Int32) (a3 : Int32) (a4 : Int32) (n1 : Nat) (pc : Int32) (ps : Int32) : Met l yX13_cost (jw yX13_cost cX13_cost 7 (some .int)) ({ frames := 4, cells := 0, slots := 0, locals := 88 }) (va_Pc [.ref r0, .ref r1, .int a2, .int a3, .int a4] (fun U => U.heap = H0 ∧ jX B base G0 [] H0 ∧ jG dC dI ca base U ∧ G0 r1 = some (194, n1) ∧ G0 r0 = some (15, 0) ∧ jP (dC, dI) G0 H0 [(r0, 15, 10, .int pc), (r0, 15, 7, .int ps)] ∧ 0 ≤ a2.toInt ∧ a2.toInt ≤ a3.toInt ∧ a3.toInt ≤ n1 ∧ n1 ≤ 1500 ∧ 0 ≤ pc.toInt ∧ pc.toInt + (a3.toInt - a2.toInt) ≤ 1599 ∧ 0 ≤ ps.toInt ∧ ps.toInt + (a3.toInt - a2.toInt) ≤ 11990)) (va_Qi (S := Unit) (fun r u => (True)) (fun u t => jRt (dC, dI) B base G0 EX13_costv9 H0 [] t.heap) (jA base)) 0 0 (jA base) := by
  refine Met.ofW (cc := cX13_cost) (maxL := 7) (ret := (some .int)) (by decide) rfl ?_
  intro p e s m args below meth c s₁ Bd hml hv
  obtain ⟨rfl, hH0, hX, hG, hg_r1, hg_r0, hP0, hp0, hp1, hp2, hp3, hp4, hp5, hp6, hp7⟩ := hv
  have hK := hG.1
  have hx := Bd.exec
  have hb := Bd.bytes
  have hr := Bd.returns
  have hts := atoms_spec (ws := (jw yX13_cost cX13_cost 7 (some .int))) Bd.pre
  have htw : ∀ w ∈ jWl, w.before _ s = true := fun w h => hts w (List.mem_cons_of_mem _ h)
  have hown : s.vm.findClass RX13 = some m.cls := findClass_of_methodNamed Bd.named
  have hlocks := Bd.notSynchronized
  obtain ⟨Q, hQ⟩ : ∃ Q, Q = MQ below (va_Qi (S := Unit) (fun r u => (True)) (fun u t => jRt (dC, dI) B base G0 EX13_costv9 H0 [] t.heap) (jA base)) ([.ref r0, .ref r1, .int a2, .int a3, .int a4] : List Value).toArray s 0 0 (jA base) := ⟨_, rfl⟩
  rw [← hQ]
  have hl := lv_entry ([.ref r0, .ref r1, .int a2, .int a3, .int a4]) (n := 7) (Nat.le_of_ble_eq_true rfl)
  rw [lg_entry_eq]
  generalize (lg_sl ([.ref r0, .ref r1, .int a2, .int a3, .int a4]) ++ List.replicate (7 - (lg_sl ([.ref r0, .ref r1, .int a2, .int a3, .int a4])).length) Slot.unset).toArray = ls at hl ⊢
  have hl : lv_has ls 7 [(0, .ref r0), (1, .ref r1), (2, .int a2), (3, .int a3), (4, .int a4)] := hl
  generalize hR : (headSpec (jw yX13_cost cX13_cost 7 (some .int)) ({ frames := 4, cells := 0, slots := 0, locals := 88 })).room = R
  subst hH0
  have hh : jSt (dC, dI) B base G0 G0 EX13_costv9 s.heap 0 0 [(r0, 15, 10, .int pc), (r0, 15, 7, .int ps)] [] [] s.heap [] := jSt.start hX hP0 jMc.nil jIs.nil
  clear hX hP0
  have hk0 : (0 : Int32).toInt = 0 := by decide
  have hk1 : (1 : Int32).toInt = 1 := by decide
  have hk3 : (3 : Int32).toInt = 3 := by decide
  have hk4 : (4 : Int32).toInt = 4 := by decide
  have hly_15_7 := htw (u_lay RX13 TX13 7) (jWc_wsX130 _ (u_in_lay (by decide)))
  have hly_15_10 := htw (u_lay RX13 TX13 10) (jWc_wsX130 _ (u_in_lay (by decide)))
  have hly_15_30 := htw (u_lay RX13 TX13 30) (jWc_wsX130 _ (u_in_lay (by decide)))
  have hly_15_31 := htw (u_lay RX13 TX13 31) (jWc_wsX130 _ (u_in_lay (by decide)))
  have hlk_103 := (htw (.fieldLink RX13 103 "ProofServerModel$Kernel" "nameCount" "I") (jWr_59 _ (List.mem_of_getElem? (i := 15) rfl)))
  have hlk_106 := (htw (.fieldLink RX13 106 "ProofServerModel$Kernel" "signCount" "I") (jWr_59 _ (List.mem_of_getElem? (i := 16) rfl)))
  have hlk_140 := (htw (.fieldLink RX13 140 "ProofServerModel$Kernel" "tokens" "I") (jWr_60 _ (List.mem_of_getElem? (i := 9) rfl)))
  have hlk_143 := (htw (.fieldLink RX13 143 "ProofServerModel$Kernel" "loose" "I") (jWr_60 _ (List.mem_of_getElem? (i := 1) rfl)))
  have hrg_a2 := jb_rng a2
  have hrg_a3 := jb_rng a3
  have hrg_a4 := jb_rng a4
  refine lv_iload hx hb dX13_cost_0 (lv_at hl 4 rfl) ?_
  refine lv_if_le (tgt := 7) hx hb dX13_cost_2 (by decide) (fun c_1 => ?_) (fun c_1 => ?_)
  · skip
    have c_1' : a4.toInt ≤ 0 := jb_le (rfl) ((by decide)) c_1
    refine lv_aload_n hx hb dX13_cost_7 rfl (lv_at hl 0 rfl) ?_
    refine j7_read hx hb hown hK (C := RX13) (T := TX13) (N := 50) rfl hly_15_10 hlk_103 (hh.at 0 rfl) dX13_cost_8 ?_
    refine lv_istore (lv' := [(5, .int pc), (0, .ref r0), (1, .ref r1), (2, .int a2), (3, .int a3), (4, .int a4)]) hx hb dX13_cost_11 hl (by decide) rfl (fun ls hl => ?_)
    refine lv_aload_n hx hb dX13_cost_13 rfl (lv_at hl 1 rfl) ?_
    refine j7_read hx hb hown hK (C := RX13) (T := TX13) (N := 50) rfl hly_15_7 hlk_106 (hh.at 1 rfl) dX13_cost_14 ?_
    refine lv_istore (lv' := [(6, .int ps), (5, .int pc), (0, .ref r0), (1, .ref r1), (2, .int a2), (3, .int a3), (4, .int a4)]) hx hb dX13_cost_17 hl (by decide) rfl (fun ls hl => ?_)
    refine lv_aload_n hx hb dX13_cost_19 rfl (lv_at hl 2 rfl) ?_
    refine lv_aload_n hx hb dX13_cost_20 rfl (lv_at hl 3 rfl) ?_
    refine lv_iload_n hx hb dX13_cost_21 rfl (lv_at hl 4 rfl) ?_
    refine lv_iload_n hx hb dX13_cost_22 rfl (lv_at hl 5 rfl) ?_
    obtain ⟨f_f1_4, hh_4⟩ := hh.cpin hB194 (by decide) (by decide) hg_r1
    clear hh
    refine va_callv (A0 := jA base) (H0 := s.heap) (va_runV (As := [.ref r1, .int a2, .int a3]) (rest := []) ⟨hx, hb, hml, hown, hts⟩ (uX13_scanv9 l dC dI ca base B hB hAp hB15 hB101 hB155 hB156 hB157 hB166 hB167 hB194 G0 s.heap r0 r1 a2 a3 n1 pc ps f_f1_4) (cwV 3 hts (jgV (jWr_60 _ (List.mem_of_getElem? (i := 5) rfl)) (jWr_60 _ (List.mem_of_getElem? (i := 6) rfl)) (jWr_60 _ (List.mem_of_getElem? (i := 7) rfl)) (jWr_12 _ (List.mem_of_getElem? (i := 12) rfl)) (jWr_60 _ (List.mem_of_getElem? (i := 8) rfl))) rfl rfl rfl (by decide +kernel) ⟨by rw [← hR]; exact Nat.le_of_ble_eq_true rfl, by rw [← hR]; exact Nat.le_of_ble_eq_true rfl⟩) ⟨fun a U g mk q => by obtain ⟨q0, q1, q2, qK, q10, q11, q12, q13, q14⟩ := q; exact ⟨q0, q1, q2, jG.calling g mk a qK, q10, q11, q12, q13, q14⟩, hh_4.recv (C := RX13) (T := TX13) (N := 50) hB15 rfl (by decide) hg_r0 hK, fun U hU hW => ⟨rfl, hU, hh_4.2.1, hG.step hW hU hh_4.1, hg_r1, hg_r0, (hh_4.2.2.1.sub (L1 := [(r0, 15, 10, .int pc), (r0, 15, 7, .int ps)]) [0, 1] rfl), (hh_4.2.2.2.2.2.2.2.1.sub (L1 := [(r1, 194, n1, ca 1, f_f1_4)]) [0] rfl), by first | omega | (refine ⟨?_, ?_, ?_, ?_, ?_, ?_, ?_, ?_⟩ <;> (first | omega | rfl | assumption | decide | exact Or.inl rfl | exact Or.inr rfl | (simp only; omega)))⟩⟩ rfl rfl hl.1 rfl (lv_room (Nat.le_of_ble_eq_true rfl)) dX13_cost_23 ⟨Nat.zero_le _, Nat.zero_le _⟩) hh_4.1 (fun q _ h => h) (fun q h => h) (fun u_2 t_2 H_2 locs_2 ht_2 hvm_2 hr_3 hb_2 hz_2 hk_2 hS_2 => ?_)
    obtain ⟨qk_2, qc_2, qs_2⟩ := u_2
    rw [ht_2] at hb_2
    obtain ⟨hb_21, hb_22, hb_23, hb_24, hb_25⟩ := hb_2
    have hh_2 : jSt (dC, dI) B base G0 G0 EX13_costv9 s.heap 0 0 [(r0, 15, 30, .int qk_2), (r0, 15, 10, .int qc_2), (r0, 15, 7, .int qs_2)] [(r1, 194, n1, ca 1, f_f1_4)] [] H_2 locs_2 := ((hh_4.call hb_21 hb_22 hb_23 hb_24 hS_2 rfl (L1 := []) [] rfl rfl (M1 := [(r1, 194, n1, ca 1, f_f1_4)]) [0] rfl rfl (I1 := []) [] rfl rfl).more hb_25)
    clear hh_4 ht_2 hvm_2 hz_2 hk_2 hS_2 hb_21 hb_22 hb_23 hb_24 hb_25
    try simp only at hr_3
    obtain ⟨hr_3_0, hr_3_1, hr_3_2, hr_3_3, hr_3_4, hr_3_5⟩ := hr_3
    refine lv_aload_n hx hb dX13_cost_26 rfl (lv_at hl 2 rfl) ?_
    refine lv_iload hx hb dX13_cost_27 (lv_at hl 1 rfl) ?_
    refine j7_put hx hb hown hK hh_2 hB hAp hB15 (C := RX13) (T := TX13) (N := 50) rfl (by decide) hg_r0 (i := 10) (by decide) hly_15_10 rfl hlk_103 rfl (ty := .int) (v := .int pc) (by decide +kernel) rfl rfl (⟨_, rfl, by omega, by omega⟩) rfl (L1 := [(r0, 15, 30, .int qk_2), (r0, 15, 7, .int qs_2)]) [0, 2] rfl rfl rfl dX13_cost_29 (fun H_5 locs_5 hh_5 => ?_)
    clear hh_2
    refine lv_aload_n hx hb dX13_cost_32 rfl (lv_at hl 2 rfl) ?_
    refine lv_iload hx hb dX13_cost_33 (lv_at hl 0 rfl) ?_
    refine j7_put hx hb hown hK hh_5 hB hAp hB15 (C := RX13) (T := TX13) (N := 50) rfl (by decide) hg_r0 (i := 7) (by decide) hly_15_7 rfl hlk_106 rfl (ty := .int) (v := .int ps) (by decide +kernel) rfl rfl (⟨_, rfl, by omega, by omega⟩) rfl (L1 := [(r0, 15, 10, .int pc), (r0, 15, 30, .int qk_2)]) [0, 1] rfl rfl rfl dX13_cost_35 (fun H_6 locs_6 hh_6 => ?_)
    clear hh_5
    refine lv_iconst (v := 3) hx hb dX13_cost_38 (by decide) ?_
    refine lv_aload_n hx hb dX13_cost_39 rfl (lv_at hl 2 rfl) ?_
    refine j7_read hx hb hown hK (C := RX13) (T := TX13) (N := 50) rfl hly_15_30 hlk_140 (hh_6.at 2 rfl) dX13_cost_40 ?_
    refine lv_iadd hx hb dX13_cost_43 ?_
    refine lv_topi (fun z_7 ez_7 => ?_)
    refine lv_aload_n hx hb dX13_cost_44 rfl (lv_at hl 2 rfl) ?_
    obtain ⟨v_8, hv_8, hh_9⟩ := hh_6.pin (C := RX13) (T := TX13) (N := 50) hB15 rfl (by decide) hg_r0 (i := 31) (by decide) rfl
    clear hh_6
    obtain ⟨loose_10, rfl⟩ := hv_8
    refine j7_read hx hb hown hK (C := RX13) (T := TX13) (N := 50) rfl hly_15_31 hlk_143 (hh_9.at 0 rfl) dX13_cost_45 ?_
    refine lv_iadd hx hb dX13_cost_48 ?_
    refine lv_topi (fun z_11 ez_11 => ?_)
    rw [hQ]
    exact W.iret (v := z_11) hx hb hr (fun t ht hW => ⟨⟨z_11, (), rfl, trivial, hh_9.rt (M1 := []) [] rfl ht⟩, by rw [ht]; try exact hh_9.1.1, fun q h9 hq => by rw [ht]; try exact hh_9.1.2.1 q h9 hq⟩) hh_9.1.2.2 dX13_cost_49
  · skip
    have c_1' : a4.toInt > 0 := jb_le_n (rfl) ((by decide)) c_1
    refine lv_iconst (v := 4) hx hb dX13_cost_5 (by decide) ?_
    rw [hQ]
    exact W.iret (v := 4) hx hb hr (fun t ht hW => ⟨⟨4, (), rfl, trivial, hh.rt (M1 := []) [] rfl ht⟩, by rw [ht]; try exact hh.1.1, fun q h9 hq => by rw [ht]; try exact hh.1.2.1 q h9 hq⟩) hh.1.2.2 dX13_cost_6
end
section
theorem dX14_takeRow_0 : decode cX14_takeRow 0 = .ok (.aload_n 0, 1) := by decide +kernel
theorem dX14_takeRow_1 : decode cX14_takeRow 1 = .ok (.iconst 0, 1) := by decide +kernel
theorem dX14_takeRow_2 : decode cX14_takeRow 2 = .ok (.putfield 766, 3) := by decide +kernel
theorem dX14_takeRow_5 : decode cX14_takeRow 5 = .ok (.iconst 0, 1) := by decide +kernel
theorem dX14_takeRow_6 : decode cX14_takeRow 6 = .ok (.istore_n 3, 1) := by decide +kernel
theorem dX14_takeRow_7 : decode cX14_takeRow 7 = .ok (.iload_n 3, 1) := by decide +kernel
theorem dX14_takeRow_8 : decode cX14_takeRow 8 = .ok (.iload_n 2, 1) := by decide +kernel
theorem dX14_takeRow_9 : decode cX14_takeRow 9 = .ok (.if_icmp .gt 80, 3) := by decide +kernel
theorem dX14_takeRow_12 : decode cX14_takeRow 12 = .ok (.aload_n 1, 1) := by decide +kernel
theorem dX14_takeRow_13 : decode cX14_takeRow 13 = .ok (.getfield 596, 3) := by decide +kernel
theorem dX14_takeRow_16 : decode cX14_takeRow 16 = .ok (.iload_n 3, 1) := by decide +kernel
theorem dX14_takeRow_17 : decode cX14_takeRow 17 = .ok (.iaload, 1) := by decide +kernel
theorem dX14_takeRow_18 : decode cX14_takeRow 18 = .ok (.istore 4, 2) := by decide +kernel
theorem dX14_takeRow_20 : decode cX14_takeRow 20 = .ok (.iload 4, 2) := by decide +kernel
theorem dX14_takeRow_22 : decode cX14_takeRow 22 = .ok (.aload_n 1, 1) := by decide +kernel
theorem dX14_takeRow_23 : decode cX14_takeRow 23 = .ok (.getfield 594, 3) := by decide +kernel
theorem dX14_takeRow_26 : decode cX14_takeRow 26 = .ok (.iload_n 3, 1) := by decide +kernel
theorem dX14_takeRow_27 : decode cX14_takeRow 27 = .ok (.iaload, 1) := by decide +kernel
theorem dX14_takeRow_28 : decode cX14_takeRow 28 = .ok (.if_icmp .ge 35, 3) := by decide +kernel
theorem dX14_takeRow_31 : decode cX14_takeRow 31 = .ok (.aload_n 0, 1) := by decide +kernel
theorem dX14_takeRow_32 : decode cX14_takeRow 32 = .ok (.getfield 148, 3) := by decide +kernel
theorem dX14_takeRow_35 : decode cX14_takeRow 35 = .ok (.aload_n 0, 1) := by decide +kernel
theorem dX14_takeRow_36 : decode cX14_takeRow 36 = .ok (.getfield 766, 3) := by decide +kernel
theorem dX14_takeRow_39 : decode cX14_takeRow 39 = .ok (.aload_n 1, 1) := by decide +kernel
theorem dX14_takeRow_40 : decode cX14_takeRow 40 = .ok (.getfield 529, 3) := by decide +kernel
theorem dX14_takeRow_43 : decode cX14_takeRow 43 = .ok (.iload 4, 2) := by decide +kernel
theorem dX14_takeRow_45 : decode cX14_takeRow 45 = .ok (.iaload, 1) := by decide +kernel
theorem dX14_takeRow_46 : decode cX14_takeRow 46 = .ok (.iastore, 1) := by decide +kernel
theorem dX14_takeRow_47 : decode cX14_takeRow 47 = .ok (.aload_n 0, 1) := by decide +kernel
theorem dX14_takeRow_48 : decode cX14_takeRow 48 = .ok (.dup, 1) := by decide +kernel
theorem dX14_takeRow_49 : decode cX14_takeRow 49 = .ok (.getfield 766, 3) := by decide +kernel
theorem dX14_takeRow_52 : decode cX14_takeRow 52 = .ok (.iconst 1, 1) := by decide +kernel
theorem dX14_takeRow_53 : decode cX14_takeRow 53 = .ok (.iadd, 1) := by decide +kernel
theorem dX14_takeRow_54 : decode cX14_takeRow 54 = .ok (.putfield 766, 3) := by decide +kernel
theorem dX14_takeRow_57 : decode cX14_takeRow 57 = .ok (.iinc 4 1, 3) := by decide +kernel
theorem dX14_takeRow_60 : decode cX14_takeRow 60 = .ok (.goto (-40), 3) := by decide +kernel
theorem dX14_takeRow_63 : decode cX14_takeRow 63 = .ok (.aload_n 0, 1) := by decide +kernel
theorem dX14_takeRow_64 : decode cX14_takeRow 64 = .ok (.getfield 148, 3) := by decide +kernel
theorem dX14_takeRow_67 : decode cX14_takeRow 67 = .ok (.aload_n 0, 1) := by decide +kernel
theorem dX14_takeRow_68 : decode cX14_takeRow 68 = .ok (.getfield 766, 3) := by decide +kernel
theorem dX14_takeRow_71 : decode cX14_takeRow 71 = .ok (.iconst (-1), 1) := by decide +kernel
theorem dX14_takeRow_72 : decode cX14_takeRow 72 = .ok (.iastore, 1) := by decide +kernel
theorem dX14_takeRow_73 : decode cX14_takeRow 73 = .ok (.aload_n 0, 1) := by decide +kernel
theorem dX14_takeRow_74 : decode cX14_takeRow 74 = .ok (.dup, 1) := by decide +kernel
theorem dX14_takeRow_75 : decode cX14_takeRow 75 = .ok (.getfield 766, 3) := by decide +kernel
theorem dX14_takeRow_78 : decode cX14_takeRow 78 = .ok (.iconst 1, 1) := by decide +kernel
theorem dX14_takeRow_79 : decode cX14_takeRow 79 = .ok (.iadd, 1) := by decide +kernel
theorem dX14_takeRow_80 : decode cX14_takeRow 80 = .ok (.putfield 766, 3) := by decide +kernel
theorem dX14_takeRow_83 : decode cX14_takeRow 83 = .ok (.iinc 3 1, 3) := by decide +kernel
theorem dX14_takeRow_86 : decode cX14_takeRow 86 = .ok (.goto (-79), 3) := by decide +kernel
theorem dX14_takeRow_89 : decode cX14_takeRow 89 = .ok (.return_, 1) := by decide +kernel
theorem dX14_costOf_0 : decode cX14_costOf 0 = .ok (.aload_n 0, 1) := by decide +kernel
theorem dX14_costOf_1 : decode cX14_costOf 1 = .ok (.getfield 122, 3) := by decide +kernel
theorem dX14_costOf_4 : decode cX14_costOf 4 = .ok (.invokevirtual 627, 3) := by decide +kernel
theorem dX14_costOf_7 : decode cX14_costOf 7 = .ok (.aload_n 0, 1) := by decide +kernel
theorem dX14_costOf_8 : decode cX14_costOf 8 = .ok (.getfield 122, 3) := by decide +kernel
theorem dX14_costOf_11 : decode cX14_costOf 11 = .ok (.aload_n 1, 1) := by decide +kernel
theorem dX14_costOf_12 : decode cX14_costOf 12 = .ok (.getfield 529, 3) := by decide +kernel
theorem dX14_costOf_15 : decode cX14_costOf 15 = .ok (.aload_n 1, 1) := by decide +kernel
theorem dX14_costOf_16 : decode cX14_costOf 16 = .ok (.getfield 596, 3) := by decide +kernel
theorem dX14_costOf_19 : decode cX14_costOf 19 = .ok (.iload_n 2, 1) := by decide +kernel
theorem dX14_costOf_20 : decode cX14_costOf 20 = .ok (.iaload, 1) := by decide +kernel
theorem dX14_costOf_21 : decode cX14_costOf 21 = .ok (.aload_n 1, 1) := by decide +kernel
theorem dX14_costOf_22 : decode cX14_costOf 22 = .ok (.getfield 594, 3) := by decide +kernel
theorem dX14_costOf_25 : decode cX14_costOf 25 = .ok (.iload_n 2, 1) := by decide +kernel
theorem dX14_costOf_26 : decode cX14_costOf 26 = .ok (.iaload, 1) := by decide +kernel
theorem dX14_costOf_27 : decode cX14_costOf 27 = .ok (.aload_n 1, 1) := by decide +kernel
theorem dX14_costOf_28 : decode cX14_costOf 28 = .ok (.getfield 599, 3) := by decide +kernel
theorem dX14_costOf_31 : decode cX14_costOf 31 = .ok (.iload_n 2, 1) := by decide +kernel
theorem dX14_costOf_32 : decode cX14_costOf 32 = .ok (.iaload, 1) := by decide +kernel
theorem dX14_costOf_33 : decode cX14_costOf 33 = .ok (.invokevirtual 779, 3) := by decide +kernel
theorem dX14_costOf_36 : decode cX14_costOf 36 = .ok (.ireturn, 1) := by decide +kernel
def EX14_takeRow : List (Nat × Nat) := [(16, 70), (101, 0)]
def EX14_costOf : List (Nat × Nat) := [(15, 5), (15, 7), (15, 10), (15, 11), (15, 15), (15, 18), (15, 21), (15, 30), (15, 31), (155, 0), (156, 0), (157, 0), (166, 0), (167, 0)]
set_option maxHeartbeats 4000000 in
set_option maxRecDepth 20000 in
theorem uX14_takeRow (l : Launch) (dC : Nat → ClassId) (dI : Nat → Nat → Nat) (ca : Nat → ClassId) (base : Nat) (B : jF) (hB : jBok B) (hAp : jAp (dC, dI)) (hB14 : ∀ n G a H, B 14 n G a H ↔ jOb (dC, dI) 14 11 (F14 n G) a H) (hB16 : ∀ n G a H, B 16 n G a H ↔ jOb (dC, dI) 16 74 (F16 n G) a H) (hB101 : ∀ n G a H, B 101 n G a H ↔ jAr (dC, dI) (ca 1) (fun j z => True) n a H) (hB190 : ∀ n G a H, B 190 n G a H ↔ jAr (dC, dI) (ca 1) (fun j z => 0 ≤ z.toInt ∧ z.toInt ≤ 1500) n a H) (hB191 : ∀ n G a H, B 191 n G a H ↔ jAr (dC, dI) (ca 1) (fun j z => 0 ≤ z.toInt ∧ z.toInt ≤ 1500) n a H) (hB194 : ∀ n G a H, B 194 n G a H ↔ jAr (dC, dI) (ca 1) (fun j z => True) n a H) (G0 : jT) (H0 : Heap) (r0 : Nat) (r1 : Nat) (a2 : Int32) (yb : Nat) (ye : Nat) (sn : Int) (fb : Nat → Int32) (fe : Nat → Int32) : Met l yX14_takeRow (jw yX14_takeRow cX14_takeRow 5 none) ({ frames := 0, cells := 0, slots := 0, locals := 0 }) (va_Pc [.ref r0, .ref r1, .int a2] (fun U => U.heap = H0 ∧ jX B base G0 [] H0 ∧ jG dC dI ca base U ∧ G0 r1 = some (14, 0) ∧ G0 r0 = some (16, 0) ∧ G0 yb = some (190, 40) ∧ G0 ye = some (191, 40) ∧ jP (dC, dI) G0 H0 [(r1, 14, 6, .ref yb), (r1, 14, 7, .ref ye)] ∧ jMc (dC, dI) G0 H0 [(yb, 190, 40, ca 1, fb), (ye, 191, 40, ca 1, fe)] ∧ jSrt fb fe sn 1500 ∧ 0 ≤ a2.toInt ∧ a2.toInt < sn ∧ sn ≤ 40)) (va_Qv (S := Unit) (fun u => True) (fun u t => jRt (dC, dI) B base G0 EX14_takeRow H0 [] t.heap) (jA base)) 0 0 (jA base) := by
  refine Met.ofW (cc := cX14_takeRow) (maxL := 5) (ret := none) (by decide) rfl ?_
  intro p e s m args below meth c s₁ Bd hml hv
  obtain ⟨rfl, hH0, hX, hG, hg_r1, hg_r0, hg_yb, hg_ye, hP0, hM0, hp0, hp1, hp2, hp3⟩ := hv
  have hK := hG.1
  have hx := Bd.exec
  have hb := Bd.bytes
  have hr := Bd.returns
  have hts := atoms_spec (ws := (jw yX14_takeRow cX14_takeRow 5 none)) Bd.pre
  have htw : ∀ w ∈ jWl, w.before _ s = true := fun w h => hts w (List.mem_cons_of_mem _ h)
  have hown : s.vm.findClass RX14 = some m.cls := findClass_of_methodNamed Bd.named
  have hlocks := Bd.notSynchronized
  obtain ⟨Q, hQ⟩ : ∃ Q, Q = MQ below (va_Qv (S := Unit) (fun u => True) (fun u t => jRt (dC, dI) B base G0 EX14_takeRow H0 [] t.heap) (jA base)) ([.ref r0, .ref r1, .int a2] : List Value).toArray s 0 0 (jA base) := ⟨_, rfl⟩
  rw [← hQ]
  have hl := lv_entry ([.ref r0, .ref r1, .int a2]) (n := 5) (Nat.le_of_ble_eq_true rfl)
  rw [lg_entry_eq]
  generalize (lg_sl ([.ref r0, .ref r1, .int a2]) ++ List.replicate (5 - (lg_sl ([.ref r0, .ref r1, .int a2])).length) Slot.unset).toArray = ls at hl ⊢
  have hl : lv_has ls 5 [(0, .ref r0), (1, .ref r1), (2, .int a2)] := hl
  generalize hR : (headSpec (jw yX14_takeRow cX14_takeRow 5 none) ({ frames := 0, cells := 0, slots := 0, locals := 0 })).room = R
  subst hH0
  have hh : jSt (dC, dI) B base G0 G0 EX14_takeRow s.heap 0 0 [(r1, 14, 6, .ref yb), (r1, 14, 7, .ref ye)] [(yb, 190, 40, ca 1, fb), (ye, 191, 40, ca 1, fe)] [] s.heap [] := jSt.start hX hP0 hM0 jIs.nil
  clear hX hP0
  have hkm1 : ((-1) : Int32).toInt = (-1) := by decide
  have hk0 : (0 : Int32).toInt = 0 := by decide
  have hk1 : (1 : Int32).toInt = 1 := by decide
  have hly_14_3 := htw (u_lay RX12 TX12 3) (jWc_wsX120 _ (u_in_lay (by decide)))
  have hly_14_6 := htw (u_lay RX12 TX12 6) (jWc_wsX120 _ (u_in_lay (by decide)))
  have hly_14_7 := htw (u_lay RX12 TX12 7) (jWc_wsX120 _ (u_in_lay (by decide)))
  have hly_16_69 := htw (u_lay RX14 TX14 69) (jWc_wsX140 _ (u_in_lay (by decide)))
  have hly_16_70 := htw (u_lay RX14 TX14 70) (jWc_wsX140 _ (u_in_lay (by decide)))
  have hlk_766 := (htw (.fieldLink RX14 766 "ProofServerModel" "rowLength" "I") (jWr_90 _ (List.mem_of_getElem? (i := 17) rfl)))
  have hlk_596 := (va_Nw.use (A := ([.ref r0, .ref r1, .int a2] : List Value).toArray) rfl (hG.2.1 RX14 596 "ProofServerModel$Document" "begin" "[I" "ProofServerModel" (List.mem_of_getElem? (i := 1739) (by decide +kernel))))
  have hlk_594 := (va_Nw.use (A := ([.ref r0, .ref r1, .int a2] : List Value).toArray) rfl (hG.2.1 RX14 594 "ProofServerModel$Document" "end" "[I" "ProofServerModel" (List.mem_of_getElem? (i := 1741) (by decide +kernel))))
  have hlk_148 := (htw (.fieldLink RX14 148 "ProofServerModel" "row" "[I") (jWr_12 _ (List.mem_of_getElem? (i := 22) rfl)))
  have hlk_529 := (va_Nw.use (A := ([.ref r0, .ref r1, .int a2] : List Value).toArray) rfl (hG.2.1 RX14 529 "ProofServerModel$Document" "text" "[I" "ProofServerModel" (List.mem_of_getElem? (i := 1735) (by decide +kernel))))
  have hrg_a2 := jb_rng a2
  refine lv_aload_n hx hb dX14_takeRow_0 rfl (lv_at hl 0 rfl) ?_
  refine lv_iconst (v := 0) hx hb dX14_takeRow_1 (by decide) ?_
  refine j7_put hx hb hown hK hh hB hAp hB16 (C := RX14) (T := TX14) (N := 74) rfl (by decide) hg_r0 (i := 70) (by decide) hly_16_70 rfl hlk_766 rfl (ty := .int) (v := .int 0) (by decide +kernel) rfl rfl (⟨_, rfl, by omega, by omega⟩) rfl (L1 := [(r1, 14, 6, .ref yb), (r1, 14, 7, .ref ye)]) [0, 1] rfl rfl rfl dX14_takeRow_2 (fun H_1 locs_1 hh_1 => ?_)
  clear hh
  refine lv_iconst (v := 0) hx hb dX14_takeRow_5 (by decide) ?_
  refine lv_istore_n (lv' := [(3, .int 0), (0, .ref r0), (1, .ref r1), (2, .int a2)]) hx hb dX14_takeRow_6 rfl hl (by decide) rfl (fun ls hl => ?_)
  have L7 : ∀ (N : Nat) (v3_2 : Int32) (wl_2 : Int32) (H_2 : Heap) (locs_2 : List Loc), jSt (dC, dI) B base G0 G0 EX14_takeRow s.heap 0 0 [(r0, 16, 70, .int wl_2), (r1, 14, 6, .ref yb), (r1, 14, 7, .ref ye)] [(yb, 190, 40, ca 1, fb), (ye, 191, 40, ca 1, fe)] [] H_2 locs_2 → (0 ≤ v3_2.toInt ∧ v3_2.toInt ≤ a2.toInt + 1 ∧ 0 ≤ wl_2.toInt ∧ wl_2.toInt ≤ 1500 + v3_2.toInt ∧ (v3_2.toInt ≤ a2.toInt → wl_2.toInt ≤ jSo fb v3_2.toInt + v3_2.toInt)) → (a2.toInt + 1 - v3_2.toInt : Int) < N → ∀ ls : Array Slot, lv_has ls 5 [(0, .ref r0), (1, .ref r1), (2, .int a2), (3, .int v3_2)] → W p l e R s m ([.ref r0, .ref r1, .int a2] : List Value).toArray below meth c H_2 locs_2 0 0 Q (F0 m 7 ls []) := by
    intro N
    induction N with
    | zero => intro v3_2 wl_2 H_2 locs_2 hh_2  hi_2 hm; exact absurd hm (by omega)
    | succ N L7 =>
      intro v3_2 wl_2 H_2 locs_2 hh_2  hi_2 hm_2 ls hl
      obtain ⟨hi_2_0, hi_2_1, hi_2_2, hi_2_3, hi_2_4⟩ := hi_2
      refine lv_iload_n hx hb dX14_takeRow_7 rfl (lv_at hl 3 rfl) ?_
      refine lv_iload_n hx hb dX14_takeRow_8 rfl (lv_at hl 2 rfl) ?_
      refine lv_icmp_gt (tgt := 89) hx hb dX14_takeRow_9 (by decide) (fun c_3 => ?_) (fun c_3 => ?_)
      · skip
        have c_3' : v3_2.toInt > a2.toInt := jb_gt (rfl) (rfl) c_3
        rw [hQ]
        exact W.vret hx hb hr (fun t ht hW => ⟨⟨(), rfl, trivial, hh_2.rt (M1 := []) [] rfl ht⟩, by rw [ht]; try exact hh_2.1.1, fun q h9 hq => by rw [ht]; try exact hh_2.1.2.1 q h9 hq⟩) hh_2.1.2.2 dX14_takeRow_89
      · skip
        have c_3' : v3_2.toInt ≤ a2.toInt := jb_gt_n (rfl) (rfl) c_3
        obtain ⟨s1, s2, s3, s4⟩ := hp0 v3_2.toInt (by omega) (by omega)
        refine lv_aload_n hx hb dX14_takeRow_12 rfl (lv_at hl 1 rfl) ?_
        refine j7_readN hx hb hown hK (C := RX12) (T := TX12) (N := 11) rfl hly_14_6 hlk_596 (hh_2.at 1 rfl) dX14_takeRow_13 ?_
        refine lv_iload_n hx hb dX14_takeRow_16 rfl (lv_at hl 3 rfl) ?_
        refine j7_ialdM hx hb hK hh_2 hB190 1 rfl (by decide) hg_yb (x := v3_2.toInt) (rfl) (by omega) (j := 0) rfl dX14_takeRow_17 (fun z_4 ez_4 (hz_4 : 0 ≤ z_4.toInt ∧ z_4.toInt ≤ 1500) => ?_)
        have hqz_4 : z_4.toInt = jSo fb (v3_2.toInt) := by unfold jSo; rw [ez_4]
        refine lv_istore (lv' := [(4, .int z_4), (0, .ref r0), (1, .ref r1), (2, .int a2), (3, .int v3_2)]) hx hb dX14_takeRow_18 hl (by decide) rfl (fun ls hl => ?_)
        have L20 : ∀ (N : Nat) (v4_5 : Int32) (wl_5 : Int32) (H_5 : Heap) (locs_5 : List Loc), jSt (dC, dI) B base G0 G0 EX14_takeRow s.heap 0 0 [(r0, 16, 70, .int wl_5), (r1, 14, 6, .ref yb), (r1, 14, 7, .ref ye)] [(yb, 190, 40, ca 1, fb), (ye, 191, 40, ca 1, fe)] [] H_5 locs_5 → (jSo fb v3_2.toInt ≤ v4_5.toInt ∧ v4_5.toInt ≤ jSo fe v3_2.toInt ∧ 0 ≤ wl_5.toInt ∧ wl_5.toInt ≤ v4_5.toInt + v3_2.toInt) → (jSo fe v3_2.toInt - v4_5.toInt : Int) < N → ∀ ls : Array Slot, lv_has ls 5 [(0, .ref r0), (1, .ref r1), (2, .int a2), (3, .int v3_2), (4, .int v4_5)] → W p l e R s m ([.ref r0, .ref r1, .int a2] : List Value).toArray below meth c H_5 locs_5 0 0 Q (F0 m 20 ls []) := by
          intro N
          induction N with
          | zero => intro v4_5 wl_5 H_5 locs_5 hh_5  hi_5 hm; exact absurd hm (by omega)
          | succ N L20 =>
            intro v4_5 wl_5 H_5 locs_5 hh_5  hi_5 hm_5 ls hl
            obtain ⟨hi_5_0, hi_5_1, hi_5_2, hi_5_3⟩ := hi_5
            refine lv_iload hx hb dX14_takeRow_20 (lv_at hl 4 rfl) ?_
            refine lv_aload_n hx hb dX14_takeRow_22 rfl (lv_at hl 1 rfl) ?_
            refine j7_readN hx hb hown hK (C := RX12) (T := TX12) (N := 11) rfl hly_14_7 hlk_594 (hh_5.at 2 rfl) dX14_takeRow_23 ?_
            refine lv_iload_n hx hb dX14_takeRow_26 rfl (lv_at hl 3 rfl) ?_
            refine j7_ialdM hx hb hK hh_5 hB191 1 rfl (by decide) hg_ye (x := v3_2.toInt) (rfl) (by omega) (j := 1) rfl dX14_takeRow_27 (fun z_6 ez_6 (hz_6 : 0 ≤ z_6.toInt ∧ z_6.toInt ≤ 1500) => ?_)
            have hqz_6 : z_6.toInt = jSo fe (v3_2.toInt) := by unfold jSo; rw [ez_6]
            refine lv_icmp_ge (tgt := 63) hx hb dX14_takeRow_28 (by decide) (fun c_7 => ?_) (fun c_7 => ?_)
            · skip
              have c_7' : v4_5.toInt ≥ z_6.toInt := jb_ge (rfl) (rfl) c_7
              refine lv_aload_n hx hb dX14_takeRow_63 rfl (lv_at hl 0 rfl) ?_
              obtain ⟨v_8, hv_8, hh_9⟩ := hh_5.pin (C := RX14) (T := TX14) (N := 74) hB16 rfl (by decide) hg_r0 (i := 69) (by decide) rfl
              clear hh_5
              obtain ⟨row_10, rfl, hg_row_10⟩ := hv_8
              refine j7_read hx hb hown hK (C := RX14) (T := TX14) (N := 74) rfl hly_16_69 hlk_148 (hh_9.at 0 rfl) dX14_takeRow_64 ?_
              refine lv_aload_n hx hb dX14_takeRow_67 rfl (lv_at hl 0 rfl) ?_
              refine j7_read hx hb hown hK (C := RX14) (T := TX14) (N := 74) rfl hly_16_70 hlk_766 (hh_9.at 1 rfl) dX14_takeRow_68 ?_
              refine lv_iconst (v := (-1)) hx hb dX14_takeRow_71 (by decide) ?_
              refine j7_iast hx hb hK hh_9 hB hB101 1 rfl (by decide) (by decide) rfl rfl rfl hg_row_10 (x := wl_5.toInt) (rfl) (by omega) (trivial) dX14_takeRow_72 (fun H_11 locs_11 hh_11 => ?_)
              clear hh_9
              refine lv_aload_n hx hb dX14_takeRow_73 rfl (lv_at hl 0 rfl) ?_
              refine lv_dup hx hb dX14_takeRow_74 rfl ?_
              refine j7_read hx hb hown hK (C := RX14) (T := TX14) (N := 74) rfl hly_16_70 hlk_766 (hh_11.at 1 rfl) dX14_takeRow_75 ?_
              refine lv_iconst (v := 1) hx hb dX14_takeRow_78 (by decide) ?_
              refine lv_iadd hx hb dX14_takeRow_79 ?_
              refine lv_topi (fun z_12 ez_12 => ?_)
              have hz_12 : z_12.toInt = wl_5.toInt + 1 := by rw [ez_12]; exact jb_iadd2 (rfl) ((by decide)) (by omega)
              refine j7_put hx hb hown hK hh_11 hB hAp hB16 (C := RX14) (T := TX14) (N := 74) rfl (by decide) hg_r0 (i := 70) (by decide) hly_16_70 rfl hlk_766 rfl (ty := .int) (v := .int z_12) (by decide +kernel) rfl rfl (⟨_, rfl, by omega, by omega⟩) rfl (L1 := [(r0, 16, 69, .ref row_10), (r1, 14, 6, .ref yb), (r1, 14, 7, .ref ye)]) [0, 2, 3] rfl rfl rfl dX14_takeRow_80 (fun H_13 locs_13 hh_13 => ?_)
              clear hh_11
              obtain ⟨z_14, ez_14⟩ : ∃ y : Int32, y = v3_2 + 1 := ⟨_, rfl⟩
              refine lv_iinc (v := z_14) (lv' := [(3, .int z_14), (0, .ref r0), (1, .ref r1), (2, .int a2), (4, .int v4_5)]) hx hb dX14_takeRow_83 hl (k := 3) rfl (by rw [ez_14]; rfl) (by decide) rfl (fun ls hl => ?_)
              have hz_14 : z_14.toInt = v3_2.toInt + 1 := by rw [ez_14]; exact jb_iadd2 (rfl) (by decide) (by omega)
              refine lv_goto (tgt := 7) hx hb dX14_takeRow_86 (by decide) ?_
              exact L7 z_14 z_12 _ _ (hh_13.sub (L1 := [(r0, 16, 70, .int z_12), (r1, 14, 6, .ref yb), (r1, 14, 7, .ref ye)]) [0, 2, 3] rfl (M1 := [(yb, 190, 40, ca 1, fb), (ye, 191, 40, ca 1, fe)]) [0, 1] rfl (I1 := []) [] rfl) (⟨(by first | omega | rfl | assumption | (intro _; rw [hk0]; have h9 := (hp0 0 (by omega) (by omega)).1; omega) | (intro h9; rw [show (z_14).toInt = v3_2.toInt + 1 by omega]; have h8 := s4 (by omega); omega)), (by first | omega | rfl | assumption | (intro _; rw [hk0]; have h9 := (hp0 0 (by omega) (by omega)).1; omega) | (intro h9; rw [show (z_14).toInt = v3_2.toInt + 1 by omega]; have h8 := s4 (by omega); omega)), (by first | omega | rfl | assumption | (intro _; rw [hk0]; have h9 := (hp0 0 (by omega) (by omega)).1; omega) | (intro h9; rw [show (z_14).toInt = v3_2.toInt + 1 by omega]; have h8 := s4 (by omega); omega)), (by first | omega | rfl | assumption | (intro _; rw [hk0]; have h9 := (hp0 0 (by omega) (by omega)).1; omega) | (intro h9; rw [show (z_14).toInt = v3_2.toInt + 1 by omega]; have h8 := s4 (by omega); omega)), (by first | assumption | (intro _; rw [hk0]; have h9 := (hp0 0 (by omega) (by omega)).1; omega) | (intro h9; rw [show (z_14).toInt = v3_2.toInt + 1 by omega]; have h8 := s4 (by omega); omega) | omega)⟩) (by omega) _ (lv_sub hl [1, 2, 3, 0] rfl)
            · skip
              have c_7' : v4_5.toInt < z_6.toInt := jb_ge_n (rfl) (rfl) c_7
              refine lv_aload_n hx hb dX14_takeRow_31 rfl (lv_at hl 0 rfl) ?_
              obtain ⟨v_15, hv_15, hh_16⟩ := hh_5.pin (C := RX14) (T := TX14) (N := 74) hB16 rfl (by decide) hg_r0 (i := 69) (by decide) rfl
              clear hh_5
              obtain ⟨row_17, rfl, hg_row_17⟩ := hv_15
              refine j7_read hx hb hown hK (C := RX14) (T := TX14) (N := 74) rfl hly_16_69 hlk_148 (hh_16.at 0 rfl) dX14_takeRow_32 ?_
              refine lv_aload_n hx hb dX14_takeRow_35 rfl (lv_at hl 0 rfl) ?_
              refine j7_read hx hb hown hK (C := RX14) (T := TX14) (N := 74) rfl hly_16_70 hlk_766 (hh_16.at 1 rfl) dX14_takeRow_36 ?_
              refine lv_aload_n hx hb dX14_takeRow_39 rfl (lv_at hl 1 rfl) ?_
              obtain ⟨v_18, hv_18, hh_19⟩ := hh_16.pin (C := RX12) (T := TX12) (N := 11) hB14 rfl (by decide) hg_r1 (i := 3) (by decide) rfl
              clear hh_16
              obtain ⟨text_20, rfl, hg_text_20⟩ := hv_18
              refine j7_readN hx hb hown hK (C := RX12) (T := TX12) (N := 11) rfl hly_14_3 hlk_529 (hh_19.at 0 rfl) dX14_takeRow_40 ?_
              refine lv_iload hx hb dX14_takeRow_43 (lv_at hl 4 rfl) ?_
              refine j7_iald hx hb hK hh_19 hB194 1 rfl (by decide) hg_text_20 (x := v4_5.toInt) (rfl) (by omega) dX14_takeRow_45 (fun z_21 (hz_21 : True) => ?_)
              refine j7_iast hx hb hK hh_19 hB hB101 1 rfl (by decide) (by decide) rfl rfl rfl hg_row_17 (x := wl_5.toInt) (rfl) (by omega) (trivial) dX14_takeRow_46 (fun H_22 locs_22 hh_22 => ?_)
              clear hh_19
              refine lv_aload_n hx hb dX14_takeRow_47 rfl (lv_at hl 0 rfl) ?_
              refine lv_dup hx hb dX14_takeRow_48 rfl ?_
              refine j7_read hx hb hown hK (C := RX14) (T := TX14) (N := 74) rfl hly_16_70 hlk_766 (hh_22.at 2 rfl) dX14_takeRow_49 ?_
              refine lv_iconst (v := 1) hx hb dX14_takeRow_52 (by decide) ?_
              refine lv_iadd hx hb dX14_takeRow_53 ?_
              refine lv_topi (fun z_23 ez_23 => ?_)
              have hz_23 : z_23.toInt = wl_5.toInt + 1 := by rw [ez_23]; exact jb_iadd2 (rfl) ((by decide)) (by omega)
              refine j7_put hx hb hown hK hh_22 hB hAp hB16 (C := RX14) (T := TX14) (N := 74) rfl (by decide) hg_r0 (i := 70) (by decide) hly_16_70 rfl hlk_766 rfl (ty := .int) (v := .int z_23) (by decide +kernel) rfl rfl (⟨_, rfl, by omega, by omega⟩) rfl (L1 := [(r1, 14, 3, .ref text_20), (r0, 16, 69, .ref row_17), (r1, 14, 6, .ref yb), (r1, 14, 7, .ref ye)]) [0, 1, 3, 4] rfl rfl rfl dX14_takeRow_54 (fun H_24 locs_24 hh_24 => ?_)
              clear hh_22
              obtain ⟨z_25, ez_25⟩ : ∃ y : Int32, y = v4_5 + 1 := ⟨_, rfl⟩
              refine lv_iinc (v := z_25) (lv' := [(4, .int z_25), (0, .ref r0), (1, .ref r1), (2, .int a2), (3, .int v3_2)]) hx hb dX14_takeRow_57 hl (k := 4) rfl (by rw [ez_25]; rfl) (by decide) rfl (fun ls hl => ?_)
              have hz_25 : z_25.toInt = v4_5.toInt + 1 := by rw [ez_25]; exact jb_iadd2 (rfl) (by decide) (by omega)
              refine lv_goto (tgt := 20) hx hb dX14_takeRow_60 (by decide) ?_
              exact L20 z_25 z_23 _ _ (hh_24.sub (L1 := [(r0, 16, 70, .int z_23), (r1, 14, 6, .ref yb), (r1, 14, 7, .ref ye)]) [0, 3, 4] rfl (M1 := [(yb, 190, 40, ca 1, fb), (ye, 191, 40, ca 1, fe)]) [0, 1] rfl (I1 := []) [] rfl) (by first | omega | (refine ⟨?_, ?_, ?_, ?_⟩ <;> (first | omega | rfl | assumption | decide | exact Or.inl rfl | exact Or.inr rfl | (simp only; omega)))) (by omega) _ (lv_sub hl [1, 2, 3, 4, 0] rfl)
        exact L20 (jSo fe v3_2.toInt - (z_4 : Int32).toInt : Int).toNat.succ z_4 wl_2 _ _ hh_2 (by first | omega | (refine ⟨?_, ?_, ?_, ?_⟩ <;> (first | omega | rfl | assumption | decide | exact Or.inl rfl | exact Or.inr rfl | (simp only; omega)))) (by omega) _ (lv_sub hl [1, 2, 3, 4, 0] rfl)
  exact L7 (a2.toInt + 1 - (0 : Int32).toInt : Int).toNat.succ 0 0 _ _ hh_1 (⟨(by first | omega | rfl | assumption | (intro _; rw [hk0]; have h9 := (hp0 0 (by omega) (by omega)).1; omega) | (intro h9; rw [show (0).toInt = (zz_none).toInt + 1 by omega]; have h8 := s4 (by omega); omega)), (by first | omega | rfl | assumption | (intro _; rw [hk0]; have h9 := (hp0 0 (by omega) (by omega)).1; omega) | (intro h9; rw [show (0).toInt = (zz_none).toInt + 1 by omega]; have h8 := s4 (by omega); omega)), (by first | omega | rfl | assumption | (intro _; rw [hk0]; have h9 := (hp0 0 (by omega) (by omega)).1; omega) | (intro h9; rw [show (0).toInt = (zz_none).toInt + 1 by omega]; have h8 := s4 (by omega); omega)), (by first | omega | rfl | assumption | (intro _; rw [hk0]; have h9 := (hp0 0 (by omega) (by omega)).1; omega) | (intro h9; rw [show (0).toInt = (zz_none).toInt + 1 by omega]; have h8 := s4 (by omega); omega)), (by first | assumption | (intro _; rw [hk0]; have h9 := (hp0 0 (by omega) (by omega)).1; omega) | (intro h9; rw [show (0).toInt = (zz_none).toInt + 1 by omega]; have h8 := s4 (by omega); omega) | omega)⟩) (by omega) _ (lv_sub hl [1, 2, 3, 0] rfl)
set_option maxHeartbeats 4000000 in
set_option maxRecDepth 20000 in
theorem uX14_costOf (l : Launch) (dC : Nat → ClassId) (dI : Nat → Nat → Nat) (ca : Nat → ClassId) (base : Nat) (B : jF) (hB : jBok B) (hAp : jAp (dC, dI)) (hB14 : ∀ n G a H, B 14 n G a H ↔ jOb (dC, dI) 14 11 (F14 n G) a H) (hB15 : ∀ n G a H, B 15 n G a H ↔ jOb (dC, dI) 15 50 (F15 n G) a H) (hB16 : ∀ n G a H, B 16 n G a H ↔ jOb (dC, dI) 16 74 (F16 n G) a H) (hB101 : ∀ n G a H, B 101 n G a H ↔ jAr (dC, dI) (ca 1) (fun j z => True) n a H) (hB155 : ∀ n G a H, B 155 n G a H ↔ jAr (dC, dI) (ca 1) (fun j z => 0 ≤ z.toInt ∧ z.toInt ≤ 11990) n a H) (hB156 : ∀ n G a H, B 156 n G a H ↔ jAr (dC, dI) (ca 1) (fun j z => 0 ≤ z.toInt ∧ z.toInt ≤ 10) n a H) (hB157 : ∀ n G a H, B 157 n G a H ↔ jAr (dC, dI) (ca 1) (fun j z => 0 ≤ z.toInt ∧ z.toInt ≤ 1599) n a H) (hB166 : ∀ n G a H, B 166 n G a H ↔ jAr (dC, dI) (ca 1) (fun j z => True) n a H) (hB167 : ∀ n G a H, B 167 n G a H ↔ jAr (dC, dI) (ca 1) (fun j z => True) n a H) (hB190 : ∀ n G a H, B 190 n G a H ↔ jAr (dC, dI) (ca 1) (fun j z => 0 ≤ z.toInt ∧ z.toInt ≤ 1500) n a H) (hB191 : ∀ n G a H, B 191 n G a H ↔ jAr (dC, dI) (ca 1) (fun j z => 0 ≤ z.toInt ∧ z.toInt ≤ 1500) n a H) (hB192 : ∀ n G a H, B 192 n G a H ↔ jAr (dC, dI) (ca 1) (fun j z => 0 ≤ z.toInt ∧ z.toInt ≤ 2) n a H) (hB194 : ∀ n G a H, B 194 n G a H ↔ jAr (dC, dI) (ca 1) (fun j z => True) n a H) (G0 : jT) (H0 : Heap) (r0 : Nat) (r1 : Nat) (a2 : Int32) (yb : Nat) (ye : Nat) (sn : Int) (fb : Nat → Int32) (fe : Nat → Int32) : Met l yX14_costOf (jw yX14_costOf cX14_costOf 3 (some .int)) ({ frames := 5, cells := 0, slots := 0, locals := 114 }) (va_Pc [.ref r0, .ref r1, .int a2] (fun U => U.heap = H0 ∧ jX B base G0 [] H0 ∧ jG dC dI ca base U ∧ G0 r1 = some (14, 0) ∧ G0 r0 = some (16, 0) ∧ G0 yb = some (190, 40) ∧ G0 ye = some (191, 40) ∧ jP (dC, dI) G0 H0 [(r1, 14, 6, .ref yb), (r1, 14, 7, .ref ye)] ∧ jMc (dC, dI) G0 H0 [(yb, 190, 40, ca 1, fb), (ye, 191, 40, ca 1, fe)] ∧ jSrt fb fe sn 1500 ∧ 0 ≤ a2.toInt ∧ a2.toInt < sn ∧ sn ≤ 40)) (va_Qi (S := Unit) (fun r u => (True)) (fun u t => jRt (dC, dI) B base G0 EX14_costOf H0 [] t.heap) (jA base)) 0 0 (jA base) := by
  refine Met.ofW (cc := cX14_costOf) (maxL := 3) (ret := (some .int)) (by decide) rfl ?_
  intro p e s m args below meth c s₁ Bd hml hv
  obtain ⟨rfl, hH0, hX, hG, hg_r1, hg_r0, hg_yb, hg_ye, hP0, hM0, hp0, hp1, hp2, hp3⟩ := hv
  have hK := hG.1
  have hx := Bd.exec
  have hb := Bd.bytes
  have hr := Bd.returns
  have hts := atoms_spec (ws := (jw yX14_costOf cX14_costOf 3 (some .int))) Bd.pre
  have htw : ∀ w ∈ jWl, w.before _ s = true := fun w h => hts w (List.mem_cons_of_mem _ h)
  have hown : s.vm.findClass RX14 = some m.cls := findClass_of_methodNamed Bd.named
  have hlocks := Bd.notSynchronized
  obtain ⟨Q, hQ⟩ : ∃ Q, Q = MQ below (va_Qi (S := Unit) (fun r u => (True)) (fun u t => jRt (dC, dI) B base G0 EX14_costOf H0 [] t.heap) (jA base)) ([.ref r0, .ref r1, .int a2] : List Value).toArray s 0 0 (jA base) := ⟨_, rfl⟩
  rw [← hQ]
  have hl := lv_entry ([.ref r0, .ref r1, .int a2]) (n := 3) (Nat.le_of_ble_eq_true rfl)
  rw [lg_entry_eq]
  generalize (lg_sl ([.ref r0, .ref r1, .int a2]) ++ List.replicate (3 - (lg_sl ([.ref r0, .ref r1, .int a2])).length) Slot.unset).toArray = ls at hl ⊢
  have hl : lv_has ls 3 [(0, .ref r0), (1, .ref r1), (2, .int a2)] := hl
  generalize hR : (headSpec (jw yX14_costOf cX14_costOf 3 (some .int)) ({ frames := 5, cells := 0, slots := 0, locals := 114 })).room = R
  subst hH0
  have hh : jSt (dC, dI) B base G0 G0 EX14_costOf s.heap 0 0 [(r1, 14, 6, .ref yb), (r1, 14, 7, .ref ye)] [(yb, 190, 40, ca 1, fb), (ye, 191, 40, ca 1, fe)] [] s.heap [] := jSt.start hX hP0 hM0 jIs.nil
  clear hX hP0
  have hk0 : (0 : Int32).toInt = 0 := by decide
  have hk1 : (1 : Int32).toInt = 1 := by decide
  have hly_14_3 := htw (u_lay RX12 TX12 3) (jWc_wsX120 _ (u_in_lay (by decide)))
  have hly_14_6 := htw (u_lay RX12 TX12 6) (jWc_wsX120 _ (u_in_lay (by decide)))
  have hly_14_7 := htw (u_lay RX12 TX12 7) (jWc_wsX120 _ (u_in_lay (by decide)))
  have hly_14_8 := htw (u_lay RX12 TX12 8) (jWc_wsX120 _ (u_in_lay (by decide)))
  have hly_16_58 := htw (u_lay RX14 TX14 58) (jWc_wsX140 _ (u_in_lay (by decide)))
  have hlk_122 := (htw (.fieldLink RX14 122 "ProofServerModel" "kernel" "LProofServerModel$Kernel;") (jWr_12 _ (List.mem_of_getElem? (i := 13) rfl)))
  have hlk_529 := (va_Nw.use (A := ([.ref r0, .ref r1, .int a2] : List Value).toArray) rfl (hG.2.1 RX14 529 "ProofServerModel$Document" "text" "[I" "ProofServerModel" (List.mem_of_getElem? (i := 1735) (by decide +kernel))))
  have hlk_596 := (va_Nw.use (A := ([.ref r0, .ref r1, .int a2] : List Value).toArray) rfl (hG.2.1 RX14 596 "ProofServerModel$Document" "begin" "[I" "ProofServerModel" (List.mem_of_getElem? (i := 1739) (by decide +kernel))))
  have hlk_594 := (va_Nw.use (A := ([.ref r0, .ref r1, .int a2] : List Value).toArray) rfl (hG.2.1 RX14 594 "ProofServerModel$Document" "end" "[I" "ProofServerModel" (List.mem_of_getElem? (i := 1741) (by decide +kernel))))
  have hlk_599 := (va_Nw.use (A := ([.ref r0, .ref r1, .int a2] : List Value).toArray) rfl (hG.2.1 RX14 599 "ProofServerModel$Document" "flaw" "[I" "ProofServerModel" (List.mem_of_getElem? (i := 1743) (by decide +kernel))))
  have hrg_a2 := jb_rng a2
  obtain ⟨s1, s2, s3, s4⟩ := hp0 a2.toInt (by omega) (by omega)
  refine lv_aload_n hx hb dX14_costOf_0 rfl (lv_at hl 0 rfl) ?_
  obtain ⟨v_1, hv_1, hh_2⟩ := hh.pin (C := RX14) (T := TX14) (N := 74) hB16 rfl (by decide) hg_r0 (i := 58) (by decide) rfl
  clear hh
  obtain ⟨kernel_3, rfl, hg_kernel_3⟩ := hv_1
  refine j7_read hx hb hown hK (C := RX14) (T := TX14) (N := 74) rfl hly_16_58 hlk_122 (hh_2.at 0 rfl) dX14_costOf_1 ?_
  refine va_callv (A0 := jA base) (H0 := s.heap) (va_runV (As := []) (rest := []) ⟨hx, hb, hml, hown, hts⟩ (uX13_beginK l dC dI ca base B hB hAp hB15 G0 s.heap kernel_3) (cwV 0 hts (jgV (jWr_59 _ (List.mem_of_getElem? (i := 10) rfl)) (jWr_59 _ (List.mem_of_getElem? (i := 11) rfl)) (jWr_59 _ (List.mem_of_getElem? (i := 12) rfl)) (jWr_12 _ (List.mem_of_getElem? (i := 12) rfl)) (jWr_59 _ (List.mem_of_getElem? (i := 13) rfl))) rfl rfl rfl (by decide +kernel) ⟨by rw [← hR]; exact Nat.le_of_ble_eq_true rfl, by rw [← hR]; exact Nat.le_of_ble_eq_true rfl⟩) ⟨fun a U g mk q => by obtain ⟨q0, q1, q2, qK, q10, q11, q12⟩ := q; exact ⟨q0, q1, q2, jG.calling g mk a qK, q10, q11, q12⟩, hh_2.recv (C := RX13) (T := TX13) (N := 50) hB15 rfl (by decide) hg_kernel_3 hK, fun U hU hW => ⟨rfl, hU, hh_2.2.1, hG.step hW hU hh_2.1, hg_kernel_3, jP.nil, trivial⟩⟩ rfl rfl hl.1 rfl (lv_room (Nat.le_of_ble_eq_true rfl)) dX14_costOf_4 ⟨Nat.zero_le _, Nat.zero_le _⟩) hh_2.1 (fun q _ h => h) (fun q h => h) (fun u_4 t_4 H_4 locs_4 ht_4 hvm_4 hr_5 hb_4 hz_4 hk_4 hS_4 => ?_)
  obtain ⟨qn_4, qy_4, qf_4, qg_4, qp_4, qc_4, qs_4⟩ := u_4
  rw [ht_4] at hb_4
  obtain ⟨hb_41, hb_42, hb_43, hb_44, hb_45⟩ := hb_4
  have hh_4 : jSt (dC, dI) B base G0 G0 EX14_costOf s.heap 0 0 [(kernel_3, 15, 5, .int qn_4), (kernel_3, 15, 11, .int qy_4), (kernel_3, 15, 15, .int qf_4), (kernel_3, 15, 21, .int qg_4), (kernel_3, 15, 18, .int qp_4), (kernel_3, 15, 10, .int qc_4), (kernel_3, 15, 7, .int qs_4), (r0, 16, 58, .ref kernel_3), (r1, 14, 6, .ref yb), (r1, 14, 7, .ref ye)] [(yb, 190, 40, ca 1, fb), (ye, 191, 40, ca 1, fe)] [] H_4 locs_4 := ((hh_2.call hb_41 hb_42 hb_43 hb_44 hS_4 rfl (L1 := [(r0, 16, 58, .ref kernel_3), (r1, 14, 6, .ref yb), (r1, 14, 7, .ref ye)]) [0, 1, 2] rfl rfl (M1 := [(yb, 190, 40, ca 1, fb), (ye, 191, 40, ca 1, fe)]) [0, 1] rfl rfl (I1 := []) [] rfl rfl).more hb_45)
  clear hh_2 ht_4 hvm_4 hz_4 hk_4 hS_4 hb_41 hb_42 hb_43 hb_44 hb_45
  try simp only at hr_5
  obtain ⟨hr_5_0, hr_5_1, hr_5_2, hr_5_3, hr_5_4, hr_5_5, hr_5_6⟩ := hr_5
  refine lv_aload_n hx hb dX14_costOf_7 rfl (lv_at hl 0 rfl) ?_
  refine j7_read hx hb hown hK (C := RX14) (T := TX14) (N := 74) rfl hly_16_58 hlk_122 (hh_4.at 7 rfl) dX14_costOf_8 ?_
  refine lv_aload_n hx hb dX14_costOf_11 rfl (lv_at hl 1 rfl) ?_
  obtain ⟨v_6, hv_6, hh_7⟩ := hh_4.pin (C := RX12) (T := TX12) (N := 11) hB14 rfl (by decide) hg_r1 (i := 3) (by decide) rfl
  clear hh_4
  obtain ⟨text_8, rfl, hg_text_8⟩ := hv_6
  refine j7_readN hx hb hown hK (C := RX12) (T := TX12) (N := 11) rfl hly_14_3 hlk_529 (hh_7.at 0 rfl) dX14_costOf_12 ?_
  refine lv_aload_n hx hb dX14_costOf_15 rfl (lv_at hl 1 rfl) ?_
  refine j7_readN hx hb hown hK (C := RX12) (T := TX12) (N := 11) rfl hly_14_6 hlk_596 (hh_7.at 9 rfl) dX14_costOf_16 ?_
  refine lv_iload_n hx hb dX14_costOf_19 rfl (lv_at hl 2 rfl) ?_
  refine j7_ialdM hx hb hK hh_7 hB190 1 rfl (by decide) hg_yb (x := a2.toInt) (rfl) (by omega) (j := 0) rfl dX14_costOf_20 (fun z_9 ez_9 (hz_9 : 0 ≤ z_9.toInt ∧ z_9.toInt ≤ 1500) => ?_)
  have hqz_9 : z_9.toInt = jSo fb (a2.toInt) := by unfold jSo; rw [ez_9]
  refine lv_aload_n hx hb dX14_costOf_21 rfl (lv_at hl 1 rfl) ?_
  refine j7_readN hx hb hown hK (C := RX12) (T := TX12) (N := 11) rfl hly_14_7 hlk_594 (hh_7.at 10 rfl) dX14_costOf_22 ?_
  refine lv_iload_n hx hb dX14_costOf_25 rfl (lv_at hl 2 rfl) ?_
  refine j7_ialdM hx hb hK hh_7 hB191 1 rfl (by decide) hg_ye (x := a2.toInt) (rfl) (by omega) (j := 1) rfl dX14_costOf_26 (fun z_10 ez_10 (hz_10 : 0 ≤ z_10.toInt ∧ z_10.toInt ≤ 1500) => ?_)
  have hqz_10 : z_10.toInt = jSo fe (a2.toInt) := by unfold jSo; rw [ez_10]
  refine lv_aload_n hx hb dX14_costOf_27 rfl (lv_at hl 1 rfl) ?_
  obtain ⟨v_11, hv_11, hh_12⟩ := hh_7.pin (C := RX12) (T := TX12) (N := 11) hB14 rfl (by decide) hg_r1 (i := 8) (by decide) rfl
  clear hh_7
  obtain ⟨flaw_13, rfl, hg_flaw_13⟩ := hv_11
  refine j7_readN hx hb hown hK (C := RX12) (T := TX12) (N := 11) rfl hly_14_8 hlk_599 (hh_12.at 0 rfl) dX14_costOf_28 ?_
  refine lv_iload_n hx hb dX14_costOf_31 rfl (lv_at hl 2 rfl) ?_
  refine j7_iald hx hb hK hh_12 hB192 1 rfl (by decide) hg_flaw_13 (x := a2.toInt) (rfl) (by omega) dX14_costOf_32 (fun z_14 (hz_14 : 0 ≤ z_14.toInt ∧ z_14.toInt ≤ 2) => ?_)
  refine va_calli (A0 := jA base) (H0 := s.heap) (va_runV (As := [.ref text_8, .int z_9, .int z_10, .int z_14]) (rest := []) ⟨hx, hb, hml, hown, hts⟩ (uX13_costv9 l dC dI ca base B hB hAp hB15 hB101 hB155 hB156 hB157 hB166 hB167 hB194 G0 H_4 kernel_3 text_8 z_9 z_10 z_14 1500 qc_4 qs_4) (cwV 4 hts (jgV (jWr_91 _ (List.mem_of_getElem? (i := 3) rfl)) (jWr_91 _ (List.mem_of_getElem? (i := 4) rfl)) (jWr_91 _ (List.mem_of_getElem? (i := 5) rfl)) (jWr_12 _ (List.mem_of_getElem? (i := 12) rfl)) (jWr_91 _ (List.mem_of_getElem? (i := 6) rfl))) rfl rfl rfl (by decide +kernel) ⟨by rw [← hR]; exact Nat.le_of_ble_eq_true rfl, by rw [← hR]; exact Nat.le_of_ble_eq_true rfl⟩) ⟨fun a U g mk q => by obtain ⟨q0, q1, q2, qK, q10, q11, q12, q13⟩ := q; exact ⟨q0, q1, q2, jG.calling g mk a qK, q10, q11, q12, q13⟩, hh_12.recv (C := RX13) (T := TX13) (N := 50) hB15 rfl (by decide) hg_kernel_3 hK, fun U hU hW => ⟨rfl, hU, hh_12.2.1, hG.step hW hU hh_12.1, hg_text_8, hg_kernel_3, (hh_12.2.2.1.sub (L1 := [(kernel_3, 15, 10, .int qc_4), (kernel_3, 15, 7, .int qs_4)]) [7, 8] rfl), by first | omega | (refine ⟨?_, ?_, ?_, ?_, ?_, ?_, ?_, ?_⟩ <;> (first | omega | rfl | assumption | decide | exact Or.inl rfl | exact Or.inr rfl | (simp only; omega)))⟩⟩ rfl rfl hl.1 rfl (lv_room (Nat.le_of_ble_eq_true rfl)) dX14_costOf_33 ⟨Nat.zero_le _, Nat.zero_le _⟩) hh_12.1 (fun q _ h => h) (fun q h => h) (fun r_16 u_15 t_15 H_15 locs_15 ht_15 hvm_15 hr_16 hb_15 hz_15 hk_15 hS_15 => ?_)
  rw [ht_15] at hb_15
  obtain ⟨hb_151, hb_152, hb_153, hb_154, hb_155⟩ := hb_15
  have hh_15 : jSt (dC, dI) B base G0 G0 EX14_costOf s.heap 0 0 [(r1, 14, 8, .ref flaw_13), (r1, 14, 3, .ref text_8), (kernel_3, 15, 5, .int qn_4), (kernel_3, 15, 11, .int qy_4), (kernel_3, 15, 15, .int qf_4), (kernel_3, 15, 21, .int qg_4), (kernel_3, 15, 18, .int qp_4), (r0, 16, 58, .ref kernel_3), (r1, 14, 6, .ref yb), (r1, 14, 7, .ref ye)] [(yb, 190, 40, ca 1, fb), (ye, 191, 40, ca 1, fe)] [] H_15 locs_15 := ((hh_12.call hb_151 hb_152 hb_153 hb_154 hS_15 rfl (L1 := [(r1, 14, 8, .ref flaw_13), (r1, 14, 3, .ref text_8), (kernel_3, 15, 5, .int qn_4), (kernel_3, 15, 11, .int qy_4), (kernel_3, 15, 15, .int qf_4), (kernel_3, 15, 21, .int qg_4), (kernel_3, 15, 18, .int qp_4), (r0, 16, 58, .ref kernel_3), (r1, 14, 6, .ref yb), (r1, 14, 7, .ref ye)]) [0, 1, 2, 3, 4, 5, 6, 9, 10, 11] rfl rfl (M1 := [(yb, 190, 40, ca 1, fb), (ye, 191, 40, ca 1, fe)]) [0, 1] rfl rfl (I1 := []) [] rfl rfl).more hb_155)
  clear hh_12 ht_15 hvm_15 hz_15 hk_15 hS_15 hb_151 hb_152 hb_153 hb_154 hb_155
  rw [hQ]
  exact W.iret (v := r_16) hx hb hr (fun t ht hW => ⟨⟨r_16, (), rfl, trivial, hh_15.rt (M1 := []) [] rfl ht⟩, by rw [ht]; try exact hh_15.1.1, fun q h9 hq => by rw [ht]; try exact hh_15.1.2.1 q h9 hq⟩) hh_15.1.2.2 dX14_costOf_36
end
section
-- invariants with a footprint, as a walk carries them: contents of reference arrays, one field of all documents, the sentences of all documents
theorem jIs.cons {D : va_G} {G : jT} {H : Heap} {q : jIv} {L : List jIv} (h : q.2 H ∧ ∀ H1 H2 : Heap, jAg D G q.1 H1 H2 → q.2 H1 → q.2 H2) (h2 : jIs D G H L) : jIs D G H (q :: L) := fun x hx => by
  rcases List.mem_cons.mp hx with e | e
  · subst e; exact h
  · exact h2 x e
theorem jf.uniq {D : va_G} {k a i : Nat} {v w : Value} {H : Heap} (h1 : jf D k a i v H) (h2 : jf D k a i w H) : v = w := by
  obtain ⟨r, -, -, cell, g3, -, -, g6⟩ := h1
  obtain ⟨r2, -, -, cell2, q3, -, -, q6⟩ := h2
  cases g3.symm.trans q3
  exact Option.some.inj (g6.symm.trans q6)
theorem jQc.ie {dC : Nat → ClassId} {dI : Nat → Nat → Nat} {cA : ClassId} {a n k m : Nat} {G : jT} {f : Nat → Option Nat} {H : Heap} (h : jQc dC dI cA a n f H) (ha : G a = some (k, m)) (h1 : 17 ≤ k) (h2 : k < 1000) : (([(k, 0)], jQc dC dI cA a n f) : jIv).2 H ∧ ∀ H1 H2 : Heap, jAg (dC, dI) G (([(k, 0)], jQc dC dI cA a n f) : jIv).1 H1 H2 → (([(k, 0)], jQc dC dI cA a n f) : jIv).2 H1 → (([(k, 0)], jQc dC dI cA a n f) : jIv).2 H2 :=
  ⟨h, fun H1 H2 hA hq => by
    have hq1 : va_at (dC, dI) vwCl (a, .inl (cA, n, .inr (.inr (.inr (.inr f))))) H1 := hq
    exact va_at.kept hq1 (hA.2 a k m ha h1 h2 (by simp))⟩
theorem jVl.ie {dC : Nat → ClassId} {dI : Nat → Nat → Nat} {G : jT} {v : Nat → Int32} {H : Heap} (h : jVl dC dI G 9 v H) : ((jF9, jVl dC dI G 9 v) : jIv).2 H ∧ ∀ H1 H2 : Heap, jAg (dC, dI) G ((jF9, jVl dC dI G 9 v) : jIv).1 H1 H2 → ((jF9, jVl dC dI G 9 v) : jIv).2 H1 → ((jF9, jVl dC dI G 9 v) : jIv).2 H2 :=
  ⟨h, fun H1 H2 hA hq a ha => hA.1 a 14 0 9 _ ha rfl (hq a ha)⟩
theorem jD2.of {dC : Nat → ClassId} {dI : Nat → Nat → Nat} {ca : Nat → ClassId} {G : jT} {a yb ye : Nat} {ps : Int32} {H H1 : Heap} (h : jD2 dC dI ca G a yb ye ps H) (hf : ∀ i v, i = 5 ∨ i = 6 ∨ i = 7 → jf (dC, dI) 14 a i v H → jf (dC, dI) 14 a i v H1) (hb : H1[yb]? = H[yb]?) (he : H1[ye]? = H[ye]?) : jD2 dC dI ca G a yb ye ps H1 := by
  obtain ⟨fb, fe, g1, g2, g3, g4, g5⟩ := h
  refine ⟨fb, fe, g1, g2, fun q hq => ?_, fun q hq => ?_, g5⟩
  · obtain ⟨q1, q2⟩ := g3 q hq
    refine ⟨q1, ?_⟩
    simp only [List.mem_cons, List.not_mem_nil, or_false] at hq
    rcases hq with rfl | rfl | rfl
    · exact hf _ _ (Or.inr (Or.inl rfl)) q2
    · exact hf _ _ (Or.inr (Or.inr rfl)) q2
    · exact hf _ _ (Or.inl rfl) q2
  · obtain ⟨q1, q2, q3, q4⟩ := g4 q hq
    refine ⟨q1, q2, q3, q4.kept ?_⟩
    simp only [List.mem_cons, List.not_mem_nil, or_false] at hq
    rcases hq with rfl | rfl
    · exact hb
    · exact he
theorem jDY.ie {dC : Nat → ClassId} {dI : Nat → Nat → Nat} {ca : Nat → ClassId} {G : jT} {x : Option Nat} {sn : Nat → Int32} {H : Heap} (h : jDY dC dI ca G x sn H) : ((jFs, jDY dC dI ca G x sn) : jIv).2 H ∧ ∀ H1 H2 : Heap, jAg (dC, dI) G ((jFs, jDY dC dI ca G x sn) : jIv).1 H1 H2 → ((jFs, jDY dC dI ca G x sn) : jIv).2 H1 → ((jFs, jDY dC dI ca G x sn) : jIv).2 H2 := by
  refine ⟨h, fun H1 H2 hA hq => ?_⟩
  obtain ⟨Yb, Ye, h1, h2, h3, h4⟩ := hq
  refine ⟨Yb, Ye, fun a ha => ?_, h2, h3, fun a ha hx => ?_⟩
  · obtain ⟨g1, g2, g3, g4⟩ := h1 a ha
    exact ⟨hA.1 a 14 0 6 _ ha rfl g1, hA.1 a 14 0 7 _ ha rfl g2, g3, g4⟩
  · obtain ⟨g1, g2, g3, g4⟩ := h1 a ha
    refine (h4 a ha hx).of (fun i v hi hf => ?_) (hA.2 _ _ _ g3 (by omega) (by omega) rfl) (hA.2 _ _ _ g4 (by omega) (by omega) rfl)
    rcases hi with rfl | rfl | rfl
    · exact hA.1 a 14 0 5 _ ha rfl hf
    · exact hA.1 a 14 0 6 _ ha rfl hf
    · exact hA.1 a 14 0 7 _ ha rfl hf
def jUn (v : Nat → Int32) (a : Nat) (w : Int32) : Nat → Int32 := fun b => if b = a then w else v b
theorem jUn_e (v : Nat → Int32) (a : Nat) (w : Int32) : jUn v a w a = w := by simp [jUn]
theorem jUn_n (v : Nat → Int32) {a b : Nat} (w : Int32) (h : b ≠ a) : jUn v a w b = v b := by simp [jUn, h]
/-- a write to a field of x -/
theorem jDY.fld {dC : Nat → ClassId} {dI : Nat → Nat → Nat} {ca : Nat → ClassId} {G : jT} {sn : Nat → Int32} {H H1 : Heap} {a : Nat} (h : jDY dC dI ca G (some a) sn H) (ha : G a = some (14, 0)) (hfr : ∀ p, p ≠ a → H1[p]? = H[p]?) (hkf : ∀ ib w, ib ≠ 5 → jf (dC, dI) 14 a ib w H → jf (dC, dI) 14 a ib w H1) : jDY dC dI ca G (some a) sn H1 := by
  obtain ⟨Yb, Ye, h1, h2, h3, h4⟩ := h
  refine ⟨Yb, Ye, fun b hb => ?_, h2, h3, fun b hb hx => ?_⟩
  · obtain ⟨g1, g2, g3, g4⟩ := h1 b hb
    by_cases e : b = a
    · subst e; exact ⟨hkf _ _ (by decide) g1, hkf _ _ (by decide) g2, g3, g4⟩
    · exact ⟨g1.kept (hfr b e), g2.kept (hfr b e), g3, g4⟩
  · obtain ⟨g1, g2, g3, g4⟩ := h1 b hb
    have e : b ≠ a := fun q => hx (by rw [q])
    refine (h4 b hb hx).of (fun i v hi hf => hf.kept (hfr b e)) (hfr _ (fun q => ?_)) (hfr _ (fun q => ?_))
    · rw [q, ha] at g3; cases g3
    · rw [q, ha] at g4; cases g4
/-- a write to an array of x -/
theorem jDY.arr {dC : Nat → ClassId} {dI : Nat → Nat → Nat} {ca : Nat → ClassId} {G : jT} {sn : Nat → Int32} {H H1 : Heap} {a y k : Nat} (h : jDY dC dI ca G (some a) sn H) (ha : G a = some (14, 0)) (hy : G y = some (k, 40)) (hk : (k = 190 ∧ jf (dC, dI) 14 a 6 (.ref y) H) ∨ (k = 191 ∧ jf (dC, dI) 14 a 7 (.ref y) H)) (hfr : ∀ p, p ≠ y → H1[p]? = H[p]?) : jDY dC dI ca G (some a) sn H1 := by
  obtain ⟨Yb, Ye, h1, h2, h3, h4⟩ := h
  have hn : ∀ b, G b = some (14, 0) → b ≠ y := fun b hb q => by
    rw [q, hy] at hb
    have := (Prod.mk.inj (Option.some.inj hb)).1
    rcases hk with hk | hk <;> omega
  refine ⟨Yb, Ye, fun b hb => ?_, h2, h3, fun b hb hx => ?_⟩
  · obtain ⟨g1, g2, g3, g4⟩ := h1 b hb
    exact ⟨g1.kept (hfr b (hn b hb)), g2.kept (hfr b (hn b hb)), g3, g4⟩
  · obtain ⟨g1, g2, g3, g4⟩ := h1 b hb
    refine (h4 b hb hx).of (fun i v hi hf => hf.kept (hfr b (hn b hb))) (hfr _ (fun q => ?_)) (hfr _ (fun q => ?_))
    · rcases hk with ⟨k1, k2⟩ | ⟨k1, k2⟩
      · have e1 : Yb a = y := by have := jf.uniq (h1 a ha).1 k2; cases this; rfl
        exact hx (by rw [h2 b a hb ha (q.trans e1.symm)])
      · rw [q, hy] at g3
        have := (Prod.mk.inj (Option.some.inj g3)).1
        omega
    · rcases hk with ⟨k1, k2⟩ | ⟨k1, k2⟩
      · rw [q, hy] at g4
        have := (Prod.mk.inj (Option.some.inj g4)).1
        omega
      · have e1 : Ye a = y := by have := jf.uniq (h1 a ha).2.1 k2; cases this; rfl
        exact hx (by rw [h3 b a hb ha (q.trans e1.symm)])
theorem jVl.put {dC : Nat → ClassId} {dI : Nat → Nat → Nat} {G : jT} {ck : Nat → Int32} {H H1 : Heap} {a : Nat} {w : Int32} (h : jVl dC dI G 9 ck H) (hfr : ∀ p, p ≠ a → H1[p]? = H[p]?) (hn : jf (dC, dI) 14 a 9 (.int w) H1) : jVl dC dI G 9 (jUn ck a w) H1 := fun b hb => by
  by_cases e : b = a
  · subst e; rw [jUn_e]; exact hn
  · rw [jUn_n _ _ e]; exact (h b hb).kept (hfr b e)
/-- the documents of the reference, as they stand between two calls -/
def jDV (dC : Nat → ClassId) (dI : Nat → Nat → Nat) (ca : Nat → ClassId) (G : jT) (r dd co cs ol nw td : Nat) (H : Heap) : Prop := ∃ (sn ck fs : Nat → Int32) (fd fo : Nat → Option Nat) (dc : Int32), jP (dC, dI) G H [(r, 16, 41, .ref dd), (r, 16, 42, .int dc), (r, 16, 60, .ref co), (r, 16, 61, .ref cs), (r, 16, 46, .ref ol), (r, 16, 47, .ref nw), (r, 16, 71, .ref td)] ∧ jMc (dC, dI) G H [(cs, 207, 2, ca 1, fs)] ∧ jIs (dC, dI) G H [(jFs, jDY dC dI ca G none sn), (jF9, jVl dC dI G 9 ck), ([(201, 0)], jQc dC dI (ca 4) dd 3 fd), ([(208, 0)], jQc dC dI (ca 4) co 2 fo)] ∧ jPu sn ck fd fo fs dc.toInt ol nw td
def jRp (G : jT) (k n : Nat) (P : Nat → Prop) : Value → Prop := fun v => v = .null ∨ ∃ x : Nat, v = .ref x ∧ G x = some (k, n) ∧ P x
theorem jPu.take {sn ck fs fs' : Nat → Int32} {fd fo fo' : Nat → Option Nat} {dc : Int} {ol nw td : Nat} {w d x : Nat} (h : jPu sn ck fd fo fs dc ol nw td) (h1 : (d : Int) < dc) (h2 : d < 3) (h3 : fd d = some x) (hv : fo' w = some x) (ho : ∀ j, j < 2 → j ≠ w → fo' j = fo j) (hs : (fs' w).toInt < (sn x).toInt) (hso : ∀ j, j < 2 → j ≠ w → fs' j = fs j) : jPu sn ck fd fo' fs' dc ol nw td := by
  obtain ⟨g0, g1, g2, g3⟩ := h
  refine ⟨g0, g1, g2, fun j hj => ?_⟩
  by_cases e : j = w
  · subst e; exact Or.inr ⟨d, x, h1, h2, h3, hv, hs⟩
  · rw [ho j hj e, hso j hj e]; exact g3 j hj
theorem jPu.drop {sn ck fs : Nat → Int32} {fd fo fo' : Nat → Option Nat} {dc : Int} {ol nw td : Nat} {w : Nat} (h : jPu sn ck fd fo fs dc ol nw td) (hv : fo' w = none) (ho : ∀ j, j < 2 → j ≠ w → fo' j = fo j) : jPu sn ck fd fo' fs dc ol nw td := by
  obtain ⟨g0, g1, g2, g3⟩ := h
  refine ⟨g0, g1, g2, fun j hj => ?_⟩
  by_cases e : j = w
  · subst e; exact Or.inl hv
  · rw [ho j hj e]; exact g3 j hj
theorem jPu.chk {sn ck fs : Nat → Int32} {fd fo : Nat → Option Nat} {dc : Int} {ol nw td : Nat} {x : Nat} {v : Int32} (h : jPu sn ck fd fo fs dc ol nw td) (hv : v.toInt ≤ (sn x).toInt) : jPu sn (jUn ck x v) fd fo fs dc ol nw td := by
  obtain ⟨g0, g1, g2, g3⟩ := h
  refine ⟨g0, g1, fun i a hi ha => ?_, g3⟩
  by_cases e : a = x
  · subst e; rw [jUn_e]; exact hv
  · rw [jUn_n _ _ e]; exact g2 i a hi ha
section J15
variable {p : Program} {l : Launch} {e : Env} {R : Room} {s : State} {m : MethodId} {args : Array Value} {below : List Frame} {meth : Method} {c : Code} {H : Heap} {locs : List Loc} {cells slots : Nat} {Q : State → Prop}
variable {cc : ByteArray} {pc : Nat} {ls : Array Slot} {rest : List Value} {dC : Nat → ClassId} {dI : Nat → Nat → Nat} {ca : Nat → ClassId} {B : jF} {base : Nat} {G0 G : jT} {E : List (Nat × Nat)} {H0 : Heap} {zc zs : Nat} {L : List jPin} {M : List jCt} {I : List jIv} {a k n i N : Nat} {cA : ClassId} {tys : List (ClassId × FieldType)} {C own : String} {T : u_T} {index : Nat}
theorem jSt.addI (hh : jSt (dC, dI) B base G0 G E H0 zc zs L M I H locs) {q : jIv} (h : q.2 H ∧ ∀ H1 H2 : Heap, jAg (dC, dI) G q.1 H1 H2 → q.2 H1 → q.2 H2) : jSt (dC, dI) B base G0 G E H0 zc zs L M (q :: I) H locs := by
  obtain ⟨h1, h2, h3, h4, h5, h6, h7, h8, h9⟩ := hh
  exact ⟨h1, h2, h3, h4, h5, h6, h7, h8, jIs.cons h h9⟩
theorem jSt.addIs (hh : jSt (dC, dI) B base G0 G E H0 zc zs L M I H locs) {I1 : List jIv} (h : jIs (dC, dI) G H I1) : jSt (dC, dI) B base G0 G E H0 zc zs L M (I1 ++ I) H locs := by
  obtain ⟨h1, h2, h3, h4, h5, h6, h7, h8, h9⟩ := hh
  exact ⟨h1, h2, h3, h4, h5, h6, h7, h8, fun q hq => (List.mem_append.mp hq).elim (h q) (h9 q)⟩
/-- a write to a field, with all that stays -/
theorem j7_putNX (hexec : p.tables.exec = Jvm.exec) (hb : c.code = cc) (hown : s.vm.findClass own = some m.cls) (hK : va_K (dC, dI) vwCl tys s) (hh : jSt (dC, dI) B base G0 G E H0 zc zs L M I H locs) (hB : jBok B) (hAp : jAp (dC, dI)) {F : Nat → jT → List (Value → Prop)} (hBk : ∀ n G a H, B k n G a H ↔ jOb (dC, dI) k N (F n G) a H) (hc : vwCl[k]? = some (C, T, N)) (hk : k < 1000) (ha : G a = some (k, n)) (hi : i < N) (hlay : (u_lay C T i).before args s = true) (hfin : (T i).2.2.2 = false) {host : String} (hlink : (Cond.fieldLinkNest own index (T i).1 (T i).2.1 (T i).2.2.1 host).before args s = true) {P : Value → Prop} (hp : (F n G)[i]? = some P) {ty : FieldType} {v : Value} (hd : parseFieldDescriptor (T i).2.2.1 = some ty) (hnar : narrow ty v = v) (hfit : fits ty v = true) (hv : P v) (hE : E.contains (k, i) = true)
    {L1 : List jPin} (is : List Nat) (hs : is.map (fun i => L[i]?) = L1.map some) (hn : L1.all (fun q => !(q.2.1 == k && q.2.2.1 == i)) = true) (hI : I.all (fun q => !(q.1.contains (k, i))) = true) (hdg : decode cc pc = .ok (.putfield index, 3))
    (kk : ∀ (H1 : Heap) (locs1 : List Loc), (∀ q, q ≠ a → H1[q]? = H[q]?) → (∀ ib w, ib ≠ i → jf (dC, dI) k a ib w H → jf (dC, dI) k a ib w H1) → jSt (dC, dI) B base G0 G E H0 zc zs ((a, k, i, v) :: L1) M I H1 locs1 → W p l e R s m args below meth c H1 locs1 cells slots Q (F0 m (pc + 3) ls rest)) : W p l e R s m args below meth c H locs cells slots Q (F0 m pc ls (v :: .ref a :: rest)) := by
  obtain ⟨V, ⟨cell, q1, q2, q3, q4⟩, hV⟩ := (hBk _ _ _ _).mp (hh.2.1.1 a k n ha hk (fun h => by cases h))
  obtain ⟨hS, hfc, kC, hkC, hkind⟩ := hK.1 k _ hc
  obtain ⟨cf, kf, fi, f, hfi, hsl⟩ := hS i hi
  have hst := (u_facts hfc hkC (j7_lay hlay) hfi).1
  unfold u_lay at hlay
  rw [if_neg (by rw [hfin]; decide)] at hlay
  have h6 := u_store hfc hkC hkind hlay hfi hd hnar hfit
  refine va_WputK hexec hb (f := f) hown hlink hfi hst (by rw [q2]; exact h6) q1 q3 (by rw [hsl]; exact k2_hasslot (q4 i hi)) rfl rfl hdg fun H1 e1 e2 e3 => ?_
  rw [hsl] at e1 ⊢
  refine kk H1 _ e3 (fun ib w hne hf => ?_) (hh.fld hB hAp hBk hc hk ha hi hp hv hE is hs hn hI q1 e1 e2 e3 (jTot_set e2 q1 e1 (jSet_sz _ _ _) e3) (fun q hq => ?_))
  · obtain ⟨r, g1, g2, cell2, g3, g4, g5, g6⟩ := hf
    have hr : r = (C, T, N) := Option.some.inj (g1.symm.trans hc)
    subst hr
    cases q1.symm.trans g3
    have hap : ∀ x y, x < N → y < N → x ≠ y → dI k x ≠ dI k y := fun x y hx hy => hAp k _ hc x y hx hy
    have e4 : (cell.setSlot (dI k i) v).slots[dI k ib]? = some (updV V i v ib) := t_set q4 hap hi v ib g2
    have e5 : updV V i v ib = V ib := by simp [updV, hne]
    rw [e5] at e4
    have e6 : V ib = w := Option.some.inj ((q4 ib g2).symm.trans g6)
    exact ⟨_, hc, g2, _, e1, g4, g5, by rw [← e6]; exact e4⟩
  · rcases List.mem_append.mp hq with h | h
    · exact hh.1.2.2 q h
    · cases List.mem_singleton.mp h; exact (hh.ab ha).1
theorem jQc_eq {D : va_G} {a n j : Nat} {cA cB : ClassId} {f g : Nat → Option Nat} {H : Heap} (h1 : va_at D vwCl (a, .inl (cA, n, .inr (.inr (.inr (.inr f))))) H) (h2 : va_at D vwCl (a, .inl (cB, n, .inr (.inr (.inr (.inr g))))) H) (hj : j < n) : f j = g j := by
  have e1 : H[a]? = some (vp_cell cA (n, .inr (.inr (.inr (.inr f))))) := h1
  have e2 : H[a]? = some (vp_cell cB (n, .inr (.inr (.inr (.inr g))))) := h2
  have e := Option.some.inj (e1.symm.trans e2)
  have r1 : (vp_cell cA (n, .inr (.inr (.inr (.inr f))))).slots[j]? = some (va_rf (f j)) := by rw [vp_cell_q, arrV_read _ _ hj]
  have r2 : (vp_cell cB (n, .inr (.inr (.inr (.inr g))))).slots[j]? = some (va_rf (g j)) := by rw [vp_cell_q, arrV_read _ _ hj]
  rw [e, r2] at r1
  have r3 := Option.some.inj r1
  cases hf : f j <;> cases hg : g j <;> rw [hf, hg] at r3 <;> simp [va_rf] at r3 ⊢
  exact r3.symm
/-- reads and writes of a reference array whose contents are known -/
theorem j7_qaldI {P : jT → Option Nat → Prop} (hexec : p.tables.exec = Jvm.exec) (hb : c.code = cc) (hK : va_K (dC, dI) vwCl tys s) (hh : jSt (dC, dI) B base G0 G E H0 zc zs L M I H locs) (hBk : ∀ n G a H, B k n G a H ↔ jAq (dC, dI) cA P n G a H) (t0 : Nat) (ht : tys[t0]? = some (cA, .object C)) (hk : k < 1000) (ha : G a = some (k, n)) {i : Int32} {x : Int} (hi : i.toInt = x) (h12 : 0 ≤ x ∧ x < n) {f : Nat → Option Nat} {cB : ClassId} (hq : jQc dC dI cB a n f H) (hdg : decode cc pc = .ok (.aaload, 1))
    (kk : ∀ o : Option Nat, P G o → o = f x.toNat → W p l e R s m args below meth c H locs cells slots Q (F0 m (pc + 1) ls (va_rf o :: rest))) : W p l e R s m args below meth c H locs cells slots Q (F0 m pc ls (.int i :: .ref a :: rest)) := by
  obtain ⟨h1, h2⟩ := h12
  obtain ⟨f', g1, g2⟩ := hh.aq hBk hk ha
  have hlt := jb_cl_lt hi h1 h2
  exact va_aldq hexec hb hK (jp_one g1) 0 t0 rfl ht (jb_in hi h1 h2) hdg (kk _ (g2 _ hlt) (by rw [← jb_cl hi h1]; exact jQc_eq g1 hq hlt))
theorem j7_qastI {P : jT → Option Nat → Prop} (hexec : p.tables.exec = Jvm.exec) (hb : c.code = cc) (hK : va_K (dC, dI) vwCl tys s) (hh : jSt (dC, dI) B base G0 G E H0 zc zs L M I H locs) (hB : jBok B) (hBk : ∀ n G a H, B k n G a H ↔ jAq (dC, dI) cA P n G a H) (t0 : Nat) (ht : tys[t0]? = some (cA, .object C)) (hk : k < 1000) (hk2 : 17 ≤ k) (hE : E.contains (k, 0) = true) (hM : M.all (fun q => !(q.2.1 == k)) = true) (hI : I.all (fun q => !(q.1.contains (k, 0))) = true) (ha : G a = some (k, n)) {i : Int32} {x : Int} (hi : i.toInt = x) (h12 : 0 ≤ x ∧ x < n)
    {v kv nv N : Nat} {T : u_T} {F : Nat → jT → List (Value → Prop)} (hBv : ∀ n G a H, B kv n G a H ↔ jOb (dC, dI) kv N (F n G) a H) (hc : vwCl[kv]? = some (C, T, N)) (hkv : kv < 1000) (hv : G v = some (kv, nv)) (hP : P G (some v)) {f0 : Nat → Option Nat} {cB : ClassId} (hq0 : jQc dC dI cB a n f0 H) (hdg : decode cc pc = .ok (.aastore, 1))
    (kk : ∀ (H1 : Heap) (locs1 : List Loc) (g : Nat → Option Nat), g x.toNat = (some v) → (∀ j, j < n → j ≠ x.toNat → g j = f0 j) → jQc dC dI cA a n g H1 → jSt (dC, dI) B base G0 G E H0 zc zs L M I H1 locs1 → W p l e R s m args below meth c H1 locs1 cells slots Q (F0 m (pc + 1) ls rest)) : W p l e R s m args below meth c H locs cells slots Q (F0 m pc ls (.ref v :: .int i :: .ref a :: rest)) := by
  obtain ⟨h1, h2⟩ := h12
  obtain ⟨f, g1, g2⟩ := hh.aq hBk hk ha
  obtain ⟨V, ⟨cellV, q1, q2, q3, q4⟩, hV⟩ := (hBv _ _ _ _).mp (hh.2.1.1 v kv nv hv hkv (fun h => by cases h))
  have hlt := jb_cl_lt hi h1 h2
  have hcls := (hK.1 kv _ hc).2
  obtain ⟨kA, comp, k1, k2, k3, -⟩ := (hK.2 t0 _ ht).2
  have hcomp : comp = dC kv := Option.some.inj (k3.symm.trans hcls.1)
  subst hcomp
  obtain ⟨kC, hkC, -⟩ := hcls.2
  refine W.aast hexec hb g1 (fun q h => by cases h) (fun h => by cases h) k1 k2 rfl hkC ⟨jb_n0 hi h1, by show _ < (arrV _ _ _).slots.size; rw [arrV_size]; exact hlt⟩ q1 (fun q h => by rw [q3] at h; cases h) (by rw [q2]; exact hkC) (by rw [q2]; exact va_assign hcls) rfl rfl hdg fun H1 e1 z oq => ?_
  have hat : jQc dC dI cA a n (va_up f i.toNatClampNeg (some v)) H1 := by
    show H1[a]? = some (vp_cell _ _)
    rw [e1]
    rw [vp_cell_q, vp_cell_q, arrV_store]
    congr 2
    funext q
    by_cases hq : q = i.toNatClampNeg
    · subst hq
      simp [updV, va_up, va_rf]
    · simp [updV, va_up, hq]
  refine kk H1 _ (va_up f i.toNatClampNeg (some v)) (by rw [← jb_cl hi h1]; simp [va_up]) (fun j hj hne => ?_) hat (hh.arr hB ha hk hk2 hE hM hI z oq (jTot_set z g1 e1 (jSet_sz _ _ _) oq) (fun q hq => ?_) ((hBk _ _ _ _).mpr ⟨_, hat, jAq_up g2 hP⟩))
  · rw [va_up_ne _ _ (by rw [jb_cl hi h1]; exact hne)]; exact jQc_eq g1 hq0 hj
  · rcases List.mem_append.mp hq with h | h
    · exact hh.1.2.2 q h
    · cases List.mem_singleton.mp h; exact (hh.ab ha).1
theorem j7_qastNI {P : jT → Option Nat → Prop} (hexec : p.tables.exec = Jvm.exec) (hb : c.code = cc) (hK : va_K (dC, dI) vwCl tys s) (hh : jSt (dC, dI) B base G0 G E H0 zc zs L M I H locs) (hB : jBok B) (hBk : ∀ n G a H, B k n G a H ↔ jAq (dC, dI) cA P n G a H) (t0 : Nat) (ht : tys[t0]? = some (cA, .object C)) (hk : k < 1000) (hk2 : 17 ≤ k) (hE : E.contains (k, 0) = true) (hM : M.all (fun q => !(q.2.1 == k)) = true) (hI : I.all (fun q => !(q.1.contains (k, 0))) = true) (ha : G a = some (k, n)) {i : Int32} {x : Int} (hi : i.toInt = x) (h12 : 0 ≤ x ∧ x < n) (hP : P G none) {f0 : Nat → Option Nat} {cB : ClassId} (hq0 : jQc dC dI cB a n f0 H) (hdg : decode cc pc = .ok (.aastore, 1))
    (kk : ∀ (H1 : Heap) (locs1 : List Loc) (g : Nat → Option Nat), g x.toNat = none → (∀ j, j < n → j ≠ x.toNat → g j = f0 j) → jQc dC dI cA a n g H1 → jSt (dC, dI) B base G0 G E H0 zc zs L M I H1 locs1 → W p l e R s m args below meth c H1 locs1 cells slots Q (F0 m (pc + 1) ls rest)) : W p l e R s m args below meth c H locs cells slots Q (F0 m pc ls (.null :: .int i :: .ref a :: rest)) := by
  obtain ⟨h1, h2⟩ := h12
  obtain ⟨f, g1, g2⟩ := hh.aq hBk hk ha
  refine va_WaastN (C := C) hexec hb g1 ((hK.2 t0 _ ht).1 n (fun j => va_rf (f j))) (fun h => by cases h) (by show ¬ (i < 0 ∨ (arrV _ _ _).slots.size ≤ _); rw [arrV_size]; exact jb_in hi h1 h2) rfl rfl hdg fun H1 e1 z oq => ?_
  have hat : jQc dC dI cA a n (va_up f i.toNatClampNeg none) H1 := by
    show H1[a]? = some (vp_cell _ _)
    rw [e1]
    rw [vp_cell_q, vp_cell_q, arrV_store]
    congr 2
    funext q
    by_cases hq : q = i.toNatClampNeg
    · subst hq
      simp [updV, va_up, va_rf]
    · simp [updV, va_up, hq]
  refine kk H1 _ (va_up f i.toNatClampNeg none) (by rw [← jb_cl hi h1]; simp [va_up]) (fun j hj hne => ?_) hat (hh.arr hB ha hk hk2 hE hM hI z oq (jTot_set z g1 e1 (jSet_sz _ _ _) oq) (fun q hq => ?_) ((hBk _ _ _ _).mpr ⟨_, hat, jAq_up g2 hP⟩))
  · rw [va_up_ne _ _ (by rw [jb_cl hi h1]; exact hne)]; exact jQc_eq g1 hq0 hj
  · rcases List.mem_append.mp hq with h | h
    · exact hh.1.2.2 q h
    · cases List.mem_singleton.mp h; exact (hh.ab ha).1
end J15
end
