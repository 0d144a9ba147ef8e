def RX0 : String := "ProofServer$Bytes"
abbrev cX0_isHigh : ByteArray := prog_2_method_8_code
def yX0_isHigh : MethodName := ⟨RX0, "isHigh", "(I)Z"⟩
def wsX0_isHigh : List Cond := .code yX0_isHigh cX0_isHigh 1 (some .boolean) :: ([.constant RX0 61 (55296), .constant RX0 62 (56320)])
theorem dX0_isHigh_0 : decode cX0_isHigh 0 = .ok (.iload_n 0, 1) := by decide +kernel
theorem dX0_isHigh_1 : decode cX0_isHigh 1 = .ok (.ldc 61, 2) := by decide +kernel
theorem dX0_isHigh_3 : decode cX0_isHigh 3 = .ok (.if_icmp .lt 13, 3) := by decide +kernel
theorem dX0_isHigh_6 : decode cX0_isHigh 6 = .ok (.iload_n 0, 1) := by decide +kernel
theorem dX0_isHigh_7 : decode cX0_isHigh 7 = .ok (.ldc 62, 2) := by decide +kernel
theorem dX0_isHigh_9 : decode cX0_isHigh 9 = .ok (.if_icmp .ge 7, 3) := by decide +kernel
theorem dX0_isHigh_12 : decode cX0_isHigh 12 = .ok (.iconst 1, 1) := by decide +kernel
theorem dX0_isHigh_13 : decode cX0_isHigh 13 = .ok (.goto 4, 3) := by decide +kernel
theorem dX0_isHigh_16 : decode cX0_isHigh 16 = .ok (.iconst 0, 1) := by decide +kernel
theorem dX0_isHigh_17 : decode cX0_isHigh 17 = .ok (.ireturn, 1) := by decide +kernel
set_option maxHeartbeats 4000000 in
theorem kX0_isHigh (l : Launch) (a0 : Int32) : Met l yX0_isHigh wsX0_isHigh ({ frames := 0, cells := 0, slots := 0, locals := 0 }) (va_Pc [.int a0] (fun _ => True)) (vp_Si (fun r => r = 0 ∨ r = 1)) 0 0 (fun _ => False) := by
  refine Met.ofW (cc := cX0_isHigh) (maxL := 1) (ret := (some .boolean)) (by decide) rfl ?_
  intro p e s m args below meth c s₁ B hml hv
  obtain ⟨rfl, hpre⟩ := hv
  have hx := B.exec
  have hb := B.bytes
  have hr := B.returns
  have hts := atoms_spec (ws := wsX0_isHigh) B.pre
  have hown : s.vm.findClass RX0 = some m.cls := findClass_of_methodNamed B.named
  have hlocks := B.notSynchronized
  have hl := lv_entry ([.int a0]) (n := 1) (Nat.le_of_ble_eq_true rfl)
  rw [lg_entry_eq]
  generalize (lg_sl ([.int a0]) ++ List.replicate (1 - (lg_sl ([.int a0])).length) Slot.unset).toArray = ls at hl ⊢
  have hl : lv_has ls 1 [(0, .int a0)] := hl
  refine lv_iload_n hx hb dX0_isHigh_0 rfl (lv_at hl 0 rfl) ?_
  refine lv_ldc hx hb hown (hts (.constant RX0 61 55296) (by decide +kernel)) dX0_isHigh_1 ?_
  refine lv_icmp_lt (tgt := 16) hx hb dX0_isHigh_3 (by decide) (fun c3 => ?_) (fun c3 => ?_)
  · refine lv_iconst (v := 0) hx hb dX0_isHigh_16 (by decide) ?_
    exact W.zret (v := 0) hx hb hr rfl (fun t ht hW => ⟨0, rfl, Or.inl rfl, ht⟩) (fun _ h => nomatch h) dX0_isHigh_17
  · refine lv_iload_n hx hb dX0_isHigh_6 rfl (lv_at hl 0 rfl) ?_
    refine lv_ldc hx hb hown (hts (.constant RX0 62 56320) (by decide +kernel)) dX0_isHigh_7 ?_
    refine lv_icmp_ge (tgt := 16) hx hb dX0_isHigh_9 (by decide) (fun c9 => ?_) (fun c9 => ?_)
    · refine lv_iconst (v := 0) hx hb dX0_isHigh_16 (by decide) ?_
      exact W.zret (v := 0) hx hb hr rfl (fun t ht hW => ⟨0, rfl, Or.inl rfl, ht⟩) (fun _ h => nomatch h) dX0_isHigh_17
    · refine lv_iconst (v := 1) hx hb dX0_isHigh_12 (by decide) ?_
      refine lv_goto (tgt := 17) hx hb dX0_isHigh_13 (by decide) ?_
      exact W.zret (v := 1) hx hb hr rfl (fun t ht hW => ⟨1, rfl, Or.inr rfl, ht⟩) (fun _ h => nomatch h) dX0_isHigh_17
