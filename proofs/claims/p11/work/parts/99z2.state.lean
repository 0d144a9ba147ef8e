def jQg (G : jT) : Option Nat → Prop := fun o => ∃ x m, o = some x ∧ G x = some (5, m) ∧ m % 10 = 1
def jGv (n : Nat) (G : jT) : Value → Prop := fun v => ∃ (x j : Nat), v = .ref x ∧ G x = some (101, j) ∧ j ≤ 7 ∧ (n % 10 = 1 → j ≤ 6) ∧ (n % 10 = 2 → 6 < j)
def jGn (n : Nat) (G : jT) : Value → Prop := fun v => ∃ x : Nat, v = .ref x ∧ G x = some (101, n / 10)
def jGh (n : Nat) (G : jT) : Value → Prop := fun v => ∃ (x k : Nat), v = .ref x ∧ G x = some (k, n / 10) ∧ n / 10 ≤ 9 ∧ (n % 10 ≠ 4 → k = 313) ∧ (n % 10 = 4 → k = 315) ∧ (n % 10 = 1 → n / 10 ≤ 8) ∧ (n % 10 = 3 → 8 < n / 10)
def jGfo (n : Nat) (G : jT) : Value → Prop := fun v => (v = .null ∧ n % 10 = 0) ∨ ∃ (x j : Nat), v = .ref x ∧ G x = some (280, j) ∧ j ≤ 80 ∧ n % 10 ≠ 0 ∧ n % 10 ≤ 4
theorem jSz {G : jT} {a k n m : Nat} (h : G a = some (k, n)) (e : n = m) : G a = some (k, m) := e ▸ h
def F5 (n : Nat) (G : jT) : List (Value → Prop) := [jGv n G, jGn n G, jGh n G, jGfo n G]
def F11 (n : Nat) (G : jT) : List (Value → Prop) := [jRn G 11 0, jRk G 101 1500, jIa, jRk G 101 16, jRk G 101 16, jRk G 313 16, jIa, jRk G 280 80, jRk G 214 6]
def F10 (n : Nat) (G : jT) : List (Value → Prop) := [jRn G 2 0, jRn G 3 0, jIa, jZb, jIa]
theorem dX1_stateBehind_0 : decode cX1_stateBehind 0 = .ok (.iload_n 1, 1) := by decide +kernel
theorem dX1_stateBehind_1 : decode cX1_stateBehind 1 = .ok (.iconst 1, 1) := by decide +kernel
theorem dX1_stateBehind_2 : decode cX1_stateBehind 2 = .ok (.if_icmp .lt 20, 3) := by decide +kernel
theorem dX1_stateBehind_5 : decode cX1_stateBehind 5 = .ok (.iload_n 1, 1) := by decide +kernel
theorem dX1_stateBehind_6 : decode cX1_stateBehind 6 = .ok (.bipush 40, 2) := by decide +kernel
theorem dX1_stateBehind_8 : decode cX1_stateBehind 8 = .ok (.if_icmp .gt 14, 3) := by decide +kernel
theorem dX1_stateBehind_11 : decode cX1_stateBehind 11 = .ok (.aload_n 0, 1) := by decide +kernel
theorem dX1_stateBehind_12 : decode cX1_stateBehind 12 = .ok (.getfield 32, 3) := by decide +kernel
theorem dX1_stateBehind_15 : decode cX1_stateBehind 15 = .ok (.iload_n 1, 1) := by decide +kernel
theorem dX1_stateBehind_16 : decode cX1_stateBehind 16 = .ok (.iconst 1, 1) := by decide +kernel
theorem dX1_stateBehind_17 : decode cX1_stateBehind 17 = .ok (.isub, 1) := by decide +kernel
theorem dX1_stateBehind_18 : decode cX1_stateBehind 18 = .ok (.aaload, 1) := by decide +kernel
theorem dX1_stateBehind_19 : decode cX1_stateBehind 19 = .ok (.ifnonnull 7, 3) := by decide +kernel
theorem dX1_stateBehind_22 : decode cX1_stateBehind 22 = .ok (.aload_n 2, 1) := by decide +kernel
theorem dX1_stateBehind_23 : decode cX1_stateBehind 23 = .ok (.goto 11, 3) := by decide +kernel
theorem dX1_stateBehind_26 : decode cX1_stateBehind 26 = .ok (.aload_n 0, 1) := by decide +kernel
theorem dX1_stateBehind_27 : decode cX1_stateBehind 27 = .ok (.getfield 32, 3) := by decide +kernel
theorem dX1_stateBehind_30 : decode cX1_stateBehind 30 = .ok (.iload_n 1, 1) := by decide +kernel
theorem dX1_stateBehind_31 : decode cX1_stateBehind 31 = .ok (.iconst 1, 1) := by decide +kernel
theorem dX1_stateBehind_32 : decode cX1_stateBehind 32 = .ok (.isub, 1) := by decide +kernel
theorem dX1_stateBehind_33 : decode cX1_stateBehind 33 = .ok (.aaload, 1) := by decide +kernel
theorem dX1_stateBehind_34 : decode cX1_stateBehind 34 = .ok (.areturn, 1) := by decide +kernel
theorem dX1_addChecked_0 : decode cX1_addChecked 0 = .ok (.aload_n 0, 1) := by decide +kernel
theorem dX1_addChecked_1 : decode cX1_addChecked 1 = .ok (.getfield 72, 3) := by decide +kernel
theorem dX1_addChecked_4 : decode cX1_addChecked 4 = .ok (.aload_n 0, 1) := by decide +kernel
theorem dX1_addChecked_5 : decode cX1_addChecked 5 = .ok (.getfield 69, 3) := by decide +kernel
theorem dX1_addChecked_8 : decode cX1_addChecked 8 = .ok (.if_icmp .ge 23, 3) := by decide +kernel
theorem dX1_addChecked_11 : decode cX1_addChecked 11 = .ok (.aload_n 0, 1) := by decide +kernel
theorem dX1_addChecked_12 : decode cX1_addChecked 12 = .ok (.getfield 32, 3) := by decide +kernel
theorem dX1_addChecked_15 : decode cX1_addChecked 15 = .ok (.aload_n 0, 1) := by decide +kernel
theorem dX1_addChecked_16 : decode cX1_addChecked 16 = .ok (.getfield 72, 3) := by decide +kernel
theorem dX1_addChecked_19 : decode cX1_addChecked 19 = .ok (.aload_n 1, 1) := by decide +kernel
theorem dX1_addChecked_20 : decode cX1_addChecked 20 = .ok (.aastore, 1) := by decide +kernel
theorem dX1_addChecked_21 : decode cX1_addChecked 21 = .ok (.aload_n 0, 1) := by decide +kernel
theorem dX1_addChecked_22 : decode cX1_addChecked 22 = .ok (.dup, 1) := by decide +kernel
theorem dX1_addChecked_23 : decode cX1_addChecked 23 = .ok (.getfield 72, 3) := by decide +kernel
theorem dX1_addChecked_26 : decode cX1_addChecked 26 = .ok (.iconst 1, 1) := by decide +kernel
theorem dX1_addChecked_27 : decode cX1_addChecked 27 = .ok (.iadd, 1) := by decide +kernel
theorem dX1_addChecked_28 : decode cX1_addChecked 28 = .ok (.putfield 72, 3) := by decide +kernel
theorem dX1_addChecked_31 : decode cX1_addChecked 31 = .ok (.return_, 1) := by decide +kernel
theorem dX1_keepChecked_0 : decode cX1_keepChecked 0 = .ok (.iconst 0, 1) := by decide +kernel
theorem dX1_keepChecked_1 : decode cX1_keepChecked 1 = .ok (.istore_n 1, 1) := by decide +kernel
theorem dX1_keepChecked_2 : decode cX1_keepChecked 2 = .ok (.iload_n 1, 1) := by decide +kernel
theorem dX1_keepChecked_3 : decode cX1_keepChecked 3 = .ok (.aload_n 0, 1) := by decide +kernel
theorem dX1_keepChecked_4 : decode cX1_keepChecked 4 = .ok (.getfield 72, 3) := by decide +kernel
theorem dX1_keepChecked_7 : decode cX1_keepChecked 7 = .ok (.if_icmp .ge 35, 3) := by decide +kernel
theorem dX1_keepChecked_10 : decode cX1_keepChecked 10 = .ok (.aload_n 0, 1) := by decide +kernel
theorem dX1_keepChecked_11 : decode cX1_keepChecked 11 = .ok (.getfield 32, 3) := by decide +kernel
theorem dX1_keepChecked_14 : decode cX1_keepChecked 14 = .ok (.iload_n 1, 1) := by decide +kernel
theorem dX1_keepChecked_15 : decode cX1_keepChecked 15 = .ok (.aaload, 1) := by decide +kernel
theorem dX1_keepChecked_16 : decode cX1_keepChecked 16 = .ok (.ifnull 26, 3) := by decide +kernel
theorem dX1_keepChecked_19 : decode cX1_keepChecked 19 = .ok (.aload_n 0, 1) := by decide +kernel
theorem dX1_keepChecked_20 : decode cX1_keepChecked 20 = .ok (.iload_n 1, 1) := by decide +kernel
theorem dX1_keepChecked_21 : decode cX1_keepChecked 21 = .ok (.aload_n 0, 1) := by decide +kernel
theorem dX1_keepChecked_22 : decode cX1_keepChecked 22 = .ok (.getfield 32, 3) := by decide +kernel
theorem dX1_keepChecked_25 : decode cX1_keepChecked 25 = .ok (.iload_n 1, 1) := by decide +kernel
theorem dX1_keepChecked_26 : decode cX1_keepChecked 26 = .ok (.aaload, 1) := by decide +kernel
theorem dX1_keepChecked_27 : decode cX1_keepChecked 27 = .ok (.getfield 98, 3) := by decide +kernel
theorem dX1_keepChecked_30 : decode cX1_keepChecked 30 = .ok (.invokevirtual 101, 3) := by decide +kernel
theorem dX1_keepChecked_33 : decode cX1_keepChecked 33 = .ok (.ifCond .eq 9, 3) := by decide +kernel
theorem dX1_keepChecked_36 : decode cX1_keepChecked 36 = .ok (.iinc 1 1, 3) := by decide +kernel
theorem dX1_keepChecked_39 : decode cX1_keepChecked 39 = .ok (.goto (-37), 3) := by decide +kernel
theorem dX1_keepChecked_42 : decode cX1_keepChecked 42 = .ok (.iload_n 1, 1) := by decide +kernel
theorem dX1_keepChecked_43 : decode cX1_keepChecked 43 = .ok (.aload_n 0, 1) := by decide +kernel
theorem dX1_keepChecked_44 : decode cX1_keepChecked 44 = .ok (.getfield 72, 3) := by decide +kernel
theorem dX1_keepChecked_47 : decode cX1_keepChecked 47 = .ok (.if_icmp .ne 26, 3) := by decide +kernel
theorem dX1_keepChecked_50 : decode cX1_keepChecked 50 = .ok (.aload_n 0, 1) := by decide +kernel
theorem dX1_keepChecked_51 : decode cX1_keepChecked 51 = .ok (.getfield 105, 3) := by decide +kernel
theorem dX1_keepChecked_54 : decode cX1_keepChecked 54 = .ok (.ifnull 19, 3) := by decide +kernel
theorem dX1_keepChecked_57 : decode cX1_keepChecked 57 = .ok (.aload_n 0, 1) := by decide +kernel
theorem dX1_keepChecked_58 : decode cX1_keepChecked 58 = .ok (.iload_n 1, 1) := by decide +kernel
theorem dX1_keepChecked_59 : decode cX1_keepChecked 59 = .ok (.aload_n 0, 1) := by decide +kernel
theorem dX1_keepChecked_60 : decode cX1_keepChecked 60 = .ok (.getfield 105, 3) := by decide +kernel
theorem dX1_keepChecked_63 : decode cX1_keepChecked 63 = .ok (.invokevirtual 101, 3) := by decide +kernel
theorem dX1_keepChecked_66 : decode cX1_keepChecked 66 = .ok (.ifCond .eq 7, 3) := by decide +kernel
theorem dX1_keepChecked_69 : decode cX1_keepChecked 69 = .ok (.iconst 1, 1) := by decide +kernel
theorem dX1_keepChecked_70 : decode cX1_keepChecked 70 = .ok (.goto 4, 3) := by decide +kernel
theorem dX1_keepChecked_73 : decode cX1_keepChecked 73 = .ok (.iconst 0, 1) := by decide +kernel
theorem dX1_keepChecked_74 : decode cX1_keepChecked 74 = .ok (.istore_n 2, 1) := by decide +kernel
theorem dX1_keepChecked_75 : decode cX1_keepChecked 75 = .ok (.aload_n 0, 1) := by decide +kernel
theorem dX1_keepChecked_76 : decode cX1_keepChecked 76 = .ok (.iload_n 1, 1) := by decide +kernel
theorem dX1_keepChecked_77 : decode cX1_keepChecked 77 = .ok (.putfield 72, 3) := by decide +kernel
theorem dX1_keepChecked_80 : decode cX1_keepChecked 80 = .ok (.iload_n 2, 1) := by decide +kernel
theorem dX1_keepChecked_81 : decode cX1_keepChecked 81 = .ok (.ireturn, 1) := by decide +kernel
theorem dX8_isReady_0 : decode cX8_isReady 0 = .ok (.aload_n 0, 1) := by decide +kernel
theorem dX8_isReady_1 : decode cX8_isReady 1 = .ok (.getfield 47, 3) := by decide +kernel
theorem dX8_isReady_4 : decode cX8_isReady 4 = .ok (.ifnull 17, 3) := by decide +kernel
theorem dX8_isReady_7 : decode cX8_isReady 7 = .ok (.aload_n 0, 1) := by decide +kernel
theorem dX8_isReady_8 : decode cX8_isReady 8 = .ok (.getfield 47, 3) := by decide +kernel
theorem dX8_isReady_11 : decode cX8_isReady 11 = .ok (.getfield 51, 3) := by decide +kernel
theorem dX8_isReady_14 : decode cX8_isReady 14 = .ok (.aload_n 0, 1) := by decide +kernel
theorem dX8_isReady_15 : decode cX8_isReady 15 = .ok (.getfield 56, 3) := by decide +kernel
theorem dX8_isReady_18 : decode cX8_isReady 18 = .ok (.if_icmp .lt 7, 3) := by decide +kernel
theorem dX8_isReady_21 : decode cX8_isReady 21 = .ok (.iconst 1, 1) := by decide +kernel
theorem dX8_isReady_22 : decode cX8_isReady 22 = .ok (.goto 4, 3) := by decide +kernel
theorem dX8_isReady_25 : decode cX8_isReady 25 = .ok (.iconst 0, 1) := by decide +kernel
theorem dX8_isReady_26 : decode cX8_isReady 26 = .ok (.ireturn, 1) := by decide +kernel
theorem dX9_isSameRow_0 : decode cX9_isSameRow 0 = .ok (.aload_n 0, 1) := by decide +kernel
theorem dX9_isSameRow_1 : decode cX9_isSameRow 1 = .ok (.astore_n 2, 1) := by decide +kernel
theorem dX9_isSameRow_2 : decode cX9_isSameRow 2 = .ok (.aload_n 1, 1) := by decide +kernel
theorem dX9_isSameRow_3 : decode cX9_isSameRow 3 = .ok (.astore_n 3, 1) := by decide +kernel
theorem dX9_isSameRow_4 : decode cX9_isSameRow 4 = .ok (.iconst 0, 1) := by decide +kernel
theorem dX9_isSameRow_5 : decode cX9_isSameRow 5 = .ok (.istore 4, 2) := by decide +kernel
theorem dX9_isSameRow_7 : decode cX9_isSameRow 7 = .ok (.iload 4, 2) := by decide +kernel
theorem dX9_isSameRow_9 : decode cX9_isSameRow 9 = .ok (.bipush 41, 2) := by decide +kernel
theorem dX9_isSameRow_11 : decode cX9_isSameRow 11 = .ok (.if_icmp .gt 87, 3) := by decide +kernel
theorem dX9_isSameRow_14 : decode cX9_isSameRow 14 = .ok (.aload_n 2, 1) := by decide +kernel
theorem dX9_isSameRow_15 : decode cX9_isSameRow 15 = .ok (.aload_n 3, 1) := by decide +kernel
theorem dX9_isSameRow_16 : decode cX9_isSameRow 16 = .ok (.if_acmp .ne 5, 3) := by decide +kernel
theorem dX9_isSameRow_19 : decode cX9_isSameRow 19 = .ok (.iconst 1, 1) := by decide +kernel
theorem dX9_isSameRow_20 : decode cX9_isSameRow 20 = .ok (.ireturn, 1) := by decide +kernel
theorem dX9_isSameRow_21 : decode cX9_isSameRow 21 = .ok (.aload_n 2, 1) := by decide +kernel
theorem dX9_isSameRow_22 : decode cX9_isSameRow 22 = .ok (.ifnull 20, 3) := by decide +kernel
theorem dX9_isSameRow_25 : decode cX9_isSameRow 25 = .ok (.aload_n 3, 1) := by decide +kernel
theorem dX9_isSameRow_26 : decode cX9_isSameRow 26 = .ok (.ifnull 16, 3) := by decide +kernel
theorem dX9_isSameRow_29 : decode cX9_isSameRow 29 = .ok (.aload_n 2, 1) := by decide +kernel
theorem dX9_isSameRow_30 : decode cX9_isSameRow 30 = .ok (.getfield 40, 3) := by decide +kernel
theorem dX9_isSameRow_33 : decode cX9_isSameRow 33 = .ok (.arraylength, 1) := by decide +kernel
theorem dX9_isSameRow_34 : decode cX9_isSameRow 34 = .ok (.aload_n 3, 1) := by decide +kernel
theorem dX9_isSameRow_35 : decode cX9_isSameRow 35 = .ok (.getfield 40, 3) := by decide +kernel
theorem dX9_isSameRow_38 : decode cX9_isSameRow 38 = .ok (.arraylength, 1) := by decide +kernel
theorem dX9_isSameRow_39 : decode cX9_isSameRow 39 = .ok (.if_icmp .eq 5, 3) := by decide +kernel
theorem dX9_isSameRow_42 : decode cX9_isSameRow 42 = .ok (.iconst 0, 1) := by decide +kernel
theorem dX9_isSameRow_43 : decode cX9_isSameRow 43 = .ok (.ireturn, 1) := by decide +kernel
theorem dX9_isSameRow_44 : decode cX9_isSameRow 44 = .ok (.iconst 0, 1) := by decide +kernel
theorem dX9_isSameRow_45 : decode cX9_isSameRow 45 = .ok (.istore 5, 2) := by decide +kernel
theorem dX9_isSameRow_47 : decode cX9_isSameRow 47 = .ok (.iload 5, 2) := by decide +kernel
theorem dX9_isSameRow_49 : decode cX9_isSameRow 49 = .ok (.aload_n 2, 1) := by decide +kernel
theorem dX9_isSameRow_50 : decode cX9_isSameRow 50 = .ok (.getfield 40, 3) := by decide +kernel
theorem dX9_isSameRow_53 : decode cX9_isSameRow 53 = .ok (.arraylength, 1) := by decide +kernel
theorem dX9_isSameRow_54 : decode cX9_isSameRow 54 = .ok (.if_icmp .ge 28, 3) := by decide +kernel
theorem dX9_isSameRow_57 : decode cX9_isSameRow 57 = .ok (.aload_n 2, 1) := by decide +kernel
theorem dX9_isSameRow_58 : decode cX9_isSameRow 58 = .ok (.getfield 40, 3) := by decide +kernel
theorem dX9_isSameRow_61 : decode cX9_isSameRow 61 = .ok (.iload 5, 2) := by decide +kernel
theorem dX9_isSameRow_63 : decode cX9_isSameRow 63 = .ok (.iaload, 1) := by decide +kernel
theorem dX9_isSameRow_64 : decode cX9_isSameRow 64 = .ok (.aload_n 3, 1) := by decide +kernel
theorem dX9_isSameRow_65 : decode cX9_isSameRow 65 = .ok (.getfield 40, 3) := by decide +kernel
theorem dX9_isSameRow_68 : decode cX9_isSameRow 68 = .ok (.iload 5, 2) := by decide +kernel
theorem dX9_isSameRow_70 : decode cX9_isSameRow 70 = .ok (.iaload, 1) := by decide +kernel
theorem dX9_isSameRow_71 : decode cX9_isSameRow 71 = .ok (.if_icmp .eq 5, 3) := by decide +kernel
theorem dX9_isSameRow_74 : decode cX9_isSameRow 74 = .ok (.iconst 0, 1) := by decide +kernel
theorem dX9_isSameRow_75 : decode cX9_isSameRow 75 = .ok (.ireturn, 1) := by decide +kernel
theorem dX9_isSameRow_76 : decode cX9_isSameRow 76 = .ok (.iinc 5 1, 3) := by decide +kernel
theorem dX9_isSameRow_79 : decode cX9_isSameRow 79 = .ok (.goto (-32), 3) := by decide +kernel
theorem dX9_isSameRow_82 : decode cX9_isSameRow 82 = .ok (.aload_n 2, 1) := by decide +kernel
theorem dX9_isSameRow_83 : decode cX9_isSameRow 83 = .ok (.getfield 36, 3) := by decide +kernel
theorem dX9_isSameRow_86 : decode cX9_isSameRow 86 = .ok (.astore_n 2, 1) := by decide +kernel
theorem dX9_isSameRow_87 : decode cX9_isSameRow 87 = .ok (.aload_n 3, 1) := by decide +kernel
theorem dX9_isSameRow_88 : decode cX9_isSameRow 88 = .ok (.getfield 36, 3) := by decide +kernel
theorem dX9_isSameRow_91 : decode cX9_isSameRow 91 = .ok (.astore_n 3, 1) := by decide +kernel
theorem dX9_isSameRow_92 : decode cX9_isSameRow 92 = .ok (.iinc 4 1, 3) := by decide +kernel
theorem dX9_isSameRow_95 : decode cX9_isSameRow 95 = .ok (.goto (-88), 3) := by decide +kernel
theorem dX9_isSameRow_98 : decode cX9_isSameRow 98 = .ok (.iconst 0, 1) := by decide +kernel
theorem dX9_isSameRow_99 : decode cX9_isSameRow 99 = .ok (.ireturn, 1) := by decide +kernel
theorem dX9_symbolOf_0 : decode cX9_symbolOf 0 = .ok (.iconst 0, 1) := by decide +kernel
theorem dX9_symbolOf_1 : decode cX9_symbolOf 1 = .ok (.istore_n 2, 1) := by decide +kernel
theorem dX9_symbolOf_2 : decode cX9_symbolOf 2 = .ok (.iload_n 2, 1) := by decide +kernel
theorem dX9_symbolOf_3 : decode cX9_symbolOf 3 = .ok (.aload_n 0, 1) := by decide +kernel
theorem dX9_symbolOf_4 : decode cX9_symbolOf 4 = .ok (.getfield 9, 3) := by decide +kernel
theorem dX9_symbolOf_7 : decode cX9_symbolOf 7 = .ok (.arraylength, 1) := by decide +kernel
theorem dX9_symbolOf_8 : decode cX9_symbolOf 8 = .ok (.if_icmp .ge 29, 3) := by decide +kernel
theorem dX9_symbolOf_11 : decode cX9_symbolOf 11 = .ok (.aload_n 0, 1) := by decide +kernel
theorem dX9_symbolOf_12 : decode cX9_symbolOf 12 = .ok (.getfield 9, 3) := by decide +kernel
theorem dX9_symbolOf_15 : decode cX9_symbolOf 15 = .ok (.iload_n 2, 1) := by decide +kernel
theorem dX9_symbolOf_16 : decode cX9_symbolOf 16 = .ok (.iaload, 1) := by decide +kernel
theorem dX9_symbolOf_17 : decode cX9_symbolOf 17 = .ok (.bipush 15, 2) := by decide +kernel
theorem dX9_symbolOf_19 : decode cX9_symbolOf 19 = .ok (.ishr, 1) := by decide +kernel
theorem dX9_symbolOf_20 : decode cX9_symbolOf 20 = .ok (.iload_n 1, 1) := by decide +kernel
theorem dX9_symbolOf_21 : decode cX9_symbolOf 21 = .ok (.if_icmp .ne 10, 3) := by decide +kernel
theorem dX9_symbolOf_24 : decode cX9_symbolOf 24 = .ok (.aload_n 0, 1) := by decide +kernel
theorem dX9_symbolOf_25 : decode cX9_symbolOf 25 = .ok (.getfield 9, 3) := by decide +kernel
theorem dX9_symbolOf_28 : decode cX9_symbolOf 28 = .ok (.iload_n 2, 1) := by decide +kernel
theorem dX9_symbolOf_29 : decode cX9_symbolOf 29 = .ok (.iaload, 1) := by decide +kernel
theorem dX9_symbolOf_30 : decode cX9_symbolOf 30 = .ok (.ireturn, 1) := by decide +kernel
theorem dX9_symbolOf_31 : decode cX9_symbolOf 31 = .ok (.iinc 2 1, 3) := by decide +kernel
theorem dX9_symbolOf_34 : decode cX9_symbolOf 34 = .ok (.goto (-32), 3) := by decide +kernel
theorem dX9_symbolOf_37 : decode cX9_symbolOf 37 = .ok (.iconst (-1), 1) := by decide +kernel
theorem dX9_symbolOf_38 : decode cX9_symbolOf 38 = .ok (.ireturn, 1) := by decide +kernel
def EX9_symbolOf : List (Nat × Nat) := []
def EX9_isSameRow : List (Nat × Nat) := []
def EX9_isSameRowZ : List (Nat × Nat) := []
def EX1_stateBehind : List (Nat × Nat) := []
def EX1_addChecked : List (Nat × Nat) := [(3, 10), (210, 0)]
def EX1_keepChecked : List (Nat × Nat) := [(3, 10)]
def EX8_isReady : List (Nat × Nat) := []
set_option maxHeartbeats 4000000 in
set_option maxRecDepth 20000 in
theorem uX9_symbolOf (l : Launch) (dC : Nat → ClassId) (dI : Nat → Nat → Nat) (ca : Nat → ClassId) (base : Nat) (B : jF) (hB : jBok B) (hAp : jAp (dC, dI)) (hB11 : ∀ n G a H, B 11 n G a H ↔ jOb (dC, dI) 11 9 (F11 n G) a H) (hB101 : ∀ n G a H, B 101 n G a H ↔ jAr (dC, dI) (ca 1) (fun j z => True) n a H) (G0 : jT) (H0 : Heap) (r0 : Nat) (a1 : Int32) : Met l yX9_symbolOf (jw yX9_symbolOf cX9_symbolOf 3 (some .int)) ({ frames := 0, cells := 0, slots := 0, locals := 0 }) (va_Pc [.ref r0, .int a1] (fun U => U.heap = H0 ∧ jX B base G0 [] H0 ∧ jG dC dI ca base U ∧ G0 r0 = some (11, 0) ∧ jP (dC, dI) G0 H0 [] ∧ True)) (va_Qi (S := Unit) (fun r u => (True)) (fun u t => jRt (dC, dI) B base G0 EX9_symbolOf H0 [] t.heap) (jA base)) 0 0 (jA base) := by
  refine Met.ofW (cc := cX9_symbolOf) (maxL := 3) (ret := (some .int)) (by decide) rfl ?_
  intro p e s m args below meth c s₁ Bd hml hv
  obtain ⟨rfl, hH0, hX, hG, hg_r0, hP0, hp0⟩ := hv
  have hK := hG.1
  have hx := Bd.exec
  have hb := Bd.bytes
  have hr := Bd.returns
  have hts := atoms_spec (ws := (jw yX9_symbolOf cX9_symbolOf 3 (some .int))) Bd.pre
  have htw : ∀ w ∈ jWl, w.before _ s = true := fun w h => hts w (List.mem_cons_of_mem _ h)
  have hown : s.vm.findClass RX9 = some m.cls := findClass_of_methodNamed Bd.named
  have hlocks := Bd.notSynchronized
  obtain ⟨Q, hQ⟩ : ∃ Q, Q = MQ below (va_Qi (S := Unit) (fun r u => (True)) (fun u t => jRt (dC, dI) B base G0 EX9_symbolOf H0 [] t.heap) (jA base)) ([.ref r0, .int a1] : List Value).toArray s 0 0 (jA base) := ⟨_, rfl⟩
  rw [← hQ]
  have hl := lv_entry ([.ref r0, .int a1]) (n := 3) (Nat.le_of_ble_eq_true rfl)
  rw [lg_entry_eq]
  generalize (lg_sl ([.ref r0, .int a1]) ++ List.replicate (3 - (lg_sl ([.ref r0, .int a1])).length) Slot.unset).toArray = ls at hl ⊢
  have hl : lv_has ls 3 [(0, .ref r0), (1, .int a1)] := hl
  generalize hR : (headSpec (jw yX9_symbolOf cX9_symbolOf 3 (some .int)) ({ frames := 0, cells := 0, slots := 0, locals := 0 })).room = R
  subst hH0
  have hh : jSt (dC, dI) B base G0 G0 EX9_symbolOf s.heap 0 0 [] [] [] s.heap [] := jSt.start hX hP0 jMc.nil jIs.nil
  clear hX hP0
  have hkm1 : ((-1) : Int32).toInt = (-1) := by decide
  have hk0 : (0 : Int32).toInt = 0 := by decide
  have hk1 : (1 : Int32).toInt = 1 := by decide
  have hk15 : (15 : Int32).toInt = 15 := by decide
  have hly_11_3 := htw (u_lay RX9 TX9 3) (jWc_wsX90 _ (u_in_lay (by decide)))
  have hlk_9 := (htw (.fieldLink RX9 9 "ProofServer$State" "symbols" "[I") (jWr_8 _ (List.mem_of_getElem? (i := 17) rfl)))
  have hrg_a1 := jb_rng a1
  refine lv_iconst (v := 0) hx hb dX9_symbolOf_0 (by decide) ?_
  refine lv_istore_n (lv' := [(2, .int 0), (0, .ref r0), (1, .int a1)]) hx hb dX9_symbolOf_1 rfl hl (by decide) rfl (fun ls hl => ?_)
  obtain ⟨v_1, hv_1, hh_2⟩ := hh.pin (C := RX9) (T := TX9) (N := 9) hB11 rfl (by decide) hg_r0 (i := 3) (by decide) rfl
  obtain ⟨symbols_3, nsymbols_3, rfl, hg_symbols_3, hn_symbols_3⟩ := hv_1
  have L2 : ∀ (N : Nat) (v2_4 : Int32) (H_4 : Heap) (locs_4 : List Loc), jSt (dC, dI) B base G0 G0 EX9_symbolOf s.heap 0 0 [(r0, 11, 3, .ref symbols_3)] [] [] H_4 locs_4 → (0 ≤ v2_4.toInt ∧ v2_4.toInt ≤ 16) → (17 - v2_4.toInt : Int) < N → ∀ ls : Array Slot, lv_has ls 3 [(0, .ref r0), (1, .int a1), (2, .int v2_4)] → W p l e R s m ([.ref r0, .int a1] : List Value).toArray below meth c H_4 locs_4 0 0 Q (F0 m 2 ls []) := by
    intro N
    induction N with
    | zero => intro v2_4 H_4 locs_4 hh_4  hi_4 hm; exact absurd hm (by omega)
    | succ N L2 =>
      intro v2_4 H_4 locs_4 hh_4  hi_4 hm_4 ls hl
      obtain ⟨hi_4_0, hi_4_1⟩ := hi_4
      refine lv_iload_n hx hb dX9_symbolOf_2 rfl (lv_at hl 2 rfl) ?_
      refine lv_aload_n hx hb dX9_symbolOf_3 rfl (lv_at hl 0 rfl) ?_
      refine j7_read hx hb hown hK (C := RX9) (T := TX9) (N := 9) rfl hly_11_3 hlk_9 (hh_4.at 0 rfl) dX9_symbolOf_4 ?_
      refine j7_len hx hb hK hh_4 hB101 1 rfl (by decide) hg_symbols_3 (by omega) dX9_symbolOf_7 (fun z_5 hz_5 => ?_)
      refine lv_icmp_ge (tgt := 37) hx hb dX9_symbolOf_8 (by decide) (fun c_6 => ?_) (fun c_6 => ?_)
      · skip
        have c_6' : v2_4.toInt ≥ z_5.toInt := jb_ge (rfl) (rfl) c_6
        refine lv_iconst (v := (-1)) hx hb dX9_symbolOf_37 (by decide) ?_
        rw [hQ]
        exact W.iret (v := (-1)) hx hb hr (fun t ht hW => ⟨⟨(-1), (), rfl, trivial, hh_4.rt (M1 := []) [] rfl ht⟩, by rw [ht]; try exact hh_4.1.1, fun q h9 hq => by rw [ht]; try exact hh_4.1.2.1 q h9 hq⟩) hh_4.1.2.2 dX9_symbolOf_38
      · skip
        have c_6' : v2_4.toInt < z_5.toInt := jb_ge_n (rfl) (rfl) c_6
        refine lv_aload_n hx hb dX9_symbolOf_11 rfl (lv_at hl 0 rfl) ?_
        refine j7_read hx hb hown hK (C := RX9) (T := TX9) (N := 9) rfl hly_11_3 hlk_9 (hh_4.at 0 rfl) dX9_symbolOf_12 ?_
        refine lv_iload_n hx hb dX9_symbolOf_15 rfl (lv_at hl 2 rfl) ?_
        refine j7_iald hx hb hK hh_4 hB101 1 rfl (by decide) hg_symbols_3 (x := v2_4.toInt) (rfl) (by omega) dX9_symbolOf_16 (fun z_7 (hz_7 : True) => ?_)
        refine lv_bipush (v := 15) hx hb dX9_symbolOf_17 (by decide) ?_
        refine lv_ishr hx hb dX9_symbolOf_19 ?_
        refine lv_topi (fun z_8 ez_8 => ?_)
        have hz_8 : z_8.toInt = z_7.toInt / 2 ^ 15 := by rw [ez_8]; exact jb_ishr 15 (rfl) (by decide)
        refine lv_iload_n hx hb dX9_symbolOf_20 rfl (lv_at hl 1 rfl) ?_
        refine lv_icmp_ne (tgt := 31) hx hb dX9_symbolOf_21 (by decide) (fun c_9 => ?_) (fun c_9 => ?_)
        · skip
          have c_9' : z_8.toInt ≠ a1.toInt := jb_ne (rfl) (rfl) c_9
          obtain ⟨z_10, ez_10⟩ : ∃ y : Int32, y = v2_4 + 1 := ⟨_, rfl⟩
          refine lv_iinc (v := z_10) (lv' := [(2, .int z_10), (0, .ref r0), (1, .int a1)]) hx hb dX9_symbolOf_31 hl (k := 2) rfl (by rw [ez_10]; rfl) (by decide) rfl (fun ls hl => ?_)
          have hz_10 : z_10.toInt = v2_4.toInt + 1 := by rw [ez_10]; exact jb_iadd2 (rfl) (by decide) (by omega)
          refine lv_goto (tgt := 2) hx hb dX9_symbolOf_34 (by decide) ?_
          exact L2 z_10 _ _ hh_4 (by first | omega | (refine ⟨?_, ?_⟩ <;> (first | omega | rfl | assumption | decide | exact Or.inl rfl | exact Or.inr rfl | (simp only; omega)))) (by omega) _ (lv_sub hl [1, 2, 0] rfl)
        · skip
          have c_9' : z_8.toInt = a1.toInt := jb_ne_n (rfl) (rfl) c_9
          refine lv_aload_n hx hb dX9_symbolOf_24 rfl (lv_at hl 0 rfl) ?_
          refine j7_read hx hb hown hK (C := RX9) (T := TX9) (N := 9) rfl hly_11_3 hlk_9 (hh_4.at 0 rfl) dX9_symbolOf_25 ?_
          refine lv_iload_n hx hb dX9_symbolOf_28 rfl (lv_at hl 2 rfl) ?_
          refine j7_iald hx hb hK hh_4 hB101 1 rfl (by decide) hg_symbols_3 (x := v2_4.toInt) (rfl) (by omega) dX9_symbolOf_29 (fun z_11 (hz_11 : True) => ?_)
          rw [hQ]
          exact W.iret (v := z_11) hx hb hr (fun t ht hW => ⟨⟨z_11, (), rfl, trivial, hh_4.rt (M1 := []) [] rfl ht⟩, by rw [ht]; try exact hh_4.1.1, fun q h9 hq => by rw [ht]; try exact hh_4.1.2.1 q h9 hq⟩) hh_4.1.2.2 dX9_symbolOf_30
  exact L2 (17 - (0 : Int32).toInt : Int).toNat.succ 0 _ _ hh_2 (by first | omega | (refine ⟨?_, ?_⟩ <;> (first | omega | rfl | assumption | decide | exact Or.inl rfl | exact Or.inr rfl | (simp only; omega)))) (by omega) _ (lv_sub hl [1, 2, 0] rfl)
set_option maxHeartbeats 4000000 in
set_option maxRecDepth 20000 in
theorem uX9_isSameRow (l : Launch) (dC : Nat → ClassId) (dI : Nat → Nat → Nat) (ca : Nat → ClassId) (base : Nat) (B : jF) (hB : jBok B) (hAp : jAp (dC, dI)) (hB11 : ∀ n G a H, B 11 n G a H ↔ jOb (dC, dI) 11 9 (F11 n G) a H) (hB101 : ∀ n G a H, B 101 n G a H ↔ jAr (dC, dI) (ca 1) (fun j z => True) n a H) (G0 : jT) (H0 : Heap) (r0 : Nat) (r1 : Nat) : Met l yX9_isSameRow (jw yX9_isSameRow cX9_isSameRow 6 (some .boolean)) ({ frames := 0, cells := 0, slots := 0, locals := 0 }) (va_Pc [.ref r0, .ref r1] (fun U => U.heap = H0 ∧ jX B base G0 [] H0 ∧ jG dC dI ca base U ∧ G0 r0 = some (11, 0) ∧ G0 r1 = some (11, 0) ∧ jP (dC, dI) G0 H0 [] ∧ True)) (va_Qi (S := Unit) (fun r u => (r = 0 ∨ r = 1) ∧ (True)) (fun u t => jRt (dC, dI) B base G0 EX9_isSameRow H0 [] t.heap) (jA base)) 0 0 (jA base) := by
  refine Met.ofW (cc := cX9_isSameRow) (maxL := 6) (ret := (some .boolean)) (by decide) rfl ?_
  intro p e s m args below meth c s₁ Bd hml hv
  obtain ⟨rfl, hH0, hX, hG, hg_r0, hg_r1, hP0, hp0⟩ := hv
  have hK := hG.1
  have hx := Bd.exec
  have hb := Bd.bytes
  have hr := Bd.returns
  have hts := atoms_spec (ws := (jw yX9_isSameRow cX9_isSameRow 6 (some .boolean))) Bd.pre
  have htw : ∀ w ∈ jWl, w.before _ s = true := fun w h => hts w (List.mem_cons_of_mem _ h)
  have hown : s.vm.findClass RX9 = some m.cls := findClass_of_methodNamed Bd.named
  have hlocks := Bd.notSynchronized
  obtain ⟨Q, hQ⟩ : ∃ Q, Q = MQ below (va_Qi (S := Unit) (fun r u => (r = 0 ∨ r = 1) ∧ (True)) (fun u t => jRt (dC, dI) B base G0 EX9_isSameRow H0 [] t.heap) (jA base)) ([.ref r0, .ref r1] : List Value).toArray s 0 0 (jA base) := ⟨_, rfl⟩
  rw [← hQ]
  have hl := lv_entry ([.ref r0, .ref r1]) (n := 6) (Nat.le_of_ble_eq_true rfl)
  rw [lg_entry_eq]
  generalize (lg_sl ([.ref r0, .ref r1]) ++ List.replicate (6 - (lg_sl ([.ref r0, .ref r1])).length) Slot.unset).toArray = ls at hl ⊢
  have hl : lv_has ls 6 [(0, .ref r0), (1, .ref r1)] := hl
  generalize hR : (headSpec (jw yX9_isSameRow cX9_isSameRow 6 (some .boolean)) ({ frames := 0, cells := 0, slots := 0, locals := 0 })).room = R
  subst hH0
  have hh : jSt (dC, dI) B base G0 G0 EX9_isSameRow s.heap 0 0 [] [] [] s.heap [] := jSt.start hX hP0 jMc.nil jIs.nil
  clear hX hP0
  have hk0 : (0 : Int32).toInt = 0 := by decide
  have hk1 : (1 : Int32).toInt = 1 := by decide
  have hk41 : (41 : Int32).toInt = 41 := by decide
  have hly_11_0 := htw (u_lay RX9 TX9 0) (jWc_wsX90 _ (u_in_lay (by decide)))
  have hly_11_1 := htw (u_lay RX9 TX9 1) (jWc_wsX90 _ (u_in_lay (by decide)))
  have hlk_40 := (htw (.fieldLink RX9 40 "ProofServer$State" "units" "[I") (jWr_9 _ (List.mem_of_getElem? (i := 2) rfl)))
  have hlk_36 := (htw (.fieldLink RX9 36 "ProofServer$State" "ahead" "LProofServer$State;") (jWr_9 _ (List.mem_of_getElem? (i := 1) rfl)))
  refine lv_aload_n hx hb dX9_isSameRow_0 rfl (lv_at hl 0 rfl) ?_
  refine lv_astore_n (lv' := [(2, .ref r0), (0, .ref r0), (1, .ref r1)]) hx hb dX9_isSameRow_1 rfl hl (by decide) rfl (fun ls hl => ?_)
  refine lv_aload_n hx hb dX9_isSameRow_2 rfl (lv_at hl 2 rfl) ?_
  refine lv_astore_n (lv' := [(3, .ref r1), (2, .ref r0), (0, .ref r0), (1, .ref r1)]) hx hb dX9_isSameRow_3 rfl hl (by decide) rfl (fun ls hl => ?_)
  refine lv_iconst (v := 0) hx hb dX9_isSameRow_4 (by decide) ?_
  refine lv_istore (lv' := [(4, .int 0), (3, .ref r1), (2, .ref r0), (0, .ref r0), (1, .ref r1)]) hx hb dX9_isSameRow_5 hl (by decide) rfl (fun ls hl => ?_)
  have L7 : ∀ (N : Nat) (v2_1 : Option Nat) (v3_1 : Option Nat) (v4_1 : Int32) (H_1 : Heap) (locs_1 : List Loc), jSt (dC, dI) B base G0 G0 EX9_isSameRow s.heap 0 0 [] [] [] H_1 locs_1 → jQn 11 0 G0 v2_1 → jQn 11 0 G0 v3_1 → (0 ≤ v4_1.toInt ∧ v4_1.toInt ≤ 42) → (42 - v4_1.toInt : Int) < N → ∀ ls : Array Slot, lv_has ls 6 [(0, .ref r0), (1, .ref r1), (2, va_rf v2_1), (3, va_rf v3_1), (4, .int v4_1)] → W p l e R s m ([.ref r0, .ref r1] : List Value).toArray below meth c H_1 locs_1 0 0 Q (F0 m 7 ls []) := by
    intro N
    induction N with
    | zero => intro v2_1 v3_1 v4_1 H_1 locs_1 hh_1 hq_v2_1 hq_v3_1 hi_1 hm; exact absurd hm (by omega)
    | succ N L7 =>
      intro v2_1 v3_1 v4_1 H_1 locs_1 hh_1 hq_v2_1 hq_v3_1 hi_1 hm_1 ls hl
      obtain ⟨hi_1_0, hi_1_1⟩ := hi_1
      rcases hq_v2_1 with rfl | ⟨nv_2, rfl, hg_nv_2⟩
      · have hl : lv_has ls 6 [(0, .ref r0), (1, .ref r1), (2, .null), (3, va_rf v3_1), (4, .int v4_1)] := hl
        rcases hq_v3_1 with rfl | ⟨nv_3, rfl, hg_nv_3⟩
        · have hl : lv_has ls 6 [(0, .ref r0), (1, .ref r1), (2, .null), (3, .null), (4, .int v4_1)] := hl
          refine lv_iload hx hb dX9_isSameRow_7 (lv_at hl 4 rfl) ?_
          refine lv_bipush (v := 41) hx hb dX9_isSameRow_9 (by decide) ?_
          refine lv_icmp_gt (tgt := 98) hx hb dX9_isSameRow_11 (by decide) (fun c_4 => ?_) (fun c_4 => ?_)
          · skip
            have c_4' : v4_1.toInt > 41 := jb_gt (rfl) ((by decide)) c_4
            refine lv_iconst (v := 0) hx hb dX9_isSameRow_98 (by decide) ?_
            rw [hQ]
            exact W.zret (v := 0) hx hb hr (jb_nz (Or.inl rfl)) (fun t ht hW => ⟨⟨0, (), rfl, ⟨(Or.inl rfl), trivial⟩, hh_1.rt (M1 := []) [] rfl ht⟩, by rw [ht]; try exact hh_1.1.1, fun q h9 hq => by rw [ht]; try exact hh_1.1.2.1 q h9 hq⟩) hh_1.1.2.2 dX9_isSameRow_99
          · skip
            have c_4' : v4_1.toInt ≤ 41 := jb_gt_n (rfl) ((by decide)) c_4
            refine j7_nld_n hx hb dX9_isSameRow_14 rfl (lv_at hl 2 rfl) ?_
            refine j7_nld_n hx hb dX9_isSameRow_15 rfl (lv_at hl 3 rfl) ?_
            refine lv_acmp_ne (rx := none) (ry := none) (tgt := 21) hx hb dX9_isSameRow_16 (by decide) (fun c_5 => ?_) (fun c_5 => ?_)
            · skip
              exact absurd rfl c_5
            · skip
              refine lv_iconst (v := 1) hx hb dX9_isSameRow_19 (by decide) ?_
              rw [hQ]
              exact W.zret (v := 1) hx hb hr (jb_nz (Or.inr rfl)) (fun t ht hW => ⟨⟨1, (), rfl, ⟨(Or.inr rfl), trivial⟩, hh_1.rt (M1 := []) [] rfl ht⟩, by rw [ht]; try exact hh_1.1.1, fun q h9 hq => by rw [ht]; try exact hh_1.1.2.1 q h9 hq⟩) hh_1.1.2.2 dX9_isSameRow_20
        · have hl : lv_has ls 6 [(0, .ref r0), (1, .ref r1), (2, .null), (3, .ref nv_3), (4, .int v4_1)] := hl
          refine lv_iload hx hb dX9_isSameRow_7 (lv_at hl 4 rfl) ?_
          refine lv_bipush (v := 41) hx hb dX9_isSameRow_9 (by decide) ?_
          refine lv_icmp_gt (tgt := 98) hx hb dX9_isSameRow_11 (by decide) (fun c_6 => ?_) (fun c_6 => ?_)
          · skip
            have c_6' : v4_1.toInt > 41 := jb_gt (rfl) ((by decide)) c_6
            refine lv_iconst (v := 0) hx hb dX9_isSameRow_98 (by decide) ?_
            rw [hQ]
            exact W.zret (v := 0) hx hb hr (jb_nz (Or.inl rfl)) (fun t ht hW => ⟨⟨0, (), rfl, ⟨(Or.inl rfl), trivial⟩, hh_1.rt (M1 := []) [] rfl ht⟩, by rw [ht]; try exact hh_1.1.1, fun q h9 hq => by rw [ht]; try exact hh_1.1.2.1 q h9 hq⟩) hh_1.1.2.2 dX9_isSameRow_99
          · skip
            have c_6' : v4_1.toInt ≤ 41 := jb_gt_n (rfl) ((by decide)) c_6
            refine j7_nld_n hx hb dX9_isSameRow_14 rfl (lv_at hl 2 rfl) ?_
            refine lv_aload_n hx hb dX9_isSameRow_15 rfl (lv_at hl 3 rfl) ?_
            refine lv_acmp_ne (rx := none) (ry := (some nv_3)) (tgt := 21) hx hb dX9_isSameRow_16 (by decide) (fun c_7 => ?_) (fun c_7 => ?_)
            · skip
              refine j7_nld_n hx hb dX9_isSameRow_21 rfl (lv_at hl 2 rfl) ?_
              refine lv_ifnullN (tgt := 42) hx hb dX9_isSameRow_22 (by decide) ?_
              refine lv_iconst (v := 0) hx hb dX9_isSameRow_42 (by decide) ?_
              rw [hQ]
              exact W.zret (v := 0) hx hb hr (jb_nz (Or.inl rfl)) (fun t ht hW => ⟨⟨0, (), rfl, ⟨(Or.inl rfl), trivial⟩, hh_1.rt (M1 := []) [] rfl ht⟩, by rw [ht]; try exact hh_1.1.1, fun q h9 hq => by rw [ht]; try exact hh_1.1.2.1 q h9 hq⟩) hh_1.1.2.2 dX9_isSameRow_43
            · skip
              cases c_7
      · have hl : lv_has ls 6 [(0, .ref r0), (1, .ref r1), (2, .ref nv_2), (3, va_rf v3_1), (4, .int v4_1)] := hl
        rcases hq_v3_1 with rfl | ⟨nv_8, rfl, hg_nv_8⟩
        · have hl : lv_has ls 6 [(0, .ref r0), (1, .ref r1), (2, .ref nv_2), (3, .null), (4, .int v4_1)] := hl
          refine lv_iload hx hb dX9_isSameRow_7 (lv_at hl 4 rfl) ?_
          refine lv_bipush (v := 41) hx hb dX9_isSameRow_9 (by decide) ?_
          refine lv_icmp_gt (tgt := 98) hx hb dX9_isSameRow_11 (by decide) (fun c_9 => ?_) (fun c_9 => ?_)
          · skip
            have c_9' : v4_1.toInt > 41 := jb_gt (rfl) ((by decide)) c_9
            refine lv_iconst (v := 0) hx hb dX9_isSameRow_98 (by decide) ?_
            rw [hQ]
            exact W.zret (v := 0) hx hb hr (jb_nz (Or.inl rfl)) (fun t ht hW => ⟨⟨0, (), rfl, ⟨(Or.inl rfl), trivial⟩, hh_1.rt (M1 := []) [] rfl ht⟩, by rw [ht]; try exact hh_1.1.1, fun q h9 hq => by rw [ht]; try exact hh_1.1.2.1 q h9 hq⟩) hh_1.1.2.2 dX9_isSameRow_99
          · skip
            have c_9' : v4_1.toInt ≤ 41 := jb_gt_n (rfl) ((by decide)) c_9
            refine lv_aload_n hx hb dX9_isSameRow_14 rfl (lv_at hl 2 rfl) ?_
            refine j7_nld_n hx hb dX9_isSameRow_15 rfl (lv_at hl 3 rfl) ?_
            refine lv_acmp_ne (rx := (some nv_2)) (ry := none) (tgt := 21) hx hb dX9_isSameRow_16 (by decide) (fun c_10 => ?_) (fun c_10 => ?_)
            · skip
              refine lv_aload_n hx hb dX9_isSameRow_21 rfl (lv_at hl 2 rfl) ?_
              refine lv_ifnull hx hb dX9_isSameRow_22 ?_
              refine j7_nld_n hx hb dX9_isSameRow_25 rfl (lv_at hl 3 rfl) ?_
              refine lv_ifnullN (tgt := 42) hx hb dX9_isSameRow_26 (by decide) ?_
              refine lv_iconst (v := 0) hx hb dX9_isSameRow_42 (by decide) ?_
              rw [hQ]
              exact W.zret (v := 0) hx hb hr (jb_nz (Or.inl rfl)) (fun t ht hW => ⟨⟨0, (), rfl, ⟨(Or.inl rfl), trivial⟩, hh_1.rt (M1 := []) [] rfl ht⟩, by rw [ht]; try exact hh_1.1.1, fun q h9 hq => by rw [ht]; try exact hh_1.1.2.1 q h9 hq⟩) hh_1.1.2.2 dX9_isSameRow_43
            · skip
              cases c_10
        · have hl : lv_has ls 6 [(0, .ref r0), (1, .ref r1), (2, .ref nv_2), (3, .ref nv_8), (4, .int v4_1)] := hl
          refine lv_iload hx hb dX9_isSameRow_7 (lv_at hl 4 rfl) ?_
          refine lv_bipush (v := 41) hx hb dX9_isSameRow_9 (by decide) ?_
          refine lv_icmp_gt (tgt := 98) hx hb dX9_isSameRow_11 (by decide) (fun c_11 => ?_) (fun c_11 => ?_)
          · skip
            have c_11' : v4_1.toInt > 41 := jb_gt (rfl) ((by decide)) c_11
            refine lv_iconst (v := 0) hx hb dX9_isSameRow_98 (by decide) ?_
            rw [hQ]
            exact W.zret (v := 0) hx hb hr (jb_nz (Or.inl rfl)) (fun t ht hW => ⟨⟨0, (), rfl, ⟨(Or.inl rfl), trivial⟩, hh_1.rt (M1 := []) [] rfl ht⟩, by rw [ht]; try exact hh_1.1.1, fun q h9 hq => by rw [ht]; try exact hh_1.1.2.1 q h9 hq⟩) hh_1.1.2.2 dX9_isSameRow_99
          · skip
            have c_11' : v4_1.toInt ≤ 41 := jb_gt_n (rfl) ((by decide)) c_11
            refine lv_aload_n hx hb dX9_isSameRow_14 rfl (lv_at hl 2 rfl) ?_
            refine lv_aload_n hx hb dX9_isSameRow_15 rfl (lv_at hl 3 rfl) ?_
            refine lv_acmp_ne (rx := (some nv_2)) (ry := (some nv_8)) (tgt := 21) hx hb dX9_isSameRow_16 (by decide) (fun c_12 => ?_) (fun c_12 => ?_)
            · skip
              refine lv_aload_n hx hb dX9_isSameRow_21 rfl (lv_at hl 2 rfl) ?_
              refine lv_ifnull hx hb dX9_isSameRow_22 ?_
              refine lv_aload_n hx hb dX9_isSameRow_25 rfl (lv_at hl 3 rfl) ?_
              refine lv_ifnull hx hb dX9_isSameRow_26 ?_
              refine lv_aload_n hx hb dX9_isSameRow_29 rfl (lv_at hl 2 rfl) ?_
              obtain ⟨v_13, hv_13, hh_14⟩ := hh_1.pin (C := RX9) (T := TX9) (N := 9) hB11 rfl (by decide) hg_nv_2 (i := 1) (by decide) rfl
              clear hh_1
              obtain ⟨units_15, nunits_15, rfl, hg_units_15, hn_units_15⟩ := hv_13
              refine j7_read hx hb hown hK (C := RX9) (T := TX9) (N := 9) rfl hly_11_1 hlk_40 (hh_14.at 0 rfl) dX9_isSameRow_30 ?_
              refine j7_len hx hb hK hh_14 hB101 1 rfl (by decide) hg_units_15 (by omega) dX9_isSameRow_33 (fun z_16 hz_16 => ?_)
              refine lv_aload_n hx hb dX9_isSameRow_34 rfl (lv_at hl 3 rfl) ?_
              obtain ⟨v_17, hv_17, hh_18⟩ := hh_14.pin (C := RX9) (T := TX9) (N := 9) hB11 rfl (by decide) hg_nv_8 (i := 1) (by decide) rfl
              clear hh_14
              obtain ⟨units_19, nunits_19, rfl, hg_units_19, hn_units_19⟩ := hv_17
              refine j7_read hx hb hown hK (C := RX9) (T := TX9) (N := 9) rfl hly_11_1 hlk_40 (hh_18.at 0 rfl) dX9_isSameRow_35 ?_
              refine j7_len hx hb hK hh_18 hB101 1 rfl (by decide) hg_units_19 (by omega) dX9_isSameRow_38 (fun z_20 hz_20 => ?_)
              refine lv_icmp_eq (tgt := 44) hx hb dX9_isSameRow_39 (by decide) (fun c_21 => ?_) (fun c_21 => ?_)
              · skip
                have c_21' : z_16.toInt = z_20.toInt := jb_eq (rfl) (rfl) c_21
                refine lv_iconst (v := 0) hx hb dX9_isSameRow_44 (by decide) ?_
                refine lv_istore (lv' := [(5, .int 0), (0, .ref r0), (1, .ref r1), (2, .ref nv_2), (3, .ref nv_8), (4, .int v4_1)]) hx hb dX9_isSameRow_45 hl (by decide) rfl (fun ls hl => ?_)
                have L47 : ∀ (N : Nat) (v5_22 : Int32) (H_22 : Heap) (locs_22 : List Loc), jSt (dC, dI) B base G0 G0 EX9_isSameRow s.heap 0 0 [(nv_8, 11, 1, .ref units_19), (nv_2, 11, 1, .ref units_15)] [] [] H_22 locs_22 → (0 ≤ v5_22.toInt ∧ v5_22.toInt ≤ 1500) → (1501 - v5_22.toInt : Int) < N → ∀ ls : Array Slot, lv_has ls 6 [(0, .ref r0), (1, .ref r1), (2, .ref nv_2), (3, .ref nv_8), (4, .int v4_1), (5, .int v5_22)] → W p l e R s m ([.ref r0, .ref r1] : List Value).toArray below meth c H_22 locs_22 0 0 Q (F0 m 47 ls []) := by
                  intro N
                  induction N with
                  | zero => intro v5_22 H_22 locs_22 hh_22  hi_22 hm; exact absurd hm (by omega)
                  | succ N L47 =>
                    intro v5_22 H_22 locs_22 hh_22  hi_22 hm_22 ls hl
                    obtain ⟨hi_22_0, hi_22_1⟩ := hi_22
                    refine lv_iload hx hb dX9_isSameRow_47 (lv_at hl 5 rfl) ?_
                    refine lv_aload_n hx hb dX9_isSameRow_49 rfl (lv_at hl 2 rfl) ?_
                    refine j7_read hx hb hown hK (C := RX9) (T := TX9) (N := 9) rfl hly_11_1 hlk_40 (hh_22.at 1 rfl) dX9_isSameRow_50 ?_
                    refine j7_len hx hb hK hh_22 hB101 1 rfl (by decide) hg_units_15 (by omega) dX9_isSameRow_53 (fun z_23 hz_23 => ?_)
                    refine lv_icmp_ge (tgt := 82) hx hb dX9_isSameRow_54 (by decide) (fun c_24 => ?_) (fun c_24 => ?_)
                    · skip
                      have c_24' : v5_22.toInt ≥ z_23.toInt := jb_ge (rfl) (rfl) c_24
                      refine lv_aload_n hx hb dX9_isSameRow_82 rfl (lv_at hl 2 rfl) ?_
                      obtain ⟨v_25, hv_25, hh_26⟩ := hh_22.pin (C := RX9) (T := TX9) (N := 9) hB11 rfl (by decide) hg_nv_2 (i := 0) (by decide) rfl
                      clear hh_22
                      rcases hv_25 with rfl | ⟨ahead_27, rfl, hg_ahead_27⟩
                      · refine j7_read hx hb hown hK (C := RX9) (T := TX9) (N := 9) rfl hly_11_0 hlk_36 (hh_26.at 0 rfl) dX9_isSameRow_83 ?_
                        refine j7_nst_n (lv' := [(2, .null), (0, .ref r0), (1, .ref r1), (3, .ref nv_8), (4, .int v4_1), (5, .int v5_22)]) hx hb dX9_isSameRow_86 rfl hl (by decide) rfl (fun ls hl => ?_)
                        refine lv_aload_n hx hb dX9_isSameRow_87 rfl (lv_at hl 3 rfl) ?_
                        obtain ⟨v_28, hv_28, hh_29⟩ := hh_26.pin (C := RX9) (T := TX9) (N := 9) hB11 rfl (by decide) hg_nv_8 (i := 0) (by decide) rfl
                        clear hh_26
                        rcases hv_28 with rfl | ⟨ahead_30, rfl, hg_ahead_30⟩
                        · refine j7_read hx hb hown hK (C := RX9) (T := TX9) (N := 9) rfl hly_11_0 hlk_36 (hh_29.at 0 rfl) dX9_isSameRow_88 ?_
                          refine j7_nst_n (lv' := [(3, .null), (2, .null), (0, .ref r0), (1, .ref r1), (4, .int v4_1), (5, .int v5_22)]) hx hb dX9_isSameRow_91 rfl hl (by decide) rfl (fun ls hl => ?_)
                          obtain ⟨z_31, ez_31⟩ : ∃ y : Int32, y = v4_1 + 1 := ⟨_, rfl⟩
                          refine lv_iinc (v := z_31) (lv' := [(4, .int z_31), (3, .null), (2, .null), (0, .ref r0), (1, .ref r1), (5, .int v5_22)]) hx hb dX9_isSameRow_92 hl (k := 4) rfl (by rw [ez_31]; rfl) (by decide) rfl (fun ls hl => ?_)
                          have hz_31 : z_31.toInt = v4_1.toInt + 1 := by rw [ez_31]; exact jb_iadd2 (rfl) (by decide) (by omega)
                          refine lv_goto (tgt := 7) hx hb dX9_isSameRow_95 (by decide) ?_
                          exact L7 none none z_31 _ _ (hh_29.sub (L1 := []) [] rfl (M1 := []) [] rfl (I1 := []) [] rfl) (Or.inl rfl) (Or.inl rfl) (by first | omega | (refine ⟨?_, ?_⟩ <;> (first | omega | rfl | assumption | decide | exact Or.inl rfl | exact Or.inr rfl | (simp only; omega)))) (by omega) _ (lv_sub hl [3, 4, 2, 1, 0] rfl)
                        · refine j7_read hx hb hown hK (C := RX9) (T := TX9) (N := 9) rfl hly_11_0 hlk_36 (hh_29.at 0 rfl) dX9_isSameRow_88 ?_
                          refine lv_astore_n (lv' := [(3, .ref ahead_30), (2, .null), (0, .ref r0), (1, .ref r1), (4, .int v4_1), (5, .int v5_22)]) hx hb dX9_isSameRow_91 rfl hl (by decide) rfl (fun ls hl => ?_)
                          obtain ⟨z_32, ez_32⟩ : ∃ y : Int32, y = v4_1 + 1 := ⟨_, rfl⟩
                          refine lv_iinc (v := z_32) (lv' := [(4, .int z_32), (3, .ref ahead_30), (2, .null), (0, .ref r0), (1, .ref r1), (5, .int v5_22)]) hx hb dX9_isSameRow_92 hl (k := 4) rfl (by rw [ez_32]; rfl) (by decide) rfl (fun ls hl => ?_)
                          have hz_32 : z_32.toInt = v4_1.toInt + 1 := by rw [ez_32]; exact jb_iadd2 (rfl) (by decide) (by omega)
                          refine lv_goto (tgt := 7) hx hb dX9_isSameRow_95 (by decide) ?_
                          exact L7 none (some ahead_30) z_32 _ _ (hh_29.sub (L1 := []) [] rfl (M1 := []) [] rfl (I1 := []) [] rfl) (Or.inl rfl) (Or.inr ⟨_, rfl, hg_ahead_30⟩) (by first | omega | (refine ⟨?_, ?_⟩ <;> (first | omega | rfl | assumption | decide | exact Or.inl rfl | exact Or.inr rfl | (simp only; omega)))) (by omega) _ (lv_sub hl [3, 4, 2, 1, 0] rfl)
                      · refine j7_read hx hb hown hK (C := RX9) (T := TX9) (N := 9) rfl hly_11_0 hlk_36 (hh_26.at 0 rfl) dX9_isSameRow_83 ?_
                        refine lv_astore_n (lv' := [(2, .ref ahead_27), (0, .ref r0), (1, .ref r1), (3, .ref nv_8), (4, .int v4_1), (5, .int v5_22)]) hx hb dX9_isSameRow_86 rfl hl (by decide) rfl (fun ls hl => ?_)
                        refine lv_aload_n hx hb dX9_isSameRow_87 rfl (lv_at hl 3 rfl) ?_
                        obtain ⟨v_33, hv_33, hh_34⟩ := hh_26.pin (C := RX9) (T := TX9) (N := 9) hB11 rfl (by decide) hg_nv_8 (i := 0) (by decide) rfl
                        clear hh_26
                        rcases hv_33 with rfl | ⟨ahead_35, rfl, hg_ahead_35⟩
                        · refine j7_read hx hb hown hK (C := RX9) (T := TX9) (N := 9) rfl hly_11_0 hlk_36 (hh_34.at 0 rfl) dX9_isSameRow_88 ?_
                          refine j7_nst_n (lv' := [(3, .null), (2, .ref ahead_27), (0, .ref r0), (1, .ref r1), (4, .int v4_1), (5, .int v5_22)]) hx hb dX9_isSameRow_91 rfl hl (by decide) rfl (fun ls hl => ?_)
                          obtain ⟨z_36, ez_36⟩ : ∃ y : Int32, y = v4_1 + 1 := ⟨_, rfl⟩
                          refine lv_iinc (v := z_36) (lv' := [(4, .int z_36), (3, .null), (2, .ref ahead_27), (0, .ref r0), (1, .ref r1), (5, .int v5_22)]) hx hb dX9_isSameRow_92 hl (k := 4) rfl (by rw [ez_36]; rfl) (by decide) rfl (fun ls hl => ?_)
                          have hz_36 : z_36.toInt = v4_1.toInt + 1 := by rw [ez_36]; exact jb_iadd2 (rfl) (by decide) (by omega)
                          refine lv_goto (tgt := 7) hx hb dX9_isSameRow_95 (by decide) ?_
                          exact L7 (some ahead_27) none z_36 _ _ (hh_34.sub (L1 := []) [] rfl (M1 := []) [] rfl (I1 := []) [] rfl) (Or.inr ⟨_, rfl, hg_ahead_27⟩) (Or.inl rfl) (by first | omega | (refine ⟨?_, ?_⟩ <;> (first | omega | rfl | assumption | decide | exact Or.inl rfl | exact Or.inr rfl | (simp only; omega)))) (by omega) _ (lv_sub hl [3, 4, 2, 1, 0] rfl)
                        · refine j7_read hx hb hown hK (C := RX9) (T := TX9) (N := 9) rfl hly_11_0 hlk_36 (hh_34.at 0 rfl) dX9_isSameRow_88 ?_
                          refine lv_astore_n (lv' := [(3, .ref ahead_35), (2, .ref ahead_27), (0, .ref r0), (1, .ref r1), (4, .int v4_1), (5, .int v5_22)]) hx hb dX9_isSameRow_91 rfl hl (by decide) rfl (fun ls hl => ?_)
                          obtain ⟨z_37, ez_37⟩ : ∃ y : Int32, y = v4_1 + 1 := ⟨_, rfl⟩
                          refine lv_iinc (v := z_37) (lv' := [(4, .int z_37), (3, .ref ahead_35), (2, .ref ahead_27), (0, .ref r0), (1, .ref r1), (5, .int v5_22)]) hx hb dX9_isSameRow_92 hl (k := 4) rfl (by rw [ez_37]; rfl) (by decide) rfl (fun ls hl => ?_)
                          have hz_37 : z_37.toInt = v4_1.toInt + 1 := by rw [ez_37]; exact jb_iadd2 (rfl) (by decide) (by omega)
                          refine lv_goto (tgt := 7) hx hb dX9_isSameRow_95 (by decide) ?_
                          exact L7 (some ahead_27) (some ahead_35) z_37 _ _ (hh_34.sub (L1 := []) [] rfl (M1 := []) [] rfl (I1 := []) [] rfl) (Or.inr ⟨_, rfl, hg_ahead_27⟩) (Or.inr ⟨_, rfl, hg_ahead_35⟩) (by first | omega | (refine ⟨?_, ?_⟩ <;> (first | omega | rfl | assumption | decide | exact Or.inl rfl | exact Or.inr rfl | (simp only; omega)))) (by omega) _ (lv_sub hl [3, 4, 2, 1, 0] rfl)
                    · skip
                      have c_24' : v5_22.toInt < z_23.toInt := jb_ge_n (rfl) (rfl) c_24
                      refine lv_aload_n hx hb dX9_isSameRow_57 rfl (lv_at hl 2 rfl) ?_
                      refine j7_read hx hb hown hK (C := RX9) (T := TX9) (N := 9) rfl hly_11_1 hlk_40 (hh_22.at 1 rfl) dX9_isSameRow_58 ?_
                      refine lv_iload hx hb dX9_isSameRow_61 (lv_at hl 5 rfl) ?_
                      refine j7_iald hx hb hK hh_22 hB101 1 rfl (by decide) hg_units_15 (x := v5_22.toInt) (rfl) (by omega) dX9_isSameRow_63 (fun z_38 (hz_38 : True) => ?_)
                      refine lv_aload_n hx hb dX9_isSameRow_64 rfl (lv_at hl 3 rfl) ?_
                      refine j7_read hx hb hown hK (C := RX9) (T := TX9) (N := 9) rfl hly_11_1 hlk_40 (hh_22.at 0 rfl) dX9_isSameRow_65 ?_
                      refine lv_iload hx hb dX9_isSameRow_68 (lv_at hl 5 rfl) ?_
                      refine j7_iald hx hb hK hh_22 hB101 1 rfl (by decide) hg_units_19 (x := v5_22.toInt) (rfl) (by omega) dX9_isSameRow_70 (fun z_39 (hz_39 : True) => ?_)
                      refine lv_icmp_eq (tgt := 76) hx hb dX9_isSameRow_71 (by decide) (fun c_40 => ?_) (fun c_40 => ?_)
                      · skip
                        have c_40' : z_38.toInt = z_39.toInt := jb_eq (rfl) (rfl) c_40
                        obtain ⟨z_41, ez_41⟩ : ∃ y : Int32, y = v5_22 + 1 := ⟨_, rfl⟩
                        refine lv_iinc (v := z_41) (lv' := [(5, .int z_41), (0, .ref r0), (1, .ref r1), (2, .ref nv_2), (3, .ref nv_8), (4, .int v4_1)]) hx hb dX9_isSameRow_76 hl (k := 5) rfl (by rw [ez_41]; rfl) (by decide) rfl (fun ls hl => ?_)
                        have hz_41 : z_41.toInt = v5_22.toInt + 1 := by rw [ez_41]; exact jb_iadd2 (rfl) (by decide) (by omega)
                        refine lv_goto (tgt := 47) hx hb dX9_isSameRow_79 (by decide) ?_
                        exact L47 z_41 _ _ hh_22 (by first | omega | (refine ⟨?_, ?_⟩ <;> (first | omega | rfl | assumption | decide | exact Or.inl rfl | exact Or.inr rfl | (simp only; omega)))) (by omega) _ (lv_sub hl [1, 2, 3, 4, 5, 0] rfl)
                      · skip
                        have c_40' : z_38.toInt ≠ z_39.toInt := jb_eq_n (rfl) (rfl) c_40
                        refine lv_iconst (v := 0) hx hb dX9_isSameRow_74 (by decide) ?_
                        rw [hQ]
                        exact W.zret (v := 0) hx hb hr (jb_nz (Or.inl rfl)) (fun t ht hW => ⟨⟨0, (), rfl, ⟨(Or.inl rfl), trivial⟩, hh_22.rt (M1 := []) [] rfl ht⟩, by rw [ht]; try exact hh_22.1.1, fun q h9 hq => by rw [ht]; try exact hh_22.1.2.1 q h9 hq⟩) hh_22.1.2.2 dX9_isSameRow_75
                exact L47 (1501 - (0 : Int32).toInt : Int).toNat.succ 0 _ _ hh_18 (by first | omega | (refine ⟨?_, ?_⟩ <;> (first | omega | rfl | assumption | decide | exact Or.inl rfl | exact Or.inr rfl | (simp only; omega)))) (by omega) _ (lv_sub hl [1, 2, 3, 4, 5, 0] rfl)
              · skip
                have c_21' : z_16.toInt ≠ z_20.toInt := jb_eq_n (rfl) (rfl) c_21
                refine lv_iconst (v := 0) hx hb dX9_isSameRow_42 (by decide) ?_
                rw [hQ]
                exact W.zret (v := 0) hx hb hr (jb_nz (Or.inl rfl)) (fun t ht hW => ⟨⟨0, (), rfl, ⟨(Or.inl rfl), trivial⟩, hh_18.rt (M1 := []) [] rfl ht⟩, by rw [ht]; try exact hh_18.1.1, fun q h9 hq => by rw [ht]; try exact hh_18.1.2.1 q h9 hq⟩) hh_18.1.2.2 dX9_isSameRow_43
            · skip
              refine lv_iconst (v := 1) hx hb dX9_isSameRow_19 (by decide) ?_
              rw [hQ]
              exact W.zret (v := 1) hx hb hr (jb_nz (Or.inr rfl)) (fun t ht hW => ⟨⟨1, (), rfl, ⟨(Or.inr rfl), trivial⟩, hh_1.rt (M1 := []) [] rfl ht⟩, by rw [ht]; try exact hh_1.1.1, fun q h9 hq => by rw [ht]; try exact hh_1.1.2.1 q h9 hq⟩) hh_1.1.2.2 dX9_isSameRow_20
  exact L7 (42 - (0 : Int32).toInt : Int).toNat.succ (some r0) (some r1) 0 _ _ hh (Or.inr ⟨_, rfl, hg_r0⟩) (Or.inr ⟨_, rfl, hg_r1⟩) (by first | omega | (refine ⟨?_, ?_⟩ <;> (first | omega | rfl | assumption | decide | exact Or.inl rfl | exact Or.inr rfl | (simp only; omega)))) (by omega) _ (lv_sub hl [3, 4, 2, 1, 0] rfl)
set_option maxHeartbeats 4000000 in
set_option maxRecDepth 20000 in
theorem uX9_isSameRowZ (l : Launch) (dC : Nat → ClassId) (dI : Nat → Nat → Nat) (ca : Nat → ClassId) (base : Nat) (B : jF) (hB : jBok B) (hAp : jAp (dC, dI)) (hB11 : ∀ n G a H, B 11 n G a H ↔ jOb (dC, dI) 11 9 (F11 n G) a H) (hB101 : ∀ n G a H, B 101 n G a H ↔ jAr (dC, dI) (ca 1) (fun j z => True) n a H) (G0 : jT) (H0 : Heap) (r1 : Nat) : Met l yX9_isSameRow (jw yX9_isSameRow cX9_isSameRow 6 (some .boolean)) ({ frames := 0, cells := 0, slots := 0, locals := 0 }) (va_Pc [.null, .ref r1] (fun U => U.heap = H0 ∧ jX B base G0 [] H0 ∧ jG dC dI ca base U ∧ G0 r1 = some (11, 0) ∧ jP (dC, dI) G0 H0 [] ∧ True)) (va_Qi (S := Unit) (fun r u => (r = 0 ∨ r = 1) ∧ (True)) (fun u t => jRt (dC, dI) B base G0 EX9_isSameRowZ H0 [] t.heap) (jA base)) 0 0 (jA base) := by
  refine Met.ofW (cc := cX9_isSameRow) (maxL := 6) (ret := (some .boolean)) (by decide) rfl ?_
  intro p e s m args below meth c s₁ Bd hml hv
  obtain ⟨rfl, hH0, hX, hG, hg_r1, hP0, hp0⟩ := hv
  have hK := hG.1
  have hx := Bd.exec
  have hb := Bd.bytes
  have hr := Bd.returns
  have hts := atoms_spec (ws := (jw yX9_isSameRow cX9_isSameRow 6 (some .boolean))) Bd.pre
  have htw : ∀ w ∈ jWl, w.before _ s = true := fun w h => hts w (List.mem_cons_of_mem _ h)
  have hown : s.vm.findClass RX9 = some m.cls := findClass_of_methodNamed Bd.named
  have hlocks := Bd.notSynchronized
  obtain ⟨Q, hQ⟩ : ∃ Q, Q = MQ below (va_Qi (S := Unit) (fun r u => (r = 0 ∨ r = 1) ∧ (True)) (fun u t => jRt (dC, dI) B base G0 EX9_isSameRowZ H0 [] t.heap) (jA base)) ([.null, .ref r1] : List Value).toArray s 0 0 (jA base) := ⟨_, rfl⟩
  rw [← hQ]
  have hl := lv_entry ([.null, .ref r1]) (n := 6) (Nat.le_of_ble_eq_true rfl)
  rw [lg_entry_eq]
  generalize (lg_sl ([.null, .ref r1]) ++ List.replicate (6 - (lg_sl ([.null, .ref r1])).length) Slot.unset).toArray = ls at hl ⊢
  have hl : lv_has ls 6 [(0, .null), (1, .ref r1)] := hl
  generalize hR : (headSpec (jw yX9_isSameRow cX9_isSameRow 6 (some .boolean)) ({ frames := 0, cells := 0, slots := 0, locals := 0 })).room = R
  subst hH0
  have hh : jSt (dC, dI) B base G0 G0 EX9_isSameRowZ s.heap 0 0 [] [] [] s.heap [] := jSt.start hX hP0 jMc.nil jIs.nil
  clear hX hP0
  have hk0 : (0 : Int32).toInt = 0 := by decide
  have hk1 : (1 : Int32).toInt = 1 := by decide
  have hk41 : (41 : Int32).toInt = 41 := by decide
  have hly_11_0 := htw (u_lay RX9 TX9 0) (jWc_wsX90 _ (u_in_lay (by decide)))
  have hly_11_1 := htw (u_lay RX9 TX9 1) (jWc_wsX90 _ (u_in_lay (by decide)))
  have hlk_40 := (htw (.fieldLink RX9 40 "ProofServer$State" "units" "[I") (jWr_9 _ (List.mem_of_getElem? (i := 2) rfl)))
  have hlk_36 := (htw (.fieldLink RX9 36 "ProofServer$State" "ahead" "LProofServer$State;") (jWr_9 _ (List.mem_of_getElem? (i := 1) rfl)))
  refine j7_nld_n hx hb dX9_isSameRow_0 rfl (lv_at hl 0 rfl) ?_
  refine j7_nst_n (lv' := [(2, .null), (0, .null), (1, .ref r1)]) hx hb dX9_isSameRow_1 rfl hl (by decide) rfl (fun ls hl => ?_)
  refine lv_aload_n hx hb dX9_isSameRow_2 rfl (lv_at hl 2 rfl) ?_
  refine lv_astore_n (lv' := [(3, .ref r1), (2, .null), (0, .null), (1, .ref r1)]) hx hb dX9_isSameRow_3 rfl hl (by decide) rfl (fun ls hl => ?_)
  refine lv_iconst (v := 0) hx hb dX9_isSameRow_4 (by decide) ?_
  refine lv_istore (lv' := [(4, .int 0), (3, .ref r1), (2, .null), (0, .null), (1, .ref r1)]) hx hb dX9_isSameRow_5 hl (by decide) rfl (fun ls hl => ?_)
  have L7 : ∀ (N : Nat) (v2_1 : Option Nat) (v3_1 : Option Nat) (v4_1 : Int32) (H_1 : Heap) (locs_1 : List Loc), jSt (dC, dI) B base G0 G0 EX9_isSameRowZ s.heap 0 0 [] [] [] H_1 locs_1 → jQn 11 0 G0 v2_1 → jQn 11 0 G0 v3_1 → (0 ≤ v4_1.toInt ∧ v4_1.toInt ≤ 42) → (42 - v4_1.toInt : Int) < N → ∀ ls : Array Slot, lv_has ls 6 [(0, .null), (1, .ref r1), (2, va_rf v2_1), (3, va_rf v3_1), (4, .int v4_1)] → W p l e R s m ([.null, .ref r1] : List Value).toArray below meth c H_1 locs_1 0 0 Q (F0 m 7 ls []) := by
    intro N
    induction N with
    | zero => intro v2_1 v3_1 v4_1 H_1 locs_1 hh_1 hq_v2_1 hq_v3_1 hi_1 hm; exact absurd hm (by omega)
    | succ N L7 =>
      intro v2_1 v3_1 v4_1 H_1 locs_1 hh_1 hq_v2_1 hq_v3_1 hi_1 hm_1 ls hl
      obtain ⟨hi_1_0, hi_1_1⟩ := hi_1
      rcases hq_v2_1 with rfl | ⟨nv_2, rfl, hg_nv_2⟩
      · have hl : lv_has ls 6 [(0, .null), (1, .ref r1), (2, .null), (3, va_rf v3_1), (4, .int v4_1)] := hl
        rcases hq_v3_1 with rfl | ⟨nv_3, rfl, hg_nv_3⟩
        · have hl : lv_has ls 6 [(0, .null), (1, .ref r1), (2, .null), (3, .null), (4, .int v4_1)] := hl
          refine lv_iload hx hb dX9_isSameRow_7 (lv_at hl 4 rfl) ?_
          refine lv_bipush (v := 41) hx hb dX9_isSameRow_9 (by decide) ?_
          refine lv_icmp_gt (tgt := 98) hx hb dX9_isSameRow_11 (by decide) (fun c_4 => ?_) (fun c_4 => ?_)
          · skip
            have c_4' : v4_1.toInt > 41 := jb_gt (rfl) ((by decide)) c_4
            refine lv_iconst (v := 0) hx hb dX9_isSameRow_98 (by decide) ?_
            rw [hQ]
            exact W.zret (v := 0) hx hb hr (jb_nz (Or.inl rfl)) (fun t ht hW => ⟨⟨0, (), rfl, ⟨(Or.inl rfl), trivial⟩, hh_1.rt (M1 := []) [] rfl ht⟩, by rw [ht]; try exact hh_1.1.1, fun q h9 hq => by rw [ht]; try exact hh_1.1.2.1 q h9 hq⟩) hh_1.1.2.2 dX9_isSameRow_99
          · skip
            have c_4' : v4_1.toInt ≤ 41 := jb_gt_n (rfl) ((by decide)) c_4
            refine j7_nld_n hx hb dX9_isSameRow_14 rfl (lv_at hl 2 rfl) ?_
            refine j7_nld_n hx hb dX9_isSameRow_15 rfl (lv_at hl 3 rfl) ?_
            refine lv_acmp_ne (rx := none) (ry := none) (tgt := 21) hx hb dX9_isSameRow_16 (by decide) (fun c_5 => ?_) (fun c_5 => ?_)
            · skip
              exact absurd rfl c_5
            · skip
              refine lv_iconst (v := 1) hx hb dX9_isSameRow_19 (by decide) ?_
              rw [hQ]
              exact W.zret (v := 1) hx hb hr (jb_nz (Or.inr rfl)) (fun t ht hW => ⟨⟨1, (), rfl, ⟨(Or.inr rfl), trivial⟩, hh_1.rt (M1 := []) [] rfl ht⟩, by rw [ht]; try exact hh_1.1.1, fun q h9 hq => by rw [ht]; try exact hh_1.1.2.1 q h9 hq⟩) hh_1.1.2.2 dX9_isSameRow_20
        · have hl : lv_has ls 6 [(0, .null), (1, .ref r1), (2, .null), (3, .ref nv_3), (4, .int v4_1)] := hl
          refine lv_iload hx hb dX9_isSameRow_7 (lv_at hl 4 rfl) ?_
          refine lv_bipush (v := 41) hx hb dX9_isSameRow_9 (by decide) ?_
          refine lv_icmp_gt (tgt := 98) hx hb dX9_isSameRow_11 (by decide) (fun c_6 => ?_) (fun c_6 => ?_)
          · skip
            have c_6' : v4_1.toInt > 41 := jb_gt (rfl) ((by decide)) c_6
            refine lv_iconst (v := 0) hx hb dX9_isSameRow_98 (by decide) ?_
            rw [hQ]
            exact W.zret (v := 0) hx hb hr (jb_nz (Or.inl rfl)) (fun t ht hW => ⟨⟨0, (), rfl, ⟨(Or.inl rfl), trivial⟩, hh_1.rt (M1 := []) [] rfl ht⟩, by rw [ht]; try exact hh_1.1.1, fun q h9 hq => by rw [ht]; try exact hh_1.1.2.1 q h9 hq⟩) hh_1.1.2.2 dX9_isSameRow_99
          · skip
            have c_6' : v4_1.toInt ≤ 41 := jb_gt_n (rfl) ((by decide)) c_6
            refine j7_nld_n hx hb dX9_isSameRow_14 rfl (lv_at hl 2 rfl) ?_
            refine lv_aload_n hx hb dX9_isSameRow_15 rfl (lv_at hl 3 rfl) ?_
            refine lv_acmp_ne (rx := none) (ry := (some nv_3)) (tgt := 21) hx hb dX9_isSameRow_16 (by decide) (fun c_7 => ?_) (fun c_7 => ?_)
            · skip
              refine j7_nld_n hx hb dX9_isSameRow_21 rfl (lv_at hl 2 rfl) ?_
              refine lv_ifnullN (tgt := 42) hx hb dX9_isSameRow_22 (by decide) ?_
              refine lv_iconst (v := 0) hx hb dX9_isSameRow_42 (by decide) ?_
              rw [hQ]
              exact W.zret (v := 0) hx hb hr (jb_nz (Or.inl rfl)) (fun t ht hW => ⟨⟨0, (), rfl, ⟨(Or.inl rfl), trivial⟩, hh_1.rt (M1 := []) [] rfl ht⟩, by rw [ht]; try exact hh_1.1.1, fun q h9 hq => by rw [ht]; try exact hh_1.1.2.1 q h9 hq⟩) hh_1.1.2.2 dX9_isSameRow_43
            · skip
              cases c_7
      · have hl : lv_has ls 6 [(0, .null), (1, .ref r1), (2, .ref nv_2), (3, va_rf v3_1), (4, .int v4_1)] := hl
        rcases hq_v3_1 with rfl | ⟨nv_8, rfl, hg_nv_8⟩
        · have hl : lv_has ls 6 [(0, .null), (1, .ref r1), (2, .ref nv_2), (3, .null), (4, .int v4_1)] := hl
          refine lv_iload hx hb dX9_isSameRow_7 (lv_at hl 4 rfl) ?_
          refine lv_bipush (v := 41) hx hb dX9_isSameRow_9 (by decide) ?_
          refine lv_icmp_gt (tgt := 98) hx hb dX9_isSameRow_11 (by decide) (fun c_9 => ?_) (fun c_9 => ?_)
          · skip
            have c_9' : v4_1.toInt > 41 := jb_gt (rfl) ((by decide)) c_9
            refine lv_iconst (v := 0) hx hb dX9_isSameRow_98 (by decide) ?_
            rw [hQ]
            exact W.zret (v := 0) hx hb hr (jb_nz (Or.inl rfl)) (fun t ht hW => ⟨⟨0, (), rfl, ⟨(Or.inl rfl), trivial⟩, hh_1.rt (M1 := []) [] rfl ht⟩, by rw [ht]; try exact hh_1.1.1, fun q h9 hq => by rw [ht]; try exact hh_1.1.2.1 q h9 hq⟩) hh_1.1.2.2 dX9_isSameRow_99
          · skip
            have c_9' : v4_1.toInt ≤ 41 := jb_gt_n (rfl) ((by decide)) c_9
            refine lv_aload_n hx hb dX9_isSameRow_14 rfl (lv_at hl 2 rfl) ?_
            refine j7_nld_n hx hb dX9_isSameRow_15 rfl (lv_at hl 3 rfl) ?_
            refine lv_acmp_ne (rx := (some nv_2)) (ry := none) (tgt := 21) hx hb dX9_isSameRow_16 (by decide) (fun c_10 => ?_) (fun c_10 => ?_)
            · skip
              refine lv_aload_n hx hb dX9_isSameRow_21 rfl (lv_at hl 2 rfl) ?_
              refine lv_ifnull hx hb dX9_isSameRow_22 ?_
              refine j7_nld_n hx hb dX9_isSameRow_25 rfl (lv_at hl 3 rfl) ?_
              refine lv_ifnullN (tgt := 42) hx hb dX9_isSameRow_26 (by decide) ?_
              refine lv_iconst (v := 0) hx hb dX9_isSameRow_42 (by decide) ?_
              rw [hQ]
              exact W.zret (v := 0) hx hb hr (jb_nz (Or.inl rfl)) (fun t ht hW => ⟨⟨0, (), rfl, ⟨(Or.inl rfl), trivial⟩, hh_1.rt (M1 := []) [] rfl ht⟩, by rw [ht]; try exact hh_1.1.1, fun q h9 hq => by rw [ht]; try exact hh_1.1.2.1 q h9 hq⟩) hh_1.1.2.2 dX9_isSameRow_43
            · skip
              cases c_10
        · have hl : lv_has ls 6 [(0, .null), (1, .ref r1), (2, .ref nv_2), (3, .ref nv_8), (4, .int v4_1)] := hl
          refine lv_iload hx hb dX9_isSameRow_7 (lv_at hl 4 rfl) ?_
          refine lv_bipush (v := 41) hx hb dX9_isSameRow_9 (by decide) ?_
          refine lv_icmp_gt (tgt := 98) hx hb dX9_isSameRow_11 (by decide) (fun c_11 => ?_) (fun c_11 => ?_)
          · skip
            have c_11' : v4_1.toInt > 41 := jb_gt (rfl) ((by decide)) c_11
            refine lv_iconst (v := 0) hx hb dX9_isSameRow_98 (by decide) ?_
            rw [hQ]
            exact W.zret (v := 0) hx hb hr (jb_nz (Or.inl rfl)) (fun t ht hW => ⟨⟨0, (), rfl, ⟨(Or.inl rfl), trivial⟩, hh_1.rt (M1 := []) [] rfl ht⟩, by rw [ht]; try exact hh_1.1.1, fun q h9 hq => by rw [ht]; try exact hh_1.1.2.1 q h9 hq⟩) hh_1.1.2.2 dX9_isSameRow_99
          · skip
            have c_11' : v4_1.toInt ≤ 41 := jb_gt_n (rfl) ((by decide)) c_11
            refine lv_aload_n hx hb dX9_isSameRow_14 rfl (lv_at hl 2 rfl) ?_
            refine lv_aload_n hx hb dX9_isSameRow_15 rfl (lv_at hl 3 rfl) ?_
            refine lv_acmp_ne (rx := (some nv_2)) (ry := (some nv_8)) (tgt := 21) hx hb dX9_isSameRow_16 (by decide) (fun c_12 => ?_) (fun c_12 => ?_)
            · skip
              refine lv_aload_n hx hb dX9_isSameRow_21 rfl (lv_at hl 2 rfl) ?_
              refine lv_ifnull hx hb dX9_isSameRow_22 ?_
              refine lv_aload_n hx hb dX9_isSameRow_25 rfl (lv_at hl 3 rfl) ?_
              refine lv_ifnull hx hb dX9_isSameRow_26 ?_
              refine lv_aload_n hx hb dX9_isSameRow_29 rfl (lv_at hl 2 rfl) ?_
              obtain ⟨v_13, hv_13, hh_14⟩ := hh_1.pin (C := RX9) (T := TX9) (N := 9) hB11 rfl (by decide) hg_nv_2 (i := 1) (by decide) rfl
              clear hh_1
              obtain ⟨units_15, nunits_15, rfl, hg_units_15, hn_units_15⟩ := hv_13
              refine j7_read hx hb hown hK (C := RX9) (T := TX9) (N := 9) rfl hly_11_1 hlk_40 (hh_14.at 0 rfl) dX9_isSameRow_30 ?_
              refine j7_len hx hb hK hh_14 hB101 1 rfl (by decide) hg_units_15 (by omega) dX9_isSameRow_33 (fun z_16 hz_16 => ?_)
              refine lv_aload_n hx hb dX9_isSameRow_34 rfl (lv_at hl 3 rfl) ?_
              obtain ⟨v_17, hv_17, hh_18⟩ := hh_14.pin (C := RX9) (T := TX9) (N := 9) hB11 rfl (by decide) hg_nv_8 (i := 1) (by decide) rfl
              clear hh_14
              obtain ⟨units_19, nunits_19, rfl, hg_units_19, hn_units_19⟩ := hv_17
              refine j7_read hx hb hown hK (C := RX9) (T := TX9) (N := 9) rfl hly_11_1 hlk_40 (hh_18.at 0 rfl) dX9_isSameRow_35 ?_
              refine j7_len hx hb hK hh_18 hB101 1 rfl (by decide) hg_units_19 (by omega) dX9_isSameRow_38 (fun z_20 hz_20 => ?_)
              refine lv_icmp_eq (tgt := 44) hx hb dX9_isSameRow_39 (by decide) (fun c_21 => ?_) (fun c_21 => ?_)
              · skip
                have c_21' : z_16.toInt = z_20.toInt := jb_eq (rfl) (rfl) c_21
                refine lv_iconst (v := 0) hx hb dX9_isSameRow_44 (by decide) ?_
                refine lv_istore (lv' := [(5, .int 0), (0, .null), (1, .ref r1), (2, .ref nv_2), (3, .ref nv_8), (4, .int v4_1)]) hx hb dX9_isSameRow_45 hl (by decide) rfl (fun ls hl => ?_)
                have L47 : ∀ (N : Nat) (v5_22 : Int32) (H_22 : Heap) (locs_22 : List Loc), jSt (dC, dI) B base G0 G0 EX9_isSameRowZ s.heap 0 0 [(nv_8, 11, 1, .ref units_19), (nv_2, 11, 1, .ref units_15)] [] [] H_22 locs_22 → (0 ≤ v5_22.toInt ∧ v5_22.toInt ≤ 1500) → (1501 - v5_22.toInt : Int) < N → ∀ ls : Array Slot, lv_has ls 6 [(0, .null), (1, .ref r1), (2, .ref nv_2), (3, .ref nv_8), (4, .int v4_1), (5, .int v5_22)] → W p l e R s m ([.null, .ref r1] : List Value).toArray below meth c H_22 locs_22 0 0 Q (F0 m 47 ls []) := by
                  intro N
                  induction N with
                  | zero => intro v5_22 H_22 locs_22 hh_22  hi_22 hm; exact absurd hm (by omega)
                  | succ N L47 =>
                    intro v5_22 H_22 locs_22 hh_22  hi_22 hm_22 ls hl
                    obtain ⟨hi_22_0, hi_22_1⟩ := hi_22
                    refine lv_iload hx hb dX9_isSameRow_47 (lv_at hl 5 rfl) ?_
                    refine lv_aload_n hx hb dX9_isSameRow_49 rfl (lv_at hl 2 rfl) ?_
                    refine j7_read hx hb hown hK (C := RX9) (T := TX9) (N := 9) rfl hly_11_1 hlk_40 (hh_22.at 1 rfl) dX9_isSameRow_50 ?_
                    refine j7_len hx hb hK hh_22 hB101 1 rfl (by decide) hg_units_15 (by omega) dX9_isSameRow_53 (fun z_23 hz_23 => ?_)
                    refine lv_icmp_ge (tgt := 82) hx hb dX9_isSameRow_54 (by decide) (fun c_24 => ?_) (fun c_24 => ?_)
                    · skip
                      have c_24' : v5_22.toInt ≥ z_23.toInt := jb_ge (rfl) (rfl) c_24
                      refine lv_aload_n hx hb dX9_isSameRow_82 rfl (lv_at hl 2 rfl) ?_
                      obtain ⟨v_25, hv_25, hh_26⟩ := hh_22.pin (C := RX9) (T := TX9) (N := 9) hB11 rfl (by decide) hg_nv_2 (i := 0) (by decide) rfl
                      clear hh_22
                      rcases hv_25 with rfl | ⟨ahead_27, rfl, hg_ahead_27⟩
                      · refine j7_read hx hb hown hK (C := RX9) (T := TX9) (N := 9) rfl hly_11_0 hlk_36 (hh_26.at 0 rfl) dX9_isSameRow_83 ?_
                        refine j7_nst_n (lv' := [(2, .null), (0, .null), (1, .ref r1), (3, .ref nv_8), (4, .int v4_1), (5, .int v5_22)]) hx hb dX9_isSameRow_86 rfl hl (by decide) rfl (fun ls hl => ?_)
                        refine lv_aload_n hx hb dX9_isSameRow_87 rfl (lv_at hl 3 rfl) ?_
                        obtain ⟨v_28, hv_28, hh_29⟩ := hh_26.pin (C := RX9) (T := TX9) (N := 9) hB11 rfl (by decide) hg_nv_8 (i := 0) (by decide) rfl
                        clear hh_26
                        rcases hv_28 with rfl | ⟨ahead_30, rfl, hg_ahead_30⟩
                        · refine j7_read hx hb hown hK (C := RX9) (T := TX9) (N := 9) rfl hly_11_0 hlk_36 (hh_29.at 0 rfl) dX9_isSameRow_88 ?_
                          refine j7_nst_n (lv' := [(3, .null), (2, .null), (0, .null), (1, .ref r1), (4, .int v4_1), (5, .int v5_22)]) hx hb dX9_isSameRow_91 rfl hl (by decide) rfl (fun ls hl => ?_)
                          obtain ⟨z_31, ez_31⟩ : ∃ y : Int32, y = v4_1 + 1 := ⟨_, rfl⟩
                          refine lv_iinc (v := z_31) (lv' := [(4, .int z_31), (3, .null), (2, .null), (0, .null), (1, .ref r1), (5, .int v5_22)]) hx hb dX9_isSameRow_92 hl (k := 4) rfl (by rw [ez_31]; rfl) (by decide) rfl (fun ls hl => ?_)
                          have hz_31 : z_31.toInt = v4_1.toInt + 1 := by rw [ez_31]; exact jb_iadd2 (rfl) (by decide) (by omega)
                          refine lv_goto (tgt := 7) hx hb dX9_isSameRow_95 (by decide) ?_
                          exact L7 none none z_31 _ _ (hh_29.sub (L1 := []) [] rfl (M1 := []) [] rfl (I1 := []) [] rfl) (Or.inl rfl) (Or.inl rfl) (by first | omega | (refine ⟨?_, ?_⟩ <;> (first | omega | rfl | assumption | decide | exact Or.inl rfl | exact Or.inr rfl | (simp only; omega)))) (by omega) _ (lv_sub hl [3, 4, 2, 1, 0] rfl)
                        · refine j7_read hx hb hown hK (C := RX9) (T := TX9) (N := 9) rfl hly_11_0 hlk_36 (hh_29.at 0 rfl) dX9_isSameRow_88 ?_
                          refine lv_astore_n (lv' := [(3, .ref ahead_30), (2, .null), (0, .null), (1, .ref r1), (4, .int v4_1), (5, .int v5_22)]) hx hb dX9_isSameRow_91 rfl hl (by decide) rfl (fun ls hl => ?_)
                          obtain ⟨z_32, ez_32⟩ : ∃ y : Int32, y = v4_1 + 1 := ⟨_, rfl⟩
                          refine lv_iinc (v := z_32) (lv' := [(4, .int z_32), (3, .ref ahead_30), (2, .null), (0, .null), (1, .ref r1), (5, .int v5_22)]) hx hb dX9_isSameRow_92 hl (k := 4) rfl (by rw [ez_32]; rfl) (by decide) rfl (fun ls hl => ?_)
                          have hz_32 : z_32.toInt = v4_1.toInt + 1 := by rw [ez_32]; exact jb_iadd2 (rfl) (by decide) (by omega)
                          refine lv_goto (tgt := 7) hx hb dX9_isSameRow_95 (by decide) ?_
                          exact L7 none (some ahead_30) z_32 _ _ (hh_29.sub (L1 := []) [] rfl (M1 := []) [] rfl (I1 := []) [] rfl) (Or.inl rfl) (Or.inr ⟨_, rfl, hg_ahead_30⟩) (by first | omega | (refine ⟨?_, ?_⟩ <;> (first | omega | rfl | assumption | decide | exact Or.inl rfl | exact Or.inr rfl | (simp only; omega)))) (by omega) _ (lv_sub hl [3, 4, 2, 1, 0] rfl)
                      · refine j7_read hx hb hown hK (C := RX9) (T := TX9) (N := 9) rfl hly_11_0 hlk_36 (hh_26.at 0 rfl) dX9_isSameRow_83 ?_
                        refine lv_astore_n (lv' := [(2, .ref ahead_27), (0, .null), (1, .ref r1), (3, .ref nv_8), (4, .int v4_1), (5, .int v5_22)]) hx hb dX9_isSameRow_86 rfl hl (by decide) rfl (fun ls hl => ?_)
                        refine lv_aload_n hx hb dX9_isSameRow_87 rfl (lv_at hl 3 rfl) ?_
                        obtain ⟨v_33, hv_33, hh_34⟩ := hh_26.pin (C := RX9) (T := TX9) (N := 9) hB11 rfl (by decide) hg_nv_8 (i := 0) (by decide) rfl
                        clear hh_26
                        rcases hv_33 with rfl | ⟨ahead_35, rfl, hg_ahead_35⟩
                        · refine j7_read hx hb hown hK (C := RX9) (T := TX9) (N := 9) rfl hly_11_0 hlk_36 (hh_34.at 0 rfl) dX9_isSameRow_88 ?_
                          refine j7_nst_n (lv' := [(3, .null), (2, .ref ahead_27), (0, .null), (1, .ref r1), (4, .int v4_1), (5, .int v5_22)]) hx hb dX9_isSameRow_91 rfl hl (by decide) rfl (fun ls hl => ?_)
                          obtain ⟨z_36, ez_36⟩ : ∃ y : Int32, y = v4_1 + 1 := ⟨_, rfl⟩
                          refine lv_iinc (v := z_36) (lv' := [(4, .int z_36), (3, .null), (2, .ref ahead_27), (0, .null), (1, .ref r1), (5, .int v5_22)]) hx hb dX9_isSameRow_92 hl (k := 4) rfl (by rw [ez_36]; rfl) (by decide) rfl (fun ls hl => ?_)
                          have hz_36 : z_36.toInt = v4_1.toInt + 1 := by rw [ez_36]; exact jb_iadd2 (rfl) (by decide) (by omega)
                          refine lv_goto (tgt := 7) hx hb dX9_isSameRow_95 (by decide) ?_
                          exact L7 (some ahead_27) none z_36 _ _ (hh_34.sub (L1 := []) [] rfl (M1 := []) [] rfl (I1 := []) [] rfl) (Or.inr ⟨_, rfl, hg_ahead_27⟩) (Or.inl rfl) (by first | omega | (refine ⟨?_, ?_⟩ <;> (first | omega | rfl | assumption | decide | exact Or.inl rfl | exact Or.inr rfl | (simp only; omega)))) (by omega) _ (lv_sub hl [3, 4, 2, 1, 0] rfl)
                        · refine j7_read hx hb hown hK (C := RX9) (T := TX9) (N := 9) rfl hly_11_0 hlk_36 (hh_34.at 0 rfl) dX9_isSameRow_88 ?_
                          refine lv_astore_n (lv' := [(3, .ref ahead_35), (2, .ref ahead_27), (0, .null), (1, .ref r1), (4, .int v4_1), (5, .int v5_22)]) hx hb dX9_isSameRow_91 rfl hl (by decide) rfl (fun ls hl => ?_)
                          obtain ⟨z_37, ez_37⟩ : ∃ y : Int32, y = v4_1 + 1 := ⟨_, rfl⟩
                          refine lv_iinc (v := z_37) (lv' := [(4, .int z_37), (3, .ref ahead_35), (2, .ref ahead_27), (0, .null), (1, .ref r1), (5, .int v5_22)]) hx hb dX9_isSameRow_92 hl (k := 4) rfl (by rw [ez_37]; rfl) (by decide) rfl (fun ls hl => ?_)
                          have hz_37 : z_37.toInt = v4_1.toInt + 1 := by rw [ez_37]; exact jb_iadd2 (rfl) (by decide) (by omega)
                          refine lv_goto (tgt := 7) hx hb dX9_isSameRow_95 (by decide) ?_
                          exact L7 (some ahead_27) (some ahead_35) z_37 _ _ (hh_34.sub (L1 := []) [] rfl (M1 := []) [] rfl (I1 := []) [] rfl) (Or.inr ⟨_, rfl, hg_ahead_27⟩) (Or.inr ⟨_, rfl, hg_ahead_35⟩) (by first | omega | (refine ⟨?_, ?_⟩ <;> (first | omega | rfl | assumption | decide | exact Or.inl rfl | exact Or.inr rfl | (simp only; omega)))) (by omega) _ (lv_sub hl [3, 4, 2, 1, 0] rfl)
                    · skip
                      have c_24' : v5_22.toInt < z_23.toInt := jb_ge_n (rfl) (rfl) c_24
                      refine lv_aload_n hx hb dX9_isSameRow_57 rfl (lv_at hl 2 rfl) ?_
                      refine j7_read hx hb hown hK (C := RX9) (T := TX9) (N := 9) rfl hly_11_1 hlk_40 (hh_22.at 1 rfl) dX9_isSameRow_58 ?_
                      refine lv_iload hx hb dX9_isSameRow_61 (lv_at hl 5 rfl) ?_
                      refine j7_iald hx hb hK hh_22 hB101 1 rfl (by decide) hg_units_15 (x := v5_22.toInt) (rfl) (by omega) dX9_isSameRow_63 (fun z_38 (hz_38 : True) => ?_)
                      refine lv_aload_n hx hb dX9_isSameRow_64 rfl (lv_at hl 3 rfl) ?_
                      refine j7_read hx hb hown hK (C := RX9) (T := TX9) (N := 9) rfl hly_11_1 hlk_40 (hh_22.at 0 rfl) dX9_isSameRow_65 ?_
                      refine lv_iload hx hb dX9_isSameRow_68 (lv_at hl 5 rfl) ?_
                      refine j7_iald hx hb hK hh_22 hB101 1 rfl (by decide) hg_units_19 (x := v5_22.toInt) (rfl) (by omega) dX9_isSameRow_70 (fun z_39 (hz_39 : True) => ?_)
                      refine lv_icmp_eq (tgt := 76) hx hb dX9_isSameRow_71 (by decide) (fun c_40 => ?_) (fun c_40 => ?_)
                      · skip
                        have c_40' : z_38.toInt = z_39.toInt := jb_eq (rfl) (rfl) c_40
                        obtain ⟨z_41, ez_41⟩ : ∃ y : Int32, y = v5_22 + 1 := ⟨_, rfl⟩
                        refine lv_iinc (v := z_41) (lv' := [(5, .int z_41), (0, .null), (1, .ref r1), (2, .ref nv_2), (3, .ref nv_8), (4, .int v4_1)]) hx hb dX9_isSameRow_76 hl (k := 5) rfl (by rw [ez_41]; rfl) (by decide) rfl (fun ls hl => ?_)
                        have hz_41 : z_41.toInt = v5_22.toInt + 1 := by rw [ez_41]; exact jb_iadd2 (rfl) (by decide) (by omega)
                        refine lv_goto (tgt := 47) hx hb dX9_isSameRow_79 (by decide) ?_
                        exact L47 z_41 _ _ hh_22 (by first | omega | (refine ⟨?_, ?_⟩ <;> (first | omega | rfl | assumption | decide | exact Or.inl rfl | exact Or.inr rfl | (simp only; omega)))) (by omega) _ (lv_sub hl [1, 2, 3, 4, 5, 0] rfl)
                      · skip
                        have c_40' : z_38.toInt ≠ z_39.toInt := jb_eq_n (rfl) (rfl) c_40
                        refine lv_iconst (v := 0) hx hb dX9_isSameRow_74 (by decide) ?_
                        rw [hQ]
                        exact W.zret (v := 0) hx hb hr (jb_nz (Or.inl rfl)) (fun t ht hW => ⟨⟨0, (), rfl, ⟨(Or.inl rfl), trivial⟩, hh_22.rt (M1 := []) [] rfl ht⟩, by rw [ht]; try exact hh_22.1.1, fun q h9 hq => by rw [ht]; try exact hh_22.1.2.1 q h9 hq⟩) hh_22.1.2.2 dX9_isSameRow_75
                exact L47 (1501 - (0 : Int32).toInt : Int).toNat.succ 0 _ _ hh_18 (by first | omega | (refine ⟨?_, ?_⟩ <;> (first | omega | rfl | assumption | decide | exact Or.inl rfl | exact Or.inr rfl | (simp only; omega)))) (by omega) _ (lv_sub hl [1, 2, 3, 4, 5, 0] rfl)
              · skip
                have c_21' : z_16.toInt ≠ z_20.toInt := jb_eq_n (rfl) (rfl) c_21
                refine lv_iconst (v := 0) hx hb dX9_isSameRow_42 (by decide) ?_
                rw [hQ]
                exact W.zret (v := 0) hx hb hr (jb_nz (Or.inl rfl)) (fun t ht hW => ⟨⟨0, (), rfl, ⟨(Or.inl rfl), trivial⟩, hh_18.rt (M1 := []) [] rfl ht⟩, by rw [ht]; try exact hh_18.1.1, fun q h9 hq => by rw [ht]; try exact hh_18.1.2.1 q h9 hq⟩) hh_18.1.2.2 dX9_isSameRow_43
            · skip
              refine lv_iconst (v := 1) hx hb dX9_isSameRow_19 (by decide) ?_
              rw [hQ]
              exact W.zret (v := 1) hx hb hr (jb_nz (Or.inr rfl)) (fun t ht hW => ⟨⟨1, (), rfl, ⟨(Or.inr rfl), trivial⟩, hh_1.rt (M1 := []) [] rfl ht⟩, by rw [ht]; try exact hh_1.1.1, fun q h9 hq => by rw [ht]; try exact hh_1.1.2.1 q h9 hq⟩) hh_1.1.2.2 dX9_isSameRow_20
  exact L7 (42 - (0 : Int32).toInt : Int).toNat.succ none (some r1) 0 _ _ hh (Or.inl rfl) (Or.inr ⟨_, rfl, hg_r1⟩) (by first | omega | (refine ⟨?_, ?_⟩ <;> (first | omega | rfl | assumption | decide | exact Or.inl rfl | exact Or.inr rfl | (simp only; omega)))) (by omega) _ (lv_sub hl [3, 4, 2, 1, 0] rfl)
set_option maxHeartbeats 4000000 in
set_option maxRecDepth 20000 in
theorem uX1_stateBehind (l : Launch) (dC : Nat → ClassId) (dI : Nat → Nat → Nat) (ca : Nat → ClassId) (base : Nat) (B : jF) (hB : jBok B) (hAp : jAp (dC, dI)) (hB3 : ∀ n G a H, B 3 n G a H ↔ jOb (dC, dI) 3 17 (F3 n G) a H) (hB11 : ∀ n G a H, B 11 n G a H ↔ jOb (dC, dI) 11 9 (F11 n G) a H) (hB210 : ∀ n G a H, B 210 n G a H ↔ jAq (dC, dI) (ca 6) (jQn 11 0) n G a H) (G0 : jT) (H0 : Heap) (r0 : Nat) (a1 : Int32) (r2 : Nat) (n0 : Nat) : Met l yX1_stateBehind (jw yX1_stateBehind cX1_stateBehind 3 (some (.object "ProofServer$State"))) ({ frames := 0, cells := 0, slots := 0, locals := 0 }) (va_Pc [.ref r0, .int a1, .ref r2] (fun U => U.heap = H0 ∧ jX B base G0 [] H0 ∧ jG dC dI ca base U ∧ jK2 dC dI ca U ∧ G0 r0 = some (3, n0) ∧ G0 r2 = some (11, 0) ∧ jP (dC, dI) G0 H0 [] ∧ True)) (jQx (S := Unit) (fun v u => jRf G0 11 0 v) (fun u t => jRt (dC, dI) B base G0 EX1_stateBehind H0 [] t.heap) (jA base)) 0 0 (jA base) := by
  refine Met.ofW (cc := cX1_stateBehind) (maxL := 3) (ret := (some (.object "ProofServer$State"))) (by decide) rfl ?_
  intro p e s m args below meth c s₁ Bd hml hv
  obtain ⟨rfl, hH0, hX, hG, hK2, hg_r0, hg_r2, hP0, hp0⟩ := hv
  have hK := hG.1
  have hx := Bd.exec
  have hb := Bd.bytes
  have hr := Bd.returns
  have hts := atoms_spec (ws := (jw yX1_stateBehind cX1_stateBehind 3 (some (.object "ProofServer$State")))) Bd.pre
  have htw : ∀ w ∈ jWl, w.before _ s = true := fun w h => hts w (List.mem_cons_of_mem _ h)
  have hown : s.vm.findClass RX1 = some m.cls := findClass_of_methodNamed Bd.named
  have hlocks := Bd.notSynchronized
  obtain ⟨Q, hQ⟩ : ∃ Q, Q = MQ below (jQx (S := Unit) (fun v u => jRf G0 11 0 v) (fun u t => jRt (dC, dI) B base G0 EX1_stateBehind H0 [] t.heap) (jA base)) ([.ref r0, .int a1, .ref r2] : List Value).toArray s 0 0 (jA base) := ⟨_, rfl⟩
  rw [← hQ]
  have hl := lv_entry ([.ref r0, .int a1, .ref r2]) (n := 3) (Nat.le_of_ble_eq_true rfl)
  rw [lg_entry_eq]
  generalize (lg_sl ([.ref r0, .int a1, .ref r2]) ++ List.replicate (3 - (lg_sl ([.ref r0, .int a1, .ref r2])).length) Slot.unset).toArray = ls at hl ⊢
  have hl : lv_has ls 3 [(0, .ref r0), (1, .int a1), (2, .ref r2)] := hl
  generalize hR : (headSpec (jw yX1_stateBehind cX1_stateBehind 3 (some (.object "ProofServer$State"))) ({ frames := 0, cells := 0, slots := 0, locals := 0 })).room = R
  subst hH0
  have hh : jSt (dC, dI) B base G0 G0 EX1_stateBehind s.heap 0 0 [] [] [] s.heap [] := jSt.start hX hP0 jMc.nil jIs.nil
  clear hX hP0
  have hk0 : (0 : Int32).toInt = 0 := by decide
  have hk1 : (1 : Int32).toInt = 1 := by decide
  have hk40 : (40 : Int32).toInt = 40 := by decide
  have hly_3_9 := htw (u_lay RX1 TX1 9) (jWc_wsX10 _ (u_in_lay (by decide)))
  have hlk_32 := (htw (.fieldLink RX1 32 "ProofServer$Document" "behind" "[LProofServer$State;") (jWr_10 _ (List.mem_of_getElem? (i := 12) rfl)))
  have hrg_a1 := jb_rng a1
  refine lv_iload_n hx hb dX1_stateBehind_0 rfl (lv_at hl 1 rfl) ?_
  refine lv_iconst (v := 1) hx hb dX1_stateBehind_1 (by decide) ?_
  refine lv_icmp_lt (tgt := 22) hx hb dX1_stateBehind_2 (by decide) (fun c_1 => ?_) (fun c_1 => ?_)
  · skip
    have c_1' : a1.toInt < 1 := jb_lt (rfl) ((by decide)) c_1
    refine lv_aload_n hx hb dX1_stateBehind_22 rfl (lv_at hl 2 rfl) ?_
    refine lv_goto (tgt := 34) hx hb dX1_stateBehind_23 (by decide) ?_
    rw [hQ]
    exact W.aret (v := .ref r2) hx hb hr (Or.inl ⟨_, rfl⟩) (Or.inr ⟨_, rfl⟩) (fun t ht hW => ⟨⟨.ref r2, (), rfl, ⟨_, rfl, hg_r2⟩, hh.rt (M1 := []) [] rfl ht⟩, by rw [ht]; try exact hh.1.1, fun q h9 hq => by rw [ht]; try exact hh.1.2.1 q h9 hq⟩) hh.1.2.2 dX1_stateBehind_34
  · skip
    have c_1' : a1.toInt ≥ 1 := jb_lt_n (rfl) ((by decide)) c_1
    refine lv_iload_n hx hb dX1_stateBehind_5 rfl (lv_at hl 1 rfl) ?_
    refine lv_bipush (v := 40) hx hb dX1_stateBehind_6 (by decide) ?_
    refine lv_icmp_gt (tgt := 22) hx hb dX1_stateBehind_8 (by decide) (fun c_2 => ?_) (fun c_2 => ?_)
    · skip
      have c_2' : a1.toInt > 40 := jb_gt (rfl) ((by decide)) c_2
      refine lv_aload_n hx hb dX1_stateBehind_22 rfl (lv_at hl 2 rfl) ?_
      refine lv_goto (tgt := 34) hx hb dX1_stateBehind_23 (by decide) ?_
      rw [hQ]
      exact W.aret (v := .ref r2) hx hb hr (Or.inl ⟨_, rfl⟩) (Or.inr ⟨_, rfl⟩) (fun t ht hW => ⟨⟨.ref r2, (), rfl, ⟨_, rfl, hg_r2⟩, hh.rt (M1 := []) [] rfl ht⟩, by rw [ht]; try exact hh.1.1, fun q h9 hq => by rw [ht]; try exact hh.1.2.1 q h9 hq⟩) hh.1.2.2 dX1_stateBehind_34
    · skip
      have c_2' : a1.toInt ≤ 40 := jb_gt_n (rfl) ((by decide)) c_2
      obtain ⟨v_3, hv_3, hh_4⟩ := hh.pin (C := RX1) (T := TX1) (N := 17) hB3 rfl (by decide) hg_r0 (i := 9) (by decide) rfl
      obtain ⟨behind_5, rfl, hg_behind_5⟩ := hv_3
      obtain ⟨fq_6, hfq_6a, hfq_6p⟩ := hh_4.aq hB210 (by decide) hg_behind_5
      have hh_7 := hh_4.addI (jQc.ie hfq_6a hg_behind_5 (by decide) (by decide))
      clear hh_4
      refine lv_aload_n hx hb dX1_stateBehind_11 rfl (lv_at hl 0 rfl) ?_
      refine j7_read hx hb hown hK (C := RX1) (T := TX1) (N := 17) rfl hly_3_9 hlk_32 (hh_7.at 0 rfl) dX1_stateBehind_12 ?_
      refine lv_iload_n hx hb dX1_stateBehind_15 rfl (lv_at hl 1 rfl) ?_
      refine lv_iconst (v := 1) hx hb dX1_stateBehind_16 (by decide) ?_
      refine lv_isub hx hb dX1_stateBehind_17 ?_
      refine lv_topi (fun z_8 ez_8 => ?_)
      have hz_8 : z_8.toInt = a1.toInt - 1 := by rw [ez_8]; exact jb_isub2 (rfl) ((by decide)) (by omega)
      refine j7_qaldI hx hb hK2 hh_7 hB210 2 rfl (by decide) hg_behind_5 (x := z_8.toInt) (rfl) (by omega) (hh_7.iv 0 rfl) dX1_stateBehind_18 (fun o_9 ho_9 heo_9 => ?_)
      rw [show z_8.toInt = (a1.toInt - 1) by omega] at heo_9
      rcases ho_9 with rfl | ⟨el_10, rfl, hg_el_10⟩
      · simp only [va_rf]
        refine lv_ifnonnullN hx hb dX1_stateBehind_19 ?_
        refine lv_aload_n hx hb dX1_stateBehind_22 rfl (lv_at hl 2 rfl) ?_
        refine lv_goto (tgt := 34) hx hb dX1_stateBehind_23 (by decide) ?_
        rw [hQ]
        exact W.aret (v := .ref r2) hx hb hr (Or.inl ⟨_, rfl⟩) (Or.inr ⟨_, rfl⟩) (fun t ht hW => ⟨⟨.ref r2, (), rfl, ⟨_, rfl, hg_r2⟩, hh_7.rt (M1 := []) [] rfl ht⟩, by rw [ht]; try exact hh_7.1.1, fun q h9 hq => by rw [ht]; try exact hh_7.1.2.1 q h9 hq⟩) hh_7.1.2.2 dX1_stateBehind_34
      · simp only [va_rf]
        refine lv_ifnonnull (tgt := 26) hx hb dX1_stateBehind_19 (by decide) ?_
        refine lv_aload_n hx hb dX1_stateBehind_26 rfl (lv_at hl 0 rfl) ?_
        refine j7_read hx hb hown hK (C := RX1) (T := TX1) (N := 17) rfl hly_3_9 hlk_32 (hh_7.at 0 rfl) dX1_stateBehind_27 ?_
        refine lv_iload_n hx hb dX1_stateBehind_30 rfl (lv_at hl 1 rfl) ?_
        refine lv_iconst (v := 1) hx hb dX1_stateBehind_31 (by decide) ?_
        refine lv_isub hx hb dX1_stateBehind_32 ?_
        refine lv_topi (fun z_11 ez_11 => ?_)
        have hz_11 : z_11.toInt = a1.toInt - 1 := by rw [ez_11]; exact jb_isub2 (rfl) ((by decide)) (by omega)
        refine j7_qaldI hx hb hK2 hh_7 hB210 2 rfl (by decide) hg_behind_5 (x := z_11.toInt) (rfl) (by omega) (hh_7.iv 0 rfl) dX1_stateBehind_33 (fun o_12 ho_12 heo_12 => ?_)
        rw [show z_11.toInt = (a1.toInt - 1) by omega] at heo_12
        rcases ho_12 with rfl | ⟨el_13, rfl, hg_el_13⟩
        · simp only [va_rf]
          exact absurd (heo_12.trans heo_9.symm) (by simp)
        · simp only [va_rf]
          obtain rfl : el_10 = el_13 := (Option.some.inj (heo_12.trans heo_9.symm)).symm
          rw [hQ]
          exact W.aret (v := .ref el_10) hx hb hr (Or.inl ⟨_, rfl⟩) (Or.inr ⟨_, rfl⟩) (fun t ht hW => ⟨⟨.ref el_10, (), rfl, ⟨_, rfl, hg_el_10⟩, hh_7.rt (M1 := []) [] rfl ht⟩, by rw [ht]; try exact hh_7.1.1, fun q h9 hq => by rw [ht]; try exact hh_7.1.2.1 q h9 hq⟩) hh_7.1.2.2 dX1_stateBehind_34
set_option maxHeartbeats 4000000 in
set_option maxRecDepth 20000 in
theorem uX1_addChecked (l : Launch) (dC : Nat → ClassId) (dI : Nat → Nat → Nat) (ca : Nat → ClassId) (base : Nat) (B : jF) (hB : jBok B) (hAp : jAp (dC, dI)) (hB3 : ∀ n G a H, B 3 n G a H ↔ jOb (dC, dI) 3 17 (F3 n G) a H) (hB11 : ∀ n G a H, B 11 n G a H ↔ jOb (dC, dI) 11 9 (F11 n G) a H) (hB210 : ∀ n G a H, B 210 n G a H ↔ jAq (dC, dI) (ca 6) (jQn 11 0) n G a H) (G0 : jT) (H0 : Heap) (r0 : Nat) (r1 : Nat) : Met l yX1_addChecked (jw yX1_addChecked cX1_addChecked 2 none) ({ frames := 0, cells := 0, slots := 0, locals := 0 }) (va_Pc [.ref r0, .ref r1] (fun U => U.heap = H0 ∧ jX B base G0 [] H0 ∧ jG dC dI ca base U ∧ jK2 dC dI ca U ∧ G0 r1 = some (11, 0) ∧ G0 r0 = some (3, 0) ∧ jP (dC, dI) G0 H0 [] ∧ True)) (va_Qv (S := Unit) (fun u => True) (fun u t => jRt (dC, dI) B base G0 EX1_addChecked H0 [] t.heap) (jA base)) 0 0 (jA base) := by
  refine Met.ofW (cc := cX1_addChecked) (maxL := 2) (ret := none) (by decide) rfl ?_
  intro p e s m args below meth c s₁ Bd hml hv
  obtain ⟨rfl, hH0, hX, hG, hK2, hg_r1, hg_r0, hP0, hp0⟩ := hv
  have hK := hG.1
  have hx := Bd.exec
  have hb := Bd.bytes
  have hr := Bd.returns
  have hts := atoms_spec (ws := (jw yX1_addChecked cX1_addChecked 2 none)) Bd.pre
  have htw : ∀ w ∈ jWl, w.before _ s = true := fun w h => hts w (List.mem_cons_of_mem _ h)
  have hown : s.vm.findClass RX1 = some m.cls := findClass_of_methodNamed Bd.named
  have hlocks := Bd.notSynchronized
  obtain ⟨Q, hQ⟩ : ∃ Q, Q = MQ below (va_Qv (S := Unit) (fun u => True) (fun u t => jRt (dC, dI) B base G0 EX1_addChecked H0 [] t.heap) (jA base)) ([.ref r0, .ref r1] : List Value).toArray s 0 0 (jA base) := ⟨_, rfl⟩
  rw [← hQ]
  have hl := lv_entry ([.ref r0, .ref r1]) (n := 2) (Nat.le_of_ble_eq_true rfl)
  rw [lg_entry_eq]
  generalize (lg_sl ([.ref r0, .ref r1]) ++ List.replicate (2 - (lg_sl ([.ref r0, .ref r1])).length) Slot.unset).toArray = ls at hl ⊢
  have hl : lv_has ls 2 [(0, .ref r0), (1, .ref r1)] := hl
  generalize hR : (headSpec (jw yX1_addChecked cX1_addChecked 2 none) ({ frames := 0, cells := 0, slots := 0, locals := 0 })).room = R
  subst hH0
  have hh : jSt (dC, dI) B base G0 G0 EX1_addChecked s.heap 0 0 [] [] [] s.heap [] := jSt.start hX hP0 jMc.nil jIs.nil
  clear hX hP0
  have hk0 : (0 : Int32).toInt = 0 := by decide
  have hk1 : (1 : Int32).toInt = 1 := by decide
  have hly_3_4 := htw (u_lay RX1 TX1 4) (jWc_wsX10 _ (u_in_lay (by decide)))
  have hly_3_9 := htw (u_lay RX1 TX1 9) (jWc_wsX10 _ (u_in_lay (by decide)))
  have hly_3_10 := htw (u_lay RX1 TX1 10) (jWc_wsX10 _ (u_in_lay (by decide)))
  have hlk_72 := (htw (.fieldLink RX1 72 "ProofServer$Document" "checked" "I") (jWr_42 _ (List.mem_of_getElem? (i := 20) rfl)))
  have hlk_69 := (htw (.fieldLink RX1 69 "ProofServer$Document" "sentences" "I") (jWr_29 _ (List.mem_of_getElem? (i := 14) rfl)))
  have hlk_32 := (htw (.fieldLink RX1 32 "ProofServer$Document" "behind" "[LProofServer$State;") (jWr_10 _ (List.mem_of_getElem? (i := 12) rfl)))
  refine lv_aload_n hx hb dX1_addChecked_0 rfl (lv_at hl 0 rfl) ?_
  obtain ⟨v_1, hv_1, hh_2⟩ := hh.pin (C := RX1) (T := TX1) (N := 17) hB3 rfl (by decide) hg_r0 (i := 10) (by decide) rfl
  clear hh
  obtain ⟨checked_3, rfl, hlochecked_3, hhichecked_3⟩ := hv_1
  refine j7_read hx hb hown hK (C := RX1) (T := TX1) (N := 17) rfl hly_3_10 hlk_72 (hh_2.at 0 rfl) dX1_addChecked_1 ?_
  refine lv_aload_n hx hb dX1_addChecked_4 rfl (lv_at hl 0 rfl) ?_
  obtain ⟨v_4, hv_4, hh_5⟩ := hh_2.pin (C := RX1) (T := TX1) (N := 17) hB3 rfl (by decide) hg_r0 (i := 4) (by decide) rfl
  clear hh_2
  obtain ⟨sentences_6, rfl, hlosentences_6, hhisentences_6⟩ := hv_4
  refine j7_read hx hb hown hK (C := RX1) (T := TX1) (N := 17) rfl hly_3_4 hlk_69 (hh_5.at 0 rfl) dX1_addChecked_5 ?_
  refine lv_icmp_ge (tgt := 31) hx hb dX1_addChecked_8 (by decide) (fun c_7 => ?_) (fun c_7 => ?_)
  · skip
    have c_7' : checked_3.toInt ≥ sentences_6.toInt := jb_ge (rfl) (rfl) c_7
    rw [hQ]
    exact W.vret hx hb hr (fun t ht hW => ⟨⟨(), rfl, trivial, hh_5.rt (M1 := []) [] rfl ht⟩, by rw [ht]; try exact hh_5.1.1, fun q h9 hq => by rw [ht]; try exact hh_5.1.2.1 q h9 hq⟩) hh_5.1.2.2 dX1_addChecked_31
  · skip
    have c_7' : checked_3.toInt < sentences_6.toInt := jb_ge_n (rfl) (rfl) c_7
    refine lv_aload_n hx hb dX1_addChecked_11 rfl (lv_at hl 0 rfl) ?_
    obtain ⟨v_8, hv_8, hh_9⟩ := hh_5.pin (C := RX1) (T := TX1) (N := 17) hB3 rfl (by decide) hg_r0 (i := 9) (by decide) rfl
    clear hh_5
    obtain ⟨behind_10, rfl, hg_behind_10⟩ := hv_8
    refine j7_read hx hb hown hK (C := RX1) (T := TX1) (N := 17) rfl hly_3_9 hlk_32 (hh_9.at 0 rfl) dX1_addChecked_12 ?_
    refine lv_aload_n hx hb dX1_addChecked_15 rfl (lv_at hl 0 rfl) ?_
    refine j7_read hx hb hown hK (C := RX1) (T := TX1) (N := 17) rfl hly_3_10 hlk_72 (hh_9.at 2 rfl) dX1_addChecked_16 ?_
    refine lv_aload_n hx hb dX1_addChecked_19 rfl (lv_at hl 1 rfl) ?_
    refine j7_qast hx hb hK2 hh_9 hB hB210 2 rfl (by decide) (by decide) rfl rfl rfl hg_behind_10 (x := checked_3.toInt) (rfl) (by omega) hB11 (T := TX9) (N := 9) rfl (by decide) hg_r1 (Or.inr ⟨_, rfl, hg_r1⟩) dX1_addChecked_20 (fun H_11 locs_11 hh_11 => ?_)
    clear hh_9
    refine lv_aload_n hx hb dX1_addChecked_21 rfl (lv_at hl 0 rfl) ?_
    refine lv_dup hx hb dX1_addChecked_22 rfl ?_
    refine j7_read hx hb hown hK (C := RX1) (T := TX1) (N := 17) rfl hly_3_10 hlk_72 (hh_11.at 2 rfl) dX1_addChecked_23 ?_
    refine lv_iconst (v := 1) hx hb dX1_addChecked_26 (by decide) ?_
    refine lv_iadd hx hb dX1_addChecked_27 ?_
    refine lv_topi (fun z_12 ez_12 => ?_)
    have hz_12 : z_12.toInt = checked_3.toInt + 1 := by rw [ez_12]; exact jb_iadd2 (rfl) ((by decide)) (by omega)
    refine j7_put hx hb hown hK hh_11 hB hAp hB3 (C := RX1) (T := TX1) (N := 17) rfl (by decide) hg_r0 (i := 10) (by decide) hly_3_10 rfl hlk_72 rfl (ty := .int) (v := .int z_12) (by decide +kernel) rfl rfl (⟨_, rfl, by omega, by omega⟩) rfl (L1 := [(r0, 3, 9, .ref behind_10), (r0, 3, 4, .int sentences_6)]) [0, 1] rfl rfl rfl dX1_addChecked_28 (fun H_13 locs_13 hh_13 => ?_)
    clear hh_11
    rw [hQ]
    exact W.vret hx hb hr (fun t ht hW => ⟨⟨(), rfl, trivial, hh_13.rt (M1 := []) [] rfl ht⟩, by rw [ht]; try exact hh_13.1.1, fun q h9 hq => by rw [ht]; try exact hh_13.1.2.1 q h9 hq⟩) hh_13.1.2.2 dX1_addChecked_31
set_option maxHeartbeats 4000000 in
set_option maxRecDepth 20000 in
theorem uX1_keepChecked (l : Launch) (dC : Nat → ClassId) (dI : Nat → Nat → Nat) (ca : Nat → ClassId) (base : Nat) (B : jF) (hB : jBok B) (hAp : jAp (dC, dI)) (hB3 : ∀ n G a H, B 3 n G a H ↔ jOb (dC, dI) 3 17 (F3 n G) a H) (hB11 : ∀ n G a H, B 11 n G a H ↔ jOb (dC, dI) 11 9 (F11 n G) a H) (hB101 : ∀ n G a H, B 101 n G a H ↔ jAr (dC, dI) (ca 1) (fun j z => True) n a H) (hB171 : ∀ n G a H, B 171 n G a H ↔ jAr (dC, dI) (ca 1) (fun j z => 0 ≤ z.toInt ∧ z.toInt ≤ 1500) n a H) (hB172 : ∀ n G a H, B 172 n G a H ↔ jAr (dC, dI) (ca 1) (fun j z => 0 ≤ z.toInt ∧ z.toInt ≤ 1500) n a H) (hB210 : ∀ n G a H, B 210 n G a H ↔ jAq (dC, dI) (ca 6) (jQn 11 0) n G a H) (G0 : jT) (H0 : Heap) (r0 : Nat) : Met l yX1_keepChecked (jw yX1_keepChecked cX1_keepChecked 3 (some .boolean)) ({ frames := 1, cells := 0, slots := 0, locals := 23 }) (va_Pc [.ref r0] (fun U => U.heap = H0 ∧ jX B base G0 [] H0 ∧ jG dC dI ca base U ∧ jK2 dC dI ca U ∧ G0 r0 = some (3, 0) ∧ jP (dC, dI) G0 H0 [] ∧ True)) (va_Qi (S := Unit) (fun r u => (r = 0 ∨ r = 1) ∧ (True)) (fun u t => jRt (dC, dI) B base G0 EX1_keepChecked H0 [] t.heap) (jA base)) 0 0 (jA base) := by
  refine Met.ofW (cc := cX1_keepChecked) (maxL := 3) (ret := (some .boolean)) (by decide) rfl ?_
  intro p e s m args below meth c s₁ Bd hml hv
  obtain ⟨rfl, hH0, hX, hG, hK2, hg_r0, hP0, hp0⟩ := hv
  have hK := hG.1
  have hx := Bd.exec
  have hb := Bd.bytes
  have hr := Bd.returns
  have hts := atoms_spec (ws := (jw yX1_keepChecked cX1_keepChecked 3 (some .boolean))) Bd.pre
  have htw : ∀ w ∈ jWl, w.before _ s = true := fun w h => hts w (List.mem_cons_of_mem _ h)
  have hown : s.vm.findClass RX1 = some m.cls := findClass_of_methodNamed Bd.named
  have hlocks := Bd.notSynchronized
  obtain ⟨Q, hQ⟩ : ∃ Q, Q = MQ below (va_Qi (S := Unit) (fun r u => (r = 0 ∨ r = 1) ∧ (True)) (fun u t => jRt (dC, dI) B base G0 EX1_keepChecked H0 [] t.heap) (jA base)) ([.ref r0] : List Value).toArray s 0 0 (jA base) := ⟨_, rfl⟩
  rw [← hQ]
  have hl := lv_entry ([.ref r0]) (n := 3) (Nat.le_of_ble_eq_true rfl)
  rw [lg_entry_eq]
  generalize (lg_sl ([.ref r0]) ++ List.replicate (3 - (lg_sl ([.ref r0])).length) Slot.unset).toArray = ls at hl ⊢
  have hl : lv_has ls 3 [(0, .ref r0)] := hl
  generalize hR : (headSpec (jw yX1_keepChecked cX1_keepChecked 3 (some .boolean)) ({ frames := 1, cells := 0, slots := 0, locals := 23 })).room = R
  subst hH0
  have hh : jSt (dC, dI) B base G0 G0 EX1_keepChecked s.heap 0 0 [] [] [] s.heap [] := jSt.start hX hP0 jMc.nil jIs.nil
  clear hX hP0
  have hk0 : (0 : Int32).toInt = 0 := by decide
  have hk1 : (1 : Int32).toInt = 1 := by decide
  have hly_3_9 := htw (u_lay RX1 TX1 9) (jWc_wsX10 _ (u_in_lay (by decide)))
  have hly_3_10 := htw (u_lay RX1 TX1 10) (jWc_wsX10 _ (u_in_lay (by decide)))
  have hly_3_11 := htw (u_lay RX1 TX1 11) (jWc_wsX10 _ (u_in_lay (by decide)))
  have hly_11_1 := htw (u_lay RX9 TX9 1) (jWc_wsX90 _ (u_in_lay (by decide)))
  have hlk_72 := (htw (.fieldLink RX1 72 "ProofServer$Document" "checked" "I") (jWr_42 _ (List.mem_of_getElem? (i := 20) rfl)))
  have hlk_32 := (htw (.fieldLink RX1 32 "ProofServer$Document" "behind" "[LProofServer$State;") (jWr_10 _ (List.mem_of_getElem? (i := 12) rfl)))
  have hlk_98 := (htw (.fieldLink RX1 98 "ProofServer$State" "units" "[I") (jWr_42 _ (List.mem_of_getElem? (i := 21) rfl)))
  have hlk_105 := (htw (.fieldLink RX1 105 "ProofServer$Document" "checking" "[I") (jWr_42 _ (List.mem_of_getElem? (i := 22) rfl)))
  refine lv_iconst (v := 0) hx hb dX1_keepChecked_0 (by decide) ?_
  refine lv_istore_n (lv' := [(1, .int 0), (0, .ref r0)]) hx hb dX1_keepChecked_1 rfl hl (by decide) rfl (fun ls hl => ?_)
  obtain ⟨v_1, hv_1, hh_2⟩ := hh.pin (C := RX1) (T := TX1) (N := 17) hB3 rfl (by decide) hg_r0 (i := 9) (by decide) rfl
  obtain ⟨behind_3, rfl, hg_behind_3⟩ := hv_1
  obtain ⟨v_4, hv_4, hh_5⟩ := hh_2.pin (C := RX1) (T := TX1) (N := 17) hB3 rfl (by decide) hg_r0 (i := 10) (by decide) rfl
  obtain ⟨checked_6, rfl, hlochecked_6, hhichecked_6⟩ := hv_4
  have L2 : ∀ (N : Nat) (v1_7 : Int32) (H_7 : Heap) (locs_7 : List Loc), jSt (dC, dI) B base G0 G0 EX1_keepChecked s.heap 0 0 [(r0, 3, 10, .int checked_6), (r0, 3, 9, .ref behind_3)] [] [] H_7 locs_7 → (0 ≤ v1_7.toInt ∧ v1_7.toInt ≤ checked_6.toInt) → (checked_6.toInt - v1_7.toInt : Int) < N → ∀ ls : Array Slot, lv_has ls 3 [(0, .ref r0), (1, .int v1_7)] → W p l e R s m ([.ref r0] : List Value).toArray below meth c H_7 locs_7 0 0 Q (F0 m 2 ls []) := by
    intro N
    induction N with
    | zero => intro v1_7 H_7 locs_7 hh_7  hi_7 hm; exact absurd hm (by omega)
    | succ N L2 =>
      intro v1_7 H_7 locs_7 hh_7  hi_7 hm_7 ls hl
      obtain ⟨hi_7_0, hi_7_1⟩ := hi_7
      obtain ⟨fq_8, hfq_8a, hfq_8p⟩ := hh_7.aq hB210 (by decide) hg_behind_3
      have hh_9 := hh_7.addI (jQc.ie hfq_8a hg_behind_3 (by decide) (by decide))
      clear hh_7
      refine lv_iload_n hx hb dX1_keepChecked_2 rfl (lv_at hl 1 rfl) ?_
      refine lv_aload_n hx hb dX1_keepChecked_3 rfl (lv_at hl 0 rfl) ?_
      refine j7_read hx hb hown hK (C := RX1) (T := TX1) (N := 17) rfl hly_3_10 hlk_72 (hh_9.at 0 rfl) dX1_keepChecked_4 ?_
      refine lv_icmp_ge (tgt := 42) hx hb dX1_keepChecked_7 (by decide) (fun c_10 => ?_) (fun c_10 => ?_)
      · skip
        have c_10' : v1_7.toInt ≥ checked_6.toInt := jb_ge (rfl) (rfl) c_10
        refine lv_iload_n hx hb dX1_keepChecked_42 rfl (lv_at hl 1 rfl) ?_
        refine lv_aload_n hx hb dX1_keepChecked_43 rfl (lv_at hl 0 rfl) ?_
        refine j7_read hx hb hown hK (C := RX1) (T := TX1) (N := 17) rfl hly_3_10 hlk_72 (hh_9.at 0 rfl) dX1_keepChecked_44 ?_
        have C74 : ∀ (w0_11 : Int32) (H_11 : Heap) (locs_11 : List Loc), jSt (dC, dI) B base G0 G0 EX1_keepChecked s.heap 0 0 [(r0, 3, 10, .int checked_6), (r0, 3, 9, .ref behind_3)] [] [([(210, 0)], jQc dC dI (ca 6) behind_3 40 fq_8)] H_11 locs_11 → (w0_11 = 0 ∨ w0_11 = 1) → (True) → ∀ ls : Array Slot, lv_has ls 3 [(0, .ref r0), (1, .int v1_7)] → W p l e R s m ([.ref r0] : List Value).toArray below meth c H_11 locs_11 0 0 Q (F0 m 74 ls [.int w0_11]) := by
          intro w0_11 H_11 locs_11 hh_11 hb_w0_11 hi_11 ls hl
          have hb_w0_11' := jb_01 hb_w0_11
          refine lv_istore_n (lv' := [(2, .int w0_11), (0, .ref r0), (1, .int v1_7)]) hx hb dX1_keepChecked_74 rfl hl (by decide) rfl (fun ls hl => ?_)
          refine lv_aload_n hx hb dX1_keepChecked_75 rfl (lv_at hl 1 rfl) ?_
          refine lv_iload_n hx hb dX1_keepChecked_76 rfl (lv_at hl 2 rfl) ?_
          refine j7_put hx hb hown hK hh_11 hB hAp hB3 (C := RX1) (T := TX1) (N := 17) rfl (by decide) hg_r0 (i := 10) (by decide) hly_3_10 rfl hlk_72 rfl (ty := .int) (v := .int v1_7) (by decide +kernel) rfl rfl (⟨_, rfl, by omega, by omega⟩) rfl (L1 := [(r0, 3, 9, .ref behind_3)]) [1] rfl rfl rfl dX1_keepChecked_77 (fun H_12 locs_12 hh_12 => ?_)
          clear hh_11
          refine lv_iload_n hx hb dX1_keepChecked_80 rfl (lv_at hl 0 rfl) ?_
          rw [hQ]
          exact W.zret (v := w0_11) hx hb hr (jb_nz (hb_w0_11)) (fun t ht hW => ⟨⟨w0_11, (), rfl, ⟨(hb_w0_11), trivial⟩, hh_12.rt (M1 := []) [] rfl ht⟩, by rw [ht]; try exact hh_12.1.1, fun q h9 hq => by rw [ht]; try exact hh_12.1.2.1 q h9 hq⟩) hh_12.1.2.2 dX1_keepChecked_81
        refine lv_icmp_ne (tgt := 73) hx hb dX1_keepChecked_47 (by decide) (fun c_13 => ?_) (fun c_13 => ?_)
        · skip
          have c_13' : v1_7.toInt ≠ checked_6.toInt := jb_ne (rfl) (rfl) c_13
          refine lv_iconst (v := 0) hx hb dX1_keepChecked_73 (by decide) ?_
          exact C74 0 _ _ hh_9 (Or.inl rfl) (trivial) _ (lv_sub hl [0, 1] rfl)
        · skip
          have c_13' : v1_7.toInt = checked_6.toInt := jb_ne_n (rfl) (rfl) c_13
          refine lv_aload_n hx hb dX1_keepChecked_50 rfl (lv_at hl 0 rfl) ?_
          obtain ⟨v_14, hv_14, hh_15⟩ := hh_9.pin (C := RX1) (T := TX1) (N := 17) hB3 rfl (by decide) hg_r0 (i := 11) (by decide) rfl
          clear hh_9
          rcases hv_14 with rfl | ⟨checking_16, nchecking_16, rfl, hg_checking_16, hn_checking_16⟩
          · refine j7_read hx hb hown hK (C := RX1) (T := TX1) (N := 17) rfl hly_3_11 hlk_105 (hh_15.at 0 rfl) dX1_keepChecked_51 ?_
            refine lv_ifnullN (tgt := 73) hx hb dX1_keepChecked_54 (by decide) ?_
            refine lv_iconst (v := 0) hx hb dX1_keepChecked_73 (by decide) ?_
            exact C74 0 _ _ (hh_15.sub (L1 := [(r0, 3, 10, .int checked_6), (r0, 3, 9, .ref behind_3)]) [1, 2] rfl (M1 := []) [] rfl (I1 := [([(210, 0)], jQc dC dI (ca 6) behind_3 40 fq_8)]) [0] rfl) (Or.inl rfl) (trivial) _ (lv_sub hl [0, 1] rfl)
          · refine j7_read hx hb hown hK (C := RX1) (T := TX1) (N := 17) rfl hly_3_11 hlk_105 (hh_15.at 0 rfl) dX1_keepChecked_51 ?_
            refine lv_ifnull hx hb dX1_keepChecked_54 ?_
            refine lv_aload_n hx hb dX1_keepChecked_57 rfl (lv_at hl 0 rfl) ?_
            refine lv_iload_n hx hb dX1_keepChecked_58 rfl (lv_at hl 1 rfl) ?_
            refine lv_aload_n hx hb dX1_keepChecked_59 rfl (lv_at hl 0 rfl) ?_
            refine j7_read hx hb hown hK (C := RX1) (T := TX1) (N := 17) rfl hly_3_11 hlk_105 (hh_15.at 0 rfl) dX1_keepChecked_60 ?_
            refine va_calli (A0 := jA base) (H0 := s.heap) (va_runV (As := [.int v1_7, .ref checking_16]) (rest := []) ⟨hx, hb, hml, hown, hts⟩ (uX1_isSentence l dC dI ca base B hB hAp hB3 hB101 hB171 hB172 G0 H_7 r0 v1_7 checking_16 nchecking_16) (cwV 2 hts (jgV (jWr_42 _ (List.mem_of_getElem? (i := 23) rfl)) (jWr_43 _ (List.mem_of_getElem? (i := 0) rfl)) (jWr_43 _ (List.mem_of_getElem? (i := 1) rfl)) (jWr_2 _ (List.mem_of_getElem? (i := 21) rfl)) (jWr_43 _ (List.mem_of_getElem? (i := 2) rfl))) rfl rfl rfl (by decide +kernel) ⟨by rw [← hR]; exact Nat.le_of_ble_eq_true rfl, by rw [← hR]; exact Nat.le_of_ble_eq_true rfl⟩) ⟨fun a U g mk q => by obtain ⟨q0, q1, q2, qK, q10, q11, q12, q13⟩ := q; exact ⟨q0, q1, q2, jG.calling g mk a qK, q10, q11, q12, q13⟩, hh_15.recv (C := RX1) (T := TX1) (N := 17) hB3 rfl (by decide) hg_r0 hK, fun U hU hW => ⟨rfl, hU, hh_15.2.1, hG.step hW hU hh_15.1, hg_checking_16, hg_r0, jP.nil, by first | omega | rfl | assumption | decide | exact Or.inl rfl | exact Or.inr rfl | (simp only; omega)⟩⟩ rfl rfl hl.1 rfl (lv_room (Nat.le_of_ble_eq_true rfl)) dX1_keepChecked_63 ⟨Nat.zero_le _, Nat.zero_le _⟩) hh_15.1 (fun q _ h => h) (fun q h => h) (fun r_18 u_17 t_17 H_17 locs_17 ht_17 hvm_17 hr_18 hb_17 hz_17 hk_17 hS_17 => ?_)
            rw [ht_17] at hb_17
            obtain ⟨hb_171, hb_172, hb_173, hb_174, hb_175⟩ := hb_17
            have hh_17 : jSt (dC, dI) B base G0 G0 EX1_keepChecked s.heap 0 0 [(r0, 3, 11, .ref checking_16), (r0, 3, 10, .int checked_6), (r0, 3, 9, .ref behind_3)] [] [([(210, 0)], jQc dC dI (ca 6) behind_3 40 fq_8)] H_17 locs_17 := ((hh_15.call hb_171 hb_172 hb_173 hb_174 hS_17 rfl (L1 := [(r0, 3, 11, .ref checking_16), (r0, 3, 10, .int checked_6), (r0, 3, 9, .ref behind_3)]) [0, 1, 2] rfl rfl (M1 := []) [] rfl rfl (I1 := [([(210, 0)], jQc dC dI (ca 6) behind_3 40 fq_8)]) [0] rfl rfl).more hb_175)
            clear hh_15 ht_17 hvm_17 hz_17 hk_17 hS_17 hb_171 hb_172 hb_173 hb_174 hb_175
            obtain ⟨hr_18b, hr_18p⟩ := hr_18
            have hr_18' := jb_01 hr_18b
            refine lv_if_eq (tgt := 73) hx hb dX1_keepChecked_66 (by decide) (fun c_19 => ?_) (fun c_19 => ?_)
            · skip
              have c_19' : r_18.toInt = 0 := jb_eq (rfl) ((by decide)) c_19
              refine lv_iconst (v := 0) hx hb dX1_keepChecked_73 (by decide) ?_
              exact C74 0 _ _ (hh_17.sub (L1 := [(r0, 3, 10, .int checked_6), (r0, 3, 9, .ref behind_3)]) [1, 2] rfl (M1 := []) [] rfl (I1 := [([(210, 0)], jQc dC dI (ca 6) behind_3 40 fq_8)]) [0] rfl) (Or.inl rfl) (trivial) _ (lv_sub hl [0, 1] rfl)
            · skip
              have c_19' : r_18.toInt ≠ 0 := jb_eq_n (rfl) ((by decide)) c_19
              refine lv_iconst (v := 1) hx hb dX1_keepChecked_69 (by decide) ?_
              refine lv_goto (tgt := 74) hx hb dX1_keepChecked_70 (by decide) ?_
              exact C74 1 _ _ (hh_17.sub (L1 := [(r0, 3, 10, .int checked_6), (r0, 3, 9, .ref behind_3)]) [1, 2] rfl (M1 := []) [] rfl (I1 := [([(210, 0)], jQc dC dI (ca 6) behind_3 40 fq_8)]) [0] rfl) (Or.inr rfl) (trivial) _ (lv_sub hl [0, 1] rfl)
      · skip
        have c_10' : v1_7.toInt < checked_6.toInt := jb_ge_n (rfl) (rfl) c_10
        refine lv_aload_n hx hb dX1_keepChecked_10 rfl (lv_at hl 0 rfl) ?_
        refine j7_read hx hb hown hK (C := RX1) (T := TX1) (N := 17) rfl hly_3_9 hlk_32 (hh_9.at 1 rfl) dX1_keepChecked_11 ?_
        refine lv_iload_n hx hb dX1_keepChecked_14 rfl (lv_at hl 1 rfl) ?_
        refine j7_qaldI hx hb hK2 hh_9 hB210 2 rfl (by decide) hg_behind_3 (x := v1_7.toInt) (rfl) (by omega) (hh_9.iv 0 rfl) dX1_keepChecked_15 (fun o_20 ho_20 heo_20 => ?_)
        rcases ho_20 with rfl | ⟨el_21, rfl, hg_el_21⟩
        · simp only [va_rf]
          refine lv_ifnullN (tgt := 42) hx hb dX1_keepChecked_16 (by decide) ?_
          refine lv_iload_n hx hb dX1_keepChecked_42 rfl (lv_at hl 1 rfl) ?_
          refine lv_aload_n hx hb dX1_keepChecked_43 rfl (lv_at hl 0 rfl) ?_
          refine j7_read hx hb hown hK (C := RX1) (T := TX1) (N := 17) rfl hly_3_10 hlk_72 (hh_9.at 0 rfl) dX1_keepChecked_44 ?_
          have C74 : ∀ (w0_22 : Int32) (H_22 : Heap) (locs_22 : List Loc), jSt (dC, dI) B base G0 G0 EX1_keepChecked s.heap 0 0 [(r0, 3, 10, .int checked_6), (r0, 3, 9, .ref behind_3)] [] [([(210, 0)], jQc dC dI (ca 6) behind_3 40 fq_8)] H_22 locs_22 → (w0_22 = 0 ∨ w0_22 = 1) → (True) → ∀ ls : Array Slot, lv_has ls 3 [(0, .ref r0), (1, .int v1_7)] → W p l e R s m ([.ref r0] : List Value).toArray below meth c H_22 locs_22 0 0 Q (F0 m 74 ls [.int w0_22]) := by
            intro w0_22 H_22 locs_22 hh_22 hb_w0_22 hi_22 ls hl
            have hb_w0_22' := jb_01 hb_w0_22
            refine lv_istore_n (lv' := [(2, .int w0_22), (0, .ref r0), (1, .int v1_7)]) hx hb dX1_keepChecked_74 rfl hl (by decide) rfl (fun ls hl => ?_)
            refine lv_aload_n hx hb dX1_keepChecked_75 rfl (lv_at hl 1 rfl) ?_
            refine lv_iload_n hx hb dX1_keepChecked_76 rfl (lv_at hl 2 rfl) ?_
            refine j7_put hx hb hown hK hh_22 hB hAp hB3 (C := RX1) (T := TX1) (N := 17) rfl (by decide) hg_r0 (i := 10) (by decide) hly_3_10 rfl hlk_72 rfl (ty := .int) (v := .int v1_7) (by decide +kernel) rfl rfl (⟨_, rfl, by omega, by omega⟩) rfl (L1 := [(r0, 3, 9, .ref behind_3)]) [1] rfl rfl rfl dX1_keepChecked_77 (fun H_23 locs_23 hh_23 => ?_)
            clear hh_22
            refine lv_iload_n hx hb dX1_keepChecked_80 rfl (lv_at hl 0 rfl) ?_
            rw [hQ]
            exact W.zret (v := w0_22) hx hb hr (jb_nz (hb_w0_22)) (fun t ht hW => ⟨⟨w0_22, (), rfl, ⟨(hb_w0_22), trivial⟩, hh_23.rt (M1 := []) [] rfl ht⟩, by rw [ht]; try exact hh_23.1.1, fun q h9 hq => by rw [ht]; try exact hh_23.1.2.1 q h9 hq⟩) hh_23.1.2.2 dX1_keepChecked_81
          refine lv_icmp_ne (tgt := 73) hx hb dX1_keepChecked_47 (by decide) (fun c_24 => ?_) (fun c_24 => ?_)
          · skip
            have c_24' : v1_7.toInt ≠ checked_6.toInt := jb_ne (rfl) (rfl) c_24
            refine lv_iconst (v := 0) hx hb dX1_keepChecked_73 (by decide) ?_
            exact C74 0 _ _ hh_9 (Or.inl rfl) (trivial) _ (lv_sub hl [0, 1] rfl)
          · skip
            have c_24' : v1_7.toInt = checked_6.toInt := jb_ne_n (rfl) (rfl) c_24
            refine lv_aload_n hx hb dX1_keepChecked_50 rfl (lv_at hl 0 rfl) ?_
            obtain ⟨v_25, hv_25, hh_26⟩ := hh_9.pin (C := RX1) (T := TX1) (N := 17) hB3 rfl (by decide) hg_r0 (i := 11) (by decide) rfl
            clear hh_9
            rcases hv_25 with rfl | ⟨checking_27, nchecking_27, rfl, hg_checking_27, hn_checking_27⟩
            · refine j7_read hx hb hown hK (C := RX1) (T := TX1) (N := 17) rfl hly_3_11 hlk_105 (hh_26.at 0 rfl) dX1_keepChecked_51 ?_
              refine lv_ifnullN (tgt := 73) hx hb dX1_keepChecked_54 (by decide) ?_
              refine lv_iconst (v := 0) hx hb dX1_keepChecked_73 (by decide) ?_
              exact C74 0 _ _ (hh_26.sub (L1 := [(r0, 3, 10, .int checked_6), (r0, 3, 9, .ref behind_3)]) [1, 2] rfl (M1 := []) [] rfl (I1 := [([(210, 0)], jQc dC dI (ca 6) behind_3 40 fq_8)]) [0] rfl) (Or.inl rfl) (trivial) _ (lv_sub hl [0, 1] rfl)
            · refine j7_read hx hb hown hK (C := RX1) (T := TX1) (N := 17) rfl hly_3_11 hlk_105 (hh_26.at 0 rfl) dX1_keepChecked_51 ?_
              refine lv_ifnull hx hb dX1_keepChecked_54 ?_
              refine lv_aload_n hx hb dX1_keepChecked_57 rfl (lv_at hl 0 rfl) ?_
              refine lv_iload_n hx hb dX1_keepChecked_58 rfl (lv_at hl 1 rfl) ?_
              refine lv_aload_n hx hb dX1_keepChecked_59 rfl (lv_at hl 0 rfl) ?_
              refine j7_read hx hb hown hK (C := RX1) (T := TX1) (N := 17) rfl hly_3_11 hlk_105 (hh_26.at 0 rfl) dX1_keepChecked_60 ?_
              refine va_calli (A0 := jA base) (H0 := s.heap) (va_runV (As := [.int v1_7, .ref checking_27]) (rest := []) ⟨hx, hb, hml, hown, hts⟩ (uX1_isSentence l dC dI ca base B hB hAp hB3 hB101 hB171 hB172 G0 H_7 r0 v1_7 checking_27 nchecking_27) (cwV 2 hts (jgV (jWr_42 _ (List.mem_of_getElem? (i := 23) rfl)) (jWr_43 _ (List.mem_of_getElem? (i := 0) rfl)) (jWr_43 _ (List.mem_of_getElem? (i := 1) rfl)) (jWr_2 _ (List.mem_of_getElem? (i := 21) rfl)) (jWr_43 _ (List.mem_of_getElem? (i := 2) rfl))) rfl rfl rfl (by decide +kernel) ⟨by rw [← hR]; exact Nat.le_of_ble_eq_true rfl, by rw [← hR]; exact Nat.le_of_ble_eq_true rfl⟩) ⟨fun a U g mk q => by obtain ⟨q0, q1, q2, qK, q10, q11, q12, q13⟩ := q; exact ⟨q0, q1, q2, jG.calling g mk a qK, q10, q11, q12, q13⟩, hh_26.recv (C := RX1) (T := TX1) (N := 17) hB3 rfl (by decide) hg_r0 hK, fun U hU hW => ⟨rfl, hU, hh_26.2.1, hG.step hW hU hh_26.1, hg_checking_27, hg_r0, jP.nil, by first | omega | rfl | assumption | decide | exact Or.inl rfl | exact Or.inr rfl | (simp only; omega)⟩⟩ rfl rfl hl.1 rfl (lv_room (Nat.le_of_ble_eq_true rfl)) dX1_keepChecked_63 ⟨Nat.zero_le _, Nat.zero_le _⟩) hh_26.1 (fun q _ h => h) (fun q h => h) (fun r_29 u_28 t_28 H_28 locs_28 ht_28 hvm_28 hr_29 hb_28 hz_28 hk_28 hS_28 => ?_)
              rw [ht_28] at hb_28
              obtain ⟨hb_281, hb_282, hb_283, hb_284, hb_285⟩ := hb_28
              have hh_28 : jSt (dC, dI) B base G0 G0 EX1_keepChecked s.heap 0 0 [(r0, 3, 11, .ref checking_27), (r0, 3, 10, .int checked_6), (r0, 3, 9, .ref behind_3)] [] [([(210, 0)], jQc dC dI (ca 6) behind_3 40 fq_8)] H_28 locs_28 := ((hh_26.call hb_281 hb_282 hb_283 hb_284 hS_28 rfl (L1 := [(r0, 3, 11, .ref checking_27), (r0, 3, 10, .int checked_6), (r0, 3, 9, .ref behind_3)]) [0, 1, 2] rfl rfl (M1 := []) [] rfl rfl (I1 := [([(210, 0)], jQc dC dI (ca 6) behind_3 40 fq_8)]) [0] rfl rfl).more hb_285)
              clear hh_26 ht_28 hvm_28 hz_28 hk_28 hS_28 hb_281 hb_282 hb_283 hb_284 hb_285
              obtain ⟨hr_29b, hr_29p⟩ := hr_29
              have hr_29' := jb_01 hr_29b
              refine lv_if_eq (tgt := 73) hx hb dX1_keepChecked_66 (by decide) (fun c_30 => ?_) (fun c_30 => ?_)
              · skip
                have c_30' : r_29.toInt = 0 := jb_eq (rfl) ((by decide)) c_30
                refine lv_iconst (v := 0) hx hb dX1_keepChecked_73 (by decide) ?_
                exact C74 0 _ _ (hh_28.sub (L1 := [(r0, 3, 10, .int checked_6), (r0, 3, 9, .ref behind_3)]) [1, 2] rfl (M1 := []) [] rfl (I1 := [([(210, 0)], jQc dC dI (ca 6) behind_3 40 fq_8)]) [0] rfl) (Or.inl rfl) (trivial) _ (lv_sub hl [0, 1] rfl)
              · skip
                have c_30' : r_29.toInt ≠ 0 := jb_eq_n (rfl) ((by decide)) c_30
                refine lv_iconst (v := 1) hx hb dX1_keepChecked_69 (by decide) ?_
                refine lv_goto (tgt := 74) hx hb dX1_keepChecked_70 (by decide) ?_
                exact C74 1 _ _ (hh_28.sub (L1 := [(r0, 3, 10, .int checked_6), (r0, 3, 9, .ref behind_3)]) [1, 2] rfl (M1 := []) [] rfl (I1 := [([(210, 0)], jQc dC dI (ca 6) behind_3 40 fq_8)]) [0] rfl) (Or.inr rfl) (trivial) _ (lv_sub hl [0, 1] rfl)
        · simp only [va_rf]
          refine lv_ifnull hx hb dX1_keepChecked_16 ?_
          refine lv_aload_n hx hb dX1_keepChecked_19 rfl (lv_at hl 0 rfl) ?_
          refine lv_iload_n hx hb dX1_keepChecked_20 rfl (lv_at hl 1 rfl) ?_
          refine lv_aload_n hx hb dX1_keepChecked_21 rfl (lv_at hl 0 rfl) ?_
          refine j7_read hx hb hown hK (C := RX1) (T := TX1) (N := 17) rfl hly_3_9 hlk_32 (hh_9.at 1 rfl) dX1_keepChecked_22 ?_
          refine lv_iload_n hx hb dX1_keepChecked_25 rfl (lv_at hl 1 rfl) ?_
          refine j7_qaldI hx hb hK2 hh_9 hB210 2 rfl (by decide) hg_behind_3 (x := v1_7.toInt) (rfl) (by omega) (hh_9.iv 0 rfl) dX1_keepChecked_26 (fun o_31 ho_31 heo_31 => ?_)
          rcases ho_31 with rfl | ⟨el_32, rfl, hg_el_32⟩
          · simp only [va_rf]
            exact absurd (heo_31.trans heo_20.symm) (by simp)
          · simp only [va_rf]
            obtain rfl : el_21 = el_32 := (Option.some.inj (heo_31.trans heo_20.symm)).symm
            obtain ⟨v_33, hv_33, hh_34⟩ := hh_9.pin (C := RX9) (T := TX9) (N := 9) hB11 rfl (by decide) hg_el_21 (i := 1) (by decide) rfl
            clear hh_9
            obtain ⟨units_35, nunits_35, rfl, hg_units_35, hn_units_35⟩ := hv_33
            refine j7_read hx hb hown hK (C := RX9) (T := TX9) (N := 9) rfl hly_11_1 hlk_98 (hh_34.at 0 rfl) dX1_keepChecked_27 ?_
            refine va_calli (A0 := jA base) (H0 := s.heap) (va_runV (As := [.int v1_7, .ref units_35]) (rest := []) ⟨hx, hb, hml, hown, hts⟩ (uX1_isSentence l dC dI ca base B hB hAp hB3 hB101 hB171 hB172 G0 H_7 r0 v1_7 units_35 nunits_35) (cwV 2 hts (jgV (jWr_42 _ (List.mem_of_getElem? (i := 23) rfl)) (jWr_43 _ (List.mem_of_getElem? (i := 0) rfl)) (jWr_43 _ (List.mem_of_getElem? (i := 1) rfl)) (jWr_2 _ (List.mem_of_getElem? (i := 21) rfl)) (jWr_43 _ (List.mem_of_getElem? (i := 2) rfl))) rfl rfl rfl (by decide +kernel) ⟨by rw [← hR]; exact Nat.le_of_ble_eq_true rfl, by rw [← hR]; exact Nat.le_of_ble_eq_true rfl⟩) ⟨fun a U g mk q => by obtain ⟨q0, q1, q2, qK, q10, q11, q12, q13⟩ := q; exact ⟨q0, q1, q2, jG.calling g mk a qK, q10, q11, q12, q13⟩, hh_34.recv (C := RX1) (T := TX1) (N := 17) hB3 rfl (by decide) hg_r0 hK, fun U hU hW => ⟨rfl, hU, hh_34.2.1, hG.step hW hU hh_34.1, hg_units_35, hg_r0, jP.nil, by first | omega | rfl | assumption | decide | exact Or.inl rfl | exact Or.inr rfl | (simp only; omega)⟩⟩ rfl rfl hl.1 rfl (lv_room (Nat.le_of_ble_eq_true rfl)) dX1_keepChecked_30 ⟨Nat.zero_le _, Nat.zero_le _⟩) hh_34.1 (fun q _ h => h) (fun q h => h) (fun r_37 u_36 t_36 H_36 locs_36 ht_36 hvm_36 hr_37 hb_36 hz_36 hk_36 hS_36 => ?_)
            rw [ht_36] at hb_36
            obtain ⟨hb_361, hb_362, hb_363, hb_364, hb_365⟩ := hb_36
            have hh_36 : jSt (dC, dI) B base G0 G0 EX1_keepChecked s.heap 0 0 [(el_21, 11, 1, .ref units_35), (r0, 3, 10, .int checked_6), (r0, 3, 9, .ref behind_3)] [] [([(210, 0)], jQc dC dI (ca 6) behind_3 40 fq_8)] H_36 locs_36 := ((hh_34.call hb_361 hb_362 hb_363 hb_364 hS_36 rfl (L1 := [(el_21, 11, 1, .ref units_35), (r0, 3, 10, .int checked_6), (r0, 3, 9, .ref behind_3)]) [0, 1, 2] rfl rfl (M1 := []) [] rfl rfl (I1 := [([(210, 0)], jQc dC dI (ca 6) behind_3 40 fq_8)]) [0] rfl rfl).more hb_365)
            clear hh_34 ht_36 hvm_36 hz_36 hk_36 hS_36 hb_361 hb_362 hb_363 hb_364 hb_365
            obtain ⟨hr_37b, hr_37p⟩ := hr_37
            have hr_37' := jb_01 hr_37b
            refine lv_if_eq (tgt := 42) hx hb dX1_keepChecked_33 (by decide) (fun c_38 => ?_) (fun c_38 => ?_)
            · skip
              have c_38' : r_37.toInt = 0 := jb_eq (rfl) ((by decide)) c_38
              refine lv_iload_n hx hb dX1_keepChecked_42 rfl (lv_at hl 1 rfl) ?_
              refine lv_aload_n hx hb dX1_keepChecked_43 rfl (lv_at hl 0 rfl) ?_
              refine j7_read hx hb hown hK (C := RX1) (T := TX1) (N := 17) rfl hly_3_10 hlk_72 (hh_36.at 1 rfl) dX1_keepChecked_44 ?_
              have C74 : ∀ (w0_39 : Int32) (H_39 : Heap) (locs_39 : List Loc), jSt (dC, dI) B base G0 G0 EX1_keepChecked s.heap 0 0 [(el_21, 11, 1, .ref units_35), (r0, 3, 10, .int checked_6), (r0, 3, 9, .ref behind_3)] [] [([(210, 0)], jQc dC dI (ca 6) behind_3 40 fq_8)] H_39 locs_39 → (w0_39 = 0 ∨ w0_39 = 1) → (True) → ∀ ls : Array Slot, lv_has ls 3 [(0, .ref r0), (1, .int v1_7)] → W p l e R s m ([.ref r0] : List Value).toArray below meth c H_39 locs_39 0 0 Q (F0 m 74 ls [.int w0_39]) := by
                intro w0_39 H_39 locs_39 hh_39 hb_w0_39 hi_39 ls hl
                have hb_w0_39' := jb_01 hb_w0_39
                refine lv_istore_n (lv' := [(2, .int w0_39), (0, .ref r0), (1, .int v1_7)]) hx hb dX1_keepChecked_74 rfl hl (by decide) rfl (fun ls hl => ?_)
                refine lv_aload_n hx hb dX1_keepChecked_75 rfl (lv_at hl 1 rfl) ?_
                refine lv_iload_n hx hb dX1_keepChecked_76 rfl (lv_at hl 2 rfl) ?_
                refine j7_put hx hb hown hK hh_39 hB hAp hB3 (C := RX1) (T := TX1) (N := 17) rfl (by decide) hg_r0 (i := 10) (by decide) hly_3_10 rfl hlk_72 rfl (ty := .int) (v := .int v1_7) (by decide +kernel) rfl rfl (⟨_, rfl, by omega, by omega⟩) rfl (L1 := [(el_21, 11, 1, .ref units_35), (r0, 3, 9, .ref behind_3)]) [0, 2] rfl rfl rfl dX1_keepChecked_77 (fun H_40 locs_40 hh_40 => ?_)
                clear hh_39
                refine lv_iload_n hx hb dX1_keepChecked_80 rfl (lv_at hl 0 rfl) ?_
                rw [hQ]
                exact W.zret (v := w0_39) hx hb hr (jb_nz (hb_w0_39)) (fun t ht hW => ⟨⟨w0_39, (), rfl, ⟨(hb_w0_39), trivial⟩, hh_40.rt (M1 := []) [] rfl ht⟩, by rw [ht]; try exact hh_40.1.1, fun q h9 hq => by rw [ht]; try exact hh_40.1.2.1 q h9 hq⟩) hh_40.1.2.2 dX1_keepChecked_81
              refine lv_icmp_ne (tgt := 73) hx hb dX1_keepChecked_47 (by decide) (fun c_41 => ?_) (fun c_41 => ?_)
              · skip
                have c_41' : v1_7.toInt ≠ checked_6.toInt := jb_ne (rfl) (rfl) c_41
                refine lv_iconst (v := 0) hx hb dX1_keepChecked_73 (by decide) ?_
                exact C74 0 _ _ hh_36 (Or.inl rfl) (trivial) _ (lv_sub hl [0, 1] rfl)
              · skip
                have c_41' : v1_7.toInt = checked_6.toInt := jb_ne_n (rfl) (rfl) c_41
                refine lv_aload_n hx hb dX1_keepChecked_50 rfl (lv_at hl 0 rfl) ?_
                obtain ⟨v_42, hv_42, hh_43⟩ := hh_36.pin (C := RX1) (T := TX1) (N := 17) hB3 rfl (by decide) hg_r0 (i := 11) (by decide) rfl
                clear hh_36
                rcases hv_42 with rfl | ⟨checking_44, nchecking_44, rfl, hg_checking_44, hn_checking_44⟩
                · refine j7_read hx hb hown hK (C := RX1) (T := TX1) (N := 17) rfl hly_3_11 hlk_105 (hh_43.at 0 rfl) dX1_keepChecked_51 ?_
                  refine lv_ifnullN (tgt := 73) hx hb dX1_keepChecked_54 (by decide) ?_
                  refine lv_iconst (v := 0) hx hb dX1_keepChecked_73 (by decide) ?_
                  exact C74 0 _ _ (hh_43.sub (L1 := [(el_21, 11, 1, .ref units_35), (r0, 3, 10, .int checked_6), (r0, 3, 9, .ref behind_3)]) [1, 2, 3] rfl (M1 := []) [] rfl (I1 := [([(210, 0)], jQc dC dI (ca 6) behind_3 40 fq_8)]) [0] rfl) (Or.inl rfl) (trivial) _ (lv_sub hl [0, 1] rfl)
                · refine j7_read hx hb hown hK (C := RX1) (T := TX1) (N := 17) rfl hly_3_11 hlk_105 (hh_43.at 0 rfl) dX1_keepChecked_51 ?_
                  refine lv_ifnull hx hb dX1_keepChecked_54 ?_
                  refine lv_aload_n hx hb dX1_keepChecked_57 rfl (lv_at hl 0 rfl) ?_
                  refine lv_iload_n hx hb dX1_keepChecked_58 rfl (lv_at hl 1 rfl) ?_
                  refine lv_aload_n hx hb dX1_keepChecked_59 rfl (lv_at hl 0 rfl) ?_
                  refine j7_read hx hb hown hK (C := RX1) (T := TX1) (N := 17) rfl hly_3_11 hlk_105 (hh_43.at 0 rfl) dX1_keepChecked_60 ?_
                  refine va_calli (A0 := jA base) (H0 := s.heap) (va_runV (As := [.int v1_7, .ref checking_44]) (rest := []) ⟨hx, hb, hml, hown, hts⟩ (uX1_isSentence l dC dI ca base B hB hAp hB3 hB101 hB171 hB172 G0 H_36 r0 v1_7 checking_44 nchecking_44) (cwV 2 hts (jgV (jWr_42 _ (List.mem_of_getElem? (i := 23) rfl)) (jWr_43 _ (List.mem_of_getElem? (i := 0) rfl)) (jWr_43 _ (List.mem_of_getElem? (i := 1) rfl)) (jWr_2 _ (List.mem_of_getElem? (i := 21) rfl)) (jWr_43 _ (List.mem_of_getElem? (i := 2) rfl))) rfl rfl rfl (by decide +kernel) ⟨by rw [← hR]; exact Nat.le_of_ble_eq_true rfl, by rw [← hR]; exact Nat.le_of_ble_eq_true rfl⟩) ⟨fun a U g mk q => by obtain ⟨q0, q1, q2, qK, q10, q11, q12, q13⟩ := q; exact ⟨q0, q1, q2, jG.calling g mk a qK, q10, q11, q12, q13⟩, hh_43.recv (C := RX1) (T := TX1) (N := 17) hB3 rfl (by decide) hg_r0 hK, fun U hU hW => ⟨rfl, hU, hh_43.2.1, hG.step hW hU hh_43.1, hg_checking_44, hg_r0, jP.nil, by first | omega | rfl | assumption | decide | exact Or.inl rfl | exact Or.inr rfl | (simp only; omega)⟩⟩ rfl rfl hl.1 rfl (lv_room (Nat.le_of_ble_eq_true rfl)) dX1_keepChecked_63 ⟨Nat.zero_le _, Nat.zero_le _⟩) hh_43.1 (fun q _ h => h) (fun q h => h) (fun r_46 u_45 t_45 H_45 locs_45 ht_45 hvm_45 hr_46 hb_45 hz_45 hk_45 hS_45 => ?_)
                  rw [ht_45] at hb_45
                  obtain ⟨hb_451, hb_452, hb_453, hb_454, hb_455⟩ := hb_45
                  have hh_45 : jSt (dC, dI) B base G0 G0 EX1_keepChecked s.heap 0 0 [(r0, 3, 11, .ref checking_44), (el_21, 11, 1, .ref units_35), (r0, 3, 10, .int checked_6), (r0, 3, 9, .ref behind_3)] [] [([(210, 0)], jQc dC dI (ca 6) behind_3 40 fq_8)] H_45 locs_45 := ((hh_43.call hb_451 hb_452 hb_453 hb_454 hS_45 rfl (L1 := [(r0, 3, 11, .ref checking_44), (el_21, 11, 1, .ref units_35), (r0, 3, 10, .int checked_6), (r0, 3, 9, .ref behind_3)]) [0, 1, 2, 3] rfl rfl (M1 := []) [] rfl rfl (I1 := [([(210, 0)], jQc dC dI (ca 6) behind_3 40 fq_8)]) [0] rfl rfl).more hb_455)
                  clear hh_43 ht_45 hvm_45 hz_45 hk_45 hS_45 hb_451 hb_452 hb_453 hb_454 hb_455
                  obtain ⟨hr_46b, hr_46p⟩ := hr_46
                  have hr_46' := jb_01 hr_46b
                  refine lv_if_eq (tgt := 73) hx hb dX1_keepChecked_66 (by decide) (fun c_47 => ?_) (fun c_47 => ?_)
                  · skip
                    have c_47' : r_46.toInt = 0 := jb_eq (rfl) ((by decide)) c_47
                    refine lv_iconst (v := 0) hx hb dX1_keepChecked_73 (by decide) ?_
                    exact C74 0 _ _ (hh_45.sub (L1 := [(el_21, 11, 1, .ref units_35), (r0, 3, 10, .int checked_6), (r0, 3, 9, .ref behind_3)]) [1, 2, 3] rfl (M1 := []) [] rfl (I1 := [([(210, 0)], jQc dC dI (ca 6) behind_3 40 fq_8)]) [0] rfl) (Or.inl rfl) (trivial) _ (lv_sub hl [0, 1] rfl)
                  · skip
                    have c_47' : r_46.toInt ≠ 0 := jb_eq_n (rfl) ((by decide)) c_47
                    refine lv_iconst (v := 1) hx hb dX1_keepChecked_69 (by decide) ?_
                    refine lv_goto (tgt := 74) hx hb dX1_keepChecked_70 (by decide) ?_
                    exact C74 1 _ _ (hh_45.sub (L1 := [(el_21, 11, 1, .ref units_35), (r0, 3, 10, .int checked_6), (r0, 3, 9, .ref behind_3)]) [1, 2, 3] rfl (M1 := []) [] rfl (I1 := [([(210, 0)], jQc dC dI (ca 6) behind_3 40 fq_8)]) [0] rfl) (Or.inr rfl) (trivial) _ (lv_sub hl [0, 1] rfl)
            · skip
              have c_38' : r_37.toInt ≠ 0 := jb_eq_n (rfl) ((by decide)) c_38
              obtain ⟨z_48, ez_48⟩ : ∃ y : Int32, y = v1_7 + 1 := ⟨_, rfl⟩
              refine lv_iinc (v := z_48) (lv' := [(1, .int z_48), (0, .ref r0)]) hx hb dX1_keepChecked_36 hl (k := 1) rfl (by rw [ez_48]; rfl) (by decide) rfl (fun ls hl => ?_)
              have hz_48 : z_48.toInt = v1_7.toInt + 1 := by rw [ez_48]; exact jb_iadd2 (rfl) (by decide) (by omega)
              refine lv_goto (tgt := 2) hx hb dX1_keepChecked_39 (by decide) ?_
              exact L2 z_48 _ _ (hh_36.sub (L1 := [(r0, 3, 10, .int checked_6), (r0, 3, 9, .ref behind_3)]) [1, 2] rfl (M1 := []) [] rfl (I1 := []) [] rfl) (by first | omega | (refine ⟨?_, ?_⟩ <;> (first | omega | rfl | assumption | decide | exact Or.inl rfl | exact Or.inr rfl | (simp only; omega)))) (by omega) _ (lv_sub hl [1, 0] rfl)
  exact L2 (checked_6.toInt - (0 : Int32).toInt : Int).toNat.succ 0 _ _ hh_5 (by first | omega | (refine ⟨?_, ?_⟩ <;> (first | omega | rfl | assumption | decide | exact Or.inl rfl | exact Or.inr rfl | (simp only; omega)))) (by omega) _ (lv_sub hl [1, 0] rfl)
set_option maxHeartbeats 4000000 in
set_option maxRecDepth 20000 in
theorem uX8_isReady (l : Launch) (dC : Nat → ClassId) (dI : Nat → Nat → Nat) (ca : Nat → ClassId) (base : Nat) (B : jF) (hB : jBok B) (hAp : jAp (dC, dI)) (hB3 : ∀ n G a H, B 3 n G a H ↔ jOb (dC, dI) 3 17 (F3 n G) a H) (hB10 : ∀ n G a H, B 10 n G a H ↔ jOb (dC, dI) 10 5 (F10 n G) a H) (G0 : jT) (H0 : Heap) (r0 : Nat) : Met l yX8_isReady (jw yX8_isReady cX8_isReady 1 (some .boolean)) ({ frames := 0, cells := 0, slots := 0, locals := 0 }) (va_Pc [.ref r0] (fun U => U.heap = H0 ∧ jX B base G0 [] H0 ∧ jG dC dI ca base U ∧ G0 r0 = some (10, 0) ∧ jP (dC, dI) G0 H0 [] ∧ True)) (va_Qi (S := Unit) (fun r u => (r = 0 ∨ r = 1) ∧ (True)) (fun u t => jRt (dC, dI) B base G0 EX8_isReady H0 [] t.heap) (jA base)) 0 0 (jA base) := by
  refine Met.ofW (cc := cX8_isReady) (maxL := 1) (ret := (some .boolean)) (by decide) rfl ?_
  intro p e s m args below meth c s₁ Bd hml hv
  obtain ⟨rfl, hH0, hX, hG, hg_r0, hP0, hp0⟩ := hv
  have hK := hG.1
  have hx := Bd.exec
  have hb := Bd.bytes
  have hr := Bd.returns
  have hts := atoms_spec (ws := (jw yX8_isReady cX8_isReady 1 (some .boolean))) Bd.pre
  have htw : ∀ w ∈ jWl, w.before _ s = true := fun w h => hts w (List.mem_cons_of_mem _ h)
  have hown : s.vm.findClass RX8 = some m.cls := findClass_of_methodNamed Bd.named
  have hlocks := Bd.notSynchronized
  obtain ⟨Q, hQ⟩ : ∃ Q, Q = MQ below (va_Qi (S := Unit) (fun r u => (r = 0 ∨ r = 1) ∧ (True)) (fun u t => jRt (dC, dI) B base G0 EX8_isReady H0 [] t.heap) (jA base)) ([.ref r0] : List Value).toArray s 0 0 (jA base) := ⟨_, rfl⟩
  rw [← hQ]
  have hl := lv_entry ([.ref r0]) (n := 1) (Nat.le_of_ble_eq_true rfl)
  rw [lg_entry_eq]
  generalize (lg_sl ([.ref r0]) ++ List.replicate (1 - (lg_sl ([.ref r0])).length) Slot.unset).toArray = ls at hl ⊢
  have hl : lv_has ls 1 [(0, .ref r0)] := hl
  generalize hR : (headSpec (jw yX8_isReady cX8_isReady 1 (some .boolean)) ({ frames := 0, cells := 0, slots := 0, locals := 0 })).room = R
  subst hH0
  have hh : jSt (dC, dI) B base G0 G0 EX8_isReady s.heap 0 0 [] [] [] s.heap [] := jSt.start hX hP0 jMc.nil jIs.nil
  clear hX hP0
  have hk0 : (0 : Int32).toInt = 0 := by decide
  have hk1 : (1 : Int32).toInt = 1 := by decide
  have hly_3_10 := htw (u_lay RX1 TX1 10) (jWc_wsX10 _ (u_in_lay (by decide)))
  have hly_10_1 := htw (u_lay RX8 TX8 1) (jWc_wsX80 _ (u_in_lay (by decide)))
  have hly_10_2 := htw (u_lay RX8 TX8 2) (jWc_wsX80 _ (u_in_lay (by decide)))
  have hlk_47 := (htw (.fieldLink RX8 47 "ProofServer$Request" "about" "LProofServer$Document;") (jWr_29 _ (List.mem_of_getElem? (i := 23) rfl)))
  have hlk_51 := (htw (.fieldLink RX8 51 "ProofServer$Document" "checked" "I") (jWr_30 _ (List.mem_of_getElem? (i := 0) rfl)))
  have hlk_56 := (htw (.fieldLink RX8 56 "ProofServer$Request" "needed" "I") (jWr_30 _ (List.mem_of_getElem? (i := 1) rfl)))
  refine lv_aload_n hx hb dX8_isReady_0 rfl (lv_at hl 0 rfl) ?_
  obtain ⟨v_1, hv_1, hh_2⟩ := hh.pin (C := RX8) (T := TX8) (N := 5) hB10 rfl (by decide) hg_r0 (i := 1) (by decide) rfl
  clear hh
  rcases hv_1 with rfl | ⟨about_3, rfl, hg_about_3⟩
  · refine j7_read hx hb hown hK (C := RX8) (T := TX8) (N := 5) rfl hly_10_1 hlk_47 (hh_2.at 0 rfl) dX8_isReady_1 ?_
    refine lv_ifnullN (tgt := 21) hx hb dX8_isReady_4 (by decide) ?_
    refine lv_iconst (v := 1) hx hb dX8_isReady_21 (by decide) ?_
    refine lv_goto (tgt := 26) hx hb dX8_isReady_22 (by decide) ?_
    rw [hQ]
    exact W.zret (v := 1) hx hb hr (jb_nz (Or.inr rfl)) (fun t ht hW => ⟨⟨1, (), rfl, ⟨(Or.inr rfl), trivial⟩, hh_2.rt (M1 := []) [] rfl ht⟩, by rw [ht]; try exact hh_2.1.1, fun q h9 hq => by rw [ht]; try exact hh_2.1.2.1 q h9 hq⟩) hh_2.1.2.2 dX8_isReady_26
  · refine j7_read hx hb hown hK (C := RX8) (T := TX8) (N := 5) rfl hly_10_1 hlk_47 (hh_2.at 0 rfl) dX8_isReady_1 ?_
    refine lv_ifnull hx hb dX8_isReady_4 ?_
    refine lv_aload_n hx hb dX8_isReady_7 rfl (lv_at hl 0 rfl) ?_
    refine j7_read hx hb hown hK (C := RX8) (T := TX8) (N := 5) rfl hly_10_1 hlk_47 (hh_2.at 0 rfl) dX8_isReady_8 ?_
    obtain ⟨v_4, hv_4, hh_5⟩ := hh_2.pin (C := RX1) (T := TX1) (N := 17) hB3 rfl (by decide) hg_about_3 (i := 10) (by decide) rfl
    clear hh_2
    obtain ⟨checked_6, rfl, hlochecked_6, hhichecked_6⟩ := hv_4
    refine j7_read hx hb hown hK (C := RX1) (T := TX1) (N := 17) rfl hly_3_10 hlk_51 (hh_5.at 0 rfl) dX8_isReady_11 ?_
    refine lv_aload_n hx hb dX8_isReady_14 rfl (lv_at hl 0 rfl) ?_
    obtain ⟨v_7, hv_7, hh_8⟩ := hh_5.pin (C := RX8) (T := TX8) (N := 5) hB10 rfl (by decide) hg_r0 (i := 2) (by decide) rfl
    clear hh_5
    obtain ⟨needed_9, rfl⟩ := hv_7
    refine j7_read hx hb hown hK (C := RX8) (T := TX8) (N := 5) rfl hly_10_2 hlk_56 (hh_8.at 0 rfl) dX8_isReady_15 ?_
    refine lv_icmp_lt (tgt := 25) hx hb dX8_isReady_18 (by decide) (fun c_10 => ?_) (fun c_10 => ?_)
    · skip
      have c_10' : checked_6.toInt < needed_9.toInt := jb_lt (rfl) (rfl) c_10
      refine lv_iconst (v := 0) hx hb dX8_isReady_25 (by decide) ?_
      rw [hQ]
      exact W.zret (v := 0) hx hb hr (jb_nz (Or.inl rfl)) (fun t ht hW => ⟨⟨0, (), rfl, ⟨(Or.inl rfl), trivial⟩, hh_8.rt (M1 := []) [] rfl ht⟩, by rw [ht]; try exact hh_8.1.1, fun q h9 hq => by rw [ht]; try exact hh_8.1.2.1 q h9 hq⟩) hh_8.1.2.2 dX8_isReady_26
    · skip
      have c_10' : checked_6.toInt ≥ needed_9.toInt := jb_lt_n (rfl) (rfl) c_10
      refine lv_iconst (v := 1) hx hb dX8_isReady_21 (by decide) ?_
      refine lv_goto (tgt := 26) hx hb dX8_isReady_22 (by decide) ?_
      rw [hQ]
      exact W.zret (v := 1) hx hb hr (jb_nz (Or.inr rfl)) (fun t ht hW => ⟨⟨1, (), rfl, ⟨(Or.inr rfl), trivial⟩, hh_8.rt (M1 := []) [] rfl ht⟩, by rw [ht]; try exact hh_8.1.1, fun q h9 hq => by rw [ht]; try exact hh_8.1.2.1 q h9 hq⟩) hh_8.1.2.2 dX8_isReady_26
