section
theorem dX14_finish_0 : decode cX14_finish 0 = .ok (.aload_n 0, 1) := by decide +kernel
theorem dX14_finish_1 : decode cX14_finish 1 = .ok (.getfield 129, 3) := by decide +kernel
theorem dX14_finish_4 : decode cX14_finish 4 = .ok (.iload_n 1, 1) := by decide +kernel
theorem dX14_finish_5 : decode cX14_finish 5 = .ok (.aaload, 1) := by decide +kernel
theorem dX14_finish_6 : decode cX14_finish 6 = .ok (.astore_n 2, 1) := by decide +kernel
theorem dX14_finish_7 : decode cX14_finish 7 = .ok (.aload_n 0, 1) := by decide +kernel
theorem dX14_finish_8 : decode cX14_finish 8 = .ok (.getfield 132, 3) := by decide +kernel
theorem dX14_finish_11 : decode cX14_finish 11 = .ok (.iload_n 1, 1) := by decide +kernel
theorem dX14_finish_12 : decode cX14_finish 12 = .ok (.iaload, 1) := by decide +kernel
theorem dX14_finish_13 : decode cX14_finish 13 = .ok (.istore_n 3, 1) := by decide +kernel
theorem dX14_finish_14 : decode cX14_finish 14 = .ok (.aload_n 0, 1) := by decide +kernel
theorem dX14_finish_15 : decode cX14_finish 15 = .ok (.getfield 129, 3) := by decide +kernel
theorem dX14_finish_18 : decode cX14_finish 18 = .ok (.iload_n 1, 1) := by decide +kernel
theorem dX14_finish_19 : decode cX14_finish 19 = .ok (.aconst_null, 1) := by decide +kernel
theorem dX14_finish_20 : decode cX14_finish 20 = .ok (.aastore, 1) := by decide +kernel
theorem dX14_finish_21 : decode cX14_finish 21 = .ok (.aload_n 0, 1) := by decide +kernel
theorem dX14_finish_22 : decode cX14_finish 22 = .ok (.aload_n 2, 1) := by decide +kernel
theorem dX14_finish_23 : decode cX14_finish 23 = .ok (.iload_n 3, 1) := by decide +kernel
theorem dX14_finish_24 : decode cX14_finish 24 = .ok (.invokevirtual 697, 3) := by decide +kernel
theorem dX14_finish_27 : decode cX14_finish 27 = .ok (.aload_n 2, 1) := by decide +kernel
theorem dX14_finish_28 : decode cX14_finish 28 = .ok (.getfield 751, 3) := by decide +kernel
theorem dX14_finish_31 : decode cX14_finish 31 = .ok (.iload_n 3, 1) := by decide +kernel
theorem dX14_finish_32 : decode cX14_finish 32 = .ok (.aload_n 0, 1) := by decide +kernel
theorem dX14_finish_33 : decode cX14_finish 33 = .ok (.getfield 122, 3) := by decide +kernel
theorem dX14_finish_36 : decode cX14_finish 36 = .ok (.aload_n 2, 1) := by decide +kernel
theorem dX14_finish_37 : decode cX14_finish 37 = .ok (.getfield 529, 3) := by decide +kernel
theorem dX14_finish_40 : decode cX14_finish 40 = .ok (.aload_n 2, 1) := by decide +kernel
theorem dX14_finish_41 : decode cX14_finish 41 = .ok (.getfield 596, 3) := by decide +kernel
theorem dX14_finish_44 : decode cX14_finish 44 = .ok (.iload_n 3, 1) := by decide +kernel
theorem dX14_finish_45 : decode cX14_finish 45 = .ok (.iaload, 1) := by decide +kernel
theorem dX14_finish_46 : decode cX14_finish 46 = .ok (.aload_n 2, 1) := by decide +kernel
theorem dX14_finish_47 : decode cX14_finish 47 = .ok (.getfield 594, 3) := by decide +kernel
theorem dX14_finish_50 : decode cX14_finish 50 = .ok (.iload_n 3, 1) := by decide +kernel
theorem dX14_finish_51 : decode cX14_finish 51 = .ok (.iaload, 1) := by decide +kernel
theorem dX14_finish_52 : decode cX14_finish 52 = .ok (.aload_n 2, 1) := by decide +kernel
theorem dX14_finish_53 : decode cX14_finish 53 = .ok (.getfield 599, 3) := by decide +kernel
theorem dX14_finish_56 : decode cX14_finish 56 = .ok (.iload_n 3, 1) := by decide +kernel
theorem dX14_finish_57 : decode cX14_finish 57 = .ok (.iaload, 1) := by decide +kernel
theorem dX14_finish_58 : decode cX14_finish 58 = .ok (.invokevirtual 629, 3) := by decide +kernel
theorem dX14_finish_61 : decode cX14_finish 61 = .ok (.iastore, 1) := by decide +kernel
theorem dX14_finish_62 : decode cX14_finish 62 = .ok (.aload_n 2, 1) := by decide +kernel
theorem dX14_finish_63 : decode cX14_finish 63 = .ok (.iload_n 3, 1) := by decide +kernel
theorem dX14_finish_64 : decode cX14_finish 64 = .ok (.iconst 1, 1) := by decide +kernel
theorem dX14_finish_65 : decode cX14_finish 65 = .ok (.iadd, 1) := by decide +kernel
theorem dX14_finish_66 : decode cX14_finish 66 = .ok (.putfield 531, 3) := by decide +kernel
theorem dX14_finish_69 : decode cX14_finish 69 = .ok (.aload_n 0, 1) := by decide +kernel
theorem dX14_finish_70 : decode cX14_finish 70 = .ok (.aload_n 2, 1) := by decide +kernel
theorem dX14_finish_71 : decode cX14_finish 71 = .ok (.iload_n 3, 1) := by decide +kernel
theorem dX14_finish_72 : decode cX14_finish 72 = .ok (.invokevirtual 786, 3) := by decide +kernel
theorem dX14_finish_75 : decode cX14_finish 75 = .ok (.aload_n 0, 1) := by decide +kernel
theorem dX14_finish_76 : decode cX14_finish 76 = .ok (.invokevirtual 793, 3) := by decide +kernel
theorem dX14_finish_79 : decode cX14_finish 79 = .ok (.aload_n 0, 1) := by decide +kernel
theorem dX14_finish_80 : decode cX14_finish 80 = .ok (.getfield 138, 3) := by decide +kernel
theorem dX14_finish_83 : decode cX14_finish 83 = .ok (.iload_n 1, 1) := by decide +kernel
theorem dX14_finish_84 : decode cX14_finish 84 = .ok (.baload, 1) := by decide +kernel
theorem dX14_finish_85 : decode cX14_finish 85 = .ok (.ifCond .eq 13, 3) := by decide +kernel
theorem dX14_finish_88 : decode cX14_finish 88 = .ok (.aload_n 0, 1) := by decide +kernel
theorem dX14_finish_89 : decode cX14_finish 89 = .ok (.dup, 1) := by decide +kernel
theorem dX14_finish_90 : decode cX14_finish 90 = .ok (.getfield 796, 3) := by decide +kernel
theorem dX14_finish_93 : decode cX14_finish 93 = .ok (.iconst 1, 1) := by decide +kernel
theorem dX14_finish_94 : decode cX14_finish 94 = .ok (.iadd, 1) := by decide +kernel
theorem dX14_finish_95 : decode cX14_finish 95 = .ok (.putfield 796, 3) := by decide +kernel
theorem dX14_finish_98 : decode cX14_finish 98 = .ok (.aload_n 0, 1) := by decide +kernel
theorem dX14_finish_99 : decode cX14_finish 99 = .ok (.aload_n 2, 1) := by decide +kernel
theorem dX14_finish_100 : decode cX14_finish 100 = .ok (.invokevirtual 538, 3) := by decide +kernel
theorem dX14_finish_103 : decode cX14_finish 103 = .ok (.return_, 1) := by decide +kernel
theorem dX14_step_0 : decode cX14_step 0 = .ok (.aload_n 0, 1) := by decide +kernel
theorem dX14_step_1 : decode cX14_step 1 = .ok (.dup, 1) := by decide +kernel
theorem dX14_step_2 : decode cX14_step 2 = .ok (.getfield 799, 3) := by decide +kernel
theorem dX14_step_5 : decode cX14_step 5 = .ok (.iconst 1, 1) := by decide +kernel
theorem dX14_step_6 : decode cX14_step 6 = .ok (.iadd, 1) := by decide +kernel
theorem dX14_step_7 : decode cX14_step 7 = .ok (.putfield 799, 3) := by decide +kernel
theorem dX14_step_10 : decode cX14_step 10 = .ok (.iconst 0, 1) := by decide +kernel
theorem dX14_step_11 : decode cX14_step 11 = .ok (.istore_n 1, 1) := by decide +kernel
theorem dX14_step_12 : decode cX14_step 12 = .ok (.iload_n 1, 1) := by decide +kernel
theorem dX14_step_13 : decode cX14_step 13 = .ok (.iconst 2, 1) := by decide +kernel
theorem dX14_step_14 : decode cX14_step 14 = .ok (.if_icmp .ge 59, 3) := by decide +kernel
theorem dX14_step_17 : decode cX14_step 17 = .ok (.aload_n 0, 1) := by decide +kernel
theorem dX14_step_18 : decode cX14_step 18 = .ok (.getfield 129, 3) := by decide +kernel
theorem dX14_step_21 : decode cX14_step 21 = .ok (.iload_n 1, 1) := by decide +kernel
theorem dX14_step_22 : decode cX14_step 22 = .ok (.aaload, 1) := by decide +kernel
theorem dX14_step_23 : decode cX14_step 23 = .ok (.ifnonnull 8, 3) := by decide +kernel
theorem dX14_step_26 : decode cX14_step 26 = .ok (.aload_n 0, 1) := by decide +kernel
theorem dX14_step_27 : decode cX14_step 27 = .ok (.iload_n 1, 1) := by decide +kernel
theorem dX14_step_28 : decode cX14_step 28 = .ok (.invokevirtual 802, 3) := by decide +kernel
theorem dX14_step_31 : decode cX14_step 31 = .ok (.aload_n 0, 1) := by decide +kernel
theorem dX14_step_32 : decode cX14_step 32 = .ok (.getfield 129, 3) := by decide +kernel
theorem dX14_step_35 : decode cX14_step 35 = .ok (.iload_n 1, 1) := by decide +kernel
theorem dX14_step_36 : decode cX14_step 36 = .ok (.aaload, 1) := by decide +kernel
theorem dX14_step_37 : decode cX14_step 37 = .ok (.ifnonnull 6, 3) := by decide +kernel
theorem dX14_step_40 : decode cX14_step 40 = .ok (.goto 27, 3) := by decide +kernel
theorem dX14_step_43 : decode cX14_step 43 = .ok (.aload_n 0, 1) := by decide +kernel
theorem dX14_step_44 : decode cX14_step 44 = .ok (.getfield 135, 3) := by decide +kernel
theorem dX14_step_47 : decode cX14_step 47 = .ok (.iload_n 1, 1) := by decide +kernel
theorem dX14_step_48 : decode cX14_step 48 = .ok (.dup2, 1) := by decide +kernel
theorem dX14_step_49 : decode cX14_step 49 = .ok (.iaload, 1) := by decide +kernel
theorem dX14_step_50 : decode cX14_step 50 = .ok (.iconst 1, 1) := by decide +kernel
theorem dX14_step_51 : decode cX14_step 51 = .ok (.isub, 1) := by decide +kernel
theorem dX14_step_52 : decode cX14_step 52 = .ok (.iastore, 1) := by decide +kernel
theorem dX14_step_53 : decode cX14_step 53 = .ok (.aload_n 0, 1) := by decide +kernel
theorem dX14_step_54 : decode cX14_step 54 = .ok (.getfield 135, 3) := by decide +kernel
theorem dX14_step_57 : decode cX14_step 57 = .ok (.iload_n 1, 1) := by decide +kernel
theorem dX14_step_58 : decode cX14_step 58 = .ok (.iaload, 1) := by decide +kernel
theorem dX14_step_59 : decode cX14_step 59 = .ok (.ifCond .ne 8, 3) := by decide +kernel
theorem dX14_step_62 : decode cX14_step 62 = .ok (.aload_n 0, 1) := by decide +kernel
theorem dX14_step_63 : decode cX14_step 63 = .ok (.iload_n 1, 1) := by decide +kernel
theorem dX14_step_64 : decode cX14_step 64 = .ok (.invokevirtual 805, 3) := by decide +kernel
theorem dX14_step_67 : decode cX14_step 67 = .ok (.iinc 1 1, 3) := by decide +kernel
theorem dX14_step_70 : decode cX14_step 70 = .ok (.goto (-58), 3) := by decide +kernel
theorem dX14_step_73 : decode cX14_step 73 = .ok (.return_, 1) := by decide +kernel
theorem dX14_work_0 : decode cX14_work 0 = .ok (.iload_n 1, 1) := by decide +kernel
theorem dX14_work_1 : decode cX14_work 1 = .ok (.iconst 0, 1) := by decide +kernel
theorem dX14_work_2 : decode cX14_work 2 = .ok (.sipush 10000, 3) := by decide +kernel
theorem dX14_work_5 : decode cX14_work 5 = .ok (.invokestatic 181, 3) := by decide +kernel
theorem dX14_work_8 : decode cX14_work 8 = .ok (.ifCond .ne 5, 3) := by decide +kernel
theorem dX14_work_11 : decode cX14_work 11 = .ok (.iconst (-1), 1) := by decide +kernel
theorem dX14_work_12 : decode cX14_work 12 = .ok (.ireturn, 1) := by decide +kernel
theorem dX14_work_13 : decode cX14_work 13 = .ok (.iconst 0, 1) := by decide +kernel
theorem dX14_work_14 : decode cX14_work 14 = .ok (.istore_n 2, 1) := by decide +kernel
theorem dX14_work_15 : decode cX14_work 15 = .ok (.iload_n 2, 1) := by decide +kernel
theorem dX14_work_16 : decode cX14_work 16 = .ok (.iload_n 1, 1) := by decide +kernel
theorem dX14_work_17 : decode cX14_work 17 = .ok (.if_icmp .ge 38, 3) := by decide +kernel
theorem dX14_work_20 : decode cX14_work 20 = .ok (.aload_n 0, 1) := by decide +kernel
theorem dX14_work_21 : decode cX14_work 21 = .ok (.getfield 129, 3) := by decide +kernel
theorem dX14_work_24 : decode cX14_work 24 = .ok (.iconst 0, 1) := by decide +kernel
theorem dX14_work_25 : decode cX14_work 25 = .ok (.aaload, 1) := by decide +kernel
theorem dX14_work_26 : decode cX14_work 26 = .ok (.ifnonnull 19, 3) := by decide +kernel
theorem dX14_work_29 : decode cX14_work 29 = .ok (.aload_n 0, 1) := by decide +kernel
theorem dX14_work_30 : decode cX14_work 30 = .ok (.getfield 129, 3) := by decide +kernel
theorem dX14_work_33 : decode cX14_work 33 = .ok (.iconst 1, 1) := by decide +kernel
theorem dX14_work_34 : decode cX14_work 34 = .ok (.aaload, 1) := by decide +kernel
theorem dX14_work_35 : decode cX14_work 35 = .ok (.ifnonnull 10, 3) := by decide +kernel
theorem dX14_work_38 : decode cX14_work 38 = .ok (.aload_n 0, 1) := by decide +kernel
theorem dX14_work_39 : decode cX14_work 39 = .ok (.invokevirtual 782, 3) := by decide +kernel
theorem dX14_work_42 : decode cX14_work 42 = .ok (.ifnull 13, 3) := by decide +kernel
theorem dX14_work_45 : decode cX14_work 45 = .ok (.aload_n 0, 1) := by decide +kernel
theorem dX14_work_46 : decode cX14_work 46 = .ok (.invokevirtual 808, 3) := by decide +kernel
theorem dX14_work_49 : decode cX14_work 49 = .ok (.iinc 2 1, 3) := by decide +kernel
theorem dX14_work_52 : decode cX14_work 52 = .ok (.goto (-37), 3) := by decide +kernel
theorem dX14_work_55 : decode cX14_work 55 = .ok (.iload_n 2, 1) := by decide +kernel
theorem dX14_work_56 : decode cX14_work 56 = .ok (.ireturn, 1) := by decide +kernel
def EX14_finish : List (Nat × Nat) := [(14, 9), (15, 5), (15, 7), (15, 10), (15, 11), (15, 15), (15, 18), (15, 19), (15, 20), (15, 21), (15, 30), (15, 31), (15, 32), (15, 33), (15, 34), (15, 36), (15, 38), (15, 39), (15, 40), (15, 41), (15, 42), (15, 46), (15, 49), (16, 3), (16, 4), (16, 6), (16, 36), (16, 37), (16, 39), (16, 40), (16, 48), (16, 65), (16, 66), (16, 70), (101, 0), (103, 0), (150, 0), (151, 0), (152, 0), (153, 0), (154, 0), (155, 0), (156, 0), (157, 0), (158, 0), (159, 0), (160, 0), (161, 0), (162, 0), (163, 0), (164, 0), (165, 0), (166, 0), (167, 0), (168, 0), (169, 0), (193, 0), (202, 0), (203, 0), (204, 0), (205, 0), (206, 0), (208, 0)]
def EX14_step : List (Nat × Nat) := [(14, 9), (15, 5), (15, 7), (15, 10), (15, 11), (15, 15), (15, 18), (15, 19), (15, 20), (15, 21), (15, 30), (15, 31), (15, 32), (15, 33), (15, 34), (15, 36), (15, 38), (15, 39), (15, 40), (15, 41), (15, 42), (15, 46), (15, 49), (16, 3), (16, 4), (16, 6), (16, 36), (16, 37), (16, 39), (16, 40), (16, 48), (16, 64), (16, 65), (16, 66), (16, 70), (101, 0), (103, 0), (150, 0), (151, 0), (152, 0), (153, 0), (154, 0), (155, 0), (156, 0), (157, 0), (158, 0), (159, 0), (160, 0), (161, 0), (162, 0), (163, 0), (164, 0), (165, 0), (166, 0), (167, 0), (168, 0), (169, 0), (193, 0), (202, 0), (203, 0), (204, 0), (205, 0), (206, 0), (207, 0), (208, 0)]
def EX14_work : List (Nat × Nat) := [(14, 9), (15, 5), (15, 7), (15, 10), (15, 11), (15, 15), (15, 18), (15, 19), (15, 20), (15, 21), (15, 30), (15, 31), (15, 32), (15, 33), (15, 34), (15, 36), (15, 38), (15, 39), (15, 40), (15, 41), (15, 42), (15, 46), (15, 49), (16, 3), (16, 4), (16, 6), (16, 36), (16, 37), (16, 39), (16, 40), (16, 48), (16, 64), (16, 65), (16, 66), (16, 70), (101, 0), (103, 0), (150, 0), (151, 0), (152, 0), (153, 0), (154, 0), (155, 0), (156, 0), (157, 0), (158, 0), (159, 0), (160, 0), (161, 0), (162, 0), (163, 0), (164, 0), (165, 0), (166, 0), (167, 0), (168, 0), (169, 0), (193, 0), (202, 0), (203, 0), (204, 0), (205, 0), (206, 0), (207, 0), (208, 0)]
set_option maxHeartbeats 4000000 in
set_option maxRecDepth 20000 in
theorem uX14_finish (l : Launch) (dC : Nat → ClassId) (dI : Nat → Nat → Nat) (ca : Nat → ClassId) (base : Nat) (B : jF) (hB : jBok B) (hAp : jAp (dC, dI)) (hB14 : ∀ n G a H, B 14 n G a H ↔ jOb (dC, dI) 14 11 (F14 n G) a H) (hB15 : ∀ n G a H, B 15 n G a H ↔ jOb (dC, dI) 15 50 (F15 n G) a H) (hB16 : ∀ n G a H, B 16 n G a H ↔ jOb (dC, dI) 16 74 (F16 n G) a H) (hB101 : ∀ n G a H, B 101 n G a H ↔ jAr (dC, dI) (ca 1) (fun j z => True) n a H) (hB103 : ∀ n G a H, B 103 n G a H ↔ jAr (dC, dI) (ca 3) (fun j z => (z = 0 ∨ z = 1)) n a H) (hB150 : ∀ n G a H, B 150 n G a H ↔ jAr (dC, dI) (ca 1) (fun j z => True) n a H) (hB151 : ∀ n G a H, B 151 n G a H ↔ jAr (dC, dI) (ca 1) (fun j z => True) n a H) (hB152 : ∀ n G a H, B 152 n G a H ↔ jAr (dC, dI) (ca 1) (fun j z => True) n a H) (hB153 : ∀ n G a H, B 153 n G a H ↔ jAr (dC, dI) (ca 1) (fun j z => True) n a H) (hB154 : ∀ n G a H, B 154 n G a H ↔ jAr (dC, dI) (ca 1) (fun j z => True) n a H) (hB155 : ∀ n G a H, B 155 n G a H ↔ jAr (dC, dI) (ca 1) (fun j z => 0 ≤ z.toInt ∧ z.toInt ≤ 11990) n a H) (hB156 : ∀ n G a H, B 156 n G a H ↔ jAr (dC, dI) (ca 1) (fun j z => 0 ≤ z.toInt ∧ z.toInt ≤ 10) n a H) (hB157 : ∀ n G a H, B 157 n G a H ↔ jAr (dC, dI) (ca 1) (fun j z => 0 ≤ z.toInt ∧ z.toInt ≤ 1599) n a H) (hB158 : ∀ n G a H, B 158 n G a H ↔ jAr (dC, dI) (ca 1) (fun j z => 0 ≤ z.toInt ∧ z.toInt ≤ 6) n a H) (hB159 : ∀ n G a H, B 159 n G a H ↔ jAr (dC, dI) (ca 1) (fun j z => 0 ≤ z.toInt ∧ z.toInt ≤ 8) n a H) (hB160 : ∀ n G a H, B 160 n G a H ↔ jAr (dC, dI) (ca 1) (fun j z => 0 ≤ z.toInt ∧ z.toInt ≤ 119999) n a H) (hB161 : ∀ n G a H, B 161 n G a H ↔ jAr (dC, dI) (ca 1) (fun j z => 0 ≤ z.toInt ∧ z.toInt ≤ 119999) n a H) (hB162 : ∀ n G a H, B 162 n G a H ↔ jAr (dC, dI) (ca 1) (fun j z => 0 ≤ z.toInt ∧ z.toInt ≤ 119999) n a H) (hB163 : ∀ n G a H, B 163 n G a H ↔ jAr (dC, dI) (ca 1) (fun j z => 0 ≤ z.toInt ∧ z.toInt ≤ 1599) n a H) (hB164 : ∀ n G a H, B 164 n G a H ↔ jAr (dC, dI) (ca 1) (fun j z => 0 ≤ z.toInt ∧ z.toInt ≤ 100000) n a H) (hB165 : ∀ n G a H, B 165 n G a H ↔ jAr (dC, dI) (ca 1) (fun j z => 0 ≤ z.toInt ∧ z.toInt ≤ 3) n a H) (hB166 : ∀ n G a H, B 166 n G a H ↔ jAr (dC, dI) (ca 1) (fun j z => True) n a H) (hB167 : ∀ n G a H, B 167 n G a H ↔ jAr (dC, dI) (ca 1) (fun j z => True) n a H) (hB168 : ∀ n G a H, B 168 n G a H ↔ jAr (dC, dI) (ca 1) (fun j z => 0 ≤ z.toInt ∧ z.toInt ≤ 119999) n a H) (hB169 : ∀ n G a H, B 169 n G a H ↔ jAr (dC, dI) (ca 1) (fun j z => True) n a H) (hB190 : ∀ n G a H, B 190 n G a H ↔ jAr (dC, dI) (ca 1) (fun j z => 0 ≤ z.toInt ∧ z.toInt ≤ 1500) n a H) (hB191 : ∀ n G a H, B 191 n G a H ↔ jAr (dC, dI) (ca 1) (fun j z => 0 ≤ z.toInt ∧ z.toInt ≤ 1500) n a H) (hB192 : ∀ n G a H, B 192 n G a H ↔ jAr (dC, dI) (ca 1) (fun j z => 0 ≤ z.toInt ∧ z.toInt ≤ 2) n a H) (hB193 : ∀ n G a H, B 193 n G a H ↔ jAr (dC, dI) (ca 1) (fun j z => True) n a H) (hB194 : ∀ n G a H, B 194 n G a H ↔ jAr (dC, dI) (ca 1) (fun j z => True) n a H) (hB195 : ∀ n G a H, B 195 n G a H ↔ jAr (dC, dI) (ca 1) (fun j z => True) n a H) (hB202 : ∀ n G a H, B 202 n G a H ↔ jAq (dC, dI) (ca 4) (jQn 14 0) n G a H) (hB203 : ∀ n G a H, B 203 n G a H ↔ jAr (dC, dI) (ca 1) (fun j z => -3300 ≤ z.toInt ∧ z.toInt ≤ 20) n a H) (hB204 : ∀ n G a H, B 204 n G a H ↔ jAr (dC, dI) (ca 1) (fun j z => -3100 ≤ z.toInt ∧ z.toInt ≤ 3100) n a H) (hB205 : ∀ n G a H, B 205 n G a H ↔ jAr (dC, dI) (ca 1) (fun j z => 0 ≤ z.toInt ∧ z.toInt ≤ 1600) n a H) (hB206 : ∀ n G a H, B 206 n G a H ↔ jAr (dC, dI) (ca 1) (fun j z => 0 ≤ z.toInt ∧ z.toInt ≤ 40) n a H) (hB207 : ∀ n G a H, B 207 n G a H ↔ jAr (dC, dI) (ca 1) (fun j z => 0 ≤ z.toInt ∧ z.toInt ≤ 39) n a H) (hB208 : ∀ n G a H, B 208 n G a H ↔ jAq (dC, dI) (ca 4) (jQn 14 0) n G a H) (G0 : jT) (H0 : Heap) (r0 : Nat) (a1 : Int32) (dd : Nat) (dc : Int32) (co : Nat) (cs : Nat) (ol : Nat) (nw : Nat) (td : Nat) (sn ck : Nat → Int32) (fd fo : Nat → Option Nat) (fs : Nat → Int32) : Met l yX14_finish (jw yX14_finish cX14_finish 4 none) ({ frames := 1706, cells := 0, slots := 0, locals := 71955 }) (va_Pc [.ref r0, .int a1] (fun U => U.heap = H0 ∧ jX B base G0 [] H0 ∧ jG dC dI ca base U ∧ jK2 dC dI ca U ∧ G0 r0 = some (16, 0) ∧ G0 dd = some (201, 3) ∧ G0 co = some (208, 2) ∧ G0 cs = some (207, 2) ∧ G0 ol = some (14, 0) ∧ G0 nw = some (14, 0) ∧ G0 td = some (14, 0) ∧ jP (dC, dI) G0 H0 [(r0, 16, 41, .ref dd), (r0, 16, 42, .int dc), (r0, 16, 60, .ref co), (r0, 16, 61, .ref cs), (r0, 16, 46, .ref ol), (r0, 16, 47, .ref nw), (r0, 16, 71, .ref td)] ∧ jMc (dC, dI) G0 H0 [(cs, 207, 2, ca 1, fs)] ∧ jIs (dC, dI) G0 H0 [(jFs, jDY dC dI ca G0 none sn), (jF9, jVl dC dI G0 9 ck), ([(201, 0)], jQc dC dI (ca 4) dd 3 fd), ([(208, 0)], jQc dC dI (ca 4) co 2 fo)] ∧ jPu sn ck fd fo fs dc.toInt ol nw td ∧ 0 ≤ a1.toInt ∧ a1.toInt ≤ 1 ∧ fo (a1.toInt).toNat ≠ none)) (va_Qv (S := Unit) (fun u => True) (fun u t => (jRt (dC, dI) B base G0 EX14_finish H0 [] t.heap) ∧ jDV dC dI ca G0 r0 dd co cs ol nw td t.heap) (jA base)) 0 0 (jA base) := by
  refine Met.ofW (cc := cX14_finish) (maxL := 4) (ret := none) (by decide) rfl ?_
  intro p e s m args below meth c s₁ Bd hml hv
  obtain ⟨rfl, hH0, hX, hG, hK2, hg_r0, hg_dd, hg_co, hg_cs, hg_ol, hg_nw, hg_td, hP0, hM0, hI0, hp0, hp1, hp2, hp3⟩ := hv
  have hK := hG.1
  have hx := Bd.exec
  have hb := Bd.bytes
  have hr := Bd.returns
  have hts := atoms_spec (ws := (jw yX14_finish cX14_finish 4 none)) Bd.pre
  have htw : ∀ w ∈ jWl, w.before _ s = true := fun w h => hts w (List.mem_cons_of_mem _ h)
  have hown : s.vm.findClass RX14 = some m.cls := findClass_of_methodNamed Bd.named
  have hlocks := Bd.notSynchronized
  obtain ⟨Q, hQ⟩ : ∃ Q, Q = MQ below (va_Qv (S := Unit) (fun u => True) (fun u t => (jRt (dC, dI) B base G0 EX14_finish H0 [] t.heap) ∧ jDV dC dI ca G0 r0 dd co cs ol nw td t.heap) (jA base)) ([.ref r0, .int a1] : List Value).toArray s 0 0 (jA base) := ⟨_, rfl⟩
  rw [← hQ]
  have hl := lv_entry ([.ref r0, .int a1]) (n := 4) (Nat.le_of_ble_eq_true rfl)
  rw [lg_entry_eq]
  generalize (lg_sl ([.ref r0, .int a1]) ++ List.replicate (4 - (lg_sl ([.ref r0, .int a1])).length) Slot.unset).toArray = ls at hl ⊢
  have hl : lv_has ls 4 [(0, .ref r0), (1, .int a1)] := hl
  generalize hR : (headSpec (jw yX14_finish cX14_finish 4 none) ({ frames := 1706, cells := 0, slots := 0, locals := 71955 })).room = R
  subst hH0
  have hh : jSt (dC, dI) B base G0 G0 EX14_finish s.heap 0 0 [(r0, 16, 41, .ref dd), (r0, 16, 42, .int dc), (r0, 16, 60, .ref co), (r0, 16, 61, .ref cs), (r0, 16, 46, .ref ol), (r0, 16, 47, .ref nw), (r0, 16, 71, .ref td)] [(cs, 207, 2, ca 1, fs)] [(jFs, jDY dC dI ca G0 none sn), (jF9, jVl dC dI G0 9 ck), ([(201, 0)], jQc dC dI (ca 4) dd 3 fd), ([(208, 0)], jQc dC dI (ca 4) co 2 fo)] s.heap [] := jSt.start hX hP0 hM0 hI0
  clear hX hP0
  have hk0 : (0 : Int32).toInt = 0 := by decide
  have hk1 : (1 : Int32).toInt = 1 := by decide
  have hly_14_3 := htw (u_lay RX12 TX12 3) (jWc_wsX120 _ (u_in_lay (by decide)))
  have hly_14_6 := htw (u_lay RX12 TX12 6) (jWc_wsX120 _ (u_in_lay (by decide)))
  have hly_14_7 := htw (u_lay RX12 TX12 7) (jWc_wsX120 _ (u_in_lay (by decide)))
  have hly_14_8 := htw (u_lay RX12 TX12 8) (jWc_wsX120 _ (u_in_lay (by decide)))
  have hly_14_9 := htw (u_lay RX12 TX12 9) (jWc_wsX120 _ (u_in_lay (by decide)))
  have hly_14_10 := htw (u_lay RX12 TX12 10) (jWc_wsX120 _ (u_in_lay (by decide)))
  have hly_16_58 := htw (u_lay RX14 TX14 58) (jWc_wsX140 _ (u_in_lay (by decide)))
  have hly_16_60 := htw (u_lay RX14 TX14 60) (jWc_wsX140 _ (u_in_lay (by decide)))
  have hly_16_61 := htw (u_lay RX14 TX14 61) (jWc_wsX140 _ (u_in_lay (by decide)))
  have hly_16_63 := htw (u_lay RX14 TX14 63) (jWc_wsX140 _ (u_in_lay (by decide)))
  have hly_16_65 := htw (u_lay RX14 TX14 65) (jWc_wsX140 _ (u_in_lay (by decide)))
  have hlk_129 := (htw (.fieldLink RX14 129 "ProofServerModel" "checkOf" "[LProofServerModel$Document;") (jWr_12 _ (List.mem_of_getElem? (i := 15) rfl)))
  have hlk_132 := (htw (.fieldLink RX14 132 "ProofServerModel" "checkSentence" "[I") (jWr_12 _ (List.mem_of_getElem? (i := 16) rfl)))
  have hlk_751 := (va_Nw.use (A := ([.ref r0, .int a1] : List Value).toArray) rfl (hG.2.1 RX14 751 "ProofServerModel$Document" "fault" "[I" "ProofServerModel" (List.mem_of_getElem? (i := 1746) (by decide +kernel))))
  have hlk_122 := (htw (.fieldLink RX14 122 "ProofServerModel" "kernel" "LProofServerModel$Kernel;") (jWr_12 _ (List.mem_of_getElem? (i := 13) rfl)))
  have hlk_529 := (va_Nw.use (A := ([.ref r0, .int a1] : List Value).toArray) rfl (hG.2.1 RX14 529 "ProofServerModel$Document" "text" "[I" "ProofServerModel" (List.mem_of_getElem? (i := 1735) (by decide +kernel))))
  have hlk_596 := (va_Nw.use (A := ([.ref r0, .int a1] : List Value).toArray) rfl (hG.2.1 RX14 596 "ProofServerModel$Document" "begin" "[I" "ProofServerModel" (List.mem_of_getElem? (i := 1739) (by decide +kernel))))
  have hlk_594 := (va_Nw.use (A := ([.ref r0, .int a1] : List Value).toArray) rfl (hG.2.1 RX14 594 "ProofServerModel$Document" "end" "[I" "ProofServerModel" (List.mem_of_getElem? (i := 1741) (by decide +kernel))))
  have hlk_599 := (va_Nw.use (A := ([.ref r0, .int a1] : List Value).toArray) rfl (hG.2.1 RX14 599 "ProofServerModel$Document" "flaw" "[I" "ProofServerModel" (List.mem_of_getElem? (i := 1743) (by decide +kernel))))
  have hlk_531 := (va_Nw.use (A := ([.ref r0, .int a1] : List Value).toArray) rfl (hG.2.1 RX14 531 "ProofServerModel$Document" "checked" "I" "ProofServerModel" (List.mem_of_getElem? (i := 1744) (by decide +kernel))))
  have hlk_138 := (htw (.fieldLink RX14 138 "ProofServerModel" "checkCached" "[Z") (jWr_12 _ (List.mem_of_getElem? (i := 18) rfl)))
  have hlk_796 := (htw (.fieldLink RX14 796 "ProofServerModel" "cachedChecks" "I") (jWr_91 _ (List.mem_of_getElem? (i := 11) rfl)))
  have hrg_a1 := jb_rng a1
  refine lv_aload_n hx hb dX14_finish_0 rfl (lv_at hl 0 rfl) ?_
  refine j7_read hx hb hown hK (C := RX14) (T := TX14) (N := 74) rfl hly_16_60 hlk_129 (hh.at 2 rfl) dX14_finish_1 ?_
  refine lv_iload_n hx hb dX14_finish_4 rfl (lv_at hl 1 rfl) ?_
  refine j7_qaldI hx hb hK2 hh hB208 0 rfl (by decide) hg_co (x := a1.toInt) (rfl) (by omega) (hh.iv 3 rfl) dX14_finish_5 (fun o_1 ho_1 heo_1 => ?_)
  rcases ho_1 with rfl | ⟨el_2, rfl, hg_el_2⟩
  · simp only [va_rf]
    exact absurd heo_1.symm hp3
  · simp only [va_rf]
    refine lv_astore_n (lv' := [(2, .ref el_2), (0, .ref r0), (1, .int a1)]) hx hb dX14_finish_6 rfl hl (by decide) rfl (fun ls hl => ?_)
    obtain ⟨yb_3, ye_3, fb_3, fe_3, hg_yb_3, hg_ye_3, hP_3, hM_3, hs_3, h0_3, h4_3⟩ := jDY.at (hh.iv 0 rfl) hg_el_2 (fun q => by cases q)
    have hh_4 := (hh.more hP_3).moreM hM_3
    clear hh hP_3 hM_3
    have hh_5 := hh_4.more (jVl.at (hh_4.iv 1 rfl) hg_el_2)
    clear hh_4
    obtain ⟨sx_6, esx_6, hsx_6⟩ := hh_5.sat (C := RX12) (T := TX12) (N := 11) hB14 rfl (by decide) hg_el_2 (i := 9) (by decide) rfl 0 rfl
    cases esx_6
    obtain ⟨d0, x0, hd0, hd1, hd2, hd3, hd4⟩ := (hp0.2.2.2 (a1.toInt).toNat (by omega)).resolve_left hp3
    obtain rfl : el_2 = x0 := Option.some.inj (heo_1.trans hd3)
    have hd5 : jSo fs a1.toInt < (sn el_2).toInt := hd4
    refine lv_aload_n hx hb dX14_finish_7 rfl (lv_at hl 1 rfl) ?_
    refine j7_read hx hb hown hK (C := RX14) (T := TX14) (N := 74) rfl hly_16_61 hlk_132 (hh_5.at 7 rfl) dX14_finish_8 ?_
    refine lv_iload_n hx hb dX14_finish_11 rfl (lv_at hl 2 rfl) ?_
    refine j7_ialdM hx hb hK hh_5 hB207 1 rfl (by decide) hg_cs (x := a1.toInt) (rfl) (by omega) (j := 2) rfl dX14_finish_12 (fun z_7 ez_7 (hz_7 : 0 ≤ z_7.toInt ∧ z_7.toInt ≤ 39) => ?_)
    have hqz_7 : z_7.toInt = jSo fs (a1.toInt) := by unfold jSo; rw [ez_7]
    refine lv_istore_n (lv' := [(3, .int z_7), (2, .ref el_2), (0, .ref r0), (1, .int a1)]) hx hb dX14_finish_13 rfl hl (by decide) rfl (fun ls hl => ?_)
    refine lv_aload_n hx hb dX14_finish_14 rfl (lv_at hl 2 rfl) ?_
    refine j7_read hx hb hown hK (C := RX14) (T := TX14) (N := 74) rfl hly_16_60 hlk_129 (hh_5.at 6 rfl) dX14_finish_15 ?_
    refine lv_iload_n hx hb dX14_finish_18 rfl (lv_at hl 3 rfl) ?_
    refine lv_null hx hb dX14_finish_19 ?_
    have hd_9 := hh_5.iv 3 rfl
    have hh_11 := hh_5.sub (L1 := [(el_2, 14, 9, .int (ck el_2)), (el_2, 14, 6, .ref yb_3), (el_2, 14, 7, .ref ye_3), (el_2, 14, 5, .int (sn el_2)), (r0, 16, 41, .ref dd), (r0, 16, 42, .int dc), (r0, 16, 60, .ref co), (r0, 16, 61, .ref cs), (r0, 16, 46, .ref ol), (r0, 16, 47, .ref nw), (r0, 16, 71, .ref td)]) [0, 1, 2, 3, 4, 5, 6, 7, 8, 9, 10] rfl (M1 := [(yb_3, 190, 40, ca 1, fb_3), (ye_3, 191, 40, ca 1, fe_3), (cs, 207, 2, ca 1, fs)]) [0, 1, 2] rfl (I1 := [(jFs, jDY dC dI ca G0 none sn), (jF9, jVl dC dI G0 9 ck), ([(201, 0)], jQc dC dI (ca 4) dd 3 fd)]) [0, 1, 2] rfl
    clear hh_5
    refine j7_qastNI hx hb hK2 hh_11 hB hB208 0 rfl (by decide) (by decide) rfl rfl rfl hg_co (x := a1.toInt) (rfl) (by omega) (Or.inl rfl) hd_9 dX14_finish_20 (fun H_8 locs_8 fq_10 hv_8 ho_8 hq_8 hh_8 => ?_)
    clear hh_11
    have hh_12 := hh_8.addI (hq_8.ie hg_co (by decide) (by decide))
    clear hh_8
    clear hd_9
    refine lv_aload_n hx hb dX14_finish_21 rfl (lv_at hl 2 rfl) ?_
    refine lv_aload_n hx hb dX14_finish_22 rfl (lv_at hl 1 rfl) ?_
    refine lv_iload_n hx hb dX14_finish_23 rfl (lv_at hl 0 rfl) ?_
    obtain ⟨v_15, hv_15, hh_16⟩ := hh_12.pin (C := RX14) (T := TX14) (N := 74) hB16 rfl (by decide) hg_r0 (i := 58) (by decide) rfl
    obtain ⟨kernel_17, rfl, hg_kernel_17⟩ := hv_15
    obtain ⟨v_18, hv_18, hh_19⟩ := hh_16.pin (C := RX13) (T := TX13) (N := 50) hB15 rfl (by decide) hg_kernel_17 (i := 17) (by decide) rfl
    obtain ⟨fact_20, rfl, hg_fact_20⟩ := hv_18
    obtain ⟨v_21, hv_21, hh_22⟩ := hh_19.pin (C := RX13) (T := TX13) (N := 50) hB15 rfl (by decide) hg_kernel_17 (i := 22) (by decide) rfl
    obtain ⟨goal_23, rfl, hg_goal_23⟩ := hv_21
    obtain ⟨v_24, hv_24, hh_25⟩ := hh_22.pin (C := RX13) (T := TX13) (N := 50) hB15 rfl (by decide) hg_kernel_17 (i := 25) (by decide) rfl
    obtain ⟨hyps_26, rfl, hg_hyps_26⟩ := hv_24
    obtain ⟨v_27, hv_27, hh_28⟩ := hh_25.pin (C := RX13) (T := TX13) (N := 50) hB15 rfl (by decide) hg_kernel_17 (i := 27) (by decide) rfl
    obtain ⟨hyp_29, rfl, hg_hyp_29⟩ := hv_27
    obtain ⟨v_30, hv_30, hh_31⟩ := hh_28.pin (C := RX13) (T := TX13) (N := 50) hB15 rfl (by decide) hg_kernel_17 (i := 0) (by decide) rfl
    obtain ⟨sort_32, rfl, hg_sort_32⟩ := hv_30
    obtain ⟨v_33, hv_33, hh_34⟩ := hh_31.pin (C := RX13) (T := TX13) (N := 50) hB15 rfl (by decide) hg_kernel_17 (i := 1) (by decide) rfl
    obtain ⟨name_35, rfl, hg_name_35⟩ := hv_33
    obtain ⟨v_36, hv_36, hh_37⟩ := hh_34.pin (C := RX13) (T := TX13) (N := 50) hB15 rfl (by decide) hg_kernel_17 (i := 2) (by decide) rfl
    obtain ⟨one_38, rfl, hg_one_38⟩ := hv_36
    obtain ⟨v_39, hv_39, hh_40⟩ := hh_37.pin (C := RX13) (T := TX13) (N := 50) hB15 rfl (by decide) hg_kernel_17 (i := 3) (by decide) rfl
    obtain ⟨two_41, rfl, hg_two_41⟩ := hv_39
    obtain ⟨v_42, hv_42, hh_43⟩ := hh_40.pin (C := RX13) (T := TX13) (N := 50) hB15 rfl (by decide) hg_kernel_17 (i := 4) (by decide) rfl
    obtain ⟨three_44, rfl, hg_three_44⟩ := hv_42
    obtain ⟨v_45, hv_45, hh_46⟩ := hh_43.pin (C := RX13) (T := TX13) (N := 50) hB15 rfl (by decide) hg_kernel_17 (i := 14) (by decide) rfl
    obtain ⟨arity_47, rfl, hg_arity_47⟩ := hv_45
    obtain ⟨f_ff_48, hh_48⟩ := hh_46.cpin hB160 (by decide) (by decide) hg_fact_20
    clear hh_46
    obtain ⟨f_fg_49, hh_49⟩ := hh_48.cpin hB161 (by decide) (by decide) hg_goal_23
    clear hh_48
    obtain ⟨f_fh_50, hh_50⟩ := hh_49.cpin hB159 (by decide) (by decide) hg_hyps_26
    clear hh_49
    obtain ⟨f_fp_51, hh_51⟩ := hh_50.cpin hB162 (by decide) (by decide) hg_hyp_29
    clear hh_50
    obtain ⟨f_zs_52, hh_52⟩ := hh_51.cpin hB150 (by decide) (by decide) hg_sort_32
    clear hh_51
    obtain ⟨f_zn_53, hh_53⟩ := hh_52.cpin hB151 (by decide) (by decide) hg_name_35
    clear hh_52
    obtain ⟨f_za_54, hh_54⟩ := hh_53.cpin hB152 (by decide) (by decide) hg_one_38
    clear hh_53
    obtain ⟨f_zb_55, hh_55⟩ := hh_54.cpin hB153 (by decide) (by decide) hg_two_41
    clear hh_54
    obtain ⟨f_zc_56, hh_56⟩ := hh_55.cpin hB154 (by decide) (by decide) hg_three_44
    clear hh_55
    obtain ⟨f_zy_57, hh_57⟩ := hh_56.cpin hB165 (by decide) (by decide) hg_arity_47
    clear hh_56
    refine va_callv (A0 := jA base) (H0 := s.heap) (va_runV (As := [.ref el_2, .int z_7]) (rest := []) ⟨hx, hb, hml, hown, hts⟩ (uX14_reach l dC dI ca base B hB hAp hB14 hB15 hB16 hB101 hB103 hB150 hB151 hB152 hB153 hB154 hB155 hB156 hB157 hB158 hB159 hB160 hB161 hB162 hB163 hB165 hB166 hB167 hB168 hB169 hB190 hB191 hB192 hB194 G0 H_8 r0 el_2 z_7 yb_3 ye_3 kernel_17 fact_20 goal_23 hyps_26 hyp_29 sort_32 name_35 one_38 two_41 three_44 arity_47 (sn el_2).toInt fb_3 fe_3 f_ff_48 f_fg_49 f_fh_50 f_fp_51 (jK.mk f_zs_52 f_zn_53 f_za_54 f_zb_55 f_zc_56 f_zy_57)) (cwV 2 hts (jgV (jWr_59 _ (List.mem_of_getElem? (i := 6) rfl)) (jWr_59 _ (List.mem_of_getElem? (i := 7) rfl)) (jWr_59 _ (List.mem_of_getElem? (i := 8) rfl)) (jWr_1 _ (List.mem_of_getElem? (i := 5) rfl)) (jWr_59 _ (List.mem_of_getElem? (i := 9) rfl))) rfl rfl rfl (by decide +kernel) ⟨by rw [← hR]; exact Nat.le_of_ble_eq_true rfl, by rw [← hR]; exact Nat.le_of_ble_eq_true rfl⟩) ⟨fun a U g mk q => by obtain ⟨q0, q1, q2, qK, q10, q11, q12, q13, q14, q15, q16, q17, q18, q19, q20, q21, q22, q23, q24, q25, q26, q27⟩ := q; exact ⟨q0, q1, q2, jG.calling g mk a qK, q10, q11, q12, q13, q14, q15, q16, q17, q18, q19, q20, q21, q22, q23, q24, q25, q26, q27⟩, hh_57.recv (C := RX14) (T := TX14) (N := 74) hB16 rfl (by decide) hg_r0 hK, fun U hU hW => ⟨rfl, hU, hh_57.2.1, hG.step hW hU hh_57.1, hg_el_2, hg_r0, hg_yb_3, hg_ye_3, hg_kernel_17, hg_fact_20, hg_goal_23, hg_hyps_26, hg_hyp_29, hg_sort_32, hg_name_35, hg_one_38, hg_two_41, hg_three_44, hg_arity_47, (hh_57.2.2.1.sub (L1 := [(el_2, 14, 6, .ref yb_3), (el_2, 14, 7, .ref ye_3), (r0, 16, 58, .ref kernel_17), (kernel_17, 15, 17, .ref fact_20), (kernel_17, 15, 22, .ref goal_23), (kernel_17, 15, 25, .ref hyps_26), (kernel_17, 15, 27, .ref hyp_29), (kernel_17, 15, 0, .ref sort_32), (kernel_17, 15, 1, .ref name_35), (kernel_17, 15, 2, .ref one_38), (kernel_17, 15, 3, .ref two_41), (kernel_17, 15, 4, .ref three_44), (kernel_17, 15, 14, .ref arity_47)]) [12, 13, 10, 9, 8, 7, 6, 5, 4, 3, 2, 1, 0] rfl), (hh_57.2.2.2.2.2.2.2.1.sub (L1 := [(yb_3, 190, 40, ca 1, fb_3), (ye_3, 191, 40, ca 1, fe_3), (fact_20, 160, 16, ca 1, f_ff_48), (goal_23, 161, 46, ca 1, f_fg_49), (hyps_26, 159, 46, ca 1, f_fh_50), (hyp_29, 162, 368, ca 1, f_fp_51), (sort_32, 150, 120000, ca 1, f_zs_52), (name_35, 151, 120000, ca 1, f_zn_53), (one_38, 152, 120000, ca 1, f_za_54), (two_41, 153, 120000, ca 1, f_zb_55), (three_44, 154, 120000, ca 1, f_zc_56), (arity_47, 165, 16, ca 1, f_zy_57)]) [10, 11, 9, 8, 7, 6, 5, 4, 3, 2, 1, 0] rfl), by first | omega | (refine ⟨?_, ?_, ?_, ?_⟩ <;> (first | omega | rfl | assumption | decide | exact Or.inl rfl | exact Or.inr rfl | (simp only; omega)))⟩⟩ rfl rfl hl.1 rfl (lv_room (Nat.le_of_ble_eq_true rfl)) dX14_finish_24 ⟨Nat.zero_le _, Nat.zero_le _⟩) hh_57.1 (fun q _ h => h) (fun q h => h) (fun u_13 t_13 H_13 locs_13 ht_13 hvm_13 hr_14 hb_13 hz_13 hk_13 hS_13 => ?_)
    obtain ⟨qn_13, qy_13, qf_13, qg_13, qp_13, ql_13, qc_13, qz_13, gf_13, gg_13, gh_13, gp_13, D_13⟩ := u_13
    rw [ht_13] at hb_13
    obtain ⟨⟨hb_131, hb_132, hb_133, hb_134, hb_135⟩, hb_136⟩ := hb_13
    have hh_13 : jSt (dC, dI) B base G0 G0 EX14_finish s.heap 0 0 [(kernel_17, 15, 5, .int qn_13), (kernel_17, 15, 11, .int qy_13), (kernel_17, 15, 15, .int qf_13), (kernel_17, 15, 21, .int qg_13), (kernel_17, 15, 18, .int qp_13), (kernel_17, 15, 20, .int ql_13), (kernel_17, 15, 10, .int qc_13), (kernel_17, 15, 7, .int qz_13), (kernel_17, 15, 14, .ref arity_47), (kernel_17, 15, 4, .ref three_44), (kernel_17, 15, 3, .ref two_41), (kernel_17, 15, 2, .ref one_38), (kernel_17, 15, 1, .ref name_35), (kernel_17, 15, 0, .ref sort_32), (kernel_17, 15, 27, .ref hyp_29), (kernel_17, 15, 25, .ref hyps_26), (kernel_17, 15, 22, .ref goal_23), (kernel_17, 15, 17, .ref fact_20), (r0, 16, 58, .ref kernel_17), (el_2, 14, 9, .int (ck el_2)), (el_2, 14, 6, .ref yb_3), (el_2, 14, 7, .ref ye_3), (el_2, 14, 5, .int (sn el_2)), (r0, 16, 41, .ref dd), (r0, 16, 42, .int dc), (r0, 16, 60, .ref co), (r0, 16, 61, .ref cs), (r0, 16, 46, .ref ol), (r0, 16, 47, .ref nw), (r0, 16, 71, .ref td)] [(fact_20, 160, 16, ca 1, gf_13), (goal_23, 161, 46, ca 1, gg_13), (hyps_26, 159, 46, ca 1, gh_13), (hyp_29, 162, 368, ca 1, gp_13), (sort_32, 150, 120000, ca 1, D_13.s), (name_35, 151, 120000, ca 1, D_13.n), (one_38, 152, 120000, ca 1, D_13.a), (two_41, 153, 120000, ca 1, D_13.b), (three_44, 154, 120000, ca 1, D_13.c), (arity_47, 165, 16, ca 1, D_13.y), (yb_3, 190, 40, ca 1, fb_3), (ye_3, 191, 40, ca 1, fe_3), (cs, 207, 2, ca 1, fs)] [([(208, 0)], jQc dC dI (ca 4) co 2 fq_10), (jFs, jDY dC dI ca G0 none sn), (jF9, jVl dC dI G0 9 ck), ([(201, 0)], jQc dC dI (ca 4) dd 3 fd)] H_13 locs_13 := ((hh_57.call hb_131 hb_132 hb_133 hb_134 hS_13 rfl (L1 := [(kernel_17, 15, 14, .ref arity_47), (kernel_17, 15, 4, .ref three_44), (kernel_17, 15, 3, .ref two_41), (kernel_17, 15, 2, .ref one_38), (kernel_17, 15, 1, .ref name_35), (kernel_17, 15, 0, .ref sort_32), (kernel_17, 15, 27, .ref hyp_29), (kernel_17, 15, 25, .ref hyps_26), (kernel_17, 15, 22, .ref goal_23), (kernel_17, 15, 17, .ref fact_20), (r0, 16, 58, .ref kernel_17), (el_2, 14, 9, .int (ck el_2)), (el_2, 14, 6, .ref yb_3), (el_2, 14, 7, .ref ye_3), (el_2, 14, 5, .int (sn el_2)), (r0, 16, 41, .ref dd), (r0, 16, 42, .int dc), (r0, 16, 60, .ref co), (r0, 16, 61, .ref cs), (r0, 16, 46, .ref ol), (r0, 16, 47, .ref nw), (r0, 16, 71, .ref td)]) [0, 1, 2, 3, 4, 5, 6, 7, 8, 9, 10, 11, 12, 13, 14, 15, 16, 17, 18, 19, 20, 21] rfl rfl (M1 := [(yb_3, 190, 40, ca 1, fb_3), (ye_3, 191, 40, ca 1, fe_3), (cs, 207, 2, ca 1, fs)]) [10, 11, 12] rfl rfl (I1 := [([(208, 0)], jQc dC dI (ca 4) co 2 fq_10), (jFs, jDY dC dI ca G0 none sn), (jF9, jVl dC dI G0 9 ck), ([(201, 0)], jQc dC dI (ca 4) dd 3 fd)]) [0, 1, 2, 3] rfl rfl).more hb_135).moreM hb_136
    clear hh_57 ht_13 hvm_13 hz_13 hk_13 hS_13 hb_131 hb_132 hb_133 hb_134 hb_135
    clear hb_136
    try simp only at hr_14
    obtain ⟨hr_14_0, hr_14_1, hr_14_2, hr_14_3, hr_14_4, hr_14_5⟩ := hr_14
    obtain ⟨s1, s2, s3, s4⟩ := hs_3 z_7.toInt (by omega) (by omega)
    obtain ⟨t1, t2, t3⟩ := hr_14_5 (by omega)
    refine lv_aload_n hx hb dX14_finish_27 rfl (lv_at hl 1 rfl) ?_
    obtain ⟨v_58, hv_58, hh_59⟩ := hh_13.pin (C := RX12) (T := TX12) (N := 11) hB14 rfl (by decide) hg_el_2 (i := 10) (by decide) rfl
    clear hh_13
    obtain ⟨fault_60, rfl, hg_fault_60⟩ := hv_58
    refine j7_readN hx hb hown hK (C := RX12) (T := TX12) (N := 11) rfl hly_14_10 hlk_751 (hh_59.at 0 rfl) dX14_finish_28 ?_
    refine lv_iload_n hx hb dX14_finish_31 rfl (lv_at hl 0 rfl) ?_
    refine lv_aload_n hx hb dX14_finish_32 rfl (lv_at hl 2 rfl) ?_
    refine j7_read hx hb hown hK (C := RX14) (T := TX14) (N := 74) rfl hly_16_58 hlk_122 (hh_59.at 19 rfl) dX14_finish_33 ?_
    refine lv_aload_n hx hb dX14_finish_36 rfl (lv_at hl 1 rfl) ?_
    obtain ⟨v_61, hv_61, hh_62⟩ := hh_59.pin (C := RX12) (T := TX12) (N := 11) hB14 rfl (by decide) hg_el_2 (i := 3) (by decide) rfl
    clear hh_59
    obtain ⟨text_63, rfl, hg_text_63⟩ := hv_61
    refine j7_readN hx hb hown hK (C := RX12) (T := TX12) (N := 11) rfl hly_14_3 hlk_529 (hh_62.at 0 rfl) dX14_finish_37 ?_
    refine lv_aload_n hx hb dX14_finish_40 rfl (lv_at hl 1 rfl) ?_
    refine j7_readN hx hb hown hK (C := RX12) (T := TX12) (N := 11) rfl hly_14_6 hlk_596 (hh_62.at 22 rfl) dX14_finish_41 ?_
    refine lv_iload_n hx hb dX14_finish_44 rfl (lv_at hl 0 rfl) ?_
    refine j7_ialdM hx hb hK hh_62 hB190 1 rfl (by decide) hg_yb_3 (x := z_7.toInt) (rfl) (by omega) (j := 10) rfl dX14_finish_45 (fun z_64 ez_64 (hz_64 : 0 ≤ z_64.toInt ∧ z_64.toInt ≤ 1500) => ?_)
    have hqz_64 : z_64.toInt = jSo fb_3 (z_7.toInt) := by unfold jSo; rw [ez_64]
    refine lv_aload_n hx hb dX14_finish_46 rfl (lv_at hl 1 rfl) ?_
    refine j7_readN hx hb hown hK (C := RX12) (T := TX12) (N := 11) rfl hly_14_7 hlk_594 (hh_62.at 23 rfl) dX14_finish_47 ?_
    refine lv_iload_n hx hb dX14_finish_50 rfl (lv_at hl 0 rfl) ?_
    refine j7_ialdM hx hb hK hh_62 hB191 1 rfl (by decide) hg_ye_3 (x := z_7.toInt) (rfl) (by omega) (j := 11) rfl dX14_finish_51 (fun z_65 ez_65 (hz_65 : 0 ≤ z_65.toInt ∧ z_65.toInt ≤ 1500) => ?_)
    have hqz_65 : z_65.toInt = jSo fe_3 (z_7.toInt) := by unfold jSo; rw [ez_65]
    refine lv_aload_n hx hb dX14_finish_52 rfl (lv_at hl 1 rfl) ?_
    obtain ⟨v_66, hv_66, hh_67⟩ := hh_62.pin (C := RX12) (T := TX12) (N := 11) hB14 rfl (by decide) hg_el_2 (i := 8) (by decide) rfl
    clear hh_62
    obtain ⟨flaw_68, rfl, hg_flaw_68⟩ := hv_66
    refine j7_readN hx hb hown hK (C := RX12) (T := TX12) (N := 11) rfl hly_14_8 hlk_599 (hh_67.at 0 rfl) dX14_finish_53 ?_
    refine lv_iload_n hx hb dX14_finish_56 rfl (lv_at hl 0 rfl) ?_
    refine j7_iald hx hb hK hh_67 hB192 1 rfl (by decide) hg_flaw_68 (x := z_7.toInt) (rfl) (by omega) dX14_finish_57 (fun z_69 (hz_69 : 0 ≤ z_69.toInt ∧ z_69.toInt ≤ 2) => ?_)
    have hh_70 := hh_67.sub (L1 := [(el_2, 14, 3, .ref text_63), (el_2, 14, 10, .ref fault_60), (kernel_17, 15, 5, .int qn_13), (kernel_17, 15, 11, .int qy_13), (kernel_17, 15, 15, .int qf_13), (kernel_17, 15, 21, .int qg_13), (kernel_17, 15, 18, .int qp_13), (kernel_17, 15, 20, .int ql_13), (kernel_17, 15, 10, .int qc_13), (kernel_17, 15, 7, .int qz_13), (kernel_17, 15, 14, .ref arity_47), (kernel_17, 15, 4, .ref three_44), (kernel_17, 15, 3, .ref two_41), (kernel_17, 15, 2, .ref one_38), (kernel_17, 15, 1, .ref name_35), (kernel_17, 15, 0, .ref sort_32), (kernel_17, 15, 27, .ref hyp_29), (kernel_17, 15, 25, .ref hyps_26), (kernel_17, 15, 22, .ref goal_23), (kernel_17, 15, 17, .ref fact_20), (r0, 16, 58, .ref kernel_17), (el_2, 14, 9, .int (ck el_2)), (el_2, 14, 6, .ref yb_3), (el_2, 14, 7, .ref ye_3), (el_2, 14, 5, .int (sn el_2)), (r0, 16, 41, .ref dd), (r0, 16, 42, .int dc), (r0, 16, 60, .ref co), (r0, 16, 61, .ref cs), (r0, 16, 46, .ref ol), (r0, 16, 47, .ref nw), (r0, 16, 71, .ref td)]) [1, 2, 3, 4, 5, 6, 7, 8, 9, 10, 11, 12, 13, 14, 15, 16, 17, 18, 19, 20, 21, 22, 23, 24, 25, 26, 27, 28, 29, 30, 31, 32] rfl (M1 := [(fact_20, 160, 16, ca 1, gf_13), (goal_23, 161, 46, ca 1, gg_13), (hyps_26, 159, 46, ca 1, gh_13), (hyp_29, 162, 368, ca 1, gp_13), (sort_32, 150, 120000, ca 1, D_13.s), (name_35, 151, 120000, ca 1, D_13.n), (one_38, 152, 120000, ca 1, D_13.a), (two_41, 153, 120000, ca 1, D_13.b), (three_44, 154, 120000, ca 1, D_13.c), (arity_47, 165, 16, ca 1, D_13.y), (yb_3, 190, 40, ca 1, fb_3), (ye_3, 191, 40, ca 1, fe_3), (cs, 207, 2, ca 1, fs)]) [0, 1, 2, 3, 4, 5, 6, 7, 8, 9, 10, 11, 12] rfl (I1 := [([(208, 0)], jQc dC dI (ca 4) co 2 fq_10), (jFs, jDY dC dI ca G0 none sn), (jF9, jVl dC dI G0 9 ck), ([(201, 0)], jQc dC dI (ca 4) dd 3 fd)]) [0, 1, 2, 3] rfl
    clear hh_67
    refine va_calli (A0 := jA base) (H0 := s.heap) (va_runV (As := [.ref text_63, .int z_64, .int z_65, .int z_69]) (rest := [.int z_7, .ref fault_60]) ⟨hx, hb, hml, hown, hts⟩ (uX13_sentencev9 l dC dI ca base B hB hAp hB15 hB101 hB103 hB150 hB151 hB152 hB153 hB154 hB155 hB156 hB157 hB158 hB159 hB160 hB161 hB162 hB163 hB165 hB166 hB167 hB168 hB169 hB194 G0 H_13 kernel_17 text_63 z_64 z_65 z_69 1500 qn_13 qy_13 qf_13 qg_13 qp_13 ql_13 qc_13 qz_13 fact_20 goal_23 hyps_26 hyp_29 sort_32 name_35 one_38 two_41 three_44 arity_47 gf_13 gg_13 gh_13 gp_13 D_13) (cwV 4 hts (jgV (jWr_59 _ (List.mem_of_getElem? (i := 21) rfl)) (jWr_59 _ (List.mem_of_getElem? (i := 22) rfl)) (jWr_59 _ (List.mem_of_getElem? (i := 23) rfl)) (jWr_12 _ (List.mem_of_getElem? (i := 12) rfl)) (jWr_60 _ (List.mem_of_getElem? (i := 0) rfl))) rfl rfl rfl (by decide +kernel) ⟨by rw [← hR]; exact Nat.le_of_ble_eq_true rfl, by rw [← hR]; exact Nat.le_of_ble_eq_true rfl⟩) ⟨fun a U g mk q => by obtain ⟨q0, q1, q2, qK, q10, q11, q12, q13, q14, q15, q16, q17, q18, q19, q20, q21, q22, q23, q24⟩ := q; exact ⟨q0, q1, q2, jG.calling g mk a qK, q10, q11, q12, q13, q14, q15, q16, q17, q18, q19, q20, q21, q22, q23, q24⟩, hh_70.recv (C := RX13) (T := TX13) (N := 50) hB15 rfl (by decide) hg_kernel_17 hK, fun U hU hW => ⟨rfl, hU, hh_70.2.1, hG.step hW hU hh_70.1, hg_text_63, hg_kernel_17, hg_fact_20, hg_goal_23, hg_hyps_26, hg_hyp_29, hg_sort_32, hg_name_35, hg_one_38, hg_two_41, hg_three_44, hg_arity_47, (hh_70.2.2.1.sub (L1 := [(kernel_17, 15, 5, .int qn_13), (kernel_17, 15, 11, .int qy_13), (kernel_17, 15, 15, .int qf_13), (kernel_17, 15, 21, .int qg_13), (kernel_17, 15, 18, .int qp_13), (kernel_17, 15, 20, .int ql_13), (kernel_17, 15, 10, .int qc_13), (kernel_17, 15, 7, .int qz_13), (kernel_17, 15, 17, .ref fact_20), (kernel_17, 15, 22, .ref goal_23), (kernel_17, 15, 25, .ref hyps_26), (kernel_17, 15, 27, .ref hyp_29), (kernel_17, 15, 0, .ref sort_32), (kernel_17, 15, 1, .ref name_35), (kernel_17, 15, 2, .ref one_38), (kernel_17, 15, 3, .ref two_41), (kernel_17, 15, 4, .ref three_44), (kernel_17, 15, 14, .ref arity_47)]) [2, 3, 4, 5, 6, 7, 8, 9, 19, 18, 17, 16, 15, 14, 13, 12, 11, 10] rfl), (hh_70.2.2.2.2.2.2.2.1.sub (L1 := [(fact_20, 160, 16, ca 1, gf_13), (goal_23, 161, 46, ca 1, gg_13), (hyps_26, 159, 46, ca 1, gh_13), (hyp_29, 162, 368, ca 1, gp_13), (sort_32, 150, 120000, ca 1, D_13.s), (name_35, 151, 120000, ca 1, D_13.n), (one_38, 152, 120000, ca 1, D_13.a), (two_41, 153, 120000, ca 1, D_13.b), (three_44, 154, 120000, ca 1, D_13.c), (arity_47, 165, 16, ca 1, D_13.y)]) [0, 1, 2, 3, 4, 5, 6, 7, 8, 9] rfl), ⟨(by first | assumption | exact hr_14_2 | omega), (by first | omega | rfl | assumption | exact hr_14_2), (by first | omega | rfl | assumption | exact hr_14_2), (by first | omega | rfl | assumption | exact hr_14_2), (by first | omega | rfl | assumption | exact hr_14_2), (by first | omega | rfl | assumption | exact hr_14_2), (by first | omega | rfl | assumption | exact hr_14_2), (by first | omega | rfl | assumption | exact hr_14_2), (by first | omega | rfl | assumption | exact hr_14_2), (by first | omega | rfl | assumption | exact hr_14_2)⟩⟩⟩ rfl rfl hl.1 rfl (lv_room (Nat.le_of_ble_eq_true rfl)) dX14_finish_58 ⟨Nat.zero_le _, Nat.zero_le _⟩) hh_70.1 (fun q _ h => h) (fun q h => h) (fun r_72 u_71 t_71 H_71 locs_71 ht_71 hvm_71 hr_72 hb_71 hz_71 hk_71 hS_71 => ?_)
    obtain ⟨qn_71, qy_71, qf_71, qg_71, qp_71, ql_71, qc_71, qs_71, gf_71, gg_71, gh_71, gp_71, D_71⟩ := u_71
    rw [ht_71] at hb_71
    obtain ⟨⟨hb_711, hb_712, hb_713, hb_714, hb_715⟩, hb_716⟩ := hb_71
    have hh_71 : jSt (dC, dI) B base G0 G0 EX14_finish s.heap 0 0 [(kernel_17, 15, 5, .int qn_71), (kernel_17, 15, 11, .int qy_71), (kernel_17, 15, 15, .int qf_71), (kernel_17, 15, 21, .int qg_71), (kernel_17, 15, 18, .int qp_71), (kernel_17, 15, 20, .int ql_71), (kernel_17, 15, 10, .int qc_71), (kernel_17, 15, 7, .int qs_71), (el_2, 14, 3, .ref text_63), (el_2, 14, 10, .ref fault_60), (kernel_17, 15, 14, .ref arity_47), (kernel_17, 15, 4, .ref three_44), (kernel_17, 15, 3, .ref two_41), (kernel_17, 15, 2, .ref one_38), (kernel_17, 15, 1, .ref name_35), (kernel_17, 15, 0, .ref sort_32), (kernel_17, 15, 27, .ref hyp_29), (kernel_17, 15, 25, .ref hyps_26), (kernel_17, 15, 22, .ref goal_23), (kernel_17, 15, 17, .ref fact_20), (r0, 16, 58, .ref kernel_17), (el_2, 14, 9, .int (ck el_2)), (el_2, 14, 6, .ref yb_3), (el_2, 14, 7, .ref ye_3), (el_2, 14, 5, .int (sn el_2)), (r0, 16, 41, .ref dd), (r0, 16, 42, .int dc), (r0, 16, 60, .ref co), (r0, 16, 61, .ref cs), (r0, 16, 46, .ref ol), (r0, 16, 47, .ref nw), (r0, 16, 71, .ref td)] [(fact_20, 160, 16, ca 1, gf_71), (goal_23, 161, 46, ca 1, gg_71), (hyps_26, 159, 46, ca 1, gh_71), (hyp_29, 162, 368, ca 1, gp_71), (sort_32, 150, 120000, ca 1, D_71.s), (name_35, 151, 120000, ca 1, D_71.n), (one_38, 152, 120000, ca 1, D_71.a), (two_41, 153, 120000, ca 1, D_71.b), (three_44, 154, 120000, ca 1, D_71.c), (arity_47, 165, 16, ca 1, D_71.y), (yb_3, 190, 40, ca 1, fb_3), (ye_3, 191, 40, ca 1, fe_3), (cs, 207, 2, ca 1, fs)] [([(208, 0)], jQc dC dI (ca 4) co 2 fq_10), (jFs, jDY dC dI ca G0 none sn), (jF9, jVl dC dI G0 9 ck), ([(201, 0)], jQc dC dI (ca 4) dd 3 fd)] H_71 locs_71 := ((hh_70.call hb_711 hb_712 hb_713 hb_714 hS_71 rfl (L1 := [(el_2, 14, 3, .ref text_63), (el_2, 14, 10, .ref fault_60), (kernel_17, 15, 14, .ref arity_47), (kernel_17, 15, 4, .ref three_44), (kernel_17, 15, 3, .ref two_41), (kernel_17, 15, 2, .ref one_38), (kernel_17, 15, 1, .ref name_35), (kernel_17, 15, 0, .ref sort_32), (kernel_17, 15, 27, .ref hyp_29), (kernel_17, 15, 25, .ref hyps_26), (kernel_17, 15, 22, .ref goal_23), (kernel_17, 15, 17, .ref fact_20), (r0, 16, 58, .ref kernel_17), (el_2, 14, 9, .int (ck el_2)), (el_2, 14, 6, .ref yb_3), (el_2, 14, 7, .ref ye_3), (el_2, 14, 5, .int (sn el_2)), (r0, 16, 41, .ref dd), (r0, 16, 42, .int dc), (r0, 16, 60, .ref co), (r0, 16, 61, .ref cs), (r0, 16, 46, .ref ol), (r0, 16, 47, .ref nw), (r0, 16, 71, .ref td)]) [0, 1, 10, 11, 12, 13, 14, 15, 16, 17, 18, 19, 20, 21, 22, 23, 24, 25, 26, 27, 28, 29, 30, 31] rfl rfl (M1 := [(yb_3, 190, 40, ca 1, fb_3), (ye_3, 191, 40, ca 1, fe_3), (cs, 207, 2, ca 1, fs)]) [10, 11, 12] rfl rfl (I1 := [([(208, 0)], jQc dC dI (ca 4) co 2 fq_10), (jFs, jDY dC dI ca G0 none sn), (jF9, jVl dC dI G0 9 ck), ([(201, 0)], jQc dC dI (ca 4) dd 3 fd)]) [0, 1, 2, 3] rfl rfl).more hb_715).moreM hb_716
    clear hh_70 ht_71 hvm_71 hz_71 hk_71 hS_71 hb_711 hb_712 hb_713 hb_714 hb_715
    clear hb_716
    try simp only at hr_72
    obtain ⟨hr_72_0, hr_72_1, hr_72_2, hr_72_3, hr_72_4, hr_72_5, hr_72_6⟩ := hr_72
    have hh_73 := hh_71.sub (L1 := [(kernel_17, 15, 5, .int qn_71), (kernel_17, 15, 11, .int qy_71), (kernel_17, 15, 15, .int qf_71), (kernel_17, 15, 21, .int qg_71), (kernel_17, 15, 18, .int qp_71), (kernel_17, 15, 20, .int ql_71), (kernel_17, 15, 10, .int qc_71), (kernel_17, 15, 7, .int qs_71), (el_2, 14, 10, .ref fault_60), (kernel_17, 15, 14, .ref arity_47), (kernel_17, 15, 4, .ref three_44), (kernel_17, 15, 3, .ref two_41), (kernel_17, 15, 2, .ref one_38), (kernel_17, 15, 1, .ref name_35), (kernel_17, 15, 0, .ref sort_32), (kernel_17, 15, 27, .ref hyp_29), (kernel_17, 15, 25, .ref hyps_26), (kernel_17, 15, 22, .ref goal_23), (kernel_17, 15, 17, .ref fact_20), (r0, 16, 58, .ref kernel_17), (el_2, 14, 9, .int (ck el_2)), (el_2, 14, 6, .ref yb_3), (el_2, 14, 7, .ref ye_3), (el_2, 14, 5, .int (sn el_2)), (r0, 16, 41, .ref dd), (r0, 16, 42, .int dc), (r0, 16, 60, .ref co), (r0, 16, 61, .ref cs), (r0, 16, 46, .ref ol), (r0, 16, 47, .ref nw), (r0, 16, 71, .ref td)]) [0, 1, 2, 3, 4, 5, 6, 7, 9, 10, 11, 12, 13, 14, 15, 16, 17, 18, 19, 20, 21, 22, 23, 24, 25, 26, 27, 28, 29, 30, 31] rfl (M1 := [(fact_20, 160, 16, ca 1, gf_71), (goal_23, 161, 46, ca 1, gg_71), (hyps_26, 159, 46, ca 1, gh_71), (hyp_29, 162, 368, ca 1, gp_71), (sort_32, 150, 120000, ca 1, D_71.s), (name_35, 151, 120000, ca 1, D_71.n), (one_38, 152, 120000, ca 1, D_71.a), (two_41, 153, 120000, ca 1, D_71.b), (three_44, 154, 120000, ca 1, D_71.c), (arity_47, 165, 16, ca 1, D_71.y), (yb_3, 190, 40, ca 1, fb_3), (ye_3, 191, 40, ca 1, fe_3), (cs, 207, 2, ca 1, fs)]) [0, 1, 2, 3, 4, 5, 6, 7, 8, 9, 10, 11, 12] rfl (I1 := [([(208, 0)], jQc dC dI (ca 4) co 2 fq_10), (jFs, jDY dC dI ca G0 none sn), (jF9, jVl dC dI G0 9 ck), ([(201, 0)], jQc dC dI (ca 4) dd 3 fd)]) [0, 1, 2, 3] rfl
    clear hh_71
    refine j7_iast hx hb hK hh_73 hB hB193 1 rfl (by decide) (by decide) rfl rfl rfl hg_fault_60 (x := z_7.toInt) (rfl) (by omega) (trivial) dX14_finish_61 (fun H_74 locs_74 hh_74 => ?_)
    clear hh_73
    refine lv_aload_n hx hb dX14_finish_62 rfl (lv_at hl 1 rfl) ?_
    refine lv_iload_n hx hb dX14_finish_63 rfl (lv_at hl 0 rfl) ?_
    refine lv_iconst (v := 1) hx hb dX14_finish_64 (by decide) ?_
    refine lv_iadd hx hb dX14_finish_65 ?_
    refine lv_topi (fun z_75 ez_75 => ?_)
    have hz_75 : z_75.toInt = z_7.toInt + 1 := by rw [ez_75]; exact jb_iadd2 (rfl) ((by decide)) (by omega)
    have hd_77 := hh_74.iv 2 rfl
    have hh_78 := hh_74.sub (L1 := [(kernel_17, 15, 5, .int qn_71), (kernel_17, 15, 11, .int qy_71), (kernel_17, 15, 15, .int qf_71), (kernel_17, 15, 21, .int qg_71), (kernel_17, 15, 18, .int qp_71), (kernel_17, 15, 20, .int ql_71), (kernel_17, 15, 10, .int qc_71), (kernel_17, 15, 7, .int qs_71), (el_2, 14, 10, .ref fault_60), (kernel_17, 15, 14, .ref arity_47), (kernel_17, 15, 4, .ref three_44), (kernel_17, 15, 3, .ref two_41), (kernel_17, 15, 2, .ref one_38), (kernel_17, 15, 1, .ref name_35), (kernel_17, 15, 0, .ref sort_32), (kernel_17, 15, 27, .ref hyp_29), (kernel_17, 15, 25, .ref hyps_26), (kernel_17, 15, 22, .ref goal_23), (kernel_17, 15, 17, .ref fact_20), (r0, 16, 58, .ref kernel_17), (el_2, 14, 9, .int (ck el_2)), (el_2, 14, 6, .ref yb_3), (el_2, 14, 7, .ref ye_3), (el_2, 14, 5, .int (sn el_2)), (r0, 16, 41, .ref dd), (r0, 16, 42, .int dc), (r0, 16, 60, .ref co), (r0, 16, 61, .ref cs), (r0, 16, 46, .ref ol), (r0, 16, 47, .ref nw), (r0, 16, 71, .ref td)]) [0, 1, 2, 3, 4, 5, 6, 7, 8, 9, 10, 11, 12, 13, 14, 15, 16, 17, 18, 19, 20, 21, 22, 23, 24, 25, 26, 27, 28, 29, 30] rfl (M1 := [(fact_20, 160, 16, ca 1, gf_71), (goal_23, 161, 46, ca 1, gg_71), (hyps_26, 159, 46, ca 1, gh_71), (hyp_29, 162, 368, ca 1, gp_71), (sort_32, 150, 120000, ca 1, D_71.s), (name_35, 151, 120000, ca 1, D_71.n), (one_38, 152, 120000, ca 1, D_71.a), (two_41, 153, 120000, ca 1, D_71.b), (three_44, 154, 120000, ca 1, D_71.c), (arity_47, 165, 16, ca 1, D_71.y), (yb_3, 190, 40, ca 1, fb_3), (ye_3, 191, 40, ca 1, fe_3), (cs, 207, 2, ca 1, fs)]) [0, 1, 2, 3, 4, 5, 6, 7, 8, 9, 10, 11, 12] rfl (I1 := [([(208, 0)], jQc dC dI (ca 4) co 2 fq_10), (jFs, jDY dC dI ca G0 none sn), ([(201, 0)], jQc dC dI (ca 4) dd 3 fd)]) [0, 1, 3] rfl
    clear hh_74
    refine j7_putNX hx hb hown hK hh_78 hB hAp hB14 (C := RX12) (T := TX12) (N := 11) rfl (by decide) hg_el_2 (i := 9) (by decide) hly_14_9 rfl hlk_531 rfl (ty := .int) (v := .int z_75) (by decide +kernel) rfl rfl (⟨_, rfl, by omega, by omega⟩) rfl (L1 := [(kernel_17, 15, 5, .int qn_71), (kernel_17, 15, 11, .int qy_71), (kernel_17, 15, 15, .int qf_71), (kernel_17, 15, 21, .int qg_71), (kernel_17, 15, 18, .int qp_71), (kernel_17, 15, 20, .int ql_71), (kernel_17, 15, 10, .int qc_71), (kernel_17, 15, 7, .int qs_71), (el_2, 14, 10, .ref fault_60), (kernel_17, 15, 14, .ref arity_47), (kernel_17, 15, 4, .ref three_44), (kernel_17, 15, 3, .ref two_41), (kernel_17, 15, 2, .ref one_38), (kernel_17, 15, 1, .ref name_35), (kernel_17, 15, 0, .ref sort_32), (kernel_17, 15, 27, .ref hyp_29), (kernel_17, 15, 25, .ref hyps_26), (kernel_17, 15, 22, .ref goal_23), (kernel_17, 15, 17, .ref fact_20), (r0, 16, 58, .ref kernel_17), (el_2, 14, 6, .ref yb_3), (el_2, 14, 7, .ref ye_3), (el_2, 14, 5, .int (sn el_2)), (r0, 16, 41, .ref dd), (r0, 16, 42, .int dc), (r0, 16, 60, .ref co), (r0, 16, 61, .ref cs), (r0, 16, 46, .ref ol), (r0, 16, 47, .ref nw), (r0, 16, 71, .ref td)]) [0, 1, 2, 3, 4, 5, 6, 7, 8, 9, 10, 11, 12, 13, 14, 15, 16, 17, 18, 19, 21, 22, 23, 24, 25, 26, 27, 28, 29, 30] rfl rfl rfl dX14_finish_66 (fun H_76 locs_76 hr_76 hf_76 hh_76 => ?_)
    clear hh_78
    have hd_77n := jVl.put hd_77 hr_76 (hh_76.at 0 rfl)
    have hh_79 := hh_76.addI (jVl.ie hd_77n)
    clear hh_76
    clear hd_77 hd_77n hr_76 hf_76
    refine lv_aload_n hx hb dX14_finish_69 rfl (lv_at hl 2 rfl) ?_
    refine lv_aload_n hx hb dX14_finish_70 rfl (lv_at hl 1 rfl) ?_
    refine lv_iload_n hx hb dX14_finish_71 rfl (lv_at hl 0 rfl) ?_
    refine va_callv (A0 := jA base) (H0 := s.heap) (va_runV (As := [.ref el_2, .int z_7]) (rest := []) ⟨hx, hb, hml, hown, hts⟩ (uX14_takeRow l dC dI ca base B hB hAp hB14 hB16 hB101 hB190 hB191 hB194 G0 H_76 r0 el_2 z_7 yb_3 ye_3 (sn el_2).toInt fb_3 fe_3) (cwV 2 hts (jgV (jWr_90 _ (List.mem_of_getElem? (i := 13) rfl)) (jWr_90 _ (List.mem_of_getElem? (i := 14) rfl)) (jWr_90 _ (List.mem_of_getElem? (i := 15) rfl)) (jWr_1 _ (List.mem_of_getElem? (i := 5) rfl)) (jWr_90 _ (List.mem_of_getElem? (i := 16) rfl))) rfl rfl rfl (by decide +kernel) ⟨by rw [← hR]; exact Nat.le_of_ble_eq_true rfl, by rw [← hR]; exact Nat.le_of_ble_eq_true rfl⟩) ⟨fun a U g mk q => by obtain ⟨q0, q1, q2, qK, q10, q11, q12, q13, q14, q15, q16⟩ := q; exact ⟨q0, q1, q2, jG.calling g mk a qK, q10, q11, q12, q13, q14, q15, q16⟩, hh_79.recv (C := RX14) (T := TX14) (N := 74) hB16 rfl (by decide) hg_r0 hK, fun U hU hW => ⟨rfl, hU, hh_79.2.1, hG.step hW hU hh_79.1, hg_el_2, hg_r0, hg_yb_3, hg_ye_3, (hh_79.2.2.1.sub (L1 := [(el_2, 14, 6, .ref yb_3), (el_2, 14, 7, .ref ye_3)]) [21, 22] rfl), (hh_79.2.2.2.2.2.2.2.1.sub (L1 := [(yb_3, 190, 40, ca 1, fb_3), (ye_3, 191, 40, ca 1, fe_3)]) [10, 11] rfl), by first | omega | (refine ⟨?_, ?_, ?_, ?_⟩ <;> (first | omega | rfl | assumption | decide | exact Or.inl rfl | exact Or.inr rfl | (simp only; omega)))⟩⟩ rfl rfl hl.1 rfl (lv_room (Nat.le_of_ble_eq_true rfl)) dX14_finish_72 ⟨Nat.zero_le _, Nat.zero_le _⟩) hh_79.1 (fun q _ h => h) (fun q h => h) (fun u_80 t_80 H_80 locs_80 ht_80 hvm_80 hr_81 hb_80 hz_80 hk_80 hS_80 => ?_)
    rw [ht_80] at hb_80
    obtain ⟨hb_801, hb_802, hb_803, hb_804, hb_805⟩ := hb_80
    have hh_80 : jSt (dC, dI) B base G0 G0 EX14_finish s.heap 0 0 [(el_2, 14, 9, .int z_75), (kernel_17, 15, 5, .int qn_71), (kernel_17, 15, 11, .int qy_71), (kernel_17, 15, 15, .int qf_71), (kernel_17, 15, 21, .int qg_71), (kernel_17, 15, 18, .int qp_71), (kernel_17, 15, 20, .int ql_71), (kernel_17, 15, 10, .int qc_71), (kernel_17, 15, 7, .int qs_71), (el_2, 14, 10, .ref fault_60), (kernel_17, 15, 14, .ref arity_47), (kernel_17, 15, 4, .ref three_44), (kernel_17, 15, 3, .ref two_41), (kernel_17, 15, 2, .ref one_38), (kernel_17, 15, 1, .ref name_35), (kernel_17, 15, 0, .ref sort_32), (kernel_17, 15, 27, .ref hyp_29), (kernel_17, 15, 25, .ref hyps_26), (kernel_17, 15, 22, .ref goal_23), (kernel_17, 15, 17, .ref fact_20), (r0, 16, 58, .ref kernel_17), (el_2, 14, 6, .ref yb_3), (el_2, 14, 7, .ref ye_3), (el_2, 14, 5, .int (sn el_2)), (r0, 16, 41, .ref dd), (r0, 16, 42, .int dc), (r0, 16, 60, .ref co), (r0, 16, 61, .ref cs), (r0, 16, 46, .ref ol), (r0, 16, 47, .ref nw), (r0, 16, 71, .ref td)] [(fact_20, 160, 16, ca 1, gf_71), (goal_23, 161, 46, ca 1, gg_71), (hyps_26, 159, 46, ca 1, gh_71), (hyp_29, 162, 368, ca 1, gp_71), (sort_32, 150, 120000, ca 1, D_71.s), (name_35, 151, 120000, ca 1, D_71.n), (one_38, 152, 120000, ca 1, D_71.a), (two_41, 153, 120000, ca 1, D_71.b), (three_44, 154, 120000, ca 1, D_71.c), (arity_47, 165, 16, ca 1, D_71.y), (yb_3, 190, 40, ca 1, fb_3), (ye_3, 191, 40, ca 1, fe_3), (cs, 207, 2, ca 1, fs)] [(jF9, jVl dC dI G0 9 (jUn ck el_2 z_75)), ([(208, 0)], jQc dC dI (ca 4) co 2 fq_10), (jFs, jDY dC dI ca G0 none sn), ([(201, 0)], jQc dC dI (ca 4) dd 3 fd)] H_80 locs_80 := ((hh_79.call hb_801 hb_802 hb_803 hb_804 hS_80 rfl (L1 := [(el_2, 14, 9, .int z_75), (kernel_17, 15, 5, .int qn_71), (kernel_17, 15, 11, .int qy_71), (kernel_17, 15, 15, .int qf_71), (kernel_17, 15, 21, .int qg_71), (kernel_17, 15, 18, .int qp_71), (kernel_17, 15, 20, .int ql_71), (kernel_17, 15, 10, .int qc_71), (kernel_17, 15, 7, .int qs_71), (el_2, 14, 10, .ref fault_60), (kernel_17, 15, 14, .ref arity_47), (kernel_17, 15, 4, .ref three_44), (kernel_17, 15, 3, .ref two_41), (kernel_17, 15, 2, .ref one_38), (kernel_17, 15, 1, .ref name_35), (kernel_17, 15, 0, .ref sort_32), (kernel_17, 15, 27, .ref hyp_29), (kernel_17, 15, 25, .ref hyps_26), (kernel_17, 15, 22, .ref goal_23), (kernel_17, 15, 17, .ref fact_20), (r0, 16, 58, .ref kernel_17), (el_2, 14, 6, .ref yb_3), (el_2, 14, 7, .ref ye_3), (el_2, 14, 5, .int (sn el_2)), (r0, 16, 41, .ref dd), (r0, 16, 42, .int dc), (r0, 16, 60, .ref co), (r0, 16, 61, .ref cs), (r0, 16, 46, .ref ol), (r0, 16, 47, .ref nw), (r0, 16, 71, .ref td)]) [0, 1, 2, 3, 4, 5, 6, 7, 8, 9, 10, 11, 12, 13, 14, 15, 16, 17, 18, 19, 20, 21, 22, 23, 24, 25, 26, 27, 28, 29, 30] rfl rfl (M1 := [(fact_20, 160, 16, ca 1, gf_71), (goal_23, 161, 46, ca 1, gg_71), (hyps_26, 159, 46, ca 1, gh_71), (hyp_29, 162, 368, ca 1, gp_71), (sort_32, 150, 120000, ca 1, D_71.s), (name_35, 151, 120000, ca 1, D_71.n), (one_38, 152, 120000, ca 1, D_71.a), (two_41, 153, 120000, ca 1, D_71.b), (three_44, 154, 120000, ca 1, D_71.c), (arity_47, 165, 16, ca 1, D_71.y), (yb_3, 190, 40, ca 1, fb_3), (ye_3, 191, 40, ca 1, fe_3), (cs, 207, 2, ca 1, fs)]) [0, 1, 2, 3, 4, 5, 6, 7, 8, 9, 10, 11, 12] rfl rfl (I1 := [(jF9, jVl dC dI G0 9 (jUn ck el_2 z_75)), ([(208, 0)], jQc dC dI (ca 4) co 2 fq_10), (jFs, jDY dC dI ca G0 none sn), ([(201, 0)], jQc dC dI (ca 4) dd 3 fd)]) [0, 1, 2, 3] rfl rfl).more hb_805)
    clear hh_79 ht_80 hvm_80 hz_80 hk_80 hS_80 hb_801 hb_802 hb_803 hb_804 hb_805
    refine lv_aload_n hx hb dX14_finish_75 rfl (lv_at hl 2 rfl) ?_
    refine va_callv (A0 := jA base) (H0 := s.heap) (va_runV (As := []) (rest := []) ⟨hx, hb, hml, hown, hts⟩ (uX14_keepRow l dC dI ca base B hB hAp hB16 hB101 hB205 G0 H_80 r0) (cwV 0 hts (jgV (jWr_91 _ (List.mem_of_getElem? (i := 12) rfl)) (jWr_91 _ (List.mem_of_getElem? (i := 13) rfl)) (jWr_91 _ (List.mem_of_getElem? (i := 14) rfl)) (jWr_1 _ (List.mem_of_getElem? (i := 5) rfl)) (jWr_91 _ (List.mem_of_getElem? (i := 15) rfl))) rfl rfl rfl (by decide +kernel) ⟨by rw [← hR]; exact Nat.le_of_ble_eq_true rfl, by rw [← hR]; exact Nat.le_of_ble_eq_true rfl⟩) ⟨fun a U g mk q => by obtain ⟨q0, q1, q2, qK, q10, q11, q12⟩ := q; exact ⟨q0, q1, q2, jG.calling g mk a qK, q10, q11, q12⟩, hh_80.recv (C := RX14) (T := TX14) (N := 74) hB16 rfl (by decide) hg_r0 hK, fun U hU hW => ⟨rfl, hU, hh_80.2.1, hG.step hW hU hh_80.1, hg_r0, jP.nil, trivial⟩⟩ rfl rfl hl.1 rfl (lv_room (Nat.le_of_ble_eq_true rfl)) dX14_finish_76 ⟨Nat.zero_le _, Nat.zero_le _⟩) hh_80.1 (fun q _ h => h) (fun q h => h) (fun u_82 t_82 H_82 locs_82 ht_82 hvm_82 hr_83 hb_82 hz_82 hk_82 hS_82 => ?_)
    rw [ht_82] at hb_82
    obtain ⟨hb_821, hb_822, hb_823, hb_824, hb_825⟩ := hb_82
    have hh_82 : jSt (dC, dI) B base G0 G0 EX14_finish s.heap 0 0 [(el_2, 14, 9, .int z_75), (kernel_17, 15, 5, .int qn_71), (kernel_17, 15, 11, .int qy_71), (kernel_17, 15, 15, .int qf_71), (kernel_17, 15, 21, .int qg_71), (kernel_17, 15, 18, .int qp_71), (kernel_17, 15, 20, .int ql_71), (kernel_17, 15, 10, .int qc_71), (kernel_17, 15, 7, .int qs_71), (el_2, 14, 10, .ref fault_60), (kernel_17, 15, 14, .ref arity_47), (kernel_17, 15, 4, .ref three_44), (kernel_17, 15, 3, .ref two_41), (kernel_17, 15, 2, .ref one_38), (kernel_17, 15, 1, .ref name_35), (kernel_17, 15, 0, .ref sort_32), (kernel_17, 15, 27, .ref hyp_29), (kernel_17, 15, 25, .ref hyps_26), (kernel_17, 15, 22, .ref goal_23), (kernel_17, 15, 17, .ref fact_20), (r0, 16, 58, .ref kernel_17), (el_2, 14, 6, .ref yb_3), (el_2, 14, 7, .ref ye_3), (el_2, 14, 5, .int (sn el_2)), (r0, 16, 41, .ref dd), (r0, 16, 42, .int dc), (r0, 16, 60, .ref co), (r0, 16, 61, .ref cs), (r0, 16, 46, .ref ol), (r0, 16, 47, .ref nw), (r0, 16, 71, .ref td)] [(fact_20, 160, 16, ca 1, gf_71), (goal_23, 161, 46, ca 1, gg_71), (hyps_26, 159, 46, ca 1, gh_71), (hyp_29, 162, 368, ca 1, gp_71), (sort_32, 150, 120000, ca 1, D_71.s), (name_35, 151, 120000, ca 1, D_71.n), (one_38, 152, 120000, ca 1, D_71.a), (two_41, 153, 120000, ca 1, D_71.b), (three_44, 154, 120000, ca 1, D_71.c), (arity_47, 165, 16, ca 1, D_71.y), (yb_3, 190, 40, ca 1, fb_3), (ye_3, 191, 40, ca 1, fe_3), (cs, 207, 2, ca 1, fs)] [(jF9, jVl dC dI G0 9 (jUn ck el_2 z_75)), ([(208, 0)], jQc dC dI (ca 4) co 2 fq_10), (jFs, jDY dC dI ca G0 none sn), ([(201, 0)], jQc dC dI (ca 4) dd 3 fd)] H_82 locs_82 := ((hh_80.call hb_821 hb_822 hb_823 hb_824 hS_82 rfl (L1 := [(el_2, 14, 9, .int z_75), (kernel_17, 15, 5, .int qn_71), (kernel_17, 15, 11, .int qy_71), (kernel_17, 15, 15, .int qf_71), (kernel_17, 15, 21, .int qg_71), (kernel_17, 15, 18, .int qp_71), (kernel_17, 15, 20, .int ql_71), (kernel_17, 15, 10, .int qc_71), (kernel_17, 15, 7, .int qs_71), (el_2, 14, 10, .ref fault_60), (kernel_17, 15, 14, .ref arity_47), (kernel_17, 15, 4, .ref three_44), (kernel_17, 15, 3, .ref two_41), (kernel_17, 15, 2, .ref one_38), (kernel_17, 15, 1, .ref name_35), (kernel_17, 15, 0, .ref sort_32), (kernel_17, 15, 27, .ref hyp_29), (kernel_17, 15, 25, .ref hyps_26), (kernel_17, 15, 22, .ref goal_23), (kernel_17, 15, 17, .ref fact_20), (r0, 16, 58, .ref kernel_17), (el_2, 14, 6, .ref yb_3), (el_2, 14, 7, .ref ye_3), (el_2, 14, 5, .int (sn el_2)), (r0, 16, 41, .ref dd), (r0, 16, 42, .int dc), (r0, 16, 60, .ref co), (r0, 16, 61, .ref cs), (r0, 16, 46, .ref ol), (r0, 16, 47, .ref nw), (r0, 16, 71, .ref td)]) [0, 1, 2, 3, 4, 5, 6, 7, 8, 9, 10, 11, 12, 13, 14, 15, 16, 17, 18, 19, 20, 21, 22, 23, 24, 25, 26, 27, 28, 29, 30] rfl rfl (M1 := [(fact_20, 160, 16, ca 1, gf_71), (goal_23, 161, 46, ca 1, gg_71), (hyps_26, 159, 46, ca 1, gh_71), (hyp_29, 162, 368, ca 1, gp_71), (sort_32, 150, 120000, ca 1, D_71.s), (name_35, 151, 120000, ca 1, D_71.n), (one_38, 152, 120000, ca 1, D_71.a), (two_41, 153, 120000, ca 1, D_71.b), (three_44, 154, 120000, ca 1, D_71.c), (arity_47, 165, 16, ca 1, D_71.y), (yb_3, 190, 40, ca 1, fb_3), (ye_3, 191, 40, ca 1, fe_3), (cs, 207, 2, ca 1, fs)]) [0, 1, 2, 3, 4, 5, 6, 7, 8, 9, 10, 11, 12] rfl rfl (I1 := [(jF9, jVl dC dI G0 9 (jUn ck el_2 z_75)), ([(208, 0)], jQc dC dI (ca 4) co 2 fq_10), (jFs, jDY dC dI ca G0 none sn), ([(201, 0)], jQc dC dI (ca 4) dd 3 fd)]) [0, 1, 2, 3] rfl rfl).more hb_825)
    clear hh_80 ht_82 hvm_82 hz_82 hk_82 hS_82 hb_821 hb_822 hb_823 hb_824 hb_825
    refine lv_aload_n hx hb dX14_finish_79 rfl (lv_at hl 2 rfl) ?_
    obtain ⟨v_84, hv_84, hh_85⟩ := hh_82.pin (C := RX14) (T := TX14) (N := 74) hB16 rfl (by decide) hg_r0 (i := 63) (by decide) rfl
    clear hh_82
    obtain ⟨checkCached_86, rfl, hg_checkCached_86⟩ := hv_84
    refine j7_read hx hb hown hK (C := RX14) (T := TX14) (N := 74) rfl hly_16_63 hlk_138 (hh_85.at 0 rfl) dX14_finish_80 ?_
    have hh_87 := hh_85.sub (L1 := [(r0, 16, 63, .ref checkCached_86), (el_2, 14, 9, .int z_75), (kernel_17, 15, 5, .int qn_71), (kernel_17, 15, 11, .int qy_71), (kernel_17, 15, 15, .int qf_71), (kernel_17, 15, 21, .int qg_71), (kernel_17, 15, 18, .int qp_71), (kernel_17, 15, 20, .int ql_71), (kernel_17, 15, 10, .int qc_71), (kernel_17, 15, 7, .int qs_71), (kernel_17, 15, 14, .ref arity_47), (kernel_17, 15, 4, .ref three_44), (kernel_17, 15, 3, .ref two_41), (kernel_17, 15, 2, .ref one_38), (kernel_17, 15, 1, .ref name_35), (kernel_17, 15, 0, .ref sort_32), (kernel_17, 15, 27, .ref hyp_29), (kernel_17, 15, 25, .ref hyps_26), (kernel_17, 15, 22, .ref goal_23), (kernel_17, 15, 17, .ref fact_20), (r0, 16, 58, .ref kernel_17), (el_2, 14, 6, .ref yb_3), (el_2, 14, 7, .ref ye_3), (el_2, 14, 5, .int (sn el_2)), (r0, 16, 41, .ref dd), (r0, 16, 42, .int dc), (r0, 16, 60, .ref co), (r0, 16, 61, .ref cs), (r0, 16, 46, .ref ol), (r0, 16, 47, .ref nw), (r0, 16, 71, .ref td)]) [0, 1, 2, 3, 4, 5, 6, 7, 8, 9, 11, 12, 13, 14, 15, 16, 17, 18, 19, 20, 21, 22, 23, 24, 25, 26, 27, 28, 29, 30, 31] rfl (M1 := [(fact_20, 160, 16, ca 1, gf_71), (goal_23, 161, 46, ca 1, gg_71), (hyps_26, 159, 46, ca 1, gh_71), (hyp_29, 162, 368, ca 1, gp_71), (sort_32, 150, 120000, ca 1, D_71.s), (name_35, 151, 120000, ca 1, D_71.n), (one_38, 152, 120000, ca 1, D_71.a), (two_41, 153, 120000, ca 1, D_71.b), (three_44, 154, 120000, ca 1, D_71.c), (arity_47, 165, 16, ca 1, D_71.y), (yb_3, 190, 40, ca 1, fb_3), (ye_3, 191, 40, ca 1, fe_3), (cs, 207, 2, ca 1, fs)]) [0, 1, 2, 3, 4, 5, 6, 7, 8, 9, 10, 11, 12] rfl (I1 := [(jF9, jVl dC dI G0 9 (jUn ck el_2 z_75)), ([(208, 0)], jQc dC dI (ca 4) co 2 fq_10), (jFs, jDY dC dI ca G0 none sn), ([(201, 0)], jQc dC dI (ca 4) dd 3 fd)]) [0, 1, 2, 3] rfl
    clear hh_85
    refine lv_iload_n hx hb dX14_finish_83 rfl (lv_at hl 3 rfl) ?_
    refine j7_zald hx hb hK hh_87 hB103 3 rfl (by decide) hg_checkCached_86 (x := a1.toInt) (rfl) (by omega) dX14_finish_84 (fun z_88 (hz_88 : (z_88 = 0 ∨ z_88 = 1)) => ?_)
    have hz_88' := jb_01 hz_88
    refine lv_if_eq (tgt := 98) hx hb dX14_finish_85 (by decide) (fun c_89 => ?_) (fun c_89 => ?_)
    · skip
      have c_89' : z_88.toInt = 0 := jb_eq (rfl) ((by decide)) c_89
      refine lv_aload_n hx hb dX14_finish_98 rfl (lv_at hl 2 rfl) ?_
      refine lv_aload_n hx hb dX14_finish_99 rfl (lv_at hl 1 rfl) ?_
      refine va_callv (A0 := jA base) (H0 := s.heap) (va_runV (As := [.ref el_2]) (rest := []) ⟨hx, hb, hml, hown, hts⟩ (uX14_settled l dC dI ca base B hB hAp hB14 hB15 hB16 hB101 hB103 hB150 hB151 hB152 hB153 hB154 hB155 hB156 hB157 hB158 hB159 hB160 hB161 hB162 hB163 hB164 hB165 hB166 hB167 hB168 hB169 hB190 hB191 hB192 hB193 hB194 hB195 hB202 hB203 hB204 hB206 G0 H_82 r0 el_2 dd dc co cs ol nw td sn (jUn ck el_2 z_75) fd fq_10 fs) (cwV 1 hts (jgV (jWr_58 _ (List.mem_of_getElem? (i := 7) rfl)) (jWr_58 _ (List.mem_of_getElem? (i := 8) rfl)) (jWr_58 _ (List.mem_of_getElem? (i := 9) rfl)) (jWr_1 _ (List.mem_of_getElem? (i := 5) rfl)) (jWr_58 _ (List.mem_of_getElem? (i := 10) rfl))) rfl rfl rfl (by decide +kernel) ⟨by rw [← hR]; exact Nat.le_of_ble_eq_true rfl, by rw [← hR]; exact Nat.le_of_ble_eq_true rfl⟩) ⟨fun a U g mk q => by obtain ⟨q0, q1, q2, qK, q10, q11, q12, q13, q14, q15, q16, q17, q18, q19, q20, q21, q22⟩ := q; exact ⟨q0, q1, q2, jG.calling g mk a qK, (va_K.moved (Vm.Alike.refl U.vm) q10), q11, q12, q13, q14, q15, q16, q17, q18, q19, q20, q21, q22⟩, hh_87.recv (C := RX14) (T := TX14) (N := 74) hB16 rfl (by decide) hg_r0 hK, fun U hU hW => ⟨rfl, hU, hh_87.2.1, hG.step hW hU hh_87.1, va_K.moved hW.alike hK2, hg_el_2, hg_r0, hg_dd, hg_co, hg_cs, hg_ol, hg_nw, hg_td, (hh_87.2.2.1.sub (L1 := [(r0, 16, 41, .ref dd), (r0, 16, 42, .int dc), (r0, 16, 60, .ref co), (r0, 16, 61, .ref cs), (r0, 16, 46, .ref ol), (r0, 16, 47, .ref nw), (r0, 16, 71, .ref td)]) [24, 25, 26, 27, 28, 29, 30] rfl), (hh_87.2.2.2.2.2.2.2.1.sub (L1 := [(cs, 207, 2, ca 1, fs)]) [12] rfl), (hh_87.2.2.2.2.2.2.2.2.sub (L1 := [(jFs, jDY dC dI ca G0 none sn), (jF9, jVl dC dI G0 9 (jUn ck el_2 z_75)), ([(201, 0)], jQc dC dI (ca 4) dd 3 fd), ([(208, 0)], jQc dC dI (ca 4) co 2 fq_10)]) [2, 0, 3, 1] rfl), ⟨(by first | assumption | (rw [jUn_e]; omega) | exact (hp0.drop hv_8 ho_8).chk (by omega) | omega), (by first | omega | rfl | assumption | (rw [jUn_e]; omega) | exact (hp0.drop hv_8 ho_8).chk (by omega))⟩⟩⟩ rfl rfl hl.1 rfl (lv_room (Nat.le_of_ble_eq_true rfl)) dX14_finish_100 ⟨Nat.zero_le _, Nat.zero_le _⟩) hh_87.1 (fun q _ h => h) (fun q h => h) (fun u_90 t_90 H_90 locs_90 ht_90 hvm_90 hr_91 hb_90 hz_90 hk_90 hS_90 => ?_)
      rw [ht_90] at hb_90
      obtain ⟨hb_901, hb_902, hb_903, hb_904, hb_905⟩ := hb_90
      have hh_90 : jSt (dC, dI) B base G0 G0 EX14_finish s.heap 0 0 [(r0, 16, 63, .ref checkCached_86), (el_2, 14, 9, .int z_75), (kernel_17, 15, 14, .ref arity_47), (kernel_17, 15, 4, .ref three_44), (kernel_17, 15, 3, .ref two_41), (kernel_17, 15, 2, .ref one_38), (kernel_17, 15, 1, .ref name_35), (kernel_17, 15, 0, .ref sort_32), (kernel_17, 15, 27, .ref hyp_29), (kernel_17, 15, 25, .ref hyps_26), (kernel_17, 15, 22, .ref goal_23), (kernel_17, 15, 17, .ref fact_20), (r0, 16, 58, .ref kernel_17), (el_2, 14, 6, .ref yb_3), (el_2, 14, 7, .ref ye_3), (el_2, 14, 5, .int (sn el_2)), (r0, 16, 41, .ref dd), (r0, 16, 42, .int dc), (r0, 16, 60, .ref co), (r0, 16, 61, .ref cs), (r0, 16, 46, .ref ol), (r0, 16, 47, .ref nw), (r0, 16, 71, .ref td)] [(yb_3, 190, 40, ca 1, fb_3), (ye_3, 191, 40, ca 1, fe_3), (cs, 207, 2, ca 1, fs)] [(jF9, jVl dC dI G0 9 (jUn ck el_2 z_75)), ([(208, 0)], jQc dC dI (ca 4) co 2 fq_10), (jFs, jDY dC dI ca G0 none sn), ([(201, 0)], jQc dC dI (ca 4) dd 3 fd)] H_90 locs_90 := ((hh_87.call hb_901 hb_902 hb_903 hb_904 hS_90 rfl (L1 := [(r0, 16, 63, .ref checkCached_86), (el_2, 14, 9, .int z_75), (kernel_17, 15, 14, .ref arity_47), (kernel_17, 15, 4, .ref three_44), (kernel_17, 15, 3, .ref two_41), (kernel_17, 15, 2, .ref one_38), (kernel_17, 15, 1, .ref name_35), (kernel_17, 15, 0, .ref sort_32), (kernel_17, 15, 27, .ref hyp_29), (kernel_17, 15, 25, .ref hyps_26), (kernel_17, 15, 22, .ref goal_23), (kernel_17, 15, 17, .ref fact_20), (r0, 16, 58, .ref kernel_17), (el_2, 14, 6, .ref yb_3), (el_2, 14, 7, .ref ye_3), (el_2, 14, 5, .int (sn el_2)), (r0, 16, 41, .ref dd), (r0, 16, 42, .int dc), (r0, 16, 60, .ref co), (r0, 16, 61, .ref cs), (r0, 16, 46, .ref ol), (r0, 16, 47, .ref nw), (r0, 16, 71, .ref td)]) [0, 1, 10, 11, 12, 13, 14, 15, 16, 17, 18, 19, 20, 21, 22, 23, 24, 25, 26, 27, 28, 29, 30] rfl rfl (M1 := [(yb_3, 190, 40, ca 1, fb_3), (ye_3, 191, 40, ca 1, fe_3), (cs, 207, 2, ca 1, fs)]) [10, 11, 12] rfl rfl (I1 := [(jF9, jVl dC dI G0 9 (jUn ck el_2 z_75)), ([(208, 0)], jQc dC dI (ca 4) co 2 fq_10), (jFs, jDY dC dI ca G0 none sn), ([(201, 0)], jQc dC dI (ca 4) dd 3 fd)]) [0, 1, 2, 3] rfl rfl).more hb_905)
      clear hh_87 ht_90 hvm_90 hz_90 hk_90 hS_90 hb_901 hb_902 hb_903 hb_904 hb_905
      rw [hQ]
      exact W.vret hx hb hr (fun t ht hW => ⟨⟨(), rfl, trivial, ⟨hh_90.rt (M1 := []) [] rfl ht, by rw [ht]; exact ⟨sn, (jUn ck el_2 z_75), fs, fd, fq_10, dc, hh_90.2.2.1.sub (L1 := [(r0, 16, 41, .ref dd), (r0, 16, 42, .int dc), (r0, 16, 60, .ref co), (r0, 16, 61, .ref cs), (r0, 16, 46, .ref ol), (r0, 16, 47, .ref nw), (r0, 16, 71, .ref td)]) [16, 17, 18, 19, 20, 21, 22] rfl, hh_90.2.2.2.2.2.2.2.1.sub (L1 := [(cs, 207, 2, ca 1, fs)]) [2] rfl, hh_90.2.2.2.2.2.2.2.2.sub (L1 := [(jFs, jDY dC dI ca G0 none sn), (jF9, jVl dC dI G0 9 (jUn ck el_2 z_75)), ([(201, 0)], jQc dC dI (ca 4) dd 3 fd), ([(208, 0)], jQc dC dI (ca 4) co 2 fq_10)]) [2, 0, 3, 1] rfl, (hp0.drop hv_8 ho_8).chk (by omega)⟩⟩⟩, by rw [ht]; try exact hh_90.1.1, fun q h9 hq => by rw [ht]; try exact hh_90.1.2.1 q h9 hq⟩) hh_90.1.2.2 dX14_finish_103
    · skip
      have c_89' : z_88.toInt ≠ 0 := jb_eq_n (rfl) ((by decide)) c_89
      refine lv_aload_n hx hb dX14_finish_88 rfl (lv_at hl 2 rfl) ?_
      refine lv_dup hx hb dX14_finish_89 rfl ?_
      obtain ⟨v_92, hv_92, hh_93⟩ := hh_87.pin (C := RX14) (T := TX14) (N := 74) hB16 rfl (by decide) hg_r0 (i := 65) (by decide) rfl
      clear hh_87
      obtain ⟨cachedChecks_94, rfl⟩ := hv_92
      refine j7_read hx hb hown hK (C := RX14) (T := TX14) (N := 74) rfl hly_16_65 hlk_796 (hh_93.at 0 rfl) dX14_finish_90 ?_
      have hh_95 := hh_93.sub (L1 := [(r0, 16, 65, .int cachedChecks_94), (el_2, 14, 9, .int z_75), (kernel_17, 15, 5, .int qn_71), (kernel_17, 15, 11, .int qy_71), (kernel_17, 15, 15, .int qf_71), (kernel_17, 15, 21, .int qg_71), (kernel_17, 15, 18, .int qp_71), (kernel_17, 15, 20, .int ql_71), (kernel_17, 15, 10, .int qc_71), (kernel_17, 15, 7, .int qs_71), (kernel_17, 15, 14, .ref arity_47), (kernel_17, 15, 4, .ref three_44), (kernel_17, 15, 3, .ref two_41), (kernel_17, 15, 2, .ref one_38), (kernel_17, 15, 1, .ref name_35), (kernel_17, 15, 0, .ref sort_32), (kernel_17, 15, 27, .ref hyp_29), (kernel_17, 15, 25, .ref hyps_26), (kernel_17, 15, 22, .ref goal_23), (kernel_17, 15, 17, .ref fact_20), (r0, 16, 58, .ref kernel_17), (el_2, 14, 6, .ref yb_3), (el_2, 14, 7, .ref ye_3), (el_2, 14, 5, .int (sn el_2)), (r0, 16, 41, .ref dd), (r0, 16, 42, .int dc), (r0, 16, 60, .ref co), (r0, 16, 61, .ref cs), (r0, 16, 46, .ref ol), (r0, 16, 47, .ref nw), (r0, 16, 71, .ref td)]) [0, 2, 3, 4, 5, 6, 7, 8, 9, 10, 11, 12, 13, 14, 15, 16, 17, 18, 19, 20, 21, 22, 23, 24, 25, 26, 27, 28, 29, 30, 31] rfl (M1 := [(fact_20, 160, 16, ca 1, gf_71), (goal_23, 161, 46, ca 1, gg_71), (hyps_26, 159, 46, ca 1, gh_71), (hyp_29, 162, 368, ca 1, gp_71), (sort_32, 150, 120000, ca 1, D_71.s), (name_35, 151, 120000, ca 1, D_71.n), (one_38, 152, 120000, ca 1, D_71.a), (two_41, 153, 120000, ca 1, D_71.b), (three_44, 154, 120000, ca 1, D_71.c), (arity_47, 165, 16, ca 1, D_71.y), (yb_3, 190, 40, ca 1, fb_3), (ye_3, 191, 40, ca 1, fe_3), (cs, 207, 2, ca 1, fs)]) [0, 1, 2, 3, 4, 5, 6, 7, 8, 9, 10, 11, 12] rfl (I1 := [(jF9, jVl dC dI G0 9 (jUn ck el_2 z_75)), ([(208, 0)], jQc dC dI (ca 4) co 2 fq_10), (jFs, jDY dC dI ca G0 none sn), ([(201, 0)], jQc dC dI (ca 4) dd 3 fd)]) [0, 1, 2, 3] rfl
      clear hh_93
      refine lv_iconst (v := 1) hx hb dX14_finish_93 (by decide) ?_
      refine lv_iadd hx hb dX14_finish_94 ?_
      refine lv_topi (fun z_96 ez_96 => ?_)
      refine j7_put hx hb hown hK hh_95 hB hAp hB16 (C := RX14) (T := TX14) (N := 74) rfl (by decide) hg_r0 (i := 65) (by decide) hly_16_65 rfl hlk_796 rfl (ty := .int) (v := .int z_96) (by decide +kernel) rfl rfl (⟨_, rfl⟩) rfl (L1 := [(el_2, 14, 9, .int z_75), (kernel_17, 15, 5, .int qn_71), (kernel_17, 15, 11, .int qy_71), (kernel_17, 15, 15, .int qf_71), (kernel_17, 15, 21, .int qg_71), (kernel_17, 15, 18, .int qp_71), (kernel_17, 15, 20, .int ql_71), (kernel_17, 15, 10, .int qc_71), (kernel_17, 15, 7, .int qs_71), (kernel_17, 15, 14, .ref arity_47), (kernel_17, 15, 4, .ref three_44), (kernel_17, 15, 3, .ref two_41), (kernel_17, 15, 2, .ref one_38), (kernel_17, 15, 1, .ref name_35), (kernel_17, 15, 0, .ref sort_32), (kernel_17, 15, 27, .ref hyp_29), (kernel_17, 15, 25, .ref hyps_26), (kernel_17, 15, 22, .ref goal_23), (kernel_17, 15, 17, .ref fact_20), (r0, 16, 58, .ref kernel_17), (el_2, 14, 6, .ref yb_3), (el_2, 14, 7, .ref ye_3), (el_2, 14, 5, .int (sn el_2)), (r0, 16, 41, .ref dd), (r0, 16, 42, .int dc), (r0, 16, 60, .ref co), (r0, 16, 61, .ref cs), (r0, 16, 46, .ref ol), (r0, 16, 47, .ref nw), (r0, 16, 71, .ref td)]) [1, 2, 3, 4, 5, 6, 7, 8, 9, 10, 11, 12, 13, 14, 15, 16, 17, 18, 19, 20, 21, 22, 23, 24, 25, 26, 27, 28, 29, 30] rfl rfl rfl dX14_finish_95 (fun H_97 locs_97 hh_97 => ?_)
      clear hh_95
      refine lv_aload_n hx hb dX14_finish_98 rfl (lv_at hl 2 rfl) ?_
      refine lv_aload_n hx hb dX14_finish_99 rfl (lv_at hl 1 rfl) ?_
      refine va_callv (A0 := jA base) (H0 := s.heap) (va_runV (As := [.ref el_2]) (rest := []) ⟨hx, hb, hml, hown, hts⟩ (uX14_settled l dC dI ca base B hB hAp hB14 hB15 hB16 hB101 hB103 hB150 hB151 hB152 hB153 hB154 hB155 hB156 hB157 hB158 hB159 hB160 hB161 hB162 hB163 hB164 hB165 hB166 hB167 hB168 hB169 hB190 hB191 hB192 hB193 hB194 hB195 hB202 hB203 hB204 hB206 G0 H_97 r0 el_2 dd dc co cs ol nw td sn (jUn ck el_2 z_75) fd fq_10 fs) (cwV 1 hts (jgV (jWr_58 _ (List.mem_of_getElem? (i := 7) rfl)) (jWr_58 _ (List.mem_of_getElem? (i := 8) rfl)) (jWr_58 _ (List.mem_of_getElem? (i := 9) rfl)) (jWr_1 _ (List.mem_of_getElem? (i := 5) rfl)) (jWr_58 _ (List.mem_of_getElem? (i := 10) rfl))) rfl rfl rfl (by decide +kernel) ⟨by rw [← hR]; exact Nat.le_of_ble_eq_true rfl, by rw [← hR]; exact Nat.le_of_ble_eq_true rfl⟩) ⟨fun a U g mk q => by obtain ⟨q0, q1, q2, qK, q10, q11, q12, q13, q14, q15, q16, q17, q18, q19, q20, q21, q22⟩ := q; exact ⟨q0, q1, q2, jG.calling g mk a qK, (va_K.moved (Vm.Alike.refl U.vm) q10), q11, q12, q13, q14, q15, q16, q17, q18, q19, q20, q21, q22⟩, hh_97.recv (C := RX14) (T := TX14) (N := 74) hB16 rfl (by decide) hg_r0 hK, fun U hU hW => ⟨rfl, hU, hh_97.2.1, hG.step hW hU hh_97.1, va_K.moved hW.alike hK2, hg_el_2, hg_r0, hg_dd, hg_co, hg_cs, hg_ol, hg_nw, hg_td, (hh_97.2.2.1.sub (L1 := [(r0, 16, 41, .ref dd), (r0, 16, 42, .int dc), (r0, 16, 60, .ref co), (r0, 16, 61, .ref cs), (r0, 16, 46, .ref ol), (r0, 16, 47, .ref nw), (r0, 16, 71, .ref td)]) [24, 25, 26, 27, 28, 29, 30] rfl), (hh_97.2.2.2.2.2.2.2.1.sub (L1 := [(cs, 207, 2, ca 1, fs)]) [12] rfl), (hh_97.2.2.2.2.2.2.2.2.sub (L1 := [(jFs, jDY dC dI ca G0 none sn), (jF9, jVl dC dI G0 9 (jUn ck el_2 z_75)), ([(201, 0)], jQc dC dI (ca 4) dd 3 fd), ([(208, 0)], jQc dC dI (ca 4) co 2 fq_10)]) [2, 0, 3, 1] rfl), ⟨(by first | assumption | (rw [jUn_e]; omega) | exact (hp0.drop hv_8 ho_8).chk (by omega) | omega), (by first | omega | rfl | assumption | (rw [jUn_e]; omega) | exact (hp0.drop hv_8 ho_8).chk (by omega))⟩⟩⟩ rfl rfl hl.1 rfl (lv_room (Nat.le_of_ble_eq_true rfl)) dX14_finish_100 ⟨Nat.zero_le _, Nat.zero_le _⟩) hh_97.1 (fun q _ h => h) (fun q h => h) (fun u_98 t_98 H_98 locs_98 ht_98 hvm_98 hr_99 hb_98 hz_98 hk_98 hS_98 => ?_)
      rw [ht_98] at hb_98
      obtain ⟨hb_981, hb_982, hb_983, hb_984, hb_985⟩ := hb_98
      have hh_98 : jSt (dC, dI) B base G0 G0 EX14_finish s.heap 0 0 [(r0, 16, 65, .int z_96), (el_2, 14, 9, .int z_75), (kernel_17, 15, 14, .ref arity_47), (kernel_17, 15, 4, .ref three_44), (kernel_17, 15, 3, .ref two_41), (kernel_17, 15, 2, .ref one_38), (kernel_17, 15, 1, .ref name_35), (kernel_17, 15, 0, .ref sort_32), (kernel_17, 15, 27, .ref hyp_29), (kernel_17, 15, 25, .ref hyps_26), (kernel_17, 15, 22, .ref goal_23), (kernel_17, 15, 17, .ref fact_20), (r0, 16, 58, .ref kernel_17), (el_2, 14, 6, .ref yb_3), (el_2, 14, 7, .ref ye_3), (el_2, 14, 5, .int (sn el_2)), (r0, 16, 41, .ref dd), (r0, 16, 42, .int dc), (r0, 16, 60, .ref co), (r0, 16, 61, .ref cs), (r0, 16, 46, .ref ol), (r0, 16, 47, .ref nw), (r0, 16, 71, .ref td)] [(yb_3, 190, 40, ca 1, fb_3), (ye_3, 191, 40, ca 1, fe_3), (cs, 207, 2, ca 1, fs)] [(jF9, jVl dC dI G0 9 (jUn ck el_2 z_75)), ([(208, 0)], jQc dC dI (ca 4) co 2 fq_10), (jFs, jDY dC dI ca G0 none sn), ([(201, 0)], jQc dC dI (ca 4) dd 3 fd)] H_98 locs_98 := ((hh_97.call hb_981 hb_982 hb_983 hb_984 hS_98 rfl (L1 := [(r0, 16, 65, .int z_96), (el_2, 14, 9, .int z_75), (kernel_17, 15, 14, .ref arity_47), (kernel_17, 15, 4, .ref three_44), (kernel_17, 15, 3, .ref two_41), (kernel_17, 15, 2, .ref one_38), (kernel_17, 15, 1, .ref name_35), (kernel_17, 15, 0, .ref sort_32), (kernel_17, 15, 27, .ref hyp_29), (kernel_17, 15, 25, .ref hyps_26), (kernel_17, 15, 22, .ref goal_23), (kernel_17, 15, 17, .ref fact_20), (r0, 16, 58, .ref kernel_17), (el_2, 14, 6, .ref yb_3), (el_2, 14, 7, .ref ye_3), (el_2, 14, 5, .int (sn el_2)), (r0, 16, 41, .ref dd), (r0, 16, 42, .int dc), (r0, 16, 60, .ref co), (r0, 16, 61, .ref cs), (r0, 16, 46, .ref ol), (r0, 16, 47, .ref nw), (r0, 16, 71, .ref td)]) [0, 1, 10, 11, 12, 13, 14, 15, 16, 17, 18, 19, 20, 21, 22, 23, 24, 25, 26, 27, 28, 29, 30] rfl rfl (M1 := [(yb_3, 190, 40, ca 1, fb_3), (ye_3, 191, 40, ca 1, fe_3), (cs, 207, 2, ca 1, fs)]) [10, 11, 12] rfl rfl (I1 := [(jF9, jVl dC dI G0 9 (jUn ck el_2 z_75)), ([(208, 0)], jQc dC dI (ca 4) co 2 fq_10), (jFs, jDY dC dI ca G0 none sn), ([(201, 0)], jQc dC dI (ca 4) dd 3 fd)]) [0, 1, 2, 3] rfl rfl).more hb_985)
      clear hh_97 ht_98 hvm_98 hz_98 hk_98 hS_98 hb_981 hb_982 hb_983 hb_984 hb_985
      rw [hQ]
      exact W.vret hx hb hr (fun t ht hW => ⟨⟨(), rfl, trivial, ⟨hh_98.rt (M1 := []) [] rfl ht, by rw [ht]; exact ⟨sn, (jUn ck el_2 z_75), fs, fd, fq_10, dc, hh_98.2.2.1.sub (L1 := [(r0, 16, 41, .ref dd), (r0, 16, 42, .int dc), (r0, 16, 60, .ref co), (r0, 16, 61, .ref cs), (r0, 16, 46, .ref ol), (r0, 16, 47, .ref nw), (r0, 16, 71, .ref td)]) [16, 17, 18, 19, 20, 21, 22] rfl, hh_98.2.2.2.2.2.2.2.1.sub (L1 := [(cs, 207, 2, ca 1, fs)]) [2] rfl, hh_98.2.2.2.2.2.2.2.2.sub (L1 := [(jFs, jDY dC dI ca G0 none sn), (jF9, jVl dC dI G0 9 (jUn ck el_2 z_75)), ([(201, 0)], jQc dC dI (ca 4) dd 3 fd), ([(208, 0)], jQc dC dI (ca 4) co 2 fq_10)]) [2, 0, 3, 1] rfl, (hp0.drop hv_8 ho_8).chk (by omega)⟩⟩⟩, by rw [ht]; try exact hh_98.1.1, fun q h9 hq => by rw [ht]; try exact hh_98.1.2.1 q h9 hq⟩) hh_98.1.2.2 dX14_finish_103
set_option maxHeartbeats 4000000 in
set_option maxRecDepth 20000 in
theorem uX14_step (l : Launch) (dC : Nat → ClassId) (dI : Nat → Nat → Nat) (ca : Nat → ClassId) (base : Nat) (B : jF) (hB : jBok B) (hAp : jAp (dC, dI)) (hB14 : ∀ n G a H, B 14 n G a H ↔ jOb (dC, dI) 14 11 (F14 n G) a H) (hB15 : ∀ n G a H, B 15 n G a H ↔ jOb (dC, dI) 15 50 (F15 n G) a H) (hB16 : ∀ n G a H, B 16 n G a H ↔ jOb (dC, dI) 16 74 (F16 n G) a H) (hB101 : ∀ n G a H, B 101 n G a H ↔ jAr (dC, dI) (ca 1) (fun j z => True) n a H) (hB103 : ∀ n G a H, B 103 n G a H ↔ jAr (dC, dI) (ca 3) (fun j z => (z = 0 ∨ z = 1)) n a H) (hB150 : ∀ n G a H, B 150 n G a H ↔ jAr (dC, dI) (ca 1) (fun j z => True) n a H) (hB151 : ∀ n G a H, B 151 n G a H ↔ jAr (dC, dI) (ca 1) (fun j z => True) n a H) (hB152 : ∀ n G a H, B 152 n G a H ↔ jAr (dC, dI) (ca 1) (fun j z => True) n a H) (hB153 : ∀ n G a H, B 153 n G a H ↔ jAr (dC, dI) (ca 1) (fun j z => True) n a H) (hB154 : ∀ n G a H, B 154 n G a H ↔ jAr (dC, dI) (ca 1) (fun j z => True) n a H) (hB155 : ∀ n G a H, B 155 n G a H ↔ jAr (dC, dI) (ca 1) (fun j z => 0 ≤ z.toInt ∧ z.toInt ≤ 11990) n a H) (hB156 : ∀ n G a H, B 156 n G a H ↔ jAr (dC, dI) (ca 1) (fun j z => 0 ≤ z.toInt ∧ z.toInt ≤ 10) n a H) (hB157 : ∀ n G a H, B 157 n G a H ↔ jAr (dC, dI) (ca 1) (fun j z => 0 ≤ z.toInt ∧ z.toInt ≤ 1599) n a H) (hB158 : ∀ n G a H, B 158 n G a H ↔ jAr (dC, dI) (ca 1) (fun j z => 0 ≤ z.toInt ∧ z.toInt ≤ 6) n a H) (hB159 : ∀ n G a H, B 159 n G a H ↔ jAr (dC, dI) (ca 1) (fun j z => 0 ≤ z.toInt ∧ z.toInt ≤ 8) n a H) (hB160 : ∀ n G a H, B 160 n G a H ↔ jAr (dC, dI) (ca 1) (fun j z => 0 ≤ z.toInt ∧ z.toInt ≤ 119999) n a H) (hB161 : ∀ n G a H, B 161 n G a H ↔ jAr (dC, dI) (ca 1) (fun j z => 0 ≤ z.toInt ∧ z.toInt ≤ 119999) n a H) (hB162 : ∀ n G a H, B 162 n G a H ↔ jAr (dC, dI) (ca 1) (fun j z => 0 ≤ z.toInt ∧ z.toInt ≤ 119999) n a H) (hB163 : ∀ n G a H, B 163 n G a H ↔ jAr (dC, dI) (ca 1) (fun j z => 0 ≤ z.toInt ∧ z.toInt ≤ 1599) n a H) (hB164 : ∀ n G a H, B 164 n G a H ↔ jAr (dC, dI) (ca 1) (fun j z => 0 ≤ z.toInt ∧ z.toInt ≤ 100000) n a H) (hB165 : ∀ n G a H, B 165 n G a H ↔ jAr (dC, dI) (ca 1) (fun j z => 0 ≤ z.toInt ∧ z.toInt ≤ 3) n a H) (hB166 : ∀ n G a H, B 166 n G a H ↔ jAr (dC, dI) (ca 1) (fun j z => True) n a H) (hB167 : ∀ n G a H, B 167 n G a H ↔ jAr (dC, dI) (ca 1) (fun j z => True) n a H) (hB168 : ∀ n G a H, B 168 n G a H ↔ jAr (dC, dI) (ca 1) (fun j z => 0 ≤ z.toInt ∧ z.toInt ≤ 119999) n a H) (hB169 : ∀ n G a H, B 169 n G a H ↔ jAr (dC, dI) (ca 1) (fun j z => True) n a H) (hB190 : ∀ n G a H, B 190 n G a H ↔ jAr (dC, dI) (ca 1) (fun j z => 0 ≤ z.toInt ∧ z.toInt ≤ 1500) n a H) (hB191 : ∀ n G a H, B 191 n G a H ↔ jAr (dC, dI) (ca 1) (fun j z => 0 ≤ z.toInt ∧ z.toInt ≤ 1500) n a H) (hB192 : ∀ n G a H, B 192 n G a H ↔ jAr (dC, dI) (ca 1) (fun j z => 0 ≤ z.toInt ∧ z.toInt ≤ 2) n a H) (hB193 : ∀ n G a H, B 193 n G a H ↔ jAr (dC, dI) (ca 1) (fun j z => True) n a H) (hB194 : ∀ n G a H, B 194 n G a H ↔ jAr (dC, dI) (ca 1) (fun j z => True) n a H) (hB195 : ∀ n G a H, B 195 n G a H ↔ jAr (dC, dI) (ca 1) (fun j z => True) n a H) (hB201 : ∀ n G a H, B 201 n G a H ↔ jAq (dC, dI) (ca 4) (jQs 14 0) n G a H) (hB202 : ∀ n G a H, B 202 n G a H ↔ jAq (dC, dI) (ca 4) (jQn 14 0) n G a H) (hB203 : ∀ n G a H, B 203 n G a H ↔ jAr (dC, dI) (ca 1) (fun j z => -3300 ≤ z.toInt ∧ z.toInt ≤ 20) n a H) (hB204 : ∀ n G a H, B 204 n G a H ↔ jAr (dC, dI) (ca 1) (fun j z => -3100 ≤ z.toInt ∧ z.toInt ≤ 3100) n a H) (hB205 : ∀ n G a H, B 205 n G a H ↔ jAr (dC, dI) (ca 1) (fun j z => 0 ≤ z.toInt ∧ z.toInt ≤ 1600) n a H) (hB206 : ∀ n G a H, B 206 n G a H ↔ jAr (dC, dI) (ca 1) (fun j z => 0 ≤ z.toInt ∧ z.toInt ≤ 40) n a H) (hB207 : ∀ n G a H, B 207 n G a H ↔ jAr (dC, dI) (ca 1) (fun j z => 0 ≤ z.toInt ∧ z.toInt ≤ 39) n a H) (hB208 : ∀ n G a H, B 208 n G a H ↔ jAq (dC, dI) (ca 4) (jQn 14 0) n G a H) (G0 : jT) (H0 : Heap) (r0 : Nat) (dd : Nat) (dc : Int32) (co : Nat) (cs : Nat) (ol : Nat) (nw : Nat) (td : Nat) (sn ck : Nat → Int32) (fd fo : Nat → Option Nat) (fs : Nat → Int32) : Met l yX14_step (jw yX14_step cX14_step 2 none) ({ frames := 1707, cells := 0, slots := 0, locals := 71978 }) (va_Pc [.ref r0] (fun U => U.heap = H0 ∧ jX B base G0 [] H0 ∧ jG dC dI ca base U ∧ jK2 dC dI ca U ∧ G0 r0 = some (16, 0) ∧ G0 dd = some (201, 3) ∧ G0 co = some (208, 2) ∧ G0 cs = some (207, 2) ∧ G0 ol = some (14, 0) ∧ G0 nw = some (14, 0) ∧ G0 td = some (14, 0) ∧ jP (dC, dI) G0 H0 [(r0, 16, 41, .ref dd), (r0, 16, 42, .int dc), (r0, 16, 60, .ref co), (r0, 16, 61, .ref cs), (r0, 16, 46, .ref ol), (r0, 16, 47, .ref nw), (r0, 16, 71, .ref td)] ∧ jMc (dC, dI) G0 H0 [(cs, 207, 2, ca 1, fs)] ∧ jIs (dC, dI) G0 H0 [(jFs, jDY dC dI ca G0 none sn), (jF9, jVl dC dI G0 9 ck), ([(201, 0)], jQc dC dI (ca 4) dd 3 fd), ([(208, 0)], jQc dC dI (ca 4) co 2 fo)] ∧ jPu sn ck fd fo fs dc.toInt ol nw td)) (va_Qv (S := Unit) (fun u => True) (fun u t => (jRt (dC, dI) B base G0 EX14_step H0 [] t.heap) ∧ jDV dC dI ca G0 r0 dd co cs ol nw td t.heap) (jA base)) 0 0 (jA base) := by
  refine Met.ofW (cc := cX14_step) (maxL := 2) (ret := none) (by decide) rfl ?_
  intro p e s m args below meth c s₁ Bd hml hv
  obtain ⟨rfl, hH0, hX, hG, hK2, hg_r0, hg_dd, hg_co, hg_cs, hg_ol, hg_nw, hg_td, hP0, hM0, hI0, hp0⟩ := hv
  have hK := hG.1
  have hx := Bd.exec
  have hb := Bd.bytes
  have hr := Bd.returns
  have hts := atoms_spec (ws := (jw yX14_step cX14_step 2 none)) Bd.pre
  have htw : ∀ w ∈ jWl, w.before _ s = true := fun w h => hts w (List.mem_cons_of_mem _ h)
  have hown : s.vm.findClass RX14 = some m.cls := findClass_of_methodNamed Bd.named
  have hlocks := Bd.notSynchronized
  obtain ⟨Q, hQ⟩ : ∃ Q, Q = MQ below (va_Qv (S := Unit) (fun u => True) (fun u t => (jRt (dC, dI) B base G0 EX14_step H0 [] t.heap) ∧ jDV dC dI ca G0 r0 dd co cs ol nw td t.heap) (jA base)) ([.ref r0] : List Value).toArray s 0 0 (jA base) := ⟨_, rfl⟩
  rw [← hQ]
  have hl := lv_entry ([.ref r0]) (n := 2) (Nat.le_of_ble_eq_true rfl)
  rw [lg_entry_eq]
  generalize (lg_sl ([.ref r0]) ++ List.replicate (2 - (lg_sl ([.ref r0])).length) Slot.unset).toArray = ls at hl ⊢
  have hl : lv_has ls 2 [(0, .ref r0)] := hl
  generalize hR : (headSpec (jw yX14_step cX14_step 2 none) ({ frames := 1707, cells := 0, slots := 0, locals := 71978 })).room = R
  subst hH0
  have hh : jSt (dC, dI) B base G0 G0 EX14_step s.heap 0 0 [(r0, 16, 41, .ref dd), (r0, 16, 42, .int dc), (r0, 16, 60, .ref co), (r0, 16, 61, .ref cs), (r0, 16, 46, .ref ol), (r0, 16, 47, .ref nw), (r0, 16, 71, .ref td)] [(cs, 207, 2, ca 1, fs)] [(jFs, jDY dC dI ca G0 none sn), (jF9, jVl dC dI G0 9 ck), ([(201, 0)], jQc dC dI (ca 4) dd 3 fd), ([(208, 0)], jQc dC dI (ca 4) co 2 fo)] s.heap [] := jSt.start hX hP0 hM0 hI0
  clear hX hP0
  have hk0 : (0 : Int32).toInt = 0 := by decide
  have hk1 : (1 : Int32).toInt = 1 := by decide
  have hk2 : (2 : Int32).toInt = 2 := by decide
  have hly_16_60 := htw (u_lay RX14 TX14 60) (jWc_wsX140 _ (u_in_lay (by decide)))
  have hly_16_62 := htw (u_lay RX14 TX14 62) (jWc_wsX140 _ (u_in_lay (by decide)))
  have hly_16_64 := htw (u_lay RX14 TX14 64) (jWc_wsX140 _ (u_in_lay (by decide)))
  have hlk_799 := (htw (.fieldLink RX14 799 "ProofServerModel" "steps" "I") (jWr_90 _ (List.mem_of_getElem? (i := 8) rfl)))
  have hlk_129 := (htw (.fieldLink RX14 129 "ProofServerModel" "checkOf" "[LProofServerModel$Document;") (jWr_12 _ (List.mem_of_getElem? (i := 15) rfl)))
  have hlk_135 := (htw (.fieldLink RX14 135 "ProofServerModel" "checkLeft" "[I") (jWr_12 _ (List.mem_of_getElem? (i := 17) rfl)))
  refine lv_aload_n hx hb dX14_step_0 rfl (lv_at hl 0 rfl) ?_
  refine lv_dup hx hb dX14_step_1 rfl ?_
  obtain ⟨v_1, hv_1, hh_2⟩ := hh.pin (C := RX14) (T := TX14) (N := 74) hB16 rfl (by decide) hg_r0 (i := 64) (by decide) rfl
  clear hh
  obtain ⟨steps_3, rfl⟩ := hv_1
  refine j7_read hx hb hown hK (C := RX14) (T := TX14) (N := 74) rfl hly_16_64 hlk_799 (hh_2.at 0 rfl) dX14_step_2 ?_
  refine lv_iconst (v := 1) hx hb dX14_step_5 (by decide) ?_
  refine lv_iadd hx hb dX14_step_6 ?_
  refine lv_topi (fun z_4 ez_4 => ?_)
  refine j7_put hx hb hown hK hh_2 hB hAp hB16 (C := RX14) (T := TX14) (N := 74) rfl (by decide) hg_r0 (i := 64) (by decide) hly_16_64 rfl hlk_799 rfl (ty := .int) (v := .int z_4) (by decide +kernel) rfl rfl (⟨_, rfl⟩) rfl (L1 := [(r0, 16, 41, .ref dd), (r0, 16, 42, .int dc), (r0, 16, 60, .ref co), (r0, 16, 61, .ref cs), (r0, 16, 46, .ref ol), (r0, 16, 47, .ref nw), (r0, 16, 71, .ref td)]) [1, 2, 3, 4, 5, 6, 7] rfl rfl rfl dX14_step_7 (fun H_5 locs_5 hh_5 => ?_)
  clear hh_2
  refine lv_iconst (v := 0) hx hb dX14_step_10 (by decide) ?_
  refine lv_istore_n (lv' := [(1, .int 0), (0, .ref r0)]) hx hb dX14_step_11 rfl hl (by decide) rfl (fun ls hl => ?_)
  have L12 : ∀ (N : Nat) (v1_6 : Int32) (sn_6 : Nat → Int32) (ck_6 : Nat → Int32) (fs_6 : Nat → Int32) (fd_6 : Nat → Option Nat) (fo_6 : Nat → Option Nat) (dc_6 : Int32) (H_6 : Heap) (locs_6 : List Loc), jSt (dC, dI) B base G0 G0 EX14_step s.heap 0 0 [(r0, 16, 42, .int dc_6), (r0, 16, 64, .int z_4), (r0, 16, 41, .ref dd), (r0, 16, 60, .ref co), (r0, 16, 61, .ref cs), (r0, 16, 46, .ref ol), (r0, 16, 47, .ref nw), (r0, 16, 71, .ref td)] [(cs, 207, 2, ca 1, fs_6)] [(jFs, jDY dC dI ca G0 none sn_6), (jF9, jVl dC dI G0 9 ck_6), ([(201, 0)], jQc dC dI (ca 4) dd 3 fd_6), ([(208, 0)], jQc dC dI (ca 4) co 2 fo_6)] H_6 locs_6 → (0 ≤ v1_6.toInt ∧ v1_6.toInt ≤ 2 ∧ jPu sn_6 ck_6 fd_6 fo_6 fs_6 dc_6.toInt ol nw td) → (2 - v1_6.toInt : Int) < N → ∀ ls : Array Slot, lv_has ls 2 [(0, .ref r0), (1, .int v1_6)] → W p l e R s m ([.ref r0] : List Value).toArray below meth c H_6 locs_6 0 0 Q (F0 m 12 ls []) := by
    intro N
    induction N with
    | zero => intro v1_6 sn_6 ck_6 fs_6 fd_6 fo_6 dc_6 H_6 locs_6 hh_6  hi_6 hm; exact absurd hm (by omega)
    | succ N L12 =>
      intro v1_6 sn_6 ck_6 fs_6 fd_6 fo_6 dc_6 H_6 locs_6 hh_6  hi_6 hm_6 ls hl
      obtain ⟨hi_6_0, hi_6_1, hi_6_2⟩ := hi_6
      refine lv_iload_n hx hb dX14_step_12 rfl (lv_at hl 1 rfl) ?_
      refine lv_iconst (v := 2) hx hb dX14_step_13 (by decide) ?_
      refine lv_icmp_ge (tgt := 73) hx hb dX14_step_14 (by decide) (fun c_7 => ?_) (fun c_7 => ?_)
      · skip
        have c_7' : v1_6.toInt ≥ 2 := jb_ge (rfl) ((by decide)) c_7
        rw [hQ]
        exact W.vret hx hb hr (fun t ht hW => ⟨⟨(), rfl, trivial, ⟨hh_6.rt (M1 := []) [] rfl ht, by rw [ht]; exact ⟨sn_6, ck_6, fs_6, fd_6, fo_6, dc_6, hh_6.2.2.1.sub (L1 := [(r0, 16, 41, .ref dd), (r0, 16, 42, .int dc_6), (r0, 16, 60, .ref co), (r0, 16, 61, .ref cs), (r0, 16, 46, .ref ol), (r0, 16, 47, .ref nw), (r0, 16, 71, .ref td)]) [2, 0, 3, 4, 5, 6, 7] rfl, hh_6.2.2.2.2.2.2.2.1.sub (L1 := [(cs, 207, 2, ca 1, fs_6)]) [0] rfl, hh_6.2.2.2.2.2.2.2.2.sub (L1 := [(jFs, jDY dC dI ca G0 none sn_6), (jF9, jVl dC dI G0 9 ck_6), ([(201, 0)], jQc dC dI (ca 4) dd 3 fd_6), ([(208, 0)], jQc dC dI (ca 4) co 2 fo_6)]) [0, 1, 2, 3] rfl, (by assumption)⟩⟩⟩, by rw [ht]; try exact hh_6.1.1, fun q h9 hq => by rw [ht]; try exact hh_6.1.2.1 q h9 hq⟩) hh_6.1.2.2 dX14_step_73
      · skip
        have c_7' : v1_6.toInt < 2 := jb_ge_n (rfl) ((by decide)) c_7
        refine lv_aload_n hx hb dX14_step_17 rfl (lv_at hl 0 rfl) ?_
        refine j7_read hx hb hown hK (C := RX14) (T := TX14) (N := 74) rfl hly_16_60 hlk_129 (hh_6.at 3 rfl) dX14_step_18 ?_
        refine lv_iload_n hx hb dX14_step_21 rfl (lv_at hl 1 rfl) ?_
        refine j7_qaldI hx hb hK2 hh_6 hB208 0 rfl (by decide) hg_co (x := v1_6.toInt) (rfl) (by omega) (hh_6.iv 3 rfl) dX14_step_22 (fun o_8 ho_8 heo_8 => ?_)
        rcases ho_8 with rfl | ⟨el_9, rfl, hg_el_9⟩
        · simp only [va_rf]
          refine lv_ifnonnullN hx hb dX14_step_23 ?_
          refine lv_aload_n hx hb dX14_step_26 rfl (lv_at hl 0 rfl) ?_
          refine lv_iload_n hx hb dX14_step_27 rfl (lv_at hl 1 rfl) ?_
          refine va_callv (A0 := jA base) (H0 := s.heap) (va_runV (As := [.int v1_6]) (rest := []) ⟨hx, hb, hml, hown, hts⟩ (uX14_takeCheck l dC dI ca base B hB hAp hB14 hB15 hB16 hB101 hB103 hB155 hB156 hB157 hB166 hB167 hB190 hB191 hB192 hB194 hB201 hB202 hB205 hB207 hB208 G0 H_6 r0 v1_6 dd dc_6 co cs ol nw td sn_6 ck_6 fd_6 fo_6 fs_6) (cwV 1 hts (jgV (jWr_90 _ (List.mem_of_getElem? (i := 9) rfl)) (jWr_90 _ (List.mem_of_getElem? (i := 10) rfl)) (jWr_90 _ (List.mem_of_getElem? (i := 11) rfl)) (jWr_1 _ (List.mem_of_getElem? (i := 5) rfl)) (jWr_90 _ (List.mem_of_getElem? (i := 12) rfl))) rfl rfl rfl (by decide +kernel) ⟨by rw [← hR]; exact Nat.le_of_ble_eq_true rfl, by rw [← hR]; exact Nat.le_of_ble_eq_true rfl⟩) ⟨fun a U g mk q => by obtain ⟨q0, q1, q2, qK, q10, q11, q12, q13, q14, q15, q16, q17, q18, q19, q20, q21⟩ := q; exact ⟨q0, q1, q2, jG.calling g mk a qK, (va_K.moved (Vm.Alike.refl U.vm) q10), q11, q12, q13, q14, q15, q16, q17, q18, q19, q20, q21⟩, hh_6.recv (C := RX14) (T := TX14) (N := 74) hB16 rfl (by decide) hg_r0 hK, fun U hU hW => ⟨rfl, hU, hh_6.2.1, hG.step hW hU hh_6.1, va_K.moved hW.alike hK2, hg_r0, hg_dd, hg_co, hg_cs, hg_ol, hg_nw, hg_td, (hh_6.2.2.1.sub (L1 := [(r0, 16, 41, .ref dd), (r0, 16, 42, .int dc_6), (r0, 16, 60, .ref co), (r0, 16, 61, .ref cs), (r0, 16, 46, .ref ol), (r0, 16, 47, .ref nw), (r0, 16, 71, .ref td)]) [2, 0, 3, 4, 5, 6, 7] rfl), (hh_6.2.2.2.2.2.2.2.1.sub (L1 := [(cs, 207, 2, ca 1, fs_6)]) [0] rfl), (hh_6.2.2.2.2.2.2.2.2.sub (L1 := [(jFs, jDY dC dI ca G0 none sn_6), (jF9, jVl dC dI G0 9 ck_6), ([(201, 0)], jQc dC dI (ca 4) dd 3 fd_6), ([(208, 0)], jQc dC dI (ca 4) co 2 fo_6)]) [0, 1, 2, 3] rfl), by first | omega | (refine ⟨?_, ?_, ?_⟩ <;> (first | omega | rfl | assumption | decide | exact Or.inl rfl | exact Or.inr rfl | (simp only; omega)))⟩⟩ rfl rfl hl.1 rfl (lv_room (Nat.le_of_ble_eq_true rfl)) dX14_step_28 ⟨Nat.zero_le _, Nat.zero_le _⟩) hh_6.1 (fun q _ h => h) (fun q h => h) (fun u_10 t_10 H_10 locs_10 ht_10 hvm_10 hr_11 hb_10 hz_10 hk_10 hS_10 => ?_)
          rw [ht_10] at hb_10
          obtain ⟨hb_10, hbV_10⟩ := hb_10
          obtain ⟨sn_10, ck_10, fs_10, fd_10, fo_10, dc_10, hVP_10, hVM_10, hVI_10, hpu_10⟩ := hbV_10
          obtain ⟨hb_101, hb_102, hb_103, hb_104, hb_105⟩ := hb_10
          have hh_10 : jSt (dC, dI) B base G0 G0 EX14_step s.heap 0 0 [(r0, 16, 41, .ref dd), (r0, 16, 42, .int dc_10), (r0, 16, 60, .ref co), (r0, 16, 61, .ref cs), (r0, 16, 46, .ref ol), (r0, 16, 47, .ref nw), (r0, 16, 71, .ref td), (r0, 16, 64, .int z_4)] [(cs, 207, 2, ca 1, fs_10)] [(jFs, jDY dC dI ca G0 none sn_10), (jF9, jVl dC dI G0 9 ck_10), ([(201, 0)], jQc dC dI (ca 4) dd 3 fd_10), ([(208, 0)], jQc dC dI (ca 4) co 2 fo_10)] H_10 locs_10 := ((((hh_6.call hb_101 hb_102 hb_103 hb_104 hS_10 rfl (L1 := [(r0, 16, 64, .int z_4)]) [1] rfl rfl (M1 := []) [] rfl rfl (I1 := []) [] rfl rfl).more hb_105).more hVP_10).moreM hVM_10).addIs hVI_10
          clear hh_6 ht_10 hvm_10 hz_10 hk_10 hS_10 hb_101 hb_102 hb_103 hb_104 hb_105
          clear hVP_10 hVM_10 hVI_10
          refine lv_aload_n hx hb dX14_step_31 rfl (lv_at hl 0 rfl) ?_
          refine j7_read hx hb hown hK (C := RX14) (T := TX14) (N := 74) rfl hly_16_60 hlk_129 (hh_10.at 2 rfl) dX14_step_32 ?_
          refine lv_iload_n hx hb dX14_step_35 rfl (lv_at hl 1 rfl) ?_
          refine j7_qaldI hx hb hK2 hh_10 hB208 0 rfl (by decide) hg_co (x := v1_6.toInt) (rfl) (by omega) (hh_10.iv 3 rfl) dX14_step_36 (fun o_12 ho_12 heo_12 => ?_)
          rcases ho_12 with rfl | ⟨el_13, rfl, hg_el_13⟩
          · simp only [va_rf]
            refine lv_ifnonnullN hx hb dX14_step_37 ?_
            refine lv_goto (tgt := 67) hx hb dX14_step_40 (by decide) ?_
            obtain ⟨z_14, ez_14⟩ : ∃ y : Int32, y = v1_6 + 1 := ⟨_, rfl⟩
            refine lv_iinc (v := z_14) (lv' := [(1, .int z_14), (0, .ref r0)]) hx hb dX14_step_67 hl (k := 1) rfl (by rw [ez_14]; rfl) (by decide) rfl (fun ls hl => ?_)
            have hz_14 : z_14.toInt = v1_6.toInt + 1 := by rw [ez_14]; exact jb_iadd2 (rfl) (by decide) (by omega)
            refine lv_goto (tgt := 12) hx hb dX14_step_70 (by decide) ?_
            exact L12 z_14 sn_10 ck_10 fs_10 fd_10 fo_10 dc_10 _ _ (hh_10.sub (L1 := [(r0, 16, 42, .int dc_10), (r0, 16, 64, .int z_4), (r0, 16, 41, .ref dd), (r0, 16, 60, .ref co), (r0, 16, 61, .ref cs), (r0, 16, 46, .ref ol), (r0, 16, 47, .ref nw), (r0, 16, 71, .ref td)]) [1, 7, 0, 2, 3, 4, 5, 6] rfl (M1 := [(cs, 207, 2, ca 1, fs_10)]) [0] rfl (I1 := [(jFs, jDY dC dI ca G0 none sn_10), (jF9, jVl dC dI G0 9 ck_10), ([(201, 0)], jQc dC dI (ca 4) dd 3 fd_10), ([(208, 0)], jQc dC dI (ca 4) co 2 fo_10)]) [0, 1, 2, 3] rfl) (by first | omega | (refine ⟨?_, ?_, ?_⟩ <;> (first | omega | rfl | assumption | decide | exact Or.inl rfl | exact Or.inr rfl | (simp only; omega)))) (by omega) _ (lv_sub hl [1, 0] rfl)
          · simp only [va_rf]
            refine lv_ifnonnull (tgt := 43) hx hb dX14_step_37 (by decide) ?_
            refine lv_aload_n hx hb dX14_step_43 rfl (lv_at hl 0 rfl) ?_
            obtain ⟨v_15, hv_15, hh_16⟩ := hh_10.pin (C := RX14) (T := TX14) (N := 74) hB16 rfl (by decide) hg_r0 (i := 62) (by decide) rfl
            clear hh_10
            obtain ⟨checkLeft_17, rfl, hg_checkLeft_17⟩ := hv_15
            refine j7_read hx hb hown hK (C := RX14) (T := TX14) (N := 74) rfl hly_16_62 hlk_135 (hh_16.at 0 rfl) dX14_step_44 ?_
            refine lv_iload_n hx hb dX14_step_47 rfl (lv_at hl 1 rfl) ?_
            refine lv_dup2_11 hx hb dX14_step_48 rfl rfl ?_
            refine j7_iald hx hb hK hh_16 hB101 1 rfl (by decide) hg_checkLeft_17 (x := v1_6.toInt) (rfl) (by omega) dX14_step_49 (fun z_18 (hz_18 : True) => ?_)
            refine lv_iconst (v := 1) hx hb dX14_step_50 (by decide) ?_
            refine lv_isub hx hb dX14_step_51 ?_
            refine lv_topi (fun z_19 ez_19 => ?_)
            refine j7_iast hx hb hK hh_16 hB hB101 1 rfl (by decide) (by decide) rfl rfl rfl hg_checkLeft_17 (x := v1_6.toInt) (rfl) (by omega) (trivial) dX14_step_52 (fun H_20 locs_20 hh_20 => ?_)
            clear hh_16
            refine lv_aload_n hx hb dX14_step_53 rfl (lv_at hl 0 rfl) ?_
            refine j7_read hx hb hown hK (C := RX14) (T := TX14) (N := 74) rfl hly_16_62 hlk_135 (hh_20.at 0 rfl) dX14_step_54 ?_
            refine lv_iload_n hx hb dX14_step_57 rfl (lv_at hl 1 rfl) ?_
            refine j7_iald hx hb hK hh_20 hB101 1 rfl (by decide) hg_checkLeft_17 (x := v1_6.toInt) (rfl) (by omega) dX14_step_58 (fun z_21 (hz_21 : True) => ?_)
            refine lv_if_ne (tgt := 67) hx hb dX14_step_59 (by decide) (fun c_22 => ?_) (fun c_22 => ?_)
            · skip
              have c_22' : z_21.toInt ≠ 0 := jb_ne (rfl) ((by decide)) c_22
              obtain ⟨z_23, ez_23⟩ : ∃ y : Int32, y = v1_6 + 1 := ⟨_, rfl⟩
              refine lv_iinc (v := z_23) (lv' := [(1, .int z_23), (0, .ref r0)]) hx hb dX14_step_67 hl (k := 1) rfl (by rw [ez_23]; rfl) (by decide) rfl (fun ls hl => ?_)
              have hz_23 : z_23.toInt = v1_6.toInt + 1 := by rw [ez_23]; exact jb_iadd2 (rfl) (by decide) (by omega)
              refine lv_goto (tgt := 12) hx hb dX14_step_70 (by decide) ?_
              exact L12 z_23 sn_10 ck_10 fs_10 fd_10 fo_10 dc_10 _ _ (hh_20.sub (L1 := [(r0, 16, 42, .int dc_10), (r0, 16, 64, .int z_4), (r0, 16, 41, .ref dd), (r0, 16, 60, .ref co), (r0, 16, 61, .ref cs), (r0, 16, 46, .ref ol), (r0, 16, 47, .ref nw), (r0, 16, 71, .ref td)]) [2, 8, 1, 3, 4, 5, 6, 7] rfl (M1 := [(cs, 207, 2, ca 1, fs_10)]) [0] rfl (I1 := [(jFs, jDY dC dI ca G0 none sn_10), (jF9, jVl dC dI G0 9 ck_10), ([(201, 0)], jQc dC dI (ca 4) dd 3 fd_10), ([(208, 0)], jQc dC dI (ca 4) co 2 fo_10)]) [0, 1, 2, 3] rfl) (by first | omega | (refine ⟨?_, ?_, ?_⟩ <;> (first | omega | rfl | assumption | decide | exact Or.inl rfl | exact Or.inr rfl | (simp only; omega)))) (by omega) _ (lv_sub hl [1, 0] rfl)
            · skip
              have c_22' : z_21.toInt = 0 := jb_ne_n (rfl) ((by decide)) c_22
              refine lv_aload_n hx hb dX14_step_62 rfl (lv_at hl 0 rfl) ?_
              refine lv_iload_n hx hb dX14_step_63 rfl (lv_at hl 1 rfl) ?_
              refine va_callv (A0 := jA base) (H0 := s.heap) (va_runV (As := [.int v1_6]) (rest := []) ⟨hx, hb, hml, hown, hts⟩ (uX14_finish l dC dI ca base B hB hAp hB14 hB15 hB16 hB101 hB103 hB150 hB151 hB152 hB153 hB154 hB155 hB156 hB157 hB158 hB159 hB160 hB161 hB162 hB163 hB164 hB165 hB166 hB167 hB168 hB169 hB190 hB191 hB192 hB193 hB194 hB195 hB202 hB203 hB204 hB205 hB206 hB207 hB208 G0 H_20 r0 v1_6 dd dc_10 co cs ol nw td sn_10 ck_10 fd_10 fo_10 fs_10) (cwV 1 hts (jgV (jWr_91 _ (List.mem_of_getElem? (i := 7) rfl)) (jWr_91 _ (List.mem_of_getElem? (i := 8) rfl)) (jWr_91 _ (List.mem_of_getElem? (i := 9) rfl)) (jWr_1 _ (List.mem_of_getElem? (i := 5) rfl)) (jWr_91 _ (List.mem_of_getElem? (i := 10) rfl))) rfl rfl rfl (by decide +kernel) ⟨by rw [← hR]; exact Nat.le_of_ble_eq_true rfl, by rw [← hR]; exact Nat.le_of_ble_eq_true rfl⟩) ⟨fun a U g mk q => by obtain ⟨q0, q1, q2, qK, q10, q11, q12, q13, q14, q15, q16, q17, q18, q19, q20, q21⟩ := q; exact ⟨q0, q1, q2, jG.calling g mk a qK, (va_K.moved (Vm.Alike.refl U.vm) q10), q11, q12, q13, q14, q15, q16, q17, q18, q19, q20, q21⟩, hh_20.recv (C := RX14) (T := TX14) (N := 74) hB16 rfl (by decide) hg_r0 hK, fun U hU hW => ⟨rfl, hU, hh_20.2.1, hG.step hW hU hh_20.1, va_K.moved hW.alike hK2, hg_r0, hg_dd, hg_co, hg_cs, hg_ol, hg_nw, hg_td, (hh_20.2.2.1.sub (L1 := [(r0, 16, 41, .ref dd), (r0, 16, 42, .int dc_10), (r0, 16, 60, .ref co), (r0, 16, 61, .ref cs), (r0, 16, 46, .ref ol), (r0, 16, 47, .ref nw), (r0, 16, 71, .ref td)]) [1, 2, 3, 4, 5, 6, 7] rfl), (hh_20.2.2.2.2.2.2.2.1.sub (L1 := [(cs, 207, 2, ca 1, fs_10)]) [0] rfl), (hh_20.2.2.2.2.2.2.2.2.sub (L1 := [(jFs, jDY dC dI ca G0 none sn_10), (jF9, jVl dC dI G0 9 ck_10), ([(201, 0)], jQc dC dI (ca 4) dd 3 fd_10), ([(208, 0)], jQc dC dI (ca 4) co 2 fo_10)]) [0, 1, 2, 3] rfl), ⟨(by first | assumption | (intro h9; rw [h9] at heo_12; cases heo_12) | omega), (by first | omega | rfl | assumption | (intro h9; rw [h9] at heo_12; cases heo_12)), (by first | omega | rfl | assumption | (intro h9; rw [h9] at heo_12; cases heo_12)), (by first | omega | rfl | assumption | (intro h9; rw [h9] at heo_12; cases heo_12))⟩⟩⟩ rfl rfl hl.1 rfl (lv_room (Nat.le_of_ble_eq_true rfl)) dX14_step_64 ⟨Nat.zero_le _, Nat.zero_le _⟩) hh_20.1 (fun q _ h => h) (fun q h => h) (fun u_24 t_24 H_24 locs_24 ht_24 hvm_24 hr_25 hb_24 hz_24 hk_24 hS_24 => ?_)
              rw [ht_24] at hb_24
              obtain ⟨hb_24, hbV_24⟩ := hb_24
              obtain ⟨sn_24, ck_24, fs_24, fd_24, fo_24, dc_24, hVP_24, hVM_24, hVI_24, hpu_24⟩ := hbV_24
              obtain ⟨hb_241, hb_242, hb_243, hb_244, hb_245⟩ := hb_24
              have hh_24 : jSt (dC, dI) B base G0 G0 EX14_step s.heap 0 0 [(r0, 16, 41, .ref dd), (r0, 16, 42, .int dc_24), (r0, 16, 60, .ref co), (r0, 16, 61, .ref cs), (r0, 16, 46, .ref ol), (r0, 16, 47, .ref nw), (r0, 16, 71, .ref td), (r0, 16, 62, .ref checkLeft_17), (r0, 16, 64, .int z_4)] [(cs, 207, 2, ca 1, fs_24)] [(jFs, jDY dC dI ca G0 none sn_24), (jF9, jVl dC dI G0 9 ck_24), ([(201, 0)], jQc dC dI (ca 4) dd 3 fd_24), ([(208, 0)], jQc dC dI (ca 4) co 2 fo_24)] H_24 locs_24 := ((((hh_20.call hb_241 hb_242 hb_243 hb_244 hS_24 rfl (L1 := [(r0, 16, 62, .ref checkLeft_17), (r0, 16, 64, .int z_4)]) [0, 8] rfl rfl (M1 := []) [] rfl rfl (I1 := []) [] rfl rfl).more hb_245).more hVP_24).moreM hVM_24).addIs hVI_24
              clear hh_20 ht_24 hvm_24 hz_24 hk_24 hS_24 hb_241 hb_242 hb_243 hb_244 hb_245
              clear hVP_24 hVM_24 hVI_24
              obtain ⟨z_26, ez_26⟩ : ∃ y : Int32, y = v1_6 + 1 := ⟨_, rfl⟩
              refine lv_iinc (v := z_26) (lv' := [(1, .int z_26), (0, .ref r0)]) hx hb dX14_step_67 hl (k := 1) rfl (by rw [ez_26]; rfl) (by decide) rfl (fun ls hl => ?_)
              have hz_26 : z_26.toInt = v1_6.toInt + 1 := by rw [ez_26]; exact jb_iadd2 (rfl) (by decide) (by omega)
              refine lv_goto (tgt := 12) hx hb dX14_step_70 (by decide) ?_
              exact L12 z_26 sn_24 ck_24 fs_24 fd_24 fo_24 dc_24 _ _ (hh_24.sub (L1 := [(r0, 16, 42, .int dc_24), (r0, 16, 64, .int z_4), (r0, 16, 41, .ref dd), (r0, 16, 60, .ref co), (r0, 16, 61, .ref cs), (r0, 16, 46, .ref ol), (r0, 16, 47, .ref nw), (r0, 16, 71, .ref td)]) [1, 8, 0, 2, 3, 4, 5, 6] rfl (M1 := [(cs, 207, 2, ca 1, fs_24)]) [0] rfl (I1 := [(jFs, jDY dC dI ca G0 none sn_24), (jF9, jVl dC dI G0 9 ck_24), ([(201, 0)], jQc dC dI (ca 4) dd 3 fd_24), ([(208, 0)], jQc dC dI (ca 4) co 2 fo_24)]) [0, 1, 2, 3] rfl) (by first | omega | (refine ⟨?_, ?_, ?_⟩ <;> (first | omega | rfl | assumption | decide | exact Or.inl rfl | exact Or.inr rfl | (simp only; omega)))) (by omega) _ (lv_sub hl [1, 0] rfl)
        · simp only [va_rf]
          refine lv_ifnonnull (tgt := 31) hx hb dX14_step_23 (by decide) ?_
          refine lv_aload_n hx hb dX14_step_31 rfl (lv_at hl 0 rfl) ?_
          refine j7_read hx hb hown hK (C := RX14) (T := TX14) (N := 74) rfl hly_16_60 hlk_129 (hh_6.at 3 rfl) dX14_step_32 ?_
          refine lv_iload_n hx hb dX14_step_35 rfl (lv_at hl 1 rfl) ?_
          refine j7_qaldI hx hb hK2 hh_6 hB208 0 rfl (by decide) hg_co (x := v1_6.toInt) (rfl) (by omega) (hh_6.iv 3 rfl) dX14_step_36 (fun o_27 ho_27 heo_27 => ?_)
          rcases ho_27 with rfl | ⟨el_28, rfl, hg_el_28⟩
          · simp only [va_rf]
            exact absurd (heo_27.trans heo_8.symm) (by simp)
          · simp only [va_rf]
            obtain rfl : el_9 = el_28 := (Option.some.inj (heo_27.trans heo_8.symm)).symm
            refine lv_ifnonnull (tgt := 43) hx hb dX14_step_37 (by decide) ?_
            refine lv_aload_n hx hb dX14_step_43 rfl (lv_at hl 0 rfl) ?_
            obtain ⟨v_29, hv_29, hh_30⟩ := hh_6.pin (C := RX14) (T := TX14) (N := 74) hB16 rfl (by decide) hg_r0 (i := 62) (by decide) rfl
            clear hh_6
            obtain ⟨checkLeft_31, rfl, hg_checkLeft_31⟩ := hv_29
            refine j7_read hx hb hown hK (C := RX14) (T := TX14) (N := 74) rfl hly_16_62 hlk_135 (hh_30.at 0 rfl) dX14_step_44 ?_
            refine lv_iload_n hx hb dX14_step_47 rfl (lv_at hl 1 rfl) ?_
            refine lv_dup2_11 hx hb dX14_step_48 rfl rfl ?_
            refine j7_iald hx hb hK hh_30 hB101 1 rfl (by decide) hg_checkLeft_31 (x := v1_6.toInt) (rfl) (by omega) dX14_step_49 (fun z_32 (hz_32 : True) => ?_)
            refine lv_iconst (v := 1) hx hb dX14_step_50 (by decide) ?_
            refine lv_isub hx hb dX14_step_51 ?_
            refine lv_topi (fun z_33 ez_33 => ?_)
            refine j7_iast hx hb hK hh_30 hB hB101 1 rfl (by decide) (by decide) rfl rfl rfl hg_checkLeft_31 (x := v1_6.toInt) (rfl) (by omega) (trivial) dX14_step_52 (fun H_34 locs_34 hh_34 => ?_)
            clear hh_30
            refine lv_aload_n hx hb dX14_step_53 rfl (lv_at hl 0 rfl) ?_
            refine j7_read hx hb hown hK (C := RX14) (T := TX14) (N := 74) rfl hly_16_62 hlk_135 (hh_34.at 0 rfl) dX14_step_54 ?_
            refine lv_iload_n hx hb dX14_step_57 rfl (lv_at hl 1 rfl) ?_
            refine j7_iald hx hb hK hh_34 hB101 1 rfl (by decide) hg_checkLeft_31 (x := v1_6.toInt) (rfl) (by omega) dX14_step_58 (fun z_35 (hz_35 : True) => ?_)
            refine lv_if_ne (tgt := 67) hx hb dX14_step_59 (by decide) (fun c_36 => ?_) (fun c_36 => ?_)
            · skip
              have c_36' : z_35.toInt ≠ 0 := jb_ne (rfl) ((by decide)) c_36
              obtain ⟨z_37, ez_37⟩ : ∃ y : Int32, y = v1_6 + 1 := ⟨_, rfl⟩
              refine lv_iinc (v := z_37) (lv' := [(1, .int z_37), (0, .ref r0)]) hx hb dX14_step_67 hl (k := 1) rfl (by rw [ez_37]; rfl) (by decide) rfl (fun ls hl => ?_)
              have hz_37 : z_37.toInt = v1_6.toInt + 1 := by rw [ez_37]; exact jb_iadd2 (rfl) (by decide) (by omega)
              refine lv_goto (tgt := 12) hx hb dX14_step_70 (by decide) ?_
              exact L12 z_37 sn_6 ck_6 fs_6 fd_6 fo_6 dc_6 _ _ (hh_34.sub (L1 := [(r0, 16, 42, .int dc_6), (r0, 16, 64, .int z_4), (r0, 16, 41, .ref dd), (r0, 16, 60, .ref co), (r0, 16, 61, .ref cs), (r0, 16, 46, .ref ol), (r0, 16, 47, .ref nw), (r0, 16, 71, .ref td)]) [1, 2, 3, 4, 5, 6, 7, 8] rfl (M1 := [(cs, 207, 2, ca 1, fs_6)]) [0] rfl (I1 := [(jFs, jDY dC dI ca G0 none sn_6), (jF9, jVl dC dI G0 9 ck_6), ([(201, 0)], jQc dC dI (ca 4) dd 3 fd_6), ([(208, 0)], jQc dC dI (ca 4) co 2 fo_6)]) [0, 1, 2, 3] rfl) (by first | omega | (refine ⟨?_, ?_, ?_⟩ <;> (first | omega | rfl | assumption | decide | exact Or.inl rfl | exact Or.inr rfl | (simp only; omega)))) (by omega) _ (lv_sub hl [1, 0] rfl)
            · skip
              have c_36' : z_35.toInt = 0 := jb_ne_n (rfl) ((by decide)) c_36
              refine lv_aload_n hx hb dX14_step_62 rfl (lv_at hl 0 rfl) ?_
              refine lv_iload_n hx hb dX14_step_63 rfl (lv_at hl 1 rfl) ?_
              refine va_callv (A0 := jA base) (H0 := s.heap) (va_runV (As := [.int v1_6]) (rest := []) ⟨hx, hb, hml, hown, hts⟩ (uX14_finish l dC dI ca base B hB hAp hB14 hB15 hB16 hB101 hB103 hB150 hB151 hB152 hB153 hB154 hB155 hB156 hB157 hB158 hB159 hB160 hB161 hB162 hB163 hB164 hB165 hB166 hB167 hB168 hB169 hB190 hB191 hB192 hB193 hB194 hB195 hB202 hB203 hB204 hB205 hB206 hB207 hB208 G0 H_34 r0 v1_6 dd dc_6 co cs ol nw td sn_6 ck_6 fd_6 fo_6 fs_6) (cwV 1 hts (jgV (jWr_91 _ (List.mem_of_getElem? (i := 7) rfl)) (jWr_91 _ (List.mem_of_getElem? (i := 8) rfl)) (jWr_91 _ (List.mem_of_getElem? (i := 9) rfl)) (jWr_1 _ (List.mem_of_getElem? (i := 5) rfl)) (jWr_91 _ (List.mem_of_getElem? (i := 10) rfl))) rfl rfl rfl (by decide +kernel) ⟨by rw [← hR]; exact Nat.le_of_ble_eq_true rfl, by rw [← hR]; exact Nat.le_of_ble_eq_true rfl⟩) ⟨fun a U g mk q => by obtain ⟨q0, q1, q2, qK, q10, q11, q12, q13, q14, q15, q16, q17, q18, q19, q20, q21⟩ := q; exact ⟨q0, q1, q2, jG.calling g mk a qK, (va_K.moved (Vm.Alike.refl U.vm) q10), q11, q12, q13, q14, q15, q16, q17, q18, q19, q20, q21⟩, hh_34.recv (C := RX14) (T := TX14) (N := 74) hB16 rfl (by decide) hg_r0 hK, fun U hU hW => ⟨rfl, hU, hh_34.2.1, hG.step hW hU hh_34.1, va_K.moved hW.alike hK2, hg_r0, hg_dd, hg_co, hg_cs, hg_ol, hg_nw, hg_td, (hh_34.2.2.1.sub (L1 := [(r0, 16, 41, .ref dd), (r0, 16, 42, .int dc_6), (r0, 16, 60, .ref co), (r0, 16, 61, .ref cs), (r0, 16, 46, .ref ol), (r0, 16, 47, .ref nw), (r0, 16, 71, .ref td)]) [3, 1, 4, 5, 6, 7, 8] rfl), (hh_34.2.2.2.2.2.2.2.1.sub (L1 := [(cs, 207, 2, ca 1, fs_6)]) [0] rfl), (hh_34.2.2.2.2.2.2.2.2.sub (L1 := [(jFs, jDY dC dI ca G0 none sn_6), (jF9, jVl dC dI G0 9 ck_6), ([(201, 0)], jQc dC dI (ca 4) dd 3 fd_6), ([(208, 0)], jQc dC dI (ca 4) co 2 fo_6)]) [0, 1, 2, 3] rfl), ⟨(by first | assumption | (intro h9; rw [h9] at heo_27; cases heo_27) | omega), (by first | omega | rfl | assumption | (intro h9; rw [h9] at heo_27; cases heo_27)), (by first | omega | rfl | assumption | (intro h9; rw [h9] at heo_27; cases heo_27)), (by first | omega | rfl | assumption | (intro h9; rw [h9] at heo_27; cases heo_27))⟩⟩⟩ rfl rfl hl.1 rfl (lv_room (Nat.le_of_ble_eq_true rfl)) dX14_step_64 ⟨Nat.zero_le _, Nat.zero_le _⟩) hh_34.1 (fun q _ h => h) (fun q h => h) (fun u_38 t_38 H_38 locs_38 ht_38 hvm_38 hr_39 hb_38 hz_38 hk_38 hS_38 => ?_)
              rw [ht_38] at hb_38
              obtain ⟨hb_38, hbV_38⟩ := hb_38
              obtain ⟨sn_38, ck_38, fs_38, fd_38, fo_38, dc_38, hVP_38, hVM_38, hVI_38, hpu_38⟩ := hbV_38
              obtain ⟨hb_381, hb_382, hb_383, hb_384, hb_385⟩ := hb_38
              have hh_38 : jSt (dC, dI) B base G0 G0 EX14_step s.heap 0 0 [(r0, 16, 41, .ref dd), (r0, 16, 42, .int dc_38), (r0, 16, 60, .ref co), (r0, 16, 61, .ref cs), (r0, 16, 46, .ref ol), (r0, 16, 47, .ref nw), (r0, 16, 71, .ref td), (r0, 16, 62, .ref checkLeft_31), (r0, 16, 64, .int z_4)] [(cs, 207, 2, ca 1, fs_38)] [(jFs, jDY dC dI ca G0 none sn_38), (jF9, jVl dC dI G0 9 ck_38), ([(201, 0)], jQc dC dI (ca 4) dd 3 fd_38), ([(208, 0)], jQc dC dI (ca 4) co 2 fo_38)] H_38 locs_38 := ((((hh_34.call hb_381 hb_382 hb_383 hb_384 hS_38 rfl (L1 := [(r0, 16, 62, .ref checkLeft_31), (r0, 16, 64, .int z_4)]) [0, 2] rfl rfl (M1 := []) [] rfl rfl (I1 := []) [] rfl rfl).more hb_385).more hVP_38).moreM hVM_38).addIs hVI_38
              clear hh_34 ht_38 hvm_38 hz_38 hk_38 hS_38 hb_381 hb_382 hb_383 hb_384 hb_385
              clear hVP_38 hVM_38 hVI_38
              obtain ⟨z_40, ez_40⟩ : ∃ y : Int32, y = v1_6 + 1 := ⟨_, rfl⟩
              refine lv_iinc (v := z_40) (lv' := [(1, .int z_40), (0, .ref r0)]) hx hb dX14_step_67 hl (k := 1) rfl (by rw [ez_40]; rfl) (by decide) rfl (fun ls hl => ?_)
              have hz_40 : z_40.toInt = v1_6.toInt + 1 := by rw [ez_40]; exact jb_iadd2 (rfl) (by decide) (by omega)
              refine lv_goto (tgt := 12) hx hb dX14_step_70 (by decide) ?_
              exact L12 z_40 sn_38 ck_38 fs_38 fd_38 fo_38 dc_38 _ _ (hh_38.sub (L1 := [(r0, 16, 42, .int dc_38), (r0, 16, 64, .int z_4), (r0, 16, 41, .ref dd), (r0, 16, 60, .ref co), (r0, 16, 61, .ref cs), (r0, 16, 46, .ref ol), (r0, 16, 47, .ref nw), (r0, 16, 71, .ref td)]) [1, 8, 0, 2, 3, 4, 5, 6] rfl (M1 := [(cs, 207, 2, ca 1, fs_38)]) [0] rfl (I1 := [(jFs, jDY dC dI ca G0 none sn_38), (jF9, jVl dC dI G0 9 ck_38), ([(201, 0)], jQc dC dI (ca 4) dd 3 fd_38), ([(208, 0)], jQc dC dI (ca 4) co 2 fo_38)]) [0, 1, 2, 3] rfl) (by first | omega | (refine ⟨?_, ?_, ?_⟩ <;> (first | omega | rfl | assumption | decide | exact Or.inl rfl | exact Or.inr rfl | (simp only; omega)))) (by omega) _ (lv_sub hl [1, 0] rfl)
  exact L12 (2 - (0 : Int32).toInt : Int).toNat.succ 0 sn ck fs fd fo dc _ _ (hh_5.sub (L1 := [(r0, 16, 42, .int dc), (r0, 16, 64, .int z_4), (r0, 16, 41, .ref dd), (r0, 16, 60, .ref co), (r0, 16, 61, .ref cs), (r0, 16, 46, .ref ol), (r0, 16, 47, .ref nw), (r0, 16, 71, .ref td)]) [2, 0, 1, 3, 4, 5, 6, 7] rfl (M1 := [(cs, 207, 2, ca 1, fs)]) [0] rfl (I1 := [(jFs, jDY dC dI ca G0 none sn), (jF9, jVl dC dI G0 9 ck), ([(201, 0)], jQc dC dI (ca 4) dd 3 fd), ([(208, 0)], jQc dC dI (ca 4) co 2 fo)]) [0, 1, 2, 3] rfl) (by first | omega | (refine ⟨?_, ?_, ?_⟩ <;> (first | omega | rfl | assumption | decide | exact Or.inl rfl | exact Or.inr rfl | (simp only; omega)))) (by omega) _ (lv_sub hl [1, 0] rfl)
set_option maxHeartbeats 4000000 in
set_option maxRecDepth 20000 in
theorem uX14_work (l : Launch) (dC : Nat → ClassId) (dI : Nat → Nat → Nat) (ca : Nat → ClassId) (base : Nat) (B : jF) (hB : jBok B) (hAp : jAp (dC, dI)) (hB14 : ∀ n G a H, B 14 n G a H ↔ jOb (dC, dI) 14 11 (F14 n G) a H) (hB15 : ∀ n G a H, B 15 n G a H ↔ jOb (dC, dI) 15 50 (F15 n G) a H) (hB16 : ∀ n G a H, B 16 n G a H ↔ jOb (dC, dI) 16 74 (F16 n G) a H) (hB101 : ∀ n G a H, B 101 n G a H ↔ jAr (dC, dI) (ca 1) (fun j z => True) n a H) (hB103 : ∀ n G a H, B 103 n G a H ↔ jAr (dC, dI) (ca 3) (fun j z => (z = 0 ∨ z = 1)) n a H) (hB150 : ∀ n G a H, B 150 n G a H ↔ jAr (dC, dI) (ca 1) (fun j z => True) n a H) (hB151 : ∀ n G a H, B 151 n G a H ↔ jAr (dC, dI) (ca 1) (fun j z => True) n a H) (hB152 : ∀ n G a H, B 152 n G a H ↔ jAr (dC, dI) (ca 1) (fun j z => True) n a H) (hB153 : ∀ n G a H, B 153 n G a H ↔ jAr (dC, dI) (ca 1) (fun j z => True) n a H) (hB154 : ∀ n G a H, B 154 n G a H ↔ jAr (dC, dI) (ca 1) (fun j z => True) n a H) (hB155 : ∀ n G a H, B 155 n G a H ↔ jAr (dC, dI) (ca 1) (fun j z => 0 ≤ z.toInt ∧ z.toInt ≤ 11990) n a H) (hB156 : ∀ n G a H, B 156 n G a H ↔ jAr (dC, dI) (ca 1) (fun j z => 0 ≤ z.toInt ∧ z.toInt ≤ 10) n a H) (hB157 : ∀ n G a H, B 157 n G a H ↔ jAr (dC, dI) (ca 1) (fun j z => 0 ≤ z.toInt ∧ z.toInt ≤ 1599) n a H) (hB158 : ∀ n G a H, B 158 n G a H ↔ jAr (dC, dI) (ca 1) (fun j z => 0 ≤ z.toInt ∧ z.toInt ≤ 6) n a H) (hB159 : ∀ n G a H, B 159 n G a H ↔ jAr (dC, dI) (ca 1) (fun j z => 0 ≤ z.toInt ∧ z.toInt ≤ 8) n a H) (hB160 : ∀ n G a H, B 160 n G a H ↔ jAr (dC, dI) (ca 1) (fun j z => 0 ≤ z.toInt ∧ z.toInt ≤ 119999) n a H) (hB161 : ∀ n G a H, B 161 n G a H ↔ jAr (dC, dI) (ca 1) (fun j z => 0 ≤ z.toInt ∧ z.toInt ≤ 119999) n a H) (hB162 : ∀ n G a H, B 162 n G a H ↔ jAr (dC, dI) (ca 1) (fun j z => 0 ≤ z.toInt ∧ z.toInt ≤ 119999) n a H) (hB163 : ∀ n G a H, B 163 n G a H ↔ jAr (dC, dI) (ca 1) (fun j z => 0 ≤ z.toInt ∧ z.toInt ≤ 1599) n a H) (hB164 : ∀ n G a H, B 164 n G a H ↔ jAr (dC, dI) (ca 1) (fun j z => 0 ≤ z.toInt ∧ z.toInt ≤ 100000) n a H) (hB165 : ∀ n G a H, B 165 n G a H ↔ jAr (dC, dI) (ca 1) (fun j z => 0 ≤ z.toInt ∧ z.toInt ≤ 3) n a H) (hB166 : ∀ n G a H, B 166 n G a H ↔ jAr (dC, dI) (ca 1) (fun j z => True) n a H) (hB167 : ∀ n G a H, B 167 n G a H ↔ jAr (dC, dI) (ca 1) (fun j z => True) n a H) (hB168 : ∀ n G a H, B 168 n G a H ↔ jAr (dC, dI) (ca 1) (fun j z => 0 ≤ z.toInt ∧ z.toInt ≤ 119999) n a H) (hB169 : ∀ n G a H, B 169 n G a H ↔ jAr (dC, dI) (ca 1) (fun j z => True) n a H) (hB190 : ∀ n G a H, B 190 n G a H ↔ jAr (dC, dI) (ca 1) (fun j z => 0 ≤ z.toInt ∧ z.toInt ≤ 1500) n a H) (hB191 : ∀ n G a H, B 191 n G a H ↔ jAr (dC, dI) (ca 1) (fun j z => 0 ≤ z.toInt ∧ z.toInt ≤ 1500) n a H) (hB192 : ∀ n G a H, B 192 n G a H ↔ jAr (dC, dI) (ca 1) (fun j z => 0 ≤ z.toInt ∧ z.toInt ≤ 2) n a H) (hB193 : ∀ n G a H, B 193 n G a H ↔ jAr (dC, dI) (ca 1) (fun j z => True) n a H) (hB194 : ∀ n G a H, B 194 n G a H ↔ jAr (dC, dI) (ca 1) (fun j z => True) n a H) (hB195 : ∀ n G a H, B 195 n G a H ↔ jAr (dC, dI) (ca 1) (fun j z => True) n a H) (hB201 : ∀ n G a H, B 201 n G a H ↔ jAq (dC, dI) (ca 4) (jQs 14 0) n G a H) (hB202 : ∀ n G a H, B 202 n G a H ↔ jAq (dC, dI) (ca 4) (jQn 14 0) n G a H) (hB203 : ∀ n G a H, B 203 n G a H ↔ jAr (dC, dI) (ca 1) (fun j z => -3300 ≤ z.toInt ∧ z.toInt ≤ 20) n a H) (hB204 : ∀ n G a H, B 204 n G a H ↔ jAr (dC, dI) (ca 1) (fun j z => -3100 ≤ z.toInt ∧ z.toInt ≤ 3100) n a H) (hB205 : ∀ n G a H, B 205 n G a H ↔ jAr (dC, dI) (ca 1) (fun j z => 0 ≤ z.toInt ∧ z.toInt ≤ 1600) n a H) (hB206 : ∀ n G a H, B 206 n G a H ↔ jAr (dC, dI) (ca 1) (fun j z => 0 ≤ z.toInt ∧ z.toInt ≤ 40) n a H) (hB207 : ∀ n G a H, B 207 n G a H ↔ jAr (dC, dI) (ca 1) (fun j z => 0 ≤ z.toInt ∧ z.toInt ≤ 39) n a H) (hB208 : ∀ n G a H, B 208 n G a H ↔ jAq (dC, dI) (ca 4) (jQn 14 0) n G a H) (G0 : jT) (H0 : Heap) (r0 : Nat) (a1 : Int32) (dd : Nat) (dc : Int32) (co : Nat) (cs : Nat) (ol : Nat) (nw : Nat) (td : Nat) (sn ck : Nat → Int32) (fd fo : Nat → Option Nat) (fs : Nat → Int32) : Met l yX14_work (jw yX14_work cX14_work 3 (some .int)) ({ frames := 1708, cells := 0, slots := 0, locals := 71999 }) (va_Pc [.ref r0, .int a1] (fun U => U.heap = H0 ∧ jX B base G0 [] H0 ∧ jG dC dI ca base U ∧ jK2 dC dI ca U ∧ G0 r0 = some (16, 0) ∧ G0 dd = some (201, 3) ∧ G0 co = some (208, 2) ∧ G0 cs = some (207, 2) ∧ G0 ol = some (14, 0) ∧ G0 nw = some (14, 0) ∧ G0 td = some (14, 0) ∧ jP (dC, dI) G0 H0 [(r0, 16, 41, .ref dd), (r0, 16, 42, .int dc), (r0, 16, 60, .ref co), (r0, 16, 61, .ref cs), (r0, 16, 46, .ref ol), (r0, 16, 47, .ref nw), (r0, 16, 71, .ref td)] ∧ jMc (dC, dI) G0 H0 [(cs, 207, 2, ca 1, fs)] ∧ jIs (dC, dI) G0 H0 [(jFs, jDY dC dI ca G0 none sn), (jF9, jVl dC dI G0 9 ck), ([(201, 0)], jQc dC dI (ca 4) dd 3 fd), ([(208, 0)], jQc dC dI (ca 4) co 2 fo)] ∧ jPu sn ck fd fo fs dc.toInt ol nw td)) (va_Qi (S := Unit) (fun r u => (True)) (fun u t => (jRt (dC, dI) B base G0 EX14_work H0 [] t.heap) ∧ jDV dC dI ca G0 r0 dd co cs ol nw td t.heap) (jA base)) 0 0 (jA base) := by
  refine Met.ofW (cc := cX14_work) (maxL := 3) (ret := (some .int)) (by decide) rfl ?_
  intro p e s m args below meth c s₁ Bd hml hv
  obtain ⟨rfl, hH0, hX, hG, hK2, hg_r0, hg_dd, hg_co, hg_cs, hg_ol, hg_nw, hg_td, hP0, hM0, hI0, hp0⟩ := hv
  have hK := hG.1
  have hx := Bd.exec
  have hb := Bd.bytes
  have hr := Bd.returns
  have hts := atoms_spec (ws := (jw yX14_work cX14_work 3 (some .int))) Bd.pre
  have htw : ∀ w ∈ jWl, w.before _ s = true := fun w h => hts w (List.mem_cons_of_mem _ h)
  have hown : s.vm.findClass RX14 = some m.cls := findClass_of_methodNamed Bd.named
  have hlocks := Bd.notSynchronized
  obtain ⟨Q, hQ⟩ : ∃ Q, Q = MQ below (va_Qi (S := Unit) (fun r u => (True)) (fun u t => (jRt (dC, dI) B base G0 EX14_work H0 [] t.heap) ∧ jDV dC dI ca G0 r0 dd co cs ol nw td t.heap) (jA base)) ([.ref r0, .int a1] : List Value).toArray s 0 0 (jA base) := ⟨_, rfl⟩
  rw [← hQ]
  have hl := lv_entry ([.ref r0, .int a1]) (n := 3) (Nat.le_of_ble_eq_true rfl)
  rw [lg_entry_eq]
  generalize (lg_sl ([.ref r0, .int a1]) ++ List.replicate (3 - (lg_sl ([.ref r0, .int a1])).length) Slot.unset).toArray = ls at hl ⊢
  have hl : lv_has ls 3 [(0, .ref r0), (1, .int a1)] := hl
  generalize hR : (headSpec (jw yX14_work cX14_work 3 (some .int)) ({ frames := 1708, cells := 0, slots := 0, locals := 71999 })).room = R
  subst hH0
  have hh : jSt (dC, dI) B base G0 G0 EX14_work s.heap 0 0 [(r0, 16, 41, .ref dd), (r0, 16, 42, .int dc), (r0, 16, 60, .ref co), (r0, 16, 61, .ref cs), (r0, 16, 46, .ref ol), (r0, 16, 47, .ref nw), (r0, 16, 71, .ref td)] [(cs, 207, 2, ca 1, fs)] [(jFs, jDY dC dI ca G0 none sn), (jF9, jVl dC dI G0 9 ck), ([(201, 0)], jQc dC dI (ca 4) dd 3 fd), ([(208, 0)], jQc dC dI (ca 4) co 2 fo)] s.heap [] := jSt.start hX hP0 hM0 hI0
  clear hX hP0
  have hkm1 : ((-1) : Int32).toInt = (-1) := by decide
  have hk0 : (0 : Int32).toInt = 0 := by decide
  have hk1 : (1 : Int32).toInt = 1 := by decide
  have hk10000 : (10000 : Int32).toInt = 10000 := by decide
  have hly_16_60 := htw (u_lay RX14 TX14 60) (jWc_wsX140 _ (u_in_lay (by decide)))
  have hlk_129 := (htw (.fieldLink RX14 129 "ProofServerModel" "checkOf" "[LProofServerModel$Document;") (jWr_12 _ (List.mem_of_getElem? (i := 15) rfl)))
  have hrg_a1 := jb_rng a1
  refine lv_iload_n hx hb dX14_work_0 rfl (lv_at hl 1 rfl) ?_
  refine lv_iconst (v := 0) hx hb dX14_work_1 (by decide) ?_
  refine lv_sipush (v := 10000) hx hb dX14_work_2 (by decide) ?_
  refine va_calli (A0 := jA base) (H0 := s.heap) (va_runS (As := [.int a1, .int 0, .int 10000]) (rest := []) ⟨hx, hb, hml, hown, hts⟩ (uX14_in l dC dI ca base B hB hAp G0 s.heap a1 0 10000) (va_cwS 3 hts (jgS (jWr_48 _ (List.mem_of_getElem? (i := 10) rfl)) (jWr_48 _ (List.mem_of_getElem? (i := 11) rfl)) (jWr_1 _ (List.mem_of_getElem? (i := 5) rfl)) (jWr_48 _ (List.mem_of_getElem? (i := 12) rfl))) rfl rfl rfl (by decide +kernel) ⟨by rw [← hR]; exact Nat.le_of_ble_eq_true rfl, by rw [← hR]; exact Nat.le_of_ble_eq_true rfl⟩) ⟨fun a U g mk q => by obtain ⟨q0, q1, q2, qK, q10, q11⟩ := q; exact ⟨q0, q1, q2, jG.calling g mk a qK, q10, q11⟩, fun U hU hW => ⟨rfl, hU, hh.2.1, hG.step hW hU hh.1, jP.nil, trivial⟩⟩ rfl rfl hl.1 rfl (lv_room (Nat.le_of_ble_eq_true rfl)) dX14_work_5 ⟨Nat.zero_le _, Nat.zero_le _⟩) hh.1 (fun q _ h => h) (fun q h => h) (fun r_2 u_1 t_1 H_1 locs_1 ht_1 hvm_1 hr_2 hb_1 hz_1 hk_1 hS_1 => ?_)
  rw [ht_1] at hb_1
  obtain ⟨hb_11, hb_12, hb_13, hb_14, hb_15⟩ := hb_1
  have hh_1 : jSt (dC, dI) B base G0 G0 EX14_work s.heap 0 0 [(r0, 16, 41, .ref dd), (r0, 16, 42, .int dc), (r0, 16, 60, .ref co), (r0, 16, 61, .ref cs), (r0, 16, 46, .ref ol), (r0, 16, 47, .ref nw), (r0, 16, 71, .ref td)] [(cs, 207, 2, ca 1, fs)] [(jFs, jDY dC dI ca G0 none sn), (jF9, jVl dC dI G0 9 ck), ([(201, 0)], jQc dC dI (ca 4) dd 3 fd), ([(208, 0)], jQc dC dI (ca 4) co 2 fo)] H_1 locs_1 := ((hh.call hb_11 hb_12 hb_13 hb_14 hS_1 rfl (L1 := [(r0, 16, 41, .ref dd), (r0, 16, 42, .int dc), (r0, 16, 60, .ref co), (r0, 16, 61, .ref cs), (r0, 16, 46, .ref ol), (r0, 16, 47, .ref nw), (r0, 16, 71, .ref td)]) [0, 1, 2, 3, 4, 5, 6] rfl rfl (M1 := [(cs, 207, 2, ca 1, fs)]) [0] rfl rfl (I1 := [(jFs, jDY dC dI ca G0 none sn), (jF9, jVl dC dI G0 9 ck), ([(201, 0)], jQc dC dI (ca 4) dd 3 fd), ([(208, 0)], jQc dC dI (ca 4) co 2 fo)]) [0, 1, 2, 3] rfl rfl).more hb_15)
  clear hh ht_1 hvm_1 hz_1 hk_1 hS_1 hb_11 hb_12 hb_13 hb_14 hb_15
  obtain ⟨hr_2b, hr_2p⟩ := hr_2
  obtain ⟨hr_2p_0, hr_2p_1, hr_2p_2⟩ := hr_2p
  have hr_2' := jb_01 hr_2b
  refine lv_if_ne (tgt := 13) hx hb dX14_work_8 (by decide) (fun c_3 => ?_) (fun c_3 => ?_)
  · skip
    have c_3' : r_2.toInt ≠ 0 := jb_ne (rfl) ((by decide)) c_3
    refine lv_iconst (v := 0) hx hb dX14_work_13 (by decide) ?_
    refine lv_istore_n (lv' := [(2, .int 0), (0, .ref r0), (1, .int a1)]) hx hb dX14_work_14 rfl hl (by decide) rfl (fun ls hl => ?_)
    have L15 : ∀ (N : Nat) (v2_4 : Int32) (sn_4 : Nat → Int32) (ck_4 : Nat → Int32) (fs_4 : Nat → Int32) (fd_4 : Nat → Option Nat) (fo_4 : Nat → Option Nat) (dc_4 : Int32) (H_4 : Heap) (locs_4 : List Loc), jSt (dC, dI) B base G0 G0 EX14_work s.heap 0 0 [(r0, 16, 42, .int dc_4), (r0, 16, 41, .ref dd), (r0, 16, 60, .ref co), (r0, 16, 61, .ref cs), (r0, 16, 46, .ref ol), (r0, 16, 47, .ref nw), (r0, 16, 71, .ref td)] [(cs, 207, 2, ca 1, fs_4)] [(jFs, jDY dC dI ca G0 none sn_4), (jF9, jVl dC dI G0 9 ck_4), ([(201, 0)], jQc dC dI (ca 4) dd 3 fd_4), ([(208, 0)], jQc dC dI (ca 4) co 2 fo_4)] H_4 locs_4 → (0 ≤ v2_4.toInt ∧ jPu sn_4 ck_4 fd_4 fo_4 fs_4 dc_4.toInt ol nw td) → (((a1.toInt - v2_4.toInt).toNat : Int) : Int) < N → ∀ ls : Array Slot, lv_has ls 3 [(0, .ref r0), (1, .int a1), (2, .int v2_4)] → W p l e R s m ([.ref r0, .int a1] : List Value).toArray below meth c H_4 locs_4 0 0 Q (F0 m 15 ls []) := by
      intro N
      induction N with
      | zero => intro v2_4 sn_4 ck_4 fs_4 fd_4 fo_4 dc_4 H_4 locs_4 hh_4  hi_4 hm; exact absurd hm (by omega)
      | succ N L15 =>
        intro v2_4 sn_4 ck_4 fs_4 fd_4 fo_4 dc_4 H_4 locs_4 hh_4  hi_4 hm_4 ls hl
        obtain ⟨hi_4_0, hi_4_1⟩ := hi_4
        refine lv_iload_n hx hb dX14_work_15 rfl (lv_at hl 2 rfl) ?_
        refine lv_iload_n hx hb dX14_work_16 rfl (lv_at hl 1 rfl) ?_
        refine lv_icmp_ge (tgt := 55) hx hb dX14_work_17 (by decide) (fun c_5 => ?_) (fun c_5 => ?_)
        · skip
          have c_5' : v2_4.toInt ≥ a1.toInt := jb_ge (rfl) (rfl) c_5
          refine lv_iload_n hx hb dX14_work_55 rfl (lv_at hl 2 rfl) ?_
          rw [hQ]
          exact W.iret (v := v2_4) hx hb hr (fun t ht hW => ⟨⟨v2_4, (), rfl, trivial, ⟨hh_4.rt (M1 := []) [] rfl ht, by rw [ht]; exact ⟨sn_4, ck_4, fs_4, fd_4, fo_4, dc_4, hh_4.2.2.1.sub (L1 := [(r0, 16, 41, .ref dd), (r0, 16, 42, .int dc_4), (r0, 16, 60, .ref co), (r0, 16, 61, .ref cs), (r0, 16, 46, .ref ol), (r0, 16, 47, .ref nw), (r0, 16, 71, .ref td)]) [1, 0, 2, 3, 4, 5, 6] rfl, hh_4.2.2.2.2.2.2.2.1.sub (L1 := [(cs, 207, 2, ca 1, fs_4)]) [0] rfl, hh_4.2.2.2.2.2.2.2.2.sub (L1 := [(jFs, jDY dC dI ca G0 none sn_4), (jF9, jVl dC dI G0 9 ck_4), ([(201, 0)], jQc dC dI (ca 4) dd 3 fd_4), ([(208, 0)], jQc dC dI (ca 4) co 2 fo_4)]) [0, 1, 2, 3] rfl, (by assumption)⟩⟩⟩, by rw [ht]; try exact hh_4.1.1, fun q h9 hq => by rw [ht]; try exact hh_4.1.2.1 q h9 hq⟩) hh_4.1.2.2 dX14_work_56
        · skip
          have c_5' : v2_4.toInt < a1.toInt := jb_ge_n (rfl) (rfl) c_5
          refine lv_aload_n hx hb dX14_work_20 rfl (lv_at hl 0 rfl) ?_
          refine j7_read hx hb hown hK (C := RX14) (T := TX14) (N := 74) rfl hly_16_60 hlk_129 (hh_4.at 2 rfl) dX14_work_21 ?_
          refine lv_iconst (v := 0) hx hb dX14_work_24 (by decide) ?_
          refine j7_qaldI hx hb hK2 hh_4 hB208 0 rfl (by decide) hg_co (x := 0) ((by decide)) (by omega) (hh_4.iv 3 rfl) dX14_work_25 (fun o_6 ho_6 heo_6 => ?_)
          rcases ho_6 with rfl | ⟨el_7, rfl, hg_el_7⟩
          · simp only [va_rf]
            refine lv_ifnonnullN hx hb dX14_work_26 ?_
            refine lv_aload_n hx hb dX14_work_29 rfl (lv_at hl 0 rfl) ?_
            refine j7_read hx hb hown hK (C := RX14) (T := TX14) (N := 74) rfl hly_16_60 hlk_129 (hh_4.at 2 rfl) dX14_work_30 ?_
            refine lv_iconst (v := 1) hx hb dX14_work_33 (by decide) ?_
            refine j7_qaldI hx hb hK2 hh_4 hB208 0 rfl (by decide) hg_co (x := 1) ((by decide)) (by omega) (hh_4.iv 3 rfl) dX14_work_34 (fun o_8 ho_8 heo_8 => ?_)
            rcases ho_8 with rfl | ⟨el_9, rfl, hg_el_9⟩
            · simp only [va_rf]
              refine lv_ifnonnullN hx hb dX14_work_35 ?_
              refine lv_aload_n hx hb dX14_work_38 rfl (lv_at hl 0 rfl) ?_
              refine j_callx (A0 := jA base) (H0 := s.heap) (va_runV (As := []) (rest := []) ⟨hx, hb, hml, hown, hts⟩ (uX14_nextDocumentK l dC dI ca base B hB hAp hB14 hB16 hB201 hB202 hB208 G0 H_4 r0 dd dc_4 co cs ol nw td sn_4 ck_4 fd_4 fo_4 fs_4) (cwV 0 hts (jgV (jWr_89 _ (List.mem_of_getElem? (i := 20) rfl)) (jWr_89 _ (List.mem_of_getElem? (i := 21) rfl)) (jWr_89 _ (List.mem_of_getElem? (i := 22) rfl)) (jWr_1 _ (List.mem_of_getElem? (i := 5) rfl)) (jWr_89 _ (List.mem_of_getElem? (i := 23) rfl))) rfl rfl rfl (by decide +kernel) ⟨by rw [← hR]; exact Nat.le_of_ble_eq_true rfl, by rw [← hR]; exact Nat.le_of_ble_eq_true rfl⟩) ⟨fun a U g mk q => by obtain ⟨q0, q1, q2, qK, q10, q11, q12, q13, q14, q15, q16, q17, q18, q19, q20, q21⟩ := q; exact ⟨q0, q1, q2, jG.calling g mk a qK, (va_K.moved (Vm.Alike.refl U.vm) q10), q11, q12, q13, q14, q15, q16, q17, q18, q19, q20, q21⟩, hh_4.recv (C := RX14) (T := TX14) (N := 74) hB16 rfl (by decide) hg_r0 hK, fun U hU hW => ⟨rfl, hU, hh_4.2.1, hG.step hW hU hh_4.1, va_K.moved hW.alike hK2, hg_r0, hg_dd, hg_co, hg_cs, hg_ol, hg_nw, hg_td, (hh_4.2.2.1.sub (L1 := [(r0, 16, 41, .ref dd), (r0, 16, 42, .int dc_4), (r0, 16, 60, .ref co), (r0, 16, 61, .ref cs), (r0, 16, 46, .ref ol), (r0, 16, 47, .ref nw), (r0, 16, 71, .ref td)]) [1, 0, 2, 3, 4, 5, 6] rfl), (hh_4.2.2.2.2.2.2.2.1.sub (L1 := [(cs, 207, 2, ca 1, fs_4)]) [0] rfl), (hh_4.2.2.2.2.2.2.2.2.sub (L1 := [(jFs, jDY dC dI ca G0 none sn_4), (jF9, jVl dC dI G0 9 ck_4), ([(201, 0)], jQc dC dI (ca 4) dd 3 fd_4), ([(208, 0)], jQc dC dI (ca 4) co 2 fo_4)]) [0, 1, 2, 3] rfl), by first | omega | rfl | assumption | decide | exact Or.inl rfl | exact Or.inr rfl | (simp only; omega)⟩⟩ rfl rfl hl.1 rfl (lv_room (Nat.le_of_ble_eq_true rfl)) dX14_work_39 ⟨Nat.zero_le _, Nat.zero_le _⟩) hh_4.1 (fun q _ h => h) (fun q h => h) (fun r_11 u_10 t_10 H_10 locs_10 ht_10 hvm_10 hr_11 hb_10 hz_10 hk_10 hS_10 => ?_)
              rw [ht_10] at hb_10
              obtain ⟨hb_101, hb_102, hb_103, hb_104, hb_105⟩ := hb_10
              have hh_10 : jSt (dC, dI) B base G0 G0 EX14_work s.heap 0 0 [(r0, 16, 42, .int dc_4), (r0, 16, 41, .ref dd), (r0, 16, 60, .ref co), (r0, 16, 61, .ref cs), (r0, 16, 46, .ref ol), (r0, 16, 47, .ref nw), (r0, 16, 71, .ref td)] [(cs, 207, 2, ca 1, fs_4)] [(jFs, jDY dC dI ca G0 none sn_4), (jF9, jVl dC dI G0 9 ck_4), ([(201, 0)], jQc dC dI (ca 4) dd 3 fd_4), ([(208, 0)], jQc dC dI (ca 4) co 2 fo_4)] H_10 locs_10 := ((hh_4.call hb_101 hb_102 hb_103 hb_104 hS_10 rfl (L1 := [(r0, 16, 42, .int dc_4), (r0, 16, 41, .ref dd), (r0, 16, 60, .ref co), (r0, 16, 61, .ref cs), (r0, 16, 46, .ref ol), (r0, 16, 47, .ref nw), (r0, 16, 71, .ref td)]) [0, 1, 2, 3, 4, 5, 6] rfl rfl (M1 := [(cs, 207, 2, ca 1, fs_4)]) [0] rfl rfl (I1 := [(jFs, jDY dC dI ca G0 none sn_4), (jF9, jVl dC dI G0 9 ck_4), ([(201, 0)], jQc dC dI (ca 4) dd 3 fd_4), ([(208, 0)], jQc dC dI (ca 4) co 2 fo_4)]) [0, 1, 2, 3] rfl rfl).more hb_105)
              clear hh_4 ht_10 hvm_10 hz_10 hk_10 hS_10 hb_101 hb_102 hb_103 hb_104 hb_105
              rcases hr_11 with rfl | ⟨ret_12, rfl, hg_ret_12, hp_ret_12⟩
              · skip
                refine lv_ifnullN (tgt := 55) hx hb dX14_work_42 (by decide) ?_
                refine lv_iload_n hx hb dX14_work_55 rfl (lv_at hl 2 rfl) ?_
                rw [hQ]
                exact W.iret (v := v2_4) hx hb hr (fun t ht hW => ⟨⟨v2_4, (), rfl, trivial, ⟨hh_10.rt (M1 := []) [] rfl ht, by rw [ht]; exact ⟨sn_4, ck_4, fs_4, fd_4, fo_4, dc_4, hh_10.2.2.1.sub (L1 := [(r0, 16, 41, .ref dd), (r0, 16, 42, .int dc_4), (r0, 16, 60, .ref co), (r0, 16, 61, .ref cs), (r0, 16, 46, .ref ol), (r0, 16, 47, .ref nw), (r0, 16, 71, .ref td)]) [1, 0, 2, 3, 4, 5, 6] rfl, hh_10.2.2.2.2.2.2.2.1.sub (L1 := [(cs, 207, 2, ca 1, fs_4)]) [0] rfl, hh_10.2.2.2.2.2.2.2.2.sub (L1 := [(jFs, jDY dC dI ca G0 none sn_4), (jF9, jVl dC dI G0 9 ck_4), ([(201, 0)], jQc dC dI (ca 4) dd 3 fd_4), ([(208, 0)], jQc dC dI (ca 4) co 2 fo_4)]) [0, 1, 2, 3] rfl, (by assumption)⟩⟩⟩, by rw [ht]; try exact hh_10.1.1, fun q h9 hq => by rw [ht]; try exact hh_10.1.2.1 q h9 hq⟩) hh_10.1.2.2 dX14_work_56
              · skip
                refine lv_ifnull hx hb dX14_work_42 ?_
                refine lv_aload_n hx hb dX14_work_45 rfl (lv_at hl 0 rfl) ?_
                refine va_callv (A0 := jA base) (H0 := s.heap) (va_runV (As := []) (rest := []) ⟨hx, hb, hml, hown, hts⟩ (uX14_step l dC dI ca base B hB hAp hB14 hB15 hB16 hB101 hB103 hB150 hB151 hB152 hB153 hB154 hB155 hB156 hB157 hB158 hB159 hB160 hB161 hB162 hB163 hB164 hB165 hB166 hB167 hB168 hB169 hB190 hB191 hB192 hB193 hB194 hB195 hB201 hB202 hB203 hB204 hB205 hB206 hB207 hB208 G0 H_10 r0 dd dc_4 co cs ol nw td sn_4 ck_4 fd_4 fo_4 fs_4) (cwV 0 hts (jgV (jWr_90 _ (List.mem_of_getElem? (i := 4) rfl)) (jWr_90 _ (List.mem_of_getElem? (i := 5) rfl)) (jWr_90 _ (List.mem_of_getElem? (i := 6) rfl)) (jWr_1 _ (List.mem_of_getElem? (i := 5) rfl)) (jWr_90 _ (List.mem_of_getElem? (i := 7) rfl))) rfl rfl rfl (by decide +kernel) ⟨by rw [← hR]; exact Nat.le_of_ble_eq_true rfl, by rw [← hR]; exact Nat.le_of_ble_eq_true rfl⟩) ⟨fun a U g mk q => by obtain ⟨q0, q1, q2, qK, q10, q11, q12, q13, q14, q15, q16, q17, q18, q19, q20, q21⟩ := q; exact ⟨q0, q1, q2, jG.calling g mk a qK, (va_K.moved (Vm.Alike.refl U.vm) q10), q11, q12, q13, q14, q15, q16, q17, q18, q19, q20, q21⟩, hh_10.recv (C := RX14) (T := TX14) (N := 74) hB16 rfl (by decide) hg_r0 hK, fun U hU hW => ⟨rfl, hU, hh_10.2.1, hG.step hW hU hh_10.1, va_K.moved hW.alike hK2, hg_r0, hg_dd, hg_co, hg_cs, hg_ol, hg_nw, hg_td, (hh_10.2.2.1.sub (L1 := [(r0, 16, 41, .ref dd), (r0, 16, 42, .int dc_4), (r0, 16, 60, .ref co), (r0, 16, 61, .ref cs), (r0, 16, 46, .ref ol), (r0, 16, 47, .ref nw), (r0, 16, 71, .ref td)]) [1, 0, 2, 3, 4, 5, 6] rfl), (hh_10.2.2.2.2.2.2.2.1.sub (L1 := [(cs, 207, 2, ca 1, fs_4)]) [0] rfl), (hh_10.2.2.2.2.2.2.2.2.sub (L1 := [(jFs, jDY dC dI ca G0 none sn_4), (jF9, jVl dC dI G0 9 ck_4), ([(201, 0)], jQc dC dI (ca 4) dd 3 fd_4), ([(208, 0)], jQc dC dI (ca 4) co 2 fo_4)]) [0, 1, 2, 3] rfl), by first | omega | rfl | assumption | decide | exact Or.inl rfl | exact Or.inr rfl | (simp only; omega)⟩⟩ rfl rfl hl.1 rfl (lv_room (Nat.le_of_ble_eq_true rfl)) dX14_work_46 ⟨Nat.zero_le _, Nat.zero_le _⟩) hh_10.1 (fun q _ h => h) (fun q h => h) (fun u_13 t_13 H_13 locs_13 ht_13 hvm_13 hr_14 hb_13 hz_13 hk_13 hS_13 => ?_)
                rw [ht_13] at hb_13
                obtain ⟨hb_13, hbV_13⟩ := hb_13
                obtain ⟨sn_13, ck_13, fs_13, fd_13, fo_13, dc_13, hVP_13, hVM_13, hVI_13, hpu_13⟩ := hbV_13
                obtain ⟨hb_131, hb_132, hb_133, hb_134, hb_135⟩ := hb_13
                have hh_13 : jSt (dC, dI) B base G0 G0 EX14_work s.heap 0 0 [(r0, 16, 41, .ref dd), (r0, 16, 42, .int dc_13), (r0, 16, 60, .ref co), (r0, 16, 61, .ref cs), (r0, 16, 46, .ref ol), (r0, 16, 47, .ref nw), (r0, 16, 71, .ref td)] [(cs, 207, 2, ca 1, fs_13)] [(jFs, jDY dC dI ca G0 none sn_13), (jF9, jVl dC dI G0 9 ck_13), ([(201, 0)], jQc dC dI (ca 4) dd 3 fd_13), ([(208, 0)], jQc dC dI (ca 4) co 2 fo_13)] H_13 locs_13 := ((((hh_10.call hb_131 hb_132 hb_133 hb_134 hS_13 rfl (L1 := []) [] rfl rfl (M1 := []) [] rfl rfl (I1 := []) [] rfl rfl).more hb_135).more hVP_13).moreM hVM_13).addIs hVI_13
                clear hh_10 ht_13 hvm_13 hz_13 hk_13 hS_13 hb_131 hb_132 hb_133 hb_134 hb_135
                clear hVP_13 hVM_13 hVI_13
                obtain ⟨z_15, ez_15⟩ : ∃ y : Int32, y = v2_4 + 1 := ⟨_, rfl⟩
                refine lv_iinc (v := z_15) (lv' := [(2, .int z_15), (0, .ref r0), (1, .int a1)]) hx hb dX14_work_49 hl (k := 2) rfl (by rw [ez_15]; rfl) (by decide) rfl (fun ls hl => ?_)
                have hz_15 : z_15.toInt = v2_4.toInt + 1 := by rw [ez_15]; exact jb_iadd2 (rfl) (by decide) (by omega)
                refine lv_goto (tgt := 15) hx hb dX14_work_52 (by decide) ?_
                exact L15 z_15 sn_13 ck_13 fs_13 fd_13 fo_13 dc_13 _ _ (hh_13.sub (L1 := [(r0, 16, 42, .int dc_13), (r0, 16, 41, .ref dd), (r0, 16, 60, .ref co), (r0, 16, 61, .ref cs), (r0, 16, 46, .ref ol), (r0, 16, 47, .ref nw), (r0, 16, 71, .ref td)]) [1, 0, 2, 3, 4, 5, 6] rfl (M1 := [(cs, 207, 2, ca 1, fs_13)]) [0] rfl (I1 := [(jFs, jDY dC dI ca G0 none sn_13), (jF9, jVl dC dI G0 9 ck_13), ([(201, 0)], jQc dC dI (ca 4) dd 3 fd_13), ([(208, 0)], jQc dC dI (ca 4) co 2 fo_13)]) [0, 1, 2, 3] rfl) (by first | omega | (refine ⟨?_, ?_⟩ <;> (first | omega | rfl | assumption | decide | exact Or.inl rfl | exact Or.inr rfl | (simp only; omega)))) (by omega) _ (lv_sub hl [1, 2, 0] rfl)
            · simp only [va_rf]
              refine lv_ifnonnull (tgt := 45) hx hb dX14_work_35 (by decide) ?_
              refine lv_aload_n hx hb dX14_work_45 rfl (lv_at hl 0 rfl) ?_
              refine va_callv (A0 := jA base) (H0 := s.heap) (va_runV (As := []) (rest := []) ⟨hx, hb, hml, hown, hts⟩ (uX14_step l dC dI ca base B hB hAp hB14 hB15 hB16 hB101 hB103 hB150 hB151 hB152 hB153 hB154 hB155 hB156 hB157 hB158 hB159 hB160 hB161 hB162 hB163 hB164 hB165 hB166 hB167 hB168 hB169 hB190 hB191 hB192 hB193 hB194 hB195 hB201 hB202 hB203 hB204 hB205 hB206 hB207 hB208 G0 H_4 r0 dd dc_4 co cs ol nw td sn_4 ck_4 fd_4 fo_4 fs_4) (cwV 0 hts (jgV (jWr_90 _ (List.mem_of_getElem? (i := 4) rfl)) (jWr_90 _ (List.mem_of_getElem? (i := 5) rfl)) (jWr_90 _ (List.mem_of_getElem? (i := 6) rfl)) (jWr_1 _ (List.mem_of_getElem? (i := 5) rfl)) (jWr_90 _ (List.mem_of_getElem? (i := 7) rfl))) rfl rfl rfl (by decide +kernel) ⟨by rw [← hR]; exact Nat.le_of_ble_eq_true rfl, by rw [← hR]; exact Nat.le_of_ble_eq_true rfl⟩) ⟨fun a U g mk q => by obtain ⟨q0, q1, q2, qK, q10, q11, q12, q13, q14, q15, q16, q17, q18, q19, q20, q21⟩ := q; exact ⟨q0, q1, q2, jG.calling g mk a qK, (va_K.moved (Vm.Alike.refl U.vm) q10), q11, q12, q13, q14, q15, q16, q17, q18, q19, q20, q21⟩, hh_4.recv (C := RX14) (T := TX14) (N := 74) hB16 rfl (by decide) hg_r0 hK, fun U hU hW => ⟨rfl, hU, hh_4.2.1, hG.step hW hU hh_4.1, va_K.moved hW.alike hK2, hg_r0, hg_dd, hg_co, hg_cs, hg_ol, hg_nw, hg_td, (hh_4.2.2.1.sub (L1 := [(r0, 16, 41, .ref dd), (r0, 16, 42, .int dc_4), (r0, 16, 60, .ref co), (r0, 16, 61, .ref cs), (r0, 16, 46, .ref ol), (r0, 16, 47, .ref nw), (r0, 16, 71, .ref td)]) [1, 0, 2, 3, 4, 5, 6] rfl), (hh_4.2.2.2.2.2.2.2.1.sub (L1 := [(cs, 207, 2, ca 1, fs_4)]) [0] rfl), (hh_4.2.2.2.2.2.2.2.2.sub (L1 := [(jFs, jDY dC dI ca G0 none sn_4), (jF9, jVl dC dI G0 9 ck_4), ([(201, 0)], jQc dC dI (ca 4) dd 3 fd_4), ([(208, 0)], jQc dC dI (ca 4) co 2 fo_4)]) [0, 1, 2, 3] rfl), by first | omega | rfl | assumption | decide | exact Or.inl rfl | exact Or.inr rfl | (simp only; omega)⟩⟩ rfl rfl hl.1 rfl (lv_room (Nat.le_of_ble_eq_true rfl)) dX14_work_46 ⟨Nat.zero_le _, Nat.zero_le _⟩) hh_4.1 (fun q _ h => h) (fun q h => h) (fun u_16 t_16 H_16 locs_16 ht_16 hvm_16 hr_17 hb_16 hz_16 hk_16 hS_16 => ?_)
              rw [ht_16] at hb_16
              obtain ⟨hb_16, hbV_16⟩ := hb_16
              obtain ⟨sn_16, ck_16, fs_16, fd_16, fo_16, dc_16, hVP_16, hVM_16, hVI_16, hpu_16⟩ := hbV_16
              obtain ⟨hb_161, hb_162, hb_163, hb_164, hb_165⟩ := hb_16
              have hh_16 : jSt (dC, dI) B base G0 G0 EX14_work s.heap 0 0 [(r0, 16, 41, .ref dd), (r0, 16, 42, .int dc_16), (r0, 16, 60, .ref co), (r0, 16, 61, .ref cs), (r0, 16, 46, .ref ol), (r0, 16, 47, .ref nw), (r0, 16, 71, .ref td)] [(cs, 207, 2, ca 1, fs_16)] [(jFs, jDY dC dI ca G0 none sn_16), (jF9, jVl dC dI G0 9 ck_16), ([(201, 0)], jQc dC dI (ca 4) dd 3 fd_16), ([(208, 0)], jQc dC dI (ca 4) co 2 fo_16)] H_16 locs_16 := ((((hh_4.call hb_161 hb_162 hb_163 hb_164 hS_16 rfl (L1 := []) [] rfl rfl (M1 := []) [] rfl rfl (I1 := []) [] rfl rfl).more hb_165).more hVP_16).moreM hVM_16).addIs hVI_16
              clear hh_4 ht_16 hvm_16 hz_16 hk_16 hS_16 hb_161 hb_162 hb_163 hb_164 hb_165
              clear hVP_16 hVM_16 hVI_16
              obtain ⟨z_18, ez_18⟩ : ∃ y : Int32, y = v2_4 + 1 := ⟨_, rfl⟩
              refine lv_iinc (v := z_18) (lv' := [(2, .int z_18), (0, .ref r0), (1, .int a1)]) hx hb dX14_work_49 hl (k := 2) rfl (by rw [ez_18]; rfl) (by decide) rfl (fun ls hl => ?_)
              have hz_18 : z_18.toInt = v2_4.toInt + 1 := by rw [ez_18]; exact jb_iadd2 (rfl) (by decide) (by omega)
              refine lv_goto (tgt := 15) hx hb dX14_work_52 (by decide) ?_
              exact L15 z_18 sn_16 ck_16 fs_16 fd_16 fo_16 dc_16 _ _ (hh_16.sub (L1 := [(r0, 16, 42, .int dc_16), (r0, 16, 41, .ref dd), (r0, 16, 60, .ref co), (r0, 16, 61, .ref cs), (r0, 16, 46, .ref ol), (r0, 16, 47, .ref nw), (r0, 16, 71, .ref td)]) [1, 0, 2, 3, 4, 5, 6] rfl (M1 := [(cs, 207, 2, ca 1, fs_16)]) [0] rfl (I1 := [(jFs, jDY dC dI ca G0 none sn_16), (jF9, jVl dC dI G0 9 ck_16), ([(201, 0)], jQc dC dI (ca 4) dd 3 fd_16), ([(208, 0)], jQc dC dI (ca 4) co 2 fo_16)]) [0, 1, 2, 3] rfl) (by first | omega | (refine ⟨?_, ?_⟩ <;> (first | omega | rfl | assumption | decide | exact Or.inl rfl | exact Or.inr rfl | (simp only; omega)))) (by omega) _ (lv_sub hl [1, 2, 0] rfl)
          · simp only [va_rf]
            refine lv_ifnonnull (tgt := 45) hx hb dX14_work_26 (by decide) ?_
            refine lv_aload_n hx hb dX14_work_45 rfl (lv_at hl 0 rfl) ?_
            refine va_callv (A0 := jA base) (H0 := s.heap) (va_runV (As := []) (rest := []) ⟨hx, hb, hml, hown, hts⟩ (uX14_step l dC dI ca base B hB hAp hB14 hB15 hB16 hB101 hB103 hB150 hB151 hB152 hB153 hB154 hB155 hB156 hB157 hB158 hB159 hB160 hB161 hB162 hB163 hB164 hB165 hB166 hB167 hB168 hB169 hB190 hB191 hB192 hB193 hB194 hB195 hB201 hB202 hB203 hB204 hB205 hB206 hB207 hB208 G0 H_4 r0 dd dc_4 co cs ol nw td sn_4 ck_4 fd_4 fo_4 fs_4) (cwV 0 hts (jgV (jWr_90 _ (List.mem_of_getElem? (i := 4) rfl)) (jWr_90 _ (List.mem_of_getElem? (i := 5) rfl)) (jWr_90 _ (List.mem_of_getElem? (i := 6) rfl)) (jWr_1 _ (List.mem_of_getElem? (i := 5) rfl)) (jWr_90 _ (List.mem_of_getElem? (i := 7) rfl))) rfl rfl rfl (by decide +kernel) ⟨by rw [← hR]; exact Nat.le_of_ble_eq_true rfl, by rw [← hR]; exact Nat.le_of_ble_eq_true rfl⟩) ⟨fun a U g mk q => by obtain ⟨q0, q1, q2, qK, q10, q11, q12, q13, q14, q15, q16, q17, q18, q19, q20, q21⟩ := q; exact ⟨q0, q1, q2, jG.calling g mk a qK, (va_K.moved (Vm.Alike.refl U.vm) q10), q11, q12, q13, q14, q15, q16, q17, q18, q19, q20, q21⟩, hh_4.recv (C := RX14) (T := TX14) (N := 74) hB16 rfl (by decide) hg_r0 hK, fun U hU hW => ⟨rfl, hU, hh_4.2.1, hG.step hW hU hh_4.1, va_K.moved hW.alike hK2, hg_r0, hg_dd, hg_co, hg_cs, hg_ol, hg_nw, hg_td, (hh_4.2.2.1.sub (L1 := [(r0, 16, 41, .ref dd), (r0, 16, 42, .int dc_4), (r0, 16, 60, .ref co), (r0, 16, 61, .ref cs), (r0, 16, 46, .ref ol), (r0, 16, 47, .ref nw), (r0, 16, 71, .ref td)]) [1, 0, 2, 3, 4, 5, 6] rfl), (hh_4.2.2.2.2.2.2.2.1.sub (L1 := [(cs, 207, 2, ca 1, fs_4)]) [0] rfl), (hh_4.2.2.2.2.2.2.2.2.sub (L1 := [(jFs, jDY dC dI ca G0 none sn_4), (jF9, jVl dC dI G0 9 ck_4), ([(201, 0)], jQc dC dI (ca 4) dd 3 fd_4), ([(208, 0)], jQc dC dI (ca 4) co 2 fo_4)]) [0, 1, 2, 3] rfl), by first | omega | rfl | assumption | decide | exact Or.inl rfl | exact Or.inr rfl | (simp only; omega)⟩⟩ rfl rfl hl.1 rfl (lv_room (Nat.le_of_ble_eq_true rfl)) dX14_work_46 ⟨Nat.zero_le _, Nat.zero_le _⟩) hh_4.1 (fun q _ h => h) (fun q h => h) (fun u_19 t_19 H_19 locs_19 ht_19 hvm_19 hr_20 hb_19 hz_19 hk_19 hS_19 => ?_)
            rw [ht_19] at hb_19
            obtain ⟨hb_19, hbV_19⟩ := hb_19
            obtain ⟨sn_19, ck_19, fs_19, fd_19, fo_19, dc_19, hVP_19, hVM_19, hVI_19, hpu_19⟩ := hbV_19
            obtain ⟨hb_191, hb_192, hb_193, hb_194, hb_195⟩ := hb_19
            have hh_19 : jSt (dC, dI) B base G0 G0 EX14_work s.heap 0 0 [(r0, 16, 41, .ref dd), (r0, 16, 42, .int dc_19), (r0, 16, 60, .ref co), (r0, 16, 61, .ref cs), (r0, 16, 46, .ref ol), (r0, 16, 47, .ref nw), (r0, 16, 71, .ref td)] [(cs, 207, 2, ca 1, fs_19)] [(jFs, jDY dC dI ca G0 none sn_19), (jF9, jVl dC dI G0 9 ck_19), ([(201, 0)], jQc dC dI (ca 4) dd 3 fd_19), ([(208, 0)], jQc dC dI (ca 4) co 2 fo_19)] H_19 locs_19 := ((((hh_4.call hb_191 hb_192 hb_193 hb_194 hS_19 rfl (L1 := []) [] rfl rfl (M1 := []) [] rfl rfl (I1 := []) [] rfl rfl).more hb_195).more hVP_19).moreM hVM_19).addIs hVI_19
            clear hh_4 ht_19 hvm_19 hz_19 hk_19 hS_19 hb_191 hb_192 hb_193 hb_194 hb_195
            clear hVP_19 hVM_19 hVI_19
            obtain ⟨z_21, ez_21⟩ : ∃ y : Int32, y = v2_4 + 1 := ⟨_, rfl⟩
            refine lv_iinc (v := z_21) (lv' := [(2, .int z_21), (0, .ref r0), (1, .int a1)]) hx hb dX14_work_49 hl (k := 2) rfl (by rw [ez_21]; rfl) (by decide) rfl (fun ls hl => ?_)
            have hz_21 : z_21.toInt = v2_4.toInt + 1 := by rw [ez_21]; exact jb_iadd2 (rfl) (by decide) (by omega)
            refine lv_goto (tgt := 15) hx hb dX14_work_52 (by decide) ?_
            exact L15 z_21 sn_19 ck_19 fs_19 fd_19 fo_19 dc_19 _ _ (hh_19.sub (L1 := [(r0, 16, 42, .int dc_19), (r0, 16, 41, .ref dd), (r0, 16, 60, .ref co), (r0, 16, 61, .ref cs), (r0, 16, 46, .ref ol), (r0, 16, 47, .ref nw), (r0, 16, 71, .ref td)]) [1, 0, 2, 3, 4, 5, 6] rfl (M1 := [(cs, 207, 2, ca 1, fs_19)]) [0] rfl (I1 := [(jFs, jDY dC dI ca G0 none sn_19), (jF9, jVl dC dI G0 9 ck_19), ([(201, 0)], jQc dC dI (ca 4) dd 3 fd_19), ([(208, 0)], jQc dC dI (ca 4) co 2 fo_19)]) [0, 1, 2, 3] rfl) (by first | omega | (refine ⟨?_, ?_⟩ <;> (first | omega | rfl | assumption | decide | exact Or.inl rfl | exact Or.inr rfl | (simp only; omega)))) (by omega) _ (lv_sub hl [1, 2, 0] rfl)
    exact L15 (((a1.toInt - (0 : Int32).toInt).toNat : Int) : Int).toNat.succ 0 sn ck fs fd fo dc _ _ (hh_1.sub (L1 := [(r0, 16, 42, .int dc), (r0, 16, 41, .ref dd), (r0, 16, 60, .ref co), (r0, 16, 61, .ref cs), (r0, 16, 46, .ref ol), (r0, 16, 47, .ref nw), (r0, 16, 71, .ref td)]) [1, 0, 2, 3, 4, 5, 6] rfl (M1 := [(cs, 207, 2, ca 1, fs)]) [0] rfl (I1 := [(jFs, jDY dC dI ca G0 none sn), (jF9, jVl dC dI G0 9 ck), ([(201, 0)], jQc dC dI (ca 4) dd 3 fd), ([(208, 0)], jQc dC dI (ca 4) co 2 fo)]) [0, 1, 2, 3] rfl) (by first | omega | (refine ⟨?_, ?_⟩ <;> (first | omega | rfl | assumption | decide | exact Or.inl rfl | exact Or.inr rfl | (simp only; omega)))) (by omega) _ (lv_sub hl [1, 2, 0] rfl)
  · skip
    have c_3' : r_2.toInt = 0 := jb_ne_n (rfl) ((by decide)) c_3
    refine lv_iconst (v := (-1)) hx hb dX14_work_11 (by decide) ?_
    rw [hQ]
    exact W.iret (v := (-1)) hx hb hr (fun t ht hW => ⟨⟨(-1), (), rfl, trivial, ⟨hh_1.rt (M1 := []) [] rfl ht, by rw [ht]; exact ⟨sn, ck, fs, fd, fo, dc, hh_1.2.2.1.sub (L1 := [(r0, 16, 41, .ref dd), (r0, 16, 42, .int dc), (r0, 16, 60, .ref co), (r0, 16, 61, .ref cs), (r0, 16, 46, .ref ol), (r0, 16, 47, .ref nw), (r0, 16, 71, .ref td)]) [0, 1, 2, 3, 4, 5, 6] rfl, hh_1.2.2.2.2.2.2.2.1.sub (L1 := [(cs, 207, 2, ca 1, fs)]) [0] rfl, hh_1.2.2.2.2.2.2.2.2.sub (L1 := [(jFs, jDY dC dI ca G0 none sn), (jF9, jVl dC dI G0 9 ck), ([(201, 0)], jQc dC dI (ca 4) dd 3 fd), ([(208, 0)], jQc dC dI (ca 4) co 2 fo)]) [0, 1, 2, 3] rfl, (by assumption)⟩⟩⟩, by rw [ht]; try exact hh_1.1.1, fun q h9 hq => by rw [ht]; try exact hh_1.1.2.1 q h9 hq⟩) hh_1.1.2.2 dX14_work_12
end
