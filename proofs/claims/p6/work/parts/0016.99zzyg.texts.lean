section
-- the texts of the program, as the machine holds them
def jTxB (o : String) (k : Nat) (tx : String) : List Cond := [.exactly (.string o k) "java/lang/String", .eq (.field (.string o k) "java/lang/String" "coder" "B") (.int 0), .arrayOf (.field (.string o k) "java/lang/String" "value" "[B") .byte, .eq (.length (.field (.string o k) "java/lang/String" "value" "[B")) (.int (Int32.ofNat tx.length))] ++ (List.range tx.length).map (fun j => .eq (.elem (.field (.string o k) "java/lang/String" "value" "[B") (.int (Int32.ofNat j))) (.int (jChT tx j)))
def jSr (c : Cond) : Option (String × Nat × String) := match c with
  | .stringRef o k t => some (o, k, t)
  | _ => none
def jTxP : List Nat := [24, 163, 181, 187, 195, 204, 212, 218, 226, 247, 273, 282, 298, 310, 324, 337, 351, 370, 383, 395, 402, 422, 430, 440, 451, 458, 468, 482, 496, 540, 552, 561, 576, 592, 599, 611, 619, 632, 640, 647, 654, 661, 672, 683, 688, 693, 699, 708, 776, 786, 800, 815, 821, 826, 833, 840, 846, 865, 873, 881, 905, 916, 924, 936, 1016, 1031, 1051, 1073, 1085, 1102, 1113, 1143, 1157, 1169, 1179, 1191, 1202, 1211, 1225, 1237, 1250, 1256, 1263, 1289, 1307, 1316, 1325, 1332, 1357, 1376, 1395, 1407, 1414, 1425, 1434, 1444, 1471, 1478, 1500, 1515, 1528, 1543, 1557, 1572, 1592, 1606, 1619, 1640, 1647, 1658, 1669, 1681, 1689, 1698, 1723, 1740, 1748, 1760, 1769, 1850, 1866, 1887, 1910, 1923, 1941, 1953, 1982, 1997, 2010, 2021, 2034, 2046, 2056, 2071, 2084, 2098, 2106, 2226, 2236, 2246, 2256, 2271, 2284, 2298, 2306, 2315, 2323, 2331, 2339, 2351, 2363, 2370, 2378, 2385, 2412, 2431, 2441, 2451, 2460, 2474, 2482, 2508, 2528, 2543, 2586, 2599, 2615, 2628, 2648]
def jSok (q : (String × Nat × String) × Nat) : Bool := decide (((flatC narrow_1).drop q.2).take (4 + q.1.2.2.length) = jTxB q.1.1 q.1.2.1 q.1.2.2) && decide (q.1.2.2.length < 2147483648)
theorem jSlen : (tables_1.filterMap jSr).length = jTxP.length := by decide +kernel
theorem jSall : ((tables_1.filterMap jSr).zip jTxP).all jSok = true := by decide +kernel
theorem jStrOf {args : Array Value} {s : State} {base k p : Nat} {o tx : String} (hF : ∀ c ∈ flatC narrow_1, c.before args s = true) (hb : base = s.heap.size) (href : (Cond.stringRef o k tx).before args s = true) (hblk : ((flatC narrow_1).drop p).take (4 + tx.length) = jTxB o k tx) (hlen : tx.length < 2147483648) : ∃ a, vk_R o k tx a s ∧ jStrT base a tx s s.heap := by
  have hm : ∀ c ∈ jTxB o k tx, c.before args s = true := fun c hc => hF c (List.mem_of_mem_drop (List.mem_of_mem_take (by rw [hblk]; exact hc)))
  have hA : ∀ a : Nat, a < s.heap.size → ¬ jA base a := fun a ha h => by
    have h9 : base ≤ a := h
    omega
  have hex := hm _ (List.mem_of_getElem? (i := 0) rfl)
  have hco := hm _ (List.mem_of_getElem? (i := 1) rfl)
  have har := hm _ (List.mem_of_getElem? (i := 2) rfl)
  have hle := hm _ (List.mem_of_getElem? (i := 3) rfl)
  have hel : ∀ j : Nat, j < tx.length → (Cond.eq (.elem (.field (.string o k) "java/lang/String" "value" "[B") (.int (Int32.ofNat j))) (.int (jChT tx j))).before args s = true := fun j hj => hm _ (List.mem_append_right _ (List.mem_map.mpr ⟨j, List.mem_range.mpr hj, rfl⟩))
  obtain ⟨a, c, cA, kA, q1, q2, q3, q4, q5, q6, -⟩ := Cond.exactly_spec (args := args) (first := s) (o := none) (s := s) (idx := []) (t := .string o k) (cls := "java/lang/String") hex
  obtain ⟨t, ht, hT⟩ := va_Tof (f := fun j => .int (jChT tx j)) (A := jA base) hlen har (va_eqt hle) (fun j hj => va_eqt (hel j hj)) hA
  exact ⟨a, vk_R.of href q1, ⟨cA, q3, q5, by rw [q6]; exact q2, hA a (Array.getElem?_eq_some_iff.mp q3).1⟩, vk_OFof q1 (va_eqt hco) hA, t, vk_OFof q1 ht hA, hT⟩
theorem jStrs {args : Array Value} {s : State} {base : Nat} (hF : ∀ c ∈ flatC narrow_1, c.before args s = true) (hts : ∀ w ∈ tables_1, w.before args s = true) (hb : base = s.heap.size) : ∀ o k tx, Cond.stringRef o k tx ∈ tables_1 → ∃ a, vk_R o k tx a s ∧ jStrT base a tx s s.heap := fun o k tx hm => by
  have h1 : (o, k, tx) ∈ tables_1.filterMap jSr := List.mem_filterMap.mpr ⟨_, hm, rfl⟩
  obtain ⟨i, hi, e⟩ := List.mem_iff_getElem.mp h1
  have hi2 : i < jTxP.length := by rw [← jSlen]; exact hi
  have hz : ((o, k, tx), jTxP[i]) ∈ (tables_1.filterMap jSr).zip jTxP := List.mem_iff_getElem.mpr ⟨i, by rw [List.length_zip]; omega, by rw [List.getElem_zip, e]⟩
  have hk := List.all_eq_true.mp jSall _ hz
  simp only [jSok, Bool.and_eq_true, decide_eq_true_eq] at hk
  exact jStrOf hF hb (hts _ hm) hk.1 hk.2
end
