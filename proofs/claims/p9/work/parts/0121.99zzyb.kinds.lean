section
-- the kinds: one table
section J50
variable {dC : Nat → ClassId} {dI : Nat → Nat → Nat} {ca : Nat → ClassId}
end J50
theorem jBh0 (dC : Nat → ClassId) (dI : Nat → Nat → Nat) (ca : Nat → ClassId) : ∀ n G a H, jBB dC dI ca 0 n G a H ↔ jOb (dC, dI) 0 4 (Fz0 n G) a H := fun _ _ _ _ => Iff.rfl
theorem jBh1 (dC : Nat → ClassId) (dI : Nat → Nat → Nat) (ca : Nat → ClassId) : ∀ n G a H, jBB dC dI ca 1 n G a H ↔ jOb (dC, dI) 1 3 (F1 n G) a H := fun _ _ _ _ => Iff.rfl
theorem jBh2 (dC : Nat → ClassId) (dI : Nat → Nat → Nat) (ca : Nat → ClassId) : ∀ n G a H, jBB dC dI ca 2 n G a H ↔ jOb (dC, dI) 2 2 (F2 n G) a H := fun _ _ _ _ => Iff.rfl
theorem jBh3 (dC : Nat → ClassId) (dI : Nat → Nat → Nat) (ca : Nat → ClassId) : ∀ n G a H, jBB dC dI ca 3 n G a H ↔ jOb (dC, dI) 3 17 (F3 n G) a H := fun _ _ _ _ => Iff.rfl
theorem jBh4 (dC : Nat → ClassId) (dI : Nat → Nat → Nat) (ca : Nat → ClassId) : ∀ n G a H, jBB dC dI ca 4 n G a H ↔ jOb (dC, dI) 4 12 (F4 n G) a H := fun _ _ _ _ => Iff.rfl
theorem jBh5 (dC : Nat → ClassId) (dI : Nat → Nat → Nat) (ca : Nat → ClassId) : ∀ n G a H, jBB dC dI ca 5 n G a H ↔ jOb (dC, dI) 5 4 (F5 n G) a H := fun _ _ _ _ => Iff.rfl
theorem jBh6 (dC : Nat → ClassId) (dI : Nat → Nat → Nat) (ca : Nat → ClassId) : ∀ n G a H, jBB dC dI ca 6 n G a H ↔ jOb (dC, dI) 6 12 (F6 n G) a H := fun _ _ _ _ => Iff.rfl
theorem jBh7 (dC : Nat → ClassId) (dI : Nat → Nat → Nat) (ca : Nat → ClassId) : ∀ n G a H, jBB dC dI ca 7 n G a H ↔ jOb (dC, dI) 7 11 (F7 n G) a H := fun _ _ _ _ => Iff.rfl
theorem jBh8 (dC : Nat → ClassId) (dI : Nat → Nat → Nat) (ca : Nat → ClassId) : ∀ n G a H, jBB dC dI ca 8 n G a H ↔ jOb (dC, dI) 8 4 (F8 n G) a H := fun _ _ _ _ => Iff.rfl
theorem jBh9 (dC : Nat → ClassId) (dI : Nat → Nat → Nat) (ca : Nat → ClassId) : ∀ n G a H, jBB dC dI ca 9 n G a H ↔ jOb (dC, dI) 9 5 (F9b n G) a H := fun _ _ _ _ => Iff.rfl
theorem jBh10 (dC : Nat → ClassId) (dI : Nat → Nat → Nat) (ca : Nat → ClassId) : ∀ n G a H, jBB dC dI ca 10 n G a H ↔ jOb (dC, dI) 10 5 (F10 n G) a H := fun _ _ _ _ => Iff.rfl
theorem jBh11 (dC : Nat → ClassId) (dI : Nat → Nat → Nat) (ca : Nat → ClassId) : ∀ n G a H, jBB dC dI ca 11 n G a H ↔ jOb (dC, dI) 11 9 (F11 n G) a H := fun _ _ _ _ => Iff.rfl
theorem jBh12 (dC : Nat → ClassId) (dI : Nat → Nat → Nat) (ca : Nat → ClassId) : ∀ n G a H, jBB dC dI ca 12 n G a H ↔ jOb (dC, dI) 12 11 (F12b n G) a H := fun _ _ _ _ => Iff.rfl
theorem jBh13 (dC : Nat → ClassId) (dI : Nat → Nat → Nat) (ca : Nat → ClassId) : ∀ n G a H, jBB dC dI ca 13 n G a H ↔ jOb (dC, dI) 13 19 (F13 n G) a H := fun _ _ _ _ => Iff.rfl
theorem jBh14 (dC : Nat → ClassId) (dI : Nat → Nat → Nat) (ca : Nat → ClassId) : ∀ n G a H, jBB dC dI ca 14 n G a H ↔ jOb (dC, dI) 14 11 (F14 n G) a H := fun _ _ _ _ => Iff.rfl
theorem jBh15 (dC : Nat → ClassId) (dI : Nat → Nat → Nat) (ca : Nat → ClassId) : ∀ n G a H, jBB dC dI ca 15 n G a H ↔ jOb (dC, dI) 15 50 (F15 n G) a H := fun _ _ _ _ => Iff.rfl
theorem jBh16 (dC : Nat → ClassId) (dI : Nat → Nat → Nat) (ca : Nat → ClassId) : ∀ n G a H, jBB dC dI ca 16 n G a H ↔ jOb (dC, dI) 16 74 (F16 n G) a H := fun _ _ _ _ => Iff.rfl
theorem jBh100 (dC : Nat → ClassId) (dI : Nat → Nat → Nat) (ca : Nat → ClassId) : ∀ n G a H, jBB dC dI ca 100 n G a H ↔ jAr (dC, dI) (ca 0) (fun j z => True) n a H := fun _ _ _ _ => Iff.rfl
theorem jBh101 (dC : Nat → ClassId) (dI : Nat → Nat → Nat) (ca : Nat → ClassId) : ∀ n G a H, jBB dC dI ca 101 n G a H ↔ jAr (dC, dI) (ca 1) (fun j z => True) n a H := fun _ _ _ _ => Iff.rfl
theorem jBh102 (dC : Nat → ClassId) (dI : Nat → Nat → Nat) (ca : Nat → ClassId) : ∀ n G a H, jBB dC dI ca 102 n G a H ↔ jAl (dC, dI) (ca 2) n a H := fun _ _ _ _ => Iff.rfl
theorem jBh103 (dC : Nat → ClassId) (dI : Nat → Nat → Nat) (ca : Nat → ClassId) : ∀ n G a H, jBB dC dI ca 103 n G a H ↔ jAr (dC, dI) (ca 3) (fun j z => (z = 0 ∨ z = 1)) n a H := fun _ _ _ _ => Iff.rfl
theorem jBh110 (dC : Nat → ClassId) (dI : Nat → Nat → Nat) (ca : Nat → ClassId) : ∀ n G a H, jBB dC dI ca 110 n G a H ↔ jAr (dC, dI) (ca 1) (fun j z => 0 ≤ z.toInt ∧ z.toInt ≤ 255) n a H := fun _ _ _ _ => Iff.rfl
theorem jBh111 (dC : Nat → ClassId) (dI : Nat → Nat → Nat) (ca : Nat → ClassId) : ∀ n G a H, jBB dC dI ca 111 n G a H ↔ jAr (dC, dI) (ca 1) (fun j z => 0 ≤ z.toInt ∧ z.toInt ≤ 255) n a H := fun _ _ _ _ => Iff.rfl
theorem jBh112 (dC : Nat → ClassId) (dI : Nat → Nat → Nat) (ca : Nat → ClassId) : ∀ n G a H, jBB dC dI ca 112 n G a H ↔ jAr (dC, dI) (ca 1) (fun j z => True) n a H := fun _ _ _ _ => Iff.rfl
theorem jBh117 (dC : Nat → ClassId) (dI : Nat → Nat → Nat) (ca : Nat → ClassId) : ∀ n G a H, jBB dC dI ca 117 n G a H ↔ jAr (dC, dI) (ca 1) (fun j z => True) n a H := fun _ _ _ _ => Iff.rfl
theorem jBh118 (dC : Nat → ClassId) (dI : Nat → Nat → Nat) (ca : Nat → ClassId) : ∀ n G a H, jBB dC dI ca 118 n G a H ↔ jAr (dC, dI) (ca 1) (fun j z => -1 ≤ z.toInt ∧ z.toInt ≤ 3099) n a H := fun _ _ _ _ => Iff.rfl
theorem jBh119 (dC : Nat → ClassId) (dI : Nat → Nat → Nat) (ca : Nat → ClassId) : ∀ n G a H, jBB dC dI ca 119 n G a H ↔ jAr (dC, dI) (ca 1) (fun j z => z.toInt = -1 ∨ z.toInt = 0 ∨ ((j : Nat) < z.toInt ∧ z.toInt ≤ 3099)) n a H := fun _ _ _ _ => Iff.rfl
theorem jBh120 (dC : Nat → ClassId) (dI : Nat → Nat → Nat) (ca : Nat → ClassId) : ∀ n G a H, jBB dC dI ca 120 n G a H ↔ jAr (dC, dI) (ca 1) (fun j z => 0 ≤ z.toInt ∧ z.toInt ≤ 3300) n a H := fun _ _ _ _ => Iff.rfl
theorem jBh121 (dC : Nat → ClassId) (dI : Nat → Nat → Nat) (ca : Nat → ClassId) : ∀ n G a H, jBB dC dI ca 121 n G a H ↔ jAr (dC, dI) (ca 1) (fun j z => 0 ≤ z.toInt ∧ z.toInt ≤ 3300) n a H := fun _ _ _ _ => Iff.rfl
theorem jBh122 (dC : Nat → ClassId) (dI : Nat → Nat → Nat) (ca : Nat → ClassId) : ∀ n G a H, jBB dC dI ca 122 n G a H ↔ jAr (dC, dI) (ca 1) (fun j z => 0 ≤ z.toInt ∧ z.toInt ≤ 3100) n a H := fun _ _ _ _ => Iff.rfl
theorem jBh123 (dC : Nat → ClassId) (dI : Nat → Nat → Nat) (ca : Nat → ClassId) : ∀ n G a H, jBB dC dI ca 123 n G a H ↔ jAr (dC, dI) (ca 1) (fun j z => 0 ≤ z.toInt ∧ z.toInt ≤ 3100) n a H := fun _ _ _ _ => Iff.rfl
theorem jBh124 (dC : Nat → ClassId) (dI : Nat → Nat → Nat) (ca : Nat → ClassId) : ∀ n G a H, jBB dC dI ca 124 n G a H ↔ jAr (dC, dI) (ca 3) (fun j z => (z = 0 ∨ z = 1)) n a H := fun _ _ _ _ => Iff.rfl
theorem jBh125 (dC : Nat → ClassId) (dI : Nat → Nat → Nat) (ca : Nat → ClassId) : ∀ n G a H, jBB dC dI ca 125 n G a H ↔ jAr (dC, dI) (ca 1) (fun j z => True) n a H := fun _ _ _ _ => Iff.rfl
theorem jBh127 (dC : Nat → ClassId) (dI : Nat → Nat → Nat) (ca : Nat → ClassId) : ∀ n G a H, jBB dC dI ca 127 n G a H ↔ jAr (dC, dI) (ca 1) (fun j z => True) n a H := fun _ _ _ _ => Iff.rfl
theorem jBh132 (dC : Nat → ClassId) (dI : Nat → Nat → Nat) (ca : Nat → ClassId) : ∀ n G a H, jBB dC dI ca 132 n G a H ↔ jAr (dC, dI) (ca 1) (fun j z => 0 ≤ z.toInt ∧ z.toInt ≤ 10) n a H := fun _ _ _ _ => Iff.rfl
theorem jBh133 (dC : Nat → ClassId) (dI : Nat → Nat → Nat) (ca : Nat → ClassId) : ∀ n G a H, jBB dC dI ca 133 n G a H ↔ jAr (dC, dI) (ca 1) (fun j z => 0 ≤ z.toInt ∧ z.toInt ≤ 8192) n a H := fun _ _ _ _ => Iff.rfl
theorem jBh140 (dC : Nat → ClassId) (dI : Nat → Nat → Nat) (ca : Nat → ClassId) : ∀ n G a H, jBB dC dI ca 140 n G a H ↔ jAr (dC, dI) (ca 1) (fun j z => True) n a H := fun _ _ _ _ => Iff.rfl
theorem jBh141 (dC : Nat → ClassId) (dI : Nat → Nat → Nat) (ca : Nat → ClassId) : ∀ n G a H, jBB dC dI ca 141 n G a H ↔ jAr (dC, dI) (ca 1) (fun j z => True) n a H := fun _ _ _ _ => Iff.rfl
theorem jBh142 (dC : Nat → ClassId) (dI : Nat → Nat → Nat) (ca : Nat → ClassId) : ∀ n G a H, jBB dC dI ca 142 n G a H ↔ jAr (dC, dI) (ca 1) (fun j z => True) n a H := fun _ _ _ _ => Iff.rfl
theorem jBh143 (dC : Nat → ClassId) (dI : Nat → Nat → Nat) (ca : Nat → ClassId) : ∀ n G a H, jBB dC dI ca 143 n G a H ↔ jAr (dC, dI) (ca 1) (fun j z => True) n a H := fun _ _ _ _ => Iff.rfl
theorem jBh144 (dC : Nat → ClassId) (dI : Nat → Nat → Nat) (ca : Nat → ClassId) : ∀ n G a H, jBB dC dI ca 144 n G a H ↔ jAr (dC, dI) (ca 1) (fun j z => 0 ≤ z.toInt ∧ z.toInt ≤ 3000) n a H := fun _ _ _ _ => Iff.rfl
theorem jBh145 (dC : Nat → ClassId) (dI : Nat → Nat → Nat) (ca : Nat → ClassId) : ∀ n G a H, jBB dC dI ca 145 n G a H ↔ jAr (dC, dI) (ca 1) (fun j z => True) n a H := fun _ _ _ _ => Iff.rfl
theorem jBh146 (dC : Nat → ClassId) (dI : Nat → Nat → Nat) (ca : Nat → ClassId) : ∀ n G a H, jBB dC dI ca 146 n G a H ↔ jAr (dC, dI) (ca 1) (fun j z => True) n a H := fun _ _ _ _ => Iff.rfl
theorem jBh150 (dC : Nat → ClassId) (dI : Nat → Nat → Nat) (ca : Nat → ClassId) : ∀ n G a H, jBB dC dI ca 150 n G a H ↔ jAr (dC, dI) (ca 1) (fun j z => True) n a H := fun _ _ _ _ => Iff.rfl
theorem jBh151 (dC : Nat → ClassId) (dI : Nat → Nat → Nat) (ca : Nat → ClassId) : ∀ n G a H, jBB dC dI ca 151 n G a H ↔ jAr (dC, dI) (ca 1) (fun j z => True) n a H := fun _ _ _ _ => Iff.rfl
theorem jBh152 (dC : Nat → ClassId) (dI : Nat → Nat → Nat) (ca : Nat → ClassId) : ∀ n G a H, jBB dC dI ca 152 n G a H ↔ jAr (dC, dI) (ca 1) (fun j z => True) n a H := fun _ _ _ _ => Iff.rfl
theorem jBh153 (dC : Nat → ClassId) (dI : Nat → Nat → Nat) (ca : Nat → ClassId) : ∀ n G a H, jBB dC dI ca 153 n G a H ↔ jAr (dC, dI) (ca 1) (fun j z => True) n a H := fun _ _ _ _ => Iff.rfl
theorem jBh154 (dC : Nat → ClassId) (dI : Nat → Nat → Nat) (ca : Nat → ClassId) : ∀ n G a H, jBB dC dI ca 154 n G a H ↔ jAr (dC, dI) (ca 1) (fun j z => True) n a H := fun _ _ _ _ => Iff.rfl
theorem jBh155 (dC : Nat → ClassId) (dI : Nat → Nat → Nat) (ca : Nat → ClassId) : ∀ n G a H, jBB dC dI ca 155 n G a H ↔ jAr (dC, dI) (ca 1) (fun j z => 0 ≤ z.toInt ∧ z.toInt ≤ 11990) n a H := fun _ _ _ _ => Iff.rfl
theorem jBh156 (dC : Nat → ClassId) (dI : Nat → Nat → Nat) (ca : Nat → ClassId) : ∀ n G a H, jBB dC dI ca 156 n G a H ↔ jAr (dC, dI) (ca 1) (fun j z => 0 ≤ z.toInt ∧ z.toInt ≤ 10) n a H := fun _ _ _ _ => Iff.rfl
theorem jBh157 (dC : Nat → ClassId) (dI : Nat → Nat → Nat) (ca : Nat → ClassId) : ∀ n G a H, jBB dC dI ca 157 n G a H ↔ jAr (dC, dI) (ca 1) (fun j z => 0 ≤ z.toInt ∧ z.toInt ≤ 1599) n a H := fun _ _ _ _ => Iff.rfl
theorem jBh158 (dC : Nat → ClassId) (dI : Nat → Nat → Nat) (ca : Nat → ClassId) : ∀ n G a H, jBB dC dI ca 158 n G a H ↔ jAr (dC, dI) (ca 1) (fun j z => 0 ≤ z.toInt ∧ z.toInt ≤ 6) n a H := fun _ _ _ _ => Iff.rfl
theorem jBh159 (dC : Nat → ClassId) (dI : Nat → Nat → Nat) (ca : Nat → ClassId) : ∀ n G a H, jBB dC dI ca 159 n G a H ↔ jAr (dC, dI) (ca 1) (fun j z => 0 ≤ z.toInt ∧ z.toInt ≤ 8) n a H := fun _ _ _ _ => Iff.rfl
theorem jBh160 (dC : Nat → ClassId) (dI : Nat → Nat → Nat) (ca : Nat → ClassId) : ∀ n G a H, jBB dC dI ca 160 n G a H ↔ jAr (dC, dI) (ca 1) (fun j z => 0 ≤ z.toInt ∧ z.toInt ≤ 119999) n a H := fun _ _ _ _ => Iff.rfl
theorem jBh161 (dC : Nat → ClassId) (dI : Nat → Nat → Nat) (ca : Nat → ClassId) : ∀ n G a H, jBB dC dI ca 161 n G a H ↔ jAr (dC, dI) (ca 1) (fun j z => 0 ≤ z.toInt ∧ z.toInt ≤ 119999) n a H := fun _ _ _ _ => Iff.rfl
theorem jBh162 (dC : Nat → ClassId) (dI : Nat → Nat → Nat) (ca : Nat → ClassId) : ∀ n G a H, jBB dC dI ca 162 n G a H ↔ jAr (dC, dI) (ca 1) (fun j z => 0 ≤ z.toInt ∧ z.toInt ≤ 119999) n a H := fun _ _ _ _ => Iff.rfl
theorem jBh163 (dC : Nat → ClassId) (dI : Nat → Nat → Nat) (ca : Nat → ClassId) : ∀ n G a H, jBB dC dI ca 163 n G a H ↔ jAr (dC, dI) (ca 1) (fun j z => 0 ≤ z.toInt ∧ z.toInt ≤ 1599) n a H := fun _ _ _ _ => Iff.rfl
theorem jBh164 (dC : Nat → ClassId) (dI : Nat → Nat → Nat) (ca : Nat → ClassId) : ∀ n G a H, jBB dC dI ca 164 n G a H ↔ jAr (dC, dI) (ca 1) (fun j z => 0 ≤ z.toInt ∧ z.toInt ≤ 100000) n a H := fun _ _ _ _ => Iff.rfl
theorem jBh165 (dC : Nat → ClassId) (dI : Nat → Nat → Nat) (ca : Nat → ClassId) : ∀ n G a H, jBB dC dI ca 165 n G a H ↔ jAr (dC, dI) (ca 1) (fun j z => 0 ≤ z.toInt ∧ z.toInt ≤ 3) n a H := fun _ _ _ _ => Iff.rfl
theorem jBh166 (dC : Nat → ClassId) (dI : Nat → Nat → Nat) (ca : Nat → ClassId) : ∀ n G a H, jBB dC dI ca 166 n G a H ↔ jAr (dC, dI) (ca 1) (fun j z => True) n a H := fun _ _ _ _ => Iff.rfl
theorem jBh167 (dC : Nat → ClassId) (dI : Nat → Nat → Nat) (ca : Nat → ClassId) : ∀ n G a H, jBB dC dI ca 167 n G a H ↔ jAr (dC, dI) (ca 1) (fun j z => True) n a H := fun _ _ _ _ => Iff.rfl
theorem jBh168 (dC : Nat → ClassId) (dI : Nat → Nat → Nat) (ca : Nat → ClassId) : ∀ n G a H, jBB dC dI ca 168 n G a H ↔ jAr (dC, dI) (ca 1) (fun j z => 0 ≤ z.toInt ∧ z.toInt ≤ 119999) n a H := fun _ _ _ _ => Iff.rfl
theorem jBh169 (dC : Nat → ClassId) (dI : Nat → Nat → Nat) (ca : Nat → ClassId) : ∀ n G a H, jBB dC dI ca 169 n G a H ↔ jAr (dC, dI) (ca 1) (fun j z => True) n a H := fun _ _ _ _ => Iff.rfl
theorem jBh171 (dC : Nat → ClassId) (dI : Nat → Nat → Nat) (ca : Nat → ClassId) : ∀ n G a H, jBB dC dI ca 171 n G a H ↔ jAr (dC, dI) (ca 1) (fun j z => 0 ≤ z.toInt ∧ z.toInt ≤ 1500) n a H := fun _ _ _ _ => Iff.rfl
theorem jBh172 (dC : Nat → ClassId) (dI : Nat → Nat → Nat) (ca : Nat → ClassId) : ∀ n G a H, jBB dC dI ca 172 n G a H ↔ jAr (dC, dI) (ca 1) (fun j z => 0 ≤ z.toInt ∧ z.toInt ≤ 1500) n a H := fun _ _ _ _ => Iff.rfl
theorem jBh173 (dC : Nat → ClassId) (dI : Nat → Nat → Nat) (ca : Nat → ClassId) : ∀ n G a H, jBB dC dI ca 173 n G a H ↔ jAr (dC, dI) (ca 1) (fun j z => True) n a H := fun _ _ _ _ => Iff.rfl
theorem jBh174 (dC : Nat → ClassId) (dI : Nat → Nat → Nat) (ca : Nat → ClassId) : ∀ n G a H, jBB dC dI ca 174 n G a H ↔ jAr (dC, dI) (ca 1) (fun j z => True) n a H := fun _ _ _ _ => Iff.rfl
theorem jBh190 (dC : Nat → ClassId) (dI : Nat → Nat → Nat) (ca : Nat → ClassId) : ∀ n G a H, jBB dC dI ca 190 n G a H ↔ jAr (dC, dI) (ca 1) (fun j z => 0 ≤ z.toInt ∧ z.toInt ≤ 1500) n a H := fun _ _ _ _ => Iff.rfl
theorem jBh191 (dC : Nat → ClassId) (dI : Nat → Nat → Nat) (ca : Nat → ClassId) : ∀ n G a H, jBB dC dI ca 191 n G a H ↔ jAr (dC, dI) (ca 1) (fun j z => 0 ≤ z.toInt ∧ z.toInt ≤ 1500) n a H := fun _ _ _ _ => Iff.rfl
theorem jBh192 (dC : Nat → ClassId) (dI : Nat → Nat → Nat) (ca : Nat → ClassId) : ∀ n G a H, jBB dC dI ca 192 n G a H ↔ jAr (dC, dI) (ca 1) (fun j z => 0 ≤ z.toInt ∧ z.toInt ≤ 2) n a H := fun _ _ _ _ => Iff.rfl
theorem jBh193 (dC : Nat → ClassId) (dI : Nat → Nat → Nat) (ca : Nat → ClassId) : ∀ n G a H, jBB dC dI ca 193 n G a H ↔ jAr (dC, dI) (ca 1) (fun j z => True) n a H := fun _ _ _ _ => Iff.rfl
theorem jBh194 (dC : Nat → ClassId) (dI : Nat → Nat → Nat) (ca : Nat → ClassId) : ∀ n G a H, jBB dC dI ca 194 n G a H ↔ jAr (dC, dI) (ca 1) (fun j z => True) n a H := fun _ _ _ _ => Iff.rfl
theorem jBh195 (dC : Nat → ClassId) (dI : Nat → Nat → Nat) (ca : Nat → ClassId) : ∀ n G a H, jBB dC dI ca 195 n G a H ↔ jAr (dC, dI) (ca 1) (fun j z => True) n a H := fun _ _ _ _ => Iff.rfl
theorem jBh196 (dC : Nat → ClassId) (dI : Nat → Nat → Nat) (ca : Nat → ClassId) : ∀ n G a H, jBB dC dI ca 196 n G a H ↔ jAr (dC, dI) (ca 0) (fun j z => jBf j z) n a H := fun _ _ _ _ => Iff.rfl
theorem jBh197 (dC : Nat → ClassId) (dI : Nat → Nat → Nat) (ca : Nat → ClassId) : ∀ n G a H, jBB dC dI ca 197 n G a H ↔ jAr (dC, dI) (ca 0) (fun j z => jBf j z) n a H := fun _ _ _ _ => Iff.rfl
theorem jBh198 (dC : Nat → ClassId) (dI : Nat → Nat → Nat) (ca : Nat → ClassId) : ∀ n G a H, jBB dC dI ca 198 n G a H ↔ jAr (dC, dI) (ca 0) (fun j z => jBf j z) n a H := fun _ _ _ _ => Iff.rfl
theorem jBh201 (dC : Nat → ClassId) (dI : Nat → Nat → Nat) (ca : Nat → ClassId) : ∀ n G a H, jBB dC dI ca 201 n G a H ↔ jAq (dC, dI) (ca 4) (jQs 14 0) n G a H := fun _ _ _ _ => Iff.rfl
theorem jBh202 (dC : Nat → ClassId) (dI : Nat → Nat → Nat) (ca : Nat → ClassId) : ∀ n G a H, jBB dC dI ca 202 n G a H ↔ jAq (dC, dI) (ca 4) (jQn 14 0) n G a H := fun _ _ _ _ => Iff.rfl
theorem jBh203 (dC : Nat → ClassId) (dI : Nat → Nat → Nat) (ca : Nat → ClassId) : ∀ n G a H, jBB dC dI ca 203 n G a H ↔ jAr (dC, dI) (ca 1) (fun j z => -3300 ≤ z.toInt ∧ z.toInt ≤ 20) n a H := fun _ _ _ _ => Iff.rfl
theorem jBh204 (dC : Nat → ClassId) (dI : Nat → Nat → Nat) (ca : Nat → ClassId) : ∀ n G a H, jBB dC dI ca 204 n G a H ↔ jAr (dC, dI) (ca 1) (fun j z => -3100 ≤ z.toInt ∧ z.toInt ≤ 3100) n a H := fun _ _ _ _ => Iff.rfl
theorem jBh205 (dC : Nat → ClassId) (dI : Nat → Nat → Nat) (ca : Nat → ClassId) : ∀ n G a H, jBB dC dI ca 205 n G a H ↔ jAr (dC, dI) (ca 1) (fun j z => 0 ≤ z.toInt ∧ z.toInt ≤ 1600) n a H := fun _ _ _ _ => Iff.rfl
theorem jBh206 (dC : Nat → ClassId) (dI : Nat → Nat → Nat) (ca : Nat → ClassId) : ∀ n G a H, jBB dC dI ca 206 n G a H ↔ jAr (dC, dI) (ca 1) (fun j z => 0 ≤ z.toInt ∧ z.toInt ≤ 40) n a H := fun _ _ _ _ => Iff.rfl
theorem jBh207 (dC : Nat → ClassId) (dI : Nat → Nat → Nat) (ca : Nat → ClassId) : ∀ n G a H, jBB dC dI ca 207 n G a H ↔ jAr (dC, dI) (ca 1) (fun j z => 0 ≤ z.toInt ∧ z.toInt ≤ 39) n a H := fun _ _ _ _ => Iff.rfl
theorem jBh208 (dC : Nat → ClassId) (dI : Nat → Nat → Nat) (ca : Nat → ClassId) : ∀ n G a H, jBB dC dI ca 208 n G a H ↔ jAq (dC, dI) (ca 4) (jQn 14 0) n G a H := fun _ _ _ _ => Iff.rfl
theorem jBh210 (dC : Nat → ClassId) (dI : Nat → Nat → Nat) (ca : Nat → ClassId) : ∀ n G a H, jBB dC dI ca 210 n G a H ↔ jAq (dC, dI) (ca 6) (jQn 11 0) n G a H := fun _ _ _ _ => Iff.rfl
theorem jBh211 (dC : Nat → ClassId) (dI : Nat → Nat → Nat) (ca : Nat → ClassId) : ∀ n G a H, jBB dC dI ca 211 n G a H ↔ jAq (dC, dI) (ca 7) (jQh) n G a H := fun _ _ _ _ => Iff.rfl
theorem jBh212 (dC : Nat → ClassId) (dI : Nat → Nat → Nat) (ca : Nat → ClassId) : ∀ n G a H, jBB dC dI ca 212 n G a H ↔ jAq (dC, dI) (ca 5) (jQn 3 0) n G a H := fun _ _ _ _ => Iff.rfl
theorem jBh214 (dC : Nat → ClassId) (dI : Nat → Nat → Nat) (ca : Nat → ClassId) : ∀ n G a H, jBB dC dI ca 214 n G a H ↔ jAq (dC, dI) (ca 7) (jQg) n G a H := fun _ _ _ _ => Iff.rfl
theorem jBh221 (dC : Nat → ClassId) (dI : Nat → Nat → Nat) (ca : Nat → ClassId) : ∀ n G a H, jBB dC dI ca 221 n G a H ↔ jAq (dC, dI) (ca 9) (jQn 3 0) n G a H := fun _ _ _ _ => Iff.rfl
theorem jBh222 (dC : Nat → ClassId) (dI : Nat → Nat → Nat) (ca : Nat → ClassId) : ∀ n G a H, jBB dC dI ca 222 n G a H ↔ jAq (dC, dI) (ca 9) (jQn 10 0) n G a H := fun _ _ _ _ => Iff.rfl
theorem jBh223 (dC : Nat → ClassId) (dI : Nat → Nat → Nat) (ca : Nat → ClassId) : ∀ n G a H, jBB dC dI ca 223 n G a H ↔ jAq (dC, dI) (ca 9) (jQn 11 0) n G a H := fun _ _ _ _ => Iff.rfl
theorem jBh280 (dC : Nat → ClassId) (dI : Nat → Nat → Nat) (ca : Nat → ClassId) : ∀ n G a H, jBB dC dI ca 280 n G a H ↔ jAr (dC, dI) (ca 1) (fun j z => -1 ≤ z.toInt) n a H := fun _ _ _ _ => Iff.rfl
theorem jBh286 (dC : Nat → ClassId) (dI : Nat → Nat → Nat) (ca : Nat → ClassId) : ∀ n G a H, jBB dC dI ca 286 n G a H ↔ jAr (dC, dI) (ca 1) (fun j z => (0 ≤ z.toInt ∨ z.toInt = -3)) n a H := fun _ _ _ _ => Iff.rfl
theorem jBh287 (dC : Nat → ClassId) (dI : Nat → Nat → Nat) (ca : Nat → ClassId) : ∀ n G a H, jBB dC dI ca 287 n G a H ↔ jAr (dC, dI) (ca 1) (fun j z => 0 ≤ z.toInt ∧ z.toInt ≤ 65535) n a H := fun _ _ _ _ => Iff.rfl
theorem jBh288 (dC : Nat → ClassId) (dI : Nat → Nat → Nat) (ca : Nat → ClassId) : ∀ n G a H, jBB dC dI ca 288 n G a H ↔ jAr (dC, dI) (ca 1) (fun j z => 0 ≤ z.toInt ∧ z.toInt ≤ 160) n a H := fun _ _ _ _ => Iff.rfl
theorem jBh290 (dC : Nat → ClassId) (dI : Nat → Nat → Nat) (ca : Nat → ClassId) : ∀ n G a H, jBB dC dI ca 290 n G a H ↔ jAr (dC, dI) (ca 1) (fun j z => 0 ≤ z.toInt ∧ z.toInt ≤ 3000) n a H := fun _ _ _ _ => Iff.rfl
theorem jBh291 (dC : Nat → ClassId) (dI : Nat → Nat → Nat) (ca : Nat → ClassId) : ∀ n G a H, jBB dC dI ca 291 n G a H ↔ jAr (dC, dI) (ca 1) (fun j z => 0 ≤ z.toInt ∧ z.toInt ≤ 3000) n a H := fun _ _ _ _ => Iff.rfl
theorem jBh292 (dC : Nat → ClassId) (dI : Nat → Nat → Nat) (ca : Nat → ClassId) : ∀ n G a H, jBB dC dI ca 292 n G a H ↔ jAr (dC, dI) (ca 1) (fun j z => 0 ≤ z.toInt ∧ z.toInt ≤ 8191) n a H := fun _ _ _ _ => Iff.rfl
theorem jBh293 (dC : Nat → ClassId) (dI : Nat → Nat → Nat) (ca : Nat → ClassId) : ∀ n G a H, jBB dC dI ca 293 n G a H ↔ jAr (dC, dI) (ca 1) (fun j z => -1 ≤ z.toInt ∧ z.toInt ≤ 8191) n a H := fun _ _ _ _ => Iff.rfl
theorem jBh313 (dC : Nat → ClassId) (dI : Nat → Nat → Nat) (ca : Nat → ClassId) : ∀ n G a H, jBB dC dI ca 313 n G a H ↔ jAq (dC, dI) (ca 8) (jQk 280 80) n G a H := fun _ _ _ _ => Iff.rfl
theorem jBh315 (dC : Nat → ClassId) (dI : Nat → Nat → Nat) (ca : Nat → ClassId) : ∀ n G a H, jBB dC dI ca 315 n G a H ↔ jAqZ (dC, dI) (ca 8) n a H := fun _ _ _ _ => Iff.rfl
end
