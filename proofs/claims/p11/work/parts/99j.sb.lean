-- a method of the class above, called on this
theorem jgX {h : Cond} {own C owner : String} {idx : Nat} {x y : MethodName} {c : ByteArray} {n : Nat} {r : Option FieldType} (h1 : Cond.methodLink own idx x ∈ jWl) (h2 : Cond.sameMethod x.cls owner x.name x.desc ∈ jWl) (h3 : Cond.selects C x y ∈ jWl) (h4 : Cond.instanceMethod y ∈ jWl) (h5 : Cond.initialized y.cls ∈ jWl) (hc : Cond.code y c n r ∈ jWl) : GoodIn (h :: jWl) (va_wsU own idx C owner x y (jw y c n r)) :=
  jgL (fun w hw => by
    rcases List.mem_cons.mp hw with e | hw
    · rw [e]; exact h1
    rcases List.mem_cons.mp hw with e | hw
    · rw [e]; exact h2
    rcases List.mem_cons.mp hw with e | hw
    · rw [e]; exact h3
    rcases List.mem_cons.mp hw with e | hw
    · rw [e]; exact h4
    rw [List.mem_singleton.mp hw]; exact h5) (jgW hc)
theorem jb_shl0 (x : Int32) : x <<< ((0 : Int32) &&& 31) = x := by
  have h := pk_shl x ((0 : Int32) &&& 31) 0 (by decide)
  have h2 : (x <<< ((0 : Int32) &&& 31)).toBitVec = x.toBitVec := BitVec.eq_of_toNat_eq (by
    rw [h]
    have h3 := x.toBitVec.isLt
    omega)
  exact Int32.toBitVec_inj.mp h2
