-- the kernel at the beginning
theorem jKi.zero {C : jK} {pn py pf pg pp pl : Int} {ff fg fh fp : Nat → Int32} (h1 : pn = 0) (h2 : py = 0) (h3 : pf = 0) (h4 : pg = 0) (h5 : pp = 0) : jKi C pn py pf pg pp pl ff fg fh fp := ⟨by omega, by omega, by omega, by omega, by omega, by omega, by omega, fun k q0 q1 => by omega, fun k q0 q1 => by omega, fun q => by omega⟩
