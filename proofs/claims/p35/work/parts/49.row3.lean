section
variable {S : gSt} {f : Nat → Int32}
theorem upd_ne {g : Nat → Int32} {i j : Nat} {x : Int32} (h : j ≠ i) : upd g i x j = g j := if_neg h
theorem upd_eq {g : Nat → Int32} {i j : Nat} {x : Int32} (h : j = i) : upd g i x j = x := if_pos h
end
