/-! ===== the reference's reader ===== -/
/-- a digit stands there -/
def gDgt (n : Nat) (sg : Nat → Int32) (a : Nat) : Prop := a < n ∧ ¬ sg a < 48 ∧ ¬ 57 < sg a
/-- what number answers and where it leaves reading, against the class's number -/
def gNumP (n : Nat) (sg : Nat → Int32) (a : Nat) (g : Bool) (k : Int32) (u : Nat × Bool) (r : Int32) : Prop :=
  (g = false → u = (a, false)) ∧ (g = true → (¬ gSg n sg a = 44 → u = (a, false)) ∧ (gSg n sg a = 44 → u.1 = (gRNum n sg (a + 1) k).1 ∧ ((gRNum n sg (a + 1) k).2 = -1 → u.2 = false) ∧ (¬ (gRNum n sg (a + 1) k).2 = -1 → (u.2 = true ∧ r = (gRNum n sg (a + 1) k).2) ∨ (u.2 = false ∧ gDgt n sg u.1))))
/-- where word leaves reading -/
def gWdP (n : Nat) (sg : Nat → Int32) (a : Nat) (l : List Int32) (u : Nat × Bool) : Prop := u = (a + gSame n sg a l, decide (gSame n sg a l = l.length))
