theorem gCmp_lt {x y : Int64} : lg_cmp x y < 0 ↔ x < y := by
  unfold lg_cmp
  split
  · rename_i h
    have h1 : y < x := h
    rw [Int64.lt_iff_toInt_lt] at h1
    rw [Int64.lt_iff_toInt_lt]
    exact ⟨fun c => absurd c (by decide), fun c => by omega⟩
  · split
    · rename_i h
      rw [h, Int64.lt_iff_toInt_lt]
      exact ⟨fun c => absurd c (by decide), fun c => by omega⟩
    · rename_i h1 h2
      have h3 : ¬ y < x := h1
      have h4 : x.toInt ≠ y.toInt := fun e => h2 (Int64.toInt_inj.mp e)
      rw [Int64.lt_iff_toInt_lt] at h3
      rw [Int64.lt_iff_toInt_lt]
      exact ⟨fun _ => by omega, fun _ => by decide⟩
theorem gCmp_gt {x y : Int64} : 0 < lg_cmp x y ↔ y < x := by
  unfold lg_cmp
  split
  · rename_i h
    exact ⟨fun _ => h, fun _ => by decide⟩
  · rename_i h
    have h3 : ¬ y < x := h
    split
    · exact ⟨fun c => absurd c (by decide), fun c => absurd c h3⟩
    · exact ⟨fun c => absurd c (by decide), fun c => absurd c h3⟩
/-- the lowest place below b whose bit is not there; else what was found -/
def gFd : Nat → Int32 → Int32 → Int32
  | 0, fd, _ => fd
  | b + 1, fd, x => gFd b (if gHb x (nI b) = true then fd else nI b) x
def gFb (S : gSt) (d h : Nat) : Int32 := gFd (sS S 0) (-1) (gVih (sB S) 2 d h (sB S).length)
def gWhyR (S : gSt) (p v d h : Nat) : Nat :=
  if gHb (sI S 1 p) (nI v) = true then (if nI d < sI S 2 p then 2 else if nI d < sI S 7 v then 3 else if (if d / 7 = sN S 0 / 7 then sI S 4 p else 0) + nI (gCW (sB S) p (d / 7)) ≤ sI S 0 p then
    (if gBz S p v d h (sB S).length = true then 5 else if gMa S p d h (sB S).length = true then 6 else if gFb S d h = -1 then 7 else if (sB S).length = 24 then 8 else 0) else 4) else 1
def gTen : Nat → Int64
  | 0 => 1
  | n + 1 => gTen n * 10
