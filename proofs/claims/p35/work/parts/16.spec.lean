/-! ===== what both sides ask of a state ===== -/
def gI1 (S : gSt) : Prop := sN S 1 ≤ 8 ∧ (sB S).length ≤ 24 ∧ (sW S).length ≤ 10 ∧ (∀ j, j < (sW S).length → wq (sW S) j < 80 ∧ wq (sW S) j / 10 < sN S 1) ∧ (1 ≤ sS S 0 ∧ sS S 0 ≤ 4) ∧ (1 ≤ sS S 1 ∧ sS S 1 ≤ 9) ∧ sS S 2 < 100 ∧ sS S 3 < 100 ∧ sS S 4 < 100 ∧ sS S 5 < 100 ∧ ∀ k, k < (sB S).length → bk (sB S) k 3 < sN S 1 ∧ bk (sB S) k 4 < 10
theorem gHas_v {v : Nat} (h : v < 10) : (if (¬ nI v < 0 ∧ ¬ 10 ≤ nI v) then (1 : Int32) else 0) = 1 := gHas_in (n := 10) h (by omega)
theorem gHas_q {p v n : Nat} (h : p < n) (hn : n ≤ 1000000) (hv : v < 10) : (if ((¬ nI p < 0 ∧ ¬ nI n ≤ nI p) ∧ (¬ nI v < 0 ∧ ¬ 10 ≤ nI v)) then (1 : Int32) else 0) = 1 := by
  rw [if_pos]
  exact ⟨⟨nI_pos (by omega), nI_ge h (by omega)⟩, nI_pos (by omega), nI_ge (b := 10) hv (by omega)⟩
def gNA (S : gSt) (q : Nat) : Int32 := if q = 0 then nI (sN S 1) else if q = 1 then nI (sN S 0) else if q = 2 then nI (sB S).length else if q = 3 then nI (sW S).length else if q = 4 then sI S 8 0 else if q = 5 then sI S 8 1 else if q = 6 then sI S 8 2 else if q = 7 then sI S 8 3 else if q = 8 then sI S 8 4 else if q = 9 then nI (gCnt (fun j => decide (nI (sN S 0) < sI S 7 j)) 10) else nI (gCnt (fun j => decide (nI (sN S 0) < sI S 2 j)) 8)
/-- the bookings of a prisoner in a week -/
abbrev gCW (bs : List (Nat → Nat)) (p wk : Nat) : Nat := gCnt (fun k => bk bs k 3 == p && bk bs k 0 / 7 == wk) bs.length
def gNP (S : gSt) (p q : Nat) : Int32 := if q = 0 then sI S 0 p else if q = 1 then sI S 1 p else if q = 2 then sI S 2 p else if q = 3 then sI S 3 p else if q = 4 then nI (gCW (sB S) p (sN S 0 / 7)) + sI S 4 p else if q = 5 then nI (gCnt (fun k => bk (sB S) k 3 == p) (sB S).length) else if q = 6 then nI (gCnt (fun i => wq (sW S) i / 10 == p) (sW S).length) else sI S 5 p
def gPWL (S : gSt) (v : Nat) : Nat → Int32
  | 0 => 0
  | k + 1 => gWb (gPWL S v k) (nI k) (if gHb (sI S 1 k) (nI v) = true then 1 else 0)
def gNV (S : gSt) (v q : Nat) : Int32 := if q = 0 then sI S 6 v else if q = 1 then sI S 7 v else if q = 2 then (if gHb (sI S 9 0) (nI v) = true then 1 else 0) else if q = 3 then nI (gCnt (fun k => bk (sB S) k 4 == v) (sB S).length) else gPWL S v 8
/-- why not on a day; in an hour; why not -/
def gROD (S : gSt) (p v d : Nat) : Nat := if gHb (sI S 1 p) (nI v) = true then (if sI S 2 p ≤ nI d then (if sI S 7 v ≤ nI d then (if (if d / 7 = sN S 0 / 7 then sI S 4 p else 0) + nI (gCW (sB S) p (d / 7)) ≤ sI S 0 p then 0 else 4) else 3) else 2) else 1
theorem gROD_le (S : gSt) (p v d : Nat) : gROD S p v d ≤ 4 := by
  unfold gROD
  repeat' split
  all_goals omega
def gRIH (S : gSt) (p v d h : Nat) : Nat := if gHb (gVih (sB S) 3 d h (sB S).length) (nI p) = true then 5 else if gHb (gVih (sB S) 4 d h (sB S).length) (nI v) = true then 5 else if (gVih (sB S) 3 d h (sB S).length) &&& (sI S 5 p) = 0 then (if (gVih (sB S) 2 d h (sB S).length) &&& (((1 : Int32) <<< (nI (sS S 0) &&& 31)) - 1) = ((1 : Int32) <<< (nI (sS S 0) &&& 31)) - 1 then 7 else if 24 ≤ (sB S).length then 8 else 0) else 6
theorem gRIH_le (S : gSt) (p v d h : Nat) : gRIH S p v d h ≤ 8 := by
  unfold gRIH
  repeat' split
  all_goals omega
def gRA (S : gSt) (p v d h : Nat) : Nat := if gROD S p v d = 0 then gRIH S p v d h else gROD S p v d
