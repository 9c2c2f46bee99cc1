/-! ===== the reference's row ===== -/
/-- as gI1, but nothing is said of the wishes -/
def gI1r (S : gSt) : Prop := sN S 1 ≤ 8 ∧ (sB S).length ≤ 24 ∧ (sW S).length ≤ 10 ∧ True ∧ (1 ≤ sS S 0 ∧ sS S 0 ≤ 4) ∧ (1 ≤ sS S 1 ∧ sS S 1 ≤ 9) ∧ sS S 2 < 100 ∧ sS S 3 < 100 ∧ sS S 4 < 100 ∧ sS S 5 < 100 ∧ ∀ k, k < (sB S).length → bk (sB S) k 3 < sN S 1 ∧ bk (sB S) k 4 < 10
theorem gI1_r {S : gSt} (h : gI1 S) : gI1r S := ⟨h.1, h.2.1, h.2.2.1, trivial, h.2.2.2.2⟩
theorem nI_add1 (n : Nat) : nI (n + 1) = nI n + 1 := by
  show Int32.ofNat (n + 1) = Int32.ofNat n + 1
  rw [Int32.ofNat_add]
  rfl
/-- whether a prisoner or a visitor has a booking in an hour -/
def gBz (S : gSt) (p v d h : Nat) : Nat → Bool
  | 0 => false
  | k + 1 => gBz S p v d h k || (decide (bk (sB S) k 0 = d ∧ bk (sB S) k 1 = h) && (decide (bk (sB S) k 3 = p) || decide (bk (sB S) k 4 = v)))
/-- whether a prisoner meets one from whom he is kept apart -/
def gMa (S : gSt) (p d h : Nat) : Nat → Bool
  | 0 => false
  | k + 1 => gMa S p d h k || (decide (bk (sB S) k 0 = d ∧ bk (sB S) k 1 = h) && gHb (sI S 5 p) (nI (bk (sB S) k 3)))
