/-! ===== saved and brought back ===== -/
def gSav (A : gA) : gA := (A.1, aS A, A.2.2.1, fun j => if j = 1 then some (aS A) else aL A j)
def gFol (A : gA) : gA := (A.1, aS A, (0, aH A), fun j => if j = 1 then some (aS A) else aL A j)
theorem fSave_1 {A : gA} : fSave A 1 = (0, nI (sN (aS A) 0), gSav A) := by
  unfold fSave
  rw [if_pos (by decide), show (1 : Int32).toNatClampNeg = 1 by decide]
  rfl
theorem fRest_1 {A : gA} {T : gSt} (h : aL A 1 = some T) : fRest A 1 = (0, nI (sN T 0), (A.1, T, (0, aH A), aL A)) := by
  unfold fRest
  rw [if_pos (by decide), show (1 : Int32).toNatClampNeg = 1 by decide, h]
theorem fRest_s {A : gA} : fRest (gSav A) 1 = (0, nI (sN (aS A) 0), gFol A) := fRest_1 (A := gSav A) (T := aS A) rfl
theorem gAok_sav {b : Nat} {A : gA} (h : gAok b A) : gAok b (gSav A) := by
  have := gAok_save h 1
  rw [fSave_1] at this
  exact this
theorem gX5_sav {A : gA} (h : gX5 A) : gX5 (gSav A) := by
  have := gX5_save h 1
  rw [fSave_1] at this
  exact this
theorem gAok_fol {b : Nat} {A : gA} (h : gAok b A) : gAok b (gFol A) := by
  have := gAok_rest (gAok_sav h) 1
  rw [fRest_s] at this
  exact this
theorem gX5_fol {A : gA} (h : gX5 A) : gX5 (gFol A) := by
  have := gX5_rest (gX5_sav h) 1
  rw [fRest_s] at this
  exact this
theorem gAnd31 (x : Int32) : ∃ d, d < 2147483648 ∧ x &&& 2147483647 = nI d := by
  refine ⟨(x &&& 2147483647).toBitVec.toNat, ?_, ?_⟩
  · rw [Int32.toBitVec_and, BitVec.toNat_and]
    exact Nat.lt_of_le_of_lt Nat.and_le_right (by decide)
  · apply Int32.toBitVec_inj.mp
    apply BitVec.eq_of_toNat_eq
    show _ = (BitVec.ofNat 32 _).toNat
    rw [BitVec.toNat_ofNat]
    exact (Nat.mod_eq_of_lt (BitVec.isLt _)).symm
