theorem gHb_xm {m : Int32} {i : Nat} (hi : i < 32) : gHb (m ^^^ (-1)) (nI i) = !gHb m (nI i) := by
  rw [gHb_bit _ hi, gHb_bit _ hi]
  show (m.toBitVec ^^^ (-1 : Int32).toBitVec).getLsbD i = _
  have h1 : (-1 : Int32).toBitVec.getLsbD i = true := by
    have : ∀ j : Nat, j < 32 → (-1 : Int32).toBitVec.getLsbD j = true := by decide +kernel
    exact this i hi
  rw [BitVec.getLsbD_xor, h1]
  cases m.toBitVec.getLsbD i <;> rfl
theorem gHb_wb {x b : Int32} {i v : Nat} (hi : i < 32) (hv : v < 32) : gHb (gWb x (nI v) b) (nI i) = if i = v then decide (¬ b = 0) else gHb x (nI i) := by
  unfold gWb
  by_cases c : b = 0
  · rw [if_pos c, gHb_and hi, gHb_xm hi, gHb_one hi hv]
    by_cases e : i = v
    · rw [if_pos e, decide_eq_true e, decide_eq_false (fun q => q c)]
      simp
    · rw [if_neg e, decide_eq_false e]
      simp
  · rw [if_neg c, gHb_or hi, gHb_one hi hv]
    by_cases e : i = v
    · rw [if_pos e, decide_eq_true e, decide_eq_true c]
      simp
    · rw [if_neg e, decide_eq_false e]
      simp
theorem gBan_S (S : gSt) (v : Nat) : sS (gBan S v) = sS S := by unfold gBan; split <;> rfl
theorem uI_comm (S : gSt) {k l : Nat} (h : k ≠ l) (f g : Nat → Int32) : uI (uI S k f) l g = uI (uI S l g) k f := by
  show ((fun j => cond (Nat.beq j l) g (cond (Nat.beq j k) f (sI S j)), S.2) : gSt) = (fun j => cond (Nat.beq j k) f (cond (Nat.beq j l) g (sI S j)), S.2)
  congr 1
  funext j
  cases e1 : Nat.beq j l
  · rfl
  · cases e2 : Nat.beq j k
    · rfl
    · exact absurd ((Nat.eq_of_beq_eq_true e2).symm.trans (Nat.eq_of_beq_eq_true e1)) h
/-- a new prison -/
def gSt0 : gSt := (fun _ _ => 0, (fun _ => 0, fun j => ([2, 3, 14, 7, 10, 15] : List Nat).getD j 0), [], [])
