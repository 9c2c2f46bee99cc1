
/-! ===== a random call of the law ===== -/
def gActP (A : gA) (z : Nat) : Nat := if sN (aS A) 1 = 0 ∨ z % 19 = 0 then z % 8 else z % sN (aS A) 1
def gActB (A : gA) (z : Nat) : Nat := if (sB (aS A)).length = 0 then 0 else z % (sB (aS A)).length
def gActS (z : Nat) : Nat := if z % 6 = 0 then 1 + z / 6 % 4 else if z % 6 = 1 then 1 + z / 6 % 9 else 1 + z / 6 % 30
def gB01 (n : Nat) : Int32 := if 0 < n then 1 else 0
/-- its codes and what it gives, by its number -/
def gActK (A : gA) (z : Nat) : Nat → List Int64 × (Nat × Int32 × gA)
  | 0 => ([(-9000000000000000002), (-9000000000000000003)], aAct 0 1 2 A (gTryAdd (aS A) (nI (z % 4))))
  | 1 => ([(-9000000000000000001), (-9000000000000000002)], aAct 1 2 0 A (gTryPromote (aS A) (nI (gActP A z)) (nI (z / 8 % 4))))
  | 2 => ([(-9000000000000000001)], aAct 1 0 0 A (gTryList (aS A) (nI (gActP A z)) (nI (z / 8 % 10)) (gB01 (z / 80 % 4))))
  | 3 => ([(-9000000000000000001)], aAct 1 0 0 A (gTryList (aS A) (nI (gActP A z)) (nI (z / 8 % 10)) (gB01 (z / 80 % 4))))
  | 4 => ([(-9000000000000000001)], aAct 1 0 0 A (gTryList (aS A) (nI (gActP A z)) (nI (z / 8 % 10)) (gB01 (z / 80 % 4))))
  | 5 => ([(-9000000000000000001), (-9000000000000000003)], aAct 1 0 2 A (gTryApart (aS A) (nI (gActP A z)) (nI (z / 8 % 8)) (gB01 (z / 64 % 3))))
  | 6 => ([(-9000000000000000001), (-9000000000000000002), (-9000000000000000003)], aAct 1 2 3 A (gTryBook (aS A) (nI (gActP A z)) (nI (z / 8 % 10)) (nI (sN (aS A) 0 + z / 80 % 10)) (nI (z / 800 % 8))))
  | 7 => ([(-9000000000000000001), (-9000000000000000002), (-9000000000000000003)], aAct 1 2 3 A (gTryBook (aS A) (nI (gActP A z)) (nI (z / 8 % 10)) (nI (sN (aS A) 0 + z / 80 % 10)) (nI (z / 800 % 8))))
  | 8 => ([(-9000000000000000001), (-9000000000000000002), (-9000000000000000003)], aAct 1 2 3 A (gTryBook (aS A) (nI (gActP A z)) (nI (z / 8 % 10)) (nI (sN (aS A) 0 + z / 80 % 10)) (nI (z / 800 % 8))))
  | 9 => ([(-9000000000000000001), (-9000000000000000002), (-9000000000000000003)], aAct 1 2 3 A (gTryBook (aS A) (nI (gActP A z)) (nI (z / 8 % 10)) (nI (sN (aS A) 0 + z / 80 % 10)) (nI (z / 800 % 8))))
  | 10 => ([(-9000000000000000001)], aAct 1 0 0 A (gTryCancel (aS A) (nI (gActB A z))))
  | 11 => ([(-9000000000000000001), (-9000000000000000002)], aAct 1 2 0 A (gTryLate (aS A) (nI (gActB A z)) (nI (z / 24 % 60))))
  | 12 => ([(-9000000000000000001)], aAct 1 0 0 A (gTryCarry (aS A) (nI (z / 8 % 10)) (gB01 (z % 3))))
  | 13 => ([(-9000000000000000001), (-9000000000000000002)], aAct 1 2 0 A (gTryPunish (aS A) (nI (gActP A z)) (nI (z / 8 % 12))))
  | 14 => ([(-9000000000000000001), (-9000000000000000003)], aAct 1 0 2 A (gTryWish (aS A) (nI (gActP A z)) (nI (z / 8 % 10))))
  | 15 => ([(-9000000000000000001), (-9000000000000000003)], aAct 1 0 2 A (gTryWish (aS A) (nI (gActP A z)) (nI (z / 8 % 10))))
  | 16 => ([(-9000000000000000002)], aAct 0 1 0 A (gTrySet (aS A) (nI (z % 6)) (nI (gActS z))))
  | 17 => ([(-9000000000000000003)], fUndo A)
  | 18 => if z % 2 = 0 then ([(-9000000000000000001)], fSave A (nI (z / 2) &&& 1)) else ([(-9000000000000000001), (-9000000000000000003)], fRest A (nI (z / 2) &&& 1))
  | _ => ([(-9000000000000000002)], fRun A (nI (1 + z % (if z % 5 = 0 then 30 else 3))))
def gActR (A : gA) (x y : Nat) : Int64 := gCd (gActK A (y / 4) (x % 24)).1 (gActK A (y / 4) (x % 24)).2
def gActA (A : gA) (x y : Nat) : gA := (gActK A (y / 4) (x % 24)).2.2.2
section
variable {A : gA} {b : Nat}
theorem gActK_run (z : Nat) {k : Nat} (h : 19 ≤ k) : gActK A z k = ([(-9000000000000000002)], fRun A (nI (1 + z % (if z % 5 = 0 then 30 else 3)))) := by
  obtain ⟨j, rfl⟩ : ∃ j, k = j + 19 := ⟨k - 19, by omega⟩
  rfl
theorem gAct_ok (hA : gAok b A) (hX : gX5 A) (hb : b ≤ 9000) (z k : Nat) : gAok (b + 30) (gActK A z k).2.2.2 ∧ gX5 (gActK A z k).2.2.2 := by
  have hc := hA.2.2.1
  have hI := hA.2.1.1.1.1
  have hT : sN (aS A) 0 < 1000000000 := by have := hA.2.1.2.2; omega
  have m : ∀ {B : gA}, gAok b B → gAok (b + 30) B := fun h => gAok_mono h (by omega)
  have hbk : ∀ p v d t : Int32, gAok (b + 30) (aAct 1 2 3 A (gTryBook (aS A) p v d t)).2.2 ∧ gX5 (aAct 1 2 3 A (gTryBook (aS A) p v d t)).2.2 := fun p v d t => ⟨m (gAok_act hA (gOk_tryBook hA.2.1 (by omega) _ _ _ _)), gX5_act hX hc (gP5_tryBook hX.1 hI hT _ _ _ _)⟩
  have hls : ∀ p v d : Int32, gAok (b + 30) (aAct 1 0 0 A (gTryList (aS A) p v d)).2.2 ∧ gX5 (aAct 1 0 0 A (gTryList (aS A) p v d)).2.2 := fun p v d => ⟨m (gAok_act hA (gOk_tryList hA.2.1 _ _ _)), gX5_act hX hc (gP5_tryList hX.1 _ _ _)⟩
  have hwi : ∀ p v : Int32, gAok (b + 30) (aAct 1 0 2 A (gTryWish (aS A) p v)).2.2 ∧ gX5 (aAct 1 0 2 A (gTryWish (aS A) p v)).2.2 := fun p v => ⟨m (gAok_act hA (gOk_tryWish hA.2.1 _ _)), gX5_act hX hc (gP5_tryWish hX.1 _ _)⟩
  rcases (show k = 0 ∨ k = 1 ∨ k = 2 ∨ k = 3 ∨ k = 4 ∨ k = 5 ∨ k = 6 ∨ k = 7 ∨ k = 8 ∨ k = 9 ∨ k = 10 ∨ k = 11 ∨ k = 12 ∨ k = 13 ∨ k = 14 ∨ k = 15 ∨ k = 16 ∨ k = 17 ∨ k = 18 ∨ 19 ≤ k by omega) with rfl | rfl | rfl | rfl | rfl | rfl | rfl | rfl | rfl | rfl | rfl | rfl | rfl | rfl | rfl | rfl | rfl | rfl | rfl | h9
  · exact ⟨m (gAok_act hA (gOk_tryAdd hA.2.1 _)), gX5_act hX hc (gP5_tryAdd hX.1 _)⟩
  · exact ⟨m (gAok_act hA (gOk_tryPromote hA.2.1 _ _)), gX5_act hX hc (gP5_tryPromote hX.1 _ _)⟩
  · exact hls _ _ _
  · exact hls _ _ _
  · exact hls _ _ _
  · exact ⟨m (gAok_act hA (gOk_tryApart hA.2.1 _ _ _)), gX5_act hX hc (gP5_tryApart hX.1 hI.1 _ _ _)⟩
  · exact hbk _ _ _ _
  · exact hbk _ _ _ _
  · exact hbk _ _ _ _
  · exact hbk _ _ _ _
  · exact ⟨m (gAok_act hA (gOk_tryCancel hA.2.1 _)), gX5_act hX hc (gP5_tryCancel hX.1 _)⟩
  · exact ⟨m (gAok_act hA (gOk_tryLate hA.2.1 _ _)), gX5_act hX hc (gP5_tryLate hX.1 (by have := hI.2.1; omega) _ _)⟩
  · exact ⟨m (gAok_act hA (gOk_tryCarry hA.2.1 _ _)), gX5_act hX hc (gP5_tryCarry hX.1 _ _)⟩
  · exact ⟨m (gAok_act hA (gOk_tryPunish hA.2.1 (by omega) _ _)), gX5_act hX hc (gP5_tryPunish hX.1 _ _)⟩
  · exact hwi _ _
  · exact hwi _ _
  · exact ⟨m (gAok_act hA (gOk_trySet hA.2.1 _ _)), gX5_act hX hc (gP5_trySet hX.1 _ _)⟩
  · exact ⟨m (gAok_undo hA), gX5_undo hX⟩
  · show gAok (b + 30) (if z % 2 = 0 then _ else _ : List Int64 × (Nat × Int32 × gA)).2.2.2 ∧ gX5 (if z % 2 = 0 then _ else _ : List Int64 × (Nat × Int32 × gA)).2.2.2
    by_cases c : z % 2 = 0
    · rw [if_pos c]
      exact ⟨m (gAok_save hA _), gX5_save hX _⟩
    · rw [if_neg c]
      exact ⟨m (gAok_rest hA _), gX5_rest hX _⟩
  · rw [gActK_run z h9]
    exact ⟨gAok_run hA (by omega) _, gX5_run hX hA _⟩
end
