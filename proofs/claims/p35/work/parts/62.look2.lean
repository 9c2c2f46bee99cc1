/-! ===== the two sides' looks are one ===== -/
theorem gBan_uB (S : gSt) (v : Nat) (bs : List (Nat → Nat)) : gBan (uB S bs) v = uB (gBan S v) bs := by
  unfold gBan
  by_cases c : nI (sN S 0 + 1 + sS S 2) ≤ sI S 7 v
  · rw [if_pos c, if_pos (show nI (sN (uB S bs) 0 + 1 + sS (uB S bs) 2) ≤ sI (uB S bs) 7 v from c)]
  · rw [if_neg c, if_neg (show ¬ nI (sN (uB S bs) 0 + 1 + sS (uB S bs) 2) ≤ sI (uB S bs) 7 v from c)]
    rfl
theorem gTake_uB (S : gSt) (p : Nat) (bs : List (Nat → Nat)) : gTake (uB S bs) p = uB (gTake S p) bs := by
  unfold gTake
  by_cases c : nI (sN S 0 + 1 + sS S 3) ≤ sI S 2 p
  · rw [if_pos c, if_pos (show nI (sN (uB S bs) 0 + 1 + sS (uB S bs) 3) ≤ sI (uB S bs) 2 p from c)]
  · rw [if_neg c, if_neg (show ¬ nI (sN (uB S bs) 0 + 1 + sS (uB S bs) 3) ≤ sI (uB S bs) 2 p from c)]
    rfl
theorem gThird_uB (S : gSt) (v : Nat) (bs : List (Nat → Nat)) : gThird (uB S bs) v = ((gThird S v).1, uB (gThird S v).2 bs) := by
  unfold gThird
  by_cases c : sI S 6 v + 1 < 3
  · rw [if_pos c, if_pos (show sI (uB S bs) 6 v + 1 < 3 from c)]
    rfl
  · rw [if_neg c, if_neg (show ¬ sI (uB S bs) 6 v + 1 < 3 from c)]
    rfl
theorem gJudge_uB (S : gSt) (p v m : Nat) (bs : List (Nat → Nat)) : gJudge (uB S bs) p v m = ((gJudge S p v m).1, uB (gJudge S p v m).2 bs) := by
  have hs : gSearch (uB S bs) v = gSearch S v := rfl
  have hu : ∀ g : Nat → Int32, uI (uB S bs) 9 g = uB (uI S 9 g) bs := fun _ => rfl
  unfold gJudge
  rw [hs, gThird_uB, hu, gBan_uB, gTake_uB]
  by_cases c1 : nI (sN S 0) < sI S 2 p
  · rw [if_pos c1, if_pos (show nI (sN (uB S bs) 0) < sI (uB S bs) 2 p from c1)]
  · rw [if_neg c1, if_neg (show ¬ nI (sN (uB S bs) 0) < sI (uB S bs) 2 p from c1)]
    by_cases c2 : nI (sN S 0) < sI S 7 v
    · rw [if_pos c2, if_pos (show nI (sN (uB S bs) 0) < sI (uB S bs) 7 v from c2)]
    · rw [if_neg c2, if_neg (show ¬ nI (sN (uB S bs) 0) < sI (uB S bs) 7 v from c2)]
      by_cases c3 : gSearch S v = true
      · rw [if_pos c3, if_pos c3]
        by_cases c4 : gHb (sI S 9 0) (nI v) = true
        · rw [if_pos c4, if_pos (show gHb (sI (uB S bs) 9 0) (nI v) = true from c4)]
          rfl
        · rw [if_neg c4, if_neg (show ¬ gHb (sI (uB S bs) 9 0) (nI v) = true from c4)]
          by_cases c5 : m + sS S 4 ≤ sS S 5
          · rw [if_pos c5, if_pos (show m + sS (uB S bs) 4 ≤ sS (uB S bs) 5 from c5)]
          · rw [if_neg c5, if_neg (show ¬ m + sS (uB S bs) 4 ≤ sS (uB S bs) 5 from c5)]
            by_cases c6 : (gThird S v).1 = 0
            · rw [if_pos c6, if_pos c6]
            · rw [if_neg c6, if_neg c6, gBan_uB]
      · rw [if_neg c3, if_neg c3]
        by_cases c5 : m ≤ sS S 5
        · rw [if_pos c5, if_pos (show m ≤ sS (uB S bs) 5 from c5)]
        · rw [if_neg c5, if_neg (show ¬ m ≤ sS (uB S bs) 5 from c5)]
          by_cases c6 : (gThird S v).1 = 0
          · rw [if_pos c6, if_pos c6]
          · rw [if_neg c6, if_neg c6, gBan_uB]
theorem gLook_R (S : gSt) : gLook S = ((gLookR S).1, uB (uI (gLookR S).2 8 (upd (sI (gLookR S).2 8) (gLookR S).1 (sI (gLookR S).2 8 (gLookR S).1 + 1))) ((sB S).eraseIdx 0)) := by
  have e2 : gL2 S = uB (gCn S) ((sB S).eraseIdx 0) := rfl
  have e3 : gL3 S = ((gJudge (gCn S) (bk (sB S) 0 3) (bk (sB S) 0 4) (bk (sB S) 0 5)).1, uB (gJudge (gCn S) (bk (sB S) 0 3) (bk (sB S) 0 4) (bk (sB S) 0 5)).2 ((sB S).eraseIdx 0)) := by
    unfold gL3
    rw [e2, gJudge_uB]
  unfold gLook gL4 gLookR
  rw [e3]
  generalize gJudge (gCn S) (bk (sB S) 0 3) (bk (sB S) 0 4) (bk (sB S) 0 5) = J
  obtain ⟨r, T⟩ := J
  by_cases c : r = 0
  · simp only [if_pos c]
    subst c
    show (0, gHeld (uB (uI T 8 (upd (sI T 8) 0 (sI T 8 0 + 1))) ((sB S).eraseIdx 0)) (bk (sB S) 0 3)) = (0, uB (uI (gHeld T (bk (sB S) 0 3)) 8 (upd (sI T 8) 0 (sI T 8 0 + 1))) ((sB S).eraseIdx 0))
    have h1 : gHeld (uI T 8 (upd (sI T 8) 0 (sI T 8 0 + 1))) (bk (sB S) 0 3) = uI (gHeld T (bk (sB S) 0 3)) 8 (upd (sI T 8) 0 (sI T 8 0 + 1)) := by
      unfold gHeld
      rw [uI_comm _ (show (4 : Nat) ≠ 8 by decide), uI_comm _ (show (3 : Nat) ≠ 8 by decide)]
      rfl
    show (0, uB (gHeld (uI T 8 (upd (sI T 8) 0 (sI T 8 0 + 1))) (bk (sB S) 0 3)) ((sB S).eraseIdx 0)) = _
    rw [h1]
  · simp only [if_neg c]
    rfl
