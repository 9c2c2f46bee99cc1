theorem gI1_uI {S : gSt} {k : Nat} {f : Nat → Int32} (h : gI1 S) : gI1 (uI S k f) := h
theorem gT_uI {S : gSt} {k : Nat} {f : Nat → Int32} (h : sN S 0 < 1000000000) : sN (uI S k f) 0 < 1000000000 := h
theorem gBan_1 (S : gSt) (v : Nat) : sN (gBan S v) 1 = sN S 1 := by unfold gBan; split <;> rfl
def gJudge (S : gSt) (p v m : Nat) : Nat × gSt := if nI (sN S 0) < sI S 2 p then (1, S) else if nI (sN S 0) < sI S 7 v then (1, S) else if gSearch S v = true then (if gHb (sI S 9 0) (nI v) = true then (2, gTake (gBan (uI S 9 (fun _ => gWb (sI S 9 0) (nI v) 0)) v) p) else if m + sS S 4 ≤ sS S 5 then (0, S) else if (gThird S v).1 = 0 then (3, (gThird S v).2) else (3, gBan (gThird S v).2 v)) else if m ≤ sS S 5 then (0, S) else if (gThird S v).1 = 0 then (3, (gThird S v).2) else (3, gBan (gThird S v).2 v)
theorem gJudge_le (S : gSt) (p v m : Nat) : (gJudge S p v m).1 ≤ 3 := by
  unfold gJudge
  repeat' split
  all_goals first | exact Nat.zero_le 3 | exact Nat.le_refl 3 | exact (by decide : 1 ≤ 3) | exact (by decide : 2 ≤ 3)
theorem gI1_judge {S : gSt} (h : gI1 S) (p v m : Nat) : gI1 (gJudge S p v m).2 := by
  unfold gJudge
  split
  · exact h
  · split
    · exact h
    · split
      · split
        · exact gI1_take (gI1_ban (gI1_uI h) v) p
        · split
          · exact h
          · split
            · exact gI1_third h v
            · exact gI1_ban (gI1_third h v) v
      · split
        · exact h
        · split
          · exact gI1_third h v
          · exact gI1_ban (gI1_third h v) v
theorem gT_judge {S : gSt} (h : sN S 0 < 1000000000) (p v m : Nat) : sN (gJudge S p v m).2 0 < 1000000000 := by
  unfold gJudge
  split
  · exact h
  · split
    · exact h
    · split
      · split
        · exact gT_take (gT_ban (gT_uI h) v) p
        · split
          · exact h
          · split
            · exact gT_third h v
            · exact gT_ban (gT_third h v) v
      · split
        · exact h
        · split
          · exact gT_third h v
          · exact gT_ban (gT_third h v) v
theorem gZero_st {f : Nat → Int32} {k : Nat} (h : ∀ j, j < k → f j = 0) : ∀ j, j < k + 1 → upd f k 0 j = 0 := by
  intro j hj
  show (if j = k then 0 else f j) = 0
  split
  · rfl
  · exact h j (by omega)
def gNext (S : gSt) : gSt := if (sN S 0 + 1) / 7 = sN S 0 / 7 then uN S 0 (sN S 0 + 1) else uI (uN S 0 (sN S 0 + 1)) 4 (fun _ => 0)
