def gL1 (S : gSt) : gSt := uB S ((sB S).eraseIdx 0)
def gL2 (S : gSt) : gSt := uI (gL1 S) 8 (upd (sI (gL1 S) 8) 4 (sI (gL1 S) 8 4 + 1))
def gL3 (S : gSt) : Nat × gSt := gJudge (gL2 S) (bk (sB S) 0 3) (bk (sB S) 0 4) (bk (sB S) 0 5)
def gL4 (S : gSt) : gSt := uI (gL3 S).2 8 (upd (sI (gL3 S).2 8) (gL3 S).1 (sI (gL3 S).2 8 (gL3 S).1 + 1))
def gHeld (S : gSt) (p : Nat) : gSt := uI (uI S 3 (upd (sI S 3) p (sI S 3 p + 1))) 4 (upd (sI S 4) p (sI S 4 p + 1))
/-- the first booking of today is looked at -/
def gLook (S : gSt) : Nat × gSt := ((gL3 S).1, if (gL3 S).1 = 0 then gHeld (gL4 S) (bk (sB S) 0 3) else gL4 S)
theorem gI1_look {S : gSt} (h : gI1 S) : gI1 (gLook S).2 := by
  have h2 : gI1 (gL2 S) := gI1_uI (gI1_erase h 0)
  have h3 : gI1 (gL3 S).2 := gI1_judge h2 _ _ _
  have h4 : gI1 (gL4 S) := gI1_uI h3
  unfold gLook
  show gI1 (if (gL3 S).1 = 0 then gHeld (gL4 S) (bk (sB S) 0 3) else gL4 S)
  split
  · exact gI1_uI (gI1_uI h4)
  · exact h4
theorem gT_look {S : gSt} (h : sN S 0 < 1000000000) : sN (gLook S).2 0 < 1000000000 := by
  have h2 : sN (gL2 S) 0 < 1000000000 := h
  have h3 : sN (gL3 S).2 0 < 1000000000 := gT_judge h2 _ _ _
  have h4 : sN (gL4 S) 0 < 1000000000 := gT_uI h3
  unfold gLook
  show sN (if (gL3 S).1 = 0 then gHeld (gL4 S) (bk (sB S) 0 3) else gL4 S) 0 < 1000000000
  split
  · exact gT_uI (gT_uI h4)
  · exact h4
