def gCn (S : gSt) : gSt := uI S 8 (upd (sI S 8) 4 (sI S 8 4 + 1))
/-- the reference's look: the booking stays -/
def gLookR (S : gSt) : Nat × gSt := ((gJudge (gCn S) (bk (sB S) 0 3) (bk (sB S) 0 4) (bk (sB S) 0 5)).1, if (gJudge (gCn S) (bk (sB S) 0 3) (bk (sB S) 0 4) (bk (sB S) 0 5)).1 = 0 then gHeld (gJudge (gCn S) (bk (sB S) 0 3) (bk (sB S) 0 4) (bk (sB S) 0 5)).2 (bk (sB S) 0 3) else (gJudge (gCn S) (bk (sB S) 0 3) (bk (sB S) 0 4) (bk (sB S) 0 5)).2)
