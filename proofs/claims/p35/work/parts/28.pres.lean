/-! ===== what the calls keep ===== -/
theorem gT_uN1 {S : gSt} {x : Nat} (h : sN S 0 < 1000000000) : sN (uN S 1 x) 0 < 1000000000 := h
theorem nI_clampE {j : Nat} (h : j < 2147483648) : (nI j).toNatClampNeg = j := nI_clamp h
theorem gI1_tryAdd {S : gSt} (h : gI1 S) (r : Int32) : gI1 (gTryAdd S r).2 := by
  unfold gTryAdd
  split
  · split
    · rename_i hn
      obtain ⟨h1, h2, h3, h4, h5, h6, h7, h8, h9, h10, h11⟩ := h
      refine ⟨?_, h2, h3, ?_, h5, h6, h7, h8, h9, h10, ?_⟩
      · show sN S 1 + 1 ≤ 8
        omega
      · intro j hj
        have := h4 j hj
        exact ⟨this.1, show wq (sW S) j / 10 < sN S 1 + 1 by omega⟩
      · intro k hk
        have := h11 k hk
        exact ⟨show bk (sB S) k 3 < sN S 1 + 1 by omega, this.2⟩
    · exact h
  · exact h
theorem gT_tryAdd {S : gSt} (h : sN S 0 < 1000000000) (r : Int32) : sN (gTryAdd S r).2 0 < 1000000000 := by
  unfold gTryAdd
  split
  · split <;> exact h
  · exact h
theorem gI1_tryPromote {S : gSt} (h : gI1 S) (p r : Int32) : gI1 (gTryPromote S p r).2 := by
  unfold gTryPromote
  repeat' split
  all_goals exact h
theorem gT_tryPromote {S : gSt} (h : sN S 0 < 1000000000) (p r : Int32) : sN (gTryPromote S p r).2 0 < 1000000000 := by
  unfold gTryPromote
  repeat' split
  all_goals exact h
theorem gI1_tryList {S : gSt} (h : gI1 S) (p v b : Int32) : gI1 (gTryList S p v b).2 := by
  unfold gTryList
  repeat' split
  all_goals exact h
theorem gT_tryList {S : gSt} (h : sN S 0 < 1000000000) (p v b : Int32) : sN (gTryList S p v b).2 0 < 1000000000 := by
  unfold gTryList
  repeat' split
  all_goals exact h
theorem gI1_tryApart {S : gSt} (h : gI1 S) (p q b : Int32) : gI1 (gTryApart S p q b).2 := by
  unfold gTryApart
  repeat' split
  all_goals exact h
theorem gT_tryApart {S : gSt} (h : sN S 0 < 1000000000) (p q b : Int32) : sN (gTryApart S p q b).2 0 < 1000000000 := by
  unfold gTryApart
  repeat' split
  all_goals exact h
theorem gI1_tryCarry {S : gSt} (h : gI1 S) (v b : Int32) : gI1 (gTryCarry S v b).2 := by
  unfold gTryCarry
  repeat' split
  all_goals exact h
theorem gT_tryCarry {S : gSt} (h : sN S 0 < 1000000000) (v b : Int32) : sN (gTryCarry S v b).2 0 < 1000000000 := by
  unfold gTryCarry
  repeat' split
  all_goals exact h
theorem gI1_tryPunish {S : gSt} (h : gI1 S) (p n : Int32) : gI1 (gTryPunish S p n).2 := by
  unfold gTryPunish
  repeat' split
  all_goals exact h
theorem gT_tryPunish {S : gSt} (h : sN S 0 < 1000000000) (p n : Int32) : sN (gTryPunish S p n).2 0 < 1000000000 := by
  unfold gTryPunish
  repeat' split
  all_goals exact h
theorem gI1_trySet {S : gSt} (h : gI1 S) (q x : Int32) : gI1 (gTrySet S q x).2 := by
  unfold gTrySet
  split
  · rename_i hq
    split
    · rename_i hx
      obtain ⟨k, hk, rfl⟩ := gNat_of (n := 6) hq (by decide)
      rw [nI_clamp (by omega)] at hx ⊢
      obtain ⟨j, hj, rfl⟩ := gSet_rng hk hx
      have := gLst_N hk
      rw [nI_clamp (by omega)]
      exact gI1_uS h hk hj
    · exact h
  · exact h
theorem gT_trySet {S : gSt} (h : sN S 0 < 1000000000) (q x : Int32) : sN (gTrySet S q x).2 0 < 1000000000 := by
  unfold gTrySet
  repeat' split
  all_goals exact h
theorem gI1_tryBook {S : gSt} (h : gI1 S) (p v d t : Int32) : gI1 (gTryBook S p v d t).2 := by
  unfold gTryBook
  split
  · rename_i hq
    split
    · split
      · rename_i hr
        obtain ⟨P, hP, rfl⟩ := gNat_of hq.1 (by have := h.1; omega)
        obtain ⟨Q, hQ, rfl⟩ := gNat_of (n := 10) hq.2 (by decide)
        have := h.1
        rw [nI_clamp (show P < 2147483648 by omega), nI_clamp (show Q < 2147483648 by omega)] at hr ⊢
        exact gI1_book h (gRA_nf hr) hP hQ
      · exact h
    · exact h
  · exact h
theorem gT_tryBook {S : gSt} (h : sN S 0 < 1000000000) (p v d t : Int32) : sN (gTryBook S p v d t).2 0 < 1000000000 := by
  unfold gTryBook
  repeat' split
  all_goals exact h
theorem gI1_tryCancel {S : gSt} (h : gI1 S) (k : Int32) : gI1 (gTryCancel S k).2 := by
  unfold gTryCancel
  split
  · exact gI1_erase h _
  · exact h
theorem gT_tryCancel {S : gSt} (h : sN S 0 < 1000000000) (k : Int32) : sN (gTryCancel S k).2 0 < 1000000000 := by
  unfold gTryCancel
  repeat' split
  all_goals exact h
theorem gI1_tryLate {S : gSt} (h : gI1 S) (k m : Int32) : gI1 (gTryLate S k m).2 := by
  unfold gTryLate
  split
  · rename_i hk
    split
    · obtain ⟨K, hK, rfl⟩ := gNat_of hk (by have := h.2.1; omega)
      have := h.2.1
      rw [nI_clamp (show K < 2147483648 by omega)]
      exact gI1_late h hK
    · exact h
  · exact h
theorem gT_tryLate {S : gSt} (h : sN S 0 < 1000000000) (k m : Int32) : sN (gTryLate S k m).2 0 < 1000000000 := by
  unfold gTryLate
  repeat' split
  all_goals exact h
theorem gI1_tryWish {S : gSt} (h : gI1 S) (p v : Int32) : gI1 (gTryWish S p v).2 := by
  unfold gTryWish
  split
  · rename_i hq
    split
    · split
      · exact h
      · rename_i hn
        obtain ⟨P, hP, rfl⟩ := gNat_of hq.1 (by have := h.1; omega)
        obtain ⟨Q, hQ, rfl⟩ := gNat_of (n := 10) hq.2 (by decide)
        have := h.1
        rw [nI_clamp (show P < 2147483648 by omega), nI_clamp (show Q < 2147483648 by omega)]
        exact gI1_wish h (by omega) hP hQ
    · exact h
  · exact h
theorem gT_tryWish {S : gSt} (h : sN S 0 < 1000000000) (p v : Int32) : sN (gTryWish S p v).2 0 < 1000000000 := by
  unfold gTryWish
  repeat' split
  all_goals exact h
