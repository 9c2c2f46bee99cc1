/-! ===== the whole object is in order: kept by every call ===== -/
def gAok (b : Nat) (A : gA) : Prop := aN A ≤ 120 ∧ gOk b (aS A) ∧ aC A ≤ 14 ∧ gHok b (aC A) (aH A) ∧ gSok b (aL A)
theorem gAok_mono {b b' : Nat} {A : gA} (h : gAok b A) (hb : b ≤ b') : gAok b' A :=
  ⟨h.1, gOk_mono h.2.1 hb, h.2.2.1, fun k hk => gOk_mono (h.2.2.2.1 k hk) hb, fun i hi T hT => gOk_mono (h.2.2.2.2 i hi T hT) hb⟩
theorem gAok_rem {b : Nat} {A : gA} {T : gSt} (h : gAok b A) (hT : gOk b T) : gAok b (aRem A T) := by
  obtain ⟨h1, h2, h3, h4, h5⟩ := h
  refine ⟨h1, hT, ?_, fun k hk => ?_, h5⟩
  · show gHc (aC A) ≤ 14
    unfold gHc
    split <;> omega
  · have hk' : k < gHc (aC A) := hk
    show gOk b (gHh (aC A) (aH A) (aS A) k)
    unfold gHc at hk'
    unfold gHh
    by_cases c : aC A = 14
    · rw [if_pos c] at hk' ⊢
      by_cases d : k < 13
      · rw [if_pos d]
        exact h4 (k + 1) (by omega)
      · rw [if_neg d]
        exact h2
    · rw [if_neg c] at hk' ⊢
      by_cases d : k = aC A
      · rw [if_pos d]
        exact h2
      · rw [if_neg d]
        exact h4 k (by omega)
theorem gAok_act {b e1 e2 e3 : Nat} {A : gA} {t : Int32 × gSt} (h : gAok b A) (hT : gOk b t.2) : gAok b (aAct e1 e2 e3 A t).2.2 := by
  unfold aAct
  split
  · exact h
  · split
    · exact h
    · split
      · exact h
      · exact gAok_rem h hT
section
variable {S : gSt} {b : Nat}
theorem gOk_tryAdd (h : gOk b S) (r : Int32) : gOk b (gTryAdd S r).2 := ⟨gI3_tryAdd h.1 r, gMz_iff.mpr (gM6_tryAdd (gMz_iff.mp h.2.1) r), by rw [gTryAdd_0]; exact h.2.2⟩
theorem gTryPromote_0 (S : gSt) (p r : Int32) : sN (gTryPromote S p r).2 0 = sN S 0 := by
  unfold gTryPromote
  split
  · split <;> rfl
  · rfl
theorem gTryApart_0 (S : gSt) (p q b : Int32) : sN (gTryApart S p q b).2 0 = sN S 0 := by
  unfold gTryApart
  split
  · split
    · split <;> rfl
    · rfl
  · rfl
theorem gTrySet_0 (S : gSt) (q x : Int32) : sN (gTrySet S q x).2 0 = sN S 0 := by
  unfold gTrySet
  split
  · split <;> rfl
  · rfl
theorem gTryCancel_0 (S : gSt) (k : Int32) : sN (gTryCancel S k).2 0 = sN S 0 := by
  unfold gTryCancel
  split <;> rfl
theorem gOk_tryPromote (h : gOk b S) (p r : Int32) : gOk b (gTryPromote S p r).2 := ⟨gI3_tryPromote h.1 p r, gMz_iff.mpr (gM6_tryPromote (gMz_iff.mp h.2.1) p r), by rw [gTryPromote_0]; exact h.2.2⟩
theorem gOk_tryList (h : gOk b S) (p v x : Int32) : gOk b (gTryList S p v x).2 := ⟨gI3_tryList h.1 p v x, gMz_iff.mpr (gM6_tryList (gMz_iff.mp h.2.1) p v x), by rw [gTryList_0]; exact h.2.2⟩
theorem gOk_tryApart (h : gOk b S) (p q x : Int32) : gOk b (gTryApart S p q x).2 := ⟨gI3_tryApart h.1 p q x, gMz_iff.mpr (gM6_tryApart (gMz_iff.mp h.2.1) p q x), by rw [gTryApart_0]; exact h.2.2⟩
theorem gOk_tryCarry (h : gOk b S) (v x : Int32) : gOk b (gTryCarry S v x).2 := ⟨gI3_tryCarry h.1 v x, gMz_iff.mpr (gM6_tryCarry (gMz_iff.mp h.2.1) v x), by rw [gTryCarry_0]; exact h.2.2⟩
theorem gOk_tryPunish (h : gOk b S) (hb : b < 200000000) (p n : Int32) : gOk b (gTryPunish S p n).2 := ⟨gI3_tryPunish h.1 (by have := h.2.2; omega) p n, gMz_iff.mpr (gM6_tryPunish (gMz_iff.mp h.2.1) p n), by rw [gTryPunish_0]; exact h.2.2⟩
theorem gOk_trySet (h : gOk b S) (q x : Int32) : gOk b (gTrySet S q x).2 := ⟨gI3_trySet h.1 q x, gMz_iff.mpr (gM6_trySet (gMz_iff.mp h.2.1) q x), by rw [gTrySet_0]; exact h.2.2⟩
theorem gOk_tryBook (h : gOk b S) (hb : b < 200000000) (p v d t : Int32) : gOk b (gTryBook S p v d t).2 := ⟨gI3_tryBook h.1 p v d t (by have := h.2.2; omega), gMz_iff.mpr (gM6_tryBook (gMz_iff.mp h.2.1) p v d t), by rw [gTryBook_0]; exact h.2.2⟩
theorem gOk_tryCancel (h : gOk b S) (k : Int32) : gOk b (gTryCancel S k).2 := ⟨gI3_tryCancel h.1 k, gMz_iff.mpr (gM6_tryCancel (gMz_iff.mp h.2.1) k), by rw [gTryCancel_0]; exact h.2.2⟩
theorem gOk_tryLate (h : gOk b S) (k m : Int32) : gOk b (gTryLate S k m).2 := ⟨gI3_tryLate h.1 k m, gMz_iff.mpr (gM6_tryLate (gMz_iff.mp h.2.1) (by have := h.1.1.1.2.1; omega) k m), by rw [gTryLate_0]; exact h.2.2⟩
theorem gOk_tryWish (h : gOk b S) (p v : Int32) : gOk b (gTryWish S p v).2 := ⟨gI3_tryWish h.1 p v, gMz_iff.mpr (gM6_tryWish (gMz_iff.mp h.2.1) p v), by rw [gTryWish_0]; exact h.2.2⟩
theorem gOk_days (h : gOk b S) {n : Nat} (hb : b + n < 200000000) : gOk (b + n) (gDays n S) := ⟨gI3_days n h.1 (by have := h.2.2; omega), gMz_iff.mpr (gM6_days n (gMz_iff.mp h.2.1)), by rw [gDays_0]; have := h.2.2; omega⟩
end
section
variable {A : gA} {b : Nat}
theorem gAok_append (h : gAok b A) (c : Int32) : gAok b (fAppend A c).2.2 := by
  unfold fAppend
  split
  · split
    · exact h
    · rename_i d
      obtain ⟨h1, h2⟩ := h
      exact ⟨by show aN A + 1 ≤ 120; omega, h2⟩
  · exact h
theorem gAok_clear (h : gAok b A) : gAok b (fClear A).2.2 := ⟨Nat.zero_le _, h.2⟩
theorem gAok_load (h : gAok b A) (hb : 3600 ≤ b) : gAok b (fLoad A).2.2 := by
  unfold fLoad
  split
  · refine ⟨h.1, ?_, Nat.zero_le _, fun k hk => absurd hk (Nat.not_lt_zero k), fun i _ T hT => by cases hT⟩
    have q := gOk_load (aN A) (aG A) 120 0 0 (fun _ => 0) (S := gSt0) 0 0 gOk_0 (by decide)
    exact gOk_mono q (by omega)
  · exact h
theorem gAok_run (h : gAok b A) (hb : b + 30 < 200000000) (n : Int32) : gAok (b + 30) (fRun A n).2.2 := by
  unfold fRun
  split
  · rename_i c
    obtain ⟨j, hj0, hj, rfl⟩ := nI_ofl1 (m := 30) c rfl rfl (by decide)
    refine gAok_act (gAok_mono h (by omega)) ?_
    show gOk (b + 30) (gDays (nI j).toNatClampNeg (aS A))
    rw [nI_clamp (by omega)]
    exact gOk_mono (gOk_days h.2.1 (by omega)) (by omega)
  · exact gAok_mono h (by omega)
theorem gAok_undo (h : gAok b A) : gAok b (fUndo A).2.2 := by
  unfold fUndo
  split
  · exact h
  · rename_i c
    obtain ⟨h1, h2, h3, h4, h5⟩ := h
    exact ⟨h1, h4 (aC A - 1) (by omega), by show aC A - 1 ≤ 14; omega, fun k hk => h4 k (by have : k < aC A - 1 := hk; omega), h5⟩
theorem gAok_save (h : gAok b A) (i : Int32) : gAok b (fSave A i).2.2 := by
  unfold fSave
  split
  · obtain ⟨h1, h2, h3, h4, h5⟩ := h
    refine ⟨h1, h2, h3, h4, fun j hj T hT => ?_⟩
    have hT' : (if j = i.toNatClampNeg then some (aS A) else aL A j) = some T := hT
    split at hT'
    · cases hT'
      exact h2
    · exact h5 j hj T hT'
  · exact h
theorem gAok_rest (h : gAok b A) (i : Int32) : gAok b (fRest A i).2.2 := by
  unfold fRest
  split
  · rename_i c
    obtain ⟨j, hj, rfl⟩ := gNat_ofl (m := 1) c rfl rfl (by decide)
    rw [nI_clamp (by omega)]
    cases e : aL A j with
    | none => exact h
    | some T => exact ⟨h.1, h.2.2.2.2 j hj T e, Nat.zero_le _, fun k hk => absurd hk (Nat.not_lt_zero k), h.2.2.2.2⟩
  · exact h
end
theorem gAok_0 : gAok 3600 gA0 := ⟨Nat.zero_le _, gOk_mono gOk_0 (by omega), Nat.zero_le _, fun k hk => absurd hk (Nat.not_lt_zero k), fun i _ T hT => by cases hT⟩
