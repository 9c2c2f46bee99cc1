/-! ===== no booking is marked: kept by all that is done ===== -/
def gM6 (bs : List (Nat → Nat)) : Prop := ∀ b ∈ bs, b 6 = 0
theorem gMz_iff {S : gSt} : gMz S ↔ gM6 (sB S) := by
  constructor
  · intro h b hb
    obtain ⟨k, hk, e⟩ := List.mem_iff_getElem.mp hb
    have := h k hk
    rw [bk_get hk, e] at this
    exact this
  · intro h k hk
    exact h _ (bk_mem hk)
theorem gM6_erase {bs : List (Nat → Nat)} (h : gM6 bs) (k : Nat) : gM6 (bs.eraseIdx k) := fun b hb => h b (List.mem_of_mem_eraseIdx hb)
theorem gM6_ins {bs : List (Nat → Nat)} (h : gM6 bs) (k d y z p v : Nat) : gM6 (gIns bs k (gNb d y z p v)) := by
  intro b hb
  unfold gIns at hb
  rcases List.mem_append.mp hb with q | q
  · exact h b (List.mem_of_mem_take q)
  · rcases List.mem_cons.mp q with q | q
    · rw [q]; rfl
    · exact h b (List.mem_of_mem_drop q)
theorem gM6_book {S : gSt} (h : gM6 (sB S)) (p v d y : Nat) : gM6 (sB (gBook S p v d y)) := gM6_ins h _ _ _ _ _ _
theorem gM6_late {S : gSt} (h : gM6 (sB S)) {K : Nat} (hK : K < (sB S).length) (m : Nat) : gM6 (sB (gLate S K m)) := by
  intro b hb
  have e : sB (gLate S K m) = (sB S).set K (gMin (bk (sB S) K) m) := rfl
  rw [e] at hb
  rcases List.mem_or_eq_of_mem_set hb with q | q
  · exact h b q
  · rw [q]
    show bk (sB S) K 6 = 0
    exact h _ (bk_mem hK)
theorem gM6_gr : ∀ (n T : Nat) {S : gSt}, gM6 (sB S) → gM6 (sB (gGr n T S))
  | 0, _, _, h => h
  | n + 1, T, S, h => by
    rw [gGr]
    cases ei : gTurn (sW S) (sI S 3) T with
    | none => exact h
    | some i =>
      cases hE : gEar S (wq (sW S) i / 10) (wq (sW S) i % 10) 7 with
      | none => simp only [hE]; exact gM6_gr n (T + 1) h
      | some y =>
        simp only [hE]
        refine gM6_gr n T (S := gGive S i y) ?_
        have e : sB (gGive S i y) = sB (gBook S (wq (sW S) i / 10) (wq (sW S) i % 10) (y / 8) (y % 8)) := rfl
        rw [e]
        exact gM6_book h _ _ _ _
theorem gM6_dayL : ∀ (n : Nat) {S : gSt}, gM6 (sB S) → gM6 (sB (gDayL n S))
  | 0, _, h => h
  | n + 1, S, h => by
    rw [gDayL]
    by_cases c : bk (sB S) 0 0 = sN S 0
    · rw [if_pos c]
      refine gM6_dayL n ?_
      rw [gLook_B]
      exact gM6_erase h 0
    · rw [if_neg c]
      exact h
theorem gM6_day {S : gSt} (h : gM6 (sB S)) : gM6 (sB (gDay S)) := by
  unfold gDay
  rw [gNext_B]
  exact gM6_dayL _ (gM6_gr _ _ h)
theorem gM6_days : ∀ (n : Nat) {S : gSt}, gM6 (sB S) → gM6 (sB (gDays n S))
  | 0, _, h => h
  | n + 1, _, h => gM6_days n (gM6_day h)
section
variable {S : gSt}
theorem gM6_tryAdd (h : gM6 (sB S)) (r : Int32) : gM6 (sB (gTryAdd S r).2) := by
  unfold gTryAdd
  split
  · split <;> exact h
  · exact h
theorem gM6_tryPromote (h : gM6 (sB S)) (p r : Int32) : gM6 (sB (gTryPromote S p r).2) := by
  unfold gTryPromote
  split
  · split <;> exact h
  · exact h
theorem gM6_tryList (h : gM6 (sB S)) (p v b : Int32) : gM6 (sB (gTryList S p v b).2) := by
  unfold gTryList
  split <;> exact h
theorem gM6_tryApart (h : gM6 (sB S)) (p q b : Int32) : gM6 (sB (gTryApart S p q b).2) := by
  unfold gTryApart
  split
  · split
    · split <;> exact h
    · exact h
  · exact h
theorem gM6_tryCarry (h : gM6 (sB S)) (v b : Int32) : gM6 (sB (gTryCarry S v b).2) := by
  unfold gTryCarry
  split <;> exact h
theorem gM6_tryPunish (h : gM6 (sB S)) (p n : Int32) : gM6 (sB (gTryPunish S p n).2) := by
  unfold gTryPunish
  split
  · split <;> exact h
  · exact h
theorem gM6_trySet (h : gM6 (sB S)) (q x : Int32) : gM6 (sB (gTrySet S q x).2) := by
  unfold gTrySet
  split
  · split <;> exact h
  · exact h
theorem gM6_tryWish (h : gM6 (sB S)) (p v : Int32) : gM6 (sB (gTryWish S p v).2) := by
  unfold gTryWish
  split
  · split
    · split <;> exact h
    · exact h
  · exact h
theorem gM6_tryBook (h : gM6 (sB S)) (p v d t : Int32) : gM6 (sB (gTryBook S p v d t).2) := by
  unfold gTryBook
  split
  · split
    · split
      · exact gM6_book h _ _ _ _
      · exact h
    · exact h
  · exact h
theorem gM6_tryCancel (h : gM6 (sB S)) (k : Int32) : gM6 (sB (gTryCancel S k).2) := by
  unfold gTryCancel
  split
  · exact gM6_erase h _
  · exact h
theorem gM6_tryLate (h : gM6 (sB S)) (hn : (sB S).length < 2147483648) (k m : Int32) : gM6 (sB (gTryLate S k m).2) := by
  unfold gTryLate
  split
  · rename_i c
    obtain ⟨j, hj, rfl⟩ := gNat_of c (by omega)
    split
    · refine gM6_late h ?_ _
      rw [nI_clamp (by omega)]
      exact hj
    · exact h
  · exact h
theorem gM6_do (h : gM6 (sB S)) (wd : Nat) (nm : Nat → Int32) : gM6 (sB (gDo S wd nm).2) := by
  unfold gDo
  split
  · exact gM6_tryAdd h _
  · split
    · exact gM6_tryList h _ _ _
    · split
      · exact gM6_tryBook h _ _ _ _
      · split
        · exact gM6_tryWish h _ _
        · split
          · exact gM6_tryCarry h _ _
          · exact gM6_days _ h
/-- what a load gives -/
theorem gOk_do (hI : gI3 S) (h : gMz S) {b : Nat} (hb : sN S 0 ≤ b) (hT : b + 30 < 200000000) {wd : Nat} {nm : Nat → Int32} (hw : wd < 6) (h5 : wd = 5 → (nm 0).toNatClampNeg ≤ 30) : gOk (b + 30) (gDo S wd nm).2 := by
  refine ⟨gI3_do hI (by omega) wd nm h5 hw, gMz_iff.mpr (gM6_do (gMz_iff.mp h) wd nm), ?_⟩
  have := gDo_t (S := S) wd nm h5 hw
  omega
end
theorem gOk_load (n : Nat) (sg : Nat → Int32) : ∀ (f a wd : Nat) (nm : Nat → Int32) {S : gSt} (lo b : Nat), gOk b S → b + 30 * f < 200000000 → gOk (b + 30 * f) (gLoad f n sg a wd nm S lo).1
  | 0, _, _, _, _, _, _, h, _ => h
  | f + 1, a, wd, nm, S, lo, b, h, hb => by
    rw [gLoad]
    by_cases c : (gRC n sg a wd nm).1 = true
    · rw [if_pos c]
      obtain ⟨h6, -, -⟩ := (gRC_ind n sg a wd wd nm nm).2.2 c
      have h1 := gOk_do h.1 h.2.1 h.2.2 (by omega) (nm := (gRC n sg a wd nm).2.2.2) h6 (fun e => gRC_5 n sg a wd nm c e)
      have := gOk_load n sg f (gRS n sg (gRC n sg a wd nm).2.1 59) (gRC n sg a wd nm).2.2.1 (gRC n sg a wd nm).2.2.2 (lo + (if (gDo S (gRC n sg a wd nm).2.2.1 (gRC n sg a wd nm).2.2.2).1 < 0 then 1 else 0)) (b + 30) h1 (by omega)
      rw [show b + 30 * (f + 1) = b + 30 + 30 * f by omega]
      exact this
    · rw [if_neg c]
      exact ⟨h.1, h.2.1, Nat.le_trans h.2.2 (Nat.le_add_right _ _)⟩
theorem gOk_0 : gOk 0 gSt0 := ⟨gI3_0, fun k hk => absurd hk (Nat.not_lt_zero k), Nat.le_refl 0⟩
theorem gOk_mono {b b' : Nat} {S : gSt} (h : gOk b S) (hb : b ≤ b') : gOk b' S := ⟨h.1, h.2.1, Nat.le_trans h.2.2 hb⟩
