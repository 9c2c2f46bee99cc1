/-! ===== the text as a whole ===== -/
theorem gRN_ge {n : Nat} {sg : Nat → Int32} {lo hi : Int32} : ∀ (f a : Nat) (v : Int32), a ≤ (gRN n sg lo hi f a v).1
  | 0, _, _ => Nat.le_refl _
  | f + 1, a, v => by
    rw [gRN]
    split
    · have := gRN_ge (n := n) (sg := sg) (lo := lo) (hi := hi) f (a + 1) (gWD v (gSg n sg a))
      omega
    · exact Nat.le_refl _
theorem gRNb_ge {n a i : Nat} {sg nm : Nat → Int32} {k : Int32} : a ≤ (gRNb n sg a nm i k).2.1 := by
  have h : a ≤ (gRNum n sg a k).1 := gRN_ge (n - a) a (-1)
  unfold gRNb
  split <;> exact h
theorem gRK_ge {n wd : Nat} {sg : Nat → Int32} : ∀ (l : List Int32) (i a : Nat) (nm : Nat → Int32), a ≤ (gRK n sg wd l i a nm).2.1
  | [], _, _, _ => Nat.le_refl _
  | k :: l, i, a, nm => by
    rw [gRK]
    have h := gRNb_ge (n := n) (a := a + 1) (i := i) (sg := sg) (nm := nm) (k := k)
    split
    · split
      · have := gRK_ge (n := n) (wd := wd) (sg := sg) l (i + 1) (gRNb n sg (a + 1) nm i k).2.1 (gRNb n sg (a + 1) nm i k).2.2
        omega
      · show a ≤ (gRNb n sg (a + 1) nm i k).2.1
        omega
    · exact Nat.le_refl _
theorem gRK_w {n wd : Nat} {sg : Nat → Int32} : ∀ (l : List Int32) (i a : Nat) (nm : Nat → Int32), (gRK n sg wd l i a nm).2.2.1 = wd
  | [], _, _, _ => rfl
  | k :: l, i, a, nm => by
    rw [gRK]
    split
    · split
      · exact gRK_w l _ _ _
      · rfl
    · rfl
theorem gRWd_ge {n a wd : Nat} {sg : Nat → Int32} (h : (gRWd n sg a wd).1 = true) : a + 3 ≤ (gRWd n sg a wd).2.1 ∧ (gRWd n sg a wd).2.2 < 6 := by
  rw [gRWd_eq] at h ⊢
  split
  · exact ⟨by show a + 3 ≤ a + 3; omega, show 0 < 6 by decide⟩
  · rename_i c0
    rw [if_neg c0] at h
    split
    · exact ⟨by show a + 3 ≤ a + 3; omega, show 1 < 6 by decide⟩
    · rename_i c1
      rw [if_neg c1] at h
      split
      · exact ⟨by show a + 3 ≤ a + 4; omega, show 2 < 6 by decide⟩
      · rename_i c2
        rw [if_neg c2] at h
        split
        · exact ⟨by show a + 3 ≤ a + 4; omega, show 3 < 6 by decide⟩
        · rename_i c3
          rw [if_neg c3] at h
          split
          · exact ⟨by show a + 3 ≤ a + 3; omega, show 4 < 6 by decide⟩
          · rename_i c4
            rw [if_neg c4] at h
            split
            · exact ⟨by show a + 3 ≤ a + 3; omega, show 5 < 6 by decide⟩
            · rename_i c5
              rw [if_neg c5] at h
              cases h
theorem gRC_ge {n a wd : Nat} {sg nm : Nat → Int32} (h : (gRC n sg a wd nm).1 = true) : a + 3 ≤ (gRC n sg a wd nm).2.1 ∧ (gRC n sg a wd nm).2.2.1 < 6 := by
  unfold gRC at h ⊢
  by_cases c : (gRWd n sg a wd).1 = true
  · rw [if_pos c] at h ⊢
    have h1 := gRWd_ge c
    have h2 := gRK_ge (n := n) (sg := sg) (wd := (gRWd n sg a wd).2.2) (gKi_z (gRWd n sg a wd).2.2).2.2.2 0 (gRWd n sg a wd).2.1 nm
    rw [gRK_w]
    exact ⟨by omega, h1.2⟩
  · rw [if_neg c] at h
    cases h
/-- what a text that is read does to a state, and how many of its commands are left out -/
def gLoad : Nat → Nat → (Nat → Int32) → Nat → Nat → (Nat → Int32) → gSt → Nat → gSt × Nat
  | 0, _, _, _, _, _, S, lo => (S, lo)
  | f + 1, n, sg, a, wd, nm, S, lo => if (gRC n sg a wd nm).1 = true then gLoad f n sg (gRS n sg (gRC n sg a wd nm).2.1 59) (gRC n sg a wd nm).2.2.1 (gRC n sg a wd nm).2.2.2 (gDo S (gRC n sg a wd nm).2.2.1 (gRC n sg a wd nm).2.2.2).2 (lo + (if (gDo S (gRC n sg a wd nm).2.2.1 (gRC n sg a wd nm).2.2.2).1 < 0 then 1 else 0)) else (S, lo)
section
variable {n a x lo : Nat} {sg : Nat → Int32} {S T : gSt}
theorem gLoad_good {f wd w : Nat} {nm m : Nat → Int32} (h : gRC n sg a wd nm = (true, x, w, m)) : gLoad (f + 1) n sg a wd nm S lo = gLoad f n sg (gRS n sg x 59) w m (gDo S w m).2 (lo + (if (gDo S w m).1 < 0 then 1 else 0)) := by
  rw [gLoad, h]
  exact if_pos rfl
theorem gDo_t (wd : Nat) (nm : Nat → Int32) (h5 : wd = 5 → (nm 0).toNatClampNeg ≤ 30) (hw : wd < 6) : sN (gDo S wd nm).2 0 ≤ sN S 0 + 30 := by
  unfold gDo
  split
  · rw [gTryAdd_0]; omega
  · split
    · rw [gTryList_0]; omega
    · split
      · rw [gTryBook_0]; omega
      · split
        · rw [gTryWish_0]; omega
        · split
          · have e : sN (gTryCarry S (nm 0) 1).2 0 = sN S 0 := by unfold gTryCarry; split <;> rfl
            rw [e]; omega
          · have := h5 (by omega)
            rw [gDays_0]; omega
end
