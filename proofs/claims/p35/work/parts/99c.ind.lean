/-! ===== reading does not depend on what the word and the numbers held before ===== -/
theorem gRW_ind (n a wd wd' : Nat) (sg : Nat → Int32) : ∀ (f k m : Nat), (gRW f k m n sg a wd).1 = (gRW f k m n sg a wd').1 ∧ (gRW f k m n sg a wd).2.1 = (gRW f k m n sg a wd').2.1 ∧ ((gRW f k m n sg a wd).1 = true → (gRW f k m n sg a wd).2.2 = (gRW f k m n sg a wd').2.2)
  | 0, _, _ => ⟨rfl, rfl, fun h => by cases h⟩
  | f + 1, k, m => by
    rw [gRW, gRW]
    by_cases c : gSame n sg a (gWi_z k).2.2.2 = (gWi_z k).2.2.2.length
    · rw [if_pos c, if_pos c]
      exact ⟨rfl, rfl, fun _ => rfl⟩
    · rw [if_neg c, if_neg c]
      exact gRW_ind n a wd wd' sg f (k + 1) _
theorem gRNb_ind (n : Nat) (sg : Nat → Int32) (a : Nat) (nm nm' : Nat → Int32) (i : Nat) (k : Int32) : (gRNb n sg a nm i k).1 = (gRNb n sg a nm' i k).1 ∧ (gRNb n sg a nm i k).2.1 = (gRNb n sg a nm' i k).2.1 ∧ ((gRNb n sg a nm i k).1 = true → (gRNb n sg a nm i k).2.2 = upd nm i (gRNum n sg a k).2 ∧ (gRNb n sg a nm' i k).2.2 = upd nm' i (gRNum n sg a k).2 ∧ (gRNum n sg a k).2 ≠ -1) := by
  unfold gRNb
  by_cases c : (gRNum n sg a k).2 = -1
  · rw [if_pos c, if_pos c]
    exact ⟨rfl, rfl, fun h => by cases h⟩
  · rw [if_neg c, if_neg c]
    exact ⟨rfl, rfl, fun _ => ⟨rfl, rfl, c⟩⟩
theorem gRK_ind (n wd : Nat) (sg : Nat → Int32) : ∀ (l : List Int32) (i a : Nat) (nm nm' : Nat → Int32), (∀ j, j < i → nm j = nm' j) → (gRK n sg wd l i a nm).1 = (gRK n sg wd l i a nm').1 ∧ (gRK n sg wd l i a nm).2.1 = (gRK n sg wd l i a nm').2.1 ∧ (gRK n sg wd l i a nm).2.2.1 = wd ∧ (gRK n sg wd l i a nm').2.2.1 = wd ∧ ((gRK n sg wd l i a nm).1 = true → ∀ j, j < i + l.length → (gRK n sg wd l i a nm).2.2.2 j = (gRK n sg wd l i a nm').2.2.2 j)
  | [], i, a, nm, nm', h => ⟨rfl, rfl, rfl, rfl, fun _ j hj => h j hj⟩
  | k :: l, i, a, nm, nm', h => by
    rw [gRK, gRK]
    by_cases c : gSg n sg a = 44
    · rw [if_pos c, if_pos c]
      obtain ⟨e1, e2, e3⟩ := gRNb_ind n sg (a + 1) nm nm' i k
      by_cases d : (gRNb n sg (a + 1) nm i k).1 = true
      · obtain ⟨q1, q2, -⟩ := e3 d
        rw [if_pos d, if_pos (e1.symm.trans d), ← e2, q1, q2]
        have h2 : ∀ j, j < i + 1 → upd nm i (gRNum n sg (a + 1) k).2 j = upd nm' i (gRNum n sg (a + 1) k).2 j := by
          intro j hj
          by_cases e : j = i
          · rw [upd_eq e, upd_eq e]
          · rw [upd_ne e, upd_ne e]
            exact h j (by omega)
        have r := gRK_ind n wd sg l (i + 1) (gRNb n sg (a + 1) nm i k).2.1 _ _ h2
        refine ⟨r.1, r.2.1, r.2.2.1, r.2.2.2.1, fun t j hj => r.2.2.2.2 t j ?_⟩
        rw [List.length_cons] at hj
        omega
      · rw [if_neg d, if_neg (fun q => d (e1.trans q)), e2]
        exact ⟨rfl, rfl, rfl, rfl, fun t => by cases t⟩
    · rw [if_neg c, if_neg c]
      exact ⟨rfl, rfl, rfl, rfl, fun t => by cases t⟩
theorem gRC_ind (n : Nat) (sg : Nat → Int32) (a wd wd' : Nat) (nm nm' : Nat → Int32) : (gRC n sg a wd nm).1 = (gRC n sg a wd' nm').1 ∧ (gRC n sg a wd nm).2.1 = (gRC n sg a wd' nm').2.1 ∧ ((gRC n sg a wd nm).1 = true → (gRC n sg a wd nm).2.2.1 < 6 ∧ (gRC n sg a wd nm).2.2.1 = (gRC n sg a wd' nm').2.2.1 ∧ ∀ j, j < (gKi_z (gRC n sg a wd nm).2.2.1).2.2.2.length → (gRC n sg a wd nm).2.2.2 j = (gRC n sg a wd' nm').2.2.2 j) := by
  obtain ⟨e1, e2, e3⟩ := gRW_ind n a wd wd' sg 6 0 0
  have e1' : (gRWd n sg a wd).1 = (gRWd n sg a wd').1 := e1
  have e2' : (gRWd n sg a wd).2.1 = (gRWd n sg a wd').2.1 := e2
  have e3' : (gRWd n sg a wd).1 = true → (gRWd n sg a wd).2.2 = (gRWd n sg a wd').2.2 := e3
  unfold gRC
  by_cases c : (gRWd n sg a wd).1 = true
  · have hw : (gRWd n sg a wd).2.2 < 6 := gRWd_lt c rfl
    rw [if_pos c, if_pos (e1'.symm.trans c), ← e2', ← e3' c]
    have r := gRK_ind n (gRWd n sg a wd).2.2 sg (gKi_z (gRWd n sg a wd).2.2).2.2.2 0 (gRWd n sg a wd).2.1 nm nm' (fun j hj => absurd hj (Nat.not_lt_zero j))
    refine ⟨r.1, r.2.1, fun t => ⟨by rw [r.2.2.1]; exact hw, by rw [r.2.2.1, r.2.2.2.1], fun j hj => r.2.2.2.2 t j ?_⟩⟩
    rw [r.2.2.1] at hj
    omega
  · rw [if_neg c, if_neg (fun q => c (e1'.trans q)), e2']
    exact ⟨rfl, rfl, fun t => by cases t⟩
theorem gDo_ind (S : gSt) (wd : Nat) (nm nm' : Nat → Int32) (hw : wd < 6) (h : ∀ j, j < (gKi_z wd).2.2.2.length → nm j = nm' j) : gDo S wd nm = gDo S wd nm' := by
  unfold gDo
  rcases (show wd = 0 ∨ wd = 1 ∨ wd = 2 ∨ wd = 3 ∨ wd = 4 ∨ wd = 5 by omega) with rfl | rfl | rfl | rfl | rfl | rfl
  · show gTryAdd S (nm 0) = gTryAdd S (nm' 0)
    rw [h 0 (by decide)]
  · show gTryList S (nm 0) (nm 1) 1 = gTryList S (nm' 0) (nm' 1) 1
    rw [h 0 (by decide), h 1 (by decide)]
  · show gTryBook S (nm 0) (nm 1) (nm 2) (nm 3) = gTryBook S (nm' 0) (nm' 1) (nm' 2) (nm' 3)
    rw [h 0 (by decide), h 1 (by decide), h 2 (by decide), h 3 (by decide)]
  · show gTryWish S (nm 0) (nm 1) = gTryWish S (nm' 0) (nm' 1)
    rw [h 0 (by decide), h 1 (by decide)]
  · show gTryCarry S (nm 0) 1 = gTryCarry S (nm' 0) 1
    rw [h 0 (by decide)]
  · show (sI (gDays (nm 0).toNatClampNeg S) 8 0 - sI S 8 0, gDays (nm 0).toNatClampNeg S) = (sI (gDays (nm' 0).toNatClampNeg S) 8 0 - sI S 8 0, gDays (nm' 0).toNatClampNeg S)
    rw [h 0 (by decide)]
theorem gEI_ind (n : Nat) (sg : Nat → Int32) : ∀ (f a wd wd' : Nat) (nm nm' : Nat → Int32), (gEI f n sg a wd nm).1 = (gEI f n sg a wd' nm').1
  | 0, _, _, _, _, _ => rfl
  | f + 1, a, wd, wd', nm, nm' => by
    obtain ⟨e1, e2, -⟩ := gRC_ind n sg a wd wd' nm nm'
    rw [gEI, gEI]
    by_cases c : (gRC n sg a wd nm).1 = true
    · rw [if_pos c, if_pos (e1.symm.trans c), ← e2]
      by_cases d : (gRC n sg a wd nm).2.1 < n
      · rw [if_pos d, if_pos d]
        by_cases g : gSg n sg (gRC n sg a wd nm).2.1 = 59
        · rw [if_pos g, if_pos g]
          exact gEI_ind n sg f _ _ _ _ _
        · rw [if_neg g, if_neg g]
      · rw [if_neg d, if_neg d]
    · rw [if_neg c, if_neg (fun q => c (e1.trans q))]
      show nI (gRC n sg a wd nm).2.1 = nI (gRC n sg a wd' nm').2.1
      rw [e2]
theorem gLoad_ind (n : Nat) (sg : Nat → Int32) : ∀ (f a wd wd' : Nat) (nm nm' : Nat → Int32) (S : gSt) (lo : Nat), gLoad f n sg a wd nm S lo = gLoad f n sg a wd' nm' S lo
  | 0, _, _, _, _, _, _, _ => rfl
  | f + 1, a, wd, wd', nm, nm', S, lo => by
    obtain ⟨e1, e2, e3⟩ := gRC_ind n sg a wd wd' nm nm'
    rw [gLoad, gLoad]
    by_cases c : (gRC n sg a wd nm).1 = true
    · obtain ⟨h6, ew, en⟩ := e3 c
      have ed := gDo_ind S (gRC n sg a wd nm).2.2.1 (gRC n sg a wd nm).2.2.2 (gRC n sg a wd' nm').2.2.2 h6 en
      rw [if_pos c, if_pos (e1.symm.trans c), ← e2, ← ew, ed]
      exact gLoad_ind n sg f _ _ _ _ _ _ _
    · rw [if_neg c, if_neg (fun q => c (e1.trans q))]
/-- what is read as a number of the kind n is at most 30 -/
theorem gRN_hi {n : Nat} {sg : Nat → Int32} {lo hi : Int32} : ∀ (f a : Nat) (v : Int32), (v = -1 ∨ (¬ v < lo ∧ ¬ hi < v)) → ((gRN n sg lo hi f a v).2 = -1 ∨ (¬ (gRN n sg lo hi f a v).2 < lo ∧ ¬ hi < (gRN n sg lo hi f a v).2))
  | 0, _, _, h => h
  | f + 1, a, v, h => by
    rw [gRN]
    by_cases c : (¬ gWD v (gSg n sg a) < lo ∧ ¬ hi < gWD v (gSg n sg a))
    · rw [if_pos c]
      exact gRN_hi f (a + 1) _ (Or.inr c)
    · rw [if_neg c]
      exact h
theorem gRC_5 (n : Nat) (sg : Nat → Int32) (a wd : Nat) (nm : Nat → Int32) (c : (gRC n sg a wd nm).1 = true) (h5 : (gRC n sg a wd nm).2.2.1 = 5) : ((gRC n sg a wd nm).2.2.2 0).toNatClampNeg ≤ 30 := by
  unfold gRC at c h5 ⊢
  by_cases q : (gRWd n sg a wd).1 = true
  · rw [if_pos q] at c h5 ⊢
    have r := gRK_ind n (gRWd n sg a wd).2.2 sg (gKi_z (gRWd n sg a wd).2.2).2.2.2 0 (gRWd n sg a wd).2.1 nm nm (fun _ _ => rfl)
    rw [r.2.2.1] at h5
    rw [h5] at c ⊢
    have el : (gKi_z 5).2.2.2 = [110] := by decide
    rw [el] at c ⊢
    rw [gRK] at c ⊢
    split at c
    · rename_i c1
      rw [if_pos c1]
      split at c
      · rename_i c2
        rw [if_pos c2, gRK]
        obtain ⟨-, -, e3⟩ := gRNb_ind n sg ((gRWd n sg a wd).2.1 + 1) nm nm 0 110
        obtain ⟨e4, -, e5⟩ := e3 c2
        rw [e4]
        show (upd nm 0 (gRNum n sg ((gRWd n sg a wd).2.1 + 1) 110).2 0).toNatClampNeg ≤ 30
        rw [upd_eq rfl]
        have hh := gRN_hi (n := n) (sg := sg) (lo := gLe 110) (hi := gMo 110) (n - ((gRWd n sg a wd).2.1 + 1)) ((gRWd n sg a wd).2.1 + 1) (-1) (Or.inl rfl)
        have hh2 := hh.resolve_left e5
        have e30 : gMo 110 = 30 := by decide
        rw [e30] at hh2
        have h3 : ¬ (30 : Int32) < (gRNum n sg ((gRWd n sg a wd).2.1 + 1) 110).2 := hh2.2
        rw [Int32.lt_iff_toInt_lt, show (30 : Int32).toInt = 30 by decide] at h3
        have h4 : (gRNum n sg ((gRWd n sg a wd).2.1 + 1) 110).2.toInt ≤ 30 := by omega
        rw [Int32.toNatClampNeg]
        omega
      · cases c
    · cases c
  · rw [if_neg q] at c
    cases c
