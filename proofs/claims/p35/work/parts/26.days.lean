theorem fb_holes : ∀ (m n : Nat) (f : Nat → Nat), (∀ i, i < n → f i < m) → (∀ i j, i < j → j < n → f i ≠ f j) → n ≤ m := by
  intro m
  induction m with
  | zero =>
    intro n f h1 _
    rcases Nat.eq_zero_or_pos n with h | h
    · omega
    · exact absurd (h1 0 h) (Nat.not_lt_zero _)
  | succ m ih =>
    intro n f h1 h2
    by_cases hx : ∃ i, i < n ∧ f i = m
    · obtain ⟨a, ha, hfa⟩ := hx
      have hg := ih (n - 1) (fun i => if i < a then f i else f (i + 1)) (by
        intro i hi
        by_cases q : i < a
        · simp only [if_pos q]
          have b1 := h1 i (by omega)
          have b2 := h2 i a q ha
          omega
        · simp only [if_neg q]
          have b1 := h1 (i + 1) (by omega)
          have b2 := h2 a (i + 1) (by omega) (by omega)
          omega) (by
        intro i j hij hj
        by_cases q : i < a
        · by_cases r : j < a
          · simp only [if_pos q, if_pos r]
            exact h2 i j hij (by omega)
          · simp only [if_pos q, if_neg r]
            exact h2 i (j + 1) (by omega) (by omega)
        · have r : ¬ j < a := by omega
          simp only [if_neg q, if_neg r]
          exact h2 (i + 1) (j + 1) (by omega) (by omega))
      omega
    · have hg := ih n f (fun i hi => by
        have b1 := h1 i hi
        have b2 : f i ≠ m := fun e => hx ⟨i, hi, e⟩
        omega) h2
      omega
/-- two of them in one place -/
theorem fb_twice {m n : Nat} {f : Nat → Nat} (h : ∀ i, i < n → f i < m) (hm : m < n) : ∃ i j, i < j ∧ j < n ∧ f i = f j := by
  refine Classical.byContradiction fun hx => ?_
  have := fb_holes m n f h (fun i j hij hj e => hx ⟨i, j, hij, hj, e⟩)
  omega
/-- as many as places, none twice: each place is taken -/
theorem fb_onto {n : Nat} {f : Nat → Nat} (h : ∀ i, i < n → f i < n) (h2 : ∀ i j, i < j → j < n → f i ≠ f j) {y : Nat} (hy : y < n) : ∃ i, i < n ∧ f i = y := by
  refine Classical.byContradiction fun hx => ?_
  have hne : ∀ i, i < n → f i ≠ y := fun i hi e => hx ⟨i, hi, e⟩
  have := fb_holes (n - 1) n (fun i => if f i < y then f i else f i - 1) (by
    intro i hi
    have b1 := h i hi
    have b2 := hne i hi
    by_cases q : f i < y
    · simp only [if_pos q]; omega
    · simp only [if_neg q]; omega) (by
    intro i j hij hj
    have b1 := hne i (by omega)
    have b2 := hne j hj
    have b3 := h2 i j hij hj
    by_cases q : f i < y
    · by_cases r : f j < y
      · simp only [if_pos q, if_pos r]; exact b3
      · simp only [if_pos q, if_neg r]; omega
    · by_cases r : f j < y
      · simp only [if_neg q, if_pos r]; omega
      · simp only [if_neg q, if_neg r]; omega)
  omega
/-! ===== how many places have a property ===== -/
theorem gCnt_lt {p q : Nat → Bool} : ∀ {n : Nat}, (∀ k, k < n → p k = true → q k = true) → (∃ k, k < n ∧ p k = false ∧ q k = true) → gCnt p n < gCnt q n
  | 0, _, h => by obtain ⟨k, hk, -⟩ := h; omega
  | n + 1, hs, h => by
    obtain ⟨k, hk, h1, h2⟩ := h
    have hle : gCnt p n ≤ gCnt q n := by
      clear h1 h2 hk
      have hs' : ∀ k, k < n → p k = true → q k = true := fun k hk => hs k (by omega)
      clear hs
      induction n with
      | zero => exact Nat.le_refl 0
      | succ n ih =>
        have := ih (fun k hk => hs' k (by omega))
        have h3 := hs' n (by omega)
        unfold gCnt
        cases e : p n
        · simp; split <;> omega
        · rw [h3 e]; simp; omega
    have h3 := hs n (by omega)
    unfold gCnt
    rcases Nat.lt_or_ge k n with q1 | q1
    · have := gCnt_lt (p := p) (q := q) (n := n) (fun k hk => hs k (by omega)) ⟨k, q1, h1, h2⟩
      cases e : p n
      · simp; split <;> omega
      · rw [h3 e]; simp; omega
    · obtain rfl : k = n := by omega
      rw [h1, h2]
      simp
      omega
theorem gRk_irr (W : List Nat) (hf : Nat → Int32) (i : Nat) : gRk W hf i i = false := by simp [gRk]
theorem gRk_trans {W : List Nat} {hf : Nat → Int32} {i j o : Nat} (h1 : gRk W hf j i = true) (h2 : gRk W hf i o = true) : gRk W hf j o = true := by
  simp only [gRk, Bool.or_eq_true, Bool.and_eq_true, decide_eq_true_eq, Int32.lt_iff_toInt_lt, ← Int32.toInt_inj] at *
  omega
theorem gRk_tot {W : List Nat} {hf : Nat → Int32} {i j : Nat} (h : i ≠ j) : gRk W hf j i = true ∨ gRk W hf i j = true := by
  simp only [gRk, Bool.or_eq_true, Bool.and_eq_true, decide_eq_true_eq, Int32.lt_iff_toInt_lt, ← Int32.toInt_inj]
  omega
theorem gRank_mono {W : List Nat} {hf : Nat → Int32} {i j : Nat} (hi : i < W.length) (h : gRk W hf j i = true) : gRank W hf i < gRank W hf j :=
  gCnt_lt (fun k _ hk => gRk_trans h hk) ⟨i, hi, gRk_irr W hf i, h⟩
theorem gRank_ne {W : List Nat} {hf : Nat → Int32} {i j : Nat} (hi : i < W.length) (hj : j < W.length) (h : i ≠ j) : gRank W hf i ≠ gRank W hf j := by
  rcases gRk_tot (W := W) (hf := hf) h with q | q
  · have := gRank_mono hi q; omega
  · have := gRank_mono hj q; omega
theorem gCnt_full {p : Nat → Bool} : ∀ {n : Nat}, (∃ k, k < n ∧ p k = false) → gCnt p n < n
  | 0, h => by obtain ⟨k, hk, -⟩ := h; omega
  | n + 1, h => by
    obtain ⟨k, hk, h1⟩ := h
    unfold gCnt
    rcases Nat.lt_or_ge k n with q1 | q1
    · have := gCnt_full (p := p) (n := n) ⟨k, q1, h1⟩
      split <;> omega
    · obtain rfl : k = n := by omega
      have := gCnt_le p k
      rw [h1]
      simp
      omega
theorem gRank_lt {W : List Nat} {hf : Nat → Int32} {i : Nat} (hi : i < W.length) : gRank W hf i < W.length := gCnt_full ⟨i, hi, gRk_irr W hf i⟩
theorem gTurn_ex {W : List Nat} {hf : Nat → Int32} {T : Nat} (hT : T < W.length) : ∃ i, i < W.length ∧ gTurn W hf T = some i := by
  obtain ⟨i, hi, e⟩ := fb_onto (n := W.length) (f := fun i => gRank W hf i) (fun i hi => gRank_lt hi) (fun i j hij hj => gRank_ne (by omega) hj (by omega)) hT
  refine ⟨i, hi, ?_⟩
  unfold gTurn
  rw [List.find?_range_eq_some]
  refine ⟨by simp [e], by simp [hi], fun j hj => ?_⟩
  have := gRank_ne (W := W) (hf := hf) (i := j) (j := i) (by omega) hi (by omega)
  have e' : gRank W hf i = T := e
  simp
  omega
theorem gTurn_lt {W : List Nat} {hf : Nat → Int32} {T i : Nat} (h : gTurn W hf T = some i) : i < W.length ∧ gRank W hf i = T := by
  unfold gTurn at h
  rw [List.find?_range_eq_some] at h
  have h1 := h.1
  have h2 := h.2.1
  simp at h1 h2
  exact ⟨h2, h1⟩
theorem gEar_spec {S : gSt} {p v n t : Nat} (h : gEar S p v n = some t) : (8 * sN S 0 ≤ t ∧ t < 8 * (sN S 0 + n)) ∧ gRA S p v (t / 8) (t % 8) = 0 := by
  unfold gEar at h
  cases e : (List.range (8 * n)).find? (fun t => gRA S p v (sN S 0 + t / 8) (t % 8) == 0) with
  | none => rw [e] at h; cases h
  | some j =>
    rw [e] at h
    have h' : 8 * sN S 0 + j = t := Option.some.inj h
    rw [List.find?_range_eq_some] at e
    obtain ⟨h1, h2, -⟩ := e
    simp at h1 h2
    have e1 : t / 8 = sN S 0 + j / 8 := by omega
    have e2 : t % 8 = j % 8 := by omega
    rw [e1, e2]
    exact ⟨by omega, h1⟩
theorem gNe_m1 {t : Nat} (h : t < 2147483648) (e : nI t = -1) : False := by
  have h1 : (nI t).toInt = (t : Int) := nI_toInt h
  rw [e] at h1
  have h2 : (-1 : Int32).toInt = -1 := by decide
  omega
/-- a wish becomes a booking -/
def gUnw (S : gSt) (i : Nat) : gSt := uW S ((sW S).eraseIdx i)
theorem gUnw_len {S : gSt} {i : Nat} (h : i < (sW S).length) : (sW (gUnw S i)).length = (sW S).length - 1 := by
  show ((sW S).eraseIdx i).length = _
  rw [List.length_eraseIdx, if_pos h]
def gGive (S : gSt) (i t : Nat) : gSt := gUnw (gBook S (wq (sW S) i / 10) (wq (sW S) i % 10) (t / 8) (t % 8)) i
/-- the wishes are looked at: so many more, the one whose turn is T first -/
def gGr : Nat → Nat → gSt → gSt
  | 0, _, S => S
  | n + 1, T, S => match gTurn (sW S) (sI S 3) T with
    | none => S
    | some i => match gEar S (wq (sW S) i / 10) (wq (sW S) i % 10) 7 with
      | none => gGr n (T + 1) S
      | some t => gGr n T (gGive S i t)
def gGrant (S : gSt) : gSt := gGr (sW S).length 0 S
theorem gGr_none {lf T i : Nat} {S : gSt} (hl : 0 < lf) (ei : gTurn (sW S) (sI S 3) T = some i) (hE : gEar S (wq (sW S) i / 10) (wq (sW S) i % 10) 7 = none) : gGr lf T S = gGr (lf - 1) (T + 1) S := by
  obtain ⟨n, rfl⟩ : ∃ n, lf = n + 1 := ⟨lf - 1, by omega⟩
  rw [gGr, ei]
  simp only [hE]
  rfl
theorem gGr_some {lf T i t : Nat} {S : gSt} (hl : 0 < lf) (ei : gTurn (sW S) (sI S 3) T = some i) (hE : gEar S (wq (sW S) i / 10) (wq (sW S) i % 10) 7 = some t) : gGr lf T S = gGr (lf - 1) T (gGive S i t) := by
  obtain ⟨n, rfl⟩ : ∃ n, lf = n + 1 := ⟨lf - 1, by omega⟩
  rw [gGr, ei]
  simp only [hE]
  rfl
theorem gI1_give {S : gSt} {T i t : Nat} (hI : gI1 S) (ei : gTurn (sW S) (sI S 3) T = some i) (hE : gEar S (wq (sW S) i / 10) (wq (sW S) i % 10) 7 = some t) : gI1 (gGive S i t) := by
  have hi := (gTurn_lt ei).1
  have hw := hI.2.2.2.1 i hi
  have he := gEar_spec hE
  exact gI1_eraseW (gI1_book hI (gRA_nf he.2) hw.2 (by omega)) i
theorem gI1_gr : ∀ (n T : Nat) {S : gSt}, gI1 S → gI1 (gGr n T S)
  | 0, _, _, h => h
  | n + 1, T, S, h => by
    rw [gGr]
    cases ei : gTurn (sW S) (sI S 3) T with
    | none => exact h
    | some i =>
      cases hE : gEar S (wq (sW S) i / 10) (wq (sW S) i % 10) 7 with
      | none => simp only [hE]; exact gI1_gr n (T + 1) h
      | some t => simp only [hE]; exact gI1_gr n T (gI1_give h ei hE)
theorem gI1_grant {S : gSt} (h : gI1 S) : gI1 (gGrant S) := gI1_gr _ _ h
theorem gGr_0 : ∀ (n T : Nat) (S : gSt), sN (gGr n T S) 0 = sN S 0
  | 0, _, _ => rfl
  | n + 1, T, S => by
    rw [gGr]
    cases ei : gTurn (sW S) (sI S 3) T with
    | none => rfl
    | some i =>
      cases hE : gEar S (wq (sW S) i / 10) (wq (sW S) i % 10) 7 with
      | none => simp only [hE]; exact gGr_0 n (T + 1) S
      | some t => simp only [hE]; exact gGr_0 n T (gGive S i t)
theorem gGrant_0 (S : gSt) : sN (gGrant S) 0 = sN S 0 := gGr_0 _ _ S
theorem gT_grant {S : gSt} (h : sN S 0 < 1000000000) : sN (gGrant S) 0 < 1000000000 := by rw [gGrant_0]; exact h
/-! days -/
def gDayL : Nat → gSt → gSt
  | 0, S => S
  | n + 1, S => if bk (sB S) 0 0 = sN S 0 then gDayL n (gLook S).2 else S
def gDayT (S : gSt) : gSt := gDayL (sB (gGrant S)).length (gGrant S)
def gDay (S : gSt) : gSt := gNext (gDayT S)
def gDays : Nat → gSt → gSt
  | 0, S => S
  | n + 1, S => gDays n (gDay S)
theorem gT_of {S : gSt} {k : Nat} (h : sN S 0 + k < 200000000) : sN S 0 < 1000000000 := by omega
theorem gT_8 {S : gSt} (h : sN S 0 < 200000000) : sN S 0 < 1000000000 := by omega
theorem gNext_0 (S : gSt) : sN (gNext S) 0 = sN S 0 + 1 := by unfold gNext; split <;> rfl
theorem gI1_next {S : gSt} (h : gI1 S) : gI1 (gNext S) := by
  unfold gNext
  split
  · exact h
  · exact gI1_uI (S := uN S 0 (sN S 0 + 1)) h
theorem gBan_0 (S : gSt) (v : Nat) : sN (gBan S v) 0 = sN S 0 := by unfold gBan; split <;> rfl
theorem gTake_0 (S : gSt) (v : Nat) : sN (gTake S v) 0 = sN S 0 := by unfold gTake; split <;> rfl
theorem gThird_0 (S : gSt) (v : Nat) : sN (gThird S v).2 0 = sN S 0 := by unfold gThird; split <;> rfl
theorem gJudge_0 (S : gSt) (p v m : Nat) : sN (gJudge S p v m).2 0 = sN S 0 := by
  unfold gJudge
  split
  · rfl
  · split
    · rfl
    · split
      · split
        · exact (gTake_0 _ _).trans (gBan_0 _ _)
        · split
          · rfl
          · split
            · exact gThird_0 S v
            · exact (gBan_0 _ _).trans (gThird_0 S v)
      · split
        · rfl
        · split
          · exact gThird_0 S v
          · exact (gBan_0 _ _).trans (gThird_0 S v)
theorem gBan_B (S : gSt) (v : Nat) : sB (gBan S v) = sB S := by unfold gBan; split <;> rfl
theorem gTake_B (S : gSt) (v : Nat) : sB (gTake S v) = sB S := by unfold gTake; split <;> rfl
theorem gThird_B (S : gSt) (v : Nat) : sB (gThird S v).2 = sB S := by unfold gThird; split <;> rfl
theorem gJudge_B (S : gSt) (p v m : Nat) : sB (gJudge S p v m).2 = sB S := by
  unfold gJudge
  split
  · rfl
  · split
    · rfl
    · split
      · split
        · exact (gTake_B _ _).trans (gBan_B _ _)
        · split
          · rfl
          · split
            · exact gThird_B S v
            · exact (gBan_B _ _).trans (gThird_B S v)
      · split
        · rfl
        · split
          · exact gThird_B S v
          · exact (gBan_B _ _).trans (gThird_B S v)
theorem gLook_0 (S : gSt) : sN (gLook S).2 0 = sN S 0 := by
  have h3 : sN (gL4 S) 0 = sN S 0 := gJudge_0 (gL2 S) _ _ _
  unfold gLook
  show sN (if (gL3 S).1 = 0 then gHeld (gL4 S) (bk (sB S) 0 3) else gL4 S) 0 = _
  split <;> exact h3
theorem gLook_B (S : gSt) : sB (gLook S).2 = (sB S).eraseIdx 0 := by
  have h3 : sB (gL4 S) = (sB S).eraseIdx 0 := gJudge_B (gL2 S) _ _ _
  unfold gLook
  show sB (if (gL3 S).1 = 0 then gHeld (gL4 S) (bk (sB S) 0 3) else gL4 S) = _
  split <;> exact h3
theorem gLook_len {S : gSt} {lf : Nat} (h : 0 < lf) : (sB (gLook S).2).length = (sB S).length - 1 := by
  rw [gLook_B, List.length_eraseIdx]
  split <;> omega
theorem gDayL_st {lf : Nat} {S : gSt} (hl : 0 < lf) (_ : lf = (sB S).length) (hd : bk (sB S) 0 0 = sN S 0) : gDayL lf S = gDayL (lf - 1) (gLook S).2 := by
  obtain ⟨n, rfl⟩ : ∃ n, lf = n + 1 := ⟨lf - 1, by omega⟩
  rw [gDayL, if_pos hd]
  rfl
theorem gDayL_no {lf : Nat} {S : gSt} (hl : 0 < lf) (_ : lf = (sB S).length) (hd : ¬ bk (sB S) 0 0 = sN S 0) : gDayL lf S = S := by
  obtain ⟨n, rfl⟩ : ∃ n, lf = n + 1 := ⟨lf - 1, by omega⟩
  rw [gDayL, if_neg hd]
theorem gDays_st {n k : Nat} {S : gSt} (h : k < n) : gDays (n - k) S = gDays (n - (k + 1)) (gNext (gDayT S)) := by
  obtain ⟨j, hj⟩ : ∃ j, n - k = j + 1 := ⟨n - k - 1, by omega⟩
  rw [hj, show n - (k + 1) = j by omega]
  rfl
theorem gI1_dayL : ∀ (n : Nat) {S : gSt}, gI1 S → gI1 (gDayL n S)
  | 0, _, h => h
  | n + 1, S, h => by
    rw [gDayL]
    split
    · exact gI1_dayL n (gI1_look h)
    · exact h
theorem gI1_day {S : gSt} (h : gI1 S) : gI1 (gDay S) := gI1_next (gI1_dayL _ (gI1_grant h))
theorem gI1_days : ∀ {S : gSt}, gI1 S → ∀ n, gI1 (gDays n S)
  | _, h, 0 => h
  | _, h, n + 1 => gI1_days (gI1_day h) n
theorem gDayL_0 : ∀ (n : Nat) (S : gSt), sN (gDayL n S) 0 = sN S 0
  | 0, _ => rfl
  | n + 1, S => by
    rw [gDayL]
    split
    · rw [gDayL_0 n, gLook_0]
    · rfl
theorem gDay_0 (S : gSt) : sN (gDay S) 0 = sN S 0 + 1 := by
  unfold gDay gDayT
  rw [gNext_0, gDayL_0, gGrant_0]
theorem gDays_0 : ∀ (n : Nat) (S : gSt), sN (gDays n S) 0 = sN S 0 + n
  | 0, _ => rfl
  | n + 1, S => by
    show sN (gDays n (gDay S)) 0 = _
    rw [gDays_0 n, gDay_0]
    omega
