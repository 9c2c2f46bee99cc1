/-! ===== wishes that are struck out: the reference's grant against the class's ===== -/
theorem gCnt_congr {p q : Nat → Bool} : ∀ {n : Nat}, (∀ k, k < n → p k = q k) → gCnt p n = gCnt q n
  | 0, _ => rfl
  | n + 1, h => by
    rw [gCnt, gCnt, gCnt_congr (fun k hk => h k (by omega)), h n (by omega)]
theorem gCnt_mono {p : Nat → Bool} {k n : Nat} (h : k ≤ n) : gCnt p k ≤ gCnt p n := by
  induction n with
  | zero => obtain rfl : k = 0 := by omega
            exact Nat.le_refl _
  | succ n ih =>
    by_cases c : k = n + 1
    · rw [c]; exact Nat.le_refl _
    · have := ih (by omega)
      rw [gCnt]
      omega
theorem gCnt_st {p : Nat → Bool} {k n : Nat} (h : k < n) (hp : p k = true) : gCnt p k < gCnt p n := by
  have h1 := gCnt_mono (p := p) (show k + 1 ≤ n from h)
  rw [gCnt, hp] at h1
  simp only [if_true] at h1
  omega
theorem gCnt_sub {P q : Nat → Bool} : ∀ n : Nat, gCnt P (gCnt q n) = gCnt (fun j => q j && P (gCnt q j)) n
  | 0 => rfl
  | n + 1 => by
    rw [gCnt, gCnt, ← gCnt_sub n]
    cases e : q n
    · simp
    · simp only [if_true, Bool.true_and]
      rfl
theorem gCnt_two (q p : Nat → Bool) : ∀ n : Nat, gCnt p n = gCnt (fun j => q j && p j) n + gCnt (fun j => !q j && p j) n
  | 0 => rfl
  | n + 1 => by
    rw [gCnt, gCnt, gCnt, gCnt_two q p n]
    cases q n <;> cases p n <;> simp <;> omega
theorem gCnt_not (p : Nat → Bool) : ∀ n : Nat, gCnt p n + gCnt (fun j => !p j) n = n
  | 0 => rfl
  | n + 1 => by
    have := gCnt_not p n
    rw [gCnt, gCnt]
    cases p n <;> simp <;> omega
def gLv (Z : List Nat) (j : Nat) : Bool := decide (wq Z j ≠ 4294967295)
def gFlN (Z : List Nat) : Nat → List Nat
  | 0 => []
  | k + 1 => if wq Z k = 4294967295 then gFlN Z k else gFlN Z k ++ [wq Z k]
theorem gFlN_len (Z : List Nat) : ∀ k, (gFlN Z k).length = gCnt (gLv Z) k
  | 0 => rfl
  | k + 1 => by
    rw [gFlN, gCnt]
    by_cases c : wq Z k = 4294967295
    · rw [if_pos c, gFlN_len Z k, if_neg (by simp [gLv, c])]
      rfl
    · rw [if_neg c, List.length_append, gFlN_len Z k, if_pos (by simp [gLv, c])]
      rfl
theorem gFlN_le (Z : List Nat) (k : Nat) : (gFlN Z k).length ≤ k := by rw [gFlN_len]; exact gCnt_le _ _
theorem wq_flN {Z : List Nat} : ∀ {n k : Nat}, k < n → wq Z k ≠ 4294967295 → wq (gFlN Z n) (gCnt (gLv Z) k) = wq Z k
  | 0, _, h, _ => absurd h (Nat.not_lt_zero _)
  | n + 1, k, h, hk => by
    rw [gFlN]
    by_cases c : wq Z n = 4294967295
    · have hne : k ≠ n := fun e => hk (by rw [e]; exact c)
      rw [if_pos c]
      exact wq_flN (by omega) hk
    · rw [if_neg c, wq_app]
      by_cases e : k = n
      · rw [e, if_pos (gFlN_len Z n).symm]
      · have h1 := gCnt_st (p := gLv Z) (show k < n by omega) (by simp [gLv, hk])
        rw [← gFlN_len Z n] at h1
        rw [if_neg (by omega)]
        exact wq_flN (by omega) hk
theorem wq_set_ne {Z : List Nat} {i j x : Nat} (h : j ≠ i) : wq (Z.set i x) j = wq Z j := by
  unfold wq
  rw [List.getD_eq_getElem?_getD, List.getD_eq_getElem?_getD, List.getElem?_set, if_neg (fun e => h e.symm)]
theorem wq_set_eq {Z : List Nat} {i x : Nat} (h : i < Z.length) : wq (Z.set i x) i = x := by
  unfold wq
  rw [List.getD_eq_getElem?_getD, List.getElem?_set, if_pos rfl, if_pos h]
  rfl
theorem gFl_set0 {Z : List Nat} {i : Nat} : ∀ {n : Nat}, n ≤ i → gFlN (Z.set i 4294967295) n = gFlN Z n
  | 0, _ => rfl
  | n + 1, h => by
    rw [gFlN, gFlN, gFl_set0 (by omega), wq_set_ne (by omega)]
theorem gFl_set {Z : List Nat} {i : Nat} (hi : i < Z.length) (hl : wq Z i ≠ 4294967295) : ∀ {n : Nat}, i < n → gFlN (Z.set i 4294967295) n = (gFlN Z n).eraseIdx (gCnt (gLv Z) i)
  | 0, h => absurd h (Nat.not_lt_zero _)
  | n + 1, h => by
    rw [gFlN, gFlN]
    by_cases e : i = n
    · rw [← e, wq_set_eq hi, if_pos rfl, if_neg hl, gFl_set0 (Nat.le_refl _), List.eraseIdx_append_of_length_le (by rw [gFlN_len]; exact Nat.le_refl _), gFlN_len, Nat.sub_self]
      simp
    · rw [wq_set_ne (by omega), gFl_set hi hl (by omega)]
      by_cases c : wq Z n = 4294967295
      · rw [if_pos c, if_pos c]
      · rw [if_neg c, if_neg c, List.eraseIdx_append_of_lt_length (by rw [gFlN_len]; exact gCnt_st (by omega) (by simp [gLv, hl]))]
theorem gFl_all {W : List Nat} (h : ∀ j, j < W.length → wq W j ≠ 4294967295) : gFlN W W.length = W := by
  have h1 : ∀ k, k ≤ W.length → gFlN W k = W.take k := by
    intro k
    induction k with
    | zero => intro _; rfl
    | succ k ih =>
      intro hk
      have e : wq W k = W[k] := by
        unfold wq
        rw [List.getD_eq_getElem?_getD, List.getElem?_eq_getElem (by omega)]
        rfl
      rw [gFlN, if_neg (h k (by omega)), ih (by omega), e, List.take_succ, List.getElem?_eq_getElem (by omega)]
      rfl
  rw [h1 _ (Nat.le_refl _), List.take_length]
theorem gFl_rank {W Z : List Nat} {hf : Nat → Int32} {i : Nat} (hz : ∀ j, j < W.length → wq Z j = 4294967295 ∨ wq Z j = wq W j) (hr : ∀ j, j < W.length → wq Z j = 4294967295 → gRk W hf i j = true) (hi : i < W.length) (hM : wq Z i ≠ 4294967295) :
    gRank (gFlN Z W.length) hf (gCnt (gLv Z) i) + gCnt (fun j => !gLv Z j) W.length = gRank W hf i := by
  have hei := (hz i hi).resolve_left hM
  unfold gRank
  rw [gFlN_len, gCnt_sub, gCnt_two (gLv Z) (gRk W hf i)]
  congr 1
  · refine gCnt_congr fun j hj => ?_
    by_cases c : wq Z j = 4294967295
    · simp [gLv, c]
    · have hej := (hz j hj).resolve_left c
      have hc : (gCnt (gLv Z) j < gCnt (gLv Z) i) ↔ j < i := by
        rcases Nat.lt_or_ge j i with q | q
        · exact ⟨fun _ => q, fun _ => gCnt_st q (by simp [gLv, c])⟩
        · have := gCnt_mono (p := gLv Z) q
          exact ⟨fun h => by omega, fun h => by omega⟩
      congr 1
      unfold gRk
      rw [wq_flN hj c, wq_flN hi hM, hej, hei, decide_eq_decide.mpr hc]
  · refine gCnt_congr fun j hj => ?_
    by_cases c : wq Z j = 4294967295
    · rw [hr j hj c, Bool.and_true]
    · simp [gLv, c]
theorem gTurn_of {W : List Nat} {hf : Nat → Int32} {T i : Nat} (hi : i < W.length) (h : gRank W hf i = T) : gTurn W hf T = some i := by
  have hT := gRank_lt (W := W) (hf := hf) hi
  obtain ⟨k, hk, ek⟩ := gTurn_ex (W := W) (hf := hf) (T := T) (by omega)
  have h4 := (gTurn_lt ek).2
  rw [ek]
  congr 1
  apply Decidable.byContradiction
  intro c
  exact gRank_ne (W := W) (hf := hf) hk hi c (h4.trans h.symm)
/-- the state of the reference's first loop: k looked at, T of them wait on, C as the class has it, Z the wishes with those struck out -/
def gGi (S : gSt) (k T : Nat) (C : gSt) (Z : List Nat) : Prop := gI2 C ∧ sN C 0 = sN S 0 ∧ sI C 3 = sI S 3 ∧ sW C = gFlN Z (sW S).length ∧ Z.length = (sW S).length ∧
  (∀ j, j < (sW S).length → wq Z j = 4294967295 ∨ wq Z j = wq (sW S) j) ∧ (∀ j, j < (sW S).length → wq Z j = 4294967295 → gRank (sW S) (sI S 3) j < k) ∧ T + (sW S).length = k + (sW C).length ∧ gGr ((sW S).length - k) T C = gGrant S
theorem gGi_0 {S : gSt} (h : gI2 S) : gGi S 0 0 S (sW S) := by
  have hW := h.1.2.2.2.1
  refine ⟨h, rfl, rfl, (gFl_all fun j hj => ?_).symm, rfl, fun j hj => Or.inr rfl, fun j hj c => ?_, rfl, rfl⟩
  · have := hW j hj
    omega
  · have := hW j hj
    omega
theorem gGi_at {S C : gSt} {k T i : Nat} {Z : List Nat} (h : gGi S k T C Z) (hk : k < (sW S).length) (hi : gTurn (sW S) (sI S 3) k = some i) : i < (sW S).length ∧ wq Z i = wq (sW S) i ∧ gTurn (sW C) (sI C 3) T = some (gCnt (gLv Z) i) ∧ wq (sW C) (gCnt (gLv Z) i) = wq (sW S) i ∧ wq Z i ≠ 4294967295 := by
  obtain ⟨hJ, h0, h3, hW, hZl, hZ, hZr, hTk, hG⟩ := h
  obtain ⟨hi1, hi2⟩ := gTurn_lt hi
  have hM : wq Z i ≠ 4294967295 := fun c => by have := hZr i hi1 c; omega
  have he := (hZ i hi1).resolve_left hM
  have hr : ∀ j, j < (sW S).length → wq Z j = 4294967295 → gRk (sW S) (sI S 3) i j = true := by
    intro j hj c
    have hne : j ≠ i := fun e => hM (by rw [← e]; exact c)
    rcases gRk_tot (W := sW S) (hf := sI S 3) hne with q | q
    · exact q
    · have := gRank_mono hi1 q
      have := hZr j hj c
      omega
  have hR := gFl_rank hZ hr hi1 hM
  have hN := gCnt_not (gLv Z) (sW S).length
  rw [← gFlN_len, ← hW] at hN
  rw [← hW, hi2] at hR
  have hlt : gCnt (gLv Z) i < (sW C).length := by
    rw [hW, gFlN_len]
    exact gCnt_st hi1 (by simp [gLv, hM])
  refine ⟨hi1, he, gTurn_of hlt ?_, ?_, hM⟩
  · rw [h3]
    omega
  · rw [hW, wq_flN hi1 hM, he]
theorem gGi_no {S C : gSt} {k T i : Nat} {Z : List Nat} (h : gGi S k T C Z) (hk : k < (sW S).length) (hi : gTurn (sW S) (sI S 3) k = some i) (hE : gEar C (wq (sW S) i / 10) (wq (sW S) i % 10) 7 = none) : gGi S (k + 1) (T + 1) C Z := by
  obtain ⟨hi1, he, hei, hwc, hM⟩ := gGi_at h hk hi
  obtain ⟨hJ, h0, h3, hW, hZl, hZ, hZr, hTk, hG⟩ := h
  refine ⟨hJ, h0, h3, hW, hZl, hZ, fun j a b => by have := hZr j a b; omega, by omega, ?_⟩
  rw [← hwc] at hE
  rw [← hG, gGr_none (by omega) hei hE]
  rfl
theorem gGi_yes {S C : gSt} {k T i t : Nat} {Z : List Nat} (h : gGi S k T C Z) (hk : k < (sW S).length) (hi : gTurn (sW S) (sI S 3) k = some i) (hE : gEar C (wq (sW S) i / 10) (wq (sW S) i % 10) 7 = some t) :
    gGi S (k + 1) T (uW (gBook C (wq (sW S) i / 10) (wq (sW S) i % 10) (t / 8) (t % 8)) (gFlN (Z.set i 4294967295) (sW S).length)) (Z.set i 4294967295) := by
  obtain ⟨hi1, he, hei, hwc, hM⟩ := gGi_at h hk hi
  obtain ⟨hJ, h0, h3, hW, hZl, hZ, hZr, hTk, hG⟩ := h
  obtain ⟨hi3, hi2⟩ := gTurn_lt hi
  rw [← hwc] at hE
  have eF : gFlN (Z.set i 4294967295) (sW S).length = (sW C).eraseIdx (gCnt (gLv Z) i) := by
    rw [hW]
    exact gFl_set (by omega) hM hi1
  have eG : gGive C (gCnt (gLv Z) i) t = uW (gBook C (wq (sW S) i / 10) (wq (sW S) i % 10) (t / 8) (t % 8)) (gFlN (Z.set i 4294967295) (sW S).length) := by
    rw [eF, ← hwc]
    rfl
  have hlt := (gTurn_lt hei).1
  have hl : (gFlN (Z.set i 4294967295) (sW S).length).length = (sW C).length - 1 := by
    rw [eF, List.length_eraseIdx, if_pos hlt]
  rw [← eG]
  refine ⟨gI2_give hJ hei hE, h0, h3, (by rw [eG]; rfl), by rw [List.length_set]; exact hZl, fun j a => ?_, fun j a b => ?_, ?_, ?_⟩
  · by_cases c : j = i
    · rw [c, wq_set_eq (by omega)]
      exact Or.inl rfl
    · rw [wq_set_ne c]
      exact hZ j a
  · by_cases c : j = i
    · rw [c, hi2]
      omega
    · rw [wq_set_ne c] at b
      have := hZr j a b
      omega
  · rw [eG]
    show T + _ = k + 1 + (gFlN (Z.set i 4294967295) (sW S).length).length
    rw [hl]
    omega
  · rw [← hG, gGr_some (by omega) hei hE]
    rfl
theorem gGi_end {S C : gSt} {T : Nat} {Z : List Nat} (h : gGi S (sW S).length T C Z) : uW C (gFlN Z (sW S).length) = gGrant S := by
  obtain ⟨hJ, h0, h3, hW, hZl, hZ, hZr, hTk, hG⟩ := h
  rw [Nat.sub_self] at hG
  rw [← hG, ← hW]
  rfl
theorem gGi_m {S C : gSt} {k T j : Nat} {Z : List Nat} (h : gGi S k T C Z) (hI : gI1 S) (hj : j < (sW S).length) : nI (wq Z j) = -1 ↔ wq Z j = 4294967295 := by
  constructor
  · intro c
    rcases h.2.2.2.2.2.1 j hj with q | q
    · exact q
    · have := hI.2.2.2.1 j hj
      exact (gNe_m1 (by omega) c).elim
  · intro c
    rw [c]
    rfl
section
variable {S : gSt} {f : Nat → Int32}
/-! days of the reference -/
theorem gLookR_B (S : gSt) : sB (gLookR S).2 = sB S := by
  have h3 : sB (gJudge (gCn S) (bk (sB S) 0 3) (bk (sB S) 0 4) (bk (sB S) 0 5)).2 = sB S := gJudge_B (gCn S) _ _ _
  unfold gLookR
  show sB (if _ then _ else _) = _
  split <;> exact h3
theorem gLookR_le (S : gSt) : (gLookR S).1 ≤ 3 := gJudge_le _ _ _ _
theorem gI1_lookR (h : gI1 S) : gI1 (gLookR S).2 := by
  have h3 : gI1 (gJudge (gCn S) (bk (sB S) 0 3) (bk (sB S) 0 4) (bk (sB S) 0 5)).2 := gI1_judge (gI1_uI h) _ _ _
  unfold gLookR
  show gI1 (if _ then _ else _)
  split
  · exact gI1_uI (gI1_uI h3)
  · exact h3
theorem gLookR_0t (S : gSt) : sN (gLookR S).2 0 = sN S 0 := by
  have h3 : sN (gJudge (gCn S) (bk (sB S) 0 3) (bk (sB S) 0 4) (bk (sB S) 0 5)).2 0 = sN S 0 := gJudge_0 (gCn S) _ _ _
  unfold gLookR
  show sN (if _ then _ else _) 0 = _
  split <;> exact h3
def gLX (S : gSt) : gSt := uI (gLookR S).2 8 (upd (sI (gLookR S).2 8) (gLookR S).1 (sI (gLookR S).2 8 (gLookR S).1 + 1))
theorem gLook_X (S : gSt) : (gLook S).2 = uB (gLX S) ((sB (gLX S)).eraseIdx 0) := by
  have e : sB (gLX S) = sB S := gLookR_B S
  rw [gLook_R, e]
  rfl
theorem gLook_1R (S : gSt) : (gLook S).1 = (gLookR S).1 := by rw [gLook_R]
/-- what is found of the booking that is marked -/
def gDLf : Nat → gSt → Int32 → Int32
  | 0, _, ft => ft
  | n + 1, S, ft => if bk (sB S) 0 0 = sN S 0 then gDLf n (gLook S).2 (if bk (sB S) 0 6 = 1 then nI (gLook S).1 else ft) else ft
def gDf (S : gSt) (ft : Int32) : Int32 := gDLf (sB (gGrant S)).length (gGrant S) ft
theorem gDLf_st {n : Nat} {ft : Int32} (hl : 0 < n) (hd : bk (sB S) 0 0 = sN S 0) : gDLf n S ft = gDLf (n - 1) (gLook S).2 (if bk (sB S) 0 6 = 1 then nI (gLook S).1 else ft) := by
  obtain ⟨k, rfl⟩ : ∃ k, n = k + 1 := ⟨n - 1, by omega⟩
  rw [gDLf, if_pos hd]
  rfl
theorem gDLf_no {n : Nat} {ft : Int32} (hd : n = 0 ∨ ¬ bk (sB S) 0 0 = sN S 0) : gDLf n S ft = ft := by
  cases n with
  | zero => rfl
  | succ n => rw [gDLf, if_neg (by omega)]
theorem gDayL_no' {n : Nat} (hd : n = 0 ∨ ¬ bk (sB S) 0 0 = sN S 0) : gDayL n S = S := by
  cases n with
  | zero => rfl
  | succ n => rw [gDayL, if_neg (by omega)]
def gZk (S : gSt) (p : Nat) : Nat → Int32 := fun j => if j < p then 0 else sI S 4 j
theorem uI_self (S : gSt) (k : Nat) : uI S k (sI S k) = S := by
  have e : (fun j => cond (Nat.beq j k) (sI S k) (sI S j)) = sI S := by
    funext j
    cases c : Nat.beq j k
    · rfl
    · rw [Nat.eq_of_beq_eq_true c]; rfl
  show ((fun j => cond (Nat.beq j k) (sI S k) (sI S j)), S.2) = S
  rw [e]
end
def qU (q : Nat → Int32) (i : Nat) (x : Int32) : Nat → Int32 := fun j => cond (Nat.beq j i) x (q j)
