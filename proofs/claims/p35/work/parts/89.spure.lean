/-! ===== what would be; scripts and simulations of the reference ===== -/
theorem gV9N {v : Nat} (h : v < 1000) : (¬ nI v < 0 ∧ ¬ 9 < nI v) ↔ v < 10 := by
  rw [Int32.lt_iff_toInt_lt, Int32.lt_iff_toInt_lt, nI_toInt (by omega), show (9 : Int32).toInt = 9 by decide, show (0 : Int32).toInt = 0 by decide]
  omega
theorem gOkR_y {t : Int32 × gSt} {v : Int32} {T : gSt} (h : t = (v, T)) (hv : ¬ v < 0) : gOkR t = (1, T) := by
  rw [h]
  show (if v < 0 then 0 else 1, T) = _
  rw [if_neg hv]
theorem gOkR_n {t : Int32 × gSt} {S : gSt} (h : ∃ r, t = (r, S) ∧ r < 0) : gOkR t = (0, S) := by
  obtain ⟨r, h1, h2⟩ := h
  rw [h1]
  show (if r < 0 then 0 else 1, S) = _
  rw [if_pos h2]
section
variable {S : gSt}
theorem gTP_no {p n : Nat} (h8 : sN S 1 ≤ 8) (hp : p < 1000) (hc : ¬ p < sN S 1) : ∃ r, gTryPunish S (nI p) (nI n) = (r, S) ∧ r < 0 := by
  unfold gTryPunish
  rw [if_neg]
  · exact ⟨-1, rfl, by decide⟩
  · intro q
    have := q.2
    rw [nI_leI (by omega) (by omega)] at this
    omega
theorem gTP_yes {p n : Nat} (h8 : sN S 1 ≤ 8) (hp : p < sN S 1) (hn : n ≤ 99) : gTryPunish S (nI p) (nI n) = (sI S 2 p, uI S 2 (upd (sI S 2) p (nI (sN S 0) + nI n))) := by
  unfold gTryPunish
  rw [if_pos, if_pos, nI_clamp (by omega)]
  · exact ⟨nI_pos (by omega), by rw [Int32.lt_iff_toInt_lt, nI_toInt (by omega), show (99 : Int32).toInt = 99 by decide]; omega⟩
  · exact ⟨nI_pos (by omega), by rw [nI_leI (by omega) (by omega)]; omega⟩
theorem gTLt_yes {k x : Nat} (hn : (sB S).length ≤ 24) (hk : k < (sB S).length) (hx : x < 60) : (gTryLate S (nI k) (nI x)).2 = gLate S k x := by
  unfold gTryLate
  rw [if_pos, if_pos, nI_clamp (by omega), nI_clamp (by omega)]
  · exact ⟨nI_pos (by omega), by rw [Int32.lt_iff_toInt_lt, nI_toInt (by omega), show (59 : Int32).toInt = 59 by decide]; omega⟩
  · exact ⟨nI_pos (by omega), by rw [nI_leI (by omega) (by omega)]; omega⟩
theorem gTLt_no {k x : Nat} (hn : (sB S).length ≤ 24) (hk : k < 1000) (hc : ¬ k < (sB S).length) : (gTryLate S (nI k) (nI x)).2 = S := by
  unfold gTryLate
  rw [if_neg]
  intro q
  have := q.2
  rw [nI_leI (by omega) (by omega)] at this
  omega
end
/-! groups of a script -/
theorem gTen_15 : ∀ d, d ≤ 15 → (gTen d).toInt = ((10 ^ d : Nat) : Int) := by
  have h : ∀ d : Nat, d < 16 → (gTen d).toInt = ((10 ^ d : Nat) : Int) := by decide +kernel
  intro d hd
  exact h d (by omega)
theorem gWL_val {x : Int64} (hx : ¬ x < 0) : ∀ r, r ≤ 3 → (gWL r x).toInt = x.toInt / ((10 ^ (5 * r) : Nat) : Int) := by
  have h0 : 0 ≤ x.toInt := by
    rw [Int64.lt_iff_toInt_lt, show (0 : Int64).toInt = 0 by decide] at hx
    omega
  have hb := Int64.toInt_lt x
  have e5 : (100000 : Int64).toInt = 100000 := by decide
  have step : ∀ y : Int64, 0 ≤ y.toInt → (y / 100000).toInt = y.toInt / 100000 := by
    intro y hy
    have hy2 := Int64.toInt_lt y
    rw [Int64.toInt_div, e5, Int.tdiv_eq_ediv_of_nonneg hy, Int.bmod_eq_of_le (by omega) (by omega)]
  intro r hr
  have p0 : ((10 ^ (5 * 0) : Nat) : Int) = 1 := rfl
  have p1 : ((10 ^ (5 * 1) : Nat) : Int) = 100000 := rfl
  have p2 : ((10 ^ (5 * 2) : Nat) : Int) = 10000000000 := rfl
  have p3 : ((10 ^ (5 * 3) : Nat) : Int) = 1000000000000000 := rfl
  have w0 : (gWL 0 x).toInt = x.toInt := rfl
  have w1 : (gWL 1 x).toInt = x.toInt / 100000 := step _ (by rw [w0]; exact h0)
  have w2 : (gWL 2 x).toInt = x.toInt / 100000 / 100000 := by
    have := step (gWL 1 x) (by rw [w1]; omega)
    rw [w1] at this
    exact this
  have w3 : (gWL 3 x).toInt = x.toInt / 100000 / 100000 / 100000 := by
    have := step (gWL 2 x) (by rw [w2]; omega)
    rw [w2] at this
    exact this
  rcases (show r = 0 ∨ r = 1 ∨ r = 2 ∨ r = 3 by omega) with rfl | rfl | rfl | rfl
  · rw [p0, w0]; omega
  · rw [p1, w1]
  · rw [p2, w2]; omega
  · rw [p3, w3]; omega
theorem gScr_in {x : Int64} {n : Nat} (h1 : 1 ≤ n) (h3 : n ≤ 3) : (¬ x < 0 ∧ ¬ gTen (5 * n) - 1 < x) ↔ (¬ x < 0 ∧ gWL n x = 0) := by
  constructor
  · rintro ⟨a, b⟩
    refine ⟨a, ?_⟩
    have hv := gWL_val a n h3
    rw [Int64.lt_iff_toInt_lt, Int64.toInt_sub, gTen_15 _ (by omega), show (1 : Int64).toInt = 1 by decide] at b
    rw [Int64.lt_iff_toInt_lt, show (0 : Int64).toInt = 0 by decide] at a
    apply Int64.toInt_inj.mp
    rw [hv, show (0 : Int64).toInt = 0 by decide]
    rcases (show n = 1 ∨ n = 2 ∨ n = 3 by omega) with rfl | rfl | rfl
    · have p1 : ((10 ^ (5 * 1) : Nat) : Int) = 100000 := rfl
      rw [p1, Int.bmod_eq_of_le (by omega) (by omega)] at b
      rw [p1]; omega
    · have p1 : ((10 ^ (5 * 2) : Nat) : Int) = 10000000000 := rfl
      rw [p1, Int.bmod_eq_of_le (by omega) (by omega)] at b
      rw [p1]; omega
    · have p1 : ((10 ^ (5 * 3) : Nat) : Int) = 1000000000000000 := rfl
      rw [p1, Int.bmod_eq_of_le (by omega) (by omega)] at b
      rw [p1]; omega
  · rintro ⟨a, b⟩
    refine ⟨a, ?_⟩
    have hv := gWL_val a n h3
    rw [b, show (0 : Int64).toInt = 0 by decide] at hv
    rw [Int64.lt_iff_toInt_lt, Int64.toInt_sub, gTen_15 _ (by omega), show (1 : Int64).toInt = 1 by decide]
    rw [Int64.lt_iff_toInt_lt, show (0 : Int64).toInt = 0 by decide] at a
    rcases (show n = 1 ∨ n = 2 ∨ n = 3 by omega) with rfl | rfl | rfl
    · have p1 : ((10 ^ (5 * 1) : Nat) : Int) = 100000 := rfl
      rw [p1] at hv ⊢
      rw [Int.bmod_eq_of_le (by omega) (by omega)]; omega
    · have p1 : ((10 ^ (5 * 2) : Nat) : Int) = 10000000000 := rfl
      rw [p1] at hv ⊢
      rw [Int.bmod_eq_of_le (by omega) (by omega)]; omega
    · have p1 : ((10 ^ (5 * 3) : Nat) : Int) = 1000000000000000 := rfl
      rw [p1] at hv ⊢
      rw [Int.bmod_eq_of_le (by omega) (by omega)]; omega
/-- the group r from behind -/
def gGrp (x : Int64) (r : Nat) : Nat := ((gWL r x - gWL r x / 100000 * 100000).toInt32).toNatClampNeg
theorem gGrp_eq {x : Int64} {r : Nat} (hx : ¬ x < 0) (hr : r ≤ 2) : (x / gTen (5 * r) - x / gTen (5 * r) / 100000 * 100000).toInt32 = nI (gGrp x r) ∧ gGrp x r < 100000 := by
  have hv := gWL_val hx r (by omega)
  have h0 : 0 ≤ x.toInt := by
    rw [Int64.lt_iff_toInt_lt, show (0 : Int64).toInt = 0 by decide] at hx
    omega
  have hb := Int64.toInt_lt x
  have e : x / gTen (5 * r) = gWL r x := by
    apply Int64.toInt_inj.mp
    rw [hv, Int64.toInt_div, gTen_15 _ (by omega)]
    rcases (show r = 0 ∨ r = 1 ∨ r = 2 by omega) with rfl | rfl | rfl
    · have p1 : ((10 ^ (5 * 0) : Nat) : Int) = 1 := rfl
      rw [p1, Int.tdiv_eq_ediv_of_nonneg h0, Int.bmod_eq_of_le (by omega) (by omega)]
    · have p1 : ((10 ^ (5 * 1) : Nat) : Int) = 100000 := rfl
      rw [p1, Int.tdiv_eq_ediv_of_nonneg h0, Int.bmod_eq_of_le (by omega) (by omega)]
    · have p1 : ((10 ^ (5 * 2) : Nat) : Int) = 10000000000 := rfl
      rw [p1, Int.tdiv_eq_ediv_of_nonneg h0, Int.bmod_eq_of_le (by omega) (by omega)]
  have hw0 : 0 ≤ (gWL r x).toInt := by
    rw [hv]
    exact Int.ediv_nonneg h0 (Int.natCast_nonneg _)
  have hw1 := Int64.toInt_lt (gWL r x)
  have h5 : (100000 : Int64).toInt = 100000 := by decide
  have h2 : (gWL r x / 100000).toInt = (gWL r x).toInt / 100000 := by
    rw [Int64.toInt_div, h5, Int.tdiv_eq_ediv_of_nonneg hw0, Int.bmod_eq_of_le (by omega) (by omega)]
  have h3 : (gWL r x / 100000 * 100000).toInt = (gWL r x).toInt / 100000 * 100000 := by
    rw [Int64.toInt_mul, h2, h5, Int.bmod_eq_of_le (by omega) (by omega)]
  have h4 : (gWL r x - gWL r x / 100000 * 100000).toInt = (gWL r x).toInt % 100000 := by
    rw [Int64.toInt_sub, h3, Int.bmod_eq_of_le (by omega) (by omega)]
    omega
  have h6 : ((gWL r x - gWL r x / 100000 * 100000).toInt32).toInt = (gWL r x).toInt % 100000 := by
    rw [Int64.toInt_toInt32, h4, Int.bmod_eq_of_le (by omega) (by omega)]
  have h7 : ¬ (gWL r x - gWL r x / 100000 * 100000).toInt32 < 0 := by
    rw [Int32.lt_iff_toInt_lt, h6, show (0 : Int32).toInt = 0 by decide]
    omega
  obtain ⟨j, hj, ej⟩ := nI_of h7
  have hg : gGrp x r = j := by
    unfold gGrp
    rw [ej]
    exact nI_clamp hj
  rw [e, ej, hg]
  refine ⟨rfl, ?_⟩
  rw [ej, nI_toInt hj] at h6
  omega
theorem gScr_st {n r : Nat} {x : Int64} {T : gSt} : gScr n x (r + 1) T = if (gSucc T (gGrp x r)).1 = 0 then nI (n - 1 - r) else gScr n x r (gSucc T (gGrp x r)).2 := rfl
theorem gIteP {α : Type} (P : α → Prop) {c : Prop} [Decidable c] {a b : α} (ha : P a) (hb : P b) : P (if c then a else b) := by
  by_cases h : c
  · rw [if_pos h]; exact ha
  · rw [if_neg h]; exact hb
theorem gSucc_P (P : Int32 × gSt → Prop) (S : gSt) (g : Nat) (hb : ∀ p v d h, P (gOkR (gTryBook S p v d h))) (hw : ∀ p v, P (gOkR (gTryWish S p v))) (hl : ∀ p v b, P (gOkR (gTryList S p v b))) (hc : ∀ v b, P (gOkR (gTryCarry S v b))) (hp : ∀ p n, P (gOkR (gTryPunish S p n)))
    (hr : ∀ n, n < 100 → P (gOkR (sI (gDays n S) 8 0 - sI S 8 0, gDays n S))) (h0 : P (0, S)) (h1 : P (1, S)) : P (gSucc S g) := by
  have hg : g % 100 < 100 := by omega
  unfold gSucc
  exact gIteP P (hb _ _ _ _) (gIteP P (gIteP P (gIteP P (hw _ _) h0) h0) (gIteP P (gIteP P (gIteP P h0 (hl _ _ _)) h0) (gIteP P (gIteP P (gIteP P (gIteP P h0 (hc _ _)) h0) h0) (gIteP P (gIteP P (hp _ _) h0)
    (gIteP P (gIteP P (gIteP P (gIteP P (hr _ hg) h0) h0) h0) (gIteP P (gIteP P (gIteP P (gIteP P h0 h1) h0) h0) (gIteP P (gIteP P (gIteP P (gIteP P (gIteP P h0 h1) h0) h0) h0) (gIteP P (gIteP P (gIteP P (gIteP P h0 h1) h0) h0) h0))))))))
theorem gTurn1_P (P : gSt → Prop) (S : gSt) (r : Nat) (hb : ∀ p v d h, P (gTryBook S p v d h).2) (hw : ∀ p v, P (gTryWish S p v).2) (hl : ∀ p v b, P (gTryList S p v b).2) (hc : ∀ v b, P (gTryCarry S v b).2) (hp : ∀ k n, P (gTryLate S k n).2) (hr : P (gDays 1 S)) : P (gTurn1 S r) := by
  unfold gTurn1
  exact gIteP P (hb _ _ _ _) (gIteP P (hw _ _) (gIteP P (hl _ _ _) (gIteP P (hc _ _) (gIteP P (hp _ _) hr))))
theorem gOkR_01 (t : Int32 × gSt) : (gOkR t).1 = 0 ∨ (gOkR t).1 = 1 := by
  unfold gOkR
  by_cases c : t.1 < 0
  · exact Or.inl (if_pos c)
  · exact Or.inr (if_neg c)
theorem gSucc_01 (S : gSt) (g : Nat) : (gSucc S g).1 = 0 ∨ (gSucc S g).1 = 1 :=
  gSucc_P (fun t => t.1 = 0 ∨ t.1 = 1) S g (fun _ _ _ _ => gOkR_01 _) (fun _ _ => gOkR_01 _) (fun _ _ _ => gOkR_01 _) (fun _ _ => gOkR_01 _) (fun _ _ => gOkR_01 _) (fun _ _ => gOkR_01 _) (Or.inl rfl) (Or.inr rfl)
section
variable {S : gSt}
theorem gTryPunish_0 (v b : Int32) : sN (gTryPunish S v b).2 0 = sN S 0 := by
  unfold gTryPunish
  split
  · split <;> rfl
  · rfl
theorem gTryLate_0 (v b : Int32) : sN (gTryLate S v b).2 0 = sN S 0 := by
  unfold gTryLate
  split
  · split <;> rfl
  · rfl
theorem gI3_succ (h : gI3 S) (hT : sN S 0 + 100 < 200000000) (g : Nat) : gI3 (gSucc S g).2 :=
  gSucc_P (fun t => gI3 t.2) S g (fun _ _ _ _ => gI3_tryBook h _ _ _ _ (by omega)) (fun _ _ => gI3_tryWish h _ _) (fun _ _ _ => gI3_tryList h _ _ _) (fun _ _ => gI3_tryCarry h _ _) (fun _ _ => gI3_tryPunish h (by omega) _ _) (fun n hn => gI3_days n h (by omega)) h h
theorem gSucc_t (g : Nat) : sN (gSucc S g).2 0 ≤ sN S 0 + 100 :=
  gSucc_P (fun t => sN t.2 0 ≤ sN S 0 + 100) S g (fun p v d h => by show sN (gTryBook S p v d h).2 0 ≤ _; rw [gTryBook_0]; omega) (fun p v => by show sN (gTryWish S p v).2 0 ≤ _; rw [gTryWish_0]; omega) (fun p v b => by show sN (gTryList S p v b).2 0 ≤ _; rw [gTryList_0]; omega)
    (fun v b => by show sN (gTryCarry S v b).2 0 ≤ _; rw [gTryCarry_0]; omega) (fun p n => by show sN (gTryPunish S p n).2 0 ≤ _; rw [gTryPunish_0]; omega) (fun n hn => by show sN (gDays n S) 0 ≤ _; rw [gDays_0]; omega) (Nat.le_add_right _ _) (Nat.le_add_right _ _)
theorem gI3_turn (h : gI3 S) (hT : sN S 0 + 1 < 200000000) (r : Nat) : gI3 (gTurn1 S r) :=
  gTurn1_P gI3 S r (fun _ _ _ _ => gI3_tryBook h _ _ _ _ (by omega)) (fun _ _ => gI3_tryWish h _ _) (fun _ _ _ => gI3_tryList h _ _ _) (fun _ _ => gI3_tryCarry h _ _) (fun _ _ => gI3_tryLate h _ _) (gI3_days 1 h (by omega))
theorem gTurn1_t (r : Nat) : sN (gTurn1 S r) 0 ≤ sN S 0 + 1 :=
  gTurn1_P (fun T => sN T 0 ≤ sN S 0 + 1) S r (fun _ _ _ _ => by rw [gTryBook_0]; omega) (fun _ _ => by rw [gTryWish_0]; omega) (fun _ _ _ => by rw [gTryList_0]; omega) (fun _ _ => by rw [gTryCarry_0]; omega) (fun _ _ => by rw [gTryLate_0]; omega) (by rw [gDays_0]; omega)
end
/-! what a group does, by its first digit, as the reference asks -/
section
variable {S : gSt} {g : Nat}
theorem gSucc_1 (h : g / 10000 = 1) : gSucc S g = gOkR (gTryBook S (nI (g / 1000 % 10)) (nI (g / 100 % 10)) (nI (sN S 0 + g / 10 % 10)) (nI (g % 10))) := by
  unfold gSucc
  rw [if_pos h]
theorem gSucc_2 (h : g / 10000 = 2) : gSucc S g = if g % 100 = 0 then gOkR (gTryWish S (nI (g / 1000 % 10)) (nI (g / 100 % 10))) else (0, S) := by
  unfold gSucc
  rw [if_neg (by omega), if_pos h]
  by_cases c : g % 100 = 0
  · rw [if_pos c, if_pos (by omega), if_pos (by omega)]
  · rw [if_neg c]
    by_cases c2 : g / 10 % 10 = 0
    · rw [if_pos c2, if_neg (by omega)]
    · rw [if_neg c2]
theorem gSucc_3 (h : g / 10000 = 3) : gSucc S g = if g / 10 % 10 = 0 then (if 1 < g % 10 then (0, S) else gOkR (gTryList S (nI (g / 1000 % 10)) (nI (g / 100 % 10)) (if g % 10 = 1 then 1 else 0))) else (0, S) := by
  unfold gSucc
  rw [if_neg (by omega), if_neg (by omega), if_pos h]
theorem gSucc_4 (h : g / 10000 = 4) : gSucc S g = if g / 100 % 10 = 0 then (if g / 10 % 10 = 0 then (if 1 < g % 10 then (0, S) else gOkR (gTryCarry S (nI (g / 1000 % 10)) (if g % 10 = 1 then 1 else 0))) else (0, S)) else (0, S) := by
  unfold gSucc
  rw [if_neg (by omega), if_neg (by omega), if_neg (by omega), if_pos h]
theorem gSucc_5 (h : g / 10000 = 5) : gSucc S g = if g / 100 % 10 = 0 then gOkR (gTryPunish S (nI (g / 1000 % 10)) (nI (g % 100))) else (0, S) := by
  unfold gSucc
  rw [if_neg (by omega), if_neg (by omega), if_neg (by omega), if_neg (by omega), if_pos h]
theorem gSucc_6 (h : g / 10000 = 6) : gSucc S g = if g % 10000 < 100 then (if (¬ nI (g % 100) < 1 ∧ ¬ 30 < nI (g % 100)) then gOkR (sI (gDays (g % 100) S) 8 0 - sI S 8 0, gDays (g % 100) S) else (0, S)) else (0, S) := by
  unfold gSucc
  rw [if_neg (by omega), if_neg (by omega), if_neg (by omega), if_neg (by omega), if_neg (by omega), if_pos h]
  by_cases c : g % 10000 < 100
  · rw [if_pos c, if_pos (by omega), if_pos (by omega)]
  · rw [if_neg c]
    by_cases c2 : g / 1000 % 10 = 0
    · rw [if_pos c2, if_neg (by omega)]
    · rw [if_neg c2]
theorem gSucc_7 (h : g / 10000 = 7) (h8 : sN S 1 ≤ 8) : gSucc S g = if g / 100 % 10 = 0 then (if (g / 1000 % 10 < sN S 1 ∧ 0 < 10) then (if sI S 3 (g / 1000 % 10) < nI (g % 100) then (0, S) else (1, S)) else (0, S)) else (0, S) := by
  unfold gSucc
  rw [if_neg (by omega), if_neg (by omega), if_neg (by omega), if_neg (by omega), if_neg (by omega), if_neg (by omega), if_pos h]
  by_cases c : g / 100 % 10 = 0
  · rw [if_pos c, if_pos c]
    by_cases c2 : g / 1000 % 10 < sN S 1
    · rw [if_pos (⟨c2, by decide⟩ : g / 1000 % 10 < sN S 1 ∧ 0 < 10), if_pos ⟨nI_pos (by omega), by rw [nI_leI (by omega) (by omega)]; omega⟩]
    · rw [if_neg (fun q : ¬ nI (g / 1000 % 10) < 0 ∧ ¬ nI (sN S 1) ≤ nI (g / 1000 % 10) => by have := q.2; rw [nI_leI (by omega) (by omega)] at this; omega), if_neg (fun q => c2 q.1)]
  · rw [if_neg c, if_neg c]
theorem gSucc_8 (h : g / 10000 = 8) : gSucc S g = if g % 1000 = 0 then (if nI (sN S 0) < sI S 7 (g / 1000 % 10) then (0, S) else (1, S)) else (0, S) := by
  unfold gSucc
  rw [if_neg (by omega), if_neg (by omega), if_neg (by omega), if_neg (by omega), if_neg (by omega), if_neg (by omega), if_neg (by omega), if_pos h]
  by_cases c : g % 1000 = 0
  · rw [if_pos c, if_pos (by omega), if_pos (by omega), if_pos (by omega)]
  · rw [if_neg c]
    by_cases c2 : g / 100 % 10 = 0
    · rw [if_pos c2]
      by_cases c3 : g / 10 % 10 = 0
      · rw [if_pos c3, if_neg (by omega)]
      · rw [if_neg c3]
    · rw [if_neg c2]
theorem gSucc_9 (h : g / 10000 = 9) : gSucc S g = if g % 10000 < 100 then (if g % 100 < (sB S).length then (0, S) else (1, S)) else (0, S) := by
  unfold gSucc
  rw [if_neg (by omega), if_neg (by omega), if_neg (by omega), if_neg (by omega), if_neg (by omega), if_neg (by omega), if_neg (by omega), if_neg (by omega), if_pos h]
  by_cases c : g % 10000 < 100
  · rw [if_pos c, if_pos (by omega), if_pos (by omega)]
  · rw [if_neg c]
    by_cases c2 : g / 1000 % 10 = 0
    · rw [if_pos c2, if_neg (by omega)]
    · rw [if_neg c2]
theorem gSucc_0 (h : g / 10000 = 0) : gSucc S g = (0, S) := by
  unfold gSucc
  rw [if_neg (by omega), if_neg (by omega), if_neg (by omega), if_neg (by omega), if_neg (by omega), if_neg (by omega), if_neg (by omega), if_neg (by omega), if_neg (by omega)]
end
theorem gR31_lt (x : Int64) : gR31 x < 2147483648 ∧ (((gRnd x).toUInt64 >>> ((33 : Int32).toInt64.toUInt64 &&& Int64.toUInt64 63)).toInt64.toInt32) = nI (gR31 x) := by
  have h : ∀ y : UInt64, ¬ ((y >>> ((33 : Int32).toInt64.toUInt64 &&& Int64.toUInt64 63)).toInt64.toInt32) < 0 := by
    intro y
    rw [show ((33 : Int32).toInt64.toUInt64 &&& Int64.toUInt64 63) = 33 by decide]
    apply gHb_neg
    rw [gHb_bit _ (by decide)]
    show ((y >>> 33).toBitVec.signExtend 32).getLsbD 31 = false
    rw [BitVec.getLsbD_signExtend]
    show (decide (31 < 32) && if 31 < 64 then (y >>> 33).toBitVec.getLsbD 31 else (y >>> 33).toBitVec.msb) = false
    rw [if_pos (by decide)]
    show (true && (y.toBitVec >>> 33).getLsbD 31) = false
    rw [BitVec.getLsbD_ushiftRight, Bool.true_and]
    exact BitVec.getLsbD_of_ge _ _ (by decide)
  have h1 := h (gRnd x).toUInt64
  obtain ⟨j, hj, e⟩ := nI_of h1
  have e2 : gR31 x = j := by
    unfold gR31
    rw [e]
    exact nI_clamp hj
  rw [e2]
  exact ⟨hj, e⟩
