/-! ===== more that stays true: no list, no rank, no day below 0; so many visits at most ===== -/
def gNg (S : gSt) : Prop := ∀ p, p < 8 → (∀ i, 10 ≤ i → i < 32 → gHb (sI S 1 p) (nI i) = false) ∧ (∀ i, 8 ≤ i → i < 32 → gHb (sI S 5 p) (nI i) = false) ∧ ¬ sI S 0 p < 0 ∧ ¬ sI S 2 p < 0
def gHd (S : gSt) : Prop := ∃ c, sI S 8 0 = nI c ∧ c ≤ 24 * sN S 0
def gI3 (S : gSt) : Prop := gI2 S ∧ gNg S ∧ gHd S
theorem gHb_neg {x : Int32} (h : gHb x (nI 31) = false) : ¬ x < 0 := by
  rw [gHb_bit x (by decide)] at h
  rw [Int32.lt_iff_toInt_lt, show (0 : Int32).toInt = 0 by decide]
  have h1 : x.toBitVec.msb = false := by rw [BitVec.msb_eq_getLsbD_last]; exact h
  rw [BitVec.msb_eq_toInt] at h1
  have h2 : ¬ x.toBitVec.toInt < 0 := of_decide_eq_false h1
  exact h2
theorem nI_nneg {n : Nat} (h : n < 2147483648) : ¬ nI n < 0 := nI_pos h
section
variable {S : gSt}
theorem gI3_2 (h : gI3 S) : gI2 S := h.1
theorem gI3_1 (h : gI3 S) : gI1 S := h.1.1
theorem gNg_list (h : gNg S) {p : Nat} (hp : p < 8) : ¬ sI S 1 p < 0 := gHb_neg ((h p hp).1 31 (by decide) (by decide))
theorem gNg_apart (h : gNg S) {p : Nat} (hp : p < 8) : ¬ sI S 5 p < 0 := gHb_neg ((h p hp).2.1 31 (by decide) (by decide))
theorem gCb_neg (h : gCb S) : ¬ sI S 9 0 < 0 := gHb_neg (h 31 (by decide) (by decide))
theorem gNg_u6 {k : Nat} {f : Nat → Int32} (h : gNg S) (h0 : k ≠ 0) (h1 : k ≠ 1) (h2 : k ≠ 2) (h5 : k ≠ 5) : gNg (uI S k f) := by
  intro p hp
  rw [sI_uI, sI_uI, sI_uI, sI_uI, if_neg (fun e => h1 e.symm), if_neg (fun e => h5 e.symm), if_neg (fun e => h0 e.symm), if_neg (fun e => h2 e.symm)]
  exact h p hp
theorem gNg_p0 {p0 : Nat} {x : Int32} (h : gNg S) (hx : ¬ x < 0) : gNg (uI S 0 (upd (sI S 0) p0 x)) := by
  intro p hp
  have a := h p hp
  refine ⟨a.1, a.2.1, ?_, a.2.2.2⟩
  show ¬ upd (sI S 0) p0 x p < 0
  by_cases c : p = p0
  · rw [upd_eq c]; exact hx
  · rw [upd_ne c]; exact a.2.2.1
theorem gNg_p2 {p0 : Nat} {x : Int32} (h : gNg S) (hx : ¬ x < 0) : gNg (uI S 2 (upd (sI S 2) p0 x)) := by
  intro p hp
  have a := h p hp
  refine ⟨a.1, a.2.1, a.2.2.1, ?_⟩
  show ¬ upd (sI S 2) p0 x p < 0
  by_cases c : p = p0
  · rw [upd_eq c]; exact hx
  · rw [upd_ne c]; exact a.2.2.2
theorem gNg_p1 {p0 v : Nat} {b : Int32} (h : gNg S) (hp0 : p0 < 8) (hv : v < 10) : gNg (uI S 1 (upd (sI S 1) p0 (gWb (sI S 1 p0) (nI v) b))) := by
  intro p hp
  have a := h p hp
  refine ⟨fun i hi hi2 => ?_, a.2⟩
  show gHb (upd (sI S 1) p0 (gWb (sI S 1 p0) (nI v) b) p) (nI i) = false
  by_cases c : p = p0
  · rw [upd_eq c, gHb_wb hi2 (by omega), if_neg (by omega)]
    exact (h p0 hp0).1 i hi hi2
  · rw [upd_ne c]; exact a.1 i hi hi2
theorem gNg_p5 {p0 v : Nat} {b : Int32} (h : gNg S) (hp0 : p0 < 8) (hv : v < 8) : gNg (uI S 5 (upd (sI S 5) p0 (gWb (sI S 5 p0) (nI v) b))) := by
  intro p hp
  have a := h p hp
  refine ⟨a.1, fun i hi hi2 => ?_, a.2.2⟩
  show gHb (upd (sI S 5) p0 (gWb (sI S 5 p0) (nI v) b) p) (nI i) = false
  by_cases c : p = p0
  · rw [upd_eq c, gHb_wb hi2 (by omega), if_neg (by omega)]
    exact (h p0 hp0).2.1 i hi hi2
  · rw [upd_ne c]; exact a.2.1 i hi hi2
theorem gNg_ban (h : gNg S) (v : Nat) : gNg (gBan S v) := by
  unfold gBan
  split
  · exact h
  · exact gNg_u6 h (by decide) (by decide) (by decide) (by decide)
theorem gNg_take (h : gNg S) (hT : sN S 0 < 1000000000) (h3 : sS S 3 < 100) (p : Nat) : gNg (gTake S p) := by
  unfold gTake
  split
  · exact h
  · exact gNg_p2 h (nI_nneg (by omega))
theorem gNg_third (h : gNg S) (v : Nat) : gNg (gThird S v).2 := by
  unfold gThird
  split
  · exact gNg_u6 h (by decide) (by decide) (by decide) (by decide)
  · exact gNg_u6 h (by decide) (by decide) (by decide) (by decide)
theorem gNg_judge (h : gNg S) (hT : sN S 0 < 1000000000) (h3 : sS S 3 < 100) (p v m : Nat) : gNg (gJudge S p v m).2 := by
  have h9 : gNg (uI S 9 (fun _ => gWb (sI S 9 0) (nI v) 0)) := gNg_u6 h (by decide) (by decide) (by decide) (by decide)
  unfold gJudge
  split
  · exact h
  · split
    · exact h
    · split
      · split
        · exact gNg_take (gNg_ban h9 v) (by rw [gBan_0]; exact hT) (by rw [gBan_S]; exact h3) p
        · split
          · exact h
          · split
            · exact gNg_third h v
            · exact gNg_ban (gNg_third h v) v
      · split
        · exact h
        · split
          · exact gNg_third h v
          · exact gNg_ban (gNg_third h v) v
theorem gNg_look (h : gNg S) (hT : sN S 0 < 1000000000) (h3 : sS S 3 < 100) : gNg (gLook S).2 := by
  have h2 : gNg (gL2 S) := gNg_u6 (S := gL1 S) h (by decide) (by decide) (by decide) (by decide)
  have h4 : gNg (gL3 S).2 := gNg_judge h2 hT h3 _ _ _
  have h5 : gNg (gL4 S) := gNg_u6 h4 (by decide) (by decide) (by decide) (by decide)
  unfold gLook
  show gNg (if (gL3 S).1 = 0 then gHeld (gL4 S) (bk (sB S) 0 3) else gL4 S)
  split
  · exact gNg_u6 (gNg_u6 (k := 3) h5 (by decide) (by decide) (by decide) (by decide)) (by decide) (by decide) (by decide) (by decide)
  · exact h5
theorem gBan_8 (T : gSt) (v : Nat) : sI (gBan T v) 8 = sI T 8 := by unfold gBan; split <;> rfl
theorem gTake_8 (T : gSt) (v : Nat) : sI (gTake T v) 8 = sI T 8 := by unfold gTake; split <;> rfl
theorem gThird_8 (T : gSt) (v : Nat) : sI (gThird T v).2 8 = sI T 8 := by unfold gThird; split <;> rfl
theorem gJudge_8 (T : gSt) (p v m : Nat) : sI (gJudge T p v m).2 8 = sI T 8 := by
  unfold gJudge
  split
  · rfl
  · split
    · rfl
    · split
      · split
        · exact (gTake_8 _ _).trans (gBan_8 _ _)
        · split
          · rfl
          · split
            · exact gThird_8 T v
            · exact (gBan_8 _ _).trans (gThird_8 T v)
      · split
        · rfl
        · split
          · exact gThird_8 T v
          · exact (gBan_8 _ _).trans (gThird_8 T v)
/-- the visits held go up by one at most -/
theorem gLook_8 {c : Nat} (h : sI S 8 0 = nI c) : ∃ d, sI (gLook S).2 8 0 = nI d ∧ c ≤ d ∧ d ≤ c + 1 := by
  have h3 : sI (gL3 S).2 8 = upd (sI S 8) 4 (sI S 8 4 + 1) := gJudge_8 (gL2 S) _ _ _
  have e : sI (gLook S).2 8 = upd (upd (sI S 8) 4 (sI S 8 4 + 1)) (gL3 S).1 (upd (sI S 8) 4 (sI S 8 4 + 1) (gL3 S).1 + 1) := by
    have h4 : sI (gL4 S) 8 = upd (upd (sI S 8) 4 (sI S 8 4 + 1)) (gL3 S).1 (upd (sI S 8) 4 (sI S 8 4 + 1) (gL3 S).1 + 1) := by
      show upd (sI (gL3 S).2 8) (gL3 S).1 (sI (gL3 S).2 8 (gL3 S).1 + 1) = _
      rw [h3]
    unfold gLook
    show sI (if (gL3 S).1 = 0 then gHeld (gL4 S) (bk (sB S) 0 3) else gL4 S) 8 = _
    split <;> exact h4
  rw [e]
  by_cases c0 : (gL3 S).1 = 0
  · refine ⟨c + 1, ?_, by omega, by omega⟩
    rw [c0, upd_eq rfl, upd_ne (by decide), h, nI_add1]
  · refine ⟨c, ?_, by omega, by omega⟩
    rw [upd_ne (by omega), upd_ne (by decide), h]
theorem gLook_S (T : gSt) : sS (gLook T).2 = sS T := by
  have e1 : ∀ (U : gSt) (v : Nat), sS (gTake U v) = sS U := fun U v => by unfold gTake; split <;> rfl
  have e2 : ∀ (U : gSt) (v : Nat), sS (gThird U v).2 = sS U := fun U v => by unfold gThird; split <;> rfl
  have e3 : ∀ (U : gSt) (p v m : Nat), sS (gJudge U p v m).2 = sS U := by
    intro U p v m
    unfold gJudge
    split
    · rfl
    · split
      · rfl
      · split
        · split
          · exact (e1 _ _).trans (gBan_S _ _)
          · split
            · rfl
            · split
              · exact e2 U v
              · exact (gBan_S _ _).trans (e2 U v)
        · split
          · rfl
          · split
            · exact e2 U v
            · exact (gBan_S _ _).trans (e2 U v)
  have h3 : sS (gL4 T) = sS T := e3 (gL2 T) _ _ _
  unfold gLook
  show sS (if (gL3 T).1 = 0 then gHeld (gL4 T) (bk (sB T) 0 3) else gL4 T) = _
  split <;> exact h3
theorem gNg_dayL : ∀ (n : Nat) {S : gSt}, gNg S → sN S 0 < 1000000000 → sS S 3 < 100 → gNg (gDayL n S)
  | 0, _, h, _, _ => h
  | n + 1, S, h, hT, h3 => by
    rw [gDayL]
    split
    · exact gNg_dayL n (gNg_look h hT h3) (by rw [gLook_0]; exact hT) (by rw [gLook_S]; exact h3)
    · exact h
theorem gDayL_8 : ∀ (n : Nat) {S : gSt} {c : Nat}, sI S 8 0 = nI c → ∃ d, sI (gDayL n S) 8 0 = nI d ∧ c ≤ d ∧ d ≤ c + n
  | 0, _, c, h => ⟨c, h, Nat.le_refl _, Nat.le_refl _⟩
  | n + 1, S, c, h => by
    rw [gDayL]
    split
    · obtain ⟨d, h1, h2, h3⟩ := gLook_8 h
      obtain ⟨e, h4, h5, h6⟩ := gDayL_8 n h1
      exact ⟨e, h4, by omega, by omega⟩
    · exact ⟨c, h, Nat.le_refl _, by omega⟩
theorem gGr_I : ∀ (n T : Nat) (S : gSt), sI (gGr n T S) = sI S ∧ sS (gGr n T S) = sS S
  | 0, _, _ => ⟨rfl, rfl⟩
  | n + 1, T, S => by
    rw [gGr]
    cases ei : gTurn (sW S) (sI S 3) T with
    | none => exact ⟨rfl, rfl⟩
    | some i =>
      cases hE : gEar S (wq (sW S) i / 10) (wq (sW S) i % 10) 7 with
      | none => simp only [hE]; exact gGr_I n (T + 1) S
      | some t => simp only [hE]; exact gGr_I n T (gGive S i t)
theorem gGrant_I (S : gSt) : sI (gGrant S) = sI S := (gGr_I _ _ S).1
theorem gGrant_S (S : gSt) : sS (gGrant S) = sS S := (gGr_I _ _ S).2
theorem gNext_8 (S : gSt) : sI (gNext S) 8 = sI S 8 := by unfold gNext; split <;> rfl
theorem gDay_8 {c : Nat} (hI : gI1 S) (h : sI S 8 0 = nI c) : ∃ d, sI (gDay S) 8 0 = nI d ∧ c ≤ d ∧ d ≤ c + 24 := by
  obtain ⟨d, h1, h2, h3⟩ := gDayL_8 (sB (gGrant S)).length (S := gGrant S) (c := c) (by rw [gGrant_I]; exact h)
  have hn := (gI1_grant hI).2.1
  refine ⟨d, ?_, h2, by omega⟩
  unfold gDay
  rw [gNext_8]
  exact h1
theorem gNg_day (h : gNg S) (hI : gI1 S) (hT : sN S 0 < 1000000000) : gNg (gDay S) := by
  have h1 : gNg (gGrant S) := by
    intro p hp
    rw [gGrant_I]
    exact h p hp
  have h2 : gNg (gDayT S) := gNg_dayL _ h1 (by rw [gGrant_0]; exact hT) (by rw [gGrant_S]; exact hI.2.2.2.2.2.2.2.1)
  unfold gDay gNext
  split
  · exact h2
  · exact gNg_u6 (S := uN (gDayT S) 0 (sN (gDayT S) 0 + 1)) h2 (by decide) (by decide) (by decide) (by decide)
theorem gI3_day (h : gI3 S) (hT : sN S 0 < 1000000000) : gI3 (gDay S) := by
  obtain ⟨h1, h2, c, h3, h4⟩ := h
  obtain ⟨d, h5, h6, h7⟩ := gDay_8 h1.1 h3
  refine ⟨gI2_day h1, gNg_day h2 h1.1 hT, d, h5, ?_⟩
  rw [gDay_0]
  omega
end
theorem gI3_days : ∀ (n : Nat) {S : gSt}, gI3 S → sN S 0 + n < 200000000 → gI3 (gDays n S)
  | 0, _, h, _ => h
  | n + 1, S, h, hT => gI3_days n (gI3_day h (by omega)) (by rw [gDay_0]; omega)
theorem gDays_8 : ∀ (n : Nat) {S : gSt} {c : Nat}, gI1 S → sI S 8 0 = nI c → ∃ d, sI (gDays n S) 8 0 = nI d ∧ c ≤ d ∧ d ≤ c + 24 * n
  | 0, _, c, _, h => ⟨c, h, Nat.le_refl _, by omega⟩
  | n + 1, S, c, hI, h => by
    obtain ⟨d, h1, h2, h3⟩ := gDay_8 hI h
    obtain ⟨e, h4, h5, h6⟩ := gDays_8 n (gI1_day hI) h1
    exact ⟨e, h4, by omega, by omega⟩
theorem nI_sub {a b : Nat} (h : a ≤ b) : nI b - nI a = nI (b - a) := by
  show Int32.ofNat b - Int32.ofNat a = Int32.ofNat (b - a)
  rw [Int32.ofNat_sub _ _ h]
section
variable {S : gSt}
/-- what days give is no number below 0 -/
theorem gDays_ans {n : Nat} (h : gI3 S) (_ : sN S 0 + n < 200000000) : ∃ x, x ≤ 24 * n ∧ sI (gDays n S) 8 0 - sI S 8 0 = nI x := by
  obtain ⟨h1, h2, c, h3, h4⟩ := h
  obtain ⟨d, h5, h6, h7⟩ := gDays_8 n h1.1 h3
  refine ⟨d - c, by omega, ?_⟩
  rw [h5, h3, nI_sub h6]
theorem gHd_same {T : gSt} (h : gHd S) (e : sI T 8 = sI S 8) (e2 : sN T 0 = sN S 0) : gHd T := by
  obtain ⟨c, h1, h2⟩ := h
  exact ⟨c, by rw [e]; exact h1, by rw [e2]; exact h2⟩
theorem gI3_tryAdd (h : gI3 S) (r : Int32) : gI3 (gTryAdd S r).2 := by
  refine ⟨gI2_tryAdd h.1 r, ?_, ?_⟩
  · unfold gTryAdd
    split
    · rename_i c
      split
      · exact gNg_p0 (S := S) h.2.1 c.1
      · exact h.2.1
    · exact h.2.1
  · unfold gTryAdd
    split
    · split
      · exact gHd_same h.2.2 rfl rfl
      · exact h.2.2
    · exact h.2.2
theorem gI3_tryPromote (h : gI3 S) (p r : Int32) : gI3 (gTryPromote S p r).2 := by
  refine ⟨gI2_tryPromote h.1 p r, ?_, ?_⟩
  · unfold gTryPromote
    split
    · split
      · rename_i c
        exact gNg_p0 h.2.1 c.1
      · exact h.2.1
    · exact h.2.1
  · unfold gTryPromote
    split
    · split
      · exact gHd_same h.2.2 rfl rfl
      · exact h.2.2
    · exact h.2.2
theorem gI3_tryList (h : gI3 S) (p v b : Int32) : gI3 (gTryList S p v b).2 := by
  refine ⟨gI2_tryList h.1 p v b, ?_, ?_⟩
  · have hP8 := h.1.1.1
    unfold gTryList
    split
    · rename_i c
      obtain ⟨j, hj, rfl⟩ := gNat_of c.1 (by omega)
      obtain ⟨i, hi, rfl⟩ := gNat_of10 c.2
      show gNg (uI S 1 (upd (sI S 1) (nI j).toNatClampNeg (gWb (sI S 1 (nI j).toNatClampNeg) (nI i) b)))
      rw [nI_clamp (by omega)]
      exact gNg_p1 h.2.1 (by omega) hi
    · exact h.2.1
  · unfold gTryList
    split
    · exact gHd_same h.2.2 rfl rfl
    · exact h.2.2
theorem gI3_tryApart (h : gI3 S) (p q b : Int32) : gI3 (gTryApart S p q b).2 := by
  refine ⟨gI2_tryApart h.1 p q b, ?_, ?_⟩
  · have hP8 := h.1.1.1
    unfold gTryApart
    split
    · rename_i c
      obtain ⟨j, hj, rfl⟩ := gNat_of c (by omega)
      split
      · rename_i c2
        obtain ⟨i, hi, rfl⟩ := gNat_of c2 (by omega)
        split
        · exact h.2.1
        · show gNg (gApart S (nI j).toNatClampNeg (nI i).toNatClampNeg b)
          rw [nI_clamp (by omega), nI_clamp (by omega)]
          unfold gApart
          have h1 : gNg (uI S 5 (upd (sI S 5) j (gWb (sI S 5 j) (nI i) b))) := gNg_p5 h.2.1 (by omega) (by omega)
          exact gNg_p5 (p0 := i) (v := j) h1 (by omega) (by omega)
      · exact h.2.1
    · exact h.2.1
  · unfold gTryApart
    split
    · split
      · split
        · exact h.2.2
        · exact gHd_same h.2.2 rfl rfl
      · exact h.2.2
    · exact h.2.2
theorem gI3_tryCarry (h : gI3 S) (v b : Int32) : gI3 (gTryCarry S v b).2 := by
  refine ⟨gI2_tryCarry h.1 v b, ?_, ?_⟩
  · unfold gTryCarry
    split
    · exact gNg_u6 h.2.1 (by decide) (by decide) (by decide) (by decide)
    · exact h.2.1
  · unfold gTryCarry
    split
    · exact gHd_same h.2.2 rfl rfl
    · exact h.2.2
theorem gI3_tryPunish (h : gI3 S) (hT : sN S 0 < 1000000000) (p n : Int32) : gI3 (gTryPunish S p n).2 := by
  refine ⟨gI2_tryPunish h.1 p n, ?_, ?_⟩
  · unfold gTryPunish
    split
    · split
      · rename_i c
        have c3 : ¬ nI 100 ≤ n := by
          rw [Int32.le_iff_toInt_le, show (nI 100).toInt = 100 by decide]
          have := c.2
          rw [Int32.lt_iff_toInt_lt, show (99 : Int32).toInt = 99 by decide] at this
          omega
        obtain ⟨i, hi, rfl⟩ := gNat_of (n := 100) ⟨c.1, c3⟩ (by decide)
        have e : nI (sN S 0) + nI i = nI (sN S 0 + i) := (Int32.ofNat_add _ _).symm
        show gNg (uI S 2 (upd (sI S 2) p.toNatClampNeg (nI (sN S 0) + nI i)))
        rw [e]
        exact gNg_p2 h.2.1 (nI_nneg (by omega))
      · exact h.2.1
    · exact h.2.1
  · unfold gTryPunish
    split
    · split
      · exact gHd_same h.2.2 rfl rfl
      · exact h.2.2
    · exact h.2.2
theorem gI3_trySet (h : gI3 S) (q x : Int32) : gI3 (gTrySet S q x).2 := by
  refine ⟨gI2_trySet h.1 q x, ?_, ?_⟩
  · unfold gTrySet
    split
    · split <;> exact h.2.1
    · exact h.2.1
  · unfold gTrySet
    split
    · split <;> exact h.2.2
    · exact h.2.2
theorem gI3_tryBook (h : gI3 S) (p v d t : Int32) (hT : sN S 0 < 1000000000) : gI3 (gTryBook S p v d t).2 := by
  refine ⟨gI2_tryBook h.1 p v d t hT, ?_, ?_⟩
  · unfold gTryBook
    split
    · split
      · split <;> exact h.2.1
      · exact h.2.1
    · exact h.2.1
  · unfold gTryBook
    split
    · split
      · split <;> exact h.2.2
      · exact h.2.2
    · exact h.2.2
theorem gI3_tryCancel (h : gI3 S) (k : Int32) : gI3 (gTryCancel S k).2 := by
  refine ⟨gI2_tryCancel h.1 k, ?_, ?_⟩
  · unfold gTryCancel
    split <;> exact h.2.1
  · unfold gTryCancel
    split <;> exact h.2.2
theorem gI3_tryLate (h : gI3 S) (k m : Int32) : gI3 (gTryLate S k m).2 := by
  refine ⟨gI2_tryLate h.1 k m, ?_, ?_⟩
  · unfold gTryLate
    split
    · split <;> exact h.2.1
    · exact h.2.1
  · unfold gTryLate
    split
    · split <;> exact h.2.2
    · exact h.2.2
theorem gI3_tryWish (h : gI3 S) (p v : Int32) : gI3 (gTryWish S p v).2 := by
  refine ⟨gI2_tryWish h.1 p v, ?_, ?_⟩
  · unfold gTryWish
    split
    · split
      · split <;> exact h.2.1
      · exact h.2.1
    · exact h.2.1
  · unfold gTryWish
    split
    · split
      · split <;> exact h.2.2
      · exact h.2.2
    · exact h.2.2
theorem gI3_0 : gI3 gSt0 := by
  refine ⟨gI2_0, fun p hp => ⟨fun i _ hi => gHb_zero hi, fun i _ hi => gHb_zero hi, ?_, ?_⟩, 0, rfl, Nat.zero_le _⟩
  · show ¬ (0 : Int32) < 0
    decide
  · show ¬ (0 : Int32) < 0
    decide
end
