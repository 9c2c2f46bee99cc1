theorem gSim_0 (x : Int64) (S : gSt) : gSim 0 x S = S := rfl
theorem gSim_st (n : Nat) (x : Int64) (S : gSt) : gSim (n + 1) x S = gSim n (gRnd x) (gTurn1 S (gR31 x)) := rfl
theorem g_topL {V : gV} {nL cells slots : Nat} {ws : va_W} {lv : List (Nat × Value)} {pc : Nat} {rest : List Value} {x y : Int64} (h : x = y) (k : gW V nL cells slots ws lv pc (.long y :: rest)) : gW V nL cells slots ws lv pc (.long x :: rest) := h ▸ k
theorem gNar_01 {x : Int32} (h : x = 0 ∨ x = 1) : narrow FieldType.boolean (Value.int x) = Value.int x := by
  rcases h with rfl | rfl <;> rfl
/-! ===== what becomes of a booking: the mark against hour and booth ===== -/
theorem gM1_6 (b : Nat → Nat) : gM1 b 6 = 1 := rfl
theorem gM1_ne (b : Nat → Nat) {w : Nat} (h : w ≠ 6) : gM1 b w = b w := by
  show cond (Nat.beq w 6) 1 (b w) = _
  cases e : Nat.beq w 6 with
  | false => rfl
  | true => exact absurd (Nat.eq_of_beq_eq_true e) h
section
variable {S : gSt}
theorem gMark_len (j : Nat) : (sB (gMark S j)).length = (sB S).length := List.length_set
theorem gMark_bk {j : Nat} (hj : j < (sB S).length) (k w : Nat) (hw : w ≠ 6) : bk (sB (gMark S j)) k w = bk (sB S) k w := by
  have e : bk (sB (gMark S j)) k = if k = j then gM1 (bk (sB S) j) else bk (sB S) k := bk_set hj k
  rw [e]
  by_cases c : k = j
  · rw [if_pos c, gM1_ne _ hw, c]
  · rw [if_neg c]
theorem gMark_6 {j : Nat} (hj : j < (sB S).length) (k : Nat) : bk (sB (gMark S j)) k 6 = if k = j then 1 else bk (sB S) k 6 := by
  have e : bk (sB (gMark S j)) k = if k = j then gM1 (bk (sB S) j) else bk (sB S) k := bk_set hj k
  rw [e]
  by_cases c : k = j
  · rw [if_pos c, if_pos c, gM1_6]
  · rw [if_neg c, if_neg c]
theorem gI3_mark {j : Nat} (h : gI3 S) (hj : j < (sB S).length) : gI3 (gMark S j) := by
  obtain ⟨⟨h1, h2, h3, h4, h5, h6⟩, h7, h8⟩ := h
  have hb : ∀ k w, w ≠ 6 → bk (sB (gMark S j)) k w = bk (sB S) k w := gMark_bk hj
  have hl := gMark_len (S := S) j
  refine ⟨⟨?_, fun i k hik hk => ?_, fun k hk => ?_, h4, h5, h6⟩, h7, h8⟩
  · obtain ⟨a1, a2, a3, a4, a5, a6, a7, a8, a9, a10, a11⟩ := h1
    refine ⟨a1, by rw [hl]; exact a2, a3, a4, a5, a6, a7, a8, a9, a10, fun k hk => ?_⟩
    rw [hl] at hk
    rw [hb k 3 (by decide), hb k 4 (by decide)]
    exact a11 k hk
  · rw [hl] at hk
    have := h2 i k hik hk
    unfold gKlt at this ⊢
    rw [hb k 0 (by decide), hb k 1 (by decide), hb k 2 (by decide), hb i 0 (by decide), hb i 1 (by decide), hb i 2 (by decide)]
    exact this
  · rw [hl] at hk
    have a := h3 k hk
    rw [hb k 0 (by decide), hb k 1 (by decide), hb k 2 (by decide), hb k 5 (by decide), gMark_6 hj]
    refine ⟨a.1, a.2.1, a.2.2.1, a.2.2.2.1, a.2.2.2.2.1, ?_⟩
    split
    · decide
    · exact a.2.2.2.2.2
/-- the marks tell the booking of a day, an hour and a booth; and it is there -/
def gMq (bs : List (Nat → Nat)) (D h t : Nat) : Prop := ∀ k, k < bs.length → bk bs k 6 = 1 → bk bs k 0 = D ∧ bk bs k 1 = h ∧ bk bs k 2 = t
def gMx (bs : List (Nat → Nat)) (D h t : Nat) : Prop := ∃ k, k < bs.length ∧ bk bs k 6 = 1 ∧ bk bs k 0 = D ∧ bk bs k 1 = h ∧ bk bs k 2 = t
theorem gMq_erase {bs : List (Nat → Nat)} {D h t : Nat} (hq : gMq bs D h t) (K : Nat) : gMq (bs.eraseIdx K) D h t := by
  intro k hk
  rw [List.length_eraseIdx] at hk
  rw [bk_erase]
  split
  · exact hq k (by split at hk <;> omega)
  · split at hk
    · exact hq (k + 1) (by omega)
    · omega
theorem gMx_erase {bs : List (Nat → Nat)} {D h t : Nat} (hx : gMx bs D h t) (h0 : ¬ bk bs 0 6 = 1) : gMx (bs.eraseIdx 0) D h t := by
  obtain ⟨k, hk, h6, h1⟩ := hx
  have hk0 : k ≠ 0 := fun e => h0 (by rw [← e]; exact h6)
  refine ⟨k - 1, ?_, ?_⟩
  · rw [List.length_eraseIdx, if_pos (by omega)]
    omega
  · rw [bk_erase, if_neg (Nat.not_lt_zero _), show k - 1 + 1 = k by omega]
    exact ⟨h6, h1⟩
theorem gMq_book {D h t p v d y : Nat} (hq : gMq (sB S) D h t) : gMq (sB (gBook S p v d y)) D h t := by
  have e : sB (gBook S p v d y) = gIns (sB S) (gPlc (sB S) d y (gFr (gVih (sB S) 2 d y (sB S).length))) (gNb d y (gFr (gVih (sB S) 2 d y (sB S).length)) p v) := rfl
  generalize gFr (gVih (sB S) 2 d y (sB S).length) = z at e
  have hP := gPlc_le (sB S) d y z
  intro k hk
  rw [e, gIns_length _ _ _ hP] at hk
  rw [e, bk_ins hP]
  split
  · exact hq k (by omega)
  · split
    · intro c
      have e6 : gNb d y z p v 6 = 0 := rfl
      rw [e6] at c
      cases c
    · exact hq (k - 1) (by omega)
theorem gMx_book {D h t p v d y : Nat} (hx : gMx (sB S) D h t) : gMx (sB (gBook S p v d y)) D h t := by
  have e : sB (gBook S p v d y) = gIns (sB S) (gPlc (sB S) d y (gFr (gVih (sB S) 2 d y (sB S).length))) (gNb d y (gFr (gVih (sB S) 2 d y (sB S).length)) p v) := rfl
  generalize gFr (gVih (sB S) 2 d y (sB S).length) = z at e
  have hP := gPlc_le (sB S) d y z
  obtain ⟨k, hk, h6, h1⟩ := hx
  rw [e]
  by_cases c : k < gPlc (sB S) d y z
  · refine ⟨k, by rw [gIns_length _ _ _ hP]; omega, ?_⟩
    rw [bk_ins hP, if_pos c]
    exact ⟨h6, h1⟩
  · refine ⟨k + 1, by rw [gIns_length _ _ _ hP]; omega, ?_⟩
    rw [bk_ins hP, if_neg (by omega), if_neg (by omega), Nat.add_sub_cancel]
    exact ⟨h6, h1⟩
theorem gMq_gr {D h t : Nat} : ∀ (n T : Nat) {S : gSt}, gMq (sB S) D h t ∧ gMx (sB S) D h t → gMq (sB (gGr n T S)) D h t ∧ gMx (sB (gGr n T S)) D h t
  | 0, _, _, h => h
  | n + 1, T, S, h => by
    rw [gGr]
    cases ei : gTurn (sW S) (sI S 3) T with
    | none => exact h
    | some i =>
      cases hE : gEar S (wq (sW S) i / 10) (wq (sW S) i % 10) 7 with
      | none => simp only [hE]; exact gMq_gr n (T + 1) h
      | some y =>
        simp only [hE]
        refine gMq_gr n T (S := gGive S i y) ?_
        have e : sB (gGive S i y) = sB (gBook S (wq (sW S) i / 10) (wq (sW S) i % 10) (y / 8) (y % 8)) := rfl
        rw [e]
        exact ⟨gMq_book h.1, gMx_book h.2⟩
theorem gMq_grant {D h t : Nat} (hq : gMq (sB S) D h t ∧ gMx (sB S) D h t) : gMq (sB (gGrant S)) D h t ∧ gMx (sB (gGrant S)) D h t := gMq_gr _ _ hq
theorem gMq_dayL {D h t : Nat} : ∀ (n : Nat) {S : gSt}, sN S 0 < D → n ≤ (sB S).length → gMq (sB S) D h t ∧ gMx (sB S) D h t → gMq (sB (gDayL n S)) D h t ∧ gMx (sB (gDayL n S)) D h t
  | 0, _, _, _, hq => hq
  | n + 1, S, hD, hn, hq => by
    rw [gDayL]
    by_cases c : bk (sB S) 0 0 = sN S 0
    · rw [if_pos c]
      have h6 : ¬ bk (sB S) 0 6 = 1 := fun q => by have := (hq.1 0 (by omega) q).1; omega
      refine gMq_dayL n (by rw [gLook_0]; exact hD) (by rw [gLook_len (lf := 1) (by decide)]; omega) ?_
      rw [gLook_B]
      exact ⟨gMq_erase hq.1 0, gMx_erase hq.2 h6⟩
    · rw [if_neg c]
      exact hq
theorem gNext_B (S : gSt) : sB (gNext S) = sB S := by unfold gNext; split <;> rfl
theorem gMq_day {D h t : Nat} (hD : sN S 0 < D) (hq : gMq (sB S) D h t ∧ gMx (sB S) D h t) : gMq (sB (gDay S)) D h t ∧ gMx (sB (gDay S)) D h t := by
  unfold gDay
  rw [gNext_B]
  exact gMq_dayL _ (by rw [gGrant_0]; exact hD) (Nat.le_refl _) (gMq_grant hq)
/-- on the days ahead nothing is told -/
theorem gDLf_ahead {D h t : Nat} : ∀ (n : Nat) {S : gSt} {ft : Int32}, sN S 0 < D → n ≤ (sB S).length → gMq (sB S) D h t → gDLf n S ft = ft
  | 0, _, _, _, _, _ => rfl
  | n + 1, S, ft, hD, hn, hq => by
    rw [gDLf]
    by_cases c : bk (sB S) 0 0 = sN S 0
    · have h6 : ¬ bk (sB S) 0 6 = 1 := fun q => by have := (hq 0 (by omega) q).1; omega
      rw [if_pos c, if_neg h6]
      exact gDLf_ahead (D := D) (h := h) (t := t) n (by rw [gLook_0]; exact hD) (by rw [gLook_len (lf := 1) (by decide)]; omega) (by rw [gLook_B]; exact gMq_erase hq 0)
    · rw [if_neg c]
theorem gDf_ahead {D h t : Nat} {ft : Int32} (hD : sN S 0 < D) (hq : gMq (sB S) D h t ∧ gMx (sB S) D h t) : gDf S ft = ft :=
  gDLf_ahead (D := D) (h := h) (t := t) _ (by rw [gGrant_0]; exact hD) (Nat.le_refl _) (gMq_grant hq).1
/-- without marks nothing is told -/
theorem gDLf_none : ∀ (n : Nat) {S : gSt} {ft : Int32}, n ≤ (sB S).length → (∀ k, k < (sB S).length → ¬ bk (sB S) k 6 = 1) → gDLf n S ft = ft
  | 0, _, _, _, _ => rfl
  | n + 1, S, ft, hn, hq => by
    rw [gDLf]
    by_cases c : bk (sB S) 0 0 = sN S 0
    · rw [if_pos c, if_neg (hq 0 (by omega))]
      refine gDLf_none n (by rw [gLook_len (lf := 1) (by decide)]; omega) fun k hk => ?_
      rw [gLook_len (lf := 1) (by decide)] at hk
      rw [gLook_B, bk_erase, if_neg (Nat.not_lt_zero _)]
      exact hq (k + 1) (by omega)
    · rw [if_neg c]
theorem gSo_ne {bs : List (Nat → Nat)} (h : gSo bs) {i j : Nat} (hi : i < bs.length) (hj : j < bs.length) (e0 : bk bs i 0 = bk bs j 0) (e1 : bk bs i 1 = bk bs j 1) (e2 : bk bs i 2 = bk bs j 2) : i = j := by
  rcases Nat.lt_trichotomy i j with c | c | c
  · have := h i j c hj
    simp only [gKlt, Bool.or_eq_true, Bool.and_eq_true, decide_eq_true_eq] at this
    omega
  · exact c
  · have := h j i c hi
    simp only [gKlt, Bool.or_eq_true, Bool.and_eq_true, decide_eq_true_eq] at this
    omega
/-- on its day the mark tells what hour and booth tell -/
theorem gDLf_day {h t : Nat} : ∀ (n : Nat) {S : gSt} {ft : Int32}, gI2 S → n = (sB S).length → gMq (sB S) (sN S 0) h t → gMx (sB S) (sN S 0) h t → gDLf n S ft = (gFateL n S h t).1
  | 0, S, _, _, hn, _, hx => by
    obtain ⟨k, hk, -⟩ := hx
    omega
  | n + 1, S, ft, hI, hn, hq, hx => by
    obtain ⟨k, hk, k6, k0, k1, k2⟩ := hx
    have d0 : bk (sB S) 0 0 = sN S 0 := by
      have a := gSo_0 hI.2.1 hk
      have b := (hI.2.2.1 0 (by omega)).2.2.1
      omega
    rw [gDLf, if_pos d0, gFateL]
    by_cases c : bk (sB S) 0 1 = h ∧ bk (sB S) 0 2 = t
    · have e : k = 0 := gSo_ne hI.2.1 hk (by omega) (by rw [k0, d0]) (by rw [k1, c.1]) (by rw [k2, c.2])
      rw [e] at k6
      rw [if_pos k6, if_pos c]
      refine gDLf_none n (by rw [gLook_len (lf := 1) (by decide)]; omega) fun i hi q => ?_
      rw [gLook_len (lf := 1) (by decide)] at hi
      rw [gLook_B, bk_erase, if_neg (Nat.not_lt_zero _)] at q
      have a := hq (i + 1) (by omega) q
      have := gSo_ne hI.2.1 (i := i + 1) (j := 0) (by omega) (by omega) (by rw [a.1, d0]) (by rw [a.2.1, c.1]) (by rw [a.2.2, c.2])
      omega
    · have h6 : ¬ bk (sB S) 0 6 = 1 := fun q => c (hq 0 (by omega) q).2
      rw [if_neg h6, if_neg c]
      refine gDLf_day n (gI2_look hI (by omega)) (by rw [gLook_len (lf := 1) (by decide)]; omega) ?_ ?_
      · rw [gLook_0, gLook_B]
        exact gMq_erase hq 0
      · rw [gLook_0, gLook_B]
        exact gMx_erase ⟨k, hk, k6, k0, k1, k2⟩ h6
theorem gDf_day {h t : Nat} {ft : Int32} (hI : gI2 S) (hq : gMq (sB S) (sN S 0) h t ∧ gMx (sB S) (sN S 0) h t) : gDf S ft = (gFateL (sB (gGrant S)).length (gGrant S) h t).1 := by
  have h1 := gMq_grant hq
  exact gDLf_day _ (gI2_grant hI) rfl (by rw [gGrant_0]; exact h1.1) (by rw [gGrant_0]; exact h1.2)
theorem gFateL_nn {h t : Nat} : ∀ (n : Nat) {S : gSt}, gI2 S → n = (sB S).length → gMx (sB S) (sN S 0) h t → ¬ (gFateL n S h t).1 = -1
  | 0, S, _, hn, hx => by
    obtain ⟨k, hk, -⟩ := hx
    omega
  | n + 1, S, hI, hn, hx => by
    rw [gFateL]
    by_cases c : bk (sB S) 0 1 = h ∧ bk (sB S) 0 2 = t
    · rw [if_pos c]
      intro e
      have h3 : (gLook S).1 ≤ 3 := by rw [gLook_1R]; exact gLookR_le S
      exact gNe_m1 (by omega) e
    · rw [if_neg c]
      obtain ⟨k, hk, k6, k0, k1, k2⟩ := hx
      have hk0 : k ≠ 0 := fun e => c (by rw [← e]; exact ⟨k1, k2⟩)
      refine gFateL_nn n (gI2_look hI (by omega)) (by rw [gLook_len (lf := 1) (by decide)]; omega) ?_
      rw [gLook_0, gLook_B]
      refine ⟨k - 1, ?_, ?_⟩
      · rw [List.length_eraseIdx, if_pos (by omega)]
        omega
      · rw [bk_erase, if_neg (Nat.not_lt_zero _), show k - 1 + 1 = k by omega]
        exact ⟨k6, k0, k1, k2⟩
/-- the days up to it: so many are gone, the state, what is told -/
def gBcI (M : gSt) (j n : Nat) (C : gSt) (ft : Int32) : Prop := gI3 C ∧ sN C 0 = sN M 0 + n ∧
  ((n ≤ bk (sB M) j 0 - sN M 0 ∧ ft = -1 ∧ C = gDays n M ∧ gMq (sB C) (bk (sB M) j 0) (bk (sB M) j 1) (bk (sB M) j 2) ∧ gMx (sB C) (bk (sB M) j 0) (bk (sB M) j 1) (bk (sB M) j 2)) ∨ (n = bk (sB M) j 0 - sN M 0 + 1 ∧ ft = (gFate M j).1 ∧ ¬ ft = -1))
theorem gDays_snoc : ∀ (n : Nat) (M : gSt), gDays (n + 1) M = gDay (gDays n M)
  | 0, _ => rfl
  | n + 1, M => gDays_snoc n (gDay M)
theorem gBc_0 {j : Nat} (h : gI3 S) (hz : ∀ k, k < (sB S).length → bk (sB S) k 6 = 0) (hj : j < (sB S).length) : gBcI (gMark S j) j 0 (gMark S j) (-1) := by
  refine ⟨gI3_mark h hj, rfl, Or.inl ⟨Nat.zero_le _, rfl, rfl, fun k hk q => ?_, j, ?_, ?_, rfl, rfl, rfl⟩⟩
  · rw [gMark_len] at hk
    rw [gMark_6 hj] at q
    by_cases c : k = j
    · rw [c]
      exact ⟨rfl, rfl, rfl⟩
    · rw [if_neg c, hz k hk] at q
      cases q
  · rw [gMark_len]
    exact hj
  · rw [gMark_6 hj, if_pos rfl]
theorem gBc_st {M C : gSt} {j n : Nat} (h : gBcI M j n C (-1)) (hT : sN M 0 + n < 1000000000) (hd : sN M 0 ≤ bk (sB M) j 0) : gBcI M j (n + 1) (gDay C) (gDf C (-1)) := by
  obtain ⟨h1, h2, h3⟩ := h
  rcases h3 with ⟨a, -, b, hq, hx⟩ | ⟨-, -, c⟩
  · refine ⟨gI3_day h1 (by omega), by rw [gDay_0]; omega, ?_⟩
    by_cases e : n = bk (sB M) j 0 - sN M 0
    · right
      have eD : bk (sB M) j 0 = sN C 0 := by omega
      rw [eD] at hq hx
      have e2 := gDf_day (ft := -1) h1.1 ⟨hq, hx⟩
      have e3 : gDf C (-1) = (gFate M j).1 := by
        rw [e2]
        unfold gFate
        rw [← e, ← b]
      have hxg := (gMq_grant ⟨hq, hx⟩).2
      rw [← gGrant_0 C] at hxg
      exact ⟨by omega, e3, by rw [e2]; exact gFateL_nn _ (gI2_grant h1.1) rfl hxg⟩
    · left
      have hlt : sN C 0 < bk (sB M) j 0 := by omega
      have e2 := gMq_day hlt ⟨hq, hx⟩
      exact ⟨by omega, gDf_ahead hlt ⟨hq, hx⟩, by rw [gDays_snoc, b], e2.1, e2.2⟩
  · exact absurd rfl c
theorem gBc_e {M C : gSt} {j n : Nat} {ft : Int32} (h : gBcI M j n C ft) (hd : bk (sB M) j 0 - sN M 0 < 60) (he : ¬ ft = -1 ∨ 60 ≤ n) : ft = (gFate M j).1 := by
  obtain ⟨h1, h2, h3⟩ := h
  rcases h3 with ⟨a, b, -⟩ | ⟨-, c, -⟩
  · rcases he with q | q
    · exact absurd b q
    · omega
  · exact c
end
theorem gTen_nz {d : Nat} (h : d ≤ 15) : ¬ gTen d = 0 := by
  intro e
  have h1 := gTen_15 d h
  rw [e, show (0 : Int64).toInt = 0 by decide] at h1
  have h2 : 0 < 10 ^ d := Nat.pow_pos (by decide)
  omega
