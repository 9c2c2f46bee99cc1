/-! ===== what would be is so when it is done; what is taken back is as it was ===== -/
def gCtr (S : gSt) (c : Nat → Nat) : Prop := ∀ i, i < 5 → sI S 8 i = nI (c i)
section
variable {S : gSt} {c : Nat → Nat}
theorem gCtr_look (h : gCtr S c) : gCtr (gLook S).2 (fun i => if i = (gLook S).1 then c i + 1 else if i = 4 then c i + 1 else c i) := by
  have h8 := gLook_c8 S
  have hle : (gL3 S).1 ≤ 3 := gJudge_le _ _ _ _
  intro i hi
  show sI (gLook S).2 8 i = nI (if i = (gL3 S).1 then c i + 1 else if i = 4 then c i + 1 else c i)
  rw [h8]
  by_cases a : i = (gL3 S).1
  · rw [upd_eq a, if_pos a, upd_ne (by omega), ← a, h i hi, nI_add1]
  · rw [upd_ne a, if_neg a]
    by_cases b : i = 4
    · rw [upd_eq b, if_pos b, b, h 4 (by decide), nI_add1]
    · rw [upd_ne b, if_neg b, h i hi]
theorem gCtr_dayL : ∀ (n : Nat) {S : gSt} {c : Nat → Nat}, gCtr S c → ∃ d : Nat → Nat, gCtr (gDayL n S) d ∧ ∀ i, i < 5 → c i ≤ d i ∧ d i ≤ c i + n
  | 0, _, c, h => ⟨c, h, fun i _ => ⟨Nat.le_refl _, Nat.le_refl _⟩⟩
  | n + 1, S, c, h => by
    rw [gDayL]
    split
    · obtain ⟨d, h1, h2⟩ := gCtr_dayL n (gCtr_look h)
      refine ⟨d, h1, fun i hi => ?_⟩
      have h3 := h2 i hi
      have h4 : (if i = (gLook S).1 then c i + 1 else if i = 4 then c i + 1 else c i) = c i ∨ (if i = (gLook S).1 then c i + 1 else if i = 4 then c i + 1 else c i) = c i + 1 := by
        split
        · exact Or.inr rfl
        · split
          · exact Or.inr rfl
          · exact Or.inl rfl
      omega
    · exact ⟨c, h, fun i _ => ⟨Nat.le_refl _, Nat.le_add_right _ _⟩⟩
theorem gCtr_day (hI : gI1 S) (h : gCtr S c) : ∃ d : Nat → Nat, gCtr (gDay S) d ∧ ∀ i, i < 5 → c i ≤ d i ∧ d i ≤ c i + 24 := by
  have h0 : gCtr (gGrant S) c := by
    intro i hi
    rw [gGrant_I]
    exact h i hi
  obtain ⟨d, h1, h2⟩ := gCtr_dayL (sB (gGrant S)).length h0
  have hn := (gI1_grant hI).2.1
  refine ⟨d, ?_, fun i hi => by have := h2 i hi; omega⟩
  intro i hi
  unfold gDay
  rw [gNext_8]
  exact h1 i hi
end
theorem gCtr_days : ∀ (n : Nat) {S : gSt} {c : Nat → Nat}, gI1 S → gCtr S c → ∃ d : Nat → Nat, gCtr (gDays n S) d ∧ ∀ i, i < 5 → c i ≤ d i ∧ d i ≤ c i + 24 * n
  | 0, _, c, _, h => ⟨c, h, fun i _ => ⟨Nat.le_refl _, Nat.le_refl _⟩⟩
  | n + 1, _, c, hI, h => by
    obtain ⟨d, h1, h2⟩ := gCtr_day hI h
    obtain ⟨e, h3, h4⟩ := gCtr_days n (gI1_day hI) h1
    exact ⟨e, h3, fun i hi => by have := h2 i hi; have := h4 i hi; omega⟩
section
variable {A B : gA} {b : Nat}
theorem fCom_in {n k : Nat} {c d : Nat → Nat} (h1 : 1 ≤ n) (h60 : n ≤ 60) (hk : k < 4) (h : gCtr (aS A) c) (h' : gCtr (gDays n (aS A)) d) (hle : c k ≤ d k) : fComing A (nI n) (nI k) = (0, nI (d k - c k), A) := by
  unfold fComing
  rw [if_pos ⟨fun q => by have := (nI_ltI (b := 1) (by omega) (by omega)).mp q; omega, fun q => by have := (nI_ltI (a := 60) (by omega) (by omega)).mp q; omega⟩, if_pos ⟨nI_pos (by omega), fun q => by have := (nI_ltI (a := 4) (by omega) (by omega)).mp q; omega⟩, if_neg (fun q => by have := (nI_eq (b := 4) (by omega) (by omega)).mp q; omega), nI_clamp (by omega), nI_clamp (by omega), h' k (by omega), h k (by omega), nI_sub hle]
theorem fCom_4 {n : Nat} (h1 : 1 ≤ n) (h60 : n ≤ 60) : fComing A (nI n) 4 = (0, nI (sW (gDays n (aS A))).length, A) := by
  unfold fComing
  rw [if_pos ⟨fun q => by have := (nI_ltI (b := 1) (by omega) (by omega)).mp q; omega, fun q => by have := (nI_ltI (a := 60) (by omega) (by omega)).mp q; omega⟩, if_pos (by decide), if_pos rfl, nI_clamp (by omega)]
theorem fRun_in {n : Nat} {c d : Nat → Nat} (h1 : 1 ≤ n) (h30 : n ≤ 30) (h : gCtr (aS A) c) (h' : gCtr (gDays n (aS A)) d) (hle : c 0 ≤ d 0) (hd : d 0 < 1000000000) : fRun A (nI n) = (0, nI (d 0 - c 0), aRem A (gDays n (aS A))) := by
  unfold fRun
  rw [if_pos ⟨fun q => by have := (nI_ltI (b := 1) (by omega) (by omega)).mp q; omega, fun q => by have := (nI_ltI (a := 30) (by omega) (by omega)).mp q; omega⟩, nI_clamp (by omega), h' 0 (by decide), h 0 (by decide), nI_sub hle]
  exact aAct_0 rfl (nI_pos (by omega))
/-- taken back -/
def gUnd (A : gA) : gA := (A.1, aS A, (gHc (aC A) - 1, gHh (aC A) (aH A) (aS A)), aL A)
theorem fUndo_rem {T : gSt} : fUndo (aRem A T) = (0, nI (gHc (aC A) - 1), gUnd A) := by
  have e1 : aC (aRem A T) = gHc (aC A) := rfl
  have h0 : ¬ gHc (aC A) = 0 := by
    unfold gHc
    split <;> omega
  have e2 : aH (aRem A T) (gHc (aC A) - 1) = aS A := by
    show gHh (aC A) (aH A) (aS A) (gHc (aC A) - 1) = aS A
    unfold gHh gHc
    by_cases c : aC A = 14
    · rw [if_pos c, if_pos c, if_neg (by omega)]
    · rw [if_neg c, if_neg c, if_pos (by omega)]
  unfold fUndo
  rw [e1, if_neg h0, e2]
  rfl
theorem gHh_old {c : Nat} {H : Nat → gSt} {S : gSt} {P : gSt → Prop} (hH : ∀ k, k < c → P (H k)) : ∀ k, k < gHc c - 1 → P (gHh c H S k) := by
  intro k hk
  unfold gHc at hk
  unfold gHh
  by_cases d : c = 14
  · rw [if_pos d] at hk ⊢
    rw [if_pos (by omega)]
    exact hH (k + 1) (by omega)
  · rw [if_neg d] at hk ⊢
    rw [if_neg (by omega)]
    exact hH k (by omega)
theorem gAok_und (h : gAok b A) : gAok b (gUnd A) := by
  obtain ⟨h1, h2, h3, h4, h5⟩ := h
  refine ⟨h1, h2, ?_, gHh_old h4, h5⟩
  show gHc (aC A) - 1 ≤ 14
  unfold gHc
  split <;> omega
theorem gX5_und (h : gX5 A) : gX5 (gUnd A) := ⟨h.1, gHh_old h.2.1, h.2.2⟩
/-- the object while what is done is taken back: it differs in what is remembered alone -/
def gFw (b : Nat) (A B : gA) : Prop := B.1 = A.1 ∧ aS B = aS A ∧ aL B = aL (gSav A) ∧ gAok b B ∧ gX5 B
theorem gFw_0 (hA : gAok b A) (hX : gX5 A) : gFw b A (gSav A) := ⟨rfl, rfl, rfl, gAok_sav hA, gX5_sav hX⟩
theorem gFw_und (h : gFw b A B) : gFw b A (gUnd B) := ⟨h.1, h.2.1, h.2.2.1, gAok_und h.2.2.2.1, gX5_und h.2.2.2.2⟩
theorem gCls_H {t : Nat × (Nat → Int32)} {S : gSt} {H H' : Nat → gSt} {l : Nat → Option gSt} {w : gVu} (h : gClsI (t, S, (0, H), l) w) : gClsI (t, S, (0, H'), l) w := by
  obtain ⟨h1, h2, h3, ⟨nx, n1, n2, n3, -⟩, h5, h6⟩ := h
  exact ⟨h1, h2, h3, ⟨nx, n1, n2, n3, fun k hk => absurd hk (Nat.not_lt_zero k)⟩, h5, h6⟩
theorem fRest_w (h : gFw b A B) : fRest B 1 = (0, nI (sN (aS A) 0), (A.1, aS A, (0, aH B), aL (gSav A))) := by
  have e : aL B 1 = some (aS A) := by rw [h.2.2.1]; rfl
  rw [fRest_1 e, h.1, h.2.2.1]
theorem gFol_w {w : gVu} (h : gClsI (A.1, aS A, (0, aH B), aL (gSav A)) w) : gClsI (gFol A) w := gCls_H h
theorem fUndo_0 (h : aC A = 0) : fUndo A = (1, 0, A) := by
  unfold fUndo
  rw [if_pos h]
/-! first times -/
theorem gEar_min {S : gSt} {p v n t j : Nat} (h : gEar S p v n = some t) (hj : 8 * sN S 0 ≤ j) (hjt : j < t) : gRA S p v (j / 8) (j % 8) ≠ 0 := by
  unfold gEar at h
  obtain ⟨i, hi, rfl⟩ := Option.map_eq_some_iff.mp h
  rw [List.find?_range_eq_some] at hi
  have h1 := hi.2.2 (j - 8 * sN S 0) (by omega)
  intro q
  have e1 : sN S 0 + (j - 8 * sN S 0) / 8 = j / 8 := by omega
  have e2 : (j - 8 * sN S 0) % 8 = j % 8 := by omega
  rw [e1, e2, q] at h1
  exact absurd h1 (by decide)
theorem gEar_ex {S : gSt} {p v n d y : Nat} (hy : y < 8) (hd : sN S 0 ≤ d) (hdn : d < sN S 0 + n) (h : gRA S p v d y = 0) : ∃ t, gEar S p v n = some t ∧ t ≤ 8 * d + y := by
  cases e : gEar S p v n with
  | none =>
    exfalso
    unfold gEar at e
    rw [Option.map_eq_none_iff, List.find?_range_eq_none] at e
    have h1 := e (8 * (d - sN S 0) + y) (by omega)
    have e1 : sN S 0 + (8 * (d - sN S 0) + y) / 8 = d := by omega
    have e2 : (8 * (d - sN S 0) + y) % 8 = y := by omega
    rw [e1, e2, h] at h1
    exact absurd h1 (by decide)
  | some t =>
    refine ⟨t, rfl, ?_⟩
    rcases Nat.lt_or_ge (8 * d + y) t with q | q
    · have := gEar_min e (j := 8 * d + y) (by omega) q
      rw [show (8 * d + y) / 8 = d by omega, show (8 * d + y) % 8 = y by omega] at this
      exact absurd h this
    · exact q
theorem g04 {P : Prop} [Decidable P] : (if P then 0 else 4 : Nat) = 0 ∨ (if P then 0 else 4 : Nat) = 4 := by
  by_cases c : P
  · exact Or.inl (if_pos c)
  · exact Or.inr (if_neg c)
/-! a booking that was possible is not so twice -/
theorem gRA_book {S : gSt} {p v d y : Nat} (hI : gI1 S) (h : gRA S p v d y = 0) (hp : p < 32) : 4 ≤ gRA (gBook S p v d y) p v d y := by
  have hO : gROD S p v d = 0 := by
    unfold gRA at h
    split at h
    · assumption
    · rename_i q
      exact absurd h q
  have hO2 : gROD (gBook S p v d y) p v d = 0 ∨ gROD (gBook S p v d y) p v d = 4 := by
    unfold gROD at hO ⊢
    by_cases c1 : gHb (sI S 1 p) (nI v) = true
    · rw [if_pos c1] at hO
      rw [if_pos (show gHb (sI (gBook S p v d y) 1 p) (nI v) = true from c1)]
      by_cases c2 : sI S 2 p ≤ nI d
      · rw [if_pos c2] at hO
        rw [if_pos (show sI (gBook S p v d y) 2 p ≤ nI d from c2)]
        by_cases c3 : sI S 7 v ≤ nI d
        · rw [if_pos (show sI (gBook S p v d y) 7 v ≤ nI d from c3)]
          exact g04
        · rw [if_neg c3] at hO
          cases hO
      · rw [if_neg c2] at hO
        cases hO
    · rw [if_neg c1] at hO
      cases hO
  unfold gRA
  rcases hO2 with e | e
  · rw [e, if_pos rfl]
    have hP := gPlc_le (sB S) d y (gFr (gVih (sB S) 2 d y (sB S).length))
    have eB : sB (gBook S p v d y) = gIns (sB S) (gPlc (sB S) d y (gFr (gVih (sB S) 2 d y (sB S).length))) (gNb d y (gFr (gVih (sB S) 2 d y (sB S).length)) p v) := rfl
    generalize gPlc (sB S) d y (gFr (gVih (sB S) 2 d y (sB S).length)) = P at hP eB
    generalize gFr (gVih (sB S) 2 d y (sB S).length) = t at eB
    have hl : (sB (gBook S p v d y)).length = (sB S).length + 1 := by rw [eB]; exact gIns_length _ _ _ hP
    have hb : gHb (gVih (sB (gBook S p v d y)) 3 d y (sB (gBook S p v d y)).length) (nI p) = true := by
      refine (gVih_bit hp fun k hk => ?_).mpr ⟨P, by omega, ?_, ?_⟩
      · have hF := hI.2.2.2.2.2.2.2.2.2.2
        have h8 := hI.1
        rw [eB, bk_ins hP]
        by_cases c1 : k < P
        · rw [if_pos c1]
          have := (hF k (by omega)).1
          omega
        · rw [if_neg c1]
          by_cases c2 : k = P
          · rw [if_pos c2]
            exact hp
          · rw [if_neg c2]
            have := (hF (k - 1) (by omega)).1
            omega
      · rw [eB, bk_ins hP, if_neg (Nat.lt_irrefl _), if_pos rfl]
        exact ⟨rfl, rfl⟩
      · rw [eB, bk_ins hP, if_neg (Nat.lt_irrefl _), if_pos rfl]
        rfl
    unfold gRIH
    rw [if_pos hb]
    decide
  · rw [e, if_neg (by decide)]
    exact Nat.le_refl 4
theorem gTryBook_in {S : gSt} {p v d y : Nat} (h : p < sN S 1) (h8 : sN S 1 ≤ 8) (hv : v < 10) (hd : sN S 0 ≤ d) (h9 : d ≤ 9999) (hy : y < 8) (hR : gRA S p v d y = 0) : gTryBook S (nI p) (nI v) (nI d) (nI y) = (nI (gFr (gVih (sB S) 2 d y (sB S).length)), gBook S p v d y) := by
  unfold gTryBook
  rw [if_pos ⟨gIn_lt h (by omega), gIn10 hv⟩, if_pos (gTm_in hd h9 hy), nI_clamp (by omega), nI_clamp (by omega), nI_clamp (by omega), nI_clamp (by omega), if_pos hR]
theorem fBook_in {p v d y : Nat} (h : p < sN (aS A) 1) (h8 : sN (aS A) 1 ≤ 8) (hv : v < 10) (hd : sN (aS A) 0 ≤ d) (h9 : d ≤ 9999) (hy : y < 8) (hR : gRA (aS A) p v d y = 0) : aAct 1 2 3 A (gTryBook (aS A) (nI p) (nI v) (nI d) (nI y)) = (0, nI (gFr (gVih (sB (aS A)) 2 d y (sB (aS A)).length)), aRem A (gBook (aS A) p v d y)) := by
  have := gFr_le (gVih (sB (aS A)) 2 d y (sB (aS A)).length)
  exact aAct_0 (gTryBook_in h h8 hv hd h9 hy hR) (nI_pos (by omega))
theorem gBook_len {S : gSt} {p v d y : Nat} : (sB (gBook S p v d y)).length = (sB S).length + 1 := gIns_length _ _ _ (gPlc_le _ _ _ _)
/-! privileges lost -/
def gPun (S : gSt) (p n : Nat) : gSt := uI S 2 (upd (sI S 2) p (nI (sN S 0) + nI n))
theorem fPunish_in {p n : Nat} (h : p < sN (aS A) 1) (h8 : sN (aS A) 1 ≤ 8) (hn : n ≤ 99) (h0 : ¬ sI (aS A) 2 p < 0) : aAct 1 2 0 A (gTryPunish (aS A) (nI p) (nI n)) = (0, sI (aS A) 2 p, aRem A (gPun (aS A) p n)) := aAct_0 (gTP_yes h8 h hn) h0
theorem gRA_pun {S : gSt} {p v d y n : Nat} (hL : gHb (sI S 1 p) (nI v) = true) (hd : d < sN S 0 + n) (hb : sN S 0 + n < 1000000000) : gRA (gPun S p n) p v d y = 2 := by
  have e2 : sI (gPun S p n) 2 p = nI (sN S 0 + n) := by
    show upd (sI S 2) p (nI (sN S 0) + nI n) p = _
    rw [upd_eq rfl, nI_add]
  have hO : gROD (gPun S p n) p v d = 2 := by
    unfold gROD
    rw [if_pos (show gHb (sI (gPun S p n) 1 p) (nI v) = true from hL), if_neg (by rw [e2]; intro q; have := (nI_leI (by omega) (by omega)).mp q; omega)]
  unfold gRA
  rw [hO, if_neg (by decide)]
theorem gRA_list {S : gSt} {p v d y : Nat} (h : 1 < gRA S p v d y) : gHb (sI S 1 p) (nI v) = true := by
  cases e : gHb (sI S 1 p) (nI v) with
  | true => rfl
  | false =>
    rw [gRA_1 (by rw [e]; decide)] at h
    omega
/-! bookings that end, that come late -/
theorem fCancel_in {k : Nat} (hk : k < (sB (aS A)).length) (hn : (sB (aS A)).length ≤ 24) : aAct 1 0 0 A (gTryCancel (aS A) (nI k)) = (0, nI ((sB (aS A)).length - 1), aRem A (uB (aS A) ((sB (aS A)).eraseIdx k))) := by
  refine aAct_0 ?_ (nI_pos (by omega))
  unfold gTryCancel
  rw [if_pos (gIn_lt hk (by omega)), nI_clamp (by omega), List.length_eraseIdx, if_pos hk]
theorem fLate_in {k m : Nat} (hk : k < (sB (aS A)).length) (hn : (sB (aS A)).length ≤ 24) (hm : m ≤ 59) (h5 : bk (sB (aS A)) k 5 < 1000) : aAct 1 2 0 A (gTryLate (aS A) (nI k) (nI m)) = (0, nI (bk (sB (aS A)) k 5), aRem A (gLate (aS A) k m)) := by
  refine aAct_0 ?_ (nI_pos (by omega))
  unfold gTryLate
  rw [if_pos (gIn_lt hk (by omega)), if_pos ⟨nI_pos (by omega), fun q => by have := (nI_ltI (a := 59) (by omega) (by omega)).mp q; omega⟩, nI_clamp (by omega), nI_clamp (by omega)]
theorem gLate_5 {S : gSt} {k m : Nat} (hk : k < (sB S).length) : bk (sB (gLate S k m)) k 5 = m := by
  show bk ((sB S).set k (gMin (bk (sB S) k) m)) k 5 = m
  rw [bk_set hk, if_pos rfl, gMin_5]
end
/-! the fates of today's bookings, one after the other -/
def gIter : Nat → gSt → gSt
  | 0, S => S
  | k + 1, S => gIter k (gLook S).2
section
variable {S : gSt}
theorem gIter_B : ∀ (k : Nat) (S : gSt), sB (gIter k S) = (sB S).drop k
  | 0, S => rfl
  | k + 1, S => by
    rw [gIter, gIter_B k, gLook_B]
    cases e : sB S with
    | nil => simp
    | cons x l => rfl
theorem bk_tail {bs : List (Nat → Nat)} (j : Nat) : bk (bs.eraseIdx 0) j = bk bs (j + 1) := by
  rw [bk_erase, if_neg (Nat.not_lt_zero _)]
/-- bookings alike in all that is looked at -/
def gAlk (bs cs : List (Nat → Nat)) : Prop := bs.length = cs.length ∧ ∀ k w, w < 6 → bk bs k w = bk cs k w
theorem gAlk_tail {bs cs : List (Nat → Nat)} (h : gAlk bs cs) : gAlk (bs.eraseIdx 0) (cs.eraseIdx 0) := by
  refine ⟨by rw [List.length_eraseIdx, List.length_eraseIdx, h.1], fun k w hw => ?_⟩
  rw [bk_tail, bk_tail]
  exact h.2 (k + 1) w hw
theorem gLookR_alk {cs : List (Nat → Nat)} (h : gAlk (sB S) cs) : gLookR (uB S cs) = ((gLookR S).1, uB (gLookR S).2 cs) := by
  have e3 := h.2 0 3 (by decide)
  have e4 := h.2 0 4 (by decide)
  have e5 := h.2 0 5 (by decide)
  unfold gLookR
  rw [show gCn (uB S cs) = uB (gCn S) cs from rfl, show bk (sB (uB S cs)) 0 3 = bk (sB S) 0 3 from e3.symm, show bk (sB (uB S cs)) 0 4 = bk (sB S) 0 4 from e4.symm, show bk (sB (uB S cs)) 0 5 = bk (sB S) 0 5 from e5.symm, gJudge_uB]
  by_cases c : (gJudge (gCn S) (bk (sB S) 0 3) (bk (sB S) 0 4) (bk (sB S) 0 5)).1 = 0
  · rw [if_pos c, if_pos c]
    rfl
  · rw [if_neg c, if_neg c]
theorem gLook_alk {cs : List (Nat → Nat)} (h : gAlk (sB S) cs) : (gLook (uB S cs)).1 = (gLook S).1 ∧ (gLook (uB S cs)).2 = uB (gLook S).2 (cs.eraseIdx 0) := by
  rw [gLook_R (uB S cs), gLook_R S, gLookR_alk h]
  exact ⟨rfl, rfl⟩
theorem gFateL_alk {y t : Nat} : ∀ (n : Nat) {S : gSt} {cs : List (Nat → Nat)}, gAlk (sB S) cs → (gFateL n (uB S cs) y t).1 = (gFateL n S y t).1
  | 0, _, _, _ => rfl
  | n + 1, S, cs, h => by
    obtain ⟨l1, l2⟩ := gLook_alk h
    rw [gFateL, gFateL, show bk (sB (uB S cs)) 0 1 = bk (sB S) 0 1 from (h.2 0 1 (by decide)).symm, show bk (sB (uB S cs)) 0 2 = bk (sB S) 0 2 from (h.2 0 2 (by decide)).symm]
    by_cases c : bk (sB S) 0 1 = y ∧ bk (sB S) 0 2 = t
    · rw [if_pos c, if_pos c, l1]
    · rw [if_neg c, if_neg c, l2]
      exact gFateL_alk n (by rw [gLook_B]; exact gAlk_tail h)
theorem gFateL_it : ∀ (k n : Nat) {S : gSt}, gSo (sB S) → k < (sB S).length → n = (sB S).length → (∀ j, j ≤ k → bk (sB S) j 0 = bk (sB S) 0 0) → (gFateL n S (bk (sB S) k 1) (bk (sB S) k 2)).1 = nI (gLook (gIter k S)).1
  | 0, n, S, _, hk, hn, _ => by
    obtain ⟨m, rfl⟩ : ∃ m, n = m + 1 := ⟨n - 1, by omega⟩
    rw [gFateL, if_pos ⟨rfl, rfl⟩]
    rfl
  | k + 1, n, S, hs, hk, hn, hd => by
    obtain ⟨m, rfl⟩ : ∃ m, n = m + 1 := ⟨n - 1, by omega⟩
    have h1 := hs 0 (k + 1) (by omega) hk
    have h2 := hd (k + 1) (Nat.le_refl _)
    simp only [gKlt, Bool.or_eq_true, Bool.and_eq_true, decide_eq_true_eq] at h1
    rw [gFateL, if_neg (by omega)]
    have hB := gLook_B S
    have e1 : ∀ j w, bk (sB (gLook S).2) j w = bk (sB S) (j + 1) w := by
      intro j w
      rw [hB, bk_tail]
    have hl := gLook_len (S := S) (lf := 1) (by decide)
    have ih := gFateL_it k m (S := (gLook S).2) (by rw [hB]; exact gSo_erase hs 0) (by omega) (by omega) (fun j hj => by rw [e1, e1, hd (j + 1) (by omega), hd 1 (by omega)])
    rw [e1, e1] at ih
    exact ih
theorem gGrant_0w (h : sW S = []) : gGrant S = S := by
  unfold gGrant
  rw [h]
  rfl
theorem gFate_at {k : Nat} (hI : gI2 S) (hw : sW S = []) (hk : k < (sB S).length) (hd : bk (sB S) k 0 = sN S 0) : (gFate (gMark S k) k).1 = nI (gLook (gIter k S)).1 := by
  have hA : gAlk (sB S) (sB (gMark S k)) := by
    refine ⟨(List.length_set).symm, fun j w hw6 => ?_⟩
    show bk (sB S) j w = bk ((sB S).set k (gM1 (bk (sB S) k))) j w
    rw [bk_set hk]
    by_cases c : j = k
    · rw [if_pos c, c]
      show _ = cond (Nat.beq w 6) 1 (bk (sB S) k w)
      cases e : Nat.beq w 6 with
      | false => rfl
      | true =>
        have := Nat.eq_of_beq_eq_true e
        omega
    · rw [if_neg c]
  have e0 : bk (sB (gMark S k)) k 0 - sN (gMark S k) 0 = 0 := by
    rw [← hA.2 k 0 (by decide), hd]
    exact Nat.sub_self _
  have hd0 : ∀ j, j ≤ k → bk (sB S) j 0 = bk (sB S) 0 0 := by
    intro j hj
    have a := gSo_0 hI.2.1 (k := j) (by omega)
    have b0 := (hI.2.2.1 0 (by omega)).2.2.1
    rcases Nat.lt_or_ge j k with q | q
    · have := hI.2.1 j k q hk
      simp only [gKlt, Bool.or_eq_true, Bool.and_eq_true, decide_eq_true_eq] at this
      have a2 := gSo_0 hI.2.1 hk
      omega
    · obtain rfl : j = k := by omega
      omega
  unfold gFate
  rw [e0]
  show (gFateL (sB (gGrant (gMark S k))).length (gGrant (gMark S k)) (bk (sB (gMark S k)) k 1) (bk (sB (gMark S k)) k 2)).1 = _
  rw [gGrant_0w (S := gMark S k) hw, ← hA.2 k 1 (by decide), ← hA.2 k 2 (by decide), ← hA.1]
  have h1 := gFateL_alk (y := bk (sB S) k 1) (t := bk (sB S) k 2) (sB S).length hA
  rw [show uB S (sB (gMark S k)) = gMark S k from rfl] at h1
  rw [h1]
  exact gFateL_it k _ hI.2.1 hk rfl hd0
theorem gCnt_shift (p : Nat → Bool) : ∀ n : Nat, gCnt p (n + 1) = (if p 0 = true then 1 else 0) + gCnt (fun k => p (k + 1)) n
  | 0 => by
    show 0 + (if p 0 = true then 1 else 0) = _ + 0
    omega
  | n + 1 => by
    rw [gCnt, gCnt_shift p n, gCnt]
    omega
/-- whose fate it is -/
def gFt (S : gSt) (f k : Nat) : Bool := decide (bk (sB S) k 0 = sN S 0) && decide ((gLook (gIter k S)).1 = f)
theorem gFt_cnt : ∀ (n : Nat) {S : gSt} {c : Nat → Nat}, gI2 S → n = (sB S).length → gCtr S c → ∃ d : Nat → Nat, gCtr (gDayL n S) d ∧ ∀ f, f < 4 → d f = c f + gCnt (gFt S f) n
  | 0, _, c, _, _, h => ⟨c, h, fun f _ => rfl⟩
  | n + 1, S, c, hI, hn, h => by
    rw [gDayL]
    by_cases e : bk (sB S) 0 0 = sN S 0
    · rw [if_pos e]
      obtain ⟨d, h1, h2⟩ := gFt_cnt n (gI2_look hI (by omega)) (by rw [gLook_len (lf := 1) (by decide)]; omega) (gCtr_look h)
      refine ⟨d, h1, fun f hf => ?_⟩
      rw [h2 f hf, gCnt_shift]
      have e1 : gCnt (gFt (gLook S).2 f) n = gCnt (fun k => gFt S f (k + 1)) n := by
        refine gCnt_congr fun k _ => ?_
        unfold gFt
        rw [gLook_0, gLook_B, bk_tail]
        rfl
      have e2 : gFt S f 0 = decide ((gLook S).1 = f) := by
        unfold gFt
        rw [decide_eq_true e]
        rfl
      rw [e1, e2]
      show (if f = (gLook S).1 then c f + 1 else if f = 4 then c f + 1 else c f) + _ = _
      by_cases q : (gLook S).1 = f
      · rw [if_pos q.symm, if_pos (decide_eq_true q)]
        omega
      · rw [if_neg (fun z => q z.symm), if_neg (by omega), if_neg (fun z => q (of_decide_eq_true z))]
        omega
    · rw [if_neg e]
      refine ⟨c, h, fun f hf => ?_⟩
      have h0 : ∀ m, m ≤ (sB S).length → gCnt (gFt S f) m = 0 := by
        intro m
        induction m with
        | zero => intro _; rfl
        | succ m ih =>
          intro hm
          have a := gSo_0 hI.2.1 (k := m) (by omega)
          have b0 := (hI.2.2.1 0 (by omega)).2.2.1
          have e2 : gFt S f m = false := by
            unfold gFt
            rw [decide_eq_false (by omega)]
            rfl
          rw [gCnt, ih (by omega), e2]
          rfl
      rw [h0 (n + 1) (by omega)]
      rfl
theorem gFt_days {c : Nat → Nat} (hI : gI2 S) (hw : sW S = []) (h : gCtr S c) : ∃ d : Nat → Nat, gCtr (gDays 1 S) d ∧ ∀ f, f < 4 → d f = c f + gCnt (gFt S f) (sB S).length := by
  obtain ⟨d, h1, h2⟩ := gFt_cnt (sB S).length hI rfl h
  refine ⟨d, ?_, h2⟩
  intro i hi
  show sI (gNext (gDayT S)) 8 i = _
  rw [gNext_8]
  unfold gDayT
  rw [gGrant_0w hw]
  exact h1 i hi
theorem fBec_in {A : gA} {k : Nat} (hI : gI2 (aS A)) (hw : sW (aS A) = []) (hk : k < (sB (aS A)).length) (hd : bk (sB (aS A)) k 0 = sN (aS A) 0) : fBecomes A (nI k) = (0, nI (gLook (gIter k (aS A))).1, A) := by
  have hn := hI.1.2.1
  unfold fBecomes
  rw [if_pos (gIn_lt hk (by omega)), nI_clamp (by omega), if_neg (by omega), gFate_at hI hw hk hd]
end
section
variable {A B X : gA} {b n : Nat} {S : gSt}
theorem gAok_hc (h : gAok b A) : gHc (aC A) - 1 < 2147483648 := by
  have := h.2.2.1
  unfold gHc
  split <;> omega
theorem add64 {x y z : Nat} (h : x + y = z) (hz : z < 2147483648) : (nI z).toInt64 = (nI x).toInt64 + (nI y).toInt64 := by
  rw [gI64 z hz, gI64 x (by omega), gI64 y (by omega), ← Int64.ofNat_add, h]
/-- after days -/
theorem qd_1 (h : aS X = gDays n S) : fAbout X 1 = (0, nI (sN S 0 + n), X) := by
  rw [fAbout_1, h, gDays_0]
theorem qd_3 (h : aS X = gDays n S) : fAbout X 3 = (0, nI (sW (gDays n S)).length, X) := by
  rw [fAbout_3, h]
theorem gAok_dy (hA : gAok b A) (hn : n ≤ 30) (hb : b ≤ 9000) : gAok (b + 30) (aRem A (gDays n (aS A))) := gAok_rem (gAok_mono hA (by omega)) (gOk_mono (gOk_days hA.2.1 (by omega)) (by omega))
theorem gX5_dy (hX : gX5 A) (hA : gAok b A) : gX5 (aRem A (gDays n (aS A))) := gX5_rem hX hA.2.2.1 (gP5_days _ hX.1 hA.2.1.1.1.1)
theorem gAok_bk {p v d y : Nat} (hA : gAok b A) (hb : b ≤ 9000) (h : p < sN (aS A) 1) (hv : v < 10) (hd : sN (aS A) 0 ≤ d) (h9 : d ≤ 9999) (hy : y < 8) (hR : gRA (aS A) p v d y = 0) : gAok b (aRem A (gBook (aS A) p v d y)) := by
  have h8 : sN (aS A) 1 ≤ 8 := hA.2.1.1.1.1.1
  have := gOk_tryBook hA.2.1 (by omega) (nI p) (nI v) (nI d) (nI y)
  rw [gTryBook_in h h8 hv hd h9 hy hR] at this
  exact gAok_rem hA this
theorem gX5_bk {p v d y : Nat} (hX : gX5 A) (hA : gAok b A) (h : p < sN (aS A) 1) (hv : v < 10) (hR : gRA (aS A) p v d y = 0) : gX5 (aRem A (gBook (aS A) p v d y)) := by
  have h8 : sN (aS A) 1 ≤ 8 := hA.2.1.1.1.1.1
  exact gX5_rem hX hA.2.2.1 (gP5_book hX.1 hA.2.1.1.1.1 hR (by omega) (by omega))
theorem gAok_pn {p m : Nat} (hA : gAok b A) (hb : b ≤ 9000) (h : p < sN (aS A) 1) (hm : m ≤ 99) : gAok b (aRem A (gPun (aS A) p m)) := by
  have h8 : sN (aS A) 1 ≤ 8 := hA.2.1.1.1.1.1
  have := gOk_tryPunish hA.2.1 (by omega) (nI p) (nI m)
  rw [gTP_yes h8 h hm] at this
  exact gAok_rem hA this
theorem gX5_pn {p m : Nat} (hX : gX5 A) (hA : gAok b A) : gX5 (aRem A (gPun (aS A) p m)) := gX5_rem hX hA.2.2.1 (gP5_same hX.1 rfl rfl rfl rfl rfl rfl rfl)
theorem gAok_cn {k : Nat} (hA : gAok b A) (hk : k < (sB (aS A)).length) : gAok b (aRem A (uB (aS A) ((sB (aS A)).eraseIdx k))) := by
  have hn : (sB (aS A)).length ≤ 24 := hA.2.1.1.1.1.2.1
  have := gOk_tryCancel hA.2.1 (nI k)
  unfold gTryCancel at this
  rw [if_pos (gIn_lt hk (by omega)), nI_clamp (by omega)] at this
  exact gAok_rem hA this
theorem gX5_cn {k : Nat} (hX : gX5 A) (hA : gAok b A) : gX5 (aRem A (uB (aS A) ((sB (aS A)).eraseIdx k))) := gX5_rem hX hA.2.2.1 (gP5_erase hX.1 k)
theorem gAok_lt {k m : Nat} (hA : gAok b A) (hk : k < (sB (aS A)).length) (hm : m ≤ 59) : gAok b (aRem A (gLate (aS A) k m)) := by
  have hn : (sB (aS A)).length ≤ 24 := hA.2.1.1.1.1.2.1
  have := gOk_tryLate hA.2.1 (nI k) (nI m)
  unfold gTryLate at this
  rw [if_pos (gIn_lt hk (by omega)), if_pos ⟨nI_pos (by omega), fun q => by have := (nI_ltI (a := 59) (by omega) (by omega)).mp q; omega⟩, nI_clamp (by omega), nI_clamp (by omega)] at this
  exact gAok_rem hA this
theorem gX5_lt {k m : Nat} (hX : gX5 A) (hA : gAok b A) (hk : k < (sB (aS A)).length) : gX5 (aRem A (gLate (aS A) k m)) := gX5_rem hX hA.2.2.1 (gP5_late hX.1 hk)
theorem div64 {t d : Nat} (ht : t < 2147483648) (hd : d < 2147483648) : (nI t).toInt64 / Int64.ofNat d = (nI (t / d)).toInt64 := by
  have hq := Nat.div_le_self t d
  rw [gI64 t ht, gI64 (t / d) (by omega), Int64.ofNat_div (by omega) (by omega)]
theorem rem64 {t d : Nat} (ht : t < 2147483648) (hd : d < 2147483648) : (nI t).toInt64 - (nI t).toInt64 / Int64.ofNat d * Int64.ofNat d = (nI (t % d)).toInt64 := by
  have hq := Nat.div_le_self t d
  have hr := Nat.mod_le t d
  rw [div64 ht hd, gI64 t ht, gI64 (t / d) (by omega), gI64 (t % d) (by omega), ← Int64.ofNat_mul]
  have e : Int64.ofNat t = Int64.ofNat (t % d) + Int64.ofNat (t / d * d) := by
    rw [← Int64.ofNat_add]
    congr 1
    have := Nat.div_add_mod t d
    rw [Nat.mul_comm] at this
    omega
  rw [e, Int64.add_sub_cancel]
end
theorem gEq0_64 {n : Nat} (h : n < 2147483648) : lg_cmp (nI n).toInt64 0 = 0 ↔ n = 0 := by
  rw [gCmp_eq, show (0 : Int64) = (nI 0).toInt64 by decide, gNeq64 h (by decide)]
theorem gNeg_64 {n : Nat} {c : Int64} (h : n < 2147483648) (hc : c.toInt < 0) : ¬ lg_cmp (nI n).toInt64 c = 0 := by
  rw [gCmp_eq, gI64 n h]
  intro q
  have := congrArg Int64.toInt q
  rw [Int64.toInt_ofNat_of_lt (by omega)] at this
  omega
theorem one64 {n : Nat} (h : n + 1 < 2147483648) : (nI (n + 1)).toInt64 = (nI n).toInt64 + 1 := (add64 (x := n) (y := 1) rfl h).trans (by rw [show (nI 1).toInt64 = 1 by decide])
theorem sub64 {n : Nat} (h0 : 0 < n) (h : n < 2147483648) : (nI (n - 1)).toInt64 = (nI n).toInt64 - 1 := by
  obtain ⟨m, rfl⟩ : ∃ m, n = m + 1 := ⟨n - 1, by omega⟩
  rw [one64 h, Int64.add_sub_cancel]
  rfl
theorem tim64 {d y : Nat} (hd : d < 1000000) (hy : y < 1000000) : 8 * (nI d).toInt64 + (nI y).toInt64 = Int64.ofNat (8 * d + y) := by
  rw [gI64 d (by omega), gI64 y (by omega), show (8 : Int64) = Int64.ofNat 8 from rfl, ← Int64.ofNat_mul, ← Int64.ofNat_add]
theorem g_drop {V : gV} {nL cells slots : Nat} {c : Nat × va_E} {ws : va_W} {lv : List (Nat × Value)} {pc : Nat} {st : List Value} (k : gW V nL cells slots ws lv pc st) : gW V nL cells slots (c :: ws) lv pc st := fun H locs ls hP hD hS hl => by
  have hp : va_P (gvD V) vwCl ws H := fun k q h => hP (k + 1) q h
  have hd : va_D (gvO V) ws := ⟨fun i j p q hi hj he => by have := hD.1 (i + 1) (j + 1) p q hi hj he; omega, fun k q h => hD.2 (k + 1) q h⟩
  exact k H locs ls hp hd hS hl
theorem gLook_le4 (S : gSt) : (gLook S).1 < 4 := by
  have h : (gL3 S).1 ≤ 3 := gJudge_le _ _ _ _
  have e : (gLook S).1 = (gL3 S).1 := rfl
  omega
theorem gFt_no {S : gSt} {k j : Nat} (h : ¬ bk (sB S) k 0 = sN S 0) : gCnt (gFt S j) (k + 1) = gCnt (gFt S j) k := by
  have e : gFt S j k = false := by
    unfold gFt
    rw [decide_eq_false h]
    rfl
  rw [gCnt, e]
  rfl
theorem gFt_up {S : gSt} {k : Nat} {ff : Nat → Int32} (h : bk (sB S) k 0 = sN S 0) (hf : ∀ j, j < 4 → ff j = nI (gCnt (gFt S j) k)) : ∀ j, j < 4 → upd ff (gLook (gIter k S)).1 (ff (gLook (gIter k S)).1 + 1) j = nI (gCnt (gFt S j) (k + 1)) := by
  intro j hj
  have e : gFt S j k = decide ((gLook (gIter k S)).1 = j) := by
    unfold gFt
    rw [decide_eq_true h]
    rfl
  rw [gCnt, e]
  by_cases c : j = (gLook (gIter k S)).1
  · rw [upd_eq c, ← c, hf j hj, if_pos (decide_eq_true rfl), nI_add1]
  · rw [upd_ne c, hf j hj, if_neg (fun q => c (of_decide_eq_true q).symm)]
    rfl
theorem gGt64 {n k : Nat} {c : Int64} (hc : c = (nI k).toInt64) (h : n < 2147483648) (hk : k < 2147483648) : 0 < lg_cmp (nI n).toInt64 c ↔ k < n := by
  rw [gCmp_gt, hc, gNlt64 hk h]
theorem gLe64 {n k : Nat} {c : Int64} (hc : c = (nI k).toInt64) (h : n < 2147483648) (hk : k < 2147483648) : lg_cmp (nI n).toInt64 c ≤ 0 ↔ n ≤ k := by
  rw [← Int32.not_lt, gGt64 hc h hk, Nat.not_lt]
theorem gGe64 {n k : Nat} {c : Int64} (hc : c = (nI k).toInt64) (hkn : k ≤ n) (h : n < 2147483648) : ¬ lg_cmp (nI n).toInt64 c < 0 := gCmp_nlt (by rw [hc, gNlt64 h (by omega)]; omega)
theorem gPos64 {n : Nat} (h0 : 0 < n) (h : n < 2147483648) : ¬ lg_cmp (nI n).toInt64 0 ≤ 0 := fun q => by
  have := (gLe64 (k := 0) (by decide) h (by decide)).mp q
  omega
theorem gNegR64 {n : Nat} (h : n < 2147483648) : ¬ lg_cmp (-1 : Int32).toInt64 (nI n).toInt64 = 0 := fun q => gNeg_64 (c := (-1 : Int32).toInt64) h (by decide) (gCmp_eq.mpr (gCmp_eq.mp q).symm)
