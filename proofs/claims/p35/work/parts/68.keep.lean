/-! ===== what stays true of a state, beyond gI1 ===== -/
def gSo (bs : List (Nat → Nat)) : Prop := ∀ i j, i < j → j < bs.length → gKlt (bk bs j 0) (bk bs j 1) (bk bs j 2) (bk bs i) = true
def gFi (S : gSt) : Prop := ∀ k, k < (sB S).length → bk (sB S) k 1 < 8 ∧ bk (sB S) k 2 < 4 ∧ sN S 0 ≤ bk (sB S) k 0 ∧ (bk (sB S) k 0 ≤ 9999 ∨ bk (sB S) k 0 ≤ sN S 0 + 6) ∧ bk (sB S) k 5 < 60 ∧ bk (sB S) k 6 < 2
def gSk (S : gSt) : Prop := ∀ v, v < 10 → sI S 6 v = 0 ∨ sI S 6 v = 1 ∨ sI S 6 v = 2
def gZp (S : gSt) : Prop := ∀ p, sN S 1 ≤ p → p < 8 → ∀ w, w < 6 → sI S w p = 0
def gCb (S : gSt) : Prop := ∀ i, 10 ≤ i → i < 32 → gHb (sI S 9 0) (nI i) = false
def gI2 (S : gSt) : Prop := gI1 S ∧ gSo (sB S) ∧ gFi S ∧ gSk S ∧ gZp S ∧ gCb S
section
variable {S : gSt}
theorem gI2_1 (h : gI2 S) : gI1 S := h.1
theorem gI2_so (h : gI2 S) : gSo (sB S) := h.2.1
theorem gI2_fi (h : gI2 S) : gFi S := h.2.2.1
theorem gI2_sk (h : gI2 S) : gSk S := h.2.2.2.1
theorem gI2_zp (h : gI2 S) : gZp S := h.2.2.2.2.1
theorem gI2_cb (h : gI2 S) : gCb S := h.2.2.2.2.2
theorem gI2_b2 (h : gI2 S) : ∀ k, k < (sB S).length → bk (sB S) k 2 < 32 := fun k hk => by have := (gI2_fi h k hk).2.1; omega
theorem gZp_uI {k : Nat} {f : Nat → Int32} (h : gZp S) (hk : 6 ≤ k ∨ ∀ p, sN S 1 ≤ p → p < 8 → f p = 0) : gZp (uI S k f) := by
  intro p hp hp8 w hw
  have hp' : sN S 1 ≤ p := hp
  rw [sI_uI]
  by_cases c : w = k
  · rw [if_pos c]
    rcases hk with q | q
    · omega
    · exact q p hp' hp8
  · rw [if_neg c]
    exact h p hp' hp8 w hw
theorem gZp_upd {k p0 : Nat} {x : Int32} (h : gZp S) (hk : k < 6) (hp0 : p0 < sN S 1) : gZp (uI S k (upd (sI S k) p0 x)) :=
  gZp_uI h (Or.inr fun p a b => (upd_ne (by omega)).trans (h p a b k hk))
theorem gI2_u7 {f : Nat → Int32} (h : gI2 S) : gI2 (uI S 7 f) := ⟨gI1_uI h.1, h.2.1, h.2.2.1, h.2.2.2.1, gZp_uI h.2.2.2.2.1 (Or.inl (by decide)), h.2.2.2.2.2⟩
theorem gI2_u8 {f : Nat → Int32} (h : gI2 S) : gI2 (uI S 8 f) := ⟨gI1_uI h.1, h.2.1, h.2.2.1, h.2.2.2.1, gZp_uI h.2.2.2.2.1 (Or.inl (by decide)), h.2.2.2.2.2⟩
theorem gI2_p {k p0 : Nat} {x : Int32} (h : gI2 S) (hk : k < 6) (hp0 : p0 < sN S 1) : gI2 (uI S k (upd (sI S k) p0 x)) := by
  refine ⟨gI1_uI h.1, h.2.1, h.2.2.1, fun v hv => ?_, gZp_upd h.2.2.2.2.1 hk hp0, fun i a b => ?_⟩
  · rw [sI_uI, if_neg (by omega)]
    exact h.2.2.2.1 v hv
  · rw [sI_uI, if_neg (by omega)]
    exact h.2.2.2.2.2 i a b
theorem gI2_u6 {v : Nat} {x : Int32} (h : gI2 S) (hx : x = 0 ∨ x = 1 ∨ x = 2) : gI2 (uI S 6 (upd (sI S 6) v x)) := by
  refine ⟨gI1_uI h.1, h.2.1, h.2.2.1, fun u hu => ?_, gZp_uI h.2.2.2.2.1 (Or.inl (by decide)), h.2.2.2.2.2⟩
  rw [sI_uI, if_pos rfl]
  by_cases c : u = v
  · rw [upd_eq c]
    exact hx
  · rw [upd_ne c]
    exact h.2.2.2.1 u hu
theorem gI2_u9 {v : Nat} {b : Int32} (h : gI2 S) (hv : v < 10) : gI2 (uI S 9 (fun _ => gWb (sI S 9 0) (nI v) b)) := by
  refine ⟨gI1_uI h.1, h.2.1, h.2.2.1, h.2.2.2.1, gZp_uI h.2.2.2.2.1 (Or.inl (by decide)), fun i a c => ?_⟩
  rw [sI_uI, if_pos rfl, gHb_wb c (by omega), if_neg (by omega)]
  exact h.2.2.2.2.2 i a c
theorem gI2_ban (h : gI2 S) (v : Nat) : gI2 (gBan S v) := by
  unfold gBan
  split
  · exact h
  · exact gI2_u7 h
theorem gI2_take (h : gI2 S) {p : Nat} (hp : p < sN S 1) : gI2 (gTake S p) := by
  unfold gTake
  split
  · exact h
  · exact gI2_p h (by decide) hp
theorem upd_upd {f : Nat → Int32} {i : Nat} {x y : Int32} : upd (upd f i x) i y = upd f i y := by
  funext j
  by_cases c : j = i
  · rw [upd_eq c, upd_eq c]
  · rw [upd_ne c, upd_ne c, upd_ne c]
theorem gI2_third (h : gI2 S) {v : Nat} (hv : v < 10) : gI2 (gThird S v).2 := by
  unfold gThird
  have hst := h.2.2.2.1 v hv
  by_cases c : sI S 6 v + 1 < 3
  · rw [if_pos c]
    refine gI2_u6 h ?_
    rcases hst with e | e | e
    · rw [e]; decide
    · rw [e]; decide
    · rw [e] at c; exact absurd c (by decide)
  · rw [if_neg c]
    show gI2 (uI S 6 (upd (upd (sI S 6) v (sI S 6 v + 1)) v 0))
    rw [upd_upd]
    exact gI2_u6 h (Or.inl rfl)
theorem gBan_1' (v : Nat) : sN (gBan S v) 1 = sN S 1 := gBan_1 S v
theorem gI2_judge (h : gI2 S) {p v : Nat} (hp : p < sN S 1) (hv : v < 10) (m : Nat) : gI2 (gJudge S p v m).2 := by
  unfold gJudge
  split
  · exact h
  · split
    · exact h
    · split
      · split
        · exact gI2_take (gI2_ban (gI2_u9 h hv) v) (by rw [gBan_1]; exact hp)
        · split
          · exact h
          · split
            · exact gI2_third h hv
            · exact gI2_ban (gI2_third h hv) v
      · split
        · exact h
        · split
          · exact gI2_third h hv
          · exact gI2_ban (gI2_third h hv) v
theorem gSo_erase {bs : List (Nat → Nat)} (h : gSo bs) (K : Nat) : gSo (bs.eraseIdx K) := by
  intro i j hij hj
  rw [List.length_eraseIdx] at hj
  rw [bk_erase, bk_erase]
  split at hj
  · by_cases c : j < K
    · rw [if_pos c, if_pos (by omega)]
      exact h i j hij (by omega)
    · rw [if_neg c]
      by_cases c2 : i < K
      · rw [if_pos c2]
        exact h i (j + 1) (by omega) (by omega)
      · rw [if_neg c2]
        exact h (i + 1) (j + 1) (by omega) (by omega)
  · rw [if_pos (by omega), if_pos (by omega)]
    exact h i j hij hj
theorem gI2_erase (h : gI2 S) (K : Nat) : gI2 (uB S ((sB S).eraseIdx K)) := by
  refine ⟨gI1_erase h.1 K, gSo_erase h.2.1 K, fun k hk => ?_, h.2.2.2.1, h.2.2.2.2.1, h.2.2.2.2.2⟩
  have hk' : k < ((sB S).eraseIdx K).length := hk
  rw [List.length_eraseIdx] at hk'
  show bk ((sB S).eraseIdx K) k 1 < 8 ∧ bk ((sB S).eraseIdx K) k 2 < 4 ∧ sN S 0 ≤ bk ((sB S).eraseIdx K) k 0 ∧ (bk ((sB S).eraseIdx K) k 0 ≤ 9999 ∨ bk ((sB S).eraseIdx K) k 0 ≤ sN S 0 + 6) ∧ bk ((sB S).eraseIdx K) k 5 < 60 ∧ bk ((sB S).eraseIdx K) k 6 < 2
  rw [bk_erase]
  split at hk'
  · split
    · exact h.2.2.1 k (by omega)
    · exact h.2.2.1 (k + 1) (by omega)
  · split
    · exact h.2.2.1 k hk'
    · omega
theorem gJudge_1 (p v m : Nat) : sN (gJudge S p v m).2 1 = sN S 1 := by
  have e1 : ∀ (T : gSt) (v : Nat), sN (gTake T v) 1 = sN T 1 := fun T v => by unfold gTake; split <;> rfl
  have e2 : ∀ (T : gSt) (v : Nat), sN (gThird T v).2 1 = sN T 1 := fun T v => by unfold gThird; split <;> rfl
  unfold gJudge
  split
  · rfl
  · split
    · rfl
    · split
      · split
        · rw [e1, gBan_1]; rfl
        · split
          · rfl
          · split
            · exact e2 S v
            · exact (gBan_1 _ _).trans (e2 S v)
      · split
        · rfl
        · split
          · exact e2 S v
          · exact (gBan_1 _ _).trans (e2 S v)
theorem gLook_1 (T : gSt) : sN (gLook T).2 1 = sN T 1 := by
  have h3 : sN (gL4 T) 1 = sN T 1 := gJudge_1 (S := gL2 T) _ _ _
  unfold gLook
  show sN (if (gL3 T).1 = 0 then gHeld (gL4 T) (bk (sB T) 0 3) else gL4 T) 1 = _
  split <;> exact h3
theorem gI2_look (h : gI2 S) (h0 : 0 < (sB S).length) : gI2 (gLook S).2 := by
  have hb := h.1.2.2.2.2.2.2.2.2.2.2 0 h0
  have h2 : gI2 (gL2 S) := gI2_u8 (gI2_erase h 0)
  have h3 : gI2 (gL3 S).2 := gI2_judge h2 hb.1 hb.2 _
  have h4 : gI2 (gL4 S) := gI2_u8 h3
  have e4 : sN (gL4 S) 1 = sN S 1 := gJudge_1 (S := gL2 S) _ _ _
  unfold gLook
  show gI2 (if (gL3 S).1 = 0 then gHeld (gL4 S) (bk (sB S) 0 3) else gL4 S)
  split
  · have hq : bk (sB S) 0 3 < sN (gL4 S) 1 := by rw [e4]; exact hb.1
    have h5 : gI2 (uI (gL4 S) 3 (upd (sI (gL4 S) 3) (bk (sB S) 0 3) (sI (gL4 S) 3 (bk (sB S) 0 3) + 1))) := gI2_p h4 (by decide) hq
    exact gI2_p (k := 4) h5 (by decide) hq
  · exact h4
theorem gI2_next (h : gI2 S) (hd : ∀ k, k < (sB S).length → sN S 0 < bk (sB S) k 0) : gI2 (gNext S) := by
  have h1 : gI2 (uN S 0 (sN S 0 + 1)) := by
    refine ⟨h.1, h.2.1, fun k hk => ?_, h.2.2.2.1, h.2.2.2.2.1, h.2.2.2.2.2⟩
    have a := h.2.2.1 k hk
    have b := hd k hk
    refine ⟨a.1, a.2.1, b, ?_, a.2.2.2.2⟩
    show bk (sB S) k 0 ≤ 9999 ∨ bk (sB S) k 0 ≤ sN S 0 + 1 + 6
    have c := a.2.2.2.1
    omega
  unfold gNext
  split
  · exact h1
  · refine ⟨gI1_uI h1.1, h1.2.1, h1.2.2.1, h1.2.2.2.1, gZp_uI h1.2.2.2.2.1 (Or.inr fun _ _ _ => rfl), h1.2.2.2.2.2⟩
/-- what a booking that is possible gives -/
theorem gBook_ok {p v d h : Nat} (hI : gI1r S) (hb2 : ∀ k, k < (sB S).length → bk (sB S) k 2 < 32) (c : gRA S p v d h = 0) : gFb S d h = nI (gFr (gVih (sB S) 2 d h (sB S).length)) ∧ gFr (gVih (sB S) 2 d h (sB S).length) < sS S 0 ∧ (sB S).length < 24 ∧ (∀ j, j < (sB S).length → ¬ (bk (sB S) j 0 = d ∧ bk (sB S) j 1 = h ∧ bk (sB S) j 2 = gFr (gVih (sB S) 2 d h (sB S).length))) := by
  have hn := gRA_nf c
  have hs := hI.2.2.2.2.1
  have hR : gRIH S p v d h = 0 := by
    unfold gRA at c
    split at c
    · exact c
    · rename_i c2
      exact absurd c c2
  have hm : ¬ (gVih (sB S) 2 d h (sB S).length) &&& (((1 : Int32) <<< (nI (sS S 0) &&& 31)) - 1) = ((1 : Int32) <<< (nI (sS S 0) &&& 31)) - 1 := by
    intro q
    unfold gRIH at hR
    rw [if_pos q] at hR
    split at hR
    · cases hR
    · split at hR
      · cases hR
      · split at hR
        · cases hR
        · cases hR
  rw [gMask (by omega)] at hm
  rcases gFb_cases (S := S) (by omega) d h with ⟨q1, q2⟩ | ⟨q1, q2, q3⟩
  · exact absurd q1 hm
  · refine ⟨q2, q3, hn, fun j hj => ?_⟩
    rintro ⟨e0, e1, e2⟩
    have h1 : gHb (gVih (sB S) 2 d h (sB S).length) (nI (gFr (gVih (sB S) 2 d h (sB S).length))) = true := (gVih_bit (by omega) hb2).mpr ⟨j, hj, ⟨e0, e1⟩, e2⟩
    have h2 := gLd_not (fun b => gHb (gVih (sB S) 2 d h (sB S).length) (nI b)) 24 (by have : gLd (fun b => gHb (gVih (sB S) 2 d h (sB S).length) (nI b)) 24 < sS S 0 := q3; omega)
    have h3 : gHb (gVih (sB S) 2 d h (sB S).length) (nI (gFr (gVih (sB S) 2 d h (sB S).length))) = false := h2
    rw [h1] at h3
    cases h3
theorem gKlt_tr {a b : Nat → Nat} {d h t : Nat} (h1 : gKlt d h t b = true) (h2 : gKlt (b 0) (b 1) (b 2) a = true) : gKlt d h t a = true := by
  simp only [gKlt, Bool.or_eq_true, Bool.and_eq_true, decide_eq_true_eq] at *
  omega
theorem gPlc_all (bs : List (Nat → Nat)) (d h t : Nat) : ∀ j, j < gPlc bs d h t → gKlt d h t (bk bs j) = true := by
  unfold gPlc
  induction bs with
  | nil => intro j hj; exact absurd hj (Nat.not_lt_zero _)
  | cons b bs ih =>
    intro j hj
    rw [List.takeWhile_cons] at hj
    by_cases c : gKlt d h t b = true
    · rw [if_pos c] at hj
      cases j with
      | zero => exact c
      | succ j => exact ih j (Nat.lt_of_succ_lt_succ hj)
    · rw [if_neg c] at hj
      exact absurd hj (Nat.not_lt_zero _)
theorem gSo_ins {bs : List (Nat → Nat)} {d h t p v : Nat} (hs : gSo bs) (hne : ∀ j, j < bs.length → ¬ (bk bs j 0 = d ∧ bk bs j 1 = h ∧ bk bs j 2 = t)) : gSo (gIns bs (gPlc bs d h t) (gNb d h t p v)) := by
  have hP := gPlc_le bs d h t
  have hA := gPlc_all bs d h t
  have hn : ∀ j, gPlc bs d h t ≤ j → j < bs.length → gKlt d h t (bk bs j) = false := by
    intro j hj hj2
    apply Bool.eq_false_iff.mpr
    intro c
    have h0 : gPlc bs d h t < bs.length := by omega
    have q : gKlt d h t (bk bs (gPlc bs d h t)) = true := by
      by_cases e : j = gPlc bs d h t
      · rw [← e]; exact c
      · exact gKlt_tr c (hs _ j (by omega) hj2)
    have e2 : gPlc bs d h t = gPlc bs d h t + 1 ∨ True := Or.inr trivial
    have h1 : ∀ (l : List (Nat → Nat)) (hl : (l.takeWhile (gKlt d h t)).length < l.length), gKlt d h t (bk l (l.takeWhile (gKlt d h t)).length) = false := by
      intro l
      induction l with
      | nil => intro hl; exact absurd hl (Nat.not_lt_zero _)
      | cons b l ih =>
        intro hl
        rw [List.takeWhile_cons] at hl ⊢
        by_cases cb : gKlt d h t b = true
        · rw [if_pos cb] at hl ⊢
          exact ih (Nat.lt_of_succ_lt_succ hl)
        · rw [if_neg cb]
          exact Bool.eq_false_iff.mpr cb
    have h2 := h1 bs h0
    have h3 : gKlt d h t (bk bs (gPlc bs d h t)) = false := h2
    rw [q] at h3
    cases h3
  have hgt : ∀ j, gPlc bs d h t ≤ j → j < bs.length → gKlt (bk bs j 0) (bk bs j 1) (bk bs j 2) (gNb d h t p v) = true := by
    intro j a b
    have c := hn j a b
    have c2 := hne j b
    have e0 : gNb d h t p v 0 = d := rfl
    have e1 : gNb d h t p v 1 = h := rfl
    have e2 : gNb d h t p v 2 = t := rfl
    have c' : ¬ gKlt d h t (bk bs j) = true := by rw [c]; decide
    simp only [gKlt, e0, e1, e2, Bool.or_eq_true, Bool.and_eq_true, decide_eq_true_eq] at c' ⊢
    omega
  intro i j hij hj
  rw [gIns_length _ _ _ hP] at hj
  rw [bk_ins hP, bk_ins hP]
  by_cases cj : j < gPlc bs d h t
  · rw [if_pos cj, if_pos (by omega)]
    exact hs i j hij (by omega)
  · rw [if_neg cj]
    by_cases cj2 : j = gPlc bs d h t
    · rw [if_pos cj2, if_pos (by omega)]
      exact hA i (by omega)
    · rw [if_neg cj2]
      by_cases ci : i < gPlc bs d h t
      · rw [if_pos ci]
        exact hs i (j - 1) (by omega) (by omega)
      · rw [if_neg ci]
        by_cases ci2 : i = gPlc bs d h t
        · rw [if_pos ci2]
          exact hgt (j - 1) (by omega) (by omega)
        · rw [if_neg ci2]
          exact hs (i - 1) (j - 1) (by omega) (by omega)
theorem gI2_book {p v d h : Nat} (hI : gI2 S) (c : gRA S p v d h = 0) (hp : p < sN S 1) (hv : v < 10) (hh : h < 8) (hd : sN S 0 ≤ d) (hd2 : d ≤ 9999 ∨ d ≤ sN S 0 + 6) : gI2 (gBook S p v d h) := by
  obtain ⟨b1, b2, b3, b4⟩ := gBook_ok (gI1_r hI.1) (gI2_b2 hI) c
  have hs := hI.1.2.2.2.2.1
  have h1 := gI1_book (d := d) (h := h) hI.1 b3 hp hv
  have e : sB (gBook S p v d h) = gIns (sB S) (gPlc (sB S) d h (gFr (gVih (sB S) 2 d h (sB S).length))) (gNb d h (gFr (gVih (sB S) 2 d h (sB S).length)) p v) := rfl
  generalize gFr (gVih (sB S) 2 d h (sB S).length) = t at b1 b2 b4 e
  have hP := gPlc_le (sB S) d h t
  have h4 : t < 4 := by omega
  refine ⟨h1, by rw [e]; exact gSo_ins hI.2.1 b4, fun k hk => ?_, hI.2.2.2.1, hI.2.2.2.2.1, hI.2.2.2.2.2⟩
  rw [e, gIns_length _ _ _ hP] at hk
  have h0 : sN (gBook S p v d h) 0 = sN S 0 := rfl
  rw [h0, e, bk_ins hP]
  by_cases c1 : k < gPlc (sB S) d h t
  · rw [if_pos c1]
    exact hI.2.2.1 k (by omega)
  · rw [if_neg c1]
    by_cases c2 : k = gPlc (sB S) d h t
    · rw [if_pos c2]
      have e0 : gNb d h t p v 0 = d := rfl
      have e1 : gNb d h t p v 1 = h := rfl
      have e2 : gNb d h t p v 2 = t := rfl
      have e5 : gNb d h t p v 5 = 0 := rfl
      have e6 : gNb d h t p v 6 = 0 := rfl
      rw [e0, e1, e2, e5, e6]
      exact ⟨hh, h4, hd, hd2, by decide, by decide⟩
    · rw [if_neg c2]
      exact hI.2.2.1 (k - 1) (by omega)
theorem gI2_give {T i t : Nat} (hI : gI2 S) (ei : gTurn (sW S) (sI S 3) T = some i) (hE : gEar S (wq (sW S) i / 10) (wq (sW S) i % 10) 7 = some t) : gI2 (gGive S i t) := by
  have hi := (gTurn_lt ei).1
  have hw := hI.1.2.2.2.1 i hi
  have he := gEar_spec hE
  have h2 := gI2_book hI he.2 hw.2 (by omega) (by omega) (by omega) (by omega)
  exact ⟨gI1_give hI.1 ei hE, h2.2⟩
theorem gI2_gr : ∀ (n T : Nat) {S : gSt}, gI2 S → gI2 (gGr n T S)
  | 0, _, _, h => h
  | n + 1, T, S, h => by
    rw [gGr]
    cases ei : gTurn (sW S) (sI S 3) T with
    | none => exact h
    | some i =>
      cases hE : gEar S (wq (sW S) i / 10) (wq (sW S) i % 10) 7 with
      | none => simp only [hE]; exact gI2_gr n (T + 1) h
      | some t => simp only [hE]; exact gI2_gr n T (gI2_give h ei hE)
theorem gI2_grant (h : gI2 S) : gI2 (gGrant S) := gI2_gr _ _ h
theorem gI2_dayL : ∀ (n : Nat) {S : gSt}, gI2 S → n ≤ (sB S).length → gI2 (gDayL n S)
  | 0, _, h, _ => h
  | n + 1, S, h, hn => by
    rw [gDayL]
    split
    · exact gI2_dayL n (gI2_look h (by omega)) (by rw [gLook_len (lf := 1) (by decide)]; omega)
    · exact h
theorem gSo_0 {bs : List (Nat → Nat)} (h : gSo bs) {k : Nat} (hk : k < bs.length) : bk bs 0 0 ≤ bk bs k 0 := by
  rcases Nat.eq_zero_or_pos k with e | e
  · rw [e]; exact Nat.le_refl _
  · have := h 0 k e hk
    simp only [gKlt, Bool.or_eq_true, Bool.and_eq_true, decide_eq_true_eq] at this
    omega
theorem gDayL_gone : ∀ (n : Nat) {S : gSt}, gI2 S → n = (sB S).length → ∀ k, k < (sB (gDayL n S)).length → sN S 0 < bk (sB (gDayL n S)) k 0
  | 0, S, _, hn => fun k hk => by
    have hk' : k < (sB S).length := hk
    omega
  | n + 1, S, h, hn => by
    intro k hk
    rw [gDayL] at hk ⊢
    by_cases c : bk (sB S) 0 0 = sN S 0
    · rw [if_pos c] at hk ⊢
      have := gDayL_gone n (gI2_look h (by omega)) (by rw [gLook_len (lf := 1) (by decide)]; omega) k hk
      rw [gLook_0] at this
      exact this
    · rw [if_neg c] at hk ⊢
      have h1 := (h.2.2.1 0 (by omega)).2.2.1
      have h2 := gSo_0 h.2.1 hk
      omega
theorem gI2_day (h : gI2 S) : gI2 (gDay S) := by
  refine gI2_next (gI2_dayL _ (gI2_grant h) (Nat.le_refl _)) fun k hk => ?_
  have := gDayL_gone _ (gI2_grant h) rfl k hk
  unfold gDayT
  rw [gDayL_0]
  exact this
end
theorem gI2_days : ∀ {S : gSt}, gI2 S → ∀ n, gI2 (gDays n S)
  | _, h, 0 => h
  | _, h, n + 1 => gI2_days (gI2_day h) n
section
variable {S : gSt}
theorem gI2_tryAdd (h : gI2 S) (r : Int32) : gI2 (gTryAdd S r).2 := by
  have h1 := gI1_tryAdd h.1 r
  unfold gTryAdd at h1 ⊢
  split
  · rename_i c1
    rw [if_pos c1] at h1
    split
    · rename_i hn
      rw [if_pos hn] at h1
      refine ⟨h1, h.2.1, h.2.2.1, h.2.2.2.1, fun p hp hp8 w hw => ?_, h.2.2.2.2.2⟩
      have hp' : sN S 1 + 1 ≤ p := hp
      show sI (uI S 0 (upd (sI S 0) (sN S 1) r)) w p = 0
      rw [sI_uI]
      by_cases c : w = 0
      · rw [if_pos c, upd_ne (by omega)]
        exact h.2.2.2.2.1 p (by omega) hp8 0 (by decide)
      · rw [if_neg c]
        exact h.2.2.2.2.1 p (by omega) hp8 w hw
    · exact h
  · exact h
theorem gI2_tryPromote (h : gI2 S) (p r : Int32) : gI2 (gTryPromote S p r).2 := by
  have hP8 := h.1.1
  unfold gTryPromote
  split
  · rename_i c
    obtain ⟨j, hj, rfl⟩ := gNat_of c (by omega)
    split
    · show gI2 (uI S 0 (upd (sI S 0) (nI j).toNatClampNeg r))
      rw [nI_clamp (by omega)]
      exact gI2_p h (by decide) hj
    · exact h
  · exact h
theorem gI2_tryList (h : gI2 S) (p v b : Int32) : gI2 (gTryList S p v b).2 := by
  have hP8 := h.1.1
  unfold gTryList
  split
  · rename_i c
    obtain ⟨j, hj, rfl⟩ := gNat_of c.1 (by omega)
    show gI2 (uI S 1 (upd (sI S 1) (nI j).toNatClampNeg (gWb (sI S 1 (nI j).toNatClampNeg) v b)))
    rw [nI_clamp (by omega)]
    exact gI2_p h (by decide) hj
  · exact h
theorem gI2_tryApart (h : gI2 S) (p q b : Int32) : gI2 (gTryApart S p q b).2 := by
  have hP8 := h.1.1
  unfold gTryApart
  split
  · rename_i c
    obtain ⟨j, hj, rfl⟩ := gNat_of c (by omega)
    split
    · rename_i c2
      obtain ⟨i, hi, rfl⟩ := gNat_of c2 (by omega)
      split
      · exact h
      · show gI2 (gApart S (nI j).toNatClampNeg (nI i).toNatClampNeg b)
        rw [nI_clamp (by omega), nI_clamp (by omega)]
        unfold gApart
        have h1 : gI2 (uI S 5 (upd (sI S 5) j (gWb (sI S 5 j) (nI i) b))) := gI2_p h (by decide) hj
        exact gI2_p (k := 5) (p0 := i) h1 (by decide) hi
    · exact h
  · exact h
theorem gI2_tryCarry (h : gI2 S) (v b : Int32) : gI2 (gTryCarry S v b).2 := by
  unfold gTryCarry
  split
  · rename_i c
    obtain ⟨j, hj, rfl⟩ := gNat_of10 c
    exact gI2_u9 h hj
  · exact h
theorem gI2_tryPunish (h : gI2 S) (p n : Int32) : gI2 (gTryPunish S p n).2 := by
  have hP8 := h.1.1
  unfold gTryPunish
  split
  · rename_i c
    obtain ⟨j, hj, rfl⟩ := gNat_of c (by omega)
    split
    · show gI2 (uI S 2 (upd (sI S 2) (nI j).toNatClampNeg (nI (sN S 0) + n)))
      rw [nI_clamp (by omega)]
      exact gI2_p h (by decide) hj
    · exact h
  · exact h
theorem gI2_trySet (h : gI2 S) (q x : Int32) : gI2 (gTrySet S q x).2 := by
  have h1 := gI1_trySet h.1 q x
  refine ⟨h1, ?_⟩
  unfold gTrySet
  split
  · split
    · exact ⟨h.2.1, h.2.2.1, h.2.2.2.1, h.2.2.2.2.1, h.2.2.2.2.2⟩
    · exact h.2
  · exact h.2
theorem gI2_tryBook (h : gI2 S) (p v d t : Int32) (hT : sN S 0 < 1000000000) : gI2 (gTryBook S p v d t).2 := by
  have hP8 := h.1.1
  unfold gTryBook
  split
  · rename_i c
    obtain ⟨j, hj, rfl⟩ := gNat_of c.1 (by omega)
    obtain ⟨i, hi, rfl⟩ := gNat_of10 c.2
    split
    · rename_i c2
      obtain ⟨c3, c4, c5⟩ := c2
      have hd0 : ¬ d < 0 := by
        rw [Int32.lt_iff_toInt_lt, nI_toInt (by omega)] at c3
        rw [Int32.lt_iff_toInt_lt, show (0 : Int32).toInt = 0 by decide]
        omega
      obtain ⟨x, hx, rfl⟩ := nI_of hd0
      obtain ⟨y, hy, rfl⟩ := gNat_of (n := 8) (x := t) ⟨c5.1, c5.2⟩ (by decide)
      split
      · rename_i hr
        rw [nI_clamp (by omega), nI_clamp (by omega), nI_clamp (by omega), nI_clamp (by omega)] at hr
        show gI2 (gBook S (nI j).toNatClampNeg (nI i).toNatClampNeg (nI x).toNatClampNeg (nI y).toNatClampNeg)
        rw [nI_clamp (by omega), nI_clamp (by omega), nI_clamp (by omega), nI_clamp (by omega)]
        rw [Int32.lt_iff_toInt_lt, nI_toInt (by omega), nI_toInt (by omega)] at c3
        rw [Int32.lt_iff_toInt_lt, nI_toInt (by omega), show (9999 : Int32).toInt = 9999 by decide] at c4
        exact gI2_book h hr hj hi hy (by omega) (by omega)
      · exact h
    · exact h
  · exact h
theorem gI2_tryCancel (h : gI2 S) (k : Int32) : gI2 (gTryCancel S k).2 := by
  unfold gTryCancel
  split
  · exact gI2_erase h _
  · exact h
theorem gI2_late {K m : Nat} (h : gI2 S) (hK : K < (sB S).length) (hm : m < 60) : gI2 (gLate S K m) := by
  have e : sB (gLate S K m) = (sB S).set K (gMin (bk (sB S) K) m) := rfl
  have e2 : ∀ j, bk (sB (gLate S K m)) j 0 = bk (sB S) j 0 ∧ bk (sB (gLate S K m)) j 1 = bk (sB S) j 1 ∧ bk (sB (gLate S K m)) j 2 = bk (sB S) j 2 ∧ bk (sB (gLate S K m)) j 6 = bk (sB S) j 6 ∧ (bk (sB (gLate S K m)) j 5 = bk (sB S) j 5 ∨ bk (sB (gLate S K m)) j 5 = m) := by
    intro j
    rw [e, bk_set hK]
    by_cases c : j = K
    · rw [if_pos c, c]
      exact ⟨rfl, rfl, rfl, rfl, Or.inr rfl⟩
    · rw [if_neg c]
      exact ⟨rfl, rfl, rfl, rfl, Or.inl rfl⟩
  have el : (sB (gLate S K m)).length = (sB S).length := by rw [e, List.length_set]
  refine ⟨gI1_late h.1 hK, fun i j hij hj => ?_, fun k hk => ?_, h.2.2.2.1, h.2.2.2.2.1, h.2.2.2.2.2⟩
  · rw [el] at hj
    obtain ⟨a0, a1, a2, -, -⟩ := e2 j
    obtain ⟨b0, b1, b2, -, -⟩ := e2 i
    have := h.2.1 i j hij hj
    unfold gKlt at this ⊢
    rw [a0, a1, a2, b0, b1, b2]
    exact this
  · rw [el] at hk
    obtain ⟨a0, a1, a2, a6, a5⟩ := e2 k
    have := h.2.2.1 k hk
    rw [a0, a1, a2, a6]
    refine ⟨this.1, this.2.1, this.2.2.1, this.2.2.2.1, ?_, this.2.2.2.2.2⟩
    rcases a5 with q | q
    · rw [q]; exact this.2.2.2.2.1
    · rw [q]; exact hm
theorem gI2_tryLate (h : gI2 S) (k m : Int32) : gI2 (gTryLate S k m).2 := by
  have hn := h.1.2.1
  unfold gTryLate
  split
  · rename_i c
    obtain ⟨j, hj, rfl⟩ := gNat_of c (by omega)
    split
    · rename_i c2
      have c3 : ¬ nI 60 ≤ m := by
        rw [Int32.le_iff_toInt_le, show (nI 60).toInt = 60 by decide]
        have := c2.2
        rw [Int32.lt_iff_toInt_lt, show (59 : Int32).toInt = 59 by decide] at this
        omega
      obtain ⟨i, hi, rfl⟩ := gNat_of (n := 60) ⟨c2.1, c3⟩ (by decide)
      show gI2 (gLate S (nI j).toNatClampNeg (nI i).toNatClampNeg)
      rw [nI_clamp (by omega), nI_clamp (by omega)]
      exact gI2_late h hj hi
    · exact h
  · exact h
theorem gI2_tryWish (h : gI2 S) (p v : Int32) : gI2 (gTryWish S p v).2 := by
  have h1 := gI1_tryWish h.1 p v
  refine ⟨h1, ?_⟩
  unfold gTryWish
  split
  · split
    · split
      · exact h.2
      · exact ⟨h.2.1, h.2.2.1, h.2.2.2.1, h.2.2.2.2.1, h.2.2.2.2.2⟩
    · exact h.2
  · exact h.2
theorem gI2_0 : gI2 gSt0 := by
  refine ⟨⟨by decide, by decide, by decide, fun j hj => absurd hj (Nat.not_lt_zero j), by decide, by decide, by decide, by decide, by decide, by decide, fun k hk => absurd hk (Nat.not_lt_zero k)⟩, fun i j _ hj => absurd hj (Nat.not_lt_zero j), fun k hk => absurd hk (Nat.not_lt_zero k), fun v hv => Or.inl rfl, fun p _ _ w _ => rfl, fun i a b => gHb_zero b⟩
end
