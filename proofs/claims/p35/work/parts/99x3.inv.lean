/-! ===== what the law of its own asks of a state, beyond gI3: kept by all that is done ===== -/
def gSum (f : Nat → Nat) : Nat → Nat
  | 0 => 0
  | n + 1 => gSum f n + f n
theorem gSum_congr {f g : Nat → Nat} : ∀ {n : Nat}, (∀ k, k < n → f k = g k) → gSum f n = gSum g n
  | 0, _ => rfl
  | n + 1, h => by
    rw [gSum, gSum, gSum_congr (fun k hk => h k (by omega)), h n (by omega)]
theorem gSum_up {f : Nat → Nat} {p : Nat} : ∀ {n : Nat}, p < n → gSum (fun q => if q = p then f q + 1 else f q) n = gSum f n + 1
  | 0, h => absurd h (Nat.not_lt_zero _)
  | n + 1, h => by
    show gSum _ n + (if n = p then f n + 1 else f n) = gSum f n + f n + 1
    by_cases c : n = p
    · rw [if_pos c, gSum_congr (g := f) (fun k hk => if_neg (by omega))]
      omega
    · rw [if_neg c, gSum_up (p := p) (by omega)]
      omega
theorem gSum_le {f : Nat → Nat} {p : Nat} : ∀ {n : Nat}, p < n → f p ≤ gSum f n
  | 0, h => absurd h (Nat.not_lt_zero _)
  | n + 1, h => by
    show f p ≤ gSum f n + f n
    by_cases c : p = n
    · rw [c]; omega
    · have := gSum_le (f := f) (p := p) (n := n) (by omega)
      omega
/-- who must not be there in the same hour: both ways, nobody himself -/
def gApt (S : gSt) : Prop := ∀ p, p < 8 → ∀ q, q < 8 → gHb (sI S 5 p) (nI q) = gHb (sI S 5 q) (nI p) ∧ gHb (sI S 5 p) (nI p) = false
def gRnk (S : gSt) : Prop := ∀ p, p < 8 → ¬ (3 : Int32) < sI S 0 p
/-- nobody is in two bookings of one hour -/
def gHr (bs : List (Nat → Nat)) : Prop := ∀ i j, i < j → j < bs.length → bk bs i 0 = bk bs j 0 → bk bs i 1 = bk bs j 1 → bk bs i 3 ≠ bk bs j 3 ∧ bk bs i 4 ≠ bk bs j 4
/-- the numbers: of visits by how they went, of each prisoner's, of the week's -/
def gNum (B : Nat) (S : gSt) : Prop := ∃ c h w : Nat → Nat, (∀ i, i < 5 → sI S 8 i = nI (c i)) ∧ c 4 = c 0 + c 1 + c 2 + c 3 ∧ c 4 ≤ B ∧ (∀ p, p < 8 → sI S 3 p = nI (h p) ∧ sI S 4 p = nI (w p) ∧ w p ≤ h p) ∧ gSum h 8 = c 0
def gP5 (S : gSt) : Prop := gApt S ∧ gRnk S ∧ gHr (sB S) ∧ gNum (24 * sN S 0) S
section
variable {S T : gSt}
theorem gNum_same {B : Nat} (h : gNum B S) (e3 : sI T 3 = sI S 3) (e4 : sI T 4 = sI S 4) (e8 : sI T 8 = sI S 8) : gNum B T := by
  unfold gNum at h ⊢
  rw [e3, e4, e8]
  exact h
theorem gNum_mono {B C : Nat} (h : gNum B S) (hb : B ≤ C) : gNum C S := by
  obtain ⟨c, f, w, h1, h2, h3, h4⟩ := h
  exact ⟨c, f, w, h1, h2, Nat.le_trans h3 hb, h4⟩
theorem gP5_same (h : gP5 S) (e0 : sI T 0 = sI S 0) (e3 : sI T 3 = sI S 3) (e4 : sI T 4 = sI S 4) (e5 : sI T 5 = sI S 5) (e8 : sI T 8 = sI S 8) (eB : sB T = sB S) (eN : sN T 0 = sN S 0) : gP5 T := by
  obtain ⟨h1, h2, h3, h4⟩ := h
  refine ⟨?_, ?_, ?_, ?_⟩
  · unfold gApt at h1 ⊢
    rw [e5]
    exact h1
  · unfold gRnk at h2 ⊢
    rw [e0]
    exact h2
  · rw [eB]
    exact h3
  · rw [eN]
    exact gNum_same h4 e3 e4 e8
theorem gP5_tryList (h : gP5 S) (p v b : Int32) : gP5 (gTryList S p v b).2 := by
  unfold gTryList
  split
  · exact gP5_same h rfl rfl rfl rfl rfl rfl rfl
  · exact h
theorem gP5_tryCarry (h : gP5 S) (v b : Int32) : gP5 (gTryCarry S v b).2 := by
  unfold gTryCarry
  split
  · exact gP5_same h rfl rfl rfl rfl rfl rfl rfl
  · exact h
theorem gP5_tryPunish (h : gP5 S) (p n : Int32) : gP5 (gTryPunish S p n).2 := by
  unfold gTryPunish
  split
  · split
    · exact gP5_same h rfl rfl rfl rfl rfl rfl rfl
    · exact h
  · exact h
theorem gP5_trySet (h : gP5 S) (q x : Int32) : gP5 (gTrySet S q x).2 := by
  unfold gTrySet
  split
  · split
    · exact gP5_same h rfl rfl rfl rfl rfl rfl rfl
    · exact h
  · exact h
theorem gP5_tryWish (h : gP5 S) (p v : Int32) : gP5 (gTryWish S p v).2 := by
  unfold gTryWish
  split
  · split
    · split
      · exact h
      · exact gP5_same h rfl rfl rfl rfl rfl rfl rfl
    · exact h
  · exact h
theorem gRnk_upd {p : Nat} {r : Int32} (h : gRnk S) (hr : ¬ 3 < r) : gRnk (uI S 0 (upd (sI S 0) p r)) := by
  intro q hq
  show ¬ 3 < upd (sI S 0) p r q
  by_cases c : q = p
  · rw [upd_eq c]
    exact hr
  · rw [upd_ne c]
    exact h q hq
theorem gP5_tryPromote (h : gP5 S) (p r : Int32) : gP5 (gTryPromote S p r).2 := by
  unfold gTryPromote
  split
  · split
    · rename_i c
      exact ⟨h.1, gRnk_upd h.2.1 c.2, h.2.2.1, h.2.2.2⟩
    · exact h
  · exact h
theorem gP5_tryAdd (h : gP5 S) (r : Int32) : gP5 (gTryAdd S r).2 := by
  unfold gTryAdd
  split
  · rename_i c
    split
    · exact ⟨h.1, gRnk_upd h.2.1 c.2, h.2.2.1, h.2.2.2⟩
    · exact h
  · exact h
theorem gApt_apart {p q : Nat} {b : Int32} (h : gApt S) (hp : p < 8) (hq : q < 8) (hne : p ≠ q) : gApt (gApart S p q b) := by
  have e : ∀ x, sI (gApart S p q b) 5 x = if x = q then gWb (sI S 5 q) (nI p) b else if x = p then gWb (sI S 5 p) (nI q) b else sI S 5 x := by
    intro x
    show upd (upd (sI S 5) p (gWb (sI S 5 p) (nI q) b)) q (gWb (upd (sI S 5) p (gWb (sI S 5 p) (nI q) b) q) (nI p) b) x = _
    by_cases c : x = q
    · rw [upd_eq c, if_pos c, upd_ne (Ne.symm hne)]
    · rw [upd_ne c, if_neg c]
      by_cases d : x = p
      · rw [upd_eq d, if_pos d]
      · rw [upd_ne d, if_neg d]
  have g : ∀ x, x < 8 → ∀ y, y < 8 → gHb (sI (gApart S p q b) 5 x) (nI y) = if (x = q ∧ y = p) ∨ (x = p ∧ y = q) then decide (¬ b = 0) else gHb (sI S 5 x) (nI y) := by
    intro x hx y hy
    rw [e x]
    by_cases c : x = q
    · rw [if_pos c, gHb_wb (by omega) (by omega)]
      by_cases d : y = p
      · rw [if_pos d, if_pos (Or.inl ⟨c, d⟩)]
      · rw [if_neg d, if_neg (by omega), c]
    · rw [if_neg c]
      by_cases d : x = p
      · rw [if_pos d, gHb_wb (by omega) (by omega)]
        by_cases f : y = q
        · rw [if_pos f, if_pos (Or.inr ⟨d, f⟩)]
        · rw [if_neg f, if_neg (by omega), d]
      · rw [if_neg d, if_neg (by omega)]
  intro x hx y hy
  rw [g x hx y hy, g y hy x hx, g x hx x hx]
  refine ⟨?_, ?_⟩
  · by_cases c : (x = q ∧ y = p) ∨ (x = p ∧ y = q)
    · rw [if_pos c, if_pos (by omega)]
    · rw [if_neg c, if_neg (by omega)]
      exact (h x hx y hy).1
  · rw [if_neg (by omega)]
    exact (h x hx x hx).2
theorem gP5_tryApart (h : gP5 S) (h8 : sN S 1 ≤ 8) (p q b : Int32) : gP5 (gTryApart S p q b).2 := by
  unfold gTryApart
  split
  · rename_i c
    obtain ⟨j, hj, rfl⟩ := gNat_of c (by omega)
    split
    · rename_i c2
      obtain ⟨i, hi, rfl⟩ := gNat_of c2 (by omega)
      split
      · exact h
      · rename_i c3
        show gP5 (gApart S (nI j).toNatClampNeg (nI i).toNatClampNeg b)
        rw [nI_clamp (by omega), nI_clamp (by omega)]
        exact ⟨gApt_apart h.1 (by omega) (by omega) (fun e => c3 (by rw [e])), h.2.1, h.2.2.1, h.2.2.2⟩
    · exact h
  · exact h
theorem gHr_erase {bs : List (Nat → Nat)} (h : gHr bs) (K : Nat) : gHr (bs.eraseIdx K) := by
  intro i j hij hj
  rw [List.length_eraseIdx] at hj
  rw [bk_erase, bk_erase]
  split at hj
  · by_cases c : j < K
    · rw [if_pos c, if_pos (by omega)]
      exact h i j hij (by omega)
    · rw [if_neg c]
      by_cases c2 : i < K
      · rw [if_pos c2]
        exact h i (j + 1) (by omega) (by omega)
      · rw [if_neg c2]
        exact h (i + 1) (j + 1) (by omega) (by omega)
  · rw [if_pos (by omega), if_pos (by omega)]
    exact h i j hij hj
theorem gP5_erase (h : gP5 S) (K : Nat) : gP5 (uB S ((sB S).eraseIdx K)) := ⟨h.1, h.2.1, gHr_erase h.2.2.1 K, h.2.2.2⟩
theorem gP5_tryCancel (h : gP5 S) (k : Int32) : gP5 (gTryCancel S k).2 := by
  unfold gTryCancel
  split
  · exact gP5_erase h _
  · exact h
theorem gP5_late {K m : Nat} (h : gP5 S) (hK : K < (sB S).length) : gP5 (gLate S K m) := by
  refine ⟨h.1, h.2.1, ?_, h.2.2.2⟩
  have e : ∀ j w, w ≠ 5 → bk (sB (gLate S K m)) j w = bk (sB S) j w := by
    intro j w hw
    show bk ((sB S).set K (gMin (bk (sB S) K) m)) j w = _
    rw [bk_set hK]
    by_cases c : j = K
    · rw [if_pos c, gMin_ne _ _ hw, c]
    · rw [if_neg c]
  intro i j hij hj
  rw [gLate_len] at hj
  rw [e i 0 (by decide), e j 0 (by decide), e i 1 (by decide), e j 1 (by decide), e i 3 (by decide), e j 3 (by decide), e i 4 (by decide), e j 4 (by decide)]
  exact h.2.2.1 i j hij hj
theorem gP5_tryLate (h : gP5 S) (hn : (sB S).length < 2147483648) (k m : Int32) : gP5 (gTryLate S k m).2 := by
  unfold gTryLate
  split
  · rename_i c
    obtain ⟨j, hj, rfl⟩ := gNat_of c (by omega)
    split
    · show gP5 (gLate S (nI j).toNatClampNeg _)
      rw [nI_clamp (by omega)]
      exact gP5_late h hj
    · exact h
  · exact h
theorem gHr_ins {bs : List (Nat → Nat)} {P d y t p v : Nat} (h : gHr bs) (hP : P ≤ bs.length) (hne : ∀ j, j < bs.length → bk bs j 0 = d → bk bs j 1 = y → bk bs j 3 ≠ p ∧ bk bs j 4 ≠ v) : gHr (gIns bs P (gNb d y t p v)) := by
  have e0 : gNb d y t p v 0 = d := rfl
  have e1 : gNb d y t p v 1 = y := rfl
  have e3 : gNb d y t p v 3 = p := rfl
  have e4 : gNb d y t p v 4 = v := rfl
  intro i j hij hj
  rw [gIns_length _ _ _ hP] at hj
  rw [bk_ins hP, bk_ins hP]
  by_cases cj : j < P
  · rw [if_pos cj, if_pos (by omega)]
    exact h i j hij (by omega)
  · rw [if_neg cj]
    by_cases cj2 : j = P
    · rw [if_pos cj2, if_pos (by omega), e0, e1, e3, e4]
      intro a b
      exact hne i (by omega) a b
    · rw [if_neg cj2]
      by_cases ci : i < P
      · rw [if_pos ci]
        exact h i (j - 1) (by omega) (by omega)
      · rw [if_neg ci]
        by_cases ci2 : i = P
        · rw [if_pos ci2, e0, e1, e3, e4]
          intro a b
          have := hne (j - 1) (by omega) a.symm b.symm
          exact ⟨Ne.symm this.1, Ne.symm this.2⟩
        · rw [if_neg ci2]
          exact h (i - 1) (j - 1) (by omega) (by omega)
/-- a booking that is possible: nobody of it is in the hour -/
theorem gRA_free {p v d y : Nat} (hI : gI1 S) (c : gRA S p v d y = 0) (hp : p < 32) (hv : v < 32) : ∀ j, j < (sB S).length → bk (sB S) j 0 = d → bk (sB S) j 1 = y → bk (sB S) j 3 ≠ p ∧ bk (sB S) j 4 ≠ v := by
  have hF := hI.2.2.2.2.2.2.2.2.2.2
  have h8 := hI.1
  have hR : gRIH S p v d y = 0 := by
    unfold gRA at c
    split at c
    · exact c
    · rename_i c2
      exact absurd c c2
  unfold gRIH at hR
  split at hR
  · cases hR
  · rename_i n1
    split at hR
    · cases hR
    · rename_i n2
      intro j hj a b
      refine ⟨fun e => n1 ?_, fun e => n2 ?_⟩
      · exact (gVih_bit hp (fun k hk => by have := (hF k hk).1; omega)).mpr ⟨j, hj, ⟨a, b⟩, e⟩
      · exact (gVih_bit hv (fun k hk => by have := (hF k hk).2; omega)).mpr ⟨j, hj, ⟨a, b⟩, e⟩
theorem gP5_book {p v d y : Nat} (h : gP5 S) (hI : gI1 S) (c : gRA S p v d y = 0) (hp : p < 32) (hv : v < 32) : gP5 (gBook S p v d y) :=
  ⟨h.1, h.2.1, gHr_ins h.2.2.1 (gPlc_le _ _ _ _) (gRA_free hI c hp hv), h.2.2.2⟩
theorem gP5_tryBook (h : gP5 S) (hI : gI1 S) (hT : sN S 0 < 1000000000) (p v d t : Int32) : gP5 (gTryBook S p v d t).2 := by
  have hP8 := hI.1
  unfold gTryBook
  split
  · rename_i c
    obtain ⟨j, hj, rfl⟩ := gNat_of c.1 (by omega)
    obtain ⟨i, hi, rfl⟩ := gNat_of10 c.2
    split
    · split
      · rename_i hr
        refine gP5_book h hI hr ?_ ?_
        · rw [nI_clamp (by omega)]; omega
        · rw [nI_clamp (by omega)]; omega
      · exact h
    · exact h
  · exact h
theorem gP5_give {T0 i t : Nat} (h : gP5 S) (hI : gI1 S) (ei : gTurn (sW S) (sI S 3) T0 = some i) (hE : gEar S (wq (sW S) i / 10) (wq (sW S) i % 10) 7 = some t) : gP5 (gGive S i t) := by
  have hi := (gTurn_lt ei).1
  have hw := hI.2.2.2.1 i hi
  have he := gEar_spec hE
  have h2 := gP5_book h hI he.2 (by omega) (by omega)
  exact gP5_same h2 rfl rfl rfl rfl rfl rfl rfl
theorem gP5_gr : ∀ (n T0 : Nat) {S : gSt}, gP5 S → gI1 S → gP5 (gGr n T0 S)
  | 0, _, _, h, _ => h
  | n + 1, T0, S, h, hI => by
    rw [gGr]
    cases ei : gTurn (sW S) (sI S 3) T0 with
    | none => exact h
    | some i =>
      cases hE : gEar S (wq (sW S) i / 10) (wq (sW S) i % 10) 7 with
      | none => simp only [hE]; exact gP5_gr n (T0 + 1) h hI
      | some t => simp only [hE]; exact gP5_gr n T0 (gP5_give h hI ei hE) (gI1_give hI ei hE)
theorem gP5_grant (h : gP5 S) (hI : gI1 S) : gP5 (gGrant S) := gP5_gr _ _ h hI
/-- what a judgement leaves -/
theorem gBan_x (U : gSt) (v : Nat) {k : Nat} (hk : k ≠ 7) : sI (gBan U v) k = sI U k := by
  unfold gBan
  split
  · rfl
  · rw [sI_uI, if_neg hk]
theorem gTake_x (U : gSt) (p : Nat) {k : Nat} (hk : k ≠ 2) : sI (gTake U p) k = sI U k := by
  unfold gTake
  split
  · rfl
  · rw [sI_uI, if_neg hk]
theorem gThird_x (U : gSt) (v : Nat) {k : Nat} (hk : k ≠ 6) : sI (gThird U v).2 k = sI U k := by
  unfold gThird
  split
  · show sI (uI U 6 _) k = _
    rw [sI_uI, if_neg hk]
  · show sI (uI U 6 _) k = _
    rw [sI_uI, if_neg hk]
theorem gJudge_x (U : gSt) (p v m : Nat) {k : Nat} (h2 : k ≠ 2) (h6 : k ≠ 6) (h7 : k ≠ 7) (h9 : k ≠ 9) : sI (gJudge U p v m).2 k = sI U k := by
  have e9 : sI (uI U 9 (fun _ => gWb (sI U 9 0) (nI v) 0)) k = sI U k := by rw [sI_uI, if_neg h9]
  unfold gJudge
  split
  · rfl
  · split
    · rfl
    · split
      · split
        · exact (gTake_x _ _ h2).trans ((gBan_x _ _ h7).trans e9)
        · split
          · rfl
          · split
            · exact gThird_x U v h6
            · exact (gBan_x _ _ h7).trans (gThird_x U v h6)
      · split
        · rfl
        · split
          · exact gThird_x U v h6
          · exact (gBan_x _ _ h7).trans (gThird_x U v h6)
theorem gLook_sI (U : gSt) {k : Nat} (h2 : k ≠ 2) (h6 : k ≠ 6) (h7 : k ≠ 7) (h9 : k ≠ 9) (h8 : k ≠ 8) (h34 : (gL3 U).1 = 0 → k ≠ 3 ∧ k ≠ 4) : sI (gLook U).2 k = sI U k := by
  have e2 : sI (gL2 U) k = sI U k := by
    unfold gL2
    rw [sI_uI, if_neg h8]
    rfl
  have e3 : sI (gL3 U).2 k = sI U k := (gJudge_x (gL2 U) _ _ _ h2 h6 h7 h9).trans e2
  have e4 : sI (gL4 U) k = sI U k := by
    unfold gL4
    rw [sI_uI, if_neg h8]
    exact e3
  unfold gLook
  show sI (if (gL3 U).1 = 0 then gHeld (gL4 U) (bk (sB U) 0 3) else gL4 U) k = _
  split
  · rename_i c
    unfold gHeld
    rw [sI_uI, if_neg (h34 c).2, sI_uI, if_neg (h34 c).1]
    exact e4
  · exact e4
theorem gLook_c8 (U : gSt) : sI (gLook U).2 8 = upd (upd (sI U 8) 4 (sI U 8 4 + 1)) (gL3 U).1 (upd (sI U 8) 4 (sI U 8 4 + 1) (gL3 U).1 + 1) := by
  have h3 : sI (gL3 U).2 8 = upd (sI U 8) 4 (sI U 8 4 + 1) := gJudge_8 (gL2 U) _ _ _
  have h4 : sI (gL4 U) 8 = upd (upd (sI U 8) 4 (sI U 8 4 + 1)) (gL3 U).1 (upd (sI U 8) 4 (sI U 8 4 + 1) (gL3 U).1 + 1) := by
    show upd (sI (gL3 U).2 8) (gL3 U).1 (sI (gL3 U).2 8 (gL3 U).1 + 1) = _
    rw [h3]
  unfold gLook
  show sI (if (gL3 U).1 = 0 then gHeld (gL4 U) (bk (sB U) 0 3) else gL4 U) 8 = _
  split <;> exact h4
theorem gLook_34 (U : gSt) (c : (gL3 U).1 = 0) : sI (gLook U).2 3 = upd (sI U 3) (bk (sB U) 0 3) (sI U 3 (bk (sB U) 0 3) + 1) ∧ sI (gLook U).2 4 = upd (sI U 4) (bk (sB U) 0 3) (sI U 4 (bk (sB U) 0 3) + 1) := by
  have e : ∀ k, k ≠ 2 → k ≠ 6 → k ≠ 7 → k ≠ 9 → k ≠ 8 → sI (gL4 U) k = sI U k := by
    intro k h2 h6 h7 h9 h8
    have e2 : sI (gL2 U) k = sI U k := by
      unfold gL2
      rw [sI_uI, if_neg h8]
      rfl
    unfold gL4
    rw [sI_uI, if_neg h8]
    exact (gJudge_x (gL2 U) _ _ _ h2 h6 h7 h9).trans e2
  have e3 := e 3 (by decide) (by decide) (by decide) (by decide) (by decide)
  have e4 := e 4 (by decide) (by decide) (by decide) (by decide) (by decide)
  unfold gLook
  refine ⟨?_, ?_⟩
  · show sI (if (gL3 U).1 = 0 then gHeld (gL4 U) (bk (sB U) 0 3) else gL4 U) 3 = _
    rw [if_pos c]
    show upd (sI (gL4 U) 3) (bk (sB U) 0 3) (sI (gL4 U) 3 (bk (sB U) 0 3) + 1) = _
    rw [e3]
  · show sI (if (gL3 U).1 = 0 then gHeld (gL4 U) (bk (sB U) 0 3) else gL4 U) 4 = _
    rw [if_pos c]
    show upd (sI (gL4 U) 4) (bk (sB U) 0 3) (sI (gL4 U) 4 (bk (sB U) 0 3) + 1) = _
    rw [e4]
theorem gNum_look {B : Nat} (h : gNum B S) (hp : bk (sB S) 0 3 < 8) : gNum (B + 1) (gLook S).2 := by
  obtain ⟨c, f, w, h1, h2, h3, h4, h5⟩ := h
  have h8 := gLook_c8 S
  have hle : (gL3 S).1 ≤ 3 := gJudge_le _ _ _ _
  have hk : ∀ i, i < 5 → sI (gLook S).2 8 i = nI (if i = (gL3 S).1 then c i + 1 else if i = 4 then c i + 1 else c i) := by
    intro i hi
    rw [h8]
    by_cases a : i = (gL3 S).1
    · rw [upd_eq a, if_pos a, upd_ne (by omega), ← a, h1 i hi, nI_add1]
    · rw [upd_ne a, if_neg a]
      by_cases b : i = 4
      · rw [upd_eq b, if_pos b, b, h1 4 (by decide), nI_add1]
      · rw [upd_ne b, if_neg b, h1 i hi]
  have hsum : (if 4 = (gL3 S).1 then c 4 + 1 else if 4 = 4 then c 4 + 1 else c 4) = (if 0 = (gL3 S).1 then c 0 + 1 else if 0 = 4 then c 0 + 1 else c 0) + (if 1 = (gL3 S).1 then c 1 + 1 else if 1 = 4 then c 1 + 1 else c 1) + (if 2 = (gL3 S).1 then c 2 + 1 else if 2 = 4 then c 2 + 1 else c 2) + (if 3 = (gL3 S).1 then c 3 + 1 else if 3 = 4 then c 3 + 1 else c 3) := by
    rcases (show (gL3 S).1 = 0 ∨ (gL3 S).1 = 1 ∨ (gL3 S).1 = 2 ∨ (gL3 S).1 = 3 by omega) with q | q | q | q <;> rw [q] <;> simp <;> omega
  have hB : (if 4 = (gL3 S).1 then c 4 + 1 else if 4 = 4 then c 4 + 1 else c 4) ≤ B + 1 := by
    rw [if_neg (by omega), if_pos rfl]
    omega
  by_cases a : (gL3 S).1 = 0
  · obtain ⟨e3, e4⟩ := gLook_34 S a
    refine ⟨fun i => if i = (gL3 S).1 then c i + 1 else if i = 4 then c i + 1 else c i, fun q => if q = bk (sB S) 0 3 then f q + 1 else f q, fun q => if q = bk (sB S) 0 3 then w q + 1 else w q, hk, hsum, hB, fun p hp8 => ?_, ?_⟩
    · obtain ⟨q1, q2, q3⟩ := h4 p hp8
      rw [e3, e4]
      by_cases b : p = bk (sB S) 0 3
      · rw [upd_eq b, upd_eq b]
        show _ = nI (if p = bk (sB S) 0 3 then f p + 1 else f p) ∧ _ = nI (if p = bk (sB S) 0 3 then w p + 1 else w p) ∧ (if p = bk (sB S) 0 3 then w p + 1 else w p) ≤ (if p = bk (sB S) 0 3 then f p + 1 else f p)
        rw [if_pos b, if_pos b, ← b, q1, q2, nI_add1, nI_add1]
        exact ⟨rfl, rfl, by omega⟩
      · rw [upd_ne b, upd_ne b]
        show _ = nI (if p = bk (sB S) 0 3 then f p + 1 else f p) ∧ _ = nI (if p = bk (sB S) 0 3 then w p + 1 else w p) ∧ (if p = bk (sB S) 0 3 then w p + 1 else w p) ≤ (if p = bk (sB S) 0 3 then f p + 1 else f p)
        rw [if_neg b, if_neg b]
        exact ⟨q1, q2, q3⟩
    · rw [gSum_up hp, h5]
      show c 0 + 1 = if 0 = (gL3 S).1 then c 0 + 1 else if 0 = 4 then c 0 + 1 else c 0
      rw [if_pos a.symm]
  · refine ⟨fun i => if i = (gL3 S).1 then c i + 1 else if i = 4 then c i + 1 else c i, f, w, hk, hsum, hB, fun p hp8 => ?_, ?_⟩
    · rw [gLook_sI S (by decide) (by decide) (by decide) (by decide) (by decide) (fun q => absurd q a), gLook_sI S (by decide) (by decide) (by decide) (by decide) (by decide) (fun q => absurd q a)]
      exact h4 p hp8
    · rw [h5]
      show c 0 = if 0 = (gL3 S).1 then c 0 + 1 else if 0 = 4 then c 0 + 1 else c 0
      rw [if_neg (fun q => a q.symm), if_neg (by decide)]
/-- between the bookings of a day -/
def gPq (B : Nat) (S : gSt) : Prop := gApt S ∧ gRnk S ∧ gHr (sB S) ∧ gNum B S
theorem gPq_look {B : Nat} (h : gPq B S) (hp : bk (sB S) 0 3 < 8) : gPq (B + 1) (gLook S).2 := by
  obtain ⟨h1, h2, h3, h4⟩ := h
  refine ⟨?_, ?_, ?_, gNum_look h4 hp⟩
  · unfold gApt at h1 ⊢
    rw [gLook_sI S (by decide) (by decide) (by decide) (by decide) (by decide) (fun _ => ⟨by decide, by decide⟩)]
    exact h1
  · unfold gRnk at h2 ⊢
    rw [gLook_sI S (by decide) (by decide) (by decide) (by decide) (by decide) (fun _ => ⟨by decide, by decide⟩)]
    exact h2
  · rw [gLook_B]
    exact gHr_erase h3 0
theorem gPq_mono {B C : Nat} (h : gPq B S) (hb : B ≤ C) : gPq C S := ⟨h.1, h.2.1, h.2.2.1, gNum_mono h.2.2.2 hb⟩
theorem gPq_dayL : ∀ (n B : Nat) {S : gSt}, gPq B S → gI1 S → n ≤ (sB S).length → gPq (B + n) (gDayL n S)
  | 0, _, _, h, _, _ => h
  | n + 1, B, S, h, hI, hn => by
    rw [gDayL]
    by_cases c : bk (sB S) 0 0 = sN S 0
    · rw [if_pos c]
      have hb := hI.2.2.2.2.2.2.2.2.2.2 0 (by omega)
      have h1 := hI.1
      have := gPq_dayL n (B + 1) (gPq_look h (by omega)) (gI1_look hI) (by rw [gLook_len (lf := 1) (by decide)]; omega)
      rw [show B + (n + 1) = B + 1 + n by omega]
      exact this
    · rw [if_neg c]
      exact gPq_mono h (by omega)
theorem gNum_next {B : Nat} (h : gNum B S) : gNum B (gNext S) := by
  unfold gNext
  split
  · exact gNum_same h rfl rfl rfl
  · obtain ⟨c, f, w, h1, h2, h3, h4, h5⟩ := h
    exact ⟨c, f, fun _ => 0, h1, h2, h3, fun p hp => ⟨(h4 p hp).1, rfl, Nat.zero_le _⟩, h5⟩
theorem gNext_x (U : gSt) {k : Nat} (h4 : k ≠ 4) : sI (gNext U) k = sI U k := by
  unfold gNext
  split
  · rfl
  · rw [sI_uI, if_neg h4]
    rfl
theorem gP5_day (h : gP5 S) (hI : gI1 S) : gP5 (gDay S) := by
  have hg := gP5_grant h hI
  have hIg := gI1_grant hI
  have h24 := hIg.2.1
  have h1 : gPq (24 * sN S 0 + (sB (gGrant S)).length) (gDayT S) := gPq_dayL _ _ (S := gGrant S) ⟨hg.1, hg.2.1, hg.2.2.1, by have := hg.2.2.2; rw [gGrant_0] at this; exact this⟩ hIg (Nat.le_refl _)
  obtain ⟨a1, a2, a3, a4⟩ := h1
  refine ⟨?_, ?_, ?_, ?_⟩
  · unfold gApt at a1 ⊢
    unfold gDay
    rw [gNext_x _ (by decide)]
    exact a1
  · unfold gRnk at a2 ⊢
    unfold gDay
    rw [gNext_x _ (by decide)]
    exact a2
  · unfold gDay
    rw [gNext_B]
    exact a3
  · rw [gDay_0]
    exact gNum_mono (gNum_next a4) (by omega)
end
theorem gP5_days : ∀ (n : Nat) {S : gSt}, gP5 S → gI1 S → gP5 (gDays n S)
  | 0, _, h, _ => h
  | n + 1, _, h, hI => gP5_days n (gP5_day h hI) (gI1_day hI)
section
variable {S : gSt}
theorem gP5_do (h : gP5 S) (hI : gI1 S) (hT : sN S 0 < 1000000000) (wd : Nat) (nm : Nat → Int32) : gP5 (gDo S wd nm).2 := by
  unfold gDo
  split
  · exact gP5_tryAdd h _
  · split
    · exact gP5_tryList h _ _ _
    · split
      · exact gP5_tryBook h hI hT _ _ _ _
      · split
        · exact gP5_tryWish h _ _
        · split
          · exact gP5_tryCarry h _ _
          · exact gP5_days _ h hI
end
theorem gP5_load (n : Nat) (sg : Nat → Int32) : ∀ (f a wd : Nat) (nm : Nat → Int32) {S : gSt} (lo b : Nat), gP5 S → gOk b S → b + 30 * f < 200000000 → gP5 (gLoad f n sg a wd nm S lo).1
  | 0, _, _, _, _, _, _, h, _, _ => h
  | f + 1, a, wd, nm, S, lo, b, h, hO, hb => by
    rw [gLoad]
    by_cases c : (gRC n sg a wd nm).1 = true
    · rw [if_pos c]
      obtain ⟨h6, -, -⟩ := (gRC_ind n sg a wd wd nm nm).2.2 c
      have h1 := gOk_do hO.1 hO.2.1 hO.2.2 (by omega) (nm := (gRC n sg a wd nm).2.2.2) h6 (fun e => gRC_5 n sg a wd nm c e)
      have h2 := gP5_do h hO.1.1.1 (by have := hO.2.2; omega) (gRC n sg a wd nm).2.2.1 (gRC n sg a wd nm).2.2.2
      exact gP5_load n sg f _ _ _ _ (b + 30) h2 h1 (by omega)
    · rw [if_neg c]
      exact h
theorem gP5_0 : gP5 gSt0 := by
  refine ⟨fun p hp q hq => ?_, fun p hp => by show ¬ (3 : Int32) < 0; decide, fun i j _ hj => absurd hj (Nat.not_lt_zero j), fun _ => 0, fun _ => 0, fun _ => 0, fun i hi => rfl, rfl, Nat.zero_le _, fun p hp => ⟨rfl, rfl, Nat.le_refl _⟩, rfl⟩
  have h0 : ∀ x, x < 8 → ∀ y, y < 8 → gHb (sI gSt0 5 x) (nI y) = false := fun x _ y hy => gHb_zero (i := y) (by omega)
  rw [h0 p hp q hq, h0 q hq p hp, h0 p hp p hp]
  exact ⟨rfl, rfl⟩
/-! ===== the whole object ===== -/
def gX5 (A : gA) : Prop := gP5 (aS A) ∧ (∀ k, k < aC A → gP5 (aH A k)) ∧ ∀ i, i < 2 → ∀ T, aL A i = some T → gP5 T
section
variable {A : gA} {b : Nat}
theorem gX5_rem {T : gSt} (h : gX5 A) (hc : aC A ≤ 14) (hT : gP5 T) : gX5 (aRem A T) := by
  obtain ⟨h2, h4, h5⟩ := h
  refine ⟨hT, fun k hk => ?_, h5⟩
  have hk' : k < gHc (aC A) := hk
  show gP5 (gHh (aC A) (aH A) (aS A) k)
  unfold gHc at hk'
  unfold gHh
  by_cases c : aC A = 14
  · rw [if_pos c] at hk' ⊢
    by_cases d : k < 13
    · rw [if_pos d]
      exact h4 (k + 1) (by omega)
    · rw [if_neg d]
      exact h2
  · rw [if_neg c] at hk' ⊢
    by_cases d : k = aC A
    · rw [if_pos d]
      exact h2
    · rw [if_neg d]
      exact h4 k (by omega)
theorem gX5_act {e1 e2 e3 : Nat} {t : Int32 × gSt} (h : gX5 A) (hc : aC A ≤ 14) (hT : gP5 t.2) : gX5 (aAct e1 e2 e3 A t).2.2 := by
  unfold aAct
  split
  · exact h
  · split
    · exact h
    · split
      · exact h
      · exact gX5_rem h hc hT
theorem gX5_append (h : gX5 A) (c : Int32) : gX5 (fAppend A c).2.2 := by
  unfold fAppend
  split
  · split
    · exact h
    · exact h
  · exact h
theorem gX5_clear (h : gX5 A) : gX5 (fClear A).2.2 := h
theorem gX5_load (h : gX5 A) : gX5 (fLoad A).2.2 := by
  unfold fLoad
  split
  · exact ⟨gP5_load (aN A) (aG A) 120 0 0 (fun _ => 0) (S := gSt0) 0 0 gP5_0 gOk_0 (by decide), fun k hk => absurd hk (Nat.not_lt_zero k), fun i _ T hT => by cases hT⟩
  · exact h
theorem gX5_run (h : gX5 A) (hA : gAok b A) (n : Int32) : gX5 (fRun A n).2.2 := by
  unfold fRun
  split
  · exact gX5_act h hA.2.2.1 (gP5_days _ h.1 hA.2.1.1.1.1)
  · exact h
theorem gX5_undo (h : gX5 A) : gX5 (fUndo A).2.2 := by
  unfold fUndo
  split
  · exact h
  · rename_i c
    obtain ⟨h1, h4, h5⟩ := h
    exact ⟨h4 (aC A - 1) (by omega), fun k hk => h4 k (by have : k < aC A - 1 := hk; omega), h5⟩
theorem gX5_save (h : gX5 A) (i : Int32) : gX5 (fSave A i).2.2 := by
  unfold fSave
  split
  · obtain ⟨h2, h4, h5⟩ := h
    refine ⟨h2, h4, fun j hj T hT => ?_⟩
    have hT' : (if j = i.toNatClampNeg then some (aS A) else aL A j) = some T := hT
    split at hT'
    · cases hT'
      exact h2
    · exact h5 j hj T hT'
  · exact h
theorem gX5_rest (h : gX5 A) (i : Int32) : gX5 (fRest A i).2.2 := by
  unfold fRest
  split
  · rename_i c
    obtain ⟨j, hj, rfl⟩ := gNat_ofl (m := 1) c rfl rfl (by decide)
    rw [nI_clamp (by omega)]
    cases e : aL A j with
    | none => exact h
    | some T => exact ⟨h.2.2 j hj T e, fun k hk => absurd hk (Nat.not_lt_zero k), h.2.2⟩
  · exact h
theorem gX5_0 : gX5 gA0 := ⟨gP5_0, fun k hk => absurd hk (Nat.not_lt_zero k), fun i _ T hT => by cases hT⟩
end
