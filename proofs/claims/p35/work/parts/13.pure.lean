theorem gHas_in {k n : Nat} (h : k < n) (hn : n ≤ 1000000) : (if (¬ nI k < 0 ∧ ¬ nI n ≤ nI k) then (1 : Int32) else 0) = 1 := by
  rw [if_pos]
  exact ⟨nI_pos (by omega), nI_ge h (by omega)⟩
/-- the first place below 24 whose bit is not there -/
def gLd (p : Nat → Bool) : Nat → Nat
  | 0 => 0
  | n + 1 => if gLd p n = n ∧ p n = true then n + 1 else gLd p n
theorem gLd_of {p : Nat → Bool} : ∀ {n b : Nat}, (∀ j, j < b → p j = true) → b ≤ n → (b = n ∨ p b = false) → gLd p n = b
  | 0, b, ha, hb, he => by simp [gLd]; omega
  | n + 1, b, ha, hb, he => by
    rcases Nat.lt_or_ge b (n + 1) with h | h
    · have e := gLd_of (n := n) (b := b) ha (by omega) (Or.inr (he.resolve_left (by omega)))
      have hp := he.resolve_left (by omega)
      rw [gLd, e, if_neg]
      rintro ⟨e1, e2⟩
      rw [← e1, hp] at e2
      cases e2
    · have hb' : b = n + 1 := by omega
      subst hb'
      have e := gLd_of (n := n) (b := n) (fun j hj => ha j (by omega)) (Nat.le_refl n) (Or.inl rfl)
      rw [gLd, e, if_pos ⟨rfl, ha n (by omega)⟩]
theorem gLd_le (p : Nat → Bool) : ∀ n, gLd p n ≤ n
  | 0 => Nat.le_refl 0
  | n + 1 => by
    have := gLd_le p n
    unfold gLd
    split <;> omega
theorem gLd_not (p : Nat → Bool) : ∀ n, gLd p n < n → p (gLd p n) = false
  | 0, h => absurd h (Nat.not_lt_zero _)
  | n + 1, h => by
    unfold gLd at h ⊢
    split at h
    · omega
    · rename_i c
      rw [if_neg c]
      rcases Nat.lt_or_ge (gLd p n) n with q | q
      · exact gLd_not p n q
      · have e : gLd p n = n := by have := gLd_le p n; omega
        rw [e] at c ⊢
        simpa using c
def gFr (x : Int32) : Nat := gLd (fun b => gHb x (nI b)) 24
theorem gFr_of {x : Int32} {b : Nat} (ha : ∀ j, j < b → gHb x (nI j) = true) (hb : b ≤ 24) (he : b = 24 ∨ gHb x (nI b) = false) : gFr x = b := gLd_of ha hb he
theorem gFr_le (x : Int32) : gFr x ≤ 24 := gLd_le _ 24
/-- b put in at k -/
def gIns (bs : List (Nat → Nat)) (k : Nat) (b : Nat → Nat) : List (Nat → Nat) := bs.take k ++ b :: bs.drop k
theorem gIns_length (bs : List (Nat → Nat)) (k : Nat) (b : Nat → Nat) (h : k ≤ bs.length) : (gIns bs k b).length = bs.length + 1 := by
  simp [gIns]
  omega
theorem bk_ins {bs : List (Nat → Nat)} {k : Nat} {b : Nat → Nat} (h : k ≤ bs.length) (j : Nat) : bk (gIns bs k b) j = if j < k then bk bs j else if j = k then b else bk bs (j - 1) := by
  unfold bk gIns
  simp only [List.getD_eq_getElem?_getD]
  by_cases h1 : j < k
  · rw [if_pos h1, List.getElem?_append_left (by rw [List.length_take]; omega), List.getElem?_take_of_lt h1]
  · rw [if_neg h1, List.getElem?_append_right (by rw [List.length_take]; omega)]
    have e : (bs.take k).length = k := by rw [List.length_take]; omega
    rw [e]
    by_cases h2 : j = k
    · rw [if_pos h2, h2, Nat.sub_self]
      rfl
    · rw [if_neg h2]
      obtain ⟨i, rfl⟩ : ∃ i, j = k + 1 + i := ⟨j - (k + 1), by omega⟩
      rw [show k + 1 + i - k = i + 1 by omega, List.getElem?_cons_succ, List.getElem?_drop, show k + 1 + i - 1 = k + i by omega]
def gNb (d h t p v : Nat) : Nat → Nat := fun w => if w = 0 then d else if w = 1 then h else if w = 2 then t else if w = 3 then p else if w = 4 then v else 0
theorem gAdd_RB {bs : List (Nat → Nat)} {g : Nat → Int32} {P d h t p v : Nat} (hR : RB bs g) (hP : P ≤ bs.length) (hn : bs.length < 24) (hd : d < 1073741824) (hh : h < 1073741824) (ht : t < 1073741824) (hp : p < 1073741824) (hv : v < 1073741824) :
    RB (gIns bs P (gNb d h t p v)) (upd (upd (upd (upd (upd (upd (va_cpy g g (6 * P) (6 * P + 6) (6 * bs.length - 6 * P)) (6 * P + 0) (nI d)) (6 * P + 1) (nI h)) (6 * P + 2) (nI t)) (6 * P + 3) (nI p)) (6 * P + 4) (nI v)) (6 * P + 5) 0) := by
  intro k hk w hw
  rw [gIns_length bs P _ hP] at hk
  rw [bk_ins hP]
  by_cases h1 : k < P
  · rw [if_pos h1]
    simp only [upd]
    rw [if_neg (by omega), if_neg (by omega), if_neg (by omega), if_neg (by omega), if_neg (by omega), if_neg (by omega), pk_cpy_out (by omega)]
    exact hR k (by omega) w hw
  · rw [if_neg h1]
    by_cases h2 : k = P
    · subst h2
      rw [if_pos rfl]
      have hw6 : w = 0 ∨ w = 1 ∨ w = 2 ∨ w = 3 ∨ w = 4 ∨ w = 5 := by omega
      rcases hw6 with rfl | rfl | rfl | rfl | rfl | rfl <;> simp [upd, gNb, *]
      · exact nI_0.symm
    · rw [if_neg h2]
      simp only [upd]
      rw [if_neg (by omega), if_neg (by omega), if_neg (by omega), if_neg (by omega), if_neg (by omega), if_neg (by omega), pk_cpy_in (by omega) (by omega)]
      have e : 6 * P + (6 * k + w - (6 * P + 6)) = 6 * (k - 1) + w := by omega
      rw [e]
      exact hR (k - 1) (by omega) w hw
theorem bk_erase {bs : List (Nat → Nat)} {K : Nat} (j : Nat) : bk (bs.eraseIdx K) j = if j < K then bk bs j else bk bs (j + 1) := by
  unfold bk
  simp only [List.getD_eq_getElem?_getD, List.getElem?_eraseIdx]
  split <;> rfl
theorem gErase_le {α : Type} {bs : List α} (K : Nat) {n : Nat} (h : bs.length ≤ n) : (bs.eraseIdx K).length ≤ n := by
  rw [List.length_eraseIdx]
  split <;> omega
theorem gRem_RB {bs : List (Nat → Nat)} {g : Nat → Int32} {K : Nat} (hR : RB bs g) (hK : K < bs.length) (hn : bs.length ≤ 24) : RB (bs.eraseIdx K) (va_cpy g g (6 * (K + 1)) (6 * (K + 1) - 6) (6 * bs.length - 6 * (K + 1))) := by
  intro k hk w hw
  rw [List.length_eraseIdx, if_pos hK] at hk
  rw [bk_erase]
  by_cases h1 : k < K
  · rw [if_pos h1, pk_cpy_out (by omega)]
    exact hR k (by omega) w hw
  · rw [if_neg h1, pk_cpy_in (by omega) (by omega)]
    have e : 6 * (K + 1) + (6 * k + w - (6 * (K + 1) - 6)) = 6 * (k + 1) + w := by omega
    rw [e]
    exact hR (k + 1) (by omega) w hw
theorem gCpy_RB {bs : List (Nat → Nat)} {g g2 : Nat → Int32} (hR : RB bs g2) (hn : bs.length ≤ 24) : RB bs (va_cpy g2 g 0 0 144) := by
  intro k hk w hw
  rw [pk_cpy_in (by omega) (by omega)]
  simpa using hR k hk w hw
theorem gCpy_RW {W : List Nat} {g g2 : Nat → Int32} (hR : RW W g2) (hn : W.length ≤ 10) : RW W (va_cpy g2 g 0 0 10) := by
  intro k hk
  rw [pk_cpy_in (by omega) (by omega)]
  simpa using hR k hk
theorem gAdd_RW {W : List Nat} {g : Nat → Int32} {x : Nat} (hQ : RW W g) (hx : x < 1073741824) : RW (W ++ [x]) (upd g W.length (nI x)) := by
  intro k hk
  rw [List.length_append, List.length_singleton] at hk
  simp only [upd]
  by_cases h : k = W.length
  · subst h
    simp [wq, hx]
  · rw [if_neg h]
    have e : wq (W ++ [x]) k = wq W k := by
      simp only [wq, List.getD_eq_getElem?_getD]
      rw [List.getElem?_append_left (by omega)]
    rw [e]
    exact hQ k (by omega)
theorem getD_erase (W : List Nat) (K j : Nat) : wq (W.eraseIdx K) j = if j < K then wq W j else wq W (j + 1) := by
  simp only [wq, List.getD_eq_getElem?_getD, List.getElem?_eraseIdx]
  split <;> rfl
theorem gRem_RW {W : List Nat} {g : Nat → Int32} {K : Nat} (hQ : RW W g) (hK : K < W.length) : RW (W.eraseIdx K) (va_cpy g g (K + 1) K (W.length - K - 1)) := by
  intro k hk
  rw [List.length_eraseIdx, if_pos hK] at hk
  rw [getD_erase]
  by_cases h1 : k < K
  · rw [if_pos h1, pk_cpy_out (by omega)]
    exact hQ k (by omega)
  · rw [if_neg h1, pk_cpy_in (by omega) (by omega), show K + 1 + (k - K) = k + 1 by omega]
    exact hQ (k + 1) (by omega)
/-- which wish is looked at when -/
def gRk (W : List Nat) (hf : Nat → Int32) (K : Nat) : Nat → Bool := fun o => decide (hf (wq W o / 10) < hf (wq W K / 10)) || (decide (hf (wq W o / 10) = hf (wq W K / 10)) && decide (o < K))
def gRank (W : List Nat) (hf : Nat → Int32) (K : Nat) : Nat := gCnt (gRk W hf K) W.length
theorem gRank_le (W : List Nat) (hf : Nat → Int32) (K : Nat) : gRank W hf K ≤ W.length := gCnt_le _ _
def gOptI : Option Nat → Int32
  | none => -1
  | some k => nI k
def gTurn (W : List Nat) (hf : Nat → Int32) (T : Nat) : Option Nat := (List.range W.length).find? (fun i => gRank W hf i == T)
theorem gTurn_some {W : List Nat} {hf : Nat → Int32} {T k : Nat} (hk : k < W.length) (ha : ∀ j, j < k → ¬ gRank W hf j = T) (h : gRank W hf k = T) : nI k = gOptI (gTurn W hf T) := by
  have e : gTurn W hf T = some k := by
    unfold gTurn
    rw [List.find?_range_eq_some]
    exact ⟨by simp [h], by simp [hk], fun j hj => by simpa using ha j hj⟩
  rw [e]
  rfl
theorem gTurn_none {W : List Nat} {hf : Nat → Int32} {T : Nat} (ha : ∀ j, j < W.length → ¬ gRank W hf j = T) : (-1 : Int32) = gOptI (gTurn W hf T) := by
  have e : gTurn W hf T = none := by
    unfold gTurn
    rw [List.find?_range_eq_none]
    intro j hj
    simpa using ha j hj
  rw [e]
  rfl
