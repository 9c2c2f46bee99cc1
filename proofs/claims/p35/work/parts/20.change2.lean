theorem gNat_rng {x : Int32} {a b : Nat} (h1 : ¬ x < nI a) (h2 : ¬ nI b < x) (hb : a < 1073741824 ∧ b < 1073741824) : ∃ j, (a ≤ j ∧ j ≤ b) ∧ x = nI j := by
  have h0 : ¬ x < 0 := fun h => h1 (Int32.lt_of_lt_of_le h (nI_pos' (by omega)))
  obtain ⟨j, hj, rfl⟩ := nI_of h0
  refine ⟨j, ⟨?_, ?_⟩, rfl⟩
  · rcases Nat.lt_or_ge j a with q | q
    · exact absurd (nI_lt q (by omega)) h1
    · exact q
  · rcases Nat.lt_or_ge b j with q | q
    · exact absurd (nI_lt q hj) h2
    · exact q
theorem gLt60 {m : Int32} (h : ¬ m < 0 ∧ ¬ 59 < m) : ¬ m < 0 ∧ ¬ nI 60 ≤ m := by
  refine ⟨h.1, fun q => ?_⟩
  obtain ⟨j, hj, rfl⟩ := nI_of h.1
  have h1 : ¬ 59 < j := fun z => h.2 (nI_lt (a := 59) z hj)
  have h2 : 60 ≤ j := (nI_leI (by omega) hj).mp q
  omega
def gLst (k : Nat) : Int32 := ([1, 1, 1, 1, 0, 0] : List Int32).getD k 0
def gMst (k : Nat) : Int32 := ([4, 9, 99, 99, 59, 99] : List Int32).getD k 0
def gLstN (k : Nat) : Nat := ([1, 1, 1, 1, 0, 0] : List Nat).getD k 0
def gMstN (k : Nat) : Nat := ([4, 9, 99, 99, 59, 99] : List Nat).getD k 0
theorem gLst_N {k : Nat} (h : k < 6) : gLst k = nI (gLstN k) ∧ gMst k = nI (gMstN k) ∧ gLstN k ≤ 1 ∧ gMstN k ≤ 99 := by
  have : k = 0 ∨ k = 1 ∨ k = 2 ∨ k = 3 ∨ k = 4 ∨ k = 5 := by omega
  rcases this with rfl | rfl | rfl | rfl | rfl | rfl <;> decide
theorem gSet_rng {x : Int32} {k : Nat} (hk : k < 6) (h : ¬ x < gLst k ∧ ¬ gMst k < x) : ∃ j, (gLstN k ≤ j ∧ j ≤ gMstN k) ∧ x = nI j := by
  obtain ⟨e1, e2, h1, h2⟩ := gLst_N hk
  rw [e1, e2] at h
  exact gNat_rng h.1 h.2 ⟨by omega, by omega⟩
theorem gSet_fn (S : gSt) (K X : Nat) : upd (fun j => nI (sS S j)) K (nI X) = fun j => nI (sS (uS S K X) j) := by
  funext j
  show (if j = K then nI X else nI (sS S j)) = nI (if j = K then X else sS S j)
  split <;> rfl
theorem gI1_uS {S : gSt} {k x : Nat} (h : gI1 S) (hk : k < 6) (hx : gLstN k ≤ x ∧ x ≤ gMstN k) : gI1 (uS S k x) := by
  obtain ⟨h1, h2, h3, h4, h5, h6, h7, h8, h9, h10, h11⟩ := h
  have hv : ∀ j, sS (uS S k x) j = if j = k then x else sS S j := fun _ => rfl
  refine ⟨h1, h2, h3, h4, ?_, ?_, ?_, ?_, ?_, ?_, h11⟩ <;> rw [hv] <;> split <;> first | assumption | (subst k; revert hx; simp [gLstN, gMstN]; done) | (subst k; revert hx; simp [gLstN, gMstN]; omega)
def gTrySet (S : gSt) (q x : Int32) : Int32 × gSt := if (¬ q < 0 ∧ ¬ 6 ≤ q) then (if (¬ x < gLst q.toNatClampNeg ∧ ¬ gMst q.toNatClampNeg < x) then (nI (sS S q.toNatClampNeg), uS S q.toNatClampNeg x.toNatClampNeg) else (-2, S)) else (-2, S)
/-- a booking is made -/
def gBook (S : gSt) (p v d h : Nat) : gSt := uB S (gIns (sB S) (gPlc (sB S) d h (gFr (gVih (sB S) 2 d h (sB S).length))) (gNb d h (gFr (gVih (sB S) 2 d h (sB S).length)) p v))
theorem gRA_le (S : gSt) (p v d h : Nat) : gRA S p v d h ≤ 8 := by
  unfold gRA
  split
  · exact gRIH_le S p v d h
  · exact Nat.le_trans (gROD_le S p v d) (by omega)
theorem gRA_nf {S : gSt} {p v d h : Nat} (c : gRA S p v d h = 0) : (sB S).length < 24 := by
  rcases Nat.lt_or_ge (sB S).length 24 with q | q
  · exact q
  · exact absurd c (gRA_full q)
theorem gI1_book {S : gSt} {p v d h : Nat} (hI : gI1 S) (hn : (sB S).length < 24) (hp : p < sN S 1) (hv : v < 10) : gI1 (gBook S p v d h) := by
  obtain ⟨h1, h2, h3, h4, h5, h6, h7, h8, h9, h10, h11⟩ := hI
  have hP := gPlc_le (sB S) d h (gFr (gVih (sB S) 2 d h (sB S).length))
  have hl : (sB (gBook S p v d h)).length = (sB S).length + 1 := gIns_length _ _ _ hP
  refine ⟨h1, by omega, h3, h4, h5, h6, h7, h8, h9, h10, fun k hk => ?_⟩
  show bk (gIns (sB S) _ _) k 3 < sN S 1 ∧ bk (gIns (sB S) _ _) k 4 < 10
  rw [bk_ins hP]
  split
  · exact h11 k (by omega)
  · split
    · exact ⟨hp, hv⟩
    · exact h11 (k - 1) (by omega)
theorem gI1_erase {S : gSt} (hI : gI1 S) (K : Nat) : gI1 (uB S ((sB S).eraseIdx K)) := by
  obtain ⟨h1, h2, h3, h4, h5, h6, h7, h8, h9, h10, h11⟩ := hI
  refine ⟨h1, gErase_le K h2, h3, h4, h5, h6, h7, h8, h9, h10, fun k hk => ?_⟩
  have hk' : k < ((sB S).eraseIdx K).length := hk
  rw [List.length_eraseIdx] at hk'
  show bk ((sB S).eraseIdx K) k 3 < sN S 1 ∧ bk ((sB S).eraseIdx K) k 4 < 10
  rw [bk_erase]
  split at hk'
  · split
    · exact h11 k (by omega)
    · exact h11 (k + 1) (by omega)
  · split
    · exact h11 k (by omega)
    · exact h11 (k + 1) (by omega)
def gMin (b : Nat → Nat) (m : Nat) : Nat → Nat := fun w => cond (Nat.beq w 5) m (b w)
def gLate (S : gSt) (K m : Nat) : gSt := uB S ((sB S).set K (gMin (bk (sB S) K) m))
theorem gLate_len (S : gSt) (K m : Nat) : (sB (gLate S K m)).length = (sB S).length := List.length_set
theorem bk_set {bs : List (Nat → Nat)} {K : Nat} {b : Nat → Nat} (hK : K < bs.length) (j : Nat) : bk (bs.set K b) j = if j = K then b else bk bs j := by
  unfold bk
  simp only [List.getD_eq_getElem?_getD]
  by_cases h : j = K
  · subst h
    rw [if_pos rfl, List.getElem?_set_self hK]
    rfl
  · rw [if_neg h, List.getElem?_set_ne (Ne.symm h)]
theorem gMin_5 (b : Nat → Nat) (m : Nat) : gMin b m 5 = m := rfl
theorem gMin_ne (b : Nat → Nat) (m : Nat) {w : Nat} (h : w ≠ 5) : gMin b m w = b w := by
  show cond (Nat.beq w 5) m (b w) = _
  cases e : Nat.beq w 5 with
  | false => rfl
  | true => exact absurd (Nat.eq_of_beq_eq_true e) h
theorem gLate_RB {S : gSt} {g : Nat → Int32} {K m : Nat} (hR : RB (sB S) g) (hK : K < (sB S).length) (hm : m < 1073741824) : RB (sB (gLate S K m)) (upd g (6 * K + 5) (nI m)) := by
  intro k hk w hw
  have hk' : k < (sB S).length := by rw [← gLate_len S K m]; exact hk
  show upd g (6 * K + 5) (nI m) (6 * k + w) = nI (bk ((sB S).set K _) k w) ∧ bk ((sB S).set K _) k w < _
  rw [bk_set hK]
  simp only [upd]
  by_cases h : k = K
  · subst h
    rw [if_pos rfl]
    by_cases h5 : w = 5
    · subst h5
      rw [if_pos rfl, gMin_5]
      exact ⟨rfl, hm⟩
    · rw [if_neg (by omega), gMin_ne _ _ h5]
      exact hR k hk' w hw
  · rw [if_neg h, if_neg (by omega)]
    exact hR k hk' w hw
theorem gI1_late {S : gSt} {K m : Nat} (hI : gI1 S) (hK : K < (sB S).length) : gI1 (gLate S K m) := by
  obtain ⟨h1, h2, h3, h4, h5, h6, h7, h8, h9, h10, h11⟩ := hI
  refine ⟨h1, by rw [gLate_len]; exact h2, h3, h4, h5, h6, h7, h8, h9, h10, fun k hk => ?_⟩
  have hk' : k < (sB S).length := by rw [← gLate_len S K m]; exact hk
  show bk ((sB S).set K _) k 3 < sN S 1 ∧ bk ((sB S).set K _) k 4 < 10
  rw [bk_set hK]
  split
  · rw [gMin_ne _ _ (by omega), gMin_ne _ _ (by omega)]
    exact h11 K hK
  · exact h11 k hk'
theorem gI1_wish {S : gSt} {p v : Nat} (hI : gI1 S) (hn : (sW S).length < 10) (hp : p < sN S 1) (hv : v < 10) : gI1 (uW S (sW S ++ [10 * p + v])) := by
  obtain ⟨h1, h2, h3, h4, h5, h6, h7, h8, h9, h10, h11⟩ := hI
  refine ⟨h1, h2, ?_, fun j hj => ?_, h5, h6, h7, h8, h9, h10, h11⟩
  · show (sW S ++ [10 * p + v]).length ≤ 10
    simp
    omega
  · have hj' : j < (sW S ++ [10 * p + v]).length := hj
    rw [List.length_append, List.length_singleton] at hj'
    show wq (sW S ++ [10 * p + v]) j < 80 ∧ wq (sW S ++ [10 * p + v]) j / 10 < sN S 1
    unfold wq
    simp only [List.getD_eq_getElem?_getD]
    by_cases h : j = (sW S).length
    · subst h
      simp
      omega
    · rw [List.getElem?_append_left (by omega)]
      have := h4 j (by omega)
      unfold wq at this
      simpa only [List.getD_eq_getElem?_getD] using this
theorem gI1_eraseW {S : gSt} (hI : gI1 S) (K : Nat) : gI1 (uW S ((sW S).eraseIdx K)) := by
  obtain ⟨h1, h2, h3, h4, h5, h6, h7, h8, h9, h10, h11⟩ := hI
  refine ⟨h1, h2, gErase_le K h3, fun k hk => ?_, h5, h6, h7, h8, h9, h10, h11⟩
  have hk' : k < ((sW S).eraseIdx K).length := hk
  rw [List.length_eraseIdx] at hk'
  show wq ((sW S).eraseIdx K) k < 80 ∧ wq ((sW S).eraseIdx K) k / 10 < sN S 1
  rw [getD_erase]
  split at hk'
  · split
    · exact h4 k (by omega)
    · exact h4 (k + 1) (by omega)
  · split
    · exact h4 k (by omega)
    · exact h4 (k + 1) (by omega)
def gTryBook (S : gSt) (p v d h : Int32) : Int32 × gSt := if ((¬ p < 0 ∧ ¬ nI (sN S 1) ≤ p) ∧ (¬ v < 0 ∧ ¬ 10 ≤ v)) then (if (¬ d < nI (sN S 0) ∧ ¬ 9999 < d ∧ ¬ h < 0 ∧ ¬ 8 ≤ h) then (if gRA S p.toNatClampNeg v.toNatClampNeg d.toNatClampNeg h.toNatClampNeg = 0 then (nI (gFr (gVih (sB S) 2 d.toNatClampNeg h.toNatClampNeg (sB S).length)), gBook S p.toNatClampNeg v.toNatClampNeg d.toNatClampNeg h.toNatClampNeg) else (-3, S)) else (-2, S)) else (-1, S)
def gTryCancel (S : gSt) (k : Int32) : Int32 × gSt := if (¬ k < 0 ∧ ¬ nI (sB S).length ≤ k) then (nI ((sB S).eraseIdx k.toNatClampNeg).length, uB S ((sB S).eraseIdx k.toNatClampNeg)) else (-1, S)
def gTryLate (S : gSt) (k m : Int32) : Int32 × gSt := if (¬ k < 0 ∧ ¬ nI (sB S).length ≤ k) then (if (¬ m < 0 ∧ ¬ 59 < m) then (nI (bk (sB S) k.toNatClampNeg 5), gLate S k.toNatClampNeg m.toNatClampNeg) else (-2, S)) else (-1, S)
def gTryWish (S : gSt) (p v : Int32) : Int32 × gSt := if ((¬ p < 0 ∧ ¬ nI (sN S 1) ≤ p) ∧ (¬ v < 0 ∧ ¬ 10 ≤ v)) then (if gHb (sI S 1 p.toNatClampNeg) v = true then (if 10 ≤ (sW S).length then (-3, S) else (nI (sW S ++ [10 * p.toNatClampNeg + v.toNatClampNeg]).length, uW S (sW S ++ [10 * p.toNatClampNeg + v.toNatClampNeg]))) else (-3, S)) else (-1, S)
/-! what a search and a strike do -/
def gBan (S : gSt) (v : Nat) : gSt := if nI (sN S 0 + 1 + sS S 2) ≤ sI S 7 v then S else uI S 7 (upd (sI S 7) v (nI (sN S 0 + 1 + sS S 2)))
def gTake (S : gSt) (p : Nat) : gSt := if nI (sN S 0 + 1 + sS S 3) ≤ sI S 2 p then S else uI S 2 (upd (sI S 2) p (nI (sN S 0 + 1 + sS S 3)))
def gSearch (S : gSt) (v : Nat) : Bool := if sI S 8 4 - sI S 8 4 / nI (sS S 1) * nI (sS S 1) = 0 then true else if sI S 6 v ≤ 0 then false else true
def gThird (S : gSt) (v : Nat) : Int32 × gSt := if sI S 6 v + 1 < 3 then (0, uI S 6 (upd (sI S 6) v (sI S 6 v + 1))) else (1, uI S 6 (upd (upd (sI S 6) v (sI S 6 v + 1)) v 0))
theorem gI1_ban {S : gSt} (h : gI1 S) (v : Nat) : gI1 (gBan S v) := by unfold gBan; split <;> exact h
theorem gT_ban {S : gSt} (h : sN S 0 < 1000000000) (v : Nat) : sN (gBan S v) 0 < 1000000000 := by unfold gBan; split <;> exact h
theorem gI1_take {S : gSt} (h : gI1 S) (v : Nat) : gI1 (gTake S v) := by unfold gTake; split <;> exact h
theorem gT_take {S : gSt} (h : sN S 0 < 1000000000) (v : Nat) : sN (gTake S v) 0 < 1000000000 := by unfold gTake; split <;> exact h
theorem gI1_third {S : gSt} (h : gI1 S) (v : Nat) : gI1 (gThird S v).2 := by unfold gThird; split <;> exact h
theorem gT_third {S : gSt} (h : sN S 0 < 1000000000) (v : Nat) : sN (gThird S v).2 0 < 1000000000 := by unfold gThird; split <;> exact h
