/-! ===== changes of a state ===== -/
def uI (S : gSt) (k : Nat) (f : Nat → Int32) : gSt := (fun j => cond (Nat.beq j k) f (sI S j), S.2)
def uN (S : gSt) (k : Nat) (x : Nat) : gSt := (S.1, (fun j => cond (Nat.beq j k) x (sN S j), sS S), S.2.2)
def uS (S : gSt) (k : Nat) (x : Nat) : gSt := (S.1, (sN S, fun j => if j = k then x else sS S j), S.2.2)
theorem sI_uI (S : gSt) (k : Nat) (f : Nat → Int32) (j : Nat) : sI (uI S k f) j = if j = k then f else sI S j := by
  show cond (Nat.beq j k) f (sI S j) = _
  by_cases h : j = k
  · rw [if_pos h, h, Nat.beq_refl]; rfl
  · rw [if_neg h]
    cases e : Nat.beq j k with
    | false => rfl
    | true => exact absurd (Nat.eq_of_beq_eq_true e) h
theorem sN_uN (S : gSt) (k x j : Nat) : sN (uN S k x) j = if j = k then x else sN S j := by
  show cond (Nat.beq j k) x (sN S j) = _
  by_cases h : j = k
  · rw [if_pos h, h, Nat.beq_refl]; rfl
  · rw [if_neg h]
    cases e : Nat.beq j k with
    | false => rfl
    | true => exact absurd (Nat.eq_of_beq_eq_true e) h
def uB (S : gSt) (bs : List (Nat → Nat)) : gSt := (S.1, S.2.1, bs, S.2.2.2)
def uW (S : gSt) (W : List Nat) : gSt := (S.1, S.2.1, S.2.2.1, W)
abbrev gU := gSt × (Nat → Int32) × (Nat → Int32)
theorem gI1_n {S : gSt} (h : gI1 S) : (sB S).length ≤ 24 := h.2.1
theorem gI1_w {S : gSt} (h : gI1 S) : (sW S).length ≤ 10 := h.2.2.1
theorem gI1_8 {S : gSt} (h : gI1 S) : ∀ j, j < (sW S).length → wq (sW S) j < 80 := fun j hj => (h.2.2.2.1 j hj).1
theorem gNat_of {x : Int32} {n : Nat} (h : ¬ x < 0 ∧ ¬ nI n ≤ x) (hn : n < 2147483648) : ∃ j, j < n ∧ x = nI j := by
  obtain ⟨j, hj, rfl⟩ := nI_of h.1
  refine ⟨j, ?_, rfl⟩
  rcases Nat.lt_or_ge j n with q | q
  · exact q
  · exact absurd (nI_le q hj) h.2
theorem gNat_of10 {x : Int32} (h : ¬ x < 0 ∧ ¬ 10 ≤ x) : ∃ j, j < 10 ∧ x = nI j := gNat_of (n := 10) h (by omega)
/-- the first time for which a booking is possible -/
def gEar (S : gSt) (p v n : Nat) : Option Nat := ((List.range (8 * n)).find? (fun t => gRA S p v (sN S 0 + t / 8) (t % 8) == 0)).map (fun t => 8 * sN S 0 + t)
theorem gEar_some {S : gSt} {p v n k h : Nat} (hk : k < n) (hh : h < 8) (ha : ∀ j, j < 8 * k + h → gRA S p v (sN S 0 + j / 8) (j % 8) ≠ 0) (h0 : gRA S p v (sN S 0 + k) h = 0) : gEar S p v n = some (8 * (sN S 0 + k) + h) := by
  have e : (List.range (8 * n)).find? (fun t => gRA S p v (sN S 0 + t / 8) (t % 8) == 0) = some (8 * k + h) := by
    rw [List.find?_range_eq_some]
    refine ⟨?_, ?_, fun j hj => ?_⟩
    · have e1 : (8 * k + h) / 8 = k := by omega
      have e2 : (8 * k + h) % 8 = h := by omega
      simp [e1, e2, h0]
    · simp
      omega
    · have := ha j hj
      simp [this]
  unfold gEar
  rw [e]
  show some (8 * sN S 0 + (8 * k + h)) = _
  congr 1
  omega
theorem gEar_none {S : gSt} {p v n : Nat} (ha : ∀ j, j < 8 * n → gRA S p v (sN S 0 + j / 8) (j % 8) ≠ 0) : gEar S p v n = none := by
  have e : (List.range (8 * n)).find? (fun t => gRA S p v (sN S 0 + t / 8) (t % 8) == 0) = none := by
    rw [List.find?_range_eq_none]
    intro j hj
    have := ha j hj
    simp [this]
  unfold gEar
  rw [e]
  rfl
theorem gRA_full {S : gSt} {p v d h : Nat} (hf : 24 ≤ (sB S).length) : gRA S p v d h ≠ 0 := by
  unfold gRA
  split
  · unfold gRIH
    repeat' split
    all_goals omega
  · assumption
theorem gEar_full {S : gSt} {p v n : Nat} (hf : 24 ≤ (sB S).length) : gEar S p v n = none := gEar_none (fun _ _ => gRA_full hf)
theorem gEar_cl {S : gSt} {p v k : Nat} (ha : ∀ j, j < 8 * k → gRA S p v (sN S 0 + j / 8) (j % 8) ≠ 0) (hc : ¬ gROD S p v (sN S 0 + k) = 0) : ∀ j, j < 8 * (k + 1) → gRA S p v (sN S 0 + j / 8) (j % 8) ≠ 0 := by
  intro j hj
  rcases Nat.lt_or_ge j (8 * k) with q | q
  · exact ha j q
  · have e : j / 8 = k := by omega
    rw [e]
    unfold gRA
    rw [if_neg hc]
    exact hc
theorem gEar_st {S : gSt} {p v k h : Nat} (hb : ∀ j, j < 8 * k + h → gRA S p v (sN S 0 + j / 8) (j % 8) ≠ 0) (h0 : gROD S p v (sN S 0 + k) = 0) (h1 : ¬ gRIH S p v (sN S 0 + k) h = 0) (hh : h < 8) : ∀ j, j < 8 * k + (h + 1) → gRA S p v (sN S 0 + j / 8) (j % 8) ≠ 0 := by
  intro j hj
  rcases Nat.lt_or_ge j (8 * k + h) with q | q
  · exact hb j q
  · have e : j = 8 * k + h := by omega
    have e1 : j / 8 = k := by omega
    have e2 : j % 8 = h := by omega
    rw [e1, e2]
    unfold gRA
    rw [if_pos h0]
    exact h1
/-! what may be tried: the answer (or -1, -2, -3) and the state -/
def gTryAdd (S : gSt) (r : Int32) : Int32 × gSt := if (¬ r < 0 ∧ ¬ 3 < r) then (if sN S 1 < 8 then (nI (sN S 1), uN (uI S 0 (upd (sI S 0) (sN S 1) r)) 1 (sN S 1 + 1)) else (-3, S)) else (-2, S)
def gTryPromote (S : gSt) (p r : Int32) : Int32 × gSt := if (¬ p < 0 ∧ ¬ nI (sN S 1) ≤ p) then (if (¬ r < 0 ∧ ¬ 3 < r) then (sI S 0 p.toNatClampNeg, uI S 0 (upd (sI S 0) p.toNatClampNeg r)) else (-2, S)) else (-1, S)
def gTryList (S : gSt) (p v b : Int32) : Int32 × gSt := if ((¬ p < 0 ∧ ¬ nI (sN S 1) ≤ p) ∧ (¬ v < 0 ∧ ¬ 10 ≤ v)) then (gWb (sI S 1 p.toNatClampNeg) v b, uI S 1 (upd (sI S 1) p.toNatClampNeg (gWb (sI S 1 p.toNatClampNeg) v b))) else (-1, S)
def gApart (S : gSt) (p q : Nat) (b : Int32) : gSt := uI (uI S 5 (upd (sI S 5) p (gWb (sI S 5 p) (nI q) b))) 5 (upd (upd (sI S 5) p (gWb (sI S 5 p) (nI q) b)) q (gWb (upd (sI S 5) p (gWb (sI S 5 p) (nI q) b) q) (nI p) b))
def gTryApart (S : gSt) (p q b : Int32) : Int32 × gSt := if (¬ p < 0 ∧ ¬ nI (sN S 1) ≤ p) then (if (¬ q < 0 ∧ ¬ nI (sN S 1) ≤ q) then (if p = q then (-3, S) else (sI (gApart S p.toNatClampNeg q.toNatClampNeg b) 5 p.toNatClampNeg, gApart S p.toNatClampNeg q.toNatClampNeg b)) else (-1, S)) else (-1, S)
def gTryCarry (S : gSt) (v b : Int32) : Int32 × gSt := if (¬ v < 0 ∧ ¬ 10 ≤ v) then (gWb (sI S 9 0) v b, uI S 9 (fun _ => gWb (sI S 9 0) v b)) else (-1, S)
def gTryPunish (S : gSt) (p n : Int32) : Int32 × gSt := if (¬ p < 0 ∧ ¬ nI (sN S 1) ≤ p) then (if (¬ n < 0 ∧ ¬ 99 < n) then (sI S 2 p.toNatClampNeg, uI S 2 (upd (sI S 2) p.toNatClampNeg (nI (sN S 0) + n))) else (-2, S)) else (-1, S)
