/-! ===== what the reference's queries count ===== -/
theorem gCnt_ext {p : Nat → Bool} {m : Nat} : ∀ {n : Nat}, m ≤ n → (∀ j, m ≤ j → j < n → p j = false) → gCnt p n = gCnt p m
  | 0, h, _ => by
    obtain rfl : m = 0 := by omega
    rfl
  | n + 1, h, hp => by
    by_cases c : m = n + 1
    · rw [c]
    · rw [gCnt, hp n (by omega) (by omega), gCnt_ext (show m ≤ n by omega) (fun j a b => hp j a (by omega))]
      rfl
/-- the prisoners on whose list a visitor is, as the reference asks for them -/
def gLs (S : gSt) (v : Nat) : Nat → Int32
  | 0 => 0
  | k + 1 => gLs S v k ||| (if gHb (sI S 1 k) (nI v) = true then 1 <<< (nI k &&& 31) else 0)
section
variable {S : gSt}
theorem gLs_bit {v i : Nat} (hi : i < 32) : ∀ {k : Nat}, k ≤ 8 → gHb (gLs S v k) (nI i) = (decide (i < k) && gHb (sI S 1 i) (nI v))
  | 0, _ => by
    rw [gLs, gHb_zero hi]
    rfl
  | k + 1, hk => by
    rw [gLs, gHb_or hi, gLs_bit hi (show k ≤ 8 by omega)]
    by_cases c : gHb (sI S 1 k) (nI v) = true
    · rw [if_pos c, gHb_one hi (by omega)]
      by_cases e : i = k
      · rw [e, c, decide_eq_true (show k < k + 1 by omega), decide_eq_true (rfl : k = k)]
        simp
      · rw [decide_eq_false e, Bool.or_false]
        congr 1
        exact decide_eq_decide.mpr (by omega)
    · rw [if_neg c, gHb_zero hi, Bool.or_false]
      by_cases e : i = k
      · have c' : gHb (sI S 1 k) (nI v) = false := Bool.eq_false_iff.mpr c
        rw [e, c']
        simp
      · congr 1
        exact decide_eq_decide.mpr (by omega)
theorem gPWL_bit {v i : Nat} (hi : i < 32) : ∀ {k : Nat}, k ≤ 8 → gHb (gPWL S v k) (nI i) = (decide (i < k) && gHb (sI S 1 i) (nI v))
  | 0, _ => by
    rw [gPWL, gHb_zero hi]
    rfl
  | k + 1, hk => by
    rw [gPWL, gHb_wb hi (by omega), gPWL_bit hi (show k ≤ 8 by omega)]
    by_cases e : i = k
    · rw [if_pos e, e, decide_eq_true (show k < k + 1 by omega), Bool.true_and]
      cases c : gHb (sI S 1 k) (nI v)
      · decide
      · decide
    · rw [if_neg e]
      congr 1
      exact decide_eq_decide.mpr (by omega)
theorem gLs_all (h : gZp S) (h8 : sN S 1 ≤ 8) {v : Nat} (hv : v < 32) : gLs S v (sN S 1) = gPWL S v 8 := by
  apply gHb_ext
  intro i hi
  rw [gLs_bit hi h8, gPWL_bit hi (Nat.le_refl 8)]
  by_cases c : i < sN S 1
  · rw [decide_eq_true c, decide_eq_true (show i < 8 by omega)]
  · by_cases c2 : i < 8
    · rw [decide_eq_false c, decide_eq_true c2, h i (by omega) c2 1 (by decide), gHb_zero hv]
      rfl
    · rw [decide_eq_false c, decide_eq_false c2]
theorem gLost_all (h : gZp S) (h8 : sN S 1 ≤ 8) (hT : sN S 0 < 1000000000) : gCnt (fun j => decide (nI (sN S 0) < sI S 2 j)) (sN S 1) = gCnt (fun j => decide (nI (sN S 0) < sI S 2 j)) 8 := by
  refine (gCnt_ext h8 fun j a b => ?_).symm
  rw [h j a b 2 (by decide)]
  exact decide_eq_false (nI_pos (by omega))
theorem gTurn_ge {W : List Nat} {hf : Nat → Int32} {T : Nat} (h : W.length ≤ T) : gTurn W hf T = none := by
  cases e : gTurn W hf T with
  | none => rfl
  | some i =>
    have h1 := gTurn_lt e
    have h2 := gRank_lt (W := W) (hf := hf) h1.1
    omega
end
/-! letters that are put, one behind the other -/
def gPt : List Int32 → Int32 → Int32 → Int32 × Int32
  | [], w, l => (w, l)
  | c :: cs, w, l => gPt cs (w - 1) (if w = 0 then c else l)
theorem gPt_one {c w l : Int32} : gPt [c] w l = (w - 1, if w = 0 then c else l) := rfl
theorem gPt_app : ∀ (a b : List Int32) (w l : Int32), gPt (a ++ b) w l = gPt b (gPt a w l).1 (gPt a w l).2
  | [], _, _, _ => rfl
  | c :: cs, b, w, l => gPt_app cs b (w - 1) (if w = 0 then c else l)
/-- behind its place nothing more changes -/
theorem gPt_neg : ∀ (a : List Int32) (k : Nat) (l : Int32), 0 < k → k + a.length < 1000000 → (gPt a (-(nI k)) l).2 = l
  | [], _, _, _, _ => rfl
  | c :: cs, k, l, hk, hl => by
    have h0 : ¬ -(nI k) = 0 := by
      intro e
      have h1 : (-(nI k)).toInt = -(k : Int) := by rw [Int32.toInt_neg, nI_toInt (by omega), Int.bmod_eq_of_le (by omega) (by omega)]
      rw [e, show (0 : Int32).toInt = 0 by decide] at h1
      omega
    have e : -(nI k) - 1 = -(nI (k + 1)) := by
      rw [nI_add1, Int32.neg_add, Int32.sub_eq_add_neg]
    show (gPt cs (-(nI k) - 1) (if -(nI k) = 0 then c else l)).2 = l
    rw [if_neg h0, e]
    exact gPt_neg cs (k + 1) l (by omega) (by simp at hl; omega)
theorem gPt_get : ∀ (a : List Int32) (i : Nat) (l : Int32), i < 2147483648 → a.length < 1000 → (gPt a (nI i) l).2 = a.getD i l
  | [], _, _, _, _ => rfl
  | c :: cs, 0, l, _, hl => by
    show (gPt cs (nI 0 - 1) (if nI 0 = 0 then c else l)).2 = c
    rw [if_pos (show nI 0 = 0 from rfl), show nI 0 - 1 = -(nI 1) by decide]
    exact gPt_neg cs 1 c (by decide) (by simp at hl; omega)
  | c :: cs, i + 1, l, hi, hl => by
    have h0 : ¬ nI (i + 1) = 0 := by
      intro e
      have h1 := nI_toInt hi
      rw [e, show (0 : Int32).toInt = 0 by decide] at h1
      omega
    have e : nI (i + 1) - 1 = nI i := by rw [nI_add1, Int32.add_sub_cancel]
    show (gPt cs (nI (i + 1) - 1) (if nI (i + 1) = 0 then c else l)).2 = _
    rw [if_neg h0, e, gPt_get cs i l (by omega) (by simp at hl; omega)]
    rfl
theorem gDc_le (v : Nat) : 1 ≤ gDc v ∧ gDc v ≤ 5 := by
  unfold gDc
  repeat' split
  all_goals omega
theorem gTen_5 : ∀ d, d ≤ 5 → (gTen d).toInt = ((10 ^ d : Nat) : Int) := by
  intro d hd
  rcases (show d = 0 ∨ d = 1 ∨ d = 2 ∨ d = 3 ∨ d = 4 ∨ d = 5 by omega) with rfl | rfl | rfl | rfl | rfl | rfl <;> decide
theorem gLt_ten {v d : Nat} (hv : v < 100000) (hd : d ≤ 5) : (nI v).toInt64 < gTen d ↔ v < 10 ^ d := by
  rw [Int64.lt_iff_toInt_lt, gTen_5 d hd, Int32.toInt_toInt64, nI_toInt (by omega)]
  omega
theorem gDc_lt {v d : Nat} (hv : v < 100000) (h1 : 1 ≤ d) (hd : d ≤ gDc v) : v < 10 ^ d ↔ d = gDc v := by
  have e1 : (10 : Nat) ^ 1 = 10 := rfl
  have e2 : (10 : Nat) ^ 2 = 100 := rfl
  have e3 : (10 : Nat) ^ 3 = 1000 := rfl
  have e4 : (10 : Nat) ^ 4 = 10000 := rfl
  have e5 : (10 : Nat) ^ 5 = 100000 := rfl
  have hl := (gDc_le v).2
  unfold gDc at *
  rcases (show d = 1 ∨ d = 2 ∨ d = 3 ∨ d = 4 ∨ d = 5 by omega) with rfl | rfl | rfl | rfl | rfl
  · rw [e1]; repeat' split
    all_goals (first | omega | (split at hd <;> omega))
  · rw [e2]; repeat' split
    all_goals (first | omega | (split at hd <;> omega))
  · rw [e3]; repeat' split
    all_goals (first | omega | (split at hd <;> omega))
  · rw [e4]; repeat' split
    all_goals (first | omega | (split at hd <;> omega))
  · rw [e5]; repeat' split
    all_goals (first | omega | (split at hd <;> omega))
/-- a digit of a number, as the reference takes it -/
theorem gDig {v k : Nat} (hv : v < 100000) (hk : k ≤ 5) : (48 : Int32) + ((nI v).toInt64 / gTen k - (nI v).toInt64 / gTen k / 10 * 10).toInt32 = nI (48 + v / 10 ^ k % 10) := by
  have hle := Nat.div_le_self v (10 ^ k)
  have hq : (v : Int) / ((10 ^ k : Nat) : Int) = ((v / 10 ^ k : Nat) : Int) := (Int.natCast_ediv v (10 ^ k)).symm
  generalize v / 10 ^ k = y at hle hq
  have h1 : (nI v).toInt64 / gTen k = Int64.ofNat y := by
    apply Int64.toInt_inj.mp
    rw [Int64.toInt_div, gTen_5 k hk, Int32.toInt_toInt64, nI_toInt (by omega), Int64.toInt_ofNat_of_lt (by omega), Int.tdiv_eq_ediv_of_nonneg (by omega), hq, Int.bmod_eq_of_le (by omega) (by omega)]
  rw [h1]
  apply Int32.toInt_inj.mp
  have h0 : (Int64.ofNat y).toInt = (y : Int) := Int64.toInt_ofNat_of_lt (by omega)
  have h10 : (10 : Int64).toInt = 10 := by decide
  have h2 : (Int64.ofNat y / 10).toInt = ((y / 10 : Nat) : Int) := by
    rw [Int64.toInt_div, h0, h10, Int.tdiv_eq_ediv_of_nonneg (by omega), Int.bmod_eq_of_le (by omega) (by omega)]
    omega
  have h3 : (Int64.ofNat y / 10 * 10).toInt = ((y / 10 : Nat) : Int) * 10 := by
    rw [Int64.toInt_mul, h2, h10, Int.bmod_eq_of_le (by omega) (by omega)]
  have h4 : (Int64.ofNat y - Int64.ofNat y / 10 * 10).toInt = ((y % 10 : Nat) : Int) := by
    rw [Int64.toInt_sub, h0, h3, Int.bmod_eq_of_le (by omega) (by omega)]
    omega
  have h5 : (Int64.ofNat y - Int64.ofNat y / 10 * 10).toInt32.toInt = ((y % 10 : Nat) : Int) := by
    rw [Int64.toInt_toInt32, h4, Int.bmod_eq_of_le (by omega) (by omega)]
  rw [Int32.toInt_add, h5, show (48 : Int32).toInt = 48 by decide, nI_toInt (by omega), Int.bmod_eq_of_le (by omega) (by omega)]
  omega
theorem gTen_ne {d : Nat} (h : d ≤ 5) : ¬ gTen d = 0 := by
  rcases (show d = 0 ∨ d = 1 ∨ d = 2 ∨ d = 3 ∨ d = 4 ∨ d = 5 by omega) with rfl | rfl | rfl | rfl | rfl | rfl <;> decide
theorem gDk_len (v : Nat) : ∀ k, (gDk v k).length = k
  | 0 => rfl
  | k + 1 => by rw [gDk, List.length_cons, gDk_len v k]
theorem gDgs_len (v : Nat) : (gDgs v).length ≤ 5 := by
  unfold gDgs
  rw [gDk_len]
  exact (gDc_le v).2
theorem gLine_len (S : gSt) (k : Nat) : (gLine S k).length ≤ 60 := by
  have h0 := gDgs_len (bk (sB S) k 0)
  have h1 := gDgs_len (bk (sB S) k 1)
  have h2 := gDgs_len (bk (sB S) k 2)
  have h3 := gDgs_len (bk (sB S) k 3)
  have h4 := gDgs_len (bk (sB S) k 4)
  have h5 := gDgs_len (bk (sB S) k 5)
  unfold gLine
  split <;> split
  all_goals
    simp only [List.length_append, List.length_cons, List.length_nil]
    omega
