/-! ===== what holds of the answers: numbers, bits, lines ===== -/
theorem in64 {n l h : Nat} {lo hi : Int64} (el : lo = Int64.ofNat l) (eh : hi = Int64.ofNat h) (h1 : l ≤ n) (h2 : n ≤ h) (h3 : h < 2147483648) : ¬ (nI n).toInt64 < lo ∧ ¬ hi < (nI n).toInt64 := by
  rw [el, eh, gI64 n (by omega), Int64.lt_iff_toInt_lt, Int64.lt_iff_toInt_lt, Int64.toInt_ofNat_of_lt (by omega), Int64.toInt_ofNat_of_lt (by omega), Int64.toInt_ofNat_of_lt (by omega)]
  omega
theorem gLt64 {a b : Int32} : a.toInt64 < b.toInt64 ↔ a < b := by
  rw [Int64.lt_iff_toInt_lt, Int32.lt_iff_toInt_lt, Int32.toInt_toInt64, Int32.toInt_toInt64]
theorem in64i {x lo hi : Int32} {l h : Int64} (el : l = lo.toInt64) (eh : h = hi.toInt64) (h1 : ¬ x < lo) (h2 : ¬ hi < x) : ¬ x.toInt64 < l ∧ ¬ h < x.toInt64 := by
  rw [el, eh, gLt64, gLt64]
  exact ⟨h1, h2⟩
theorem gAcc (a : Nat) {b : Nat} (hb : b < 2147483648) : Int64.ofNat a + (nI b).toInt64 = Int64.ofNat (a + b) := by rw [gI64 b hb, ← Int64.ofNat_add]
theorem gAcc01 (a : Nat) (p : Bool) : Int64.ofNat a + (if p = true then 1 else 0) = Int64.ofNat (a + if p = true then 1 else 0) := by
  cases p
  · show Int64.ofNat a + Int64.ofNat 0 = _
    rw [← Int64.ofNat_add]
    rfl
  · show Int64.ofNat a + Int64.ofNat 1 = _
    rw [← Int64.ofNat_add]
    rfl
section
variable {A : gA} {p v k m : Nat}
theorem fAb_4 (h : sI (aS A) 8 0 = nI m) : fAbout A 4 = (0, nI m, A) := by
  rw [show fAbout A 4 = _ from fAbout_in (k := 4) rfl (by omega), ← h]
  rfl
theorem fAb_5 (h : sI (aS A) 8 1 = nI m) : fAbout A 5 = (0, nI m, A) := by
  rw [show fAbout A 5 = _ from fAbout_in (k := 5) rfl (by omega), ← h]
  rfl
theorem fAb_6 (h : sI (aS A) 8 2 = nI m) : fAbout A 6 = (0, nI m, A) := by
  rw [show fAbout A 6 = _ from fAbout_in (k := 6) rfl (by omega), ← h]
  rfl
theorem fAb_7 (h : sI (aS A) 8 3 = nI m) : fAbout A 7 = (0, nI m, A) := by
  rw [show fAbout A 7 = _ from fAbout_in (k := 7) rfl (by omega), ← h]
  rfl
theorem fAb_8 (h : sI (aS A) 8 4 = nI m) : fAbout A 8 = (0, nI m, A) := by
  rw [show fAbout A 8 = _ from fAbout_in (k := 8) rfl (by omega), ← h]
  rfl
theorem fAb_9 : fAbout A 9 = (0, nI (gCnt (fun j => decide (nI (sN (aS A) 0) < sI (aS A) 7 j)) 10), A) := fAbout_in (k := 9) rfl (by omega)
theorem fAb_10 : fAbout A 10 = (0, nI (gCnt (fun j => decide (nI (sN (aS A) 0) < sI (aS A) 2 j)) 8), A) := fAbout_in (k := 10) rfl (by omega)
theorem fPr_0 (h : p < sN (aS A) 1) (h8 : sN (aS A) 1 ≤ 8) : fPris A (nI p) 0 = (0, sI (aS A) 0 p, A) := fPris_in (k := 0) h h8 rfl (by omega)
theorem fPr_2 (h : p < sN (aS A) 1) (h8 : sN (aS A) 1 ≤ 8) : fPris A (nI p) 2 = (0, sI (aS A) 2 p, A) := fPris_in (k := 2) h h8 rfl (by omega)
theorem fPr_3 (h : p < sN (aS A) 1) (h8 : sN (aS A) 1 ≤ 8) (e : sI (aS A) 3 p = nI m) : fPris A (nI p) 3 = (0, nI m, A) := by
  rw [show fPris A (nI p) 3 = _ from fPris_in (k := 3) h h8 rfl (by omega), ← e]
  rfl
theorem fPr_4 (h : p < sN (aS A) 1) (h8 : sN (aS A) 1 ≤ 8) (e : sI (aS A) 4 p = nI m) : fPris A (nI p) 4 = (0, nI (gCW (sB (aS A)) p (sN (aS A) 0 / 7) + m), A) := by
  rw [show fPris A (nI p) 4 = _ from fPris_in (k := 4) h h8 rfl (by omega), ← nI_add, ← e]
  rfl
theorem fPr_5 (h : p < sN (aS A) 1) (h8 : sN (aS A) 1 ≤ 8) : fPris A (nI p) 5 = (0, nI (gCnt (fun k => bk (sB (aS A)) k 3 == p) (sB (aS A)).length), A) := fPris_in (k := 5) h h8 rfl (by omega)
theorem fPr_6 (h : p < sN (aS A) 1) (h8 : sN (aS A) 1 ≤ 8) : fPris A (nI p) 6 = (0, nI (gCnt (fun i => wq (sW (aS A)) i / 10 == p) (sW (aS A)).length), A) := fPris_in (k := 6) h h8 rfl (by omega)
theorem fPr_7 (h : p < sN (aS A) 1) (h8 : sN (aS A) 1 ≤ 8) : fPris A (nI p) 7 = (0, sI (aS A) 5 p, A) := fPris_in (k := 7) h h8 rfl (by omega)
theorem fVi_0 (h : v < 10) : fVisr A (nI v) 0 = (0, sI (aS A) 6 v, A) := fVisr_in (k := 0) h rfl (by omega)
theorem fVi_1 (h : v < 10) : fVisr A (nI v) 1 = (0, sI (aS A) 7 v, A) := fVisr_in (k := 1) h rfl (by omega)
theorem fVi_2 (h : v < 10) : fVisr A (nI v) 2 = (0, if gHb (sI (aS A) 9 0) (nI v) = true then 1 else 0, A) := fVisr_in (k := 2) h rfl (by omega)
theorem fVi_3 (h : v < 10) : fVisr A (nI v) 3 = (0, nI (gCnt (fun k => bk (sB (aS A)) k 4 == v) (sB (aS A)).length), A) := fVisr_in (k := 3) h rfl (by omega)
theorem fVi_4 (h : v < 10) : fVisr A (nI v) 4 = (0, gPWL (aS A) v 8, A) := fVisr_in (k := 4) h rfl (by omega)
theorem fLine_in {j : Nat} (h : k < (sB (aS A)).length) (hn : (sB (aS A)).length ≤ 24) (hj : j < 1000000) : fLine A (nI k) (nI j) = (0, (gLine (aS A) k).getD j (-1), A) := by
  unfold fLine
  rw [if_pos (gIn_lt h (by omega)), if_neg (nI_pos (by omega)), nI_clamp (by omega), nI_clamp (by omega)]
end
/-! bits -/
theorem gBitV (x : Int32) {v : Nat} (hv : v < 32) : ((x.toInt64 >>> ((nI v).toInt64 &&& 63)) &&& 1) = if gHb x (nI v) = true then 1 else 0 := by
  rw [gBit64 x hv, gHb_bit x hv]
theorem gTop1023 {x : Int32} (h : ∀ i, 10 ≤ i → i < 32 → gHb x (nI i) = false) : ¬ (1023 : Int32) < x := by
  have h1 : x.toBitVec.toNat < 2 ^ 10 := by
    apply Nat.lt_pow_two_of_testBit
    intro i hi
    by_cases c : i < 32
    · have := h i hi c
      rw [gHb_bit x c] at this
      exact this
    · exact Nat.testBit_lt_two_pow (Nat.lt_of_lt_of_le x.toBitVec.isLt (Nat.pow_le_pow_right (by decide) (by omega)))
  have h2 : x = nI x.toBitVec.toNat := by
    apply Int32.toBitVec_inj.mp
    apply BitVec.eq_of_toNat_eq
    show _ = (BitVec.ofNat 32 x.toBitVec.toNat).toNat
    rw [BitVec.toNat_ofNat, Nat.mod_eq_of_lt (by omega)]
  intro c
  rw [h2] at c
  have := (nI_ltI (a := 1023) (by omega) (by omega)).mp c
  omega
/-! sums over the prisoners -/
theorem gCnt_sum {g : Nat → Nat} {N : Nat} : ∀ {n : Nat}, (∀ k, k < n → g k < N) → gSum (fun p => gCnt (fun k => g k == p) n) N = n
  | 0, _ => by
    have h : ∀ N : Nat, gSum (fun p => gCnt (fun k => g k == p) 0) N = 0 := by
      intro N
      induction N with
      | zero => rfl
      | succ N ih => rw [gSum, ih]; rfl
    exact h N
  | n + 1, h => by
    have h1 : ∀ M : Nat, gSum (fun p => gCnt (fun k => g k == p) (n + 1)) M = gSum (fun p => gCnt (fun k => g k == p) n) M + if g n < M then 1 else 0 := by
      intro M
      induction M with
      | zero => rw [if_neg (Nat.not_lt_zero _)]; rfl
      | succ M ih =>
        rw [gSum, gSum, ih]
        show _ + (gCnt (fun k => g k == M) n + if (g n == M) = true then 1 else 0) = _
        by_cases c : g n = M
        · rw [if_neg (by omega), if_pos (by rw [c]; exact beq_self_eq_true M), if_pos (by omega)]
          omega
        · have c2 : ¬ (g n == M) = true := by
            intro q
            exact c (eq_of_beq q)
          rw [if_neg c2]
          by_cases d : g n < M
          · rw [if_pos d, if_pos (by omega)]
            omega
          · rw [if_neg d, if_neg (by omega)]
            omega
    rw [h1, gCnt_sum (fun k hk => h k (by omega)), if_pos (h n (by omega))]
theorem gSum_ext {f : Nat → Nat} {m : Nat} : ∀ {n : Nat}, m ≤ n → (∀ k, m ≤ k → k < n → f k = 0) → gSum f n = gSum f m
  | 0, h, _ => by
    obtain rfl : m = 0 := by omega
    rfl
  | n + 1, h, hf => by
    by_cases c : m = n + 1
    · rw [c]
    · rw [gSum, hf n (by omega) (by omega), gSum_ext (by omega) (fun k a b => hf k a (by omega))]
      rfl
theorem gSum_bd {f : Nat → Nat} {B : Nat} : ∀ {n : Nat}, (∀ k, k < n → f k ≤ B) → gSum f n ≤ n * B
  | 0, _ => Nat.zero_le _
  | n + 1, h => by
    have := gSum_bd (f := f) (B := B) (n := n) (fun k hk => h k (by omega))
    have := h n (by omega)
    rw [gSum, Nat.succ_mul]
    omega
/-! the order of the bookings in time -/
theorem gTime_lt {a b : Nat → Nat} (h : gKlt (b 0) (b 1) (b 2) a = true) (h1 : a 1 < 8) (h2 : a 2 < 4) : 32 * a 0 + 4 * a 1 + a 2 < 32 * b 0 + 4 * b 1 + b 2 := by
  simp only [gKlt, Bool.or_eq_true, Bool.and_eq_true, decide_eq_true_eq] at h
  omega
theorem gTime64 {d h t : Nat} (hd : d < 1000000) (hh : h < 1000000) (ht : t < 1000000) : 32 * (nI d).toInt64 + 4 * (nI h).toInt64 + (nI t).toInt64 = Int64.ofNat (32 * d + 4 * h + t) := by
  rw [gI64 d (by omega), gI64 h (by omega), gI64 t (by omega), show (32 : Int64) = Int64.ofNat 32 from rfl, show (4 : Int64) = Int64.ofNat 4 from rfl, ← Int64.ofNat_mul, ← Int64.ofNat_mul, ← Int64.ofNat_add, ← Int64.ofNat_add]
theorem ofNat_lt64 {a b : Nat} (ha : a < 4611686018427387904) (hb : b < 4611686018427387904) : Int64.ofNat a < Int64.ofNat b ↔ a < b := by
  rw [Int64.lt_iff_toInt_lt, Int64.toInt_ofNat_of_lt (by omega), Int64.toInt_ofNat_of_lt (by omega)]
  omega
/-! the line of a booking -/
def gDigQ (x : Int32) : Prop := ¬ x.toInt64 < 48 ∧ ¬ 57 < x.toInt64
theorem digQ_yes {e : Nat} (h : e ≤ 9) : gDigQ (nI (48 + e)) := in64 (l := 48) (h := 57) rfl rfl (by omega) (by omega) (by omega)
theorem digQ_no {x : Int32} (h : x = 100 ∨ x = 33 ∨ x = -1 ∨ x = 43) : ¬ gDigQ x := by
  unfold gDigQ
  rcases h with h | h | h | h <;> rw [h] <;> decide
theorem gDgs_1 {v : Nat} (h : v < 10) : gDgs v = [nI (48 + v)] := by
  have e : gDc v = 1 := if_pos h
  unfold gDgs
  rw [e, gDk, gDk, Nat.pow_zero, Nat.div_one, Nat.mod_eq_of_lt h]
theorem gDk_at (v : Nat) {k i : Nat} (h : i < k) (R : List Int32) : (gDk v k ++ R).getD i (-1) = nI (48 + v / 10 ^ (k - 1 - i) % 10) := by
  have h1 := gDk_get v k i h
  rw [List.getD_eq_getElem?_getD] at h1 ⊢
  rw [List.getElem?_append_left (by rw [gDk_len]; exact h)]
  rw [List.getElem?_eq_getElem (by rw [gDk_len]; exact h)] at h1 ⊢
  exact h1
theorem gDk_beh (v k i : Nat) (R : List Int32) : (gDk v k ++ R).getD (k + i) (-1) = R.getD i (-1) := by
  rw [List.getD_eq_getElem?_getD, List.getD_eq_getElem?_getD, List.getElem?_append_right (by rw [gDk_len]; omega), gDk_len, Nat.add_sub_cancel_left]
section
variable {S : gSt} {k : Nat}
/-- what stands behind the day -/
def gLt1 (S : gSt) (k : Nat) : List Int32 := (if 0 < bk (sB S) k 5 then 43 :: gDgs (bk (sB S) k 5) else []) ++ (if (nI (bk (sB S) k 0) < sI S 2 (bk (sB S) k 3) ∨ nI (bk (sB S) k 0) < sI S 7 (bk (sB S) k 4)) then [33] else [])
theorem gLine_eq (h1 : bk (sB S) k 1 < 10) (h2 : bk (sB S) k 2 < 10) (h3 : bk (sB S) k 3 < 10) (h4 : bk (sB S) k 4 < 10) : gLine S k = gDk (bk (sB S) k 0) (gDc (bk (sB S) k 0)) ++ ([100, nI (48 + bk (sB S) k 1), 104, nI (48 + bk (sB S) k 2), 32, 112, nI (48 + bk (sB S) k 3), 32, 118, nI (48 + bk (sB S) k 4)] ++ gLt1 S k) := by
  unfold gLine gLt1
  rw [gDgs_1 h1, gDgs_1 h2, gDgs_1 h3, gDgs_1 h4]
  unfold gDgs
  simp only [List.append_assoc, List.cons_append, List.nil_append]
theorem gLn_d (h1 : bk (sB S) k 1 < 10) (h2 : bk (sB S) k 2 < 10) (h3 : bk (sB S) k 3 < 10) (h4 : bk (sB S) k 4 < 10) {j : Nat} (hj : j < gDc (bk (sB S) k 0)) : (gLine S k).getD j (-1) = nI (48 + bk (sB S) k 0 / 10 ^ (gDc (bk (sB S) k 0) - 1 - j) % 10) := by
  rw [gLine_eq h1 h2 h3 h4]
  exact gDk_at _ hj _
theorem gLn_c (h1 : bk (sB S) k 1 < 10) (h2 : bk (sB S) k 2 < 10) (h3 : bk (sB S) k 3 < 10) (h4 : bk (sB S) k 4 < 10) {i : Nat} (hi : i < 10) : (gLine S k).getD (gDc (bk (sB S) k 0) + i) (-1) = ([100, nI (48 + bk (sB S) k 1), 104, nI (48 + bk (sB S) k 2), 32, 112, nI (48 + bk (sB S) k 3), 32, 118, nI (48 + bk (sB S) k 4)] : List Int32).getD i (-1) := by
  rw [gLine_eq h1 h2 h3 h4, gDk_beh, List.getD_eq_getElem?_getD, List.getD_eq_getElem?_getD, List.getElem?_append_left hi]
theorem gLn_t (h1 : bk (sB S) k 1 < 10) (h2 : bk (sB S) k 2 < 10) (h3 : bk (sB S) k 3 < 10) (h4 : bk (sB S) k 4 < 10) (i : Nat) : (gLine S k).getD (gDc (bk (sB S) k 0) + 10 + i) (-1) = (gLt1 S k).getD i (-1) := by
  rw [gLine_eq h1 h2 h3 h4, Nat.add_assoc, gDk_beh, List.getD_eq_getElem?_getD, List.getD_eq_getElem?_getD, List.getElem?_append_right (by show 10 ≤ 10 + i; omega)]
  show ((gLt1 S k)[10 + i - 10]?).getD (-1) = _
  rw [Nat.add_sub_cancel_left]
/-- the sign of a booking that will not be held -/
def gNot (S : gSt) (k : Nat) : Prop := nI (bk (sB S) k 0) < sI S 2 (bk (sB S) k 3) ∨ nI (bk (sB S) k 0) < sI S 7 (bk (sB S) k 4)
theorem gLt1_a (h : 0 < bk (sB S) k 5) (i : Nat) : (gLt1 S k).getD (1 + i) (-1) = (gDk (bk (sB S) k 5) (gDc (bk (sB S) k 5)) ++ (if (nI (bk (sB S) k 0) < sI S 2 (bk (sB S) k 3) ∨ nI (bk (sB S) k 0) < sI S 7 (bk (sB S) k 4)) then [33] else [])).getD i (-1) := by
  unfold gLt1
  rw [if_pos h, Nat.add_comm 1 i]
  rfl
theorem gLt1_p (h : 0 < bk (sB S) k 5) : (gLt1 S k).getD 0 (-1) = 43 := by
  unfold gLt1
  rw [if_pos h]
  rfl
theorem gLt1_n (h : ¬ 0 < bk (sB S) k 5) : gLt1 S k = (if (nI (bk (sB S) k 0) < sI S 2 (bk (sB S) k 3) ∨ nI (bk (sB S) k 0) < sI S 7 (bk (sB S) k 4)) then [33] else []) := by
  unfold gLt1
  rw [if_neg h]
  rfl
end
/-- digits put together -/
theorem gPut10 {v D j : Nat} (hj : j < D) : 10 * (v / 10 ^ (D - j)) + v / 10 ^ (D - 1 - j) % 10 = v / 10 ^ (D - (j + 1)) := by
  have e : D - j = (D - 1 - j) + 1 := by omega
  rw [e, show D - (j + 1) = D - 1 - j by omega, Nat.pow_succ, ← Nat.div_div_eq_div_mul]
  omega
theorem gNum64 {a c : Nat} (ha : a < 100000) (hc : c ≤ 9) : 10 * Int64.ofNat a + (nI (48 + c)).toInt64 - 48 = Int64.ofNat (10 * a + c) := by
  rw [gI64 (48 + c) (by omega), show (10 : Int64) = Int64.ofNat 10 from rfl, ← Int64.ofNat_mul, ← Int64.ofNat_add]
  apply Int64.toInt_inj.mp
  have e1 : Int64.ofNat (10 * a + (48 + c)) = Int64.ofNat (10 * a + c) + 48 := by
    rw [show (48 : Int64) = Int64.ofNat 48 from rfl, ← Int64.ofNat_add]
    congr 1
    omega
  rw [e1, Int64.add_sub_cancel]
theorem gDc_pow {v : Nat} (hv : v < 100000) : v / 10 ^ gDc v = 0 := by
  have h := (gDc_lt hv (gDc_le v).1 (Nat.le_refl _)).mpr rfl
  exact Nat.div_eq_of_lt h
/-! the wishes in their turn -/
theorem gWv_at {S : gSt} {k i : Nat} (h : gTurn (sW S) (sI S 3) k = some i) : gWv S k = nI (wq (sW S) i) := by
  unfold gWv
  rw [h]
theorem gWv_no {S : gSt} {k : Nat} (h : (sW S).length ≤ k) : gWv S k = -1 := by
  unfold gWv
  cases e : gTurn (sW S) (sI S 3) k with
  | none => rfl
  | some i =>
    have h1 := gTurn_lt e
    have h2 := gRank_lt (hf := sI S 3) h1.1
    omega
theorem gTurn_le {W : List Nat} {hf : Nat → Int32} {k i j : Nat} (hi : gTurn W hf k = some i) (hj : gTurn W hf (k + 1) = some j) : ¬ hf (wq W j / 10) < hf (wq W i / 10) := by
  intro c
  have h1 := gTurn_lt hi
  have h2 := gTurn_lt hj
  have h3 : gRk W hf i j = true := by
    unfold gRk
    rw [decide_eq_true c]
    rfl
  have h4 := gRank_mono h2.1 h3
  omega
theorem gNn0 {n : Nat} (h : n < 2147483648) : ¬ lg_cmp (nI n).toInt64 0 < 0 := by
  rw [gCmp_lt, gI64 n h, show (0 : Int64) = Int64.ofNat 0 from rfl, ofNat_lt64 (by omega) (by decide)]
  omega
theorem gCmp_nlt {x y : Int64} (h : ¬ x < y) : ¬ lg_cmp x y < 0 := fun c => h (gCmp_lt.mp c)
theorem gCmp_nge {x y : Int64} (h : x < y) : ¬ 0 ≤ lg_cmp x y := fun c => absurd (gCmp_lt.mpr h) (Int32.not_lt.mpr c)
theorem gCmp_ge {x y : Int64} (h : 0 ≤ lg_cmp x y) : ¬ x < y := fun c => gCmp_nge c h
theorem gCmp_ngt {x y : Int64} (h : ¬ y < x) : ¬ 0 < lg_cmp x y := fun c => h (gCmp_gt.mp c)
theorem gNlt64 {a b : Nat} (ha : a < 2147483648) (hb : b < 2147483648) : (nI a).toInt64 < (nI b).toInt64 ↔ a < b := by
  rw [gI64 a ha, gI64 b hb, ofNat_lt64 (by omega) (by omega)]
theorem gNeq64 {a b : Nat} (ha : a < 2147483648) (hb : b < 2147483648) : (nI a).toInt64 = (nI b).toInt64 ↔ a = b := by
  constructor
  · intro h
    have h1 : ¬ a < b := fun c => by
      have := (gNlt64 ha hb).mpr c
      rw [h] at this
      exact Int64.lt_irrefl this
    have h2 : ¬ b < a := fun c => by
      have := (gNlt64 hb ha).mpr c
      rw [h] at this
      exact Int64.lt_irrefl this
    omega
  · intro h
    rw [h]
theorem gSt8 {a : Nat} {S : gSt} (h : gZp S) (h8 : sN S 1 ≤ 8) {f : Nat → Nat} (hf : ∀ p, p < 8 → sI S 3 p = nI (f p)) (hb : ∀ p, p < 8 → f p < 2147483648) (ha : gSum f 8 = a) : gSum f (sN S 1) = a := by
  rw [← ha]
  refine (gSum_ext h8 fun k h1 h2 => ?_).symm
  have e := h k h1 h2 3 (by decide)
  rw [hf k h2] at e
  have := congrArg Int32.toInt e
  rw [nI_toInt (hb k h2), show (0 : Int32).toInt = 0 by decide] at this
  omega
section
variable {S : gSt} {k : Nat}
theorem gLate_iff (h1 : bk (sB S) k 1 < 10) (h2 : bk (sB S) k 2 < 10) (h3 : bk (sB S) k 3 < 10) (h4 : bk (sB S) k 4 < 10) : lg_cmp ((gLine S k).getD (gDc (bk (sB S) k 0) + 10) (-1)).toInt64 43 = 0 ↔ 0 < bk (sB S) k 5 := by
  have e := gLn_t h1 h2 h3 h4 0
  rw [Nat.add_zero] at e
  rw [e]
  by_cases c : 0 < bk (sB S) k 5
  · rw [gLt1_p c]
    exact ⟨fun _ => c, fun _ => gCmp_eq.mpr rfl⟩
  · rw [gLt1_n c]
    refine ⟨fun q => ?_, fun q => absurd q c⟩
    exfalso
    have q1 := gCmp_eq.mp q
    revert q1
    split <;> decide
/-- behind the minutes -/
theorem gLn_e (h1 : bk (sB S) k 1 < 10) (h2 : bk (sB S) k 2 < 10) (h3 : bk (sB S) k 3 < 10) (h4 : bk (sB S) k 4 < 10) (hm : 0 < bk (sB S) k 5) (i : Nat) : (gLine S k).getD (gDc (bk (sB S) k 0) + 11 + (gDc (bk (sB S) k 5) + i)) (-1) = (if (nI (bk (sB S) k 0) < sI S 2 (bk (sB S) k 3) ∨ nI (bk (sB S) k 0) < sI S 7 (bk (sB S) k 4)) then [33] else [] : List Int32).getD i (-1) := by
  have e := gLn_t h1 h2 h3 h4 (1 + (gDc (bk (sB S) k 5) + i))
  rw [gLt1_a hm, gDk_beh] at e
  rw [show gDc (bk (sB S) k 0) + 11 + (gDc (bk (sB S) k 5) + i) = gDc (bk (sB S) k 0) + 10 + (1 + (gDc (bk (sB S) k 5) + i)) by omega]
  exact e
theorem gLn_m (h1 : bk (sB S) k 1 < 10) (h2 : bk (sB S) k 2 < 10) (h3 : bk (sB S) k 3 < 10) (h4 : bk (sB S) k 4 < 10) (hm : 0 < bk (sB S) k 5) {j : Nat} (hj : j < gDc (bk (sB S) k 5)) : (gLine S k).getD (gDc (bk (sB S) k 0) + 11 + j) (-1) = nI (48 + bk (sB S) k 5 / 10 ^ (gDc (bk (sB S) k 5) - 1 - j) % 10) := by
  have e := gLn_t h1 h2 h3 h4 (1 + j)
  rw [gLt1_a hm, gDk_at _ hj] at e
  rw [show gDc (bk (sB S) k 0) + 11 + j = gDc (bk (sB S) k 0) + 10 + (1 + j) by omega]
  exact e
theorem gLn_0 (h1 : bk (sB S) k 1 < 10) (h2 : bk (sB S) k 2 < 10) (h3 : bk (sB S) k 3 < 10) (h4 : bk (sB S) k 4 < 10) (hm : ¬ 0 < bk (sB S) k 5) (i : Nat) : (gLine S k).getD (gDc (bk (sB S) k 0) + 10 + i) (-1) = (if (nI (bk (sB S) k 0) < sI S 2 (bk (sB S) k 3) ∨ nI (bk (sB S) k 0) < sI S 7 (bk (sB S) k 4)) then [33] else [] : List Int32).getD i (-1) := by
  rw [gLn_t h1 h2 h3 h4 i, gLt1_n hm]
end
theorem gLn_c0 {S : gSt} {k : Nat} (h1 : bk (sB S) k 1 < 10) (h2 : bk (sB S) k 2 < 10) (h3 : bk (sB S) k 3 < 10) (h4 : bk (sB S) k 4 < 10) : (gLine S k).getD (gDc (bk (sB S) k 0)) (-1) = 100 := gLn_c h1 h2 h3 h4 (i := 0) (by decide)
theorem gLn_e0 {S : gSt} {k : Nat} (h1 : bk (sB S) k 1 < 10) (h2 : bk (sB S) k 2 < 10) (h3 : bk (sB S) k 3 < 10) (h4 : bk (sB S) k 4 < 10) (hm : 0 < bk (sB S) k 5) : (gLine S k).getD (gDc (bk (sB S) k 0) + 11 + gDc (bk (sB S) k 5)) (-1) = (if (nI (bk (sB S) k 0) < sI S 2 (bk (sB S) k 3) ∨ nI (bk (sB S) k 0) < sI S 7 (bk (sB S) k 4)) then [33] else [] : List Int32).getD 0 (-1) := gLn_e h1 h2 h3 h4 hm 0
theorem gEndc {p : Prop} [Decidable p] (i : Nat) : ¬ gDigQ ((if p then [33] else [] : List Int32).getD i (-1)) := by
  by_cases c : p
  · rw [if_pos c]
    cases i with
    | zero => exact digQ_no (Or.inr (Or.inl rfl))
    | succ i => exact digQ_no (Or.inr (Or.inr (Or.inl (by cases i <;> rfl))))
  · rw [if_neg c]
    exact digQ_no (Or.inr (Or.inr (Or.inl (by cases i <;> rfl))))
theorem fWish_at {A : gA} {k i : Nat} (hk : k < 1000000) (h : gTurn (sW (aS A)) (sI (aS A) 3) k = some i) : fWish A (nI k) = (0, nI (wq (sW (aS A)) i), A) := by
  rw [fWish_in (k := k) rfl hk, gWv_at h]
theorem fWish_no {A : gA} {k : Nat} (hk : k < 1000000) (h : (sW (aS A)).length ≤ k) : fWish A (nI k) = (0, -1, A) := by
  rw [fWish_in (k := k) rfl hk, gWv_no h]
theorem g48 {n : Nat} (h : n < 1000000) : 48 + (nI n).toInt64 = (nI (48 + n)).toInt64 := by
  rw [gI64 n (by omega), gI64 (48 + n) (by omega), show (48 : Int64) = Int64.ofNat 48 from rfl, ← Int64.ofNat_add]
theorem gLe0 {n : Nat} (h : n = 0) : lg_cmp (nI n).toInt64 0 ≤ 0 := by
  rw [h]
  decide
