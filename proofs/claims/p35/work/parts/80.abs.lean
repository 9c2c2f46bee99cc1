/-! ===== the whole object, as both sides have it: text, state, remembered states, slots ===== -/
abbrev gA := (Nat × (Nat → Int32)) × gSt × (Nat × (Nat → gSt)) × (Nat → Option gSt)
abbrev aN (A : gA) : Nat := A.1.1
abbrev aG (A : gA) : Nat → Int32 := A.1.2
abbrev aS (A : gA) : gSt := A.2.1
abbrev aC (A : gA) : Nat := A.2.2.1.1
abbrev aH (A : gA) : Nat → gSt := A.2.2.1.2
abbrev aL (A : gA) : Nat → Option gSt := A.2.2.2
def gHc (c : Nat) : Nat := if c = 14 then 14 else c + 1
def gHh (c : Nat) (H : Nat → gSt) (S : gSt) : Nat → gSt := fun k => if c = 14 then (if k < 13 then H (k + 1) else S) else (if k = c then S else H k)
/-- an action is remembered -/
def aRem (A : gA) (T : gSt) : gA := (A.1, T, (gHc (aC A), gHh (aC A) (aH A) (aS A)), aL A)
/-- an action: which exception for an answer of -1, -2, -3 -/
def aAct (e1 e2 e3 : Nat) (A : gA) (t : Int32 × gSt) : Nat × Int32 × gA := if t.1 = -1 then (e1, 0, A) else if t.1 = -2 then (e2, 0, A) else if t.1 = -3 then (e3, 0, A) else (0, t.1, aRem A t.2)
theorem aAct_1 {e1 e2 e3 : Nat} {A : gA} {t : Int32 × gSt} (h : t.1 = -1) : aAct e1 e2 e3 A t = (e1, 0, A) := by unfold aAct; rw [if_pos h]
theorem aAct_2 {e1 e2 e3 : Nat} {A : gA} {t : Int32 × gSt} (h : t.1 = -2) : aAct e1 e2 e3 A t = (e2, 0, A) := by unfold aAct; rw [h, if_neg (by decide), if_pos rfl]
theorem aAct_3 {e1 e2 e3 : Nat} {A : gA} {t : Int32 × gSt} (h : t.1 = -3) : aAct e1 e2 e3 A t = (e3, 0, A) := by unfold aAct; rw [h, if_neg (by decide), if_neg (by decide), if_pos rfl]
theorem aAct_0 {e1 e2 e3 : Nat} {A : gA} {t : Int32 × gSt} {v : Int32} {T : gSt} (h : t = (v, T)) (hv : ¬ v < 0) : aAct e1 e2 e3 A t = (0, v, aRem A T) := by
  have h1 : ∀ y : Int32, y < 0 → ¬ v = y := fun y hy e => hv (by rw [e]; exact hy)
  unfold aAct
  rw [h]
  show (if v = -1 then _ else if v = -2 then _ else if v = -3 then _ else _) = _
  rw [if_neg (h1 _ (by decide)), if_neg (h1 _ (by decide)), if_neg (h1 _ (by decide))]
abbrev gRu := (Nat → Int32) × (Nat → Int32) × (Nat → Int32) × (Nat → Int32) × (Nat → Int32) × (Nat → Int32) × (Nat → Int32) × (Nat → Int32) × (Nat → Int32)
/-- what is asked of a state: no marks; day -/
def gMz (S : gSt) : Prop := ∀ k, k < (sB S).length → bk (sB S) k 6 = 0
def gOk (b : Nat) (S : gSt) : Prop := gI3 S ∧ gMz S ∧ sN S 0 ≤ b
def gHok (b c : Nat) (H : Nat → gSt) : Prop := ∀ k, k < c → gOk b (H k)
def gSok (b : Nat) (sl : Nat → Option gSt) : Prop := ∀ i, i < 2 → ∀ T, sl i = some T → gOk b T
/-! what the calls give -/
def aEI (n : Nat) (sg : Nat → Int32) : Int32 := (gEI 120 n sg 0 0 (fun _ => 0)).1
def aLd (n : Nat) (sg : Nat → Int32) : gSt × Nat := gLoad 120 n sg 0 0 (fun _ => 0) gSt0 0
def fAppend (A : gA) (c : Int32) : Nat × Int32 × gA := if (¬ c < 0 ∧ ¬ 255 < c) then (if aN A = 120 then (2, 0, A) else (0, nI (aN A + 1), ((aN A + 1, upd (aG A) (aN A) c), A.2))) else (1, 0, A)
def fClear (A : gA) : Nat × Int32 × gA := (0, nI (aN A), ((0, aG A), A.2))
def fError (A : gA) : Nat × Int32 × gA := (0, aEI (aN A) (aG A), A)
def fLoad (A : gA) : Nat × Int32 × gA := if aEI (aN A) (aG A) = -1 then (0, nI (aLd (aN A) (aG A)).2, (A.1, (aLd (aN A) (aG A)).1, (0, aH A), fun _ => none)) else (1, 0, A)
def fAbout (A : gA) (w : Int32) : Nat × Int32 × gA := if (¬ w < 0 ∧ ¬ 10 < w) then (0, gNA (aS A) w.toNatClampNeg, A) else (1, 0, A)
def fPris (A : gA) (p w : Int32) : Nat × Int32 × gA := if (¬ p < 0 ∧ ¬ nI (sN (aS A) 1) ≤ p) then (if (¬ w < 0 ∧ ¬ 7 < w) then (0, gNP (aS A) p.toNatClampNeg w.toNatClampNeg, A) else (2, 0, A)) else (1, 0, A)
def fVisr (A : gA) (v w : Int32) : Nat × Int32 × gA := if (¬ v < 0 ∧ ¬ 10 ≤ v) then (if (¬ w < 0 ∧ ¬ 4 < w) then (0, gNV (aS A) v.toNatClampNeg w.toNatClampNeg, A) else (2, 0, A)) else (1, 0, A)
def fBkng (A : gA) (k w : Int32) : Nat × Int32 × gA := if (¬ k < 0 ∧ ¬ nI (sB (aS A)).length ≤ k) then (if (¬ w < 0 ∧ ¬ 5 < w) then (0, nI (bk (sB (aS A)) k.toNatClampNeg w.toNatClampNeg), A) else (2, 0, A)) else (1, 0, A)
/-- the digits of a number, the line of a booking -/
def gDk (v : Nat) : Nat → List Int32
  | 0 => []
  | k + 1 => nI (48 + v / 10 ^ k % 10) :: gDk v k
def gDc (v : Nat) : Nat := if v < 10 then 1 else if v < 100 then 2 else if v < 1000 then 3 else if v < 10000 then 4 else 5
def gDgs (v : Nat) : List Int32 := gDk v (gDc v)
def gLine (S : gSt) (k : Nat) : List Int32 := gDgs (bk (sB S) k 0) ++ [100] ++ gDgs (bk (sB S) k 1) ++ [104] ++ gDgs (bk (sB S) k 2) ++ [32, 112] ++ gDgs (bk (sB S) k 3) ++ [32, 118] ++ gDgs (bk (sB S) k 4) ++ (if 0 < bk (sB S) k 5 then [43] ++ gDgs (bk (sB S) k 5) else []) ++
  (if (nI (bk (sB S) k 0) < sI S 2 (bk (sB S) k 3) ∨ nI (bk (sB S) k 0) < sI S 7 (bk (sB S) k 4)) then [33] else [])
def fLine (A : gA) (k i : Int32) : Nat × Int32 × gA := if (¬ k < 0 ∧ ¬ nI (sB (aS A)).length ≤ k) then (if i < 0 then (2, 0, A) else (0, (gLine (aS A) k.toNatClampNeg).getD i.toNatClampNeg (-1), A)) else (1, 0, A)
def fWish (A : gA) (k : Int32) : Nat × Int32 × gA := if k < 0 then (1, 0, A) else (0, (match gTurn (sW (aS A)) (sI (aS A) 3) k.toNatClampNeg with | none => -1 | some i => nI (wq (sW (aS A)) i)), A)
def fSett (A : gA) (w : Int32) : Nat × Int32 × gA := if (¬ w < 0 ∧ ¬ 6 ≤ w) then (0, nI (sS (aS A) w.toNatClampNeg), A) else (1, 0, A)
def fRun (A : gA) (n : Int32) : Nat × Int32 × gA := if (¬ n < 1 ∧ ¬ 30 < n) then aAct 0 0 0 A (sI (gDays n.toNatClampNeg (aS A)) 8 0 - sI (aS A) 8 0, gDays n.toNatClampNeg (aS A)) else (1, 0, A)
def fUndo (A : gA) : Nat × Int32 × gA := if aC A = 0 then (1, 0, A) else (0, nI (aC A - 1), (A.1, aH A (aC A - 1), (aC A - 1, aH A), aL A))
def fWhy (A : gA) (p v d h : Int32) : Nat × Int32 × gA := if ((¬ p < 0 ∧ ¬ nI (sN (aS A) 1) ≤ p) ∧ (¬ v < 0 ∧ ¬ 10 ≤ v)) then (if (¬ d < nI (sN (aS A) 0) ∧ ¬ 9999 < d ∧ ¬ h < 0 ∧ ¬ 8 ≤ h) then (0, nI (gRA (aS A) p.toNatClampNeg v.toNatClampNeg d.toNatClampNeg h.toNatClampNeg), A) else (2, 0, A)) else (1, 0, A)
def fFirst (A : gA) (p v : Int32) : Nat × Int32 × gA := if ((¬ p < 0 ∧ ¬ nI (sN (aS A) 1) ≤ p) ∧ (¬ v < 0 ∧ ¬ 10 ≤ v)) then (0, gOptI (gEar (aS A) p.toNatClampNeg v.toNatClampNeg 60), A) else (1, 0, A)
def fComing (A : gA) (n w : Int32) : Nat × Int32 × gA := if (¬ n < 1 ∧ ¬ 60 < n) then (if (¬ w < 0 ∧ ¬ 4 < w) then (0, (if w = 4 then nI (sW (gDays n.toNatClampNeg (aS A))).length else sI (gDays n.toNatClampNeg (aS A)) 8 w.toNatClampNeg - sI (aS A) 8 w.toNatClampNeg), A) else (1, 0, A)) else (1, 0, A)
/-- a booking is marked -/
def gM1 (b : Nat → Nat) : Nat → Nat := fun w => cond (Nat.beq w 6) 1 (b w)
def gMark (S : gSt) (j : Nat) : gSt := uB S ((sB S).set j (gM1 (bk (sB S) j)))
def fBecomes (A : gA) (k : Int32) : Nat × Int32 × gA := if (¬ k < 0 ∧ ¬ nI (sB (aS A)).length ≤ k) then (if 60 ≤ bk (sB (aS A)) k.toNatClampNeg 0 - sN (aS A) 0 then (2, 0, A) else (0, (gFate (gMark (aS A) k.toNatClampNeg) k.toNatClampNeg).1, A)) else (1, 0, A)
/-- a script: the first of its groups that fails, of those from i on -/
def gScr (n : Nat) (x : Int64) : Nat → gSt → Int32
  | 0, _ => -1
  | r + 1, S => if (gSucc S ((gWL r x - gWL r x / 100000 * 100000).toInt32).toNatClampNeg).1 = 0 then nI (n - 1 - r) else gScr n x r (gSucc S ((gWL r x - gWL r x / 100000 * 100000).toInt32).toNatClampNeg).2
def fScript (A : gA) (n : Int32) (x : Int64) : Nat × Int32 × gA := if (¬ n < 1 ∧ ¬ 3 < n) then (if (¬ x < 0 ∧ gWL n.toNatClampNeg x = 0) then (0, gScr n.toNatClampNeg x n.toNatClampNeg (aS A), A) else (1, 0, A)) else (1, 0, A)
theorem gRnd_ex (x : Int64) : ∃ y : Int64, y = x * 6364136223846793005 + 1442695040888963407 := ⟨_, rfl⟩
noncomputable def gRnd (x : Int64) : Int64 := Classical.choose (gRnd_ex x)
theorem gRnd_eq (x : Int64) : x * 6364136223846793005 + 1442695040888963407 = gRnd x := (Classical.choose_spec (gRnd_ex x)).symm
noncomputable def gR31 (x : Int64) : Nat := (((gRnd x).toUInt64 >>> ((33 : Int32).toInt64.toUInt64 &&& Int64.toUInt64 63)).toInt64.toInt32).toNatClampNeg
noncomputable def gSim : Nat → Int64 → gSt → gSt
  | 0, _, S => S
  | n + 1, x, S => gSim n (gRnd x) (gTurn1 S (gR31 x))
noncomputable def fSim (A : gA) (x : Int64) (n : Int32) : Nat × Int32 × gA := if (¬ n < 1 ∧ ¬ 60 < n) then (0, 100 * (sI (gSim n.toNatClampNeg x (aS A)) 8 0 - sI (aS A) 8 0) + nI (sB (gSim n.toNatClampNeg x (aS A))).length, A) else (1, 0, A)
def fSave (A : gA) (i : Int32) : Nat × Int32 × gA := if (¬ i < 0 ∧ ¬ 1 < i) then (0, nI (sN (aS A) 0), (A.1, aS A, A.2.2.1, fun j => if j = i.toNatClampNeg then some (aS A) else aL A j)) else (1, 0, A)
def fRest (A : gA) (i : Int32) : Nat × Int32 × gA := if (¬ i < 0 ∧ ¬ 1 < i) then (match aL A i.toNatClampNeg with | none => (2, 0, A) | some T => (0, nI (sN T 0), (A.1, T, (0, aH A), aL A))) else (1, 0, A)
/-! forms of the same question -/
theorem gV910 {x : Int32} : (¬ x < 0 ∧ ¬ 9 < x) ↔ (¬ x < 0 ∧ ¬ 10 ≤ x) := by
  rw [Int32.lt_iff_toInt_lt, Int32.lt_iff_toInt_lt, Int32.le_iff_toInt_le, show (9 : Int32).toInt = 9 by decide, show (10 : Int32).toInt = 10 by decide]
  omega
theorem gV56 {x : Int32} : (¬ x < 0 ∧ ¬ 5 < x) ↔ (¬ x < 0 ∧ ¬ 6 ≤ x) := by
  rw [Int32.lt_iff_toInt_lt, Int32.lt_iff_toInt_lt, Int32.le_iff_toInt_le, show (5 : Int32).toInt = 5 by decide, show (6 : Int32).toInt = 6 by decide]
  omega
theorem gTm78 {S : gSt} {d h : Int32} : ((¬ d < nI (sN S 0) ∧ ¬ 9999 < d) ∧ (¬ h < 0 ∧ ¬ 7 < h)) ↔ (¬ d < nI (sN S 0) ∧ ¬ 9999 < d ∧ ¬ h < 0 ∧ ¬ 8 ≤ h) := by
  have e : (¬ h < 0 ∧ ¬ 7 < h) ↔ (¬ h < 0 ∧ ¬ 8 ≤ h) := by
    rw [Int32.lt_iff_toInt_lt, Int32.lt_iff_toInt_lt, Int32.le_iff_toInt_le, show (7 : Int32).toInt = 7 by decide, show (8 : Int32).toInt = 8 by decide]
    omega
  constructor
  · rintro ⟨⟨a, b⟩, c⟩
    have := e.mp c
    exact ⟨a, b, this.1, this.2⟩
  · rintro ⟨a, b, c, d⟩
    exact ⟨⟨a, b⟩, e.mpr ⟨c, d⟩⟩
theorem gNat_ofl {x : Int32} {m n : Nat} {y : Int32} (h : ¬ x < 0 ∧ ¬ y < x) (hy : y = nI m) (hn : m + 1 = n) (hm : m < 2000000000) : ∃ j, j < n ∧ x = nI j := by
  obtain ⟨j, hj, e⟩ := nI_of h.1
  refine ⟨j, ?_, e⟩
  have := h.2
  rw [hy, e, Int32.lt_iff_toInt_lt, nI_toInt (by omega), nI_toInt (by omega)] at this
  omega
theorem nI_ofl1 {x : Int32} {m n : Nat} {y : Int32} (h : ¬ x < 1 ∧ ¬ y < x) (hy : y = nI m) (hn : m + 1 = n) (hm : m < 2000000000) : ∃ j, 1 ≤ j ∧ j < n ∧ x = nI j := by
  have h0 : ¬ x < 0 := by
    have := h.1
    rw [Int32.lt_iff_toInt_lt, show (1 : Int32).toInt = 1 by decide] at this
    rw [Int32.lt_iff_toInt_lt, show (0 : Int32).toInt = 0 by decide]
    omega
  obtain ⟨j, hj, e⟩ := gNat_ofl ⟨h0, h.2⟩ hy hn hm
  refine ⟨j, ?_, hj, e⟩
  have := h.1
  rw [e, Int32.lt_iff_toInt_lt, nI_toInt (by omega), show (1 : Int32).toInt = 1 by decide] at this
  omega
