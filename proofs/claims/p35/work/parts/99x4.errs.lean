/-! ===== calls that are refused: what they give ===== -/
section
variable {A : gA}
theorem gCd_t {es : List Int64} {K : Nat × Int32 × gA} {k : Nat} {c : Int64} (h : K = (k + 1, 0, A)) (he : es[k]? = some c) : gCd es K = c := gCd_k (by rw [h]) he
theorem gSelf {x : Int32} {P : Prop} : ¬ (P ∧ ¬ x ≤ x) := fun c => c.2 (Int32.le_refl x)
theorem aAct_e {e1 e2 e3 : Nat} {t : Int32 × gSt} {S : gSt} (h : t = (-1, S)) : aAct e1 e2 e3 A t = (e1, 0, A) := aAct_1 (by rw [h])
theorem aAct_f {e1 e2 e3 : Nat} {t : Int32 × gSt} {S : gSt} (h : t = (-2, S)) : aAct e1 e2 e3 A t = (e2, 0, A) := aAct_2 (by rw [h])
theorem aAct_g {e1 e2 e3 : Nat} {t : Int32 × gSt} {S : gSt} (h : t = (-3, S)) : aAct e1 e2 e3 A t = (e3, 0, A) := aAct_3 (by rw [h])
theorem er_about (y : Int32) (h : ¬ (¬ y < 0 ∧ ¬ 10 < y)) : fAbout A y = (1, 0, A) := by
  unfold fAbout
  rw [if_neg h]
theorem er_pris (y : Int32) : fPris A (nI (sN (aS A) 1)) y = (1, 0, A) := by
  unfold fPris
  rw [if_neg gSelf]
theorem er_vis (p y : Int32) (h : ¬ (¬ p < 0 ∧ ¬ 10 ≤ p)) : fVisr A p y = (1, 0, A) := by
  unfold fVisr
  rw [if_neg h]
theorem er_vis5 : fVisr A 0 5 = (2, 0, A) := by
  unfold fVisr
  rw [if_pos (by decide), if_neg (by decide)]
theorem er_bkng (y : Int32) : fBkng A (nI (sB (aS A)).length) y = (1, 0, A) := by
  unfold fBkng
  rw [if_neg gSelf]
theorem er_line (y : Int32) : fLine A (nI (sB (aS A)).length) y = (1, 0, A) := by
  unfold fLine
  rw [if_neg gSelf]
theorem er_wishAt : fWish A (-1) = (1, 0, A) := by
  unfold fWish
  rw [if_pos (by decide)]
theorem er_sett : fSett A 6 = (1, 0, A) := by
  unfold fSett
  rw [if_neg (by decide)]
theorem er_add (r : Int32) (h : ¬ (¬ r < 0 ∧ ¬ 3 < r)) : aAct 0 1 2 A (gTryAdd (aS A) r) = (1, 0, A) := aAct_f (S := aS A) (by
  unfold gTryAdd
  rw [if_neg h])
theorem er_add8 (h : ¬ sN (aS A) 1 < 8) : aAct 0 1 2 A (gTryAdd (aS A) 0) = (2, 0, A) := aAct_g (S := aS A) (by
  unfold gTryAdd
  rw [if_pos (by decide), if_neg h])
theorem er_promote (y : Int32) : aAct 1 2 0 A (gTryPromote (aS A) (nI (sN (aS A) 1)) y) = (1, 0, A) := aAct_e (S := aS A) (by
  unfold gTryPromote
  rw [if_neg gSelf])
theorem er_list (v b : Int32) : aAct 1 0 0 A (gTryList (aS A) (nI (sN (aS A) 1)) v b) = (1, 0, A) := aAct_e (S := aS A) (by
  unfold gTryList
  rw [if_neg (fun c => gSelf c.1)])
theorem er_list10 (p b : Int32) : aAct 1 0 0 A (gTryList (aS A) p 10 b) = (1, 0, A) := aAct_e (S := aS A) (by
  unfold gTryList
  rw [if_neg (fun c => absurd c.2 (by decide))])
theorem er_apart (q b : Int32) : aAct 1 0 2 A (gTryApart (aS A) (nI (sN (aS A) 1)) q b) = (1, 0, A) := aAct_e (S := aS A) (by
  unfold gTryApart
  rw [if_neg gSelf])
theorem er_apart2 (p b : Int32) : aAct 1 0 2 A (gTryApart (aS A) p (nI (sN (aS A) 1)) b) = (1, 0, A) := aAct_e (S := aS A) (by
  unfold gTryApart
  by_cases c : (¬ p < 0 ∧ ¬ nI (sN (aS A) 1) ≤ p)
  · rw [if_pos c, if_neg gSelf]
  · rw [if_neg c])
theorem er_book (v d h : Int32) : aAct 1 2 3 A (gTryBook (aS A) (nI (sN (aS A) 1)) v d h) = (1, 0, A) := aAct_e (S := aS A) (by
  unfold gTryBook
  rw [if_neg (fun c => gSelf c.1)])
theorem er_book10 (p d h : Int32) : aAct 1 2 3 A (gTryBook (aS A) p 10 d h) = (1, 0, A) := aAct_e (S := aS A) (by
  unfold gTryBook
  rw [if_neg (fun c => absurd c.2 (by decide))])
theorem er_cancel : aAct 1 0 0 A (gTryCancel (aS A) (nI (sB (aS A)).length)) = (1, 0, A) := aAct_e (S := aS A) (by
  unfold gTryCancel
  rw [if_neg gSelf])
theorem er_cancel1 : aAct 1 0 0 A (gTryCancel (aS A) (-1)) = (1, 0, A) := aAct_e (S := aS A) (by
  unfold gTryCancel
  rw [if_neg (fun c => absurd c.1 (by decide))])
theorem er_late (m : Int32) : aAct 1 2 0 A (gTryLate (aS A) (nI (sB (aS A)).length) m) = (1, 0, A) := aAct_e (S := aS A) (by
  unfold gTryLate
  rw [if_neg gSelf])
theorem er_carry (b : Int32) : aAct 1 0 0 A (gTryCarry (aS A) 10 b) = (1, 0, A) := aAct_e (S := aS A) (by
  unfold gTryCarry
  rw [if_neg (by decide)])
theorem er_punish (n : Int32) : aAct 1 2 0 A (gTryPunish (aS A) (nI (sN (aS A) 1)) n) = (1, 0, A) := aAct_e (S := aS A) (by
  unfold gTryPunish
  rw [if_neg gSelf])
theorem er_wish (v : Int32) : aAct 1 0 2 A (gTryWish (aS A) (nI (sN (aS A) 1)) v) = (1, 0, A) := aAct_e (S := aS A) (by
  unfold gTryWish
  rw [if_neg (fun c => gSelf c.1)])
theorem er_run (n : Int32) (h : ¬ (¬ n < 1 ∧ ¬ 30 < n)) : fRun A n = (1, 0, A) := by
  unfold fRun
  rw [if_neg h]
theorem er_set (q x : Int32) (hq : ¬ q < 0 ∧ ¬ 6 ≤ q) (h : ¬ (¬ x < gLst q.toNatClampNeg ∧ ¬ gMst q.toNatClampNeg < x)) : aAct 0 1 0 A (gTrySet (aS A) q x) = (1, 0, A) := aAct_f (S := aS A) (by
  unfold gTrySet
  rw [if_pos hq, if_neg h])
theorem er_set6 (x : Int32) : aAct 0 1 0 A (gTrySet (aS A) 6 x) = (1, 0, A) := aAct_f (S := aS A) (by
  unfold gTrySet
  rw [if_neg (by decide)])
theorem er_why (v d h : Int32) : fWhy A (nI (sN (aS A) 1)) v d h = (1, 0, A) := by
  unfold fWhy
  rw [if_neg (fun c => gSelf c.1)]
theorem er_first (v : Int32) : fFirst A (nI (sN (aS A) 1)) v = (1, 0, A) := by
  unfold fFirst
  rw [if_neg (fun c => gSelf c.1)]
theorem er_coming (w : Int32) : fComing A 0 w = (1, 0, A) := by
  unfold fComing
  rw [if_neg (by decide)]
theorem er_coming5 : fComing A 5 5 = (1, 0, A) := by
  unfold fComing
  rw [if_pos (by decide), if_neg (by decide)]
theorem er_becomes : fBecomes A (nI (sB (aS A)).length) = (1, 0, A) := by
  unfold fBecomes
  rw [if_neg gSelf]
theorem gIn_lt {p n : Nat} (h : p < n) (hn : n < 1000000) : ¬ nI p < 0 ∧ ¬ nI n ≤ nI p := ⟨nI_pos (by omega), nI_ge h (by omega)⟩
theorem er_pris8 {p : Nat} (h : p < sN (aS A) 1) (h8 : sN (aS A) 1 ≤ 8) : fPris A (nI p) 8 = (2, 0, A) := by
  unfold fPris
  rw [if_pos (gIn_lt h (by omega)), if_neg (by decide)]
theorem er_promote4 {p : Nat} (h : p < sN (aS A) 1) (h8 : sN (aS A) 1 ≤ 8) : aAct 1 2 0 A (gTryPromote (aS A) (nI p) 4) = (2, 0, A) := aAct_f (S := aS A) (by
  unfold gTryPromote
  rw [if_pos (gIn_lt h (by omega)), if_neg (by decide)])
theorem er_apartS {p : Nat} (b : Int32) (h : p < sN (aS A) 1) (h8 : sN (aS A) 1 ≤ 8) : aAct 1 0 2 A (gTryApart (aS A) (nI p) (nI p) b) = (2, 0, A) := aAct_g (S := aS A) (by
  unfold gTryApart
  rw [if_pos (gIn_lt h (by omega)), if_pos (gIn_lt h (by omega)), if_pos rfl])
theorem gDec_lt {t : Nat} (ht : t < 1000000000) : nI t - 1 < nI t := by
  rcases Nat.eq_zero_or_pos t with e | e
  · rw [e]; decide
  · rw [show (1 : Int32) = nI 1 from rfl, pk_sub e]
    exact (nI_ltI (by omega) (by omega)).mpr (by omega)
theorem er_bookD {p : Nat} (h : p < sN (aS A) 1) (h8 : sN (aS A) 1 ≤ 8) (hT : sN (aS A) 0 < 1000000000) : aAct 1 2 3 A (gTryBook (aS A) (nI p) 0 (nI (sN (aS A) 0) - 1) 0) = (2, 0, A) := aAct_f (S := aS A) (by
  unfold gTryBook
  rw [if_pos ⟨gIn_lt h (by omega), by decide⟩, if_neg (fun c => c.1 (gDec_lt hT))])
theorem er_bookH {p : Nat} (d : Int32) (h : p < sN (aS A) 1) (h8 : sN (aS A) 1 ≤ 8) : aAct 1 2 3 A (gTryBook (aS A) (nI p) 0 d 8) = (2, 0, A) := aAct_f (S := aS A) (by
  unfold gTryBook
  rw [if_pos ⟨gIn_lt h (by omega), by decide⟩, if_neg (fun c => absurd c.2.2.2 (by decide))])
theorem er_why4 {p : Nat} (h : p < sN (aS A) 1) (h8 : sN (aS A) 1 ≤ 8) : fWhy A (nI p) 0 10000 0 = (2, 0, A) := by
  unfold fWhy
  rw [if_pos ⟨gIn_lt h (by omega), by decide⟩, if_neg (fun c => absurd c.2.1 (by decide))]
theorem er_punishN {p : Nat} (h : p < sN (aS A) 1) (h8 : sN (aS A) 1 ≤ 8) : aAct 1 2 0 A (gTryPunish (aS A) (nI p) (-1)) = (2, 0, A) := aAct_f (S := aS A) (by
  unfold gTryPunish
  rw [if_pos (gIn_lt h (by omega)), if_neg (by decide)])
theorem gIn10 {v : Nat} (h : v < 10) : ¬ nI v < 0 ∧ ¬ 10 ≤ nI v := gIn_lt (n := 10) h (by decide)
theorem er_wishL {p v : Nat} (h : p < sN (aS A) 1) (h8 : sN (aS A) 1 ≤ 8) (hv : v < 10) (hL : ¬ gHb (sI (aS A) 1 p) (nI v) = true) : aAct 1 0 2 A (gTryWish (aS A) (nI p) (nI v)) = (2, 0, A) := aAct_g (S := aS A) (by
  unfold gTryWish
  rw [if_pos ⟨gIn_lt h (by omega), gIn10 hv⟩, nI_clamp (by omega), if_neg hL])
theorem gRA_1 {S : gSt} {p v d y : Nat} (hL : ¬ gHb (sI S 1 p) (nI v) = true) : gRA S p v d y = 1 := by
  have h1 : gROD S p v d = 1 := by
    unfold gROD
    rw [if_neg hL]
  unfold gRA
  rw [h1, if_neg (by decide)]
theorem gTm_in {S : gSt} {d y : Nat} (hd : sN S 0 ≤ d) (h9 : d ≤ 9999) (hy : y < 8) : ¬ nI d < nI (sN S 0) ∧ ¬ (9999 : Int32) < nI d ∧ ¬ nI y < 0 ∧ ¬ 8 ≤ nI y :=
  ⟨fun c => by have := (nI_ltI (by omega) (by omega)).mp c; omega, fun c => by have := (nI_ltI (a := 9999) (by omega) (by omega)).mp c; omega, (gIn_lt (n := 8) hy (by decide)).1, (gIn_lt (n := 8) hy (by decide)).2⟩
theorem fWhy_in {p v d y : Nat} (h : p < sN (aS A) 1) (h8 : sN (aS A) 1 ≤ 8) (hv : v < 10) (hd : sN (aS A) 0 ≤ d) (h9 : d ≤ 9999) (hy : y < 8) : fWhy A (nI p) (nI v) (nI d) (nI y) = (0, nI (gRA (aS A) p v d y), A) := by
  unfold fWhy
  rw [if_pos ⟨gIn_lt h (by omega), gIn10 hv⟩, if_pos (gTm_in hd h9 hy), nI_clamp (by omega), nI_clamp (by omega), nI_clamp (by omega), nI_clamp (by omega)]
theorem fWhy_1 {p v d y : Nat} (h : p < sN (aS A) 1) (h8 : sN (aS A) 1 ≤ 8) (hv : v < 10) (hd : sN (aS A) 0 ≤ d) (h9 : d ≤ 9999) (hy : y < 8) (hL : ¬ gHb (sI (aS A) 1 p) (nI v) = true) : fWhy A (nI p) (nI v) (nI d) (nI y) = (0, 1, A) := by
  rw [fWhy_in h h8 hv hd h9 hy, gRA_1 hL]
  rfl
theorem er_bookN {p v d y : Nat} (h : p < sN (aS A) 1) (h8 : sN (aS A) 1 ≤ 8) (hv : v < 10) (hd : sN (aS A) 0 ≤ d) (h9 : d ≤ 9999) (hy : y < 8) (hR : ¬ gRA (aS A) p v d y = 0) : aAct 1 2 3 A (gTryBook (aS A) (nI p) (nI v) (nI d) (nI y)) = (3, 0, A) := aAct_g (S := aS A) (by
  unfold gTryBook
  rw [if_pos ⟨gIn_lt h (by omega), gIn10 hv⟩, if_pos (gTm_in hd h9 hy), nI_clamp (by omega), nI_clamp (by omega), nI_clamp (by omega), nI_clamp (by omega), if_neg hR])
theorem fFirst_in {p v : Nat} (h : p < sN (aS A) 1) (h8 : sN (aS A) 1 ≤ 8) (hv : v < 10) : fFirst A (nI p) (nI v) = (0, gOptI (gEar (aS A) p v 60), A) := by
  unfold fFirst
  rw [if_pos ⟨gIn_lt h (by omega), gIn10 hv⟩, nI_clamp (by omega), nI_clamp (by omega)]
theorem fFirst_1 {p v : Nat} (h : p < sN (aS A) 1) (h8 : sN (aS A) 1 ≤ 8) (hv : v < 10) (hL : ¬ gHb (sI (aS A) 1 p) (nI v) = true) : fFirst A (nI p) (nI v) = (0, -1, A) := by
  rw [fFirst_in h h8 hv, gEar_none (fun j _ => by rw [gRA_1 hL]; decide)]
  rfl
theorem er_bkng6 {k : Nat} (h : k < (sB (aS A)).length) (hn : (sB (aS A)).length ≤ 24) : fBkng A (nI k) 6 = (2, 0, A) := by
  unfold fBkng
  rw [if_pos (gIn_lt h (by omega)), if_neg (by decide)]
theorem er_late60 {k : Nat} (h : k < (sB (aS A)).length) (hn : (sB (aS A)).length ≤ 24) : aAct 1 2 0 A (gTryLate (aS A) (nI k) 60) = (2, 0, A) := aAct_f (S := aS A) (by
  unfold gTryLate
  rw [if_pos (gIn_lt h (by omega)), if_neg (by decide)])
theorem er_line1 {k : Nat} (h : k < (sB (aS A)).length) (hn : (sB (aS A)).length ≤ 24) : fLine A (nI k) (-1) = (2, 0, A) := by
  unfold fLine
  rw [if_pos (gIn_lt h (by omega)), if_pos (by decide)]
theorem er_becomesF {k : Nat} (h : k < (sB (aS A)).length) (hn : (sB (aS A)).length ≤ 24) (hf : 60 ≤ bk (sB (aS A)) k 0 - sN (aS A) 0) : fBecomes A (nI k) = (2, 0, A) := by
  unfold fBecomes
  rw [if_pos (gIn_lt h (by omega)), nI_clamp (by omega), if_pos hf]
theorem er_script0 (x : Int64) : fScript A 0 x = (1, 0, A) := by
  unfold fScript
  rw [if_neg (by decide)]
theorem gWL_big : ¬ gWL 3 1000000000000000 = 0 := by
  intro h
  have h1 := gWL_val (x := 1000000000000000) (by decide) 3 (Nat.le_refl 3)
  rw [h] at h1
  revert h1
  decide
theorem er_script3 : fScript A 3 1000000000000000 = (1, 0, A) := by
  unfold fScript
  rw [if_pos (by decide), if_neg (fun c => gWL_big c.2)]
theorem er_sim (x : Int64) : fSim A x 0 = (1, 0, A) := by
  unfold fSim
  rw [if_neg (by decide)]
theorem er_save : fSave A 2 = (1, 0, A) := by
  unfold fSave
  rw [if_neg (by decide)]
theorem er_rest : fRest A 2 = (1, 0, A) := by
  unfold fRest
  rw [if_neg (by decide)]
theorem er_append : fAppend A (-1) = (1, 0, A) := by
  unfold fAppend
  rw [if_neg (by decide)]
/-! what the questions answer -/
theorem gI64 (n : Nat) (h : n < 2147483648) : (nI n).toInt64 = Int64.ofNat n := by
  apply Int64.toInt_inj.mp
  rw [Int32.toInt_toInt64, nI_toInt h, Int64.toInt_ofNat_of_lt (by omega)]
theorem fAbout_in {y : Int32} {k : Nat} (hy : y = nI k) (hk : k ≤ 10) : fAbout A y = (0, gNA (aS A) k, A) := by
  subst hy
  unfold fAbout
  rw [if_pos ⟨nI_pos (by omega), fun c => by have := (nI_ltI (a := 10) (by omega) (by omega)).mp c; omega⟩, nI_clamp (by omega)]
theorem fPris_in {p : Nat} {y : Int32} {k : Nat} (h : p < sN (aS A) 1) (h8 : sN (aS A) 1 ≤ 8) (hy : y = nI k) (hk : k ≤ 7) : fPris A (nI p) y = (0, gNP (aS A) p k, A) := by
  subst hy
  unfold fPris
  rw [if_pos (gIn_lt h (by omega)), if_pos ⟨nI_pos (by omega), fun c => by have := (nI_ltI (a := 7) (by omega) (by omega)).mp c; omega⟩, nI_clamp (by omega), nI_clamp (by omega)]
theorem fVisr_in {v : Nat} {y : Int32} {k : Nat} (h : v < 10) (hy : y = nI k) (hk : k ≤ 4) : fVisr A (nI v) y = (0, gNV (aS A) v k, A) := by
  subst hy
  unfold fVisr
  rw [if_pos (gIn10 h), if_pos ⟨nI_pos (by omega), fun c => by have := (nI_ltI (a := 4) (by omega) (by omega)).mp c; omega⟩, nI_clamp (by omega), nI_clamp (by omega)]
theorem fBkng_in {j : Nat} {y : Int32} {k : Nat} (h : j < (sB (aS A)).length) (hn : (sB (aS A)).length ≤ 24) (hy : y = nI k) (hk : k ≤ 5) : fBkng A (nI j) y = (0, nI (bk (sB (aS A)) j k), A) := by
  subst hy
  unfold fBkng
  rw [if_pos (gIn_lt h (by omega)), if_pos ⟨nI_pos (by omega), fun c => by have := (nI_ltI (a := 5) (by omega) (by omega)).mp c; omega⟩, nI_clamp (by omega), nI_clamp (by omega)]
theorem fSett_in {y : Int32} {k : Nat} (hy : y = nI k) (hk : k < 6) : fSett A y = (0, nI (sS (aS A) k), A) := by
  subst hy
  unfold fSett
  rw [if_pos (show ¬ nI k < 0 ∧ ¬ (6 : Int32) ≤ nI k from gIn_lt (n := 6) hk (by decide)), nI_clamp (by omega)]
/-- the wish at a place -/
def gWv (S : gSt) (k : Nat) : Int32 := match gTurn (sW S) (sI S 3) k with
  | none => -1
  | some i => nI (wq (sW S) i)
theorem fWish_in {y : Int32} {k : Nat} (hy : y = nI k) (hk : k < 1000000) : fWish A y = (0, gWv (aS A) k, A) := by
  subst hy
  unfold fWish gWv
  rw [if_neg (nI_pos (by omega)), nI_clamp (by omega)]
  rfl
theorem gCd_a {es : List Int64} {K : Nat × Int32 × gA} {v : Int32} {B : gA} (h : K = (0, v, B)) : gCd es K = v.toInt64 := by
  rw [h]
  rfl
/-! the hash of all that is told -/
def gIt (g : Nat → Int64) : Nat → Int64 → Int64
  | 0, v => v
  | n + 1, v => 31 * gIt g n v + g n
def gNow (S : gSt) : Int64 := gIt (fun k => (gWv S k).toInt64) 10 (gIt (fun k => (nI (bk (sB S) (k / 6) (k % 6))).toInt64) (6 * (sB S).length) (gIt (fun k => (gNV S (k / 5) (k % 5)).toInt64) 50 (gIt (fun k => (gNP S (k / 8) (k % 8)).toInt64) (8 * sN S 1) (gIt (fun k => (nI (sS S k)).toInt64) 6 (gIt (fun k => (gNA S k).toInt64) 11 179)))))
end
section
variable {A : gA}
theorem fAbout_0 : fAbout A 0 = (0, nI (sN (aS A) 1), A) := fAbout_in (k := 0) rfl (by omega)
theorem fAbout_1 : fAbout A 1 = (0, nI (sN (aS A) 0), A) := fAbout_in (k := 1) rfl (by omega)
theorem fAbout_2 : fAbout A 2 = (0, nI (sB (aS A)).length, A) := fAbout_in (k := 2) rfl (by omega)
theorem fAbout_3 : fAbout A 3 = (0, nI (sW (aS A)).length, A) := fAbout_in (k := 3) rfl (by omega)
theorem gL2I (x : Int32) : x.toInt64.toInt32 = x := Int32.toInt32_toInt64 x
/-- a character is told -/
def aPut (A : gA) (c : Nat) : gA := ((aN A + 1, upd (aG A) (aN A) (nI c)), A.2)
theorem fAppend_in {c : Nat} (hc : c ≤ 255) (hn : aN A < 120) : fAppend A (nI c) = (0, nI (aN A + 1), aPut A c) := by
  unfold fAppend
  rw [if_pos ⟨nI_pos (by omega), fun q => by have := (nI_ltI (a := 255) (by omega) (by omega)).mp q; omega⟩, if_neg (by omega)]
  rfl
theorem gAok_put {b c : Nat} (h : gAok b A) (hn : aN A < 120) : gAok b (aPut A c) := ⟨by show aN A + 1 ≤ 120; omega, h.2⟩
theorem gX5_put {c : Nat} (h : gX5 A) : gX5 (aPut A c) := h
theorem gSays_no {n : Nat} (h : n < 120) : ¬ lg_cmp (nI (n + 1)).toInt64 0 ≤ 0 := by
  have h0 : (0 : Int64) < (nI (n + 1)).toInt64 := by
    rw [Int64.lt_iff_toInt_lt, Int32.toInt_toInt64, nI_toInt (by omega)]
    show (0 : Int) < _
    omega
  have h1 := gCmp_gt.mpr h0
  intro c
  exact absurd h1 (Int32.not_lt.mpr c)
end
section
variable {A : gA}
theorem fPris_1 {p : Nat} (h : p < sN (aS A) 1) (h8 : sN (aS A) 1 ≤ 8) : fPris A (nI p) 1 = (0, sI (aS A) 1 p, A) := fPris_in (k := 1) h h8 rfl (by omega)
theorem gDay_far {d t : Nat} (hd : d < 1000000000) (ht : t < 1000000000) (h : ¬ lg_cmp (nI d).toInt64 ((nI t).toInt64 + 59) ≤ 0) : 60 ≤ d - t := by
  have h1 : 0 < lg_cmp (nI d).toInt64 ((nI t).toInt64 + 59) := Int32.not_le.mp h
  have h2 := gCmp_gt.mp h1
  rw [gI64 t (by omega), gI64 d (by omega), show (59 : Int64) = Int64.ofNat 59 from rfl, ← Int64.ofNat_add, Int64.lt_iff_toInt_lt, Int64.toInt_ofNat_of_lt (by omega), Int64.toInt_ofNat_of_lt (by omega)] at h2
  omega
theorem gBits_sm64 : ∀ i : Nat, i < 32 → (((nI i).toInt64 &&& 63).toBitVec.smod 64#64).toNat = i := by decide +kernel
theorem gSx64 (x : Int32) {v : Nat} (hv : v < 32) : x.toInt64.toBitVec.getLsbD v = x.toBitVec.getLsbD v := by
  show (x.toBitVec.signExtend 64).getLsbD v = _
  rw [BitVec.getLsbD_signExtend, if_pos hv, decide_eq_true (show v < 64 by omega), Bool.true_and]
theorem gBit64 (x : Int32) {v : Nat} (hv : v < 32) : ((x.toInt64 >>> ((nI v).toInt64 &&& 63)) &&& 1) = if x.toBitVec.getLsbD v = true then 1 else 0 := by
  have e1 : (x.toInt64 >>> ((nI v).toInt64 &&& 63)).toBitVec = x.toInt64.toBitVec.sshiftRight v := by
    show BitVec.sshiftRight' x.toInt64.toBitVec (((nI v).toInt64 &&& 63).toBitVec.smod 64#64) = _
    unfold BitVec.sshiftRight'
    rw [gBits_sm64 v hv]
  have h : ((x.toInt64 >>> ((nI v).toInt64 &&& 63)) &&& 1).toBitVec = (x.toInt64 >>> ((nI v).toInt64 &&& 63)).toBitVec &&& 1#64 := rfl
  rw [e1, BitVec.and_one_eq_setWidth_ofBool_getLsbD, BitVec.getLsbD_sshiftRight] at h
  have h2 : (!decide (64 ≤ 0) && if v + 0 < 64 then x.toInt64.toBitVec.getLsbD (v + 0) else x.toInt64.toBitVec.msb) = x.toBitVec.getLsbD v := by
    rw [if_pos (by omega), Nat.add_zero, gSx64 x hv]
    simp
  rw [h2] at h
  apply Int64.toBitVec_inj.mp
  rw [h]
  cases x.toBitVec.getLsbD v <;> rfl
theorem gLsh {x : Int32} {v : Nat} (hv : v < 32) : ((x.toInt64 >>> ((nI v).toInt64 &&& 63)) &&& 1 = 1) ↔ gHb x (nI v) = true := by
  rw [gHb_bit x hv, gBit64 x hv]
  cases x.toBitVec.getLsbD v <;> decide
end
