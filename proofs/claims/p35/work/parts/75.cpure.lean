/-! ===== commands: the reference's reading against the class's ===== -/
/-- the class's reading stands at x, and where it says that a command is there, a digit follows that belongs to none -/
def gBadP (n : Nat) (sg : Nat → Int32) (c : Bool × Nat × Nat × (Nat → Int32)) (x : Nat) : Prop := c.2.1 = x ∧ (c.1 = true → gDgt n sg x)
/-- a command at a, of a state S: where the reference stands (spot, good, left out) and what state it has -/
def gCmdP (n : Nat) (sg : Nat → Int32) (a : Nat) (S : gSt) (lo : Nat) (u : Nat × Bool × Nat) (T : gSt) : Prop := ∀ (wd : Nat) (nm : Nat → Int32),
  (u.2.1 = false → gBadP n sg (gRC n sg a wd nm) u.1) ∧ (u.2.1 = true → ∃ w m', w < 6 ∧ (w = 5 → m' 0 = nI (m' 0).toNatClampNeg ∧ (m' 0).toNatClampNeg ≤ 30) ∧ gRC n sg a wd nm = (true, u.1, w, m') ∧ T = (gDo S w m').2 ∧ u.2.2 = lo + (if (gDo S w m').1 < 0 then 1 else 0))
theorem gCmd_bad {n a x lo l2 : Nat} {sg : Nat → Int32} {S T : gSt} (h : ∀ wd nm, gBadP n sg (gRC n sg a wd nm) x) : gCmdP n sg a S lo (x, false, l2) T := fun wd nm => ⟨fun _ => h wd nm, fun c => by cases c⟩
theorem gCmd_yes {n a x lo w : Nat} {sg : Nat → Int32} {S T : gSt} (hw : w < 6) (f : (Nat → Int32) → Nat → Int32) (h : ∀ wd nm, gRC n sg a wd nm = (true, x, w, f nm)) (r : Int32) (h5 : ∀ nm, w = 5 → f nm 0 = nI (f nm 0).toNatClampNeg ∧ (f nm 0).toNatClampNeg ≤ 30) (hd : ∀ nm, gDo S w (f nm) = (r, T)) (hr : ¬ r < 0) : gCmdP n sg a S lo (x, true, lo) T :=
  fun wd nm => ⟨fun c => (by cases c), fun _ => ⟨w, f nm, hw, h5 nm, h wd nm, by rw [hd], by rw [hd, if_neg hr]; rfl⟩⟩
theorem gCmd_out {n a x lo w : Nat} {sg : Nat → Int32} {S T : gSt} (hw : w < 6) (f : (Nat → Int32) → Nat → Int32) (h : ∀ wd nm, gRC n sg a wd nm = (true, x, w, f nm)) (r : Int32) (h5 : ∀ nm, w = 5 → f nm 0 = nI (f nm 0).toNatClampNeg ∧ (f nm 0).toNatClampNeg ≤ 30) (hd : ∀ nm, gDo S w (f nm) = (r, T)) (hr : r < 0) : gCmdP n sg a S lo (x, true, lo + 1) T :=
  fun wd nm => ⟨fun c => (by cases c), fun _ => ⟨w, f nm, hw, h5 nm, h wd nm, by rw [hd], by rw [hd, if_pos hr]⟩⟩
/-- a number that is good -/
theorem gNum_y {n a : Nat} {sg : Nat → Int32} {k r : Int32} {u : Nat × Bool} (h : gNumP n sg a true k u r) (hg : u.2 = true) : gSg n sg a = 44 ∧ u.1 = (gRNum n sg (a + 1) k).1 ∧ r = (gRNum n sg (a + 1) k).2 ∧ ¬ r = -1 := by
  obtain ⟨h1, h2⟩ := h.2 rfl
  by_cases c : gSg n sg a = 44
  · obtain ⟨q1, q2, q3⟩ := h2 c
    have c2 : ¬ (gRNum n sg (a + 1) k).2 = -1 := fun e => by rw [q2 e] at hg; cases hg
    rcases q3 c2 with ⟨-, e⟩ | ⟨e, -⟩
    · exact ⟨c, q1, e, by rw [e]; exact c2⟩
    · rw [e] at hg; cases hg
  · rw [h1 c] at hg
    cases hg
theorem gK_y {n a wd i : Nat} {sg nm : Nat → Int32} {k r : Int32} {u : Nat × Bool} (h : gNumP n sg a true k u r) (hg : u.2 = true) (l : List Int32) : gRK n sg wd (k :: l) i a nm = gRK n sg wd l (i + 1) u.1 (upd nm i r) := by
  obtain ⟨h1, h2, h3, h4⟩ := gNum_y h hg
  have h5 : ¬ (gRNum n sg (a + 1) k).2 = -1 := by rw [← h3]; exact h4
  rw [gRK, if_pos h1]
  unfold gRNb
  rw [if_neg h5, if_pos rfl, ← h2, ← h3]
theorem gK_n {n a wd i : Nat} {sg nm : Nat → Int32} {k r : Int32} {u : Nat × Bool} (h : gNumP n sg a true k u r) (hg : ¬ u.2 = true) (l : List Int32) : gBadP n sg (gRK n sg wd (k :: l) i a nm) u.1 := by
  obtain ⟨h1, h2⟩ := h.2 rfl
  by_cases c : gSg n sg a = 44
  · obtain ⟨q1, q2, q3⟩ := h2 c
    rw [gRK, if_pos c]
    unfold gRNb
    by_cases c2 : (gRNum n sg (a + 1) k).2 = -1
    · rw [if_pos c2, if_neg Bool.false_ne_true]
      exact ⟨q1.symm, fun e => by cases e⟩
    · rw [if_neg c2, if_pos rfl]
      rcases q3 c2 with ⟨e, -⟩ | ⟨-, d⟩
      · exact absurd e hg
      · show gBadP n sg (gRK n sg wd l (i + 1) (gRNum n sg (a + 1) k).1 (upd nm i (gRNum n sg (a + 1) k).2)) u.1
        rw [← q1]
        cases l with
        | nil => exact ⟨rfl, fun _ => d⟩
        | cons k2 l =>
          have h44 : ¬ gSg n sg u.1 = 44 := by
            intro e
            rw [gSg, if_pos d.1] at e
            exact d.2.1 (by rw [e]; decide)
          rw [gRK, if_neg h44]
          exact ⟨rfl, fun e => by cases e⟩
  · rw [h1 c, gRK, if_neg c]
    exact ⟨rfl, fun e => by cases e⟩
theorem gRN_rng {n : Nat} {sg : Nat → Int32} {lo hi : Int32} : ∀ (f a : Nat) (v : Int32), (v = -1 ∨ (¬ v < lo ∧ ¬ hi < v)) → ((gRN n sg lo hi f a v).2 = -1 ∨ (¬ (gRN n sg lo hi f a v).2 < lo ∧ ¬ hi < (gRN n sg lo hi f a v).2))
  | 0, _, _, h => h
  | f + 1, a, v, h => by
    rw [gRN]
    split
    · rename_i c
      exact gRN_rng f _ _ (Or.inr c)
    · exact h
theorem gK_r {n a M : Nat} {sg : Nat → Int32} {k r : Int32} {u : Nat × Bool} (h : gNumP n sg a true k u r) (hg : u.2 = true) (hM : gMo k = nI M) (hM2 : M < 1000) (L : Nat) (hL : gLe k = nI L) (hL2 : L < 2) : ∃ j, L ≤ j ∧ j ≤ M ∧ r = nI j := by
  obtain ⟨h1, h2, h3, h4⟩ := gNum_y h hg
  rcases gRN_rng (n := n) (sg := sg) (lo := gLe k) (hi := gMo k) (n - (a + 1)) (a + 1) (-1) (Or.inl rfl) with q | q
  · exact absurd (h3.trans q) h4
  · have q' : ¬ (gRNum n sg (a + 1) k).2 < gLe k ∧ ¬ gMo k < (gRNum n sg (a + 1) k).2 := q
    rw [← h3, hM, hL] at q'
    have h0 : ¬ r < 0 := by
      have a1 := q'.1
      rw [Int32.lt_iff_toInt_lt, nI_toInt (by omega)] at a1
      rw [Int32.lt_iff_toInt_lt, show (0 : Int32).toInt = 0 by decide]
      omega
    obtain ⟨j, hj, e⟩ := nI_of h0
    rw [e, Int32.lt_iff_toInt_lt, Int32.lt_iff_toInt_lt, nI_toInt (by omega), nI_toInt (by omega), nI_toInt (by omega)] at q'
    exact ⟨j, by omega, by omega, e⟩
/-! words -/
theorem gWz0 : (gWi_z 0).2.2.2 = [109, 97, 110] := rfl
theorem gWz1 : (gWi_z 1).2.2.2 = [109, 97, 121] := rfl
theorem gWz2 : (gWi_z 2).2.2.2 = [98, 111, 111, 107] := rfl
theorem gWz3 : (gWi_z 3).2.2.2 = [119, 105, 115, 104] := rfl
theorem gWz4 : (gWi_z 4).2.2.2 = [104, 97, 115] := rfl
theorem gWz5 : (gWi_z 5).2.2.2 = [114, 117, 110] := rfl
theorem gSame_cons {n a : Nat} {sg : Nat → Int32} {x : Int32} {l : List Int32} : gSame n sg a (x :: l) = if gSg n sg a = x then gSame n sg (a + 1) l + 1 else 0 := rfl
/-- words, one behind the other: the first letters say which it is -/
theorem gRWd_eq (n : Nat) (sg : Nat → Int32) (a wd : Nat) : gRWd n sg a wd =
    if gSame n sg a [109, 97, 110] = 3 then (true, a + 3, 0) else if gSame n sg a [109, 97, 121] = 3 then (true, a + 3, 1) else if gSame n sg a [98, 111, 111, 107] = 4 then (true, a + 4, 2) else if gSame n sg a [119, 105, 115, 104] = 4 then (true, a + 4, 3)
    else if gSame n sg a [104, 97, 115] = 3 then (true, a + 3, 4) else if gSame n sg a [114, 117, 110] = 3 then (true, a + 3, 5)
    else (false, a + max (max (max (max (max (max 0 (gSame n sg a [109, 97, 110])) (gSame n sg a [109, 97, 121])) (gSame n sg a [98, 111, 111, 107])) (gSame n sg a [119, 105, 115, 104])) (gSame n sg a [104, 97, 115])) (gSame n sg a [114, 117, 110]), wd) := by
  unfold gRWd
  rw [gRW, gRW, gRW, gRW, gRW, gRW, gRW, gWz0, gWz1, gWz2, gWz3, gWz4, gWz5]
  show (if gSame n sg a [109, 97, 110] = 3 then _ else if gSame n sg a [109, 97, 121] = 3 then _ else if gSame n sg a [98, 111, 111, 107] = 4 then _ else if gSame n sg a [119, 105, 115, 104] = 4 then _ else if gSame n sg a [104, 97, 115] = 3 then _ else if gSame n sg a [114, 117, 110] = 3 then _ else _) = _
  by_cases c0 : gSame n sg a [109, 97, 110] = 3
  · rw [if_pos c0, if_pos c0, c0]
  · rw [if_neg c0, if_neg c0]
    by_cases c1 : gSame n sg a [109, 97, 121] = 3
    · rw [if_pos c1, if_pos c1, c1]
    · rw [if_neg c1, if_neg c1]
      by_cases c2 : gSame n sg a [98, 111, 111, 107] = 4
      · rw [if_pos c2, if_pos c2, c2]
      · rw [if_neg c2, if_neg c2]
        by_cases c3 : gSame n sg a [119, 105, 115, 104] = 4
        · rw [if_pos c3, if_pos c3, c3]
        · rw [if_neg c3, if_neg c3]
          by_cases c4 : gSame n sg a [104, 97, 115] = 3
          · rw [if_pos c4, if_pos c4, c4]
          · rw [if_neg c4, if_neg c4]
            by_cases c5 : gSame n sg a [114, 117, 110] = 3
            · rw [if_pos c5, if_pos c5, c5]
            · rw [if_neg c5, if_neg c5]
section
variable {n a wd : Nat} {sg : Nat → Int32}
theorem gSame_z {x : Int32} {l : List Int32} (h : ¬ gSg n sg a = x) : gSame n sg a (x :: l) = 0 := by rw [gSame_cons, if_neg h]
theorem gSame_s {x : Int32} {l : List Int32} (h : gSg n sg a = x) : gSame n sg a (x :: l) = gSame n sg (a + 1) l + 1 := by rw [gSame_cons, if_pos h]
theorem gSame_nl : gSame n sg a [] = 0 := rfl
theorem gNe_of {x y : Int32} (h : gSg n sg a = x) (hxy : ¬ x = y) : ¬ gSg n sg a = y := fun e => hxy (h.symm.trans e)
theorem gRWd_none (h1 : ¬ gSg n sg a = 109) (h2 : ¬ gSg n sg a = 98) (h3 : ¬ gSg n sg a = 119) (h4 : ¬ gSg n sg a = 104) (h5 : ¬ gSg n sg a = 114) : gRWd n sg a wd = (false, a, wd) := by
  rw [gRWd_eq, gSame_z h1, gSame_z h1, gSame_z h2, gSame_z h3, gSame_z h4, gSame_z h5]
  rfl
theorem gRWd_m (h : gSg n sg a = 109) : gRWd n sg a wd = if gSg n sg (a + 1) = 97 then (if gSg n sg (a + 1 + 1) = 110 then (true, a + 3, 0) else if gSg n sg (a + 1 + 1) = 121 then (true, a + 3, 1) else (false, a + 2, wd)) else (false, a + 1, wd) := by
  rw [gRWd_eq, gSame_s h, gSame_s h, gSame_z (gNe_of h (show ¬ (109 : Int32) = 98 by decide)), gSame_z (gNe_of h (show ¬ (109 : Int32) = 119 by decide)), gSame_z (gNe_of h (show ¬ (109 : Int32) = 104 by decide)), gSame_z (gNe_of h (show ¬ (109 : Int32) = 114 by decide))]
  by_cases c1 : gSg n sg (a + 1) = 97
  · rw [if_pos c1, gSame_s c1, gSame_s c1]
    by_cases c2 : gSg n sg (a + 1 + 1) = 110
    · rw [if_pos c2, gSame_s c2, gSame_nl, if_pos rfl]
    · rw [if_neg c2, gSame_z c2, if_neg (by decide)]
      by_cases c3 : gSg n sg (a + 1 + 1) = 121
      · rw [if_pos c3, gSame_s c3, gSame_nl, if_pos rfl]
      · rw [if_neg c3, gSame_z c3, if_neg (by decide), if_neg (by decide), if_neg (by decide), if_neg (by decide), if_neg (by decide)]
        rfl
  · rw [if_neg c1, gSame_z c1, gSame_z c1, if_neg (by decide), if_neg (by decide), if_neg (by decide), if_neg (by decide), if_neg (by decide), if_neg (by decide)]
    rfl
theorem gRWd_b (h : gSg n sg a = 98) : gRWd n sg a wd = if gSame n sg (a + 1) [111, 111, 107] = 3 then (true, a + 4, 2) else (false, a + 1 + gSame n sg (a + 1) [111, 111, 107], wd) := by
  have hl := gSame_le (n := n) (sg := sg) (a := a + 1) (l := [111, 111, 107])
  rw [gRWd_eq, gSame_z (gNe_of h (show ¬ (98 : Int32) = 109 by decide)), gSame_z (gNe_of h (show ¬ (98 : Int32) = 109 by decide)), gSame_s h, gSame_z (gNe_of h (show ¬ (98 : Int32) = 119 by decide)), gSame_z (gNe_of h (show ¬ (98 : Int32) = 104 by decide)), gSame_z (gNe_of h (show ¬ (98 : Int32) = 114 by decide)), if_neg (by decide), if_neg (by decide)]
  by_cases c : gSame n sg (a + 1) [111, 111, 107] = 3
  · rw [if_pos c, if_pos (by omega)]
  · rw [if_neg c, if_neg (by omega), if_neg (by decide), if_neg (by decide), if_neg (by decide)]
    congr 2
    omega
theorem gRWd_w (h : gSg n sg a = 119) : gRWd n sg a wd = if gSame n sg (a + 1) [105, 115, 104] = 3 then (true, a + 4, 3) else (false, a + 1 + gSame n sg (a + 1) [105, 115, 104], wd) := by
  rw [gRWd_eq, gSame_z (gNe_of h (show ¬ (119 : Int32) = 109 by decide)), gSame_z (gNe_of h (show ¬ (119 : Int32) = 109 by decide)), gSame_z (gNe_of h (show ¬ (119 : Int32) = 98 by decide)), gSame_s h, gSame_z (gNe_of h (show ¬ (119 : Int32) = 104 by decide)), gSame_z (gNe_of h (show ¬ (119 : Int32) = 114 by decide)), if_neg (by decide), if_neg (by decide), if_neg (by decide)]
  by_cases c : gSame n sg (a + 1) [105, 115, 104] = 3
  · rw [if_pos c, if_pos (by omega)]
  · rw [if_neg c, if_neg (by omega), if_neg (by decide), if_neg (by decide)]
    congr 2
    omega
theorem gRWd_h (h : gSg n sg a = 104) : gRWd n sg a wd = if gSame n sg (a + 1) [97, 115] = 2 then (true, a + 3, 4) else (false, a + 1 + gSame n sg (a + 1) [97, 115], wd) := by
  rw [gRWd_eq, gSame_z (gNe_of h (show ¬ (104 : Int32) = 109 by decide)), gSame_z (gNe_of h (show ¬ (104 : Int32) = 109 by decide)), gSame_z (gNe_of h (show ¬ (104 : Int32) = 98 by decide)), gSame_z (gNe_of h (show ¬ (104 : Int32) = 119 by decide)), gSame_s h, gSame_z (gNe_of h (show ¬ (104 : Int32) = 114 by decide)), if_neg (by decide), if_neg (by decide), if_neg (by decide), if_neg (by decide)]
  by_cases c : gSame n sg (a + 1) [97, 115] = 2
  · rw [if_pos c, if_pos (by omega)]
  · rw [if_neg c, if_neg (by omega), if_neg (by decide)]
    congr 2
    omega
theorem gRWd_r (h : gSg n sg a = 114) : gRWd n sg a wd = if gSame n sg (a + 1) [117, 110] = 2 then (true, a + 3, 5) else (false, a + 1 + gSame n sg (a + 1) [117, 110], wd) := by
  rw [gRWd_eq, gSame_z (gNe_of h (show ¬ (114 : Int32) = 109 by decide)), gSame_z (gNe_of h (show ¬ (114 : Int32) = 109 by decide)), gSame_z (gNe_of h (show ¬ (114 : Int32) = 98 by decide)), gSame_z (gNe_of h (show ¬ (114 : Int32) = 119 by decide)), gSame_z (gNe_of h (show ¬ (114 : Int32) = 104 by decide)), gSame_s h, if_neg (by decide), if_neg (by decide), if_neg (by decide), if_neg (by decide), if_neg (by decide)]
  by_cases c : gSame n sg (a + 1) [117, 110] = 2
  · rw [if_pos c, if_pos (by omega)]
  · rw [if_neg c, if_neg (by omega)]
    congr 2
    omega
theorem gKz0 : (gKi_z 0).2.2.2 = [114] := rfl
theorem gKz1 : (gKi_z 1).2.2.2 = [112, 118] := rfl
theorem gKz2 : (gKi_z 2).2.2.2 = [112, 118, 100, 104] := rfl
theorem gKz3 : (gKi_z 3).2.2.2 = [112, 118] := rfl
theorem gKz4 : (gKi_z 4).2.2.2 = [118] := rfl
theorem gKz5 : (gKi_z 5).2.2.2 = [110] := rfl
theorem gRC_w {nm : Nat → Int32} {w x : Nat} (h : gRWd n sg a wd = (true, x, w)) : gRC n sg a wd nm = gRK n sg w (gKi_z w).2.2.2 0 x nm := by
  unfold gRC
  rw [h, if_pos rfl]
theorem gRC_b {nm : Nat → Int32} {w x : Nat} (h : gRWd n sg a wd = (false, x, w)) : gBadP n sg (gRC n sg a wd nm) x := by
  unfold gRC
  rw [h, if_neg Bool.false_ne_true]
  exact ⟨rfl, fun c => by cases c⟩
/-- the letters behind the first -/
theorem gWdP_y {l : List Int32} {u : Nat × Bool} (h : gWdP n sg a l u) (hg : u.2 = true) : gSame n sg a l = l.length ∧ u.1 = a + l.length := by
  rw [h] at hg
  have := of_decide_eq_true hg
  exact ⟨this, by rw [h]; show a + gSame n sg a l = _; rw [this]⟩
theorem gWdP_n {l : List Int32} {u : Nat × Bool} (h : gWdP n sg a l u) (hg : ¬ u.2 = true) : ¬ gSame n sg a l = l.length ∧ u.1 = a + gSame n sg a l := by
  rw [h] at hg
  exact ⟨fun c => hg (decide_eq_true c), by rw [h]⟩
end
/-! what may be tried, by numbers that are not below 0 -/
section
variable {S : gSt}
theorem gTime_iff {d h : Nat} (hT : sN S 0 < 1000000000) (hd : d < 1073741824) (hh : h < 1073741824) : (¬ nI d < nI (sN S 0) ∧ ¬ (9999 : Int32) < nI d ∧ ¬ nI h < 0 ∧ ¬ (8 : Int32) ≤ nI h) ↔ ((¬ nI d < nI (sN S 0) ∧ ¬ (9999 : Int32) < nI d) ∧ (¬ nI h < 0 ∧ ¬ (7 : Int32) < nI h)) := by
  have e7 : (7 : Int32).toInt = 7 := by decide
  have e8 : (8 : Int32).toInt = 8 := by decide
  simp only [Int32.lt_iff_toInt_lt, Int32.le_iff_toInt_le, nI_toInt (show h < 2147483648 by omega), e7, e8]
  omega
theorem gPair_iff {p v : Nat} (hp : p < 1000) (hv : v < 1000) (h8 : sN S 1 ≤ 8) : ((¬ nI p < 0 ∧ ¬ nI (sN S 1) ≤ nI p) ∧ (¬ nI v < 0 ∧ ¬ (10 : Int32) ≤ nI v)) ↔ (p < sN S 1 ∧ v < 10) := by
  have e10 : (10 : Int32).toInt = 10 := by decide
  have e0 : (0 : Int32).toInt = 0 := by decide
  simp only [Int32.lt_iff_toInt_lt, Int32.le_iff_toInt_le, nI_toInt (show p < 2147483648 by omega), nI_toInt (show v < 2147483648 by omega), nI_toInt (show sN S 1 < 2147483648 by omega), e10, e0]
  omega
theorem gTB_yes {p v d h : Nat} (h8 : sN S 1 ≤ 8) (hT : sN S 0 < 1000000000) (hp : p < sN S 1) (hv : v < 10) (hd : d < 1073741824) (hh : h < 1073741824) (ht : (¬ nI d < nI (sN S 0) ∧ ¬ (9999 : Int32) < nI d) ∧ (¬ nI h < 0 ∧ ¬ (7 : Int32) < nI h)) (hr : gRA S p v d h = 0) : gTryBook S (nI p) (nI v) (nI d) (nI h) = (nI (gFr (gVih (sB S) 2 d h (sB S).length)), gBook S p v d h) := by
  unfold gTryBook
  rw [if_pos ((gPair_iff (by omega) (by omega) h8).mpr ⟨hp, hv⟩), if_pos ((gTime_iff hT hd hh).mpr ht), nI_clamp (by omega), nI_clamp (by omega), nI_clamp (by omega), nI_clamp (by omega), if_pos hr]
theorem gTB_no {p v d h : Nat} (h8 : sN S 1 ≤ 8) (hT : sN S 0 < 1000000000) (hp : p < 1000) (hv : v < 1000) (hd : d < 1073741824) (hh : h < 1073741824) (hc : ¬ ((p < sN S 1 ∧ v < 10) ∧ ((¬ nI d < nI (sN S 0) ∧ ¬ (9999 : Int32) < nI d) ∧ (¬ nI h < 0 ∧ ¬ (7 : Int32) < nI h)) ∧ gRA S p v d h = 0)) : ∃ r, gTryBook S (nI p) (nI v) (nI d) (nI h) = (r, S) ∧ r < 0 := by
  unfold gTryBook
  rw [nI_clamp (by omega), nI_clamp (by omega), nI_clamp (by omega), nI_clamp (by omega)]
  split
  · rename_i c1
    split
    · rename_i c2
      split
      · rename_i c3
        exact absurd ⟨(gPair_iff hp hv h8).mp c1, (gTime_iff hT hd hh).mp c2, c3⟩ hc
      · exact ⟨-3, rfl, by decide⟩
    · exact ⟨-2, rfl, by decide⟩
  · exact ⟨-1, rfl, by decide⟩
theorem gTW_yes {p v : Nat} (h8 : sN S 1 ≤ 8) (hp : p < sN S 1) (hv : v < 10) (hc : gHb (sI S 1 p) (nI v) = true ∧ (sW S).length < 10) : gTryWish S (nI p) (nI v) = (nI ((sW S).length + 1), uW S (sW S ++ [10 * p + v])) := by
  unfold gTryWish
  rw [if_pos ((gPair_iff (by omega) (by omega) h8).mpr ⟨hp, hv⟩), nI_clamp (by omega), nI_clamp (by omega), if_pos hc.1, if_neg (by omega), List.length_append]
  rfl
theorem gTW_no {p v : Nat} (h8 : sN S 1 ≤ 8) (hp : p < 1000) (hv : v < 1000) (hc : ¬ ((p < sN S 1 ∧ v < 10) ∧ gHb (sI S 1 p) (nI v) = true ∧ (sW S).length < 10)) : ∃ r, gTryWish S (nI p) (nI v) = (r, S) ∧ r < 0 := by
  unfold gTryWish
  rw [nI_clamp (by omega), nI_clamp (by omega)]
  split
  · rename_i c1
    split
    · rename_i c2
      split
      · exact ⟨-3, rfl, by decide⟩
      · rename_i c3
        exact absurd ⟨(gPair_iff hp hv h8).mp c1, c2, by omega⟩ hc
    · exact ⟨-3, rfl, by decide⟩
  · exact ⟨-1, rfl, by decide⟩
theorem gTL_yes {p v : Nat} {b : Int32} (h8 : sN S 1 ≤ 8) (hp : p < sN S 1) (hv : v < 10) : gTryList S (nI p) (nI v) b = (gWb (sI S 1 p) (nI v) b, uI S 1 (upd (sI S 1) p (gWb (sI S 1 p) (nI v) b))) := by
  unfold gTryList
  rw [if_pos ((gPair_iff (by omega) (by omega) h8).mpr ⟨hp, hv⟩), nI_clamp (by omega)]
theorem gTL_no {p v : Nat} {b : Int32} (h8 : sN S 1 ≤ 8) (hp : p < 1000) (hv : v < 1000) (hc : ¬ (p < sN S 1 ∧ v < 10)) : gTryList S (nI p) (nI v) b = (-1, S) := by
  unfold gTryList
  rw [if_neg (fun c => hc ((gPair_iff hp hv h8).mp c))]
theorem gTL_nn {p v : Nat} {b : Int32} (h : gI3 S) (hp : p < 8) (hv : v < 10) : ¬ gWb (sI S 1 p) (nI v) b < 0 := by
  apply gHb_neg
  rw [gHb_wb (by decide) (by omega), if_neg (by omega)]
  exact (h.2.1 p hp).1 31 (by decide) (by decide)
theorem gTC_yes {v : Nat} {b : Int32} (hv : v < 10) : gTryCarry S (nI v) b = (gWb (sI S 9 0) (nI v) b, uI S 9 (fun _ => gWb (sI S 9 0) (nI v) b)) := by
  unfold gTryCarry
  have e10 : (10 : Int32).toInt = 10 := by decide
  rw [if_pos]
  exact ⟨nI_pos (by omega), by rw [Int32.le_iff_toInt_le, nI_toInt (by omega), e10]; omega⟩
theorem gTC_nn {v : Nat} {b : Int32} (h : gI3 S) (hv : v < 10) : ¬ gWb (sI S 9 0) (nI v) b < 0 := by
  apply gHb_neg
  rw [gHb_wb (by decide) (by omega), if_neg (by omega)]
  exact gI2_cb h.1 31 (by decide) (by decide)
theorem gTA_yes {j : Nat} (hj : j ≤ 3) (hn : sN S 1 < 8) : gTryAdd S (nI j) = (nI (sN S 1), uN (uI S 0 (upd (sI S 0) (sN S 1) (nI j))) 1 (sN S 1 + 1)) := by
  unfold gTryAdd
  rw [if_pos, if_pos hn]
  have e3 : (3 : Int32).toInt = 3 := by decide
  exact ⟨nI_pos (by omega), by rw [Int32.lt_iff_toInt_lt, nI_toInt (by omega), e3]; omega⟩
theorem gTA_no {j : Nat} (hj : j ≤ 3) (hn : ¬ sN S 1 < 8) : gTryAdd S (nI j) = (-3, S) := by
  unfold gTryAdd
  rw [if_pos, if_neg hn]
  have e3 : (3 : Int32).toInt = 3 := by decide
  exact ⟨nI_pos (by omega), by rw [Int32.lt_iff_toInt_lt, nI_toInt (by omega), e3]; omega⟩
theorem gDoE_0 {nm : Nat → Int32} : gDo S 0 nm = gTryAdd S (nm 0) := rfl
theorem gDoE_1 {nm : Nat → Int32} : gDo S 1 nm = gTryList S (nm 0) (nm 1) 1 := rfl
theorem gDoE_2 {nm : Nat → Int32} : gDo S 2 nm = gTryBook S (nm 0) (nm 1) (nm 2) (nm 3) := rfl
theorem gDoE_3 {nm : Nat → Int32} : gDo S 3 nm = gTryWish S (nm 0) (nm 1) := rfl
theorem gDoE_4 {nm : Nat → Int32} : gDo S 4 nm = gTryCarry S (nm 0) 1 := rfl
theorem gDoE_5 {nm : Nat → Int32} {j : Nat} (h : nm 0 = nI j) (hj : j ≤ 30) : gDo S 5 nm = (sI (gDays j S) 8 0 - sI S 8 0, gDays j S) := by
  have e : (nm 0).toNatClampNeg = j := by rw [h]; exact nI_clamp (by omega)
  show (sI (gDays (nm 0).toNatClampNeg S) 8 0 - sI S 8 0, gDays (nm 0).toNatClampNeg S) = _
  rw [e]
theorem gI3_do (h : gI3 S) (hT : sN S 0 + 30 < 200000000) (wd : Nat) (nm : Nat → Int32) (h5 : wd = 5 → (nm 0).toNatClampNeg ≤ 30) (hw : wd < 6) : gI3 (gDo S wd nm).2 := by
  unfold gDo
  split
  · exact gI3_tryAdd h _
  · split
    · exact gI3_tryList h _ _ _
    · split
      · exact gI3_tryBook h _ _ _ _ (by omega)
      · split
        · exact gI3_tryWish h _ _
        · split
          · exact gI3_tryCarry h _ _
          · have := h5 (by omega)
            exact gI3_days _ h (by omega)
end
