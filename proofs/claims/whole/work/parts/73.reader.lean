/-! ===== the reference's reader ===== -/
def gDg (n : Nat) (sg : Nat → Int32) (a : Nat) : Int32 := if a < n then (if (¬ sg a - 48 < 0 ∧ ¬ 9 < sg a - 48) then sg a - 48 else -1) else -1
/-- a digit stands there -/
def gDgt (n : Nat) (sg : Nat → Int32) (a : Nat) : Prop := a < n ∧ ¬ sg a < 48 ∧ ¬ 57 < sg a
theorem gDg_rng {s : Int32} : (¬ s - 48 < 0 ∧ ¬ 9 < s - 48) ↔ (¬ s < 48 ∧ ¬ 57 < s) := by
  have h48 : (48 : Int32).toInt = 48 := by decide
  have h57 : (57 : Int32).toInt = 57 := by decide
  have h0 : (0 : Int32).toInt = 0 := by decide
  have h9 : (9 : Int32).toInt = 9 := by decide
  have hl := Int32.le_toInt s
  have hu := Int32.toInt_lt s
  simp only [Int32.lt_iff_toInt_lt, Int32.toInt_sub, h48, h57, h0, h9]
  rw [Int.bmod_def]
  omega
theorem gDg_no {n a : Nat} {sg : Nat → Int32} : gDg n sg a = -1 ↔ ¬ gDgt n sg a := by
  unfold gDg gDgt
  by_cases c : a < n
  · rw [if_pos c]
    by_cases c2 : (¬ sg a - 48 < 0 ∧ ¬ 9 < sg a - 48)
    · rw [if_pos c2]
      refine ⟨fun e => absurd e ?_, fun h => absurd ⟨c, gDg_rng.mp c2⟩ h⟩
      intro e
      rw [e] at c2
      exact c2.1 (by decide)
    · rw [if_neg c2]
      exact ⟨fun _ h => c2 (gDg_rng.mpr h.2), fun _ => rfl⟩
  · rw [if_neg c]
    exact ⟨fun _ h => c h.1, fun _ => rfl⟩
theorem gDgt_of {n a : Nat} {sg : Nat → Int32} (h : ¬ gDg n sg a = -1) : gDgt n sg a := Classical.byContradiction fun q => h (gDg_no.mpr q)
theorem gDg_yes {n a : Nat} {sg : Nat → Int32} (h : gDgt n sg a) : gDg n sg a = sg a - 48 := by
  unfold gDg
  rw [if_pos h.1, if_pos (gDg_rng.mpr h.2)]
theorem gWD_no {n a : Nat} {sg : Nat → Int32} {v : Int32} (h : ¬ gDgt n sg a) (ha : a < n) : gWD v (gSg n sg a) = -1 := by
  unfold gWD
  rw [gSg, if_pos ha]
  by_cases c : sg a < 48
  · rw [if_pos c]
  · rw [if_neg c, if_pos (Decidable.not_not.mp fun c2 => h ⟨ha, c, c2⟩)]
theorem gWD_first {n a : Nat} {sg : Nat → Int32} (h : gDgt n sg a) : gWD (-1) (gSg n sg a) = gDg n sg a := by
  rw [gDg_yes h, gSg, if_pos h.1, gWD, if_neg h.2.1, if_neg h.2.2, if_neg (by decide), if_pos rfl, Int32.zero_add]
theorem gWD_more {n a : Nat} {sg : Nat → Int32} {v : Int32} (h : gDgt n sg a) (hv : 0 < v) : gWD v (gSg n sg a) = 10 * v + gDg n sg a := by
  have h1 : ¬ v = 0 := fun e => by rw [e] at hv; exact absurd hv (by decide)
  have h2 : ¬ v = -1 := fun e => by rw [e] at hv; exact absurd hv (by decide)
  rw [gDg_yes h, gSg, if_pos h.1, gWD, if_neg h.2.1, if_neg h.2.2, if_neg h1, if_neg h2, Int32.sub_eq_add_neg, Int32.sub_eq_add_neg, Int32.add_assoc]
theorem gWD_zero {n a : Nat} {sg : Nat → Int32} : gWD 0 (gSg n sg a) = -1 := by
  unfold gWD
  split
  · rfl
  · split
    · rfl
    · rw [if_pos rfl]
/-- what number answers and where it leaves reading, against the class's number -/
def gNumP (n : Nat) (sg : Nat → Int32) (a : Nat) (g : Bool) (k : Int32) (u : Nat × Bool) (r : Int32) : Prop :=
  (g = false → u = (a, false)) ∧ (g = true → (¬ gSg n sg a = 44 → u = (a, false)) ∧ (gSg n sg a = 44 → u.1 = (gRNum n sg (a + 1) k).1 ∧ ((gRNum n sg (a + 1) k).2 = -1 → u.2 = false) ∧ (¬ (gRNum n sg (a + 1) k).2 = -1 → (u.2 = true ∧ r = (gRNum n sg (a + 1) k).2) ∨ (u.2 = false ∧ gDgt n sg u.1))))
/-- the loop of number -/
def gNumI (n : Nat) (sg : Nat → Int32) (a : Nat) (k : Int32) (x : Nat) (g : Bool) (v : Int32) : Prop :=
  (g = false → ∀ r, gNumP n sg a true k (x, false) r) ∧ (g = true → gSg n sg a = 44 ∧ (¬ v < gLe k ∧ ¬ gMo k < v) ∧ x ≤ n ∧ gRN n sg (gLe k) (gMo k) (n - x) x v = gRNum n sg (a + 1) k)
theorem gLe_0 (k : Int32) : ¬ gLe k < 0 := by unfold gLe; split <;> decide
theorem gLe_m (k : Int32) : -1 < gLe k := by unfold gLe; split <;> decide
theorem gRN_stop {n x : Nat} {sg : Nat → Int32} {lo hi v : Int32} (h : x < n → ¬ (¬ gWD v (gSg n sg x) < lo ∧ ¬ hi < gWD v (gSg n sg x))) : gRN n sg lo hi (n - x) x v = (x, v) := by
  rcases Nat.lt_or_ge x n with c | c
  · exact gRN_no c (h c) rfl
  · rw [show n - x = 0 by omega]
    rfl
theorem gNumI_0 {n a : Nat} {sg : Nat → Int32} {k : Int32} (h : ¬ gSg n sg a = 44) (v : Int32) : gNumI n sg a k a false v :=
  ⟨fun _ r => ⟨fun c => (by cases c), fun _ => ⟨fun _ => rfl, fun c => absurd c h⟩⟩, fun c => by cases c⟩
theorem gNumI_1 {n a : Nat} {sg : Nat → Int32} {k : Int32} (h : gSg n sg a = 44) (h2 : ¬ (¬ gDg n sg (a + 1) = -1 ∧ ¬ gDg n sg (a + 1) < gLe k ∧ ¬ gMo k < gDg n sg (a + 1))) (v : Int32) : gNumI n sg a k (a + 1) false v := by
  have e : gRNum n sg (a + 1) k = (a + 1, -1) := by
    refine gRN_stop fun ha c => ?_
    by_cases d : gDgt n sg (a + 1)
    · rw [gWD_first d] at c
      exact h2 ⟨fun q => gDg_no.mp q d, c.1, c.2⟩
    · rw [gWD_no d ha] at c
      exact c.1 (gLe_m k)
  refine ⟨fun _ r => ⟨fun c => (by cases c), fun _ => ⟨fun c => absurd h c, fun _ => ?_⟩⟩, fun c => (by cases c)⟩
  rw [e]
  exact ⟨rfl, fun _ => rfl, fun c => absurd rfl c⟩
theorem gNumI_2 {n a : Nat} {sg : Nat → Int32} {k : Int32} (h : gSg n sg a = 44) (h2 : ¬ gDg n sg (a + 1) = -1 ∧ ¬ gDg n sg (a + 1) < gLe k ∧ ¬ gMo k < gDg n sg (a + 1)) : gNumI n sg a k (a + 1 + 1) true (gDg n sg (a + 1)) := by
  have d : gDgt n sg (a + 1) := gDgt_of h2.1
  refine ⟨fun c => (by cases c), fun _ => ⟨h, h2.2, by have := d.1; omega, ?_⟩⟩
  have e := gWD_first d
  rw [← e]
  exact gRN_yes d.1 (by rw [e]; exact h2.2) rfl
theorem gNumI_3 {n a x : Nat} {sg : Nat → Int32} {k v : Int32} (hi : gNumI n sg a k x true v) (hv : 0 < v) (d : gDgt n sg x) (h : gMo k < 10 * v + gDg n sg x) (w : Int32) : gNumI n sg a k x false w := by
  obtain ⟨h44, hr, hx, e⟩ := hi.2 rfl
  rw [gRN_stop (fun _ c => c.2 (by rw [gWD_more d hv]; exact h))] at e
  have hne : ¬ v = -1 := fun q => by rw [q] at hv; exact absurd hv (by decide)
  refine ⟨fun _ r => ⟨fun c => (by cases c), fun _ => ⟨fun c => absurd h44 c, fun _ => ?_⟩⟩, fun c => (by cases c)⟩
  rw [← e]
  exact ⟨rfl, fun c => absurd c hne, fun _ => Or.inr ⟨rfl, d⟩⟩
theorem gRng_more {k v d : Int32} (hk : gLe k = 0 ∨ gLe k = 1) (hm : ¬ 99 < gMo k) (hr : ¬ gMo k < v) (hv : 0 < v) (hd : ¬ d < 0 ∧ ¬ 9 < d) : ¬ 10 * v + d < gLe k := by
  have h0 : (0 : Int32).toInt = 0 := by decide
  have h9 : (9 : Int32).toInt = 9 := by decide
  have h10 : (10 : Int32).toInt = 10 := by decide
  have h99 : (99 : Int32).toInt = 99 := by decide
  have h1 : (1 : Int32).toInt = 1 := by decide
  have hlk : (gLe k).toInt ≤ 1 := by rcases hk with q | q <;> rw [q] <;> decide
  simp only [Int32.lt_iff_toInt_lt, h0, h9, h99] at hm hr hv hd
  have hm10 : (10 * v).toInt = 10 * v.toInt := by rw [Int32.toInt_mul, h10, Int.bmod_eq_of_le (by omega) (by omega)]
  rw [Int32.lt_iff_toInt_lt, Int32.toInt_add, hm10, Int.bmod_eq_of_le (by omega) (by omega)]
  omega
theorem gLe_01 (k : Int32) : gLe k = 0 ∨ gLe k = 1 := by
  unfold gLe
  split
  · exact Or.inr rfl
  · exact Or.inl rfl
theorem gMo_99 (k : Int32) : ¬ 99 < gMo k := by
  unfold gMo
  split
  · decide
  · split
    · decide
    · split
      · decide
      · split
        · decide
        · split <;> decide
theorem gNumI_4 {n a x : Nat} {sg : Nat → Int32} {k v : Int32} (hi : gNumI n sg a k x true v) (hv : 0 < v) (d : gDgt n sg x) (h : ¬ gMo k < 10 * v + gDg n sg x) : gNumI n sg a k (x + 1) true (10 * v + gDg n sg x) := by
  obtain ⟨h44, hr, hx, e⟩ := hi.2 rfl
  have e2 := gWD_more d hv
  have hd : ¬ gDg n sg x < 0 ∧ ¬ 9 < gDg n sg x := by
    rw [gDg_yes d]
    exact gDg_rng.mpr d.2
  have hlo := gRng_more (gLe_01 k) (gMo_99 k) hr.2 hv hd
  refine ⟨fun c => (by cases c), fun _ => ⟨h44, ⟨hlo, h⟩, by have := d.1; omega, ?_⟩⟩
  rw [← e, ← e2]
  exact gRN_yes d.1 (by rw [e2]; exact ⟨hlo, h⟩) rfl
theorem gNumI_5 {n a x : Nat} {sg : Nat → Int32} {k v : Int32} (hi : gNumI n sg a k x true v) (h : ¬ 0 < v ∨ ¬ gDgt n sg x) : gNumP n sg a true k (x, true) v := by
  obtain ⟨h44, hr, hx, e⟩ := hi.2 rfl
  have hne : ¬ v = -1 := fun q => by rw [q] at hr; exact hr.1 (gLe_m k)
  have hnl : ¬ v < 0 := by
    intro c
    have := gLe_0 k
    have h1 := hr.1
    rw [Int32.lt_iff_toInt_lt] at *
    omega
  have e2 : gRN n sg (gLe k) (gMo k) (n - x) x v = (x, v) := by
    refine gRN_stop fun ha c => ?_
    rcases h with q | q
    · have e0 : v = 0 := by
        rw [Int32.lt_iff_toInt_lt] at q hnl
        apply Int32.toInt_inj.mp
        rw [show (0 : Int32).toInt = 0 by decide] at *
        omega
      rw [e0, gWD_zero] at c
      exact c.1 (gLe_m k)
    · rw [gWD_no q ha] at c
      exact c.1 (gLe_m k)
  rw [e2] at e
  refine ⟨fun c => (by cases c), fun _ => ⟨fun c => absurd h44 c, fun _ => ?_⟩⟩
  rw [← e]
  exact ⟨rfl, fun c => absurd c hne, fun _ => Or.inl ⟨rfl, rfl⟩⟩
theorem gNumP_0 {n a : Nat} {sg : Nat → Int32} {k r : Int32} : gNumP n sg a false k (a, false) r := ⟨fun _ => rfl, fun c => by cases c⟩
/-- where word leaves reading -/
def gWdP (n : Nat) (sg : Nat → Int32) (a : Nat) (l : List Int32) (u : Nat × Bool) : Prop := u = (a + gSame n sg a l, decide (gSame n sg a l = l.length))
theorem gSg_lt {n a : Nat} {sg : Nat → Int32} {c : Int32} (h : gSg n sg a = c) (hc : ¬ c = -1) : a < n := by
  rcases Nat.lt_or_ge a n with q | q
  · exact q
  · rw [gSg, if_neg (by omega)] at h
    exact absurd h.symm hc
set_option maxHeartbeats 4000000 in
set_option maxRecDepth 100000 in
theorem mX8_isNext (G : gG) (m : Nat → Nat) (q : Nat → Int32) (n a : Nat) (sg : Nat → Int32) (c : Int32) (hn12 : n ≤ 120) (ha : a ≤ n) (hc : ¬ c = -1) : CIe G yX8_isNext wsX8_isNext 0 0 [.ref (m 0), .int c] [(m 0, .inr (8, [.int (q 0), .ref (m 1), .int (nI n), .int (nI a), .int (q 3), .int (q 4), .ref (m 2), .ref (m 3), .ref (m 4), .ref (m 5), .int (q 5), .ref (m 6), .ref (m 7), .ref (m 8), .int (q 6), .int (q 7), .int (q 8)])), (m 1, .inl (gy G 0, 120, .inl sg))] (if gSg n sg a = c then 1 else 0) [(m 0, .inr (8, [.int (q 0), .ref (m 1), .int (nI n), .int (nI a), .int (q 3), .int (q 4), .ref (m 2), .ref (m 3), .ref (m 4), .ref (m 5), .int (q 5), .ref (m 6), .ref (m 7), .ref (m 8), .int (q 6), .int (q 7), .int (q 8)])), (m 1, .inl (gy G 0, 120, .inl sg))] 0 0 := by
  refine g_enterIe (ty := .boolean) RX8 rfl (by decide) rfl (Nat.le_of_ble_eq_true rfl) ?_
  intro V E RET
  refine g_aload_n E dX8_isNext_0 rfl 0 rfl ?_
  refine g_get E uX8_isNext_RX8 0 rfl rfl 3 (by decide) kX8_isNext_155 rfl rfl dX8_isNext_1 ?_
  refine g_aload_n E dX8_isNext_4 rfl 0 rfl ?_
  refine g_get E uX8_isNext_RX8 0 rfl rfl 2 (by decide) kX8_isNext_148 rfl rfl dX8_isNext_5 ?_
  refine g_icmp_geN (tgt := 28) (a := a) (b := n) E dX8_isNext_8 (by decide) (by omega) (by omega) (fun c1 => ?_) (fun c1 => ?_)
  · skip
    have e9 : gSg n sg a = -1 := by rw [gSg, if_neg (by omega)]
    refine g_iconst (v := 0) E dX8_isNext_28 (by decide) ?_
    exact RET _ _ _ () (by rw [e9, if_neg (fun q => hc q.symm)]) rfl dX8_isNext_29
  · skip
    have e9 : gSg n sg a = sg a := by rw [gSg, if_pos (by omega)]
    refine g_aload_n E dX8_isNext_11 rfl 0 rfl ?_
    refine g_get E uX8_isNext_RX8 0 rfl rfl 1 (by decide) kX8_isNext_7 rfl rfl dX8_isNext_12 ?_
    refine g_aload_n E dX8_isNext_15 rfl 0 rfl ?_
    refine g_get E uX8_isNext_RX8 0 rfl rfl 3 (by decide) kX8_isNext_155 rfl rfl dX8_isNext_16 ?_
    refine g_ialdN (e := a) E 1 rfl (by omega) rfl (v := sg a) rfl dX8_isNext_19 ?_
    refine g_iload_n E dX8_isNext_20 rfl 1 rfl ?_
    refine g_icmp_ne (tgt := 28) E dX8_isNext_21 (by decide) (fun c2 => ?_) (fun c2 => ?_)
    · skip
      refine g_iconst (v := 0) E dX8_isNext_28 (by decide) ?_
      exact RET _ _ _ () (by rw [e9]; simp [c1, c2]) rfl dX8_isNext_29
    · skip
      refine g_iconst (v := 1) E dX8_isNext_24 (by decide) ?_
      refine g_goto (tgt := 29) E dX8_isNext_25 (by decide) ?_
      exact RET _ _ _ () (by rw [e9]; simp [c1, c2]) rfl dX8_isNext_29

set_option maxHeartbeats 4000000 in
set_option maxRecDepth 100000 in
theorem mX8_digit (G : gG) (m : Nat → Nat) (q : Nat → Int32) (n a : Nat) (sg : Nat → Int32) (hn12 : n ≤ 120) (ha : a ≤ n) : CIe G yX8_digit wsX8_digit 1 25 [.ref (m 0)] [(m 0, .inr (8, [.int (q 0), .ref (m 1), .int (nI n), .int (nI a), .int (q 3), .int (q 4), .ref (m 2), .ref (m 3), .ref (m 4), .ref (m 5), .int (q 5), .ref (m 6), .ref (m 7), .ref (m 8), .int (q 6), .int (q 7), .int (q 8)])), (m 1, .inl (gy G 0, 120, .inl sg))] (gDg n sg a) [(m 0, .inr (8, [.int (q 0), .ref (m 1), .int (nI n), .int (nI a), .int (q 3), .int (q 4), .ref (m 2), .ref (m 3), .ref (m 4), .ref (m 5), .int (q 5), .ref (m 6), .ref (m 7), .ref (m 8), .int (q 6), .int (q 7), .int (q 8)])), (m 1, .inl (gy G 0, 120, .inl sg))] 0 0 := by
  refine g_enterIe (ty := .int) RX8 rfl (by decide) rfl (Nat.le_of_ble_eq_true rfl) ?_
  intro V E RET
  refine g_aload_n E dX8_digit_0 rfl 0 rfl ?_
  refine g_get E uX8_digit_RX8 0 rfl rfl 3 (by decide) kX8_digit_155 rfl rfl dX8_digit_1 ?_
  refine g_aload_n E dX8_digit_4 rfl 0 rfl ?_
  refine g_get E uX8_digit_RX8 0 rfl rfl 2 (by decide) kX8_digit_148 rfl rfl dX8_digit_5 ?_
  refine g_icmp_geN (tgt := 26) (a := a) (b := n) E dX8_digit_8 (by decide) (by omega) (by omega) (fun c1 => ?_) (fun c1 => ?_)
  · skip
    have e9 : gDg n sg a = -1 := by rw [gDg, if_neg (by omega)]
    refine g_iconst (v := (-1)) E dX8_digit_26 (by decide) ?_
    refine g_istore_n (lv' := [(1, .int (-1 : Int32)), (0, .ref (m 0))]) E dX8_digit_27 rfl (by decide) rfl ?_
    refine g_iload_n E dX8_digit_28 rfl 0 rfl ?_
    refine g_i2l (v := (-1 : Int32).toInt64) E dX8_digit_29 rfl ?_
    refine g_lconst (v := 0) E dX8_digit_30 (by decide) ?_
    refine g_ldc2 (v := 9) E kX8_digit_162 dX8_digit_31 ?_
    refine g_callSIe (F := [(m 0, .inr (8, [.int (q 0), .ref (m 1), .int (nI n), .int (nI a), .int (q 3), .int (q 4), .ref (m 2), .ref (m 3), .ref (m 4), .ref (m 5), .int (q 5), .ref (m 6), .ref (m 7), .ref (m 8), .int (q 6), .int (q 7), .int (q 8)])), (m 1, .inl (gy G 0, 120, .inl sg))]) (ws2 := [(m 0, .inr (8, [.int (q 0), .ref (m 1), .int (nI n), .int (nI a), .int (q 3), .int (q 4), .ref (m 2), .ref (m 3), .ref (m 4), .ref (m 5), .int (q 5), .ref (m 6), .ref (m 7), .ref (m 8), .int (q 6), .int (q 7), .int (q 8)])), (m 1, .inl (gy G 0, 120, .inl sg))]) E (g_resI (gIn64 (lo := 0) (hi := 9) rfl rfl) (mX8_in G ((-1 : Int32).toInt64) 0 9)) gX8_digit_X8_in rfl hnX8_in ⟨Nat.le_of_ble_eq_true rfl, Nat.le_of_ble_eq_true rfl⟩ (gPerm_ix [0, 1] rfl rfl) rfl rfl (Nat.le_of_ble_eq_true rfl) dX8_digit_34 ⟨Nat.le_of_ble_eq_true rfl, Nat.le_of_ble_eq_true rfl⟩ (gPerm_ix [0, 1] rfl rfl) ?_
    refine g_if_eqB (tgt := 44) (P := (¬ (-1 : Int32) < 0 ∧ ¬ 9 < (-1 : Int32))) E dX8_digit_37 (by decide) (fun c2 => ?_) (fun c2 => ?_)
    · skip
      try rw [if_neg c2] at e9
      refine g_iconst (v := (-1)) E dX8_digit_44 (by decide) ?_
      exact RET _ _ _ () (by first | exact e9.symm | rfl) rfl dX8_digit_45
    · skip
      try rw [if_pos c2] at e9
      refine g_iload_n E dX8_digit_40 rfl 0 rfl ?_
      refine g_goto (tgt := 45) E dX8_digit_41 (by decide) ?_
      exact RET _ _ _ () (by first | exact e9.symm | rfl) rfl dX8_digit_45
  · skip
    have e9 : gDg n sg a = if (¬ sg a - 48 < 0 ∧ ¬ 9 < sg a - 48) then sg a - 48 else -1 := by rw [gDg, if_pos (by omega)]
    refine g_aload_n E dX8_digit_11 rfl 0 rfl ?_
    refine g_get E uX8_digit_RX8 0 rfl rfl 1 (by decide) kX8_digit_7 rfl rfl dX8_digit_12 ?_
    refine g_aload_n E dX8_digit_15 rfl 0 rfl ?_
    refine g_get E uX8_digit_RX8 0 rfl rfl 3 (by decide) kX8_digit_155 rfl rfl dX8_digit_16 ?_
    refine g_ialdN (e := a) E 1 rfl (by omega) rfl (v := sg a) rfl dX8_digit_19 ?_
    refine g_bipush (v := 48) E dX8_digit_20 (by decide) ?_
    refine g_isub E dX8_digit_22 ?_
    refine g_goto (tgt := 27) E dX8_digit_23 (by decide) ?_
    refine g_istore_n (lv' := [(1, .int ((sg a) - 48)), (0, .ref (m 0))]) E dX8_digit_27 rfl (by decide) rfl ?_
    refine g_iload_n E dX8_digit_28 rfl 0 rfl ?_
    refine g_i2l (v := ((sg a) - 48).toInt64) E dX8_digit_29 rfl ?_
    refine g_lconst (v := 0) E dX8_digit_30 (by decide) ?_
    refine g_ldc2 (v := 9) E kX8_digit_162 dX8_digit_31 ?_
    refine g_callSIe (F := [(m 0, .inr (8, [.int (q 0), .ref (m 1), .int (nI n), .int (nI a), .int (q 3), .int (q 4), .ref (m 2), .ref (m 3), .ref (m 4), .ref (m 5), .int (q 5), .ref (m 6), .ref (m 7), .ref (m 8), .int (q 6), .int (q 7), .int (q 8)])), (m 1, .inl (gy G 0, 120, .inl sg))]) (ws2 := [(m 0, .inr (8, [.int (q 0), .ref (m 1), .int (nI n), .int (nI a), .int (q 3), .int (q 4), .ref (m 2), .ref (m 3), .ref (m 4), .ref (m 5), .int (q 5), .ref (m 6), .ref (m 7), .ref (m 8), .int (q 6), .int (q 7), .int (q 8)])), (m 1, .inl (gy G 0, 120, .inl sg))]) E (g_resI (gIn64 (lo := 0) (hi := 9) rfl rfl) (mX8_in G (((sg a) - 48).toInt64) 0 9)) gX8_digit_X8_in rfl hnX8_in ⟨Nat.le_of_ble_eq_true rfl, Nat.le_of_ble_eq_true rfl⟩ (gPerm_ix [0, 1] rfl rfl) rfl rfl (Nat.le_of_ble_eq_true rfl) dX8_digit_34 ⟨Nat.le_of_ble_eq_true rfl, Nat.le_of_ble_eq_true rfl⟩ (gPerm_ix [0, 1] rfl rfl) ?_
    refine g_if_eqB (tgt := 44) (P := (¬ ((sg a) - 48) < 0 ∧ ¬ 9 < ((sg a) - 48))) E dX8_digit_37 (by decide) (fun c3 => ?_) (fun c3 => ?_)
    · skip
      try rw [if_neg c3] at e9
      refine g_iconst (v := (-1)) E dX8_digit_44 (by decide) ?_
      exact RET _ _ _ () (by first | exact e9.symm | rfl) rfl dX8_digit_45
    · skip
      try rw [if_pos c3] at e9
      refine g_iload_n E dX8_digit_40 rfl 0 rfl ?_
      refine g_goto (tgt := 45) E dX8_digit_41 (by decide) ?_
      exact RET _ _ _ () (by first | exact e9.symm | rfl) rfl dX8_digit_45

set_option maxHeartbeats 4000000 in
set_option maxRecDepth 100000 in
theorem mX8_accept0 (G : gG) (m : Nat → Nat) (q : Nat → Int32) (x : Int32)  : CVe G yX8_accept wsX8_accept 0 0 [.ref (m 0), .int x] [(m 0, .inr (8, [.int (q 0), .ref (m 1), .int (q 1), .int (q 2), .int 0, .int (q 4), .ref (m 2), .ref (m 3), .ref (m 4), .ref (m 5), .int (q 5), .ref (m 6), .ref (m 7), .ref (m 8), .int (q 6), .int (q 7), .int (q 8)]))]  [(m 0, .inr (8, [.int (q 0), .ref (m 1), .int (q 1), .int (q 2), .int 0, .int (q 4), .ref (m 2), .ref (m 3), .ref (m 4), .ref (m 5), .int (q 5), .ref (m 6), .ref (m 7), .ref (m 8), .int (q 6), .int (q 7), .int (q 8)]))] 0 0 := by
  refine g_enterVe RX8 rfl (by decide) rfl (Nat.le_of_ble_eq_true rfl) ?_
  intro V E RET
  refine g_aload_n E dX8_accept_0 rfl 0 rfl ?_
  refine g_aload_n E dX8_accept_1 rfl 0 rfl ?_
  refine g_get E uX8_accept_RX8 0 rfl rfl 4 (by decide) kX8_accept_158 rfl rfl dX8_accept_2 ?_
  refine g_if_eq (tgt := 16) E dX8_accept_5 (by decide) (fun _ => ?_) (fun c => absurd c (by decide))
  refine g_iconst (v := 0) E dX8_accept_16 (by decide) ?_
  refine g_put (ws' := [(m 0, .inr (8, [.int (q 0), .ref (m 1), .int (q 1), .int (q 2), .int 0, .int (q 4), .ref (m 2), .ref (m 3), .ref (m 4), .ref (m 5), .int (q 5), .ref (m 6), .ref (m 7), .ref (m 8), .int (q 6), .int (q 7), .int (q 8)]))]) E uX8_accept_RX8 tyX8 tyX8_ok nmX8 0 rfl rfl 4 (by decide) kX8_accept_158 rfl rfl rfl rfl (Nat.le_of_ble_eq_true rfl) rfl dX8_accept_17 ?_
  refine g_aload_n E dX8_accept_20 rfl 0 rfl ?_
  refine g_dup E dX8_accept_21 rfl ?_
  refine g_get E uX8_accept_RX8 0 rfl rfl 3 (by decide) kX8_accept_155 rfl rfl dX8_accept_22 ?_
  refine g_aload_n E dX8_accept_25 rfl 0 rfl ?_
  refine g_get E uX8_accept_RX8 0 rfl rfl 4 (by decide) kX8_accept_158 rfl rfl dX8_accept_26 ?_
  refine g_if_eq (tgt := 36) E dX8_accept_29 (by decide) (fun _ => ?_) (fun c => absurd c (by decide))
  refine g_iconst (v := 0) E dX8_accept_36 (by decide) ?_
  refine g_iadd E dX8_accept_37 ?_
  refine g_top (y := q 2) (Int32.add_zero _) ?_
  refine g_put (ws' := [(m 0, .inr (8, [.int (q 0), .ref (m 1), .int (q 1), .int (q 2), .int 0, .int (q 4), .ref (m 2), .ref (m 3), .ref (m 4), .ref (m 5), .int (q 5), .ref (m 6), .ref (m 7), .ref (m 8), .int (q 6), .int (q 7), .int (q 8)]))]) E uX8_accept_RX8 tyX8 tyX8_ok nmX8 0 rfl rfl 3 (by decide) kX8_accept_155 rfl rfl rfl rfl (Nat.le_of_ble_eq_true rfl) rfl dX8_accept_38 ?_
  exact RET _ _ () (trivial) dX8_accept_41

set_option maxHeartbeats 4000000 in
set_option maxRecDepth 100000 in
theorem mX8_acceptY (G : gG) (m : Nat → Nat) (q : Nat → Int32) (a : Nat)  : CVe G yX8_accept wsX8_accept 0 0 [.ref (m 0), .int 1] [(m 0, .inr (8, [.int (q 0), .ref (m 1), .int (q 1), .int (nI a), .int 1, .int (q 4), .ref (m 2), .ref (m 3), .ref (m 4), .ref (m 5), .int (q 5), .ref (m 6), .ref (m 7), .ref (m 8), .int (q 6), .int (q 7), .int (q 8)]))]  [(m 0, .inr (8, [.int (q 0), .ref (m 1), .int (q 1), .int (nI (a + 1)), .int 1, .int (q 4), .ref (m 2), .ref (m 3), .ref (m 4), .ref (m 5), .int (q 5), .ref (m 6), .ref (m 7), .ref (m 8), .int (q 6), .int (q 7), .int (q 8)]))] 0 0 := by
  refine g_enterVe RX8 rfl (by decide) rfl (Nat.le_of_ble_eq_true rfl) ?_
  intro V E RET
  refine g_aload_n E dX8_accept_0 rfl 0 rfl ?_
  refine g_aload_n E dX8_accept_1 rfl 0 rfl ?_
  refine g_get E uX8_accept_RX8 0 rfl rfl 4 (by decide) kX8_accept_158 rfl rfl dX8_accept_2 ?_
  refine g_if_eq (tgt := 16) E dX8_accept_5 (by decide) (fun c => absurd c (by decide)) (fun _ => ?_)
  refine g_iload_n E dX8_accept_8 rfl 1 rfl ?_
  refine g_if_eq (tgt := 16) E dX8_accept_9 (by decide) (fun c => absurd c (by decide)) (fun _ => ?_)
  refine g_iconst (v := 1) E dX8_accept_12 (by decide) ?_
  refine g_goto (tgt := 17) E dX8_accept_13 (by decide) ?_
  refine g_put (ws' := [(m 0, .inr (8, [.int (q 0), .ref (m 1), .int (q 1), .int (nI a), .int 1, .int (q 4), .ref (m 2), .ref (m 3), .ref (m 4), .ref (m 5), .int (q 5), .ref (m 6), .ref (m 7), .ref (m 8), .int (q 6), .int (q 7), .int (q 8)]))]) E uX8_accept_RX8 tyX8 tyX8_ok nmX8 0 rfl rfl 4 (by decide) kX8_accept_158 rfl rfl rfl rfl (Nat.le_of_ble_eq_true rfl) rfl dX8_accept_17 ?_
  refine g_aload_n E dX8_accept_20 rfl 0 rfl ?_
  refine g_dup E dX8_accept_21 rfl ?_
  refine g_get E uX8_accept_RX8 0 rfl rfl 3 (by decide) kX8_accept_155 rfl rfl dX8_accept_22 ?_
  refine g_aload_n E dX8_accept_25 rfl 0 rfl ?_
  refine g_get E uX8_accept_RX8 0 rfl rfl 4 (by decide) kX8_accept_158 rfl rfl dX8_accept_26 ?_
  refine g_if_eq (tgt := 36) E dX8_accept_29 (by decide) (fun c => absurd c (by decide)) (fun _ => ?_)
  refine g_iconst (v := 1) E dX8_accept_32 (by decide) ?_
  refine g_goto (tgt := 37) E dX8_accept_33 (by decide) ?_
  refine g_iaddN (a := a) (b := 1) E dX8_accept_37 ?_
  refine g_put (ws' := [(m 0, .inr (8, [.int (q 0), .ref (m 1), .int (q 1), .int (nI (a + 1)), .int 1, .int (q 4), .ref (m 2), .ref (m 3), .ref (m 4), .ref (m 5), .int (q 5), .ref (m 6), .ref (m 7), .ref (m 8), .int (q 6), .int (q 7), .int (q 8)]))]) E uX8_accept_RX8 tyX8 tyX8_ok nmX8 0 rfl rfl 3 (by decide) kX8_accept_155 rfl rfl rfl rfl (Nat.le_of_ble_eq_true rfl) rfl dX8_accept_38 ?_
  exact RET _ _ () (trivial) dX8_accept_41

set_option maxHeartbeats 4000000 in
set_option maxRecDepth 100000 in
theorem mX8_acceptN (G : gG) (m : Nat → Nat) (q : Nat → Int32) (a : Nat)  : CVe G yX8_accept wsX8_accept 0 0 [.ref (m 0), .int 0] [(m 0, .inr (8, [.int (q 0), .ref (m 1), .int (q 1), .int (nI a), .int 1, .int (q 4), .ref (m 2), .ref (m 3), .ref (m 4), .ref (m 5), .int (q 5), .ref (m 6), .ref (m 7), .ref (m 8), .int (q 6), .int (q 7), .int (q 8)]))]  [(m 0, .inr (8, [.int (q 0), .ref (m 1), .int (q 1), .int (nI a), .int 0, .int (q 4), .ref (m 2), .ref (m 3), .ref (m 4), .ref (m 5), .int (q 5), .ref (m 6), .ref (m 7), .ref (m 8), .int (q 6), .int (q 7), .int (q 8)]))] 0 0 := by
  refine g_enterVe RX8 rfl (by decide) rfl (Nat.le_of_ble_eq_true rfl) ?_
  intro V E RET
  refine g_aload_n E dX8_accept_0 rfl 0 rfl ?_
  refine g_aload_n E dX8_accept_1 rfl 0 rfl ?_
  refine g_get E uX8_accept_RX8 0 rfl rfl 4 (by decide) kX8_accept_158 rfl rfl dX8_accept_2 ?_
  refine g_if_eq (tgt := 16) E dX8_accept_5 (by decide) (fun c => absurd c (by decide)) (fun _ => ?_)
  refine g_iload_n E dX8_accept_8 rfl 1 rfl ?_
  refine g_if_eq (tgt := 16) E dX8_accept_9 (by decide) (fun _ => ?_) (fun c => absurd c (by decide))
  refine g_iconst (v := 0) E dX8_accept_16 (by decide) ?_
  refine g_put (ws' := [(m 0, .inr (8, [.int (q 0), .ref (m 1), .int (q 1), .int (nI a), .int 0, .int (q 4), .ref (m 2), .ref (m 3), .ref (m 4), .ref (m 5), .int (q 5), .ref (m 6), .ref (m 7), .ref (m 8), .int (q 6), .int (q 7), .int (q 8)]))]) E uX8_accept_RX8 tyX8 tyX8_ok nmX8 0 rfl rfl 4 (by decide) kX8_accept_158 rfl rfl rfl rfl (Nat.le_of_ble_eq_true rfl) rfl dX8_accept_17 ?_
  refine g_aload_n E dX8_accept_20 rfl 0 rfl ?_
  refine g_dup E dX8_accept_21 rfl ?_
  refine g_get E uX8_accept_RX8 0 rfl rfl 3 (by decide) kX8_accept_155 rfl rfl dX8_accept_22 ?_
  refine g_aload_n E dX8_accept_25 rfl 0 rfl ?_
  refine g_get E uX8_accept_RX8 0 rfl rfl 4 (by decide) kX8_accept_158 rfl rfl dX8_accept_26 ?_
  refine g_if_eq (tgt := 36) E dX8_accept_29 (by decide) (fun _ => ?_) (fun c => absurd c (by decide))
  refine g_iconst (v := 0) E dX8_accept_36 (by decide) ?_
  refine g_iaddN (a := a) (b := 0) E dX8_accept_37 ?_
  refine g_top (y := nI a) (rfl) ?_
  refine g_put (ws' := [(m 0, .inr (8, [.int (q 0), .ref (m 1), .int (q 1), .int (nI a), .int 0, .int (q 4), .ref (m 2), .ref (m 3), .ref (m 4), .ref (m 5), .int (q 5), .ref (m 6), .ref (m 7), .ref (m 8), .int (q 6), .int (q 7), .int (q 8)]))]) E uX8_accept_RX8 tyX8 tyX8_ok nmX8 0 rfl rfl 3 (by decide) kX8_accept_155 rfl rfl rfl rfl (Nat.le_of_ble_eq_true rfl) rfl dX8_accept_38 ?_
  exact RET _ _ () (trivial) dX8_accept_41

set_option maxHeartbeats 4000000 in
set_option maxRecDepth 100000 in
theorem mX8_goes0 (G : gG) (m : Nat → Nat) (q : Nat → Int32) (x : Int32)  : CIe G yX8_goes wsX8_goes 0 0 [.ref (m 0), .int x] [(m 0, .inr (8, [.int (q 0), .ref (m 1), .int (q 1), .int (q 2), .int 0, .int (q 4), .ref (m 2), .ref (m 3), .ref (m 4), .ref (m 5), .int (q 5), .ref (m 6), .ref (m 7), .ref (m 8), .int (q 6), .int (q 7), .int (q 8)]))] (0) [(m 0, .inr (8, [.int (q 0), .ref (m 1), .int (q 1), .int (q 2), .int 0, .int (q 4), .ref (m 2), .ref (m 3), .ref (m 4), .ref (m 5), .int (q 5), .ref (m 6), .ref (m 7), .ref (m 8), .int (q 6), .int (q 7), .int (q 8)]))] 0 0 := by
  refine g_enterIe (ty := .boolean) RX8 rfl (by decide) rfl (Nat.le_of_ble_eq_true rfl) ?_
  intro V E RET
  refine g_aload_n E dX8_goes_0 rfl 0 rfl ?_
  refine g_dup E dX8_goes_1 rfl ?_
  refine g_get E uX8_goes_RX8 0 rfl rfl 5 (by decide) kX8_goes_175 rfl rfl dX8_goes_2 ?_
  refine g_aload_n E dX8_goes_5 rfl 0 rfl ?_
  refine g_get E uX8_goes_RX8 0 rfl rfl 4 (by decide) kX8_goes_158 rfl rfl dX8_goes_6 ?_
  refine g_if_eq (tgt := 20) E dX8_goes_9 (by decide) (fun _ => ?_) (fun c => absurd c (by decide))
  refine g_iconst (v := 0) E dX8_goes_20 (by decide) ?_
  refine g_iadd E dX8_goes_21 ?_
  refine g_top (y := q 4) (Int32.add_zero _) ?_
  refine g_put (ws' := [(m 0, .inr (8, [.int (q 0), .ref (m 1), .int (q 1), .int (q 2), .int 0, .int (q 4), .ref (m 2), .ref (m 3), .ref (m 4), .ref (m 5), .int (q 5), .ref (m 6), .ref (m 7), .ref (m 8), .int (q 6), .int (q 7), .int (q 8)]))]) E uX8_goes_RX8 tyX8 tyX8_ok nmX8 0 rfl rfl 5 (by decide) kX8_goes_175 rfl rfl rfl rfl (Nat.le_of_ble_eq_true rfl) rfl dX8_goes_22 ?_
  refine g_aload_n E dX8_goes_25 rfl 0 rfl ?_
  refine g_get E uX8_goes_RX8 0 rfl rfl 4 (by decide) kX8_goes_158 rfl rfl dX8_goes_26 ?_
  refine g_if_eq (tgt := 40) E dX8_goes_29 (by decide) (fun _ => ?_) (fun c => absurd c (by decide))
  refine g_iconst (v := 0) E dX8_goes_40 (by decide) ?_
  exact RET _ _ _ () (rfl) rfl dX8_goes_41

set_option maxHeartbeats 4000000 in
set_option maxRecDepth 100000 in
theorem mX8_goesY (G : gG) (m : Nat → Nat) (q : Nat → Int32)  : CIe G yX8_goes wsX8_goes 0 0 [.ref (m 0), .int 1] [(m 0, .inr (8, [.int (q 0), .ref (m 1), .int (q 1), .int (q 2), .int 1, .int (q 4), .ref (m 2), .ref (m 3), .ref (m 4), .ref (m 5), .int (q 5), .ref (m 6), .ref (m 7), .ref (m 8), .int (q 6), .int (q 7), .int (q 8)]))] (1) [(m 0, .inr (8, [.int (q 0), .ref (m 1), .int (q 1), .int (q 2), .int 1, .int (q 4), .ref (m 2), .ref (m 3), .ref (m 4), .ref (m 5), .int (q 5), .ref (m 6), .ref (m 7), .ref (m 8), .int (q 6), .int (q 7), .int (q 8)]))] 0 0 := by
  refine g_enterIe (ty := .boolean) RX8 rfl (by decide) rfl (Nat.le_of_ble_eq_true rfl) ?_
  intro V E RET
  refine g_aload_n E dX8_goes_0 rfl 0 rfl ?_
  refine g_dup E dX8_goes_1 rfl ?_
  refine g_get E uX8_goes_RX8 0 rfl rfl 5 (by decide) kX8_goes_175 rfl rfl dX8_goes_2 ?_
  refine g_aload_n E dX8_goes_5 rfl 0 rfl ?_
  refine g_get E uX8_goes_RX8 0 rfl rfl 4 (by decide) kX8_goes_158 rfl rfl dX8_goes_6 ?_
  refine g_if_eq (tgt := 20) E dX8_goes_9 (by decide) (fun c => absurd c (by decide)) (fun _ => ?_)
  refine g_iload_n E dX8_goes_12 rfl 1 rfl ?_
  refine g_if_ne (tgt := 20) E dX8_goes_13 (by decide) (fun _ => ?_) (fun c => absurd c (by decide))
  refine g_iconst (v := 0) E dX8_goes_20 (by decide) ?_
  refine g_iadd E dX8_goes_21 ?_
  refine g_top (y := q 4) (Int32.add_zero _) ?_
  refine g_put (ws' := [(m 0, .inr (8, [.int (q 0), .ref (m 1), .int (q 1), .int (q 2), .int 1, .int (q 4), .ref (m 2), .ref (m 3), .ref (m 4), .ref (m 5), .int (q 5), .ref (m 6), .ref (m 7), .ref (m 8), .int (q 6), .int (q 7), .int (q 8)]))]) E uX8_goes_RX8 tyX8 tyX8_ok nmX8 0 rfl rfl 5 (by decide) kX8_goes_175 rfl rfl rfl rfl (Nat.le_of_ble_eq_true rfl) rfl dX8_goes_22 ?_
  refine g_aload_n E dX8_goes_25 rfl 0 rfl ?_
  refine g_get E uX8_goes_RX8 0 rfl rfl 4 (by decide) kX8_goes_158 rfl rfl dX8_goes_26 ?_
  refine g_if_eq (tgt := 40) E dX8_goes_29 (by decide) (fun c => absurd c (by decide)) (fun _ => ?_)
  refine g_iload_n E dX8_goes_32 rfl 1 rfl ?_
  refine g_if_eq (tgt := 40) E dX8_goes_33 (by decide) (fun c => absurd c (by decide)) (fun _ => ?_)
  refine g_iconst (v := 1) E dX8_goes_36 (by decide) ?_
  refine g_goto (tgt := 41) E dX8_goes_37 (by decide) ?_
  exact RET _ _ _ () (rfl) rfl dX8_goes_41

set_option maxHeartbeats 4000000 in
set_option maxRecDepth 100000 in
theorem mX8_goesN (G : gG) (m : Nat → Nat) (q : Nat → Int32) (lo : Nat)  : CIe G yX8_goes wsX8_goes 0 0 [.ref (m 0), .int 0] [(m 0, .inr (8, [.int (q 0), .ref (m 1), .int (q 1), .int (q 2), .int 1, .int (nI lo), .ref (m 2), .ref (m 3), .ref (m 4), .ref (m 5), .int (q 5), .ref (m 6), .ref (m 7), .ref (m 8), .int (q 6), .int (q 7), .int (q 8)]))] (0) [(m 0, .inr (8, [.int (q 0), .ref (m 1), .int (q 1), .int (q 2), .int 1, .int (nI (lo + 1)), .ref (m 2), .ref (m 3), .ref (m 4), .ref (m 5), .int (q 5), .ref (m 6), .ref (m 7), .ref (m 8), .int (q 6), .int (q 7), .int (q 8)]))] 0 0 := by
  refine g_enterIe (ty := .boolean) RX8 rfl (by decide) rfl (Nat.le_of_ble_eq_true rfl) ?_
  intro V E RET
  refine g_aload_n E dX8_goes_0 rfl 0 rfl ?_
  refine g_dup E dX8_goes_1 rfl ?_
  refine g_get E uX8_goes_RX8 0 rfl rfl 5 (by decide) kX8_goes_175 rfl rfl dX8_goes_2 ?_
  refine g_aload_n E dX8_goes_5 rfl 0 rfl ?_
  refine g_get E uX8_goes_RX8 0 rfl rfl 4 (by decide) kX8_goes_158 rfl rfl dX8_goes_6 ?_
  refine g_if_eq (tgt := 20) E dX8_goes_9 (by decide) (fun c => absurd c (by decide)) (fun _ => ?_)
  refine g_iload_n E dX8_goes_12 rfl 1 rfl ?_
  refine g_if_ne (tgt := 20) E dX8_goes_13 (by decide) (fun c => absurd c (by decide)) (fun _ => ?_)
  refine g_iconst (v := 1) E dX8_goes_16 (by decide) ?_
  refine g_goto (tgt := 21) E dX8_goes_17 (by decide) ?_
  refine g_iaddN (a := lo) (b := 1) E dX8_goes_21 ?_
  refine g_put (ws' := [(m 0, .inr (8, [.int (q 0), .ref (m 1), .int (q 1), .int (q 2), .int 1, .int (nI (lo + 1)), .ref (m 2), .ref (m 3), .ref (m 4), .ref (m 5), .int (q 5), .ref (m 6), .ref (m 7), .ref (m 8), .int (q 6), .int (q 7), .int (q 8)]))]) E uX8_goes_RX8 tyX8 tyX8_ok nmX8 0 rfl rfl 5 (by decide) kX8_goes_175 rfl rfl rfl rfl (Nat.le_of_ble_eq_true rfl) rfl dX8_goes_22 ?_
  refine g_aload_n E dX8_goes_25 rfl 0 rfl ?_
  refine g_get E uX8_goes_RX8 0 rfl rfl 4 (by decide) kX8_goes_158 rfl rfl dX8_goes_26 ?_
  refine g_if_eq (tgt := 40) E dX8_goes_29 (by decide) (fun c => absurd c (by decide)) (fun _ => ?_)
  refine g_iload_n E dX8_goes_32 rfl 1 rfl ?_
  refine g_if_eq (tgt := 40) E dX8_goes_33 (by decide) (fun _ => ?_) (fun c => absurd c (by decide))
  refine g_iconst (v := 0) E dX8_goes_40 (by decide) ?_
  exact RET _ _ _ () (rfl) rfl dX8_goes_41

set_option maxHeartbeats 4000000 in
set_option maxRecDepth 100000 in
theorem mX8_number (G : gG) (m : Nat → Nat) (q : Nat → Int32) (n a : Nat) (sg : Nat → Int32) (k lo hi : Int32) (hn12 : n ≤ 120) (ha : a ≤ n) (hlo : lo = gLe k) (hhi : hi = gMo k) : CI G yX8_number wsX8_number 2 46 [.ref (m 0), .int lo, .int hi] [(m 0, .inr (8, [.int (q 0), .ref (m 1), .int (nI n), .int (nI a), .int 1, .int (q 4), .ref (m 2), .ref (m 3), .ref (m 4), .ref (m 5), .int (q 5), .ref (m 6), .ref (m 7), .ref (m 8), .int (q 6), .int (q 7), .int (q 8)])), (m 1, .inl (gy G 0, 120, .inl sg))] (fun (r : Int32) (u : Nat × Bool) => u.1 ≤ n ∧ gNumP n sg a true k u r) (fun (u : Nat × Bool) => [(m 0, .inr (8, [.int (q 0), .ref (m 1), .int (nI n), .int (nI u.1), .int (if u.2 = true then 1 else 0), .int (q 4), .ref (m 2), .ref (m 3), .ref (m 4), .ref (m 5), .int (q 5), .ref (m 6), .ref (m 7), .ref (m 8), .int (q 6), .int (q 7), .int (q 8)])), (m 1, .inl (gy G 0, 120, .inl sg))]) 0 0 := by
  refine g_enterI (ty := .int) RX8 rfl (by decide) rfl (Nat.le_of_ble_eq_true rfl) ?_
  intro V E RET
  rw [hlo, hhi]
  have cut1 : ∀ (x : Nat) (g : Bool) (v : Int32), (x ≤ n) → (gNumI n sg a k x g v) → gW V 4 0 0 [(m 0, .inr (8, [.int (q 0), .ref (m 1), .int (nI n), .int (nI x), .int (if g = true then 1 else 0), .int (q 4), .ref (m 2), .ref (m 3), .ref (m 4), .ref (m 5), .int (q 5), .ref (m 6), .ref (m 7), .ref (m 8), .int (q 6), .int (q 7), .int (q 8)])), (m 1, .inl (gy G 0, 120, .inl sg))] [(0, .ref (m 0)), (1, .int (gLe k)), (2, .int (gMo k)), (3, .int v)] 41 [] := by
    intro x g v hxn hI
    have loop2 : ∀ (n3 : Nat) (x : Nat) (g : Bool) (v : Int32), (x ≤ n) → (gNumI n sg a k x g v) → 2 * (n - x) + g.toNat < n3 → gW V 4 0 0 [(m 0, .inr (8, [.int (q 0), .ref (m 1), .int (nI n), .int (nI x), .int (if g = true then 1 else 0), .int (q 4), .ref (m 2), .ref (m 3), .ref (m 4), .ref (m 5), .int (q 5), .ref (m 6), .ref (m 7), .ref (m 8), .int (q 6), .int (q 7), .int (q 8)])), (m 1, .inl (gy G 0, 120, .inl sg))] [(0, .ref (m 0)), (1, .int (gLe k)), (2, .int (gMo k)), (3, .int v)] 41 [] := by
      intro n3
      induction n3 with
      | zero => intro x g v hxn hI hm5; exact absurd hm5 (Nat.not_lt_zero _)
      | succ n3 ih4 =>
        intro x g v hxn hI hm5
        refine g_aload_n E dX8_number_41 rfl 0 rfl ?_
        refine g_get E uX8_number_RX8 0 rfl rfl 4 (by decide) kX8_number_158 rfl rfl dX8_number_42 ?_
        refine g_if_eqB (tgt := 87) (P := g = true) E dX8_number_45 (by decide) (fun c6 => ?_) (fun c6 => ?_)
        · skip
          obtain rfl : g = false := Bool.eq_false_iff.mpr c6
          refine g_iload_n E dX8_number_87 rfl 3 rfl ?_
          exact RET _ _ _ (x, false) (⟨hxn, hI.1 rfl v⟩) rfl dX8_number_88
        · skip
          have hI2 : gNumI n sg a k x true v := c6 ▸ hI
          have hg1 : g.toNat = 1 := by rw [c6]; rfl
          refine g_ws (ws' := [(m 0, .inr (8, [.int (q 0), .ref (m 1), .int (nI n), .int (nI x), .int 1, .int (q 4), .ref (m 2), .ref (m 3), .ref (m 4), .ref (m 5), .int (q 5), .ref (m 6), .ref (m 7), .ref (m 8), .int (q 6), .int (q 7), .int (q 8)])), (m 1, .inl (gy G 0, 120, .inl sg))]) (by rw [if_pos c6]) ?_
          refine g_iload_n E dX8_number_48 rfl 3 rfl ?_
          refine g_if_le (tgt := 87) E dX8_number_49 (by decide) (fun c7 => ?_) (fun c7 => ?_)
          · skip
            refine g_iload_n E dX8_number_87 rfl 3 rfl ?_
            exact RET _ _ _ (x, true) (⟨hxn, gNumI_5 hI2 (Or.inl (Int32.not_lt.mpr c7))⟩) rfl dX8_number_88
          · skip
            have hv0 : 0 < v := Int32.not_le.mp c7
            refine g_aload_n E dX8_number_52 rfl 0 rfl ?_
            refine g_callVIe (F := []) (ws2 := [(m 0, .inr (8, [.int (q 0), .ref (m 1), .int (nI n), .int (nI x), .int 1, .int (q 4), .ref (m 2), .ref (m 3), .ref (m 4), .ref (m 5), .int (q 5), .ref (m 6), .ref (m 7), .ref (m 8), .int (q 6), .int (q 7), .int (q 8)])), (m 1, .inl (gy G 0, 120, .inl sg))]) E (mX8_digit G m (qU (qU (qU q 1 (nI n)) 2 (nI x)) 3 1) n x sg (by omega) (by omega)) gX8_number_X8_digit rfl hdX8_digit ⟨Nat.le_of_ble_eq_true rfl, Nat.le_of_ble_eq_true rfl⟩ 8 0 rfl rfl rfl (gPerm_ix [0, 1] rfl rfl) rfl rfl (Nat.le_of_ble_eq_true rfl) dX8_number_53 ⟨Nat.le_of_ble_eq_true rfl, Nat.le_of_ble_eq_true rfl⟩ (gPerm_ix [0, 1] rfl rfl) ?_
            refine g_iconst (v := (-1)) E dX8_number_56 (by decide) ?_
            refine g_icmp_eq (tgt := 87) E dX8_number_57 (by decide) (fun c8 => ?_) (fun c8 => ?_)
            · skip
              refine g_iload_n E dX8_number_87 rfl 3 rfl ?_
              exact RET _ _ _ (x, true) (⟨hxn, gNumI_5 hI2 (Or.inr (gDg_no.mp c8))⟩) rfl dX8_number_88
            · skip
              have hdg : gDgt n sg x := gDgt_of c8
              refine g_bipush (v := 10) E dX8_number_60 (by decide) ?_
              refine g_iload_n E dX8_number_62 rfl 3 rfl ?_
              refine g_imul E dX8_number_63 ?_
              refine g_aload_n E dX8_number_64 rfl 0 rfl ?_
              refine g_callVIe (F := []) (ws2 := [(m 0, .inr (8, [.int (q 0), .ref (m 1), .int (nI n), .int (nI x), .int 1, .int (q 4), .ref (m 2), .ref (m 3), .ref (m 4), .ref (m 5), .int (q 5), .ref (m 6), .ref (m 7), .ref (m 8), .int (q 6), .int (q 7), .int (q 8)])), (m 1, .inl (gy G 0, 120, .inl sg))]) E (mX8_digit G m (qU (qU (qU q 1 (nI n)) 2 (nI x)) 3 1) n x sg (by omega) (by omega)) gX8_number_X8_digit rfl hdX8_digit ⟨Nat.le_of_ble_eq_true rfl, Nat.le_of_ble_eq_true rfl⟩ 8 0 rfl rfl rfl (gPerm_ix [0, 1] rfl rfl) rfl rfl (Nat.le_of_ble_eq_true rfl) dX8_number_65 ⟨Nat.le_of_ble_eq_true rfl, Nat.le_of_ble_eq_true rfl⟩ (gPerm_ix [0, 1] rfl rfl) ?_
              refine g_iadd E dX8_number_68 ?_
              refine g_istore_n (lv' := [(3, .int ((10 * v) + (gDg n sg x))), (0, .ref (m 0)), (1, .int (gLe k)), (2, .int (gMo k))]) E dX8_number_69 rfl (by decide) rfl ?_
              refine g_aload_n E dX8_number_70 rfl 1 rfl ?_
              refine g_iload_n E dX8_number_71 rfl 0 rfl ?_
              refine g_iload_n E dX8_number_72 rfl 3 rfl ?_
              refine g_icmp_gt (tgt := 80) E dX8_number_73 (by decide) (fun c9 => ?_) (fun c9 => ?_)
              · skip
                refine g_iconst (v := 0) E dX8_number_80 (by decide) ?_
                refine g_callVVe (F := [(m 1, .inl (gy G 0, 120, .inl sg))]) (ws2 := [(m 0, .inr (8, [.int (q 0), .ref (m 1), .int (nI n), .int (nI x), .int 0, .int (q 4), .ref (m 2), .ref (m 3), .ref (m 4), .ref (m 5), .int (q 5), .ref (m 6), .ref (m 7), .ref (m 8), .int (q 6), .int (q 7), .int (q 8)])), (m 1, .inl (gy G 0, 120, .inl sg))]) E (mX8_acceptN G m (qU (qU (qU q 1 (nI n)) 2 (nI x)) 3 1) x) gX8_number_X8_accept rfl hdX8_accept ⟨Nat.le_of_ble_eq_true rfl, Nat.le_of_ble_eq_true rfl⟩ 8 0 rfl rfl rfl (gPerm_ix [0, 1] rfl rfl) rfl rfl (Nat.le_of_ble_eq_true rfl) dX8_number_81 ⟨Nat.le_of_ble_eq_true rfl, Nat.le_of_ble_eq_true rfl⟩ (gPerm_ix [0, 1] rfl rfl) ?_
                refine g_goto (tgt := 41) E dX8_number_84 (by decide) ?_
                refine g_lv [1, 2, 3, 0] rfl ?_
                exact ih4  x false _ hxn (gNumI_3 hI2 hv0 hdg c9 _) (by show 2 * (n - x) + 0 < _; omega)
              · skip
                refine g_iconst (v := 1) E dX8_number_76 (by decide) ?_
                refine g_goto (tgt := 81) E dX8_number_77 (by decide) ?_
                refine g_callVVe (F := [(m 1, .inl (gy G 0, 120, .inl sg))]) (ws2 := [(m 0, .inr (8, [.int (q 0), .ref (m 1), .int (nI n), .int (nI (x + 1)), .int 1, .int (q 4), .ref (m 2), .ref (m 3), .ref (m 4), .ref (m 5), .int (q 5), .ref (m 6), .ref (m 7), .ref (m 8), .int (q 6), .int (q 7), .int (q 8)])), (m 1, .inl (gy G 0, 120, .inl sg))]) E (mX8_acceptY G m (qU (qU (qU q 1 (nI n)) 2 (nI x)) 3 1) x) gX8_number_X8_accept rfl hdX8_accept ⟨Nat.le_of_ble_eq_true rfl, Nat.le_of_ble_eq_true rfl⟩ 8 0 rfl rfl rfl (gPerm_ix [0, 1] rfl rfl) rfl rfl (Nat.le_of_ble_eq_true rfl) dX8_number_81 ⟨Nat.le_of_ble_eq_true rfl, Nat.le_of_ble_eq_true rfl⟩ (gPerm_ix [0, 1] rfl rfl) ?_
                refine g_goto (tgt := 41) E dX8_number_84 (by decide) ?_
                refine g_lv [1, 2, 3, 0] rfl ?_
                exact ih4  (x + 1) true _ (by have := hdg.1; omega) (gNumI_4 hI2 hv0 hdg c9) (by have := hdg.1; show 2 * (n - (x + 1)) + 1 < _; omega)
    refine g_lv [0, 1, 2, 3] rfl ?_
    exact loop2 _ x g v hxn hI (Nat.lt_succ_self _)
  refine g_aload_n E dX8_number_0 rfl 0 rfl ?_
  refine g_aload_n E dX8_number_1 rfl 0 rfl ?_
  refine g_bipush (v := 44) E dX8_number_2 (by decide) ?_
  refine g_callVIe (F := []) (ws2 := [(m 0, .inr (8, [.int (q 0), .ref (m 1), .int (nI n), .int (nI a), .int 1, .int (q 4), .ref (m 2), .ref (m 3), .ref (m 4), .ref (m 5), .int (q 5), .ref (m 6), .ref (m 7), .ref (m 8), .int (q 6), .int (q 7), .int (q 8)])), (m 1, .inl (gy G 0, 120, .inl sg))]) E (mX8_isNext G m (qU (qU (qU q 1 (nI n)) 2 (nI a)) 3 1) n a sg 44 (by omega) (by omega) (by decide)) gX8_number_X8_isNext rfl hdX8_isNext ⟨Nat.le_of_ble_eq_true rfl, Nat.le_of_ble_eq_true rfl⟩ 8 0 rfl rfl rfl (gPerm_ix [0, 1] rfl rfl) rfl rfl (Nat.le_of_ble_eq_true rfl) dX8_number_4 ⟨Nat.le_of_ble_eq_true rfl, Nat.le_of_ble_eq_true rfl⟩ (gPerm_ix [0, 1] rfl rfl) ?_
  by_cases c10 : gSg n sg a = 44
  · skip
    refine g_top (y := 1) (if_pos c10) ?_
    have hltc10 : a < n := gSg_lt c10 (by first | decide | assumption)
    refine g_callVVe (F := [(m 1, .inl (gy G 0, 120, .inl sg))]) (ws2 := [(m 0, .inr (8, [.int (q 0), .ref (m 1), .int (nI n), .int (nI (a + 1)), .int 1, .int (q 4), .ref (m 2), .ref (m 3), .ref (m 4), .ref (m 5), .int (q 5), .ref (m 6), .ref (m 7), .ref (m 8), .int (q 6), .int (q 7), .int (q 8)])), (m 1, .inl (gy G 0, 120, .inl sg))]) E (mX8_acceptY G m (qU (qU (qU q 1 (nI n)) 2 (nI a)) 3 1) a) gX8_number_X8_accept rfl hdX8_accept ⟨Nat.le_of_ble_eq_true rfl, Nat.le_of_ble_eq_true rfl⟩ 8 0 rfl rfl rfl (gPerm_ix [0, 1] rfl rfl) rfl rfl (Nat.le_of_ble_eq_true rfl) dX8_number_7 ⟨Nat.le_of_ble_eq_true rfl, Nat.le_of_ble_eq_true rfl⟩ (gPerm_ix [0, 1] rfl rfl) ?_
    refine g_aload_n E dX8_number_10 rfl 0 rfl ?_
    refine g_callVIe (F := []) (ws2 := [(m 0, .inr (8, [.int (q 0), .ref (m 1), .int (nI n), .int (nI (a + 1)), .int 1, .int (q 4), .ref (m 2), .ref (m 3), .ref (m 4), .ref (m 5), .int (q 5), .ref (m 6), .ref (m 7), .ref (m 8), .int (q 6), .int (q 7), .int (q 8)])), (m 1, .inl (gy G 0, 120, .inl sg))]) E (mX8_digit G m (qU (qU (qU q 1 (nI n)) 2 (nI (a + 1))) 3 1) n (a + 1) sg (by omega) (by omega)) gX8_number_X8_digit rfl hdX8_digit ⟨Nat.le_of_ble_eq_true rfl, Nat.le_of_ble_eq_true rfl⟩ 8 0 rfl rfl rfl (gPerm_ix [0, 1] rfl rfl) rfl rfl (Nat.le_of_ble_eq_true rfl) dX8_number_11 ⟨Nat.le_of_ble_eq_true rfl, Nat.le_of_ble_eq_true rfl⟩ (gPerm_ix [0, 1] rfl rfl) ?_
    refine g_istore_n (lv' := [(3, .int (gDg n sg (a + 1))), (0, .ref (m 0)), (1, .int (gLe k)), (2, .int (gMo k))]) E dX8_number_14 rfl (by decide) rfl ?_
    refine g_aload_n E dX8_number_15 rfl 1 rfl ?_
    refine g_iload_n E dX8_number_16 rfl 0 rfl ?_
    refine g_iconst (v := (-1)) E dX8_number_17 (by decide) ?_
    refine g_icmp_eq (tgt := 37) E dX8_number_18 (by decide) (fun c11 => ?_) (fun c11 => ?_)
    · skip
      refine g_iconst (v := 0) E dX8_number_37 (by decide) ?_
      refine g_callVVe (F := [(m 1, .inl (gy G 0, 120, .inl sg))]) (ws2 := [(m 0, .inr (8, [.int (q 0), .ref (m 1), .int (nI n), .int (nI (a + 1)), .int 0, .int (q 4), .ref (m 2), .ref (m 3), .ref (m 4), .ref (m 5), .int (q 5), .ref (m 6), .ref (m 7), .ref (m 8), .int (q 6), .int (q 7), .int (q 8)])), (m 1, .inl (gy G 0, 120, .inl sg))]) E (mX8_acceptN G m (qU (qU (qU q 1 (nI n)) 2 (nI (a + 1))) 3 1) (a + 1)) gX8_number_X8_accept rfl hdX8_accept ⟨Nat.le_of_ble_eq_true rfl, Nat.le_of_ble_eq_true rfl⟩ 8 0 rfl rfl rfl (gPerm_ix [0, 1] rfl rfl) rfl rfl (Nat.le_of_ble_eq_true rfl) dX8_number_38 ⟨Nat.le_of_ble_eq_true rfl, Nat.le_of_ble_eq_true rfl⟩ (gPerm_ix [0, 1] rfl rfl) ?_
      refine g_lv [1, 2, 3, 0] rfl ?_
      exact cut1 (a + 1) false (gDg n sg (a + 1)) (by omega) (gNumI_1 c10 (fun q => q.1 c11) _)
    · skip
      refine g_iload_n E dX8_number_21 rfl 0 rfl ?_
      refine g_i2l (v := (gDg n sg (a + 1)).toInt64) E dX8_number_22 rfl ?_
      refine g_iload_n E dX8_number_23 rfl 2 rfl ?_
      refine g_i2l (v := (gLe k).toInt64) E dX8_number_24 rfl ?_
      refine g_iload_n E dX8_number_25 rfl 3 rfl ?_
      refine g_i2l (v := (gMo k).toInt64) E dX8_number_26 rfl ?_
      refine g_callSIe (F := [(m 0, .inr (8, [.int (q 0), .ref (m 1), .int (nI n), .int (nI (a + 1)), .int 1, .int (q 4), .ref (m 2), .ref (m 3), .ref (m 4), .ref (m 5), .int (q 5), .ref (m 6), .ref (m 7), .ref (m 8), .int (q 6), .int (q 7), .int (q 8)])), (m 1, .inl (gy G 0, 120, .inl sg))]) (ws2 := [(m 0, .inr (8, [.int (q 0), .ref (m 1), .int (nI n), .int (nI (a + 1)), .int 1, .int (q 4), .ref (m 2), .ref (m 3), .ref (m 4), .ref (m 5), .int (q 5), .ref (m 6), .ref (m 7), .ref (m 8), .int (q 6), .int (q 7), .int (q 8)])), (m 1, .inl (gy G 0, 120, .inl sg))]) E (g_resI (gIn64 (lo := gLe k) (hi := gMo k) rfl rfl) (mX8_in G ((gDg n sg (a + 1)).toInt64) ((gLe k).toInt64) ((gMo k).toInt64))) gX8_number_X8_in rfl hnX8_in ⟨Nat.le_of_ble_eq_true rfl, Nat.le_of_ble_eq_true rfl⟩ (gPerm_ix [0, 1] rfl rfl) rfl rfl (Nat.le_of_ble_eq_true rfl) dX8_number_27 ⟨Nat.le_of_ble_eq_true rfl, Nat.le_of_ble_eq_true rfl⟩ (gPerm_ix [0, 1] rfl rfl) ?_
      refine g_if_eqB (tgt := 37) (P := (¬ (gDg n sg (a + 1)) < (gLe k) ∧ ¬ (gMo k) < (gDg n sg (a + 1)))) E dX8_number_30 (by decide) (fun c12 => ?_) (fun c12 => ?_)
      · skip
        refine g_iconst (v := 0) E dX8_number_37 (by decide) ?_
        refine g_callVVe (F := [(m 1, .inl (gy G 0, 120, .inl sg))]) (ws2 := [(m 0, .inr (8, [.int (q 0), .ref (m 1), .int (nI n), .int (nI (a + 1)), .int 0, .int (q 4), .ref (m 2), .ref (m 3), .ref (m 4), .ref (m 5), .int (q 5), .ref (m 6), .ref (m 7), .ref (m 8), .int (q 6), .int (q 7), .int (q 8)])), (m 1, .inl (gy G 0, 120, .inl sg))]) E (mX8_acceptN G m (qU (qU (qU q 1 (nI n)) 2 (nI (a + 1))) 3 1) (a + 1)) gX8_number_X8_accept rfl hdX8_accept ⟨Nat.le_of_ble_eq_true rfl, Nat.le_of_ble_eq_true rfl⟩ 8 0 rfl rfl rfl (gPerm_ix [0, 1] rfl rfl) rfl rfl (Nat.le_of_ble_eq_true rfl) dX8_number_38 ⟨Nat.le_of_ble_eq_true rfl, Nat.le_of_ble_eq_true rfl⟩ (gPerm_ix [0, 1] rfl rfl) ?_
        refine g_lv [1, 2, 3, 0] rfl ?_
        exact cut1 (a + 1) false (gDg n sg (a + 1)) (by omega) (gNumI_1 c10 (fun q => c12 q.2) _)
      · skip
        refine g_iconst (v := 1) E dX8_number_33 (by decide) ?_
        refine g_goto (tgt := 38) E dX8_number_34 (by decide) ?_
        refine g_callVVe (F := [(m 1, .inl (gy G 0, 120, .inl sg))]) (ws2 := [(m 0, .inr (8, [.int (q 0), .ref (m 1), .int (nI n), .int (nI (a + 1 + 1)), .int 1, .int (q 4), .ref (m 2), .ref (m 3), .ref (m 4), .ref (m 5), .int (q 5), .ref (m 6), .ref (m 7), .ref (m 8), .int (q 6), .int (q 7), .int (q 8)])), (m 1, .inl (gy G 0, 120, .inl sg))]) E (mX8_acceptY G m (qU (qU (qU q 1 (nI n)) 2 (nI (a + 1))) 3 1) (a + 1)) gX8_number_X8_accept rfl hdX8_accept ⟨Nat.le_of_ble_eq_true rfl, Nat.le_of_ble_eq_true rfl⟩ 8 0 rfl rfl rfl (gPerm_ix [0, 1] rfl rfl) rfl rfl (Nat.le_of_ble_eq_true rfl) dX8_number_38 ⟨Nat.le_of_ble_eq_true rfl, Nat.le_of_ble_eq_true rfl⟩ (gPerm_ix [0, 1] rfl rfl) ?_
        have hd1 := (gDgt_of c11).1
        refine g_lv [1, 2, 3, 0] rfl ?_
        exact cut1 (a + 1 + 1) true (gDg n sg (a + 1)) (by omega) (gNumI_2 c10 ⟨c11, c12⟩)
  · skip
    refine g_top (y := 0) (if_neg c10) ?_
    refine g_callVVe (F := [(m 1, .inl (gy G 0, 120, .inl sg))]) (ws2 := [(m 0, .inr (8, [.int (q 0), .ref (m 1), .int (nI n), .int (nI a), .int 0, .int (q 4), .ref (m 2), .ref (m 3), .ref (m 4), .ref (m 5), .int (q 5), .ref (m 6), .ref (m 7), .ref (m 8), .int (q 6), .int (q 7), .int (q 8)])), (m 1, .inl (gy G 0, 120, .inl sg))]) E (mX8_acceptN G m (qU (qU (qU q 1 (nI n)) 2 (nI a)) 3 1) a) gX8_number_X8_accept rfl hdX8_accept ⟨Nat.le_of_ble_eq_true rfl, Nat.le_of_ble_eq_true rfl⟩ 8 0 rfl rfl rfl (gPerm_ix [0, 1] rfl rfl) rfl rfl (Nat.le_of_ble_eq_true rfl) dX8_number_7 ⟨Nat.le_of_ble_eq_true rfl, Nat.le_of_ble_eq_true rfl⟩ (gPerm_ix [0, 1] rfl rfl) ?_
    refine g_aload_n E dX8_number_10 rfl 0 rfl ?_
    refine g_callVIe (F := []) (ws2 := [(m 0, .inr (8, [.int (q 0), .ref (m 1), .int (nI n), .int (nI a), .int 0, .int (q 4), .ref (m 2), .ref (m 3), .ref (m 4), .ref (m 5), .int (q 5), .ref (m 6), .ref (m 7), .ref (m 8), .int (q 6), .int (q 7), .int (q 8)])), (m 1, .inl (gy G 0, 120, .inl sg))]) E (mX8_digit G m (qU (qU (qU q 1 (nI n)) 2 (nI a)) 3 0) n a sg (by omega) (by omega)) gX8_number_X8_digit rfl hdX8_digit ⟨Nat.le_of_ble_eq_true rfl, Nat.le_of_ble_eq_true rfl⟩ 8 0 rfl rfl rfl (gPerm_ix [0, 1] rfl rfl) rfl rfl (Nat.le_of_ble_eq_true rfl) dX8_number_11 ⟨Nat.le_of_ble_eq_true rfl, Nat.le_of_ble_eq_true rfl⟩ (gPerm_ix [0, 1] rfl rfl) ?_
    refine g_istore_n (lv' := [(3, .int (gDg n sg a)), (0, .ref (m 0)), (1, .int (gLe k)), (2, .int (gMo k))]) E dX8_number_14 rfl (by decide) rfl ?_
    refine g_aload_n E dX8_number_15 rfl 1 rfl ?_
    refine g_iload_n E dX8_number_16 rfl 0 rfl ?_
    refine g_iconst (v := (-1)) E dX8_number_17 (by decide) ?_
    refine g_icmp_eq (tgt := 37) E dX8_number_18 (by decide) (fun c13 => ?_) (fun c13 => ?_)
    · skip
      refine g_iconst (v := 0) E dX8_number_37 (by decide) ?_
      refine g_callVVe (F := [(m 1, .inl (gy G 0, 120, .inl sg))]) (ws2 := [(m 0, .inr (8, [.int (q 0), .ref (m 1), .int (nI n), .int (nI a), .int 0, .int (q 4), .ref (m 2), .ref (m 3), .ref (m 4), .ref (m 5), .int (q 5), .ref (m 6), .ref (m 7), .ref (m 8), .int (q 6), .int (q 7), .int (q 8)])), (m 1, .inl (gy G 0, 120, .inl sg))]) E (mX8_accept0 G m (qU (qU (qU q 1 (nI n)) 2 (nI a)) 3 0) 0) gX8_number_X8_accept rfl hdX8_accept ⟨Nat.le_of_ble_eq_true rfl, Nat.le_of_ble_eq_true rfl⟩ 8 0 rfl rfl rfl (gPerm_ix [0, 1] rfl rfl) rfl rfl (Nat.le_of_ble_eq_true rfl) dX8_number_38 ⟨Nat.le_of_ble_eq_true rfl, Nat.le_of_ble_eq_true rfl⟩ (gPerm_ix [0, 1] rfl rfl) ?_
      refine g_lv [1, 2, 3, 0] rfl ?_
      exact cut1 a false (gDg n sg a) (by omega) (gNumI_0 c10 _)
    · skip
      refine g_iload_n E dX8_number_21 rfl 0 rfl ?_
      refine g_i2l (v := (gDg n sg a).toInt64) E dX8_number_22 rfl ?_
      refine g_iload_n E dX8_number_23 rfl 2 rfl ?_
      refine g_i2l (v := (gLe k).toInt64) E dX8_number_24 rfl ?_
      refine g_iload_n E dX8_number_25 rfl 3 rfl ?_
      refine g_i2l (v := (gMo k).toInt64) E dX8_number_26 rfl ?_
      refine g_callSIe (F := [(m 0, .inr (8, [.int (q 0), .ref (m 1), .int (nI n), .int (nI a), .int 0, .int (q 4), .ref (m 2), .ref (m 3), .ref (m 4), .ref (m 5), .int (q 5), .ref (m 6), .ref (m 7), .ref (m 8), .int (q 6), .int (q 7), .int (q 8)])), (m 1, .inl (gy G 0, 120, .inl sg))]) (ws2 := [(m 0, .inr (8, [.int (q 0), .ref (m 1), .int (nI n), .int (nI a), .int 0, .int (q 4), .ref (m 2), .ref (m 3), .ref (m 4), .ref (m 5), .int (q 5), .ref (m 6), .ref (m 7), .ref (m 8), .int (q 6), .int (q 7), .int (q 8)])), (m 1, .inl (gy G 0, 120, .inl sg))]) E (g_resI (gIn64 (lo := gLe k) (hi := gMo k) rfl rfl) (mX8_in G ((gDg n sg a).toInt64) ((gLe k).toInt64) ((gMo k).toInt64))) gX8_number_X8_in rfl hnX8_in ⟨Nat.le_of_ble_eq_true rfl, Nat.le_of_ble_eq_true rfl⟩ (gPerm_ix [0, 1] rfl rfl) rfl rfl (Nat.le_of_ble_eq_true rfl) dX8_number_27 ⟨Nat.le_of_ble_eq_true rfl, Nat.le_of_ble_eq_true rfl⟩ (gPerm_ix [0, 1] rfl rfl) ?_
      refine g_if_eqB (tgt := 37) (P := (¬ (gDg n sg a) < (gLe k) ∧ ¬ (gMo k) < (gDg n sg a))) E dX8_number_30 (by decide) (fun c14 => ?_) (fun c14 => ?_)
      · skip
        refine g_iconst (v := 0) E dX8_number_37 (by decide) ?_
        refine g_callVVe (F := [(m 1, .inl (gy G 0, 120, .inl sg))]) (ws2 := [(m 0, .inr (8, [.int (q 0), .ref (m 1), .int (nI n), .int (nI a), .int 0, .int (q 4), .ref (m 2), .ref (m 3), .ref (m 4), .ref (m 5), .int (q 5), .ref (m 6), .ref (m 7), .ref (m 8), .int (q 6), .int (q 7), .int (q 8)])), (m 1, .inl (gy G 0, 120, .inl sg))]) E (mX8_accept0 G m (qU (qU (qU q 1 (nI n)) 2 (nI a)) 3 0) 0) gX8_number_X8_accept rfl hdX8_accept ⟨Nat.le_of_ble_eq_true rfl, Nat.le_of_ble_eq_true rfl⟩ 8 0 rfl rfl rfl (gPerm_ix [0, 1] rfl rfl) rfl rfl (Nat.le_of_ble_eq_true rfl) dX8_number_38 ⟨Nat.le_of_ble_eq_true rfl, Nat.le_of_ble_eq_true rfl⟩ (gPerm_ix [0, 1] rfl rfl) ?_
        refine g_lv [1, 2, 3, 0] rfl ?_
        exact cut1 a false (gDg n sg a) (by omega) (gNumI_0 c10 _)
      · skip
        refine g_iconst (v := 1) E dX8_number_33 (by decide) ?_
        refine g_goto (tgt := 38) E dX8_number_34 (by decide) ?_
        refine g_callVVe (F := [(m 1, .inl (gy G 0, 120, .inl sg))]) (ws2 := [(m 0, .inr (8, [.int (q 0), .ref (m 1), .int (nI n), .int (nI a), .int 0, .int (q 4), .ref (m 2), .ref (m 3), .ref (m 4), .ref (m 5), .int (q 5), .ref (m 6), .ref (m 7), .ref (m 8), .int (q 6), .int (q 7), .int (q 8)])), (m 1, .inl (gy G 0, 120, .inl sg))]) E (mX8_accept0 G m (qU (qU (qU q 1 (nI n)) 2 (nI a)) 3 0) 1) gX8_number_X8_accept rfl hdX8_accept ⟨Nat.le_of_ble_eq_true rfl, Nat.le_of_ble_eq_true rfl⟩ 8 0 rfl rfl rfl (gPerm_ix [0, 1] rfl rfl) rfl rfl (Nat.le_of_ble_eq_true rfl) dX8_number_38 ⟨Nat.le_of_ble_eq_true rfl, Nat.le_of_ble_eq_true rfl⟩ (gPerm_ix [0, 1] rfl rfl) ?_
        refine g_lv [1, 2, 3, 0] rfl ?_
        exact cut1 a false (gDg n sg a) (by omega) (gNumI_0 c10 _)

set_option maxHeartbeats 4000000 in
set_option maxRecDepth 100000 in
theorem mX8_number0 (G : gG) (m : Nat → Nat) (q : Nat → Int32) (n a : Nat) (sg : Nat → Int32) (lo hi : Int32) (hn12 : n ≤ 120) (ha : a ≤ n) : CI G yX8_number wsX8_number 2 46 [.ref (m 0), .int lo, .int hi] [(m 0, .inr (8, [.int (q 0), .ref (m 1), .int (nI n), .int (nI a), .int 0, .int (q 4), .ref (m 2), .ref (m 3), .ref (m 4), .ref (m 5), .int (q 5), .ref (m 6), .ref (m 7), .ref (m 8), .int (q 6), .int (q 7), .int (q 8)])), (m 1, .inl (gy G 0, 120, .inl sg))] (fun (r : Int32) (u : Unit) => True) (fun (u : Unit) => [(m 0, .inr (8, [.int (q 0), .ref (m 1), .int (nI n), .int (nI a), .int 0, .int (q 4), .ref (m 2), .ref (m 3), .ref (m 4), .ref (m 5), .int (q 5), .ref (m 6), .ref (m 7), .ref (m 8), .int (q 6), .int (q 7), .int (q 8)])), (m 1, .inl (gy G 0, 120, .inl sg))]) 0 0 := by
  refine g_enterI (ty := .int) RX8 rfl (by decide) rfl (Nat.le_of_ble_eq_true rfl) ?_
  intro V E RET
  refine g_aload_n E dX8_number_0 rfl 0 rfl ?_
  refine g_aload_n E dX8_number_1 rfl 0 rfl ?_
  refine g_bipush (v := 44) E dX8_number_2 (by decide) ?_
  refine g_callVIe (F := []) (ws2 := [(m 0, .inr (8, [.int (q 0), .ref (m 1), .int (nI n), .int (nI a), .int 0, .int (q 4), .ref (m 2), .ref (m 3), .ref (m 4), .ref (m 5), .int (q 5), .ref (m 6), .ref (m 7), .ref (m 8), .int (q 6), .int (q 7), .int (q 8)])), (m 1, .inl (gy G 0, 120, .inl sg))]) E (mX8_isNext G m (qU (qU (qU q 1 (nI n)) 2 (nI a)) 3 0) n a sg 44 (by omega) (by omega) (by decide)) gX8_number_X8_isNext rfl hdX8_isNext ⟨Nat.le_of_ble_eq_true rfl, Nat.le_of_ble_eq_true rfl⟩ 8 0 rfl rfl rfl (gPerm_ix [0, 1] rfl rfl) rfl rfl (Nat.le_of_ble_eq_true rfl) dX8_number_4 ⟨Nat.le_of_ble_eq_true rfl, Nat.le_of_ble_eq_true rfl⟩ (gPerm_ix [0, 1] rfl rfl) ?_
  refine g_callVVe (F := [(m 1, .inl (gy G 0, 120, .inl sg))]) (ws2 := [(m 0, .inr (8, [.int (q 0), .ref (m 1), .int (nI n), .int (nI a), .int 0, .int (q 4), .ref (m 2), .ref (m 3), .ref (m 4), .ref (m 5), .int (q 5), .ref (m 6), .ref (m 7), .ref (m 8), .int (q 6), .int (q 7), .int (q 8)])), (m 1, .inl (gy G 0, 120, .inl sg))]) E (mX8_accept0 G m (qU (qU (qU q 1 (nI n)) 2 (nI a)) 3 0) (if gSg n sg a = 44 then 1 else 0)) gX8_number_X8_accept rfl hdX8_accept ⟨Nat.le_of_ble_eq_true rfl, Nat.le_of_ble_eq_true rfl⟩ 8 0 rfl rfl rfl (gPerm_ix [0, 1] rfl rfl) rfl rfl (Nat.le_of_ble_eq_true rfl) dX8_number_7 ⟨Nat.le_of_ble_eq_true rfl, Nat.le_of_ble_eq_true rfl⟩ (gPerm_ix [0, 1] rfl rfl) ?_
  refine g_aload_n E dX8_number_10 rfl 0 rfl ?_
  refine g_callVIe (F := []) (ws2 := [(m 0, .inr (8, [.int (q 0), .ref (m 1), .int (nI n), .int (nI a), .int 0, .int (q 4), .ref (m 2), .ref (m 3), .ref (m 4), .ref (m 5), .int (q 5), .ref (m 6), .ref (m 7), .ref (m 8), .int (q 6), .int (q 7), .int (q 8)])), (m 1, .inl (gy G 0, 120, .inl sg))]) E (mX8_digit G m (qU (qU (qU q 1 (nI n)) 2 (nI a)) 3 0) n a sg (by omega) (by omega)) gX8_number_X8_digit rfl hdX8_digit ⟨Nat.le_of_ble_eq_true rfl, Nat.le_of_ble_eq_true rfl⟩ 8 0 rfl rfl rfl (gPerm_ix [0, 1] rfl rfl) rfl rfl (Nat.le_of_ble_eq_true rfl) dX8_number_11 ⟨Nat.le_of_ble_eq_true rfl, Nat.le_of_ble_eq_true rfl⟩ (gPerm_ix [0, 1] rfl rfl) ?_
  refine g_istore_n (lv' := [(3, .int (gDg n sg a)), (0, .ref (m 0)), (1, .int lo), (2, .int hi)]) E dX8_number_14 rfl (by decide) rfl ?_
  refine g_aload_n E dX8_number_15 rfl 1 rfl ?_
  refine g_iload_n E dX8_number_16 rfl 0 rfl ?_
  refine g_iconst (v := (-1)) E dX8_number_17 (by decide) ?_
  refine g_icmp_eq (tgt := 37) E dX8_number_18 (by decide) (fun c1 => ?_) (fun c1 => ?_)
  · skip
    refine g_iconst (v := 0) E dX8_number_37 (by decide) ?_
    refine g_callVVe (F := [(m 1, .inl (gy G 0, 120, .inl sg))]) (ws2 := [(m 0, .inr (8, [.int (q 0), .ref (m 1), .int (nI n), .int (nI a), .int 0, .int (q 4), .ref (m 2), .ref (m 3), .ref (m 4), .ref (m 5), .int (q 5), .ref (m 6), .ref (m 7), .ref (m 8), .int (q 6), .int (q 7), .int (q 8)])), (m 1, .inl (gy G 0, 120, .inl sg))]) E (mX8_accept0 G m (qU (qU (qU q 1 (nI n)) 2 (nI a)) 3 0) 0) gX8_number_X8_accept rfl hdX8_accept ⟨Nat.le_of_ble_eq_true rfl, Nat.le_of_ble_eq_true rfl⟩ 8 0 rfl rfl rfl (gPerm_ix [0, 1] rfl rfl) rfl rfl (Nat.le_of_ble_eq_true rfl) dX8_number_38 ⟨Nat.le_of_ble_eq_true rfl, Nat.le_of_ble_eq_true rfl⟩ (gPerm_ix [0, 1] rfl rfl) ?_
    refine g_aload_n E dX8_number_41 rfl 1 rfl ?_
    refine g_get E uX8_number_RX8 0 rfl rfl 4 (by decide) kX8_number_158 rfl rfl dX8_number_42 ?_
    refine g_if_eq (tgt := 87) E dX8_number_45 (by decide) (fun _ => ?_) (fun c => absurd c (by decide))
    refine g_iload_n E dX8_number_87 rfl 0 rfl ?_
    exact RET _ _ _ () (trivial) rfl dX8_number_88
  · skip
    refine g_iload_n E dX8_number_21 rfl 0 rfl ?_
    refine g_i2l (v := (gDg n sg a).toInt64) E dX8_number_22 rfl ?_
    refine g_iload_n E dX8_number_23 rfl 2 rfl ?_
    refine g_i2l (v := lo.toInt64) E dX8_number_24 rfl ?_
    refine g_iload_n E dX8_number_25 rfl 3 rfl ?_
    refine g_i2l (v := hi.toInt64) E dX8_number_26 rfl ?_
    refine g_callSIe (F := [(m 0, .inr (8, [.int (q 0), .ref (m 1), .int (nI n), .int (nI a), .int 0, .int (q 4), .ref (m 2), .ref (m 3), .ref (m 4), .ref (m 5), .int (q 5), .ref (m 6), .ref (m 7), .ref (m 8), .int (q 6), .int (q 7), .int (q 8)])), (m 1, .inl (gy G 0, 120, .inl sg))]) (ws2 := [(m 0, .inr (8, [.int (q 0), .ref (m 1), .int (nI n), .int (nI a), .int 0, .int (q 4), .ref (m 2), .ref (m 3), .ref (m 4), .ref (m 5), .int (q 5), .ref (m 6), .ref (m 7), .ref (m 8), .int (q 6), .int (q 7), .int (q 8)])), (m 1, .inl (gy G 0, 120, .inl sg))]) E (g_resI (gIn64 (lo := lo) (hi := hi) rfl rfl) (mX8_in G ((gDg n sg a).toInt64) lo.toInt64 hi.toInt64)) gX8_number_X8_in rfl hnX8_in ⟨Nat.le_of_ble_eq_true rfl, Nat.le_of_ble_eq_true rfl⟩ (gPerm_ix [0, 1] rfl rfl) rfl rfl (Nat.le_of_ble_eq_true rfl) dX8_number_27 ⟨Nat.le_of_ble_eq_true rfl, Nat.le_of_ble_eq_true rfl⟩ (gPerm_ix [0, 1] rfl rfl) ?_
    refine g_if_eqB (tgt := 37) (P := (¬ (gDg n sg a) < lo ∧ ¬ hi < (gDg n sg a))) E dX8_number_30 (by decide) (fun c2 => ?_) (fun c2 => ?_)
    · skip
      refine g_iconst (v := 0) E dX8_number_37 (by decide) ?_
      refine g_callVVe (F := [(m 1, .inl (gy G 0, 120, .inl sg))]) (ws2 := [(m 0, .inr (8, [.int (q 0), .ref (m 1), .int (nI n), .int (nI a), .int 0, .int (q 4), .ref (m 2), .ref (m 3), .ref (m 4), .ref (m 5), .int (q 5), .ref (m 6), .ref (m 7), .ref (m 8), .int (q 6), .int (q 7), .int (q 8)])), (m 1, .inl (gy G 0, 120, .inl sg))]) E (mX8_accept0 G m (qU (qU (qU q 1 (nI n)) 2 (nI a)) 3 0) 0) gX8_number_X8_accept rfl hdX8_accept ⟨Nat.le_of_ble_eq_true rfl, Nat.le_of_ble_eq_true rfl⟩ 8 0 rfl rfl rfl (gPerm_ix [0, 1] rfl rfl) rfl rfl (Nat.le_of_ble_eq_true rfl) dX8_number_38 ⟨Nat.le_of_ble_eq_true rfl, Nat.le_of_ble_eq_true rfl⟩ (gPerm_ix [0, 1] rfl rfl) ?_
      refine g_aload_n E dX8_number_41 rfl 1 rfl ?_
      refine g_get E uX8_number_RX8 0 rfl rfl 4 (by decide) kX8_number_158 rfl rfl dX8_number_42 ?_
      refine g_if_eq (tgt := 87) E dX8_number_45 (by decide) (fun _ => ?_) (fun c => absurd c (by decide))
      refine g_iload_n E dX8_number_87 rfl 0 rfl ?_
      exact RET _ _ _ () (trivial) rfl dX8_number_88
    · skip
      refine g_iconst (v := 1) E dX8_number_33 (by decide) ?_
      refine g_goto (tgt := 38) E dX8_number_34 (by decide) ?_
      refine g_callVVe (F := [(m 1, .inl (gy G 0, 120, .inl sg))]) (ws2 := [(m 0, .inr (8, [.int (q 0), .ref (m 1), .int (nI n), .int (nI a), .int 0, .int (q 4), .ref (m 2), .ref (m 3), .ref (m 4), .ref (m 5), .int (q 5), .ref (m 6), .ref (m 7), .ref (m 8), .int (q 6), .int (q 7), .int (q 8)])), (m 1, .inl (gy G 0, 120, .inl sg))]) E (mX8_accept0 G m (qU (qU (qU q 1 (nI n)) 2 (nI a)) 3 0) 1) gX8_number_X8_accept rfl hdX8_accept ⟨Nat.le_of_ble_eq_true rfl, Nat.le_of_ble_eq_true rfl⟩ 8 0 rfl rfl rfl (gPerm_ix [0, 1] rfl rfl) rfl rfl (Nat.le_of_ble_eq_true rfl) dX8_number_38 ⟨Nat.le_of_ble_eq_true rfl, Nat.le_of_ble_eq_true rfl⟩ (gPerm_ix [0, 1] rfl rfl) ?_
      refine g_aload_n E dX8_number_41 rfl 1 rfl ?_
      refine g_get E uX8_number_RX8 0 rfl rfl 4 (by decide) kX8_number_158 rfl rfl dX8_number_42 ?_
      refine g_if_eq (tgt := 87) E dX8_number_45 (by decide) (fun _ => ?_) (fun c => absurd c (by decide))
      refine g_iload_n E dX8_number_87 rfl 0 rfl ?_
      exact RET _ _ _ () (trivial) rfl dX8_number_88

set_option maxHeartbeats 4000000 in
set_option maxRecDepth 100000 in
theorem mX8_word (G : gG) (m : Nat → Nat) (q : Nat → Int32) (n a : Nat) (sg : Nat → Int32) (s t f : Int32) (hn12 : n ≤ 120) (ha : a ≤ n) (hs : ¬ s = -1) (ht : ¬ t = -1) (hf : ¬ f = -1) : CV G yX8_word wsX8_word 1 21 [.ref (m 0), .int s, .int t, .int f] [(m 0, .inr (8, [.int (q 0), .ref (m 1), .int (nI n), .int (nI a), .int 1, .int (q 4), .ref (m 2), .ref (m 3), .ref (m 4), .ref (m 5), .int (q 5), .ref (m 6), .ref (m 7), .ref (m 8), .int (q 6), .int (q 7), .int (q 8)])), (m 1, .inl (gy G 0, 120, .inl sg))] (fun u : Nat × Bool => u.1 ≤ n ∧ gWdP n sg a [s, t, f] u) (fun (u : Nat × Bool) => [(m 0, .inr (8, [.int (q 0), .ref (m 1), .int (nI n), .int (nI u.1), .int (if u.2 = true then 1 else 0), .int (q 4), .ref (m 2), .ref (m 3), .ref (m 4), .ref (m 5), .int (q 5), .ref (m 6), .ref (m 7), .ref (m 8), .int (q 6), .int (q 7), .int (q 8)])), (m 1, .inl (gy G 0, 120, .inl sg))]) 0 0 := by
  refine g_enterV RX8 rfl (by decide) rfl (Nat.le_of_ble_eq_true rfl) ?_
  intro V E RET
  refine g_aload_n E dX8_word_0 rfl 0 rfl ?_
  refine g_aload_n E dX8_word_1 rfl 0 rfl ?_
  refine g_iload_n E dX8_word_2 rfl 1 rfl ?_
  refine g_callVIe (F := []) (ws2 := [(m 0, .inr (8, [.int (q 0), .ref (m 1), .int (nI n), .int (nI a), .int 1, .int (q 4), .ref (m 2), .ref (m 3), .ref (m 4), .ref (m 5), .int (q 5), .ref (m 6), .ref (m 7), .ref (m 8), .int (q 6), .int (q 7), .int (q 8)])), (m 1, .inl (gy G 0, 120, .inl sg))]) E (mX8_isNext G m (qU (qU (qU q 1 (nI n)) 2 (nI a)) 3 1) n a sg s (by omega) (by omega) hs) gX8_word_X8_isNext rfl hdX8_isNext ⟨Nat.le_of_ble_eq_true rfl, Nat.le_of_ble_eq_true rfl⟩ 8 0 rfl rfl rfl (gPerm_ix [0, 1] rfl rfl) rfl rfl (Nat.le_of_ble_eq_true rfl) dX8_word_3 ⟨Nat.le_of_ble_eq_true rfl, Nat.le_of_ble_eq_true rfl⟩ (gPerm_ix [0, 1] rfl rfl) ?_
  by_cases c1 : gSg n sg a = s
  · skip
    refine g_top (y := 1) (if_pos c1) ?_
    have hltc1 : a < n := gSg_lt c1 (by first | decide | assumption)
    refine g_callVVe (F := [(m 1, .inl (gy G 0, 120, .inl sg))]) (ws2 := [(m 0, .inr (8, [.int (q 0), .ref (m 1), .int (nI n), .int (nI (a + 1)), .int 1, .int (q 4), .ref (m 2), .ref (m 3), .ref (m 4), .ref (m 5), .int (q 5), .ref (m 6), .ref (m 7), .ref (m 8), .int (q 6), .int (q 7), .int (q 8)])), (m 1, .inl (gy G 0, 120, .inl sg))]) E (mX8_acceptY G m (qU (qU (qU q 1 (nI n)) 2 (nI a)) 3 1) a) gX8_word_X8_accept rfl hdX8_accept ⟨Nat.le_of_ble_eq_true rfl, Nat.le_of_ble_eq_true rfl⟩ 8 0 rfl rfl rfl (gPerm_ix [0, 1] rfl rfl) rfl rfl (Nat.le_of_ble_eq_true rfl) dX8_word_6 ⟨Nat.le_of_ble_eq_true rfl, Nat.le_of_ble_eq_true rfl⟩ (gPerm_ix [0, 1] rfl rfl) ?_
    refine g_aload_n E dX8_word_9 rfl 0 rfl ?_
    refine g_aload_n E dX8_word_10 rfl 0 rfl ?_
    refine g_iload_n E dX8_word_11 rfl 2 rfl ?_
    refine g_callVIe (F := []) (ws2 := [(m 0, .inr (8, [.int (q 0), .ref (m 1), .int (nI n), .int (nI (a + 1)), .int 1, .int (q 4), .ref (m 2), .ref (m 3), .ref (m 4), .ref (m 5), .int (q 5), .ref (m 6), .ref (m 7), .ref (m 8), .int (q 6), .int (q 7), .int (q 8)])), (m 1, .inl (gy G 0, 120, .inl sg))]) E (mX8_isNext G m (qU (qU (qU q 1 (nI n)) 2 (nI (a + 1))) 3 1) n (a + 1) sg t (by omega) (by omega) ht) gX8_word_X8_isNext rfl hdX8_isNext ⟨Nat.le_of_ble_eq_true rfl, Nat.le_of_ble_eq_true rfl⟩ 8 0 rfl rfl rfl (gPerm_ix [0, 1] rfl rfl) rfl rfl (Nat.le_of_ble_eq_true rfl) dX8_word_12 ⟨Nat.le_of_ble_eq_true rfl, Nat.le_of_ble_eq_true rfl⟩ (gPerm_ix [0, 1] rfl rfl) ?_
    by_cases c2 : gSg n sg (a + 1) = t
    · skip
      refine g_top (y := 1) (if_pos c2) ?_
      have hltc2 : (a + 1) < n := gSg_lt c2 (by first | decide | assumption)
      refine g_callVVe (F := [(m 1, .inl (gy G 0, 120, .inl sg))]) (ws2 := [(m 0, .inr (8, [.int (q 0), .ref (m 1), .int (nI n), .int (nI (a + 1 + 1)), .int 1, .int (q 4), .ref (m 2), .ref (m 3), .ref (m 4), .ref (m 5), .int (q 5), .ref (m 6), .ref (m 7), .ref (m 8), .int (q 6), .int (q 7), .int (q 8)])), (m 1, .inl (gy G 0, 120, .inl sg))]) E (mX8_acceptY G m (qU (qU (qU q 1 (nI n)) 2 (nI (a + 1))) 3 1) (a + 1)) gX8_word_X8_accept rfl hdX8_accept ⟨Nat.le_of_ble_eq_true rfl, Nat.le_of_ble_eq_true rfl⟩ 8 0 rfl rfl rfl (gPerm_ix [0, 1] rfl rfl) rfl rfl (Nat.le_of_ble_eq_true rfl) dX8_word_15 ⟨Nat.le_of_ble_eq_true rfl, Nat.le_of_ble_eq_true rfl⟩ (gPerm_ix [0, 1] rfl rfl) ?_
      refine g_iload_n E dX8_word_18 rfl 3 rfl ?_
      refine g_iconst (v := (-1)) E dX8_word_19 (by decide) ?_
      refine g_icmp_eq (tgt := 32) E dX8_word_20 (by decide) (fun c3 => ?_) (fun c3 => ?_)
      · exfalso
        exact hf c3
      · skip
        refine g_aload_n E dX8_word_23 rfl 0 rfl ?_
        refine g_aload_n E dX8_word_24 rfl 0 rfl ?_
        refine g_iload_n E dX8_word_25 rfl 3 rfl ?_
        refine g_callVIe (F := []) (ws2 := [(m 0, .inr (8, [.int (q 0), .ref (m 1), .int (nI n), .int (nI (a + 1 + 1)), .int 1, .int (q 4), .ref (m 2), .ref (m 3), .ref (m 4), .ref (m 5), .int (q 5), .ref (m 6), .ref (m 7), .ref (m 8), .int (q 6), .int (q 7), .int (q 8)])), (m 1, .inl (gy G 0, 120, .inl sg))]) E (mX8_isNext G m (qU (qU (qU q 1 (nI n)) 2 (nI (a + 1 + 1))) 3 1) n (a + 1 + 1) sg f (by omega) (by omega) hf) gX8_word_X8_isNext rfl hdX8_isNext ⟨Nat.le_of_ble_eq_true rfl, Nat.le_of_ble_eq_true rfl⟩ 8 0 rfl rfl rfl (gPerm_ix [0, 1] rfl rfl) rfl rfl (Nat.le_of_ble_eq_true rfl) dX8_word_26 ⟨Nat.le_of_ble_eq_true rfl, Nat.le_of_ble_eq_true rfl⟩ (gPerm_ix [0, 1] rfl rfl) ?_
        by_cases c4 : gSg n sg (a + 1 + 1) = f
        · skip
          refine g_top (y := 1) (if_pos c4) ?_
          have hltc4 : (a + 1 + 1) < n := gSg_lt c4 (by first | decide | assumption)
          refine g_callVVe (F := [(m 1, .inl (gy G 0, 120, .inl sg))]) (ws2 := [(m 0, .inr (8, [.int (q 0), .ref (m 1), .int (nI n), .int (nI (a + 1 + 1 + 1)), .int 1, .int (q 4), .ref (m 2), .ref (m 3), .ref (m 4), .ref (m 5), .int (q 5), .ref (m 6), .ref (m 7), .ref (m 8), .int (q 6), .int (q 7), .int (q 8)])), (m 1, .inl (gy G 0, 120, .inl sg))]) E (mX8_acceptY G m (qU (qU (qU q 1 (nI n)) 2 (nI (a + 1 + 1))) 3 1) (a + 1 + 1)) gX8_word_X8_accept rfl hdX8_accept ⟨Nat.le_of_ble_eq_true rfl, Nat.le_of_ble_eq_true rfl⟩ 8 0 rfl rfl rfl (gPerm_ix [0, 1] rfl rfl) rfl rfl (Nat.le_of_ble_eq_true rfl) dX8_word_29 ⟨Nat.le_of_ble_eq_true rfl, Nat.le_of_ble_eq_true rfl⟩ (gPerm_ix [0, 1] rfl rfl) ?_
          exact RET _ _ (a + 1 + 1 + 1, true) (⟨(by first | exact ha | omega), by first | (simp [gWdP, gSame, c1, c2, c3, c4]; done) | (simp [gWdP, gSame, c1, c2, c3, c4]; omega)⟩) dX8_word_32
        · skip
          refine g_top (y := 0) (if_neg c4) ?_
          refine g_callVVe (F := [(m 1, .inl (gy G 0, 120, .inl sg))]) (ws2 := [(m 0, .inr (8, [.int (q 0), .ref (m 1), .int (nI n), .int (nI (a + 1 + 1)), .int 0, .int (q 4), .ref (m 2), .ref (m 3), .ref (m 4), .ref (m 5), .int (q 5), .ref (m 6), .ref (m 7), .ref (m 8), .int (q 6), .int (q 7), .int (q 8)])), (m 1, .inl (gy G 0, 120, .inl sg))]) E (mX8_acceptN G m (qU (qU (qU q 1 (nI n)) 2 (nI (a + 1 + 1))) 3 1) (a + 1 + 1)) gX8_word_X8_accept rfl hdX8_accept ⟨Nat.le_of_ble_eq_true rfl, Nat.le_of_ble_eq_true rfl⟩ 8 0 rfl rfl rfl (gPerm_ix [0, 1] rfl rfl) rfl rfl (Nat.le_of_ble_eq_true rfl) dX8_word_29 ⟨Nat.le_of_ble_eq_true rfl, Nat.le_of_ble_eq_true rfl⟩ (gPerm_ix [0, 1] rfl rfl) ?_
          exact RET _ _ (a + 1 + 1, false) (⟨(by first | exact ha | omega), by first | (simp [gWdP, gSame, c1, c2, c3, c4]; done) | (simp [gWdP, gSame, c1, c2, c3, c4]; omega)⟩) dX8_word_32
    · skip
      refine g_top (y := 0) (if_neg c2) ?_
      refine g_callVVe (F := [(m 1, .inl (gy G 0, 120, .inl sg))]) (ws2 := [(m 0, .inr (8, [.int (q 0), .ref (m 1), .int (nI n), .int (nI (a + 1)), .int 0, .int (q 4), .ref (m 2), .ref (m 3), .ref (m 4), .ref (m 5), .int (q 5), .ref (m 6), .ref (m 7), .ref (m 8), .int (q 6), .int (q 7), .int (q 8)])), (m 1, .inl (gy G 0, 120, .inl sg))]) E (mX8_acceptN G m (qU (qU (qU q 1 (nI n)) 2 (nI (a + 1))) 3 1) (a + 1)) gX8_word_X8_accept rfl hdX8_accept ⟨Nat.le_of_ble_eq_true rfl, Nat.le_of_ble_eq_true rfl⟩ 8 0 rfl rfl rfl (gPerm_ix [0, 1] rfl rfl) rfl rfl (Nat.le_of_ble_eq_true rfl) dX8_word_15 ⟨Nat.le_of_ble_eq_true rfl, Nat.le_of_ble_eq_true rfl⟩ (gPerm_ix [0, 1] rfl rfl) ?_
      refine g_iload_n E dX8_word_18 rfl 3 rfl ?_
      refine g_iconst (v := (-1)) E dX8_word_19 (by decide) ?_
      refine g_icmp_eq (tgt := 32) E dX8_word_20 (by decide) (fun c5 => ?_) (fun c5 => ?_)
      · exfalso
        exact hf c5
      · skip
        refine g_aload_n E dX8_word_23 rfl 0 rfl ?_
        refine g_aload_n E dX8_word_24 rfl 0 rfl ?_
        refine g_iload_n E dX8_word_25 rfl 3 rfl ?_
        refine g_callVIe (F := []) (ws2 := [(m 0, .inr (8, [.int (q 0), .ref (m 1), .int (nI n), .int (nI (a + 1)), .int 0, .int (q 4), .ref (m 2), .ref (m 3), .ref (m 4), .ref (m 5), .int (q 5), .ref (m 6), .ref (m 7), .ref (m 8), .int (q 6), .int (q 7), .int (q 8)])), (m 1, .inl (gy G 0, 120, .inl sg))]) E (mX8_isNext G m (qU (qU (qU q 1 (nI n)) 2 (nI (a + 1))) 3 0) n (a + 1) sg f (by omega) (by omega) hf) gX8_word_X8_isNext rfl hdX8_isNext ⟨Nat.le_of_ble_eq_true rfl, Nat.le_of_ble_eq_true rfl⟩ 8 0 rfl rfl rfl (gPerm_ix [0, 1] rfl rfl) rfl rfl (Nat.le_of_ble_eq_true rfl) dX8_word_26 ⟨Nat.le_of_ble_eq_true rfl, Nat.le_of_ble_eq_true rfl⟩ (gPerm_ix [0, 1] rfl rfl) ?_
        refine g_callVVe (F := [(m 1, .inl (gy G 0, 120, .inl sg))]) (ws2 := [(m 0, .inr (8, [.int (q 0), .ref (m 1), .int (nI n), .int (nI (a + 1)), .int 0, .int (q 4), .ref (m 2), .ref (m 3), .ref (m 4), .ref (m 5), .int (q 5), .ref (m 6), .ref (m 7), .ref (m 8), .int (q 6), .int (q 7), .int (q 8)])), (m 1, .inl (gy G 0, 120, .inl sg))]) E (mX8_accept0 G m (qU (qU (qU q 1 (nI n)) 2 (nI (a + 1))) 3 0) (if gSg n sg (a + 1) = f then 1 else 0)) gX8_word_X8_accept rfl hdX8_accept ⟨Nat.le_of_ble_eq_true rfl, Nat.le_of_ble_eq_true rfl⟩ 8 0 rfl rfl rfl (gPerm_ix [0, 1] rfl rfl) rfl rfl (Nat.le_of_ble_eq_true rfl) dX8_word_29 ⟨Nat.le_of_ble_eq_true rfl, Nat.le_of_ble_eq_true rfl⟩ (gPerm_ix [0, 1] rfl rfl) ?_
        exact RET _ _ (a + 1, false) (⟨(by first | exact ha | omega), by first | (simp [gWdP, gSame, c1, c2, c5]; done) | (simp [gWdP, gSame, c1, c2, c5]; omega)⟩) dX8_word_32
  · skip
    refine g_top (y := 0) (if_neg c1) ?_
    refine g_callVVe (F := [(m 1, .inl (gy G 0, 120, .inl sg))]) (ws2 := [(m 0, .inr (8, [.int (q 0), .ref (m 1), .int (nI n), .int (nI a), .int 0, .int (q 4), .ref (m 2), .ref (m 3), .ref (m 4), .ref (m 5), .int (q 5), .ref (m 6), .ref (m 7), .ref (m 8), .int (q 6), .int (q 7), .int (q 8)])), (m 1, .inl (gy G 0, 120, .inl sg))]) E (mX8_acceptN G m (qU (qU (qU q 1 (nI n)) 2 (nI a)) 3 1) a) gX8_word_X8_accept rfl hdX8_accept ⟨Nat.le_of_ble_eq_true rfl, Nat.le_of_ble_eq_true rfl⟩ 8 0 rfl rfl rfl (gPerm_ix [0, 1] rfl rfl) rfl rfl (Nat.le_of_ble_eq_true rfl) dX8_word_6 ⟨Nat.le_of_ble_eq_true rfl, Nat.le_of_ble_eq_true rfl⟩ (gPerm_ix [0, 1] rfl rfl) ?_
    refine g_aload_n E dX8_word_9 rfl 0 rfl ?_
    refine g_aload_n E dX8_word_10 rfl 0 rfl ?_
    refine g_iload_n E dX8_word_11 rfl 2 rfl ?_
    refine g_callVIe (F := []) (ws2 := [(m 0, .inr (8, [.int (q 0), .ref (m 1), .int (nI n), .int (nI a), .int 0, .int (q 4), .ref (m 2), .ref (m 3), .ref (m 4), .ref (m 5), .int (q 5), .ref (m 6), .ref (m 7), .ref (m 8), .int (q 6), .int (q 7), .int (q 8)])), (m 1, .inl (gy G 0, 120, .inl sg))]) E (mX8_isNext G m (qU (qU (qU q 1 (nI n)) 2 (nI a)) 3 0) n a sg t (by omega) (by omega) ht) gX8_word_X8_isNext rfl hdX8_isNext ⟨Nat.le_of_ble_eq_true rfl, Nat.le_of_ble_eq_true rfl⟩ 8 0 rfl rfl rfl (gPerm_ix [0, 1] rfl rfl) rfl rfl (Nat.le_of_ble_eq_true rfl) dX8_word_12 ⟨Nat.le_of_ble_eq_true rfl, Nat.le_of_ble_eq_true rfl⟩ (gPerm_ix [0, 1] rfl rfl) ?_
    refine g_callVVe (F := [(m 1, .inl (gy G 0, 120, .inl sg))]) (ws2 := [(m 0, .inr (8, [.int (q 0), .ref (m 1), .int (nI n), .int (nI a), .int 0, .int (q 4), .ref (m 2), .ref (m 3), .ref (m 4), .ref (m 5), .int (q 5), .ref (m 6), .ref (m 7), .ref (m 8), .int (q 6), .int (q 7), .int (q 8)])), (m 1, .inl (gy G 0, 120, .inl sg))]) E (mX8_accept0 G m (qU (qU (qU q 1 (nI n)) 2 (nI a)) 3 0) (if gSg n sg a = t then 1 else 0)) gX8_word_X8_accept rfl hdX8_accept ⟨Nat.le_of_ble_eq_true rfl, Nat.le_of_ble_eq_true rfl⟩ 8 0 rfl rfl rfl (gPerm_ix [0, 1] rfl rfl) rfl rfl (Nat.le_of_ble_eq_true rfl) dX8_word_15 ⟨Nat.le_of_ble_eq_true rfl, Nat.le_of_ble_eq_true rfl⟩ (gPerm_ix [0, 1] rfl rfl) ?_
    refine g_iload_n E dX8_word_18 rfl 3 rfl ?_
    refine g_iconst (v := (-1)) E dX8_word_19 (by decide) ?_
    refine g_icmp_eq (tgt := 32) E dX8_word_20 (by decide) (fun c6 => ?_) (fun c6 => ?_)
    · exfalso
      exact hf c6
    · skip
      refine g_aload_n E dX8_word_23 rfl 0 rfl ?_
      refine g_aload_n E dX8_word_24 rfl 0 rfl ?_
      refine g_iload_n E dX8_word_25 rfl 3 rfl ?_
      refine g_callVIe (F := []) (ws2 := [(m 0, .inr (8, [.int (q 0), .ref (m 1), .int (nI n), .int (nI a), .int 0, .int (q 4), .ref (m 2), .ref (m 3), .ref (m 4), .ref (m 5), .int (q 5), .ref (m 6), .ref (m 7), .ref (m 8), .int (q 6), .int (q 7), .int (q 8)])), (m 1, .inl (gy G 0, 120, .inl sg))]) E (mX8_isNext G m (qU (qU (qU q 1 (nI n)) 2 (nI a)) 3 0) n a sg f (by omega) (by omega) hf) gX8_word_X8_isNext rfl hdX8_isNext ⟨Nat.le_of_ble_eq_true rfl, Nat.le_of_ble_eq_true rfl⟩ 8 0 rfl rfl rfl (gPerm_ix [0, 1] rfl rfl) rfl rfl (Nat.le_of_ble_eq_true rfl) dX8_word_26 ⟨Nat.le_of_ble_eq_true rfl, Nat.le_of_ble_eq_true rfl⟩ (gPerm_ix [0, 1] rfl rfl) ?_
      refine g_callVVe (F := [(m 1, .inl (gy G 0, 120, .inl sg))]) (ws2 := [(m 0, .inr (8, [.int (q 0), .ref (m 1), .int (nI n), .int (nI a), .int 0, .int (q 4), .ref (m 2), .ref (m 3), .ref (m 4), .ref (m 5), .int (q 5), .ref (m 6), .ref (m 7), .ref (m 8), .int (q 6), .int (q 7), .int (q 8)])), (m 1, .inl (gy G 0, 120, .inl sg))]) E (mX8_accept0 G m (qU (qU (qU q 1 (nI n)) 2 (nI a)) 3 0) (if gSg n sg a = f then 1 else 0)) gX8_word_X8_accept rfl hdX8_accept ⟨Nat.le_of_ble_eq_true rfl, Nat.le_of_ble_eq_true rfl⟩ 8 0 rfl rfl rfl (gPerm_ix [0, 1] rfl rfl) rfl rfl (Nat.le_of_ble_eq_true rfl) dX8_word_29 ⟨Nat.le_of_ble_eq_true rfl, Nat.le_of_ble_eq_true rfl⟩ (gPerm_ix [0, 1] rfl rfl) ?_
      exact RET _ _ (a, false) (⟨(by first | exact ha | omega), by first | (simp [gWdP, gSame, c1, c6]; done) | (simp [gWdP, gSame, c1, c6]; omega)⟩) dX8_word_32

set_option maxHeartbeats 4000000 in
set_option maxRecDepth 100000 in
theorem mX8_word2 (G : gG) (m : Nat → Nat) (q : Nat → Int32) (n a : Nat) (sg : Nat → Int32) (s t : Int32) (hn12 : n ≤ 120) (ha : a ≤ n) (hs : ¬ s = -1) (ht : ¬ t = -1) : CV G yX8_word wsX8_word 1 21 [.ref (m 0), .int s, .int t, .int (-1)] [(m 0, .inr (8, [.int (q 0), .ref (m 1), .int (nI n), .int (nI a), .int 1, .int (q 4), .ref (m 2), .ref (m 3), .ref (m 4), .ref (m 5), .int (q 5), .ref (m 6), .ref (m 7), .ref (m 8), .int (q 6), .int (q 7), .int (q 8)])), (m 1, .inl (gy G 0, 120, .inl sg))] (fun u : Nat × Bool => u.1 ≤ n ∧ gWdP n sg a [s, t] u) (fun (u : Nat × Bool) => [(m 0, .inr (8, [.int (q 0), .ref (m 1), .int (nI n), .int (nI u.1), .int (if u.2 = true then 1 else 0), .int (q 4), .ref (m 2), .ref (m 3), .ref (m 4), .ref (m 5), .int (q 5), .ref (m 6), .ref (m 7), .ref (m 8), .int (q 6), .int (q 7), .int (q 8)])), (m 1, .inl (gy G 0, 120, .inl sg))]) 0 0 := by
  refine g_enterV RX8 rfl (by decide) rfl (Nat.le_of_ble_eq_true rfl) ?_
  intro V E RET
  refine g_aload_n E dX8_word_0 rfl 0 rfl ?_
  refine g_aload_n E dX8_word_1 rfl 0 rfl ?_
  refine g_iload_n E dX8_word_2 rfl 1 rfl ?_
  refine g_callVIe (F := []) (ws2 := [(m 0, .inr (8, [.int (q 0), .ref (m 1), .int (nI n), .int (nI a), .int 1, .int (q 4), .ref (m 2), .ref (m 3), .ref (m 4), .ref (m 5), .int (q 5), .ref (m 6), .ref (m 7), .ref (m 8), .int (q 6), .int (q 7), .int (q 8)])), (m 1, .inl (gy G 0, 120, .inl sg))]) E (mX8_isNext G m (qU (qU (qU q 1 (nI n)) 2 (nI a)) 3 1) n a sg s (by omega) (by omega) hs) gX8_word_X8_isNext rfl hdX8_isNext ⟨Nat.le_of_ble_eq_true rfl, Nat.le_of_ble_eq_true rfl⟩ 8 0 rfl rfl rfl (gPerm_ix [0, 1] rfl rfl) rfl rfl (Nat.le_of_ble_eq_true rfl) dX8_word_3 ⟨Nat.le_of_ble_eq_true rfl, Nat.le_of_ble_eq_true rfl⟩ (gPerm_ix [0, 1] rfl rfl) ?_
  by_cases c1 : gSg n sg a = s
  · skip
    refine g_top (y := 1) (if_pos c1) ?_
    have hltc1 : a < n := gSg_lt c1 (by first | decide | assumption)
    refine g_callVVe (F := [(m 1, .inl (gy G 0, 120, .inl sg))]) (ws2 := [(m 0, .inr (8, [.int (q 0), .ref (m 1), .int (nI n), .int (nI (a + 1)), .int 1, .int (q 4), .ref (m 2), .ref (m 3), .ref (m 4), .ref (m 5), .int (q 5), .ref (m 6), .ref (m 7), .ref (m 8), .int (q 6), .int (q 7), .int (q 8)])), (m 1, .inl (gy G 0, 120, .inl sg))]) E (mX8_acceptY G m (qU (qU (qU q 1 (nI n)) 2 (nI a)) 3 1) a) gX8_word_X8_accept rfl hdX8_accept ⟨Nat.le_of_ble_eq_true rfl, Nat.le_of_ble_eq_true rfl⟩ 8 0 rfl rfl rfl (gPerm_ix [0, 1] rfl rfl) rfl rfl (Nat.le_of_ble_eq_true rfl) dX8_word_6 ⟨Nat.le_of_ble_eq_true rfl, Nat.le_of_ble_eq_true rfl⟩ (gPerm_ix [0, 1] rfl rfl) ?_
    refine g_aload_n E dX8_word_9 rfl 0 rfl ?_
    refine g_aload_n E dX8_word_10 rfl 0 rfl ?_
    refine g_iload_n E dX8_word_11 rfl 2 rfl ?_
    refine g_callVIe (F := []) (ws2 := [(m 0, .inr (8, [.int (q 0), .ref (m 1), .int (nI n), .int (nI (a + 1)), .int 1, .int (q 4), .ref (m 2), .ref (m 3), .ref (m 4), .ref (m 5), .int (q 5), .ref (m 6), .ref (m 7), .ref (m 8), .int (q 6), .int (q 7), .int (q 8)])), (m 1, .inl (gy G 0, 120, .inl sg))]) E (mX8_isNext G m (qU (qU (qU q 1 (nI n)) 2 (nI (a + 1))) 3 1) n (a + 1) sg t (by omega) (by omega) ht) gX8_word_X8_isNext rfl hdX8_isNext ⟨Nat.le_of_ble_eq_true rfl, Nat.le_of_ble_eq_true rfl⟩ 8 0 rfl rfl rfl (gPerm_ix [0, 1] rfl rfl) rfl rfl (Nat.le_of_ble_eq_true rfl) dX8_word_12 ⟨Nat.le_of_ble_eq_true rfl, Nat.le_of_ble_eq_true rfl⟩ (gPerm_ix [0, 1] rfl rfl) ?_
    by_cases c2 : gSg n sg (a + 1) = t
    · skip
      refine g_top (y := 1) (if_pos c2) ?_
      have hltc2 : (a + 1) < n := gSg_lt c2 (by first | decide | assumption)
      refine g_callVVe (F := [(m 1, .inl (gy G 0, 120, .inl sg))]) (ws2 := [(m 0, .inr (8, [.int (q 0), .ref (m 1), .int (nI n), .int (nI (a + 1 + 1)), .int 1, .int (q 4), .ref (m 2), .ref (m 3), .ref (m 4), .ref (m 5), .int (q 5), .ref (m 6), .ref (m 7), .ref (m 8), .int (q 6), .int (q 7), .int (q 8)])), (m 1, .inl (gy G 0, 120, .inl sg))]) E (mX8_acceptY G m (qU (qU (qU q 1 (nI n)) 2 (nI (a + 1))) 3 1) (a + 1)) gX8_word_X8_accept rfl hdX8_accept ⟨Nat.le_of_ble_eq_true rfl, Nat.le_of_ble_eq_true rfl⟩ 8 0 rfl rfl rfl (gPerm_ix [0, 1] rfl rfl) rfl rfl (Nat.le_of_ble_eq_true rfl) dX8_word_15 ⟨Nat.le_of_ble_eq_true rfl, Nat.le_of_ble_eq_true rfl⟩ (gPerm_ix [0, 1] rfl rfl) ?_
      refine g_iload_n E dX8_word_18 rfl 3 rfl ?_
      refine g_iconst (v := (-1)) E dX8_word_19 (by decide) ?_
      refine g_icmp_eq (tgt := 32) E dX8_word_20 (by decide) (fun _ => ?_) (fun c => absurd c (by decide))
      exact RET _ _ (a + 1 + 1, true) (⟨(by first | exact ha | omega), by first | (simp [gWdP, gSame, c1, c2]; done) | (simp [gWdP, gSame, c1, c2]; omega)⟩) dX8_word_32
    · skip
      refine g_top (y := 0) (if_neg c2) ?_
      refine g_callVVe (F := [(m 1, .inl (gy G 0, 120, .inl sg))]) (ws2 := [(m 0, .inr (8, [.int (q 0), .ref (m 1), .int (nI n), .int (nI (a + 1)), .int 0, .int (q 4), .ref (m 2), .ref (m 3), .ref (m 4), .ref (m 5), .int (q 5), .ref (m 6), .ref (m 7), .ref (m 8), .int (q 6), .int (q 7), .int (q 8)])), (m 1, .inl (gy G 0, 120, .inl sg))]) E (mX8_acceptN G m (qU (qU (qU q 1 (nI n)) 2 (nI (a + 1))) 3 1) (a + 1)) gX8_word_X8_accept rfl hdX8_accept ⟨Nat.le_of_ble_eq_true rfl, Nat.le_of_ble_eq_true rfl⟩ 8 0 rfl rfl rfl (gPerm_ix [0, 1] rfl rfl) rfl rfl (Nat.le_of_ble_eq_true rfl) dX8_word_15 ⟨Nat.le_of_ble_eq_true rfl, Nat.le_of_ble_eq_true rfl⟩ (gPerm_ix [0, 1] rfl rfl) ?_
      refine g_iload_n E dX8_word_18 rfl 3 rfl ?_
      refine g_iconst (v := (-1)) E dX8_word_19 (by decide) ?_
      refine g_icmp_eq (tgt := 32) E dX8_word_20 (by decide) (fun _ => ?_) (fun c => absurd c (by decide))
      exact RET _ _ (a + 1, false) (⟨(by first | exact ha | omega), by first | (simp [gWdP, gSame, c1, c2]; done) | (simp [gWdP, gSame, c1, c2]; omega)⟩) dX8_word_32
  · skip
    refine g_top (y := 0) (if_neg c1) ?_
    refine g_callVVe (F := [(m 1, .inl (gy G 0, 120, .inl sg))]) (ws2 := [(m 0, .inr (8, [.int (q 0), .ref (m 1), .int (nI n), .int (nI a), .int 0, .int (q 4), .ref (m 2), .ref (m 3), .ref (m 4), .ref (m 5), .int (q 5), .ref (m 6), .ref (m 7), .ref (m 8), .int (q 6), .int (q 7), .int (q 8)])), (m 1, .inl (gy G 0, 120, .inl sg))]) E (mX8_acceptN G m (qU (qU (qU q 1 (nI n)) 2 (nI a)) 3 1) a) gX8_word_X8_accept rfl hdX8_accept ⟨Nat.le_of_ble_eq_true rfl, Nat.le_of_ble_eq_true rfl⟩ 8 0 rfl rfl rfl (gPerm_ix [0, 1] rfl rfl) rfl rfl (Nat.le_of_ble_eq_true rfl) dX8_word_6 ⟨Nat.le_of_ble_eq_true rfl, Nat.le_of_ble_eq_true rfl⟩ (gPerm_ix [0, 1] rfl rfl) ?_
    refine g_aload_n E dX8_word_9 rfl 0 rfl ?_
    refine g_aload_n E dX8_word_10 rfl 0 rfl ?_
    refine g_iload_n E dX8_word_11 rfl 2 rfl ?_
    refine g_callVIe (F := []) (ws2 := [(m 0, .inr (8, [.int (q 0), .ref (m 1), .int (nI n), .int (nI a), .int 0, .int (q 4), .ref (m 2), .ref (m 3), .ref (m 4), .ref (m 5), .int (q 5), .ref (m 6), .ref (m 7), .ref (m 8), .int (q 6), .int (q 7), .int (q 8)])), (m 1, .inl (gy G 0, 120, .inl sg))]) E (mX8_isNext G m (qU (qU (qU q 1 (nI n)) 2 (nI a)) 3 0) n a sg t (by omega) (by omega) ht) gX8_word_X8_isNext rfl hdX8_isNext ⟨Nat.le_of_ble_eq_true rfl, Nat.le_of_ble_eq_true rfl⟩ 8 0 rfl rfl rfl (gPerm_ix [0, 1] rfl rfl) rfl rfl (Nat.le_of_ble_eq_true rfl) dX8_word_12 ⟨Nat.le_of_ble_eq_true rfl, Nat.le_of_ble_eq_true rfl⟩ (gPerm_ix [0, 1] rfl rfl) ?_
    refine g_callVVe (F := [(m 1, .inl (gy G 0, 120, .inl sg))]) (ws2 := [(m 0, .inr (8, [.int (q 0), .ref (m 1), .int (nI n), .int (nI a), .int 0, .int (q 4), .ref (m 2), .ref (m 3), .ref (m 4), .ref (m 5), .int (q 5), .ref (m 6), .ref (m 7), .ref (m 8), .int (q 6), .int (q 7), .int (q 8)])), (m 1, .inl (gy G 0, 120, .inl sg))]) E (mX8_accept0 G m (qU (qU (qU q 1 (nI n)) 2 (nI a)) 3 0) (if gSg n sg a = t then 1 else 0)) gX8_word_X8_accept rfl hdX8_accept ⟨Nat.le_of_ble_eq_true rfl, Nat.le_of_ble_eq_true rfl⟩ 8 0 rfl rfl rfl (gPerm_ix [0, 1] rfl rfl) rfl rfl (Nat.le_of_ble_eq_true rfl) dX8_word_15 ⟨Nat.le_of_ble_eq_true rfl, Nat.le_of_ble_eq_true rfl⟩ (gPerm_ix [0, 1] rfl rfl) ?_
    refine g_iload_n E dX8_word_18 rfl 3 rfl ?_
    refine g_iconst (v := (-1)) E dX8_word_19 (by decide) ?_
    refine g_icmp_eq (tgt := 32) E dX8_word_20 (by decide) (fun _ => ?_) (fun c => absurd c (by decide))
    exact RET _ _ (a, false) (⟨(by first | exact ha | omega), by first | (simp [gWdP, gSame, c1]; done) | (simp [gWdP, gSame, c1]; omega)⟩) dX8_word_32
