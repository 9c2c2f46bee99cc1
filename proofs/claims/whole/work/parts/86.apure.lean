/-! ===== actions of the reference ===== -/
section
variable {S : gSt} {f : Nat → Int32}
theorem nI_inj' {a b : Nat} (ha : a < 2147483648) (hb : b < 2147483648) (h : nI a = nI b) : a = b := by
  have := congrArg Int32.toInt h
  rw [nI_toInt ha, nI_toInt hb] at this
  omega
theorem gDnn {d : Int32} (h : ¬ d < nI (sN S 0)) (hT : sN S 0 < 1000000000) : ¬ d < 0 := by
  rw [Int32.lt_iff_toInt_lt, nI_toInt (by omega)] at h
  rw [Int32.lt_iff_toInt_lt, show (0 : Int32).toInt = 0 by decide]
  omega
theorem gD9 {x : Nat} (hx : x < 2147483648) (h : ¬ 9999 < nI x) : x ≤ 9999 := by
  rw [Int32.lt_iff_toInt_lt, nI_toInt hx, show (9999 : Int32).toInt = 9999 by decide] at h
  omega
theorem RR_late {K x : Nat} (h : RR S f) (hn : (sB S).length ≤ 24) (hK : K < (sB S).length) (hx : x < 1073741824) : RR (gLate S K x) (upd f (93 + 7 * K + 5) (nI x)) := by
  obtain ⟨h0, h1, h2, h3, h4, h5, h6, h7, h8, h9⟩ := h
  have el : (sB (gLate S K x)).length = (sB S).length := gLate_len S K x
  refine ⟨by rw [upd_ne (by omega)]; exact h0, by rw [upd_ne (by omega)]; exact h1, by rw [upd_ne (by omega), el]; exact h2, by rw [upd_ne (by omega)]; exact h3, fun j hj => by rw [upd_ne (by omega)]; exact h4 j hj, fun j hj => by rw [upd_ne (by omega)]; exact h5 j hj, fun q hq u hu => by rw [upd_ne (by omega)]; exact h6 q hq u hu, fun v hv => ?_, fun k hk w hw => ?_, fun k hk => ?_⟩
  · rw [upd_ne (by omega), upd_ne (by omega), upd_ne (by omega)]
    exact h7 v hv
  · rw [el] at hk
    have e : bk (sB (gLate S K x)) k = if k = K then gMin (bk (sB S) K) x else bk (sB S) k := bk_set hK k
    rw [e]
    by_cases c : k = K
    · rw [if_pos c, c]
      by_cases c2 : w = 5
      · rw [c2, upd_eq rfl, gMin_5]
        exact ⟨rfl, hx⟩
      · rw [upd_ne (by omega), gMin_ne _ _ c2]
        exact h8 K hK w hw
    · rw [if_neg c, upd_ne (by omega)]
      exact h8 k hk w hw
  · have hk' : k < (sW S).length := hk
    rw [upd_ne (by omega)]
    exact h9 k hk'
theorem gCar_bit {i : Nat} (hi : i < 32) : ∀ {k : Nat}, k ≤ 10 → gHb (gCar S k) (nI i) = (decide (i < k) && gHb (sI S 9 0) (nI i))
  | 0, _ => by
    rw [gCar, gHb_zero hi]
    rfl
  | k + 1, hk => by
    rw [gCar, gHb_or hi, gCar_bit hi (show k ≤ 10 by omega)]
    by_cases c : gHb (sI S 9 0) (nI k) = true
    · rw [if_pos c, gHb_one hi (by omega)]
      by_cases e : i = k
      · rw [e, c, decide_eq_true (show k < k + 1 by omega), decide_eq_true (rfl : k = k)]
        simp
      · rw [decide_eq_false e, Bool.or_false]
        congr 1
        exact decide_eq_decide.mpr (by omega)
    · have e0 : ∀ j : Nat, j < 32 → (0 : Int32) <<< (nI j &&& 31) = 0 := by decide +kernel
      rw [if_neg c, e0 k (by omega), gHb_zero hi, Bool.or_false]
      by_cases e : i = k
      · have c' : gHb (sI S 9 0) (nI k) = false := Bool.eq_false_iff.mpr c
        rw [e, c']
        simp
      · congr 1
        exact decide_eq_decide.mpr (by omega)
theorem gCar_all (h : gCb S) : gCar S 10 = sI S 9 0 := by
  apply gHb_ext
  intro i hi
  rw [gCar_bit hi (Nat.le_refl 10)]
  by_cases c : i < 10
  · rw [decide_eq_true c, Bool.true_and]
  · rw [decide_eq_false c, h i (by omega) hi]
    rfl
theorem gTW_3 {p v : Nat} (h8 : sN S 1 ≤ 8) (hp : p < sN S 1) (hv : v < 10) (hc : ¬ (gHb (sI S 1 p) (nI v) = true ∧ (sW S).length < 10)) : (gTryWish S (nI p) (nI v)).1 = -3 := by
  unfold gTryWish
  rw [if_pos ((gPair_iff (by omega) (by omega) h8).mpr ⟨hp, hv⟩), nI_clamp (by omega), nI_clamp (by omega)]
  by_cases c1 : gHb (sI S 1 p) (nI v) = true
  · have hl : ¬ (sW S).length < 10 := fun q => hc ⟨c1, q⟩
    rw [if_pos c1, if_pos (by omega)]
  · rw [if_neg c1]
theorem gSet_nat {j : Nat} {y : Int32} (hj : j < 6) (h : ¬ y < gLst j ∧ ¬ gMst j < y) : ∃ e, gLstN j ≤ e ∧ e ≤ gMstN j ∧ y = nI e := by
  have key : ∀ (l m : Nat) (L M : Int32), L = nI l → M = nI m → l < 1000 → m < 1000 → (¬ y < L ∧ ¬ M < y) → ∃ e, l ≤ e ∧ e ≤ m ∧ y = nI e := by
    intro l m L M hL hM hl hm hy
    rw [hL, hM] at hy
    have h0 : ¬ y < 0 := by
      have a := hy.1
      rw [Int32.lt_iff_toInt_lt, nI_toInt (by omega)] at a
      rw [Int32.lt_iff_toInt_lt, show (0 : Int32).toInt = 0 by decide]
      omega
    obtain ⟨e, he, e1⟩ := nI_of h0
    rw [e1, Int32.lt_iff_toInt_lt, Int32.lt_iff_toInt_lt, nI_toInt (by omega), nI_toInt (by omega), nI_toInt (by omega)] at hy
    exact ⟨e, by omega, by omega, e1⟩
  rcases (show j = 0 ∨ j = 1 ∨ j = 2 ∨ j = 3 ∨ j = 4 ∨ j = 5 by omega) with rfl | rfl | rfl | rfl | rfl | rfl
  · exact key 1 4 _ _ rfl rfl (by decide) (by decide) h
  · exact key 1 9 _ _ rfl rfl (by decide) (by decide) h
  · exact key 1 99 _ _ rfl rfl (by decide) (by decide) h
  · exact key 1 99 _ _ rfl rfl (by decide) (by decide) h
  · exact key 0 59 _ _ rfl rfl (by decide) (by decide) h
  · exact key 0 99 _ _ rfl rfl (by decide) (by decide) h
theorem gMstN_le {j : Nat} (hj : j < 6) : gMstN j ≤ 99 := by
  rcases (show j = 0 ∨ j = 1 ∨ j = 2 ∨ j = 3 ∨ j = 4 ∨ j = 5 by omega) with rfl | rfl | rfl | rfl | rfl | rfl <;> decide
theorem gSet_no {x y : Int32} (c : ¬ ((¬ x < 0 ∧ ¬ 6 ≤ x) ∧ (¬ y < gLst x.toNatClampNeg ∧ ¬ gMst x.toNatClampNeg < y))) : (gTrySet S x y).1 = -2 := by
  unfold gTrySet
  split
  · rename_i c1
    split
    · rename_i c2
      exact absurd ⟨c1, c2⟩ c
    · rfl
  · rfl
theorem gSet_yes {j e : Nat} (c : (¬ nI j < 0 ∧ ¬ 6 ≤ nI j) ∧ (¬ nI e < gLst (nI j).toNatClampNeg ∧ ¬ gMst (nI j).toNatClampNeg < nI e)) (hj : j < 6) (he : e < 2147483648) : gTrySet S (nI j) (nI e) = (nI (sS S j), uS S j e) := by
  unfold gTrySet
  rw [if_pos c.1, if_pos c.2, nI_clamp (by omega), nI_clamp he]
theorem gSet_lt {j : Nat} (hI : gI1 S) (hj : j < 6) : sS S j < 100 := by
  obtain ⟨h1, h2, h3, h4, h5, h6, h7, h8, h9, h10, h11⟩ := hI
  rcases (show j = 0 ∨ j = 1 ∨ j = 2 ∨ j = 3 ∨ j = 4 ∨ j = 5 by omega) with rfl | rfl | rfl | rfl | rfl | rfl <;> omega
end
