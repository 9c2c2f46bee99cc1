def gTn (S : gSt) (k : Nat) (tu : Nat → Nat) : Prop := (∀ j, j < k → tu j < k) ∧ ∀ i j, i < j → j < k → gRk (sW S) (sI S 3) (tu j) (tu i) = true
theorem gTn_0 {S : gSt} {tu : Nat → Nat} : gTn S 0 tu := ⟨fun j hj => absurd hj (Nat.not_lt_zero j), fun i j _ hj => absurd hj (Nat.not_lt_zero j)⟩
def gIn (tu : Nat → Nat) (y k : Nat) : Nat → Nat := fun j => if j < y then tu j else if j = y then k else tu (j - 1)
theorem gIn_tn {tu : Nat → Nat} {y k : Nat} {tn : Nat → Int32} (hy : y ≤ k) (h1 : ∀ j, j < y → tn j = nI (tu j)) (h2 : ∀ j, y ≤ j → j < k → tn (j + 1) = nI (tu j)) : ∀ j, j < k + 1 → upd tn y (nI k) j = nI (gIn tu y k j) := by
  intro j hj
  unfold gIn
  by_cases c : j < y
  · rw [if_pos c, upd_ne (by omega)]
    exact h1 j c
  · rw [if_neg c]
    by_cases c2 : j = y
    · rw [if_pos c2, upd_eq c2]
    · rw [if_neg c2, upd_ne c2]
      have := h2 (j - 1) (by omega) (by omega)
      rw [show j - 1 + 1 = j by omega] at this
      exact this
theorem gRk_iff {S : gSt} {i j : Nat} : gRk (sW S) (sI S 3) j i = true ↔ (sI S 3 (wq (sW S) i / 10)).toInt < (sI S 3 (wq (sW S) j / 10)).toInt ∨ ((sI S 3 (wq (sW S) i / 10)).toInt = (sI S 3 (wq (sW S) j / 10)).toInt ∧ i < j) := by
  simp only [gRk, Bool.or_eq_true, Bool.and_eq_true, decide_eq_true_eq, Int32.lt_iff_toInt_lt, ← Int32.toInt_inj]
theorem gTn_st {S : gSt} {tu : Nat → Nat} {y k : Nat} (hs : gTn S k tu) (hy : y ≤ k) (h2 : ∀ j, y ≤ j → j < k → sI S 3 (wq (sW S) k / 10) < sI S 3 (wq (sW S) (tu j) / 10)) (h3 : y = 0 ∨ (0 < y ∧ sI S 3 (wq (sW S) (tu (y - 1)) / 10) ≤ sI S 3 (wq (sW S) k / 10))) : gTn S (k + 1) (gIn tu y k) := by
  have lo : ∀ i, i < y → gRk (sW S) (sI S 3) k (tu i) = true := by
    intro i hi
    rcases h3 with rfl | ⟨h0, h3⟩
    · exact absurd hi (Nat.not_lt_zero i)
    · have ht := hs.1 i (by omega)
      have ht2 := hs.1 (y - 1) (by omega)
      rw [Int32.le_iff_toInt_le] at h3
      rw [gRk_iff]
      by_cases c : i = y - 1
      · subst c
        omega
      · have h4 := hs.2 i (y - 1) (by omega) (by omega)
        rw [gRk_iff] at h4
        omega
  have up : ∀ j, y ≤ j → j < k → gRk (sW S) (sI S 3) (tu j) k = true := by
    intro j a b
    have := h2 j a b
    rw [Int32.lt_iff_toInt_lt] at this
    rw [gRk_iff]
    exact Or.inl this
  refine ⟨fun j hj => ?_, fun i j hij hj => ?_⟩
  · unfold gIn
    split
    · have := hs.1 j (by omega)
      omega
    · split
      · omega
      · have := hs.1 (j - 1) (by omega)
        omega
  · unfold gIn
    by_cases c1 : j < y
    · rw [if_pos c1, if_pos (by omega)]
      exact hs.2 i j hij (by omega)
    · rw [if_neg c1]
      by_cases c2 : j = y
      · rw [if_pos c2, if_pos (by omega)]
        exact lo i (by omega)
      · rw [if_neg c2]
        by_cases c3 : i < y
        · rw [if_pos c3]
          exact hs.2 i (j - 1) (by omega) (by omega)
        · rw [if_neg c3]
          by_cases c4 : i = y
          · rw [if_pos c4]
            exact up (j - 1) (by omega) (by omega)
          · rw [if_neg c4]
            exact hs.2 (i - 1) (j - 1) (by omega) (by omega)
theorem gTn_fin {S : gSt} {tu : Nat → Nat} {T : Nat} (hs : gTn S (sW S).length tu) (hT : T < (sW S).length) : gTurn (sW S) (sI S 3) T = some (tu T) := by
  have up : ∀ d j, d + j < (sW S).length → gRank (sW S) (sI S 3) (tu j) + d ≤ gRank (sW S) (sI S 3) (tu (d + j)) := by
    intro d
    induction d with
    | zero => intro j _; rw [Nat.zero_add]; exact Nat.le_refl _
    | succ d ih =>
      intro j hj
      have h1 := ih j (by omega)
      have h2 := gRank_mono (W := sW S) (hf := sI S 3) (hs.1 (d + j) (by omega)) (hs.2 (d + j) (d + 1 + j) (by omega) hj)
      omega
  have e : gRank (sW S) (sI S 3) (tu T) = T := by
    have h1 := up T 0 (by omega)
    have h2 := up ((sW S).length - 1 - T) T (by omega)
    have h3 := gRank_lt (W := sW S) (hf := sI S 3) (hs.1 ((sW S).length - 1) (by omega))
    rw [Nat.add_zero] at h1
    rw [show (sW S).length - 1 - T + T = (sW S).length - 1 by omega] at h2
    omega
  obtain ⟨i, hi, ei⟩ := gTurn_ex (W := sW S) (hf := sI S 3) hT
  have h4 := (gTurn_lt ei).2
  rw [ei]
  congr 1
  apply Decidable.byContradiction
  intro c
  exact gRank_ne (W := sW S) (hf := sI S 3) hi (hs.1 T hT) c (h4.trans e.symm)
set_option maxHeartbeats 4000000 in
set_option maxRecDepth 100000 in
theorem mX8_layTurns (G : gG) (m : Nat → Nat) (q : Nat → Int32) (r : Nat) (S : gSt) (f : Nat → Int32) (tn : Nat → Int32) (hI : gI1 S) (hT : sN S 0 < 1000000000) (hRR : RR S f) : CV G yX8_layTurns wsX8_layTurns 2 42 [.ref (m 0), .ref r] [(m 0, .inr (8, [.int (q 0), .ref (m 1), .int (q 1), .int (q 2), .int (q 3), .int (q 4), .ref (m 2), .ref (m 3), .ref (m 4), .ref (m 5), .int (q 5), .ref (m 6), .ref (m 7), .ref (m 8), .int (q 6), .int (q 7), .int (q 8)])), (m 8, .inl (gy G 0, 10, .inl tn)), (r, .inl (gy G 0, 271, .inl f))] (fun u : Nat → Int32 => ∀ T, T < (sW S).length → ∃ i, gTurn (sW S) (sI S 3) T = some i ∧ u T = nI i) (fun (u : Nat → Int32) => [(m 0, .inr (8, [.int (q 0), .ref (m 1), .int (q 1), .int (q 2), .int (q 3), .int (q 4), .ref (m 2), .ref (m 3), .ref (m 4), .ref (m 5), .int (q 5), .ref (m 6), .ref (m 7), .ref (m 8), .int (q 6), .int (q 7), .int (q 8)])), (m 8, .inl (gy G 0, 10, .inl u)), (r, .inl (gy G 0, 271, .inl f))]) 0 0 := by
  refine g_enterV RX8 rfl (by decide) rfl (Nat.le_of_ble_eq_true rfl) ?_
  intro V E RET
  have hX := hI
  obtain ⟨hP8, hn, hw, hW8, hs3, hs4, hs5, hs6, hs7, hs8, hb34⟩ := hX
  refine g_iconst (v := 0) E dX8_layTurns_0 (by decide) ?_
  refine g_istore_n (lv' := [(2, .int 0), (0, .ref (m 0)), (1, .ref r)]) E dX8_layTurns_1 rfl (by decide) rfl ?_
  have loop1 : ∀ (n2 : Nat) (k : Nat) (tu : Nat → Nat) (tn1 : Nat → Int32), (k ≤ (sW S).length) → (gTn S k tu) → (∀ j, j < k → tn1 j = nI (tu j)) → (sW S).length - k < n2 → gW V 4 0 0 [(m 0, .inr (8, [.int (q 0), .ref (m 1), .int (q 1), .int (q 2), .int (q 3), .int (q 4), .ref (m 2), .ref (m 3), .ref (m 4), .ref (m 5), .int (q 5), .ref (m 6), .ref (m 7), .ref (m 8), .int (q 6), .int (q 7), .int (q 8)])), (m 8, .inl (gy G 0, 10, .inl tn1)), (r, .inl (gy G 0, 271, .inl f))] [(0, .ref (m 0)), (1, .ref r), (2, .int (nI k))] 2 [] := by
    intro n2
    induction n2 with
    | zero => intro k tu tn1 hk hs ht hm4; exact absurd hm4 (Nat.not_lt_zero _)
    | succ n2 ih3 =>
      intro k tu tn1 hk hs ht hm4
      refine g_iload_n E dX8_layTurns_2 rfl 2 rfl ?_
      refine g_aload_n E dX8_layTurns_3 rfl 1 rfl ?_
      refine g_iconst (v := 3) E dX8_layTurns_4 (by decide) ?_
      refine g_ialdN (e := 3) E 2 rfl (by omega) rfl (v := nI ((sW S).length)) (RR_3 hRR) dX8_layTurns_5 ?_
      refine g_icmp_geN (tgt := 68) (a := k) (b := (sW S).length) E dX8_layTurns_6 (by decide) (by omega) (by omega) (fun c5 => ?_) (fun c5 => ?_)
      · skip
        obtain rfl : k = (sW S).length := by omega
        exact RET _ _ _ (fun T hT => ⟨tu T, gTn_fin hs hT, ht T hT⟩) dX8_layTurns_68
      · skip
        have hkl : k < (sW S).length := by omega
        refine g_iload_n E dX8_layTurns_9 rfl 2 rfl ?_
        refine g_istore_n (lv' := [(3, .int (nI k)), (0, .ref (m 0)), (1, .ref r), (2, .int (nI k))]) E dX8_layTurns_10 rfl (by decide) rfl ?_
        have loop6 : ∀ (n7 : Nat) (y : Nat) (tn2 : Nat → Int32), (y ≤ k) → (∀ j, j < y → tn2 j = nI (tu j)) → (∀ j, y ≤ j → j < k → tn2 (j + 1) = nI (tu j) ∧ sI S 3 (wq (sW S) (k) / 10) < sI S 3 (wq (sW S) (tu j) / 10)) → y < n7 → gW V 4 0 0 [(m 0, .inr (8, [.int (q 0), .ref (m 1), .int (q 1), .int (q 2), .int (q 3), .int (q 4), .ref (m 2), .ref (m 3), .ref (m 4), .ref (m 5), .int (q 5), .ref (m 6), .ref (m 7), .ref (m 8), .int (q 6), .int (q 7), .int (q 8)])), (m 8, .inl (gy G 0, 10, .inl tn2)), (r, .inl (gy G 0, 271, .inl f))] [(0, .ref (m 0)), (1, .ref r), (2, .int (nI k)), (3, .int (nI y))] 11 [] := by
          intro n7
          induction n7 with
          | zero => intro y tn2 hy h1 h2 hm9; exact absurd hm9 (Nat.not_lt_zero _)
          | succ n7 ih8 =>
            intro y tn2 hy h1 h2 hm9
            refine g_iload_n E dX8_layTurns_11 rfl 3 rfl ?_
            refine g_if_leN (tgt := 55) (a := y) E dX8_layTurns_12 (by decide) (by omega) (fun c10 => ?_) (fun c10 => ?_)
            · skip
              refine g_aload_n E dX8_layTurns_55 rfl 0 rfl ?_
              refine g_get E uX8_layTurns_RX8 0 rfl rfl 13 (by decide) kX8_layTurns_32 rfl rfl dX8_layTurns_56 ?_
              refine g_iload_n E dX8_layTurns_59 rfl 3 rfl ?_
              refine g_iload_n E dX8_layTurns_60 rfl 2 rfl ?_
              refine g_iast (ws' := [(m 0, .inr (8, [.int (q 0), .ref (m 1), .int (q 1), .int (q 2), .int (q 3), .int (q 4), .ref (m 2), .ref (m 3), .ref (m 4), .ref (m 5), .int (q 5), .ref (m 6), .ref (m 7), .ref (m 8), .int (q 6), .int (q 7), .int (q 8)])), (m 8, .inl (gy G 0, 10, .inl (upd tn2 y (nI k)))), (r, .inl (gy G 0, 271, .inl f))]) (j := y) (y := nI k) E 1 rfl (g_in (e := y) (by omega) rfl) (nI_clamp (n := y) (by omega)) rfl rfl dX8_layTurns_61 ?_
              refine g_iinc (lv' := [(2, .int (nI (k + 1))), (0, .ref (m 0)), (1, .ref r), (3, .int (nI y))]) E dX8_layTurns_62 2 rfl (g_inc _ 1 (by decide)) (by decide) rfl ?_
              refine g_goto (tgt := 2) E dX8_layTurns_65 (by decide) ?_
              refine g_lv [1, 2, 0] rfl ?_
              exact ih3  (k + 1) (gIn tu y k) _ (by omega) (gTn_st hs hy (fun j a b => (h2 j a b).2) (Or.inl (by omega))) (gIn_tn hy h1 (fun j a b => (h2 j a b).1)) (by omega)
            · skip
              have hy0 : 0 < y := by omega
              have htu := hs.1 (y - 1) (by omega)
              refine g_aload_n E dX8_layTurns_15 rfl 1 rfl ?_
              refine g_aload_n E dX8_layTurns_16 rfl 0 rfl ?_
              refine g_get E uX8_layTurns_RX8 0 rfl rfl 13 (by decide) kX8_layTurns_32 rfl rfl dX8_layTurns_17 ?_
              refine g_iload_n E dX8_layTurns_20 rfl 3 rfl ?_
              refine g_iconst (v := 1) E dX8_layTurns_21 (by decide) ?_
              refine g_isubN (a := y) (b := 1) E dX8_layTurns_22 (by omega) ?_
              refine g_ialdN (e := y - 1) E 1 rfl (by omega) rfl (v := nI (tu (y - 1))) (h1 _ (by omega)) dX8_layTurns_23 ?_
              refine g_callSIe (F := [(m 0, .inr (8, [.int (q 0), .ref (m 1), .int (q 1), .int (q 2), .int (q 3), .int (q 4), .ref (m 2), .ref (m 3), .ref (m 4), .ref (m 5), .int (q 5), .ref (m 6), .ref (m 7), .ref (m 8), .int (q 6), .int (q 7), .int (q 8)])), (m 8, .inl (gy G 0, 10, .inl tn2))]) (ws2 := [(m 0, .inr (8, [.int (q 0), .ref (m 1), .int (q 1), .int (q 2), .int (q 3), .int (q 4), .ref (m 2), .ref (m 3), .ref (m 4), .ref (m 5), .int (q 5), .ref (m 6), .ref (m 7), .ref (m 8), .int (q 6), .int (q 7), .int (q 8)])), (m 8, .inl (gy G 0, 10, .inl tn2)), (r, .inl (gy G 0, 271, .inl f))]) E (mX8_visitsOf G r S f (tu (y - 1)) hI hT hRR (by omega)) gX8_layTurns_X8_visitsOf rfl hnX8_visitsOf ⟨Nat.le_of_ble_eq_true rfl, Nat.le_of_ble_eq_true rfl⟩ (gPerm_ix [2, 0, 1] rfl rfl) rfl rfl (Nat.le_of_ble_eq_true rfl) dX8_layTurns_24 ⟨Nat.le_of_ble_eq_true rfl, Nat.le_of_ble_eq_true rfl⟩ (gPerm_ix [1, 2, 0] rfl rfl) ?_
              refine g_aload_n E dX8_layTurns_27 rfl 1 rfl ?_
              refine g_iload_n E dX8_layTurns_28 rfl 2 rfl ?_
              refine g_callSIe (F := [(m 0, .inr (8, [.int (q 0), .ref (m 1), .int (q 1), .int (q 2), .int (q 3), .int (q 4), .ref (m 2), .ref (m 3), .ref (m 4), .ref (m 5), .int (q 5), .ref (m 6), .ref (m 7), .ref (m 8), .int (q 6), .int (q 7), .int (q 8)])), (m 8, .inl (gy G 0, 10, .inl tn2))]) (ws2 := [(m 0, .inr (8, [.int (q 0), .ref (m 1), .int (q 1), .int (q 2), .int (q 3), .int (q 4), .ref (m 2), .ref (m 3), .ref (m 4), .ref (m 5), .int (q 5), .ref (m 6), .ref (m 7), .ref (m 8), .int (q 6), .int (q 7), .int (q 8)])), (m 8, .inl (gy G 0, 10, .inl tn2)), (r, .inl (gy G 0, 271, .inl f))]) E (mX8_visitsOf G r S f k hI hT hRR (by omega)) gX8_layTurns_X8_visitsOf rfl hnX8_visitsOf ⟨Nat.le_of_ble_eq_true rfl, Nat.le_of_ble_eq_true rfl⟩ (gPerm_ix [2, 0, 1] rfl rfl) rfl rfl (Nat.le_of_ble_eq_true rfl) dX8_layTurns_29 ⟨Nat.le_of_ble_eq_true rfl, Nat.le_of_ble_eq_true rfl⟩ (gPerm_ix [1, 2, 0] rfl rfl) ?_
              refine g_icmp_le (tgt := 55) E dX8_layTurns_32 (by decide) (fun c11 => ?_) (fun c11 => ?_)
              · skip
                refine g_aload_n E dX8_layTurns_55 rfl 0 rfl ?_
                refine g_get E uX8_layTurns_RX8 0 rfl rfl 13 (by decide) kX8_layTurns_32 rfl rfl dX8_layTurns_56 ?_
                refine g_iload_n E dX8_layTurns_59 rfl 3 rfl ?_
                refine g_iload_n E dX8_layTurns_60 rfl 2 rfl ?_
                refine g_iast (ws' := [(m 0, .inr (8, [.int (q 0), .ref (m 1), .int (q 1), .int (q 2), .int (q 3), .int (q 4), .ref (m 2), .ref (m 3), .ref (m 4), .ref (m 5), .int (q 5), .ref (m 6), .ref (m 7), .ref (m 8), .int (q 6), .int (q 7), .int (q 8)])), (m 8, .inl (gy G 0, 10, .inl (upd tn2 y (nI k)))), (r, .inl (gy G 0, 271, .inl f))]) (j := y) (y := nI k) E 1 rfl (g_in (e := y) (by omega) rfl) (nI_clamp (n := y) (by omega)) rfl rfl dX8_layTurns_61 ?_
                refine g_iinc (lv' := [(2, .int (nI (k + 1))), (0, .ref (m 0)), (1, .ref r), (3, .int (nI y))]) E dX8_layTurns_62 2 rfl (g_inc _ 1 (by decide)) (by decide) rfl ?_
                refine g_goto (tgt := 2) E dX8_layTurns_65 (by decide) ?_
                refine g_lv [1, 2, 0] rfl ?_
                exact ih3  (k + 1) (gIn tu y k) _ (by omega) (gTn_st hs hy (fun j a b => (h2 j a b).2) (Or.inr ⟨hy0, c11⟩)) (gIn_tn hy h1 (fun j a b => (h2 j a b).1)) (by omega)
              · skip
                refine g_aload_n E dX8_layTurns_35 rfl 0 rfl ?_
                refine g_get E uX8_layTurns_RX8 0 rfl rfl 13 (by decide) kX8_layTurns_32 rfl rfl dX8_layTurns_36 ?_
                refine g_iload_n E dX8_layTurns_39 rfl 3 rfl ?_
                refine g_aload_n E dX8_layTurns_40 rfl 0 rfl ?_
                refine g_get E uX8_layTurns_RX8 0 rfl rfl 13 (by decide) kX8_layTurns_32 rfl rfl dX8_layTurns_41 ?_
                refine g_iload_n E dX8_layTurns_44 rfl 3 rfl ?_
                refine g_iconst (v := 1) E dX8_layTurns_45 (by decide) ?_
                refine g_isubN (a := y) (b := 1) E dX8_layTurns_46 (by omega) ?_
                refine g_ialdN (e := y - 1) E 1 rfl (by omega) rfl (v := nI (tu (y - 1))) (h1 _ (by omega)) dX8_layTurns_47 ?_
                refine g_iast (ws' := [(m 0, .inr (8, [.int (q 0), .ref (m 1), .int (q 1), .int (q 2), .int (q 3), .int (q 4), .ref (m 2), .ref (m 3), .ref (m 4), .ref (m 5), .int (q 5), .ref (m 6), .ref (m 7), .ref (m 8), .int (q 6), .int (q 7), .int (q 8)])), (m 8, .inl (gy G 0, 10, .inl (upd tn2 y (nI (tu (y - 1)))))), (r, .inl (gy G 0, 271, .inl f))]) (j := y) (y := nI (tu (y - 1))) E 1 rfl (g_in (e := y) (by omega) rfl) (nI_clamp (n := y) (by omega)) rfl rfl dX8_layTurns_48 ?_
                refine g_iinc (lv' := [(3, .int (nI (y - 1))), (0, .ref (m 0)), (1, .ref r), (2, .int (nI k))]) E dX8_layTurns_49 3 rfl (g_dec _ (by omega)) (by decide) rfl ?_
                refine g_goto (tgt := 11) E dX8_layTurns_52 (by decide) ?_
                refine g_lv [1, 2, 3, 0] rfl ?_
                exact ih8  (y - 1) _ (by omega) (fun j hj => (upd_ne (by omega)).trans (h1 j (by omega))) (fun j a b => if c9 : j = y - 1 then (by rw [c9]; exact ⟨upd_eq (by omega), Int32.not_le.mp c11⟩) else ⟨(upd_ne (by omega)).trans (h2 j (by omega) b).1, (h2 j (by omega) b).2⟩) (by omega)
        refine g_lv [1, 2, 3, 0] rfl ?_
        exact loop6 _ k _ (Nat.le_refl _) ht (fun j a b => absurd b (Nat.not_lt.mpr a)) (Nat.lt_succ_self _)
  refine g_lv [1, 2, 0] rfl ?_
  exact loop1 _ 0 (fun _ => 0) _ (Nat.zero_le _) gTn_0 (fun j hj => absurd hj (Nat.not_lt_zero j)) (Nat.lt_succ_self _)
