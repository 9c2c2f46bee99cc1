set_option maxHeartbeats 4000000 in
set_option maxRecDepth 100000 in
theorem mX2_hasPrisoner (G : gG) (a : Nat → Nat) (S : gSt) (gb gw : Nat → Int32) (p : Int32) (hI : gI1 S) (hT : sN S 0 < 1000000000) (hR : RB (sB S) gb) (hQ : RW (sW S) gw) : CIe G yX2_hasPrisoner wsX2_hasPrisoner 0 0 [.ref (a 0), .int p] [(a 0, .inr (3, [.int (nI (sN S 0)), .int (nI (sN S 1)), .ref (a 1), .ref (a 2), .ref (a 3), .ref (a 4), .ref (a 5), .ref (a 6), .ref (a 7), .ref (a 8), .int (sI S 9 0), .ref (a 9), .ref (a 11), .ref (a 13), .ref (a 14)])), (a 1, .inl (gy G 0, 8, .inl (sI S 0))), (a 2, .inl (gy G 0, 8, .inl (sI S 1))), (a 3, .inl (gy G 0, 8, .inl (sI S 2))), (a 4, .inl (gy G 0, 8, .inl (sI S 3))), (a 5, .inl (gy G 0, 8, .inl (sI S 4))), (a 6, .inl (gy G 0, 8, .inl (sI S 5))), (a 7, .inl (gy G 0, 10, .inl (sI S 6))), (a 8, .inl (gy G 0, 10, .inl (sI S 7))), (a 9, .inr (1, [.int (nI ((sB S).length)), .ref (a 10)])), (a 10, .inl (gy G 0, 144, .inl gb)), (a 11, .inr (6, [.int (nI ((sW S).length)), .ref (a 12)])), (a 12, .inl (gy G 0, 10, .inl gw)), (a 13, .inl (gy G 0, 5, .inl (sI S 8))), (a 14, .inl (gy G 0, 6, .inl (fun j => nI (sS S j))))] (if (¬ p < 0 ∧ ¬ nI (sN S 1) ≤ p) then 1 else 0) [(a 0, .inr (3, [.int (nI (sN S 0)), .int (nI (sN S 1)), .ref (a 1), .ref (a 2), .ref (a 3), .ref (a 4), .ref (a 5), .ref (a 6), .ref (a 7), .ref (a 8), .int (sI S 9 0), .ref (a 9), .ref (a 11), .ref (a 13), .ref (a 14)])), (a 1, .inl (gy G 0, 8, .inl (sI S 0))), (a 2, .inl (gy G 0, 8, .inl (sI S 1))), (a 3, .inl (gy G 0, 8, .inl (sI S 2))), (a 4, .inl (gy G 0, 8, .inl (sI S 3))), (a 5, .inl (gy G 0, 8, .inl (sI S 4))), (a 6, .inl (gy G 0, 8, .inl (sI S 5))), (a 7, .inl (gy G 0, 10, .inl (sI S 6))), (a 8, .inl (gy G 0, 10, .inl (sI S 7))), (a 9, .inr (1, [.int (nI ((sB S).length)), .ref (a 10)])), (a 10, .inl (gy G 0, 144, .inl gb)), (a 11, .inr (6, [.int (nI ((sW S).length)), .ref (a 12)])), (a 12, .inl (gy G 0, 10, .inl gw)), (a 13, .inl (gy G 0, 5, .inl (sI S 8))), (a 14, .inl (gy G 0, 6, .inl (fun j => nI (sS S j))))] 0 0 := by
  refine g_enterIe (ty := .boolean) RX2 rfl (by decide) rfl (Nat.le_of_ble_eq_true rfl) ?_
  intro V E RET
  have hX := hI
  obtain ⟨hP8, hn, hw, hW8, hs3, hs4, hs5, hs6, hs7, hs8, hb34⟩ := hX
  have h8 : ∀ j, j < (sW S).length → wq (sW S) j < 80 := fun j hj => (hW8 j hj).1
  refine g_iload_n E dX2_hasPrisoner_0 rfl 1 rfl ?_
  refine g_if_lt (tgt := 22) E dX2_hasPrisoner_1 (by decide) (fun c1 => ?_) (fun c1 => ?_)
  · skip
    refine g_iconst (v := 0) E dX2_hasPrisoner_22 (by decide) ?_
    exact RET _ _ _ () (by simp [c1]) rfl dX2_hasPrisoner_23
  · skip
    refine g_iload_n E dX2_hasPrisoner_4 rfl 1 rfl ?_
    refine g_aload_n E dX2_hasPrisoner_5 rfl 0 rfl ?_
    refine g_get E uX2_hasPrisoner_RX2 0 rfl rfl 1 (by decide) kX2_hasPrisoner_68 rfl rfl dX2_hasPrisoner_6 ?_
    refine g_icmp_ge (tgt := 22) E dX2_hasPrisoner_9 (by decide) (fun c2 => ?_) (fun c2 => ?_)
    · skip
      refine g_iconst (v := 0) E dX2_hasPrisoner_22 (by decide) ?_
      exact RET _ _ _ () (by simp [c1, c2]) rfl dX2_hasPrisoner_23
    · skip
      refine g_iload_n E dX2_hasPrisoner_12 rfl 1 rfl ?_
      refine g_bipush (v := 8) E dX2_hasPrisoner_13 (by decide) ?_
      refine g_icmp_ge (tgt := 22) E dX2_hasPrisoner_15 (by decide) (fun c3 => ?_) (fun c3 => ?_)
      · exfalso
        exact c2 (Int32.le_trans ((nI_leI (a := sN S 1) (b := 8) (by omega) (by omega)).mpr hP8) c3)
      · skip
        refine g_iconst (v := 1) E dX2_hasPrisoner_18 (by decide) ?_
        refine g_goto (tgt := 23) E dX2_hasPrisoner_19 (by decide) ?_
        exact RET _ _ _ () (by simp [c1, c2, c3]) rfl dX2_hasPrisoner_23
set_option maxHeartbeats 4000000 in
set_option maxRecDepth 100000 in
theorem mX2_hasVisitor (G : gG) (v : Int32)  : CIe G yX2_hasVisitor wsX2_hasVisitor 0 0 [.int v] [] (if (¬ v < 0 ∧ ¬ 10 ≤ v) then 1 else 0) [] 0 0 := by
  refine g_enterIe (ty := .boolean) RX2 rfl (by decide) rfl (Nat.le_of_ble_eq_true rfl) ?_
  intro V E RET
  refine g_iload_n E dX2_hasVisitor_0 rfl 0 rfl ?_
  refine g_if_lt (tgt := 14) E dX2_hasVisitor_1 (by decide) (fun c1 => ?_) (fun c1 => ?_)
  · skip
    refine g_iconst (v := 0) E dX2_hasVisitor_14 (by decide) ?_
    exact RET _ _ _ () (by simp [c1]) rfl dX2_hasVisitor_15
  · skip
    refine g_iload_n E dX2_hasVisitor_4 rfl 0 rfl ?_
    refine g_bipush (v := 10) E dX2_hasVisitor_5 (by decide) ?_
    refine g_icmp_ge (tgt := 14) E dX2_hasVisitor_7 (by decide) (fun c2 => ?_) (fun c2 => ?_)
    · skip
      refine g_iconst (v := 0) E dX2_hasVisitor_14 (by decide) ?_
      exact RET _ _ _ () (by simp [c1, c2]) rfl dX2_hasVisitor_15
    · skip
      refine g_iconst (v := 1) E dX2_hasVisitor_10 (by decide) ?_
      refine g_goto (tgt := 15) E dX2_hasVisitor_11 (by decide) ?_
      exact RET _ _ _ () (by simp [c1, c2]) rfl dX2_hasVisitor_15
set_option maxHeartbeats 4000000 in
set_option maxRecDepth 100000 in
theorem mX2_hasPair (G : gG) (a : Nat → Nat) (S : gSt) (gb gw : Nat → Int32) (p v : Int32) (hI : gI1 S) (hT : sN S 0 < 1000000000) (hR : RB (sB S) gb) (hQ : RW (sW S) gw) : CIe G yX2_hasPair wsX2_hasPair 1 21 [.ref (a 0), .int p, .int v] [(a 0, .inr (3, [.int (nI (sN S 0)), .int (nI (sN S 1)), .ref (a 1), .ref (a 2), .ref (a 3), .ref (a 4), .ref (a 5), .ref (a 6), .ref (a 7), .ref (a 8), .int (sI S 9 0), .ref (a 9), .ref (a 11), .ref (a 13), .ref (a 14)])), (a 1, .inl (gy G 0, 8, .inl (sI S 0))), (a 2, .inl (gy G 0, 8, .inl (sI S 1))), (a 3, .inl (gy G 0, 8, .inl (sI S 2))), (a 4, .inl (gy G 0, 8, .inl (sI S 3))), (a 5, .inl (gy G 0, 8, .inl (sI S 4))), (a 6, .inl (gy G 0, 8, .inl (sI S 5))), (a 7, .inl (gy G 0, 10, .inl (sI S 6))), (a 8, .inl (gy G 0, 10, .inl (sI S 7))), (a 9, .inr (1, [.int (nI ((sB S).length)), .ref (a 10)])), (a 10, .inl (gy G 0, 144, .inl gb)), (a 11, .inr (6, [.int (nI ((sW S).length)), .ref (a 12)])), (a 12, .inl (gy G 0, 10, .inl gw)), (a 13, .inl (gy G 0, 5, .inl (sI S 8))), (a 14, .inl (gy G 0, 6, .inl (fun j => nI (sS S j))))] (if ((¬ p < 0 ∧ ¬ nI (sN S 1) ≤ p) ∧ (¬ v < 0 ∧ ¬ 10 ≤ v)) then 1 else 0) [(a 0, .inr (3, [.int (nI (sN S 0)), .int (nI (sN S 1)), .ref (a 1), .ref (a 2), .ref (a 3), .ref (a 4), .ref (a 5), .ref (a 6), .ref (a 7), .ref (a 8), .int (sI S 9 0), .ref (a 9), .ref (a 11), .ref (a 13), .ref (a 14)])), (a 1, .inl (gy G 0, 8, .inl (sI S 0))), (a 2, .inl (gy G 0, 8, .inl (sI S 1))), (a 3, .inl (gy G 0, 8, .inl (sI S 2))), (a 4, .inl (gy G 0, 8, .inl (sI S 3))), (a 5, .inl (gy G 0, 8, .inl (sI S 4))), (a 6, .inl (gy G 0, 8, .inl (sI S 5))), (a 7, .inl (gy G 0, 10, .inl (sI S 6))), (a 8, .inl (gy G 0, 10, .inl (sI S 7))), (a 9, .inr (1, [.int (nI ((sB S).length)), .ref (a 10)])), (a 10, .inl (gy G 0, 144, .inl gb)), (a 11, .inr (6, [.int (nI ((sW S).length)), .ref (a 12)])), (a 12, .inl (gy G 0, 10, .inl gw)), (a 13, .inl (gy G 0, 5, .inl (sI S 8))), (a 14, .inl (gy G 0, 6, .inl (fun j => nI (sS S j))))] 0 0 := by
  refine g_enterIe (ty := .boolean) RX2 rfl (by decide) rfl (Nat.le_of_ble_eq_true rfl) ?_
  intro V E RET
  have hX := hI
  obtain ⟨hP8, hn, hw, hW8, hs3, hs4, hs5, hs6, hs7, hs8, hb34⟩ := hX
  have h8 : ∀ j, j < (sW S).length → wq (sW S) j < 80 := fun j hj => (hW8 j hj).1
  refine g_aload_n E dX2_hasPair_0 rfl 0 rfl ?_
  refine g_iload_n E dX2_hasPair_1 rfl 1 rfl ?_
  refine g_callVIe (F := []) (ws2 := [(a 0, .inr (3, [.int (nI (sN S 0)), .int (nI (sN S 1)), .ref (a 1), .ref (a 2), .ref (a 3), .ref (a 4), .ref (a 5), .ref (a 6), .ref (a 7), .ref (a 8), .int (sI S 9 0), .ref (a 9), .ref (a 11), .ref (a 13), .ref (a 14)])), (a 1, .inl (gy G 0, 8, .inl (sI S 0))), (a 2, .inl (gy G 0, 8, .inl (sI S 1))), (a 3, .inl (gy G 0, 8, .inl (sI S 2))), (a 4, .inl (gy G 0, 8, .inl (sI S 3))), (a 5, .inl (gy G 0, 8, .inl (sI S 4))), (a 6, .inl (gy G 0, 8, .inl (sI S 5))), (a 7, .inl (gy G 0, 10, .inl (sI S 6))), (a 8, .inl (gy G 0, 10, .inl (sI S 7))), (a 9, .inr (1, [.int (nI ((sB S).length)), .ref (a 10)])), (a 10, .inl (gy G 0, 144, .inl gb)), (a 11, .inr (6, [.int (nI ((sW S).length)), .ref (a 12)])), (a 12, .inl (gy G 0, 10, .inl gw)), (a 13, .inl (gy G 0, 5, .inl (sI S 8))), (a 14, .inl (gy G 0, 6, .inl (fun j => nI (sS S j))))]) E (mX2_hasPrisoner G a S gb gw p hI hT hR hQ) gX2_hasPair_X2_hasPrisoner rfl hdX2_hasPrisoner ⟨Nat.le_of_ble_eq_true rfl, Nat.le_of_ble_eq_true rfl⟩ 3 0 rfl rfl rfl (gPerm_ix [0, 1, 2, 3, 4, 5, 6, 7, 8, 9, 10, 11, 12, 13, 14] rfl rfl) rfl rfl (Nat.le_of_ble_eq_true rfl) dX2_hasPair_2 ⟨Nat.le_of_ble_eq_true rfl, Nat.le_of_ble_eq_true rfl⟩ (gPerm_ix [0, 1, 2, 3, 4, 5, 6, 7, 8, 9, 10, 11, 12, 13, 14] rfl rfl) ?_
  refine g_if_eqB (tgt := 19) (P := (¬ p < 0 ∧ ¬ nI (sN S 1) ≤ p)) E dX2_hasPair_5 (by decide) (fun c1 => ?_) (fun c1 => ?_)
  · skip
    refine g_iconst (v := 0) E dX2_hasPair_19 (by decide) ?_
    exact RET _ _ _ () (by simp only [c1]; simp) rfl dX2_hasPair_20
  · skip
    refine g_iload_n E dX2_hasPair_8 rfl 2 rfl ?_
    refine g_callSIe (F := [(a 0, .inr (3, [.int (nI (sN S 0)), .int (nI (sN S 1)), .ref (a 1), .ref (a 2), .ref (a 3), .ref (a 4), .ref (a 5), .ref (a 6), .ref (a 7), .ref (a 8), .int (sI S 9 0), .ref (a 9), .ref (a 11), .ref (a 13), .ref (a 14)])), (a 1, .inl (gy G 0, 8, .inl (sI S 0))), (a 2, .inl (gy G 0, 8, .inl (sI S 1))), (a 3, .inl (gy G 0, 8, .inl (sI S 2))), (a 4, .inl (gy G 0, 8, .inl (sI S 3))), (a 5, .inl (gy G 0, 8, .inl (sI S 4))), (a 6, .inl (gy G 0, 8, .inl (sI S 5))), (a 7, .inl (gy G 0, 10, .inl (sI S 6))), (a 8, .inl (gy G 0, 10, .inl (sI S 7))), (a 9, .inr (1, [.int (nI ((sB S).length)), .ref (a 10)])), (a 10, .inl (gy G 0, 144, .inl gb)), (a 11, .inr (6, [.int (nI ((sW S).length)), .ref (a 12)])), (a 12, .inl (gy G 0, 10, .inl gw)), (a 13, .inl (gy G 0, 5, .inl (sI S 8))), (a 14, .inl (gy G 0, 6, .inl (fun j => nI (sS S j))))]) (ws2 := [(a 0, .inr (3, [.int (nI (sN S 0)), .int (nI (sN S 1)), .ref (a 1), .ref (a 2), .ref (a 3), .ref (a 4), .ref (a 5), .ref (a 6), .ref (a 7), .ref (a 8), .int (sI S 9 0), .ref (a 9), .ref (a 11), .ref (a 13), .ref (a 14)])), (a 1, .inl (gy G 0, 8, .inl (sI S 0))), (a 2, .inl (gy G 0, 8, .inl (sI S 1))), (a 3, .inl (gy G 0, 8, .inl (sI S 2))), (a 4, .inl (gy G 0, 8, .inl (sI S 3))), (a 5, .inl (gy G 0, 8, .inl (sI S 4))), (a 6, .inl (gy G 0, 8, .inl (sI S 5))), (a 7, .inl (gy G 0, 10, .inl (sI S 6))), (a 8, .inl (gy G 0, 10, .inl (sI S 7))), (a 9, .inr (1, [.int (nI ((sB S).length)), .ref (a 10)])), (a 10, .inl (gy G 0, 144, .inl gb)), (a 11, .inr (6, [.int (nI ((sW S).length)), .ref (a 12)])), (a 12, .inl (gy G 0, 10, .inl gw)), (a 13, .inl (gy G 0, 5, .inl (sI S 8))), (a 14, .inl (gy G 0, 6, .inl (fun j => nI (sS S j))))]) E (mX2_hasVisitor G v) gX2_hasPair_X2_hasVisitor rfl hnX2_hasVisitor ⟨Nat.le_of_ble_eq_true rfl, Nat.le_of_ble_eq_true rfl⟩ (gPerm_ix [0, 1, 2, 3, 4, 5, 6, 7, 8, 9, 10, 11, 12, 13, 14] rfl rfl) rfl rfl (Nat.le_of_ble_eq_true rfl) dX2_hasPair_9 ⟨Nat.le_of_ble_eq_true rfl, Nat.le_of_ble_eq_true rfl⟩ (gPerm_ix [0, 1, 2, 3, 4, 5, 6, 7, 8, 9, 10, 11, 12, 13, 14] rfl rfl) ?_
    refine g_if_eqB (tgt := 19) (P := (¬ v < 0 ∧ ¬ 10 ≤ v)) E dX2_hasPair_12 (by decide) (fun c2 => ?_) (fun c2 => ?_)
    · skip
      refine g_iconst (v := 0) E dX2_hasPair_19 (by decide) ?_
      exact RET _ _ _ () (by simp only [c1, c2]; simp) rfl dX2_hasPair_20
    · skip
      refine g_iconst (v := 1) E dX2_hasPair_15 (by decide) ?_
      refine g_goto (tgt := 20) E dX2_hasPair_16 (by decide) ?_
      exact RET _ _ _ () (by simp only [c1, c2]; simp) rfl dX2_hasPair_20
set_option maxHeartbeats 4000000 in
set_option maxRecDepth 100000 in
theorem mX2_isTime (G : gG) (a : Nat → Nat) (S : gSt) (gb gw : Nat → Int32) (d h : Int32) (hI : gI1 S) (hT : sN S 0 < 1000000000) (hR : RB (sB S) gb) (hQ : RW (sW S) gw) : CIe G yX2_isTime wsX2_isTime 0 0 [.ref (a 0), .int d, .int h] [(a 0, .inr (3, [.int (nI (sN S 0)), .int (nI (sN S 1)), .ref (a 1), .ref (a 2), .ref (a 3), .ref (a 4), .ref (a 5), .ref (a 6), .ref (a 7), .ref (a 8), .int (sI S 9 0), .ref (a 9), .ref (a 11), .ref (a 13), .ref (a 14)])), (a 1, .inl (gy G 0, 8, .inl (sI S 0))), (a 2, .inl (gy G 0, 8, .inl (sI S 1))), (a 3, .inl (gy G 0, 8, .inl (sI S 2))), (a 4, .inl (gy G 0, 8, .inl (sI S 3))), (a 5, .inl (gy G 0, 8, .inl (sI S 4))), (a 6, .inl (gy G 0, 8, .inl (sI S 5))), (a 7, .inl (gy G 0, 10, .inl (sI S 6))), (a 8, .inl (gy G 0, 10, .inl (sI S 7))), (a 9, .inr (1, [.int (nI ((sB S).length)), .ref (a 10)])), (a 10, .inl (gy G 0, 144, .inl gb)), (a 11, .inr (6, [.int (nI ((sW S).length)), .ref (a 12)])), (a 12, .inl (gy G 0, 10, .inl gw)), (a 13, .inl (gy G 0, 5, .inl (sI S 8))), (a 14, .inl (gy G 0, 6, .inl (fun j => nI (sS S j))))] (if (¬ d < nI (sN S 0) ∧ ¬ 9999 < d ∧ ¬ h < 0 ∧ ¬ 8 ≤ h) then 1 else 0) [(a 0, .inr (3, [.int (nI (sN S 0)), .int (nI (sN S 1)), .ref (a 1), .ref (a 2), .ref (a 3), .ref (a 4), .ref (a 5), .ref (a 6), .ref (a 7), .ref (a 8), .int (sI S 9 0), .ref (a 9), .ref (a 11), .ref (a 13), .ref (a 14)])), (a 1, .inl (gy G 0, 8, .inl (sI S 0))), (a 2, .inl (gy G 0, 8, .inl (sI S 1))), (a 3, .inl (gy G 0, 8, .inl (sI S 2))), (a 4, .inl (gy G 0, 8, .inl (sI S 3))), (a 5, .inl (gy G 0, 8, .inl (sI S 4))), (a 6, .inl (gy G 0, 8, .inl (sI S 5))), (a 7, .inl (gy G 0, 10, .inl (sI S 6))), (a 8, .inl (gy G 0, 10, .inl (sI S 7))), (a 9, .inr (1, [.int (nI ((sB S).length)), .ref (a 10)])), (a 10, .inl (gy G 0, 144, .inl gb)), (a 11, .inr (6, [.int (nI ((sW S).length)), .ref (a 12)])), (a 12, .inl (gy G 0, 10, .inl gw)), (a 13, .inl (gy G 0, 5, .inl (sI S 8))), (a 14, .inl (gy G 0, 6, .inl (fun j => nI (sS S j))))] 0 0 := by
  refine g_enterIe (ty := .boolean) RX2 rfl (by decide) rfl (Nat.le_of_ble_eq_true rfl) ?_
  intro V E RET
  have hX := hI
  obtain ⟨hP8, hn, hw, hW8, hs3, hs4, hs5, hs6, hs7, hs8, hb34⟩ := hX
  have h8 : ∀ j, j < (sW S).length → wq (sW S) j < 80 := fun j hj => (hW8 j hj).1
  refine g_iload_n E dX2_isTime_0 rfl 1 rfl ?_
  refine g_aload_n E dX2_isTime_1 rfl 0 rfl ?_
  refine g_get E uX2_isTime_RX2 0 rfl rfl 0 (by decide) kX2_isTime_64 rfl rfl dX2_isTime_2 ?_
  refine g_icmp_lt (tgt := 29) E dX2_isTime_5 (by decide) (fun c1 => ?_) (fun c1 => ?_)
  · skip
    refine g_iconst (v := 0) E dX2_isTime_29 (by decide) ?_
    exact RET _ _ _ () (by simp [c1]) rfl dX2_isTime_30
  · skip
    refine g_iload_n E dX2_isTime_8 rfl 1 rfl ?_
    refine g_sipush (v := 9999) E dX2_isTime_9 (by decide) ?_
    refine g_icmp_gt (tgt := 29) E dX2_isTime_12 (by decide) (fun c2 => ?_) (fun c2 => ?_)
    · skip
      refine g_iconst (v := 0) E dX2_isTime_29 (by decide) ?_
      exact RET _ _ _ () (by simp [c1, c2]) rfl dX2_isTime_30
    · skip
      refine g_iload_n E dX2_isTime_15 rfl 2 rfl ?_
      refine g_if_lt (tgt := 29) E dX2_isTime_16 (by decide) (fun c3 => ?_) (fun c3 => ?_)
      · skip
        refine g_iconst (v := 0) E dX2_isTime_29 (by decide) ?_
        exact RET _ _ _ () (by simp [c1, c2, c3]) rfl dX2_isTime_30
      · skip
        refine g_iload_n E dX2_isTime_19 rfl 2 rfl ?_
        refine g_bipush (v := 8) E dX2_isTime_20 (by decide) ?_
        refine g_icmp_ge (tgt := 29) E dX2_isTime_22 (by decide) (fun c4 => ?_) (fun c4 => ?_)
        · skip
          refine g_iconst (v := 0) E dX2_isTime_29 (by decide) ?_
          exact RET _ _ _ () (by simp [c1, c2, c3, c4]) rfl dX2_isTime_30
        · skip
          refine g_iconst (v := 1) E dX2_isTime_25 (by decide) ?_
          refine g_goto (tgt := 30) E dX2_isTime_26 (by decide) ?_
          exact RET _ _ _ () (by simp [c1, c2, c3, c4]) rfl dX2_isTime_30
set_option maxHeartbeats 4000000 in
set_option maxRecDepth 100000 in
theorem mX2_weekOf (G : gG) (d : Nat) (hd : d < 2147483648) : CIe G yX2_weekOf wsX2_weekOf 0 0 [.int (nI d)] [] (nI (d / 7)) [] 0 0 := by
  refine g_enterIe (ty := .int) RX2 rfl (by decide) rfl (Nat.le_of_ble_eq_true rfl) ?_
  intro V E RET
  refine g_iload_n E dX2_weekOf_0 rfl 0 rfl ?_
  refine g_bipush (v := 7) E dX2_weekOf_1 (by decide) ?_
  refine g_idivN (a := d) (b := 7) E dX2_weekOf_3 (by omega) (by omega) (by omega) ?_
  exact RET _ _ _ () (rfl) rfl dX2_weekOf_4
set_option maxHeartbeats 4000000 in
set_option maxRecDepth 100000 in
theorem mX2_aheadOfToday8 (G : gG) (a : Nat → Nat) (S : gSt) (x : Nat) (f : Nat → Int32) (hT : sN S 0 < 1000000000) : CIe G yX2_aheadOfToday wsX2_aheadOfToday 0 0 [.ref (a 0), .ref x] [(a 0, .inr (3, [.int (nI (sN S 0)), .int (nI (sN S 1)), .ref (a 1), .ref (a 2), .ref (a 3), .ref (a 4), .ref (a 5), .ref (a 6), .ref (a 7), .ref (a 8), .int (sI S 9 0), .ref (a 9), .ref (a 11), .ref (a 13), .ref (a 14)])), (x, .inl (gy G 0, 8, .inl f))] (nI (gCnt (fun j => decide (nI (sN S 0) < f j)) 8)) [(a 0, .inr (3, [.int (nI (sN S 0)), .int (nI (sN S 1)), .ref (a 1), .ref (a 2), .ref (a 3), .ref (a 4), .ref (a 5), .ref (a 6), .ref (a 7), .ref (a 8), .int (sI S 9 0), .ref (a 9), .ref (a 11), .ref (a 13), .ref (a 14)])), (x, .inl (gy G 0, 8, .inl f))] 0 0 := by
  refine g_enterIe (ty := .int) RX2 rfl (by decide) rfl (Nat.le_of_ble_eq_true rfl) ?_
  intro V E RET
  refine g_iconst (v := 0) E dX2_aheadOfToday_0 (by decide) ?_
  refine g_istore_n (lv' := [(2, .int 0), (0, .ref (a 0)), (1, .ref x)]) E dX2_aheadOfToday_1 rfl (by decide) rfl ?_
  refine g_aload_n E dX2_aheadOfToday_2 rfl 2 rfl ?_
  refine g_astore_n (lv' := [(3, .ref x), (2, .int 0), (0, .ref (a 0)), (1, .ref x)]) E dX2_aheadOfToday_3 rfl (by decide) rfl ?_
  refine g_aload_n E dX2_aheadOfToday_4 rfl 0 rfl ?_
  refine g_alen (v := 8) E 1 0 rfl rfl (by first | rfl | decide) dX2_aheadOfToday_5 ?_
  refine g_istore (lv' := [(4, .int 8), (3, .ref x), (2, .int 0), (0, .ref (a 0)), (1, .ref x)]) E dX2_aheadOfToday_6 (by decide) rfl ?_
  refine g_iconst (v := 0) E dX2_aheadOfToday_8 (by decide) ?_
  refine g_istore (lv' := [(5, .int 0), (4, .int 8), (3, .ref x), (2, .int 0), (0, .ref (a 0)), (1, .ref x)]) E dX2_aheadOfToday_9 (by decide) rfl ?_
  have loop1 : ∀ (n2 : Nat) (k c : Nat), (k ≤ 8) → (c = gCnt (fun j => decide (nI (sN S 0) < f j)) k) → 8 - k < n2 → gW V 7 0 0 [(a 0, .inr (3, [.int (nI (sN S 0)), .int (nI (sN S 1)), .ref (a 1), .ref (a 2), .ref (a 3), .ref (a 4), .ref (a 5), .ref (a 6), .ref (a 7), .ref (a 8), .int (sI S 9 0), .ref (a 9), .ref (a 11), .ref (a 13), .ref (a 14)])), (x, .inl (gy G 0, 8, .inl f))] [(0, .ref (a 0)), (1, .ref x), (2, .int (nI c)), (3, .ref x), (4, .int 8), (5, .int (nI k))] 11 [] := by
    intro n2
    induction n2 with
    | zero => intro k c hk hc hm4; exact absurd hm4 (Nat.not_lt_zero _)
    | succ n2 ih3 =>
      intro k c hk hc hm4
      refine g_iload E dX2_aheadOfToday_11 5 rfl ?_
      refine g_iload E dX2_aheadOfToday_13 4 rfl ?_
      refine g_icmp_geN (tgt := 42) (a := k) (b := 8) E dX2_aheadOfToday_15 (by decide) (by omega) (by omega) (fun c5 => ?_) (fun c5 => ?_)
      · skip
        have e9 : nI c = nI (gCnt (fun j => decide (nI (sN S 0) < f j)) 8) := by rw [hc, show k = 8 by omega]
        refine g_iload_n E dX2_aheadOfToday_42 rfl 2 rfl ?_
        exact RET _ _ _ () (e9) rfl dX2_aheadOfToday_43
      · skip
        have hkl : k < 8 := by omega
        refine g_aload_n E dX2_aheadOfToday_18 rfl 3 rfl ?_
        refine g_iload E dX2_aheadOfToday_19 5 rfl ?_
        refine g_ialdN (e := k) E 1 rfl (by omega) rfl (v := f k) rfl dX2_aheadOfToday_21 ?_
        refine g_istore (lv' := [(6, .int (f k)), (0, .ref (a 0)), (1, .ref x), (2, .int (nI c)), (3, .ref x), (4, .int 8), (5, .int (nI k))]) E dX2_aheadOfToday_22 (by decide) rfl ?_
        refine g_aload_n E dX2_aheadOfToday_24 rfl 1 rfl ?_
        refine g_get E uX2_aheadOfToday_RX2 0 rfl rfl 0 (by decide) kX2_aheadOfToday_64 rfl rfl dX2_aheadOfToday_25 ?_
        refine g_iload E dX2_aheadOfToday_28 0 rfl ?_
        refine g_icmp_ge (tgt := 36) E dX2_aheadOfToday_30 (by decide) (fun c6 => ?_) (fun c6 => ?_)
        · skip
          refine g_iinc (lv' := [(5, .int (nI (k + 1))), (6, .int (f k)), (0, .ref (a 0)), (1, .ref x), (2, .int (nI c)), (3, .ref x), (4, .int 8)]) E dX2_aheadOfToday_36 6 rfl (g_inc _ 1 (by decide)) (by decide) rfl ?_
          refine g_goto (tgt := 11) E dX2_aheadOfToday_39 (by decide) ?_
          refine g_lv [2, 3, 4, 5, 6, 0] rfl ?_
          exact ih3  (k + 1) _ (by omega) (by simp only [gCnt, hc]; simp [c6]) (by omega)
        · skip
          refine g_iinc (lv' := [(2, .int (nI (c + 1))), (6, .int (f k)), (0, .ref (a 0)), (1, .ref x), (3, .ref x), (4, .int 8), (5, .int (nI k))]) E dX2_aheadOfToday_33 3 rfl (g_inc _ 1 (by decide)) (by decide) rfl ?_
          refine g_iinc (lv' := [(5, .int (nI (k + 1))), (2, .int (nI (c + 1))), (6, .int (f k)), (0, .ref (a 0)), (1, .ref x), (3, .ref x), (4, .int 8)]) E dX2_aheadOfToday_36 6 rfl (g_inc _ 1 (by decide)) (by decide) rfl ?_
          refine g_goto (tgt := 11) E dX2_aheadOfToday_39 (by decide) ?_
          refine g_lv [3, 4, 1, 5, 6, 0] rfl ?_
          exact ih3  (k + 1) _ (by omega) (by simp only [gCnt, hc]; simp [c6]) (by omega)
  refine g_lv [4, 5, 3, 2, 1, 0] rfl ?_
  exact loop1 _ 0 0 (Nat.zero_le _) rfl (Nat.lt_succ_self _)
set_option maxHeartbeats 4000000 in
set_option maxRecDepth 100000 in
theorem mX2_aheadOfToday10 (G : gG) (a : Nat → Nat) (S : gSt) (x : Nat) (f : Nat → Int32) (hT : sN S 0 < 1000000000) : CIe G yX2_aheadOfToday wsX2_aheadOfToday 0 0 [.ref (a 0), .ref x] [(a 0, .inr (3, [.int (nI (sN S 0)), .int (nI (sN S 1)), .ref (a 1), .ref (a 2), .ref (a 3), .ref (a 4), .ref (a 5), .ref (a 6), .ref (a 7), .ref (a 8), .int (sI S 9 0), .ref (a 9), .ref (a 11), .ref (a 13), .ref (a 14)])), (x, .inl (gy G 0, 10, .inl f))] (nI (gCnt (fun j => decide (nI (sN S 0) < f j)) 10)) [(a 0, .inr (3, [.int (nI (sN S 0)), .int (nI (sN S 1)), .ref (a 1), .ref (a 2), .ref (a 3), .ref (a 4), .ref (a 5), .ref (a 6), .ref (a 7), .ref (a 8), .int (sI S 9 0), .ref (a 9), .ref (a 11), .ref (a 13), .ref (a 14)])), (x, .inl (gy G 0, 10, .inl f))] 0 0 := by
  refine g_enterIe (ty := .int) RX2 rfl (by decide) rfl (Nat.le_of_ble_eq_true rfl) ?_
  intro V E RET
  refine g_iconst (v := 0) E dX2_aheadOfToday_0 (by decide) ?_
  refine g_istore_n (lv' := [(2, .int 0), (0, .ref (a 0)), (1, .ref x)]) E dX2_aheadOfToday_1 rfl (by decide) rfl ?_
  refine g_aload_n E dX2_aheadOfToday_2 rfl 2 rfl ?_
  refine g_astore_n (lv' := [(3, .ref x), (2, .int 0), (0, .ref (a 0)), (1, .ref x)]) E dX2_aheadOfToday_3 rfl (by decide) rfl ?_
  refine g_aload_n E dX2_aheadOfToday_4 rfl 0 rfl ?_
  refine g_alen (v := 10) E 1 0 rfl rfl (by first | rfl | decide) dX2_aheadOfToday_5 ?_
  refine g_istore (lv' := [(4, .int 10), (3, .ref x), (2, .int 0), (0, .ref (a 0)), (1, .ref x)]) E dX2_aheadOfToday_6 (by decide) rfl ?_
  refine g_iconst (v := 0) E dX2_aheadOfToday_8 (by decide) ?_
  refine g_istore (lv' := [(5, .int 0), (4, .int 10), (3, .ref x), (2, .int 0), (0, .ref (a 0)), (1, .ref x)]) E dX2_aheadOfToday_9 (by decide) rfl ?_
  have loop1 : ∀ (n2 : Nat) (k c : Nat), (k ≤ 10) → (c = gCnt (fun j => decide (nI (sN S 0) < f j)) k) → 10 - k < n2 → gW V 7 0 0 [(a 0, .inr (3, [.int (nI (sN S 0)), .int (nI (sN S 1)), .ref (a 1), .ref (a 2), .ref (a 3), .ref (a 4), .ref (a 5), .ref (a 6), .ref (a 7), .ref (a 8), .int (sI S 9 0), .ref (a 9), .ref (a 11), .ref (a 13), .ref (a 14)])), (x, .inl (gy G 0, 10, .inl f))] [(0, .ref (a 0)), (1, .ref x), (2, .int (nI c)), (3, .ref x), (4, .int 10), (5, .int (nI k))] 11 [] := by
    intro n2
    induction n2 with
    | zero => intro k c hk hc hm4; exact absurd hm4 (Nat.not_lt_zero _)
    | succ n2 ih3 =>
      intro k c hk hc hm4
      refine g_iload E dX2_aheadOfToday_11 5 rfl ?_
      refine g_iload E dX2_aheadOfToday_13 4 rfl ?_
      refine g_icmp_geN (tgt := 42) (a := k) (b := 10) E dX2_aheadOfToday_15 (by decide) (by omega) (by omega) (fun c5 => ?_) (fun c5 => ?_)
      · skip
        have e9 : nI c = nI (gCnt (fun j => decide (nI (sN S 0) < f j)) 10) := by rw [hc, show k = 10 by omega]
        refine g_iload_n E dX2_aheadOfToday_42 rfl 2 rfl ?_
        exact RET _ _ _ () (e9) rfl dX2_aheadOfToday_43
      · skip
        have hkl : k < 10 := by omega
        refine g_aload_n E dX2_aheadOfToday_18 rfl 3 rfl ?_
        refine g_iload E dX2_aheadOfToday_19 5 rfl ?_
        refine g_ialdN (e := k) E 1 rfl (by omega) rfl (v := f k) rfl dX2_aheadOfToday_21 ?_
        refine g_istore (lv' := [(6, .int (f k)), (0, .ref (a 0)), (1, .ref x), (2, .int (nI c)), (3, .ref x), (4, .int 10), (5, .int (nI k))]) E dX2_aheadOfToday_22 (by decide) rfl ?_
        refine g_aload_n E dX2_aheadOfToday_24 rfl 1 rfl ?_
        refine g_get E uX2_aheadOfToday_RX2 0 rfl rfl 0 (by decide) kX2_aheadOfToday_64 rfl rfl dX2_aheadOfToday_25 ?_
        refine g_iload E dX2_aheadOfToday_28 0 rfl ?_
        refine g_icmp_ge (tgt := 36) E dX2_aheadOfToday_30 (by decide) (fun c6 => ?_) (fun c6 => ?_)
        · skip
          refine g_iinc (lv' := [(5, .int (nI (k + 1))), (6, .int (f k)), (0, .ref (a 0)), (1, .ref x), (2, .int (nI c)), (3, .ref x), (4, .int 10)]) E dX2_aheadOfToday_36 6 rfl (g_inc _ 1 (by decide)) (by decide) rfl ?_
          refine g_goto (tgt := 11) E dX2_aheadOfToday_39 (by decide) ?_
          refine g_lv [2, 3, 4, 5, 6, 0] rfl ?_
          exact ih3  (k + 1) _ (by omega) (by simp only [gCnt, hc]; simp [c6]) (by omega)
        · skip
          refine g_iinc (lv' := [(2, .int (nI (c + 1))), (6, .int (f k)), (0, .ref (a 0)), (1, .ref x), (3, .ref x), (4, .int 10), (5, .int (nI k))]) E dX2_aheadOfToday_33 3 rfl (g_inc _ 1 (by decide)) (by decide) rfl ?_
          refine g_iinc (lv' := [(5, .int (nI (k + 1))), (2, .int (nI (c + 1))), (6, .int (f k)), (0, .ref (a 0)), (1, .ref x), (3, .ref x), (4, .int 10)]) E dX2_aheadOfToday_36 6 rfl (g_inc _ 1 (by decide)) (by decide) rfl ?_
          refine g_goto (tgt := 11) E dX2_aheadOfToday_39 (by decide) ?_
          refine g_lv [3, 4, 1, 5, 6, 0] rfl ?_
          exact ih3  (k + 1) _ (by omega) (by simp only [gCnt, hc]; simp [c6]) (by omega)
  refine g_lv [4, 5, 3, 2, 1, 0] rfl ?_
  exact loop1 _ 0 0 (Nat.zero_le _) rfl (Nat.lt_succ_self _)
set_option maxHeartbeats 4000000 in
set_option maxRecDepth 100000 in
theorem mX2_numberOfAll (G : gG) (a : Nat → Nat) (S : gSt) (gb gw : Nat → Int32) (q : Nat) (hI : gI1 S) (hT : sN S 0 < 1000000000) (hR : RB (sB S) gb) (hQ : RW (sW S) gw) (hq : q ≤ 10) : CIe G yX2_numberOfAll wsX2_numberOfAll 1 26 [.ref (a 0), .int (nI q)] [(a 0, .inr (3, [.int (nI (sN S 0)), .int (nI (sN S 1)), .ref (a 1), .ref (a 2), .ref (a 3), .ref (a 4), .ref (a 5), .ref (a 6), .ref (a 7), .ref (a 8), .int (sI S 9 0), .ref (a 9), .ref (a 11), .ref (a 13), .ref (a 14)])), (a 1, .inl (gy G 0, 8, .inl (sI S 0))), (a 2, .inl (gy G 0, 8, .inl (sI S 1))), (a 3, .inl (gy G 0, 8, .inl (sI S 2))), (a 4, .inl (gy G 0, 8, .inl (sI S 3))), (a 5, .inl (gy G 0, 8, .inl (sI S 4))), (a 6, .inl (gy G 0, 8, .inl (sI S 5))), (a 7, .inl (gy G 0, 10, .inl (sI S 6))), (a 8, .inl (gy G 0, 10, .inl (sI S 7))), (a 9, .inr (1, [.int (nI ((sB S).length)), .ref (a 10)])), (a 10, .inl (gy G 0, 144, .inl gb)), (a 11, .inr (6, [.int (nI ((sW S).length)), .ref (a 12)])), (a 12, .inl (gy G 0, 10, .inl gw)), (a 13, .inl (gy G 0, 5, .inl (sI S 8))), (a 14, .inl (gy G 0, 6, .inl (fun j => nI (sS S j))))] (gNA S q) [(a 0, .inr (3, [.int (nI (sN S 0)), .int (nI (sN S 1)), .ref (a 1), .ref (a 2), .ref (a 3), .ref (a 4), .ref (a 5), .ref (a 6), .ref (a 7), .ref (a 8), .int (sI S 9 0), .ref (a 9), .ref (a 11), .ref (a 13), .ref (a 14)])), (a 1, .inl (gy G 0, 8, .inl (sI S 0))), (a 2, .inl (gy G 0, 8, .inl (sI S 1))), (a 3, .inl (gy G 0, 8, .inl (sI S 2))), (a 4, .inl (gy G 0, 8, .inl (sI S 3))), (a 5, .inl (gy G 0, 8, .inl (sI S 4))), (a 6, .inl (gy G 0, 8, .inl (sI S 5))), (a 7, .inl (gy G 0, 10, .inl (sI S 6))), (a 8, .inl (gy G 0, 10, .inl (sI S 7))), (a 9, .inr (1, [.int (nI ((sB S).length)), .ref (a 10)])), (a 10, .inl (gy G 0, 144, .inl gb)), (a 11, .inr (6, [.int (nI ((sW S).length)), .ref (a 12)])), (a 12, .inl (gy G 0, 10, .inl gw)), (a 13, .inl (gy G 0, 5, .inl (sI S 8))), (a 14, .inl (gy G 0, 6, .inl (fun j => nI (sS S j))))] 0 0 := by
  refine g_enterIe (ty := .int) RX2 rfl (by decide) rfl (Nat.le_of_ble_eq_true rfl) ?_
  intro V E RET
  have hX := hI
  obtain ⟨hP8, hn, hw, hW8, hs3, hs4, hs5, hs6, hs7, hs8, hb34⟩ := hX
  have h8 : ∀ j, j < (sW S).length → wq (sW S) j < 80 := fun j hj => (hW8 j hj).1
  refine g_iload_n E dX2_numberOfAll_0 rfl 1 rfl ?_
  rcases (show q = 0 ∨ q = 1 ∨ q = 2 ∨ q = 3 ∨ q = 4 ∨ q = 5 ∨ q = 6 ∨ q = 7 ∨ q = 8 ∨ q = 9 ∨ (q ≠ 0 ∧ q ≠ 1 ∧ q ≠ 2 ∧ q ≠ 3 ∧ q ≠ 4 ∧ q ≠ 5 ∧ q ≠ 6 ∧ q ≠ 7 ∧ q ≠ 8 ∧ q ≠ 9) by omega) with k1 | k1 | k1 | k1 | k1 | k1 | k1 | k1 | k1 | k1 | k1
  · skip
    refine g_top (y := 0) (by rw [k1]; rfl) ?_
    refine g_tableIn (tgt := 56) E dX2_numberOfAll_1 (by decide) (by decide) rfl (by decide) ?_
    refine g_aload_n E dX2_numberOfAll_56 rfl 0 rfl ?_
    refine g_get E uX2_numberOfAll_RX2 0 rfl rfl 1 (by decide) kX2_numberOfAll_68 rfl rfl dX2_numberOfAll_57 ?_
    exact RET _ _ _ () (by first | (simp [gNA, k1]; done) | (simp [gNA, k1]; rfl) | (unfold gNA; (first | rw [if_pos k1] | rw [if_neg k1] | skip); first | rfl | (simp; done) | skip)) rfl dX2_numberOfAll_60
  · skip
    refine g_top (y := 1) (by rw [k1]; rfl) ?_
    refine g_tableIn (tgt := 61) E dX2_numberOfAll_1 (by decide) (by decide) rfl (by decide) ?_
    refine g_aload_n E dX2_numberOfAll_61 rfl 0 rfl ?_
    refine g_get E uX2_numberOfAll_RX2 0 rfl rfl 0 (by decide) kX2_numberOfAll_64 rfl rfl dX2_numberOfAll_62 ?_
    exact RET _ _ _ () (by first | (simp [gNA, k1]; done) | (simp [gNA, k1]; rfl) | (unfold gNA; (first | rw [if_pos k1] | rw [if_neg k1] | skip); first | rfl | (simp; done) | skip)) rfl dX2_numberOfAll_65
  · skip
    refine g_top (y := 2) (by rw [k1]; rfl) ?_
    refine g_tableIn (tgt := 66) E dX2_numberOfAll_1 (by decide) (by decide) rfl (by decide) ?_
    refine g_aload_n E dX2_numberOfAll_66 rfl 0 rfl ?_
    refine g_get E uX2_numberOfAll_RX2 0 rfl rfl 11 (by decide) kX2_numberOfAll_39 rfl rfl dX2_numberOfAll_67 ?_
    refine g_get E uX2_numberOfAll_RX0 9 rfl rfl 0 (by decide) kX2_numberOfAll_94 rfl rfl dX2_numberOfAll_70 ?_
    exact RET _ _ _ () (by first | (simp [gNA, k1]; done) | (simp [gNA, k1]; rfl) | (unfold gNA; (first | rw [if_pos k1] | rw [if_neg k1] | skip); first | rfl | (simp; done) | skip)) rfl dX2_numberOfAll_73
  · skip
    refine g_top (y := 3) (by rw [k1]; rfl) ?_
    refine g_tableIn (tgt := 74) E dX2_numberOfAll_1 (by decide) (by decide) rfl (by decide) ?_
    refine g_aload_n E dX2_numberOfAll_74 rfl 0 rfl ?_
    refine g_get E uX2_numberOfAll_RX2 0 rfl rfl 12 (by decide) kX2_numberOfAll_46 rfl rfl dX2_numberOfAll_75 ?_
    refine g_get E uX2_numberOfAll_RX6 11 rfl rfl 0 (by decide) kX2_numberOfAll_97 rfl rfl dX2_numberOfAll_78 ?_
    exact RET _ _ _ () (by first | (simp [gNA, k1]; done) | (simp [gNA, k1]; rfl) | (unfold gNA; (first | rw [if_pos k1] | rw [if_neg k1] | skip); first | rfl | (simp; done) | skip)) rfl dX2_numberOfAll_81
  · skip
    refine g_top (y := 4) (by rw [k1]; rfl) ?_
    refine g_tableIn (tgt := 82) E dX2_numberOfAll_1 (by decide) (by decide) rfl (by decide) ?_
    refine g_aload_n E dX2_numberOfAll_82 rfl 0 rfl ?_
    refine g_get E uX2_numberOfAll_RX2 0 rfl rfl 13 (by decide) kX2_numberOfAll_50 rfl rfl dX2_numberOfAll_83 ?_
    refine g_iconst (v := 0) E dX2_numberOfAll_86 (by decide) ?_
    refine g_ialdN (e := 0) E 13 rfl (by omega) rfl (v := (sI S 8) 0) rfl dX2_numberOfAll_87 ?_
    exact RET _ _ _ () (by first | (simp [gNA, k1]; done) | (simp [gNA, k1]; rfl) | (unfold gNA; (first | rw [if_pos k1] | rw [if_neg k1] | skip); first | rfl | (simp; done) | skip)) rfl dX2_numberOfAll_88
  · skip
    refine g_top (y := 5) (by rw [k1]; rfl) ?_
    refine g_tableIn (tgt := 89) E dX2_numberOfAll_1 (by decide) (by decide) rfl (by decide) ?_
    refine g_aload_n E dX2_numberOfAll_89 rfl 0 rfl ?_
    refine g_get E uX2_numberOfAll_RX2 0 rfl rfl 13 (by decide) kX2_numberOfAll_50 rfl rfl dX2_numberOfAll_90 ?_
    refine g_iconst (v := 1) E dX2_numberOfAll_93 (by decide) ?_
    refine g_ialdN (e := 1) E 13 rfl (by omega) rfl (v := (sI S 8) 1) rfl dX2_numberOfAll_94 ?_
    exact RET _ _ _ () (by first | (simp [gNA, k1]; done) | (simp [gNA, k1]; rfl) | (unfold gNA; (first | rw [if_pos k1] | rw [if_neg k1] | skip); first | rfl | (simp; done) | skip)) rfl dX2_numberOfAll_95
  · skip
    refine g_top (y := 6) (by rw [k1]; rfl) ?_
    refine g_tableIn (tgt := 96) E dX2_numberOfAll_1 (by decide) (by decide) rfl (by decide) ?_
    refine g_aload_n E dX2_numberOfAll_96 rfl 0 rfl ?_
    refine g_get E uX2_numberOfAll_RX2 0 rfl rfl 13 (by decide) kX2_numberOfAll_50 rfl rfl dX2_numberOfAll_97 ?_
    refine g_iconst (v := 2) E dX2_numberOfAll_100 (by decide) ?_
    refine g_ialdN (e := 2) E 13 rfl (by omega) rfl (v := (sI S 8) 2) rfl dX2_numberOfAll_101 ?_
    exact RET _ _ _ () (by first | (simp [gNA, k1]; done) | (simp [gNA, k1]; rfl) | (unfold gNA; (first | rw [if_pos k1] | rw [if_neg k1] | skip); first | rfl | (simp; done) | skip)) rfl dX2_numberOfAll_102
  · skip
    refine g_top (y := 7) (by rw [k1]; rfl) ?_
    refine g_tableIn (tgt := 103) E dX2_numberOfAll_1 (by decide) (by decide) rfl (by decide) ?_
    refine g_aload_n E dX2_numberOfAll_103 rfl 0 rfl ?_
    refine g_get E uX2_numberOfAll_RX2 0 rfl rfl 13 (by decide) kX2_numberOfAll_50 rfl rfl dX2_numberOfAll_104 ?_
    refine g_iconst (v := 3) E dX2_numberOfAll_107 (by decide) ?_
    refine g_ialdN (e := 3) E 13 rfl (by omega) rfl (v := (sI S 8) 3) rfl dX2_numberOfAll_108 ?_
    exact RET _ _ _ () (by first | (simp [gNA, k1]; done) | (simp [gNA, k1]; rfl) | (unfold gNA; (first | rw [if_pos k1] | rw [if_neg k1] | skip); first | rfl | (simp; done) | skip)) rfl dX2_numberOfAll_109
  · skip
    refine g_top (y := 8) (by rw [k1]; rfl) ?_
    refine g_tableIn (tgt := 110) E dX2_numberOfAll_1 (by decide) (by decide) rfl (by decide) ?_
    refine g_aload_n E dX2_numberOfAll_110 rfl 0 rfl ?_
    refine g_get E uX2_numberOfAll_RX2 0 rfl rfl 13 (by decide) kX2_numberOfAll_50 rfl rfl dX2_numberOfAll_111 ?_
    refine g_iconst (v := 4) E dX2_numberOfAll_114 (by decide) ?_
    refine g_ialdN (e := 4) E 13 rfl (by omega) rfl (v := (sI S 8) 4) rfl dX2_numberOfAll_115 ?_
    exact RET _ _ _ () (by first | (simp [gNA, k1]; done) | (simp [gNA, k1]; rfl) | (unfold gNA; (first | rw [if_pos k1] | rw [if_neg k1] | skip); first | rfl | (simp; done) | skip)) rfl dX2_numberOfAll_116
  · skip
    refine g_top (y := 9) (by rw [k1]; rfl) ?_
    refine g_tableIn (tgt := 117) E dX2_numberOfAll_1 (by decide) (by decide) rfl (by decide) ?_
    refine g_aload_n E dX2_numberOfAll_117 rfl 0 rfl ?_
    refine g_aload_n E dX2_numberOfAll_118 rfl 0 rfl ?_
    refine g_get E uX2_numberOfAll_RX2 0 rfl rfl 9 (by decide) kX2_numberOfAll_33 rfl rfl dX2_numberOfAll_119 ?_
    refine g_callVIe (F := [(a 1, .inl (gy G 0, 8, .inl (sI S 0))), (a 2, .inl (gy G 0, 8, .inl (sI S 1))), (a 3, .inl (gy G 0, 8, .inl (sI S 2))), (a 4, .inl (gy G 0, 8, .inl (sI S 3))), (a 5, .inl (gy G 0, 8, .inl (sI S 4))), (a 6, .inl (gy G 0, 8, .inl (sI S 5))), (a 7, .inl (gy G 0, 10, .inl (sI S 6))), (a 9, .inr (1, [.int (nI ((sB S).length)), .ref (a 10)])), (a 10, .inl (gy G 0, 144, .inl gb)), (a 11, .inr (6, [.int (nI ((sW S).length)), .ref (a 12)])), (a 12, .inl (gy G 0, 10, .inl gw)), (a 13, .inl (gy G 0, 5, .inl (sI S 8))), (a 14, .inl (gy G 0, 6, .inl (fun j => nI (sS S j))))]) (ws2 := [(a 0, .inr (3, [.int (nI (sN S 0)), .int (nI (sN S 1)), .ref (a 1), .ref (a 2), .ref (a 3), .ref (a 4), .ref (a 5), .ref (a 6), .ref (a 7), .ref (a 8), .int (sI S 9 0), .ref (a 9), .ref (a 11), .ref (a 13), .ref (a 14)])), (a 1, .inl (gy G 0, 8, .inl (sI S 0))), (a 2, .inl (gy G 0, 8, .inl (sI S 1))), (a 3, .inl (gy G 0, 8, .inl (sI S 2))), (a 4, .inl (gy G 0, 8, .inl (sI S 3))), (a 5, .inl (gy G 0, 8, .inl (sI S 4))), (a 6, .inl (gy G 0, 8, .inl (sI S 5))), (a 7, .inl (gy G 0, 10, .inl (sI S 6))), (a 8, .inl (gy G 0, 10, .inl (sI S 7))), (a 9, .inr (1, [.int (nI ((sB S).length)), .ref (a 10)])), (a 10, .inl (gy G 0, 144, .inl gb)), (a 11, .inr (6, [.int (nI ((sW S).length)), .ref (a 12)])), (a 12, .inl (gy G 0, 10, .inl gw)), (a 13, .inl (gy G 0, 5, .inl (sI S 8))), (a 14, .inl (gy G 0, 6, .inl (fun j => nI (sS S j))))]) E (mX2_aheadOfToday10 G a S (a 8) (sI S 7) (by omega)) gX2_numberOfAll_X2_aheadOfToday rfl hdX2_aheadOfToday ⟨Nat.le_of_ble_eq_true rfl, Nat.le_of_ble_eq_true rfl⟩ 3 0 rfl rfl rfl (gPerm_ix [0, 8, 1, 2, 3, 4, 5, 6, 7, 9, 10, 11, 12, 13, 14] rfl rfl) rfl rfl (Nat.le_of_ble_eq_true rfl) dX2_numberOfAll_122 ⟨Nat.le_of_ble_eq_true rfl, Nat.le_of_ble_eq_true rfl⟩ (gPerm_ix [0, 2, 3, 4, 5, 6, 7, 8, 1, 9, 10, 11, 12, 13, 14] rfl rfl) ?_
    exact RET _ _ _ () (by first | (simp [gNA, k1]; done) | (simp [gNA, k1]; rfl) | (unfold gNA; (first | rw [if_pos k1] | rw [if_neg k1] | skip); first | rfl | (simp; done) | skip)) rfl dX2_numberOfAll_125
  · skip
    refine g_tableOutN (tgt := 126) (a := q) E dX2_numberOfAll_1 (by omega) (by omega) (by decide) ?_
    refine g_aload_n E dX2_numberOfAll_126 rfl 0 rfl ?_
    refine g_aload_n E dX2_numberOfAll_127 rfl 0 rfl ?_
    refine g_get E uX2_numberOfAll_RX2 0 rfl rfl 4 (by decide) kX2_numberOfAll_18 rfl rfl dX2_numberOfAll_128 ?_
    refine g_callVIe (F := [(a 1, .inl (gy G 0, 8, .inl (sI S 0))), (a 2, .inl (gy G 0, 8, .inl (sI S 1))), (a 4, .inl (gy G 0, 8, .inl (sI S 3))), (a 5, .inl (gy G 0, 8, .inl (sI S 4))), (a 6, .inl (gy G 0, 8, .inl (sI S 5))), (a 7, .inl (gy G 0, 10, .inl (sI S 6))), (a 8, .inl (gy G 0, 10, .inl (sI S 7))), (a 9, .inr (1, [.int (nI ((sB S).length)), .ref (a 10)])), (a 10, .inl (gy G 0, 144, .inl gb)), (a 11, .inr (6, [.int (nI ((sW S).length)), .ref (a 12)])), (a 12, .inl (gy G 0, 10, .inl gw)), (a 13, .inl (gy G 0, 5, .inl (sI S 8))), (a 14, .inl (gy G 0, 6, .inl (fun j => nI (sS S j))))]) (ws2 := [(a 0, .inr (3, [.int (nI (sN S 0)), .int (nI (sN S 1)), .ref (a 1), .ref (a 2), .ref (a 3), .ref (a 4), .ref (a 5), .ref (a 6), .ref (a 7), .ref (a 8), .int (sI S 9 0), .ref (a 9), .ref (a 11), .ref (a 13), .ref (a 14)])), (a 1, .inl (gy G 0, 8, .inl (sI S 0))), (a 2, .inl (gy G 0, 8, .inl (sI S 1))), (a 3, .inl (gy G 0, 8, .inl (sI S 2))), (a 4, .inl (gy G 0, 8, .inl (sI S 3))), (a 5, .inl (gy G 0, 8, .inl (sI S 4))), (a 6, .inl (gy G 0, 8, .inl (sI S 5))), (a 7, .inl (gy G 0, 10, .inl (sI S 6))), (a 8, .inl (gy G 0, 10, .inl (sI S 7))), (a 9, .inr (1, [.int (nI ((sB S).length)), .ref (a 10)])), (a 10, .inl (gy G 0, 144, .inl gb)), (a 11, .inr (6, [.int (nI ((sW S).length)), .ref (a 12)])), (a 12, .inl (gy G 0, 10, .inl gw)), (a 13, .inl (gy G 0, 5, .inl (sI S 8))), (a 14, .inl (gy G 0, 6, .inl (fun j => nI (sS S j))))]) E (mX2_aheadOfToday8 G a S (a 3) (sI S 2) (by omega)) gX2_numberOfAll_X2_aheadOfToday rfl hdX2_aheadOfToday ⟨Nat.le_of_ble_eq_true rfl, Nat.le_of_ble_eq_true rfl⟩ 3 0 rfl rfl rfl (gPerm_ix [0, 3, 1, 2, 4, 5, 6, 7, 8, 9, 10, 11, 12, 13, 14] rfl rfl) rfl rfl (Nat.le_of_ble_eq_true rfl) dX2_numberOfAll_131 ⟨Nat.le_of_ble_eq_true rfl, Nat.le_of_ble_eq_true rfl⟩ (gPerm_ix [0, 2, 3, 1, 4, 5, 6, 7, 8, 9, 10, 11, 12, 13, 14] rfl rfl) ?_
    exact RET _ _ _ () (by first | (simp [gNA, k1]; done) | (simp [gNA, k1]; rfl) | (unfold gNA; (first | rw [if_pos k1] | rw [if_neg k1] | skip); first | rfl | (simp; done) | skip)) rfl dX2_numberOfAll_134
set_option maxHeartbeats 4000000 in
set_option maxRecDepth 100000 in
theorem mX2_prisonersWhoList (G : gG) (a : Nat → Nat) (S : gSt) (gb gw : Nat → Int32) (v : Nat) (hI : gI1 S) (hT : sN S 0 < 1000000000) (hR : RB (sB S) gb) (hQ : RW (sW S) gw) : CIe G yX2_prisonersWhoList wsX2_prisonersWhoList 1 60 [.ref (a 0), .int (nI v)] [(a 0, .inr (3, [.int (nI (sN S 0)), .int (nI (sN S 1)), .ref (a 1), .ref (a 2), .ref (a 3), .ref (a 4), .ref (a 5), .ref (a 6), .ref (a 7), .ref (a 8), .int (sI S 9 0), .ref (a 9), .ref (a 11), .ref (a 13), .ref (a 14)])), (a 1, .inl (gy G 0, 8, .inl (sI S 0))), (a 2, .inl (gy G 0, 8, .inl (sI S 1))), (a 3, .inl (gy G 0, 8, .inl (sI S 2))), (a 4, .inl (gy G 0, 8, .inl (sI S 3))), (a 5, .inl (gy G 0, 8, .inl (sI S 4))), (a 6, .inl (gy G 0, 8, .inl (sI S 5))), (a 7, .inl (gy G 0, 10, .inl (sI S 6))), (a 8, .inl (gy G 0, 10, .inl (sI S 7))), (a 9, .inr (1, [.int (nI ((sB S).length)), .ref (a 10)])), (a 10, .inl (gy G 0, 144, .inl gb)), (a 11, .inr (6, [.int (nI ((sW S).length)), .ref (a 12)])), (a 12, .inl (gy G 0, 10, .inl gw)), (a 13, .inl (gy G 0, 5, .inl (sI S 8))), (a 14, .inl (gy G 0, 6, .inl (fun j => nI (sS S j))))] (gPWL S v 8) [(a 0, .inr (3, [.int (nI (sN S 0)), .int (nI (sN S 1)), .ref (a 1), .ref (a 2), .ref (a 3), .ref (a 4), .ref (a 5), .ref (a 6), .ref (a 7), .ref (a 8), .int (sI S 9 0), .ref (a 9), .ref (a 11), .ref (a 13), .ref (a 14)])), (a 1, .inl (gy G 0, 8, .inl (sI S 0))), (a 2, .inl (gy G 0, 8, .inl (sI S 1))), (a 3, .inl (gy G 0, 8, .inl (sI S 2))), (a 4, .inl (gy G 0, 8, .inl (sI S 3))), (a 5, .inl (gy G 0, 8, .inl (sI S 4))), (a 6, .inl (gy G 0, 8, .inl (sI S 5))), (a 7, .inl (gy G 0, 10, .inl (sI S 6))), (a 8, .inl (gy G 0, 10, .inl (sI S 7))), (a 9, .inr (1, [.int (nI ((sB S).length)), .ref (a 10)])), (a 10, .inl (gy G 0, 144, .inl gb)), (a 11, .inr (6, [.int (nI ((sW S).length)), .ref (a 12)])), (a 12, .inl (gy G 0, 10, .inl gw)), (a 13, .inl (gy G 0, 5, .inl (sI S 8))), (a 14, .inl (gy G 0, 6, .inl (fun j => nI (sS S j))))] 0 0 := by
  refine g_enterIe (ty := .int) RX2 rfl (by decide) rfl (Nat.le_of_ble_eq_true rfl) ?_
  intro V E RET
  have hX := hI
  obtain ⟨hP8, hn, hw, hW8, hs3, hs4, hs5, hs6, hs7, hs8, hb34⟩ := hX
  have h8 : ∀ j, j < (sW S).length → wq (sW S) j < 80 := fun j hj => (hW8 j hj).1
  refine g_iconst (v := 0) E dX2_prisonersWhoList_0 (by decide) ?_
  refine g_istore_n (lv' := [(2, .int 0), (0, .ref (a 0)), (1, .int (nI v))]) E dX2_prisonersWhoList_1 rfl (by decide) rfl ?_
  refine g_iconst (v := 0) E dX2_prisonersWhoList_2 (by decide) ?_
  refine g_istore_n (lv' := [(3, .int 0), (2, .int 0), (0, .ref (a 0)), (1, .int (nI v))]) E dX2_prisonersWhoList_3 rfl (by decide) rfl ?_
  have loop1 : ∀ (n2 : Nat) (k : Nat) (x : Int32), (k ≤ 8) → (x = gPWL S v k) → 8 - k < n2 → gW V 4 0 0 [(a 0, .inr (3, [.int (nI (sN S 0)), .int (nI (sN S 1)), .ref (a 1), .ref (a 2), .ref (a 3), .ref (a 4), .ref (a 5), .ref (a 6), .ref (a 7), .ref (a 8), .int (sI S 9 0), .ref (a 9), .ref (a 11), .ref (a 13), .ref (a 14)])), (a 1, .inl (gy G 0, 8, .inl (sI S 0))), (a 2, .inl (gy G 0, 8, .inl (sI S 1))), (a 3, .inl (gy G 0, 8, .inl (sI S 2))), (a 4, .inl (gy G 0, 8, .inl (sI S 3))), (a 5, .inl (gy G 0, 8, .inl (sI S 4))), (a 6, .inl (gy G 0, 8, .inl (sI S 5))), (a 7, .inl (gy G 0, 10, .inl (sI S 6))), (a 8, .inl (gy G 0, 10, .inl (sI S 7))), (a 9, .inr (1, [.int (nI ((sB S).length)), .ref (a 10)])), (a 10, .inl (gy G 0, 144, .inl gb)), (a 11, .inr (6, [.int (nI ((sW S).length)), .ref (a 12)])), (a 12, .inl (gy G 0, 10, .inl gw)), (a 13, .inl (gy G 0, 5, .inl (sI S 8))), (a 14, .inl (gy G 0, 6, .inl (fun j => nI (sS S j))))] [(0, .ref (a 0)), (1, .int (nI v)), (2, .int x), (3, .int (nI k))] 4 [] := by
    intro n2
    induction n2 with
    | zero => intro k x hk hx hm4; exact absurd hm4 (Nat.not_lt_zero _)
    | succ n2 ih3 =>
      intro k x hk hx hm4
      refine g_iload_n E dX2_prisonersWhoList_4 rfl 3 rfl ?_
      refine g_bipush (v := 8) E dX2_prisonersWhoList_5 (by decide) ?_
      refine g_icmp_geN (tgt := 32) (a := k) (b := 8) E dX2_prisonersWhoList_7 (by decide) (by omega) (by omega) (fun c5 => ?_) (fun c5 => ?_)
      · skip
        have e9 : x = gPWL S v 8 := by rw [hx, show k = 8 by omega]
        refine g_iload_n E dX2_prisonersWhoList_32 rfl 2 rfl ?_
        exact RET _ _ _ () (e9) rfl dX2_prisonersWhoList_33
      · skip
        have hkl : k < 8 := by omega
        refine g_iload_n E dX2_prisonersWhoList_10 rfl 2 rfl ?_
        refine g_iload_n E dX2_prisonersWhoList_11 rfl 3 rfl ?_
        refine g_aload_n E dX2_prisonersWhoList_12 rfl 0 rfl ?_
        refine g_get E uX2_prisonersWhoList_RX2 0 rfl rfl 3 (by decide) kX2_prisonersWhoList_15 rfl rfl dX2_prisonersWhoList_13 ?_
        refine g_iload_n E dX2_prisonersWhoList_16 rfl 3 rfl ?_
        refine g_ialdN (e := k) E 2 rfl (by omega) rfl (v := (sI S 1) k) rfl dX2_prisonersWhoList_17 ?_
        refine g_iload_n E dX2_prisonersWhoList_18 rfl 1 rfl ?_
        refine g_callSNIe (F := [(a 0, .inr (3, [.int (nI (sN S 0)), .int (nI (sN S 1)), .ref (a 1), .ref (a 2), .ref (a 3), .ref (a 4), .ref (a 5), .ref (a 6), .ref (a 7), .ref (a 8), .int (sI S 9 0), .ref (a 9), .ref (a 11), .ref (a 13), .ref (a 14)])), (a 1, .inl (gy G 0, 8, .inl (sI S 0))), (a 2, .inl (gy G 0, 8, .inl (sI S 1))), (a 3, .inl (gy G 0, 8, .inl (sI S 2))), (a 4, .inl (gy G 0, 8, .inl (sI S 3))), (a 5, .inl (gy G 0, 8, .inl (sI S 4))), (a 6, .inl (gy G 0, 8, .inl (sI S 5))), (a 7, .inl (gy G 0, 10, .inl (sI S 6))), (a 8, .inl (gy G 0, 10, .inl (sI S 7))), (a 9, .inr (1, [.int (nI ((sB S).length)), .ref (a 10)])), (a 10, .inl (gy G 0, 144, .inl gb)), (a 11, .inr (6, [.int (nI ((sW S).length)), .ref (a 12)])), (a 12, .inl (gy G 0, 10, .inl gw)), (a 13, .inl (gy G 0, 5, .inl (sI S 8))), (a 14, .inl (gy G 0, 6, .inl (fun j => nI (sS S j))))]) (ws2 := [(a 0, .inr (3, [.int (nI (sN S 0)), .int (nI (sN S 1)), .ref (a 1), .ref (a 2), .ref (a 3), .ref (a 4), .ref (a 5), .ref (a 6), .ref (a 7), .ref (a 8), .int (sI S 9 0), .ref (a 9), .ref (a 11), .ref (a 13), .ref (a 14)])), (a 1, .inl (gy G 0, 8, .inl (sI S 0))), (a 2, .inl (gy G 0, 8, .inl (sI S 1))), (a 3, .inl (gy G 0, 8, .inl (sI S 2))), (a 4, .inl (gy G 0, 8, .inl (sI S 3))), (a 5, .inl (gy G 0, 8, .inl (sI S 4))), (a 6, .inl (gy G 0, 8, .inl (sI S 5))), (a 7, .inl (gy G 0, 10, .inl (sI S 6))), (a 8, .inl (gy G 0, 10, .inl (sI S 7))), (a 9, .inr (1, [.int (nI ((sB S).length)), .ref (a 10)])), (a 10, .inl (gy G 0, 144, .inl gb)), (a 11, .inr (6, [.int (nI ((sW S).length)), .ref (a 12)])), (a 12, .inl (gy G 0, 10, .inl gw)), (a 13, .inl (gy G 0, 5, .inl (sI S 8))), (a 14, .inl (gy G 0, 6, .inl (fun j => nI (sS S j))))]) E (mX7_hasBit G ((sI S 1) k) (nI v)) gX2_prisonersWhoList_X7_hasBit_n115 (by decide +kernel) (g_nest (h := "VisitHours") E (by decide +kernel)) (by decide +kernel) rfl hnX7_hasBit ⟨Nat.le_of_ble_eq_true rfl, Nat.le_of_ble_eq_true rfl⟩ (gPerm_ix [0, 1, 2, 3, 4, 5, 6, 7, 8, 9, 10, 11, 12, 13, 14] rfl rfl) rfl rfl (Nat.le_of_ble_eq_true rfl) dX2_prisonersWhoList_19 ⟨Nat.le_of_ble_eq_true rfl, Nat.le_of_ble_eq_true rfl⟩ (gPerm_ix [0, 1, 2, 3, 4, 5, 6, 7, 8, 9, 10, 11, 12, 13, 14] rfl rfl) ?_
        refine g_callSNIe (F := [(a 0, .inr (3, [.int (nI (sN S 0)), .int (nI (sN S 1)), .ref (a 1), .ref (a 2), .ref (a 3), .ref (a 4), .ref (a 5), .ref (a 6), .ref (a 7), .ref (a 8), .int (sI S 9 0), .ref (a 9), .ref (a 11), .ref (a 13), .ref (a 14)])), (a 1, .inl (gy G 0, 8, .inl (sI S 0))), (a 2, .inl (gy G 0, 8, .inl (sI S 1))), (a 3, .inl (gy G 0, 8, .inl (sI S 2))), (a 4, .inl (gy G 0, 8, .inl (sI S 3))), (a 5, .inl (gy G 0, 8, .inl (sI S 4))), (a 6, .inl (gy G 0, 8, .inl (sI S 5))), (a 7, .inl (gy G 0, 10, .inl (sI S 6))), (a 8, .inl (gy G 0, 10, .inl (sI S 7))), (a 9, .inr (1, [.int (nI ((sB S).length)), .ref (a 10)])), (a 10, .inl (gy G 0, 144, .inl gb)), (a 11, .inr (6, [.int (nI ((sW S).length)), .ref (a 12)])), (a 12, .inl (gy G 0, 10, .inl gw)), (a 13, .inl (gy G 0, 5, .inl (sI S 8))), (a 14, .inl (gy G 0, 6, .inl (fun j => nI (sS S j))))]) (ws2 := [(a 0, .inr (3, [.int (nI (sN S 0)), .int (nI (sN S 1)), .ref (a 1), .ref (a 2), .ref (a 3), .ref (a 4), .ref (a 5), .ref (a 6), .ref (a 7), .ref (a 8), .int (sI S 9 0), .ref (a 9), .ref (a 11), .ref (a 13), .ref (a 14)])), (a 1, .inl (gy G 0, 8, .inl (sI S 0))), (a 2, .inl (gy G 0, 8, .inl (sI S 1))), (a 3, .inl (gy G 0, 8, .inl (sI S 2))), (a 4, .inl (gy G 0, 8, .inl (sI S 3))), (a 5, .inl (gy G 0, 8, .inl (sI S 4))), (a 6, .inl (gy G 0, 8, .inl (sI S 5))), (a 7, .inl (gy G 0, 10, .inl (sI S 6))), (a 8, .inl (gy G 0, 10, .inl (sI S 7))), (a 9, .inr (1, [.int (nI ((sB S).length)), .ref (a 10)])), (a 10, .inl (gy G 0, 144, .inl gb)), (a 11, .inr (6, [.int (nI ((sW S).length)), .ref (a 12)])), (a 12, .inl (gy G 0, 10, .inl gw)), (a 13, .inl (gy G 0, 5, .inl (sI S 8))), (a 14, .inl (gy G 0, 6, .inl (fun j => nI (sS S j))))]) E (mX7_withBit G x (nI k) (if gHb ((sI S 1) k) (nI v) = true then 1 else 0)) gX2_prisonersWhoList_X7_withBit_n122 (by decide +kernel) (g_nest (h := "VisitHours") E (by decide +kernel)) (by decide +kernel) rfl hnX7_withBit ⟨Nat.le_of_ble_eq_true rfl, Nat.le_of_ble_eq_true rfl⟩ (gPerm_ix [0, 1, 2, 3, 4, 5, 6, 7, 8, 9, 10, 11, 12, 13, 14] rfl rfl) rfl rfl (Nat.le_of_ble_eq_true rfl) dX2_prisonersWhoList_22 ⟨Nat.le_of_ble_eq_true rfl, Nat.le_of_ble_eq_true rfl⟩ (gPerm_ix [0, 1, 2, 3, 4, 5, 6, 7, 8, 9, 10, 11, 12, 13, 14] rfl rfl) ?_
        refine g_istore_n (lv' := [(2, .int (gWb x (nI k) (if gHb ((sI S 1) k) (nI v) = true then 1 else 0))), (0, .ref (a 0)), (1, .int (nI v)), (3, .int (nI k))]) E dX2_prisonersWhoList_25 rfl (by decide) rfl ?_
        refine g_iinc (lv' := [(3, .int (nI (k + 1))), (2, .int (gWb x (nI k) (if gHb ((sI S 1) k) (nI v) = true then 1 else 0))), (0, .ref (a 0)), (1, .int (nI v))]) E dX2_prisonersWhoList_26 3 rfl (g_inc _ 1 (by decide)) (by decide) rfl ?_
        refine g_goto (tgt := 4) E dX2_prisonersWhoList_29 (by decide) ?_
        refine g_lv [2, 3, 1, 0] rfl ?_
        exact ih3  (k + 1) _ (by omega) (by rw [gPWL, hx]) (by omega)
  refine g_lv [2, 3, 1, 0] rfl ?_
  exact loop1 _ 0 0 (Nat.zero_le _) rfl (Nat.lt_succ_self _)
set_option maxHeartbeats 4000000 in
set_option maxRecDepth 100000 in
theorem mX2_numberOfPrisoner (G : gG) (a : Nat → Nat) (S : gSt) (gb gw : Nat → Int32) (p q : Nat) (hI : gI1 S) (hT : sN S 0 < 1000000000) (hR : RB (sB S) gb) (hQ : RW (sW S) gw) (hp : p < sN S 1) (hq : q ≤ 7) : CIe G yX2_numberOfPrisoner wsX2_numberOfPrisoner 3 67 [.ref (a 0), .int (nI p), .int (nI q)] [(a 0, .inr (3, [.int (nI (sN S 0)), .int (nI (sN S 1)), .ref (a 1), .ref (a 2), .ref (a 3), .ref (a 4), .ref (a 5), .ref (a 6), .ref (a 7), .ref (a 8), .int (sI S 9 0), .ref (a 9), .ref (a 11), .ref (a 13), .ref (a 14)])), (a 1, .inl (gy G 0, 8, .inl (sI S 0))), (a 2, .inl (gy G 0, 8, .inl (sI S 1))), (a 3, .inl (gy G 0, 8, .inl (sI S 2))), (a 4, .inl (gy G 0, 8, .inl (sI S 3))), (a 5, .inl (gy G 0, 8, .inl (sI S 4))), (a 6, .inl (gy G 0, 8, .inl (sI S 5))), (a 7, .inl (gy G 0, 10, .inl (sI S 6))), (a 8, .inl (gy G 0, 10, .inl (sI S 7))), (a 9, .inr (1, [.int (nI ((sB S).length)), .ref (a 10)])), (a 10, .inl (gy G 0, 144, .inl gb)), (a 11, .inr (6, [.int (nI ((sW S).length)), .ref (a 12)])), (a 12, .inl (gy G 0, 10, .inl gw)), (a 13, .inl (gy G 0, 5, .inl (sI S 8))), (a 14, .inl (gy G 0, 6, .inl (fun j => nI (sS S j))))] (gNP S p q) [(a 0, .inr (3, [.int (nI (sN S 0)), .int (nI (sN S 1)), .ref (a 1), .ref (a 2), .ref (a 3), .ref (a 4), .ref (a 5), .ref (a 6), .ref (a 7), .ref (a 8), .int (sI S 9 0), .ref (a 9), .ref (a 11), .ref (a 13), .ref (a 14)])), (a 1, .inl (gy G 0, 8, .inl (sI S 0))), (a 2, .inl (gy G 0, 8, .inl (sI S 1))), (a 3, .inl (gy G 0, 8, .inl (sI S 2))), (a 4, .inl (gy G 0, 8, .inl (sI S 3))), (a 5, .inl (gy G 0, 8, .inl (sI S 4))), (a 6, .inl (gy G 0, 8, .inl (sI S 5))), (a 7, .inl (gy G 0, 10, .inl (sI S 6))), (a 8, .inl (gy G 0, 10, .inl (sI S 7))), (a 9, .inr (1, [.int (nI ((sB S).length)), .ref (a 10)])), (a 10, .inl (gy G 0, 144, .inl gb)), (a 11, .inr (6, [.int (nI ((sW S).length)), .ref (a 12)])), (a 12, .inl (gy G 0, 10, .inl gw)), (a 13, .inl (gy G 0, 5, .inl (sI S 8))), (a 14, .inl (gy G 0, 6, .inl (fun j => nI (sS S j))))] 0 0 := by
  refine g_enterIe (ty := .int) RX2 rfl (by decide) rfl (Nat.le_of_ble_eq_true rfl) ?_
  intro V E RET
  have hX := hI
  obtain ⟨hP8, hn, hw, hW8, hs3, hs4, hs5, hs6, hs7, hs8, hb34⟩ := hX
  have h8 : ∀ j, j < (sW S).length → wq (sW S) j < 80 := fun j hj => (hW8 j hj).1
  refine g_aload_n E dX2_numberOfPrisoner_0 rfl 0 rfl ?_
  refine g_iload_n E dX2_numberOfPrisoner_1 rfl 1 rfl ?_
  refine g_callVIe (F := []) (ws2 := [(a 0, .inr (3, [.int (nI (sN S 0)), .int (nI (sN S 1)), .ref (a 1), .ref (a 2), .ref (a 3), .ref (a 4), .ref (a 5), .ref (a 6), .ref (a 7), .ref (a 8), .int (sI S 9 0), .ref (a 9), .ref (a 11), .ref (a 13), .ref (a 14)])), (a 1, .inl (gy G 0, 8, .inl (sI S 0))), (a 2, .inl (gy G 0, 8, .inl (sI S 1))), (a 3, .inl (gy G 0, 8, .inl (sI S 2))), (a 4, .inl (gy G 0, 8, .inl (sI S 3))), (a 5, .inl (gy G 0, 8, .inl (sI S 4))), (a 6, .inl (gy G 0, 8, .inl (sI S 5))), (a 7, .inl (gy G 0, 10, .inl (sI S 6))), (a 8, .inl (gy G 0, 10, .inl (sI S 7))), (a 9, .inr (1, [.int (nI ((sB S).length)), .ref (a 10)])), (a 10, .inl (gy G 0, 144, .inl gb)), (a 11, .inr (6, [.int (nI ((sW S).length)), .ref (a 12)])), (a 12, .inl (gy G 0, 10, .inl gw)), (a 13, .inl (gy G 0, 5, .inl (sI S 8))), (a 14, .inl (gy G 0, 6, .inl (fun j => nI (sS S j))))]) E (g_resI (gHas_in (by omega) (by omega)) (mX2_hasPrisoner G a S gb gw (nI p) hI hT hR hQ)) gX2_numberOfPrisoner_X2_hasPrisoner rfl hdX2_hasPrisoner ⟨Nat.le_of_ble_eq_true rfl, Nat.le_of_ble_eq_true rfl⟩ 3 0 rfl rfl rfl (gPerm_ix [0, 1, 2, 3, 4, 5, 6, 7, 8, 9, 10, 11, 12, 13, 14] rfl rfl) rfl rfl (Nat.le_of_ble_eq_true rfl) dX2_numberOfPrisoner_2 ⟨Nat.le_of_ble_eq_true rfl, Nat.le_of_ble_eq_true rfl⟩ (gPerm_ix [0, 1, 2, 3, 4, 5, 6, 7, 8, 9, 10, 11, 12, 13, 14] rfl rfl) ?_
  refine g_if_ne (tgt := 10) E dX2_numberOfPrisoner_5 (by decide) (fun _ => ?_) (fun c => absurd c (by decide))
  refine g_iload_n E dX2_numberOfPrisoner_10 rfl 2 rfl ?_
  rcases (show q = 0 ∨ q = 1 ∨ q = 2 ∨ q = 3 ∨ q = 4 ∨ q = 5 ∨ q = 6 ∨ (q ≠ 0 ∧ q ≠ 1 ∧ q ≠ 2 ∧ q ≠ 3 ∧ q ≠ 4 ∧ q ≠ 5 ∧ q ≠ 6) by omega) with k1 | k1 | k1 | k1 | k1 | k1 | k1 | k1
  · skip
    refine g_top (y := 0) (by rw [k1]; rfl) ?_
    refine g_tableIn (tgt := 52) E dX2_numberOfPrisoner_11 (by decide) (by decide) rfl (by decide) ?_
    refine g_aload_n E dX2_numberOfPrisoner_52 rfl 0 rfl ?_
    refine g_get E uX2_numberOfPrisoner_RX2 0 rfl rfl 2 (by decide) kX2_numberOfPrisoner_11 rfl rfl dX2_numberOfPrisoner_53 ?_
    refine g_iload_n E dX2_numberOfPrisoner_56 rfl 1 rfl ?_
    refine g_ialdN (e := p) E 1 rfl (by omega) rfl (v := (sI S 0) p) rfl dX2_numberOfPrisoner_57 ?_
    exact RET _ _ _ () (by first | (simp [gNP, k1]; done) | (simp [gNP, k1]; rfl) | (unfold gNP; (first | rw [if_pos k1] | rw [if_neg k1] | skip); first | rfl | (simp; done) | skip)) rfl dX2_numberOfPrisoner_58
  · skip
    refine g_top (y := 1) (by rw [k1]; rfl) ?_
    refine g_tableIn (tgt := 59) E dX2_numberOfPrisoner_11 (by decide) (by decide) rfl (by decide) ?_
    refine g_aload_n E dX2_numberOfPrisoner_59 rfl 0 rfl ?_
    refine g_get E uX2_numberOfPrisoner_RX2 0 rfl rfl 3 (by decide) kX2_numberOfPrisoner_15 rfl rfl dX2_numberOfPrisoner_60 ?_
    refine g_iload_n E dX2_numberOfPrisoner_63 rfl 1 rfl ?_
    refine g_ialdN (e := p) E 2 rfl (by omega) rfl (v := (sI S 1) p) rfl dX2_numberOfPrisoner_64 ?_
    exact RET _ _ _ () (by first | (simp [gNP, k1]; done) | (simp [gNP, k1]; rfl) | (unfold gNP; (first | rw [if_pos k1] | rw [if_neg k1] | skip); first | rfl | (simp; done) | skip)) rfl dX2_numberOfPrisoner_65
  · skip
    refine g_top (y := 2) (by rw [k1]; rfl) ?_
    refine g_tableIn (tgt := 66) E dX2_numberOfPrisoner_11 (by decide) (by decide) rfl (by decide) ?_
    refine g_aload_n E dX2_numberOfPrisoner_66 rfl 0 rfl ?_
    refine g_get E uX2_numberOfPrisoner_RX2 0 rfl rfl 4 (by decide) kX2_numberOfPrisoner_18 rfl rfl dX2_numberOfPrisoner_67 ?_
    refine g_iload_n E dX2_numberOfPrisoner_70 rfl 1 rfl ?_
    refine g_ialdN (e := p) E 3 rfl (by omega) rfl (v := (sI S 2) p) rfl dX2_numberOfPrisoner_71 ?_
    exact RET _ _ _ () (by first | (simp [gNP, k1]; done) | (simp [gNP, k1]; rfl) | (unfold gNP; (first | rw [if_pos k1] | rw [if_neg k1] | skip); first | rfl | (simp; done) | skip)) rfl dX2_numberOfPrisoner_72
  · skip
    refine g_top (y := 3) (by rw [k1]; rfl) ?_
    refine g_tableIn (tgt := 73) E dX2_numberOfPrisoner_11 (by decide) (by decide) rfl (by decide) ?_
    refine g_aload_n E dX2_numberOfPrisoner_73 rfl 0 rfl ?_
    refine g_get E uX2_numberOfPrisoner_RX2 0 rfl rfl 5 (by decide) kX2_numberOfPrisoner_21 rfl rfl dX2_numberOfPrisoner_74 ?_
    refine g_iload_n E dX2_numberOfPrisoner_77 rfl 1 rfl ?_
    refine g_ialdN (e := p) E 4 rfl (by omega) rfl (v := (sI S 3) p) rfl dX2_numberOfPrisoner_78 ?_
    exact RET _ _ _ () (by first | (simp [gNP, k1]; done) | (simp [gNP, k1]; rfl) | (unfold gNP; (first | rw [if_pos k1] | rw [if_neg k1] | skip); first | rfl | (simp; done) | skip)) rfl dX2_numberOfPrisoner_79
  · skip
    refine g_top (y := 4) (by rw [k1]; rfl) ?_
    refine g_tableIn (tgt := 80) E dX2_numberOfPrisoner_11 (by decide) (by decide) rfl (by decide) ?_
    refine g_aload_n E dX2_numberOfPrisoner_80 rfl 0 rfl ?_
    refine g_get E uX2_numberOfPrisoner_RX2 0 rfl rfl 11 (by decide) kX2_numberOfPrisoner_39 rfl rfl dX2_numberOfPrisoner_81 ?_
    refine g_iload_n E dX2_numberOfPrisoner_84 rfl 1 rfl ?_
    refine g_aload_n E dX2_numberOfPrisoner_85 rfl 0 rfl ?_
    refine g_get E uX2_numberOfPrisoner_RX2 0 rfl rfl 0 (by decide) kX2_numberOfPrisoner_64 rfl rfl dX2_numberOfPrisoner_86 ?_
    refine g_callSIe (F := [(a 0, .inr (3, [.int (nI (sN S 0)), .int (nI (sN S 1)), .ref (a 1), .ref (a 2), .ref (a 3), .ref (a 4), .ref (a 5), .ref (a 6), .ref (a 7), .ref (a 8), .int (sI S 9 0), .ref (a 9), .ref (a 11), .ref (a 13), .ref (a 14)])), (a 1, .inl (gy G 0, 8, .inl (sI S 0))), (a 2, .inl (gy G 0, 8, .inl (sI S 1))), (a 3, .inl (gy G 0, 8, .inl (sI S 2))), (a 4, .inl (gy G 0, 8, .inl (sI S 3))), (a 5, .inl (gy G 0, 8, .inl (sI S 4))), (a 6, .inl (gy G 0, 8, .inl (sI S 5))), (a 7, .inl (gy G 0, 10, .inl (sI S 6))), (a 8, .inl (gy G 0, 10, .inl (sI S 7))), (a 9, .inr (1, [.int (nI ((sB S).length)), .ref (a 10)])), (a 10, .inl (gy G 0, 144, .inl gb)), (a 11, .inr (6, [.int (nI ((sW S).length)), .ref (a 12)])), (a 12, .inl (gy G 0, 10, .inl gw)), (a 13, .inl (gy G 0, 5, .inl (sI S 8))), (a 14, .inl (gy G 0, 6, .inl (fun j => nI (sS S j))))]) (ws2 := [(a 0, .inr (3, [.int (nI (sN S 0)), .int (nI (sN S 1)), .ref (a 1), .ref (a 2), .ref (a 3), .ref (a 4), .ref (a 5), .ref (a 6), .ref (a 7), .ref (a 8), .int (sI S 9 0), .ref (a 9), .ref (a 11), .ref (a 13), .ref (a 14)])), (a 1, .inl (gy G 0, 8, .inl (sI S 0))), (a 2, .inl (gy G 0, 8, .inl (sI S 1))), (a 3, .inl (gy G 0, 8, .inl (sI S 2))), (a 4, .inl (gy G 0, 8, .inl (sI S 3))), (a 5, .inl (gy G 0, 8, .inl (sI S 4))), (a 6, .inl (gy G 0, 8, .inl (sI S 5))), (a 7, .inl (gy G 0, 10, .inl (sI S 6))), (a 8, .inl (gy G 0, 10, .inl (sI S 7))), (a 9, .inr (1, [.int (nI ((sB S).length)), .ref (a 10)])), (a 10, .inl (gy G 0, 144, .inl gb)), (a 11, .inr (6, [.int (nI ((sW S).length)), .ref (a 12)])), (a 12, .inl (gy G 0, 10, .inl gw)), (a 13, .inl (gy G 0, 5, .inl (sI S 8))), (a 14, .inl (gy G 0, 6, .inl (fun j => nI (sS S j))))]) E (mX2_weekOf G (sN S 0) (by omega)) gX2_numberOfPrisoner_X2_weekOf rfl hnX2_weekOf ⟨Nat.le_of_ble_eq_true rfl, Nat.le_of_ble_eq_true rfl⟩ (gPerm_ix [0, 1, 2, 3, 4, 5, 6, 7, 8, 9, 10, 11, 12, 13, 14] rfl rfl) rfl rfl (Nat.le_of_ble_eq_true rfl) dX2_numberOfPrisoner_89 ⟨Nat.le_of_ble_eq_true rfl, Nat.le_of_ble_eq_true rfl⟩ (gPerm_ix [0, 1, 2, 3, 4, 5, 6, 7, 8, 9, 10, 11, 12, 13, 14] rfl rfl) ?_
    refine g_callVIe (F := [(a 0, .inr (3, [.int (nI (sN S 0)), .int (nI (sN S 1)), .ref (a 1), .ref (a 2), .ref (a 3), .ref (a 4), .ref (a 5), .ref (a 6), .ref (a 7), .ref (a 8), .int (sI S 9 0), .ref (a 9), .ref (a 11), .ref (a 13), .ref (a 14)])), (a 1, .inl (gy G 0, 8, .inl (sI S 0))), (a 2, .inl (gy G 0, 8, .inl (sI S 1))), (a 3, .inl (gy G 0, 8, .inl (sI S 2))), (a 4, .inl (gy G 0, 8, .inl (sI S 3))), (a 5, .inl (gy G 0, 8, .inl (sI S 4))), (a 6, .inl (gy G 0, 8, .inl (sI S 5))), (a 7, .inl (gy G 0, 10, .inl (sI S 6))), (a 8, .inl (gy G 0, 10, .inl (sI S 7))), (a 11, .inr (6, [.int (nI ((sW S).length)), .ref (a 12)])), (a 12, .inl (gy G 0, 10, .inl gw)), (a 13, .inl (gy G 0, 5, .inl (sI S 8))), (a 14, .inl (gy G 0, 6, .inl (fun j => nI (sS S j))))]) (ws2 := [(a 0, .inr (3, [.int (nI (sN S 0)), .int (nI (sN S 1)), .ref (a 1), .ref (a 2), .ref (a 3), .ref (a 4), .ref (a 5), .ref (a 6), .ref (a 7), .ref (a 8), .int (sI S 9 0), .ref (a 9), .ref (a 11), .ref (a 13), .ref (a 14)])), (a 1, .inl (gy G 0, 8, .inl (sI S 0))), (a 2, .inl (gy G 0, 8, .inl (sI S 1))), (a 3, .inl (gy G 0, 8, .inl (sI S 2))), (a 4, .inl (gy G 0, 8, .inl (sI S 3))), (a 5, .inl (gy G 0, 8, .inl (sI S 4))), (a 6, .inl (gy G 0, 8, .inl (sI S 5))), (a 7, .inl (gy G 0, 10, .inl (sI S 6))), (a 8, .inl (gy G 0, 10, .inl (sI S 7))), (a 9, .inr (1, [.int (nI ((sB S).length)), .ref (a 10)])), (a 10, .inl (gy G 0, 144, .inl gb)), (a 11, .inr (6, [.int (nI ((sW S).length)), .ref (a 12)])), (a 12, .inl (gy G 0, 10, .inl gw)), (a 13, .inl (gy G 0, 5, .inl (sI S 8))), (a 14, .inl (gy G 0, 6, .inl (fun j => nI (sS S j))))]) E (mX0_countInWeek G (a 9) (a 10) (sB S) gb p ((sN S 0) / 7) hn hR (by omega) (by omega)) gX2_numberOfPrisoner_X0_countInWeek rfl hdX0_countInWeek ⟨Nat.le_of_ble_eq_true rfl, Nat.le_of_ble_eq_true rfl⟩ 1 0 rfl rfl rfl (gPerm_ix [9, 10, 0, 1, 2, 3, 4, 5, 6, 7, 8, 11, 12, 13, 14] rfl rfl) rfl rfl (Nat.le_of_ble_eq_true rfl) dX2_numberOfPrisoner_92 ⟨Nat.le_of_ble_eq_true rfl, Nat.le_of_ble_eq_true rfl⟩ (gPerm_ix [2, 3, 4, 5, 6, 7, 8, 9, 10, 0, 1, 11, 12, 13, 14] rfl rfl) ?_
    refine g_aload_n E dX2_numberOfPrisoner_95 rfl 0 rfl ?_
    refine g_get E uX2_numberOfPrisoner_RX2 0 rfl rfl 6 (by decide) kX2_numberOfPrisoner_24 rfl rfl dX2_numberOfPrisoner_96 ?_
    refine g_iload_n E dX2_numberOfPrisoner_99 rfl 1 rfl ?_
    refine g_ialdN (e := p) E 5 rfl (by omega) rfl (v := (sI S 4) p) rfl dX2_numberOfPrisoner_100 ?_
    refine g_iadd E dX2_numberOfPrisoner_101 ?_
    exact RET _ _ _ () (by first | (simp [gNP, k1]; done) | (simp [gNP, k1]; rfl) | (unfold gNP; (first | rw [if_pos k1] | rw [if_neg k1] | skip); first | rfl | (simp; done) | skip)) rfl dX2_numberOfPrisoner_102
  · skip
    refine g_top (y := 5) (by rw [k1]; rfl) ?_
    refine g_tableIn (tgt := 103) E dX2_numberOfPrisoner_11 (by decide) (by decide) rfl (by decide) ?_
    refine g_aload_n E dX2_numberOfPrisoner_103 rfl 0 rfl ?_
    refine g_get E uX2_numberOfPrisoner_RX2 0 rfl rfl 11 (by decide) kX2_numberOfPrisoner_39 rfl rfl dX2_numberOfPrisoner_104 ?_
    refine g_iconst (v := 3) E dX2_numberOfPrisoner_107 (by decide) ?_
    refine g_iload_n E dX2_numberOfPrisoner_108 rfl 1 rfl ?_
    refine g_callVIe (F := [(a 0, .inr (3, [.int (nI (sN S 0)), .int (nI (sN S 1)), .ref (a 1), .ref (a 2), .ref (a 3), .ref (a 4), .ref (a 5), .ref (a 6), .ref (a 7), .ref (a 8), .int (sI S 9 0), .ref (a 9), .ref (a 11), .ref (a 13), .ref (a 14)])), (a 1, .inl (gy G 0, 8, .inl (sI S 0))), (a 2, .inl (gy G 0, 8, .inl (sI S 1))), (a 3, .inl (gy G 0, 8, .inl (sI S 2))), (a 4, .inl (gy G 0, 8, .inl (sI S 3))), (a 5, .inl (gy G 0, 8, .inl (sI S 4))), (a 6, .inl (gy G 0, 8, .inl (sI S 5))), (a 7, .inl (gy G 0, 10, .inl (sI S 6))), (a 8, .inl (gy G 0, 10, .inl (sI S 7))), (a 11, .inr (6, [.int (nI ((sW S).length)), .ref (a 12)])), (a 12, .inl (gy G 0, 10, .inl gw)), (a 13, .inl (gy G 0, 5, .inl (sI S 8))), (a 14, .inl (gy G 0, 6, .inl (fun j => nI (sS S j))))]) (ws2 := [(a 0, .inr (3, [.int (nI (sN S 0)), .int (nI (sN S 1)), .ref (a 1), .ref (a 2), .ref (a 3), .ref (a 4), .ref (a 5), .ref (a 6), .ref (a 7), .ref (a 8), .int (sI S 9 0), .ref (a 9), .ref (a 11), .ref (a 13), .ref (a 14)])), (a 1, .inl (gy G 0, 8, .inl (sI S 0))), (a 2, .inl (gy G 0, 8, .inl (sI S 1))), (a 3, .inl (gy G 0, 8, .inl (sI S 2))), (a 4, .inl (gy G 0, 8, .inl (sI S 3))), (a 5, .inl (gy G 0, 8, .inl (sI S 4))), (a 6, .inl (gy G 0, 8, .inl (sI S 5))), (a 7, .inl (gy G 0, 10, .inl (sI S 6))), (a 8, .inl (gy G 0, 10, .inl (sI S 7))), (a 9, .inr (1, [.int (nI ((sB S).length)), .ref (a 10)])), (a 10, .inl (gy G 0, 144, .inl gb)), (a 11, .inr (6, [.int (nI ((sW S).length)), .ref (a 12)])), (a 12, .inl (gy G 0, 10, .inl gw)), (a 13, .inl (gy G 0, 5, .inl (sI S 8))), (a 14, .inl (gy G 0, 6, .inl (fun j => nI (sS S j))))]) E (mX0_countOf G (a 9) (a 10) (sB S) gb 3 p hn hR (by omega) (by omega)) gX2_numberOfPrisoner_X0_countOf rfl hdX0_countOf ⟨Nat.le_of_ble_eq_true rfl, Nat.le_of_ble_eq_true rfl⟩ 1 0 rfl rfl rfl (gPerm_ix [9, 10, 0, 1, 2, 3, 4, 5, 6, 7, 8, 11, 12, 13, 14] rfl rfl) rfl rfl (Nat.le_of_ble_eq_true rfl) dX2_numberOfPrisoner_109 ⟨Nat.le_of_ble_eq_true rfl, Nat.le_of_ble_eq_true rfl⟩ (gPerm_ix [2, 3, 4, 5, 6, 7, 8, 9, 10, 0, 1, 11, 12, 13, 14] rfl rfl) ?_
    exact RET _ _ _ () (by first | (simp [gNP, k1]; done) | (simp [gNP, k1]; rfl) | (unfold gNP; (first | rw [if_pos k1] | rw [if_neg k1] | skip); first | rfl | (simp; done) | skip)) rfl dX2_numberOfPrisoner_112
  · skip
    refine g_top (y := 6) (by rw [k1]; rfl) ?_
    refine g_tableIn (tgt := 113) E dX2_numberOfPrisoner_11 (by decide) (by decide) rfl (by decide) ?_
    refine g_aload_n E dX2_numberOfPrisoner_113 rfl 0 rfl ?_
    refine g_get E uX2_numberOfPrisoner_RX2 0 rfl rfl 12 (by decide) kX2_numberOfPrisoner_46 rfl rfl dX2_numberOfPrisoner_114 ?_
    refine g_iload_n E dX2_numberOfPrisoner_117 rfl 1 rfl ?_
    refine g_callVIe (F := [(a 0, .inr (3, [.int (nI (sN S 0)), .int (nI (sN S 1)), .ref (a 1), .ref (a 2), .ref (a 3), .ref (a 4), .ref (a 5), .ref (a 6), .ref (a 7), .ref (a 8), .int (sI S 9 0), .ref (a 9), .ref (a 11), .ref (a 13), .ref (a 14)])), (a 1, .inl (gy G 0, 8, .inl (sI S 0))), (a 2, .inl (gy G 0, 8, .inl (sI S 1))), (a 3, .inl (gy G 0, 8, .inl (sI S 2))), (a 4, .inl (gy G 0, 8, .inl (sI S 3))), (a 5, .inl (gy G 0, 8, .inl (sI S 4))), (a 6, .inl (gy G 0, 8, .inl (sI S 5))), (a 7, .inl (gy G 0, 10, .inl (sI S 6))), (a 8, .inl (gy G 0, 10, .inl (sI S 7))), (a 9, .inr (1, [.int (nI ((sB S).length)), .ref (a 10)])), (a 10, .inl (gy G 0, 144, .inl gb)), (a 13, .inl (gy G 0, 5, .inl (sI S 8))), (a 14, .inl (gy G 0, 6, .inl (fun j => nI (sS S j))))]) (ws2 := [(a 0, .inr (3, [.int (nI (sN S 0)), .int (nI (sN S 1)), .ref (a 1), .ref (a 2), .ref (a 3), .ref (a 4), .ref (a 5), .ref (a 6), .ref (a 7), .ref (a 8), .int (sI S 9 0), .ref (a 9), .ref (a 11), .ref (a 13), .ref (a 14)])), (a 1, .inl (gy G 0, 8, .inl (sI S 0))), (a 2, .inl (gy G 0, 8, .inl (sI S 1))), (a 3, .inl (gy G 0, 8, .inl (sI S 2))), (a 4, .inl (gy G 0, 8, .inl (sI S 3))), (a 5, .inl (gy G 0, 8, .inl (sI S 4))), (a 6, .inl (gy G 0, 8, .inl (sI S 5))), (a 7, .inl (gy G 0, 10, .inl (sI S 6))), (a 8, .inl (gy G 0, 10, .inl (sI S 7))), (a 9, .inr (1, [.int (nI ((sB S).length)), .ref (a 10)])), (a 10, .inl (gy G 0, 144, .inl gb)), (a 11, .inr (6, [.int (nI ((sW S).length)), .ref (a 12)])), (a 12, .inl (gy G 0, 10, .inl gw)), (a 13, .inl (gy G 0, 5, .inl (sI S 8))), (a 14, .inl (gy G 0, 6, .inl (fun j => nI (sS S j))))]) E (mX6_countOf G (a 11) (a 12) (sW S) gw p hw hQ (by omega)) gX2_numberOfPrisoner_X6_countOf rfl hdX6_countOf ⟨Nat.le_of_ble_eq_true rfl, Nat.le_of_ble_eq_true rfl⟩ 6 0 rfl rfl rfl (gPerm_ix [11, 12, 0, 1, 2, 3, 4, 5, 6, 7, 8, 9, 10, 13, 14] rfl rfl) rfl rfl (Nat.le_of_ble_eq_true rfl) dX2_numberOfPrisoner_118 ⟨Nat.le_of_ble_eq_true rfl, Nat.le_of_ble_eq_true rfl⟩ (gPerm_ix [2, 3, 4, 5, 6, 7, 8, 9, 10, 11, 12, 0, 1, 13, 14] rfl rfl) ?_
    exact RET _ _ _ () (by first | (simp [gNP, k1]; done) | (simp [gNP, k1]; rfl) | (unfold gNP; (first | rw [if_pos k1] | rw [if_neg k1] | skip); first | rfl | (simp; done) | skip)) rfl dX2_numberOfPrisoner_121
  · skip
    refine g_tableOutN (tgt := 122) (a := q) E dX2_numberOfPrisoner_11 (by omega) (by omega) (by decide) ?_
    refine g_aload_n E dX2_numberOfPrisoner_122 rfl 0 rfl ?_
    refine g_get E uX2_numberOfPrisoner_RX2 0 rfl rfl 7 (by decide) kX2_numberOfPrisoner_27 rfl rfl dX2_numberOfPrisoner_123 ?_
    refine g_iload_n E dX2_numberOfPrisoner_126 rfl 1 rfl ?_
    refine g_ialdN (e := p) E 6 rfl (by omega) rfl (v := (sI S 5) p) rfl dX2_numberOfPrisoner_127 ?_
    exact RET _ _ _ () (by first | (simp [gNP, k1]; done) | (simp [gNP, k1]; rfl) | (unfold gNP; (first | rw [if_pos k1] | rw [if_neg k1] | skip); first | rfl | (simp; done) | skip)) rfl dX2_numberOfPrisoner_128
set_option maxHeartbeats 4000000 in
set_option maxRecDepth 100000 in
theorem mX2_numberOfVisitor (G : gG) (a : Nat → Nat) (S : gSt) (gb gw : Nat → Int32) (v q : Nat) (hI : gI1 S) (hT : sN S 0 < 1000000000) (hR : RB (sB S) gb) (hQ : RW (sW S) gw) (hv : v < 10) (hq : q ≤ 4) : CIe G yX2_numberOfVisitor wsX2_numberOfVisitor 3 83 [.ref (a 0), .int (nI v), .int (nI q)] [(a 0, .inr (3, [.int (nI (sN S 0)), .int (nI (sN S 1)), .ref (a 1), .ref (a 2), .ref (a 3), .ref (a 4), .ref (a 5), .ref (a 6), .ref (a 7), .ref (a 8), .int (sI S 9 0), .ref (a 9), .ref (a 11), .ref (a 13), .ref (a 14)])), (a 1, .inl (gy G 0, 8, .inl (sI S 0))), (a 2, .inl (gy G 0, 8, .inl (sI S 1))), (a 3, .inl (gy G 0, 8, .inl (sI S 2))), (a 4, .inl (gy G 0, 8, .inl (sI S 3))), (a 5, .inl (gy G 0, 8, .inl (sI S 4))), (a 6, .inl (gy G 0, 8, .inl (sI S 5))), (a 7, .inl (gy G 0, 10, .inl (sI S 6))), (a 8, .inl (gy G 0, 10, .inl (sI S 7))), (a 9, .inr (1, [.int (nI ((sB S).length)), .ref (a 10)])), (a 10, .inl (gy G 0, 144, .inl gb)), (a 11, .inr (6, [.int (nI ((sW S).length)), .ref (a 12)])), (a 12, .inl (gy G 0, 10, .inl gw)), (a 13, .inl (gy G 0, 5, .inl (sI S 8))), (a 14, .inl (gy G 0, 6, .inl (fun j => nI (sS S j))))] (gNV S v q) [(a 0, .inr (3, [.int (nI (sN S 0)), .int (nI (sN S 1)), .ref (a 1), .ref (a 2), .ref (a 3), .ref (a 4), .ref (a 5), .ref (a 6), .ref (a 7), .ref (a 8), .int (sI S 9 0), .ref (a 9), .ref (a 11), .ref (a 13), .ref (a 14)])), (a 1, .inl (gy G 0, 8, .inl (sI S 0))), (a 2, .inl (gy G 0, 8, .inl (sI S 1))), (a 3, .inl (gy G 0, 8, .inl (sI S 2))), (a 4, .inl (gy G 0, 8, .inl (sI S 3))), (a 5, .inl (gy G 0, 8, .inl (sI S 4))), (a 6, .inl (gy G 0, 8, .inl (sI S 5))), (a 7, .inl (gy G 0, 10, .inl (sI S 6))), (a 8, .inl (gy G 0, 10, .inl (sI S 7))), (a 9, .inr (1, [.int (nI ((sB S).length)), .ref (a 10)])), (a 10, .inl (gy G 0, 144, .inl gb)), (a 11, .inr (6, [.int (nI ((sW S).length)), .ref (a 12)])), (a 12, .inl (gy G 0, 10, .inl gw)), (a 13, .inl (gy G 0, 5, .inl (sI S 8))), (a 14, .inl (gy G 0, 6, .inl (fun j => nI (sS S j))))] 0 0 := by
  refine g_enterIe (ty := .int) RX2 rfl (by decide) rfl (Nat.le_of_ble_eq_true rfl) ?_
  intro V E RET
  have hX := hI
  obtain ⟨hP8, hn, hw, hW8, hs3, hs4, hs5, hs6, hs7, hs8, hb34⟩ := hX
  have h8 : ∀ j, j < (sW S).length → wq (sW S) j < 80 := fun j hj => (hW8 j hj).1
  refine g_iload_n E dX2_numberOfVisitor_0 rfl 1 rfl ?_
  refine g_callSIe (F := [(a 0, .inr (3, [.int (nI (sN S 0)), .int (nI (sN S 1)), .ref (a 1), .ref (a 2), .ref (a 3), .ref (a 4), .ref (a 5), .ref (a 6), .ref (a 7), .ref (a 8), .int (sI S 9 0), .ref (a 9), .ref (a 11), .ref (a 13), .ref (a 14)])), (a 1, .inl (gy G 0, 8, .inl (sI S 0))), (a 2, .inl (gy G 0, 8, .inl (sI S 1))), (a 3, .inl (gy G 0, 8, .inl (sI S 2))), (a 4, .inl (gy G 0, 8, .inl (sI S 3))), (a 5, .inl (gy G 0, 8, .inl (sI S 4))), (a 6, .inl (gy G 0, 8, .inl (sI S 5))), (a 7, .inl (gy G 0, 10, .inl (sI S 6))), (a 8, .inl (gy G 0, 10, .inl (sI S 7))), (a 9, .inr (1, [.int (nI ((sB S).length)), .ref (a 10)])), (a 10, .inl (gy G 0, 144, .inl gb)), (a 11, .inr (6, [.int (nI ((sW S).length)), .ref (a 12)])), (a 12, .inl (gy G 0, 10, .inl gw)), (a 13, .inl (gy G 0, 5, .inl (sI S 8))), (a 14, .inl (gy G 0, 6, .inl (fun j => nI (sS S j))))]) (ws2 := [(a 0, .inr (3, [.int (nI (sN S 0)), .int (nI (sN S 1)), .ref (a 1), .ref (a 2), .ref (a 3), .ref (a 4), .ref (a 5), .ref (a 6), .ref (a 7), .ref (a 8), .int (sI S 9 0), .ref (a 9), .ref (a 11), .ref (a 13), .ref (a 14)])), (a 1, .inl (gy G 0, 8, .inl (sI S 0))), (a 2, .inl (gy G 0, 8, .inl (sI S 1))), (a 3, .inl (gy G 0, 8, .inl (sI S 2))), (a 4, .inl (gy G 0, 8, .inl (sI S 3))), (a 5, .inl (gy G 0, 8, .inl (sI S 4))), (a 6, .inl (gy G 0, 8, .inl (sI S 5))), (a 7, .inl (gy G 0, 10, .inl (sI S 6))), (a 8, .inl (gy G 0, 10, .inl (sI S 7))), (a 9, .inr (1, [.int (nI ((sB S).length)), .ref (a 10)])), (a 10, .inl (gy G 0, 144, .inl gb)), (a 11, .inr (6, [.int (nI ((sW S).length)), .ref (a 12)])), (a 12, .inl (gy G 0, 10, .inl gw)), (a 13, .inl (gy G 0, 5, .inl (sI S 8))), (a 14, .inl (gy G 0, 6, .inl (fun j => nI (sS S j))))]) E (g_resI (gHas_v (by omega)) (mX2_hasVisitor G (nI v))) gX2_numberOfVisitor_X2_hasVisitor rfl hnX2_hasVisitor ⟨Nat.le_of_ble_eq_true rfl, Nat.le_of_ble_eq_true rfl⟩ (gPerm_ix [0, 1, 2, 3, 4, 5, 6, 7, 8, 9, 10, 11, 12, 13, 14] rfl rfl) rfl rfl (Nat.le_of_ble_eq_true rfl) dX2_numberOfVisitor_1 ⟨Nat.le_of_ble_eq_true rfl, Nat.le_of_ble_eq_true rfl⟩ (gPerm_ix [0, 1, 2, 3, 4, 5, 6, 7, 8, 9, 10, 11, 12, 13, 14] rfl rfl) ?_
  refine g_if_ne (tgt := 9) E dX2_numberOfVisitor_4 (by decide) (fun _ => ?_) (fun c => absurd c (by decide))
  refine g_iload_n E dX2_numberOfVisitor_9 rfl 2 rfl ?_
  rcases (show q = 0 ∨ q = 1 ∨ q = 2 ∨ q = 3 ∨ (q ≠ 0 ∧ q ≠ 1 ∧ q ≠ 2 ∧ q ≠ 3) by omega) with k1 | k1 | k1 | k1 | k1
  · skip
    refine g_top (y := 0) (by rw [k1]; rfl) ?_
    refine g_tableIn (tgt := 40) E dX2_numberOfVisitor_10 (by decide) (by decide) rfl (by decide) ?_
    refine g_aload_n E dX2_numberOfVisitor_40 rfl 0 rfl ?_
    refine g_get E uX2_numberOfVisitor_RX2 0 rfl rfl 8 (by decide) kX2_numberOfVisitor_30 rfl rfl dX2_numberOfVisitor_41 ?_
    refine g_iload_n E dX2_numberOfVisitor_44 rfl 1 rfl ?_
    refine g_ialdN (e := v) E 7 rfl (by omega) rfl (v := (sI S 6) v) rfl dX2_numberOfVisitor_45 ?_
    exact RET _ _ _ () (by first | (simp [gNV, k1]; done) | (simp [gNV, k1]; rfl) | (unfold gNV; (first | rw [if_pos k1] | rw [if_neg k1] | skip); first | rfl | (simp; done) | skip)) rfl dX2_numberOfVisitor_46
  · skip
    refine g_top (y := 1) (by rw [k1]; rfl) ?_
    refine g_tableIn (tgt := 47) E dX2_numberOfVisitor_10 (by decide) (by decide) rfl (by decide) ?_
    refine g_aload_n E dX2_numberOfVisitor_47 rfl 0 rfl ?_
    refine g_get E uX2_numberOfVisitor_RX2 0 rfl rfl 9 (by decide) kX2_numberOfVisitor_33 rfl rfl dX2_numberOfVisitor_48 ?_
    refine g_iload_n E dX2_numberOfVisitor_51 rfl 1 rfl ?_
    refine g_ialdN (e := v) E 8 rfl (by omega) rfl (v := (sI S 7) v) rfl dX2_numberOfVisitor_52 ?_
    exact RET _ _ _ () (by first | (simp [gNV, k1]; done) | (simp [gNV, k1]; rfl) | (unfold gNV; (first | rw [if_pos k1] | rw [if_neg k1] | skip); first | rfl | (simp; done) | skip)) rfl dX2_numberOfVisitor_53
  · skip
    refine g_top (y := 2) (by rw [k1]; rfl) ?_
    refine g_tableIn (tgt := 54) E dX2_numberOfVisitor_10 (by decide) (by decide) rfl (by decide) ?_
    refine g_aload_n E dX2_numberOfVisitor_54 rfl 0 rfl ?_
    refine g_get E uX2_numberOfVisitor_RX2 0 rfl rfl 10 (by decide) kX2_numberOfVisitor_77 rfl rfl dX2_numberOfVisitor_55 ?_
    refine g_iload_n E dX2_numberOfVisitor_58 rfl 1 rfl ?_
    refine g_callSNIe (F := [(a 0, .inr (3, [.int (nI (sN S 0)), .int (nI (sN S 1)), .ref (a 1), .ref (a 2), .ref (a 3), .ref (a 4), .ref (a 5), .ref (a 6), .ref (a 7), .ref (a 8), .int (sI S 9 0), .ref (a 9), .ref (a 11), .ref (a 13), .ref (a 14)])), (a 1, .inl (gy G 0, 8, .inl (sI S 0))), (a 2, .inl (gy G 0, 8, .inl (sI S 1))), (a 3, .inl (gy G 0, 8, .inl (sI S 2))), (a 4, .inl (gy G 0, 8, .inl (sI S 3))), (a 5, .inl (gy G 0, 8, .inl (sI S 4))), (a 6, .inl (gy G 0, 8, .inl (sI S 5))), (a 7, .inl (gy G 0, 10, .inl (sI S 6))), (a 8, .inl (gy G 0, 10, .inl (sI S 7))), (a 9, .inr (1, [.int (nI ((sB S).length)), .ref (a 10)])), (a 10, .inl (gy G 0, 144, .inl gb)), (a 11, .inr (6, [.int (nI ((sW S).length)), .ref (a 12)])), (a 12, .inl (gy G 0, 10, .inl gw)), (a 13, .inl (gy G 0, 5, .inl (sI S 8))), (a 14, .inl (gy G 0, 6, .inl (fun j => nI (sS S j))))]) (ws2 := [(a 0, .inr (3, [.int (nI (sN S 0)), .int (nI (sN S 1)), .ref (a 1), .ref (a 2), .ref (a 3), .ref (a 4), .ref (a 5), .ref (a 6), .ref (a 7), .ref (a 8), .int (sI S 9 0), .ref (a 9), .ref (a 11), .ref (a 13), .ref (a 14)])), (a 1, .inl (gy G 0, 8, .inl (sI S 0))), (a 2, .inl (gy G 0, 8, .inl (sI S 1))), (a 3, .inl (gy G 0, 8, .inl (sI S 2))), (a 4, .inl (gy G 0, 8, .inl (sI S 3))), (a 5, .inl (gy G 0, 8, .inl (sI S 4))), (a 6, .inl (gy G 0, 8, .inl (sI S 5))), (a 7, .inl (gy G 0, 10, .inl (sI S 6))), (a 8, .inl (gy G 0, 10, .inl (sI S 7))), (a 9, .inr (1, [.int (nI ((sB S).length)), .ref (a 10)])), (a 10, .inl (gy G 0, 144, .inl gb)), (a 11, .inr (6, [.int (nI ((sW S).length)), .ref (a 12)])), (a 12, .inl (gy G 0, 10, .inl gw)), (a 13, .inl (gy G 0, 5, .inl (sI S 8))), (a 14, .inl (gy G 0, 6, .inl (fun j => nI (sS S j))))]) E (mX7_hasBit G (sI S 9 0) (nI v)) gX2_numberOfVisitor_X7_hasBit_n115 (by decide +kernel) (g_nest (h := "VisitHours") E (by decide +kernel)) (by decide +kernel) rfl hnX7_hasBit ⟨Nat.le_of_ble_eq_true rfl, Nat.le_of_ble_eq_true rfl⟩ (gPerm_ix [0, 1, 2, 3, 4, 5, 6, 7, 8, 9, 10, 11, 12, 13, 14] rfl rfl) rfl rfl (Nat.le_of_ble_eq_true rfl) dX2_numberOfVisitor_59 ⟨Nat.le_of_ble_eq_true rfl, Nat.le_of_ble_eq_true rfl⟩ (gPerm_ix [0, 1, 2, 3, 4, 5, 6, 7, 8, 9, 10, 11, 12, 13, 14] rfl rfl) ?_
    refine g_if_eqB (tgt := 69) (P := gHb (sI S 9 0) (nI v) = true) E dX2_numberOfVisitor_62 (by decide) (fun c2 => ?_) (fun c2 => ?_)
    · skip
      refine g_iconst (v := 0) E dX2_numberOfVisitor_69 (by decide) ?_
      exact RET _ _ _ () (by first | (simp [gNV, k1, c2]; done) | (simp [gNV, k1, c2]; rfl) | (unfold gNV; (first | rw [if_pos k1] | rw [if_neg k1] | skip); (first | rw [if_pos c2] | rw [if_neg c2] | skip); first | rfl | (simp; done) | skip)) rfl dX2_numberOfVisitor_70
    · skip
      refine g_iconst (v := 1) E dX2_numberOfVisitor_65 (by decide) ?_
      refine g_goto (tgt := 70) E dX2_numberOfVisitor_66 (by decide) ?_
      exact RET _ _ _ () (by first | (simp [gNV, k1, c2]; done) | (simp [gNV, k1, c2]; rfl) | (unfold gNV; (first | rw [if_pos k1] | rw [if_neg k1] | skip); (first | rw [if_pos c2] | rw [if_neg c2] | skip); first | rfl | (simp; done) | skip)) rfl dX2_numberOfVisitor_70
  · skip
    refine g_top (y := 3) (by rw [k1]; rfl) ?_
    refine g_tableIn (tgt := 71) E dX2_numberOfVisitor_10 (by decide) (by decide) rfl (by decide) ?_
    refine g_aload_n E dX2_numberOfVisitor_71 rfl 0 rfl ?_
    refine g_get E uX2_numberOfVisitor_RX2 0 rfl rfl 11 (by decide) kX2_numberOfVisitor_39 rfl rfl dX2_numberOfVisitor_72 ?_
    refine g_iconst (v := 4) E dX2_numberOfVisitor_75 (by decide) ?_
    refine g_iload_n E dX2_numberOfVisitor_76 rfl 1 rfl ?_
    refine g_callVIe (F := [(a 0, .inr (3, [.int (nI (sN S 0)), .int (nI (sN S 1)), .ref (a 1), .ref (a 2), .ref (a 3), .ref (a 4), .ref (a 5), .ref (a 6), .ref (a 7), .ref (a 8), .int (sI S 9 0), .ref (a 9), .ref (a 11), .ref (a 13), .ref (a 14)])), (a 1, .inl (gy G 0, 8, .inl (sI S 0))), (a 2, .inl (gy G 0, 8, .inl (sI S 1))), (a 3, .inl (gy G 0, 8, .inl (sI S 2))), (a 4, .inl (gy G 0, 8, .inl (sI S 3))), (a 5, .inl (gy G 0, 8, .inl (sI S 4))), (a 6, .inl (gy G 0, 8, .inl (sI S 5))), (a 7, .inl (gy G 0, 10, .inl (sI S 6))), (a 8, .inl (gy G 0, 10, .inl (sI S 7))), (a 11, .inr (6, [.int (nI ((sW S).length)), .ref (a 12)])), (a 12, .inl (gy G 0, 10, .inl gw)), (a 13, .inl (gy G 0, 5, .inl (sI S 8))), (a 14, .inl (gy G 0, 6, .inl (fun j => nI (sS S j))))]) (ws2 := [(a 0, .inr (3, [.int (nI (sN S 0)), .int (nI (sN S 1)), .ref (a 1), .ref (a 2), .ref (a 3), .ref (a 4), .ref (a 5), .ref (a 6), .ref (a 7), .ref (a 8), .int (sI S 9 0), .ref (a 9), .ref (a 11), .ref (a 13), .ref (a 14)])), (a 1, .inl (gy G 0, 8, .inl (sI S 0))), (a 2, .inl (gy G 0, 8, .inl (sI S 1))), (a 3, .inl (gy G 0, 8, .inl (sI S 2))), (a 4, .inl (gy G 0, 8, .inl (sI S 3))), (a 5, .inl (gy G 0, 8, .inl (sI S 4))), (a 6, .inl (gy G 0, 8, .inl (sI S 5))), (a 7, .inl (gy G 0, 10, .inl (sI S 6))), (a 8, .inl (gy G 0, 10, .inl (sI S 7))), (a 9, .inr (1, [.int (nI ((sB S).length)), .ref (a 10)])), (a 10, .inl (gy G 0, 144, .inl gb)), (a 11, .inr (6, [.int (nI ((sW S).length)), .ref (a 12)])), (a 12, .inl (gy G 0, 10, .inl gw)), (a 13, .inl (gy G 0, 5, .inl (sI S 8))), (a 14, .inl (gy G 0, 6, .inl (fun j => nI (sS S j))))]) E (mX0_countOf G (a 9) (a 10) (sB S) gb 4 v hn hR (by omega) (by omega)) gX2_numberOfVisitor_X0_countOf rfl hdX0_countOf ⟨Nat.le_of_ble_eq_true rfl, Nat.le_of_ble_eq_true rfl⟩ 1 0 rfl rfl rfl (gPerm_ix [9, 10, 0, 1, 2, 3, 4, 5, 6, 7, 8, 11, 12, 13, 14] rfl rfl) rfl rfl (Nat.le_of_ble_eq_true rfl) dX2_numberOfVisitor_77 ⟨Nat.le_of_ble_eq_true rfl, Nat.le_of_ble_eq_true rfl⟩ (gPerm_ix [2, 3, 4, 5, 6, 7, 8, 9, 10, 0, 1, 11, 12, 13, 14] rfl rfl) ?_
    exact RET _ _ _ () (by first | (simp [gNV, k1]; done) | (simp [gNV, k1]; rfl) | (unfold gNV; (first | rw [if_pos k1] | rw [if_neg k1] | skip); first | rfl | (simp; done) | skip)) rfl dX2_numberOfVisitor_80
  · skip
    refine g_tableOutN (tgt := 81) (a := q) E dX2_numberOfVisitor_10 (by omega) (by omega) (by decide) ?_
    refine g_aload_n E dX2_numberOfVisitor_81 rfl 0 rfl ?_
    refine g_iload_n E dX2_numberOfVisitor_82 rfl 1 rfl ?_
    refine g_callVIe (F := []) (ws2 := [(a 0, .inr (3, [.int (nI (sN S 0)), .int (nI (sN S 1)), .ref (a 1), .ref (a 2), .ref (a 3), .ref (a 4), .ref (a 5), .ref (a 6), .ref (a 7), .ref (a 8), .int (sI S 9 0), .ref (a 9), .ref (a 11), .ref (a 13), .ref (a 14)])), (a 1, .inl (gy G 0, 8, .inl (sI S 0))), (a 2, .inl (gy G 0, 8, .inl (sI S 1))), (a 3, .inl (gy G 0, 8, .inl (sI S 2))), (a 4, .inl (gy G 0, 8, .inl (sI S 3))), (a 5, .inl (gy G 0, 8, .inl (sI S 4))), (a 6, .inl (gy G 0, 8, .inl (sI S 5))), (a 7, .inl (gy G 0, 10, .inl (sI S 6))), (a 8, .inl (gy G 0, 10, .inl (sI S 7))), (a 9, .inr (1, [.int (nI ((sB S).length)), .ref (a 10)])), (a 10, .inl (gy G 0, 144, .inl gb)), (a 11, .inr (6, [.int (nI ((sW S).length)), .ref (a 12)])), (a 12, .inl (gy G 0, 10, .inl gw)), (a 13, .inl (gy G 0, 5, .inl (sI S 8))), (a 14, .inl (gy G 0, 6, .inl (fun j => nI (sS S j))))]) E (mX2_prisonersWhoList G a S gb gw v hI hT hR hQ ) gX2_numberOfVisitor_X2_prisonersWhoList rfl hdX2_prisonersWhoList ⟨Nat.le_of_ble_eq_true rfl, Nat.le_of_ble_eq_true rfl⟩ 3 0 rfl rfl rfl (gPerm_ix [0, 1, 2, 3, 4, 5, 6, 7, 8, 9, 10, 11, 12, 13, 14] rfl rfl) rfl rfl (Nat.le_of_ble_eq_true rfl) dX2_numberOfVisitor_83 ⟨Nat.le_of_ble_eq_true rfl, Nat.le_of_ble_eq_true rfl⟩ (gPerm_ix [0, 1, 2, 3, 4, 5, 6, 7, 8, 9, 10, 11, 12, 13, 14] rfl rfl) ?_
    exact RET _ _ _ () (by first | (simp [gNV, k1]; done) | (simp [gNV, k1]; rfl) | (unfold gNV; (first | rw [if_pos k1] | rw [if_neg k1] | skip); first | rfl | (simp; done) | skip)) rfl dX2_numberOfVisitor_86
set_option maxHeartbeats 4000000 in
set_option maxRecDepth 100000 in
theorem mX2_isLost (G : gG) (a : Nat → Nat) (S : gSt) (gb gw : Nat → Int32) (p d : Nat) (hI : gI1 S) (hT : sN S 0 < 1000000000) (hR : RB (sB S) gb) (hQ : RW (sW S) gw) (hp : p < sN S 1) : CIe G yX2_isLost wsX2_isLost 1 21 [.ref (a 0), .int (nI p), .int (nI d)] [(a 0, .inr (3, [.int (nI (sN S 0)), .int (nI (sN S 1)), .ref (a 1), .ref (a 2), .ref (a 3), .ref (a 4), .ref (a 5), .ref (a 6), .ref (a 7), .ref (a 8), .int (sI S 9 0), .ref (a 9), .ref (a 11), .ref (a 13), .ref (a 14)])), (a 1, .inl (gy G 0, 8, .inl (sI S 0))), (a 2, .inl (gy G 0, 8, .inl (sI S 1))), (a 3, .inl (gy G 0, 8, .inl (sI S 2))), (a 4, .inl (gy G 0, 8, .inl (sI S 3))), (a 5, .inl (gy G 0, 8, .inl (sI S 4))), (a 6, .inl (gy G 0, 8, .inl (sI S 5))), (a 7, .inl (gy G 0, 10, .inl (sI S 6))), (a 8, .inl (gy G 0, 10, .inl (sI S 7))), (a 9, .inr (1, [.int (nI ((sB S).length)), .ref (a 10)])), (a 10, .inl (gy G 0, 144, .inl gb)), (a 11, .inr (6, [.int (nI ((sW S).length)), .ref (a 12)])), (a 12, .inl (gy G 0, 10, .inl gw)), (a 13, .inl (gy G 0, 5, .inl (sI S 8))), (a 14, .inl (gy G 0, 6, .inl (fun j => nI (sS S j))))] (if (nI d < sI S 2 p) then 1 else 0) [(a 0, .inr (3, [.int (nI (sN S 0)), .int (nI (sN S 1)), .ref (a 1), .ref (a 2), .ref (a 3), .ref (a 4), .ref (a 5), .ref (a 6), .ref (a 7), .ref (a 8), .int (sI S 9 0), .ref (a 9), .ref (a 11), .ref (a 13), .ref (a 14)])), (a 1, .inl (gy G 0, 8, .inl (sI S 0))), (a 2, .inl (gy G 0, 8, .inl (sI S 1))), (a 3, .inl (gy G 0, 8, .inl (sI S 2))), (a 4, .inl (gy G 0, 8, .inl (sI S 3))), (a 5, .inl (gy G 0, 8, .inl (sI S 4))), (a 6, .inl (gy G 0, 8, .inl (sI S 5))), (a 7, .inl (gy G 0, 10, .inl (sI S 6))), (a 8, .inl (gy G 0, 10, .inl (sI S 7))), (a 9, .inr (1, [.int (nI ((sB S).length)), .ref (a 10)])), (a 10, .inl (gy G 0, 144, .inl gb)), (a 11, .inr (6, [.int (nI ((sW S).length)), .ref (a 12)])), (a 12, .inl (gy G 0, 10, .inl gw)), (a 13, .inl (gy G 0, 5, .inl (sI S 8))), (a 14, .inl (gy G 0, 6, .inl (fun j => nI (sS S j))))] 0 0 := by
  refine g_enterIe (ty := .boolean) RX2 rfl (by decide) rfl (Nat.le_of_ble_eq_true rfl) ?_
  intro V E RET
  have hX := hI
  obtain ⟨hP8, hn, hw, hW8, hs3, hs4, hs5, hs6, hs7, hs8, hb34⟩ := hX
  have h8 : ∀ j, j < (sW S).length → wq (sW S) j < 80 := fun j hj => (hW8 j hj).1
  refine g_aload_n E dX2_isLost_0 rfl 0 rfl ?_
  refine g_iload_n E dX2_isLost_1 rfl 1 rfl ?_
  refine g_callVIe (F := []) (ws2 := [(a 0, .inr (3, [.int (nI (sN S 0)), .int (nI (sN S 1)), .ref (a 1), .ref (a 2), .ref (a 3), .ref (a 4), .ref (a 5), .ref (a 6), .ref (a 7), .ref (a 8), .int (sI S 9 0), .ref (a 9), .ref (a 11), .ref (a 13), .ref (a 14)])), (a 1, .inl (gy G 0, 8, .inl (sI S 0))), (a 2, .inl (gy G 0, 8, .inl (sI S 1))), (a 3, .inl (gy G 0, 8, .inl (sI S 2))), (a 4, .inl (gy G 0, 8, .inl (sI S 3))), (a 5, .inl (gy G 0, 8, .inl (sI S 4))), (a 6, .inl (gy G 0, 8, .inl (sI S 5))), (a 7, .inl (gy G 0, 10, .inl (sI S 6))), (a 8, .inl (gy G 0, 10, .inl (sI S 7))), (a 9, .inr (1, [.int (nI ((sB S).length)), .ref (a 10)])), (a 10, .inl (gy G 0, 144, .inl gb)), (a 11, .inr (6, [.int (nI ((sW S).length)), .ref (a 12)])), (a 12, .inl (gy G 0, 10, .inl gw)), (a 13, .inl (gy G 0, 5, .inl (sI S 8))), (a 14, .inl (gy G 0, 6, .inl (fun j => nI (sS S j))))]) E (g_resI (gHas_in (by omega) (by omega)) (mX2_hasPrisoner G a S gb gw (nI p) hI hT hR hQ)) gX2_isLost_X2_hasPrisoner rfl hdX2_hasPrisoner ⟨Nat.le_of_ble_eq_true rfl, Nat.le_of_ble_eq_true rfl⟩ 3 0 rfl rfl rfl (gPerm_ix [0, 1, 2, 3, 4, 5, 6, 7, 8, 9, 10, 11, 12, 13, 14] rfl rfl) rfl rfl (Nat.le_of_ble_eq_true rfl) dX2_isLost_2 ⟨Nat.le_of_ble_eq_true rfl, Nat.le_of_ble_eq_true rfl⟩ (gPerm_ix [0, 1, 2, 3, 4, 5, 6, 7, 8, 9, 10, 11, 12, 13, 14] rfl rfl) ?_
  refine g_if_eq (tgt := 22) E dX2_isLost_5 (by decide) (fun c => absurd c (by decide)) (fun _ => ?_)
  refine g_iload_n E dX2_isLost_8 rfl 2 rfl ?_
  refine g_aload_n E dX2_isLost_9 rfl 0 rfl ?_
  refine g_get E uX2_isLost_RX2 0 rfl rfl 4 (by decide) kX2_isLost_18 rfl rfl dX2_isLost_10 ?_
  refine g_iload_n E dX2_isLost_13 rfl 1 rfl ?_
  refine g_ialdN (e := p) E 3 rfl (by omega) rfl (v := (sI S 2) p) rfl dX2_isLost_14 ?_
  refine g_icmp_ge (tgt := 22) E dX2_isLost_15 (by decide) (fun c1 => ?_) (fun c1 => ?_)
  · skip
    refine g_iconst (v := 0) E dX2_isLost_22 (by decide) ?_
    exact RET _ _ _ () (by simp [c1]) rfl dX2_isLost_23
  · skip
    refine g_iconst (v := 1) E dX2_isLost_18 (by decide) ?_
    refine g_goto (tgt := 23) E dX2_isLost_19 (by decide) ?_
    exact RET _ _ _ () (by simp [c1]) rfl dX2_isLost_23
set_option maxHeartbeats 4000000 in
set_option maxRecDepth 100000 in
theorem mX2_isBanned (G : gG) (a : Nat → Nat) (S : gSt) (gb gw : Nat → Int32) (v d : Nat) (hI : gI1 S) (hT : sN S 0 < 1000000000) (hR : RB (sB S) gb) (hQ : RW (sW S) gw) (hv : v < 10) : CIe G yX2_isBanned wsX2_isBanned 1 20 [.ref (a 0), .int (nI v), .int (nI d)] [(a 0, .inr (3, [.int (nI (sN S 0)), .int (nI (sN S 1)), .ref (a 1), .ref (a 2), .ref (a 3), .ref (a 4), .ref (a 5), .ref (a 6), .ref (a 7), .ref (a 8), .int (sI S 9 0), .ref (a 9), .ref (a 11), .ref (a 13), .ref (a 14)])), (a 1, .inl (gy G 0, 8, .inl (sI S 0))), (a 2, .inl (gy G 0, 8, .inl (sI S 1))), (a 3, .inl (gy G 0, 8, .inl (sI S 2))), (a 4, .inl (gy G 0, 8, .inl (sI S 3))), (a 5, .inl (gy G 0, 8, .inl (sI S 4))), (a 6, .inl (gy G 0, 8, .inl (sI S 5))), (a 7, .inl (gy G 0, 10, .inl (sI S 6))), (a 8, .inl (gy G 0, 10, .inl (sI S 7))), (a 9, .inr (1, [.int (nI ((sB S).length)), .ref (a 10)])), (a 10, .inl (gy G 0, 144, .inl gb)), (a 11, .inr (6, [.int (nI ((sW S).length)), .ref (a 12)])), (a 12, .inl (gy G 0, 10, .inl gw)), (a 13, .inl (gy G 0, 5, .inl (sI S 8))), (a 14, .inl (gy G 0, 6, .inl (fun j => nI (sS S j))))] (if (nI d < sI S 7 v) then 1 else 0) [(a 0, .inr (3, [.int (nI (sN S 0)), .int (nI (sN S 1)), .ref (a 1), .ref (a 2), .ref (a 3), .ref (a 4), .ref (a 5), .ref (a 6), .ref (a 7), .ref (a 8), .int (sI S 9 0), .ref (a 9), .ref (a 11), .ref (a 13), .ref (a 14)])), (a 1, .inl (gy G 0, 8, .inl (sI S 0))), (a 2, .inl (gy G 0, 8, .inl (sI S 1))), (a 3, .inl (gy G 0, 8, .inl (sI S 2))), (a 4, .inl (gy G 0, 8, .inl (sI S 3))), (a 5, .inl (gy G 0, 8, .inl (sI S 4))), (a 6, .inl (gy G 0, 8, .inl (sI S 5))), (a 7, .inl (gy G 0, 10, .inl (sI S 6))), (a 8, .inl (gy G 0, 10, .inl (sI S 7))), (a 9, .inr (1, [.int (nI ((sB S).length)), .ref (a 10)])), (a 10, .inl (gy G 0, 144, .inl gb)), (a 11, .inr (6, [.int (nI ((sW S).length)), .ref (a 12)])), (a 12, .inl (gy G 0, 10, .inl gw)), (a 13, .inl (gy G 0, 5, .inl (sI S 8))), (a 14, .inl (gy G 0, 6, .inl (fun j => nI (sS S j))))] 0 0 := by
  refine g_enterIe (ty := .boolean) RX2 rfl (by decide) rfl (Nat.le_of_ble_eq_true rfl) ?_
  intro V E RET
  have hX := hI
  obtain ⟨hP8, hn, hw, hW8, hs3, hs4, hs5, hs6, hs7, hs8, hb34⟩ := hX
  have h8 : ∀ j, j < (sW S).length → wq (sW S) j < 80 := fun j hj => (hW8 j hj).1
  refine g_iload_n E dX2_isBanned_0 rfl 1 rfl ?_
  refine g_callSIe (F := [(a 0, .inr (3, [.int (nI (sN S 0)), .int (nI (sN S 1)), .ref (a 1), .ref (a 2), .ref (a 3), .ref (a 4), .ref (a 5), .ref (a 6), .ref (a 7), .ref (a 8), .int (sI S 9 0), .ref (a 9), .ref (a 11), .ref (a 13), .ref (a 14)])), (a 1, .inl (gy G 0, 8, .inl (sI S 0))), (a 2, .inl (gy G 0, 8, .inl (sI S 1))), (a 3, .inl (gy G 0, 8, .inl (sI S 2))), (a 4, .inl (gy G 0, 8, .inl (sI S 3))), (a 5, .inl (gy G 0, 8, .inl (sI S 4))), (a 6, .inl (gy G 0, 8, .inl (sI S 5))), (a 7, .inl (gy G 0, 10, .inl (sI S 6))), (a 8, .inl (gy G 0, 10, .inl (sI S 7))), (a 9, .inr (1, [.int (nI ((sB S).length)), .ref (a 10)])), (a 10, .inl (gy G 0, 144, .inl gb)), (a 11, .inr (6, [.int (nI ((sW S).length)), .ref (a 12)])), (a 12, .inl (gy G 0, 10, .inl gw)), (a 13, .inl (gy G 0, 5, .inl (sI S 8))), (a 14, .inl (gy G 0, 6, .inl (fun j => nI (sS S j))))]) (ws2 := [(a 0, .inr (3, [.int (nI (sN S 0)), .int (nI (sN S 1)), .ref (a 1), .ref (a 2), .ref (a 3), .ref (a 4), .ref (a 5), .ref (a 6), .ref (a 7), .ref (a 8), .int (sI S 9 0), .ref (a 9), .ref (a 11), .ref (a 13), .ref (a 14)])), (a 1, .inl (gy G 0, 8, .inl (sI S 0))), (a 2, .inl (gy G 0, 8, .inl (sI S 1))), (a 3, .inl (gy G 0, 8, .inl (sI S 2))), (a 4, .inl (gy G 0, 8, .inl (sI S 3))), (a 5, .inl (gy G 0, 8, .inl (sI S 4))), (a 6, .inl (gy G 0, 8, .inl (sI S 5))), (a 7, .inl (gy G 0, 10, .inl (sI S 6))), (a 8, .inl (gy G 0, 10, .inl (sI S 7))), (a 9, .inr (1, [.int (nI ((sB S).length)), .ref (a 10)])), (a 10, .inl (gy G 0, 144, .inl gb)), (a 11, .inr (6, [.int (nI ((sW S).length)), .ref (a 12)])), (a 12, .inl (gy G 0, 10, .inl gw)), (a 13, .inl (gy G 0, 5, .inl (sI S 8))), (a 14, .inl (gy G 0, 6, .inl (fun j => nI (sS S j))))]) E (g_resI (gHas_v (by omega)) (mX2_hasVisitor G (nI v))) gX2_isBanned_X2_hasVisitor rfl hnX2_hasVisitor ⟨Nat.le_of_ble_eq_true rfl, Nat.le_of_ble_eq_true rfl⟩ (gPerm_ix [0, 1, 2, 3, 4, 5, 6, 7, 8, 9, 10, 11, 12, 13, 14] rfl rfl) rfl rfl (Nat.le_of_ble_eq_true rfl) dX2_isBanned_1 ⟨Nat.le_of_ble_eq_true rfl, Nat.le_of_ble_eq_true rfl⟩ (gPerm_ix [0, 1, 2, 3, 4, 5, 6, 7, 8, 9, 10, 11, 12, 13, 14] rfl rfl) ?_
  refine g_if_eq (tgt := 21) E dX2_isBanned_4 (by decide) (fun c => absurd c (by decide)) (fun _ => ?_)
  refine g_iload_n E dX2_isBanned_7 rfl 2 rfl ?_
  refine g_aload_n E dX2_isBanned_8 rfl 0 rfl ?_
  refine g_get E uX2_isBanned_RX2 0 rfl rfl 9 (by decide) kX2_isBanned_33 rfl rfl dX2_isBanned_9 ?_
  refine g_iload_n E dX2_isBanned_12 rfl 1 rfl ?_
  refine g_ialdN (e := v) E 8 rfl (by omega) rfl (v := (sI S 7) v) rfl dX2_isBanned_13 ?_
  refine g_icmp_ge (tgt := 21) E dX2_isBanned_14 (by decide) (fun c1 => ?_) (fun c1 => ?_)
  · skip
    refine g_iconst (v := 0) E dX2_isBanned_21 (by decide) ?_
    exact RET _ _ _ () (by simp [c1]) rfl dX2_isBanned_22
  · skip
    refine g_iconst (v := 1) E dX2_isBanned_17 (by decide) ?_
    refine g_goto (tgt := 22) E dX2_isBanned_18 (by decide) ?_
    exact RET _ _ _ () (by simp [c1]) rfl dX2_isBanned_22
set_option maxHeartbeats 4000000 in
set_option maxRecDepth 100000 in
theorem mX2_reasonOnDay (G : gG) (a : Nat → Nat) (S : gSt) (gb gw : Nat → Int32) (p v d : Nat) (hI : gI1 S) (hT : sN S 0 < 1000000000) (hR : RB (sB S) gb) (hQ : RW (sW S) gw) (hp : p < sN S 1) (hv : v < 10) (hd : d < 1073741824) : CIe G yX2_reasonOnDay wsX2_reasonOnDay 1 60 [.ref (a 0), .int (nI p), .int (nI v), .int (nI d)] [(a 0, .inr (3, [.int (nI (sN S 0)), .int (nI (sN S 1)), .ref (a 1), .ref (a 2), .ref (a 3), .ref (a 4), .ref (a 5), .ref (a 6), .ref (a 7), .ref (a 8), .int (sI S 9 0), .ref (a 9), .ref (a 11), .ref (a 13), .ref (a 14)])), (a 1, .inl (gy G 0, 8, .inl (sI S 0))), (a 2, .inl (gy G 0, 8, .inl (sI S 1))), (a 3, .inl (gy G 0, 8, .inl (sI S 2))), (a 4, .inl (gy G 0, 8, .inl (sI S 3))), (a 5, .inl (gy G 0, 8, .inl (sI S 4))), (a 6, .inl (gy G 0, 8, .inl (sI S 5))), (a 7, .inl (gy G 0, 10, .inl (sI S 6))), (a 8, .inl (gy G 0, 10, .inl (sI S 7))), (a 9, .inr (1, [.int (nI ((sB S).length)), .ref (a 10)])), (a 10, .inl (gy G 0, 144, .inl gb)), (a 11, .inr (6, [.int (nI ((sW S).length)), .ref (a 12)])), (a 12, .inl (gy G 0, 10, .inl gw)), (a 13, .inl (gy G 0, 5, .inl (sI S 8))), (a 14, .inl (gy G 0, 6, .inl (fun j => nI (sS S j))))] (nI (gROD S p v d)) [(a 0, .inr (3, [.int (nI (sN S 0)), .int (nI (sN S 1)), .ref (a 1), .ref (a 2), .ref (a 3), .ref (a 4), .ref (a 5), .ref (a 6), .ref (a 7), .ref (a 8), .int (sI S 9 0), .ref (a 9), .ref (a 11), .ref (a 13), .ref (a 14)])), (a 1, .inl (gy G 0, 8, .inl (sI S 0))), (a 2, .inl (gy G 0, 8, .inl (sI S 1))), (a 3, .inl (gy G 0, 8, .inl (sI S 2))), (a 4, .inl (gy G 0, 8, .inl (sI S 3))), (a 5, .inl (gy G 0, 8, .inl (sI S 4))), (a 6, .inl (gy G 0, 8, .inl (sI S 5))), (a 7, .inl (gy G 0, 10, .inl (sI S 6))), (a 8, .inl (gy G 0, 10, .inl (sI S 7))), (a 9, .inr (1, [.int (nI ((sB S).length)), .ref (a 10)])), (a 10, .inl (gy G 0, 144, .inl gb)), (a 11, .inr (6, [.int (nI ((sW S).length)), .ref (a 12)])), (a 12, .inl (gy G 0, 10, .inl gw)), (a 13, .inl (gy G 0, 5, .inl (sI S 8))), (a 14, .inl (gy G 0, 6, .inl (fun j => nI (sS S j))))] 0 0 := by
  refine g_enterIe (ty := .int) RX2 rfl (by decide) rfl (Nat.le_of_ble_eq_true rfl) ?_
  intro V E RET
  have hX := hI
  obtain ⟨hP8, hn, hw, hW8, hs3, hs4, hs5, hs6, hs7, hs8, hb34⟩ := hX
  have h8 : ∀ j, j < (sW S).length → wq (sW S) j < 80 := fun j hj => (hW8 j hj).1
  refine g_aload_n E dX2_reasonOnDay_0 rfl 0 rfl ?_
  refine g_iload_n E dX2_reasonOnDay_1 rfl 1 rfl ?_
  refine g_callVIe (F := []) (ws2 := [(a 0, .inr (3, [.int (nI (sN S 0)), .int (nI (sN S 1)), .ref (a 1), .ref (a 2), .ref (a 3), .ref (a 4), .ref (a 5), .ref (a 6), .ref (a 7), .ref (a 8), .int (sI S 9 0), .ref (a 9), .ref (a 11), .ref (a 13), .ref (a 14)])), (a 1, .inl (gy G 0, 8, .inl (sI S 0))), (a 2, .inl (gy G 0, 8, .inl (sI S 1))), (a 3, .inl (gy G 0, 8, .inl (sI S 2))), (a 4, .inl (gy G 0, 8, .inl (sI S 3))), (a 5, .inl (gy G 0, 8, .inl (sI S 4))), (a 6, .inl (gy G 0, 8, .inl (sI S 5))), (a 7, .inl (gy G 0, 10, .inl (sI S 6))), (a 8, .inl (gy G 0, 10, .inl (sI S 7))), (a 9, .inr (1, [.int (nI ((sB S).length)), .ref (a 10)])), (a 10, .inl (gy G 0, 144, .inl gb)), (a 11, .inr (6, [.int (nI ((sW S).length)), .ref (a 12)])), (a 12, .inl (gy G 0, 10, .inl gw)), (a 13, .inl (gy G 0, 5, .inl (sI S 8))), (a 14, .inl (gy G 0, 6, .inl (fun j => nI (sS S j))))]) E (g_resI (gHas_in (by omega) (by omega)) (mX2_hasPrisoner G a S gb gw (nI p) hI hT hR hQ)) gX2_reasonOnDay_X2_hasPrisoner rfl hdX2_hasPrisoner ⟨Nat.le_of_ble_eq_true rfl, Nat.le_of_ble_eq_true rfl⟩ 3 0 rfl rfl rfl (gPerm_ix [0, 1, 2, 3, 4, 5, 6, 7, 8, 9, 10, 11, 12, 13, 14] rfl rfl) rfl rfl (Nat.le_of_ble_eq_true rfl) dX2_reasonOnDay_2 ⟨Nat.le_of_ble_eq_true rfl, Nat.le_of_ble_eq_true rfl⟩ (gPerm_ix [0, 1, 2, 3, 4, 5, 6, 7, 8, 9, 10, 11, 12, 13, 14] rfl rfl) ?_
  refine g_if_eq (tgt := 28) E dX2_reasonOnDay_5 (by decide) (fun c => absurd c (by decide)) (fun _ => ?_)
  refine g_iload_n E dX2_reasonOnDay_8 rfl 2 rfl ?_
  refine g_callSIe (F := [(a 0, .inr (3, [.int (nI (sN S 0)), .int (nI (sN S 1)), .ref (a 1), .ref (a 2), .ref (a 3), .ref (a 4), .ref (a 5), .ref (a 6), .ref (a 7), .ref (a 8), .int (sI S 9 0), .ref (a 9), .ref (a 11), .ref (a 13), .ref (a 14)])), (a 1, .inl (gy G 0, 8, .inl (sI S 0))), (a 2, .inl (gy G 0, 8, .inl (sI S 1))), (a 3, .inl (gy G 0, 8, .inl (sI S 2))), (a 4, .inl (gy G 0, 8, .inl (sI S 3))), (a 5, .inl (gy G 0, 8, .inl (sI S 4))), (a 6, .inl (gy G 0, 8, .inl (sI S 5))), (a 7, .inl (gy G 0, 10, .inl (sI S 6))), (a 8, .inl (gy G 0, 10, .inl (sI S 7))), (a 9, .inr (1, [.int (nI ((sB S).length)), .ref (a 10)])), (a 10, .inl (gy G 0, 144, .inl gb)), (a 11, .inr (6, [.int (nI ((sW S).length)), .ref (a 12)])), (a 12, .inl (gy G 0, 10, .inl gw)), (a 13, .inl (gy G 0, 5, .inl (sI S 8))), (a 14, .inl (gy G 0, 6, .inl (fun j => nI (sS S j))))]) (ws2 := [(a 0, .inr (3, [.int (nI (sN S 0)), .int (nI (sN S 1)), .ref (a 1), .ref (a 2), .ref (a 3), .ref (a 4), .ref (a 5), .ref (a 6), .ref (a 7), .ref (a 8), .int (sI S 9 0), .ref (a 9), .ref (a 11), .ref (a 13), .ref (a 14)])), (a 1, .inl (gy G 0, 8, .inl (sI S 0))), (a 2, .inl (gy G 0, 8, .inl (sI S 1))), (a 3, .inl (gy G 0, 8, .inl (sI S 2))), (a 4, .inl (gy G 0, 8, .inl (sI S 3))), (a 5, .inl (gy G 0, 8, .inl (sI S 4))), (a 6, .inl (gy G 0, 8, .inl (sI S 5))), (a 7, .inl (gy G 0, 10, .inl (sI S 6))), (a 8, .inl (gy G 0, 10, .inl (sI S 7))), (a 9, .inr (1, [.int (nI ((sB S).length)), .ref (a 10)])), (a 10, .inl (gy G 0, 144, .inl gb)), (a 11, .inr (6, [.int (nI ((sW S).length)), .ref (a 12)])), (a 12, .inl (gy G 0, 10, .inl gw)), (a 13, .inl (gy G 0, 5, .inl (sI S 8))), (a 14, .inl (gy G 0, 6, .inl (fun j => nI (sS S j))))]) E (g_resI (gHas_v (by omega)) (mX2_hasVisitor G (nI v))) gX2_reasonOnDay_X2_hasVisitor rfl hnX2_hasVisitor ⟨Nat.le_of_ble_eq_true rfl, Nat.le_of_ble_eq_true rfl⟩ (gPerm_ix [0, 1, 2, 3, 4, 5, 6, 7, 8, 9, 10, 11, 12, 13, 14] rfl rfl) rfl rfl (Nat.le_of_ble_eq_true rfl) dX2_reasonOnDay_9 ⟨Nat.le_of_ble_eq_true rfl, Nat.le_of_ble_eq_true rfl⟩ (gPerm_ix [0, 1, 2, 3, 4, 5, 6, 7, 8, 9, 10, 11, 12, 13, 14] rfl rfl) ?_
  refine g_if_eq (tgt := 28) E dX2_reasonOnDay_12 (by decide) (fun c => absurd c (by decide)) (fun _ => ?_)
  refine g_aload_n E dX2_reasonOnDay_15 rfl 0 rfl ?_
  refine g_get E uX2_reasonOnDay_RX2 0 rfl rfl 3 (by decide) kX2_reasonOnDay_15 rfl rfl dX2_reasonOnDay_16 ?_
  refine g_iload_n E dX2_reasonOnDay_19 rfl 1 rfl ?_
  refine g_ialdN (e := p) E 2 rfl (by omega) rfl (v := (sI S 1) p) rfl dX2_reasonOnDay_20 ?_
  refine g_iload_n E dX2_reasonOnDay_21 rfl 2 rfl ?_
  refine g_callSNIe (F := [(a 0, .inr (3, [.int (nI (sN S 0)), .int (nI (sN S 1)), .ref (a 1), .ref (a 2), .ref (a 3), .ref (a 4), .ref (a 5), .ref (a 6), .ref (a 7), .ref (a 8), .int (sI S 9 0), .ref (a 9), .ref (a 11), .ref (a 13), .ref (a 14)])), (a 1, .inl (gy G 0, 8, .inl (sI S 0))), (a 2, .inl (gy G 0, 8, .inl (sI S 1))), (a 3, .inl (gy G 0, 8, .inl (sI S 2))), (a 4, .inl (gy G 0, 8, .inl (sI S 3))), (a 5, .inl (gy G 0, 8, .inl (sI S 4))), (a 6, .inl (gy G 0, 8, .inl (sI S 5))), (a 7, .inl (gy G 0, 10, .inl (sI S 6))), (a 8, .inl (gy G 0, 10, .inl (sI S 7))), (a 9, .inr (1, [.int (nI ((sB S).length)), .ref (a 10)])), (a 10, .inl (gy G 0, 144, .inl gb)), (a 11, .inr (6, [.int (nI ((sW S).length)), .ref (a 12)])), (a 12, .inl (gy G 0, 10, .inl gw)), (a 13, .inl (gy G 0, 5, .inl (sI S 8))), (a 14, .inl (gy G 0, 6, .inl (fun j => nI (sS S j))))]) (ws2 := [(a 0, .inr (3, [.int (nI (sN S 0)), .int (nI (sN S 1)), .ref (a 1), .ref (a 2), .ref (a 3), .ref (a 4), .ref (a 5), .ref (a 6), .ref (a 7), .ref (a 8), .int (sI S 9 0), .ref (a 9), .ref (a 11), .ref (a 13), .ref (a 14)])), (a 1, .inl (gy G 0, 8, .inl (sI S 0))), (a 2, .inl (gy G 0, 8, .inl (sI S 1))), (a 3, .inl (gy G 0, 8, .inl (sI S 2))), (a 4, .inl (gy G 0, 8, .inl (sI S 3))), (a 5, .inl (gy G 0, 8, .inl (sI S 4))), (a 6, .inl (gy G 0, 8, .inl (sI S 5))), (a 7, .inl (gy G 0, 10, .inl (sI S 6))), (a 8, .inl (gy G 0, 10, .inl (sI S 7))), (a 9, .inr (1, [.int (nI ((sB S).length)), .ref (a 10)])), (a 10, .inl (gy G 0, 144, .inl gb)), (a 11, .inr (6, [.int (nI ((sW S).length)), .ref (a 12)])), (a 12, .inl (gy G 0, 10, .inl gw)), (a 13, .inl (gy G 0, 5, .inl (sI S 8))), (a 14, .inl (gy G 0, 6, .inl (fun j => nI (sS S j))))]) E (mX7_hasBit G ((sI S 1) p) (nI v)) gX2_reasonOnDay_X7_hasBit_n115 (by decide +kernel) (g_nest (h := "VisitHours") E (by decide +kernel)) (by decide +kernel) rfl hnX7_hasBit ⟨Nat.le_of_ble_eq_true rfl, Nat.le_of_ble_eq_true rfl⟩ (gPerm_ix [0, 1, 2, 3, 4, 5, 6, 7, 8, 9, 10, 11, 12, 13, 14] rfl rfl) rfl rfl (Nat.le_of_ble_eq_true rfl) dX2_reasonOnDay_22 ⟨Nat.le_of_ble_eq_true rfl, Nat.le_of_ble_eq_true rfl⟩ (gPerm_ix [0, 1, 2, 3, 4, 5, 6, 7, 8, 9, 10, 11, 12, 13, 14] rfl rfl) ?_
  refine g_if_neB (tgt := 30) (P := gHb ((sI S 1) p) (nI v) = true) E dX2_reasonOnDay_25 (by decide) (fun c1 => ?_) (fun c1 => ?_)
  · skip
    refine g_iload_n E dX2_reasonOnDay_30 rfl 3 rfl ?_
    refine g_aload_n E dX2_reasonOnDay_31 rfl 0 rfl ?_
    refine g_get E uX2_reasonOnDay_RX2 0 rfl rfl 4 (by decide) kX2_reasonOnDay_18 rfl rfl dX2_reasonOnDay_32 ?_
    refine g_iload_n E dX2_reasonOnDay_35 rfl 1 rfl ?_
    refine g_ialdN (e := p) E 3 rfl (by omega) rfl (v := (sI S 2) p) rfl dX2_reasonOnDay_36 ?_
    refine g_icmp_ge (tgt := 42) E dX2_reasonOnDay_37 (by decide) (fun c2 => ?_) (fun c2 => ?_)
    · skip
      refine g_iload_n E dX2_reasonOnDay_42 rfl 3 rfl ?_
      refine g_aload_n E dX2_reasonOnDay_43 rfl 0 rfl ?_
      refine g_get E uX2_reasonOnDay_RX2 0 rfl rfl 9 (by decide) kX2_reasonOnDay_33 rfl rfl dX2_reasonOnDay_44 ?_
      refine g_iload_n E dX2_reasonOnDay_47 rfl 2 rfl ?_
      refine g_ialdN (e := v) E 8 rfl (by omega) rfl (v := (sI S 7) v) rfl dX2_reasonOnDay_48 ?_
      refine g_icmp_ge (tgt := 54) E dX2_reasonOnDay_49 (by decide) (fun c3 => ?_) (fun c3 => ?_)
      · skip
        refine g_iload_n E dX2_reasonOnDay_54 rfl 3 rfl ?_
        refine g_callSIe (F := [(a 0, .inr (3, [.int (nI (sN S 0)), .int (nI (sN S 1)), .ref (a 1), .ref (a 2), .ref (a 3), .ref (a 4), .ref (a 5), .ref (a 6), .ref (a 7), .ref (a 8), .int (sI S 9 0), .ref (a 9), .ref (a 11), .ref (a 13), .ref (a 14)])), (a 1, .inl (gy G 0, 8, .inl (sI S 0))), (a 2, .inl (gy G 0, 8, .inl (sI S 1))), (a 3, .inl (gy G 0, 8, .inl (sI S 2))), (a 4, .inl (gy G 0, 8, .inl (sI S 3))), (a 5, .inl (gy G 0, 8, .inl (sI S 4))), (a 6, .inl (gy G 0, 8, .inl (sI S 5))), (a 7, .inl (gy G 0, 10, .inl (sI S 6))), (a 8, .inl (gy G 0, 10, .inl (sI S 7))), (a 9, .inr (1, [.int (nI ((sB S).length)), .ref (a 10)])), (a 10, .inl (gy G 0, 144, .inl gb)), (a 11, .inr (6, [.int (nI ((sW S).length)), .ref (a 12)])), (a 12, .inl (gy G 0, 10, .inl gw)), (a 13, .inl (gy G 0, 5, .inl (sI S 8))), (a 14, .inl (gy G 0, 6, .inl (fun j => nI (sS S j))))]) (ws2 := [(a 0, .inr (3, [.int (nI (sN S 0)), .int (nI (sN S 1)), .ref (a 1), .ref (a 2), .ref (a 3), .ref (a 4), .ref (a 5), .ref (a 6), .ref (a 7), .ref (a 8), .int (sI S 9 0), .ref (a 9), .ref (a 11), .ref (a 13), .ref (a 14)])), (a 1, .inl (gy G 0, 8, .inl (sI S 0))), (a 2, .inl (gy G 0, 8, .inl (sI S 1))), (a 3, .inl (gy G 0, 8, .inl (sI S 2))), (a 4, .inl (gy G 0, 8, .inl (sI S 3))), (a 5, .inl (gy G 0, 8, .inl (sI S 4))), (a 6, .inl (gy G 0, 8, .inl (sI S 5))), (a 7, .inl (gy G 0, 10, .inl (sI S 6))), (a 8, .inl (gy G 0, 10, .inl (sI S 7))), (a 9, .inr (1, [.int (nI ((sB S).length)), .ref (a 10)])), (a 10, .inl (gy G 0, 144, .inl gb)), (a 11, .inr (6, [.int (nI ((sW S).length)), .ref (a 12)])), (a 12, .inl (gy G 0, 10, .inl gw)), (a 13, .inl (gy G 0, 5, .inl (sI S 8))), (a 14, .inl (gy G 0, 6, .inl (fun j => nI (sS S j))))]) E (mX2_weekOf G d (by omega)) gX2_reasonOnDay_X2_weekOf rfl hnX2_weekOf ⟨Nat.le_of_ble_eq_true rfl, Nat.le_of_ble_eq_true rfl⟩ (gPerm_ix [0, 1, 2, 3, 4, 5, 6, 7, 8, 9, 10, 11, 12, 13, 14] rfl rfl) rfl rfl (Nat.le_of_ble_eq_true rfl) dX2_reasonOnDay_55 ⟨Nat.le_of_ble_eq_true rfl, Nat.le_of_ble_eq_true rfl⟩ (gPerm_ix [0, 1, 2, 3, 4, 5, 6, 7, 8, 9, 10, 11, 12, 13, 14] rfl rfl) ?_
        refine g_aload_n E dX2_reasonOnDay_58 rfl 0 rfl ?_
        refine g_get E uX2_reasonOnDay_RX2 0 rfl rfl 0 (by decide) kX2_reasonOnDay_64 rfl rfl dX2_reasonOnDay_59 ?_
        refine g_callSIe (F := [(a 0, .inr (3, [.int (nI (sN S 0)), .int (nI (sN S 1)), .ref (a 1), .ref (a 2), .ref (a 3), .ref (a 4), .ref (a 5), .ref (a 6), .ref (a 7), .ref (a 8), .int (sI S 9 0), .ref (a 9), .ref (a 11), .ref (a 13), .ref (a 14)])), (a 1, .inl (gy G 0, 8, .inl (sI S 0))), (a 2, .inl (gy G 0, 8, .inl (sI S 1))), (a 3, .inl (gy G 0, 8, .inl (sI S 2))), (a 4, .inl (gy G 0, 8, .inl (sI S 3))), (a 5, .inl (gy G 0, 8, .inl (sI S 4))), (a 6, .inl (gy G 0, 8, .inl (sI S 5))), (a 7, .inl (gy G 0, 10, .inl (sI S 6))), (a 8, .inl (gy G 0, 10, .inl (sI S 7))), (a 9, .inr (1, [.int (nI ((sB S).length)), .ref (a 10)])), (a 10, .inl (gy G 0, 144, .inl gb)), (a 11, .inr (6, [.int (nI ((sW S).length)), .ref (a 12)])), (a 12, .inl (gy G 0, 10, .inl gw)), (a 13, .inl (gy G 0, 5, .inl (sI S 8))), (a 14, .inl (gy G 0, 6, .inl (fun j => nI (sS S j))))]) (ws2 := [(a 0, .inr (3, [.int (nI (sN S 0)), .int (nI (sN S 1)), .ref (a 1), .ref (a 2), .ref (a 3), .ref (a 4), .ref (a 5), .ref (a 6), .ref (a 7), .ref (a 8), .int (sI S 9 0), .ref (a 9), .ref (a 11), .ref (a 13), .ref (a 14)])), (a 1, .inl (gy G 0, 8, .inl (sI S 0))), (a 2, .inl (gy G 0, 8, .inl (sI S 1))), (a 3, .inl (gy G 0, 8, .inl (sI S 2))), (a 4, .inl (gy G 0, 8, .inl (sI S 3))), (a 5, .inl (gy G 0, 8, .inl (sI S 4))), (a 6, .inl (gy G 0, 8, .inl (sI S 5))), (a 7, .inl (gy G 0, 10, .inl (sI S 6))), (a 8, .inl (gy G 0, 10, .inl (sI S 7))), (a 9, .inr (1, [.int (nI ((sB S).length)), .ref (a 10)])), (a 10, .inl (gy G 0, 144, .inl gb)), (a 11, .inr (6, [.int (nI ((sW S).length)), .ref (a 12)])), (a 12, .inl (gy G 0, 10, .inl gw)), (a 13, .inl (gy G 0, 5, .inl (sI S 8))), (a 14, .inl (gy G 0, 6, .inl (fun j => nI (sS S j))))]) E (mX2_weekOf G (sN S 0) (by omega)) gX2_reasonOnDay_X2_weekOf rfl hnX2_weekOf ⟨Nat.le_of_ble_eq_true rfl, Nat.le_of_ble_eq_true rfl⟩ (gPerm_ix [0, 1, 2, 3, 4, 5, 6, 7, 8, 9, 10, 11, 12, 13, 14] rfl rfl) rfl rfl (Nat.le_of_ble_eq_true rfl) dX2_reasonOnDay_62 ⟨Nat.le_of_ble_eq_true rfl, Nat.le_of_ble_eq_true rfl⟩ (gPerm_ix [0, 1, 2, 3, 4, 5, 6, 7, 8, 9, 10, 11, 12, 13, 14] rfl rfl) ?_
        refine g_icmp_neN (tgt := 77) (a := d / 7) (b := (sN S 0) / 7) E dX2_reasonOnDay_65 (by decide) (by omega) (by omega) (fun c4 => ?_) (fun c4 => ?_)
        · skip
          refine g_iconst (v := 0) E dX2_reasonOnDay_77 (by decide) ?_
          refine g_istore (lv' := [(4, .int 0), (0, .ref (a 0)), (1, .int (nI p)), (2, .int (nI v)), (3, .int (nI d))]) E dX2_reasonOnDay_78 (by decide) rfl ?_
          refine g_iload E dX2_reasonOnDay_80 0 rfl ?_
          refine g_aload_n E dX2_reasonOnDay_82 rfl 1 rfl ?_
          refine g_get E uX2_reasonOnDay_RX2 0 rfl rfl 11 (by decide) kX2_reasonOnDay_39 rfl rfl dX2_reasonOnDay_83 ?_
          refine g_iload_n E dX2_reasonOnDay_86 rfl 2 rfl ?_
          refine g_iload_n E dX2_reasonOnDay_87 rfl 4 rfl ?_
          refine g_callSIe (F := [(a 0, .inr (3, [.int (nI (sN S 0)), .int (nI (sN S 1)), .ref (a 1), .ref (a 2), .ref (a 3), .ref (a 4), .ref (a 5), .ref (a 6), .ref (a 7), .ref (a 8), .int (sI S 9 0), .ref (a 9), .ref (a 11), .ref (a 13), .ref (a 14)])), (a 1, .inl (gy G 0, 8, .inl (sI S 0))), (a 2, .inl (gy G 0, 8, .inl (sI S 1))), (a 3, .inl (gy G 0, 8, .inl (sI S 2))), (a 4, .inl (gy G 0, 8, .inl (sI S 3))), (a 5, .inl (gy G 0, 8, .inl (sI S 4))), (a 6, .inl (gy G 0, 8, .inl (sI S 5))), (a 7, .inl (gy G 0, 10, .inl (sI S 6))), (a 8, .inl (gy G 0, 10, .inl (sI S 7))), (a 9, .inr (1, [.int (nI ((sB S).length)), .ref (a 10)])), (a 10, .inl (gy G 0, 144, .inl gb)), (a 11, .inr (6, [.int (nI ((sW S).length)), .ref (a 12)])), (a 12, .inl (gy G 0, 10, .inl gw)), (a 13, .inl (gy G 0, 5, .inl (sI S 8))), (a 14, .inl (gy G 0, 6, .inl (fun j => nI (sS S j))))]) (ws2 := [(a 0, .inr (3, [.int (nI (sN S 0)), .int (nI (sN S 1)), .ref (a 1), .ref (a 2), .ref (a 3), .ref (a 4), .ref (a 5), .ref (a 6), .ref (a 7), .ref (a 8), .int (sI S 9 0), .ref (a 9), .ref (a 11), .ref (a 13), .ref (a 14)])), (a 1, .inl (gy G 0, 8, .inl (sI S 0))), (a 2, .inl (gy G 0, 8, .inl (sI S 1))), (a 3, .inl (gy G 0, 8, .inl (sI S 2))), (a 4, .inl (gy G 0, 8, .inl (sI S 3))), (a 5, .inl (gy G 0, 8, .inl (sI S 4))), (a 6, .inl (gy G 0, 8, .inl (sI S 5))), (a 7, .inl (gy G 0, 10, .inl (sI S 6))), (a 8, .inl (gy G 0, 10, .inl (sI S 7))), (a 9, .inr (1, [.int (nI ((sB S).length)), .ref (a 10)])), (a 10, .inl (gy G 0, 144, .inl gb)), (a 11, .inr (6, [.int (nI ((sW S).length)), .ref (a 12)])), (a 12, .inl (gy G 0, 10, .inl gw)), (a 13, .inl (gy G 0, 5, .inl (sI S 8))), (a 14, .inl (gy G 0, 6, .inl (fun j => nI (sS S j))))]) E (mX2_weekOf G d (by omega)) gX2_reasonOnDay_X2_weekOf rfl hnX2_weekOf ⟨Nat.le_of_ble_eq_true rfl, Nat.le_of_ble_eq_true rfl⟩ (gPerm_ix [0, 1, 2, 3, 4, 5, 6, 7, 8, 9, 10, 11, 12, 13, 14] rfl rfl) rfl rfl (Nat.le_of_ble_eq_true rfl) dX2_reasonOnDay_88 ⟨Nat.le_of_ble_eq_true rfl, Nat.le_of_ble_eq_true rfl⟩ (gPerm_ix [0, 1, 2, 3, 4, 5, 6, 7, 8, 9, 10, 11, 12, 13, 14] rfl rfl) ?_
          refine g_callVIe (F := [(a 0, .inr (3, [.int (nI (sN S 0)), .int (nI (sN S 1)), .ref (a 1), .ref (a 2), .ref (a 3), .ref (a 4), .ref (a 5), .ref (a 6), .ref (a 7), .ref (a 8), .int (sI S 9 0), .ref (a 9), .ref (a 11), .ref (a 13), .ref (a 14)])), (a 1, .inl (gy G 0, 8, .inl (sI S 0))), (a 2, .inl (gy G 0, 8, .inl (sI S 1))), (a 3, .inl (gy G 0, 8, .inl (sI S 2))), (a 4, .inl (gy G 0, 8, .inl (sI S 3))), (a 5, .inl (gy G 0, 8, .inl (sI S 4))), (a 6, .inl (gy G 0, 8, .inl (sI S 5))), (a 7, .inl (gy G 0, 10, .inl (sI S 6))), (a 8, .inl (gy G 0, 10, .inl (sI S 7))), (a 11, .inr (6, [.int (nI ((sW S).length)), .ref (a 12)])), (a 12, .inl (gy G 0, 10, .inl gw)), (a 13, .inl (gy G 0, 5, .inl (sI S 8))), (a 14, .inl (gy G 0, 6, .inl (fun j => nI (sS S j))))]) (ws2 := [(a 0, .inr (3, [.int (nI (sN S 0)), .int (nI (sN S 1)), .ref (a 1), .ref (a 2), .ref (a 3), .ref (a 4), .ref (a 5), .ref (a 6), .ref (a 7), .ref (a 8), .int (sI S 9 0), .ref (a 9), .ref (a 11), .ref (a 13), .ref (a 14)])), (a 1, .inl (gy G 0, 8, .inl (sI S 0))), (a 2, .inl (gy G 0, 8, .inl (sI S 1))), (a 3, .inl (gy G 0, 8, .inl (sI S 2))), (a 4, .inl (gy G 0, 8, .inl (sI S 3))), (a 5, .inl (gy G 0, 8, .inl (sI S 4))), (a 6, .inl (gy G 0, 8, .inl (sI S 5))), (a 7, .inl (gy G 0, 10, .inl (sI S 6))), (a 8, .inl (gy G 0, 10, .inl (sI S 7))), (a 9, .inr (1, [.int (nI ((sB S).length)), .ref (a 10)])), (a 10, .inl (gy G 0, 144, .inl gb)), (a 11, .inr (6, [.int (nI ((sW S).length)), .ref (a 12)])), (a 12, .inl (gy G 0, 10, .inl gw)), (a 13, .inl (gy G 0, 5, .inl (sI S 8))), (a 14, .inl (gy G 0, 6, .inl (fun j => nI (sS S j))))]) E (mX0_countInWeek G (a 9) (a 10) (sB S) gb p (d / 7) hn hR (by omega) (by omega)) gX2_reasonOnDay_X0_countInWeek rfl hdX0_countInWeek ⟨Nat.le_of_ble_eq_true rfl, Nat.le_of_ble_eq_true rfl⟩ 1 0 rfl rfl rfl (gPerm_ix [9, 10, 0, 1, 2, 3, 4, 5, 6, 7, 8, 11, 12, 13, 14] rfl rfl) rfl rfl (Nat.le_of_ble_eq_true rfl) dX2_reasonOnDay_91 ⟨Nat.le_of_ble_eq_true rfl, Nat.le_of_ble_eq_true rfl⟩ (gPerm_ix [2, 3, 4, 5, 6, 7, 8, 9, 10, 0, 1, 11, 12, 13, 14] rfl rfl) ?_
          refine g_iaddN (a := 0) (b := gCnt (fun k => bk (sB S) k 3 == p && bk (sB S) k 0 / 7 == (d / 7)) (sB S).length) E dX2_reasonOnDay_94 ?_
          refine g_aload_n E dX2_reasonOnDay_95 rfl 1 rfl ?_
          refine g_get E uX2_reasonOnDay_RX2 0 rfl rfl 2 (by decide) kX2_reasonOnDay_11 rfl rfl dX2_reasonOnDay_96 ?_
          refine g_iload_n E dX2_reasonOnDay_99 rfl 2 rfl ?_
          refine g_ialdN (e := p) E 1 rfl (by omega) rfl (v := (sI S 0) p) rfl dX2_reasonOnDay_100 ?_
          refine g_icmp_le (tgt := 108) E dX2_reasonOnDay_101 (by decide) (fun c5 => ?_) (fun c5 => ?_)
          · skip
            refine g_iconst (v := 0) E dX2_reasonOnDay_108 (by decide) ?_
            try simp only [Nat.zero_add] at *
            exact RET _ _ _ () (by first | (simp [gROD, gCW, c1, c2, c3, c4, c5]; done) | (simp [gROD, gCW, c1, c2, c3, c4, c5]; rfl) | (unfold gROD; (first | rw [if_pos c1] | rw [if_neg c1] | skip); (first | rw [if_pos c2] | rw [if_neg c2] | skip); (first | rw [if_pos c3] | rw [if_neg c3] | skip); (first | rw [if_pos c4] | rw [if_neg c4] | skip); (first | rw [if_pos c5] | rw [if_neg c5] | skip); first | rfl | (simp; done) | skip)) rfl dX2_reasonOnDay_109
          · skip
            refine g_iconst (v := 4) E dX2_reasonOnDay_104 (by decide) ?_
            refine g_goto (tgt := 109) E dX2_reasonOnDay_105 (by decide) ?_
            try simp only [Nat.zero_add] at *
            exact RET _ _ _ () (by first | (simp [gROD, gCW, c1, c2, c3, c4, c5]; done) | (simp [gROD, gCW, c1, c2, c3, c4, c5]; rfl) | (unfold gROD; (first | rw [if_pos c1] | rw [if_neg c1] | skip); (first | rw [if_pos c2] | rw [if_neg c2] | skip); (first | rw [if_pos c3] | rw [if_neg c3] | skip); (first | rw [if_pos c4] | rw [if_neg c4] | skip); (first | rw [if_pos c5] | rw [if_neg c5] | skip); first | rfl | (simp; done) | skip)) rfl dX2_reasonOnDay_109
        · skip
          refine g_aload_n E dX2_reasonOnDay_68 rfl 0 rfl ?_
          refine g_get E uX2_reasonOnDay_RX2 0 rfl rfl 6 (by decide) kX2_reasonOnDay_24 rfl rfl dX2_reasonOnDay_69 ?_
          refine g_iload_n E dX2_reasonOnDay_72 rfl 1 rfl ?_
          refine g_ialdN (e := p) E 5 rfl (by omega) rfl (v := (sI S 4) p) rfl dX2_reasonOnDay_73 ?_
          refine g_goto (tgt := 78) E dX2_reasonOnDay_74 (by decide) ?_
          refine g_istore (lv' := [(4, .int ((sI S 4) p)), (0, .ref (a 0)), (1, .int (nI p)), (2, .int (nI v)), (3, .int (nI d))]) E dX2_reasonOnDay_78 (by decide) rfl ?_
          refine g_iload E dX2_reasonOnDay_80 0 rfl ?_
          refine g_aload_n E dX2_reasonOnDay_82 rfl 1 rfl ?_
          refine g_get E uX2_reasonOnDay_RX2 0 rfl rfl 11 (by decide) kX2_reasonOnDay_39 rfl rfl dX2_reasonOnDay_83 ?_
          refine g_iload_n E dX2_reasonOnDay_86 rfl 2 rfl ?_
          refine g_iload_n E dX2_reasonOnDay_87 rfl 4 rfl ?_
          refine g_callSIe (F := [(a 0, .inr (3, [.int (nI (sN S 0)), .int (nI (sN S 1)), .ref (a 1), .ref (a 2), .ref (a 3), .ref (a 4), .ref (a 5), .ref (a 6), .ref (a 7), .ref (a 8), .int (sI S 9 0), .ref (a 9), .ref (a 11), .ref (a 13), .ref (a 14)])), (a 1, .inl (gy G 0, 8, .inl (sI S 0))), (a 2, .inl (gy G 0, 8, .inl (sI S 1))), (a 3, .inl (gy G 0, 8, .inl (sI S 2))), (a 4, .inl (gy G 0, 8, .inl (sI S 3))), (a 5, .inl (gy G 0, 8, .inl (sI S 4))), (a 6, .inl (gy G 0, 8, .inl (sI S 5))), (a 7, .inl (gy G 0, 10, .inl (sI S 6))), (a 8, .inl (gy G 0, 10, .inl (sI S 7))), (a 9, .inr (1, [.int (nI ((sB S).length)), .ref (a 10)])), (a 10, .inl (gy G 0, 144, .inl gb)), (a 11, .inr (6, [.int (nI ((sW S).length)), .ref (a 12)])), (a 12, .inl (gy G 0, 10, .inl gw)), (a 13, .inl (gy G 0, 5, .inl (sI S 8))), (a 14, .inl (gy G 0, 6, .inl (fun j => nI (sS S j))))]) (ws2 := [(a 0, .inr (3, [.int (nI (sN S 0)), .int (nI (sN S 1)), .ref (a 1), .ref (a 2), .ref (a 3), .ref (a 4), .ref (a 5), .ref (a 6), .ref (a 7), .ref (a 8), .int (sI S 9 0), .ref (a 9), .ref (a 11), .ref (a 13), .ref (a 14)])), (a 1, .inl (gy G 0, 8, .inl (sI S 0))), (a 2, .inl (gy G 0, 8, .inl (sI S 1))), (a 3, .inl (gy G 0, 8, .inl (sI S 2))), (a 4, .inl (gy G 0, 8, .inl (sI S 3))), (a 5, .inl (gy G 0, 8, .inl (sI S 4))), (a 6, .inl (gy G 0, 8, .inl (sI S 5))), (a 7, .inl (gy G 0, 10, .inl (sI S 6))), (a 8, .inl (gy G 0, 10, .inl (sI S 7))), (a 9, .inr (1, [.int (nI ((sB S).length)), .ref (a 10)])), (a 10, .inl (gy G 0, 144, .inl gb)), (a 11, .inr (6, [.int (nI ((sW S).length)), .ref (a 12)])), (a 12, .inl (gy G 0, 10, .inl gw)), (a 13, .inl (gy G 0, 5, .inl (sI S 8))), (a 14, .inl (gy G 0, 6, .inl (fun j => nI (sS S j))))]) E (mX2_weekOf G d (by omega)) gX2_reasonOnDay_X2_weekOf rfl hnX2_weekOf ⟨Nat.le_of_ble_eq_true rfl, Nat.le_of_ble_eq_true rfl⟩ (gPerm_ix [0, 1, 2, 3, 4, 5, 6, 7, 8, 9, 10, 11, 12, 13, 14] rfl rfl) rfl rfl (Nat.le_of_ble_eq_true rfl) dX2_reasonOnDay_88 ⟨Nat.le_of_ble_eq_true rfl, Nat.le_of_ble_eq_true rfl⟩ (gPerm_ix [0, 1, 2, 3, 4, 5, 6, 7, 8, 9, 10, 11, 12, 13, 14] rfl rfl) ?_
          refine g_callVIe (F := [(a 0, .inr (3, [.int (nI (sN S 0)), .int (nI (sN S 1)), .ref (a 1), .ref (a 2), .ref (a 3), .ref (a 4), .ref (a 5), .ref (a 6), .ref (a 7), .ref (a 8), .int (sI S 9 0), .ref (a 9), .ref (a 11), .ref (a 13), .ref (a 14)])), (a 1, .inl (gy G 0, 8, .inl (sI S 0))), (a 2, .inl (gy G 0, 8, .inl (sI S 1))), (a 3, .inl (gy G 0, 8, .inl (sI S 2))), (a 4, .inl (gy G 0, 8, .inl (sI S 3))), (a 5, .inl (gy G 0, 8, .inl (sI S 4))), (a 6, .inl (gy G 0, 8, .inl (sI S 5))), (a 7, .inl (gy G 0, 10, .inl (sI S 6))), (a 8, .inl (gy G 0, 10, .inl (sI S 7))), (a 11, .inr (6, [.int (nI ((sW S).length)), .ref (a 12)])), (a 12, .inl (gy G 0, 10, .inl gw)), (a 13, .inl (gy G 0, 5, .inl (sI S 8))), (a 14, .inl (gy G 0, 6, .inl (fun j => nI (sS S j))))]) (ws2 := [(a 0, .inr (3, [.int (nI (sN S 0)), .int (nI (sN S 1)), .ref (a 1), .ref (a 2), .ref (a 3), .ref (a 4), .ref (a 5), .ref (a 6), .ref (a 7), .ref (a 8), .int (sI S 9 0), .ref (a 9), .ref (a 11), .ref (a 13), .ref (a 14)])), (a 1, .inl (gy G 0, 8, .inl (sI S 0))), (a 2, .inl (gy G 0, 8, .inl (sI S 1))), (a 3, .inl (gy G 0, 8, .inl (sI S 2))), (a 4, .inl (gy G 0, 8, .inl (sI S 3))), (a 5, .inl (gy G 0, 8, .inl (sI S 4))), (a 6, .inl (gy G 0, 8, .inl (sI S 5))), (a 7, .inl (gy G 0, 10, .inl (sI S 6))), (a 8, .inl (gy G 0, 10, .inl (sI S 7))), (a 9, .inr (1, [.int (nI ((sB S).length)), .ref (a 10)])), (a 10, .inl (gy G 0, 144, .inl gb)), (a 11, .inr (6, [.int (nI ((sW S).length)), .ref (a 12)])), (a 12, .inl (gy G 0, 10, .inl gw)), (a 13, .inl (gy G 0, 5, .inl (sI S 8))), (a 14, .inl (gy G 0, 6, .inl (fun j => nI (sS S j))))]) E (mX0_countInWeek G (a 9) (a 10) (sB S) gb p (d / 7) hn hR (by omega) (by omega)) gX2_reasonOnDay_X0_countInWeek rfl hdX0_countInWeek ⟨Nat.le_of_ble_eq_true rfl, Nat.le_of_ble_eq_true rfl⟩ 1 0 rfl rfl rfl (gPerm_ix [9, 10, 0, 1, 2, 3, 4, 5, 6, 7, 8, 11, 12, 13, 14] rfl rfl) rfl rfl (Nat.le_of_ble_eq_true rfl) dX2_reasonOnDay_91 ⟨Nat.le_of_ble_eq_true rfl, Nat.le_of_ble_eq_true rfl⟩ (gPerm_ix [2, 3, 4, 5, 6, 7, 8, 9, 10, 0, 1, 11, 12, 13, 14] rfl rfl) ?_
          refine g_iadd E dX2_reasonOnDay_94 ?_
          refine g_aload_n E dX2_reasonOnDay_95 rfl 1 rfl ?_
          refine g_get E uX2_reasonOnDay_RX2 0 rfl rfl 2 (by decide) kX2_reasonOnDay_11 rfl rfl dX2_reasonOnDay_96 ?_
          refine g_iload_n E dX2_reasonOnDay_99 rfl 2 rfl ?_
          refine g_ialdN (e := p) E 1 rfl (by omega) rfl (v := (sI S 0) p) rfl dX2_reasonOnDay_100 ?_
          refine g_icmp_le (tgt := 108) E dX2_reasonOnDay_101 (by decide) (fun c6 => ?_) (fun c6 => ?_)
          · skip
            refine g_iconst (v := 0) E dX2_reasonOnDay_108 (by decide) ?_
            try simp only [Nat.zero_add] at *
            exact RET _ _ _ () (by first | (simp [gROD, gCW, c1, c2, c3, c4, c6]; done) | (simp [gROD, gCW, c1, c2, c3, c4, c6]; rfl) | (unfold gROD; (first | rw [if_pos c1] | rw [if_neg c1] | skip); (first | rw [if_pos c2] | rw [if_neg c2] | skip); (first | rw [if_pos c3] | rw [if_neg c3] | skip); (first | rw [if_pos c4] | rw [if_neg c4] | skip); (first | rw [if_pos c6] | rw [if_neg c6] | skip); first | rfl | (simp; done) | skip)) rfl dX2_reasonOnDay_109
          · skip
            refine g_iconst (v := 4) E dX2_reasonOnDay_104 (by decide) ?_
            refine g_goto (tgt := 109) E dX2_reasonOnDay_105 (by decide) ?_
            try simp only [Nat.zero_add] at *
            exact RET _ _ _ () (by first | (simp [gROD, gCW, c1, c2, c3, c4, c6]; done) | (simp [gROD, gCW, c1, c2, c3, c4, c6]; rfl) | (unfold gROD; (first | rw [if_pos c1] | rw [if_neg c1] | skip); (first | rw [if_pos c2] | rw [if_neg c2] | skip); (first | rw [if_pos c3] | rw [if_neg c3] | skip); (first | rw [if_pos c4] | rw [if_neg c4] | skip); (first | rw [if_pos c6] | rw [if_neg c6] | skip); first | rfl | (simp; done) | skip)) rfl dX2_reasonOnDay_109
      · skip
        refine g_iconst (v := 3) E dX2_reasonOnDay_52 (by decide) ?_
        exact RET _ _ _ () (by first | (simp [gROD, gCW, c1, c2, c3]; done) | (simp [gROD, gCW, c1, c2, c3]; rfl) | (unfold gROD; (first | rw [if_pos c1] | rw [if_neg c1] | skip); (first | rw [if_pos c2] | rw [if_neg c2] | skip); (first | rw [if_pos c3] | rw [if_neg c3] | skip); first | rfl | (simp; done) | skip)) rfl dX2_reasonOnDay_53
    · skip
      refine g_iconst (v := 2) E dX2_reasonOnDay_40 (by decide) ?_
      exact RET _ _ _ () (by first | (simp [gROD, gCW, c1, c2]; done) | (simp [gROD, gCW, c1, c2]; rfl) | (unfold gROD; (first | rw [if_pos c1] | rw [if_neg c1] | skip); (first | rw [if_pos c2] | rw [if_neg c2] | skip); first | rfl | (simp; done) | skip)) rfl dX2_reasonOnDay_41
  · skip
    refine g_iconst (v := 1) E dX2_reasonOnDay_28 (by decide) ?_
    exact RET _ _ _ () (by first | (simp [gROD, gCW, c1]; done) | (simp [gROD, gCW, c1]; rfl) | (unfold gROD; (first | rw [if_pos c1] | rw [if_neg c1] | skip); first | rfl | (simp; done) | skip)) rfl dX2_reasonOnDay_29
set_option maxHeartbeats 4000000 in
set_option maxRecDepth 100000 in
theorem mX2_reasonInHour (G : gG) (a : Nat → Nat) (S : gSt) (gb gw : Nat → Int32) (p v d h : Nat) (hI : gI1 S) (hT : sN S 0 < 1000000000) (hR : RB (sB S) gb) (hQ : RW (sW S) gw) (hp : p < sN S 1) (hv : v < 10) (hd : d < 1073741824) (hh : h < 1073741824) : CIe G yX2_reasonInHour wsX2_reasonInHour 1 60 [.ref (a 0), .int (nI p), .int (nI v), .int (nI d), .int (nI h)] [(a 0, .inr (3, [.int (nI (sN S 0)), .int (nI (sN S 1)), .ref (a 1), .ref (a 2), .ref (a 3), .ref (a 4), .ref (a 5), .ref (a 6), .ref (a 7), .ref (a 8), .int (sI S 9 0), .ref (a 9), .ref (a 11), .ref (a 13), .ref (a 14)])), (a 1, .inl (gy G 0, 8, .inl (sI S 0))), (a 2, .inl (gy G 0, 8, .inl (sI S 1))), (a 3, .inl (gy G 0, 8, .inl (sI S 2))), (a 4, .inl (gy G 0, 8, .inl (sI S 3))), (a 5, .inl (gy G 0, 8, .inl (sI S 4))), (a 6, .inl (gy G 0, 8, .inl (sI S 5))), (a 7, .inl (gy G 0, 10, .inl (sI S 6))), (a 8, .inl (gy G 0, 10, .inl (sI S 7))), (a 9, .inr (1, [.int (nI ((sB S).length)), .ref (a 10)])), (a 10, .inl (gy G 0, 144, .inl gb)), (a 11, .inr (6, [.int (nI ((sW S).length)), .ref (a 12)])), (a 12, .inl (gy G 0, 10, .inl gw)), (a 13, .inl (gy G 0, 5, .inl (sI S 8))), (a 14, .inl (gy G 0, 6, .inl (fun j => nI (sS S j))))] (nI (gRIH S p v d h)) [(a 0, .inr (3, [.int (nI (sN S 0)), .int (nI (sN S 1)), .ref (a 1), .ref (a 2), .ref (a 3), .ref (a 4), .ref (a 5), .ref (a 6), .ref (a 7), .ref (a 8), .int (sI S 9 0), .ref (a 9), .ref (a 11), .ref (a 13), .ref (a 14)])), (a 1, .inl (gy G 0, 8, .inl (sI S 0))), (a 2, .inl (gy G 0, 8, .inl (sI S 1))), (a 3, .inl (gy G 0, 8, .inl (sI S 2))), (a 4, .inl (gy G 0, 8, .inl (sI S 3))), (a 5, .inl (gy G 0, 8, .inl (sI S 4))), (a 6, .inl (gy G 0, 8, .inl (sI S 5))), (a 7, .inl (gy G 0, 10, .inl (sI S 6))), (a 8, .inl (gy G 0, 10, .inl (sI S 7))), (a 9, .inr (1, [.int (nI ((sB S).length)), .ref (a 10)])), (a 10, .inl (gy G 0, 144, .inl gb)), (a 11, .inr (6, [.int (nI ((sW S).length)), .ref (a 12)])), (a 12, .inl (gy G 0, 10, .inl gw)), (a 13, .inl (gy G 0, 5, .inl (sI S 8))), (a 14, .inl (gy G 0, 6, .inl (fun j => nI (sS S j))))] 0 0 := by
  refine g_enterIe (ty := .int) RX2 rfl (by decide) rfl (Nat.le_of_ble_eq_true rfl) ?_
  intro V E RET
  have hX := hI
  obtain ⟨hP8, hn, hw, hW8, hs3, hs4, hs5, hs6, hs7, hs8, hb34⟩ := hX
  have h8 : ∀ j, j < (sW S).length → wq (sW S) j < 80 := fun j hj => (hW8 j hj).1
  refine g_aload_n E dX2_reasonInHour_0 rfl 0 rfl ?_
  refine g_get E uX2_reasonInHour_RX2 0 rfl rfl 11 (by decide) kX2_reasonInHour_39 rfl rfl dX2_reasonInHour_1 ?_
  refine g_iconst (v := 3) E dX2_reasonInHour_4 (by decide) ?_
  refine g_iload_n E dX2_reasonInHour_5 rfl 3 rfl ?_
  refine g_iload E dX2_reasonInHour_6 4 rfl ?_
  refine g_callVIe (F := [(a 0, .inr (3, [.int (nI (sN S 0)), .int (nI (sN S 1)), .ref (a 1), .ref (a 2), .ref (a 3), .ref (a 4), .ref (a 5), .ref (a 6), .ref (a 7), .ref (a 8), .int (sI S 9 0), .ref (a 9), .ref (a 11), .ref (a 13), .ref (a 14)])), (a 1, .inl (gy G 0, 8, .inl (sI S 0))), (a 2, .inl (gy G 0, 8, .inl (sI S 1))), (a 3, .inl (gy G 0, 8, .inl (sI S 2))), (a 4, .inl (gy G 0, 8, .inl (sI S 3))), (a 5, .inl (gy G 0, 8, .inl (sI S 4))), (a 6, .inl (gy G 0, 8, .inl (sI S 5))), (a 7, .inl (gy G 0, 10, .inl (sI S 6))), (a 8, .inl (gy G 0, 10, .inl (sI S 7))), (a 11, .inr (6, [.int (nI ((sW S).length)), .ref (a 12)])), (a 12, .inl (gy G 0, 10, .inl gw)), (a 13, .inl (gy G 0, 5, .inl (sI S 8))), (a 14, .inl (gy G 0, 6, .inl (fun j => nI (sS S j))))]) (ws2 := [(a 0, .inr (3, [.int (nI (sN S 0)), .int (nI (sN S 1)), .ref (a 1), .ref (a 2), .ref (a 3), .ref (a 4), .ref (a 5), .ref (a 6), .ref (a 7), .ref (a 8), .int (sI S 9 0), .ref (a 9), .ref (a 11), .ref (a 13), .ref (a 14)])), (a 1, .inl (gy G 0, 8, .inl (sI S 0))), (a 2, .inl (gy G 0, 8, .inl (sI S 1))), (a 3, .inl (gy G 0, 8, .inl (sI S 2))), (a 4, .inl (gy G 0, 8, .inl (sI S 3))), (a 5, .inl (gy G 0, 8, .inl (sI S 4))), (a 6, .inl (gy G 0, 8, .inl (sI S 5))), (a 7, .inl (gy G 0, 10, .inl (sI S 6))), (a 8, .inl (gy G 0, 10, .inl (sI S 7))), (a 9, .inr (1, [.int (nI ((sB S).length)), .ref (a 10)])), (a 10, .inl (gy G 0, 144, .inl gb)), (a 11, .inr (6, [.int (nI ((sW S).length)), .ref (a 12)])), (a 12, .inl (gy G 0, 10, .inl gw)), (a 13, .inl (gy G 0, 5, .inl (sI S 8))), (a 14, .inl (gy G 0, 6, .inl (fun j => nI (sS S j))))]) E (mX0_valuesInHour G (a 9) (a 10) (sB S) gb 3 d h hn hR (by omega) (by omega) (by omega)) gX2_reasonInHour_X0_valuesInHour rfl hdX0_valuesInHour ⟨Nat.le_of_ble_eq_true rfl, Nat.le_of_ble_eq_true rfl⟩ 1 0 rfl rfl rfl (gPerm_ix [9, 10, 0, 1, 2, 3, 4, 5, 6, 7, 8, 11, 12, 13, 14] rfl rfl) rfl rfl (Nat.le_of_ble_eq_true rfl) dX2_reasonInHour_8 ⟨Nat.le_of_ble_eq_true rfl, Nat.le_of_ble_eq_true rfl⟩ (gPerm_ix [2, 3, 4, 5, 6, 7, 8, 9, 10, 0, 1, 11, 12, 13, 14] rfl rfl) ?_
  refine g_istore (lv' := [(5, .int (gVih (sB S) 3 d h (sB S).length)), (0, .ref (a 0)), (1, .int (nI p)), (2, .int (nI v)), (3, .int (nI d)), (4, .int (nI h))]) E dX2_reasonInHour_11 (by decide) rfl ?_
  refine g_aload_n E dX2_reasonInHour_13 rfl 1 rfl ?_
  refine g_get E uX2_reasonInHour_RX2 0 rfl rfl 11 (by decide) kX2_reasonInHour_39 rfl rfl dX2_reasonInHour_14 ?_
  refine g_iconst (v := 4) E dX2_reasonInHour_17 (by decide) ?_
  refine g_iload_n E dX2_reasonInHour_18 rfl 4 rfl ?_
  refine g_iload E dX2_reasonInHour_19 5 rfl ?_
  refine g_callVIe (F := [(a 0, .inr (3, [.int (nI (sN S 0)), .int (nI (sN S 1)), .ref (a 1), .ref (a 2), .ref (a 3), .ref (a 4), .ref (a 5), .ref (a 6), .ref (a 7), .ref (a 8), .int (sI S 9 0), .ref (a 9), .ref (a 11), .ref (a 13), .ref (a 14)])), (a 1, .inl (gy G 0, 8, .inl (sI S 0))), (a 2, .inl (gy G 0, 8, .inl (sI S 1))), (a 3, .inl (gy G 0, 8, .inl (sI S 2))), (a 4, .inl (gy G 0, 8, .inl (sI S 3))), (a 5, .inl (gy G 0, 8, .inl (sI S 4))), (a 6, .inl (gy G 0, 8, .inl (sI S 5))), (a 7, .inl (gy G 0, 10, .inl (sI S 6))), (a 8, .inl (gy G 0, 10, .inl (sI S 7))), (a 11, .inr (6, [.int (nI ((sW S).length)), .ref (a 12)])), (a 12, .inl (gy G 0, 10, .inl gw)), (a 13, .inl (gy G 0, 5, .inl (sI S 8))), (a 14, .inl (gy G 0, 6, .inl (fun j => nI (sS S j))))]) (ws2 := [(a 0, .inr (3, [.int (nI (sN S 0)), .int (nI (sN S 1)), .ref (a 1), .ref (a 2), .ref (a 3), .ref (a 4), .ref (a 5), .ref (a 6), .ref (a 7), .ref (a 8), .int (sI S 9 0), .ref (a 9), .ref (a 11), .ref (a 13), .ref (a 14)])), (a 1, .inl (gy G 0, 8, .inl (sI S 0))), (a 2, .inl (gy G 0, 8, .inl (sI S 1))), (a 3, .inl (gy G 0, 8, .inl (sI S 2))), (a 4, .inl (gy G 0, 8, .inl (sI S 3))), (a 5, .inl (gy G 0, 8, .inl (sI S 4))), (a 6, .inl (gy G 0, 8, .inl (sI S 5))), (a 7, .inl (gy G 0, 10, .inl (sI S 6))), (a 8, .inl (gy G 0, 10, .inl (sI S 7))), (a 9, .inr (1, [.int (nI ((sB S).length)), .ref (a 10)])), (a 10, .inl (gy G 0, 144, .inl gb)), (a 11, .inr (6, [.int (nI ((sW S).length)), .ref (a 12)])), (a 12, .inl (gy G 0, 10, .inl gw)), (a 13, .inl (gy G 0, 5, .inl (sI S 8))), (a 14, .inl (gy G 0, 6, .inl (fun j => nI (sS S j))))]) E (mX0_valuesInHour G (a 9) (a 10) (sB S) gb 4 d h hn hR (by omega) (by omega) (by omega)) gX2_reasonInHour_X0_valuesInHour rfl hdX0_valuesInHour ⟨Nat.le_of_ble_eq_true rfl, Nat.le_of_ble_eq_true rfl⟩ 1 0 rfl rfl rfl (gPerm_ix [9, 10, 0, 1, 2, 3, 4, 5, 6, 7, 8, 11, 12, 13, 14] rfl rfl) rfl rfl (Nat.le_of_ble_eq_true rfl) dX2_reasonInHour_21 ⟨Nat.le_of_ble_eq_true rfl, Nat.le_of_ble_eq_true rfl⟩ (gPerm_ix [2, 3, 4, 5, 6, 7, 8, 9, 10, 0, 1, 11, 12, 13, 14] rfl rfl) ?_
  refine g_istore (lv' := [(6, .int (gVih (sB S) 4 d h (sB S).length)), (5, .int (gVih (sB S) 3 d h (sB S).length)), (0, .ref (a 0)), (1, .int (nI p)), (2, .int (nI v)), (3, .int (nI d)), (4, .int (nI h))]) E dX2_reasonInHour_24 (by decide) rfl ?_
  refine g_iload E dX2_reasonInHour_26 1 rfl ?_
  refine g_iload_n E dX2_reasonInHour_28 rfl 3 rfl ?_
  refine g_callSNIe (F := [(a 0, .inr (3, [.int (nI (sN S 0)), .int (nI (sN S 1)), .ref (a 1), .ref (a 2), .ref (a 3), .ref (a 4), .ref (a 5), .ref (a 6), .ref (a 7), .ref (a 8), .int (sI S 9 0), .ref (a 9), .ref (a 11), .ref (a 13), .ref (a 14)])), (a 1, .inl (gy G 0, 8, .inl (sI S 0))), (a 2, .inl (gy G 0, 8, .inl (sI S 1))), (a 3, .inl (gy G 0, 8, .inl (sI S 2))), (a 4, .inl (gy G 0, 8, .inl (sI S 3))), (a 5, .inl (gy G 0, 8, .inl (sI S 4))), (a 6, .inl (gy G 0, 8, .inl (sI S 5))), (a 7, .inl (gy G 0, 10, .inl (sI S 6))), (a 8, .inl (gy G 0, 10, .inl (sI S 7))), (a 9, .inr (1, [.int (nI ((sB S).length)), .ref (a 10)])), (a 10, .inl (gy G 0, 144, .inl gb)), (a 11, .inr (6, [.int (nI ((sW S).length)), .ref (a 12)])), (a 12, .inl (gy G 0, 10, .inl gw)), (a 13, .inl (gy G 0, 5, .inl (sI S 8))), (a 14, .inl (gy G 0, 6, .inl (fun j => nI (sS S j))))]) (ws2 := [(a 0, .inr (3, [.int (nI (sN S 0)), .int (nI (sN S 1)), .ref (a 1), .ref (a 2), .ref (a 3), .ref (a 4), .ref (a 5), .ref (a 6), .ref (a 7), .ref (a 8), .int (sI S 9 0), .ref (a 9), .ref (a 11), .ref (a 13), .ref (a 14)])), (a 1, .inl (gy G 0, 8, .inl (sI S 0))), (a 2, .inl (gy G 0, 8, .inl (sI S 1))), (a 3, .inl (gy G 0, 8, .inl (sI S 2))), (a 4, .inl (gy G 0, 8, .inl (sI S 3))), (a 5, .inl (gy G 0, 8, .inl (sI S 4))), (a 6, .inl (gy G 0, 8, .inl (sI S 5))), (a 7, .inl (gy G 0, 10, .inl (sI S 6))), (a 8, .inl (gy G 0, 10, .inl (sI S 7))), (a 9, .inr (1, [.int (nI ((sB S).length)), .ref (a 10)])), (a 10, .inl (gy G 0, 144, .inl gb)), (a 11, .inr (6, [.int (nI ((sW S).length)), .ref (a 12)])), (a 12, .inl (gy G 0, 10, .inl gw)), (a 13, .inl (gy G 0, 5, .inl (sI S 8))), (a 14, .inl (gy G 0, 6, .inl (fun j => nI (sS S j))))]) E (mX7_hasBit G (gVih (sB S) 3 d h (sB S).length) (nI p)) gX2_reasonInHour_X7_hasBit_n115 (by decide +kernel) (g_nest (h := "VisitHours") E (by decide +kernel)) (by decide +kernel) rfl hnX7_hasBit ⟨Nat.le_of_ble_eq_true rfl, Nat.le_of_ble_eq_true rfl⟩ (gPerm_ix [0, 1, 2, 3, 4, 5, 6, 7, 8, 9, 10, 11, 12, 13, 14] rfl rfl) rfl rfl (Nat.le_of_ble_eq_true rfl) dX2_reasonInHour_29 ⟨Nat.le_of_ble_eq_true rfl, Nat.le_of_ble_eq_true rfl⟩ (gPerm_ix [0, 1, 2, 3, 4, 5, 6, 7, 8, 9, 10, 11, 12, 13, 14] rfl rfl) ?_
  refine g_if_neB (tgt := 44) (P := gHb (gVih (sB S) 3 d h (sB S).length) (nI p) = true) E dX2_reasonInHour_32 (by decide) (fun c1 => ?_) (fun c1 => ?_)
  · skip
    refine g_iconst (v := 5) E dX2_reasonInHour_44 (by decide) ?_
    exact RET _ _ _ () (by first | (simp [gRIH, c1]; done) | (simp [gRIH, c1]; rfl) | (unfold gRIH; (first | rw [if_pos c1] | rw [if_neg c1] | skip); first | rfl | (simp; done) | skip)) rfl dX2_reasonInHour_45
  · skip
    refine g_iload E dX2_reasonInHour_35 0 rfl ?_
    refine g_iload_n E dX2_reasonInHour_37 rfl 4 rfl ?_
    refine g_callSNIe (F := [(a 0, .inr (3, [.int (nI (sN S 0)), .int (nI (sN S 1)), .ref (a 1), .ref (a 2), .ref (a 3), .ref (a 4), .ref (a 5), .ref (a 6), .ref (a 7), .ref (a 8), .int (sI S 9 0), .ref (a 9), .ref (a 11), .ref (a 13), .ref (a 14)])), (a 1, .inl (gy G 0, 8, .inl (sI S 0))), (a 2, .inl (gy G 0, 8, .inl (sI S 1))), (a 3, .inl (gy G 0, 8, .inl (sI S 2))), (a 4, .inl (gy G 0, 8, .inl (sI S 3))), (a 5, .inl (gy G 0, 8, .inl (sI S 4))), (a 6, .inl (gy G 0, 8, .inl (sI S 5))), (a 7, .inl (gy G 0, 10, .inl (sI S 6))), (a 8, .inl (gy G 0, 10, .inl (sI S 7))), (a 9, .inr (1, [.int (nI ((sB S).length)), .ref (a 10)])), (a 10, .inl (gy G 0, 144, .inl gb)), (a 11, .inr (6, [.int (nI ((sW S).length)), .ref (a 12)])), (a 12, .inl (gy G 0, 10, .inl gw)), (a 13, .inl (gy G 0, 5, .inl (sI S 8))), (a 14, .inl (gy G 0, 6, .inl (fun j => nI (sS S j))))]) (ws2 := [(a 0, .inr (3, [.int (nI (sN S 0)), .int (nI (sN S 1)), .ref (a 1), .ref (a 2), .ref (a 3), .ref (a 4), .ref (a 5), .ref (a 6), .ref (a 7), .ref (a 8), .int (sI S 9 0), .ref (a 9), .ref (a 11), .ref (a 13), .ref (a 14)])), (a 1, .inl (gy G 0, 8, .inl (sI S 0))), (a 2, .inl (gy G 0, 8, .inl (sI S 1))), (a 3, .inl (gy G 0, 8, .inl (sI S 2))), (a 4, .inl (gy G 0, 8, .inl (sI S 3))), (a 5, .inl (gy G 0, 8, .inl (sI S 4))), (a 6, .inl (gy G 0, 8, .inl (sI S 5))), (a 7, .inl (gy G 0, 10, .inl (sI S 6))), (a 8, .inl (gy G 0, 10, .inl (sI S 7))), (a 9, .inr (1, [.int (nI ((sB S).length)), .ref (a 10)])), (a 10, .inl (gy G 0, 144, .inl gb)), (a 11, .inr (6, [.int (nI ((sW S).length)), .ref (a 12)])), (a 12, .inl (gy G 0, 10, .inl gw)), (a 13, .inl (gy G 0, 5, .inl (sI S 8))), (a 14, .inl (gy G 0, 6, .inl (fun j => nI (sS S j))))]) E (mX7_hasBit G (gVih (sB S) 4 d h (sB S).length) (nI v)) gX2_reasonInHour_X7_hasBit_n115 (by decide +kernel) (g_nest (h := "VisitHours") E (by decide +kernel)) (by decide +kernel) rfl hnX7_hasBit ⟨Nat.le_of_ble_eq_true rfl, Nat.le_of_ble_eq_true rfl⟩ (gPerm_ix [0, 1, 2, 3, 4, 5, 6, 7, 8, 9, 10, 11, 12, 13, 14] rfl rfl) rfl rfl (Nat.le_of_ble_eq_true rfl) dX2_reasonInHour_38 ⟨Nat.le_of_ble_eq_true rfl, Nat.le_of_ble_eq_true rfl⟩ (gPerm_ix [0, 1, 2, 3, 4, 5, 6, 7, 8, 9, 10, 11, 12, 13, 14] rfl rfl) ?_
    refine g_if_eqB (tgt := 46) (P := gHb (gVih (sB S) 4 d h (sB S).length) (nI v) = true) E dX2_reasonInHour_41 (by decide) (fun c2 => ?_) (fun c2 => ?_)
    · skip
      refine g_aload_n E dX2_reasonInHour_46 rfl 2 rfl ?_
      refine g_iload_n E dX2_reasonInHour_47 rfl 3 rfl ?_
      refine g_callVIe (F := []) (ws2 := [(a 0, .inr (3, [.int (nI (sN S 0)), .int (nI (sN S 1)), .ref (a 1), .ref (a 2), .ref (a 3), .ref (a 4), .ref (a 5), .ref (a 6), .ref (a 7), .ref (a 8), .int (sI S 9 0), .ref (a 9), .ref (a 11), .ref (a 13), .ref (a 14)])), (a 1, .inl (gy G 0, 8, .inl (sI S 0))), (a 2, .inl (gy G 0, 8, .inl (sI S 1))), (a 3, .inl (gy G 0, 8, .inl (sI S 2))), (a 4, .inl (gy G 0, 8, .inl (sI S 3))), (a 5, .inl (gy G 0, 8, .inl (sI S 4))), (a 6, .inl (gy G 0, 8, .inl (sI S 5))), (a 7, .inl (gy G 0, 10, .inl (sI S 6))), (a 8, .inl (gy G 0, 10, .inl (sI S 7))), (a 9, .inr (1, [.int (nI ((sB S).length)), .ref (a 10)])), (a 10, .inl (gy G 0, 144, .inl gb)), (a 11, .inr (6, [.int (nI ((sW S).length)), .ref (a 12)])), (a 12, .inl (gy G 0, 10, .inl gw)), (a 13, .inl (gy G 0, 5, .inl (sI S 8))), (a 14, .inl (gy G 0, 6, .inl (fun j => nI (sS S j))))]) E (g_resI (gHas_in (by omega) (by omega)) (mX2_hasPrisoner G a S gb gw (nI p) hI hT hR hQ)) gX2_reasonInHour_X2_hasPrisoner rfl hdX2_hasPrisoner ⟨Nat.le_of_ble_eq_true rfl, Nat.le_of_ble_eq_true rfl⟩ 3 0 rfl rfl rfl (gPerm_ix [0, 1, 2, 3, 4, 5, 6, 7, 8, 9, 10, 11, 12, 13, 14] rfl rfl) rfl rfl (Nat.le_of_ble_eq_true rfl) dX2_reasonInHour_48 ⟨Nat.le_of_ble_eq_true rfl, Nat.le_of_ble_eq_true rfl⟩ (gPerm_ix [0, 1, 2, 3, 4, 5, 6, 7, 8, 9, 10, 11, 12, 13, 14] rfl rfl) ?_
      refine g_if_eq (tgt := 69) E dX2_reasonInHour_51 (by decide) (fun c => absurd c (by decide)) (fun _ => ?_)
      refine g_iload E dX2_reasonInHour_54 1 rfl ?_
      refine g_aload_n E dX2_reasonInHour_56 rfl 2 rfl ?_
      refine g_get E uX2_reasonInHour_RX2 0 rfl rfl 7 (by decide) kX2_reasonInHour_27 rfl rfl dX2_reasonInHour_57 ?_
      refine g_iload_n E dX2_reasonInHour_60 rfl 3 rfl ?_
      refine g_ialdN (e := p) E 6 rfl (by omega) rfl (v := (sI S 5) p) rfl dX2_reasonInHour_61 ?_
      refine g_iand E dX2_reasonInHour_62 ?_
      refine g_if_eq (tgt := 69) E dX2_reasonInHour_63 (by decide) (fun c3 => ?_) (fun c3 => ?_)
      · skip
        refine g_iconst (v := 1) E dX2_reasonInHour_69 (by decide) ?_
        refine g_aload_n E dX2_reasonInHour_70 rfl 2 rfl ?_
        refine g_get E uX2_reasonInHour_RX2 0 rfl rfl 14 (by decide) kX2_reasonInHour_61 rfl rfl dX2_reasonInHour_71 ?_
        refine g_iconst (v := 0) E dX2_reasonInHour_74 (by decide) ?_
        refine g_ialdN (e := 0) E 14 rfl (by omega) rfl (v := nI (sS S 0)) (rfl) dX2_reasonInHour_75 ?_
        refine g_ishl E dX2_reasonInHour_76 ?_
        refine g_iconst (v := 1) E dX2_reasonInHour_77 (by decide) ?_
        refine g_isub E dX2_reasonInHour_78 ?_
        refine g_istore (lv' := [(7, .int ((1 <<< (nI (sS S 0) &&& 31)) - 1)), (6, .int (gVih (sB S) 4 d h (sB S).length)), (5, .int (gVih (sB S) 3 d h (sB S).length)), (0, .ref (a 0)), (1, .int (nI p)), (2, .int (nI v)), (3, .int (nI d)), (4, .int (nI h))]) E dX2_reasonInHour_79 (by decide) rfl ?_
        refine g_aload_n E dX2_reasonInHour_81 rfl 3 rfl ?_
        refine g_get E uX2_reasonInHour_RX2 0 rfl rfl 11 (by decide) kX2_reasonInHour_39 rfl rfl dX2_reasonInHour_82 ?_
        refine g_iconst (v := 2) E dX2_reasonInHour_85 (by decide) ?_
        refine g_iload_n E dX2_reasonInHour_86 rfl 6 rfl ?_
        refine g_iload E dX2_reasonInHour_87 7 rfl ?_
        refine g_callVIe (F := [(a 0, .inr (3, [.int (nI (sN S 0)), .int (nI (sN S 1)), .ref (a 1), .ref (a 2), .ref (a 3), .ref (a 4), .ref (a 5), .ref (a 6), .ref (a 7), .ref (a 8), .int (sI S 9 0), .ref (a 9), .ref (a 11), .ref (a 13), .ref (a 14)])), (a 1, .inl (gy G 0, 8, .inl (sI S 0))), (a 2, .inl (gy G 0, 8, .inl (sI S 1))), (a 3, .inl (gy G 0, 8, .inl (sI S 2))), (a 4, .inl (gy G 0, 8, .inl (sI S 3))), (a 5, .inl (gy G 0, 8, .inl (sI S 4))), (a 6, .inl (gy G 0, 8, .inl (sI S 5))), (a 7, .inl (gy G 0, 10, .inl (sI S 6))), (a 8, .inl (gy G 0, 10, .inl (sI S 7))), (a 11, .inr (6, [.int (nI ((sW S).length)), .ref (a 12)])), (a 12, .inl (gy G 0, 10, .inl gw)), (a 13, .inl (gy G 0, 5, .inl (sI S 8))), (a 14, .inl (gy G 0, 6, .inl (fun j => nI (sS S j))))]) (ws2 := [(a 0, .inr (3, [.int (nI (sN S 0)), .int (nI (sN S 1)), .ref (a 1), .ref (a 2), .ref (a 3), .ref (a 4), .ref (a 5), .ref (a 6), .ref (a 7), .ref (a 8), .int (sI S 9 0), .ref (a 9), .ref (a 11), .ref (a 13), .ref (a 14)])), (a 1, .inl (gy G 0, 8, .inl (sI S 0))), (a 2, .inl (gy G 0, 8, .inl (sI S 1))), (a 3, .inl (gy G 0, 8, .inl (sI S 2))), (a 4, .inl (gy G 0, 8, .inl (sI S 3))), (a 5, .inl (gy G 0, 8, .inl (sI S 4))), (a 6, .inl (gy G 0, 8, .inl (sI S 5))), (a 7, .inl (gy G 0, 10, .inl (sI S 6))), (a 8, .inl (gy G 0, 10, .inl (sI S 7))), (a 9, .inr (1, [.int (nI ((sB S).length)), .ref (a 10)])), (a 10, .inl (gy G 0, 144, .inl gb)), (a 11, .inr (6, [.int (nI ((sW S).length)), .ref (a 12)])), (a 12, .inl (gy G 0, 10, .inl gw)), (a 13, .inl (gy G 0, 5, .inl (sI S 8))), (a 14, .inl (gy G 0, 6, .inl (fun j => nI (sS S j))))]) E (mX0_valuesInHour G (a 9) (a 10) (sB S) gb 2 d h hn hR (by omega) (by omega) (by omega)) gX2_reasonInHour_X0_valuesInHour rfl hdX0_valuesInHour ⟨Nat.le_of_ble_eq_true rfl, Nat.le_of_ble_eq_true rfl⟩ 1 0 rfl rfl rfl (gPerm_ix [9, 10, 0, 1, 2, 3, 4, 5, 6, 7, 8, 11, 12, 13, 14] rfl rfl) rfl rfl (Nat.le_of_ble_eq_true rfl) dX2_reasonInHour_89 ⟨Nat.le_of_ble_eq_true rfl, Nat.le_of_ble_eq_true rfl⟩ (gPerm_ix [2, 3, 4, 5, 6, 7, 8, 9, 10, 0, 1, 11, 12, 13, 14] rfl rfl) ?_
        refine g_iload E dX2_reasonInHour_92 0 rfl ?_
        refine g_iand E dX2_reasonInHour_94 ?_
        refine g_iload E dX2_reasonInHour_95 0 rfl ?_
        refine g_icmp_ne (tgt := 103) E dX2_reasonInHour_97 (by decide) (fun c4 => ?_) (fun c4 => ?_)
        · skip
          refine g_aload_n E dX2_reasonInHour_103 rfl 3 rfl ?_
          refine g_get E uX2_reasonInHour_RX2 0 rfl rfl 11 (by decide) kX2_reasonInHour_39 rfl rfl dX2_reasonInHour_104 ?_
          refine g_callVIe (F := [(a 0, .inr (3, [.int (nI (sN S 0)), .int (nI (sN S 1)), .ref (a 1), .ref (a 2), .ref (a 3), .ref (a 4), .ref (a 5), .ref (a 6), .ref (a 7), .ref (a 8), .int (sI S 9 0), .ref (a 9), .ref (a 11), .ref (a 13), .ref (a 14)])), (a 1, .inl (gy G 0, 8, .inl (sI S 0))), (a 2, .inl (gy G 0, 8, .inl (sI S 1))), (a 3, .inl (gy G 0, 8, .inl (sI S 2))), (a 4, .inl (gy G 0, 8, .inl (sI S 3))), (a 5, .inl (gy G 0, 8, .inl (sI S 4))), (a 6, .inl (gy G 0, 8, .inl (sI S 5))), (a 7, .inl (gy G 0, 10, .inl (sI S 6))), (a 8, .inl (gy G 0, 10, .inl (sI S 7))), (a 11, .inr (6, [.int (nI ((sW S).length)), .ref (a 12)])), (a 12, .inl (gy G 0, 10, .inl gw)), (a 13, .inl (gy G 0, 5, .inl (sI S 8))), (a 14, .inl (gy G 0, 6, .inl (fun j => nI (sS S j))))]) (ws2 := [(a 0, .inr (3, [.int (nI (sN S 0)), .int (nI (sN S 1)), .ref (a 1), .ref (a 2), .ref (a 3), .ref (a 4), .ref (a 5), .ref (a 6), .ref (a 7), .ref (a 8), .int (sI S 9 0), .ref (a 9), .ref (a 11), .ref (a 13), .ref (a 14)])), (a 1, .inl (gy G 0, 8, .inl (sI S 0))), (a 2, .inl (gy G 0, 8, .inl (sI S 1))), (a 3, .inl (gy G 0, 8, .inl (sI S 2))), (a 4, .inl (gy G 0, 8, .inl (sI S 3))), (a 5, .inl (gy G 0, 8, .inl (sI S 4))), (a 6, .inl (gy G 0, 8, .inl (sI S 5))), (a 7, .inl (gy G 0, 10, .inl (sI S 6))), (a 8, .inl (gy G 0, 10, .inl (sI S 7))), (a 9, .inr (1, [.int (nI ((sB S).length)), .ref (a 10)])), (a 10, .inl (gy G 0, 144, .inl gb)), (a 11, .inr (6, [.int (nI ((sW S).length)), .ref (a 12)])), (a 12, .inl (gy G 0, 10, .inl gw)), (a 13, .inl (gy G 0, 5, .inl (sI S 8))), (a 14, .inl (gy G 0, 6, .inl (fun j => nI (sS S j))))]) E (mX0_isFull G (a 9) (a 10) (sB S) gb hn) gX2_reasonInHour_X0_isFull rfl hdX0_isFull ⟨Nat.le_of_ble_eq_true rfl, Nat.le_of_ble_eq_true rfl⟩ 1 0 rfl rfl rfl (gPerm_ix [9, 10, 0, 1, 2, 3, 4, 5, 6, 7, 8, 11, 12, 13, 14] rfl rfl) rfl rfl (Nat.le_of_ble_eq_true rfl) dX2_reasonInHour_107 ⟨Nat.le_of_ble_eq_true rfl, Nat.le_of_ble_eq_true rfl⟩ (gPerm_ix [2, 3, 4, 5, 6, 7, 8, 9, 10, 0, 1, 11, 12, 13, 14] rfl rfl) ?_
          refine g_if_eqB (tgt := 118) (P := (24 ≤ (sB S).length)) E dX2_reasonInHour_110 (by decide) (fun c5 => ?_) (fun c5 => ?_)
          · skip
            refine g_iconst (v := 0) E dX2_reasonInHour_118 (by decide) ?_
            exact RET _ _ _ () (by first | (simp [gRIH, c1, c2, c3, c4, c5]; done) | (simp [gRIH, c1, c2, c3, c4, c5]; rfl) | (unfold gRIH; (first | rw [if_pos c1] | rw [if_neg c1] | skip); (first | rw [if_pos c2] | rw [if_neg c2] | skip); (first | rw [if_pos c3] | rw [if_neg c3] | skip); (first | rw [if_pos c4] | rw [if_neg c4] | skip); (first | rw [if_pos c5] | rw [if_neg c5] | skip); first | rfl | (simp; done) | skip)) rfl dX2_reasonInHour_119
          · skip
            refine g_bipush (v := 8) E dX2_reasonInHour_113 (by decide) ?_
            refine g_goto (tgt := 119) E dX2_reasonInHour_115 (by decide) ?_
            exact RET _ _ _ () (by first | (simp [gRIH, c1, c2, c3, c4, c5]; done) | (simp [gRIH, c1, c2, c3, c4, c5]; rfl) | (unfold gRIH; (first | rw [if_pos c1] | rw [if_neg c1] | skip); (first | rw [if_pos c2] | rw [if_neg c2] | skip); (first | rw [if_pos c3] | rw [if_neg c3] | skip); (first | rw [if_pos c4] | rw [if_neg c4] | skip); (first | rw [if_pos c5] | rw [if_neg c5] | skip); first | rfl | (simp; done) | skip)) rfl dX2_reasonInHour_119
        · skip
          refine g_bipush (v := 7) E dX2_reasonInHour_100 (by decide) ?_
          exact RET _ _ _ () (by first | (simp [gRIH, c1, c2, c3, c4]; done) | (simp [gRIH, c1, c2, c3, c4]; rfl) | (unfold gRIH; (first | rw [if_pos c1] | rw [if_neg c1] | skip); (first | rw [if_pos c2] | rw [if_neg c2] | skip); (first | rw [if_pos c3] | rw [if_neg c3] | skip); (first | rw [if_pos c4] | rw [if_neg c4] | skip); first | rfl | (simp; done) | skip)) rfl dX2_reasonInHour_102
      · skip
        refine g_bipush (v := 6) E dX2_reasonInHour_66 (by decide) ?_
        exact RET _ _ _ () (by first | (simp [gRIH, c1, c2, c3]; done) | (simp [gRIH, c1, c2, c3]; rfl) | (unfold gRIH; (first | rw [if_pos c1] | rw [if_neg c1] | skip); (first | rw [if_pos c2] | rw [if_neg c2] | skip); (first | rw [if_pos c3] | rw [if_neg c3] | skip); first | rfl | (simp; done) | skip)) rfl dX2_reasonInHour_68
    · skip
      refine g_iconst (v := 5) E dX2_reasonInHour_44 (by decide) ?_
      exact RET _ _ _ () (by first | (simp [gRIH, c1, c2]; done) | (simp [gRIH, c1, c2]; rfl) | (unfold gRIH; (first | rw [if_pos c1] | rw [if_neg c1] | skip); (first | rw [if_pos c2] | rw [if_neg c2] | skip); first | rfl | (simp; done) | skip)) rfl dX2_reasonInHour_45
set_option maxHeartbeats 4000000 in
set_option maxRecDepth 100000 in
theorem mX2_reasonAgainst (G : gG) (a : Nat → Nat) (S : gSt) (gb gw : Nat → Int32) (p v d h : Nat) (hI : gI1 S) (hT : sN S 0 < 1000000000) (hR : RB (sB S) gb) (hQ : RW (sW S) gw) (hp : p < sN S 1) (hv : v < 10) (hd : d < 1073741824) (hh : h < 1073741824) : CIe G yX2_reasonAgainst wsX2_reasonAgainst 2 87 [.ref (a 0), .int (nI p), .int (nI v), .int (nI d), .int (nI h)] [(a 0, .inr (3, [.int (nI (sN S 0)), .int (nI (sN S 1)), .ref (a 1), .ref (a 2), .ref (a 3), .ref (a 4), .ref (a 5), .ref (a 6), .ref (a 7), .ref (a 8), .int (sI S 9 0), .ref (a 9), .ref (a 11), .ref (a 13), .ref (a 14)])), (a 1, .inl (gy G 0, 8, .inl (sI S 0))), (a 2, .inl (gy G 0, 8, .inl (sI S 1))), (a 3, .inl (gy G 0, 8, .inl (sI S 2))), (a 4, .inl (gy G 0, 8, .inl (sI S 3))), (a 5, .inl (gy G 0, 8, .inl (sI S 4))), (a 6, .inl (gy G 0, 8, .inl (sI S 5))), (a 7, .inl (gy G 0, 10, .inl (sI S 6))), (a 8, .inl (gy G 0, 10, .inl (sI S 7))), (a 9, .inr (1, [.int (nI ((sB S).length)), .ref (a 10)])), (a 10, .inl (gy G 0, 144, .inl gb)), (a 11, .inr (6, [.int (nI ((sW S).length)), .ref (a 12)])), (a 12, .inl (gy G 0, 10, .inl gw)), (a 13, .inl (gy G 0, 5, .inl (sI S 8))), (a 14, .inl (gy G 0, 6, .inl (fun j => nI (sS S j))))] (nI (gRA S p v d h)) [(a 0, .inr (3, [.int (nI (sN S 0)), .int (nI (sN S 1)), .ref (a 1), .ref (a 2), .ref (a 3), .ref (a 4), .ref (a 5), .ref (a 6), .ref (a 7), .ref (a 8), .int (sI S 9 0), .ref (a 9), .ref (a 11), .ref (a 13), .ref (a 14)])), (a 1, .inl (gy G 0, 8, .inl (sI S 0))), (a 2, .inl (gy G 0, 8, .inl (sI S 1))), (a 3, .inl (gy G 0, 8, .inl (sI S 2))), (a 4, .inl (gy G 0, 8, .inl (sI S 3))), (a 5, .inl (gy G 0, 8, .inl (sI S 4))), (a 6, .inl (gy G 0, 8, .inl (sI S 5))), (a 7, .inl (gy G 0, 10, .inl (sI S 6))), (a 8, .inl (gy G 0, 10, .inl (sI S 7))), (a 9, .inr (1, [.int (nI ((sB S).length)), .ref (a 10)])), (a 10, .inl (gy G 0, 144, .inl gb)), (a 11, .inr (6, [.int (nI ((sW S).length)), .ref (a 12)])), (a 12, .inl (gy G 0, 10, .inl gw)), (a 13, .inl (gy G 0, 5, .inl (sI S 8))), (a 14, .inl (gy G 0, 6, .inl (fun j => nI (sS S j))))] 0 0 := by
  refine g_enterIe (ty := .int) RX2 rfl (by decide) rfl (Nat.le_of_ble_eq_true rfl) ?_
  intro V E RET
  have hX := hI
  obtain ⟨hP8, hn, hw, hW8, hs3, hs4, hs5, hs6, hs7, hs8, hb34⟩ := hX
  have h8 : ∀ j, j < (sW S).length → wq (sW S) j < 80 := fun j hj => (hW8 j hj).1
  have q4 := gROD_le S p v d
  refine g_aload_n E dX2_reasonAgainst_0 rfl 0 rfl ?_
  refine g_iload_n E dX2_reasonAgainst_1 rfl 1 rfl ?_
  refine g_iload_n E dX2_reasonAgainst_2 rfl 2 rfl ?_
  refine g_iload_n E dX2_reasonAgainst_3 rfl 3 rfl ?_
  refine g_callVIe (F := []) (ws2 := [(a 0, .inr (3, [.int (nI (sN S 0)), .int (nI (sN S 1)), .ref (a 1), .ref (a 2), .ref (a 3), .ref (a 4), .ref (a 5), .ref (a 6), .ref (a 7), .ref (a 8), .int (sI S 9 0), .ref (a 9), .ref (a 11), .ref (a 13), .ref (a 14)])), (a 1, .inl (gy G 0, 8, .inl (sI S 0))), (a 2, .inl (gy G 0, 8, .inl (sI S 1))), (a 3, .inl (gy G 0, 8, .inl (sI S 2))), (a 4, .inl (gy G 0, 8, .inl (sI S 3))), (a 5, .inl (gy G 0, 8, .inl (sI S 4))), (a 6, .inl (gy G 0, 8, .inl (sI S 5))), (a 7, .inl (gy G 0, 10, .inl (sI S 6))), (a 8, .inl (gy G 0, 10, .inl (sI S 7))), (a 9, .inr (1, [.int (nI ((sB S).length)), .ref (a 10)])), (a 10, .inl (gy G 0, 144, .inl gb)), (a 11, .inr (6, [.int (nI ((sW S).length)), .ref (a 12)])), (a 12, .inl (gy G 0, 10, .inl gw)), (a 13, .inl (gy G 0, 5, .inl (sI S 8))), (a 14, .inl (gy G 0, 6, .inl (fun j => nI (sS S j))))]) E (mX2_reasonOnDay G a S gb gw p v d hI hT hR hQ (by omega) (by omega) (by omega)) gX2_reasonAgainst_X2_reasonOnDay rfl hdX2_reasonOnDay ⟨Nat.le_of_ble_eq_true rfl, Nat.le_of_ble_eq_true rfl⟩ 3 0 rfl rfl rfl (gPerm_ix [0, 1, 2, 3, 4, 5, 6, 7, 8, 9, 10, 11, 12, 13, 14] rfl rfl) rfl rfl (Nat.le_of_ble_eq_true rfl) dX2_reasonAgainst_4 ⟨Nat.le_of_ble_eq_true rfl, Nat.le_of_ble_eq_true rfl⟩ (gPerm_ix [0, 1, 2, 3, 4, 5, 6, 7, 8, 9, 10, 11, 12, 13, 14] rfl rfl) ?_
  refine g_istore (lv' := [(5, .int (nI (gROD S p v d))), (0, .ref (a 0)), (1, .int (nI p)), (2, .int (nI v)), (3, .int (nI d)), (4, .int (nI h))]) E dX2_reasonAgainst_7 (by decide) rfl ?_
  refine g_iload E dX2_reasonAgainst_9 0 rfl ?_
  refine g_if_eqN (tgt := 19) (a := gROD S p v d) E dX2_reasonAgainst_11 (by decide) (by omega) (fun c1 => ?_) (fun c1 => ?_)
  · skip
    refine g_aload_n E dX2_reasonAgainst_19 rfl 1 rfl ?_
    refine g_iload_n E dX2_reasonAgainst_20 rfl 2 rfl ?_
    refine g_iload_n E dX2_reasonAgainst_21 rfl 3 rfl ?_
    refine g_iload_n E dX2_reasonAgainst_22 rfl 4 rfl ?_
    refine g_iload E dX2_reasonAgainst_23 5 rfl ?_
    refine g_callVIe (F := []) (ws2 := [(a 0, .inr (3, [.int (nI (sN S 0)), .int (nI (sN S 1)), .ref (a 1), .ref (a 2), .ref (a 3), .ref (a 4), .ref (a 5), .ref (a 6), .ref (a 7), .ref (a 8), .int (sI S 9 0), .ref (a 9), .ref (a 11), .ref (a 13), .ref (a 14)])), (a 1, .inl (gy G 0, 8, .inl (sI S 0))), (a 2, .inl (gy G 0, 8, .inl (sI S 1))), (a 3, .inl (gy G 0, 8, .inl (sI S 2))), (a 4, .inl (gy G 0, 8, .inl (sI S 3))), (a 5, .inl (gy G 0, 8, .inl (sI S 4))), (a 6, .inl (gy G 0, 8, .inl (sI S 5))), (a 7, .inl (gy G 0, 10, .inl (sI S 6))), (a 8, .inl (gy G 0, 10, .inl (sI S 7))), (a 9, .inr (1, [.int (nI ((sB S).length)), .ref (a 10)])), (a 10, .inl (gy G 0, 144, .inl gb)), (a 11, .inr (6, [.int (nI ((sW S).length)), .ref (a 12)])), (a 12, .inl (gy G 0, 10, .inl gw)), (a 13, .inl (gy G 0, 5, .inl (sI S 8))), (a 14, .inl (gy G 0, 6, .inl (fun j => nI (sS S j))))]) E (mX2_reasonInHour G a S gb gw p v d h hI hT hR hQ (by omega) (by omega) (by omega) (by omega)) gX2_reasonAgainst_X2_reasonInHour rfl hdX2_reasonInHour ⟨Nat.le_of_ble_eq_true rfl, Nat.le_of_ble_eq_true rfl⟩ 3 0 rfl rfl rfl (gPerm_ix [0, 1, 2, 3, 4, 5, 6, 7, 8, 9, 10, 11, 12, 13, 14] rfl rfl) rfl rfl (Nat.le_of_ble_eq_true rfl) dX2_reasonAgainst_25 ⟨Nat.le_of_ble_eq_true rfl, Nat.le_of_ble_eq_true rfl⟩ (gPerm_ix [0, 1, 2, 3, 4, 5, 6, 7, 8, 9, 10, 11, 12, 13, 14] rfl rfl) ?_
    exact RET _ _ _ () (by first | (simp [gRA, c1]; done) | (simp [gRA, c1]; rfl) | (unfold gRA; (first | rw [if_pos c1] | rw [if_neg c1] | skip); first | rfl | (simp; done) | skip)) rfl dX2_reasonAgainst_28
  · skip
    refine g_iload E dX2_reasonAgainst_14 0 rfl ?_
    refine g_goto (tgt := 28) E dX2_reasonAgainst_16 (by decide) ?_
    exact RET _ _ _ () (by first | (simp [gRA, c1]; done) | (simp [gRA, c1]; rfl) | (unfold gRA; (first | rw [if_pos c1] | rw [if_neg c1] | skip); first | rfl | (simp; done) | skip)) rfl dX2_reasonAgainst_28
