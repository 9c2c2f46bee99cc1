theorem gSub1_lt {n : Nat} (h : n < 1000000) {x : Int32} : nI n - 1 < x ↔ nI n ≤ x := by
  rw [Int32.lt_iff_toInt_lt, Int32.le_iff_toInt_le, Int32.toInt_sub, nI_toInt (by omega), show (1 : Int32).toInt = 1 by decide, Int.bmod_eq_of_le (by omega) (by omega)]
  omega
set_option maxHeartbeats 4000000 in
set_option maxRecDepth 100000 in
theorem mX8_isVisitor (G : gG) (x : Int32)  : CIe G yX8_isVisitor wsX8_isVisitor 1 25 [.int x] [] (if (¬ x < 0 ∧ ¬ 9 < x) then 1 else 0) [] 0 0 := by
  refine g_enterIe (ty := .boolean) RX8 rfl (by decide) rfl (Nat.le_of_ble_eq_true rfl) ?_
  intro V E RET
  refine g_iload_n E dX8_isVisitor_0 rfl 0 rfl ?_
  refine g_i2l (v := x.toInt64) E dX8_isVisitor_1 rfl ?_
  refine g_lconst (v := 0) E dX8_isVisitor_2 (by decide) ?_
  refine g_ldc2 (v := 9) E kX8_isVisitor_162 dX8_isVisitor_3 ?_
  refine g_callSIe (F := []) (ws2 := []) E (g_resI (gIn64 (lo := 0) (hi := 9) rfl rfl) (mX8_in G x.toInt64 0 9)) gX8_isVisitor_X8_in rfl hnX8_in ⟨Nat.le_of_ble_eq_true rfl, Nat.le_of_ble_eq_true rfl⟩ (gPerm_ix [] rfl rfl) rfl rfl (Nat.le_of_ble_eq_true rfl) dX8_isVisitor_6 ⟨Nat.le_of_ble_eq_true rfl, Nat.le_of_ble_eq_true rfl⟩ (gPerm_ix [] rfl rfl) ?_
  exact RET _ _ _ () (rfl) (by split <;> rfl) dX8_isVisitor_9

set_option maxHeartbeats 4000000 in
set_option maxRecDepth 100000 in
theorem mX8_isRank (G : gG) (x : Int32)  : CIe G yX8_isRank wsX8_isRank 1 25 [.int x] [] (if (¬ x < 0 ∧ ¬ 3 < x) then 1 else 0) [] 0 0 := by
  refine g_enterIe (ty := .boolean) RX8 rfl (by decide) rfl (Nat.le_of_ble_eq_true rfl) ?_
  intro V E RET
  refine g_iload_n E dX8_isRank_0 rfl 0 rfl ?_
  refine g_i2l (v := x.toInt64) E dX8_isRank_1 rfl ?_
  refine g_lconst (v := 0) E dX8_isRank_2 (by decide) ?_
  refine g_ldc2 (v := 3) E kX8_isRank_276 dX8_isRank_3 ?_
  refine g_callSIe (F := []) (ws2 := []) E (g_resI (gIn64 (lo := 0) (hi := 3) rfl rfl) (mX8_in G x.toInt64 0 3)) gX8_isRank_X8_in rfl hnX8_in ⟨Nat.le_of_ble_eq_true rfl, Nat.le_of_ble_eq_true rfl⟩ (gPerm_ix [] rfl rfl) rfl rfl (Nat.le_of_ble_eq_true rfl) dX8_isRank_6 ⟨Nat.le_of_ble_eq_true rfl, Nat.le_of_ble_eq_true rfl⟩ (gPerm_ix [] rfl rfl) ?_
  exact RET _ _ _ () (rfl) (by split <;> rfl) dX8_isRank_9

set_option maxHeartbeats 4000000 in
set_option maxRecDepth 100000 in
theorem mX8_isRun (G : gG) (x : Int32)  : CIe G yX8_isRun wsX8_isRun 1 25 [.int x] [] (if (¬ x < 1 ∧ ¬ 30 < x) then 1 else 0) [] 0 0 := by
  refine g_enterIe (ty := .boolean) RX8 rfl (by decide) rfl (Nat.le_of_ble_eq_true rfl) ?_
  intro V E RET
  refine g_iload_n E dX8_isRun_0 rfl 0 rfl ?_
  refine g_i2l (v := x.toInt64) E dX8_isRun_1 rfl ?_
  refine g_lconst (v := 1) E dX8_isRun_2 (by decide) ?_
  refine g_ldc2 (v := 30) E kX8_isRun_298 dX8_isRun_3 ?_
  refine g_callSIe (F := []) (ws2 := []) E (g_resI (gIn64 (lo := 1) (hi := 30) rfl rfl) (mX8_in G x.toInt64 1 30)) gX8_isRun_X8_in rfl hnX8_in ⟨Nat.le_of_ble_eq_true rfl, Nat.le_of_ble_eq_true rfl⟩ (gPerm_ix [] rfl rfl) rfl rfl (Nat.le_of_ble_eq_true rfl) dX8_isRun_6 ⟨Nat.le_of_ble_eq_true rfl, Nat.le_of_ble_eq_true rfl⟩ (gPerm_ix [] rfl rfl) ?_
  exact RET _ _ _ () (rfl) (by split <;> rfl) dX8_isRun_9

set_option maxHeartbeats 4000000 in
set_option maxRecDepth 100000 in
theorem mX8_isFar (G : gG) (x : Int32)  : CIe G yX8_isFar wsX8_isFar 1 25 [.int x] [] (if (¬ x < 1 ∧ ¬ 60 < x) then 1 else 0) [] 0 0 := by
  refine g_enterIe (ty := .boolean) RX8 rfl (by decide) rfl (Nat.le_of_ble_eq_true rfl) ?_
  intro V E RET
  refine g_iload_n E dX8_isFar_0 rfl 0 rfl ?_
  refine g_i2l (v := x.toInt64) E dX8_isFar_1 rfl ?_
  refine g_lconst (v := 1) E dX8_isFar_2 (by decide) ?_
  refine g_ldc2 (v := 60) E kX8_isFar_307 dX8_isFar_3 ?_
  refine g_callSIe (F := []) (ws2 := []) E (g_resI (gIn64 (lo := 1) (hi := 60) rfl rfl) (mX8_in G x.toInt64 1 60)) gX8_isFar_X8_in rfl hnX8_in ⟨Nat.le_of_ble_eq_true rfl, Nat.le_of_ble_eq_true rfl⟩ (gPerm_ix [] rfl rfl) rfl rfl (Nat.le_of_ble_eq_true rfl) dX8_isFar_6 ⟨Nat.le_of_ble_eq_true rfl, Nat.le_of_ble_eq_true rfl⟩ (gPerm_ix [] rfl rfl) ?_
  exact RET _ _ _ () (rfl) (by split <;> rfl) dX8_isFar_9

set_option maxHeartbeats 4000000 in
set_option maxRecDepth 100000 in
theorem mX8_isPrisoner (G : gG) (m : Nat → Nat) (q : Nat → Int32) (S : gSt) (f : Nat → Int32) (x : Int32) (hI : gI1 S) (hT : sN S 0 < 1000000000) (hRR : RR S f) : CIe G yX8_isPrisoner wsX8_isPrisoner 1 25 [.ref (m 0), .int x] [(m 0, .inr (8, [.int (q 0), .ref (m 1), .int (q 1), .int (q 2), .int (q 3), .int (q 4), .ref (m 2), .ref (m 3), .ref (m 4), .ref (m 5), .int (q 5), .ref (m 6), .ref (m 7), .ref (m 8), .int (q 6), .int (q 7), .int (q 8)])), (m 3, .inl (gy G 0, 271, .inl f))] (if (¬ x < 0 ∧ ¬ nI (sN S 1) ≤ x) then 1 else 0) [(m 0, .inr (8, [.int (q 0), .ref (m 1), .int (q 1), .int (q 2), .int (q 3), .int (q 4), .ref (m 2), .ref (m 3), .ref (m 4), .ref (m 5), .int (q 5), .ref (m 6), .ref (m 7), .ref (m 8), .int (q 6), .int (q 7), .int (q 8)])), (m 3, .inl (gy G 0, 271, .inl f))] 0 0 := by
  refine g_enterIe (ty := .boolean) RX8 rfl (by decide) rfl (Nat.le_of_ble_eq_true rfl) ?_
  intro V E RET
  have hX := hI
  obtain ⟨hP8, hn, hw, hW8, hs3, hs4, hs5, hs6, hs7, hs8, hb34⟩ := hX
  refine g_iload_n E dX8_isPrisoner_0 rfl 1 rfl ?_
  refine g_i2l (v := x.toInt64) E dX8_isPrisoner_1 rfl ?_
  refine g_lconst (v := 0) E dX8_isPrisoner_2 (by decide) ?_
  refine g_aload_n E dX8_isPrisoner_3 rfl 0 rfl ?_
  refine g_get E uX8_isPrisoner_RX8 0 rfl rfl 7 (by decide) kX8_isPrisoner_16 rfl rfl dX8_isPrisoner_4 ?_
  refine g_iconst (v := 1) E dX8_isPrisoner_7 (by decide) ?_
  refine g_ialdN (e := 1) E 1 rfl (by omega) rfl (v := nI (sN S 1)) (RR_1 hRR) dX8_isPrisoner_8 ?_
  refine g_iconst (v := 1) E dX8_isPrisoner_9 (by decide) ?_
  refine g_isub E dX8_isPrisoner_10 ?_
  refine g_i2l (v := ((nI (sN S 1)) - 1).toInt64) E dX8_isPrisoner_11 rfl ?_
  refine g_callSIe (F := [(m 0, .inr (8, [.int (q 0), .ref (m 1), .int (q 1), .int (q 2), .int (q 3), .int (q 4), .ref (m 2), .ref (m 3), .ref (m 4), .ref (m 5), .int (q 5), .ref (m 6), .ref (m 7), .ref (m 8), .int (q 6), .int (q 7), .int (q 8)])), (m 3, .inl (gy G 0, 271, .inl f))]) (ws2 := [(m 0, .inr (8, [.int (q 0), .ref (m 1), .int (q 1), .int (q 2), .int (q 3), .int (q 4), .ref (m 2), .ref (m 3), .ref (m 4), .ref (m 5), .int (q 5), .ref (m 6), .ref (m 7), .ref (m 8), .int (q 6), .int (q 7), .int (q 8)])), (m 3, .inl (gy G 0, 271, .inl f))]) E (g_resI (gIn64 (lo := 0) (hi := (nI (sN S 1)) - 1) rfl rfl) (mX8_in G x.toInt64 0 (((nI (sN S 1)) - 1).toInt64))) gX8_isPrisoner_X8_in rfl hnX8_in ⟨Nat.le_of_ble_eq_true rfl, Nat.le_of_ble_eq_true rfl⟩ (gPerm_ix [0, 1] rfl rfl) rfl rfl (Nat.le_of_ble_eq_true rfl) dX8_isPrisoner_12 ⟨Nat.le_of_ble_eq_true rfl, Nat.le_of_ble_eq_true rfl⟩ (gPerm_ix [0, 1] rfl rfl) ?_
  refine g_top (y := if (¬ x < 0 ∧ ¬ nI (sN S 1) ≤ x) then 1 else 0) (by simp only [gSub1_lt (show sN S 1 < 1000000 by omega)]) ?_
  exact RET _ _ _ () (rfl) (by split <;> rfl) dX8_isPrisoner_15

set_option maxHeartbeats 4000000 in
set_option maxRecDepth 100000 in
theorem mX8_isBooking (G : gG) (m : Nat → Nat) (q : Nat → Int32) (S : gSt) (f : Nat → Int32) (x : Int32) (hI : gI1 S) (hT : sN S 0 < 1000000000) (hRR : RR S f) : CIe G yX8_isBooking wsX8_isBooking 1 25 [.ref (m 0), .int x] [(m 0, .inr (8, [.int (q 0), .ref (m 1), .int (q 1), .int (q 2), .int (q 3), .int (q 4), .ref (m 2), .ref (m 3), .ref (m 4), .ref (m 5), .int (q 5), .ref (m 6), .ref (m 7), .ref (m 8), .int (q 6), .int (q 7), .int (q 8)])), (m 3, .inl (gy G 0, 271, .inl f))] (if (¬ x < 0 ∧ ¬ nI ((sB S).length) ≤ x) then 1 else 0) [(m 0, .inr (8, [.int (q 0), .ref (m 1), .int (q 1), .int (q 2), .int (q 3), .int (q 4), .ref (m 2), .ref (m 3), .ref (m 4), .ref (m 5), .int (q 5), .ref (m 6), .ref (m 7), .ref (m 8), .int (q 6), .int (q 7), .int (q 8)])), (m 3, .inl (gy G 0, 271, .inl f))] 0 0 := by
  refine g_enterIe (ty := .boolean) RX8 rfl (by decide) rfl (Nat.le_of_ble_eq_true rfl) ?_
  intro V E RET
  have hX := hI
  obtain ⟨hP8, hn, hw, hW8, hs3, hs4, hs5, hs6, hs7, hs8, hb34⟩ := hX
  refine g_iload_n E dX8_isBooking_0 rfl 1 rfl ?_
  refine g_i2l (v := x.toInt64) E dX8_isBooking_1 rfl ?_
  refine g_lconst (v := 0) E dX8_isBooking_2 (by decide) ?_
  refine g_aload_n E dX8_isBooking_3 rfl 0 rfl ?_
  refine g_get E uX8_isBooking_RX8 0 rfl rfl 7 (by decide) kX8_isBooking_16 rfl rfl dX8_isBooking_4 ?_
  refine g_iconst (v := 2) E dX8_isBooking_7 (by decide) ?_
  refine g_ialdN (e := 2) E 1 rfl (by omega) rfl (v := nI ((sB S).length)) (RR_2 hRR) dX8_isBooking_8 ?_
  refine g_iconst (v := 1) E dX8_isBooking_9 (by decide) ?_
  refine g_isub E dX8_isBooking_10 ?_
  refine g_i2l (v := ((nI ((sB S).length)) - 1).toInt64) E dX8_isBooking_11 rfl ?_
  refine g_callSIe (F := [(m 0, .inr (8, [.int (q 0), .ref (m 1), .int (q 1), .int (q 2), .int (q 3), .int (q 4), .ref (m 2), .ref (m 3), .ref (m 4), .ref (m 5), .int (q 5), .ref (m 6), .ref (m 7), .ref (m 8), .int (q 6), .int (q 7), .int (q 8)])), (m 3, .inl (gy G 0, 271, .inl f))]) (ws2 := [(m 0, .inr (8, [.int (q 0), .ref (m 1), .int (q 1), .int (q 2), .int (q 3), .int (q 4), .ref (m 2), .ref (m 3), .ref (m 4), .ref (m 5), .int (q 5), .ref (m 6), .ref (m 7), .ref (m 8), .int (q 6), .int (q 7), .int (q 8)])), (m 3, .inl (gy G 0, 271, .inl f))]) E (g_resI (gIn64 (lo := 0) (hi := (nI ((sB S).length)) - 1) rfl rfl) (mX8_in G x.toInt64 0 (((nI ((sB S).length)) - 1).toInt64))) gX8_isBooking_X8_in rfl hnX8_in ⟨Nat.le_of_ble_eq_true rfl, Nat.le_of_ble_eq_true rfl⟩ (gPerm_ix [0, 1] rfl rfl) rfl rfl (Nat.le_of_ble_eq_true rfl) dX8_isBooking_12 ⟨Nat.le_of_ble_eq_true rfl, Nat.le_of_ble_eq_true rfl⟩ (gPerm_ix [0, 1] rfl rfl) ?_
  refine g_top (y := if (¬ x < 0 ∧ ¬ nI ((sB S).length) ≤ x) then 1 else 0) (by simp only [gSub1_lt (show (sB S).length < 1000000 by omega)]) ?_
  exact RET _ _ _ () (rfl) (by split <;> rfl) dX8_isBooking_15

set_option maxHeartbeats 4000000 in
set_option maxRecDepth 100000 in
theorem mX8_thrown (G : gG) (m : Nat → Nat) (q : Nat → Int32)  : CIe G yX8_thrown wsX8_thrown 0 0 [.ref (m 0)] [(m 0, .inr (8, [.int (q 0), .ref (m 1), .int (q 1), .int (q 2), .int (q 3), .int (q 4), .ref (m 2), .ref (m 3), .ref (m 4), .ref (m 5), .int (q 5), .ref (m 6), .ref (m 7), .ref (m 8), .int (q 6), .int (q 7), .int (q 8)]))] (q 0) [(m 0, .inr (8, [.int (q 0), .ref (m 1), .int (q 1), .int (q 2), .int (q 3), .int (q 4), .ref (m 2), .ref (m 3), .ref (m 4), .ref (m 5), .int (q 5), .ref (m 6), .ref (m 7), .ref (m 8), .int (q 6), .int (q 7), .int (q 8)]))] 0 0 := by
  refine g_enterIe (ty := .int) RX8 rfl (by decide) rfl (Nat.le_of_ble_eq_true rfl) ?_
  intro V E RET
  refine g_aload_n E dX8_thrown_0 rfl 0 rfl ?_
  refine g_get E uX8_thrown_RX8 0 rfl rfl 0 (by decide) kX8_thrown_39 rfl rfl dX8_thrown_1 ?_
  exact RET _ _ _ () (rfl) rfl dX8_thrown_4

set_option maxHeartbeats 4000000 in
set_option maxRecDepth 100000 in
theorem mX8_refused (G : gG) (m : Nat → Nat) (q : Nat → Int32) (x : Int32)  : CIe G yX8_refused wsX8_refused 0 0 [.ref (m 0), .int x] [(m 0, .inr (8, [.int (q 0), .ref (m 1), .int (q 1), .int (q 2), .int (q 3), .int (q 4), .ref (m 2), .ref (m 3), .ref (m 4), .ref (m 5), .int (q 5), .ref (m 6), .ref (m 7), .ref (m 8), .int (q 6), .int (q 7), .int (q 8)]))] (if 0 < x then 1 else 0) [(m 0, .inr (8, [.int x, .ref (m 1), .int (q 1), .int (q 2), .int (q 3), .int (q 4), .ref (m 2), .ref (m 3), .ref (m 4), .ref (m 5), .int (q 5), .ref (m 6), .ref (m 7), .ref (m 8), .int (q 6), .int (q 7), .int (q 8)]))] 0 0 := by
  refine g_enterIe (ty := .boolean) RX8 rfl (by decide) rfl (Nat.le_of_ble_eq_true rfl) ?_
  intro V E RET
  refine g_aload_n E dX8_refused_0 rfl 0 rfl ?_
  refine g_iload_n E dX8_refused_1 rfl 1 rfl ?_
  refine g_put (ws' := [(m 0, .inr (8, [.int x, .ref (m 1), .int (q 1), .int (q 2), .int (q 3), .int (q 4), .ref (m 2), .ref (m 3), .ref (m 4), .ref (m 5), .int (q 5), .ref (m 6), .ref (m 7), .ref (m 8), .int (q 6), .int (q 7), .int (q 8)]))]) E uX8_refused_RX8 tyX8 tyX8_ok nmX8 0 rfl rfl 0 (by decide) kX8_refused_39 rfl rfl rfl rfl (Nat.le_of_ble_eq_true rfl) rfl dX8_refused_2 ?_
  refine g_iload_n E dX8_refused_5 rfl 1 rfl ?_
  refine g_if_le (tgt := 13) E dX8_refused_6 (by decide) (fun c1 => ?_) (fun c1 => ?_)
  · skip
    rw [← Int32.not_lt] at c1
    refine g_iconst (v := 0) E dX8_refused_13 (by decide) ?_
    exact RET _ _ _ () (by simp [c1]) rfl dX8_refused_14
  · skip
    rw [Int32.not_le] at c1
    refine g_iconst (v := 1) E dX8_refused_9 (by decide) ?_
    refine g_goto (tgt := 14) E dX8_refused_10 (by decide) ?_
    exact RET _ _ _ () (by simp [c1]) rfl dX8_refused_14

set_option maxHeartbeats 4000000 in
set_option maxRecDepth 100000 in
theorem mX8_tryIt (G : gG) (m : Nat → Nat) (q : Nat → Int32) (f g : Nat → Int32)  : CVe G yX8_tryIt wsX8_tryIt 1 25 [.ref (m 0)] [(m 0, .inr (8, [.int (q 0), .ref (m 1), .int (q 1), .int (q 2), .int (q 3), .int (q 4), .ref (m 2), .ref (m 3), .ref (m 4), .ref (m 5), .int (q 5), .ref (m 6), .ref (m 7), .ref (m 8), .int (q 6), .int (q 7), .int (q 8)])), (m 3, .inl (gy G 0, 271, .inl f)), (m 4, .inl (gy G 0, 271, .inl g))]  [(m 0, .inr (8, [.int (q 0), .ref (m 1), .int (q 1), .int (q 2), .int (q 3), .int (q 4), .ref (m 2), .ref (m 3), .ref (m 4), .ref (m 5), .int (q 5), .ref (m 6), .ref (m 7), .ref (m 8), .int (-1), .int (q 7), .int (q 8)])), (m 3, .inl (gy G 0, 271, .inl f)), (m 4, .inl (gy G 0, 271, .inl (va_cpy f g 0 0 271)))] 0 0 := by
  refine g_enterVe RX8 rfl (by decide) rfl (Nat.le_of_ble_eq_true rfl) ?_
  intro V E RET
  refine g_aload_n E dX8_tryIt_0 rfl 0 rfl ?_
  refine g_get E uX8_tryIt_RX8 0 rfl rfl 7 (by decide) kX8_tryIt_16 rfl rfl dX8_tryIt_1 ?_
  refine g_iconst (v := 0) E dX8_tryIt_4 (by decide) ?_
  refine g_aload_n E dX8_tryIt_5 rfl 0 rfl ?_
  refine g_get E uX8_tryIt_RX8 0 rfl rfl 8 (by decide) kX8_tryIt_19 rfl rfl dX8_tryIt_6 ?_
  refine g_iconst (v := 0) E dX8_tryIt_9 (by decide) ?_
  refine g_sipush (v := 271) E dX8_tryIt_10 (by decide) ?_
  refine g_callSVe (F := [(m 0, .inr (8, [.int (q 0), .ref (m 1), .int (q 1), .int (q 2), .int (q 3), .int (q 4), .ref (m 2), .ref (m 3), .ref (m 4), .ref (m 5), .int (q 5), .ref (m 6), .ref (m 7), .ref (m 8), .int (q 6), .int (q 7), .int (q 8)]))]) (ws2 := [(m 0, .inr (8, [.int (q 0), .ref (m 1), .int (q 1), .int (q 2), .int (q 3), .int (q 4), .ref (m 2), .ref (m 3), .ref (m 4), .ref (m 5), .int (q 5), .ref (m 6), .ref (m 7), .ref (m 8), .int (q 6), .int (q 7), .int (q 8)])), (m 3, .inl (gy G 0, 271, .inl f)), (m 4, .inl (gy G 0, 271, .inl (va_cpy f g 0 0 271)))]) E (mX8_copyB G (m 3) (m 4) f g 0 0 271 (by omega) (by omega)) gX8_tryIt_X8_copy rfl hnX8_copy ⟨Nat.le_of_ble_eq_true rfl, Nat.le_of_ble_eq_true rfl⟩ (gPerm_ix [1, 2, 0] rfl rfl) rfl rfl (Nat.le_of_ble_eq_true rfl) dX8_tryIt_13 ⟨Nat.le_of_ble_eq_true rfl, Nat.le_of_ble_eq_true rfl⟩ (gPerm_ix [2, 0, 1] rfl rfl) ?_
  refine g_aload_n E dX8_tryIt_16 rfl 0 rfl ?_
  refine g_iconst (v := (-1)) E dX8_tryIt_17 (by decide) ?_
  refine g_put (ws' := [(m 0, .inr (8, [.int (q 0), .ref (m 1), .int (q 1), .int (q 2), .int (q 3), .int (q 4), .ref (m 2), .ref (m 3), .ref (m 4), .ref (m 5), .int (q 5), .ref (m 6), .ref (m 7), .ref (m 8), .int (-1), .int (q 7), .int (q 8)])), (m 3, .inl (gy G 0, 271, .inl f)), (m 4, .inl (gy G 0, 271, .inl (va_cpy f g 0 0 271)))]) E uX8_tryIt_RX8 tyX8 tyX8_ok nmX8 0 rfl rfl 14 (by decide) kX8_tryIt_52 rfl rfl rfl rfl (Nat.le_of_ble_eq_true rfl) rfl dX8_tryIt_18 ?_
  exact RET _ _ () (trivial) dX8_tryIt_21
