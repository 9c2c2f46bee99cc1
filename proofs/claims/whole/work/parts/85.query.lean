set_option maxHeartbeats 4000000 in
set_option maxRecDepth 100000 in
theorem mX8_banned (G : gG) (m : Nat → Nat) (q : Nat → Int32) (S : gSt) (f : Nat → Int32)  (hI : gI1 S) (hT : sN S 0 < 1000000000) (hRR : RR S f) : CIe G yX8_banned wsX8_banned 2 43 [.ref (m 0)] [(m 0, .inr (8, [.int (q 0), .ref (m 1), .int (q 1), .int (q 2), .int (q 3), .int (q 4), .ref (m 2), .ref (m 3), .ref (m 4), .ref (m 5), .int (q 5), .ref (m 6), .ref (m 7), .ref (m 8), .int (q 6), .int (q 7), .int (q 8)])), (m 3, .inl (gy G 0, 271, .inl f))] (nI (gCnt (fun j => decide (nI (sN S 0) < sI S 7 j)) 10)) [(m 0, .inr (8, [.int (q 0), .ref (m 1), .int (q 1), .int (q 2), .int (q 3), .int (q 4), .ref (m 2), .ref (m 3), .ref (m 4), .ref (m 5), .int (q 5), .ref (m 6), .ref (m 7), .ref (m 8), .int (q 6), .int (q 7), .int (q 8)])), (m 3, .inl (gy G 0, 271, .inl f))] 0 0 := by
  refine g_enterIe (ty := .int) RX8 rfl (by decide) rfl (Nat.le_of_ble_eq_true rfl) ?_
  intro V E RET
  have hX := hI
  obtain ⟨hP8, hn, hw, hW8, hs3, hs4, hs5, hs6, hs7, hs8, hb34⟩ := hX
  refine g_iconst (v := 0) E dX8_banned_0 (by decide) ?_
  refine g_istore_n (lv' := [(1, .int 0), (0, .ref (m 0))]) E dX8_banned_1 rfl (by decide) rfl ?_
  refine g_iconst (v := 0) E dX8_banned_2 (by decide) ?_
  refine g_istore_n (lv' := [(2, .int 0), (1, .int 0), (0, .ref (m 0))]) E dX8_banned_3 rfl (by decide) rfl ?_
  have loop1 : ∀ (n2 : Nat) (k x : Nat), (k ≤ 10) → (x = gCnt (fun j => decide (nI (sN S 0) < sI S 7 j)) k) → 10 - k < n2 → gW V 3 0 0 [(m 0, .inr (8, [.int (q 0), .ref (m 1), .int (q 1), .int (q 2), .int (q 3), .int (q 4), .ref (m 2), .ref (m 3), .ref (m 4), .ref (m 5), .int (q 5), .ref (m 6), .ref (m 7), .ref (m 8), .int (q 6), .int (q 7), .int (q 8)])), (m 3, .inl (gy G 0, 271, .inl f))] [(0, .ref (m 0)), (1, .int (nI x)), (2, .int (nI k))] 4 [] := by
    intro n2
    induction n2 with
    | zero => intro k x hk hx hm4; exact absurd hm4 (Nat.not_lt_zero _)
    | succ n2 ih3 =>
      intro k x hk hx hm4
      refine g_iload_n E dX8_banned_4 rfl 2 rfl ?_
      refine g_bipush (v := 10) E dX8_banned_5 (by decide) ?_
      refine g_icmp_geN (tgt := 41) (a := k) (b := 10) E dX8_banned_7 (by decide) (by omega) (by omega) (fun c5 => ?_) (fun c5 => ?_)
      · skip
        obtain rfl : k = 10 := by omega
        refine g_iload_n E dX8_banned_41 rfl 1 rfl ?_
        exact RET _ _ _ () (by rw [hx]) rfl dX8_banned_42
      · skip
        have hkn : k < 10 := by omega
        refine g_iload_n E dX8_banned_10 rfl 1 rfl ?_
        refine g_aload_n E dX8_banned_11 rfl 0 rfl ?_
        refine g_get E uX8_banned_RX8 0 rfl rfl 7 (by decide) kX8_banned_16 rfl rfl dX8_banned_12 ?_
        refine g_iload_n E dX8_banned_15 rfl 2 rfl ?_
        refine g_aload_n E dX8_banned_16 rfl 0 rfl ?_
        refine g_get E uX8_banned_RX8 0 rfl rfl 7 (by decide) kX8_banned_16 rfl rfl dX8_banned_17 ?_
        refine g_iconst (v := 0) E dX8_banned_20 (by decide) ?_
        refine g_ialdN (e := 0) E 1 rfl (by omega) rfl (v := nI (sN S 0)) (RR_0 hRR) dX8_banned_21 ?_
        refine g_callSIe (F := [(m 0, .inr (8, [.int (q 0), .ref (m 1), .int (q 1), .int (q 2), .int (q 3), .int (q 4), .ref (m 2), .ref (m 3), .ref (m 4), .ref (m 5), .int (q 5), .ref (m 6), .ref (m 7), .ref (m 8), .int (q 6), .int (q 7), .int (q 8)]))]) (ws2 := [(m 0, .inr (8, [.int (q 0), .ref (m 1), .int (q 1), .int (q 2), .int (q 3), .int (q 4), .ref (m 2), .ref (m 3), .ref (m 4), .ref (m 5), .int (q 5), .ref (m 6), .ref (m 7), .ref (m 8), .int (q 6), .int (q 7), .int (q 8)])), (m 3, .inl (gy G 0, 271, .inl f))]) E (mX8_isBanned G (m 3) S f k (sN S 0) (gI1_r hI) hT hRR (by omega)) gX8_banned_X8_isBanned rfl hnX8_isBanned ⟨Nat.le_of_ble_eq_true rfl, Nat.le_of_ble_eq_true rfl⟩ (gPerm_ix [1, 0] rfl rfl) rfl rfl (Nat.le_of_ble_eq_true rfl) dX8_banned_22 ⟨Nat.le_of_ble_eq_true rfl, Nat.le_of_ble_eq_true rfl⟩ (gPerm_ix [1, 0] rfl rfl) ?_
        refine g_if_eqB (tgt := 32) (P := nI (sN S 0) < sI S 7 k) E dX8_banned_25 (by decide) (fun c6 => ?_) (fun c6 => ?_)
        · skip
          refine g_iconst (v := 0) E dX8_banned_32 (by decide) ?_
          refine g_iaddN (a := x) (b := 0) E dX8_banned_33 ?_
          refine g_istore_n (lv' := [(1, .int (nI (x + 0))), (0, .ref (m 0)), (2, .int (nI k))]) E dX8_banned_34 rfl (by decide) rfl ?_
          refine g_iinc (lv' := [(2, .int (nI (k + 1))), (1, .int (nI (x + 0))), (0, .ref (m 0))]) E dX8_banned_35 2 rfl (g_inc _ 1 (by decide)) (by decide) rfl ?_
          refine g_goto (tgt := 4) E dX8_banned_38 (by decide) ?_
          refine g_lv [2, 1, 0] rfl ?_
          exact ih3  (k + 1) (x + 0) (by omega) (by rw [hx, gCnt, if_neg (fun q => c6 (of_decide_eq_true q))]; try rfl) (by omega)
        · skip
          refine g_iconst (v := 1) E dX8_banned_28 (by decide) ?_
          refine g_goto (tgt := 33) E dX8_banned_29 (by decide) ?_
          refine g_iaddN (a := x) (b := 1) E dX8_banned_33 ?_
          refine g_istore_n (lv' := [(1, .int (nI (x + 1))), (0, .ref (m 0)), (2, .int (nI k))]) E dX8_banned_34 rfl (by decide) rfl ?_
          refine g_iinc (lv' := [(2, .int (nI (k + 1))), (1, .int (nI (x + 1))), (0, .ref (m 0))]) E dX8_banned_35 2 rfl (g_inc _ 1 (by decide)) (by decide) rfl ?_
          refine g_goto (tgt := 4) E dX8_banned_38 (by decide) ?_
          refine g_lv [2, 1, 0] rfl ?_
          exact ih3  (k + 1) (x + 1) (by omega) (by rw [hx, gCnt, if_pos (decide_eq_true c6)]; try rfl) (by omega)
  refine g_lv [2, 1, 0] rfl ?_
  exact loop1 _ 0 0 (Nat.zero_le _) rfl (Nat.lt_succ_self _)

set_option maxHeartbeats 4000000 in
set_option maxRecDepth 100000 in
theorem mX8_lost (G : gG) (m : Nat → Nat) (q : Nat → Int32) (S : gSt) (f : Nat → Int32)  (hI : gI1 S) (hT : sN S 0 < 1000000000) (hRR : RR S f) (hZ : gZp S) : CIe G yX8_lost wsX8_lost 2 43 [.ref (m 0)] [(m 0, .inr (8, [.int (q 0), .ref (m 1), .int (q 1), .int (q 2), .int (q 3), .int (q 4), .ref (m 2), .ref (m 3), .ref (m 4), .ref (m 5), .int (q 5), .ref (m 6), .ref (m 7), .ref (m 8), .int (q 6), .int (q 7), .int (q 8)])), (m 3, .inl (gy G 0, 271, .inl f))] (nI (gCnt (fun j => decide (nI (sN S 0) < sI S 2 j)) 8)) [(m 0, .inr (8, [.int (q 0), .ref (m 1), .int (q 1), .int (q 2), .int (q 3), .int (q 4), .ref (m 2), .ref (m 3), .ref (m 4), .ref (m 5), .int (q 5), .ref (m 6), .ref (m 7), .ref (m 8), .int (q 6), .int (q 7), .int (q 8)])), (m 3, .inl (gy G 0, 271, .inl f))] 0 0 := by
  refine g_enterIe (ty := .int) RX8 rfl (by decide) rfl (Nat.le_of_ble_eq_true rfl) ?_
  intro V E RET
  have hX := hI
  obtain ⟨hP8, hn, hw, hW8, hs3, hs4, hs5, hs6, hs7, hs8, hb34⟩ := hX
  refine g_iconst (v := 0) E dX8_lost_0 (by decide) ?_
  refine g_istore_n (lv' := [(1, .int 0), (0, .ref (m 0))]) E dX8_lost_1 rfl (by decide) rfl ?_
  refine g_iconst (v := 0) E dX8_lost_2 (by decide) ?_
  refine g_istore_n (lv' := [(2, .int 0), (1, .int 0), (0, .ref (m 0))]) E dX8_lost_3 rfl (by decide) rfl ?_
  have loop1 : ∀ (n2 : Nat) (k x : Nat), (k ≤ sN S 1) → (x = gCnt (fun j => decide (nI (sN S 0) < sI S 2 j)) k) → sN S 1 - k < n2 → gW V 3 0 0 [(m 0, .inr (8, [.int (q 0), .ref (m 1), .int (q 1), .int (q 2), .int (q 3), .int (q 4), .ref (m 2), .ref (m 3), .ref (m 4), .ref (m 5), .int (q 5), .ref (m 6), .ref (m 7), .ref (m 8), .int (q 6), .int (q 7), .int (q 8)])), (m 3, .inl (gy G 0, 271, .inl f))] [(0, .ref (m 0)), (1, .int (nI x)), (2, .int (nI k))] 4 [] := by
    intro n2
    induction n2 with
    | zero => intro k x hk hx hm4; exact absurd hm4 (Nat.not_lt_zero _)
    | succ n2 ih3 =>
      intro k x hk hx hm4
      refine g_iload_n E dX8_lost_4 rfl 2 rfl ?_
      refine g_aload_n E dX8_lost_5 rfl 0 rfl ?_
      refine g_get E uX8_lost_RX8 0 rfl rfl 7 (by decide) kX8_lost_16 rfl rfl dX8_lost_6 ?_
      refine g_iconst (v := 1) E dX8_lost_9 (by decide) ?_
      refine g_ialdN (e := 1) E 1 rfl (by omega) rfl (v := nI (sN S 1)) (RR_1 hRR) dX8_lost_10 ?_
      refine g_icmp_geN (tgt := 45) (a := k) (b := sN S 1) E dX8_lost_11 (by decide) (by omega) (by omega) (fun c5 => ?_) (fun c5 => ?_)
      · skip
        obtain rfl : k = sN S 1 := by omega
        refine g_iload_n E dX8_lost_45 rfl 1 rfl ?_
        exact RET _ _ _ () (by rw [hx]; exact congrArg nI (gLost_all hZ hP8 hT)) rfl dX8_lost_46
      · skip
        have hkn : k < sN S 1 := by omega
        refine g_iload_n E dX8_lost_14 rfl 1 rfl ?_
        refine g_aload_n E dX8_lost_15 rfl 0 rfl ?_
        refine g_get E uX8_lost_RX8 0 rfl rfl 7 (by decide) kX8_lost_16 rfl rfl dX8_lost_16 ?_
        refine g_iload_n E dX8_lost_19 rfl 2 rfl ?_
        refine g_aload_n E dX8_lost_20 rfl 0 rfl ?_
        refine g_get E uX8_lost_RX8 0 rfl rfl 7 (by decide) kX8_lost_16 rfl rfl dX8_lost_21 ?_
        refine g_iconst (v := 0) E dX8_lost_24 (by decide) ?_
        refine g_ialdN (e := 0) E 1 rfl (by omega) rfl (v := nI (sN S 0)) (RR_0 hRR) dX8_lost_25 ?_
        refine g_callSIe (F := [(m 0, .inr (8, [.int (q 0), .ref (m 1), .int (q 1), .int (q 2), .int (q 3), .int (q 4), .ref (m 2), .ref (m 3), .ref (m 4), .ref (m 5), .int (q 5), .ref (m 6), .ref (m 7), .ref (m 8), .int (q 6), .int (q 7), .int (q 8)]))]) (ws2 := [(m 0, .inr (8, [.int (q 0), .ref (m 1), .int (q 1), .int (q 2), .int (q 3), .int (q 4), .ref (m 2), .ref (m 3), .ref (m 4), .ref (m 5), .int (q 5), .ref (m 6), .ref (m 7), .ref (m 8), .int (q 6), .int (q 7), .int (q 8)])), (m 3, .inl (gy G 0, 271, .inl f))]) E (mX8_isLost G (m 3) S f k (sN S 0) (gI1_r hI) hT hRR (by omega)) gX8_lost_X8_isLost rfl hnX8_isLost ⟨Nat.le_of_ble_eq_true rfl, Nat.le_of_ble_eq_true rfl⟩ (gPerm_ix [1, 0] rfl rfl) rfl rfl (Nat.le_of_ble_eq_true rfl) dX8_lost_26 ⟨Nat.le_of_ble_eq_true rfl, Nat.le_of_ble_eq_true rfl⟩ (gPerm_ix [1, 0] rfl rfl) ?_
        refine g_if_eqB (tgt := 36) (P := nI (sN S 0) < sI S 2 k) E dX8_lost_29 (by decide) (fun c6 => ?_) (fun c6 => ?_)
        · skip
          refine g_iconst (v := 0) E dX8_lost_36 (by decide) ?_
          refine g_iaddN (a := x) (b := 0) E dX8_lost_37 ?_
          refine g_istore_n (lv' := [(1, .int (nI (x + 0))), (0, .ref (m 0)), (2, .int (nI k))]) E dX8_lost_38 rfl (by decide) rfl ?_
          refine g_iinc (lv' := [(2, .int (nI (k + 1))), (1, .int (nI (x + 0))), (0, .ref (m 0))]) E dX8_lost_39 2 rfl (g_inc _ 1 (by decide)) (by decide) rfl ?_
          refine g_goto (tgt := 4) E dX8_lost_42 (by decide) ?_
          refine g_lv [2, 1, 0] rfl ?_
          exact ih3  (k + 1) (x + 0) (by omega) (by rw [hx, gCnt, if_neg (fun q => c6 (of_decide_eq_true q))]; try rfl) (by omega)
        · skip
          refine g_iconst (v := 1) E dX8_lost_32 (by decide) ?_
          refine g_goto (tgt := 37) E dX8_lost_33 (by decide) ?_
          refine g_iaddN (a := x) (b := 1) E dX8_lost_37 ?_
          refine g_istore_n (lv' := [(1, .int (nI (x + 1))), (0, .ref (m 0)), (2, .int (nI k))]) E dX8_lost_38 rfl (by decide) rfl ?_
          refine g_iinc (lv' := [(2, .int (nI (k + 1))), (1, .int (nI (x + 1))), (0, .ref (m 0))]) E dX8_lost_39 2 rfl (g_inc _ 1 (by decide)) (by decide) rfl ?_
          refine g_goto (tgt := 4) E dX8_lost_42 (by decide) ?_
          refine g_lv [2, 1, 0] rfl ?_
          exact ih3  (k + 1) (x + 1) (by omega) (by rw [hx, gCnt, if_pos (decide_eq_true c6)]; try rfl) (by omega)
  refine g_lv [2, 1, 0] rfl ?_
  exact loop1 _ 0 0 (Nat.zero_le _) rfl (Nat.lt_succ_self _)

set_option maxHeartbeats 4000000 in
set_option maxRecDepth 100000 in
theorem mX8_bookingsOf (G : gG) (m : Nat → Nat) (q : Nat → Int32) (S : gSt) (f : Nat → Int32) (w y : Nat) (hI : gI1 S) (hT : sN S 0 < 1000000000) (hRR : RR S f) (hw7 : w < 7) (hy : y < 1000) : CIe G yX8_bookingsOf wsX8_bookingsOf 1 21 [.ref (m 0), .int (nI w), .int (nI y)] [(m 0, .inr (8, [.int (q 0), .ref (m 1), .int (q 1), .int (q 2), .int (q 3), .int (q 4), .ref (m 2), .ref (m 3), .ref (m 4), .ref (m 5), .int (q 5), .ref (m 6), .ref (m 7), .ref (m 8), .int (q 6), .int (q 7), .int (q 8)])), (m 3, .inl (gy G 0, 271, .inl f))] (nI (gCnt (fun k => bk (sB S) k w == y) ((sB S).length))) [(m 0, .inr (8, [.int (q 0), .ref (m 1), .int (q 1), .int (q 2), .int (q 3), .int (q 4), .ref (m 2), .ref (m 3), .ref (m 4), .ref (m 5), .int (q 5), .ref (m 6), .ref (m 7), .ref (m 8), .int (q 6), .int (q 7), .int (q 8)])), (m 3, .inl (gy G 0, 271, .inl f))] 0 0 := by
  refine g_enterIe (ty := .int) RX8 rfl (by decide) rfl (Nat.le_of_ble_eq_true rfl) ?_
  intro V E RET
  have hX := hI
  obtain ⟨hP8, hn, hw, hW8, hs3, hs4, hs5, hs6, hs7, hs8, hb34⟩ := hX
  refine g_iconst (v := 0) E dX8_bookingsOf_0 (by decide) ?_
  refine g_istore_n (lv' := [(3, .int 0), (0, .ref (m 0)), (1, .int (nI w)), (2, .int (nI y))]) E dX8_bookingsOf_1 rfl (by decide) rfl ?_
  refine g_iconst (v := 0) E dX8_bookingsOf_2 (by decide) ?_
  refine g_istore (lv' := [(4, .int 0), (3, .int 0), (0, .ref (m 0)), (1, .int (nI w)), (2, .int (nI y))]) E dX8_bookingsOf_3 (by decide) rfl ?_
  have loop1 : ∀ (n2 : Nat) (k x : Nat), (k ≤ (sB S).length) → (x = gCnt (fun k => bk (sB S) k w == y) k) → (sB S).length - k < n2 → gW V 5 0 0 [(m 0, .inr (8, [.int (q 0), .ref (m 1), .int (q 1), .int (q 2), .int (q 3), .int (q 4), .ref (m 2), .ref (m 3), .ref (m 4), .ref (m 5), .int (q 5), .ref (m 6), .ref (m 7), .ref (m 8), .int (q 6), .int (q 7), .int (q 8)])), (m 3, .inl (gy G 0, 271, .inl f))] [(0, .ref (m 0)), (1, .int (nI w)), (2, .int (nI y)), (3, .int (nI x)), (4, .int (nI k))] 5 [] := by
    intro n2
    induction n2 with
    | zero => intro k x hk hx hm4; exact absurd hm4 (Nat.not_lt_zero _)
    | succ n2 ih3 =>
      intro k x hk hx hm4
      refine g_iload E dX8_bookingsOf_5 4 rfl ?_
      refine g_aload_n E dX8_bookingsOf_7 rfl 0 rfl ?_
      refine g_get E uX8_bookingsOf_RX8 0 rfl rfl 7 (by decide) kX8_bookingsOf_16 rfl rfl dX8_bookingsOf_8 ?_
      refine g_iconst (v := 2) E dX8_bookingsOf_11 (by decide) ?_
      refine g_ialdN (e := 2) E 1 rfl (by omega) rfl (v := nI ((sB S).length)) (RR_2 hRR) dX8_bookingsOf_12 ?_
      refine g_icmp_geN (tgt := 45) (a := k) (b := (sB S).length) E dX8_bookingsOf_13 (by decide) (by omega) (by omega) (fun c5 => ?_) (fun c5 => ?_)
      · skip
        obtain rfl : k = (sB S).length := by omega
        refine g_iload_n E dX8_bookingsOf_45 rfl 3 rfl ?_
        exact RET _ _ _ () (by rw [hx]) rfl dX8_bookingsOf_46
      · skip
        have hkn : k < (sB S).length := by omega
        have qw := (hRR.2.2.2.2.2.2.2.2.1 k hkn w hw7).2
        refine g_iload_n E dX8_bookingsOf_16 rfl 3 rfl ?_
        refine g_aload_n E dX8_bookingsOf_17 rfl 0 rfl ?_
        refine g_get E uX8_bookingsOf_RX8 0 rfl rfl 7 (by decide) kX8_bookingsOf_16 rfl rfl dX8_bookingsOf_18 ?_
        refine g_iload E dX8_bookingsOf_21 4 rfl ?_
        refine g_iload_n E dX8_bookingsOf_23 rfl 1 rfl ?_
        refine g_callSIe (F := [(m 0, .inr (8, [.int (q 0), .ref (m 1), .int (q 1), .int (q 2), .int (q 3), .int (q 4), .ref (m 2), .ref (m 3), .ref (m 4), .ref (m 5), .int (q 5), .ref (m 6), .ref (m 7), .ref (m 8), .int (q 6), .int (q 7), .int (q 8)])), (m 3, .inl (gy G 0, 271, .inl f))]) (ws2 := [(m 0, .inr (8, [.int (q 0), .ref (m 1), .int (q 1), .int (q 2), .int (q 3), .int (q 4), .ref (m 2), .ref (m 3), .ref (m 4), .ref (m 5), .int (q 5), .ref (m 6), .ref (m 7), .ref (m 8), .int (q 6), .int (q 7), .int (q 8)])), (m 3, .inl (gy G 0, 271, .inl f))]) E (mX8_bookingAt G k w (by omega) (by omega)) gX8_bookingsOf_X8_bookingAt rfl hnX8_bookingAt ⟨Nat.le_of_ble_eq_true rfl, Nat.le_of_ble_eq_true rfl⟩ (gPerm_ix [0, 1] rfl rfl) rfl rfl (Nat.le_of_ble_eq_true rfl) dX8_bookingsOf_24 ⟨Nat.le_of_ble_eq_true rfl, Nat.le_of_ble_eq_true rfl⟩ (gPerm_ix [0, 1] rfl rfl) ?_
        refine g_ialdN (e := 93 + 7 * k + w) E 1 rfl (by omega) rfl (v := nI (bk (sB S) k w)) (RR_B hRR (k := k) (w := w) (by omega) (by omega)) dX8_bookingsOf_27 ?_
        refine g_iload_n E dX8_bookingsOf_28 rfl 2 rfl ?_
        refine g_icmp_neN (tgt := 36) (a := bk (sB S) k w) (b := y) E dX8_bookingsOf_29 (by decide) (by omega) (by omega) (fun c6 => ?_) (fun c6 => ?_)
        · skip
          refine g_iconst (v := 0) E dX8_bookingsOf_36 (by decide) ?_
          refine g_iaddN (a := x) (b := 0) E dX8_bookingsOf_37 ?_
          refine g_istore_n (lv' := [(3, .int (nI (x + 0))), (0, .ref (m 0)), (1, .int (nI w)), (2, .int (nI y)), (4, .int (nI k))]) E dX8_bookingsOf_38 rfl (by decide) rfl ?_
          refine g_iinc (lv' := [(4, .int (nI (k + 1))), (3, .int (nI (x + 0))), (0, .ref (m 0)), (1, .int (nI w)), (2, .int (nI y))]) E dX8_bookingsOf_39 4 rfl (g_inc _ 1 (by decide)) (by decide) rfl ?_
          refine g_goto (tgt := 5) E dX8_bookingsOf_42 (by decide) ?_
          refine g_lv [2, 3, 4, 1, 0] rfl ?_
          exact ih3  (k + 1) (x + 0) (by omega) (by rw [hx, gCnt, if_neg (fun q => c6 (beq_iff_eq.mp q))]; try rfl) (by omega)
        · skip
          refine g_iconst (v := 1) E dX8_bookingsOf_32 (by decide) ?_
          refine g_goto (tgt := 37) E dX8_bookingsOf_33 (by decide) ?_
          refine g_iaddN (a := x) (b := 1) E dX8_bookingsOf_37 ?_
          refine g_istore_n (lv' := [(3, .int (nI (x + 1))), (0, .ref (m 0)), (1, .int (nI w)), (2, .int (nI y)), (4, .int (nI k))]) E dX8_bookingsOf_38 rfl (by decide) rfl ?_
          refine g_iinc (lv' := [(4, .int (nI (k + 1))), (3, .int (nI (x + 1))), (0, .ref (m 0)), (1, .int (nI w)), (2, .int (nI y))]) E dX8_bookingsOf_39 4 rfl (g_inc _ 1 (by decide)) (by decide) rfl ?_
          refine g_goto (tgt := 5) E dX8_bookingsOf_42 (by decide) ?_
          refine g_lv [2, 3, 4, 1, 0] rfl ?_
          exact ih3  (k + 1) (x + 1) (by omega) (by rw [hx, gCnt, if_pos (beq_iff_eq.mpr c6)]; try rfl) (by omega)
  refine g_lv [2, 3, 4, 1, 0] rfl ?_
  exact loop1 _ 0 0 (Nat.zero_le _) rfl (Nat.lt_succ_self _)

set_option maxHeartbeats 4000000 in
set_option maxRecDepth 100000 in
theorem mX8_wishesOf (G : gG) (m : Nat → Nat) (q : Nat → Int32) (S : gSt) (f : Nat → Int32) (y : Nat) (hI : gI1 S) (hT : sN S 0 < 1000000000) (hRR : RR S f) (hy : y < 1000) : CIe G yX8_wishesOf wsX8_wishesOf 0 0 [.ref (m 0), .int (nI y)] [(m 0, .inr (8, [.int (q 0), .ref (m 1), .int (q 1), .int (q 2), .int (q 3), .int (q 4), .ref (m 2), .ref (m 3), .ref (m 4), .ref (m 5), .int (q 5), .ref (m 6), .ref (m 7), .ref (m 8), .int (q 6), .int (q 7), .int (q 8)])), (m 3, .inl (gy G 0, 271, .inl f))] (nI (gCnt (fun i => wq (sW S) i / 10 == y) ((sW S).length))) [(m 0, .inr (8, [.int (q 0), .ref (m 1), .int (q 1), .int (q 2), .int (q 3), .int (q 4), .ref (m 2), .ref (m 3), .ref (m 4), .ref (m 5), .int (q 5), .ref (m 6), .ref (m 7), .ref (m 8), .int (q 6), .int (q 7), .int (q 8)])), (m 3, .inl (gy G 0, 271, .inl f))] 0 0 := by
  refine g_enterIe (ty := .int) RX8 rfl (by decide) rfl (Nat.le_of_ble_eq_true rfl) ?_
  intro V E RET
  have hX := hI
  obtain ⟨hP8, hn, hw, hW8, hs3, hs4, hs5, hs6, hs7, hs8, hb34⟩ := hX
  refine g_iconst (v := 0) E dX8_wishesOf_0 (by decide) ?_
  refine g_istore_n (lv' := [(2, .int 0), (0, .ref (m 0)), (1, .int (nI y))]) E dX8_wishesOf_1 rfl (by decide) rfl ?_
  refine g_iconst (v := 0) E dX8_wishesOf_2 (by decide) ?_
  refine g_istore_n (lv' := [(3, .int 0), (2, .int 0), (0, .ref (m 0)), (1, .int (nI y))]) E dX8_wishesOf_3 rfl (by decide) rfl ?_
  have loop1 : ∀ (n2 : Nat) (k x : Nat), (k ≤ (sW S).length) → (x = gCnt (fun i => wq (sW S) i / 10 == y) k) → (sW S).length - k < n2 → gW V 4 0 0 [(m 0, .inr (8, [.int (q 0), .ref (m 1), .int (q 1), .int (q 2), .int (q 3), .int (q 4), .ref (m 2), .ref (m 3), .ref (m 4), .ref (m 5), .int (q 5), .ref (m 6), .ref (m 7), .ref (m 8), .int (q 6), .int (q 7), .int (q 8)])), (m 3, .inl (gy G 0, 271, .inl f))] [(0, .ref (m 0)), (1, .int (nI y)), (2, .int (nI x)), (3, .int (nI k))] 4 [] := by
    intro n2
    induction n2 with
    | zero => intro k x hk hx hm4; exact absurd hm4 (Nat.not_lt_zero _)
    | succ n2 ih3 =>
      intro k x hk hx hm4
      refine g_iload_n E dX8_wishesOf_4 rfl 3 rfl ?_
      refine g_aload_n E dX8_wishesOf_5 rfl 0 rfl ?_
      refine g_get E uX8_wishesOf_RX8 0 rfl rfl 7 (by decide) kX8_wishesOf_16 rfl rfl dX8_wishesOf_6 ?_
      refine g_iconst (v := 3) E dX8_wishesOf_9 (by decide) ?_
      refine g_ialdN (e := 3) E 1 rfl (by omega) rfl (v := nI ((sW S).length)) (RR_3 hRR) dX8_wishesOf_10 ?_
      refine g_icmp_geN (tgt := 45) (a := k) (b := (sW S).length) E dX8_wishesOf_11 (by decide) (by omega) (by omega) (fun c5 => ?_) (fun c5 => ?_)
      · skip
        obtain rfl : k = (sW S).length := by omega
        refine g_iload_n E dX8_wishesOf_45 rfl 2 rfl ?_
        exact RET _ _ _ () (by rw [hx]) rfl dX8_wishesOf_46
      · skip
        have hkn : k < (sW S).length := by omega
        have qw := (hW8 k hkn).1
        refine g_iload_n E dX8_wishesOf_14 rfl 2 rfl ?_
        refine g_aload_n E dX8_wishesOf_15 rfl 0 rfl ?_
        refine g_get E uX8_wishesOf_RX8 0 rfl rfl 7 (by decide) kX8_wishesOf_16 rfl rfl dX8_wishesOf_16 ?_
        refine g_sipush (v := 261) E dX8_wishesOf_19 (by decide) ?_
        refine g_iload_n E dX8_wishesOf_22 rfl 3 rfl ?_
        refine g_iaddN (a := 261) (b := k) E dX8_wishesOf_23 ?_
        refine g_ialdN (e := 261 + k) E 1 rfl (by omega) rfl (v := nI (wq (sW S) k)) (RR_W hRR (k := k) (by omega)) dX8_wishesOf_24 ?_
        refine g_bipush (v := 10) E dX8_wishesOf_25 (by decide) ?_
        refine g_idivN (a := wq (sW S) k) (b := 10) E dX8_wishesOf_27 (by omega) (by omega) (by omega) ?_
        refine g_iload_n E dX8_wishesOf_28 rfl 1 rfl ?_
        refine g_icmp_neN (tgt := 36) (a := (wq (sW S) k) / 10) (b := y) E dX8_wishesOf_29 (by decide) (by omega) (by omega) (fun c6 => ?_) (fun c6 => ?_)
        · skip
          refine g_iconst (v := 0) E dX8_wishesOf_36 (by decide) ?_
          refine g_iaddN (a := x) (b := 0) E dX8_wishesOf_37 ?_
          refine g_istore_n (lv' := [(2, .int (nI (x + 0))), (0, .ref (m 0)), (1, .int (nI y)), (3, .int (nI k))]) E dX8_wishesOf_38 rfl (by decide) rfl ?_
          refine g_iinc (lv' := [(3, .int (nI (k + 1))), (2, .int (nI (x + 0))), (0, .ref (m 0)), (1, .int (nI y))]) E dX8_wishesOf_39 3 rfl (g_inc _ 1 (by decide)) (by decide) rfl ?_
          refine g_goto (tgt := 4) E dX8_wishesOf_42 (by decide) ?_
          refine g_lv [2, 3, 1, 0] rfl ?_
          exact ih3  (k + 1) (x + 0) (by omega) (by rw [hx, gCnt, if_neg (fun q => c6 (beq_iff_eq.mp q))]; try rfl) (by omega)
        · skip
          refine g_iconst (v := 1) E dX8_wishesOf_32 (by decide) ?_
          refine g_goto (tgt := 37) E dX8_wishesOf_33 (by decide) ?_
          refine g_iaddN (a := x) (b := 1) E dX8_wishesOf_37 ?_
          refine g_istore_n (lv' := [(2, .int (nI (x + 1))), (0, .ref (m 0)), (1, .int (nI y)), (3, .int (nI k))]) E dX8_wishesOf_38 rfl (by decide) rfl ?_
          refine g_iinc (lv' := [(3, .int (nI (k + 1))), (2, .int (nI (x + 1))), (0, .ref (m 0)), (1, .int (nI y))]) E dX8_wishesOf_39 3 rfl (g_inc _ 1 (by decide)) (by decide) rfl ?_
          refine g_goto (tgt := 4) E dX8_wishesOf_42 (by decide) ?_
          refine g_lv [2, 3, 1, 0] rfl ?_
          exact ih3  (k + 1) (x + 1) (by omega) (by rw [hx, gCnt, if_pos (beq_iff_eq.mpr c6)]; try rfl) (by omega)
  refine g_lv [2, 3, 1, 0] rfl ?_
  exact loop1 _ 0 0 (Nat.zero_le _) rfl (Nat.lt_succ_self _)

set_option maxHeartbeats 4000000 in
set_option maxRecDepth 100000 in
theorem mX8_listsOf (G : gG) (m : Nat → Nat) (q : Nat → Int32) (S : gSt) (f : Nat → Int32) (v : Nat) (hI : gI1 S) (hT : sN S 0 < 1000000000) (hRR : RR S f) (hv : v < 10) (hZ : gZp S) : CIe G yX8_listsOf wsX8_listsOf 2 43 [.ref (m 0), .int (nI v)] [(m 0, .inr (8, [.int (q 0), .ref (m 1), .int (q 1), .int (q 2), .int (q 3), .int (q 4), .ref (m 2), .ref (m 3), .ref (m 4), .ref (m 5), .int (q 5), .ref (m 6), .ref (m 7), .ref (m 8), .int (q 6), .int (q 7), .int (q 8)])), (m 3, .inl (gy G 0, 271, .inl f))] (gPWL S v 8) [(m 0, .inr (8, [.int (q 0), .ref (m 1), .int (q 1), .int (q 2), .int (q 3), .int (q 4), .ref (m 2), .ref (m 3), .ref (m 4), .ref (m 5), .int (q 5), .ref (m 6), .ref (m 7), .ref (m 8), .int (q 6), .int (q 7), .int (q 8)])), (m 3, .inl (gy G 0, 271, .inl f))] 0 0 := by
  refine g_enterIe (ty := .int) RX8 rfl (by decide) rfl (Nat.le_of_ble_eq_true rfl) ?_
  intro V E RET
  have hX := hI
  obtain ⟨hP8, hn, hw, hW8, hs3, hs4, hs5, hs6, hs7, hs8, hb34⟩ := hX
  refine g_iconst (v := 0) E dX8_listsOf_0 (by decide) ?_
  refine g_istore_n (lv' := [(2, .int 0), (0, .ref (m 0)), (1, .int (nI v))]) E dX8_listsOf_1 rfl (by decide) rfl ?_
  refine g_iconst (v := 0) E dX8_listsOf_2 (by decide) ?_
  refine g_istore_n (lv' := [(3, .int 0), (2, .int 0), (0, .ref (m 0)), (1, .int (nI v))]) E dX8_listsOf_3 rfl (by decide) rfl ?_
  have loop1 : ∀ (n2 : Nat) (k : Nat) (x : Int32), (k ≤ sN S 1) → (x = gLs S v k) → sN S 1 - k < n2 → gW V 4 0 0 [(m 0, .inr (8, [.int (q 0), .ref (m 1), .int (q 1), .int (q 2), .int (q 3), .int (q 4), .ref (m 2), .ref (m 3), .ref (m 4), .ref (m 5), .int (q 5), .ref (m 6), .ref (m 7), .ref (m 8), .int (q 6), .int (q 7), .int (q 8)])), (m 3, .inl (gy G 0, 271, .inl f))] [(0, .ref (m 0)), (1, .int (nI v)), (2, .int x), (3, .int (nI k))] 4 [] := by
    intro n2
    induction n2 with
    | zero => intro k x hk hx hm4; exact absurd hm4 (Nat.not_lt_zero _)
    | succ n2 ih3 =>
      intro k x hk hx hm4
      refine g_iload_n E dX8_listsOf_4 rfl 3 rfl ?_
      refine g_aload_n E dX8_listsOf_5 rfl 0 rfl ?_
      refine g_get E uX8_listsOf_RX8 0 rfl rfl 7 (by decide) kX8_listsOf_16 rfl rfl dX8_listsOf_6 ?_
      refine g_iconst (v := 1) E dX8_listsOf_9 (by decide) ?_
      refine g_ialdN (e := 1) E 1 rfl (by omega) rfl (v := nI (sN S 1)) (RR_1 hRR) dX8_listsOf_10 ?_
      refine g_icmp_geN (tgt := 42) (a := k) (b := sN S 1) E dX8_listsOf_11 (by decide) (by omega) (by omega) (fun c5 => ?_) (fun c5 => ?_)
      · skip
        obtain rfl : k = sN S 1 := by omega
        refine g_iload_n E dX8_listsOf_42 rfl 2 rfl ?_
        exact RET _ _ _ () (by rw [hx]; exact gLs_all hZ hP8 (by omega)) rfl dX8_listsOf_43
      · skip
        have hkn : k < sN S 1 := by omega
        refine g_iload_n E dX8_listsOf_14 rfl 2 rfl ?_
        refine g_aload_n E dX8_listsOf_15 rfl 0 rfl ?_
        refine g_get E uX8_listsOf_RX8 0 rfl rfl 7 (by decide) kX8_listsOf_16 rfl rfl dX8_listsOf_16 ?_
        refine g_iload_n E dX8_listsOf_19 rfl 3 rfl ?_
        refine g_iload_n E dX8_listsOf_20 rfl 1 rfl ?_
        refine g_callSIe (F := [(m 0, .inr (8, [.int (q 0), .ref (m 1), .int (q 1), .int (q 2), .int (q 3), .int (q 4), .ref (m 2), .ref (m 3), .ref (m 4), .ref (m 5), .int (q 5), .ref (m 6), .ref (m 7), .ref (m 8), .int (q 6), .int (q 7), .int (q 8)]))]) (ws2 := [(m 0, .inr (8, [.int (q 0), .ref (m 1), .int (q 1), .int (q 2), .int (q 3), .int (q 4), .ref (m 2), .ref (m 3), .ref (m 4), .ref (m 5), .int (q 5), .ref (m 6), .ref (m 7), .ref (m 8), .int (q 6), .int (q 7), .int (q 8)])), (m 3, .inl (gy G 0, 271, .inl f))]) E (mX8_isListed G (m 3) S f k v (gI1_r hI) hT hRR (by omega) (by omega)) gX8_listsOf_X8_isListed rfl hnX8_isListed ⟨Nat.le_of_ble_eq_true rfl, Nat.le_of_ble_eq_true rfl⟩ (gPerm_ix [1, 0] rfl rfl) rfl rfl (Nat.le_of_ble_eq_true rfl) dX8_listsOf_21 ⟨Nat.le_of_ble_eq_true rfl, Nat.le_of_ble_eq_true rfl⟩ (gPerm_ix [1, 0] rfl rfl) ?_
        refine g_if_eqB (tgt := 33) (P := gHb (sI S 1 k) (nI v) = true) E dX8_listsOf_24 (by decide) (fun c6 => ?_) (fun c6 => ?_)
        · skip
          refine g_iconst (v := 0) E dX8_listsOf_33 (by decide) ?_
          refine g_ior E dX8_listsOf_34 ?_
          refine g_istore_n (lv' := [(2, .int (x ||| 0)), (0, .ref (m 0)), (1, .int (nI v)), (3, .int (nI k))]) E dX8_listsOf_35 rfl (by decide) rfl ?_
          refine g_iinc (lv' := [(3, .int (nI (k + 1))), (2, .int (x ||| 0)), (0, .ref (m 0)), (1, .int (nI v))]) E dX8_listsOf_36 3 rfl (g_inc _ 1 (by decide)) (by decide) rfl ?_
          refine g_goto (tgt := 4) E dX8_listsOf_39 (by decide) ?_
          refine g_lv [2, 3, 1, 0] rfl ?_
          exact ih3  (k + 1) _ (by omega) (by rw [hx, gLs, if_neg c6]) (by omega)
        · skip
          refine g_iconst (v := 1) E dX8_listsOf_27 (by decide) ?_
          refine g_iload_n E dX8_listsOf_28 rfl 3 rfl ?_
          refine g_ishl E dX8_listsOf_29 ?_
          refine g_goto (tgt := 34) E dX8_listsOf_30 (by decide) ?_
          refine g_ior E dX8_listsOf_34 ?_
          refine g_istore_n (lv' := [(2, .int (x ||| (1 <<< (nI k &&& 31)))), (0, .ref (m 0)), (1, .int (nI v)), (3, .int (nI k))]) E dX8_listsOf_35 rfl (by decide) rfl ?_
          refine g_iinc (lv' := [(3, .int (nI (k + 1))), (2, .int (x ||| (1 <<< (nI k &&& 31)))), (0, .ref (m 0)), (1, .int (nI v))]) E dX8_listsOf_36 3 rfl (g_inc _ 1 (by decide)) (by decide) rfl ?_
          refine g_goto (tgt := 4) E dX8_listsOf_39 (by decide) ?_
          refine g_lv [2, 3, 1, 0] rfl ?_
          exact ih3  (k + 1) _ (by omega) (by rw [hx, gLs, if_pos c6]) (by omega)
  refine g_lv [2, 3, 1, 0] rfl ?_
  exact loop1 _ 0 _ (Nat.zero_le _) rfl (Nat.lt_succ_self _)

set_option maxHeartbeats 4000000 in
set_option maxRecDepth 100000 in
theorem mX8_about (G : gG) (m : Nat → Nat) (q : Nat → Int32) (n c : Nat) (sg : Nat → Int32) (S : gSt) (H : Nat → gSt) (sl : Nat → Option gSt) (rd f tr dy kp ik tn : Nat → Int32) (x : Int32) (hn12 : n ≤ 120) (hO : gOk 50000 S) (hc14 : c ≤ 14) (hHo : gHok 50000 c H) (hRR : RR S f) (hD : gDry c H dy) (hKp : gKpt sl kp ik) : CI G yX8_about wsX8_about 3 65 [.ref (m 0), .int x] [(m 0, .inr (8, [.int (q 0), .ref (m 1), .int (nI n), .int (q 2), .int (q 3), .int (q 4), .ref (m 2), .ref (m 3), .ref (m 4), .ref (m 5), .int (nI c), .ref (m 6), .ref (m 7), .ref (m 8), .int (q 6), .int (q 7), .int (q 8)])), (m 1, .inl (gy G 0, 120, .inl sg)), (m 2, .inl (gy G 0, 271, .inl rd)), (m 3, .inl (gy G 0, 271, .inl f)), (m 4, .inl (gy G 0, 271, .inl tr)), (m 5, .inl (gy G 0, 3794, .inl dy)), (m 6, .inl (gy G 0, 542, .inl kp)), (m 7, .inl (gy G 2, 2, .inl ik)), (m 8, .inl (gy G 0, 10, .inl tn))] (gRefP (fAbout ((n, sg), S, (c, H), sl) x)) (fun (u : gRu) => (wR G m u)) 0 0 := by
  refine g_enterI (ty := .int) RX8 rfl (by decide) rfl (Nat.le_of_ble_eq_true rfl) ?_
  intro V E RET
  have hK := hO.1
  have hJ := hK.1
  have hI := hJ.1
  have hT1 := hO.2.2
  have hT2 : sN S 0 < 200000000 := by omega
  have hT : sN S 0 < 1000000000 := by omega
  have hb2 := gI2_b2 hJ
  have hX := hI
  obtain ⟨hP8, hn, hw, hW8, hs3, hs4, hs5, hs6, hs7, hs8, hb34⟩ := hX
  refine g_aload_n E dX8_about_0 rfl 0 rfl ?_
  refine g_iload_n E dX8_about_1 rfl 1 rfl ?_
  refine g_i2l (v := x.toInt64) E dX8_about_2 rfl ?_
  refine g_lconst (v := 0) E dX8_about_3 (by decide) ?_
  refine g_ldc2 (v := 10) E kX8_about_43 dX8_about_4 ?_
  refine g_callSIe (F := [(m 0, .inr (8, [.int (q 0), .ref (m 1), .int (nI n), .int (q 2), .int (q 3), .int (q 4), .ref (m 2), .ref (m 3), .ref (m 4), .ref (m 5), .int (nI c), .ref (m 6), .ref (m 7), .ref (m 8), .int (q 6), .int (q 7), .int (q 8)])), (m 1, .inl (gy G 0, 120, .inl sg)), (m 2, .inl (gy G 0, 271, .inl rd)), (m 3, .inl (gy G 0, 271, .inl f)), (m 4, .inl (gy G 0, 271, .inl tr)), (m 5, .inl (gy G 0, 3794, .inl dy)), (m 6, .inl (gy G 0, 542, .inl kp)), (m 7, .inl (gy G 2, 2, .inl ik)), (m 8, .inl (gy G 0, 10, .inl tn))]) (ws2 := [(m 0, .inr (8, [.int (q 0), .ref (m 1), .int (nI n), .int (q 2), .int (q 3), .int (q 4), .ref (m 2), .ref (m 3), .ref (m 4), .ref (m 5), .int (nI c), .ref (m 6), .ref (m 7), .ref (m 8), .int (q 6), .int (q 7), .int (q 8)])), (m 1, .inl (gy G 0, 120, .inl sg)), (m 2, .inl (gy G 0, 271, .inl rd)), (m 3, .inl (gy G 0, 271, .inl f)), (m 4, .inl (gy G 0, 271, .inl tr)), (m 5, .inl (gy G 0, 3794, .inl dy)), (m 6, .inl (gy G 0, 542, .inl kp)), (m 7, .inl (gy G 2, 2, .inl ik)), (m 8, .inl (gy G 0, 10, .inl tn))]) E (g_resI (gIn64 (lo := 0) (hi := 10) rfl rfl) (mX8_in G x.toInt64 0 10)) gX8_about_X8_in rfl hnX8_in ⟨Nat.le_of_ble_eq_true rfl, Nat.le_of_ble_eq_true rfl⟩ (gPerm_ix [0, 1, 2, 3, 4, 5, 6, 7, 8] rfl rfl) rfl rfl (Nat.le_of_ble_eq_true rfl) dX8_about_7 ⟨Nat.le_of_ble_eq_true rfl, Nat.le_of_ble_eq_true rfl⟩ (gPerm_ix [0, 1, 2, 3, 4, 5, 6, 7, 8] rfl rfl) ?_
  refine g_if_eqB (tgt := 17) (P := (¬ x < 0 ∧ ¬ 10 < x)) E dX8_about_10 (by decide) (fun c1 => ?_) (fun c1 => ?_)
  · skip
    refine g_iconst (v := 1) E dX8_about_17 (by decide) ?_
    refine g_callVIe (F := [(m 1, .inl (gy G 0, 120, .inl sg)), (m 2, .inl (gy G 0, 271, .inl rd)), (m 3, .inl (gy G 0, 271, .inl f)), (m 4, .inl (gy G 0, 271, .inl tr)), (m 5, .inl (gy G 0, 3794, .inl dy)), (m 6, .inl (gy G 0, 542, .inl kp)), (m 7, .inl (gy G 2, 2, .inl ik)), (m 8, .inl (gy G 0, 10, .inl tn))]) (ws2 := [(m 0, .inr (8, [.int 1, .ref (m 1), .int (nI n), .int (q 2), .int (q 3), .int (q 4), .ref (m 2), .ref (m 3), .ref (m 4), .ref (m 5), .int (nI c), .ref (m 6), .ref (m 7), .ref (m 8), .int (q 6), .int (q 7), .int (q 8)])), (m 1, .inl (gy G 0, 120, .inl sg)), (m 2, .inl (gy G 0, 271, .inl rd)), (m 3, .inl (gy G 0, 271, .inl f)), (m 4, .inl (gy G 0, 271, .inl tr)), (m 5, .inl (gy G 0, 3794, .inl dy)), (m 6, .inl (gy G 0, 542, .inl kp)), (m 7, .inl (gy G 2, 2, .inl ik)), (m 8, .inl (gy G 0, 10, .inl tn))]) E (mX8_refused G m (qU (qU q 1 (nI n)) 5 (nI c)) 1) gX8_about_X8_refused rfl hdX8_refused ⟨Nat.le_of_ble_eq_true rfl, Nat.le_of_ble_eq_true rfl⟩ 8 0 rfl rfl rfl (gPerm_ix [0, 1, 2, 3, 4, 5, 6, 7, 8] rfl rfl) rfl rfl (Nat.le_of_ble_eq_true rfl) dX8_about_18 ⟨Nat.le_of_ble_eq_true rfl, Nat.le_of_ble_eq_true rfl⟩ (gPerm_ix [0, 1, 2, 3, 4, 5, 6, 7, 8] rfl rfl) ?_
    refine g_if_eq (tgt := 26) E dX8_about_21 (by decide) (fun c => absurd c (by decide)) (fun _ => ?_)
    refine g_iconst (v := 0) E dX8_about_24 (by decide) ?_
    exact RET _ _ _ (qU (qU (qU q 0 1) 1 (nI n)) 5 (nI c), sg, rd, f, tr, dy, kp, ik, tn) (gRefP_mk (k := 1) (A := ((n, sg), S, (c, H), sl)) (by rw [fAbout, if_neg c1]) rfl (fun e => absurd e (by decide)) ⟨rfl, rfl, hRR, rfl, hD, hKp⟩) rfl dX8_about_25
  · skip
    obtain ⟨j, hj, rfl⟩ := gNat_ofl (m := 10) c1 rfl rfl (by decide)
    refine g_iconst (v := 0) E dX8_about_13 (by decide) ?_
    refine g_goto (tgt := 18) E dX8_about_14 (by decide) ?_
    refine g_callVIe (F := [(m 1, .inl (gy G 0, 120, .inl sg)), (m 2, .inl (gy G 0, 271, .inl rd)), (m 3, .inl (gy G 0, 271, .inl f)), (m 4, .inl (gy G 0, 271, .inl tr)), (m 5, .inl (gy G 0, 3794, .inl dy)), (m 6, .inl (gy G 0, 542, .inl kp)), (m 7, .inl (gy G 2, 2, .inl ik)), (m 8, .inl (gy G 0, 10, .inl tn))]) (ws2 := [(m 0, .inr (8, [.int 0, .ref (m 1), .int (nI n), .int (q 2), .int (q 3), .int (q 4), .ref (m 2), .ref (m 3), .ref (m 4), .ref (m 5), .int (nI c), .ref (m 6), .ref (m 7), .ref (m 8), .int (q 6), .int (q 7), .int (q 8)])), (m 1, .inl (gy G 0, 120, .inl sg)), (m 2, .inl (gy G 0, 271, .inl rd)), (m 3, .inl (gy G 0, 271, .inl f)), (m 4, .inl (gy G 0, 271, .inl tr)), (m 5, .inl (gy G 0, 3794, .inl dy)), (m 6, .inl (gy G 0, 542, .inl kp)), (m 7, .inl (gy G 2, 2, .inl ik)), (m 8, .inl (gy G 0, 10, .inl tn))]) E (mX8_refused G m (qU (qU q 1 (nI n)) 5 (nI c)) 0) gX8_about_X8_refused rfl hdX8_refused ⟨Nat.le_of_ble_eq_true rfl, Nat.le_of_ble_eq_true rfl⟩ 8 0 rfl rfl rfl (gPerm_ix [0, 1, 2, 3, 4, 5, 6, 7, 8] rfl rfl) rfl rfl (Nat.le_of_ble_eq_true rfl) dX8_about_18 ⟨Nat.le_of_ble_eq_true rfl, Nat.le_of_ble_eq_true rfl⟩ (gPerm_ix [0, 1, 2, 3, 4, 5, 6, 7, 8] rfl rfl) ?_
    refine g_if_eq (tgt := 26) E dX8_about_21 (by decide) (fun _ => ?_) (fun c => absurd c (by decide))
    refine g_iload_n E dX8_about_26 rfl 1 rfl ?_
    rcases (show j = 0 ∨ j = 1 ∨ j = 2 ∨ j = 3 ∨ j = 4 ∨ j = 5 ∨ j = 6 ∨ j = 7 ∨ j = 8 ∨ j = 9 ∨ j = 10 by omega) with k2 | k2 | k2 | k2 | k2 | k2 | k2 | k2 | k2 | k2 | k2
    · skip
      refine g_top (y := 0) (by rw [k2]; rfl) ?_
      refine g_tableIn (tgt := 84) E dX8_about_27 (by decide) (by decide) rfl (by decide) ?_
      subst k2
      refine g_aload_n E dX8_about_84 rfl 0 rfl ?_
      refine g_get E uX8_about_RX8 0 rfl rfl 7 (by decide) kX8_about_16 rfl rfl dX8_about_85 ?_
      refine g_iconst (v := 1) E dX8_about_88 (by decide) ?_
      refine g_ialdN (e := 1) E 3 rfl (by omega) rfl (v := nI (sN S 1)) (RR_1 hRR) dX8_about_89 ?_
      exact RET _ _ _ (qU (qU (qU q 0 0) 1 (nI n)) 5 (nI c), sg, rd, f, tr, dy, kp, ik, tn) (gRefP_mk (k := 0) (A := ((n, sg), S, (c, H), sl)) (by rw [fAbout, if_pos c1, nI_clamp (by omega)]; try rfl) rfl (fun _ => rfl) ⟨rfl, rfl, hRR, rfl, hD, hKp⟩) rfl dX8_about_90
    · skip
      refine g_top (y := 1) (by rw [k2]; rfl) ?_
      refine g_tableIn (tgt := 91) E dX8_about_27 (by decide) (by decide) rfl (by decide) ?_
      subst k2
      refine g_aload_n E dX8_about_91 rfl 0 rfl ?_
      refine g_get E uX8_about_RX8 0 rfl rfl 7 (by decide) kX8_about_16 rfl rfl dX8_about_92 ?_
      refine g_iconst (v := 0) E dX8_about_95 (by decide) ?_
      refine g_ialdN (e := 0) E 3 rfl (by omega) rfl (v := nI (sN S 0)) (RR_0 hRR) dX8_about_96 ?_
      exact RET _ _ _ (qU (qU (qU q 0 0) 1 (nI n)) 5 (nI c), sg, rd, f, tr, dy, kp, ik, tn) (gRefP_mk (k := 0) (A := ((n, sg), S, (c, H), sl)) (by rw [fAbout, if_pos c1, nI_clamp (by omega)]; try rfl) rfl (fun _ => rfl) ⟨rfl, rfl, hRR, rfl, hD, hKp⟩) rfl dX8_about_97
    · skip
      refine g_top (y := 2) (by rw [k2]; rfl) ?_
      refine g_tableIn (tgt := 98) E dX8_about_27 (by decide) (by decide) rfl (by decide) ?_
      subst k2
      refine g_aload_n E dX8_about_98 rfl 0 rfl ?_
      refine g_get E uX8_about_RX8 0 rfl rfl 7 (by decide) kX8_about_16 rfl rfl dX8_about_99 ?_
      refine g_iconst (v := 2) E dX8_about_102 (by decide) ?_
      refine g_ialdN (e := 2) E 3 rfl (by omega) rfl (v := nI ((sB S).length)) (RR_2 hRR) dX8_about_103 ?_
      exact RET _ _ _ (qU (qU (qU q 0 0) 1 (nI n)) 5 (nI c), sg, rd, f, tr, dy, kp, ik, tn) (gRefP_mk (k := 0) (A := ((n, sg), S, (c, H), sl)) (by rw [fAbout, if_pos c1, nI_clamp (by omega)]; try rfl) rfl (fun _ => rfl) ⟨rfl, rfl, hRR, rfl, hD, hKp⟩) rfl dX8_about_104
    · skip
      refine g_top (y := 3) (by rw [k2]; rfl) ?_
      refine g_tableIn (tgt := 105) E dX8_about_27 (by decide) (by decide) rfl (by decide) ?_
      subst k2
      refine g_aload_n E dX8_about_105 rfl 0 rfl ?_
      refine g_get E uX8_about_RX8 0 rfl rfl 7 (by decide) kX8_about_16 rfl rfl dX8_about_106 ?_
      refine g_iconst (v := 3) E dX8_about_109 (by decide) ?_
      refine g_ialdN (e := 3) E 3 rfl (by omega) rfl (v := nI ((sW S).length)) (RR_3 hRR) dX8_about_110 ?_
      exact RET _ _ _ (qU (qU (qU q 0 0) 1 (nI n)) 5 (nI c), sg, rd, f, tr, dy, kp, ik, tn) (gRefP_mk (k := 0) (A := ((n, sg), S, (c, H), sl)) (by rw [fAbout, if_pos c1, nI_clamp (by omega)]; try rfl) rfl (fun _ => rfl) ⟨rfl, rfl, hRR, rfl, hD, hKp⟩) rfl dX8_about_111
    · skip
      refine g_top (y := 4) (by rw [k2]; rfl) ?_
      refine g_tableIn (tgt := 122) E dX8_about_27 (by decide) (by decide) rfl (by decide) ?_
      subst k2
      refine g_aload_n E dX8_about_122 rfl 0 rfl ?_
      refine g_get E uX8_about_RX8 0 rfl rfl 7 (by decide) kX8_about_16 rfl rfl dX8_about_123 ?_
      refine g_iload_n E dX8_about_126 rfl 1 rfl ?_
      refine g_ialdN (e := 4) E 3 rfl (by omega) rfl (v := sI S 8 0) (RR_C hRR (j := 0) (by decide)) dX8_about_127 ?_
      exact RET _ _ _ (qU (qU (qU q 0 0) 1 (nI n)) 5 (nI c), sg, rd, f, tr, dy, kp, ik, tn) (gRefP_mk (k := 0) (A := ((n, sg), S, (c, H), sl)) (by rw [fAbout, if_pos c1, nI_clamp (by omega)]; try rfl) rfl (fun _ => rfl) ⟨rfl, rfl, hRR, rfl, hD, hKp⟩) rfl dX8_about_128
    · skip
      refine g_top (y := 5) (by rw [k2]; rfl) ?_
      refine g_tableIn (tgt := 122) E dX8_about_27 (by decide) (by decide) rfl (by decide) ?_
      subst k2
      refine g_aload_n E dX8_about_122 rfl 0 rfl ?_
      refine g_get E uX8_about_RX8 0 rfl rfl 7 (by decide) kX8_about_16 rfl rfl dX8_about_123 ?_
      refine g_iload_n E dX8_about_126 rfl 1 rfl ?_
      refine g_ialdN (e := 5) E 3 rfl (by omega) rfl (v := sI S 8 1) (RR_C hRR (j := 1) (by decide)) dX8_about_127 ?_
      exact RET _ _ _ (qU (qU (qU q 0 0) 1 (nI n)) 5 (nI c), sg, rd, f, tr, dy, kp, ik, tn) (gRefP_mk (k := 0) (A := ((n, sg), S, (c, H), sl)) (by rw [fAbout, if_pos c1, nI_clamp (by omega)]; try rfl) rfl (fun _ => rfl) ⟨rfl, rfl, hRR, rfl, hD, hKp⟩) rfl dX8_about_128
    · skip
      refine g_top (y := 6) (by rw [k2]; rfl) ?_
      refine g_tableIn (tgt := 122) E dX8_about_27 (by decide) (by decide) rfl (by decide) ?_
      subst k2
      refine g_aload_n E dX8_about_122 rfl 0 rfl ?_
      refine g_get E uX8_about_RX8 0 rfl rfl 7 (by decide) kX8_about_16 rfl rfl dX8_about_123 ?_
      refine g_iload_n E dX8_about_126 rfl 1 rfl ?_
      refine g_ialdN (e := 6) E 3 rfl (by omega) rfl (v := sI S 8 2) (RR_C hRR (j := 2) (by decide)) dX8_about_127 ?_
      exact RET _ _ _ (qU (qU (qU q 0 0) 1 (nI n)) 5 (nI c), sg, rd, f, tr, dy, kp, ik, tn) (gRefP_mk (k := 0) (A := ((n, sg), S, (c, H), sl)) (by rw [fAbout, if_pos c1, nI_clamp (by omega)]; try rfl) rfl (fun _ => rfl) ⟨rfl, rfl, hRR, rfl, hD, hKp⟩) rfl dX8_about_128
    · skip
      refine g_top (y := 7) (by rw [k2]; rfl) ?_
      refine g_tableIn (tgt := 122) E dX8_about_27 (by decide) (by decide) rfl (by decide) ?_
      subst k2
      refine g_aload_n E dX8_about_122 rfl 0 rfl ?_
      refine g_get E uX8_about_RX8 0 rfl rfl 7 (by decide) kX8_about_16 rfl rfl dX8_about_123 ?_
      refine g_iload_n E dX8_about_126 rfl 1 rfl ?_
      refine g_ialdN (e := 7) E 3 rfl (by omega) rfl (v := sI S 8 3) (RR_C hRR (j := 3) (by decide)) dX8_about_127 ?_
      exact RET _ _ _ (qU (qU (qU q 0 0) 1 (nI n)) 5 (nI c), sg, rd, f, tr, dy, kp, ik, tn) (gRefP_mk (k := 0) (A := ((n, sg), S, (c, H), sl)) (by rw [fAbout, if_pos c1, nI_clamp (by omega)]; try rfl) rfl (fun _ => rfl) ⟨rfl, rfl, hRR, rfl, hD, hKp⟩) rfl dX8_about_128
    · skip
      refine g_top (y := 8) (by rw [k2]; rfl) ?_
      refine g_tableIn (tgt := 122) E dX8_about_27 (by decide) (by decide) rfl (by decide) ?_
      subst k2
      refine g_aload_n E dX8_about_122 rfl 0 rfl ?_
      refine g_get E uX8_about_RX8 0 rfl rfl 7 (by decide) kX8_about_16 rfl rfl dX8_about_123 ?_
      refine g_iload_n E dX8_about_126 rfl 1 rfl ?_
      refine g_ialdN (e := 8) E 3 rfl (by omega) rfl (v := sI S 8 4) (RR_C hRR (j := 4) (by decide)) dX8_about_127 ?_
      exact RET _ _ _ (qU (qU (qU q 0 0) 1 (nI n)) 5 (nI c), sg, rd, f, tr, dy, kp, ik, tn) (gRefP_mk (k := 0) (A := ((n, sg), S, (c, H), sl)) (by rw [fAbout, if_pos c1, nI_clamp (by omega)]; try rfl) rfl (fun _ => rfl) ⟨rfl, rfl, hRR, rfl, hD, hKp⟩) rfl dX8_about_128
    · skip
      refine g_top (y := 9) (by rw [k2]; rfl) ?_
      refine g_tableIn (tgt := 112) E dX8_about_27 (by decide) (by decide) rfl (by decide) ?_
      subst k2
      refine g_aload_n E dX8_about_112 rfl 0 rfl ?_
      refine g_callVIe (F := [(m 1, .inl (gy G 0, 120, .inl sg)), (m 2, .inl (gy G 0, 271, .inl rd)), (m 4, .inl (gy G 0, 271, .inl tr)), (m 5, .inl (gy G 0, 3794, .inl dy)), (m 6, .inl (gy G 0, 542, .inl kp)), (m 7, .inl (gy G 2, 2, .inl ik)), (m 8, .inl (gy G 0, 10, .inl tn))]) (ws2 := [(m 0, .inr (8, [.int 0, .ref (m 1), .int (nI n), .int (q 2), .int (q 3), .int (q 4), .ref (m 2), .ref (m 3), .ref (m 4), .ref (m 5), .int (nI c), .ref (m 6), .ref (m 7), .ref (m 8), .int (q 6), .int (q 7), .int (q 8)])), (m 1, .inl (gy G 0, 120, .inl sg)), (m 2, .inl (gy G 0, 271, .inl rd)), (m 3, .inl (gy G 0, 271, .inl f)), (m 4, .inl (gy G 0, 271, .inl tr)), (m 5, .inl (gy G 0, 3794, .inl dy)), (m 6, .inl (gy G 0, 542, .inl kp)), (m 7, .inl (gy G 2, 2, .inl ik)), (m 8, .inl (gy G 0, 10, .inl tn))]) E (mX8_banned G m (qU (qU (qU q 0 0) 1 (nI n)) 5 (nI c)) S f hI hT hRR) gX8_about_X8_banned rfl hdX8_banned ⟨Nat.le_of_ble_eq_true rfl, Nat.le_of_ble_eq_true rfl⟩ 8 0 rfl rfl rfl (gPerm_ix [0, 3, 1, 2, 4, 5, 6, 7, 8] rfl rfl) rfl rfl (Nat.le_of_ble_eq_true rfl) dX8_about_113 ⟨Nat.le_of_ble_eq_true rfl, Nat.le_of_ble_eq_true rfl⟩ (gPerm_ix [0, 2, 3, 1, 4, 5, 6, 7, 8] rfl rfl) ?_
      exact RET _ _ _ (qU (qU (qU q 0 0) 1 (nI n)) 5 (nI c), sg, rd, f, tr, dy, kp, ik, tn) (gRefP_mk (k := 0) (A := ((n, sg), S, (c, H), sl)) (by rw [fAbout, if_pos c1, nI_clamp (by omega)]; try rfl) rfl (fun _ => rfl) ⟨rfl, rfl, hRR, rfl, hD, hKp⟩) rfl dX8_about_116
    · skip
      refine g_top (y := 10) (by rw [k2]; rfl) ?_
      refine g_tableIn (tgt := 117) E dX8_about_27 (by decide) (by decide) rfl (by decide) ?_
      subst k2
      refine g_aload_n E dX8_about_117 rfl 0 rfl ?_
      refine g_callVIe (F := [(m 1, .inl (gy G 0, 120, .inl sg)), (m 2, .inl (gy G 0, 271, .inl rd)), (m 4, .inl (gy G 0, 271, .inl tr)), (m 5, .inl (gy G 0, 3794, .inl dy)), (m 6, .inl (gy G 0, 542, .inl kp)), (m 7, .inl (gy G 2, 2, .inl ik)), (m 8, .inl (gy G 0, 10, .inl tn))]) (ws2 := [(m 0, .inr (8, [.int 0, .ref (m 1), .int (nI n), .int (q 2), .int (q 3), .int (q 4), .ref (m 2), .ref (m 3), .ref (m 4), .ref (m 5), .int (nI c), .ref (m 6), .ref (m 7), .ref (m 8), .int (q 6), .int (q 7), .int (q 8)])), (m 1, .inl (gy G 0, 120, .inl sg)), (m 2, .inl (gy G 0, 271, .inl rd)), (m 3, .inl (gy G 0, 271, .inl f)), (m 4, .inl (gy G 0, 271, .inl tr)), (m 5, .inl (gy G 0, 3794, .inl dy)), (m 6, .inl (gy G 0, 542, .inl kp)), (m 7, .inl (gy G 2, 2, .inl ik)), (m 8, .inl (gy G 0, 10, .inl tn))]) E (mX8_lost G m (qU (qU (qU q 0 0) 1 (nI n)) 5 (nI c)) S f hI hT hRR (gI2_zp hJ)) gX8_about_X8_lost rfl hdX8_lost ⟨Nat.le_of_ble_eq_true rfl, Nat.le_of_ble_eq_true rfl⟩ 8 0 rfl rfl rfl (gPerm_ix [0, 3, 1, 2, 4, 5, 6, 7, 8] rfl rfl) rfl rfl (Nat.le_of_ble_eq_true rfl) dX8_about_118 ⟨Nat.le_of_ble_eq_true rfl, Nat.le_of_ble_eq_true rfl⟩ (gPerm_ix [0, 2, 3, 1, 4, 5, 6, 7, 8] rfl rfl) ?_
      exact RET _ _ _ (qU (qU (qU q 0 0) 1 (nI n)) 5 (nI c), sg, rd, f, tr, dy, kp, ik, tn) (gRefP_mk (k := 0) (A := ((n, sg), S, (c, H), sl)) (by rw [fAbout, if_pos c1, nI_clamp (by omega)]; try rfl) rfl (fun _ => rfl) ⟨rfl, rfl, hRR, rfl, hD, hKp⟩) rfl dX8_about_121

set_option maxHeartbeats 4000000 in
set_option maxRecDepth 100000 in
theorem mX8_prisoner (G : gG) (m : Nat → Nat) (q : Nat → Int32) (n c : Nat) (sg : Nat → Int32) (S : gSt) (H : Nat → gSt) (sl : Nat → Option gSt) (rd f tr dy kp ik tn : Nat → Int32) (p x : Int32) (hn12 : n ≤ 120) (hO : gOk 50000 S) (hc14 : c ≤ 14) (hHo : gHok 50000 c H) (hRR : RR S f) (hD : gDry c H dy) (hKp : gKpt sl kp ik) : CI G yX8_prisoner wsX8_prisoner 2 46 [.ref (m 0), .int p, .int x] [(m 0, .inr (8, [.int (q 0), .ref (m 1), .int (nI n), .int (q 2), .int (q 3), .int (q 4), .ref (m 2), .ref (m 3), .ref (m 4), .ref (m 5), .int (nI c), .ref (m 6), .ref (m 7), .ref (m 8), .int (q 6), .int (q 7), .int (q 8)])), (m 1, .inl (gy G 0, 120, .inl sg)), (m 2, .inl (gy G 0, 271, .inl rd)), (m 3, .inl (gy G 0, 271, .inl f)), (m 4, .inl (gy G 0, 271, .inl tr)), (m 5, .inl (gy G 0, 3794, .inl dy)), (m 6, .inl (gy G 0, 542, .inl kp)), (m 7, .inl (gy G 2, 2, .inl ik)), (m 8, .inl (gy G 0, 10, .inl tn))] (gRefP (fPris ((n, sg), S, (c, H), sl) p x)) (fun (u : gRu) => (wR G m u)) 0 0 := by
  refine g_enterI (ty := .int) RX8 rfl (by decide) rfl (Nat.le_of_ble_eq_true rfl) ?_
  intro V E RET
  have hK := hO.1
  have hJ := hK.1
  have hI := hJ.1
  have hT1 := hO.2.2
  have hT2 : sN S 0 < 200000000 := by omega
  have hT : sN S 0 < 1000000000 := by omega
  have hb2 := gI2_b2 hJ
  have hX := hI
  obtain ⟨hP8, hn, hw, hW8, hs3, hs4, hs5, hs6, hs7, hs8, hb34⟩ := hX
  refine g_aload_n E dX8_prisoner_0 rfl 0 rfl ?_
  refine g_aload_n E dX8_prisoner_1 rfl 0 rfl ?_
  refine g_iload_n E dX8_prisoner_2 rfl 1 rfl ?_
  refine g_callVIe (F := [(m 1, .inl (gy G 0, 120, .inl sg)), (m 2, .inl (gy G 0, 271, .inl rd)), (m 4, .inl (gy G 0, 271, .inl tr)), (m 5, .inl (gy G 0, 3794, .inl dy)), (m 6, .inl (gy G 0, 542, .inl kp)), (m 7, .inl (gy G 2, 2, .inl ik)), (m 8, .inl (gy G 0, 10, .inl tn))]) (ws2 := [(m 0, .inr (8, [.int (q 0), .ref (m 1), .int (nI n), .int (q 2), .int (q 3), .int (q 4), .ref (m 2), .ref (m 3), .ref (m 4), .ref (m 5), .int (nI c), .ref (m 6), .ref (m 7), .ref (m 8), .int (q 6), .int (q 7), .int (q 8)])), (m 1, .inl (gy G 0, 120, .inl sg)), (m 2, .inl (gy G 0, 271, .inl rd)), (m 3, .inl (gy G 0, 271, .inl f)), (m 4, .inl (gy G 0, 271, .inl tr)), (m 5, .inl (gy G 0, 3794, .inl dy)), (m 6, .inl (gy G 0, 542, .inl kp)), (m 7, .inl (gy G 2, 2, .inl ik)), (m 8, .inl (gy G 0, 10, .inl tn))]) E (mX8_isPrisoner G m (qU (qU q 1 (nI n)) 5 (nI c)) S f p hI hT hRR) gX8_prisoner_X8_isPrisoner rfl hdX8_isPrisoner ⟨Nat.le_of_ble_eq_true rfl, Nat.le_of_ble_eq_true rfl⟩ 8 0 rfl rfl rfl (gPerm_ix [0, 3, 1, 2, 4, 5, 6, 7, 8] rfl rfl) rfl rfl (Nat.le_of_ble_eq_true rfl) dX8_prisoner_3 ⟨Nat.le_of_ble_eq_true rfl, Nat.le_of_ble_eq_true rfl⟩ (gPerm_ix [0, 2, 3, 1, 4, 5, 6, 7, 8] rfl rfl) ?_
  refine g_if_neB (tgt := 13) (P := (¬ p < 0 ∧ ¬ nI (sN S 1) ≤ p)) E dX8_prisoner_6 (by decide) (fun c1 => ?_) (fun c1 => ?_)
  · skip
    obtain ⟨j, hj, rfl⟩ := gNat_of c1 (by omega)
    refine g_iload_n E dX8_prisoner_13 rfl 2 rfl ?_
    refine g_i2l (v := x.toInt64) E dX8_prisoner_14 rfl ?_
    refine g_lconst (v := 0) E dX8_prisoner_15 (by decide) ?_
    refine g_ldc2 (v := 7) E kX8_prisoner_144 dX8_prisoner_16 ?_
    refine g_callSIe (F := [(m 0, .inr (8, [.int (q 0), .ref (m 1), .int (nI n), .int (q 2), .int (q 3), .int (q 4), .ref (m 2), .ref (m 3), .ref (m 4), .ref (m 5), .int (nI c), .ref (m 6), .ref (m 7), .ref (m 8), .int (q 6), .int (q 7), .int (q 8)])), (m 1, .inl (gy G 0, 120, .inl sg)), (m 2, .inl (gy G 0, 271, .inl rd)), (m 3, .inl (gy G 0, 271, .inl f)), (m 4, .inl (gy G 0, 271, .inl tr)), (m 5, .inl (gy G 0, 3794, .inl dy)), (m 6, .inl (gy G 0, 542, .inl kp)), (m 7, .inl (gy G 2, 2, .inl ik)), (m 8, .inl (gy G 0, 10, .inl tn))]) (ws2 := [(m 0, .inr (8, [.int (q 0), .ref (m 1), .int (nI n), .int (q 2), .int (q 3), .int (q 4), .ref (m 2), .ref (m 3), .ref (m 4), .ref (m 5), .int (nI c), .ref (m 6), .ref (m 7), .ref (m 8), .int (q 6), .int (q 7), .int (q 8)])), (m 1, .inl (gy G 0, 120, .inl sg)), (m 2, .inl (gy G 0, 271, .inl rd)), (m 3, .inl (gy G 0, 271, .inl f)), (m 4, .inl (gy G 0, 271, .inl tr)), (m 5, .inl (gy G 0, 3794, .inl dy)), (m 6, .inl (gy G 0, 542, .inl kp)), (m 7, .inl (gy G 2, 2, .inl ik)), (m 8, .inl (gy G 0, 10, .inl tn))]) E (g_resI (gIn64 (lo := 0) (hi := 7) rfl rfl) (mX8_in G x.toInt64 0 7)) gX8_prisoner_X8_in rfl hnX8_in ⟨Nat.le_of_ble_eq_true rfl, Nat.le_of_ble_eq_true rfl⟩ (gPerm_ix [0, 1, 2, 3, 4, 5, 6, 7, 8] rfl rfl) rfl rfl (Nat.le_of_ble_eq_true rfl) dX8_prisoner_19 ⟨Nat.le_of_ble_eq_true rfl, Nat.le_of_ble_eq_true rfl⟩ (gPerm_ix [0, 1, 2, 3, 4, 5, 6, 7, 8] rfl rfl) ?_
    refine g_if_eqB (tgt := 29) (P := (¬ x < 0 ∧ ¬ 7 < x)) E dX8_prisoner_22 (by decide) (fun c2 => ?_) (fun c2 => ?_)
    · skip
      refine g_iconst (v := 2) E dX8_prisoner_29 (by decide) ?_
      refine g_callVIe (F := [(m 1, .inl (gy G 0, 120, .inl sg)), (m 2, .inl (gy G 0, 271, .inl rd)), (m 3, .inl (gy G 0, 271, .inl f)), (m 4, .inl (gy G 0, 271, .inl tr)), (m 5, .inl (gy G 0, 3794, .inl dy)), (m 6, .inl (gy G 0, 542, .inl kp)), (m 7, .inl (gy G 2, 2, .inl ik)), (m 8, .inl (gy G 0, 10, .inl tn))]) (ws2 := [(m 0, .inr (8, [.int 2, .ref (m 1), .int (nI n), .int (q 2), .int (q 3), .int (q 4), .ref (m 2), .ref (m 3), .ref (m 4), .ref (m 5), .int (nI c), .ref (m 6), .ref (m 7), .ref (m 8), .int (q 6), .int (q 7), .int (q 8)])), (m 1, .inl (gy G 0, 120, .inl sg)), (m 2, .inl (gy G 0, 271, .inl rd)), (m 3, .inl (gy G 0, 271, .inl f)), (m 4, .inl (gy G 0, 271, .inl tr)), (m 5, .inl (gy G 0, 3794, .inl dy)), (m 6, .inl (gy G 0, 542, .inl kp)), (m 7, .inl (gy G 2, 2, .inl ik)), (m 8, .inl (gy G 0, 10, .inl tn))]) E (mX8_refused G m (qU (qU q 1 (nI n)) 5 (nI c)) 2) gX8_prisoner_X8_refused rfl hdX8_refused ⟨Nat.le_of_ble_eq_true rfl, Nat.le_of_ble_eq_true rfl⟩ 8 0 rfl rfl rfl (gPerm_ix [0, 1, 2, 3, 4, 5, 6, 7, 8] rfl rfl) rfl rfl (Nat.le_of_ble_eq_true rfl) dX8_prisoner_30 ⟨Nat.le_of_ble_eq_true rfl, Nat.le_of_ble_eq_true rfl⟩ (gPerm_ix [0, 1, 2, 3, 4, 5, 6, 7, 8] rfl rfl) ?_
      refine g_if_eq (tgt := 38) E dX8_prisoner_33 (by decide) (fun c => absurd c (by decide)) (fun _ => ?_)
      refine g_iconst (v := 0) E dX8_prisoner_36 (by decide) ?_
      exact RET _ _ _ (qU (qU (qU q 0 2) 1 (nI n)) 5 (nI c), sg, rd, f, tr, dy, kp, ik, tn) (gRefP_mk (k := 2) (A := ((n, sg), S, (c, H), sl)) (by rw [fPris, if_pos c1, if_neg c2]) rfl (fun e => absurd e (by decide)) ⟨rfl, rfl, hRR, rfl, hD, hKp⟩) rfl dX8_prisoner_37
    · skip
      obtain ⟨e, he, rfl⟩ := gNat_ofl (m := 7) c2 rfl rfl (by decide)
      refine g_iconst (v := 0) E dX8_prisoner_25 (by decide) ?_
      refine g_goto (tgt := 30) E dX8_prisoner_26 (by decide) ?_
      refine g_callVIe (F := [(m 1, .inl (gy G 0, 120, .inl sg)), (m 2, .inl (gy G 0, 271, .inl rd)), (m 3, .inl (gy G 0, 271, .inl f)), (m 4, .inl (gy G 0, 271, .inl tr)), (m 5, .inl (gy G 0, 3794, .inl dy)), (m 6, .inl (gy G 0, 542, .inl kp)), (m 7, .inl (gy G 2, 2, .inl ik)), (m 8, .inl (gy G 0, 10, .inl tn))]) (ws2 := [(m 0, .inr (8, [.int 0, .ref (m 1), .int (nI n), .int (q 2), .int (q 3), .int (q 4), .ref (m 2), .ref (m 3), .ref (m 4), .ref (m 5), .int (nI c), .ref (m 6), .ref (m 7), .ref (m 8), .int (q 6), .int (q 7), .int (q 8)])), (m 1, .inl (gy G 0, 120, .inl sg)), (m 2, .inl (gy G 0, 271, .inl rd)), (m 3, .inl (gy G 0, 271, .inl f)), (m 4, .inl (gy G 0, 271, .inl tr)), (m 5, .inl (gy G 0, 3794, .inl dy)), (m 6, .inl (gy G 0, 542, .inl kp)), (m 7, .inl (gy G 2, 2, .inl ik)), (m 8, .inl (gy G 0, 10, .inl tn))]) E (mX8_refused G m (qU (qU q 1 (nI n)) 5 (nI c)) 0) gX8_prisoner_X8_refused rfl hdX8_refused ⟨Nat.le_of_ble_eq_true rfl, Nat.le_of_ble_eq_true rfl⟩ 8 0 rfl rfl rfl (gPerm_ix [0, 1, 2, 3, 4, 5, 6, 7, 8] rfl rfl) rfl rfl (Nat.le_of_ble_eq_true rfl) dX8_prisoner_30 ⟨Nat.le_of_ble_eq_true rfl, Nat.le_of_ble_eq_true rfl⟩ (gPerm_ix [0, 1, 2, 3, 4, 5, 6, 7, 8] rfl rfl) ?_
      refine g_if_eq (tgt := 38) E dX8_prisoner_33 (by decide) (fun _ => ?_) (fun c => absurd c (by decide))
      refine g_iload_n E dX8_prisoner_38 rfl 2 rfl ?_
      rcases (show e = 0 ∨ e = 1 ∨ e = 2 ∨ e = 3 ∨ e = 4 ∨ e = 5 ∨ e = 6 ∨ e = 7 by omega) with k3 | k3 | k3 | k3 | k3 | k3 | k3 | k3
      · skip
        refine g_top (y := 0) (by rw [k3]; rfl) ?_
        refine g_tableOut (tgt := 107) E dX8_prisoner_39 (by decide) (by decide) ?_
        subst k3
        refine g_aload_n E dX8_prisoner_107 rfl 0 rfl ?_
        refine g_get E uX8_prisoner_RX8 0 rfl rfl 7 (by decide) kX8_prisoner_16 rfl rfl dX8_prisoner_108 ?_
        refine g_iload_n E dX8_prisoner_111 rfl 1 rfl ?_
        refine g_iload_n E dX8_prisoner_112 rfl 2 rfl ?_
        refine g_callSIe (F := [(m 0, .inr (8, [.int 0, .ref (m 1), .int (nI n), .int (q 2), .int (q 3), .int (q 4), .ref (m 2), .ref (m 3), .ref (m 4), .ref (m 5), .int (nI c), .ref (m 6), .ref (m 7), .ref (m 8), .int (q 6), .int (q 7), .int (q 8)])), (m 1, .inl (gy G 0, 120, .inl sg)), (m 2, .inl (gy G 0, 271, .inl rd)), (m 3, .inl (gy G 0, 271, .inl f)), (m 4, .inl (gy G 0, 271, .inl tr)), (m 5, .inl (gy G 0, 3794, .inl dy)), (m 6, .inl (gy G 0, 542, .inl kp)), (m 7, .inl (gy G 2, 2, .inl ik)), (m 8, .inl (gy G 0, 10, .inl tn))]) (ws2 := [(m 0, .inr (8, [.int 0, .ref (m 1), .int (nI n), .int (q 2), .int (q 3), .int (q 4), .ref (m 2), .ref (m 3), .ref (m 4), .ref (m 5), .int (nI c), .ref (m 6), .ref (m 7), .ref (m 8), .int (q 6), .int (q 7), .int (q 8)])), (m 1, .inl (gy G 0, 120, .inl sg)), (m 2, .inl (gy G 0, 271, .inl rd)), (m 3, .inl (gy G 0, 271, .inl f)), (m 4, .inl (gy G 0, 271, .inl tr)), (m 5, .inl (gy G 0, 3794, .inl dy)), (m 6, .inl (gy G 0, 542, .inl kp)), (m 7, .inl (gy G 2, 2, .inl ik)), (m 8, .inl (gy G 0, 10, .inl tn))]) E (mX8_prisonerAt G j 0 (by omega) (by omega)) gX8_prisoner_X8_prisonerAt rfl hnX8_prisonerAt ⟨Nat.le_of_ble_eq_true rfl, Nat.le_of_ble_eq_true rfl⟩ (gPerm_ix [0, 1, 2, 3, 4, 5, 6, 7, 8] rfl rfl) rfl rfl (Nat.le_of_ble_eq_true rfl) dX8_prisoner_113 ⟨Nat.le_of_ble_eq_true rfl, Nat.le_of_ble_eq_true rfl⟩ (gPerm_ix [0, 1, 2, 3, 4, 5, 6, 7, 8] rfl rfl) ?_
        refine g_ialdN (e := 15 + 6 * j + 0) E 3 rfl (by omega) rfl (v := sI S 0 j) (RR_P hRR (p := j) (w := 0) (by omega) (by omega)) dX8_prisoner_116 ?_
        exact RET _ _ _ (qU (qU (qU q 0 0) 1 (nI n)) 5 (nI c), sg, rd, f, tr, dy, kp, ik, tn) (gRefP_mk (k := 0) (A := ((n, sg), S, (c, H), sl)) (by rw [fPris, if_pos c1, if_pos c2, nI_clamp (by omega), nI_clamp (by omega)]; try rfl) rfl (fun _ => rfl) ⟨rfl, rfl, hRR, rfl, hD, hKp⟩) rfl dX8_prisoner_117
      · skip
        refine g_top (y := 1) (by rw [k3]; rfl) ?_
        refine g_tableOut (tgt := 107) E dX8_prisoner_39 (by decide) (by decide) ?_
        subst k3
        refine g_aload_n E dX8_prisoner_107 rfl 0 rfl ?_
        refine g_get E uX8_prisoner_RX8 0 rfl rfl 7 (by decide) kX8_prisoner_16 rfl rfl dX8_prisoner_108 ?_
        refine g_iload_n E dX8_prisoner_111 rfl 1 rfl ?_
        refine g_iload_n E dX8_prisoner_112 rfl 2 rfl ?_
        refine g_callSIe (F := [(m 0, .inr (8, [.int 0, .ref (m 1), .int (nI n), .int (q 2), .int (q 3), .int (q 4), .ref (m 2), .ref (m 3), .ref (m 4), .ref (m 5), .int (nI c), .ref (m 6), .ref (m 7), .ref (m 8), .int (q 6), .int (q 7), .int (q 8)])), (m 1, .inl (gy G 0, 120, .inl sg)), (m 2, .inl (gy G 0, 271, .inl rd)), (m 3, .inl (gy G 0, 271, .inl f)), (m 4, .inl (gy G 0, 271, .inl tr)), (m 5, .inl (gy G 0, 3794, .inl dy)), (m 6, .inl (gy G 0, 542, .inl kp)), (m 7, .inl (gy G 2, 2, .inl ik)), (m 8, .inl (gy G 0, 10, .inl tn))]) (ws2 := [(m 0, .inr (8, [.int 0, .ref (m 1), .int (nI n), .int (q 2), .int (q 3), .int (q 4), .ref (m 2), .ref (m 3), .ref (m 4), .ref (m 5), .int (nI c), .ref (m 6), .ref (m 7), .ref (m 8), .int (q 6), .int (q 7), .int (q 8)])), (m 1, .inl (gy G 0, 120, .inl sg)), (m 2, .inl (gy G 0, 271, .inl rd)), (m 3, .inl (gy G 0, 271, .inl f)), (m 4, .inl (gy G 0, 271, .inl tr)), (m 5, .inl (gy G 0, 3794, .inl dy)), (m 6, .inl (gy G 0, 542, .inl kp)), (m 7, .inl (gy G 2, 2, .inl ik)), (m 8, .inl (gy G 0, 10, .inl tn))]) E (mX8_prisonerAt G j 1 (by omega) (by omega)) gX8_prisoner_X8_prisonerAt rfl hnX8_prisonerAt ⟨Nat.le_of_ble_eq_true rfl, Nat.le_of_ble_eq_true rfl⟩ (gPerm_ix [0, 1, 2, 3, 4, 5, 6, 7, 8] rfl rfl) rfl rfl (Nat.le_of_ble_eq_true rfl) dX8_prisoner_113 ⟨Nat.le_of_ble_eq_true rfl, Nat.le_of_ble_eq_true rfl⟩ (gPerm_ix [0, 1, 2, 3, 4, 5, 6, 7, 8] rfl rfl) ?_
        refine g_ialdN (e := 15 + 6 * j + 1) E 3 rfl (by omega) rfl (v := sI S 1 j) (RR_P hRR (p := j) (w := 1) (by omega) (by omega)) dX8_prisoner_116 ?_
        exact RET _ _ _ (qU (qU (qU q 0 0) 1 (nI n)) 5 (nI c), sg, rd, f, tr, dy, kp, ik, tn) (gRefP_mk (k := 0) (A := ((n, sg), S, (c, H), sl)) (by rw [fPris, if_pos c1, if_pos c2, nI_clamp (by omega), nI_clamp (by omega)]; try rfl) rfl (fun _ => rfl) ⟨rfl, rfl, hRR, rfl, hD, hKp⟩) rfl dX8_prisoner_117
      · skip
        refine g_top (y := 2) (by rw [k3]; rfl) ?_
        refine g_tableOut (tgt := 107) E dX8_prisoner_39 (by decide) (by decide) ?_
        subst k3
        refine g_aload_n E dX8_prisoner_107 rfl 0 rfl ?_
        refine g_get E uX8_prisoner_RX8 0 rfl rfl 7 (by decide) kX8_prisoner_16 rfl rfl dX8_prisoner_108 ?_
        refine g_iload_n E dX8_prisoner_111 rfl 1 rfl ?_
        refine g_iload_n E dX8_prisoner_112 rfl 2 rfl ?_
        refine g_callSIe (F := [(m 0, .inr (8, [.int 0, .ref (m 1), .int (nI n), .int (q 2), .int (q 3), .int (q 4), .ref (m 2), .ref (m 3), .ref (m 4), .ref (m 5), .int (nI c), .ref (m 6), .ref (m 7), .ref (m 8), .int (q 6), .int (q 7), .int (q 8)])), (m 1, .inl (gy G 0, 120, .inl sg)), (m 2, .inl (gy G 0, 271, .inl rd)), (m 3, .inl (gy G 0, 271, .inl f)), (m 4, .inl (gy G 0, 271, .inl tr)), (m 5, .inl (gy G 0, 3794, .inl dy)), (m 6, .inl (gy G 0, 542, .inl kp)), (m 7, .inl (gy G 2, 2, .inl ik)), (m 8, .inl (gy G 0, 10, .inl tn))]) (ws2 := [(m 0, .inr (8, [.int 0, .ref (m 1), .int (nI n), .int (q 2), .int (q 3), .int (q 4), .ref (m 2), .ref (m 3), .ref (m 4), .ref (m 5), .int (nI c), .ref (m 6), .ref (m 7), .ref (m 8), .int (q 6), .int (q 7), .int (q 8)])), (m 1, .inl (gy G 0, 120, .inl sg)), (m 2, .inl (gy G 0, 271, .inl rd)), (m 3, .inl (gy G 0, 271, .inl f)), (m 4, .inl (gy G 0, 271, .inl tr)), (m 5, .inl (gy G 0, 3794, .inl dy)), (m 6, .inl (gy G 0, 542, .inl kp)), (m 7, .inl (gy G 2, 2, .inl ik)), (m 8, .inl (gy G 0, 10, .inl tn))]) E (mX8_prisonerAt G j 2 (by omega) (by omega)) gX8_prisoner_X8_prisonerAt rfl hnX8_prisonerAt ⟨Nat.le_of_ble_eq_true rfl, Nat.le_of_ble_eq_true rfl⟩ (gPerm_ix [0, 1, 2, 3, 4, 5, 6, 7, 8] rfl rfl) rfl rfl (Nat.le_of_ble_eq_true rfl) dX8_prisoner_113 ⟨Nat.le_of_ble_eq_true rfl, Nat.le_of_ble_eq_true rfl⟩ (gPerm_ix [0, 1, 2, 3, 4, 5, 6, 7, 8] rfl rfl) ?_
        refine g_ialdN (e := 15 + 6 * j + 2) E 3 rfl (by omega) rfl (v := sI S 2 j) (RR_P hRR (p := j) (w := 2) (by omega) (by omega)) dX8_prisoner_116 ?_
        exact RET _ _ _ (qU (qU (qU q 0 0) 1 (nI n)) 5 (nI c), sg, rd, f, tr, dy, kp, ik, tn) (gRefP_mk (k := 0) (A := ((n, sg), S, (c, H), sl)) (by rw [fPris, if_pos c1, if_pos c2, nI_clamp (by omega), nI_clamp (by omega)]; try rfl) rfl (fun _ => rfl) ⟨rfl, rfl, hRR, rfl, hD, hKp⟩) rfl dX8_prisoner_117
      · skip
        refine g_top (y := 3) (by rw [k3]; rfl) ?_
        refine g_tableOut (tgt := 107) E dX8_prisoner_39 (by decide) (by decide) ?_
        subst k3
        refine g_aload_n E dX8_prisoner_107 rfl 0 rfl ?_
        refine g_get E uX8_prisoner_RX8 0 rfl rfl 7 (by decide) kX8_prisoner_16 rfl rfl dX8_prisoner_108 ?_
        refine g_iload_n E dX8_prisoner_111 rfl 1 rfl ?_
        refine g_iload_n E dX8_prisoner_112 rfl 2 rfl ?_
        refine g_callSIe (F := [(m 0, .inr (8, [.int 0, .ref (m 1), .int (nI n), .int (q 2), .int (q 3), .int (q 4), .ref (m 2), .ref (m 3), .ref (m 4), .ref (m 5), .int (nI c), .ref (m 6), .ref (m 7), .ref (m 8), .int (q 6), .int (q 7), .int (q 8)])), (m 1, .inl (gy G 0, 120, .inl sg)), (m 2, .inl (gy G 0, 271, .inl rd)), (m 3, .inl (gy G 0, 271, .inl f)), (m 4, .inl (gy G 0, 271, .inl tr)), (m 5, .inl (gy G 0, 3794, .inl dy)), (m 6, .inl (gy G 0, 542, .inl kp)), (m 7, .inl (gy G 2, 2, .inl ik)), (m 8, .inl (gy G 0, 10, .inl tn))]) (ws2 := [(m 0, .inr (8, [.int 0, .ref (m 1), .int (nI n), .int (q 2), .int (q 3), .int (q 4), .ref (m 2), .ref (m 3), .ref (m 4), .ref (m 5), .int (nI c), .ref (m 6), .ref (m 7), .ref (m 8), .int (q 6), .int (q 7), .int (q 8)])), (m 1, .inl (gy G 0, 120, .inl sg)), (m 2, .inl (gy G 0, 271, .inl rd)), (m 3, .inl (gy G 0, 271, .inl f)), (m 4, .inl (gy G 0, 271, .inl tr)), (m 5, .inl (gy G 0, 3794, .inl dy)), (m 6, .inl (gy G 0, 542, .inl kp)), (m 7, .inl (gy G 2, 2, .inl ik)), (m 8, .inl (gy G 0, 10, .inl tn))]) E (mX8_prisonerAt G j 3 (by omega) (by omega)) gX8_prisoner_X8_prisonerAt rfl hnX8_prisonerAt ⟨Nat.le_of_ble_eq_true rfl, Nat.le_of_ble_eq_true rfl⟩ (gPerm_ix [0, 1, 2, 3, 4, 5, 6, 7, 8] rfl rfl) rfl rfl (Nat.le_of_ble_eq_true rfl) dX8_prisoner_113 ⟨Nat.le_of_ble_eq_true rfl, Nat.le_of_ble_eq_true rfl⟩ (gPerm_ix [0, 1, 2, 3, 4, 5, 6, 7, 8] rfl rfl) ?_
        refine g_ialdN (e := 15 + 6 * j + 3) E 3 rfl (by omega) rfl (v := sI S 3 j) (RR_P hRR (p := j) (w := 3) (by omega) (by omega)) dX8_prisoner_116 ?_
        exact RET _ _ _ (qU (qU (qU q 0 0) 1 (nI n)) 5 (nI c), sg, rd, f, tr, dy, kp, ik, tn) (gRefP_mk (k := 0) (A := ((n, sg), S, (c, H), sl)) (by rw [fPris, if_pos c1, if_pos c2, nI_clamp (by omega), nI_clamp (by omega)]; try rfl) rfl (fun _ => rfl) ⟨rfl, rfl, hRR, rfl, hD, hKp⟩) rfl dX8_prisoner_117
      · skip
        refine g_top (y := 4) (by rw [k3]; rfl) ?_
        refine g_tableIn (tgt := 68) E dX8_prisoner_39 (by decide) (by decide) rfl (by decide) ?_
        subst k3
        refine g_aload_n E dX8_prisoner_68 rfl 0 rfl ?_
        refine g_get E uX8_prisoner_RX8 0 rfl rfl 7 (by decide) kX8_prisoner_16 rfl rfl dX8_prisoner_69 ?_
        refine g_iload_n E dX8_prisoner_72 rfl 1 rfl ?_
        refine g_aload_n E dX8_prisoner_73 rfl 0 rfl ?_
        refine g_get E uX8_prisoner_RX8 0 rfl rfl 7 (by decide) kX8_prisoner_16 rfl rfl dX8_prisoner_74 ?_
        refine g_iconst (v := 0) E dX8_prisoner_77 (by decide) ?_
        refine g_ialdN (e := 0) E 3 rfl (by omega) rfl (v := nI (sN S 0)) (RR_0 hRR) dX8_prisoner_78 ?_
        refine g_callSIe (F := [(m 0, .inr (8, [.int 0, .ref (m 1), .int (nI n), .int (q 2), .int (q 3), .int (q 4), .ref (m 2), .ref (m 3), .ref (m 4), .ref (m 5), .int (nI c), .ref (m 6), .ref (m 7), .ref (m 8), .int (q 6), .int (q 7), .int (q 8)])), (m 1, .inl (gy G 0, 120, .inl sg)), (m 2, .inl (gy G 0, 271, .inl rd)), (m 4, .inl (gy G 0, 271, .inl tr)), (m 5, .inl (gy G 0, 3794, .inl dy)), (m 6, .inl (gy G 0, 542, .inl kp)), (m 7, .inl (gy G 2, 2, .inl ik)), (m 8, .inl (gy G 0, 10, .inl tn))]) (ws2 := [(m 0, .inr (8, [.int 0, .ref (m 1), .int (nI n), .int (q 2), .int (q 3), .int (q 4), .ref (m 2), .ref (m 3), .ref (m 4), .ref (m 5), .int (nI c), .ref (m 6), .ref (m 7), .ref (m 8), .int (q 6), .int (q 7), .int (q 8)])), (m 1, .inl (gy G 0, 120, .inl sg)), (m 2, .inl (gy G 0, 271, .inl rd)), (m 3, .inl (gy G 0, 271, .inl f)), (m 4, .inl (gy G 0, 271, .inl tr)), (m 5, .inl (gy G 0, 3794, .inl dy)), (m 6, .inl (gy G 0, 542, .inl kp)), (m 7, .inl (gy G 2, 2, .inl ik)), (m 8, .inl (gy G 0, 10, .inl tn))]) E (mX8_inWeek G (m 3) S f j (sN S 0) (gI1_r hI) hT hRR (by omega) (by omega)) gX8_prisoner_X8_inWeek rfl hnX8_inWeek ⟨Nat.le_of_ble_eq_true rfl, Nat.le_of_ble_eq_true rfl⟩ (gPerm_ix [3, 0, 1, 2, 4, 5, 6, 7, 8] rfl rfl) rfl rfl (Nat.le_of_ble_eq_true rfl) dX8_prisoner_79 ⟨Nat.le_of_ble_eq_true rfl, Nat.le_of_ble_eq_true rfl⟩ (gPerm_ix [1, 2, 3, 0, 4, 5, 6, 7, 8] rfl rfl) ?_
        exact RET _ _ _ (qU (qU (qU q 0 0) 1 (nI n)) 5 (nI c), sg, rd, f, tr, dy, kp, ik, tn) (gRefP_mk (k := 0) (A := ((n, sg), S, (c, H), sl)) (by rw [fPris, if_pos c1, if_pos c2, nI_clamp (by omega), nI_clamp (by omega)]; show (0, nI (gCW (sB S) j (sN S 0 / 7)) + sI S 4 j, _) = _; rw [if_pos rfl, Int32.add_comm]) rfl (fun _ => rfl) ⟨rfl, rfl, hRR, rfl, hD, hKp⟩) rfl dX8_prisoner_82
      · skip
        refine g_top (y := 5) (by rw [k3]; rfl) ?_
        refine g_tableIn (tgt := 83) E dX8_prisoner_39 (by decide) (by decide) rfl (by decide) ?_
        subst k3
        refine g_aload_n E dX8_prisoner_83 rfl 0 rfl ?_
        refine g_iconst (v := 3) E dX8_prisoner_84 (by decide) ?_
        refine g_iload_n E dX8_prisoner_85 rfl 1 rfl ?_
        refine g_callVIe (F := [(m 1, .inl (gy G 0, 120, .inl sg)), (m 2, .inl (gy G 0, 271, .inl rd)), (m 4, .inl (gy G 0, 271, .inl tr)), (m 5, .inl (gy G 0, 3794, .inl dy)), (m 6, .inl (gy G 0, 542, .inl kp)), (m 7, .inl (gy G 2, 2, .inl ik)), (m 8, .inl (gy G 0, 10, .inl tn))]) (ws2 := [(m 0, .inr (8, [.int 0, .ref (m 1), .int (nI n), .int (q 2), .int (q 3), .int (q 4), .ref (m 2), .ref (m 3), .ref (m 4), .ref (m 5), .int (nI c), .ref (m 6), .ref (m 7), .ref (m 8), .int (q 6), .int (q 7), .int (q 8)])), (m 1, .inl (gy G 0, 120, .inl sg)), (m 2, .inl (gy G 0, 271, .inl rd)), (m 3, .inl (gy G 0, 271, .inl f)), (m 4, .inl (gy G 0, 271, .inl tr)), (m 5, .inl (gy G 0, 3794, .inl dy)), (m 6, .inl (gy G 0, 542, .inl kp)), (m 7, .inl (gy G 2, 2, .inl ik)), (m 8, .inl (gy G 0, 10, .inl tn))]) E (mX8_bookingsOf G m (qU (qU (qU q 0 0) 1 (nI n)) 5 (nI c)) S f 3 j hI hT hRR (by decide) (by omega)) gX8_prisoner_X8_bookingsOf rfl hdX8_bookingsOf ⟨Nat.le_of_ble_eq_true rfl, Nat.le_of_ble_eq_true rfl⟩ 8 0 rfl rfl rfl (gPerm_ix [0, 3, 1, 2, 4, 5, 6, 7, 8] rfl rfl) rfl rfl (Nat.le_of_ble_eq_true rfl) dX8_prisoner_86 ⟨Nat.le_of_ble_eq_true rfl, Nat.le_of_ble_eq_true rfl⟩ (gPerm_ix [0, 2, 3, 1, 4, 5, 6, 7, 8] rfl rfl) ?_
        exact RET _ _ _ (qU (qU (qU q 0 0) 1 (nI n)) 5 (nI c), sg, rd, f, tr, dy, kp, ik, tn) (gRefP_mk (k := 0) (A := ((n, sg), S, (c, H), sl)) (by rw [fPris, if_pos c1, if_pos c2, nI_clamp (by omega), nI_clamp (by omega)]; try rfl) rfl (fun _ => rfl) ⟨rfl, rfl, hRR, rfl, hD, hKp⟩) rfl dX8_prisoner_89
      · skip
        refine g_top (y := 6) (by rw [k3]; rfl) ?_
        refine g_tableIn (tgt := 90) E dX8_prisoner_39 (by decide) (by decide) rfl (by decide) ?_
        subst k3
        refine g_aload_n E dX8_prisoner_90 rfl 0 rfl ?_
        refine g_iload_n E dX8_prisoner_91 rfl 1 rfl ?_
        refine g_callVIe (F := [(m 1, .inl (gy G 0, 120, .inl sg)), (m 2, .inl (gy G 0, 271, .inl rd)), (m 4, .inl (gy G 0, 271, .inl tr)), (m 5, .inl (gy G 0, 3794, .inl dy)), (m 6, .inl (gy G 0, 542, .inl kp)), (m 7, .inl (gy G 2, 2, .inl ik)), (m 8, .inl (gy G 0, 10, .inl tn))]) (ws2 := [(m 0, .inr (8, [.int 0, .ref (m 1), .int (nI n), .int (q 2), .int (q 3), .int (q 4), .ref (m 2), .ref (m 3), .ref (m 4), .ref (m 5), .int (nI c), .ref (m 6), .ref (m 7), .ref (m 8), .int (q 6), .int (q 7), .int (q 8)])), (m 1, .inl (gy G 0, 120, .inl sg)), (m 2, .inl (gy G 0, 271, .inl rd)), (m 3, .inl (gy G 0, 271, .inl f)), (m 4, .inl (gy G 0, 271, .inl tr)), (m 5, .inl (gy G 0, 3794, .inl dy)), (m 6, .inl (gy G 0, 542, .inl kp)), (m 7, .inl (gy G 2, 2, .inl ik)), (m 8, .inl (gy G 0, 10, .inl tn))]) E (mX8_wishesOf G m (qU (qU (qU q 0 0) 1 (nI n)) 5 (nI c)) S f j hI hT hRR (by omega)) gX8_prisoner_X8_wishesOf rfl hdX8_wishesOf ⟨Nat.le_of_ble_eq_true rfl, Nat.le_of_ble_eq_true rfl⟩ 8 0 rfl rfl rfl (gPerm_ix [0, 3, 1, 2, 4, 5, 6, 7, 8] rfl rfl) rfl rfl (Nat.le_of_ble_eq_true rfl) dX8_prisoner_92 ⟨Nat.le_of_ble_eq_true rfl, Nat.le_of_ble_eq_true rfl⟩ (gPerm_ix [0, 2, 3, 1, 4, 5, 6, 7, 8] rfl rfl) ?_
        exact RET _ _ _ (qU (qU (qU q 0 0) 1 (nI n)) 5 (nI c), sg, rd, f, tr, dy, kp, ik, tn) (gRefP_mk (k := 0) (A := ((n, sg), S, (c, H), sl)) (by rw [fPris, if_pos c1, if_pos c2, nI_clamp (by omega), nI_clamp (by omega)]; try rfl) rfl (fun _ => rfl) ⟨rfl, rfl, hRR, rfl, hD, hKp⟩) rfl dX8_prisoner_95
      · skip
        refine g_top (y := 7) (by rw [k3]; rfl) ?_
        refine g_tableIn (tgt := 96) E dX8_prisoner_39 (by decide) (by decide) rfl (by decide) ?_
        subst k3
        refine g_aload_n E dX8_prisoner_96 rfl 0 rfl ?_
        refine g_get E uX8_prisoner_RX8 0 rfl rfl 7 (by decide) kX8_prisoner_16 rfl rfl dX8_prisoner_97 ?_
        refine g_iload_n E dX8_prisoner_100 rfl 1 rfl ?_
        refine g_iconst (v := 5) E dX8_prisoner_101 (by decide) ?_
        refine g_callSIe (F := [(m 0, .inr (8, [.int 0, .ref (m 1), .int (nI n), .int (q 2), .int (q 3), .int (q 4), .ref (m 2), .ref (m 3), .ref (m 4), .ref (m 5), .int (nI c), .ref (m 6), .ref (m 7), .ref (m 8), .int (q 6), .int (q 7), .int (q 8)])), (m 1, .inl (gy G 0, 120, .inl sg)), (m 2, .inl (gy G 0, 271, .inl rd)), (m 3, .inl (gy G 0, 271, .inl f)), (m 4, .inl (gy G 0, 271, .inl tr)), (m 5, .inl (gy G 0, 3794, .inl dy)), (m 6, .inl (gy G 0, 542, .inl kp)), (m 7, .inl (gy G 2, 2, .inl ik)), (m 8, .inl (gy G 0, 10, .inl tn))]) (ws2 := [(m 0, .inr (8, [.int 0, .ref (m 1), .int (nI n), .int (q 2), .int (q 3), .int (q 4), .ref (m 2), .ref (m 3), .ref (m 4), .ref (m 5), .int (nI c), .ref (m 6), .ref (m 7), .ref (m 8), .int (q 6), .int (q 7), .int (q 8)])), (m 1, .inl (gy G 0, 120, .inl sg)), (m 2, .inl (gy G 0, 271, .inl rd)), (m 3, .inl (gy G 0, 271, .inl f)), (m 4, .inl (gy G 0, 271, .inl tr)), (m 5, .inl (gy G 0, 3794, .inl dy)), (m 6, .inl (gy G 0, 542, .inl kp)), (m 7, .inl (gy G 2, 2, .inl ik)), (m 8, .inl (gy G 0, 10, .inl tn))]) E (mX8_prisonerAt G j 5 (by omega) (by omega)) gX8_prisoner_X8_prisonerAt rfl hnX8_prisonerAt ⟨Nat.le_of_ble_eq_true rfl, Nat.le_of_ble_eq_true rfl⟩ (gPerm_ix [0, 1, 2, 3, 4, 5, 6, 7, 8] rfl rfl) rfl rfl (Nat.le_of_ble_eq_true rfl) dX8_prisoner_102 ⟨Nat.le_of_ble_eq_true rfl, Nat.le_of_ble_eq_true rfl⟩ (gPerm_ix [0, 1, 2, 3, 4, 5, 6, 7, 8] rfl rfl) ?_
        refine g_ialdN (e := 15 + 6 * j + 5) E 3 rfl (by omega) rfl (v := sI S 5 j) (RR_P hRR (p := j) (w := 5) (by omega) (by omega)) dX8_prisoner_105 ?_
        exact RET _ _ _ (qU (qU (qU q 0 0) 1 (nI n)) 5 (nI c), sg, rd, f, tr, dy, kp, ik, tn) (gRefP_mk (k := 0) (A := ((n, sg), S, (c, H), sl)) (by rw [fPris, if_pos c1, if_pos c2, nI_clamp (by omega), nI_clamp (by omega)]; try rfl) rfl (fun _ => rfl) ⟨rfl, rfl, hRR, rfl, hD, hKp⟩) rfl dX8_prisoner_106
  · skip
    refine g_iconst (v := 1) E dX8_prisoner_9 (by decide) ?_
    refine g_goto (tgt := 30) E dX8_prisoner_10 (by decide) ?_
    refine g_callVIe (F := [(m 1, .inl (gy G 0, 120, .inl sg)), (m 2, .inl (gy G 0, 271, .inl rd)), (m 3, .inl (gy G 0, 271, .inl f)), (m 4, .inl (gy G 0, 271, .inl tr)), (m 5, .inl (gy G 0, 3794, .inl dy)), (m 6, .inl (gy G 0, 542, .inl kp)), (m 7, .inl (gy G 2, 2, .inl ik)), (m 8, .inl (gy G 0, 10, .inl tn))]) (ws2 := [(m 0, .inr (8, [.int 1, .ref (m 1), .int (nI n), .int (q 2), .int (q 3), .int (q 4), .ref (m 2), .ref (m 3), .ref (m 4), .ref (m 5), .int (nI c), .ref (m 6), .ref (m 7), .ref (m 8), .int (q 6), .int (q 7), .int (q 8)])), (m 1, .inl (gy G 0, 120, .inl sg)), (m 2, .inl (gy G 0, 271, .inl rd)), (m 3, .inl (gy G 0, 271, .inl f)), (m 4, .inl (gy G 0, 271, .inl tr)), (m 5, .inl (gy G 0, 3794, .inl dy)), (m 6, .inl (gy G 0, 542, .inl kp)), (m 7, .inl (gy G 2, 2, .inl ik)), (m 8, .inl (gy G 0, 10, .inl tn))]) E (mX8_refused G m (qU (qU q 1 (nI n)) 5 (nI c)) 1) gX8_prisoner_X8_refused rfl hdX8_refused ⟨Nat.le_of_ble_eq_true rfl, Nat.le_of_ble_eq_true rfl⟩ 8 0 rfl rfl rfl (gPerm_ix [0, 1, 2, 3, 4, 5, 6, 7, 8] rfl rfl) rfl rfl (Nat.le_of_ble_eq_true rfl) dX8_prisoner_30 ⟨Nat.le_of_ble_eq_true rfl, Nat.le_of_ble_eq_true rfl⟩ (gPerm_ix [0, 1, 2, 3, 4, 5, 6, 7, 8] rfl rfl) ?_
    refine g_if_eq (tgt := 38) E dX8_prisoner_33 (by decide) (fun c => absurd c (by decide)) (fun _ => ?_)
    refine g_iconst (v := 0) E dX8_prisoner_36 (by decide) ?_
    exact RET _ _ _ (qU (qU (qU q 0 1) 1 (nI n)) 5 (nI c), sg, rd, f, tr, dy, kp, ik, tn) (gRefP_mk (k := 1) (A := ((n, sg), S, (c, H), sl)) (by rw [fPris, if_neg c1]) rfl (fun e => absurd e (by decide)) ⟨rfl, rfl, hRR, rfl, hD, hKp⟩) rfl dX8_prisoner_37

set_option maxHeartbeats 4000000 in
set_option maxRecDepth 100000 in
theorem mX8_visitor (G : gG) (m : Nat → Nat) (q : Nat → Int32) (n c : Nat) (sg : Nat → Int32) (S : gSt) (H : Nat → gSt) (sl : Nat → Option gSt) (rd f tr dy kp ik tn : Nat → Int32) (v x : Int32) (hn12 : n ≤ 120) (hO : gOk 50000 S) (hc14 : c ≤ 14) (hHo : gHok 50000 c H) (hRR : RR S f) (hD : gDry c H dy) (hKp : gKpt sl kp ik) : CI G yX8_visitor wsX8_visitor 3 66 [.ref (m 0), .int v, .int x] [(m 0, .inr (8, [.int (q 0), .ref (m 1), .int (nI n), .int (q 2), .int (q 3), .int (q 4), .ref (m 2), .ref (m 3), .ref (m 4), .ref (m 5), .int (nI c), .ref (m 6), .ref (m 7), .ref (m 8), .int (q 6), .int (q 7), .int (q 8)])), (m 1, .inl (gy G 0, 120, .inl sg)), (m 2, .inl (gy G 0, 271, .inl rd)), (m 3, .inl (gy G 0, 271, .inl f)), (m 4, .inl (gy G 0, 271, .inl tr)), (m 5, .inl (gy G 0, 3794, .inl dy)), (m 6, .inl (gy G 0, 542, .inl kp)), (m 7, .inl (gy G 2, 2, .inl ik)), (m 8, .inl (gy G 0, 10, .inl tn))] (gRefP (fVisr ((n, sg), S, (c, H), sl) v x)) (fun (u : gRu) => (wR G m u)) 0 0 := by
  refine g_enterI (ty := .int) RX8 rfl (by decide) rfl (Nat.le_of_ble_eq_true rfl) ?_
  intro V E RET
  have hK := hO.1
  have hJ := hK.1
  have hI := hJ.1
  have hT1 := hO.2.2
  have hT2 : sN S 0 < 200000000 := by omega
  have hT : sN S 0 < 1000000000 := by omega
  have hb2 := gI2_b2 hJ
  have hX := hI
  obtain ⟨hP8, hn, hw, hW8, hs3, hs4, hs5, hs6, hs7, hs8, hb34⟩ := hX
  refine g_aload_n E dX8_visitor_0 rfl 0 rfl ?_
  refine g_iload_n E dX8_visitor_1 rfl 1 rfl ?_
  refine g_callSIe (F := [(m 0, .inr (8, [.int (q 0), .ref (m 1), .int (nI n), .int (q 2), .int (q 3), .int (q 4), .ref (m 2), .ref (m 3), .ref (m 4), .ref (m 5), .int (nI c), .ref (m 6), .ref (m 7), .ref (m 8), .int (q 6), .int (q 7), .int (q 8)])), (m 1, .inl (gy G 0, 120, .inl sg)), (m 2, .inl (gy G 0, 271, .inl rd)), (m 3, .inl (gy G 0, 271, .inl f)), (m 4, .inl (gy G 0, 271, .inl tr)), (m 5, .inl (gy G 0, 3794, .inl dy)), (m 6, .inl (gy G 0, 542, .inl kp)), (m 7, .inl (gy G 2, 2, .inl ik)), (m 8, .inl (gy G 0, 10, .inl tn))]) (ws2 := [(m 0, .inr (8, [.int (q 0), .ref (m 1), .int (nI n), .int (q 2), .int (q 3), .int (q 4), .ref (m 2), .ref (m 3), .ref (m 4), .ref (m 5), .int (nI c), .ref (m 6), .ref (m 7), .ref (m 8), .int (q 6), .int (q 7), .int (q 8)])), (m 1, .inl (gy G 0, 120, .inl sg)), (m 2, .inl (gy G 0, 271, .inl rd)), (m 3, .inl (gy G 0, 271, .inl f)), (m 4, .inl (gy G 0, 271, .inl tr)), (m 5, .inl (gy G 0, 3794, .inl dy)), (m 6, .inl (gy G 0, 542, .inl kp)), (m 7, .inl (gy G 2, 2, .inl ik)), (m 8, .inl (gy G 0, 10, .inl tn))]) E (mX8_isVisitor G v) gX8_visitor_X8_isVisitor rfl hnX8_isVisitor ⟨Nat.le_of_ble_eq_true rfl, Nat.le_of_ble_eq_true rfl⟩ (gPerm_ix [0, 1, 2, 3, 4, 5, 6, 7, 8] rfl rfl) rfl rfl (Nat.le_of_ble_eq_true rfl) dX8_visitor_2 ⟨Nat.le_of_ble_eq_true rfl, Nat.le_of_ble_eq_true rfl⟩ (gPerm_ix [0, 1, 2, 3, 4, 5, 6, 7, 8] rfl rfl) ?_
  refine g_if_neB (tgt := 12) (P := (¬ v < 0 ∧ ¬ 9 < v)) E dX8_visitor_5 (by decide) (fun c1 => ?_) (fun c1 => ?_)
  · skip
    obtain ⟨j, hj, rfl⟩ := gNat_ofl (m := 9) c1 rfl rfl (by decide)
    refine g_iload_n E dX8_visitor_12 rfl 2 rfl ?_
    refine g_i2l (v := x.toInt64) E dX8_visitor_13 rfl ?_
    refine g_lconst (v := 0) E dX8_visitor_14 (by decide) ?_
    refine g_ldc2 (v := 4) E kX8_visitor_246 dX8_visitor_15 ?_
    refine g_callSIe (F := [(m 0, .inr (8, [.int (q 0), .ref (m 1), .int (nI n), .int (q 2), .int (q 3), .int (q 4), .ref (m 2), .ref (m 3), .ref (m 4), .ref (m 5), .int (nI c), .ref (m 6), .ref (m 7), .ref (m 8), .int (q 6), .int (q 7), .int (q 8)])), (m 1, .inl (gy G 0, 120, .inl sg)), (m 2, .inl (gy G 0, 271, .inl rd)), (m 3, .inl (gy G 0, 271, .inl f)), (m 4, .inl (gy G 0, 271, .inl tr)), (m 5, .inl (gy G 0, 3794, .inl dy)), (m 6, .inl (gy G 0, 542, .inl kp)), (m 7, .inl (gy G 2, 2, .inl ik)), (m 8, .inl (gy G 0, 10, .inl tn))]) (ws2 := [(m 0, .inr (8, [.int (q 0), .ref (m 1), .int (nI n), .int (q 2), .int (q 3), .int (q 4), .ref (m 2), .ref (m 3), .ref (m 4), .ref (m 5), .int (nI c), .ref (m 6), .ref (m 7), .ref (m 8), .int (q 6), .int (q 7), .int (q 8)])), (m 1, .inl (gy G 0, 120, .inl sg)), (m 2, .inl (gy G 0, 271, .inl rd)), (m 3, .inl (gy G 0, 271, .inl f)), (m 4, .inl (gy G 0, 271, .inl tr)), (m 5, .inl (gy G 0, 3794, .inl dy)), (m 6, .inl (gy G 0, 542, .inl kp)), (m 7, .inl (gy G 2, 2, .inl ik)), (m 8, .inl (gy G 0, 10, .inl tn))]) E (g_resI (gIn64 (lo := 0) (hi := 4) rfl rfl) (mX8_in G x.toInt64 0 4)) gX8_visitor_X8_in rfl hnX8_in ⟨Nat.le_of_ble_eq_true rfl, Nat.le_of_ble_eq_true rfl⟩ (gPerm_ix [0, 1, 2, 3, 4, 5, 6, 7, 8] rfl rfl) rfl rfl (Nat.le_of_ble_eq_true rfl) dX8_visitor_18 ⟨Nat.le_of_ble_eq_true rfl, Nat.le_of_ble_eq_true rfl⟩ (gPerm_ix [0, 1, 2, 3, 4, 5, 6, 7, 8] rfl rfl) ?_
    refine g_if_eqB (tgt := 28) (P := (¬ x < 0 ∧ ¬ 4 < x)) E dX8_visitor_21 (by decide) (fun c2 => ?_) (fun c2 => ?_)
    · skip
      refine g_iconst (v := 2) E dX8_visitor_28 (by decide) ?_
      refine g_callVIe (F := [(m 1, .inl (gy G 0, 120, .inl sg)), (m 2, .inl (gy G 0, 271, .inl rd)), (m 3, .inl (gy G 0, 271, .inl f)), (m 4, .inl (gy G 0, 271, .inl tr)), (m 5, .inl (gy G 0, 3794, .inl dy)), (m 6, .inl (gy G 0, 542, .inl kp)), (m 7, .inl (gy G 2, 2, .inl ik)), (m 8, .inl (gy G 0, 10, .inl tn))]) (ws2 := [(m 0, .inr (8, [.int 2, .ref (m 1), .int (nI n), .int (q 2), .int (q 3), .int (q 4), .ref (m 2), .ref (m 3), .ref (m 4), .ref (m 5), .int (nI c), .ref (m 6), .ref (m 7), .ref (m 8), .int (q 6), .int (q 7), .int (q 8)])), (m 1, .inl (gy G 0, 120, .inl sg)), (m 2, .inl (gy G 0, 271, .inl rd)), (m 3, .inl (gy G 0, 271, .inl f)), (m 4, .inl (gy G 0, 271, .inl tr)), (m 5, .inl (gy G 0, 3794, .inl dy)), (m 6, .inl (gy G 0, 542, .inl kp)), (m 7, .inl (gy G 2, 2, .inl ik)), (m 8, .inl (gy G 0, 10, .inl tn))]) E (mX8_refused G m (qU (qU q 1 (nI n)) 5 (nI c)) 2) gX8_visitor_X8_refused rfl hdX8_refused ⟨Nat.le_of_ble_eq_true rfl, Nat.le_of_ble_eq_true rfl⟩ 8 0 rfl rfl rfl (gPerm_ix [0, 1, 2, 3, 4, 5, 6, 7, 8] rfl rfl) rfl rfl (Nat.le_of_ble_eq_true rfl) dX8_visitor_29 ⟨Nat.le_of_ble_eq_true rfl, Nat.le_of_ble_eq_true rfl⟩ (gPerm_ix [0, 1, 2, 3, 4, 5, 6, 7, 8] rfl rfl) ?_
      refine g_if_eq (tgt := 37) E dX8_visitor_32 (by decide) (fun c => absurd c (by decide)) (fun _ => ?_)
      refine g_iconst (v := 0) E dX8_visitor_35 (by decide) ?_
      exact RET _ _ _ (qU (qU (qU q 0 2) 1 (nI n)) 5 (nI c), sg, rd, f, tr, dy, kp, ik, tn) (gRefP_mk (k := 2) (A := ((n, sg), S, (c, H), sl)) (by rw [fVisr, if_pos (gV910.mp c1), if_neg c2]) rfl (fun e => absurd e (by decide)) ⟨rfl, rfl, hRR, rfl, hD, hKp⟩) rfl dX8_visitor_36
    · skip
      obtain ⟨e, he, rfl⟩ := gNat_ofl (m := 4) c2 rfl rfl (by decide)
      refine g_iconst (v := 0) E dX8_visitor_24 (by decide) ?_
      refine g_goto (tgt := 29) E dX8_visitor_25 (by decide) ?_
      refine g_callVIe (F := [(m 1, .inl (gy G 0, 120, .inl sg)), (m 2, .inl (gy G 0, 271, .inl rd)), (m 3, .inl (gy G 0, 271, .inl f)), (m 4, .inl (gy G 0, 271, .inl tr)), (m 5, .inl (gy G 0, 3794, .inl dy)), (m 6, .inl (gy G 0, 542, .inl kp)), (m 7, .inl (gy G 2, 2, .inl ik)), (m 8, .inl (gy G 0, 10, .inl tn))]) (ws2 := [(m 0, .inr (8, [.int 0, .ref (m 1), .int (nI n), .int (q 2), .int (q 3), .int (q 4), .ref (m 2), .ref (m 3), .ref (m 4), .ref (m 5), .int (nI c), .ref (m 6), .ref (m 7), .ref (m 8), .int (q 6), .int (q 7), .int (q 8)])), (m 1, .inl (gy G 0, 120, .inl sg)), (m 2, .inl (gy G 0, 271, .inl rd)), (m 3, .inl (gy G 0, 271, .inl f)), (m 4, .inl (gy G 0, 271, .inl tr)), (m 5, .inl (gy G 0, 3794, .inl dy)), (m 6, .inl (gy G 0, 542, .inl kp)), (m 7, .inl (gy G 2, 2, .inl ik)), (m 8, .inl (gy G 0, 10, .inl tn))]) E (mX8_refused G m (qU (qU q 1 (nI n)) 5 (nI c)) 0) gX8_visitor_X8_refused rfl hdX8_refused ⟨Nat.le_of_ble_eq_true rfl, Nat.le_of_ble_eq_true rfl⟩ 8 0 rfl rfl rfl (gPerm_ix [0, 1, 2, 3, 4, 5, 6, 7, 8] rfl rfl) rfl rfl (Nat.le_of_ble_eq_true rfl) dX8_visitor_29 ⟨Nat.le_of_ble_eq_true rfl, Nat.le_of_ble_eq_true rfl⟩ (gPerm_ix [0, 1, 2, 3, 4, 5, 6, 7, 8] rfl rfl) ?_
      refine g_if_eq (tgt := 37) E dX8_visitor_32 (by decide) (fun _ => ?_) (fun c => absurd c (by decide))
      refine g_iload_n E dX8_visitor_37 rfl 2 rfl ?_
      refine g_iconst (v := 3) E dX8_visitor_38 (by decide) ?_
      refine g_icmp_geN (tgt := 55) (a := e) (b := 3) E dX8_visitor_39 (by decide) (by omega) (by omega) (fun c3 => ?_) (fun c3 => ?_)
      · skip
        refine g_iload_n E dX8_visitor_55 rfl 2 rfl ?_
        refine g_iconst (v := 3) E dX8_visitor_56 (by decide) ?_
        refine g_icmp_neN (tgt := 69) (a := e) (b := 3) E dX8_visitor_57 (by decide) (by omega) (by omega) (fun c4 => ?_) (fun c4 => ?_)
        · skip
          obtain rfl : e = 4 := by omega
          refine g_aload_n E dX8_visitor_69 rfl 0 rfl ?_
          refine g_iload_n E dX8_visitor_70 rfl 1 rfl ?_
          refine g_callVIe (F := [(m 1, .inl (gy G 0, 120, .inl sg)), (m 2, .inl (gy G 0, 271, .inl rd)), (m 4, .inl (gy G 0, 271, .inl tr)), (m 5, .inl (gy G 0, 3794, .inl dy)), (m 6, .inl (gy G 0, 542, .inl kp)), (m 7, .inl (gy G 2, 2, .inl ik)), (m 8, .inl (gy G 0, 10, .inl tn))]) (ws2 := [(m 0, .inr (8, [.int 0, .ref (m 1), .int (nI n), .int (q 2), .int (q 3), .int (q 4), .ref (m 2), .ref (m 3), .ref (m 4), .ref (m 5), .int (nI c), .ref (m 6), .ref (m 7), .ref (m 8), .int (q 6), .int (q 7), .int (q 8)])), (m 1, .inl (gy G 0, 120, .inl sg)), (m 2, .inl (gy G 0, 271, .inl rd)), (m 3, .inl (gy G 0, 271, .inl f)), (m 4, .inl (gy G 0, 271, .inl tr)), (m 5, .inl (gy G 0, 3794, .inl dy)), (m 6, .inl (gy G 0, 542, .inl kp)), (m 7, .inl (gy G 2, 2, .inl ik)), (m 8, .inl (gy G 0, 10, .inl tn))]) E (mX8_listsOf G m (qU (qU (qU q 0 0) 1 (nI n)) 5 (nI c)) S f j hI hT hRR (by omega) (gI2_zp hJ)) gX8_visitor_X8_listsOf rfl hdX8_listsOf ⟨Nat.le_of_ble_eq_true rfl, Nat.le_of_ble_eq_true rfl⟩ 8 0 rfl rfl rfl (gPerm_ix [0, 3, 1, 2, 4, 5, 6, 7, 8] rfl rfl) rfl rfl (Nat.le_of_ble_eq_true rfl) dX8_visitor_71 ⟨Nat.le_of_ble_eq_true rfl, Nat.le_of_ble_eq_true rfl⟩ (gPerm_ix [0, 2, 3, 1, 4, 5, 6, 7, 8] rfl rfl) ?_
          exact RET _ _ _ (qU (qU (qU q 0 0) 1 (nI n)) 5 (nI c), sg, rd, f, tr, dy, kp, ik, tn) (gRefP_mk (k := 0) (A := ((n, sg), S, (c, H), sl)) (by rw [fVisr, if_pos (gV910.mp c1), if_pos c2, nI_clamp (by omega), nI_clamp (by omega)]; try rfl) rfl (fun _ => rfl) ⟨rfl, rfl, hRR, rfl, hD, hKp⟩) rfl dX8_visitor_74
        · skip
          obtain rfl : e = 3 := c4
          refine g_aload_n E dX8_visitor_60 rfl 0 rfl ?_
          refine g_iconst (v := 4) E dX8_visitor_61 (by decide) ?_
          refine g_iload_n E dX8_visitor_62 rfl 1 rfl ?_
          refine g_callVIe (F := [(m 1, .inl (gy G 0, 120, .inl sg)), (m 2, .inl (gy G 0, 271, .inl rd)), (m 4, .inl (gy G 0, 271, .inl tr)), (m 5, .inl (gy G 0, 3794, .inl dy)), (m 6, .inl (gy G 0, 542, .inl kp)), (m 7, .inl (gy G 2, 2, .inl ik)), (m 8, .inl (gy G 0, 10, .inl tn))]) (ws2 := [(m 0, .inr (8, [.int 0, .ref (m 1), .int (nI n), .int (q 2), .int (q 3), .int (q 4), .ref (m 2), .ref (m 3), .ref (m 4), .ref (m 5), .int (nI c), .ref (m 6), .ref (m 7), .ref (m 8), .int (q 6), .int (q 7), .int (q 8)])), (m 1, .inl (gy G 0, 120, .inl sg)), (m 2, .inl (gy G 0, 271, .inl rd)), (m 3, .inl (gy G 0, 271, .inl f)), (m 4, .inl (gy G 0, 271, .inl tr)), (m 5, .inl (gy G 0, 3794, .inl dy)), (m 6, .inl (gy G 0, 542, .inl kp)), (m 7, .inl (gy G 2, 2, .inl ik)), (m 8, .inl (gy G 0, 10, .inl tn))]) E (mX8_bookingsOf G m (qU (qU (qU q 0 0) 1 (nI n)) 5 (nI c)) S f 4 j hI hT hRR (by decide) (by omega)) gX8_visitor_X8_bookingsOf rfl hdX8_bookingsOf ⟨Nat.le_of_ble_eq_true rfl, Nat.le_of_ble_eq_true rfl⟩ 8 0 rfl rfl rfl (gPerm_ix [0, 3, 1, 2, 4, 5, 6, 7, 8] rfl rfl) rfl rfl (Nat.le_of_ble_eq_true rfl) dX8_visitor_63 ⟨Nat.le_of_ble_eq_true rfl, Nat.le_of_ble_eq_true rfl⟩ (gPerm_ix [0, 2, 3, 1, 4, 5, 6, 7, 8] rfl rfl) ?_
          refine g_goto (tgt := 74) E dX8_visitor_66 (by decide) ?_
          exact RET _ _ _ (qU (qU (qU q 0 0) 1 (nI n)) 5 (nI c), sg, rd, f, tr, dy, kp, ik, tn) (gRefP_mk (k := 0) (A := ((n, sg), S, (c, H), sl)) (by rw [fVisr, if_pos (gV910.mp c1), if_pos c2, nI_clamp (by omega), nI_clamp (by omega)]; try rfl) rfl (fun _ => rfl) ⟨rfl, rfl, hRR, rfl, hD, hKp⟩) rfl dX8_visitor_74
      · skip
        rcases (show e = 0 ∨ e = 1 ∨ e = 2 by omega) with rfl | rfl | rfl
        · skip
          refine g_aload_n E dX8_visitor_42 rfl 0 rfl ?_
          refine g_get E uX8_visitor_RX8 0 rfl rfl 7 (by decide) kX8_visitor_16 rfl rfl dX8_visitor_43 ?_
          refine g_iload_n E dX8_visitor_46 rfl 1 rfl ?_
          refine g_iload_n E dX8_visitor_47 rfl 2 rfl ?_
          refine g_callSIe (F := [(m 0, .inr (8, [.int 0, .ref (m 1), .int (nI n), .int (q 2), .int (q 3), .int (q 4), .ref (m 2), .ref (m 3), .ref (m 4), .ref (m 5), .int (nI c), .ref (m 6), .ref (m 7), .ref (m 8), .int (q 6), .int (q 7), .int (q 8)])), (m 1, .inl (gy G 0, 120, .inl sg)), (m 2, .inl (gy G 0, 271, .inl rd)), (m 3, .inl (gy G 0, 271, .inl f)), (m 4, .inl (gy G 0, 271, .inl tr)), (m 5, .inl (gy G 0, 3794, .inl dy)), (m 6, .inl (gy G 0, 542, .inl kp)), (m 7, .inl (gy G 2, 2, .inl ik)), (m 8, .inl (gy G 0, 10, .inl tn))]) (ws2 := [(m 0, .inr (8, [.int 0, .ref (m 1), .int (nI n), .int (q 2), .int (q 3), .int (q 4), .ref (m 2), .ref (m 3), .ref (m 4), .ref (m 5), .int (nI c), .ref (m 6), .ref (m 7), .ref (m 8), .int (q 6), .int (q 7), .int (q 8)])), (m 1, .inl (gy G 0, 120, .inl sg)), (m 2, .inl (gy G 0, 271, .inl rd)), (m 3, .inl (gy G 0, 271, .inl f)), (m 4, .inl (gy G 0, 271, .inl tr)), (m 5, .inl (gy G 0, 3794, .inl dy)), (m 6, .inl (gy G 0, 542, .inl kp)), (m 7, .inl (gy G 2, 2, .inl ik)), (m 8, .inl (gy G 0, 10, .inl tn))]) E (mX8_visitorAt G j 0 (by omega) (by omega)) gX8_visitor_X8_visitorAt rfl hnX8_visitorAt ⟨Nat.le_of_ble_eq_true rfl, Nat.le_of_ble_eq_true rfl⟩ (gPerm_ix [0, 1, 2, 3, 4, 5, 6, 7, 8] rfl rfl) rfl rfl (Nat.le_of_ble_eq_true rfl) dX8_visitor_48 ⟨Nat.le_of_ble_eq_true rfl, Nat.le_of_ble_eq_true rfl⟩ (gPerm_ix [0, 1, 2, 3, 4, 5, 6, 7, 8] rfl rfl) ?_
          refine g_ialdN (e := 63 + 3 * j + 0) E 3 rfl (by omega) rfl (v := sI S 6 j) (RR_V0 hRR (v := j) (by omega)) dX8_visitor_51 ?_
          refine g_goto (tgt := 74) E dX8_visitor_52 (by decide) ?_
          exact RET _ _ _ (qU (qU (qU q 0 0) 1 (nI n)) 5 (nI c), sg, rd, f, tr, dy, kp, ik, tn) (gRefP_mk (k := 0) (A := ((n, sg), S, (c, H), sl)) (by rw [fVisr, if_pos (gV910.mp c1), if_pos c2, nI_clamp (by omega), nI_clamp (by omega)]; try rfl) rfl (fun _ => rfl) ⟨rfl, rfl, hRR, rfl, hD, hKp⟩) rfl dX8_visitor_74
        · skip
          refine g_aload_n E dX8_visitor_42 rfl 0 rfl ?_
          refine g_get E uX8_visitor_RX8 0 rfl rfl 7 (by decide) kX8_visitor_16 rfl rfl dX8_visitor_43 ?_
          refine g_iload_n E dX8_visitor_46 rfl 1 rfl ?_
          refine g_iload_n E dX8_visitor_47 rfl 2 rfl ?_
          refine g_callSIe (F := [(m 0, .inr (8, [.int 0, .ref (m 1), .int (nI n), .int (q 2), .int (q 3), .int (q 4), .ref (m 2), .ref (m 3), .ref (m 4), .ref (m 5), .int (nI c), .ref (m 6), .ref (m 7), .ref (m 8), .int (q 6), .int (q 7), .int (q 8)])), (m 1, .inl (gy G 0, 120, .inl sg)), (m 2, .inl (gy G 0, 271, .inl rd)), (m 3, .inl (gy G 0, 271, .inl f)), (m 4, .inl (gy G 0, 271, .inl tr)), (m 5, .inl (gy G 0, 3794, .inl dy)), (m 6, .inl (gy G 0, 542, .inl kp)), (m 7, .inl (gy G 2, 2, .inl ik)), (m 8, .inl (gy G 0, 10, .inl tn))]) (ws2 := [(m 0, .inr (8, [.int 0, .ref (m 1), .int (nI n), .int (q 2), .int (q 3), .int (q 4), .ref (m 2), .ref (m 3), .ref (m 4), .ref (m 5), .int (nI c), .ref (m 6), .ref (m 7), .ref (m 8), .int (q 6), .int (q 7), .int (q 8)])), (m 1, .inl (gy G 0, 120, .inl sg)), (m 2, .inl (gy G 0, 271, .inl rd)), (m 3, .inl (gy G 0, 271, .inl f)), (m 4, .inl (gy G 0, 271, .inl tr)), (m 5, .inl (gy G 0, 3794, .inl dy)), (m 6, .inl (gy G 0, 542, .inl kp)), (m 7, .inl (gy G 2, 2, .inl ik)), (m 8, .inl (gy G 0, 10, .inl tn))]) E (mX8_visitorAt G j 1 (by omega) (by omega)) gX8_visitor_X8_visitorAt rfl hnX8_visitorAt ⟨Nat.le_of_ble_eq_true rfl, Nat.le_of_ble_eq_true rfl⟩ (gPerm_ix [0, 1, 2, 3, 4, 5, 6, 7, 8] rfl rfl) rfl rfl (Nat.le_of_ble_eq_true rfl) dX8_visitor_48 ⟨Nat.le_of_ble_eq_true rfl, Nat.le_of_ble_eq_true rfl⟩ (gPerm_ix [0, 1, 2, 3, 4, 5, 6, 7, 8] rfl rfl) ?_
          refine g_ialdN (e := 63 + 3 * j + 1) E 3 rfl (by omega) rfl (v := sI S 7 j) (RR_V1 hRR (v := j) (by omega)) dX8_visitor_51 ?_
          refine g_goto (tgt := 74) E dX8_visitor_52 (by decide) ?_
          exact RET _ _ _ (qU (qU (qU q 0 0) 1 (nI n)) 5 (nI c), sg, rd, f, tr, dy, kp, ik, tn) (gRefP_mk (k := 0) (A := ((n, sg), S, (c, H), sl)) (by rw [fVisr, if_pos (gV910.mp c1), if_pos c2, nI_clamp (by omega), nI_clamp (by omega)]; try rfl) rfl (fun _ => rfl) ⟨rfl, rfl, hRR, rfl, hD, hKp⟩) rfl dX8_visitor_74
        · skip
          refine g_aload_n E dX8_visitor_42 rfl 0 rfl ?_
          refine g_get E uX8_visitor_RX8 0 rfl rfl 7 (by decide) kX8_visitor_16 rfl rfl dX8_visitor_43 ?_
          refine g_iload_n E dX8_visitor_46 rfl 1 rfl ?_
          refine g_iload_n E dX8_visitor_47 rfl 2 rfl ?_
          refine g_callSIe (F := [(m 0, .inr (8, [.int 0, .ref (m 1), .int (nI n), .int (q 2), .int (q 3), .int (q 4), .ref (m 2), .ref (m 3), .ref (m 4), .ref (m 5), .int (nI c), .ref (m 6), .ref (m 7), .ref (m 8), .int (q 6), .int (q 7), .int (q 8)])), (m 1, .inl (gy G 0, 120, .inl sg)), (m 2, .inl (gy G 0, 271, .inl rd)), (m 3, .inl (gy G 0, 271, .inl f)), (m 4, .inl (gy G 0, 271, .inl tr)), (m 5, .inl (gy G 0, 3794, .inl dy)), (m 6, .inl (gy G 0, 542, .inl kp)), (m 7, .inl (gy G 2, 2, .inl ik)), (m 8, .inl (gy G 0, 10, .inl tn))]) (ws2 := [(m 0, .inr (8, [.int 0, .ref (m 1), .int (nI n), .int (q 2), .int (q 3), .int (q 4), .ref (m 2), .ref (m 3), .ref (m 4), .ref (m 5), .int (nI c), .ref (m 6), .ref (m 7), .ref (m 8), .int (q 6), .int (q 7), .int (q 8)])), (m 1, .inl (gy G 0, 120, .inl sg)), (m 2, .inl (gy G 0, 271, .inl rd)), (m 3, .inl (gy G 0, 271, .inl f)), (m 4, .inl (gy G 0, 271, .inl tr)), (m 5, .inl (gy G 0, 3794, .inl dy)), (m 6, .inl (gy G 0, 542, .inl kp)), (m 7, .inl (gy G 2, 2, .inl ik)), (m 8, .inl (gy G 0, 10, .inl tn))]) E (mX8_visitorAt G j 2 (by omega) (by omega)) gX8_visitor_X8_visitorAt rfl hnX8_visitorAt ⟨Nat.le_of_ble_eq_true rfl, Nat.le_of_ble_eq_true rfl⟩ (gPerm_ix [0, 1, 2, 3, 4, 5, 6, 7, 8] rfl rfl) rfl rfl (Nat.le_of_ble_eq_true rfl) dX8_visitor_48 ⟨Nat.le_of_ble_eq_true rfl, Nat.le_of_ble_eq_true rfl⟩ (gPerm_ix [0, 1, 2, 3, 4, 5, 6, 7, 8] rfl rfl) ?_
          refine g_ialdN (e := 63 + 3 * j + 2) E 3 rfl (by omega) rfl (v := if gHb (sI S 9 0) (nI j) = true then 1 else 0) (RR_V2 hRR (v := j) (by omega)) dX8_visitor_51 ?_
          refine g_goto (tgt := 74) E dX8_visitor_52 (by decide) ?_
          exact RET _ _ _ (qU (qU (qU q 0 0) 1 (nI n)) 5 (nI c), sg, rd, f, tr, dy, kp, ik, tn) (gRefP_mk (k := 0) (A := ((n, sg), S, (c, H), sl)) (by rw [fVisr, if_pos (gV910.mp c1), if_pos c2, nI_clamp (by omega), nI_clamp (by omega)]; try rfl) rfl (fun _ => rfl) ⟨rfl, rfl, hRR, rfl, hD, hKp⟩) rfl dX8_visitor_74
  · skip
    refine g_iconst (v := 1) E dX8_visitor_8 (by decide) ?_
    refine g_goto (tgt := 29) E dX8_visitor_9 (by decide) ?_
    refine g_callVIe (F := [(m 1, .inl (gy G 0, 120, .inl sg)), (m 2, .inl (gy G 0, 271, .inl rd)), (m 3, .inl (gy G 0, 271, .inl f)), (m 4, .inl (gy G 0, 271, .inl tr)), (m 5, .inl (gy G 0, 3794, .inl dy)), (m 6, .inl (gy G 0, 542, .inl kp)), (m 7, .inl (gy G 2, 2, .inl ik)), (m 8, .inl (gy G 0, 10, .inl tn))]) (ws2 := [(m 0, .inr (8, [.int 1, .ref (m 1), .int (nI n), .int (q 2), .int (q 3), .int (q 4), .ref (m 2), .ref (m 3), .ref (m 4), .ref (m 5), .int (nI c), .ref (m 6), .ref (m 7), .ref (m 8), .int (q 6), .int (q 7), .int (q 8)])), (m 1, .inl (gy G 0, 120, .inl sg)), (m 2, .inl (gy G 0, 271, .inl rd)), (m 3, .inl (gy G 0, 271, .inl f)), (m 4, .inl (gy G 0, 271, .inl tr)), (m 5, .inl (gy G 0, 3794, .inl dy)), (m 6, .inl (gy G 0, 542, .inl kp)), (m 7, .inl (gy G 2, 2, .inl ik)), (m 8, .inl (gy G 0, 10, .inl tn))]) E (mX8_refused G m (qU (qU q 1 (nI n)) 5 (nI c)) 1) gX8_visitor_X8_refused rfl hdX8_refused ⟨Nat.le_of_ble_eq_true rfl, Nat.le_of_ble_eq_true rfl⟩ 8 0 rfl rfl rfl (gPerm_ix [0, 1, 2, 3, 4, 5, 6, 7, 8] rfl rfl) rfl rfl (Nat.le_of_ble_eq_true rfl) dX8_visitor_29 ⟨Nat.le_of_ble_eq_true rfl, Nat.le_of_ble_eq_true rfl⟩ (gPerm_ix [0, 1, 2, 3, 4, 5, 6, 7, 8] rfl rfl) ?_
    refine g_if_eq (tgt := 37) E dX8_visitor_32 (by decide) (fun c => absurd c (by decide)) (fun _ => ?_)
    refine g_iconst (v := 0) E dX8_visitor_35 (by decide) ?_
    exact RET _ _ _ (qU (qU (qU q 0 1) 1 (nI n)) 5 (nI c), sg, rd, f, tr, dy, kp, ik, tn) (gRefP_mk (k := 1) (A := ((n, sg), S, (c, H), sl)) (by rw [fVisr, if_neg (fun q => c1 (gV910.mpr q))]) rfl (fun e => absurd e (by decide)) ⟨rfl, rfl, hRR, rfl, hD, hKp⟩) rfl dX8_visitor_36

set_option maxHeartbeats 4000000 in
set_option maxRecDepth 100000 in
theorem mX8_booking (G : gG) (m : Nat → Nat) (q : Nat → Int32) (n c : Nat) (sg : Nat → Int32) (S : gSt) (H : Nat → gSt) (sl : Nat → Option gSt) (rd f tr dy kp ik tn : Nat → Int32) (k x : Int32) (hn12 : n ≤ 120) (hO : gOk 50000 S) (hc14 : c ≤ 14) (hHo : gHok 50000 c H) (hRR : RR S f) (hD : gDry c H dy) (hKp : gKpt sl kp ik) : CI G yX8_booking wsX8_booking 2 46 [.ref (m 0), .int k, .int x] [(m 0, .inr (8, [.int (q 0), .ref (m 1), .int (nI n), .int (q 2), .int (q 3), .int (q 4), .ref (m 2), .ref (m 3), .ref (m 4), .ref (m 5), .int (nI c), .ref (m 6), .ref (m 7), .ref (m 8), .int (q 6), .int (q 7), .int (q 8)])), (m 1, .inl (gy G 0, 120, .inl sg)), (m 2, .inl (gy G 0, 271, .inl rd)), (m 3, .inl (gy G 0, 271, .inl f)), (m 4, .inl (gy G 0, 271, .inl tr)), (m 5, .inl (gy G 0, 3794, .inl dy)), (m 6, .inl (gy G 0, 542, .inl kp)), (m 7, .inl (gy G 2, 2, .inl ik)), (m 8, .inl (gy G 0, 10, .inl tn))] (gRefP (fBkng ((n, sg), S, (c, H), sl) k x)) (fun (u : gRu) => (wR G m u)) 0 0 := by
  refine g_enterI (ty := .int) RX8 rfl (by decide) rfl (Nat.le_of_ble_eq_true rfl) ?_
  intro V E RET
  have hK := hO.1
  have hJ := hK.1
  have hI := hJ.1
  have hT1 := hO.2.2
  have hT2 : sN S 0 < 200000000 := by omega
  have hT : sN S 0 < 1000000000 := by omega
  have hb2 := gI2_b2 hJ
  have hX := hI
  obtain ⟨hP8, hn, hw, hW8, hs3, hs4, hs5, hs6, hs7, hs8, hb34⟩ := hX
  refine g_aload_n E dX8_booking_0 rfl 0 rfl ?_
  refine g_aload_n E dX8_booking_1 rfl 0 rfl ?_
  refine g_iload_n E dX8_booking_2 rfl 1 rfl ?_
  refine g_callVIe (F := [(m 1, .inl (gy G 0, 120, .inl sg)), (m 2, .inl (gy G 0, 271, .inl rd)), (m 4, .inl (gy G 0, 271, .inl tr)), (m 5, .inl (gy G 0, 3794, .inl dy)), (m 6, .inl (gy G 0, 542, .inl kp)), (m 7, .inl (gy G 2, 2, .inl ik)), (m 8, .inl (gy G 0, 10, .inl tn))]) (ws2 := [(m 0, .inr (8, [.int (q 0), .ref (m 1), .int (nI n), .int (q 2), .int (q 3), .int (q 4), .ref (m 2), .ref (m 3), .ref (m 4), .ref (m 5), .int (nI c), .ref (m 6), .ref (m 7), .ref (m 8), .int (q 6), .int (q 7), .int (q 8)])), (m 1, .inl (gy G 0, 120, .inl sg)), (m 2, .inl (gy G 0, 271, .inl rd)), (m 3, .inl (gy G 0, 271, .inl f)), (m 4, .inl (gy G 0, 271, .inl tr)), (m 5, .inl (gy G 0, 3794, .inl dy)), (m 6, .inl (gy G 0, 542, .inl kp)), (m 7, .inl (gy G 2, 2, .inl ik)), (m 8, .inl (gy G 0, 10, .inl tn))]) E (mX8_isBooking G m (qU (qU q 1 (nI n)) 5 (nI c)) S f k hI hT hRR) gX8_booking_X8_isBooking rfl hdX8_isBooking ⟨Nat.le_of_ble_eq_true rfl, Nat.le_of_ble_eq_true rfl⟩ 8 0 rfl rfl rfl (gPerm_ix [0, 3, 1, 2, 4, 5, 6, 7, 8] rfl rfl) rfl rfl (Nat.le_of_ble_eq_true rfl) dX8_booking_3 ⟨Nat.le_of_ble_eq_true rfl, Nat.le_of_ble_eq_true rfl⟩ (gPerm_ix [0, 2, 3, 1, 4, 5, 6, 7, 8] rfl rfl) ?_
  refine g_if_neB (tgt := 13) (P := (¬ k < 0 ∧ ¬ nI ((sB S).length) ≤ k)) E dX8_booking_6 (by decide) (fun c1 => ?_) (fun c1 => ?_)
  · skip
    obtain ⟨j, hj, rfl⟩ := gNat_of c1 (by omega)
    refine g_iload_n E dX8_booking_13 rfl 2 rfl ?_
    refine g_i2l (v := x.toInt64) E dX8_booking_14 rfl ?_
    refine g_lconst (v := 0) E dX8_booking_15 (by decide) ?_
    refine g_ldc2 (v := 5) E kX8_booking_254 dX8_booking_16 ?_
    refine g_callSIe (F := [(m 0, .inr (8, [.int (q 0), .ref (m 1), .int (nI n), .int (q 2), .int (q 3), .int (q 4), .ref (m 2), .ref (m 3), .ref (m 4), .ref (m 5), .int (nI c), .ref (m 6), .ref (m 7), .ref (m 8), .int (q 6), .int (q 7), .int (q 8)])), (m 1, .inl (gy G 0, 120, .inl sg)), (m 2, .inl (gy G 0, 271, .inl rd)), (m 3, .inl (gy G 0, 271, .inl f)), (m 4, .inl (gy G 0, 271, .inl tr)), (m 5, .inl (gy G 0, 3794, .inl dy)), (m 6, .inl (gy G 0, 542, .inl kp)), (m 7, .inl (gy G 2, 2, .inl ik)), (m 8, .inl (gy G 0, 10, .inl tn))]) (ws2 := [(m 0, .inr (8, [.int (q 0), .ref (m 1), .int (nI n), .int (q 2), .int (q 3), .int (q 4), .ref (m 2), .ref (m 3), .ref (m 4), .ref (m 5), .int (nI c), .ref (m 6), .ref (m 7), .ref (m 8), .int (q 6), .int (q 7), .int (q 8)])), (m 1, .inl (gy G 0, 120, .inl sg)), (m 2, .inl (gy G 0, 271, .inl rd)), (m 3, .inl (gy G 0, 271, .inl f)), (m 4, .inl (gy G 0, 271, .inl tr)), (m 5, .inl (gy G 0, 3794, .inl dy)), (m 6, .inl (gy G 0, 542, .inl kp)), (m 7, .inl (gy G 2, 2, .inl ik)), (m 8, .inl (gy G 0, 10, .inl tn))]) E (g_resI (gIn64 (lo := 0) (hi := 5) rfl rfl) (mX8_in G x.toInt64 0 5)) gX8_booking_X8_in rfl hnX8_in ⟨Nat.le_of_ble_eq_true rfl, Nat.le_of_ble_eq_true rfl⟩ (gPerm_ix [0, 1, 2, 3, 4, 5, 6, 7, 8] rfl rfl) rfl rfl (Nat.le_of_ble_eq_true rfl) dX8_booking_19 ⟨Nat.le_of_ble_eq_true rfl, Nat.le_of_ble_eq_true rfl⟩ (gPerm_ix [0, 1, 2, 3, 4, 5, 6, 7, 8] rfl rfl) ?_
    refine g_if_eqB (tgt := 29) (P := (¬ x < 0 ∧ ¬ 5 < x)) E dX8_booking_22 (by decide) (fun c2 => ?_) (fun c2 => ?_)
    · skip
      refine g_iconst (v := 2) E dX8_booking_29 (by decide) ?_
      refine g_callVIe (F := [(m 1, .inl (gy G 0, 120, .inl sg)), (m 2, .inl (gy G 0, 271, .inl rd)), (m 3, .inl (gy G 0, 271, .inl f)), (m 4, .inl (gy G 0, 271, .inl tr)), (m 5, .inl (gy G 0, 3794, .inl dy)), (m 6, .inl (gy G 0, 542, .inl kp)), (m 7, .inl (gy G 2, 2, .inl ik)), (m 8, .inl (gy G 0, 10, .inl tn))]) (ws2 := [(m 0, .inr (8, [.int 2, .ref (m 1), .int (nI n), .int (q 2), .int (q 3), .int (q 4), .ref (m 2), .ref (m 3), .ref (m 4), .ref (m 5), .int (nI c), .ref (m 6), .ref (m 7), .ref (m 8), .int (q 6), .int (q 7), .int (q 8)])), (m 1, .inl (gy G 0, 120, .inl sg)), (m 2, .inl (gy G 0, 271, .inl rd)), (m 3, .inl (gy G 0, 271, .inl f)), (m 4, .inl (gy G 0, 271, .inl tr)), (m 5, .inl (gy G 0, 3794, .inl dy)), (m 6, .inl (gy G 0, 542, .inl kp)), (m 7, .inl (gy G 2, 2, .inl ik)), (m 8, .inl (gy G 0, 10, .inl tn))]) E (mX8_refused G m (qU (qU q 1 (nI n)) 5 (nI c)) 2) gX8_booking_X8_refused rfl hdX8_refused ⟨Nat.le_of_ble_eq_true rfl, Nat.le_of_ble_eq_true rfl⟩ 8 0 rfl rfl rfl (gPerm_ix [0, 1, 2, 3, 4, 5, 6, 7, 8] rfl rfl) rfl rfl (Nat.le_of_ble_eq_true rfl) dX8_booking_30 ⟨Nat.le_of_ble_eq_true rfl, Nat.le_of_ble_eq_true rfl⟩ (gPerm_ix [0, 1, 2, 3, 4, 5, 6, 7, 8] rfl rfl) ?_
      refine g_if_eq (tgt := 38) E dX8_booking_33 (by decide) (fun c => absurd c (by decide)) (fun _ => ?_)
      refine g_iconst (v := 0) E dX8_booking_36 (by decide) ?_
      exact RET _ _ _ (qU (qU (qU q 0 2) 1 (nI n)) 5 (nI c), sg, rd, f, tr, dy, kp, ik, tn) (gRefP_mk (k := 2) (A := ((n, sg), S, (c, H), sl)) (by rw [fBkng, if_pos c1, if_neg c2]) rfl (fun e => absurd e (by decide)) ⟨rfl, rfl, hRR, rfl, hD, hKp⟩) rfl dX8_booking_37
    · skip
      obtain ⟨e, he, rfl⟩ := gNat_ofl (m := 5) c2 rfl rfl (by decide)
      refine g_iconst (v := 0) E dX8_booking_25 (by decide) ?_
      refine g_goto (tgt := 30) E dX8_booking_26 (by decide) ?_
      refine g_callVIe (F := [(m 1, .inl (gy G 0, 120, .inl sg)), (m 2, .inl (gy G 0, 271, .inl rd)), (m 3, .inl (gy G 0, 271, .inl f)), (m 4, .inl (gy G 0, 271, .inl tr)), (m 5, .inl (gy G 0, 3794, .inl dy)), (m 6, .inl (gy G 0, 542, .inl kp)), (m 7, .inl (gy G 2, 2, .inl ik)), (m 8, .inl (gy G 0, 10, .inl tn))]) (ws2 := [(m 0, .inr (8, [.int 0, .ref (m 1), .int (nI n), .int (q 2), .int (q 3), .int (q 4), .ref (m 2), .ref (m 3), .ref (m 4), .ref (m 5), .int (nI c), .ref (m 6), .ref (m 7), .ref (m 8), .int (q 6), .int (q 7), .int (q 8)])), (m 1, .inl (gy G 0, 120, .inl sg)), (m 2, .inl (gy G 0, 271, .inl rd)), (m 3, .inl (gy G 0, 271, .inl f)), (m 4, .inl (gy G 0, 271, .inl tr)), (m 5, .inl (gy G 0, 3794, .inl dy)), (m 6, .inl (gy G 0, 542, .inl kp)), (m 7, .inl (gy G 2, 2, .inl ik)), (m 8, .inl (gy G 0, 10, .inl tn))]) E (mX8_refused G m (qU (qU q 1 (nI n)) 5 (nI c)) 0) gX8_booking_X8_refused rfl hdX8_refused ⟨Nat.le_of_ble_eq_true rfl, Nat.le_of_ble_eq_true rfl⟩ 8 0 rfl rfl rfl (gPerm_ix [0, 1, 2, 3, 4, 5, 6, 7, 8] rfl rfl) rfl rfl (Nat.le_of_ble_eq_true rfl) dX8_booking_30 ⟨Nat.le_of_ble_eq_true rfl, Nat.le_of_ble_eq_true rfl⟩ (gPerm_ix [0, 1, 2, 3, 4, 5, 6, 7, 8] rfl rfl) ?_
      refine g_if_eq (tgt := 38) E dX8_booking_33 (by decide) (fun _ => ?_) (fun c => absurd c (by decide))
      refine g_aload_n E dX8_booking_38 rfl 0 rfl ?_
      refine g_get E uX8_booking_RX8 0 rfl rfl 7 (by decide) kX8_booking_16 rfl rfl dX8_booking_39 ?_
      refine g_iload_n E dX8_booking_42 rfl 1 rfl ?_
      refine g_iload_n E dX8_booking_43 rfl 2 rfl ?_
      refine g_callSIe (F := [(m 0, .inr (8, [.int 0, .ref (m 1), .int (nI n), .int (q 2), .int (q 3), .int (q 4), .ref (m 2), .ref (m 3), .ref (m 4), .ref (m 5), .int (nI c), .ref (m 6), .ref (m 7), .ref (m 8), .int (q 6), .int (q 7), .int (q 8)])), (m 1, .inl (gy G 0, 120, .inl sg)), (m 2, .inl (gy G 0, 271, .inl rd)), (m 3, .inl (gy G 0, 271, .inl f)), (m 4, .inl (gy G 0, 271, .inl tr)), (m 5, .inl (gy G 0, 3794, .inl dy)), (m 6, .inl (gy G 0, 542, .inl kp)), (m 7, .inl (gy G 2, 2, .inl ik)), (m 8, .inl (gy G 0, 10, .inl tn))]) (ws2 := [(m 0, .inr (8, [.int 0, .ref (m 1), .int (nI n), .int (q 2), .int (q 3), .int (q 4), .ref (m 2), .ref (m 3), .ref (m 4), .ref (m 5), .int (nI c), .ref (m 6), .ref (m 7), .ref (m 8), .int (q 6), .int (q 7), .int (q 8)])), (m 1, .inl (gy G 0, 120, .inl sg)), (m 2, .inl (gy G 0, 271, .inl rd)), (m 3, .inl (gy G 0, 271, .inl f)), (m 4, .inl (gy G 0, 271, .inl tr)), (m 5, .inl (gy G 0, 3794, .inl dy)), (m 6, .inl (gy G 0, 542, .inl kp)), (m 7, .inl (gy G 2, 2, .inl ik)), (m 8, .inl (gy G 0, 10, .inl tn))]) E (mX8_bookingAt G j e (by omega) (by omega)) gX8_booking_X8_bookingAt rfl hnX8_bookingAt ⟨Nat.le_of_ble_eq_true rfl, Nat.le_of_ble_eq_true rfl⟩ (gPerm_ix [0, 1, 2, 3, 4, 5, 6, 7, 8] rfl rfl) rfl rfl (Nat.le_of_ble_eq_true rfl) dX8_booking_44 ⟨Nat.le_of_ble_eq_true rfl, Nat.le_of_ble_eq_true rfl⟩ (gPerm_ix [0, 1, 2, 3, 4, 5, 6, 7, 8] rfl rfl) ?_
      refine g_ialdN (e := 93 + 7 * j + e) E 3 rfl (by omega) rfl (v := nI (bk (sB S) j e)) (RR_B hRR (k := j) (w := e) (by omega) (by omega)) dX8_booking_47 ?_
      exact RET _ _ _ (qU (qU (qU q 0 0) 1 (nI n)) 5 (nI c), sg, rd, f, tr, dy, kp, ik, tn) (gRefP_mk (k := 0) (A := ((n, sg), S, (c, H), sl)) (by rw [fBkng, if_pos c1, if_pos c2, nI_clamp (by omega), nI_clamp (by omega)]) rfl (fun _ => rfl) ⟨rfl, rfl, hRR, rfl, hD, hKp⟩) rfl dX8_booking_48
  · skip
    refine g_iconst (v := 1) E dX8_booking_9 (by decide) ?_
    refine g_goto (tgt := 30) E dX8_booking_10 (by decide) ?_
    refine g_callVIe (F := [(m 1, .inl (gy G 0, 120, .inl sg)), (m 2, .inl (gy G 0, 271, .inl rd)), (m 3, .inl (gy G 0, 271, .inl f)), (m 4, .inl (gy G 0, 271, .inl tr)), (m 5, .inl (gy G 0, 3794, .inl dy)), (m 6, .inl (gy G 0, 542, .inl kp)), (m 7, .inl (gy G 2, 2, .inl ik)), (m 8, .inl (gy G 0, 10, .inl tn))]) (ws2 := [(m 0, .inr (8, [.int 1, .ref (m 1), .int (nI n), .int (q 2), .int (q 3), .int (q 4), .ref (m 2), .ref (m 3), .ref (m 4), .ref (m 5), .int (nI c), .ref (m 6), .ref (m 7), .ref (m 8), .int (q 6), .int (q 7), .int (q 8)])), (m 1, .inl (gy G 0, 120, .inl sg)), (m 2, .inl (gy G 0, 271, .inl rd)), (m 3, .inl (gy G 0, 271, .inl f)), (m 4, .inl (gy G 0, 271, .inl tr)), (m 5, .inl (gy G 0, 3794, .inl dy)), (m 6, .inl (gy G 0, 542, .inl kp)), (m 7, .inl (gy G 2, 2, .inl ik)), (m 8, .inl (gy G 0, 10, .inl tn))]) E (mX8_refused G m (qU (qU q 1 (nI n)) 5 (nI c)) 1) gX8_booking_X8_refused rfl hdX8_refused ⟨Nat.le_of_ble_eq_true rfl, Nat.le_of_ble_eq_true rfl⟩ 8 0 rfl rfl rfl (gPerm_ix [0, 1, 2, 3, 4, 5, 6, 7, 8] rfl rfl) rfl rfl (Nat.le_of_ble_eq_true rfl) dX8_booking_30 ⟨Nat.le_of_ble_eq_true rfl, Nat.le_of_ble_eq_true rfl⟩ (gPerm_ix [0, 1, 2, 3, 4, 5, 6, 7, 8] rfl rfl) ?_
    refine g_if_eq (tgt := 38) E dX8_booking_33 (by decide) (fun c => absurd c (by decide)) (fun _ => ?_)
    refine g_iconst (v := 0) E dX8_booking_36 (by decide) ?_
    exact RET _ _ _ (qU (qU (qU q 0 1) 1 (nI n)) 5 (nI c), sg, rd, f, tr, dy, kp, ik, tn) (gRefP_mk (k := 1) (A := ((n, sg), S, (c, H), sl)) (by rw [fBkng, if_neg c1]) rfl (fun e => absurd e (by decide)) ⟨rfl, rfl, hRR, rfl, hD, hKp⟩) rfl dX8_booking_37

set_option maxHeartbeats 4000000 in
set_option maxRecDepth 100000 in
theorem mX8_wishAt (G : gG) (m : Nat → Nat) (q : Nat → Int32) (n c : Nat) (sg : Nat → Int32) (S : gSt) (H : Nat → gSt) (sl : Nat → Option gSt) (rd f tr dy kp ik tn : Nat → Int32) (k : Int32) (hn12 : n ≤ 120) (hO : gOk 50000 S) (hc14 : c ≤ 14) (hHo : gHok 50000 c H) (hRR : RR S f) (hD : gDry c H dy) (hKp : gKpt sl kp ik) : CI G yX8_wishAt wsX8_wishAt 3 65 [.ref (m 0), .int k] [(m 0, .inr (8, [.int (q 0), .ref (m 1), .int (nI n), .int (q 2), .int (q 3), .int (q 4), .ref (m 2), .ref (m 3), .ref (m 4), .ref (m 5), .int (nI c), .ref (m 6), .ref (m 7), .ref (m 8), .int (q 6), .int (q 7), .int (q 8)])), (m 1, .inl (gy G 0, 120, .inl sg)), (m 2, .inl (gy G 0, 271, .inl rd)), (m 3, .inl (gy G 0, 271, .inl f)), (m 4, .inl (gy G 0, 271, .inl tr)), (m 5, .inl (gy G 0, 3794, .inl dy)), (m 6, .inl (gy G 0, 542, .inl kp)), (m 7, .inl (gy G 2, 2, .inl ik)), (m 8, .inl (gy G 0, 10, .inl tn))] (gRefP (fWish ((n, sg), S, (c, H), sl) k)) (fun (u : gRu) => (wR G m u)) 0 0 := by
  refine g_enterI (ty := .int) RX8 rfl (by decide) rfl (Nat.le_of_ble_eq_true rfl) ?_
  intro V E RET
  have hK := hO.1
  have hJ := hK.1
  have hI := hJ.1
  have hT1 := hO.2.2
  have hT2 : sN S 0 < 200000000 := by omega
  have hT : sN S 0 < 1000000000 := by omega
  have hb2 := gI2_b2 hJ
  have hX := hI
  obtain ⟨hP8, hn, hw, hW8, hs3, hs4, hs5, hs6, hs7, hs8, hb34⟩ := hX
  refine g_aload_n E dX8_wishAt_0 rfl 0 rfl ?_
  refine g_iload_n E dX8_wishAt_1 rfl 1 rfl ?_
  refine g_if_ge (tgt := 9) E dX8_wishAt_2 (by decide) (fun c1 => ?_) (fun c1 => ?_)
  · skip
    obtain ⟨j, hj, rfl⟩ := nI_of (Int32.not_lt.mpr c1)
    refine g_iconst (v := 0) E dX8_wishAt_9 (by decide) ?_
    refine g_callVIe (F := [(m 1, .inl (gy G 0, 120, .inl sg)), (m 2, .inl (gy G 0, 271, .inl rd)), (m 3, .inl (gy G 0, 271, .inl f)), (m 4, .inl (gy G 0, 271, .inl tr)), (m 5, .inl (gy G 0, 3794, .inl dy)), (m 6, .inl (gy G 0, 542, .inl kp)), (m 7, .inl (gy G 2, 2, .inl ik)), (m 8, .inl (gy G 0, 10, .inl tn))]) (ws2 := [(m 0, .inr (8, [.int 0, .ref (m 1), .int (nI n), .int (q 2), .int (q 3), .int (q 4), .ref (m 2), .ref (m 3), .ref (m 4), .ref (m 5), .int (nI c), .ref (m 6), .ref (m 7), .ref (m 8), .int (q 6), .int (q 7), .int (q 8)])), (m 1, .inl (gy G 0, 120, .inl sg)), (m 2, .inl (gy G 0, 271, .inl rd)), (m 3, .inl (gy G 0, 271, .inl f)), (m 4, .inl (gy G 0, 271, .inl tr)), (m 5, .inl (gy G 0, 3794, .inl dy)), (m 6, .inl (gy G 0, 542, .inl kp)), (m 7, .inl (gy G 2, 2, .inl ik)), (m 8, .inl (gy G 0, 10, .inl tn))]) E (mX8_refused G m (qU (qU q 1 (nI n)) 5 (nI c)) 0) gX8_wishAt_X8_refused rfl hdX8_refused ⟨Nat.le_of_ble_eq_true rfl, Nat.le_of_ble_eq_true rfl⟩ 8 0 rfl rfl rfl (gPerm_ix [0, 1, 2, 3, 4, 5, 6, 7, 8] rfl rfl) rfl rfl (Nat.le_of_ble_eq_true rfl) dX8_wishAt_10 ⟨Nat.le_of_ble_eq_true rfl, Nat.le_of_ble_eq_true rfl⟩ (gPerm_ix [0, 1, 2, 3, 4, 5, 6, 7, 8] rfl rfl) ?_
    refine g_if_eq (tgt := 18) E dX8_wishAt_13 (by decide) (fun _ => ?_) (fun c => absurd c (by decide))
    refine g_aload_n E dX8_wishAt_18 rfl 0 rfl ?_
    refine g_aload_n E dX8_wishAt_19 rfl 0 rfl ?_
    refine g_get E uX8_wishAt_RX8 0 rfl rfl 7 (by decide) kX8_wishAt_16 rfl rfl dX8_wishAt_20 ?_
    refine g_callVV (F := [(m 1, .inl (gy G 0, 120, .inl sg)), (m 2, .inl (gy G 0, 271, .inl rd)), (m 4, .inl (gy G 0, 271, .inl tr)), (m 5, .inl (gy G 0, 3794, .inl dy)), (m 6, .inl (gy G 0, 542, .inl kp)), (m 7, .inl (gy G 2, 2, .inl ik))]) E (mX8_layTurns G m (qU (qU (qU q 0 0) 1 (nI n)) 5 (nI c)) (m 3) S f tn hI hT hRR) gX8_wishAt_X8_layTurns rfl hdX8_layTurns ⟨Nat.le_of_ble_eq_true rfl, Nat.le_of_ble_eq_true rfl⟩ 8 0 rfl rfl rfl (gPerm_ix [0, 8, 3, 1, 2, 4, 5, 6, 7] rfl rfl) rfl rfl (Nat.le_of_ble_eq_true rfl) dX8_wishAt_23 ⟨Nat.le_of_ble_eq_true rfl, Nat.le_of_ble_eq_true rfl⟩ (fun tu hU => ?_)
    refine g_perm (ws1 := [(m 0, .inr (8, [.int 0, .ref (m 1), .int (nI n), .int (q 2), .int (q 3), .int (q 4), .ref (m 2), .ref (m 3), .ref (m 4), .ref (m 5), .int (nI c), .ref (m 6), .ref (m 7), .ref (m 8), .int (q 6), .int (q 7), .int (q 8)])), (m 1, .inl (gy G 0, 120, .inl sg)), (m 2, .inl (gy G 0, 271, .inl rd)), (m 3, .inl (gy G 0, 271, .inl f)), (m 4, .inl (gy G 0, 271, .inl tr)), (m 5, .inl (gy G 0, 3794, .inl dy)), (m 6, .inl (gy G 0, 542, .inl kp)), (m 7, .inl (gy G 2, 2, .inl ik)), (m 8, .inl (gy G 0, 10, .inl tu))]) (gPerm_ix [0, 3, 4, 2, 5, 6, 7, 8, 1] rfl rfl) ?_
    refine g_iload_n E dX8_wishAt_26 rfl 1 rfl ?_
    refine g_aload_n E dX8_wishAt_27 rfl 0 rfl ?_
    refine g_get E uX8_wishAt_RX8 0 rfl rfl 7 (by decide) kX8_wishAt_16 rfl rfl dX8_wishAt_28 ?_
    refine g_iconst (v := 3) E dX8_wishAt_31 (by decide) ?_
    refine g_ialdN (e := 3) E 3 rfl (by omega) rfl (v := nI ((sW S).length)) (RR_3 hRR) dX8_wishAt_32 ?_
    refine g_icmp_geN (tgt := 54) (a := j) (b := (sW S).length) E dX8_wishAt_33 (by decide) (by omega) (by omega) (fun c3 => ?_) (fun c3 => ?_)
    · skip
      refine g_iconst (v := (-1)) E dX8_wishAt_54 (by decide) ?_
      exact RET _ _ _ (qU (qU (qU q 0 0) 1 (nI n)) 5 (nI c), sg, rd, f, tr, dy, kp, ik, tu) (gRefP_mk (k := 0) (A := ((n, sg), S, (c, H), sl)) (by rw [fWish, if_neg (Int32.not_lt.mpr c1), nI_clamp (by omega)]; show (0, (match gTurn (sW S) (sI S 3) j with | none => -1 | some i => nI (wq (sW S) i)), _) = _; rw [gTurn_ge (show (sW S).length ≤ j by omega)]) rfl (fun _ => rfl) ⟨rfl, rfl, hRR, rfl, hD, hKp⟩) rfl dX8_wishAt_55
    · skip
      have hjn : j < (sW S).length := by omega
      obtain ⟨i, hi1, hi2⟩ := hU j hjn
      have hin := (gTurn_lt hi1).1
      have hi10 : i < 10 := by omega
      refine g_aload_n E dX8_wishAt_36 rfl 0 rfl ?_
      refine g_get E uX8_wishAt_RX8 0 rfl rfl 7 (by decide) kX8_wishAt_16 rfl rfl dX8_wishAt_37 ?_
      refine g_sipush (v := 261) E dX8_wishAt_40 (by decide) ?_
      refine g_aload_n E dX8_wishAt_43 rfl 0 rfl ?_
      refine g_get E uX8_wishAt_RX8 0 rfl rfl 13 (by decide) kX8_wishAt_32 rfl rfl dX8_wishAt_44 ?_
      refine g_iload_n E dX8_wishAt_47 rfl 1 rfl ?_
      refine g_ialdN (e := j) E 8 rfl (by omega) rfl (v := nI i) (hi2) dX8_wishAt_48 ?_
      refine g_iaddN (a := 261) (b := i) E dX8_wishAt_49 ?_
      refine g_ialdN (e := 261 + i) E 3 rfl (by omega) rfl (v := nI (wq (sW S) i)) (RR_W hRR hin) dX8_wishAt_50 ?_
      refine g_goto (tgt := 55) E dX8_wishAt_51 (by decide) ?_
      exact RET _ _ _ (qU (qU (qU q 0 0) 1 (nI n)) 5 (nI c), sg, rd, f, tr, dy, kp, ik, tu) (gRefP_mk (k := 0) (A := ((n, sg), S, (c, H), sl)) (by rw [fWish, if_neg (Int32.not_lt.mpr c1), nI_clamp (by omega)]; show (0, (match gTurn (sW S) (sI S 3) j with | none => -1 | some i => nI (wq (sW S) i)), _) = _; rw [hi1]) rfl (fun _ => rfl) ⟨rfl, rfl, hRR, rfl, hD, hKp⟩) rfl dX8_wishAt_55
  · skip
    refine g_iconst (v := 1) E dX8_wishAt_5 (by decide) ?_
    refine g_goto (tgt := 10) E dX8_wishAt_6 (by decide) ?_
    refine g_callVIe (F := [(m 1, .inl (gy G 0, 120, .inl sg)), (m 2, .inl (gy G 0, 271, .inl rd)), (m 3, .inl (gy G 0, 271, .inl f)), (m 4, .inl (gy G 0, 271, .inl tr)), (m 5, .inl (gy G 0, 3794, .inl dy)), (m 6, .inl (gy G 0, 542, .inl kp)), (m 7, .inl (gy G 2, 2, .inl ik)), (m 8, .inl (gy G 0, 10, .inl tn))]) (ws2 := [(m 0, .inr (8, [.int 1, .ref (m 1), .int (nI n), .int (q 2), .int (q 3), .int (q 4), .ref (m 2), .ref (m 3), .ref (m 4), .ref (m 5), .int (nI c), .ref (m 6), .ref (m 7), .ref (m 8), .int (q 6), .int (q 7), .int (q 8)])), (m 1, .inl (gy G 0, 120, .inl sg)), (m 2, .inl (gy G 0, 271, .inl rd)), (m 3, .inl (gy G 0, 271, .inl f)), (m 4, .inl (gy G 0, 271, .inl tr)), (m 5, .inl (gy G 0, 3794, .inl dy)), (m 6, .inl (gy G 0, 542, .inl kp)), (m 7, .inl (gy G 2, 2, .inl ik)), (m 8, .inl (gy G 0, 10, .inl tn))]) E (mX8_refused G m (qU (qU q 1 (nI n)) 5 (nI c)) 1) gX8_wishAt_X8_refused rfl hdX8_refused ⟨Nat.le_of_ble_eq_true rfl, Nat.le_of_ble_eq_true rfl⟩ 8 0 rfl rfl rfl (gPerm_ix [0, 1, 2, 3, 4, 5, 6, 7, 8] rfl rfl) rfl rfl (Nat.le_of_ble_eq_true rfl) dX8_wishAt_10 ⟨Nat.le_of_ble_eq_true rfl, Nat.le_of_ble_eq_true rfl⟩ (gPerm_ix [0, 1, 2, 3, 4, 5, 6, 7, 8] rfl rfl) ?_
    refine g_if_eq (tgt := 18) E dX8_wishAt_13 (by decide) (fun c => absurd c (by decide)) (fun _ => ?_)
    refine g_iconst (v := 0) E dX8_wishAt_16 (by decide) ?_
    exact RET _ _ _ (qU (qU (qU q 0 1) 1 (nI n)) 5 (nI c), sg, rd, f, tr, dy, kp, ik, tn) (gRefP_mk (k := 1) (A := ((n, sg), S, (c, H), sl)) (by rw [fWish, if_pos (Int32.not_le.mp c1)]) rfl (fun e => absurd e (by decide)) ⟨rfl, rfl, hRR, rfl, hD, hKp⟩) rfl dX8_wishAt_17

set_option maxHeartbeats 4000000 in
set_option maxRecDepth 100000 in
theorem mX8_setting (G : gG) (m : Nat → Nat) (q : Nat → Int32) (n c : Nat) (sg : Nat → Int32) (S : gSt) (H : Nat → gSt) (sl : Nat → Option gSt) (rd f tr dy kp ik tn : Nat → Int32) (x : Int32) (hn12 : n ≤ 120) (hO : gOk 50000 S) (hc14 : c ≤ 14) (hHo : gHok 50000 c H) (hRR : RR S f) (hD : gDry c H dy) (hKp : gKpt sl kp ik) : CI G yX8_setting wsX8_setting 1 25 [.ref (m 0), .int x] [(m 0, .inr (8, [.int (q 0), .ref (m 1), .int (nI n), .int (q 2), .int (q 3), .int (q 4), .ref (m 2), .ref (m 3), .ref (m 4), .ref (m 5), .int (nI c), .ref (m 6), .ref (m 7), .ref (m 8), .int (q 6), .int (q 7), .int (q 8)])), (m 1, .inl (gy G 0, 120, .inl sg)), (m 2, .inl (gy G 0, 271, .inl rd)), (m 3, .inl (gy G 0, 271, .inl f)), (m 4, .inl (gy G 0, 271, .inl tr)), (m 5, .inl (gy G 0, 3794, .inl dy)), (m 6, .inl (gy G 0, 542, .inl kp)), (m 7, .inl (gy G 2, 2, .inl ik)), (m 8, .inl (gy G 0, 10, .inl tn))] (gRefP (fSett ((n, sg), S, (c, H), sl) x)) (fun (u : gRu) => (wR G m u)) 0 0 := by
  refine g_enterI (ty := .int) RX8 rfl (by decide) rfl (Nat.le_of_ble_eq_true rfl) ?_
  intro V E RET
  have hK := hO.1
  have hJ := hK.1
  have hI := hJ.1
  have hT1 := hO.2.2
  have hT2 : sN S 0 < 200000000 := by omega
  have hT : sN S 0 < 1000000000 := by omega
  have hb2 := gI2_b2 hJ
  have hX := hI
  obtain ⟨hP8, hn, hw, hW8, hs3, hs4, hs5, hs6, hs7, hs8, hb34⟩ := hX
  refine g_aload_n E dX8_setting_0 rfl 0 rfl ?_
  refine g_iload_n E dX8_setting_1 rfl 1 rfl ?_
  refine g_i2l (v := x.toInt64) E dX8_setting_2 rfl ?_
  refine g_lconst (v := 0) E dX8_setting_3 (by decide) ?_
  refine g_ldc2 (v := 5) E kX8_setting_254 dX8_setting_4 ?_
  refine g_callSIe (F := [(m 0, .inr (8, [.int (q 0), .ref (m 1), .int (nI n), .int (q 2), .int (q 3), .int (q 4), .ref (m 2), .ref (m 3), .ref (m 4), .ref (m 5), .int (nI c), .ref (m 6), .ref (m 7), .ref (m 8), .int (q 6), .int (q 7), .int (q 8)])), (m 1, .inl (gy G 0, 120, .inl sg)), (m 2, .inl (gy G 0, 271, .inl rd)), (m 3, .inl (gy G 0, 271, .inl f)), (m 4, .inl (gy G 0, 271, .inl tr)), (m 5, .inl (gy G 0, 3794, .inl dy)), (m 6, .inl (gy G 0, 542, .inl kp)), (m 7, .inl (gy G 2, 2, .inl ik)), (m 8, .inl (gy G 0, 10, .inl tn))]) (ws2 := [(m 0, .inr (8, [.int (q 0), .ref (m 1), .int (nI n), .int (q 2), .int (q 3), .int (q 4), .ref (m 2), .ref (m 3), .ref (m 4), .ref (m 5), .int (nI c), .ref (m 6), .ref (m 7), .ref (m 8), .int (q 6), .int (q 7), .int (q 8)])), (m 1, .inl (gy G 0, 120, .inl sg)), (m 2, .inl (gy G 0, 271, .inl rd)), (m 3, .inl (gy G 0, 271, .inl f)), (m 4, .inl (gy G 0, 271, .inl tr)), (m 5, .inl (gy G 0, 3794, .inl dy)), (m 6, .inl (gy G 0, 542, .inl kp)), (m 7, .inl (gy G 2, 2, .inl ik)), (m 8, .inl (gy G 0, 10, .inl tn))]) E (g_resI (gIn64 (lo := 0) (hi := 5) rfl rfl) (mX8_in G x.toInt64 0 5)) gX8_setting_X8_in rfl hnX8_in ⟨Nat.le_of_ble_eq_true rfl, Nat.le_of_ble_eq_true rfl⟩ (gPerm_ix [0, 1, 2, 3, 4, 5, 6, 7, 8] rfl rfl) rfl rfl (Nat.le_of_ble_eq_true rfl) dX8_setting_7 ⟨Nat.le_of_ble_eq_true rfl, Nat.le_of_ble_eq_true rfl⟩ (gPerm_ix [0, 1, 2, 3, 4, 5, 6, 7, 8] rfl rfl) ?_
  refine g_if_eqB (tgt := 17) (P := (¬ x < 0 ∧ ¬ 5 < x)) E dX8_setting_10 (by decide) (fun c1 => ?_) (fun c1 => ?_)
  · skip
    refine g_iconst (v := 1) E dX8_setting_17 (by decide) ?_
    refine g_callVIe (F := [(m 1, .inl (gy G 0, 120, .inl sg)), (m 2, .inl (gy G 0, 271, .inl rd)), (m 3, .inl (gy G 0, 271, .inl f)), (m 4, .inl (gy G 0, 271, .inl tr)), (m 5, .inl (gy G 0, 3794, .inl dy)), (m 6, .inl (gy G 0, 542, .inl kp)), (m 7, .inl (gy G 2, 2, .inl ik)), (m 8, .inl (gy G 0, 10, .inl tn))]) (ws2 := [(m 0, .inr (8, [.int 1, .ref (m 1), .int (nI n), .int (q 2), .int (q 3), .int (q 4), .ref (m 2), .ref (m 3), .ref (m 4), .ref (m 5), .int (nI c), .ref (m 6), .ref (m 7), .ref (m 8), .int (q 6), .int (q 7), .int (q 8)])), (m 1, .inl (gy G 0, 120, .inl sg)), (m 2, .inl (gy G 0, 271, .inl rd)), (m 3, .inl (gy G 0, 271, .inl f)), (m 4, .inl (gy G 0, 271, .inl tr)), (m 5, .inl (gy G 0, 3794, .inl dy)), (m 6, .inl (gy G 0, 542, .inl kp)), (m 7, .inl (gy G 2, 2, .inl ik)), (m 8, .inl (gy G 0, 10, .inl tn))]) E (mX8_refused G m (qU (qU q 1 (nI n)) 5 (nI c)) 1) gX8_setting_X8_refused rfl hdX8_refused ⟨Nat.le_of_ble_eq_true rfl, Nat.le_of_ble_eq_true rfl⟩ 8 0 rfl rfl rfl (gPerm_ix [0, 1, 2, 3, 4, 5, 6, 7, 8] rfl rfl) rfl rfl (Nat.le_of_ble_eq_true rfl) dX8_setting_18 ⟨Nat.le_of_ble_eq_true rfl, Nat.le_of_ble_eq_true rfl⟩ (gPerm_ix [0, 1, 2, 3, 4, 5, 6, 7, 8] rfl rfl) ?_
    refine g_if_eq (tgt := 26) E dX8_setting_21 (by decide) (fun c => absurd c (by decide)) (fun _ => ?_)
    refine g_iconst (v := 0) E dX8_setting_24 (by decide) ?_
    exact RET _ _ _ (qU (qU (qU q 0 1) 1 (nI n)) 5 (nI c), sg, rd, f, tr, dy, kp, ik, tn) (gRefP_mk (k := 1) (A := ((n, sg), S, (c, H), sl)) (by rw [fSett, if_neg (fun q => c1 (gV56.mpr q))]) rfl (fun e => absurd e (by decide)) ⟨rfl, rfl, hRR, rfl, hD, hKp⟩) rfl dX8_setting_25
  · skip
    obtain ⟨j, hj, rfl⟩ := gNat_ofl (m := 5) c1 rfl rfl (by decide)
    refine g_iconst (v := 0) E dX8_setting_13 (by decide) ?_
    refine g_goto (tgt := 18) E dX8_setting_14 (by decide) ?_
    refine g_callVIe (F := [(m 1, .inl (gy G 0, 120, .inl sg)), (m 2, .inl (gy G 0, 271, .inl rd)), (m 3, .inl (gy G 0, 271, .inl f)), (m 4, .inl (gy G 0, 271, .inl tr)), (m 5, .inl (gy G 0, 3794, .inl dy)), (m 6, .inl (gy G 0, 542, .inl kp)), (m 7, .inl (gy G 2, 2, .inl ik)), (m 8, .inl (gy G 0, 10, .inl tn))]) (ws2 := [(m 0, .inr (8, [.int 0, .ref (m 1), .int (nI n), .int (q 2), .int (q 3), .int (q 4), .ref (m 2), .ref (m 3), .ref (m 4), .ref (m 5), .int (nI c), .ref (m 6), .ref (m 7), .ref (m 8), .int (q 6), .int (q 7), .int (q 8)])), (m 1, .inl (gy G 0, 120, .inl sg)), (m 2, .inl (gy G 0, 271, .inl rd)), (m 3, .inl (gy G 0, 271, .inl f)), (m 4, .inl (gy G 0, 271, .inl tr)), (m 5, .inl (gy G 0, 3794, .inl dy)), (m 6, .inl (gy G 0, 542, .inl kp)), (m 7, .inl (gy G 2, 2, .inl ik)), (m 8, .inl (gy G 0, 10, .inl tn))]) E (mX8_refused G m (qU (qU q 1 (nI n)) 5 (nI c)) 0) gX8_setting_X8_refused rfl hdX8_refused ⟨Nat.le_of_ble_eq_true rfl, Nat.le_of_ble_eq_true rfl⟩ 8 0 rfl rfl rfl (gPerm_ix [0, 1, 2, 3, 4, 5, 6, 7, 8] rfl rfl) rfl rfl (Nat.le_of_ble_eq_true rfl) dX8_setting_18 ⟨Nat.le_of_ble_eq_true rfl, Nat.le_of_ble_eq_true rfl⟩ (gPerm_ix [0, 1, 2, 3, 4, 5, 6, 7, 8] rfl rfl) ?_
    refine g_if_eq (tgt := 26) E dX8_setting_21 (by decide) (fun _ => ?_) (fun c => absurd c (by decide))
    refine g_aload_n E dX8_setting_26 rfl 0 rfl ?_
    refine g_get E uX8_setting_RX8 0 rfl rfl 7 (by decide) kX8_setting_16 rfl rfl dX8_setting_27 ?_
    refine g_bipush (v := 9) E dX8_setting_30 (by decide) ?_
    refine g_iload_n E dX8_setting_32 rfl 1 rfl ?_
    refine g_iaddN (a := 9) (b := j) E dX8_setting_33 ?_
    refine g_ialdN (e := 9 + j) E 3 rfl (by omega) rfl (v := nI (sS S j)) (RR_S hRR (j := j) (by omega)) dX8_setting_34 ?_
    exact RET _ _ _ (qU (qU (qU q 0 0) 1 (nI n)) 5 (nI c), sg, rd, f, tr, dy, kp, ik, tn) (gRefP_mk (k := 0) (A := ((n, sg), S, (c, H), sl)) (by rw [fSett, if_pos (gV56.mp c1), nI_clamp (by omega)]) rfl (fun _ => rfl) ⟨rfl, rfl, hRR, rfl, hD, hKp⟩) rfl dX8_setting_35

set_option maxHeartbeats 4000000 in
set_option maxRecDepth 100000 in
theorem mX8_put (G : gG) (m : Nat → Nat) (q : Nat → Int32) (c w l : Int32)  : CVe G yX8_put wsX8_put 0 0 [.ref (m 0), .int c] [(m 0, .inr (8, [.int (q 0), .ref (m 1), .int (q 1), .int (q 2), .int (q 3), .int (q 4), .ref (m 2), .ref (m 3), .ref (m 4), .ref (m 5), .int (q 5), .ref (m 6), .ref (m 7), .ref (m 8), .int (q 6), .int w, .int l]))]  [(m 0, .inr (8, [.int (q 0), .ref (m 1), .int (q 1), .int (q 2), .int (q 3), .int (q 4), .ref (m 2), .ref (m 3), .ref (m 4), .ref (m 5), .int (q 5), .ref (m 6), .ref (m 7), .ref (m 8), .int (q 6), .int (w - 1), .int (if w = 0 then c else l)]))] 0 0 := by
  refine g_enterVe RX8 rfl (by decide) rfl (Nat.le_of_ble_eq_true rfl) ?_
  intro V E RET
  refine g_aload_n E dX8_put_0 rfl 0 rfl ?_
  refine g_aload_n E dX8_put_1 rfl 0 rfl ?_
  refine g_get E uX8_put_RX8 0 rfl rfl 15 (by decide) kX8_put_256 rfl rfl dX8_put_2 ?_
  refine g_if_ne (tgt := 12) E dX8_put_5 (by decide) (fun c1 => ?_) (fun c1 => ?_)
  · skip
    refine g_aload_n E dX8_put_12 rfl 0 rfl ?_
    refine g_get E uX8_put_RX8 0 rfl rfl 16 (by decide) kX8_put_259 rfl rfl dX8_put_13 ?_
    refine g_top (y := if w = 0 then c else l) (by simp [c1]) ?_
    refine g_put (ws' := [(m 0, .inr (8, [.int (q 0), .ref (m 1), .int (q 1), .int (q 2), .int (q 3), .int (q 4), .ref (m 2), .ref (m 3), .ref (m 4), .ref (m 5), .int (q 5), .ref (m 6), .ref (m 7), .ref (m 8), .int (q 6), .int w, .int (if w = 0 then c else l)]))]) E uX8_put_RX8 tyX8 tyX8_ok nmX8 0 rfl rfl 16 (by decide) kX8_put_259 rfl rfl rfl rfl (Nat.le_of_ble_eq_true rfl) rfl dX8_put_16 ?_
    refine g_aload_n E dX8_put_19 rfl 0 rfl ?_
    refine g_dup E dX8_put_20 rfl ?_
    refine g_get E uX8_put_RX8 0 rfl rfl 15 (by decide) kX8_put_256 rfl rfl dX8_put_21 ?_
    refine g_iconst (v := 1) E dX8_put_24 (by decide) ?_
    refine g_isub E dX8_put_25 ?_
    refine g_put (ws' := [(m 0, .inr (8, [.int (q 0), .ref (m 1), .int (q 1), .int (q 2), .int (q 3), .int (q 4), .ref (m 2), .ref (m 3), .ref (m 4), .ref (m 5), .int (q 5), .ref (m 6), .ref (m 7), .ref (m 8), .int (q 6), .int (w - 1), .int (if w = 0 then c else l)]))]) E uX8_put_RX8 tyX8 tyX8_ok nmX8 0 rfl rfl 15 (by decide) kX8_put_256 rfl rfl rfl rfl (Nat.le_of_ble_eq_true rfl) rfl dX8_put_26 ?_
    exact RET _ _ () (trivial) dX8_put_29
  · skip
    refine g_iload_n E dX8_put_8 rfl 1 rfl ?_
    refine g_goto (tgt := 16) E dX8_put_9 (by decide) ?_
    refine g_top (y := if w = 0 then c else l) (by simp [c1]) ?_
    refine g_put (ws' := [(m 0, .inr (8, [.int (q 0), .ref (m 1), .int (q 1), .int (q 2), .int (q 3), .int (q 4), .ref (m 2), .ref (m 3), .ref (m 4), .ref (m 5), .int (q 5), .ref (m 6), .ref (m 7), .ref (m 8), .int (q 6), .int w, .int (if w = 0 then c else l)]))]) E uX8_put_RX8 tyX8 tyX8_ok nmX8 0 rfl rfl 16 (by decide) kX8_put_259 rfl rfl rfl rfl (Nat.le_of_ble_eq_true rfl) rfl dX8_put_16 ?_
    refine g_aload_n E dX8_put_19 rfl 0 rfl ?_
    refine g_dup E dX8_put_20 rfl ?_
    refine g_get E uX8_put_RX8 0 rfl rfl 15 (by decide) kX8_put_256 rfl rfl dX8_put_21 ?_
    refine g_iconst (v := 1) E dX8_put_24 (by decide) ?_
    refine g_isub E dX8_put_25 ?_
    refine g_put (ws' := [(m 0, .inr (8, [.int (q 0), .ref (m 1), .int (q 1), .int (q 2), .int (q 3), .int (q 4), .ref (m 2), .ref (m 3), .ref (m 4), .ref (m 5), .int (q 5), .ref (m 6), .ref (m 7), .ref (m 8), .int (q 6), .int (w - 1), .int (if w = 0 then c else l)]))]) E uX8_put_RX8 tyX8 tyX8_ok nmX8 0 rfl rfl 15 (by decide) kX8_put_256 rfl rfl rfl rfl (Nat.le_of_ble_eq_true rfl) rfl dX8_put_26 ?_
    exact RET _ _ () (trivial) dX8_put_29

set_option maxHeartbeats 4000000 in
set_option maxRecDepth 100000 in
theorem mX8_putNumber (G : gG) (m : Nat → Nat) (q : Nat → Int32) (v : Nat) (w l : Int32) (hv : v < 100000) : CVe G yX8_putNumber wsX8_putNumber 1 23 [.ref (m 0), .int (nI v)] [(m 0, .inr (8, [.int (q 0), .ref (m 1), .int (q 1), .int (q 2), .int (q 3), .int (q 4), .ref (m 2), .ref (m 3), .ref (m 4), .ref (m 5), .int (q 5), .ref (m 6), .ref (m 7), .ref (m 8), .int (q 6), .int w, .int l]))]  [(m 0, .inr (8, [.int (q 0), .ref (m 1), .int (q 1), .int (q 2), .int (q 3), .int (q 4), .ref (m 2), .ref (m 3), .ref (m 4), .ref (m 5), .int (q 5), .ref (m 6), .ref (m 7), .ref (m 8), .int (q 6), .int ((gPt (gDgs v) w l).1), .int ((gPt (gDgs v) w l).2)]))] 0 0 := by
  refine g_enterVe RX8 rfl (by decide) rfl (Nat.le_of_ble_eq_true rfl) ?_
  intro V E RET
  refine g_iconst (v := 1) E dX8_putNumber_0 (by decide) ?_
  refine g_istore_n (lv' := [(2, .int 1), (0, .ref (m 0)), (1, .int (nI v))]) E dX8_putNumber_1 rfl (by decide) rfl ?_
  have loop1 : ∀ (n2 : Nat) (d : Nat), (1 ≤ d) → (d ≤ gDc v) → gDc v - d < n2 → gW V 4 0 0 [(m 0, .inr (8, [.int (q 0), .ref (m 1), .int (q 1), .int (q 2), .int (q 3), .int (q 4), .ref (m 2), .ref (m 3), .ref (m 4), .ref (m 5), .int (q 5), .ref (m 6), .ref (m 7), .ref (m 8), .int (q 6), .int w, .int l]))] [(0, .ref (m 0)), (1, .int (nI v)), (2, .int (nI d))] 2 [] := by
    intro n2
    induction n2 with
    | zero => intro d hd1 hd hm4; exact absurd hm4 (Nat.not_lt_zero _)
    | succ n2 ih3 =>
      intro d hd1 hd hm4
      have hd5 := (gDc_le v).2
      refine g_iload_n E dX8_putNumber_2 rfl 1 rfl ?_
      refine g_i2l (v := (nI v).toInt64) E dX8_putNumber_3 rfl ?_
      refine g_iload_n E dX8_putNumber_4 rfl 2 rfl ?_
      refine g_callSLe (F := [(m 0, .inr (8, [.int (q 0), .ref (m 1), .int (q 1), .int (q 2), .int (q 3), .int (q 4), .ref (m 2), .ref (m 3), .ref (m 4), .ref (m 5), .int (q 5), .ref (m 6), .ref (m 7), .ref (m 8), .int (q 6), .int w, .int l]))]) (ws2 := [(m 0, .inr (8, [.int (q 0), .ref (m 1), .int (q 1), .int (q 2), .int (q 3), .int (q 4), .ref (m 2), .ref (m 3), .ref (m 4), .ref (m 5), .int (q 5), .ref (m 6), .ref (m 7), .ref (m 8), .int (q 6), .int w, .int l]))]) E (mX8_tenTo G d (by omega)) gX8_putNumber_X8_tenTo rfl hnX8_tenTo ⟨Nat.le_of_ble_eq_true rfl, Nat.le_of_ble_eq_true rfl⟩ (gPerm_ix [0] rfl rfl) rfl rfl (Nat.le_of_ble_eq_true rfl) dX8_putNumber_5 ⟨Nat.le_of_ble_eq_true rfl, Nat.le_of_ble_eq_true rfl⟩ (gPerm_ix [0] rfl rfl) ?_
      refine g_lcmp E dX8_putNumber_8 ?_
      refine g_if_lt (tgt := 18) E dX8_putNumber_9 (by decide) (fun c5 => ?_) (fun c5 => ?_)
      · skip
        rw [gCmp_lt, gLt_ten hv (by omega), gDc_lt hv hd1 hd] at c5
        have hde : d = gDc v := c5
        refine g_iload_n E dX8_putNumber_18 rfl 2 rfl ?_
        refine g_iconst (v := 1) E dX8_putNumber_19 (by decide) ?_
        refine g_isubN (a := d) (b := 1) E dX8_putNumber_20 (by omega) ?_
        refine g_top (y := gPd d) (gPd_pos (by omega)) ?_
        refine g_istore_n (lv' := [(3, .int (gPd d)), (0, .ref (m 0)), (1, .int (nI v)), (2, .int (nI d))]) E dX8_putNumber_21 rfl (by decide) rfl ?_
        have loop6 : ∀ (n7 : Nat) (k : Nat) (w1 l1 : Int32), (k ≤ 5) → (gPt (gDk v k) w1 l1 = gPt (gDgs v) w l) → k < n7 → gW V 4 0 0 [(m 0, .inr (8, [.int (q 0), .ref (m 1), .int (q 1), .int (q 2), .int (q 3), .int (q 4), .ref (m 2), .ref (m 3), .ref (m 4), .ref (m 5), .int (q 5), .ref (m 6), .ref (m 7), .ref (m 8), .int (q 6), .int w1, .int l1]))] [(0, .ref (m 0)), (1, .int (nI v)), (2, .int (nI d)), (3, .int (gPd k))] 22 [] := by
          intro n7
          induction n7 with
          | zero => intro k w1 l1 hk hgp hm9; exact absurd hm9 (Nat.not_lt_zero _)
          | succ n7 ih8 =>
            intro k w1 l1 hk hgp hm9
            refine g_iload_n E dX8_putNumber_22 rfl 3 rfl ?_
            rcases k with _ | k
            · skip
              have hfin : (w1, l1) = gPt (gDgs v) w l := (show (w1, l1) = gPt (gDk v 0) w1 l1 from rfl).trans hgp
              refine g_if_lt (tgt := 51) E dX8_putNumber_23 (by decide) (fun _ => ?_) (fun c => absurd c (by decide))
              refine g_ws (ws' := [(m 0, .inr (8, [.int (q 0), .ref (m 1), .int (q 1), .int (q 2), .int (q 3), .int (q 4), .ref (m 2), .ref (m 3), .ref (m 4), .ref (m 5), .int (q 5), .ref (m 6), .ref (m 7), .ref (m 8), .int (q 6), .int ((gPt (gDgs v) w l).1), .int ((gPt (gDgs v) w l).2)]))]) (by rw [← hfin]) ?_
              exact RET _ _ () (trivial) dX8_putNumber_51
            · skip
              refine g_if_ltN (tgt := 51) (a := k) E dX8_putNumber_23 (by decide) (by omega) ?_
              refine g_aload_n E dX8_putNumber_26 rfl 0 rfl ?_
              refine g_bipush (v := 48) E dX8_putNumber_27 (by decide) ?_
              refine g_iload_n E dX8_putNumber_29 rfl 1 rfl ?_
              refine g_i2l (v := (nI v).toInt64) E dX8_putNumber_30 rfl ?_
              refine g_iload_n E dX8_putNumber_31 rfl 3 rfl ?_
              refine g_callSLe (F := [(m 0, .inr (8, [.int (q 0), .ref (m 1), .int (q 1), .int (q 2), .int (q 3), .int (q 4), .ref (m 2), .ref (m 3), .ref (m 4), .ref (m 5), .int (q 5), .ref (m 6), .ref (m 7), .ref (m 8), .int (q 6), .int w1, .int l1]))]) (ws2 := [(m 0, .inr (8, [.int (q 0), .ref (m 1), .int (q 1), .int (q 2), .int (q 3), .int (q 4), .ref (m 2), .ref (m 3), .ref (m 4), .ref (m 5), .int (q 5), .ref (m 6), .ref (m 7), .ref (m 8), .int (q 6), .int w1, .int l1]))]) E (mX8_tenTo G k (by omega)) gX8_putNumber_X8_tenTo rfl hnX8_tenTo ⟨Nat.le_of_ble_eq_true rfl, Nat.le_of_ble_eq_true rfl⟩ (gPerm_ix [0] rfl rfl) rfl rfl (Nat.le_of_ble_eq_true rfl) dX8_putNumber_32 ⟨Nat.le_of_ble_eq_true rfl, Nat.le_of_ble_eq_true rfl⟩ (gPerm_ix [0] rfl rfl) ?_
              refine g_ldiv E dX8_putNumber_35 (gTen_ne (by omega)) ?_
              refine g_ldc2 (v := 10) E kX8_putNumber_43 dX8_putNumber_36 ?_
              refine g_lrem E dX8_putNumber_39 (by decide) ?_
              refine g_l2i (v := ((((nI v).toInt64) / (gTen k)) - (((nI v).toInt64) / (gTen k)) / 10 * 10).toInt32) E dX8_putNumber_40 rfl ?_
              refine g_iadd E dX8_putNumber_41 ?_
              refine g_callVVe (F := []) (ws2 := [(m 0, .inr (8, [.int (q 0), .ref (m 1), .int (q 1), .int (q 2), .int (q 3), .int (q 4), .ref (m 2), .ref (m 3), .ref (m 4), .ref (m 5), .int (q 5), .ref (m 6), .ref (m 7), .ref (m 8), .int (q 6), .int (w1 - 1), .int (if w1 = 0 then 48 + (((((nI v).toInt64) / (gTen k)) - (((nI v).toInt64) / (gTen k)) / 10 * 10).toInt32) else l1)]))]) E (mX8_put G m (qU (qU q 7 w1) 8 l1) (48 + (((((nI v).toInt64) / (gTen k)) - (((nI v).toInt64) / (gTen k)) / 10 * 10).toInt32)) w1 l1) gX8_putNumber_X8_put rfl hdX8_put ⟨Nat.le_of_ble_eq_true rfl, Nat.le_of_ble_eq_true rfl⟩ 8 0 rfl rfl rfl (gPerm_ix [0] rfl rfl) rfl rfl (Nat.le_of_ble_eq_true rfl) dX8_putNumber_42 ⟨Nat.le_of_ble_eq_true rfl, Nat.le_of_ble_eq_true rfl⟩ (gPerm_ix [0] rfl rfl) ?_
              refine g_iinc (lv' := [(3, .int (gPd k)), (0, .ref (m 0)), (1, .int (nI v)), (2, .int (nI d))]) E dX8_putNumber_45 3 rfl (gPd_dec k) (by decide) rfl ?_
              refine g_goto (tgt := 22) E dX8_putNumber_48 (by decide) ?_
              refine g_lv [1, 2, 3, 0] rfl ?_
              exact ih8  k _ _ (by omega) (by rw [← hgp]; show _ = gPt (gDk v k) (w1 - 1) (if w1 = 0 then nI (48 + v / 10 ^ k % 10) else l1); rw [gDig hv (by omega)]) (by omega)
        refine g_lv [1, 2, 3, 0] rfl ?_
        exact loop6 _ d w l (by omega) (by subst hde; rfl) (Nat.lt_succ_self _)
      · skip
        rw [gCmp_lt, gLt_ten hv (by omega), gDc_lt hv hd1 hd] at c5
        refine g_iinc (lv' := [(2, .int (nI (d + 1))), (0, .ref (m 0)), (1, .int (nI v))]) E dX8_putNumber_12 2 rfl (g_inc _ 1 (by decide)) (by decide) rfl ?_
        refine g_goto (tgt := 2) E dX8_putNumber_15 (by decide) ?_
        refine g_lv [1, 2, 0] rfl ?_
        exact ih3  (d + 1) (by omega) (by omega) (by omega)
  refine g_lv [1, 2, 0] rfl ?_
  exact loop1 _ 1 (Nat.le_refl _) (gDc_le v).1 (Nat.lt_succ_self _)

set_option maxHeartbeats 4000000 in
set_option maxRecDepth 100000 in
theorem mX8_putTwo (G : gG) (m : Nat → Nat) (q : Nat → Int32) (c d w l : Int32)  : CVe G yX8_putTwo wsX8_putTwo 1 21 [.ref (m 0), .int c, .int d] [(m 0, .inr (8, [.int (q 0), .ref (m 1), .int (q 1), .int (q 2), .int (q 3), .int (q 4), .ref (m 2), .ref (m 3), .ref (m 4), .ref (m 5), .int (q 5), .ref (m 6), .ref (m 7), .ref (m 8), .int (q 6), .int w, .int l]))]  [(m 0, .inr (8, [.int (q 0), .ref (m 1), .int (q 1), .int (q 2), .int (q 3), .int (q 4), .ref (m 2), .ref (m 3), .ref (m 4), .ref (m 5), .int (q 5), .ref (m 6), .ref (m 7), .ref (m 8), .int (q 6), .int ((gPt ([c, d]) w l).1), .int ((gPt ([c, d]) w l).2)]))] 0 0 := by
  refine g_enterVe RX8 rfl (by decide) rfl (Nat.le_of_ble_eq_true rfl) ?_
  intro V E RET
  refine g_aload_n E dX8_putTwo_0 rfl 0 rfl ?_
  refine g_iload_n E dX8_putTwo_1 rfl 1 rfl ?_
  refine g_callVVe (F := []) (ws2 := [(m 0, .inr (8, [.int (q 0), .ref (m 1), .int (q 1), .int (q 2), .int (q 3), .int (q 4), .ref (m 2), .ref (m 3), .ref (m 4), .ref (m 5), .int (q 5), .ref (m 6), .ref (m 7), .ref (m 8), .int (q 6), .int (w - 1), .int (if w = 0 then c else l)]))]) E (mX8_put G m (qU (qU q 7 w) 8 l) c w l) gX8_putTwo_X8_put rfl hdX8_put ⟨Nat.le_of_ble_eq_true rfl, Nat.le_of_ble_eq_true rfl⟩ 8 0 rfl rfl rfl (gPerm_ix [0] rfl rfl) rfl rfl (Nat.le_of_ble_eq_true rfl) dX8_putTwo_2 ⟨Nat.le_of_ble_eq_true rfl, Nat.le_of_ble_eq_true rfl⟩ (gPerm_ix [0] rfl rfl) ?_
  refine g_aload_n E dX8_putTwo_5 rfl 0 rfl ?_
  refine g_iload_n E dX8_putTwo_6 rfl 2 rfl ?_
  refine g_callVVe (F := []) (ws2 := [(m 0, .inr (8, [.int (q 0), .ref (m 1), .int (q 1), .int (q 2), .int (q 3), .int (q 4), .ref (m 2), .ref (m 3), .ref (m 4), .ref (m 5), .int (q 5), .ref (m 6), .ref (m 7), .ref (m 8), .int (q 6), .int ((w - 1) - 1), .int (if w - 1 = 0 then d else if w = 0 then c else l)]))]) E (mX8_put G m (qU (qU q 7 (w - 1)) 8 (if w = 0 then c else l)) d (w - 1) (if w = 0 then c else l)) gX8_putTwo_X8_put rfl hdX8_put ⟨Nat.le_of_ble_eq_true rfl, Nat.le_of_ble_eq_true rfl⟩ 8 0 rfl rfl rfl (gPerm_ix [0] rfl rfl) rfl rfl (Nat.le_of_ble_eq_true rfl) dX8_putTwo_7 ⟨Nat.le_of_ble_eq_true rfl, Nat.le_of_ble_eq_true rfl⟩ (gPerm_ix [0] rfl rfl) ?_
  exact RET _ _ () (trivial) dX8_putTwo_10
