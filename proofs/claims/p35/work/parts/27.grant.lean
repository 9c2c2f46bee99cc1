set_option maxHeartbeats 4000000 in
set_option maxRecDepth 100000 in
theorem mX2_grantWishes (G : gG) (a : Nat → Nat) (S : gSt) (gb gw : Nat → Int32)  (hI : gI1 S) (hT : sN S 0 < 1000000000) (hR : RB (sB S) gb) (hQ : RW (sW S) gw) (hT8 : sN S 0 < 200000000) : CV G yX2_grantWishes wsX2_grantWishes 3 113 [.ref (a 0)] [(a 0, .inr (3, [.int (nI (sN S 0)), .int (nI (sN S 1)), .ref (a 1), .ref (a 2), .ref (a 3), .ref (a 4), .ref (a 5), .ref (a 6), .ref (a 7), .ref (a 8), .int (sI S 9 0), .ref (a 9), .ref (a 11), .ref (a 13), .ref (a 14)])), (a 1, .inl (gy G 0, 8, .inl (sI S 0))), (a 2, .inl (gy G 0, 8, .inl (sI S 1))), (a 3, .inl (gy G 0, 8, .inl (sI S 2))), (a 4, .inl (gy G 0, 8, .inl (sI S 3))), (a 5, .inl (gy G 0, 8, .inl (sI S 4))), (a 6, .inl (gy G 0, 8, .inl (sI S 5))), (a 7, .inl (gy G 0, 10, .inl (sI S 6))), (a 8, .inl (gy G 0, 10, .inl (sI S 7))), (a 9, .inr (1, [.int (nI ((sB S).length)), .ref (a 10)])), (a 10, .inl (gy G 0, 144, .inl gb)), (a 11, .inr (6, [.int (nI ((sW S).length)), .ref (a 12)])), (a 12, .inl (gy G 0, 10, .inl gw)), (a 13, .inl (gy G 0, 5, .inl (sI S 8))), (a 14, .inl (gy G 0, 6, .inl (fun j => nI (sS S j))))] (fun u : gU => u.1 = gGrant S ∧ RB (sB u.1) u.2.1 ∧ RW (sW u.1) u.2.2) (fun (u : gU) => [(a 0, .inr (3, [.int (nI (sN u.1 0)), .int (nI (sN u.1 1)), .ref (a 1), .ref (a 2), .ref (a 3), .ref (a 4), .ref (a 5), .ref (a 6), .ref (a 7), .ref (a 8), .int (sI u.1 9 0), .ref (a 9), .ref (a 11), .ref (a 13), .ref (a 14)])), (a 1, .inl (gy G 0, 8, .inl (sI u.1 0))), (a 2, .inl (gy G 0, 8, .inl (sI u.1 1))), (a 3, .inl (gy G 0, 8, .inl (sI u.1 2))), (a 4, .inl (gy G 0, 8, .inl (sI u.1 3))), (a 5, .inl (gy G 0, 8, .inl (sI u.1 4))), (a 6, .inl (gy G 0, 8, .inl (sI u.1 5))), (a 7, .inl (gy G 0, 10, .inl (sI u.1 6))), (a 8, .inl (gy G 0, 10, .inl (sI u.1 7))), (a 9, .inr (1, [.int (nI ((sB u.1).length)), .ref (a 10)])), (a 10, .inl (gy G 0, 144, .inl u.2.1)), (a 11, .inr (6, [.int (nI ((sW u.1).length)), .ref (a 12)])), (a 12, .inl (gy G 0, 10, .inl u.2.2)), (a 13, .inl (gy G 0, 5, .inl (sI u.1 8))), (a 14, .inl (gy G 0, 6, .inl (fun j => nI (sS u.1 j))))]) 0 0 := by
  refine g_enterV RX2 rfl (by decide) rfl (Nat.le_of_ble_eq_true rfl) ?_
  intro V E RET
  have hX := hI
  obtain ⟨hP8, hn, hw, hW8, hs3, hs4, hs5, hs6, hs7, hs8, hb34⟩ := hX
  have h8 : ∀ j, j < (sW S).length → wq (sW S) j < 80 := fun j hj => (hW8 j hj).1
  refine g_iconst (v := 0) E dX2_grantWishes_0 (by decide) ?_
  refine g_istore_n (lv' := [(1, .int 0), (0, .ref (a 0))]) E dX2_grantWishes_1 rfl (by decide) rfl ?_
  refine g_aload_n E dX2_grantWishes_2 rfl 1 rfl ?_
  refine g_get E uX2_grantWishes_RX2 0 rfl rfl 12 (by decide) kX2_grantWishes_46 rfl rfl dX2_grantWishes_3 ?_
  refine g_get E uX2_grantWishes_RX6 11 rfl rfl 0 (by decide) kX2_grantWishes_97 rfl rfl dX2_grantWishes_6 ?_
  refine g_istore_n (lv' := [(2, .int (nI ((sW S).length))), (1, .int 0), (0, .ref (a 0))]) E dX2_grantWishes_9 rfl (by decide) rfl ?_
  have loop1 : ∀ (n2 : Nat) (lf T : Nat) (Sx : gSt) (gbx gwx : Nat → Int32), (gI1 Sx) → (sN Sx 0 < 200000000) → (RB (sB Sx) gbx) → (RW (sW Sx) gwx) → (T + lf = (sW Sx).length) → (gGr lf T Sx = gGrant S) → lf < n2 → gW V 7 0 0 [(a 0, .inr (3, [.int (nI (sN Sx 0)), .int (nI (sN Sx 1)), .ref (a 1), .ref (a 2), .ref (a 3), .ref (a 4), .ref (a 5), .ref (a 6), .ref (a 7), .ref (a 8), .int (sI Sx 9 0), .ref (a 9), .ref (a 11), .ref (a 13), .ref (a 14)])), (a 1, .inl (gy G 0, 8, .inl (sI Sx 0))), (a 2, .inl (gy G 0, 8, .inl (sI Sx 1))), (a 3, .inl (gy G 0, 8, .inl (sI Sx 2))), (a 4, .inl (gy G 0, 8, .inl (sI Sx 3))), (a 5, .inl (gy G 0, 8, .inl (sI Sx 4))), (a 6, .inl (gy G 0, 8, .inl (sI Sx 5))), (a 7, .inl (gy G 0, 10, .inl (sI Sx 6))), (a 8, .inl (gy G 0, 10, .inl (sI Sx 7))), (a 9, .inr (1, [.int (nI ((sB Sx).length)), .ref (a 10)])), (a 10, .inl (gy G 0, 144, .inl gbx)), (a 11, .inr (6, [.int (nI ((sW Sx).length)), .ref (a 12)])), (a 12, .inl (gy G 0, 10, .inl gwx)), (a 13, .inl (gy G 0, 5, .inl (sI Sx 8))), (a 14, .inl (gy G 0, 6, .inl (fun j => nI (sS Sx j))))] [(0, .ref (a 0)), (1, .int (nI T)), (2, .int (nI lf))] 10 [] := by
    intro n2
    induction n2 with
    | zero => intro lf T Sx gbx gwx hIx hTx hRx hQx hlen heq hm4; exact absurd hm4 (Nat.not_lt_zero _)
    | succ n2 ih3 =>
      intro lf T Sx gbx gwx hIx hTx hRx hQx hlen heq hm4
      have hwx := gI1_w hIx
      refine g_iload_n E dX2_grantWishes_10 rfl 2 rfl ?_
      refine g_if_leN (tgt := 107) (a := lf) E dX2_grantWishes_11 (by decide) (by omega) (fun c5 => ?_) (fun c5 => ?_)
      · skip
        have hl0 : lf = 0 := by omega
        have e9 : Sx = gGrant S := by rw [← heq, hl0]; rfl
        exact RET _ _ (Sx, gbx, gwx) (⟨e9, hRx, hQx⟩) dX2_grantWishes_107
      · skip
        have hlf : 0 < lf := by omega
        obtain ⟨i, hi, ei⟩ := gTurn_ex (W := sW Sx) (hf := sI Sx 3) (T := T) (by omega)
        have hw8 := hIx.2.2.2.1 i hi
        refine g_aload_n E dX2_grantWishes_14 rfl 0 rfl ?_
        refine g_get E uX2_grantWishes_RX2 0 rfl rfl 12 (by decide) kX2_grantWishes_46 rfl rfl dX2_grantWishes_15 ?_
        refine g_iload_n E dX2_grantWishes_18 rfl 1 rfl ?_
        refine g_aload_n E dX2_grantWishes_19 rfl 0 rfl ?_
        refine g_get E uX2_grantWishes_RX2 0 rfl rfl 5 (by decide) kX2_grantWishes_21 rfl rfl dX2_grantWishes_20 ?_
        refine g_callVIe (F := [(a 0, .inr (3, [.int (nI (sN Sx 0)), .int (nI (sN Sx 1)), .ref (a 1), .ref (a 2), .ref (a 3), .ref (a 4), .ref (a 5), .ref (a 6), .ref (a 7), .ref (a 8), .int (sI Sx 9 0), .ref (a 9), .ref (a 11), .ref (a 13), .ref (a 14)])), (a 1, .inl (gy G 0, 8, .inl (sI Sx 0))), (a 2, .inl (gy G 0, 8, .inl (sI Sx 1))), (a 3, .inl (gy G 0, 8, .inl (sI Sx 2))), (a 5, .inl (gy G 0, 8, .inl (sI Sx 4))), (a 6, .inl (gy G 0, 8, .inl (sI Sx 5))), (a 7, .inl (gy G 0, 10, .inl (sI Sx 6))), (a 8, .inl (gy G 0, 10, .inl (sI Sx 7))), (a 9, .inr (1, [.int (nI ((sB Sx).length)), .ref (a 10)])), (a 10, .inl (gy G 0, 144, .inl gbx)), (a 13, .inl (gy G 0, 5, .inl (sI Sx 8))), (a 14, .inl (gy G 0, 6, .inl (fun j => nI (sS Sx j))))]) (ws2 := [(a 0, .inr (3, [.int (nI (sN Sx 0)), .int (nI (sN Sx 1)), .ref (a 1), .ref (a 2), .ref (a 3), .ref (a 4), .ref (a 5), .ref (a 6), .ref (a 7), .ref (a 8), .int (sI Sx 9 0), .ref (a 9), .ref (a 11), .ref (a 13), .ref (a 14)])), (a 1, .inl (gy G 0, 8, .inl (sI Sx 0))), (a 2, .inl (gy G 0, 8, .inl (sI Sx 1))), (a 3, .inl (gy G 0, 8, .inl (sI Sx 2))), (a 4, .inl (gy G 0, 8, .inl (sI Sx 3))), (a 5, .inl (gy G 0, 8, .inl (sI Sx 4))), (a 6, .inl (gy G 0, 8, .inl (sI Sx 5))), (a 7, .inl (gy G 0, 10, .inl (sI Sx 6))), (a 8, .inl (gy G 0, 10, .inl (sI Sx 7))), (a 9, .inr (1, [.int (nI ((sB Sx).length)), .ref (a 10)])), (a 10, .inl (gy G 0, 144, .inl gbx)), (a 11, .inr (6, [.int (nI ((sW Sx).length)), .ref (a 12)])), (a 12, .inl (gy G 0, 10, .inl gwx)), (a 13, .inl (gy G 0, 5, .inl (sI Sx 8))), (a 14, .inl (gy G 0, 6, .inl (fun j => nI (sS Sx j))))]) E (mX6_inTurn G (a 11) (a 12) (sW Sx) gwx (a 4) (sI Sx 3) T (gI1_w hIx) hQx (gI1_8 hIx) (by omega)) gX2_grantWishes_X6_inTurn rfl hdX6_inTurn ⟨Nat.le_of_ble_eq_true rfl, Nat.le_of_ble_eq_true rfl⟩ 6 0 rfl rfl rfl (gPerm_ix [11, 12, 4, 0, 1, 2, 3, 5, 6, 7, 8, 9, 10, 13, 14] rfl rfl) rfl rfl (Nat.le_of_ble_eq_true rfl) dX2_grantWishes_23 ⟨Nat.le_of_ble_eq_true rfl, Nat.le_of_ble_eq_true rfl⟩ (gPerm_ix [3, 4, 5, 6, 2, 7, 8, 9, 10, 11, 12, 0, 1, 13, 14] rfl rfl) ?_
        refine g_top (y := nI i) (by rw [ei]; rfl) ?_
        refine g_istore_n (lv' := [(3, .int (nI i)), (0, .ref (a 0)), (1, .int (nI T)), (2, .int (nI lf))]) E dX2_grantWishes_26 rfl (by decide) rfl ?_
        refine g_aload_n E dX2_grantWishes_27 rfl 1 rfl ?_
        refine g_get E uX2_grantWishes_RX2 0 rfl rfl 12 (by decide) kX2_grantWishes_46 rfl rfl dX2_grantWishes_28 ?_
        refine g_iload_n E dX2_grantWishes_31 rfl 0 rfl ?_
        refine g_callVIe (F := [(a 0, .inr (3, [.int (nI (sN Sx 0)), .int (nI (sN Sx 1)), .ref (a 1), .ref (a 2), .ref (a 3), .ref (a 4), .ref (a 5), .ref (a 6), .ref (a 7), .ref (a 8), .int (sI Sx 9 0), .ref (a 9), .ref (a 11), .ref (a 13), .ref (a 14)])), (a 1, .inl (gy G 0, 8, .inl (sI Sx 0))), (a 2, .inl (gy G 0, 8, .inl (sI Sx 1))), (a 3, .inl (gy G 0, 8, .inl (sI Sx 2))), (a 4, .inl (gy G 0, 8, .inl (sI Sx 3))), (a 5, .inl (gy G 0, 8, .inl (sI Sx 4))), (a 6, .inl (gy G 0, 8, .inl (sI Sx 5))), (a 7, .inl (gy G 0, 10, .inl (sI Sx 6))), (a 8, .inl (gy G 0, 10, .inl (sI Sx 7))), (a 9, .inr (1, [.int (nI ((sB Sx).length)), .ref (a 10)])), (a 10, .inl (gy G 0, 144, .inl gbx)), (a 13, .inl (gy G 0, 5, .inl (sI Sx 8))), (a 14, .inl (gy G 0, 6, .inl (fun j => nI (sS Sx j))))]) (ws2 := [(a 0, .inr (3, [.int (nI (sN Sx 0)), .int (nI (sN Sx 1)), .ref (a 1), .ref (a 2), .ref (a 3), .ref (a 4), .ref (a 5), .ref (a 6), .ref (a 7), .ref (a 8), .int (sI Sx 9 0), .ref (a 9), .ref (a 11), .ref (a 13), .ref (a 14)])), (a 1, .inl (gy G 0, 8, .inl (sI Sx 0))), (a 2, .inl (gy G 0, 8, .inl (sI Sx 1))), (a 3, .inl (gy G 0, 8, .inl (sI Sx 2))), (a 4, .inl (gy G 0, 8, .inl (sI Sx 3))), (a 5, .inl (gy G 0, 8, .inl (sI Sx 4))), (a 6, .inl (gy G 0, 8, .inl (sI Sx 5))), (a 7, .inl (gy G 0, 10, .inl (sI Sx 6))), (a 8, .inl (gy G 0, 10, .inl (sI Sx 7))), (a 9, .inr (1, [.int (nI ((sB Sx).length)), .ref (a 10)])), (a 10, .inl (gy G 0, 144, .inl gbx)), (a 11, .inr (6, [.int (nI ((sW Sx).length)), .ref (a 12)])), (a 12, .inl (gy G 0, 10, .inl gwx)), (a 13, .inl (gy G 0, 5, .inl (sI Sx 8))), (a 14, .inl (gy G 0, 6, .inl (fun j => nI (sS Sx j))))]) E (mX6_prisonerOf G (a 11) (a 12) (sW Sx) gwx i (gI1_w hIx) hQx (by omega)) gX2_grantWishes_X6_prisonerOf rfl hdX6_prisonerOf ⟨Nat.le_of_ble_eq_true rfl, Nat.le_of_ble_eq_true rfl⟩ 6 0 rfl rfl rfl (gPerm_ix [11, 12, 0, 1, 2, 3, 4, 5, 6, 7, 8, 9, 10, 13, 14] rfl rfl) rfl rfl (Nat.le_of_ble_eq_true rfl) dX2_grantWishes_32 ⟨Nat.le_of_ble_eq_true rfl, Nat.le_of_ble_eq_true rfl⟩ (gPerm_ix [2, 3, 4, 5, 6, 7, 8, 9, 10, 11, 12, 0, 1, 13, 14] rfl rfl) ?_
        refine g_istore (lv' := [(4, .int (nI (wq (sW Sx) i / 10))), (3, .int (nI i)), (0, .ref (a 0)), (1, .int (nI T)), (2, .int (nI lf))]) E dX2_grantWishes_35 (by decide) rfl ?_
        refine g_aload_n E dX2_grantWishes_37 rfl 2 rfl ?_
        refine g_get E uX2_grantWishes_RX2 0 rfl rfl 12 (by decide) kX2_grantWishes_46 rfl rfl dX2_grantWishes_38 ?_
        refine g_iload_n E dX2_grantWishes_41 rfl 1 rfl ?_
        refine g_callVIe (F := [(a 0, .inr (3, [.int (nI (sN Sx 0)), .int (nI (sN Sx 1)), .ref (a 1), .ref (a 2), .ref (a 3), .ref (a 4), .ref (a 5), .ref (a 6), .ref (a 7), .ref (a 8), .int (sI Sx 9 0), .ref (a 9), .ref (a 11), .ref (a 13), .ref (a 14)])), (a 1, .inl (gy G 0, 8, .inl (sI Sx 0))), (a 2, .inl (gy G 0, 8, .inl (sI Sx 1))), (a 3, .inl (gy G 0, 8, .inl (sI Sx 2))), (a 4, .inl (gy G 0, 8, .inl (sI Sx 3))), (a 5, .inl (gy G 0, 8, .inl (sI Sx 4))), (a 6, .inl (gy G 0, 8, .inl (sI Sx 5))), (a 7, .inl (gy G 0, 10, .inl (sI Sx 6))), (a 8, .inl (gy G 0, 10, .inl (sI Sx 7))), (a 9, .inr (1, [.int (nI ((sB Sx).length)), .ref (a 10)])), (a 10, .inl (gy G 0, 144, .inl gbx)), (a 13, .inl (gy G 0, 5, .inl (sI Sx 8))), (a 14, .inl (gy G 0, 6, .inl (fun j => nI (sS Sx j))))]) (ws2 := [(a 0, .inr (3, [.int (nI (sN Sx 0)), .int (nI (sN Sx 1)), .ref (a 1), .ref (a 2), .ref (a 3), .ref (a 4), .ref (a 5), .ref (a 6), .ref (a 7), .ref (a 8), .int (sI Sx 9 0), .ref (a 9), .ref (a 11), .ref (a 13), .ref (a 14)])), (a 1, .inl (gy G 0, 8, .inl (sI Sx 0))), (a 2, .inl (gy G 0, 8, .inl (sI Sx 1))), (a 3, .inl (gy G 0, 8, .inl (sI Sx 2))), (a 4, .inl (gy G 0, 8, .inl (sI Sx 3))), (a 5, .inl (gy G 0, 8, .inl (sI Sx 4))), (a 6, .inl (gy G 0, 8, .inl (sI Sx 5))), (a 7, .inl (gy G 0, 10, .inl (sI Sx 6))), (a 8, .inl (gy G 0, 10, .inl (sI Sx 7))), (a 9, .inr (1, [.int (nI ((sB Sx).length)), .ref (a 10)])), (a 10, .inl (gy G 0, 144, .inl gbx)), (a 11, .inr (6, [.int (nI ((sW Sx).length)), .ref (a 12)])), (a 12, .inl (gy G 0, 10, .inl gwx)), (a 13, .inl (gy G 0, 5, .inl (sI Sx 8))), (a 14, .inl (gy G 0, 6, .inl (fun j => nI (sS Sx j))))]) E (mX6_visitorOf G (a 11) (a 12) (sW Sx) gwx i (gI1_w hIx) hQx (by omega)) gX2_grantWishes_X6_visitorOf rfl hdX6_visitorOf ⟨Nat.le_of_ble_eq_true rfl, Nat.le_of_ble_eq_true rfl⟩ 6 0 rfl rfl rfl (gPerm_ix [11, 12, 0, 1, 2, 3, 4, 5, 6, 7, 8, 9, 10, 13, 14] rfl rfl) rfl rfl (Nat.le_of_ble_eq_true rfl) dX2_grantWishes_42 ⟨Nat.le_of_ble_eq_true rfl, Nat.le_of_ble_eq_true rfl⟩ (gPerm_ix [2, 3, 4, 5, 6, 7, 8, 9, 10, 11, 12, 0, 1, 13, 14] rfl rfl) ?_
        refine g_istore (lv' := [(5, .int (nI (wq (sW Sx) i % 10))), (4, .int (nI (wq (sW Sx) i / 10))), (3, .int (nI i)), (0, .ref (a 0)), (1, .int (nI T)), (2, .int (nI lf))]) E dX2_grantWishes_45 (by decide) rfl ?_
        refine g_aload_n E dX2_grantWishes_47 rfl 3 rfl ?_
        refine g_iload E dX2_grantWishes_48 1 rfl ?_
        refine g_iload E dX2_grantWishes_50 0 rfl ?_
        refine g_bipush (v := 7) E dX2_grantWishes_52 (by decide) ?_
        refine g_callVIe (F := []) (ws2 := [(a 0, .inr (3, [.int (nI (sN Sx 0)), .int (nI (sN Sx 1)), .ref (a 1), .ref (a 2), .ref (a 3), .ref (a 4), .ref (a 5), .ref (a 6), .ref (a 7), .ref (a 8), .int (sI Sx 9 0), .ref (a 9), .ref (a 11), .ref (a 13), .ref (a 14)])), (a 1, .inl (gy G 0, 8, .inl (sI Sx 0))), (a 2, .inl (gy G 0, 8, .inl (sI Sx 1))), (a 3, .inl (gy G 0, 8, .inl (sI Sx 2))), (a 4, .inl (gy G 0, 8, .inl (sI Sx 3))), (a 5, .inl (gy G 0, 8, .inl (sI Sx 4))), (a 6, .inl (gy G 0, 8, .inl (sI Sx 5))), (a 7, .inl (gy G 0, 10, .inl (sI Sx 6))), (a 8, .inl (gy G 0, 10, .inl (sI Sx 7))), (a 9, .inr (1, [.int (nI ((sB Sx).length)), .ref (a 10)])), (a 10, .inl (gy G 0, 144, .inl gbx)), (a 11, .inr (6, [.int (nI ((sW Sx).length)), .ref (a 12)])), (a 12, .inl (gy G 0, 10, .inl gwx)), (a 13, .inl (gy G 0, 5, .inl (sI Sx 8))), (a 14, .inl (gy G 0, 6, .inl (fun j => nI (sS Sx j))))]) E (mX2_earliest G a Sx gbx gwx (wq (sW Sx) i / 10) (wq (sW Sx) i % 10) 7 hIx (gT_8 hTx) hRx hQx (by omega) (by omega) (by omega)) gX2_grantWishes_X2_earliest rfl hdX2_earliest ⟨Nat.le_of_ble_eq_true rfl, Nat.le_of_ble_eq_true rfl⟩ 3 0 rfl rfl rfl (gPerm_ix [0, 1, 2, 3, 4, 5, 6, 7, 8, 9, 10, 11, 12, 13, 14] rfl rfl) rfl rfl (Nat.le_of_ble_eq_true rfl) dX2_grantWishes_54 ⟨Nat.le_of_ble_eq_true rfl, Nat.le_of_ble_eq_true rfl⟩ (gPerm_ix [0, 1, 2, 3, 4, 5, 6, 7, 8, 9, 10, 11, 12, 13, 14] rfl rfl) ?_
        rcases hE : gEar Sx (wq (sW Sx) i / 10) (wq (sW Sx) i % 10) 7 with _ | t
        · skip
          refine g_top (y := -1) rfl ?_
          refine g_istore (lv' := [(6, .int (-1)), (5, .int (nI (wq (sW Sx) i % 10))), (4, .int (nI (wq (sW Sx) i / 10))), (3, .int (nI i)), (0, .ref (a 0)), (1, .int (nI T)), (2, .int (nI lf))]) E dX2_grantWishes_57 (by decide) rfl ?_
          refine g_iload E dX2_grantWishes_59 0 rfl ?_
          refine g_iconst (v := (-1)) E dX2_grantWishes_61 (by decide) ?_
          refine g_icmp_ne (tgt := 71) E dX2_grantWishes_62 (by decide) (fun c => absurd c (by decide)) (fun _ => ?_)
          refine g_iinc (lv' := [(1, .int (nI (T + 1))), (6, .int (-1)), (5, .int (nI (wq (sW Sx) i % 10))), (4, .int (nI (wq (sW Sx) i / 10))), (3, .int (nI i)), (0, .ref (a 0)), (2, .int (nI lf))]) E dX2_grantWishes_65 5 rfl (g_inc _ 1 (by decide)) (by decide) rfl ?_
          refine g_goto (tgt := 101) E dX2_grantWishes_68 (by decide) ?_
          refine g_iinc (lv' := [(2, .int (nI (lf - 1))), (1, .int (nI (T + 1))), (6, .int (-1)), (5, .int (nI (wq (sW Sx) i % 10))), (4, .int (nI (wq (sW Sx) i / 10))), (3, .int (nI i)), (0, .ref (a 0))]) E dX2_grantWishes_101 6 rfl (g_dec _ (by omega)) (by decide) rfl ?_
          refine g_goto (tgt := 10) E dX2_grantWishes_104 (by decide) ?_
          refine g_lv [6, 1, 0] rfl ?_
          exact ih3  (lf - 1) (T + 1) Sx _ _ hIx hTx hRx hQx (by omega) ((gGr_none hlf ei hE).symm.trans heq) (by omega)
        · skip
          obtain ⟨ht1, ht2⟩ := gEar_spec hE
          have hn24 : (sB Sx).length < 24 := gRA_nf ht2
          refine g_top (y := nI t) rfl ?_
          refine g_istore (lv' := [(6, .int (nI t)), (5, .int (nI (wq (sW Sx) i % 10))), (4, .int (nI (wq (sW Sx) i / 10))), (3, .int (nI i)), (0, .ref (a 0)), (1, .int (nI T)), (2, .int (nI lf))]) E dX2_grantWishes_57 (by decide) rfl ?_
          refine g_iload E dX2_grantWishes_59 0 rfl ?_
          refine g_iconst (v := (-1)) E dX2_grantWishes_61 (by decide) ?_
          refine g_icmp_ne (tgt := 71) E dX2_grantWishes_62 (by decide) (fun c6 => ?_) (fun c6 => ?_)
          · skip
            refine g_aload_n E dX2_grantWishes_71 rfl 4 rfl ?_
            refine g_get E uX2_grantWishes_RX2 0 rfl rfl 11 (by decide) kX2_grantWishes_39 rfl rfl dX2_grantWishes_72 ?_
            refine g_iload E dX2_grantWishes_75 2 rfl ?_
            refine g_iload E dX2_grantWishes_77 1 rfl ?_
            refine g_iload E dX2_grantWishes_79 0 rfl ?_
            refine g_bipush (v := 8) E dX2_grantWishes_81 (by decide) ?_
            refine g_idivN (a := t) (b := 8) E dX2_grantWishes_83 (by omega) (by omega) (by omega) ?_
            refine g_iload E dX2_grantWishes_84 0 rfl ?_
            refine g_bipush (v := 8) E dX2_grantWishes_86 (by decide) ?_
            refine g_iremN (a := t) (b := 8) E dX2_grantWishes_88 (by omega) (by omega) (by omega) ?_
            refine g_callVIu (F := [(a 0, .inr (3, [.int (nI (sN Sx 0)), .int (nI (sN Sx 1)), .ref (a 1), .ref (a 2), .ref (a 3), .ref (a 4), .ref (a 5), .ref (a 6), .ref (a 7), .ref (a 8), .int (sI Sx 9 0), .ref (a 9), .ref (a 11), .ref (a 13), .ref (a 14)])), (a 1, .inl (gy G 0, 8, .inl (sI Sx 0))), (a 2, .inl (gy G 0, 8, .inl (sI Sx 1))), (a 3, .inl (gy G 0, 8, .inl (sI Sx 2))), (a 4, .inl (gy G 0, 8, .inl (sI Sx 3))), (a 5, .inl (gy G 0, 8, .inl (sI Sx 4))), (a 6, .inl (gy G 0, 8, .inl (sI Sx 5))), (a 7, .inl (gy G 0, 10, .inl (sI Sx 6))), (a 8, .inl (gy G 0, 10, .inl (sI Sx 7))), (a 11, .inr (6, [.int (nI ((sW Sx).length)), .ref (a 12)])), (a 12, .inl (gy G 0, 10, .inl gwx)), (a 13, .inl (gy G 0, 5, .inl (sI Sx 8))), (a 14, .inl (gy G 0, 6, .inl (fun j => nI (sS Sx j))))]) E (mX0_add G (a 9) (a 10) (sB Sx) gbx (wq (sW Sx) i / 10) (wq (sW Sx) i % 10) (t / 8) (t % 8) (by omega) hRx (by omega) (by omega) (by omega) (by omega)) gX2_grantWishes_X0_add rfl hdX0_add ⟨Nat.le_of_ble_eq_true rfl, Nat.le_of_ble_eq_true rfl⟩ 1 0 rfl rfl rfl (gPerm_ix [9, 10, 0, 1, 2, 3, 4, 5, 6, 7, 8, 11, 12, 13, 14] rfl rfl) rfl rfl (Nat.le_of_ble_eq_true rfl) dX2_grantWishes_89 ⟨Nat.le_of_ble_eq_true rfl, Nat.le_of_ble_eq_true rfl⟩ (fun gb7 hb8 => ?_)
            refine g_perm (ws1 := [(a 0, .inr (3, [.int (nI (sN Sx 0)), .int (nI (sN Sx 1)), .ref (a 1), .ref (a 2), .ref (a 3), .ref (a 4), .ref (a 5), .ref (a 6), .ref (a 7), .ref (a 8), .int (sI Sx 9 0), .ref (a 9), .ref (a 11), .ref (a 13), .ref (a 14)])), (a 1, .inl (gy G 0, 8, .inl (sI Sx 0))), (a 2, .inl (gy G 0, 8, .inl (sI Sx 1))), (a 3, .inl (gy G 0, 8, .inl (sI Sx 2))), (a 4, .inl (gy G 0, 8, .inl (sI Sx 3))), (a 5, .inl (gy G 0, 8, .inl (sI Sx 4))), (a 6, .inl (gy G 0, 8, .inl (sI Sx 5))), (a 7, .inl (gy G 0, 10, .inl (sI Sx 6))), (a 8, .inl (gy G 0, 10, .inl (sI Sx 7))), (a 9, .inr (1, [.int (nI ((gIns (sB Sx) (gPlc (sB Sx) (t / 8) (t % 8) (gFr (gVih (sB Sx) 2 (t / 8) (t % 8) (sB Sx).length))) (gNb (t / 8) (t % 8) (gFr (gVih (sB Sx) 2 (t / 8) (t % 8) (sB Sx).length)) (wq (sW Sx) i / 10) (wq (sW Sx) i % 10))).length)), .ref (a 10)])), (a 10, .inl (gy G 0, 144, .inl gb7)), (a 11, .inr (6, [.int (nI ((sW Sx).length)), .ref (a 12)])), (a 12, .inl (gy G 0, 10, .inl gwx)), (a 13, .inl (gy G 0, 5, .inl (sI Sx 8))), (a 14, .inl (gy G 0, 6, .inl (fun j => nI (sS Sx j))))]) (gPerm_ix [2, 3, 4, 5, 6, 7, 8, 9, 10, 0, 1, 11, 12, 13, 14] rfl rfl) ?_
            refine g_pop E dX2_grantWishes_92 rfl ?_
            obtain ⟨Sg, eSg⟩ : ∃ x, x = gBook Sx (wq (sW Sx) i / 10) (wq (sW Sx) i % 10) (t / 8) (t % 8) := ⟨_, rfl⟩
            have hISg : gI1 Sg := by rw [eSg]; exact (gI1_book hIx hn24 hw8.2 (by omega))
            have hTSg : sN Sg 0 < 1000000000 := by rw [eSg]; exact (gT_8 hTx)
            have hRSg : RB (sB Sg) gb7 := by rw [eSg]; exact hb8
            have hQSg : RW (sW Sg) gwx := by rw [eSg]; exact hQx
            have hig : i < (sW Sg).length := by rw [eSg]; exact hi
            have hlg : (sW Sg).length = (sW Sx).length := by rw [eSg]; rfl
            refine g_ws (ws' := [(a 0, .inr (3, [.int (nI (sN Sg 0)), .int (nI (sN Sg 1)), .ref (a 1), .ref (a 2), .ref (a 3), .ref (a 4), .ref (a 5), .ref (a 6), .ref (a 7), .ref (a 8), .int (sI Sg 9 0), .ref (a 9), .ref (a 11), .ref (a 13), .ref (a 14)])), (a 1, .inl (gy G 0, 8, .inl (sI Sg 0))), (a 2, .inl (gy G 0, 8, .inl (sI Sg 1))), (a 3, .inl (gy G 0, 8, .inl (sI Sg 2))), (a 4, .inl (gy G 0, 8, .inl (sI Sg 3))), (a 5, .inl (gy G 0, 8, .inl (sI Sg 4))), (a 6, .inl (gy G 0, 8, .inl (sI Sg 5))), (a 7, .inl (gy G 0, 10, .inl (sI Sg 6))), (a 8, .inl (gy G 0, 10, .inl (sI Sg 7))), (a 9, .inr (1, [.int (nI ((sB Sg).length)), .ref (a 10)])), (a 10, .inl (gy G 0, 144, .inl gb7)), (a 11, .inr (6, [.int (nI ((sW Sg).length)), .ref (a 12)])), (a 12, .inl (gy G 0, 10, .inl gwx)), (a 13, .inl (gy G 0, 5, .inl (sI Sg 8))), (a 14, .inl (gy G 0, 6, .inl (fun j => nI (sS Sg j))))]) (by rw [eSg]; rfl) ?_
            refine g_aload_n E dX2_grantWishes_93 rfl 4 rfl ?_
            refine g_get E uX2_grantWishes_RX2 0 rfl rfl 12 (by decide) kX2_grantWishes_46 rfl rfl dX2_grantWishes_94 ?_
            refine g_iload_n E dX2_grantWishes_97 rfl 3 rfl ?_
            refine g_callVV (F := [(a 0, .inr (3, [.int (nI (sN Sg 0)), .int (nI (sN Sg 1)), .ref (a 1), .ref (a 2), .ref (a 3), .ref (a 4), .ref (a 5), .ref (a 6), .ref (a 7), .ref (a 8), .int (sI Sg 9 0), .ref (a 9), .ref (a 11), .ref (a 13), .ref (a 14)])), (a 1, .inl (gy G 0, 8, .inl (sI Sg 0))), (a 2, .inl (gy G 0, 8, .inl (sI Sg 1))), (a 3, .inl (gy G 0, 8, .inl (sI Sg 2))), (a 4, .inl (gy G 0, 8, .inl (sI Sg 3))), (a 5, .inl (gy G 0, 8, .inl (sI Sg 4))), (a 6, .inl (gy G 0, 8, .inl (sI Sg 5))), (a 7, .inl (gy G 0, 10, .inl (sI Sg 6))), (a 8, .inl (gy G 0, 10, .inl (sI Sg 7))), (a 9, .inr (1, [.int (nI ((sB Sg).length)), .ref (a 10)])), (a 10, .inl (gy G 0, 144, .inl gb7)), (a 13, .inl (gy G 0, 5, .inl (sI Sg 8))), (a 14, .inl (gy G 0, 6, .inl (fun j => nI (sS Sg j))))]) E (mX6_remove G (a 11) (a 12) (sW Sg) gwx i (gI1_w hISg) hQSg (by omega)) gX2_grantWishes_X6_remove rfl hdX6_remove ⟨Nat.le_of_ble_eq_true rfl, Nat.le_of_ble_eq_true rfl⟩ 6 0 rfl rfl rfl (gPerm_ix [11, 12, 0, 1, 2, 3, 4, 5, 6, 7, 8, 9, 10, 13, 14] rfl rfl) rfl rfl (Nat.le_of_ble_eq_true rfl) dX2_grantWishes_98 ⟨Nat.le_of_ble_eq_true rfl, Nat.le_of_ble_eq_true rfl⟩ (fun gw10 hq11 => ?_)
            refine g_perm (ws1 := [(a 0, .inr (3, [.int (nI (sN Sg 0)), .int (nI (sN Sg 1)), .ref (a 1), .ref (a 2), .ref (a 3), .ref (a 4), .ref (a 5), .ref (a 6), .ref (a 7), .ref (a 8), .int (sI Sg 9 0), .ref (a 9), .ref (a 11), .ref (a 13), .ref (a 14)])), (a 1, .inl (gy G 0, 8, .inl (sI Sg 0))), (a 2, .inl (gy G 0, 8, .inl (sI Sg 1))), (a 3, .inl (gy G 0, 8, .inl (sI Sg 2))), (a 4, .inl (gy G 0, 8, .inl (sI Sg 3))), (a 5, .inl (gy G 0, 8, .inl (sI Sg 4))), (a 6, .inl (gy G 0, 8, .inl (sI Sg 5))), (a 7, .inl (gy G 0, 10, .inl (sI Sg 6))), (a 8, .inl (gy G 0, 10, .inl (sI Sg 7))), (a 9, .inr (1, [.int (nI ((sB Sg).length)), .ref (a 10)])), (a 10, .inl (gy G 0, 144, .inl gb7)), (a 11, .inr (6, [.int (nI (((sW Sg).eraseIdx i).length)), .ref (a 12)])), (a 12, .inl (gy G 0, 10, .inl gw10)), (a 13, .inl (gy G 0, 5, .inl (sI Sg 8))), (a 14, .inl (gy G 0, 6, .inl (fun j => nI (sS Sg j))))]) (gPerm_ix [2, 3, 4, 5, 6, 7, 8, 9, 10, 11, 12, 0, 1, 13, 14] rfl rfl) ?_
            obtain ⟨Sh, eSh⟩ : ∃ x, x = gGive Sx i t := ⟨_, rfl⟩
            have hISh : gI1 Sh := by rw [eSh, gGive, ← eSg]; exact (gI1_eraseW hISg i)
            have hTSh : sN Sh 0 < 1000000000 := by rw [eSh, gGive, ← eSg]; exact hTSg
            have hRSh : RB (sB Sh) gb7 := by rw [eSh, gGive, ← eSg]; exact hRSg
            have hQSh : RW (sW Sh) gw10 := by rw [eSh, gGive, ← eSg]; exact hq11
            have hlh : (sW Sh).length = (sW Sx).length - 1 := by rw [eSh, gGive, ← eSg, ← hlg]; exact gUnw_len hig
            refine g_ws (ws' := [(a 0, .inr (3, [.int (nI (sN Sh 0)), .int (nI (sN Sh 1)), .ref (a 1), .ref (a 2), .ref (a 3), .ref (a 4), .ref (a 5), .ref (a 6), .ref (a 7), .ref (a 8), .int (sI Sh 9 0), .ref (a 9), .ref (a 11), .ref (a 13), .ref (a 14)])), (a 1, .inl (gy G 0, 8, .inl (sI Sh 0))), (a 2, .inl (gy G 0, 8, .inl (sI Sh 1))), (a 3, .inl (gy G 0, 8, .inl (sI Sh 2))), (a 4, .inl (gy G 0, 8, .inl (sI Sh 3))), (a 5, .inl (gy G 0, 8, .inl (sI Sh 4))), (a 6, .inl (gy G 0, 8, .inl (sI Sh 5))), (a 7, .inl (gy G 0, 10, .inl (sI Sh 6))), (a 8, .inl (gy G 0, 10, .inl (sI Sh 7))), (a 9, .inr (1, [.int (nI ((sB Sh).length)), .ref (a 10)])), (a 10, .inl (gy G 0, 144, .inl gb7)), (a 11, .inr (6, [.int (nI ((sW Sh).length)), .ref (a 12)])), (a 12, .inl (gy G 0, 10, .inl gw10)), (a 13, .inl (gy G 0, 5, .inl (sI Sh 8))), (a 14, .inl (gy G 0, 6, .inl (fun j => nI (sS Sh j))))]) (by rw [eSh, gGive, ← eSg]; rfl) ?_
            refine g_iinc (lv' := [(2, .int (nI (lf - 1))), (6, .int (nI t)), (5, .int (nI (wq (sW Sx) i % 10))), (4, .int (nI (wq (sW Sx) i / 10))), (3, .int (nI i)), (0, .ref (a 0)), (1, .int (nI T))]) E dX2_grantWishes_101 6 rfl (g_dec _ (by omega)) (by decide) rfl ?_
            refine g_goto (tgt := 10) E dX2_grantWishes_104 (by decide) ?_
            refine g_lv [5, 6, 0] rfl ?_
            exact ih3  (lf - 1) T Sh _ _ hISh (by rw [eSh]; exact hTx) hRSh hQSh (by omega) (by rw [eSh]; exact (gGr_some hlf ei hE).symm.trans heq) (by omega)
          · exfalso
            exact gNe_m1 (by omega) c6
  refine g_lv [2, 1, 0] rfl ?_
  exact loop1 _ _ 0 S _ _ hI hT8 hR hQ (by omega) rfl (Nat.lt_succ_self _)
set_option maxHeartbeats 4000000 in
set_option maxRecDepth 100000 in
theorem mX2_letDaysPass (G : gG) (a : Nat → Nat) (S : gSt) (gb gw : Nat → Int32) (n : Nat) (hI : gI1 S) (hT : sN S 0 < 1000000000) (hR : RB (sB S) gb) (hQ : RW (sW S) gw) (hTn : sN S 0 + n < 200000000) : CIu G yX2_letDaysPass wsX2_letDaysPass 4 139 [.ref (a 0), .int (nI n)] [(a 0, .inr (3, [.int (nI (sN S 0)), .int (nI (sN S 1)), .ref (a 1), .ref (a 2), .ref (a 3), .ref (a 4), .ref (a 5), .ref (a 6), .ref (a 7), .ref (a 8), .int (sI S 9 0), .ref (a 9), .ref (a 11), .ref (a 13), .ref (a 14)])), (a 1, .inl (gy G 0, 8, .inl (sI S 0))), (a 2, .inl (gy G 0, 8, .inl (sI S 1))), (a 3, .inl (gy G 0, 8, .inl (sI S 2))), (a 4, .inl (gy G 0, 8, .inl (sI S 3))), (a 5, .inl (gy G 0, 8, .inl (sI S 4))), (a 6, .inl (gy G 0, 8, .inl (sI S 5))), (a 7, .inl (gy G 0, 10, .inl (sI S 6))), (a 8, .inl (gy G 0, 10, .inl (sI S 7))), (a 9, .inr (1, [.int (nI ((sB S).length)), .ref (a 10)])), (a 10, .inl (gy G 0, 144, .inl gb)), (a 11, .inr (6, [.int (nI ((sW S).length)), .ref (a 12)])), (a 12, .inl (gy G 0, 10, .inl gw)), (a 13, .inl (gy G 0, 5, .inl (sI S 8))), (a 14, .inl (gy G 0, 6, .inl (fun j => nI (sS S j))))] (sI (gDays n S) 8 0 - sI S 8 0) (fun u : gU => u.1 = gDays n S ∧ RB (sB u.1) u.2.1 ∧ RW (sW u.1) u.2.2) (fun (u : gU) => [(a 0, .inr (3, [.int (nI (sN u.1 0)), .int (nI (sN u.1 1)), .ref (a 1), .ref (a 2), .ref (a 3), .ref (a 4), .ref (a 5), .ref (a 6), .ref (a 7), .ref (a 8), .int (sI u.1 9 0), .ref (a 9), .ref (a 11), .ref (a 13), .ref (a 14)])), (a 1, .inl (gy G 0, 8, .inl (sI u.1 0))), (a 2, .inl (gy G 0, 8, .inl (sI u.1 1))), (a 3, .inl (gy G 0, 8, .inl (sI u.1 2))), (a 4, .inl (gy G 0, 8, .inl (sI u.1 3))), (a 5, .inl (gy G 0, 8, .inl (sI u.1 4))), (a 6, .inl (gy G 0, 8, .inl (sI u.1 5))), (a 7, .inl (gy G 0, 10, .inl (sI u.1 6))), (a 8, .inl (gy G 0, 10, .inl (sI u.1 7))), (a 9, .inr (1, [.int (nI ((sB u.1).length)), .ref (a 10)])), (a 10, .inl (gy G 0, 144, .inl u.2.1)), (a 11, .inr (6, [.int (nI ((sW u.1).length)), .ref (a 12)])), (a 12, .inl (gy G 0, 10, .inl u.2.2)), (a 13, .inl (gy G 0, 5, .inl (sI u.1 8))), (a 14, .inl (gy G 0, 6, .inl (fun j => nI (sS u.1 j))))]) 0 0 := by
  refine g_enterIu (ty := .int) RX2 rfl (by decide) rfl (Nat.le_of_ble_eq_true rfl) ?_
  intro V E RET
  have hX := hI
  obtain ⟨hP8, hn, hw, hW8, hs3, hs4, hs5, hs6, hs7, hs8, hb34⟩ := hX
  have h8 : ∀ j, j < (sW S).length → wq (sW S) j < 80 := fun j hj => (hW8 j hj).1
  refine g_aload_n E dX2_letDaysPass_0 rfl 0 rfl ?_
  refine g_get E uX2_letDaysPass_RX2 0 rfl rfl 13 (by decide) kX2_letDaysPass_50 rfl rfl dX2_letDaysPass_1 ?_
  refine g_iconst (v := 0) E dX2_letDaysPass_4 (by decide) ?_
  refine g_ialdN (e := 0) E 13 rfl (by omega) rfl (v := (sI S 8) 0) rfl dX2_letDaysPass_5 ?_
  refine g_istore_n (lv' := [(2, .int ((sI S 8) 0)), (0, .ref (a 0)), (1, .int (nI n))]) E dX2_letDaysPass_6 rfl (by decide) rfl ?_
  refine g_iconst (v := 0) E dX2_letDaysPass_7 (by decide) ?_
  refine g_istore_n (lv' := [(3, .int 0), (2, .int ((sI S 8) 0)), (0, .ref (a 0)), (1, .int (nI n))]) E dX2_letDaysPass_8 rfl (by decide) rfl ?_
  have loop1 : ∀ (n2 : Nat) (k : Nat) (Sx : gSt) (gbx gwx : Nat → Int32), (k ≤ n) → (gI1 Sx) → (sN Sx 0 + (n - k) < 200000000) → (RB (sB Sx) gbx) → (RW (sW Sx) gwx) → (gDays (n - k) Sx = gDays n S) → n - k < n2 → gW V 5 0 0 [(a 0, .inr (3, [.int (nI (sN Sx 0)), .int (nI (sN Sx 1)), .ref (a 1), .ref (a 2), .ref (a 3), .ref (a 4), .ref (a 5), .ref (a 6), .ref (a 7), .ref (a 8), .int (sI Sx 9 0), .ref (a 9), .ref (a 11), .ref (a 13), .ref (a 14)])), (a 1, .inl (gy G 0, 8, .inl (sI Sx 0))), (a 2, .inl (gy G 0, 8, .inl (sI Sx 1))), (a 3, .inl (gy G 0, 8, .inl (sI Sx 2))), (a 4, .inl (gy G 0, 8, .inl (sI Sx 3))), (a 5, .inl (gy G 0, 8, .inl (sI Sx 4))), (a 6, .inl (gy G 0, 8, .inl (sI Sx 5))), (a 7, .inl (gy G 0, 10, .inl (sI Sx 6))), (a 8, .inl (gy G 0, 10, .inl (sI Sx 7))), (a 9, .inr (1, [.int (nI ((sB Sx).length)), .ref (a 10)])), (a 10, .inl (gy G 0, 144, .inl gbx)), (a 11, .inr (6, [.int (nI ((sW Sx).length)), .ref (a 12)])), (a 12, .inl (gy G 0, 10, .inl gwx)), (a 13, .inl (gy G 0, 5, .inl (sI Sx 8))), (a 14, .inl (gy G 0, 6, .inl (fun j => nI (sS Sx j))))] [(0, .ref (a 0)), (1, .int (nI n)), (2, .int ((sI S 8) 0)), (3, .int (nI k))] 9 [] := by
    intro n2
    induction n2 with
    | zero => intro k Sx gbx gwx hk hIx hTx hRx hQx heq hm4; exact absurd hm4 (Nat.not_lt_zero _)
    | succ n2 ih3 =>
      intro k Sx gbx gwx hk hIx hTx hRx hQx heq hm4
      refine g_iload_n E dX2_letDaysPass_9 rfl 3 rfl ?_
      refine g_iload_n E dX2_letDaysPass_10 rfl 1 rfl ?_
      refine g_icmp_geN (tgt := 69) (a := k) (b := n) E dX2_letDaysPass_11 (by decide) (by omega) (by omega) (fun c5 => ?_) (fun c5 => ?_)
      · skip
        have e9 : Sx = gDays n S := by rw [← heq, show n - k = 0 by omega]; rfl
        refine g_aload_n E dX2_letDaysPass_69 rfl 0 rfl ?_
        refine g_get E uX2_letDaysPass_RX2 0 rfl rfl 13 (by decide) kX2_letDaysPass_50 rfl rfl dX2_letDaysPass_70 ?_
        refine g_iconst (v := 0) E dX2_letDaysPass_73 (by decide) ?_
        refine g_ialdN (e := 0) E 13 rfl (by omega) rfl (v := (sI Sx 8) 0) rfl dX2_letDaysPass_74 ?_
        refine g_iload_n E dX2_letDaysPass_75 rfl 2 rfl ?_
        refine g_isub E dX2_letDaysPass_76 ?_
        exact RET _ _ _ (Sx, gbx, gwx) (⟨by rw [e9], e9, hRx, hQx⟩) rfl dX2_letDaysPass_77
      · skip
        have hkn : k < n := by omega
        refine g_aload_n E dX2_letDaysPass_14 rfl 0 rfl ?_
        refine g_callVV (F := []) E (mX2_grantWishes G a Sx gbx gwx  hIx (gT_of hTx) hRx hQx (by omega)) gX2_letDaysPass_X2_grantWishes rfl hdX2_grantWishes ⟨Nat.le_of_ble_eq_true rfl, Nat.le_of_ble_eq_true rfl⟩ 3 0 rfl rfl rfl (gPerm_ix [0, 1, 2, 3, 4, 5, 6, 7, 8, 9, 10, 11, 12, 13, 14] rfl rfl) rfl rfl (Nat.le_of_ble_eq_true rfl) dX2_letDaysPass_15 ⟨Nat.le_of_ble_eq_true rfl, Nat.le_of_ble_eq_true rfl⟩ (fun u6 h6 => ?_)
        obtain ⟨S6, gb6, gw6⟩ := u6
        obtain ⟨hS6, hR6, hQ6⟩ := h6
        have e6 : S6 = gGrant Sx := hS6
        have hI6 : gI1 S6 := by rw [e6]; exact gI1_grant hIx
        have hT6 : sN S6 0 < 1000000000 := by rw [e6]; exact gT_grant (gT_of hTx)
        refine g_perm (ws1 := [(a 0, .inr (3, [.int (nI (sN S6 0)), .int (nI (sN S6 1)), .ref (a 1), .ref (a 2), .ref (a 3), .ref (a 4), .ref (a 5), .ref (a 6), .ref (a 7), .ref (a 8), .int (sI S6 9 0), .ref (a 9), .ref (a 11), .ref (a 13), .ref (a 14)])), (a 1, .inl (gy G 0, 8, .inl (sI S6 0))), (a 2, .inl (gy G 0, 8, .inl (sI S6 1))), (a 3, .inl (gy G 0, 8, .inl (sI S6 2))), (a 4, .inl (gy G 0, 8, .inl (sI S6 3))), (a 5, .inl (gy G 0, 8, .inl (sI S6 4))), (a 6, .inl (gy G 0, 8, .inl (sI S6 5))), (a 7, .inl (gy G 0, 10, .inl (sI S6 6))), (a 8, .inl (gy G 0, 10, .inl (sI S6 7))), (a 9, .inr (1, [.int (nI ((sB S6).length)), .ref (a 10)])), (a 10, .inl (gy G 0, 144, .inl gb6)), (a 11, .inr (6, [.int (nI ((sW S6).length)), .ref (a 12)])), (a 12, .inl (gy G 0, 10, .inl gw6)), (a 13, .inl (gy G 0, 5, .inl (sI S6 8))), (a 14, .inl (gy G 0, 6, .inl (fun j => nI (sS S6 j))))]) (gPerm_ix [0, 1, 2, 3, 4, 5, 6, 7, 8, 9, 10, 11, 12, 13, 14] rfl rfl) ?_
        refine g_aload_n E dX2_letDaysPass_18 rfl 0 rfl ?_
        refine g_get E uX2_letDaysPass_RX2 0 rfl rfl 11 (by decide) kX2_letDaysPass_39 rfl rfl dX2_letDaysPass_19 ?_
        refine g_get E uX2_letDaysPass_RX0 9 rfl rfl 0 (by decide) kX2_letDaysPass_94 rfl rfl dX2_letDaysPass_22 ?_
        refine g_istore (lv' := [(4, .int (nI ((sB S6).length))), (0, .ref (a 0)), (1, .int (nI n)), (2, .int ((sI S 8) 0)), (3, .int (nI k))]) E dX2_letDaysPass_25 (by decide) rfl ?_
        have cut8 : ∀ (Sz : gSt) (gbz gwz : Nat → Int32), (gI1 Sz) → (sN Sz 0 + (n - k) < 200000000) → (RB (sB Sz) gbz) → (RW (sW Sz) gwz) → (Sz = gDayT Sx) → gW V 5 0 0 [(a 0, .inr (3, [.int (nI (sN Sz 0)), .int (nI (sN Sz 1)), .ref (a 1), .ref (a 2), .ref (a 3), .ref (a 4), .ref (a 5), .ref (a 6), .ref (a 7), .ref (a 8), .int (sI Sz 9 0), .ref (a 9), .ref (a 11), .ref (a 13), .ref (a 14)])), (a 1, .inl (gy G 0, 8, .inl (sI Sz 0))), (a 2, .inl (gy G 0, 8, .inl (sI Sz 1))), (a 3, .inl (gy G 0, 8, .inl (sI Sz 2))), (a 4, .inl (gy G 0, 8, .inl (sI Sz 3))), (a 5, .inl (gy G 0, 8, .inl (sI Sz 4))), (a 6, .inl (gy G 0, 8, .inl (sI Sz 5))), (a 7, .inl (gy G 0, 10, .inl (sI Sz 6))), (a 8, .inl (gy G 0, 10, .inl (sI Sz 7))), (a 9, .inr (1, [.int (nI ((sB Sz).length)), .ref (a 10)])), (a 10, .inl (gy G 0, 144, .inl gbz)), (a 11, .inr (6, [.int (nI ((sW Sz).length)), .ref (a 12)])), (a 12, .inl (gy G 0, 10, .inl gwz)), (a 13, .inl (gy G 0, 5, .inl (sI Sz 8))), (a 14, .inl (gy G 0, 6, .inl (fun j => nI (sS Sz j))))] [(0, .ref (a 0)), (1, .int (nI n)), (2, .int ((sI S 8) 0)), (3, .int (nI k))] 59 [] := by
          intro Sz gbz gwz hIz hTz hRz hQz eqz
          refine g_aload_n E dX2_letDaysPass_59 rfl 0 rfl ?_
          refine g_callVV (F := []) E (mX2_beginNextDay G a Sz gbz gwz  hIz (gT_of hTz) hRz hQz ) gX2_letDaysPass_X2_beginNextDay rfl hdX2_beginNextDay ⟨Nat.le_of_ble_eq_true rfl, Nat.le_of_ble_eq_true rfl⟩ 3 0 rfl rfl rfl (gPerm_ix [0, 1, 2, 3, 4, 5, 6, 7, 8, 9, 10, 11, 12, 13, 14] rfl rfl) rfl rfl (Nat.le_of_ble_eq_true rfl) dX2_letDaysPass_60 ⟨Nat.le_of_ble_eq_true rfl, Nat.le_of_ble_eq_true rfl⟩ (fun u9 h9 => ?_)
          obtain ⟨S9, gb9, gw9⟩ := u9
          obtain ⟨hS9, hR9, hQ9⟩ := h9
          have e9 : S9 = gNext Sz := hS9
          have hI9 : gI1 S9 := by rw [e9]; exact gI1_next hIz
          have hT9 : sN S9 0 < 1000000000 := by rw [e9]; exact (by rw [gNext_0]; omega)
          refine g_perm (ws1 := [(a 0, .inr (3, [.int (nI (sN S9 0)), .int (nI (sN S9 1)), .ref (a 1), .ref (a 2), .ref (a 3), .ref (a 4), .ref (a 5), .ref (a 6), .ref (a 7), .ref (a 8), .int (sI S9 9 0), .ref (a 9), .ref (a 11), .ref (a 13), .ref (a 14)])), (a 1, .inl (gy G 0, 8, .inl (sI S9 0))), (a 2, .inl (gy G 0, 8, .inl (sI S9 1))), (a 3, .inl (gy G 0, 8, .inl (sI S9 2))), (a 4, .inl (gy G 0, 8, .inl (sI S9 3))), (a 5, .inl (gy G 0, 8, .inl (sI S9 4))), (a 6, .inl (gy G 0, 8, .inl (sI S9 5))), (a 7, .inl (gy G 0, 10, .inl (sI S9 6))), (a 8, .inl (gy G 0, 10, .inl (sI S9 7))), (a 9, .inr (1, [.int (nI ((sB S9).length)), .ref (a 10)])), (a 10, .inl (gy G 0, 144, .inl gb9)), (a 11, .inr (6, [.int (nI ((sW S9).length)), .ref (a 12)])), (a 12, .inl (gy G 0, 10, .inl gw9)), (a 13, .inl (gy G 0, 5, .inl (sI S9 8))), (a 14, .inl (gy G 0, 6, .inl (fun j => nI (sS S9 j))))]) (gPerm_ix [0, 1, 2, 3, 4, 5, 6, 7, 8, 9, 10, 11, 12, 13, 14] rfl rfl) ?_
          refine g_iinc (lv' := [(3, .int (nI (k + 1))), (0, .ref (a 0)), (1, .int (nI n)), (2, .int ((sI S 8) 0))]) E dX2_letDaysPass_63 3 rfl (g_inc _ 1 (by decide)) (by decide) rfl ?_
          refine g_goto (tgt := 9) E dX2_letDaysPass_66 (by decide) ?_
          refine g_lv [1, 2, 3, 0] rfl ?_
          exact ih3  (k + 1) S9 _ _ (by omega) hI9 (by rw [e9, gNext_0]; omega) hR9 hQ9 (by rw [e9, eqz]; exact (gDays_st hkn).symm.trans heq) (by omega)
        have loop11 : ∀ (n12 : Nat) (lf : Nat) (Sy : gSt) (gby gwy : Nat → Int32), (gI1 Sy) → (sN Sy 0 + (n - k) < 200000000) → (RB (sB Sy) gby) → (RW (sW Sy) gwy) → (lf = (sB Sy).length) → (gDayL lf Sy = gDayT Sx) → lf < n12 → gW V 5 0 0 [(a 0, .inr (3, [.int (nI (sN Sy 0)), .int (nI (sN Sy 1)), .ref (a 1), .ref (a 2), .ref (a 3), .ref (a 4), .ref (a 5), .ref (a 6), .ref (a 7), .ref (a 8), .int (sI Sy 9 0), .ref (a 9), .ref (a 11), .ref (a 13), .ref (a 14)])), (a 1, .inl (gy G 0, 8, .inl (sI Sy 0))), (a 2, .inl (gy G 0, 8, .inl (sI Sy 1))), (a 3, .inl (gy G 0, 8, .inl (sI Sy 2))), (a 4, .inl (gy G 0, 8, .inl (sI Sy 3))), (a 5, .inl (gy G 0, 8, .inl (sI Sy 4))), (a 6, .inl (gy G 0, 8, .inl (sI Sy 5))), (a 7, .inl (gy G 0, 10, .inl (sI Sy 6))), (a 8, .inl (gy G 0, 10, .inl (sI Sy 7))), (a 9, .inr (1, [.int (nI ((sB Sy).length)), .ref (a 10)])), (a 10, .inl (gy G 0, 144, .inl gby)), (a 11, .inr (6, [.int (nI ((sW Sy).length)), .ref (a 12)])), (a 12, .inl (gy G 0, 10, .inl gwy)), (a 13, .inl (gy G 0, 5, .inl (sI Sy 8))), (a 14, .inl (gy G 0, 6, .inl (fun j => nI (sS Sy j))))] [(0, .ref (a 0)), (1, .int (nI n)), (2, .int ((sI S 8) 0)), (3, .int (nI k)), (4, .int (nI lf))] 27 [] := by
          intro n12
          induction n12 with
          | zero => intro lf Sy gby gwy hIy hTy hRy hQy hly heqy hm14; exact absurd hm14 (Nat.not_lt_zero _)
          | succ n12 ih13 =>
            intro lf Sy gby gwy hIy hTy hRy hQy hly heqy hm14
            have hny := gI1_n hIy
            refine g_iload E dX2_letDaysPass_27 4 rfl ?_
            refine g_if_leN (tgt := 59) (a := lf) E dX2_letDaysPass_29 (by decide) (by omega) (fun c15 => ?_) (fun c15 => ?_)
            · skip
              have e8 : Sy = gDayT Sx := by rw [← heqy, show lf = 0 by omega]; rfl
              refine g_lv [0, 1, 2, 3] rfl ?_
              exact cut8 Sy gby gwy hIy hTy hRy hQy e8
            · skip
              have hl0 : 0 < lf := by omega
              have hl0y : 0 < (sB Sy).length := by omega
              have hb9 := (hRy 0 hl0y 0 (by decide)).2
              refine g_aload_n E dX2_letDaysPass_32 rfl 0 rfl ?_
              refine g_get E uX2_letDaysPass_RX2 0 rfl rfl 11 (by decide) kX2_letDaysPass_39 rfl rfl dX2_letDaysPass_33 ?_
              refine g_iconst (v := 0) E dX2_letDaysPass_36 (by decide) ?_
              refine g_iconst (v := 0) E dX2_letDaysPass_37 (by decide) ?_
              refine g_callVIe (F := [(a 0, .inr (3, [.int (nI (sN Sy 0)), .int (nI (sN Sy 1)), .ref (a 1), .ref (a 2), .ref (a 3), .ref (a 4), .ref (a 5), .ref (a 6), .ref (a 7), .ref (a 8), .int (sI Sy 9 0), .ref (a 9), .ref (a 11), .ref (a 13), .ref (a 14)])), (a 1, .inl (gy G 0, 8, .inl (sI Sy 0))), (a 2, .inl (gy G 0, 8, .inl (sI Sy 1))), (a 3, .inl (gy G 0, 8, .inl (sI Sy 2))), (a 4, .inl (gy G 0, 8, .inl (sI Sy 3))), (a 5, .inl (gy G 0, 8, .inl (sI Sy 4))), (a 6, .inl (gy G 0, 8, .inl (sI Sy 5))), (a 7, .inl (gy G 0, 10, .inl (sI Sy 6))), (a 8, .inl (gy G 0, 10, .inl (sI Sy 7))), (a 11, .inr (6, [.int (nI ((sW Sy).length)), .ref (a 12)])), (a 12, .inl (gy G 0, 10, .inl gwy)), (a 13, .inl (gy G 0, 5, .inl (sI Sy 8))), (a 14, .inl (gy G 0, 6, .inl (fun j => nI (sS Sy j))))]) (ws2 := [(a 0, .inr (3, [.int (nI (sN Sy 0)), .int (nI (sN Sy 1)), .ref (a 1), .ref (a 2), .ref (a 3), .ref (a 4), .ref (a 5), .ref (a 6), .ref (a 7), .ref (a 8), .int (sI Sy 9 0), .ref (a 9), .ref (a 11), .ref (a 13), .ref (a 14)])), (a 1, .inl (gy G 0, 8, .inl (sI Sy 0))), (a 2, .inl (gy G 0, 8, .inl (sI Sy 1))), (a 3, .inl (gy G 0, 8, .inl (sI Sy 2))), (a 4, .inl (gy G 0, 8, .inl (sI Sy 3))), (a 5, .inl (gy G 0, 8, .inl (sI Sy 4))), (a 6, .inl (gy G 0, 8, .inl (sI Sy 5))), (a 7, .inl (gy G 0, 10, .inl (sI Sy 6))), (a 8, .inl (gy G 0, 10, .inl (sI Sy 7))), (a 9, .inr (1, [.int (nI ((sB Sy).length)), .ref (a 10)])), (a 10, .inl (gy G 0, 144, .inl gby)), (a 11, .inr (6, [.int (nI ((sW Sy).length)), .ref (a 12)])), (a 12, .inl (gy G 0, 10, .inl gwy)), (a 13, .inl (gy G 0, 5, .inl (sI Sy 8))), (a 14, .inl (gy G 0, 6, .inl (fun j => nI (sS Sy j))))]) E (mX0_at G (a 9) (a 10) (sB Sy) gby 0 0 (gI1_n hIy) hRy (by omega) (by omega)) gX2_letDaysPass_X0_at rfl hdX0_at ⟨Nat.le_of_ble_eq_true rfl, Nat.le_of_ble_eq_true rfl⟩ 1 0 rfl rfl rfl (gPerm_ix [9, 10, 0, 1, 2, 3, 4, 5, 6, 7, 8, 11, 12, 13, 14] rfl rfl) rfl rfl (Nat.le_of_ble_eq_true rfl) dX2_letDaysPass_38 ⟨Nat.le_of_ble_eq_true rfl, Nat.le_of_ble_eq_true rfl⟩ (gPerm_ix [2, 3, 4, 5, 6, 7, 8, 9, 10, 0, 1, 11, 12, 13, 14] rfl rfl) ?_
              refine g_aload_n E dX2_letDaysPass_41 rfl 0 rfl ?_
              refine g_get E uX2_letDaysPass_RX2 0 rfl rfl 0 (by decide) kX2_letDaysPass_64 rfl rfl dX2_letDaysPass_42 ?_
              refine g_icmp_neN (tgt := 59) (a := bk (sB Sy) 0 0) (b := sN Sy 0) E dX2_letDaysPass_45 (by decide) (by omega) (by omega) (fun c16 => ?_) (fun c16 => ?_)
              · skip
                have e8 : Sy = gDayT Sx := by rw [← heqy]; exact (gDayL_no hl0 hly c16).symm
                refine g_lv [0, 1, 2, 3] rfl ?_
                exact cut8 Sy gby gwy hIy hTy hRy hQy e8
              · skip
                have hdd := c16
                refine g_aload_n E dX2_letDaysPass_48 rfl 0 rfl ?_
                refine g_callVIu (F := []) E (mX2_lookAtFirst G a Sy gby gwy  hIy (gT_of hTy) hRy hQy (by omega)) gX2_letDaysPass_X2_lookAtFirst rfl hdX2_lookAtFirst ⟨Nat.le_of_ble_eq_true rfl, Nat.le_of_ble_eq_true rfl⟩ 3 0 rfl rfl rfl (gPerm_ix [0, 1, 2, 3, 4, 5, 6, 7, 8, 9, 10, 11, 12, 13, 14] rfl rfl) rfl rfl (Nat.le_of_ble_eq_true rfl) dX2_letDaysPass_49 ⟨Nat.le_of_ble_eq_true rfl, Nat.le_of_ble_eq_true rfl⟩ (fun u17 h17 => ?_)
                obtain ⟨S17, gb17, gw17⟩ := u17
                obtain ⟨hS17, hR17, hQ17⟩ := h17
                have e17 : S17 = (gLook Sy).2 := hS17
                have hI17 : gI1 S17 := by rw [e17]; exact gI1_look hIy
                have hT17 : sN S17 0 < 1000000000 := by rw [e17]; exact gT_look (gT_of hTy)
                refine g_perm (ws1 := [(a 0, .inr (3, [.int (nI (sN S17 0)), .int (nI (sN S17 1)), .ref (a 1), .ref (a 2), .ref (a 3), .ref (a 4), .ref (a 5), .ref (a 6), .ref (a 7), .ref (a 8), .int (sI S17 9 0), .ref (a 9), .ref (a 11), .ref (a 13), .ref (a 14)])), (a 1, .inl (gy G 0, 8, .inl (sI S17 0))), (a 2, .inl (gy G 0, 8, .inl (sI S17 1))), (a 3, .inl (gy G 0, 8, .inl (sI S17 2))), (a 4, .inl (gy G 0, 8, .inl (sI S17 3))), (a 5, .inl (gy G 0, 8, .inl (sI S17 4))), (a 6, .inl (gy G 0, 8, .inl (sI S17 5))), (a 7, .inl (gy G 0, 10, .inl (sI S17 6))), (a 8, .inl (gy G 0, 10, .inl (sI S17 7))), (a 9, .inr (1, [.int (nI ((sB S17).length)), .ref (a 10)])), (a 10, .inl (gy G 0, 144, .inl gb17)), (a 11, .inr (6, [.int (nI ((sW S17).length)), .ref (a 12)])), (a 12, .inl (gy G 0, 10, .inl gw17)), (a 13, .inl (gy G 0, 5, .inl (sI S17 8))), (a 14, .inl (gy G 0, 6, .inl (fun j => nI (sS S17 j))))]) (gPerm_ix [0, 1, 2, 3, 4, 5, 6, 7, 8, 9, 10, 11, 12, 13, 14] rfl rfl) ?_
                refine g_pop E dX2_letDaysPass_52 rfl ?_
                refine g_iinc (lv' := [(4, .int (nI (lf - 1))), (0, .ref (a 0)), (1, .int (nI n)), (2, .int ((sI S 8) 0)), (3, .int (nI k))]) E dX2_letDaysPass_53 4 rfl (g_dec _ (by omega)) (by decide) rfl ?_
                refine g_goto (tgt := 27) E dX2_letDaysPass_56 (by decide) ?_
                refine g_lv [1, 2, 3, 4, 0] rfl ?_
                exact ih13  (lf - 1) S17 _ _ hI17 (by rw [e17, gLook_0]; exact hTy) hR17 hQ17 (by rw [e17, gLook_len hl0, hly]) (by rw [e17]; exact (gDayL_st hl0 hly hdd).symm.trans heqy) (by omega)
        refine g_lv [1, 2, 3, 4, 0] rfl ?_
        exact loop11 _ _ S6 _ _ hI6 (by rw [e6, gGrant_0]; exact hTx) hR6 hQ6 rfl (by rw [e6]; rfl) (Nat.lt_succ_self _)
  refine g_lv [2, 3, 1, 0] rfl ?_
  exact loop1 _ 0 S _ _ (Nat.zero_le _) hI (by omega) hR hQ rfl (Nat.lt_succ_self _)
