set_option maxHeartbeats 4000000 in
set_option maxRecDepth 100000 in
theorem mX8_remember (G : gG) (m : Nat → Nat) (q : Nat → Int32) (c : Nat) (S : gSt) (H : Nat → gSt) (f dy : Nat → Int32) (hc14 : c ≤ 14) (hHo : gHok 50000 c H) (hI : gI1 S) (hRR : RR S f) (hD : gDry c H dy) : CV G yX8_remember wsX8_remember 1 25 [.ref (m 0)] [(m 0, .inr (8, [.int (q 0), .ref (m 1), .int (q 1), .int (q 2), .int (q 3), .int (q 4), .ref (m 2), .ref (m 3), .ref (m 4), .ref (m 5), .int (nI c), .ref (m 6), .ref (m 7), .ref (m 8), .int (q 6), .int (q 7), .int (q 8)])), (m 3, .inl (gy G 0, 271, .inl f)), (m 5, .inl (gy G 0, 3794, .inl dy))] (fun u : Nat → Int32 => gDry (gHc c) (gHh c H S) u) (fun (u : Nat → Int32) => [(m 0, .inr (8, [.int (q 0), .ref (m 1), .int (q 1), .int (q 2), .int (q 3), .int (q 4), .ref (m 2), .ref (m 3), .ref (m 4), .ref (m 5), .int (nI (gHc c)), .ref (m 6), .ref (m 7), .ref (m 8), .int (q 6), .int (q 7), .int (q 8)])), (m 3, .inl (gy G 0, 271, .inl f)), (m 5, .inl (gy G 0, 3794, .inl u))]) 0 0 := by
  refine g_enterV RX8 rfl (by decide) rfl (Nat.le_of_ble_eq_true rfl) ?_
  intro V E RET
  refine g_aload_n E dX8_remember_0 rfl 0 rfl ?_
  refine g_get E uX8_remember_RX8 0 rfl rfl 10 (by decide) kX8_remember_45 rfl rfl dX8_remember_1 ?_
  refine g_bipush (v := 14) E dX8_remember_4 (by decide) ?_
  refine g_icmp_neN (tgt := 37) (a := c) (b := 14) E dX8_remember_6 (by decide) (by omega) (by omega) (fun c1 => ?_) (fun c1 => ?_)
  · skip
    refine g_aload_n E dX8_remember_37 rfl 0 rfl ?_
    refine g_get E uX8_remember_RX8 0 rfl rfl 7 (by decide) kX8_remember_16 rfl rfl dX8_remember_38 ?_
    refine g_iconst (v := 0) E dX8_remember_41 (by decide) ?_
    refine g_aload_n E dX8_remember_42 rfl 0 rfl ?_
    refine g_get E uX8_remember_RX8 0 rfl rfl 9 (by decide) kX8_remember_22 rfl rfl dX8_remember_43 ?_
    refine g_sipush (v := 271) E dX8_remember_46 (by decide) ?_
    refine g_aload_n E dX8_remember_49 rfl 0 rfl ?_
    refine g_get E uX8_remember_RX8 0 rfl rfl 10 (by decide) kX8_remember_45 rfl rfl dX8_remember_50 ?_
    refine g_imulN (a := 271) (b := c) E dX8_remember_53 ?_
    refine g_sipush (v := 271) E dX8_remember_54 (by decide) ?_
    refine g_callSVe (F := [(m 0, .inr (8, [.int (q 0), .ref (m 1), .int (q 1), .int (q 2), .int (q 3), .int (q 4), .ref (m 2), .ref (m 3), .ref (m 4), .ref (m 5), .int (nI c), .ref (m 6), .ref (m 7), .ref (m 8), .int (q 6), .int (q 7), .int (q 8)]))]) (ws2 := [(m 0, .inr (8, [.int (q 0), .ref (m 1), .int (q 1), .int (q 2), .int (q 3), .int (q 4), .ref (m 2), .ref (m 3), .ref (m 4), .ref (m 5), .int (nI c), .ref (m 6), .ref (m 7), .ref (m 8), .int (q 6), .int (q 7), .int (q 8)])), (m 3, .inl (gy G 0, 271, .inl f)), (m 5, .inl (gy G 0, 3794, .inl (va_cpy f dy 0 (271 * c) 271)))]) E (mX8_copyC G (m 3) (m 5) f dy 0 (271 * c) 271 (by omega) (by omega)) gX8_remember_X8_copy rfl hnX8_copy ⟨Nat.le_of_ble_eq_true rfl, Nat.le_of_ble_eq_true rfl⟩ (gPerm_ix [1, 2, 0] rfl rfl) rfl rfl (Nat.le_of_ble_eq_true rfl) dX8_remember_57 ⟨Nat.le_of_ble_eq_true rfl, Nat.le_of_ble_eq_true rfl⟩ (gPerm_ix [2, 0, 1] rfl rfl) ?_
    refine g_aload_n E dX8_remember_60 rfl 0 rfl ?_
    refine g_dup E dX8_remember_61 rfl ?_
    refine g_get E uX8_remember_RX8 0 rfl rfl 10 (by decide) kX8_remember_45 rfl rfl dX8_remember_62 ?_
    refine g_iconst (v := 1) E dX8_remember_65 (by decide) ?_
    refine g_iaddN (a := c) (b := 1) E dX8_remember_66 ?_
    refine g_put (ws' := [(m 0, .inr (8, [.int (q 0), .ref (m 1), .int (q 1), .int (q 2), .int (q 3), .int (q 4), .ref (m 2), .ref (m 3), .ref (m 4), .ref (m 5), .int (nI (c + 1)), .ref (m 6), .ref (m 7), .ref (m 8), .int (q 6), .int (q 7), .int (q 8)])), (m 3, .inl (gy G 0, 271, .inl f)), (m 5, .inl (gy G 0, 3794, .inl (va_cpy f dy 0 (271 * c) 271)))]) E uX8_remember_RX8 tyX8 tyX8_ok nmX8 0 rfl rfl 10 (by decide) kX8_remember_45 rfl rfl rfl rfl (Nat.le_of_ble_eq_true rfl) rfl dX8_remember_67 ?_
    refine g_ws (ws' := [(m 0, .inr (8, [.int (q 0), .ref (m 1), .int (q 1), .int (q 2), .int (q 3), .int (q 4), .ref (m 2), .ref (m 3), .ref (m 4), .ref (m 5), .int (nI (gHc c)), .ref (m 6), .ref (m 7), .ref (m 8), .int (q 6), .int (q 7), .int (q 8)])), (m 3, .inl (gy G 0, 271, .inl f)), (m 5, .inl (gy G 0, 3794, .inl (va_cpy f dy 0 (271 * c) 271)))]) (by rw [show c + 1 = gHc c by unfold gHc; split <;> omega]) ?_
    exact RET _ _ _ (gRem_a hc14 c1 hD hHo hI hRR) dX8_remember_70
  · skip
    refine g_aload_n E dX8_remember_9 rfl 0 rfl ?_
    refine g_get E uX8_remember_RX8 0 rfl rfl 9 (by decide) kX8_remember_22 rfl rfl dX8_remember_10 ?_
    refine g_sipush (v := 271) E dX8_remember_13 (by decide) ?_
    refine g_aload_n E dX8_remember_16 rfl 0 rfl ?_
    refine g_get E uX8_remember_RX8 0 rfl rfl 9 (by decide) kX8_remember_22 rfl rfl dX8_remember_17 ?_
    refine g_iconst (v := 0) E dX8_remember_20 (by decide) ?_
    refine g_sipush (v := 3523) E dX8_remember_21 (by decide) ?_
    refine g_callSVe (F := [(m 0, .inr (8, [.int (q 0), .ref (m 1), .int (q 1), .int (q 2), .int (q 3), .int (q 4), .ref (m 2), .ref (m 3), .ref (m 4), .ref (m 5), .int (nI c), .ref (m 6), .ref (m 7), .ref (m 8), .int (q 6), .int (q 7), .int (q 8)])), (m 3, .inl (gy G 0, 271, .inl f))]) (ws2 := [(m 0, .inr (8, [.int (q 0), .ref (m 1), .int (q 1), .int (q 2), .int (q 3), .int (q 4), .ref (m 2), .ref (m 3), .ref (m 4), .ref (m 5), .int (nI c), .ref (m 6), .ref (m 7), .ref (m 8), .int (q 6), .int (q 7), .int (q 8)])), (m 3, .inl (gy G 0, 271, .inl f)), (m 5, .inl (gy G 0, 3794, .inl (va_cpy dy dy 271 0 3523)))]) E (mX8_copyD G (m 5) dy 271 0 3523 (by omega) (by omega) (by omega)) gX8_remember_X8_copy rfl hnX8_copy ⟨Nat.le_of_ble_eq_true rfl, Nat.le_of_ble_eq_true rfl⟩ (gPerm_ix [2, 0, 1] rfl rfl) rfl rfl (Nat.le_of_ble_eq_true rfl) dX8_remember_24 ⟨Nat.le_of_ble_eq_true rfl, Nat.le_of_ble_eq_true rfl⟩ (gPerm_ix [1, 2, 0] rfl rfl) ?_
    refine g_aload_n E dX8_remember_27 rfl 0 rfl ?_
    refine g_dup E dX8_remember_28 rfl ?_
    refine g_get E uX8_remember_RX8 0 rfl rfl 10 (by decide) kX8_remember_45 rfl rfl dX8_remember_29 ?_
    refine g_iconst (v := 1) E dX8_remember_32 (by decide) ?_
    refine g_isubN (a := c) (b := 1) E dX8_remember_33 (by omega) ?_
    refine g_put (ws' := [(m 0, .inr (8, [.int (q 0), .ref (m 1), .int (q 1), .int (q 2), .int (q 3), .int (q 4), .ref (m 2), .ref (m 3), .ref (m 4), .ref (m 5), .int (nI (c - 1)), .ref (m 6), .ref (m 7), .ref (m 8), .int (q 6), .int (q 7), .int (q 8)])), (m 3, .inl (gy G 0, 271, .inl f)), (m 5, .inl (gy G 0, 3794, .inl (va_cpy dy dy 271 0 3523)))]) E uX8_remember_RX8 tyX8 tyX8_ok nmX8 0 rfl rfl 10 (by decide) kX8_remember_45 rfl rfl rfl rfl (Nat.le_of_ble_eq_true rfl) rfl dX8_remember_34 ?_
    refine g_aload_n E dX8_remember_37 rfl 0 rfl ?_
    refine g_get E uX8_remember_RX8 0 rfl rfl 7 (by decide) kX8_remember_16 rfl rfl dX8_remember_38 ?_
    refine g_iconst (v := 0) E dX8_remember_41 (by decide) ?_
    refine g_aload_n E dX8_remember_42 rfl 0 rfl ?_
    refine g_get E uX8_remember_RX8 0 rfl rfl 9 (by decide) kX8_remember_22 rfl rfl dX8_remember_43 ?_
    refine g_sipush (v := 271) E dX8_remember_46 (by decide) ?_
    refine g_aload_n E dX8_remember_49 rfl 0 rfl ?_
    refine g_get E uX8_remember_RX8 0 rfl rfl 10 (by decide) kX8_remember_45 rfl rfl dX8_remember_50 ?_
    refine g_imulN (a := 271) (b := c - 1) E dX8_remember_53 ?_
    refine g_sipush (v := 271) E dX8_remember_54 (by decide) ?_
    refine g_callSVe (F := [(m 0, .inr (8, [.int (q 0), .ref (m 1), .int (q 1), .int (q 2), .int (q 3), .int (q 4), .ref (m 2), .ref (m 3), .ref (m 4), .ref (m 5), .int (nI (c - 1)), .ref (m 6), .ref (m 7), .ref (m 8), .int (q 6), .int (q 7), .int (q 8)]))]) (ws2 := [(m 0, .inr (8, [.int (q 0), .ref (m 1), .int (q 1), .int (q 2), .int (q 3), .int (q 4), .ref (m 2), .ref (m 3), .ref (m 4), .ref (m 5), .int (nI (c - 1)), .ref (m 6), .ref (m 7), .ref (m 8), .int (q 6), .int (q 7), .int (q 8)])), (m 3, .inl (gy G 0, 271, .inl f)), (m 5, .inl (gy G 0, 3794, .inl (va_cpy f (va_cpy dy dy 271 0 3523) 0 (271 * (c - 1)) 271)))]) E (mX8_copyC G (m 3) (m 5) f (va_cpy dy dy 271 0 3523) 0 (271 * (c - 1)) 271 (by omega) (by omega)) gX8_remember_X8_copy rfl hnX8_copy ⟨Nat.le_of_ble_eq_true rfl, Nat.le_of_ble_eq_true rfl⟩ (gPerm_ix [1, 2, 0] rfl rfl) rfl rfl (Nat.le_of_ble_eq_true rfl) dX8_remember_57 ⟨Nat.le_of_ble_eq_true rfl, Nat.le_of_ble_eq_true rfl⟩ (gPerm_ix [2, 0, 1] rfl rfl) ?_
    refine g_aload_n E dX8_remember_60 rfl 0 rfl ?_
    refine g_dup E dX8_remember_61 rfl ?_
    refine g_get E uX8_remember_RX8 0 rfl rfl 10 (by decide) kX8_remember_45 rfl rfl dX8_remember_62 ?_
    refine g_iconst (v := 1) E dX8_remember_65 (by decide) ?_
    refine g_iaddN (a := c - 1) (b := 1) E dX8_remember_66 ?_
    refine g_put (ws' := [(m 0, .inr (8, [.int (q 0), .ref (m 1), .int (q 1), .int (q 2), .int (q 3), .int (q 4), .ref (m 2), .ref (m 3), .ref (m 4), .ref (m 5), .int (nI (c - 1 + 1)), .ref (m 6), .ref (m 7), .ref (m 8), .int (q 6), .int (q 7), .int (q 8)])), (m 3, .inl (gy G 0, 271, .inl f)), (m 5, .inl (gy G 0, 3794, .inl (va_cpy f (va_cpy dy dy 271 0 3523) 0 (271 * (c - 1)) 271)))]) E uX8_remember_RX8 tyX8 tyX8_ok nmX8 0 rfl rfl 10 (by decide) kX8_remember_45 rfl rfl rfl rfl (Nat.le_of_ble_eq_true rfl) rfl dX8_remember_67 ?_
    refine g_ws (ws' := [(m 0, .inr (8, [.int (q 0), .ref (m 1), .int (q 1), .int (q 2), .int (q 3), .int (q 4), .ref (m 2), .ref (m 3), .ref (m 4), .ref (m 5), .int (nI (gHc c)), .ref (m 6), .ref (m 7), .ref (m 8), .int (q 6), .int (q 7), .int (q 8)])), (m 3, .inl (gy G 0, 271, .inl f)), (m 5, .inl (gy G 0, 3794, .inl (va_cpy f (va_cpy dy dy 271 0 3523) 0 (271 * (c - 1)) 271)))]) (by rw [show c - 1 + 1 = gHc c by unfold gHc; split <;> omega]) ?_
    exact RET _ _ _ (gRem_b c1 hD hHo hI hRR) dX8_remember_70

set_option maxHeartbeats 4000000 in
set_option maxRecDepth 100000 in
theorem mX8_addPrisoner (G : gG) (m : Nat → Nat) (q : Nat → Int32) (n c : Nat) (sg : Nat → Int32) (S : gSt) (H : Nat → gSt) (sl : Nat → Option gSt) (rd f tr dy kp ik tn : Nat → Int32) (z : Int32) (hn12 : n ≤ 120) (hO : gOk 50000 S) (hc14 : c ≤ 14) (hHo : gHok 50000 c H) (hRR : RR S f) (hD : gDry c H dy) (hKp : gKpt sl kp ik) : CI G yX8_addPrisoner wsX8_addPrisoner 2 45 [.ref (m 0), .int z] [(m 0, .inr (8, [.int (q 0), .ref (m 1), .int (nI n), .int (q 2), .int (q 3), .int (q 4), .ref (m 2), .ref (m 3), .ref (m 4), .ref (m 5), .int (nI c), .ref (m 6), .ref (m 7), .ref (m 8), .int (q 6), .int (q 7), .int (q 8)])), (m 1, .inl (gy G 0, 120, .inl sg)), (m 2, .inl (gy G 0, 271, .inl rd)), (m 3, .inl (gy G 0, 271, .inl f)), (m 4, .inl (gy G 0, 271, .inl tr)), (m 5, .inl (gy G 0, 3794, .inl dy)), (m 6, .inl (gy G 0, 542, .inl kp)), (m 7, .inl (gy G 2, 2, .inl ik)), (m 8, .inl (gy G 0, 10, .inl tn))] (gRefP (aAct 0 1 2 ((n, sg), S, (c, H), sl) (gTryAdd S z))) (fun (u : gRu) => (wR G m u)) 0 0 := by
  refine g_enterI (ty := .int) RX8 rfl (by decide) rfl (Nat.le_of_ble_eq_true rfl) ?_
  intro V E RET
  have hK := hO.1
  have hJ := hK.1
  have hI := hJ.1
  have hT1 := hO.2.2
  have hT2 : sN S 0 < 200000000 := by omega
  have hT : sN S 0 < 1000000000 := by omega
  have hb2 := gI2_b2 hJ
  have hX := hI
  obtain ⟨hP8, hn, hw, hW8, hs3, hs4, hs5, hs6, hs7, hs8, hb34⟩ := hX
  refine g_aload_n E dX8_addPrisoner_0 rfl 0 rfl ?_
  refine g_iload_n E dX8_addPrisoner_1 rfl 1 rfl ?_
  refine g_callSIe (F := [(m 0, .inr (8, [.int (q 0), .ref (m 1), .int (nI n), .int (q 2), .int (q 3), .int (q 4), .ref (m 2), .ref (m 3), .ref (m 4), .ref (m 5), .int (nI c), .ref (m 6), .ref (m 7), .ref (m 8), .int (q 6), .int (q 7), .int (q 8)])), (m 1, .inl (gy G 0, 120, .inl sg)), (m 2, .inl (gy G 0, 271, .inl rd)), (m 3, .inl (gy G 0, 271, .inl f)), (m 4, .inl (gy G 0, 271, .inl tr)), (m 5, .inl (gy G 0, 3794, .inl dy)), (m 6, .inl (gy G 0, 542, .inl kp)), (m 7, .inl (gy G 2, 2, .inl ik)), (m 8, .inl (gy G 0, 10, .inl tn))]) (ws2 := [(m 0, .inr (8, [.int (q 0), .ref (m 1), .int (nI n), .int (q 2), .int (q 3), .int (q 4), .ref (m 2), .ref (m 3), .ref (m 4), .ref (m 5), .int (nI c), .ref (m 6), .ref (m 7), .ref (m 8), .int (q 6), .int (q 7), .int (q 8)])), (m 1, .inl (gy G 0, 120, .inl sg)), (m 2, .inl (gy G 0, 271, .inl rd)), (m 3, .inl (gy G 0, 271, .inl f)), (m 4, .inl (gy G 0, 271, .inl tr)), (m 5, .inl (gy G 0, 3794, .inl dy)), (m 6, .inl (gy G 0, 542, .inl kp)), (m 7, .inl (gy G 2, 2, .inl ik)), (m 8, .inl (gy G 0, 10, .inl tn))]) E (mX8_isRank G z) gX8_addPrisoner_X8_isRank rfl hnX8_isRank ⟨Nat.le_of_ble_eq_true rfl, Nat.le_of_ble_eq_true rfl⟩ (gPerm_ix [0, 1, 2, 3, 4, 5, 6, 7, 8] rfl rfl) rfl rfl (Nat.le_of_ble_eq_true rfl) dX8_addPrisoner_2 ⟨Nat.le_of_ble_eq_true rfl, Nat.le_of_ble_eq_true rfl⟩ (gPerm_ix [0, 1, 2, 3, 4, 5, 6, 7, 8] rfl rfl) ?_
  refine g_if_neB (tgt := 12) (P := (¬ z < 0 ∧ ¬ 3 < z)) E dX8_addPrisoner_5 (by decide) (fun c1 => ?_) (fun c1 => ?_)
  · skip
    refine g_aload_n E dX8_addPrisoner_12 rfl 0 rfl ?_
    refine g_get E uX8_addPrisoner_RX8 0 rfl rfl 7 (by decide) kX8_addPrisoner_16 rfl rfl dX8_addPrisoner_13 ?_
    refine g_iconst (v := 1) E dX8_addPrisoner_16 (by decide) ?_
    refine g_ialdN (e := 1) E 3 rfl (by first | omega | exact fun w hw => gI2_zp hJ _ (Nat.le_refl _) (by omega) w hw) rfl (v := nI (sN S 1)) (RR_1 hRR) dX8_addPrisoner_17 ?_
    refine g_bipush (v := 8) E dX8_addPrisoner_18 (by decide) ?_
    refine g_icmp_neN (tgt := 27) (a := sN S 1) (b := 8) E dX8_addPrisoner_20 (by decide) (by first | omega | exact fun w hw => gI2_zp hJ _ (Nat.le_refl _) (by omega) w hw) (by first | omega | exact fun w hw => gI2_zp hJ _ (Nat.le_refl _) (by omega) w hw) (fun c2 => ?_) (fun c2 => ?_)
    · skip
      refine g_iconst (v := 0) E dX8_addPrisoner_27 (by decide) ?_
      refine g_callVIe (F := [(m 1, .inl (gy G 0, 120, .inl sg)), (m 2, .inl (gy G 0, 271, .inl rd)), (m 3, .inl (gy G 0, 271, .inl f)), (m 4, .inl (gy G 0, 271, .inl tr)), (m 5, .inl (gy G 0, 3794, .inl dy)), (m 6, .inl (gy G 0, 542, .inl kp)), (m 7, .inl (gy G 2, 2, .inl ik)), (m 8, .inl (gy G 0, 10, .inl tn))]) (ws2 := [(m 0, .inr (8, [.int 0, .ref (m 1), .int (nI n), .int (q 2), .int (q 3), .int (q 4), .ref (m 2), .ref (m 3), .ref (m 4), .ref (m 5), .int (nI c), .ref (m 6), .ref (m 7), .ref (m 8), .int (q 6), .int (q 7), .int (q 8)])), (m 1, .inl (gy G 0, 120, .inl sg)), (m 2, .inl (gy G 0, 271, .inl rd)), (m 3, .inl (gy G 0, 271, .inl f)), (m 4, .inl (gy G 0, 271, .inl tr)), (m 5, .inl (gy G 0, 3794, .inl dy)), (m 6, .inl (gy G 0, 542, .inl kp)), (m 7, .inl (gy G 2, 2, .inl ik)), (m 8, .inl (gy G 0, 10, .inl tn))]) E (mX8_refused G m (qU (qU q 1 (nI n)) 5 (nI c)) 0) gX8_addPrisoner_X8_refused rfl hdX8_refused ⟨Nat.le_of_ble_eq_true rfl, Nat.le_of_ble_eq_true rfl⟩ 8 0 rfl rfl rfl (gPerm_ix [0, 1, 2, 3, 4, 5, 6, 7, 8] rfl rfl) rfl rfl (Nat.le_of_ble_eq_true rfl) dX8_addPrisoner_28 ⟨Nat.le_of_ble_eq_true rfl, Nat.le_of_ble_eq_true rfl⟩ (gPerm_ix [0, 1, 2, 3, 4, 5, 6, 7, 8] rfl rfl) ?_
      refine g_if_eq (tgt := 36) E dX8_addPrisoner_31 (by decide) (fun _ => ?_) (fun c => absurd c (by decide))
      refine g_aload_n E dX8_addPrisoner_36 rfl 0 rfl ?_
      refine g_callVV (F := [(m 1, .inl (gy G 0, 120, .inl sg)), (m 2, .inl (gy G 0, 271, .inl rd)), (m 4, .inl (gy G 0, 271, .inl tr)), (m 6, .inl (gy G 0, 542, .inl kp)), (m 7, .inl (gy G 2, 2, .inl ik)), (m 8, .inl (gy G 0, 10, .inl tn))]) E (mX8_remember G m (qU (qU (qU q 0 0) 1 (nI n)) 5 (nI c)) c S H f dy hc14 hHo hI hRR hD) gX8_addPrisoner_X8_remember rfl hdX8_remember ⟨Nat.le_of_ble_eq_true rfl, Nat.le_of_ble_eq_true rfl⟩ 8 0 rfl rfl rfl (gPerm_ix [0, 3, 5, 1, 2, 4, 6, 7, 8] rfl rfl) rfl rfl (Nat.le_of_ble_eq_true rfl) dX8_addPrisoner_37 ⟨Nat.le_of_ble_eq_true rfl, Nat.le_of_ble_eq_true rfl⟩ (fun dy2 hD2 => ?_)
      refine g_perm (ws1 := [(m 0, .inr (8, [.int 0, .ref (m 1), .int (nI n), .int (q 2), .int (q 3), .int (q 4), .ref (m 2), .ref (m 3), .ref (m 4), .ref (m 5), .int (nI (gHc c)), .ref (m 6), .ref (m 7), .ref (m 8), .int (q 6), .int (q 7), .int (q 8)])), (m 1, .inl (gy G 0, 120, .inl sg)), (m 2, .inl (gy G 0, 271, .inl rd)), (m 3, .inl (gy G 0, 271, .inl f)), (m 4, .inl (gy G 0, 271, .inl tr)), (m 5, .inl (gy G 0, 3794, .inl dy2)), (m 6, .inl (gy G 0, 542, .inl kp)), (m 7, .inl (gy G 2, 2, .inl ik)), (m 8, .inl (gy G 0, 10, .inl tn))]) (gPerm_ix [0, 3, 4, 1, 5, 2, 6, 7, 8] rfl rfl) ?_
      refine g_aload_n E dX8_addPrisoner_40 rfl 0 rfl ?_
      refine g_get E uX8_addPrisoner_RX8 0 rfl rfl 7 (by decide) kX8_addPrisoner_16 rfl rfl dX8_addPrisoner_41 ?_
      refine g_iload_n E dX8_addPrisoner_44 rfl 1 rfl ?_
      refine g_callSIu (F := [(m 0, .inr (8, [.int 0, .ref (m 1), .int (nI n), .int (q 2), .int (q 3), .int (q 4), .ref (m 2), .ref (m 3), .ref (m 4), .ref (m 5), .int (nI (gHc c)), .ref (m 6), .ref (m 7), .ref (m 8), .int (q 6), .int (q 7), .int (q 8)])), (m 1, .inl (gy G 0, 120, .inl sg)), (m 2, .inl (gy G 0, 271, .inl rd)), (m 4, .inl (gy G 0, 271, .inl tr)), (m 5, .inl (gy G 0, 3794, .inl dy2)), (m 6, .inl (gy G 0, 542, .inl kp)), (m 7, .inl (gy G 2, 2, .inl ik)), (m 8, .inl (gy G 0, 10, .inl tn))]) E (mX8_addIn G (m 3) S f z hI hT hRR (by first | omega | exact fun w hw => gI2_zp hJ _ (Nat.le_refl _) (by omega) w hw) (by first | omega | exact fun w hw => gI2_zp hJ _ (Nat.le_refl _) (by omega) w hw)) gX8_addPrisoner_X8_addIn rfl hnX8_addIn ⟨Nat.le_of_ble_eq_true rfl, Nat.le_of_ble_eq_true rfl⟩ (gPerm_ix [3, 0, 1, 2, 4, 5, 6, 7, 8] rfl rfl) rfl rfl (Nat.le_of_ble_eq_true rfl) dX8_addPrisoner_45 ⟨Nat.le_of_ble_eq_true rfl, Nat.le_of_ble_eq_true rfl⟩ (fun u4 hU4 => ?_)
      obtain ⟨S4, xE4⟩ : ∃ x, x = uN (uI S 0 (upd (sI S 0) (sN S 1) z)) 1 (sN S 1 + 1) := ⟨_, rfl⟩
      have hRR4 : RR S4 u4 := by rw [xE4]; exact hU4
      have hI4 : gI1 S4 := by rw [xE4]; exact (gI1_addR hI (by omega))
      have hT4 : sN S4 0 < 1000000000 := by rw [xE4]; exact hT
      refine g_perm (ws1 := [(m 0, .inr (8, [.int 0, .ref (m 1), .int (nI n), .int (q 2), .int (q 3), .int (q 4), .ref (m 2), .ref (m 3), .ref (m 4), .ref (m 5), .int (nI (gHc c)), .ref (m 6), .ref (m 7), .ref (m 8), .int (q 6), .int (q 7), .int (q 8)])), (m 1, .inl (gy G 0, 120, .inl sg)), (m 2, .inl (gy G 0, 271, .inl rd)), (m 3, .inl (gy G 0, 271, .inl u4)), (m 4, .inl (gy G 0, 271, .inl tr)), (m 5, .inl (gy G 0, 3794, .inl dy2)), (m 6, .inl (gy G 0, 542, .inl kp)), (m 7, .inl (gy G 2, 2, .inl ik)), (m 8, .inl (gy G 0, 10, .inl tn))]) (gPerm_ix [1, 2, 3, 0, 4, 5, 6, 7, 8] rfl rfl) ?_
      exact RET _ _ _ (qU (qU (qU q 0 0) 1 (nI n)) 5 (nI (gHc c)), sg, rd, u4, tr, dy2, kp, ik, tn) (gRefP_mk (k := 0) (v := nI (sN S 1)) (A := (aRem ((n, sg), S, (c, H), sl) S4)) (by exact aAct_0 (v := nI (sN S 1)) (T := S4) (by rw [xE4]; unfold gTryAdd; rw [if_pos c1, if_pos (by omega)]) (nI_nneg (by omega))) rfl (fun _ => rfl) ⟨rfl, rfl, hRR4, rfl, hD2, hKp⟩) rfl dX8_addPrisoner_48
    · skip
      refine g_iconst (v := 2) E dX8_addPrisoner_23 (by decide) ?_
      refine g_goto (tgt := 28) E dX8_addPrisoner_24 (by decide) ?_
      refine g_callVIe (F := [(m 1, .inl (gy G 0, 120, .inl sg)), (m 2, .inl (gy G 0, 271, .inl rd)), (m 3, .inl (gy G 0, 271, .inl f)), (m 4, .inl (gy G 0, 271, .inl tr)), (m 5, .inl (gy G 0, 3794, .inl dy)), (m 6, .inl (gy G 0, 542, .inl kp)), (m 7, .inl (gy G 2, 2, .inl ik)), (m 8, .inl (gy G 0, 10, .inl tn))]) (ws2 := [(m 0, .inr (8, [.int 2, .ref (m 1), .int (nI n), .int (q 2), .int (q 3), .int (q 4), .ref (m 2), .ref (m 3), .ref (m 4), .ref (m 5), .int (nI c), .ref (m 6), .ref (m 7), .ref (m 8), .int (q 6), .int (q 7), .int (q 8)])), (m 1, .inl (gy G 0, 120, .inl sg)), (m 2, .inl (gy G 0, 271, .inl rd)), (m 3, .inl (gy G 0, 271, .inl f)), (m 4, .inl (gy G 0, 271, .inl tr)), (m 5, .inl (gy G 0, 3794, .inl dy)), (m 6, .inl (gy G 0, 542, .inl kp)), (m 7, .inl (gy G 2, 2, .inl ik)), (m 8, .inl (gy G 0, 10, .inl tn))]) E (mX8_refused G m (qU (qU q 1 (nI n)) 5 (nI c)) 2) gX8_addPrisoner_X8_refused rfl hdX8_refused ⟨Nat.le_of_ble_eq_true rfl, Nat.le_of_ble_eq_true rfl⟩ 8 0 rfl rfl rfl (gPerm_ix [0, 1, 2, 3, 4, 5, 6, 7, 8] rfl rfl) rfl rfl (Nat.le_of_ble_eq_true rfl) dX8_addPrisoner_28 ⟨Nat.le_of_ble_eq_true rfl, Nat.le_of_ble_eq_true rfl⟩ (gPerm_ix [0, 1, 2, 3, 4, 5, 6, 7, 8] rfl rfl) ?_
      refine g_if_eq (tgt := 36) E dX8_addPrisoner_31 (by decide) (fun c => absurd c (by decide)) (fun _ => ?_)
      refine g_iconst (v := 0) E dX8_addPrisoner_34 (by decide) ?_
      exact RET _ _ _ (qU (qU (qU q 0 2) 1 (nI n)) 5 (nI c), sg, rd, f, tr, dy, kp, ik, tn) (gRefP_mk (k := 2) (A := ((n, sg), S, (c, H), sl)) (aAct_3 (by unfold gTryAdd; rw [if_pos c1, if_neg (by omega)])) rfl (fun e => absurd e (by decide)) ⟨rfl, rfl, hRR, rfl, hD, hKp⟩) rfl dX8_addPrisoner_35
  · skip
    refine g_iconst (v := 1) E dX8_addPrisoner_8 (by decide) ?_
    refine g_goto (tgt := 28) E dX8_addPrisoner_9 (by decide) ?_
    refine g_callVIe (F := [(m 1, .inl (gy G 0, 120, .inl sg)), (m 2, .inl (gy G 0, 271, .inl rd)), (m 3, .inl (gy G 0, 271, .inl f)), (m 4, .inl (gy G 0, 271, .inl tr)), (m 5, .inl (gy G 0, 3794, .inl dy)), (m 6, .inl (gy G 0, 542, .inl kp)), (m 7, .inl (gy G 2, 2, .inl ik)), (m 8, .inl (gy G 0, 10, .inl tn))]) (ws2 := [(m 0, .inr (8, [.int 1, .ref (m 1), .int (nI n), .int (q 2), .int (q 3), .int (q 4), .ref (m 2), .ref (m 3), .ref (m 4), .ref (m 5), .int (nI c), .ref (m 6), .ref (m 7), .ref (m 8), .int (q 6), .int (q 7), .int (q 8)])), (m 1, .inl (gy G 0, 120, .inl sg)), (m 2, .inl (gy G 0, 271, .inl rd)), (m 3, .inl (gy G 0, 271, .inl f)), (m 4, .inl (gy G 0, 271, .inl tr)), (m 5, .inl (gy G 0, 3794, .inl dy)), (m 6, .inl (gy G 0, 542, .inl kp)), (m 7, .inl (gy G 2, 2, .inl ik)), (m 8, .inl (gy G 0, 10, .inl tn))]) E (mX8_refused G m (qU (qU q 1 (nI n)) 5 (nI c)) 1) gX8_addPrisoner_X8_refused rfl hdX8_refused ⟨Nat.le_of_ble_eq_true rfl, Nat.le_of_ble_eq_true rfl⟩ 8 0 rfl rfl rfl (gPerm_ix [0, 1, 2, 3, 4, 5, 6, 7, 8] rfl rfl) rfl rfl (Nat.le_of_ble_eq_true rfl) dX8_addPrisoner_28 ⟨Nat.le_of_ble_eq_true rfl, Nat.le_of_ble_eq_true rfl⟩ (gPerm_ix [0, 1, 2, 3, 4, 5, 6, 7, 8] rfl rfl) ?_
    refine g_if_eq (tgt := 36) E dX8_addPrisoner_31 (by decide) (fun c => absurd c (by decide)) (fun _ => ?_)
    refine g_iconst (v := 0) E dX8_addPrisoner_34 (by decide) ?_
    exact RET _ _ _ (qU (qU (qU q 0 1) 1 (nI n)) 5 (nI c), sg, rd, f, tr, dy, kp, ik, tn) (gRefP_mk (k := 1) (A := ((n, sg), S, (c, H), sl)) (aAct_2 (by unfold gTryAdd; rw [if_neg c1])) rfl (fun e => absurd e (by decide)) ⟨rfl, rfl, hRR, rfl, hD, hKp⟩) rfl dX8_addPrisoner_35

set_option maxHeartbeats 4000000 in
set_option maxRecDepth 100000 in
theorem mX8_promote (G : gG) (m : Nat → Nat) (q : Nat → Int32) (n c : Nat) (sg : Nat → Int32) (S : gSt) (H : Nat → gSt) (sl : Nat → Option gSt) (rd f tr dy kp ik tn : Nat → Int32) (p z : Int32) (hn12 : n ≤ 120) (hO : gOk 50000 S) (hc14 : c ≤ 14) (hHo : gHok 50000 c H) (hRR : RR S f) (hD : gDry c H dy) (hKp : gKpt sl kp ik) : CI G yX8_promote wsX8_promote 2 46 [.ref (m 0), .int p, .int z] [(m 0, .inr (8, [.int (q 0), .ref (m 1), .int (nI n), .int (q 2), .int (q 3), .int (q 4), .ref (m 2), .ref (m 3), .ref (m 4), .ref (m 5), .int (nI c), .ref (m 6), .ref (m 7), .ref (m 8), .int (q 6), .int (q 7), .int (q 8)])), (m 1, .inl (gy G 0, 120, .inl sg)), (m 2, .inl (gy G 0, 271, .inl rd)), (m 3, .inl (gy G 0, 271, .inl f)), (m 4, .inl (gy G 0, 271, .inl tr)), (m 5, .inl (gy G 0, 3794, .inl dy)), (m 6, .inl (gy G 0, 542, .inl kp)), (m 7, .inl (gy G 2, 2, .inl ik)), (m 8, .inl (gy G 0, 10, .inl tn))] (gRefP (aAct 1 2 0 ((n, sg), S, (c, H), sl) (gTryPromote S p z))) (fun (u : gRu) => (wR G m u)) 0 0 := by
  refine g_enterI (ty := .int) RX8 rfl (by decide) rfl (Nat.le_of_ble_eq_true rfl) ?_
  intro V E RET
  have hK := hO.1
  have hJ := hK.1
  have hI := hJ.1
  have hT1 := hO.2.2
  have hT2 : sN S 0 < 200000000 := by omega
  have hT : sN S 0 < 1000000000 := by omega
  have hb2 := gI2_b2 hJ
  have hX := hI
  obtain ⟨hP8, hn, hw, hW8, hs3, hs4, hs5, hs6, hs7, hs8, hb34⟩ := hX
  refine g_aload_n E dX8_promote_0 rfl 0 rfl ?_
  refine g_aload_n E dX8_promote_1 rfl 0 rfl ?_
  refine g_iload_n E dX8_promote_2 rfl 1 rfl ?_
  refine g_callVIe (F := [(m 1, .inl (gy G 0, 120, .inl sg)), (m 2, .inl (gy G 0, 271, .inl rd)), (m 4, .inl (gy G 0, 271, .inl tr)), (m 5, .inl (gy G 0, 3794, .inl dy)), (m 6, .inl (gy G 0, 542, .inl kp)), (m 7, .inl (gy G 2, 2, .inl ik)), (m 8, .inl (gy G 0, 10, .inl tn))]) (ws2 := [(m 0, .inr (8, [.int (q 0), .ref (m 1), .int (nI n), .int (q 2), .int (q 3), .int (q 4), .ref (m 2), .ref (m 3), .ref (m 4), .ref (m 5), .int (nI c), .ref (m 6), .ref (m 7), .ref (m 8), .int (q 6), .int (q 7), .int (q 8)])), (m 1, .inl (gy G 0, 120, .inl sg)), (m 2, .inl (gy G 0, 271, .inl rd)), (m 3, .inl (gy G 0, 271, .inl f)), (m 4, .inl (gy G 0, 271, .inl tr)), (m 5, .inl (gy G 0, 3794, .inl dy)), (m 6, .inl (gy G 0, 542, .inl kp)), (m 7, .inl (gy G 2, 2, .inl ik)), (m 8, .inl (gy G 0, 10, .inl tn))]) E (mX8_isPrisoner G m (qU (qU q 1 (nI n)) 5 (nI c)) S f p hI hT hRR) gX8_promote_X8_isPrisoner rfl hdX8_isPrisoner ⟨Nat.le_of_ble_eq_true rfl, Nat.le_of_ble_eq_true rfl⟩ 8 0 rfl rfl rfl (gPerm_ix [0, 3, 1, 2, 4, 5, 6, 7, 8] rfl rfl) rfl rfl (Nat.le_of_ble_eq_true rfl) dX8_promote_3 ⟨Nat.le_of_ble_eq_true rfl, Nat.le_of_ble_eq_true rfl⟩ (gPerm_ix [0, 2, 3, 1, 4, 5, 6, 7, 8] rfl rfl) ?_
  refine g_if_neB (tgt := 13) (P := (¬ p < 0 ∧ ¬ nI (sN S 1) ≤ p)) E dX8_promote_6 (by decide) (fun c1 => ?_) (fun c1 => ?_)
  · skip
    obtain ⟨j, hj, rfl⟩ := gNat_of c1 (by omega)
    refine g_iload_n E dX8_promote_13 rfl 2 rfl ?_
    refine g_callSIe (F := [(m 0, .inr (8, [.int (q 0), .ref (m 1), .int (nI n), .int (q 2), .int (q 3), .int (q 4), .ref (m 2), .ref (m 3), .ref (m 4), .ref (m 5), .int (nI c), .ref (m 6), .ref (m 7), .ref (m 8), .int (q 6), .int (q 7), .int (q 8)])), (m 1, .inl (gy G 0, 120, .inl sg)), (m 2, .inl (gy G 0, 271, .inl rd)), (m 3, .inl (gy G 0, 271, .inl f)), (m 4, .inl (gy G 0, 271, .inl tr)), (m 5, .inl (gy G 0, 3794, .inl dy)), (m 6, .inl (gy G 0, 542, .inl kp)), (m 7, .inl (gy G 2, 2, .inl ik)), (m 8, .inl (gy G 0, 10, .inl tn))]) (ws2 := [(m 0, .inr (8, [.int (q 0), .ref (m 1), .int (nI n), .int (q 2), .int (q 3), .int (q 4), .ref (m 2), .ref (m 3), .ref (m 4), .ref (m 5), .int (nI c), .ref (m 6), .ref (m 7), .ref (m 8), .int (q 6), .int (q 7), .int (q 8)])), (m 1, .inl (gy G 0, 120, .inl sg)), (m 2, .inl (gy G 0, 271, .inl rd)), (m 3, .inl (gy G 0, 271, .inl f)), (m 4, .inl (gy G 0, 271, .inl tr)), (m 5, .inl (gy G 0, 3794, .inl dy)), (m 6, .inl (gy G 0, 542, .inl kp)), (m 7, .inl (gy G 2, 2, .inl ik)), (m 8, .inl (gy G 0, 10, .inl tn))]) E (mX8_isRank G z) gX8_promote_X8_isRank rfl hnX8_isRank ⟨Nat.le_of_ble_eq_true rfl, Nat.le_of_ble_eq_true rfl⟩ (gPerm_ix [0, 1, 2, 3, 4, 5, 6, 7, 8] rfl rfl) rfl rfl (Nat.le_of_ble_eq_true rfl) dX8_promote_14 ⟨Nat.le_of_ble_eq_true rfl, Nat.le_of_ble_eq_true rfl⟩ (gPerm_ix [0, 1, 2, 3, 4, 5, 6, 7, 8] rfl rfl) ?_
    refine g_if_eqB (tgt := 24) (P := (¬ z < 0 ∧ ¬ 3 < z)) E dX8_promote_17 (by decide) (fun c2 => ?_) (fun c2 => ?_)
    · skip
      refine g_iconst (v := 2) E dX8_promote_24 (by decide) ?_
      refine g_callVIe (F := [(m 1, .inl (gy G 0, 120, .inl sg)), (m 2, .inl (gy G 0, 271, .inl rd)), (m 3, .inl (gy G 0, 271, .inl f)), (m 4, .inl (gy G 0, 271, .inl tr)), (m 5, .inl (gy G 0, 3794, .inl dy)), (m 6, .inl (gy G 0, 542, .inl kp)), (m 7, .inl (gy G 2, 2, .inl ik)), (m 8, .inl (gy G 0, 10, .inl tn))]) (ws2 := [(m 0, .inr (8, [.int 2, .ref (m 1), .int (nI n), .int (q 2), .int (q 3), .int (q 4), .ref (m 2), .ref (m 3), .ref (m 4), .ref (m 5), .int (nI c), .ref (m 6), .ref (m 7), .ref (m 8), .int (q 6), .int (q 7), .int (q 8)])), (m 1, .inl (gy G 0, 120, .inl sg)), (m 2, .inl (gy G 0, 271, .inl rd)), (m 3, .inl (gy G 0, 271, .inl f)), (m 4, .inl (gy G 0, 271, .inl tr)), (m 5, .inl (gy G 0, 3794, .inl dy)), (m 6, .inl (gy G 0, 542, .inl kp)), (m 7, .inl (gy G 2, 2, .inl ik)), (m 8, .inl (gy G 0, 10, .inl tn))]) E (mX8_refused G m (qU (qU q 1 (nI n)) 5 (nI c)) 2) gX8_promote_X8_refused rfl hdX8_refused ⟨Nat.le_of_ble_eq_true rfl, Nat.le_of_ble_eq_true rfl⟩ 8 0 rfl rfl rfl (gPerm_ix [0, 1, 2, 3, 4, 5, 6, 7, 8] rfl rfl) rfl rfl (Nat.le_of_ble_eq_true rfl) dX8_promote_25 ⟨Nat.le_of_ble_eq_true rfl, Nat.le_of_ble_eq_true rfl⟩ (gPerm_ix [0, 1, 2, 3, 4, 5, 6, 7, 8] rfl rfl) ?_
      refine g_if_eq (tgt := 33) E dX8_promote_28 (by decide) (fun c => absurd c (by decide)) (fun _ => ?_)
      refine g_iconst (v := 0) E dX8_promote_31 (by decide) ?_
      exact RET _ _ _ (qU (qU (qU q 0 2) 1 (nI n)) 5 (nI c), sg, rd, f, tr, dy, kp, ik, tn) (gRefP_mk (k := 2) (A := ((n, sg), S, (c, H), sl)) (aAct_2 (by unfold gTryPromote; rw [if_pos c1, if_neg c2])) rfl (fun e => absurd e (by decide)) ⟨rfl, rfl, hRR, rfl, hD, hKp⟩) rfl dX8_promote_32
    · skip
      refine g_iconst (v := 0) E dX8_promote_20 (by decide) ?_
      refine g_goto (tgt := 25) E dX8_promote_21 (by decide) ?_
      refine g_callVIe (F := [(m 1, .inl (gy G 0, 120, .inl sg)), (m 2, .inl (gy G 0, 271, .inl rd)), (m 3, .inl (gy G 0, 271, .inl f)), (m 4, .inl (gy G 0, 271, .inl tr)), (m 5, .inl (gy G 0, 3794, .inl dy)), (m 6, .inl (gy G 0, 542, .inl kp)), (m 7, .inl (gy G 2, 2, .inl ik)), (m 8, .inl (gy G 0, 10, .inl tn))]) (ws2 := [(m 0, .inr (8, [.int 0, .ref (m 1), .int (nI n), .int (q 2), .int (q 3), .int (q 4), .ref (m 2), .ref (m 3), .ref (m 4), .ref (m 5), .int (nI c), .ref (m 6), .ref (m 7), .ref (m 8), .int (q 6), .int (q 7), .int (q 8)])), (m 1, .inl (gy G 0, 120, .inl sg)), (m 2, .inl (gy G 0, 271, .inl rd)), (m 3, .inl (gy G 0, 271, .inl f)), (m 4, .inl (gy G 0, 271, .inl tr)), (m 5, .inl (gy G 0, 3794, .inl dy)), (m 6, .inl (gy G 0, 542, .inl kp)), (m 7, .inl (gy G 2, 2, .inl ik)), (m 8, .inl (gy G 0, 10, .inl tn))]) E (mX8_refused G m (qU (qU q 1 (nI n)) 5 (nI c)) 0) gX8_promote_X8_refused rfl hdX8_refused ⟨Nat.le_of_ble_eq_true rfl, Nat.le_of_ble_eq_true rfl⟩ 8 0 rfl rfl rfl (gPerm_ix [0, 1, 2, 3, 4, 5, 6, 7, 8] rfl rfl) rfl rfl (Nat.le_of_ble_eq_true rfl) dX8_promote_25 ⟨Nat.le_of_ble_eq_true rfl, Nat.le_of_ble_eq_true rfl⟩ (gPerm_ix [0, 1, 2, 3, 4, 5, 6, 7, 8] rfl rfl) ?_
      refine g_if_eq (tgt := 33) E dX8_promote_28 (by decide) (fun _ => ?_) (fun c => absurd c (by decide))
      refine g_aload_n E dX8_promote_33 rfl 0 rfl ?_
      refine g_callVV (F := [(m 1, .inl (gy G 0, 120, .inl sg)), (m 2, .inl (gy G 0, 271, .inl rd)), (m 4, .inl (gy G 0, 271, .inl tr)), (m 6, .inl (gy G 0, 542, .inl kp)), (m 7, .inl (gy G 2, 2, .inl ik)), (m 8, .inl (gy G 0, 10, .inl tn))]) E (mX8_remember G m (qU (qU (qU q 0 0) 1 (nI n)) 5 (nI c)) c S H f dy hc14 hHo hI hRR hD) gX8_promote_X8_remember rfl hdX8_remember ⟨Nat.le_of_ble_eq_true rfl, Nat.le_of_ble_eq_true rfl⟩ 8 0 rfl rfl rfl (gPerm_ix [0, 3, 5, 1, 2, 4, 6, 7, 8] rfl rfl) rfl rfl (Nat.le_of_ble_eq_true rfl) dX8_promote_34 ⟨Nat.le_of_ble_eq_true rfl, Nat.le_of_ble_eq_true rfl⟩ (fun dy2 hD2 => ?_)
      refine g_perm (ws1 := [(m 0, .inr (8, [.int 0, .ref (m 1), .int (nI n), .int (q 2), .int (q 3), .int (q 4), .ref (m 2), .ref (m 3), .ref (m 4), .ref (m 5), .int (nI (gHc c)), .ref (m 6), .ref (m 7), .ref (m 8), .int (q 6), .int (q 7), .int (q 8)])), (m 1, .inl (gy G 0, 120, .inl sg)), (m 2, .inl (gy G 0, 271, .inl rd)), (m 3, .inl (gy G 0, 271, .inl f)), (m 4, .inl (gy G 0, 271, .inl tr)), (m 5, .inl (gy G 0, 3794, .inl dy2)), (m 6, .inl (gy G 0, 542, .inl kp)), (m 7, .inl (gy G 2, 2, .inl ik)), (m 8, .inl (gy G 0, 10, .inl tn))]) (gPerm_ix [0, 3, 4, 1, 5, 2, 6, 7, 8] rfl rfl) ?_
      refine g_aload_n E dX8_promote_37 rfl 0 rfl ?_
      refine g_get E uX8_promote_RX8 0 rfl rfl 7 (by decide) kX8_promote_16 rfl rfl dX8_promote_38 ?_
      refine g_iload_n E dX8_promote_41 rfl 1 rfl ?_
      refine g_iconst (v := 0) E dX8_promote_42 (by decide) ?_
      refine g_callSIe (F := [(m 0, .inr (8, [.int 0, .ref (m 1), .int (nI n), .int (q 2), .int (q 3), .int (q 4), .ref (m 2), .ref (m 3), .ref (m 4), .ref (m 5), .int (nI (gHc c)), .ref (m 6), .ref (m 7), .ref (m 8), .int (q 6), .int (q 7), .int (q 8)])), (m 1, .inl (gy G 0, 120, .inl sg)), (m 2, .inl (gy G 0, 271, .inl rd)), (m 3, .inl (gy G 0, 271, .inl f)), (m 4, .inl (gy G 0, 271, .inl tr)), (m 5, .inl (gy G 0, 3794, .inl dy2)), (m 6, .inl (gy G 0, 542, .inl kp)), (m 7, .inl (gy G 2, 2, .inl ik)), (m 8, .inl (gy G 0, 10, .inl tn))]) (ws2 := [(m 0, .inr (8, [.int 0, .ref (m 1), .int (nI n), .int (q 2), .int (q 3), .int (q 4), .ref (m 2), .ref (m 3), .ref (m 4), .ref (m 5), .int (nI (gHc c)), .ref (m 6), .ref (m 7), .ref (m 8), .int (q 6), .int (q 7), .int (q 8)])), (m 1, .inl (gy G 0, 120, .inl sg)), (m 2, .inl (gy G 0, 271, .inl rd)), (m 3, .inl (gy G 0, 271, .inl f)), (m 4, .inl (gy G 0, 271, .inl tr)), (m 5, .inl (gy G 0, 3794, .inl dy2)), (m 6, .inl (gy G 0, 542, .inl kp)), (m 7, .inl (gy G 2, 2, .inl ik)), (m 8, .inl (gy G 0, 10, .inl tn))]) E (mX8_prisonerAt G j 0 (by omega) (by omega)) gX8_promote_X8_prisonerAt rfl hnX8_prisonerAt ⟨Nat.le_of_ble_eq_true rfl, Nat.le_of_ble_eq_true rfl⟩ (gPerm_ix [0, 1, 2, 3, 4, 5, 6, 7, 8] rfl rfl) rfl rfl (Nat.le_of_ble_eq_true rfl) dX8_promote_43 ⟨Nat.le_of_ble_eq_true rfl, Nat.le_of_ble_eq_true rfl⟩ (gPerm_ix [0, 1, 2, 3, 4, 5, 6, 7, 8] rfl rfl) ?_
      refine g_ialdN (e := 15 + 6 * j + 0) E 3 rfl (by omega) rfl (v := sI S 0 j) (RR_P hRR (p := j) (w := 0) (by omega) (by omega)) dX8_promote_46 ?_
      refine g_istore_n (lv' := [(3, .int (sI S 0 j)), (0, .ref (m 0)), (1, .int (nI j)), (2, .int z)]) E dX8_promote_47 rfl (by decide) rfl ?_
      refine g_aload_n E dX8_promote_48 rfl 1 rfl ?_
      refine g_get E uX8_promote_RX8 0 rfl rfl 7 (by decide) kX8_promote_16 rfl rfl dX8_promote_49 ?_
      refine g_iload_n E dX8_promote_52 rfl 2 rfl ?_
      refine g_iconst (v := 0) E dX8_promote_53 (by decide) ?_
      refine g_callSIe (F := [(m 0, .inr (8, [.int 0, .ref (m 1), .int (nI n), .int (q 2), .int (q 3), .int (q 4), .ref (m 2), .ref (m 3), .ref (m 4), .ref (m 5), .int (nI (gHc c)), .ref (m 6), .ref (m 7), .ref (m 8), .int (q 6), .int (q 7), .int (q 8)])), (m 1, .inl (gy G 0, 120, .inl sg)), (m 2, .inl (gy G 0, 271, .inl rd)), (m 3, .inl (gy G 0, 271, .inl f)), (m 4, .inl (gy G 0, 271, .inl tr)), (m 5, .inl (gy G 0, 3794, .inl dy2)), (m 6, .inl (gy G 0, 542, .inl kp)), (m 7, .inl (gy G 2, 2, .inl ik)), (m 8, .inl (gy G 0, 10, .inl tn))]) (ws2 := [(m 0, .inr (8, [.int 0, .ref (m 1), .int (nI n), .int (q 2), .int (q 3), .int (q 4), .ref (m 2), .ref (m 3), .ref (m 4), .ref (m 5), .int (nI (gHc c)), .ref (m 6), .ref (m 7), .ref (m 8), .int (q 6), .int (q 7), .int (q 8)])), (m 1, .inl (gy G 0, 120, .inl sg)), (m 2, .inl (gy G 0, 271, .inl rd)), (m 3, .inl (gy G 0, 271, .inl f)), (m 4, .inl (gy G 0, 271, .inl tr)), (m 5, .inl (gy G 0, 3794, .inl dy2)), (m 6, .inl (gy G 0, 542, .inl kp)), (m 7, .inl (gy G 2, 2, .inl ik)), (m 8, .inl (gy G 0, 10, .inl tn))]) E (mX8_prisonerAt G j 0 (by omega) (by omega)) gX8_promote_X8_prisonerAt rfl hnX8_prisonerAt ⟨Nat.le_of_ble_eq_true rfl, Nat.le_of_ble_eq_true rfl⟩ (gPerm_ix [0, 1, 2, 3, 4, 5, 6, 7, 8] rfl rfl) rfl rfl (Nat.le_of_ble_eq_true rfl) dX8_promote_54 ⟨Nat.le_of_ble_eq_true rfl, Nat.le_of_ble_eq_true rfl⟩ (gPerm_ix [0, 1, 2, 3, 4, 5, 6, 7, 8] rfl rfl) ?_
      refine g_iload_n E dX8_promote_57 rfl 3 rfl ?_
      refine g_iast (ws' := [(m 0, .inr (8, [.int 0, .ref (m 1), .int (nI n), .int (q 2), .int (q 3), .int (q 4), .ref (m 2), .ref (m 3), .ref (m 4), .ref (m 5), .int (nI (gHc c)), .ref (m 6), .ref (m 7), .ref (m 8), .int (q 6), .int (q 7), .int (q 8)])), (m 1, .inl (gy G 0, 120, .inl sg)), (m 2, .inl (gy G 0, 271, .inl rd)), (m 3, .inl (gy G 0, 271, .inl (upd f (15 + 6 * j + 0) z))), (m 4, .inl (gy G 0, 271, .inl tr)), (m 5, .inl (gy G 0, 3794, .inl dy2)), (m 6, .inl (gy G 0, 542, .inl kp)), (m 7, .inl (gy G 2, 2, .inl ik)), (m 8, .inl (gy G 0, 10, .inl tn))]) (j := 15 + 6 * j + 0) (y := z) E 3 rfl (g_in (e := 15 + 6 * j + 0) (by omega) rfl) (nI_clamp (n := 15 + 6 * j + 0) (by omega)) rfl rfl dX8_promote_58 ?_
      have hRR4 : RR (uI S 0 (upd (sI S 0) j z)) (upd f (15 + 6 * j + 0) z) := RR_uP hRR (by omega) (by decide)
      refine g_iload_n E dX8_promote_59 rfl 0 rfl ?_
      exact RET _ _ _ (qU (qU (qU q 0 0) 1 (nI n)) 5 (nI (gHc c)), sg, rd, upd f (15 + 6 * j + 0) z, tr, dy2, kp, ik, tn) (gRefP_mk (k := 0) (v := sI S 0 j) (A := (aRem ((n, sg), S, (c, H), sl) (uI S 0 (upd (sI S 0) j z)))) (by exact aAct_0 (v := sI S 0 j) (T := uI S 0 (upd (sI S 0) j z)) (by unfold gTryPromote; rw [if_pos c1, if_pos c2, nI_clamp (by omega)]) ((hK.2.1 j (by omega)).2.2.1)) rfl (fun _ => rfl) ⟨rfl, rfl, hRR4, rfl, hD2, hKp⟩) rfl dX8_promote_60
  · skip
    refine g_iconst (v := 1) E dX8_promote_9 (by decide) ?_
    refine g_goto (tgt := 25) E dX8_promote_10 (by decide) ?_
    refine g_callVIe (F := [(m 1, .inl (gy G 0, 120, .inl sg)), (m 2, .inl (gy G 0, 271, .inl rd)), (m 3, .inl (gy G 0, 271, .inl f)), (m 4, .inl (gy G 0, 271, .inl tr)), (m 5, .inl (gy G 0, 3794, .inl dy)), (m 6, .inl (gy G 0, 542, .inl kp)), (m 7, .inl (gy G 2, 2, .inl ik)), (m 8, .inl (gy G 0, 10, .inl tn))]) (ws2 := [(m 0, .inr (8, [.int 1, .ref (m 1), .int (nI n), .int (q 2), .int (q 3), .int (q 4), .ref (m 2), .ref (m 3), .ref (m 4), .ref (m 5), .int (nI c), .ref (m 6), .ref (m 7), .ref (m 8), .int (q 6), .int (q 7), .int (q 8)])), (m 1, .inl (gy G 0, 120, .inl sg)), (m 2, .inl (gy G 0, 271, .inl rd)), (m 3, .inl (gy G 0, 271, .inl f)), (m 4, .inl (gy G 0, 271, .inl tr)), (m 5, .inl (gy G 0, 3794, .inl dy)), (m 6, .inl (gy G 0, 542, .inl kp)), (m 7, .inl (gy G 2, 2, .inl ik)), (m 8, .inl (gy G 0, 10, .inl tn))]) E (mX8_refused G m (qU (qU q 1 (nI n)) 5 (nI c)) 1) gX8_promote_X8_refused rfl hdX8_refused ⟨Nat.le_of_ble_eq_true rfl, Nat.le_of_ble_eq_true rfl⟩ 8 0 rfl rfl rfl (gPerm_ix [0, 1, 2, 3, 4, 5, 6, 7, 8] rfl rfl) rfl rfl (Nat.le_of_ble_eq_true rfl) dX8_promote_25 ⟨Nat.le_of_ble_eq_true rfl, Nat.le_of_ble_eq_true rfl⟩ (gPerm_ix [0, 1, 2, 3, 4, 5, 6, 7, 8] rfl rfl) ?_
    refine g_if_eq (tgt := 33) E dX8_promote_28 (by decide) (fun c => absurd c (by decide)) (fun _ => ?_)
    refine g_iconst (v := 0) E dX8_promote_31 (by decide) ?_
    exact RET _ _ _ (qU (qU (qU q 0 1) 1 (nI n)) 5 (nI c), sg, rd, f, tr, dy, kp, ik, tn) (gRefP_mk (k := 1) (A := ((n, sg), S, (c, H), sl)) (aAct_1 (by unfold gTryPromote; rw [if_neg c1])) rfl (fun e => absurd e (by decide)) ⟨rfl, rfl, hRR, rfl, hD, hKp⟩) rfl dX8_promote_32

set_option maxHeartbeats 4000000 in
set_option maxRecDepth 100000 in
theorem mX8_list (G : gG) (m : Nat → Nat) (q : Nat → Int32) (n c : Nat) (sg : Nat → Int32) (S : gSt) (H : Nat → gSt) (sl : Nat → Option gSt) (rd f tr dy kp ik tn : Nat → Int32) (p v b : Int32) (hn12 : n ≤ 120) (hO : gOk 50000 S) (hc14 : c ≤ 14) (hHo : gHok 50000 c H) (hRR : RR S f) (hD : gDry c H dy) (hKp : gKpt sl kp ik) : CI G yX8_list wsX8_list 2 46 [.ref (m 0), .int p, .int v, .int b] [(m 0, .inr (8, [.int (q 0), .ref (m 1), .int (nI n), .int (q 2), .int (q 3), .int (q 4), .ref (m 2), .ref (m 3), .ref (m 4), .ref (m 5), .int (nI c), .ref (m 6), .ref (m 7), .ref (m 8), .int (q 6), .int (q 7), .int (q 8)])), (m 1, .inl (gy G 0, 120, .inl sg)), (m 2, .inl (gy G 0, 271, .inl rd)), (m 3, .inl (gy G 0, 271, .inl f)), (m 4, .inl (gy G 0, 271, .inl tr)), (m 5, .inl (gy G 0, 3794, .inl dy)), (m 6, .inl (gy G 0, 542, .inl kp)), (m 7, .inl (gy G 2, 2, .inl ik)), (m 8, .inl (gy G 0, 10, .inl tn))] (gRefP (aAct 1 0 0 ((n, sg), S, (c, H), sl) (gTryList S p v b))) (fun (u : gRu) => (wR G m u)) 0 0 := by
  refine g_enterI (ty := .int) RX8 rfl (by decide) rfl (Nat.le_of_ble_eq_true rfl) ?_
  intro V E RET
  have hK := hO.1
  have hJ := hK.1
  have hI := hJ.1
  have hT1 := hO.2.2
  have hT2 : sN S 0 < 200000000 := by omega
  have hT : sN S 0 < 1000000000 := by omega
  have hb2 := gI2_b2 hJ
  have hX := hI
  obtain ⟨hP8, hn, hw, hW8, hs3, hs4, hs5, hs6, hs7, hs8, hb34⟩ := hX
  refine g_aload_n E dX8_list_0 rfl 0 rfl ?_
  refine g_aload_n E dX8_list_1 rfl 0 rfl ?_
  refine g_iload_n E dX8_list_2 rfl 1 rfl ?_
  refine g_callVIe (F := [(m 1, .inl (gy G 0, 120, .inl sg)), (m 2, .inl (gy G 0, 271, .inl rd)), (m 4, .inl (gy G 0, 271, .inl tr)), (m 5, .inl (gy G 0, 3794, .inl dy)), (m 6, .inl (gy G 0, 542, .inl kp)), (m 7, .inl (gy G 2, 2, .inl ik)), (m 8, .inl (gy G 0, 10, .inl tn))]) (ws2 := [(m 0, .inr (8, [.int (q 0), .ref (m 1), .int (nI n), .int (q 2), .int (q 3), .int (q 4), .ref (m 2), .ref (m 3), .ref (m 4), .ref (m 5), .int (nI c), .ref (m 6), .ref (m 7), .ref (m 8), .int (q 6), .int (q 7), .int (q 8)])), (m 1, .inl (gy G 0, 120, .inl sg)), (m 2, .inl (gy G 0, 271, .inl rd)), (m 3, .inl (gy G 0, 271, .inl f)), (m 4, .inl (gy G 0, 271, .inl tr)), (m 5, .inl (gy G 0, 3794, .inl dy)), (m 6, .inl (gy G 0, 542, .inl kp)), (m 7, .inl (gy G 2, 2, .inl ik)), (m 8, .inl (gy G 0, 10, .inl tn))]) E (mX8_isPrisoner G m (qU (qU q 1 (nI n)) 5 (nI c)) S f p hI hT hRR) gX8_list_X8_isPrisoner rfl hdX8_isPrisoner ⟨Nat.le_of_ble_eq_true rfl, Nat.le_of_ble_eq_true rfl⟩ 8 0 rfl rfl rfl (gPerm_ix [0, 3, 1, 2, 4, 5, 6, 7, 8] rfl rfl) rfl rfl (Nat.le_of_ble_eq_true rfl) dX8_list_3 ⟨Nat.le_of_ble_eq_true rfl, Nat.le_of_ble_eq_true rfl⟩ (gPerm_ix [0, 2, 3, 1, 4, 5, 6, 7, 8] rfl rfl) ?_
  refine g_if_eqB (tgt := 20) (P := (¬ p < 0 ∧ ¬ nI (sN S 1) ≤ p)) E dX8_list_6 (by decide) (fun c1 => ?_) (fun c1 => ?_)
  · skip
    refine g_iconst (v := 1) E dX8_list_20 (by decide) ?_
    refine g_callVIe (F := [(m 1, .inl (gy G 0, 120, .inl sg)), (m 2, .inl (gy G 0, 271, .inl rd)), (m 3, .inl (gy G 0, 271, .inl f)), (m 4, .inl (gy G 0, 271, .inl tr)), (m 5, .inl (gy G 0, 3794, .inl dy)), (m 6, .inl (gy G 0, 542, .inl kp)), (m 7, .inl (gy G 2, 2, .inl ik)), (m 8, .inl (gy G 0, 10, .inl tn))]) (ws2 := [(m 0, .inr (8, [.int 1, .ref (m 1), .int (nI n), .int (q 2), .int (q 3), .int (q 4), .ref (m 2), .ref (m 3), .ref (m 4), .ref (m 5), .int (nI c), .ref (m 6), .ref (m 7), .ref (m 8), .int (q 6), .int (q 7), .int (q 8)])), (m 1, .inl (gy G 0, 120, .inl sg)), (m 2, .inl (gy G 0, 271, .inl rd)), (m 3, .inl (gy G 0, 271, .inl f)), (m 4, .inl (gy G 0, 271, .inl tr)), (m 5, .inl (gy G 0, 3794, .inl dy)), (m 6, .inl (gy G 0, 542, .inl kp)), (m 7, .inl (gy G 2, 2, .inl ik)), (m 8, .inl (gy G 0, 10, .inl tn))]) E (mX8_refused G m (qU (qU q 1 (nI n)) 5 (nI c)) 1) gX8_list_X8_refused rfl hdX8_refused ⟨Nat.le_of_ble_eq_true rfl, Nat.le_of_ble_eq_true rfl⟩ 8 0 rfl rfl rfl (gPerm_ix [0, 1, 2, 3, 4, 5, 6, 7, 8] rfl rfl) rfl rfl (Nat.le_of_ble_eq_true rfl) dX8_list_21 ⟨Nat.le_of_ble_eq_true rfl, Nat.le_of_ble_eq_true rfl⟩ (gPerm_ix [0, 1, 2, 3, 4, 5, 6, 7, 8] rfl rfl) ?_
    refine g_if_eq (tgt := 29) E dX8_list_24 (by decide) (fun c => absurd c (by decide)) (fun _ => ?_)
    refine g_iconst (v := 0) E dX8_list_27 (by decide) ?_
    exact RET _ _ _ (qU (qU (qU q 0 1) 1 (nI n)) 5 (nI c), sg, rd, f, tr, dy, kp, ik, tn) (gRefP_mk (k := 1) (A := ((n, sg), S, (c, H), sl)) (aAct_1 (by unfold gTryList; rw [if_neg (fun q => c1 q.1)])) rfl (fun e => absurd e (by decide)) ⟨rfl, rfl, hRR, rfl, hD, hKp⟩) rfl dX8_list_28
  · skip
    obtain ⟨j, hj, rfl⟩ := gNat_of c1 (by omega)
    refine g_iload_n E dX8_list_9 rfl 2 rfl ?_
    refine g_callSIe (F := [(m 0, .inr (8, [.int (q 0), .ref (m 1), .int (nI n), .int (q 2), .int (q 3), .int (q 4), .ref (m 2), .ref (m 3), .ref (m 4), .ref (m 5), .int (nI c), .ref (m 6), .ref (m 7), .ref (m 8), .int (q 6), .int (q 7), .int (q 8)])), (m 1, .inl (gy G 0, 120, .inl sg)), (m 2, .inl (gy G 0, 271, .inl rd)), (m 3, .inl (gy G 0, 271, .inl f)), (m 4, .inl (gy G 0, 271, .inl tr)), (m 5, .inl (gy G 0, 3794, .inl dy)), (m 6, .inl (gy G 0, 542, .inl kp)), (m 7, .inl (gy G 2, 2, .inl ik)), (m 8, .inl (gy G 0, 10, .inl tn))]) (ws2 := [(m 0, .inr (8, [.int (q 0), .ref (m 1), .int (nI n), .int (q 2), .int (q 3), .int (q 4), .ref (m 2), .ref (m 3), .ref (m 4), .ref (m 5), .int (nI c), .ref (m 6), .ref (m 7), .ref (m 8), .int (q 6), .int (q 7), .int (q 8)])), (m 1, .inl (gy G 0, 120, .inl sg)), (m 2, .inl (gy G 0, 271, .inl rd)), (m 3, .inl (gy G 0, 271, .inl f)), (m 4, .inl (gy G 0, 271, .inl tr)), (m 5, .inl (gy G 0, 3794, .inl dy)), (m 6, .inl (gy G 0, 542, .inl kp)), (m 7, .inl (gy G 2, 2, .inl ik)), (m 8, .inl (gy G 0, 10, .inl tn))]) E (mX8_isVisitor G v) gX8_list_X8_isVisitor rfl hnX8_isVisitor ⟨Nat.le_of_ble_eq_true rfl, Nat.le_of_ble_eq_true rfl⟩ (gPerm_ix [0, 1, 2, 3, 4, 5, 6, 7, 8] rfl rfl) rfl rfl (Nat.le_of_ble_eq_true rfl) dX8_list_10 ⟨Nat.le_of_ble_eq_true rfl, Nat.le_of_ble_eq_true rfl⟩ (gPerm_ix [0, 1, 2, 3, 4, 5, 6, 7, 8] rfl rfl) ?_
    refine g_if_eqB (tgt := 20) (P := (¬ v < 0 ∧ ¬ 9 < v)) E dX8_list_13 (by decide) (fun c2 => ?_) (fun c2 => ?_)
    · skip
      refine g_iconst (v := 1) E dX8_list_20 (by decide) ?_
      refine g_callVIe (F := [(m 1, .inl (gy G 0, 120, .inl sg)), (m 2, .inl (gy G 0, 271, .inl rd)), (m 3, .inl (gy G 0, 271, .inl f)), (m 4, .inl (gy G 0, 271, .inl tr)), (m 5, .inl (gy G 0, 3794, .inl dy)), (m 6, .inl (gy G 0, 542, .inl kp)), (m 7, .inl (gy G 2, 2, .inl ik)), (m 8, .inl (gy G 0, 10, .inl tn))]) (ws2 := [(m 0, .inr (8, [.int 1, .ref (m 1), .int (nI n), .int (q 2), .int (q 3), .int (q 4), .ref (m 2), .ref (m 3), .ref (m 4), .ref (m 5), .int (nI c), .ref (m 6), .ref (m 7), .ref (m 8), .int (q 6), .int (q 7), .int (q 8)])), (m 1, .inl (gy G 0, 120, .inl sg)), (m 2, .inl (gy G 0, 271, .inl rd)), (m 3, .inl (gy G 0, 271, .inl f)), (m 4, .inl (gy G 0, 271, .inl tr)), (m 5, .inl (gy G 0, 3794, .inl dy)), (m 6, .inl (gy G 0, 542, .inl kp)), (m 7, .inl (gy G 2, 2, .inl ik)), (m 8, .inl (gy G 0, 10, .inl tn))]) E (mX8_refused G m (qU (qU q 1 (nI n)) 5 (nI c)) 1) gX8_list_X8_refused rfl hdX8_refused ⟨Nat.le_of_ble_eq_true rfl, Nat.le_of_ble_eq_true rfl⟩ 8 0 rfl rfl rfl (gPerm_ix [0, 1, 2, 3, 4, 5, 6, 7, 8] rfl rfl) rfl rfl (Nat.le_of_ble_eq_true rfl) dX8_list_21 ⟨Nat.le_of_ble_eq_true rfl, Nat.le_of_ble_eq_true rfl⟩ (gPerm_ix [0, 1, 2, 3, 4, 5, 6, 7, 8] rfl rfl) ?_
      refine g_if_eq (tgt := 29) E dX8_list_24 (by decide) (fun c => absurd c (by decide)) (fun _ => ?_)
      refine g_iconst (v := 0) E dX8_list_27 (by decide) ?_
      exact RET _ _ _ (qU (qU (qU q 0 1) 1 (nI n)) 5 (nI c), sg, rd, f, tr, dy, kp, ik, tn) (gRefP_mk (k := 1) (A := ((n, sg), S, (c, H), sl)) (aAct_1 (by unfold gTryList; rw [if_neg (fun q => c2 (gV910.mpr q.2))])) rfl (fun e => absurd e (by decide)) ⟨rfl, rfl, hRR, rfl, hD, hKp⟩) rfl dX8_list_28
    · skip
      obtain ⟨e, he, rfl⟩ := gNat_ofl (m := 9) c2 rfl rfl (by decide)
      refine g_iconst (v := 0) E dX8_list_16 (by decide) ?_
      refine g_goto (tgt := 21) E dX8_list_17 (by decide) ?_
      refine g_callVIe (F := [(m 1, .inl (gy G 0, 120, .inl sg)), (m 2, .inl (gy G 0, 271, .inl rd)), (m 3, .inl (gy G 0, 271, .inl f)), (m 4, .inl (gy G 0, 271, .inl tr)), (m 5, .inl (gy G 0, 3794, .inl dy)), (m 6, .inl (gy G 0, 542, .inl kp)), (m 7, .inl (gy G 2, 2, .inl ik)), (m 8, .inl (gy G 0, 10, .inl tn))]) (ws2 := [(m 0, .inr (8, [.int 0, .ref (m 1), .int (nI n), .int (q 2), .int (q 3), .int (q 4), .ref (m 2), .ref (m 3), .ref (m 4), .ref (m 5), .int (nI c), .ref (m 6), .ref (m 7), .ref (m 8), .int (q 6), .int (q 7), .int (q 8)])), (m 1, .inl (gy G 0, 120, .inl sg)), (m 2, .inl (gy G 0, 271, .inl rd)), (m 3, .inl (gy G 0, 271, .inl f)), (m 4, .inl (gy G 0, 271, .inl tr)), (m 5, .inl (gy G 0, 3794, .inl dy)), (m 6, .inl (gy G 0, 542, .inl kp)), (m 7, .inl (gy G 2, 2, .inl ik)), (m 8, .inl (gy G 0, 10, .inl tn))]) E (mX8_refused G m (qU (qU q 1 (nI n)) 5 (nI c)) 0) gX8_list_X8_refused rfl hdX8_refused ⟨Nat.le_of_ble_eq_true rfl, Nat.le_of_ble_eq_true rfl⟩ 8 0 rfl rfl rfl (gPerm_ix [0, 1, 2, 3, 4, 5, 6, 7, 8] rfl rfl) rfl rfl (Nat.le_of_ble_eq_true rfl) dX8_list_21 ⟨Nat.le_of_ble_eq_true rfl, Nat.le_of_ble_eq_true rfl⟩ (gPerm_ix [0, 1, 2, 3, 4, 5, 6, 7, 8] rfl rfl) ?_
      refine g_if_eq (tgt := 29) E dX8_list_24 (by decide) (fun _ => ?_) (fun c => absurd c (by decide))
      refine g_aload_n E dX8_list_29 rfl 0 rfl ?_
      refine g_callVV (F := [(m 1, .inl (gy G 0, 120, .inl sg)), (m 2, .inl (gy G 0, 271, .inl rd)), (m 4, .inl (gy G 0, 271, .inl tr)), (m 6, .inl (gy G 0, 542, .inl kp)), (m 7, .inl (gy G 2, 2, .inl ik)), (m 8, .inl (gy G 0, 10, .inl tn))]) E (mX8_remember G m (qU (qU (qU q 0 0) 1 (nI n)) 5 (nI c)) c S H f dy hc14 hHo hI hRR hD) gX8_list_X8_remember rfl hdX8_remember ⟨Nat.le_of_ble_eq_true rfl, Nat.le_of_ble_eq_true rfl⟩ 8 0 rfl rfl rfl (gPerm_ix [0, 3, 5, 1, 2, 4, 6, 7, 8] rfl rfl) rfl rfl (Nat.le_of_ble_eq_true rfl) dX8_list_30 ⟨Nat.le_of_ble_eq_true rfl, Nat.le_of_ble_eq_true rfl⟩ (fun dy2 hD2 => ?_)
      refine g_perm (ws1 := [(m 0, .inr (8, [.int 0, .ref (m 1), .int (nI n), .int (q 2), .int (q 3), .int (q 4), .ref (m 2), .ref (m 3), .ref (m 4), .ref (m 5), .int (nI (gHc c)), .ref (m 6), .ref (m 7), .ref (m 8), .int (q 6), .int (q 7), .int (q 8)])), (m 1, .inl (gy G 0, 120, .inl sg)), (m 2, .inl (gy G 0, 271, .inl rd)), (m 3, .inl (gy G 0, 271, .inl f)), (m 4, .inl (gy G 0, 271, .inl tr)), (m 5, .inl (gy G 0, 3794, .inl dy2)), (m 6, .inl (gy G 0, 542, .inl kp)), (m 7, .inl (gy G 2, 2, .inl ik)), (m 8, .inl (gy G 0, 10, .inl tn))]) (gPerm_ix [0, 3, 4, 1, 5, 2, 6, 7, 8] rfl rfl) ?_
      refine g_aload_n E dX8_list_33 rfl 0 rfl ?_
      refine g_get E uX8_list_RX8 0 rfl rfl 7 (by decide) kX8_list_16 rfl rfl dX8_list_34 ?_
      refine g_iload_n E dX8_list_37 rfl 1 rfl ?_
      refine g_iload_n E dX8_list_38 rfl 2 rfl ?_
      refine g_iload_n E dX8_list_39 rfl 3 rfl ?_
      refine g_callSIu (F := [(m 0, .inr (8, [.int 0, .ref (m 1), .int (nI n), .int (q 2), .int (q 3), .int (q 4), .ref (m 2), .ref (m 3), .ref (m 4), .ref (m 5), .int (nI (gHc c)), .ref (m 6), .ref (m 7), .ref (m 8), .int (q 6), .int (q 7), .int (q 8)])), (m 1, .inl (gy G 0, 120, .inl sg)), (m 2, .inl (gy G 0, 271, .inl rd)), (m 4, .inl (gy G 0, 271, .inl tr)), (m 5, .inl (gy G 0, 3794, .inl dy2)), (m 6, .inl (gy G 0, 542, .inl kp)), (m 7, .inl (gy G 2, 2, .inl ik)), (m 8, .inl (gy G 0, 10, .inl tn))]) E (mX8_listIn G (m 3) S f j e b hI hT hRR (by omega) (by omega)) gX8_list_X8_listIn rfl hnX8_listIn ⟨Nat.le_of_ble_eq_true rfl, Nat.le_of_ble_eq_true rfl⟩ (gPerm_ix [3, 0, 1, 2, 4, 5, 6, 7, 8] rfl rfl) rfl rfl (Nat.le_of_ble_eq_true rfl) dX8_list_40 ⟨Nat.le_of_ble_eq_true rfl, Nat.le_of_ble_eq_true rfl⟩ (fun u4 hU4 => ?_)
      obtain ⟨S4, xE4⟩ : ∃ x, x = uI S 1 (upd (sI S 1) j (gWb (sI S 1 j) (nI e) b)) := ⟨_, rfl⟩
      have hRR4 : RR S4 u4 := by rw [xE4]; exact hU4
      have hI4 : gI1 S4 := by rw [xE4]; exact gI1_uI hI
      have hT4 : sN S4 0 < 1000000000 := by rw [xE4]; exact gT_uI hT
      refine g_perm (ws1 := [(m 0, .inr (8, [.int 0, .ref (m 1), .int (nI n), .int (q 2), .int (q 3), .int (q 4), .ref (m 2), .ref (m 3), .ref (m 4), .ref (m 5), .int (nI (gHc c)), .ref (m 6), .ref (m 7), .ref (m 8), .int (q 6), .int (q 7), .int (q 8)])), (m 1, .inl (gy G 0, 120, .inl sg)), (m 2, .inl (gy G 0, 271, .inl rd)), (m 3, .inl (gy G 0, 271, .inl u4)), (m 4, .inl (gy G 0, 271, .inl tr)), (m 5, .inl (gy G 0, 3794, .inl dy2)), (m 6, .inl (gy G 0, 542, .inl kp)), (m 7, .inl (gy G 2, 2, .inl ik)), (m 8, .inl (gy G 0, 10, .inl tn))]) (gPerm_ix [1, 2, 3, 0, 4, 5, 6, 7, 8] rfl rfl) ?_
      exact RET _ _ _ (qU (qU (qU q 0 0) 1 (nI n)) 5 (nI (gHc c)), sg, rd, u4, tr, dy2, kp, ik, tn) (gRefP_mk (k := 0) (v := gWb (sI S 1 j) (nI e) b) (A := (aRem ((n, sg), S, (c, H), sl) S4)) (by exact aAct_0 (v := gWb (sI S 1 j) (nI e) b) (T := S4) (by rw [xE4]; exact gTL_yes hP8 hj he) (gTL_nn hK (by omega) he)) rfl (fun _ => rfl) ⟨rfl, rfl, hRR4, rfl, hD2, hKp⟩) rfl dX8_list_43

set_option maxHeartbeats 4000000 in
set_option maxRecDepth 100000 in
theorem mX8_keepApart (G : gG) (m : Nat → Nat) (q : Nat → Int32) (n c : Nat) (sg : Nat → Int32) (S : gSt) (H : Nat → gSt) (sl : Nat → Option gSt) (rd f tr dy kp ik tn : Nat → Int32) (p q0 b : Int32) (hn12 : n ≤ 120) (hO : gOk 50000 S) (hc14 : c ≤ 14) (hHo : gHok 50000 c H) (hRR : RR S f) (hD : gDry c H dy) (hKp : gKpt sl kp ik) : CI G yX8_keepApart wsX8_keepApart 2 46 [.ref (m 0), .int p, .int q0, .int b] [(m 0, .inr (8, [.int (q 0), .ref (m 1), .int (nI n), .int (q 2), .int (q 3), .int (q 4), .ref (m 2), .ref (m 3), .ref (m 4), .ref (m 5), .int (nI c), .ref (m 6), .ref (m 7), .ref (m 8), .int (q 6), .int (q 7), .int (q 8)])), (m 1, .inl (gy G 0, 120, .inl sg)), (m 2, .inl (gy G 0, 271, .inl rd)), (m 3, .inl (gy G 0, 271, .inl f)), (m 4, .inl (gy G 0, 271, .inl tr)), (m 5, .inl (gy G 0, 3794, .inl dy)), (m 6, .inl (gy G 0, 542, .inl kp)), (m 7, .inl (gy G 2, 2, .inl ik)), (m 8, .inl (gy G 0, 10, .inl tn))] (gRefP (aAct 1 0 2 ((n, sg), S, (c, H), sl) (gTryApart S p q0 b))) (fun (u : gRu) => (wR G m u)) 0 0 := by
  refine g_enterI (ty := .int) RX8 rfl (by decide) rfl (Nat.le_of_ble_eq_true rfl) ?_
  intro V E RET
  have hK := hO.1
  have hJ := hK.1
  have hI := hJ.1
  have hT1 := hO.2.2
  have hT2 : sN S 0 < 200000000 := by omega
  have hT : sN S 0 < 1000000000 := by omega
  have hb2 := gI2_b2 hJ
  have hX := hI
  obtain ⟨hP8, hn, hw, hW8, hs3, hs4, hs5, hs6, hs7, hs8, hb34⟩ := hX
  refine g_aload_n E dX8_keepApart_0 rfl 0 rfl ?_
  refine g_aload_n E dX8_keepApart_1 rfl 0 rfl ?_
  refine g_iload_n E dX8_keepApart_2 rfl 1 rfl ?_
  refine g_callVIe (F := [(m 1, .inl (gy G 0, 120, .inl sg)), (m 2, .inl (gy G 0, 271, .inl rd)), (m 4, .inl (gy G 0, 271, .inl tr)), (m 5, .inl (gy G 0, 3794, .inl dy)), (m 6, .inl (gy G 0, 542, .inl kp)), (m 7, .inl (gy G 2, 2, .inl ik)), (m 8, .inl (gy G 0, 10, .inl tn))]) (ws2 := [(m 0, .inr (8, [.int (q 0), .ref (m 1), .int (nI n), .int (q 2), .int (q 3), .int (q 4), .ref (m 2), .ref (m 3), .ref (m 4), .ref (m 5), .int (nI c), .ref (m 6), .ref (m 7), .ref (m 8), .int (q 6), .int (q 7), .int (q 8)])), (m 1, .inl (gy G 0, 120, .inl sg)), (m 2, .inl (gy G 0, 271, .inl rd)), (m 3, .inl (gy G 0, 271, .inl f)), (m 4, .inl (gy G 0, 271, .inl tr)), (m 5, .inl (gy G 0, 3794, .inl dy)), (m 6, .inl (gy G 0, 542, .inl kp)), (m 7, .inl (gy G 2, 2, .inl ik)), (m 8, .inl (gy G 0, 10, .inl tn))]) E (mX8_isPrisoner G m (qU (qU q 1 (nI n)) 5 (nI c)) S f p hI hT hRR) gX8_keepApart_X8_isPrisoner rfl hdX8_isPrisoner ⟨Nat.le_of_ble_eq_true rfl, Nat.le_of_ble_eq_true rfl⟩ 8 0 rfl rfl rfl (gPerm_ix [0, 3, 1, 2, 4, 5, 6, 7, 8] rfl rfl) rfl rfl (Nat.le_of_ble_eq_true rfl) dX8_keepApart_3 ⟨Nat.le_of_ble_eq_true rfl, Nat.le_of_ble_eq_true rfl⟩ (gPerm_ix [0, 2, 3, 1, 4, 5, 6, 7, 8] rfl rfl) ?_
  refine g_if_eqB (tgt := 17) (P := (¬ p < 0 ∧ ¬ nI (sN S 1) ≤ p)) E dX8_keepApart_6 (by decide) (fun c1 => ?_) (fun c1 => ?_)
  · skip
    refine g_iconst (v := 1) E dX8_keepApart_17 (by decide) ?_
    refine g_goto (tgt := 31) E dX8_keepApart_18 (by decide) ?_
    refine g_callVIe (F := [(m 1, .inl (gy G 0, 120, .inl sg)), (m 2, .inl (gy G 0, 271, .inl rd)), (m 3, .inl (gy G 0, 271, .inl f)), (m 4, .inl (gy G 0, 271, .inl tr)), (m 5, .inl (gy G 0, 3794, .inl dy)), (m 6, .inl (gy G 0, 542, .inl kp)), (m 7, .inl (gy G 2, 2, .inl ik)), (m 8, .inl (gy G 0, 10, .inl tn))]) (ws2 := [(m 0, .inr (8, [.int 1, .ref (m 1), .int (nI n), .int (q 2), .int (q 3), .int (q 4), .ref (m 2), .ref (m 3), .ref (m 4), .ref (m 5), .int (nI c), .ref (m 6), .ref (m 7), .ref (m 8), .int (q 6), .int (q 7), .int (q 8)])), (m 1, .inl (gy G 0, 120, .inl sg)), (m 2, .inl (gy G 0, 271, .inl rd)), (m 3, .inl (gy G 0, 271, .inl f)), (m 4, .inl (gy G 0, 271, .inl tr)), (m 5, .inl (gy G 0, 3794, .inl dy)), (m 6, .inl (gy G 0, 542, .inl kp)), (m 7, .inl (gy G 2, 2, .inl ik)), (m 8, .inl (gy G 0, 10, .inl tn))]) E (mX8_refused G m (qU (qU q 1 (nI n)) 5 (nI c)) 1) gX8_keepApart_X8_refused rfl hdX8_refused ⟨Nat.le_of_ble_eq_true rfl, Nat.le_of_ble_eq_true rfl⟩ 8 0 rfl rfl rfl (gPerm_ix [0, 1, 2, 3, 4, 5, 6, 7, 8] rfl rfl) rfl rfl (Nat.le_of_ble_eq_true rfl) dX8_keepApart_31 ⟨Nat.le_of_ble_eq_true rfl, Nat.le_of_ble_eq_true rfl⟩ (gPerm_ix [0, 1, 2, 3, 4, 5, 6, 7, 8] rfl rfl) ?_
    refine g_if_eq (tgt := 39) E dX8_keepApart_34 (by decide) (fun c => absurd c (by decide)) (fun _ => ?_)
    refine g_iconst (v := 0) E dX8_keepApart_37 (by decide) ?_
    exact RET _ _ _ (qU (qU (qU q 0 1) 1 (nI n)) 5 (nI c), sg, rd, f, tr, dy, kp, ik, tn) (gRefP_mk (k := 1) (A := ((n, sg), S, (c, H), sl)) (aAct_1 (by unfold gTryApart; rw [if_neg c1])) rfl (fun e => absurd e (by decide)) ⟨rfl, rfl, hRR, rfl, hD, hKp⟩) rfl dX8_keepApart_38
  · skip
    obtain ⟨j, hj, rfl⟩ := gNat_of c1 (by omega)
    refine g_aload_n E dX8_keepApart_9 rfl 0 rfl ?_
    refine g_iload_n E dX8_keepApart_10 rfl 2 rfl ?_
    refine g_callVIe (F := [(m 1, .inl (gy G 0, 120, .inl sg)), (m 2, .inl (gy G 0, 271, .inl rd)), (m 4, .inl (gy G 0, 271, .inl tr)), (m 5, .inl (gy G 0, 3794, .inl dy)), (m 6, .inl (gy G 0, 542, .inl kp)), (m 7, .inl (gy G 2, 2, .inl ik)), (m 8, .inl (gy G 0, 10, .inl tn))]) (ws2 := [(m 0, .inr (8, [.int (q 0), .ref (m 1), .int (nI n), .int (q 2), .int (q 3), .int (q 4), .ref (m 2), .ref (m 3), .ref (m 4), .ref (m 5), .int (nI c), .ref (m 6), .ref (m 7), .ref (m 8), .int (q 6), .int (q 7), .int (q 8)])), (m 1, .inl (gy G 0, 120, .inl sg)), (m 2, .inl (gy G 0, 271, .inl rd)), (m 3, .inl (gy G 0, 271, .inl f)), (m 4, .inl (gy G 0, 271, .inl tr)), (m 5, .inl (gy G 0, 3794, .inl dy)), (m 6, .inl (gy G 0, 542, .inl kp)), (m 7, .inl (gy G 2, 2, .inl ik)), (m 8, .inl (gy G 0, 10, .inl tn))]) E (mX8_isPrisoner G m (qU (qU q 1 (nI n)) 5 (nI c)) S f q0 hI hT hRR) gX8_keepApart_X8_isPrisoner rfl hdX8_isPrisoner ⟨Nat.le_of_ble_eq_true rfl, Nat.le_of_ble_eq_true rfl⟩ 8 0 rfl rfl rfl (gPerm_ix [0, 3, 1, 2, 4, 5, 6, 7, 8] rfl rfl) rfl rfl (Nat.le_of_ble_eq_true rfl) dX8_keepApart_11 ⟨Nat.le_of_ble_eq_true rfl, Nat.le_of_ble_eq_true rfl⟩ (gPerm_ix [0, 2, 3, 1, 4, 5, 6, 7, 8] rfl rfl) ?_
    refine g_if_neB (tgt := 21) (P := (¬ q0 < 0 ∧ ¬ nI (sN S 1) ≤ q0)) E dX8_keepApart_14 (by decide) (fun c2 => ?_) (fun c2 => ?_)
    · skip
      obtain ⟨i, hi, rfl⟩ := gNat_of c2 (by omega)
      refine g_iload_n E dX8_keepApart_21 rfl 1 rfl ?_
      refine g_iload_n E dX8_keepApart_22 rfl 2 rfl ?_
      refine g_icmp_neN (tgt := 30) (a := j) (b := i) E dX8_keepApart_23 (by decide) (by omega) (by omega) (fun c3 => ?_) (fun c3 => ?_)
      · skip
        refine g_iconst (v := 0) E dX8_keepApart_30 (by decide) ?_
        refine g_callVIe (F := [(m 1, .inl (gy G 0, 120, .inl sg)), (m 2, .inl (gy G 0, 271, .inl rd)), (m 3, .inl (gy G 0, 271, .inl f)), (m 4, .inl (gy G 0, 271, .inl tr)), (m 5, .inl (gy G 0, 3794, .inl dy)), (m 6, .inl (gy G 0, 542, .inl kp)), (m 7, .inl (gy G 2, 2, .inl ik)), (m 8, .inl (gy G 0, 10, .inl tn))]) (ws2 := [(m 0, .inr (8, [.int 0, .ref (m 1), .int (nI n), .int (q 2), .int (q 3), .int (q 4), .ref (m 2), .ref (m 3), .ref (m 4), .ref (m 5), .int (nI c), .ref (m 6), .ref (m 7), .ref (m 8), .int (q 6), .int (q 7), .int (q 8)])), (m 1, .inl (gy G 0, 120, .inl sg)), (m 2, .inl (gy G 0, 271, .inl rd)), (m 3, .inl (gy G 0, 271, .inl f)), (m 4, .inl (gy G 0, 271, .inl tr)), (m 5, .inl (gy G 0, 3794, .inl dy)), (m 6, .inl (gy G 0, 542, .inl kp)), (m 7, .inl (gy G 2, 2, .inl ik)), (m 8, .inl (gy G 0, 10, .inl tn))]) E (mX8_refused G m (qU (qU q 1 (nI n)) 5 (nI c)) 0) gX8_keepApart_X8_refused rfl hdX8_refused ⟨Nat.le_of_ble_eq_true rfl, Nat.le_of_ble_eq_true rfl⟩ 8 0 rfl rfl rfl (gPerm_ix [0, 1, 2, 3, 4, 5, 6, 7, 8] rfl rfl) rfl rfl (Nat.le_of_ble_eq_true rfl) dX8_keepApart_31 ⟨Nat.le_of_ble_eq_true rfl, Nat.le_of_ble_eq_true rfl⟩ (gPerm_ix [0, 1, 2, 3, 4, 5, 6, 7, 8] rfl rfl) ?_
        refine g_if_eq (tgt := 39) E dX8_keepApart_34 (by decide) (fun _ => ?_) (fun c => absurd c (by decide))
        refine g_aload_n E dX8_keepApart_39 rfl 0 rfl ?_
        refine g_callVV (F := [(m 1, .inl (gy G 0, 120, .inl sg)), (m 2, .inl (gy G 0, 271, .inl rd)), (m 4, .inl (gy G 0, 271, .inl tr)), (m 6, .inl (gy G 0, 542, .inl kp)), (m 7, .inl (gy G 2, 2, .inl ik)), (m 8, .inl (gy G 0, 10, .inl tn))]) E (mX8_remember G m (qU (qU (qU q 0 0) 1 (nI n)) 5 (nI c)) c S H f dy hc14 hHo hI hRR hD) gX8_keepApart_X8_remember rfl hdX8_remember ⟨Nat.le_of_ble_eq_true rfl, Nat.le_of_ble_eq_true rfl⟩ 8 0 rfl rfl rfl (gPerm_ix [0, 3, 5, 1, 2, 4, 6, 7, 8] rfl rfl) rfl rfl (Nat.le_of_ble_eq_true rfl) dX8_keepApart_40 ⟨Nat.le_of_ble_eq_true rfl, Nat.le_of_ble_eq_true rfl⟩ (fun dy2 hD2 => ?_)
        refine g_perm (ws1 := [(m 0, .inr (8, [.int 0, .ref (m 1), .int (nI n), .int (q 2), .int (q 3), .int (q 4), .ref (m 2), .ref (m 3), .ref (m 4), .ref (m 5), .int (nI (gHc c)), .ref (m 6), .ref (m 7), .ref (m 8), .int (q 6), .int (q 7), .int (q 8)])), (m 1, .inl (gy G 0, 120, .inl sg)), (m 2, .inl (gy G 0, 271, .inl rd)), (m 3, .inl (gy G 0, 271, .inl f)), (m 4, .inl (gy G 0, 271, .inl tr)), (m 5, .inl (gy G 0, 3794, .inl dy2)), (m 6, .inl (gy G 0, 542, .inl kp)), (m 7, .inl (gy G 2, 2, .inl ik)), (m 8, .inl (gy G 0, 10, .inl tn))]) (gPerm_ix [0, 3, 4, 1, 5, 2, 6, 7, 8] rfl rfl) ?_
        refine g_aload_n E dX8_keepApart_43 rfl 0 rfl ?_
        refine g_get E uX8_keepApart_RX8 0 rfl rfl 7 (by decide) kX8_keepApart_16 rfl rfl dX8_keepApart_44 ?_
        refine g_iload_n E dX8_keepApart_47 rfl 1 rfl ?_
        refine g_iload_n E dX8_keepApart_48 rfl 2 rfl ?_
        refine g_iload_n E dX8_keepApart_49 rfl 3 rfl ?_
        refine g_callSV (F := [(m 0, .inr (8, [.int 0, .ref (m 1), .int (nI n), .int (q 2), .int (q 3), .int (q 4), .ref (m 2), .ref (m 3), .ref (m 4), .ref (m 5), .int (nI (gHc c)), .ref (m 6), .ref (m 7), .ref (m 8), .int (q 6), .int (q 7), .int (q 8)])), (m 1, .inl (gy G 0, 120, .inl sg)), (m 2, .inl (gy G 0, 271, .inl rd)), (m 4, .inl (gy G 0, 271, .inl tr)), (m 5, .inl (gy G 0, 3794, .inl dy2)), (m 6, .inl (gy G 0, 542, .inl kp)), (m 7, .inl (gy G 2, 2, .inl ik)), (m 8, .inl (gy G 0, 10, .inl tn))]) E (mX8_part G (m 3) S f j i b hI hT hRR (by omega) (by omega)) gX8_keepApart_X8_part rfl hnX8_part ⟨Nat.le_of_ble_eq_true rfl, Nat.le_of_ble_eq_true rfl⟩ (gPerm_ix [3, 0, 1, 2, 4, 5, 6, 7, 8] rfl rfl) rfl rfl (Nat.le_of_ble_eq_true rfl) dX8_keepApart_50 ⟨Nat.le_of_ble_eq_true rfl, Nat.le_of_ble_eq_true rfl⟩ (fun u5 hU5 => ?_)
        obtain ⟨S5, xE5⟩ : ∃ x, x = uI S 5 (upd (sI S 5) j (gWb (sI S 5 j) (nI i) b)) := ⟨_, rfl⟩
        have hRR5 : RR S5 u5 := by rw [xE5]; exact hU5
        have hI5 : gI1 S5 := by rw [xE5]; exact gI1_uI hI
        have hT5 : sN S5 0 < 1000000000 := by rw [xE5]; exact gT_uI hT
        refine g_perm (ws1 := [(m 0, .inr (8, [.int 0, .ref (m 1), .int (nI n), .int (q 2), .int (q 3), .int (q 4), .ref (m 2), .ref (m 3), .ref (m 4), .ref (m 5), .int (nI (gHc c)), .ref (m 6), .ref (m 7), .ref (m 8), .int (q 6), .int (q 7), .int (q 8)])), (m 1, .inl (gy G 0, 120, .inl sg)), (m 2, .inl (gy G 0, 271, .inl rd)), (m 3, .inl (gy G 0, 271, .inl u5)), (m 4, .inl (gy G 0, 271, .inl tr)), (m 5, .inl (gy G 0, 3794, .inl dy2)), (m 6, .inl (gy G 0, 542, .inl kp)), (m 7, .inl (gy G 2, 2, .inl ik)), (m 8, .inl (gy G 0, 10, .inl tn))]) (gPerm_ix [1, 2, 3, 0, 4, 5, 6, 7, 8] rfl rfl) ?_
        refine g_aload_n E dX8_keepApart_53 rfl 0 rfl ?_
        refine g_get E uX8_keepApart_RX8 0 rfl rfl 7 (by decide) kX8_keepApart_16 rfl rfl dX8_keepApart_54 ?_
        refine g_iload_n E dX8_keepApart_57 rfl 2 rfl ?_
        refine g_iload_n E dX8_keepApart_58 rfl 1 rfl ?_
        refine g_iload_n E dX8_keepApart_59 rfl 3 rfl ?_
        refine g_callSV (F := [(m 0, .inr (8, [.int 0, .ref (m 1), .int (nI n), .int (q 2), .int (q 3), .int (q 4), .ref (m 2), .ref (m 3), .ref (m 4), .ref (m 5), .int (nI (gHc c)), .ref (m 6), .ref (m 7), .ref (m 8), .int (q 6), .int (q 7), .int (q 8)])), (m 1, .inl (gy G 0, 120, .inl sg)), (m 2, .inl (gy G 0, 271, .inl rd)), (m 4, .inl (gy G 0, 271, .inl tr)), (m 5, .inl (gy G 0, 3794, .inl dy2)), (m 6, .inl (gy G 0, 542, .inl kp)), (m 7, .inl (gy G 2, 2, .inl ik)), (m 8, .inl (gy G 0, 10, .inl tn))]) E (mX8_part G (m 3) S5 u5 i j b hI5 hT5 hRR5 (by omega) (by omega)) gX8_keepApart_X8_part rfl hnX8_part ⟨Nat.le_of_ble_eq_true rfl, Nat.le_of_ble_eq_true rfl⟩ (gPerm_ix [3, 0, 1, 2, 4, 5, 6, 7, 8] rfl rfl) rfl rfl (Nat.le_of_ble_eq_true rfl) dX8_keepApart_60 ⟨Nat.le_of_ble_eq_true rfl, Nat.le_of_ble_eq_true rfl⟩ (fun u7 hU7 => ?_)
        obtain ⟨S7, xE7⟩ : ∃ x, x = uI S5 5 (upd (sI S5 5) i (gWb (sI S5 5 i) (nI j) b)) := ⟨_, rfl⟩
        have hRR7 : RR S7 u7 := by rw [xE7]; exact hU7
        have hI7 : gI1 S7 := by rw [xE7]; exact gI1_uI hI5
        have hT7 : sN S7 0 < 1000000000 := by rw [xE7]; exact gT_uI hT5
        refine g_perm (ws1 := [(m 0, .inr (8, [.int 0, .ref (m 1), .int (nI n), .int (q 2), .int (q 3), .int (q 4), .ref (m 2), .ref (m 3), .ref (m 4), .ref (m 5), .int (nI (gHc c)), .ref (m 6), .ref (m 7), .ref (m 8), .int (q 6), .int (q 7), .int (q 8)])), (m 1, .inl (gy G 0, 120, .inl sg)), (m 2, .inl (gy G 0, 271, .inl rd)), (m 3, .inl (gy G 0, 271, .inl u7)), (m 4, .inl (gy G 0, 271, .inl tr)), (m 5, .inl (gy G 0, 3794, .inl dy2)), (m 6, .inl (gy G 0, 542, .inl kp)), (m 7, .inl (gy G 2, 2, .inl ik)), (m 8, .inl (gy G 0, 10, .inl tn))]) (gPerm_ix [1, 2, 3, 0, 4, 5, 6, 7, 8] rfl rfl) ?_
        refine g_aload_n E dX8_keepApart_63 rfl 0 rfl ?_
        refine g_get E uX8_keepApart_RX8 0 rfl rfl 7 (by decide) kX8_keepApart_16 rfl rfl dX8_keepApart_64 ?_
        refine g_iload_n E dX8_keepApart_67 rfl 1 rfl ?_
        refine g_iconst (v := 5) E dX8_keepApart_68 (by decide) ?_
        refine g_callSIe (F := [(m 0, .inr (8, [.int 0, .ref (m 1), .int (nI n), .int (q 2), .int (q 3), .int (q 4), .ref (m 2), .ref (m 3), .ref (m 4), .ref (m 5), .int (nI (gHc c)), .ref (m 6), .ref (m 7), .ref (m 8), .int (q 6), .int (q 7), .int (q 8)])), (m 1, .inl (gy G 0, 120, .inl sg)), (m 2, .inl (gy G 0, 271, .inl rd)), (m 3, .inl (gy G 0, 271, .inl u7)), (m 4, .inl (gy G 0, 271, .inl tr)), (m 5, .inl (gy G 0, 3794, .inl dy2)), (m 6, .inl (gy G 0, 542, .inl kp)), (m 7, .inl (gy G 2, 2, .inl ik)), (m 8, .inl (gy G 0, 10, .inl tn))]) (ws2 := [(m 0, .inr (8, [.int 0, .ref (m 1), .int (nI n), .int (q 2), .int (q 3), .int (q 4), .ref (m 2), .ref (m 3), .ref (m 4), .ref (m 5), .int (nI (gHc c)), .ref (m 6), .ref (m 7), .ref (m 8), .int (q 6), .int (q 7), .int (q 8)])), (m 1, .inl (gy G 0, 120, .inl sg)), (m 2, .inl (gy G 0, 271, .inl rd)), (m 3, .inl (gy G 0, 271, .inl u7)), (m 4, .inl (gy G 0, 271, .inl tr)), (m 5, .inl (gy G 0, 3794, .inl dy2)), (m 6, .inl (gy G 0, 542, .inl kp)), (m 7, .inl (gy G 2, 2, .inl ik)), (m 8, .inl (gy G 0, 10, .inl tn))]) E (mX8_prisonerAt G j 5 (by omega) (by omega)) gX8_keepApart_X8_prisonerAt rfl hnX8_prisonerAt ⟨Nat.le_of_ble_eq_true rfl, Nat.le_of_ble_eq_true rfl⟩ (gPerm_ix [0, 1, 2, 3, 4, 5, 6, 7, 8] rfl rfl) rfl rfl (Nat.le_of_ble_eq_true rfl) dX8_keepApart_69 ⟨Nat.le_of_ble_eq_true rfl, Nat.le_of_ble_eq_true rfl⟩ (gPerm_ix [0, 1, 2, 3, 4, 5, 6, 7, 8] rfl rfl) ?_
        refine g_ialdN (e := 15 + 6 * j + 5) E 3 rfl (by omega) rfl (v := sI S7 5 j) (RR_P hRR7 (p := j) (w := 5) (by omega) (by omega)) dX8_keepApart_72 ?_
        have eT : gTryApart S (nI j) (nI i) b = (sI S7 5 j, S7) := by rw [xE7, xE5]; unfold gTryApart; rw [if_pos c1, if_pos c2, if_neg (fun q => c3 (nI_inj' (by omega) (by omega) q)), nI_clamp (by omega), nI_clamp (by omega)]; rfl
        have hKT : gI3 S7 := by have q := gI3_tryApart hK (nI j) (nI i) b; rw [eT] at q; exact q
        exact RET _ _ _ (qU (qU (qU q 0 0) 1 (nI n)) 5 (nI (gHc c)), sg, rd, u7, tr, dy2, kp, ik, tn) (gRefP_mk (k := 0) (v := sI S7 5 j) (A := (aRem ((n, sg), S, (c, H), sl) S7)) (by exact aAct_0 (v := sI S7 5 j) (T := S7) (eT) (gNg_apart hKT.2.1 (by omega))) rfl (fun _ => rfl) ⟨rfl, rfl, hRR7, rfl, hD2, hKp⟩) rfl dX8_keepApart_73
      · skip
        refine g_iconst (v := 2) E dX8_keepApart_26 (by decide) ?_
        refine g_goto (tgt := 31) E dX8_keepApart_27 (by decide) ?_
        refine g_callVIe (F := [(m 1, .inl (gy G 0, 120, .inl sg)), (m 2, .inl (gy G 0, 271, .inl rd)), (m 3, .inl (gy G 0, 271, .inl f)), (m 4, .inl (gy G 0, 271, .inl tr)), (m 5, .inl (gy G 0, 3794, .inl dy)), (m 6, .inl (gy G 0, 542, .inl kp)), (m 7, .inl (gy G 2, 2, .inl ik)), (m 8, .inl (gy G 0, 10, .inl tn))]) (ws2 := [(m 0, .inr (8, [.int 2, .ref (m 1), .int (nI n), .int (q 2), .int (q 3), .int (q 4), .ref (m 2), .ref (m 3), .ref (m 4), .ref (m 5), .int (nI c), .ref (m 6), .ref (m 7), .ref (m 8), .int (q 6), .int (q 7), .int (q 8)])), (m 1, .inl (gy G 0, 120, .inl sg)), (m 2, .inl (gy G 0, 271, .inl rd)), (m 3, .inl (gy G 0, 271, .inl f)), (m 4, .inl (gy G 0, 271, .inl tr)), (m 5, .inl (gy G 0, 3794, .inl dy)), (m 6, .inl (gy G 0, 542, .inl kp)), (m 7, .inl (gy G 2, 2, .inl ik)), (m 8, .inl (gy G 0, 10, .inl tn))]) E (mX8_refused G m (qU (qU q 1 (nI n)) 5 (nI c)) 2) gX8_keepApart_X8_refused rfl hdX8_refused ⟨Nat.le_of_ble_eq_true rfl, Nat.le_of_ble_eq_true rfl⟩ 8 0 rfl rfl rfl (gPerm_ix [0, 1, 2, 3, 4, 5, 6, 7, 8] rfl rfl) rfl rfl (Nat.le_of_ble_eq_true rfl) dX8_keepApart_31 ⟨Nat.le_of_ble_eq_true rfl, Nat.le_of_ble_eq_true rfl⟩ (gPerm_ix [0, 1, 2, 3, 4, 5, 6, 7, 8] rfl rfl) ?_
        refine g_if_eq (tgt := 39) E dX8_keepApart_34 (by decide) (fun c => absurd c (by decide)) (fun _ => ?_)
        refine g_iconst (v := 0) E dX8_keepApart_37 (by decide) ?_
        exact RET _ _ _ (qU (qU (qU q 0 2) 1 (nI n)) 5 (nI c), sg, rd, f, tr, dy, kp, ik, tn) (gRefP_mk (k := 2) (A := ((n, sg), S, (c, H), sl)) (aAct_3 (by unfold gTryApart; rw [if_pos c1, if_pos c2, if_pos (congrArg nI c3)])) rfl (fun e => absurd e (by decide)) ⟨rfl, rfl, hRR, rfl, hD, hKp⟩) rfl dX8_keepApart_38
    · skip
      refine g_iconst (v := 1) E dX8_keepApart_17 (by decide) ?_
      refine g_goto (tgt := 31) E dX8_keepApart_18 (by decide) ?_
      refine g_callVIe (F := [(m 1, .inl (gy G 0, 120, .inl sg)), (m 2, .inl (gy G 0, 271, .inl rd)), (m 3, .inl (gy G 0, 271, .inl f)), (m 4, .inl (gy G 0, 271, .inl tr)), (m 5, .inl (gy G 0, 3794, .inl dy)), (m 6, .inl (gy G 0, 542, .inl kp)), (m 7, .inl (gy G 2, 2, .inl ik)), (m 8, .inl (gy G 0, 10, .inl tn))]) (ws2 := [(m 0, .inr (8, [.int 1, .ref (m 1), .int (nI n), .int (q 2), .int (q 3), .int (q 4), .ref (m 2), .ref (m 3), .ref (m 4), .ref (m 5), .int (nI c), .ref (m 6), .ref (m 7), .ref (m 8), .int (q 6), .int (q 7), .int (q 8)])), (m 1, .inl (gy G 0, 120, .inl sg)), (m 2, .inl (gy G 0, 271, .inl rd)), (m 3, .inl (gy G 0, 271, .inl f)), (m 4, .inl (gy G 0, 271, .inl tr)), (m 5, .inl (gy G 0, 3794, .inl dy)), (m 6, .inl (gy G 0, 542, .inl kp)), (m 7, .inl (gy G 2, 2, .inl ik)), (m 8, .inl (gy G 0, 10, .inl tn))]) E (mX8_refused G m (qU (qU q 1 (nI n)) 5 (nI c)) 1) gX8_keepApart_X8_refused rfl hdX8_refused ⟨Nat.le_of_ble_eq_true rfl, Nat.le_of_ble_eq_true rfl⟩ 8 0 rfl rfl rfl (gPerm_ix [0, 1, 2, 3, 4, 5, 6, 7, 8] rfl rfl) rfl rfl (Nat.le_of_ble_eq_true rfl) dX8_keepApart_31 ⟨Nat.le_of_ble_eq_true rfl, Nat.le_of_ble_eq_true rfl⟩ (gPerm_ix [0, 1, 2, 3, 4, 5, 6, 7, 8] rfl rfl) ?_
      refine g_if_eq (tgt := 39) E dX8_keepApart_34 (by decide) (fun c => absurd c (by decide)) (fun _ => ?_)
      refine g_iconst (v := 0) E dX8_keepApart_37 (by decide) ?_
      exact RET _ _ _ (qU (qU (qU q 0 1) 1 (nI n)) 5 (nI c), sg, rd, f, tr, dy, kp, ik, tn) (gRefP_mk (k := 1) (A := ((n, sg), S, (c, H), sl)) (aAct_1 (by unfold gTryApart; rw [if_pos c1, if_neg c2])) rfl (fun e => absurd e (by decide)) ⟨rfl, rfl, hRR, rfl, hD, hKp⟩) rfl dX8_keepApart_38

set_option maxHeartbeats 4000000 in
set_option maxRecDepth 100000 in
theorem mX8_book (G : gG) (m : Nat → Nat) (q : Nat → Int32) (n c : Nat) (sg : Nat → Int32) (S : gSt) (H : Nat → gSt) (sl : Nat → Option gSt) (rd f tr dy kp ik tn : Nat → Int32) (p v d h : Int32) (hn12 : n ≤ 120) (hO : gOk 50000 S) (hc14 : c ≤ 14) (hHo : gHok 50000 c H) (hRR : RR S f) (hD : gDry c H dy) (hKp : gKpt sl kp ik) : CI G yX8_book wsX8_book 4 95 [.ref (m 0), .int p, .int v, .int d, .int h] [(m 0, .inr (8, [.int (q 0), .ref (m 1), .int (nI n), .int (q 2), .int (q 3), .int (q 4), .ref (m 2), .ref (m 3), .ref (m 4), .ref (m 5), .int (nI c), .ref (m 6), .ref (m 7), .ref (m 8), .int (q 6), .int (q 7), .int (q 8)])), (m 1, .inl (gy G 0, 120, .inl sg)), (m 2, .inl (gy G 0, 271, .inl rd)), (m 3, .inl (gy G 0, 271, .inl f)), (m 4, .inl (gy G 0, 271, .inl tr)), (m 5, .inl (gy G 0, 3794, .inl dy)), (m 6, .inl (gy G 0, 542, .inl kp)), (m 7, .inl (gy G 2, 2, .inl ik)), (m 8, .inl (gy G 0, 10, .inl tn))] (gRefP (aAct 1 2 3 ((n, sg), S, (c, H), sl) (gTryBook S p v d h))) (fun (u : gRu) => (wR G m u)) 0 0 := by
  refine g_enterI (ty := .int) RX8 rfl (by decide) rfl (Nat.le_of_ble_eq_true rfl) ?_
  intro V E RET
  have hK := hO.1
  have hJ := hK.1
  have hI := hJ.1
  have hT1 := hO.2.2
  have hT2 : sN S 0 < 200000000 := by omega
  have hT : sN S 0 < 1000000000 := by omega
  have hb2 := gI2_b2 hJ
  have hX := hI
  obtain ⟨hP8, hn, hw, hW8, hs3, hs4, hs5, hs6, hs7, hs8, hb34⟩ := hX
  refine g_aload_n E dX8_book_0 rfl 0 rfl ?_
  refine g_aload_n E dX8_book_1 rfl 0 rfl ?_
  refine g_iload_n E dX8_book_2 rfl 1 rfl ?_
  refine g_callVIe (F := [(m 1, .inl (gy G 0, 120, .inl sg)), (m 2, .inl (gy G 0, 271, .inl rd)), (m 4, .inl (gy G 0, 271, .inl tr)), (m 5, .inl (gy G 0, 3794, .inl dy)), (m 6, .inl (gy G 0, 542, .inl kp)), (m 7, .inl (gy G 2, 2, .inl ik)), (m 8, .inl (gy G 0, 10, .inl tn))]) (ws2 := [(m 0, .inr (8, [.int (q 0), .ref (m 1), .int (nI n), .int (q 2), .int (q 3), .int (q 4), .ref (m 2), .ref (m 3), .ref (m 4), .ref (m 5), .int (nI c), .ref (m 6), .ref (m 7), .ref (m 8), .int (q 6), .int (q 7), .int (q 8)])), (m 1, .inl (gy G 0, 120, .inl sg)), (m 2, .inl (gy G 0, 271, .inl rd)), (m 3, .inl (gy G 0, 271, .inl f)), (m 4, .inl (gy G 0, 271, .inl tr)), (m 5, .inl (gy G 0, 3794, .inl dy)), (m 6, .inl (gy G 0, 542, .inl kp)), (m 7, .inl (gy G 2, 2, .inl ik)), (m 8, .inl (gy G 0, 10, .inl tn))]) E (mX8_isPrisoner G m (qU (qU q 1 (nI n)) 5 (nI c)) S f p hI hT hRR) gX8_book_X8_isPrisoner rfl hdX8_isPrisoner ⟨Nat.le_of_ble_eq_true rfl, Nat.le_of_ble_eq_true rfl⟩ 8 0 rfl rfl rfl (gPerm_ix [0, 3, 1, 2, 4, 5, 6, 7, 8] rfl rfl) rfl rfl (Nat.le_of_ble_eq_true rfl) dX8_book_3 ⟨Nat.le_of_ble_eq_true rfl, Nat.le_of_ble_eq_true rfl⟩ (gPerm_ix [0, 2, 3, 1, 4, 5, 6, 7, 8] rfl rfl) ?_
  refine g_if_eqB (tgt := 16) (P := (¬ p < 0 ∧ ¬ nI (sN S 1) ≤ p)) E dX8_book_6 (by decide) (fun c1 => ?_) (fun c1 => ?_)
  · skip
    refine g_iconst (v := 1) E dX8_book_16 (by decide) ?_
    refine g_goto (tgt := 57) E dX8_book_17 (by decide) ?_
    refine g_callVIe (F := [(m 1, .inl (gy G 0, 120, .inl sg)), (m 2, .inl (gy G 0, 271, .inl rd)), (m 3, .inl (gy G 0, 271, .inl f)), (m 4, .inl (gy G 0, 271, .inl tr)), (m 5, .inl (gy G 0, 3794, .inl dy)), (m 6, .inl (gy G 0, 542, .inl kp)), (m 7, .inl (gy G 2, 2, .inl ik)), (m 8, .inl (gy G 0, 10, .inl tn))]) (ws2 := [(m 0, .inr (8, [.int 1, .ref (m 1), .int (nI n), .int (q 2), .int (q 3), .int (q 4), .ref (m 2), .ref (m 3), .ref (m 4), .ref (m 5), .int (nI c), .ref (m 6), .ref (m 7), .ref (m 8), .int (q 6), .int (q 7), .int (q 8)])), (m 1, .inl (gy G 0, 120, .inl sg)), (m 2, .inl (gy G 0, 271, .inl rd)), (m 3, .inl (gy G 0, 271, .inl f)), (m 4, .inl (gy G 0, 271, .inl tr)), (m 5, .inl (gy G 0, 3794, .inl dy)), (m 6, .inl (gy G 0, 542, .inl kp)), (m 7, .inl (gy G 2, 2, .inl ik)), (m 8, .inl (gy G 0, 10, .inl tn))]) E (mX8_refused G m (qU (qU q 1 (nI n)) 5 (nI c)) 1) gX8_book_X8_refused rfl hdX8_refused ⟨Nat.le_of_ble_eq_true rfl, Nat.le_of_ble_eq_true rfl⟩ 8 0 rfl rfl rfl (gPerm_ix [0, 1, 2, 3, 4, 5, 6, 7, 8] rfl rfl) rfl rfl (Nat.le_of_ble_eq_true rfl) dX8_book_57 ⟨Nat.le_of_ble_eq_true rfl, Nat.le_of_ble_eq_true rfl⟩ (gPerm_ix [0, 1, 2, 3, 4, 5, 6, 7, 8] rfl rfl) ?_
    refine g_if_eq (tgt := 65) E dX8_book_60 (by decide) (fun c => absurd c (by decide)) (fun _ => ?_)
    refine g_iconst (v := 0) E dX8_book_63 (by decide) ?_
    exact RET _ _ _ (qU (qU (qU q 0 1) 1 (nI n)) 5 (nI c), sg, rd, f, tr, dy, kp, ik, tn) (gRefP_mk (k := 1) (A := ((n, sg), S, (c, H), sl)) (aAct_1 (by unfold gTryBook; rw [if_neg (fun q => c1 q.1)])) rfl (fun e => absurd e (by decide)) ⟨rfl, rfl, hRR, rfl, hD, hKp⟩) rfl dX8_book_64
  · skip
    obtain ⟨j, hj, rfl⟩ := gNat_of c1 (by omega)
    refine g_iload_n E dX8_book_9 rfl 2 rfl ?_
    refine g_callSIe (F := [(m 0, .inr (8, [.int (q 0), .ref (m 1), .int (nI n), .int (q 2), .int (q 3), .int (q 4), .ref (m 2), .ref (m 3), .ref (m 4), .ref (m 5), .int (nI c), .ref (m 6), .ref (m 7), .ref (m 8), .int (q 6), .int (q 7), .int (q 8)])), (m 1, .inl (gy G 0, 120, .inl sg)), (m 2, .inl (gy G 0, 271, .inl rd)), (m 3, .inl (gy G 0, 271, .inl f)), (m 4, .inl (gy G 0, 271, .inl tr)), (m 5, .inl (gy G 0, 3794, .inl dy)), (m 6, .inl (gy G 0, 542, .inl kp)), (m 7, .inl (gy G 2, 2, .inl ik)), (m 8, .inl (gy G 0, 10, .inl tn))]) (ws2 := [(m 0, .inr (8, [.int (q 0), .ref (m 1), .int (nI n), .int (q 2), .int (q 3), .int (q 4), .ref (m 2), .ref (m 3), .ref (m 4), .ref (m 5), .int (nI c), .ref (m 6), .ref (m 7), .ref (m 8), .int (q 6), .int (q 7), .int (q 8)])), (m 1, .inl (gy G 0, 120, .inl sg)), (m 2, .inl (gy G 0, 271, .inl rd)), (m 3, .inl (gy G 0, 271, .inl f)), (m 4, .inl (gy G 0, 271, .inl tr)), (m 5, .inl (gy G 0, 3794, .inl dy)), (m 6, .inl (gy G 0, 542, .inl kp)), (m 7, .inl (gy G 2, 2, .inl ik)), (m 8, .inl (gy G 0, 10, .inl tn))]) E (mX8_isVisitor G v) gX8_book_X8_isVisitor rfl hnX8_isVisitor ⟨Nat.le_of_ble_eq_true rfl, Nat.le_of_ble_eq_true rfl⟩ (gPerm_ix [0, 1, 2, 3, 4, 5, 6, 7, 8] rfl rfl) rfl rfl (Nat.le_of_ble_eq_true rfl) dX8_book_10 ⟨Nat.le_of_ble_eq_true rfl, Nat.le_of_ble_eq_true rfl⟩ (gPerm_ix [0, 1, 2, 3, 4, 5, 6, 7, 8] rfl rfl) ?_
    refine g_if_neB (tgt := 20) (P := (¬ v < 0 ∧ ¬ 9 < v)) E dX8_book_13 (by decide) (fun c2 => ?_) (fun c2 => ?_)
    · skip
      obtain ⟨e, he, rfl⟩ := gNat_ofl (m := 9) c2 rfl rfl (by decide)
      refine g_aload_n E dX8_book_20 rfl 0 rfl ?_
      refine g_get E uX8_book_RX8 0 rfl rfl 7 (by decide) kX8_book_16 rfl rfl dX8_book_21 ?_
      refine g_iload_n E dX8_book_24 rfl 3 rfl ?_
      refine g_iload E dX8_book_25 4 rfl ?_
      refine g_callSIe (F := [(m 0, .inr (8, [.int (q 0), .ref (m 1), .int (nI n), .int (q 2), .int (q 3), .int (q 4), .ref (m 2), .ref (m 3), .ref (m 4), .ref (m 5), .int (nI c), .ref (m 6), .ref (m 7), .ref (m 8), .int (q 6), .int (q 7), .int (q 8)])), (m 1, .inl (gy G 0, 120, .inl sg)), (m 2, .inl (gy G 0, 271, .inl rd)), (m 4, .inl (gy G 0, 271, .inl tr)), (m 5, .inl (gy G 0, 3794, .inl dy)), (m 6, .inl (gy G 0, 542, .inl kp)), (m 7, .inl (gy G 2, 2, .inl ik)), (m 8, .inl (gy G 0, 10, .inl tn))]) (ws2 := [(m 0, .inr (8, [.int (q 0), .ref (m 1), .int (nI n), .int (q 2), .int (q 3), .int (q 4), .ref (m 2), .ref (m 3), .ref (m 4), .ref (m 5), .int (nI c), .ref (m 6), .ref (m 7), .ref (m 8), .int (q 6), .int (q 7), .int (q 8)])), (m 1, .inl (gy G 0, 120, .inl sg)), (m 2, .inl (gy G 0, 271, .inl rd)), (m 3, .inl (gy G 0, 271, .inl f)), (m 4, .inl (gy G 0, 271, .inl tr)), (m 5, .inl (gy G 0, 3794, .inl dy)), (m 6, .inl (gy G 0, 542, .inl kp)), (m 7, .inl (gy G 2, 2, .inl ik)), (m 8, .inl (gy G 0, 10, .inl tn))]) E (mX8_isTime G (m 3) S f d h (gI1_r hI) hT hRR ) gX8_book_X8_isTime rfl hnX8_isTime ⟨Nat.le_of_ble_eq_true rfl, Nat.le_of_ble_eq_true rfl⟩ (gPerm_ix [3, 0, 1, 2, 4, 5, 6, 7, 8] rfl rfl) rfl rfl (Nat.le_of_ble_eq_true rfl) dX8_book_27 ⟨Nat.le_of_ble_eq_true rfl, Nat.le_of_ble_eq_true rfl⟩ (gPerm_ix [1, 2, 3, 0, 4, 5, 6, 7, 8] rfl rfl) ?_
      refine g_if_neB (tgt := 37) (P := ((¬ d < nI (sN S 0) ∧ ¬ 9999 < d) ∧ (¬ h < 0 ∧ ¬ 7 < h))) E dX8_book_30 (by decide) (fun c3 => ?_) (fun c3 => ?_)
      · skip
        obtain ⟨x, hx, rfl⟩ := nI_of (gDnn c3.1.1 hT)
        have hx9 := gD9 hx c3.1.2
        obtain ⟨y, hy, rfl⟩ := gNat_ofl (m := 7) c3.2 rfl rfl (by decide)
        have q4 := gRA_le S j e x y
        refine g_aload_n E dX8_book_37 rfl 0 rfl ?_
        refine g_get E uX8_book_RX8 0 rfl rfl 7 (by decide) kX8_book_16 rfl rfl dX8_book_38 ?_
        refine g_iload_n E dX8_book_41 rfl 1 rfl ?_
        refine g_iload_n E dX8_book_42 rfl 2 rfl ?_
        refine g_iload_n E dX8_book_43 rfl 3 rfl ?_
        refine g_iload E dX8_book_44 4 rfl ?_
        refine g_callSIe (F := [(m 0, .inr (8, [.int (q 0), .ref (m 1), .int (nI n), .int (q 2), .int (q 3), .int (q 4), .ref (m 2), .ref (m 3), .ref (m 4), .ref (m 5), .int (nI c), .ref (m 6), .ref (m 7), .ref (m 8), .int (q 6), .int (q 7), .int (q 8)])), (m 1, .inl (gy G 0, 120, .inl sg)), (m 2, .inl (gy G 0, 271, .inl rd)), (m 4, .inl (gy G 0, 271, .inl tr)), (m 5, .inl (gy G 0, 3794, .inl dy)), (m 6, .inl (gy G 0, 542, .inl kp)), (m 7, .inl (gy G 2, 2, .inl ik)), (m 8, .inl (gy G 0, 10, .inl tn))]) (ws2 := [(m 0, .inr (8, [.int (q 0), .ref (m 1), .int (nI n), .int (q 2), .int (q 3), .int (q 4), .ref (m 2), .ref (m 3), .ref (m 4), .ref (m 5), .int (nI c), .ref (m 6), .ref (m 7), .ref (m 8), .int (q 6), .int (q 7), .int (q 8)])), (m 1, .inl (gy G 0, 120, .inl sg)), (m 2, .inl (gy G 0, 271, .inl rd)), (m 3, .inl (gy G 0, 271, .inl f)), (m 4, .inl (gy G 0, 271, .inl tr)), (m 5, .inl (gy G 0, 3794, .inl dy)), (m 6, .inl (gy G 0, 542, .inl kp)), (m 7, .inl (gy G 2, 2, .inl ik)), (m 8, .inl (gy G 0, 10, .inl tn))]) E (g_resI (congrArg nI (gWhyR_eq (d := x) (h := y) (gI1_r hI) hb2 (p := j) (v := e) (by omega) (by omega))) (mX8_why G (m 3) S f j e x y (gI1_r hI) hT hRR (by omega) (by omega) (by omega) (by omega))) gX8_book_X8_why rfl hnX8_why ⟨Nat.le_of_ble_eq_true rfl, Nat.le_of_ble_eq_true rfl⟩ (gPerm_ix [3, 0, 1, 2, 4, 5, 6, 7, 8] rfl rfl) rfl rfl (Nat.le_of_ble_eq_true rfl) dX8_book_46 ⟨Nat.le_of_ble_eq_true rfl, Nat.le_of_ble_eq_true rfl⟩ (gPerm_ix [1, 2, 3, 0, 4, 5, 6, 7, 8] rfl rfl) ?_
        refine g_if_neN (tgt := 56) (a := gRA S j e x y) E dX8_book_49 (by decide) (by omega) (fun c4 => ?_) (fun c4 => ?_)
        · skip
          refine g_iconst (v := 3) E dX8_book_56 (by decide) ?_
          refine g_callVIe (F := [(m 1, .inl (gy G 0, 120, .inl sg)), (m 2, .inl (gy G 0, 271, .inl rd)), (m 3, .inl (gy G 0, 271, .inl f)), (m 4, .inl (gy G 0, 271, .inl tr)), (m 5, .inl (gy G 0, 3794, .inl dy)), (m 6, .inl (gy G 0, 542, .inl kp)), (m 7, .inl (gy G 2, 2, .inl ik)), (m 8, .inl (gy G 0, 10, .inl tn))]) (ws2 := [(m 0, .inr (8, [.int 3, .ref (m 1), .int (nI n), .int (q 2), .int (q 3), .int (q 4), .ref (m 2), .ref (m 3), .ref (m 4), .ref (m 5), .int (nI c), .ref (m 6), .ref (m 7), .ref (m 8), .int (q 6), .int (q 7), .int (q 8)])), (m 1, .inl (gy G 0, 120, .inl sg)), (m 2, .inl (gy G 0, 271, .inl rd)), (m 3, .inl (gy G 0, 271, .inl f)), (m 4, .inl (gy G 0, 271, .inl tr)), (m 5, .inl (gy G 0, 3794, .inl dy)), (m 6, .inl (gy G 0, 542, .inl kp)), (m 7, .inl (gy G 2, 2, .inl ik)), (m 8, .inl (gy G 0, 10, .inl tn))]) E (mX8_refused G m (qU (qU q 1 (nI n)) 5 (nI c)) 3) gX8_book_X8_refused rfl hdX8_refused ⟨Nat.le_of_ble_eq_true rfl, Nat.le_of_ble_eq_true rfl⟩ 8 0 rfl rfl rfl (gPerm_ix [0, 1, 2, 3, 4, 5, 6, 7, 8] rfl rfl) rfl rfl (Nat.le_of_ble_eq_true rfl) dX8_book_57 ⟨Nat.le_of_ble_eq_true rfl, Nat.le_of_ble_eq_true rfl⟩ (gPerm_ix [0, 1, 2, 3, 4, 5, 6, 7, 8] rfl rfl) ?_
          refine g_if_eq (tgt := 65) E dX8_book_60 (by decide) (fun c => absurd c (by decide)) (fun _ => ?_)
          refine g_iconst (v := 0) E dX8_book_63 (by decide) ?_
          exact RET _ _ _ (qU (qU (qU q 0 3) 1 (nI n)) 5 (nI c), sg, rd, f, tr, dy, kp, ik, tn) (gRefP_mk (k := 3) (A := ((n, sg), S, (c, H), sl)) (aAct_3 (by unfold gTryBook; rw [if_pos ⟨c1, gV910.mp c2⟩, if_pos (gTm78.mp c3), nI_clamp (by omega), nI_clamp (by omega), nI_clamp (by omega), nI_clamp (by omega), if_neg c4])) rfl (fun e => absurd e (by decide)) ⟨rfl, rfl, hRR, rfl, hD, hKp⟩) rfl dX8_book_64
        · skip
          refine g_iconst (v := 0) E dX8_book_52 (by decide) ?_
          refine g_goto (tgt := 57) E dX8_book_53 (by decide) ?_
          refine g_callVIe (F := [(m 1, .inl (gy G 0, 120, .inl sg)), (m 2, .inl (gy G 0, 271, .inl rd)), (m 3, .inl (gy G 0, 271, .inl f)), (m 4, .inl (gy G 0, 271, .inl tr)), (m 5, .inl (gy G 0, 3794, .inl dy)), (m 6, .inl (gy G 0, 542, .inl kp)), (m 7, .inl (gy G 2, 2, .inl ik)), (m 8, .inl (gy G 0, 10, .inl tn))]) (ws2 := [(m 0, .inr (8, [.int 0, .ref (m 1), .int (nI n), .int (q 2), .int (q 3), .int (q 4), .ref (m 2), .ref (m 3), .ref (m 4), .ref (m 5), .int (nI c), .ref (m 6), .ref (m 7), .ref (m 8), .int (q 6), .int (q 7), .int (q 8)])), (m 1, .inl (gy G 0, 120, .inl sg)), (m 2, .inl (gy G 0, 271, .inl rd)), (m 3, .inl (gy G 0, 271, .inl f)), (m 4, .inl (gy G 0, 271, .inl tr)), (m 5, .inl (gy G 0, 3794, .inl dy)), (m 6, .inl (gy G 0, 542, .inl kp)), (m 7, .inl (gy G 2, 2, .inl ik)), (m 8, .inl (gy G 0, 10, .inl tn))]) E (mX8_refused G m (qU (qU q 1 (nI n)) 5 (nI c)) 0) gX8_book_X8_refused rfl hdX8_refused ⟨Nat.le_of_ble_eq_true rfl, Nat.le_of_ble_eq_true rfl⟩ 8 0 rfl rfl rfl (gPerm_ix [0, 1, 2, 3, 4, 5, 6, 7, 8] rfl rfl) rfl rfl (Nat.le_of_ble_eq_true rfl) dX8_book_57 ⟨Nat.le_of_ble_eq_true rfl, Nat.le_of_ble_eq_true rfl⟩ (gPerm_ix [0, 1, 2, 3, 4, 5, 6, 7, 8] rfl rfl) ?_
          refine g_if_eq (tgt := 65) E dX8_book_60 (by decide) (fun _ => ?_) (fun c => absurd c (by decide))
          refine g_aload_n E dX8_book_65 rfl 0 rfl ?_
          refine g_callVV (F := [(m 1, .inl (gy G 0, 120, .inl sg)), (m 2, .inl (gy G 0, 271, .inl rd)), (m 4, .inl (gy G 0, 271, .inl tr)), (m 6, .inl (gy G 0, 542, .inl kp)), (m 7, .inl (gy G 2, 2, .inl ik)), (m 8, .inl (gy G 0, 10, .inl tn))]) E (mX8_remember G m (qU (qU (qU q 0 0) 1 (nI n)) 5 (nI c)) c S H f dy hc14 hHo hI hRR hD) gX8_book_X8_remember rfl hdX8_remember ⟨Nat.le_of_ble_eq_true rfl, Nat.le_of_ble_eq_true rfl⟩ 8 0 rfl rfl rfl (gPerm_ix [0, 3, 5, 1, 2, 4, 6, 7, 8] rfl rfl) rfl rfl (Nat.le_of_ble_eq_true rfl) dX8_book_66 ⟨Nat.le_of_ble_eq_true rfl, Nat.le_of_ble_eq_true rfl⟩ (fun dy2 hD2 => ?_)
          refine g_perm (ws1 := [(m 0, .inr (8, [.int 0, .ref (m 1), .int (nI n), .int (q 2), .int (q 3), .int (q 4), .ref (m 2), .ref (m 3), .ref (m 4), .ref (m 5), .int (nI (gHc c)), .ref (m 6), .ref (m 7), .ref (m 8), .int (q 6), .int (q 7), .int (q 8)])), (m 1, .inl (gy G 0, 120, .inl sg)), (m 2, .inl (gy G 0, 271, .inl rd)), (m 3, .inl (gy G 0, 271, .inl f)), (m 4, .inl (gy G 0, 271, .inl tr)), (m 5, .inl (gy G 0, 3794, .inl dy2)), (m 6, .inl (gy G 0, 542, .inl kp)), (m 7, .inl (gy G 2, 2, .inl ik)), (m 8, .inl (gy G 0, 10, .inl tn))]) (gPerm_ix [0, 3, 4, 1, 5, 2, 6, 7, 8] rfl rfl) ?_
          refine g_aload_n E dX8_book_69 rfl 0 rfl ?_
          refine g_get E uX8_book_RX8 0 rfl rfl 7 (by decide) kX8_book_16 rfl rfl dX8_book_70 ?_
          refine g_iload_n E dX8_book_73 rfl 1 rfl ?_
          refine g_iload_n E dX8_book_74 rfl 2 rfl ?_
          refine g_iload_n E dX8_book_75 rfl 3 rfl ?_
          refine g_iload E dX8_book_76 4 rfl ?_
          refine g_callSIu (F := [(m 0, .inr (8, [.int 0, .ref (m 1), .int (nI n), .int (q 2), .int (q 3), .int (q 4), .ref (m 2), .ref (m 3), .ref (m 4), .ref (m 5), .int (nI (gHc c)), .ref (m 6), .ref (m 7), .ref (m 8), .int (q 6), .int (q 7), .int (q 8)])), (m 1, .inl (gy G 0, 120, .inl sg)), (m 2, .inl (gy G 0, 271, .inl rd)), (m 4, .inl (gy G 0, 271, .inl tr)), (m 5, .inl (gy G 0, 3794, .inl dy2)), (m 6, .inl (gy G 0, 542, .inl kp)), (m 7, .inl (gy G 2, 2, .inl ik)), (m 8, .inl (gy G 0, 10, .inl tn))]) E (mX8_bookIn G (m 3) S f j e x y (gFr (gVih (sB S) 2 x y (sB S).length)) (gI1_r hI) hT hRR (by omega) (by omega) (by omega) (by omega) (gBook_ok (gI1_r hI) hb2 c4).2.2.1 (gBook_ok (gI1_r hI) hb2 c4).1 (by have := (gBook_ok (gI1_r hI) hb2 c4).2.1; omega) (gI2_so hJ) (gBook_ok (gI1_r hI) hb2 c4).2.2.2) gX8_book_X8_bookIn rfl hnX8_bookIn ⟨Nat.le_of_ble_eq_true rfl, Nat.le_of_ble_eq_true rfl⟩ (gPerm_ix [3, 0, 1, 2, 4, 5, 6, 7, 8] rfl rfl) rfl rfl (Nat.le_of_ble_eq_true rfl) dX8_book_78 ⟨Nat.le_of_ble_eq_true rfl, Nat.le_of_ble_eq_true rfl⟩ (fun u6 hU6 => ?_)
          have hU6 : RR (gBook S j e x y) u6 := hU6
          refine g_perm (ws1 := [(m 0, .inr (8, [.int 0, .ref (m 1), .int (nI n), .int (q 2), .int (q 3), .int (q 4), .ref (m 2), .ref (m 3), .ref (m 4), .ref (m 5), .int (nI (gHc c)), .ref (m 6), .ref (m 7), .ref (m 8), .int (q 6), .int (q 7), .int (q 8)])), (m 1, .inl (gy G 0, 120, .inl sg)), (m 2, .inl (gy G 0, 271, .inl rd)), (m 3, .inl (gy G 0, 271, .inl u6)), (m 4, .inl (gy G 0, 271, .inl tr)), (m 5, .inl (gy G 0, 3794, .inl dy2)), (m 6, .inl (gy G 0, 542, .inl kp)), (m 7, .inl (gy G 2, 2, .inl ik)), (m 8, .inl (gy G 0, 10, .inl tn))]) (gPerm_ix [1, 2, 3, 0, 4, 5, 6, 7, 8] rfl rfl) ?_
          exact RET _ _ _ (qU (qU (qU q 0 0) 1 (nI n)) 5 (nI (gHc c)), sg, rd, u6, tr, dy2, kp, ik, tn) (gRefP_mk (k := 0) (v := nI (gFr (gVih (sB S) 2 x y (sB S).length))) (A := (aRem ((n, sg), S, (c, H), sl) (gBook S j e x y))) (by exact aAct_0 (v := nI (gFr (gVih (sB S) 2 x y (sB S).length))) (T := gBook S j e x y) (gTB_yes hP8 hT hj he (by omega) (by omega) c3 c4) (nI_nneg (by have := gFr_le (gVih (sB S) 2 x y (sB S).length); omega))) rfl (fun _ => rfl) ⟨rfl, rfl, hU6, rfl, hD2, hKp⟩) rfl dX8_book_81
      · skip
        refine g_iconst (v := 2) E dX8_book_33 (by decide) ?_
        refine g_goto (tgt := 57) E dX8_book_34 (by decide) ?_
        refine g_callVIe (F := [(m 1, .inl (gy G 0, 120, .inl sg)), (m 2, .inl (gy G 0, 271, .inl rd)), (m 3, .inl (gy G 0, 271, .inl f)), (m 4, .inl (gy G 0, 271, .inl tr)), (m 5, .inl (gy G 0, 3794, .inl dy)), (m 6, .inl (gy G 0, 542, .inl kp)), (m 7, .inl (gy G 2, 2, .inl ik)), (m 8, .inl (gy G 0, 10, .inl tn))]) (ws2 := [(m 0, .inr (8, [.int 2, .ref (m 1), .int (nI n), .int (q 2), .int (q 3), .int (q 4), .ref (m 2), .ref (m 3), .ref (m 4), .ref (m 5), .int (nI c), .ref (m 6), .ref (m 7), .ref (m 8), .int (q 6), .int (q 7), .int (q 8)])), (m 1, .inl (gy G 0, 120, .inl sg)), (m 2, .inl (gy G 0, 271, .inl rd)), (m 3, .inl (gy G 0, 271, .inl f)), (m 4, .inl (gy G 0, 271, .inl tr)), (m 5, .inl (gy G 0, 3794, .inl dy)), (m 6, .inl (gy G 0, 542, .inl kp)), (m 7, .inl (gy G 2, 2, .inl ik)), (m 8, .inl (gy G 0, 10, .inl tn))]) E (mX8_refused G m (qU (qU q 1 (nI n)) 5 (nI c)) 2) gX8_book_X8_refused rfl hdX8_refused ⟨Nat.le_of_ble_eq_true rfl, Nat.le_of_ble_eq_true rfl⟩ 8 0 rfl rfl rfl (gPerm_ix [0, 1, 2, 3, 4, 5, 6, 7, 8] rfl rfl) rfl rfl (Nat.le_of_ble_eq_true rfl) dX8_book_57 ⟨Nat.le_of_ble_eq_true rfl, Nat.le_of_ble_eq_true rfl⟩ (gPerm_ix [0, 1, 2, 3, 4, 5, 6, 7, 8] rfl rfl) ?_
        refine g_if_eq (tgt := 65) E dX8_book_60 (by decide) (fun c => absurd c (by decide)) (fun _ => ?_)
        refine g_iconst (v := 0) E dX8_book_63 (by decide) ?_
        exact RET _ _ _ (qU (qU (qU q 0 2) 1 (nI n)) 5 (nI c), sg, rd, f, tr, dy, kp, ik, tn) (gRefP_mk (k := 2) (A := ((n, sg), S, (c, H), sl)) (aAct_2 (by unfold gTryBook; rw [if_pos ⟨c1, gV910.mp c2⟩, if_neg (fun q => c3 (gTm78.mpr q))])) rfl (fun e => absurd e (by decide)) ⟨rfl, rfl, hRR, rfl, hD, hKp⟩) rfl dX8_book_64
    · skip
      refine g_iconst (v := 1) E dX8_book_16 (by decide) ?_
      refine g_goto (tgt := 57) E dX8_book_17 (by decide) ?_
      refine g_callVIe (F := [(m 1, .inl (gy G 0, 120, .inl sg)), (m 2, .inl (gy G 0, 271, .inl rd)), (m 3, .inl (gy G 0, 271, .inl f)), (m 4, .inl (gy G 0, 271, .inl tr)), (m 5, .inl (gy G 0, 3794, .inl dy)), (m 6, .inl (gy G 0, 542, .inl kp)), (m 7, .inl (gy G 2, 2, .inl ik)), (m 8, .inl (gy G 0, 10, .inl tn))]) (ws2 := [(m 0, .inr (8, [.int 1, .ref (m 1), .int (nI n), .int (q 2), .int (q 3), .int (q 4), .ref (m 2), .ref (m 3), .ref (m 4), .ref (m 5), .int (nI c), .ref (m 6), .ref (m 7), .ref (m 8), .int (q 6), .int (q 7), .int (q 8)])), (m 1, .inl (gy G 0, 120, .inl sg)), (m 2, .inl (gy G 0, 271, .inl rd)), (m 3, .inl (gy G 0, 271, .inl f)), (m 4, .inl (gy G 0, 271, .inl tr)), (m 5, .inl (gy G 0, 3794, .inl dy)), (m 6, .inl (gy G 0, 542, .inl kp)), (m 7, .inl (gy G 2, 2, .inl ik)), (m 8, .inl (gy G 0, 10, .inl tn))]) E (mX8_refused G m (qU (qU q 1 (nI n)) 5 (nI c)) 1) gX8_book_X8_refused rfl hdX8_refused ⟨Nat.le_of_ble_eq_true rfl, Nat.le_of_ble_eq_true rfl⟩ 8 0 rfl rfl rfl (gPerm_ix [0, 1, 2, 3, 4, 5, 6, 7, 8] rfl rfl) rfl rfl (Nat.le_of_ble_eq_true rfl) dX8_book_57 ⟨Nat.le_of_ble_eq_true rfl, Nat.le_of_ble_eq_true rfl⟩ (gPerm_ix [0, 1, 2, 3, 4, 5, 6, 7, 8] rfl rfl) ?_
      refine g_if_eq (tgt := 65) E dX8_book_60 (by decide) (fun c => absurd c (by decide)) (fun _ => ?_)
      refine g_iconst (v := 0) E dX8_book_63 (by decide) ?_
      exact RET _ _ _ (qU (qU (qU q 0 1) 1 (nI n)) 5 (nI c), sg, rd, f, tr, dy, kp, ik, tn) (gRefP_mk (k := 1) (A := ((n, sg), S, (c, H), sl)) (aAct_1 (by unfold gTryBook; rw [if_neg (fun q => c2 (gV910.mpr q.2))])) rfl (fun e => absurd e (by decide)) ⟨rfl, rfl, hRR, rfl, hD, hKp⟩) rfl dX8_book_64

set_option maxHeartbeats 4000000 in
set_option maxRecDepth 100000 in
theorem mX8_cancel (G : gG) (m : Nat → Nat) (q : Nat → Int32) (n c : Nat) (sg : Nat → Int32) (S : gSt) (H : Nat → gSt) (sl : Nat → Option gSt) (rd f tr dy kp ik tn : Nat → Int32) (k : Int32) (hn12 : n ≤ 120) (hO : gOk 50000 S) (hc14 : c ≤ 14) (hHo : gHok 50000 c H) (hRR : RR S f) (hD : gDry c H dy) (hKp : gKpt sl kp ik) : CI G yX8_cancel wsX8_cancel 2 47 [.ref (m 0), .int k] [(m 0, .inr (8, [.int (q 0), .ref (m 1), .int (nI n), .int (q 2), .int (q 3), .int (q 4), .ref (m 2), .ref (m 3), .ref (m 4), .ref (m 5), .int (nI c), .ref (m 6), .ref (m 7), .ref (m 8), .int (q 6), .int (q 7), .int (q 8)])), (m 1, .inl (gy G 0, 120, .inl sg)), (m 2, .inl (gy G 0, 271, .inl rd)), (m 3, .inl (gy G 0, 271, .inl f)), (m 4, .inl (gy G 0, 271, .inl tr)), (m 5, .inl (gy G 0, 3794, .inl dy)), (m 6, .inl (gy G 0, 542, .inl kp)), (m 7, .inl (gy G 2, 2, .inl ik)), (m 8, .inl (gy G 0, 10, .inl tn))] (gRefP (aAct 1 0 0 ((n, sg), S, (c, H), sl) (gTryCancel S k))) (fun (u : gRu) => (wR G m u)) 0 0 := by
  refine g_enterI (ty := .int) RX8 rfl (by decide) rfl (Nat.le_of_ble_eq_true rfl) ?_
  intro V E RET
  have hK := hO.1
  have hJ := hK.1
  have hI := hJ.1
  have hT1 := hO.2.2
  have hT2 : sN S 0 < 200000000 := by omega
  have hT : sN S 0 < 1000000000 := by omega
  have hb2 := gI2_b2 hJ
  have hX := hI
  obtain ⟨hP8, hn, hw, hW8, hs3, hs4, hs5, hs6, hs7, hs8, hb34⟩ := hX
  refine g_aload_n E dX8_cancel_0 rfl 0 rfl ?_
  refine g_aload_n E dX8_cancel_1 rfl 0 rfl ?_
  refine g_iload_n E dX8_cancel_2 rfl 1 rfl ?_
  refine g_callVIe (F := [(m 1, .inl (gy G 0, 120, .inl sg)), (m 2, .inl (gy G 0, 271, .inl rd)), (m 4, .inl (gy G 0, 271, .inl tr)), (m 5, .inl (gy G 0, 3794, .inl dy)), (m 6, .inl (gy G 0, 542, .inl kp)), (m 7, .inl (gy G 2, 2, .inl ik)), (m 8, .inl (gy G 0, 10, .inl tn))]) (ws2 := [(m 0, .inr (8, [.int (q 0), .ref (m 1), .int (nI n), .int (q 2), .int (q 3), .int (q 4), .ref (m 2), .ref (m 3), .ref (m 4), .ref (m 5), .int (nI c), .ref (m 6), .ref (m 7), .ref (m 8), .int (q 6), .int (q 7), .int (q 8)])), (m 1, .inl (gy G 0, 120, .inl sg)), (m 2, .inl (gy G 0, 271, .inl rd)), (m 3, .inl (gy G 0, 271, .inl f)), (m 4, .inl (gy G 0, 271, .inl tr)), (m 5, .inl (gy G 0, 3794, .inl dy)), (m 6, .inl (gy G 0, 542, .inl kp)), (m 7, .inl (gy G 2, 2, .inl ik)), (m 8, .inl (gy G 0, 10, .inl tn))]) E (mX8_isBooking G m (qU (qU q 1 (nI n)) 5 (nI c)) S f k hI hT hRR) gX8_cancel_X8_isBooking rfl hdX8_isBooking ⟨Nat.le_of_ble_eq_true rfl, Nat.le_of_ble_eq_true rfl⟩ 8 0 rfl rfl rfl (gPerm_ix [0, 3, 1, 2, 4, 5, 6, 7, 8] rfl rfl) rfl rfl (Nat.le_of_ble_eq_true rfl) dX8_cancel_3 ⟨Nat.le_of_ble_eq_true rfl, Nat.le_of_ble_eq_true rfl⟩ (gPerm_ix [0, 2, 3, 1, 4, 5, 6, 7, 8] rfl rfl) ?_
  refine g_if_eqB (tgt := 13) (P := (¬ k < 0 ∧ ¬ nI ((sB S).length) ≤ k)) E dX8_cancel_6 (by decide) (fun c1 => ?_) (fun c1 => ?_)
  · skip
    refine g_iconst (v := 1) E dX8_cancel_13 (by decide) ?_
    refine g_callVIe (F := [(m 1, .inl (gy G 0, 120, .inl sg)), (m 2, .inl (gy G 0, 271, .inl rd)), (m 3, .inl (gy G 0, 271, .inl f)), (m 4, .inl (gy G 0, 271, .inl tr)), (m 5, .inl (gy G 0, 3794, .inl dy)), (m 6, .inl (gy G 0, 542, .inl kp)), (m 7, .inl (gy G 2, 2, .inl ik)), (m 8, .inl (gy G 0, 10, .inl tn))]) (ws2 := [(m 0, .inr (8, [.int 1, .ref (m 1), .int (nI n), .int (q 2), .int (q 3), .int (q 4), .ref (m 2), .ref (m 3), .ref (m 4), .ref (m 5), .int (nI c), .ref (m 6), .ref (m 7), .ref (m 8), .int (q 6), .int (q 7), .int (q 8)])), (m 1, .inl (gy G 0, 120, .inl sg)), (m 2, .inl (gy G 0, 271, .inl rd)), (m 3, .inl (gy G 0, 271, .inl f)), (m 4, .inl (gy G 0, 271, .inl tr)), (m 5, .inl (gy G 0, 3794, .inl dy)), (m 6, .inl (gy G 0, 542, .inl kp)), (m 7, .inl (gy G 2, 2, .inl ik)), (m 8, .inl (gy G 0, 10, .inl tn))]) E (mX8_refused G m (qU (qU q 1 (nI n)) 5 (nI c)) 1) gX8_cancel_X8_refused rfl hdX8_refused ⟨Nat.le_of_ble_eq_true rfl, Nat.le_of_ble_eq_true rfl⟩ 8 0 rfl rfl rfl (gPerm_ix [0, 1, 2, 3, 4, 5, 6, 7, 8] rfl rfl) rfl rfl (Nat.le_of_ble_eq_true rfl) dX8_cancel_14 ⟨Nat.le_of_ble_eq_true rfl, Nat.le_of_ble_eq_true rfl⟩ (gPerm_ix [0, 1, 2, 3, 4, 5, 6, 7, 8] rfl rfl) ?_
    refine g_if_eq (tgt := 22) E dX8_cancel_17 (by decide) (fun c => absurd c (by decide)) (fun _ => ?_)
    refine g_iconst (v := 0) E dX8_cancel_20 (by decide) ?_
    exact RET _ _ _ (qU (qU (qU q 0 1) 1 (nI n)) 5 (nI c), sg, rd, f, tr, dy, kp, ik, tn) (gRefP_mk (k := 1) (A := ((n, sg), S, (c, H), sl)) (aAct_1 (by unfold gTryCancel; rw [if_neg c1])) rfl (fun e => absurd e (by decide)) ⟨rfl, rfl, hRR, rfl, hD, hKp⟩) rfl dX8_cancel_21
  · skip
    obtain ⟨j, hj, rfl⟩ := gNat_of c1 (by omega)
    refine g_iconst (v := 0) E dX8_cancel_9 (by decide) ?_
    refine g_goto (tgt := 14) E dX8_cancel_10 (by decide) ?_
    refine g_callVIe (F := [(m 1, .inl (gy G 0, 120, .inl sg)), (m 2, .inl (gy G 0, 271, .inl rd)), (m 3, .inl (gy G 0, 271, .inl f)), (m 4, .inl (gy G 0, 271, .inl tr)), (m 5, .inl (gy G 0, 3794, .inl dy)), (m 6, .inl (gy G 0, 542, .inl kp)), (m 7, .inl (gy G 2, 2, .inl ik)), (m 8, .inl (gy G 0, 10, .inl tn))]) (ws2 := [(m 0, .inr (8, [.int 0, .ref (m 1), .int (nI n), .int (q 2), .int (q 3), .int (q 4), .ref (m 2), .ref (m 3), .ref (m 4), .ref (m 5), .int (nI c), .ref (m 6), .ref (m 7), .ref (m 8), .int (q 6), .int (q 7), .int (q 8)])), (m 1, .inl (gy G 0, 120, .inl sg)), (m 2, .inl (gy G 0, 271, .inl rd)), (m 3, .inl (gy G 0, 271, .inl f)), (m 4, .inl (gy G 0, 271, .inl tr)), (m 5, .inl (gy G 0, 3794, .inl dy)), (m 6, .inl (gy G 0, 542, .inl kp)), (m 7, .inl (gy G 2, 2, .inl ik)), (m 8, .inl (gy G 0, 10, .inl tn))]) E (mX8_refused G m (qU (qU q 1 (nI n)) 5 (nI c)) 0) gX8_cancel_X8_refused rfl hdX8_refused ⟨Nat.le_of_ble_eq_true rfl, Nat.le_of_ble_eq_true rfl⟩ 8 0 rfl rfl rfl (gPerm_ix [0, 1, 2, 3, 4, 5, 6, 7, 8] rfl rfl) rfl rfl (Nat.le_of_ble_eq_true rfl) dX8_cancel_14 ⟨Nat.le_of_ble_eq_true rfl, Nat.le_of_ble_eq_true rfl⟩ (gPerm_ix [0, 1, 2, 3, 4, 5, 6, 7, 8] rfl rfl) ?_
    refine g_if_eq (tgt := 22) E dX8_cancel_17 (by decide) (fun _ => ?_) (fun c => absurd c (by decide))
    refine g_aload_n E dX8_cancel_22 rfl 0 rfl ?_
    refine g_callVV (F := [(m 1, .inl (gy G 0, 120, .inl sg)), (m 2, .inl (gy G 0, 271, .inl rd)), (m 4, .inl (gy G 0, 271, .inl tr)), (m 6, .inl (gy G 0, 542, .inl kp)), (m 7, .inl (gy G 2, 2, .inl ik)), (m 8, .inl (gy G 0, 10, .inl tn))]) E (mX8_remember G m (qU (qU (qU q 0 0) 1 (nI n)) 5 (nI c)) c S H f dy hc14 hHo hI hRR hD) gX8_cancel_X8_remember rfl hdX8_remember ⟨Nat.le_of_ble_eq_true rfl, Nat.le_of_ble_eq_true rfl⟩ 8 0 rfl rfl rfl (gPerm_ix [0, 3, 5, 1, 2, 4, 6, 7, 8] rfl rfl) rfl rfl (Nat.le_of_ble_eq_true rfl) dX8_cancel_23 ⟨Nat.le_of_ble_eq_true rfl, Nat.le_of_ble_eq_true rfl⟩ (fun dy2 hD2 => ?_)
    refine g_perm (ws1 := [(m 0, .inr (8, [.int 0, .ref (m 1), .int (nI n), .int (q 2), .int (q 3), .int (q 4), .ref (m 2), .ref (m 3), .ref (m 4), .ref (m 5), .int (nI (gHc c)), .ref (m 6), .ref (m 7), .ref (m 8), .int (q 6), .int (q 7), .int (q 8)])), (m 1, .inl (gy G 0, 120, .inl sg)), (m 2, .inl (gy G 0, 271, .inl rd)), (m 3, .inl (gy G 0, 271, .inl f)), (m 4, .inl (gy G 0, 271, .inl tr)), (m 5, .inl (gy G 0, 3794, .inl dy2)), (m 6, .inl (gy G 0, 542, .inl kp)), (m 7, .inl (gy G 2, 2, .inl ik)), (m 8, .inl (gy G 0, 10, .inl tn))]) (gPerm_ix [0, 3, 4, 1, 5, 2, 6, 7, 8] rfl rfl) ?_
    refine g_aload_n E dX8_cancel_26 rfl 0 rfl ?_
    refine g_get E uX8_cancel_RX8 0 rfl rfl 7 (by decide) kX8_cancel_16 rfl rfl dX8_cancel_27 ?_
    refine g_iload_n E dX8_cancel_30 rfl 1 rfl ?_
    refine g_callSIu (F := [(m 0, .inr (8, [.int 0, .ref (m 1), .int (nI n), .int (q 2), .int (q 3), .int (q 4), .ref (m 2), .ref (m 3), .ref (m 4), .ref (m 5), .int (nI (gHc c)), .ref (m 6), .ref (m 7), .ref (m 8), .int (q 6), .int (q 7), .int (q 8)])), (m 1, .inl (gy G 0, 120, .inl sg)), (m 2, .inl (gy G 0, 271, .inl rd)), (m 4, .inl (gy G 0, 271, .inl tr)), (m 5, .inl (gy G 0, 3794, .inl dy2)), (m 6, .inl (gy G 0, 542, .inl kp)), (m 7, .inl (gy G 2, 2, .inl ik)), (m 8, .inl (gy G 0, 10, .inl tn))]) E (mX8_cancelIn G (m 3) S f j hI hT hRR (by omega)) gX8_cancel_X8_cancelIn rfl hnX8_cancelIn ⟨Nat.le_of_ble_eq_true rfl, Nat.le_of_ble_eq_true rfl⟩ (gPerm_ix [3, 0, 1, 2, 4, 5, 6, 7, 8] rfl rfl) rfl rfl (Nat.le_of_ble_eq_true rfl) dX8_cancel_31 ⟨Nat.le_of_ble_eq_true rfl, Nat.le_of_ble_eq_true rfl⟩ (fun u3 hU3 => ?_)
    obtain ⟨S3, xE3⟩ : ∃ x, x = uB S ((sB S).eraseIdx j) := ⟨_, rfl⟩
    have hRR3 : RR S3 u3 := by rw [xE3]; exact hU3
    have hI3 : gI1 S3 := by rw [xE3]; exact gI1_erase hI _
    have hT3 : sN S3 0 < 1000000000 := by rw [xE3]; exact hT
    refine g_perm (ws1 := [(m 0, .inr (8, [.int 0, .ref (m 1), .int (nI n), .int (q 2), .int (q 3), .int (q 4), .ref (m 2), .ref (m 3), .ref (m 4), .ref (m 5), .int (nI (gHc c)), .ref (m 6), .ref (m 7), .ref (m 8), .int (q 6), .int (q 7), .int (q 8)])), (m 1, .inl (gy G 0, 120, .inl sg)), (m 2, .inl (gy G 0, 271, .inl rd)), (m 3, .inl (gy G 0, 271, .inl u3)), (m 4, .inl (gy G 0, 271, .inl tr)), (m 5, .inl (gy G 0, 3794, .inl dy2)), (m 6, .inl (gy G 0, 542, .inl kp)), (m 7, .inl (gy G 2, 2, .inl ik)), (m 8, .inl (gy G 0, 10, .inl tn))]) (gPerm_ix [1, 2, 3, 0, 4, 5, 6, 7, 8] rfl rfl) ?_
    exact RET _ _ _ (qU (qU (qU q 0 0) 1 (nI n)) 5 (nI (gHc c)), sg, rd, u3, tr, dy2, kp, ik, tn) (gRefP_mk (k := 0) (v := nI ((sB S).length - 1)) (A := (aRem ((n, sg), S, (c, H), sl) S3)) (by exact aAct_0 (v := nI ((sB S).length - 1)) (T := S3) (by rw [xE3]; unfold gTryCancel; rw [if_pos c1, nI_clamp (by omega), List.length_eraseIdx, if_pos hj]) (nI_nneg (by omega))) rfl (fun _ => rfl) ⟨rfl, rfl, hRR3, rfl, hD2, hKp⟩) rfl dX8_cancel_34

set_option maxHeartbeats 4000000 in
set_option maxRecDepth 100000 in
theorem mX8_late (G : gG) (m : Nat → Nat) (q : Nat → Int32) (n c : Nat) (sg : Nat → Int32) (S : gSt) (H : Nat → gSt) (sl : Nat → Option gSt) (rd f tr dy kp ik tn : Nat → Int32) (k z : Int32) (hn12 : n ≤ 120) (hO : gOk 50000 S) (hc14 : c ≤ 14) (hHo : gHok 50000 c H) (hRR : RR S f) (hD : gDry c H dy) (hKp : gKpt sl kp ik) : CI G yX8_late wsX8_late 2 46 [.ref (m 0), .int k, .int z] [(m 0, .inr (8, [.int (q 0), .ref (m 1), .int (nI n), .int (q 2), .int (q 3), .int (q 4), .ref (m 2), .ref (m 3), .ref (m 4), .ref (m 5), .int (nI c), .ref (m 6), .ref (m 7), .ref (m 8), .int (q 6), .int (q 7), .int (q 8)])), (m 1, .inl (gy G 0, 120, .inl sg)), (m 2, .inl (gy G 0, 271, .inl rd)), (m 3, .inl (gy G 0, 271, .inl f)), (m 4, .inl (gy G 0, 271, .inl tr)), (m 5, .inl (gy G 0, 3794, .inl dy)), (m 6, .inl (gy G 0, 542, .inl kp)), (m 7, .inl (gy G 2, 2, .inl ik)), (m 8, .inl (gy G 0, 10, .inl tn))] (gRefP (aAct 1 2 0 ((n, sg), S, (c, H), sl) (gTryLate S k z))) (fun (u : gRu) => (wR G m u)) 0 0 := by
  refine g_enterI (ty := .int) RX8 rfl (by decide) rfl (Nat.le_of_ble_eq_true rfl) ?_
  intro V E RET
  have hK := hO.1
  have hJ := hK.1
  have hI := hJ.1
  have hT1 := hO.2.2
  have hT2 : sN S 0 < 200000000 := by omega
  have hT : sN S 0 < 1000000000 := by omega
  have hb2 := gI2_b2 hJ
  have hX := hI
  obtain ⟨hP8, hn, hw, hW8, hs3, hs4, hs5, hs6, hs7, hs8, hb34⟩ := hX
  refine g_aload_n E dX8_late_0 rfl 0 rfl ?_
  refine g_aload_n E dX8_late_1 rfl 0 rfl ?_
  refine g_iload_n E dX8_late_2 rfl 1 rfl ?_
  refine g_callVIe (F := [(m 1, .inl (gy G 0, 120, .inl sg)), (m 2, .inl (gy G 0, 271, .inl rd)), (m 4, .inl (gy G 0, 271, .inl tr)), (m 5, .inl (gy G 0, 3794, .inl dy)), (m 6, .inl (gy G 0, 542, .inl kp)), (m 7, .inl (gy G 2, 2, .inl ik)), (m 8, .inl (gy G 0, 10, .inl tn))]) (ws2 := [(m 0, .inr (8, [.int (q 0), .ref (m 1), .int (nI n), .int (q 2), .int (q 3), .int (q 4), .ref (m 2), .ref (m 3), .ref (m 4), .ref (m 5), .int (nI c), .ref (m 6), .ref (m 7), .ref (m 8), .int (q 6), .int (q 7), .int (q 8)])), (m 1, .inl (gy G 0, 120, .inl sg)), (m 2, .inl (gy G 0, 271, .inl rd)), (m 3, .inl (gy G 0, 271, .inl f)), (m 4, .inl (gy G 0, 271, .inl tr)), (m 5, .inl (gy G 0, 3794, .inl dy)), (m 6, .inl (gy G 0, 542, .inl kp)), (m 7, .inl (gy G 2, 2, .inl ik)), (m 8, .inl (gy G 0, 10, .inl tn))]) E (mX8_isBooking G m (qU (qU q 1 (nI n)) 5 (nI c)) S f k hI hT hRR) gX8_late_X8_isBooking rfl hdX8_isBooking ⟨Nat.le_of_ble_eq_true rfl, Nat.le_of_ble_eq_true rfl⟩ 8 0 rfl rfl rfl (gPerm_ix [0, 3, 1, 2, 4, 5, 6, 7, 8] rfl rfl) rfl rfl (Nat.le_of_ble_eq_true rfl) dX8_late_3 ⟨Nat.le_of_ble_eq_true rfl, Nat.le_of_ble_eq_true rfl⟩ (gPerm_ix [0, 2, 3, 1, 4, 5, 6, 7, 8] rfl rfl) ?_
  refine g_if_neB (tgt := 13) (P := (¬ k < 0 ∧ ¬ nI ((sB S).length) ≤ k)) E dX8_late_6 (by decide) (fun c1 => ?_) (fun c1 => ?_)
  · skip
    obtain ⟨j, hj, rfl⟩ := gNat_of c1 (by omega)
    refine g_iload_n E dX8_late_13 rfl 2 rfl ?_
    refine g_i2l (v := z.toInt64) E dX8_late_14 rfl ?_
    refine g_lconst (v := 0) E dX8_late_15 (by decide) ?_
    refine g_ldc2 (v := 59) E kX8_late_288 dX8_late_16 ?_
    refine g_callSIe (F := [(m 0, .inr (8, [.int (q 0), .ref (m 1), .int (nI n), .int (q 2), .int (q 3), .int (q 4), .ref (m 2), .ref (m 3), .ref (m 4), .ref (m 5), .int (nI c), .ref (m 6), .ref (m 7), .ref (m 8), .int (q 6), .int (q 7), .int (q 8)])), (m 1, .inl (gy G 0, 120, .inl sg)), (m 2, .inl (gy G 0, 271, .inl rd)), (m 3, .inl (gy G 0, 271, .inl f)), (m 4, .inl (gy G 0, 271, .inl tr)), (m 5, .inl (gy G 0, 3794, .inl dy)), (m 6, .inl (gy G 0, 542, .inl kp)), (m 7, .inl (gy G 2, 2, .inl ik)), (m 8, .inl (gy G 0, 10, .inl tn))]) (ws2 := [(m 0, .inr (8, [.int (q 0), .ref (m 1), .int (nI n), .int (q 2), .int (q 3), .int (q 4), .ref (m 2), .ref (m 3), .ref (m 4), .ref (m 5), .int (nI c), .ref (m 6), .ref (m 7), .ref (m 8), .int (q 6), .int (q 7), .int (q 8)])), (m 1, .inl (gy G 0, 120, .inl sg)), (m 2, .inl (gy G 0, 271, .inl rd)), (m 3, .inl (gy G 0, 271, .inl f)), (m 4, .inl (gy G 0, 271, .inl tr)), (m 5, .inl (gy G 0, 3794, .inl dy)), (m 6, .inl (gy G 0, 542, .inl kp)), (m 7, .inl (gy G 2, 2, .inl ik)), (m 8, .inl (gy G 0, 10, .inl tn))]) E (g_resI (gIn64 (lo := 0) (hi := 59) rfl rfl) (mX8_in G z.toInt64 0 59)) gX8_late_X8_in rfl hnX8_in ⟨Nat.le_of_ble_eq_true rfl, Nat.le_of_ble_eq_true rfl⟩ (gPerm_ix [0, 1, 2, 3, 4, 5, 6, 7, 8] rfl rfl) rfl rfl (Nat.le_of_ble_eq_true rfl) dX8_late_19 ⟨Nat.le_of_ble_eq_true rfl, Nat.le_of_ble_eq_true rfl⟩ (gPerm_ix [0, 1, 2, 3, 4, 5, 6, 7, 8] rfl rfl) ?_
    refine g_if_eqB (tgt := 29) (P := (¬ z < 0 ∧ ¬ 59 < z)) E dX8_late_22 (by decide) (fun c2 => ?_) (fun c2 => ?_)
    · skip
      refine g_iconst (v := 2) E dX8_late_29 (by decide) ?_
      refine g_callVIe (F := [(m 1, .inl (gy G 0, 120, .inl sg)), (m 2, .inl (gy G 0, 271, .inl rd)), (m 3, .inl (gy G 0, 271, .inl f)), (m 4, .inl (gy G 0, 271, .inl tr)), (m 5, .inl (gy G 0, 3794, .inl dy)), (m 6, .inl (gy G 0, 542, .inl kp)), (m 7, .inl (gy G 2, 2, .inl ik)), (m 8, .inl (gy G 0, 10, .inl tn))]) (ws2 := [(m 0, .inr (8, [.int 2, .ref (m 1), .int (nI n), .int (q 2), .int (q 3), .int (q 4), .ref (m 2), .ref (m 3), .ref (m 4), .ref (m 5), .int (nI c), .ref (m 6), .ref (m 7), .ref (m 8), .int (q 6), .int (q 7), .int (q 8)])), (m 1, .inl (gy G 0, 120, .inl sg)), (m 2, .inl (gy G 0, 271, .inl rd)), (m 3, .inl (gy G 0, 271, .inl f)), (m 4, .inl (gy G 0, 271, .inl tr)), (m 5, .inl (gy G 0, 3794, .inl dy)), (m 6, .inl (gy G 0, 542, .inl kp)), (m 7, .inl (gy G 2, 2, .inl ik)), (m 8, .inl (gy G 0, 10, .inl tn))]) E (mX8_refused G m (qU (qU q 1 (nI n)) 5 (nI c)) 2) gX8_late_X8_refused rfl hdX8_refused ⟨Nat.le_of_ble_eq_true rfl, Nat.le_of_ble_eq_true rfl⟩ 8 0 rfl rfl rfl (gPerm_ix [0, 1, 2, 3, 4, 5, 6, 7, 8] rfl rfl) rfl rfl (Nat.le_of_ble_eq_true rfl) dX8_late_30 ⟨Nat.le_of_ble_eq_true rfl, Nat.le_of_ble_eq_true rfl⟩ (gPerm_ix [0, 1, 2, 3, 4, 5, 6, 7, 8] rfl rfl) ?_
      refine g_if_eq (tgt := 38) E dX8_late_33 (by decide) (fun c => absurd c (by decide)) (fun _ => ?_)
      refine g_iconst (v := 0) E dX8_late_36 (by decide) ?_
      exact RET _ _ _ (qU (qU (qU q 0 2) 1 (nI n)) 5 (nI c), sg, rd, f, tr, dy, kp, ik, tn) (gRefP_mk (k := 2) (A := ((n, sg), S, (c, H), sl)) (aAct_2 (by unfold gTryLate; rw [if_pos c1, if_neg c2])) rfl (fun e => absurd e (by decide)) ⟨rfl, rfl, hRR, rfl, hD, hKp⟩) rfl dX8_late_37
    · skip
      obtain ⟨e, he, rfl⟩ := gNat_ofl (m := 59) c2 rfl rfl (by decide)
      refine g_iconst (v := 0) E dX8_late_25 (by decide) ?_
      refine g_goto (tgt := 30) E dX8_late_26 (by decide) ?_
      refine g_callVIe (F := [(m 1, .inl (gy G 0, 120, .inl sg)), (m 2, .inl (gy G 0, 271, .inl rd)), (m 3, .inl (gy G 0, 271, .inl f)), (m 4, .inl (gy G 0, 271, .inl tr)), (m 5, .inl (gy G 0, 3794, .inl dy)), (m 6, .inl (gy G 0, 542, .inl kp)), (m 7, .inl (gy G 2, 2, .inl ik)), (m 8, .inl (gy G 0, 10, .inl tn))]) (ws2 := [(m 0, .inr (8, [.int 0, .ref (m 1), .int (nI n), .int (q 2), .int (q 3), .int (q 4), .ref (m 2), .ref (m 3), .ref (m 4), .ref (m 5), .int (nI c), .ref (m 6), .ref (m 7), .ref (m 8), .int (q 6), .int (q 7), .int (q 8)])), (m 1, .inl (gy G 0, 120, .inl sg)), (m 2, .inl (gy G 0, 271, .inl rd)), (m 3, .inl (gy G 0, 271, .inl f)), (m 4, .inl (gy G 0, 271, .inl tr)), (m 5, .inl (gy G 0, 3794, .inl dy)), (m 6, .inl (gy G 0, 542, .inl kp)), (m 7, .inl (gy G 2, 2, .inl ik)), (m 8, .inl (gy G 0, 10, .inl tn))]) E (mX8_refused G m (qU (qU q 1 (nI n)) 5 (nI c)) 0) gX8_late_X8_refused rfl hdX8_refused ⟨Nat.le_of_ble_eq_true rfl, Nat.le_of_ble_eq_true rfl⟩ 8 0 rfl rfl rfl (gPerm_ix [0, 1, 2, 3, 4, 5, 6, 7, 8] rfl rfl) rfl rfl (Nat.le_of_ble_eq_true rfl) dX8_late_30 ⟨Nat.le_of_ble_eq_true rfl, Nat.le_of_ble_eq_true rfl⟩ (gPerm_ix [0, 1, 2, 3, 4, 5, 6, 7, 8] rfl rfl) ?_
      refine g_if_eq (tgt := 38) E dX8_late_33 (by decide) (fun _ => ?_) (fun c => absurd c (by decide))
      refine g_aload_n E dX8_late_38 rfl 0 rfl ?_
      refine g_callVV (F := [(m 1, .inl (gy G 0, 120, .inl sg)), (m 2, .inl (gy G 0, 271, .inl rd)), (m 4, .inl (gy G 0, 271, .inl tr)), (m 6, .inl (gy G 0, 542, .inl kp)), (m 7, .inl (gy G 2, 2, .inl ik)), (m 8, .inl (gy G 0, 10, .inl tn))]) E (mX8_remember G m (qU (qU (qU q 0 0) 1 (nI n)) 5 (nI c)) c S H f dy hc14 hHo hI hRR hD) gX8_late_X8_remember rfl hdX8_remember ⟨Nat.le_of_ble_eq_true rfl, Nat.le_of_ble_eq_true rfl⟩ 8 0 rfl rfl rfl (gPerm_ix [0, 3, 5, 1, 2, 4, 6, 7, 8] rfl rfl) rfl rfl (Nat.le_of_ble_eq_true rfl) dX8_late_39 ⟨Nat.le_of_ble_eq_true rfl, Nat.le_of_ble_eq_true rfl⟩ (fun dy2 hD2 => ?_)
      refine g_perm (ws1 := [(m 0, .inr (8, [.int 0, .ref (m 1), .int (nI n), .int (q 2), .int (q 3), .int (q 4), .ref (m 2), .ref (m 3), .ref (m 4), .ref (m 5), .int (nI (gHc c)), .ref (m 6), .ref (m 7), .ref (m 8), .int (q 6), .int (q 7), .int (q 8)])), (m 1, .inl (gy G 0, 120, .inl sg)), (m 2, .inl (gy G 0, 271, .inl rd)), (m 3, .inl (gy G 0, 271, .inl f)), (m 4, .inl (gy G 0, 271, .inl tr)), (m 5, .inl (gy G 0, 3794, .inl dy2)), (m 6, .inl (gy G 0, 542, .inl kp)), (m 7, .inl (gy G 2, 2, .inl ik)), (m 8, .inl (gy G 0, 10, .inl tn))]) (gPerm_ix [0, 3, 4, 1, 5, 2, 6, 7, 8] rfl rfl) ?_
      refine g_aload_n E dX8_late_42 rfl 0 rfl ?_
      refine g_get E uX8_late_RX8 0 rfl rfl 7 (by decide) kX8_late_16 rfl rfl dX8_late_43 ?_
      refine g_iload_n E dX8_late_46 rfl 1 rfl ?_
      refine g_iconst (v := 5) E dX8_late_47 (by decide) ?_
      refine g_callSIe (F := [(m 0, .inr (8, [.int 0, .ref (m 1), .int (nI n), .int (q 2), .int (q 3), .int (q 4), .ref (m 2), .ref (m 3), .ref (m 4), .ref (m 5), .int (nI (gHc c)), .ref (m 6), .ref (m 7), .ref (m 8), .int (q 6), .int (q 7), .int (q 8)])), (m 1, .inl (gy G 0, 120, .inl sg)), (m 2, .inl (gy G 0, 271, .inl rd)), (m 3, .inl (gy G 0, 271, .inl f)), (m 4, .inl (gy G 0, 271, .inl tr)), (m 5, .inl (gy G 0, 3794, .inl dy2)), (m 6, .inl (gy G 0, 542, .inl kp)), (m 7, .inl (gy G 2, 2, .inl ik)), (m 8, .inl (gy G 0, 10, .inl tn))]) (ws2 := [(m 0, .inr (8, [.int 0, .ref (m 1), .int (nI n), .int (q 2), .int (q 3), .int (q 4), .ref (m 2), .ref (m 3), .ref (m 4), .ref (m 5), .int (nI (gHc c)), .ref (m 6), .ref (m 7), .ref (m 8), .int (q 6), .int (q 7), .int (q 8)])), (m 1, .inl (gy G 0, 120, .inl sg)), (m 2, .inl (gy G 0, 271, .inl rd)), (m 3, .inl (gy G 0, 271, .inl f)), (m 4, .inl (gy G 0, 271, .inl tr)), (m 5, .inl (gy G 0, 3794, .inl dy2)), (m 6, .inl (gy G 0, 542, .inl kp)), (m 7, .inl (gy G 2, 2, .inl ik)), (m 8, .inl (gy G 0, 10, .inl tn))]) E (mX8_bookingAt G j 5 (by omega) (by omega)) gX8_late_X8_bookingAt rfl hnX8_bookingAt ⟨Nat.le_of_ble_eq_true rfl, Nat.le_of_ble_eq_true rfl⟩ (gPerm_ix [0, 1, 2, 3, 4, 5, 6, 7, 8] rfl rfl) rfl rfl (Nat.le_of_ble_eq_true rfl) dX8_late_48 ⟨Nat.le_of_ble_eq_true rfl, Nat.le_of_ble_eq_true rfl⟩ (gPerm_ix [0, 1, 2, 3, 4, 5, 6, 7, 8] rfl rfl) ?_
      refine g_ialdN (e := 93 + 7 * j + 5) E 3 rfl (by omega) rfl (v := nI (bk (sB S) j 5)) (RR_B hRR (k := j) (w := 5) (by omega) (by omega)) dX8_late_51 ?_
      refine g_istore_n (lv' := [(3, .int (nI (bk (sB S) j 5))), (0, .ref (m 0)), (1, .int (nI j)), (2, .int (nI e))]) E dX8_late_52 rfl (by decide) rfl ?_
      refine g_aload_n E dX8_late_53 rfl 1 rfl ?_
      refine g_get E uX8_late_RX8 0 rfl rfl 7 (by decide) kX8_late_16 rfl rfl dX8_late_54 ?_
      refine g_iload_n E dX8_late_57 rfl 2 rfl ?_
      refine g_iconst (v := 5) E dX8_late_58 (by decide) ?_
      refine g_callSIe (F := [(m 0, .inr (8, [.int 0, .ref (m 1), .int (nI n), .int (q 2), .int (q 3), .int (q 4), .ref (m 2), .ref (m 3), .ref (m 4), .ref (m 5), .int (nI (gHc c)), .ref (m 6), .ref (m 7), .ref (m 8), .int (q 6), .int (q 7), .int (q 8)])), (m 1, .inl (gy G 0, 120, .inl sg)), (m 2, .inl (gy G 0, 271, .inl rd)), (m 3, .inl (gy G 0, 271, .inl f)), (m 4, .inl (gy G 0, 271, .inl tr)), (m 5, .inl (gy G 0, 3794, .inl dy2)), (m 6, .inl (gy G 0, 542, .inl kp)), (m 7, .inl (gy G 2, 2, .inl ik)), (m 8, .inl (gy G 0, 10, .inl tn))]) (ws2 := [(m 0, .inr (8, [.int 0, .ref (m 1), .int (nI n), .int (q 2), .int (q 3), .int (q 4), .ref (m 2), .ref (m 3), .ref (m 4), .ref (m 5), .int (nI (gHc c)), .ref (m 6), .ref (m 7), .ref (m 8), .int (q 6), .int (q 7), .int (q 8)])), (m 1, .inl (gy G 0, 120, .inl sg)), (m 2, .inl (gy G 0, 271, .inl rd)), (m 3, .inl (gy G 0, 271, .inl f)), (m 4, .inl (gy G 0, 271, .inl tr)), (m 5, .inl (gy G 0, 3794, .inl dy2)), (m 6, .inl (gy G 0, 542, .inl kp)), (m 7, .inl (gy G 2, 2, .inl ik)), (m 8, .inl (gy G 0, 10, .inl tn))]) E (mX8_bookingAt G j 5 (by omega) (by omega)) gX8_late_X8_bookingAt rfl hnX8_bookingAt ⟨Nat.le_of_ble_eq_true rfl, Nat.le_of_ble_eq_true rfl⟩ (gPerm_ix [0, 1, 2, 3, 4, 5, 6, 7, 8] rfl rfl) rfl rfl (Nat.le_of_ble_eq_true rfl) dX8_late_59 ⟨Nat.le_of_ble_eq_true rfl, Nat.le_of_ble_eq_true rfl⟩ (gPerm_ix [0, 1, 2, 3, 4, 5, 6, 7, 8] rfl rfl) ?_
      refine g_iload_n E dX8_late_62 rfl 3 rfl ?_
      refine g_iast (ws' := [(m 0, .inr (8, [.int 0, .ref (m 1), .int (nI n), .int (q 2), .int (q 3), .int (q 4), .ref (m 2), .ref (m 3), .ref (m 4), .ref (m 5), .int (nI (gHc c)), .ref (m 6), .ref (m 7), .ref (m 8), .int (q 6), .int (q 7), .int (q 8)])), (m 1, .inl (gy G 0, 120, .inl sg)), (m 2, .inl (gy G 0, 271, .inl rd)), (m 3, .inl (gy G 0, 271, .inl (upd f (93 + 7 * j + 5) (nI e)))), (m 4, .inl (gy G 0, 271, .inl tr)), (m 5, .inl (gy G 0, 3794, .inl dy2)), (m 6, .inl (gy G 0, 542, .inl kp)), (m 7, .inl (gy G 2, 2, .inl ik)), (m 8, .inl (gy G 0, 10, .inl tn))]) (j := 93 + 7 * j + 5) (y := nI e) E 3 rfl (g_in (e := 93 + 7 * j + 5) (by omega) rfl) (nI_clamp (n := 93 + 7 * j + 5) (by omega)) rfl rfl dX8_late_63 ?_
      have hRR4 : RR (gLate S j e) (upd f (93 + 7 * j + 5) (nI e)) := RR_late hRR hn hj (by omega)
      refine g_iload_n E dX8_late_64 rfl 0 rfl ?_
      have hf5 := (hJ.2.2.1 j hj).2.2.2.2.1
      exact RET _ _ _ (qU (qU (qU q 0 0) 1 (nI n)) 5 (nI (gHc c)), sg, rd, upd f (93 + 7 * j + 5) (nI e), tr, dy2, kp, ik, tn) (gRefP_mk (k := 0) (v := nI (bk (sB S) j 5)) (A := (aRem ((n, sg), S, (c, H), sl) (gLate S j e))) (by exact aAct_0 (v := nI (bk (sB S) j 5)) (T := gLate S j e) (by unfold gTryLate; rw [if_pos c1, if_pos c2, nI_clamp (by omega), nI_clamp (by omega)]) (nI_nneg (by omega))) rfl (fun _ => rfl) ⟨rfl, rfl, hRR4, rfl, hD2, hKp⟩) rfl dX8_late_65
  · skip
    refine g_iconst (v := 1) E dX8_late_9 (by decide) ?_
    refine g_goto (tgt := 30) E dX8_late_10 (by decide) ?_
    refine g_callVIe (F := [(m 1, .inl (gy G 0, 120, .inl sg)), (m 2, .inl (gy G 0, 271, .inl rd)), (m 3, .inl (gy G 0, 271, .inl f)), (m 4, .inl (gy G 0, 271, .inl tr)), (m 5, .inl (gy G 0, 3794, .inl dy)), (m 6, .inl (gy G 0, 542, .inl kp)), (m 7, .inl (gy G 2, 2, .inl ik)), (m 8, .inl (gy G 0, 10, .inl tn))]) (ws2 := [(m 0, .inr (8, [.int 1, .ref (m 1), .int (nI n), .int (q 2), .int (q 3), .int (q 4), .ref (m 2), .ref (m 3), .ref (m 4), .ref (m 5), .int (nI c), .ref (m 6), .ref (m 7), .ref (m 8), .int (q 6), .int (q 7), .int (q 8)])), (m 1, .inl (gy G 0, 120, .inl sg)), (m 2, .inl (gy G 0, 271, .inl rd)), (m 3, .inl (gy G 0, 271, .inl f)), (m 4, .inl (gy G 0, 271, .inl tr)), (m 5, .inl (gy G 0, 3794, .inl dy)), (m 6, .inl (gy G 0, 542, .inl kp)), (m 7, .inl (gy G 2, 2, .inl ik)), (m 8, .inl (gy G 0, 10, .inl tn))]) E (mX8_refused G m (qU (qU q 1 (nI n)) 5 (nI c)) 1) gX8_late_X8_refused rfl hdX8_refused ⟨Nat.le_of_ble_eq_true rfl, Nat.le_of_ble_eq_true rfl⟩ 8 0 rfl rfl rfl (gPerm_ix [0, 1, 2, 3, 4, 5, 6, 7, 8] rfl rfl) rfl rfl (Nat.le_of_ble_eq_true rfl) dX8_late_30 ⟨Nat.le_of_ble_eq_true rfl, Nat.le_of_ble_eq_true rfl⟩ (gPerm_ix [0, 1, 2, 3, 4, 5, 6, 7, 8] rfl rfl) ?_
    refine g_if_eq (tgt := 38) E dX8_late_33 (by decide) (fun c => absurd c (by decide)) (fun _ => ?_)
    refine g_iconst (v := 0) E dX8_late_36 (by decide) ?_
    exact RET _ _ _ (qU (qU (qU q 0 1) 1 (nI n)) 5 (nI c), sg, rd, f, tr, dy, kp, ik, tn) (gRefP_mk (k := 1) (A := ((n, sg), S, (c, H), sl)) (aAct_1 (by unfold gTryLate; rw [if_neg c1])) rfl (fun e => absurd e (by decide)) ⟨rfl, rfl, hRR, rfl, hD, hKp⟩) rfl dX8_late_37

set_option maxHeartbeats 4000000 in
set_option maxRecDepth 100000 in
theorem mX8_carry (G : gG) (m : Nat → Nat) (q : Nat → Int32) (n c : Nat) (sg : Nat → Int32) (S : gSt) (H : Nat → gSt) (sl : Nat → Option gSt) (rd f tr dy kp ik tn : Nat → Int32) (v b : Int32) (hn12 : n ≤ 120) (hO : gOk 50000 S) (hc14 : c ≤ 14) (hHo : gHok 50000 c H) (hRR : RR S f) (hD : gDry c H dy) (hKp : gKpt sl kp ik) : CI G yX8_carry wsX8_carry 2 45 [.ref (m 0), .int v, .int b] [(m 0, .inr (8, [.int (q 0), .ref (m 1), .int (nI n), .int (q 2), .int (q 3), .int (q 4), .ref (m 2), .ref (m 3), .ref (m 4), .ref (m 5), .int (nI c), .ref (m 6), .ref (m 7), .ref (m 8), .int (q 6), .int (q 7), .int (q 8)])), (m 1, .inl (gy G 0, 120, .inl sg)), (m 2, .inl (gy G 0, 271, .inl rd)), (m 3, .inl (gy G 0, 271, .inl f)), (m 4, .inl (gy G 0, 271, .inl tr)), (m 5, .inl (gy G 0, 3794, .inl dy)), (m 6, .inl (gy G 0, 542, .inl kp)), (m 7, .inl (gy G 2, 2, .inl ik)), (m 8, .inl (gy G 0, 10, .inl tn))] (gRefP (aAct 1 0 0 ((n, sg), S, (c, H), sl) (gTryCarry S v b))) (fun (u : gRu) => (wR G m u)) 0 0 := by
  refine g_enterI (ty := .int) RX8 rfl (by decide) rfl (Nat.le_of_ble_eq_true rfl) ?_
  intro V E RET
  have hK := hO.1
  have hJ := hK.1
  have hI := hJ.1
  have hT1 := hO.2.2
  have hT2 : sN S 0 < 200000000 := by omega
  have hT : sN S 0 < 1000000000 := by omega
  have hb2 := gI2_b2 hJ
  have hX := hI
  obtain ⟨hP8, hn, hw, hW8, hs3, hs4, hs5, hs6, hs7, hs8, hb34⟩ := hX
  refine g_aload_n E dX8_carry_0 rfl 0 rfl ?_
  refine g_iload_n E dX8_carry_1 rfl 1 rfl ?_
  refine g_callSIe (F := [(m 0, .inr (8, [.int (q 0), .ref (m 1), .int (nI n), .int (q 2), .int (q 3), .int (q 4), .ref (m 2), .ref (m 3), .ref (m 4), .ref (m 5), .int (nI c), .ref (m 6), .ref (m 7), .ref (m 8), .int (q 6), .int (q 7), .int (q 8)])), (m 1, .inl (gy G 0, 120, .inl sg)), (m 2, .inl (gy G 0, 271, .inl rd)), (m 3, .inl (gy G 0, 271, .inl f)), (m 4, .inl (gy G 0, 271, .inl tr)), (m 5, .inl (gy G 0, 3794, .inl dy)), (m 6, .inl (gy G 0, 542, .inl kp)), (m 7, .inl (gy G 2, 2, .inl ik)), (m 8, .inl (gy G 0, 10, .inl tn))]) (ws2 := [(m 0, .inr (8, [.int (q 0), .ref (m 1), .int (nI n), .int (q 2), .int (q 3), .int (q 4), .ref (m 2), .ref (m 3), .ref (m 4), .ref (m 5), .int (nI c), .ref (m 6), .ref (m 7), .ref (m 8), .int (q 6), .int (q 7), .int (q 8)])), (m 1, .inl (gy G 0, 120, .inl sg)), (m 2, .inl (gy G 0, 271, .inl rd)), (m 3, .inl (gy G 0, 271, .inl f)), (m 4, .inl (gy G 0, 271, .inl tr)), (m 5, .inl (gy G 0, 3794, .inl dy)), (m 6, .inl (gy G 0, 542, .inl kp)), (m 7, .inl (gy G 2, 2, .inl ik)), (m 8, .inl (gy G 0, 10, .inl tn))]) E (mX8_isVisitor G v) gX8_carry_X8_isVisitor rfl hnX8_isVisitor ⟨Nat.le_of_ble_eq_true rfl, Nat.le_of_ble_eq_true rfl⟩ (gPerm_ix [0, 1, 2, 3, 4, 5, 6, 7, 8] rfl rfl) rfl rfl (Nat.le_of_ble_eq_true rfl) dX8_carry_2 ⟨Nat.le_of_ble_eq_true rfl, Nat.le_of_ble_eq_true rfl⟩ (gPerm_ix [0, 1, 2, 3, 4, 5, 6, 7, 8] rfl rfl) ?_
  refine g_if_eqB (tgt := 12) (P := (¬ v < 0 ∧ ¬ 9 < v)) E dX8_carry_5 (by decide) (fun c1 => ?_) (fun c1 => ?_)
  · skip
    refine g_iconst (v := 1) E dX8_carry_12 (by decide) ?_
    refine g_callVIe (F := [(m 1, .inl (gy G 0, 120, .inl sg)), (m 2, .inl (gy G 0, 271, .inl rd)), (m 3, .inl (gy G 0, 271, .inl f)), (m 4, .inl (gy G 0, 271, .inl tr)), (m 5, .inl (gy G 0, 3794, .inl dy)), (m 6, .inl (gy G 0, 542, .inl kp)), (m 7, .inl (gy G 2, 2, .inl ik)), (m 8, .inl (gy G 0, 10, .inl tn))]) (ws2 := [(m 0, .inr (8, [.int 1, .ref (m 1), .int (nI n), .int (q 2), .int (q 3), .int (q 4), .ref (m 2), .ref (m 3), .ref (m 4), .ref (m 5), .int (nI c), .ref (m 6), .ref (m 7), .ref (m 8), .int (q 6), .int (q 7), .int (q 8)])), (m 1, .inl (gy G 0, 120, .inl sg)), (m 2, .inl (gy G 0, 271, .inl rd)), (m 3, .inl (gy G 0, 271, .inl f)), (m 4, .inl (gy G 0, 271, .inl tr)), (m 5, .inl (gy G 0, 3794, .inl dy)), (m 6, .inl (gy G 0, 542, .inl kp)), (m 7, .inl (gy G 2, 2, .inl ik)), (m 8, .inl (gy G 0, 10, .inl tn))]) E (mX8_refused G m (qU (qU q 1 (nI n)) 5 (nI c)) 1) gX8_carry_X8_refused rfl hdX8_refused ⟨Nat.le_of_ble_eq_true rfl, Nat.le_of_ble_eq_true rfl⟩ 8 0 rfl rfl rfl (gPerm_ix [0, 1, 2, 3, 4, 5, 6, 7, 8] rfl rfl) rfl rfl (Nat.le_of_ble_eq_true rfl) dX8_carry_13 ⟨Nat.le_of_ble_eq_true rfl, Nat.le_of_ble_eq_true rfl⟩ (gPerm_ix [0, 1, 2, 3, 4, 5, 6, 7, 8] rfl rfl) ?_
    refine g_if_eq (tgt := 21) E dX8_carry_16 (by decide) (fun c => absurd c (by decide)) (fun _ => ?_)
    refine g_iconst (v := 0) E dX8_carry_19 (by decide) ?_
    exact RET _ _ _ (qU (qU (qU q 0 1) 1 (nI n)) 5 (nI c), sg, rd, f, tr, dy, kp, ik, tn) (gRefP_mk (k := 1) (A := ((n, sg), S, (c, H), sl)) (aAct_1 (by unfold gTryCarry; rw [if_neg (fun q => c1 (gV910.mpr q))])) rfl (fun e => absurd e (by decide)) ⟨rfl, rfl, hRR, rfl, hD, hKp⟩) rfl dX8_carry_20
  · skip
    obtain ⟨j, hj, rfl⟩ := gNat_ofl (m := 9) c1 rfl rfl (by decide)
    refine g_iconst (v := 0) E dX8_carry_8 (by decide) ?_
    refine g_goto (tgt := 13) E dX8_carry_9 (by decide) ?_
    refine g_callVIe (F := [(m 1, .inl (gy G 0, 120, .inl sg)), (m 2, .inl (gy G 0, 271, .inl rd)), (m 3, .inl (gy G 0, 271, .inl f)), (m 4, .inl (gy G 0, 271, .inl tr)), (m 5, .inl (gy G 0, 3794, .inl dy)), (m 6, .inl (gy G 0, 542, .inl kp)), (m 7, .inl (gy G 2, 2, .inl ik)), (m 8, .inl (gy G 0, 10, .inl tn))]) (ws2 := [(m 0, .inr (8, [.int 0, .ref (m 1), .int (nI n), .int (q 2), .int (q 3), .int (q 4), .ref (m 2), .ref (m 3), .ref (m 4), .ref (m 5), .int (nI c), .ref (m 6), .ref (m 7), .ref (m 8), .int (q 6), .int (q 7), .int (q 8)])), (m 1, .inl (gy G 0, 120, .inl sg)), (m 2, .inl (gy G 0, 271, .inl rd)), (m 3, .inl (gy G 0, 271, .inl f)), (m 4, .inl (gy G 0, 271, .inl tr)), (m 5, .inl (gy G 0, 3794, .inl dy)), (m 6, .inl (gy G 0, 542, .inl kp)), (m 7, .inl (gy G 2, 2, .inl ik)), (m 8, .inl (gy G 0, 10, .inl tn))]) E (mX8_refused G m (qU (qU q 1 (nI n)) 5 (nI c)) 0) gX8_carry_X8_refused rfl hdX8_refused ⟨Nat.le_of_ble_eq_true rfl, Nat.le_of_ble_eq_true rfl⟩ 8 0 rfl rfl rfl (gPerm_ix [0, 1, 2, 3, 4, 5, 6, 7, 8] rfl rfl) rfl rfl (Nat.le_of_ble_eq_true rfl) dX8_carry_13 ⟨Nat.le_of_ble_eq_true rfl, Nat.le_of_ble_eq_true rfl⟩ (gPerm_ix [0, 1, 2, 3, 4, 5, 6, 7, 8] rfl rfl) ?_
    refine g_if_eq (tgt := 21) E dX8_carry_16 (by decide) (fun _ => ?_) (fun c => absurd c (by decide))
    refine g_aload_n E dX8_carry_21 rfl 0 rfl ?_
    refine g_callVV (F := [(m 1, .inl (gy G 0, 120, .inl sg)), (m 2, .inl (gy G 0, 271, .inl rd)), (m 4, .inl (gy G 0, 271, .inl tr)), (m 6, .inl (gy G 0, 542, .inl kp)), (m 7, .inl (gy G 2, 2, .inl ik)), (m 8, .inl (gy G 0, 10, .inl tn))]) E (mX8_remember G m (qU (qU (qU q 0 0) 1 (nI n)) 5 (nI c)) c S H f dy hc14 hHo hI hRR hD) gX8_carry_X8_remember rfl hdX8_remember ⟨Nat.le_of_ble_eq_true rfl, Nat.le_of_ble_eq_true rfl⟩ 8 0 rfl rfl rfl (gPerm_ix [0, 3, 5, 1, 2, 4, 6, 7, 8] rfl rfl) rfl rfl (Nat.le_of_ble_eq_true rfl) dX8_carry_22 ⟨Nat.le_of_ble_eq_true rfl, Nat.le_of_ble_eq_true rfl⟩ (fun dy2 hD2 => ?_)
    refine g_perm (ws1 := [(m 0, .inr (8, [.int 0, .ref (m 1), .int (nI n), .int (q 2), .int (q 3), .int (q 4), .ref (m 2), .ref (m 3), .ref (m 4), .ref (m 5), .int (nI (gHc c)), .ref (m 6), .ref (m 7), .ref (m 8), .int (q 6), .int (q 7), .int (q 8)])), (m 1, .inl (gy G 0, 120, .inl sg)), (m 2, .inl (gy G 0, 271, .inl rd)), (m 3, .inl (gy G 0, 271, .inl f)), (m 4, .inl (gy G 0, 271, .inl tr)), (m 5, .inl (gy G 0, 3794, .inl dy2)), (m 6, .inl (gy G 0, 542, .inl kp)), (m 7, .inl (gy G 2, 2, .inl ik)), (m 8, .inl (gy G 0, 10, .inl tn))]) (gPerm_ix [0, 3, 4, 1, 5, 2, 6, 7, 8] rfl rfl) ?_
    refine g_aload_n E dX8_carry_25 rfl 0 rfl ?_
    refine g_get E uX8_carry_RX8 0 rfl rfl 7 (by decide) kX8_carry_16 rfl rfl dX8_carry_26 ?_
    refine g_iload_n E dX8_carry_29 rfl 1 rfl ?_
    refine g_iconst (v := 2) E dX8_carry_30 (by decide) ?_
    refine g_callSIe (F := [(m 0, .inr (8, [.int 0, .ref (m 1), .int (nI n), .int (q 2), .int (q 3), .int (q 4), .ref (m 2), .ref (m 3), .ref (m 4), .ref (m 5), .int (nI (gHc c)), .ref (m 6), .ref (m 7), .ref (m 8), .int (q 6), .int (q 7), .int (q 8)])), (m 1, .inl (gy G 0, 120, .inl sg)), (m 2, .inl (gy G 0, 271, .inl rd)), (m 3, .inl (gy G 0, 271, .inl f)), (m 4, .inl (gy G 0, 271, .inl tr)), (m 5, .inl (gy G 0, 3794, .inl dy2)), (m 6, .inl (gy G 0, 542, .inl kp)), (m 7, .inl (gy G 2, 2, .inl ik)), (m 8, .inl (gy G 0, 10, .inl tn))]) (ws2 := [(m 0, .inr (8, [.int 0, .ref (m 1), .int (nI n), .int (q 2), .int (q 3), .int (q 4), .ref (m 2), .ref (m 3), .ref (m 4), .ref (m 5), .int (nI (gHc c)), .ref (m 6), .ref (m 7), .ref (m 8), .int (q 6), .int (q 7), .int (q 8)])), (m 1, .inl (gy G 0, 120, .inl sg)), (m 2, .inl (gy G 0, 271, .inl rd)), (m 3, .inl (gy G 0, 271, .inl f)), (m 4, .inl (gy G 0, 271, .inl tr)), (m 5, .inl (gy G 0, 3794, .inl dy2)), (m 6, .inl (gy G 0, 542, .inl kp)), (m 7, .inl (gy G 2, 2, .inl ik)), (m 8, .inl (gy G 0, 10, .inl tn))]) E (mX8_visitorAt G j 2 (by omega) (by omega)) gX8_carry_X8_visitorAt rfl hnX8_visitorAt ⟨Nat.le_of_ble_eq_true rfl, Nat.le_of_ble_eq_true rfl⟩ (gPerm_ix [0, 1, 2, 3, 4, 5, 6, 7, 8] rfl rfl) rfl rfl (Nat.le_of_ble_eq_true rfl) dX8_carry_31 ⟨Nat.le_of_ble_eq_true rfl, Nat.le_of_ble_eq_true rfl⟩ (gPerm_ix [0, 1, 2, 3, 4, 5, 6, 7, 8] rfl rfl) ?_
    refine g_iload_n E dX8_carry_34 rfl 2 rfl ?_
    refine g_if_eq (tgt := 42) E dX8_carry_35 (by decide) (fun c3 => ?_) (fun c3 => ?_)
    · skip
      refine g_iconst (v := 0) E dX8_carry_42 (by decide) ?_
      refine g_iast (ws' := [(m 0, .inr (8, [.int 0, .ref (m 1), .int (nI n), .int (q 2), .int (q 3), .int (q 4), .ref (m 2), .ref (m 3), .ref (m 4), .ref (m 5), .int (nI (gHc c)), .ref (m 6), .ref (m 7), .ref (m 8), .int (q 6), .int (q 7), .int (q 8)])), (m 1, .inl (gy G 0, 120, .inl sg)), (m 2, .inl (gy G 0, 271, .inl rd)), (m 3, .inl (gy G 0, 271, .inl (upd f (63 + 3 * j + 2) 0))), (m 4, .inl (gy G 0, 271, .inl tr)), (m 5, .inl (gy G 0, 3794, .inl dy2)), (m 6, .inl (gy G 0, 542, .inl kp)), (m 7, .inl (gy G 2, 2, .inl ik)), (m 8, .inl (gy G 0, 10, .inl tn))]) (j := 63 + 3 * j + 2) (y := 0) E 3 rfl (g_in (e := 63 + 3 * j + 2) (by omega) rfl) (nI_clamp (n := 63 + 3 * j + 2) (by omega)) rfl rfl dX8_carry_43 ?_
      have hRR4 : RR (uI S 9 (fun _ => gWb (sI S 9 0) (nI j) b)) (upd f (63 + 3 * j + 2) 0) := (by have q := RR_uV2 (v := j) (b := b) hRR (by omega); rw [if_pos c3] at q; exact q)
      obtain ⟨S9, xE9⟩ : ∃ x, x = uI S 9 (fun _ => gWb (sI S 9 0) (nI j) b) := ⟨_, rfl⟩
      have hRR9 : RR S9 (upd f (63 + 3 * j + 2) 0) := by rw [xE9]; exact hRR4
      have hI9 : gI1 S9 := by rw [xE9]; exact gI1_uI hI
      have hT9 : sN S9 0 < 1000000000 := by rw [xE9]; exact gT_uI hT
      refine g_aload_n E dX8_carry_44 rfl 0 rfl ?_
      refine g_get E uX8_carry_RX8 0 rfl rfl 7 (by decide) kX8_carry_16 rfl rfl dX8_carry_45 ?_
      refine g_callSIe (F := [(m 0, .inr (8, [.int 0, .ref (m 1), .int (nI n), .int (q 2), .int (q 3), .int (q 4), .ref (m 2), .ref (m 3), .ref (m 4), .ref (m 5), .int (nI (gHc c)), .ref (m 6), .ref (m 7), .ref (m 8), .int (q 6), .int (q 7), .int (q 8)])), (m 1, .inl (gy G 0, 120, .inl sg)), (m 2, .inl (gy G 0, 271, .inl rd)), (m 4, .inl (gy G 0, 271, .inl tr)), (m 5, .inl (gy G 0, 3794, .inl dy2)), (m 6, .inl (gy G 0, 542, .inl kp)), (m 7, .inl (gy G 2, 2, .inl ik)), (m 8, .inl (gy G 0, 10, .inl tn))]) (ws2 := [(m 0, .inr (8, [.int 0, .ref (m 1), .int (nI n), .int (q 2), .int (q 3), .int (q 4), .ref (m 2), .ref (m 3), .ref (m 4), .ref (m 5), .int (nI (gHc c)), .ref (m 6), .ref (m 7), .ref (m 8), .int (q 6), .int (q 7), .int (q 8)])), (m 1, .inl (gy G 0, 120, .inl sg)), (m 2, .inl (gy G 0, 271, .inl rd)), (m 3, .inl (gy G 0, 271, .inl (upd f (63 + 3 * j + 2) 0))), (m 4, .inl (gy G 0, 271, .inl tr)), (m 5, .inl (gy G 0, 3794, .inl dy2)), (m 6, .inl (gy G 0, 542, .inl kp)), (m 7, .inl (gy G 2, 2, .inl ik)), (m 8, .inl (gy G 0, 10, .inl tn))]) E (mX8_carriers G (m 3) S9 (upd f (63 + 3 * j + 2) 0)  hI9 hT9 hRR9 ) gX8_carry_X8_carriers rfl hnX8_carriers ⟨Nat.le_of_ble_eq_true rfl, Nat.le_of_ble_eq_true rfl⟩ (gPerm_ix [3, 0, 1, 2, 4, 5, 6, 7, 8] rfl rfl) rfl rfl (Nat.le_of_ble_eq_true rfl) dX8_carry_48 ⟨Nat.le_of_ble_eq_true rfl, Nat.le_of_ble_eq_true rfl⟩ (gPerm_ix [1, 2, 3, 0, 4, 5, 6, 7, 8] rfl rfl) ?_
      have eC : gCar S9 10 = gWb (sI S 9 0) (nI j) b := by rw [xE9]; exact gCar_all (gI2_cb (gI2_u9 hJ (by omega)))
      exact RET _ _ _ (qU (qU (qU q 0 0) 1 (nI n)) 5 (nI (gHc c)), sg, rd, upd f (63 + 3 * j + 2) 0, tr, dy2, kp, ik, tn) (gRefP_mk (k := 0) (v := gWb (sI S 9 0) (nI j) b) (A := (aRem ((n, sg), S, (c, H), sl) S9)) (by exact aAct_0 (v := gWb (sI S 9 0) (nI j) b) (T := S9) (by rw [xE9]; exact gTC_yes (by omega)) (gTC_nn hK (by omega))) rfl (fun _ => eC) ⟨rfl, rfl, hRR9, rfl, hD2, hKp⟩) rfl dX8_carry_51
    · skip
      refine g_iconst (v := 1) E dX8_carry_38 (by decide) ?_
      refine g_goto (tgt := 43) E dX8_carry_39 (by decide) ?_
      refine g_iast (ws' := [(m 0, .inr (8, [.int 0, .ref (m 1), .int (nI n), .int (q 2), .int (q 3), .int (q 4), .ref (m 2), .ref (m 3), .ref (m 4), .ref (m 5), .int (nI (gHc c)), .ref (m 6), .ref (m 7), .ref (m 8), .int (q 6), .int (q 7), .int (q 8)])), (m 1, .inl (gy G 0, 120, .inl sg)), (m 2, .inl (gy G 0, 271, .inl rd)), (m 3, .inl (gy G 0, 271, .inl (upd f (63 + 3 * j + 2) 1))), (m 4, .inl (gy G 0, 271, .inl tr)), (m 5, .inl (gy G 0, 3794, .inl dy2)), (m 6, .inl (gy G 0, 542, .inl kp)), (m 7, .inl (gy G 2, 2, .inl ik)), (m 8, .inl (gy G 0, 10, .inl tn))]) (j := 63 + 3 * j + 2) (y := 1) E 3 rfl (g_in (e := 63 + 3 * j + 2) (by omega) rfl) (nI_clamp (n := 63 + 3 * j + 2) (by omega)) rfl rfl dX8_carry_43 ?_
      have hRR5 : RR (uI S 9 (fun _ => gWb (sI S 9 0) (nI j) b)) (upd f (63 + 3 * j + 2) 1) := (by have q := RR_uV2 (v := j) (b := b) hRR (by omega); rw [if_neg c3] at q; exact q)
      obtain ⟨S9, xE9⟩ : ∃ x, x = uI S 9 (fun _ => gWb (sI S 9 0) (nI j) b) := ⟨_, rfl⟩
      have hRR9 : RR S9 (upd f (63 + 3 * j + 2) 1) := by rw [xE9]; exact hRR5
      have hI9 : gI1 S9 := by rw [xE9]; exact gI1_uI hI
      have hT9 : sN S9 0 < 1000000000 := by rw [xE9]; exact gT_uI hT
      refine g_aload_n E dX8_carry_44 rfl 0 rfl ?_
      refine g_get E uX8_carry_RX8 0 rfl rfl 7 (by decide) kX8_carry_16 rfl rfl dX8_carry_45 ?_
      refine g_callSIe (F := [(m 0, .inr (8, [.int 0, .ref (m 1), .int (nI n), .int (q 2), .int (q 3), .int (q 4), .ref (m 2), .ref (m 3), .ref (m 4), .ref (m 5), .int (nI (gHc c)), .ref (m 6), .ref (m 7), .ref (m 8), .int (q 6), .int (q 7), .int (q 8)])), (m 1, .inl (gy G 0, 120, .inl sg)), (m 2, .inl (gy G 0, 271, .inl rd)), (m 4, .inl (gy G 0, 271, .inl tr)), (m 5, .inl (gy G 0, 3794, .inl dy2)), (m 6, .inl (gy G 0, 542, .inl kp)), (m 7, .inl (gy G 2, 2, .inl ik)), (m 8, .inl (gy G 0, 10, .inl tn))]) (ws2 := [(m 0, .inr (8, [.int 0, .ref (m 1), .int (nI n), .int (q 2), .int (q 3), .int (q 4), .ref (m 2), .ref (m 3), .ref (m 4), .ref (m 5), .int (nI (gHc c)), .ref (m 6), .ref (m 7), .ref (m 8), .int (q 6), .int (q 7), .int (q 8)])), (m 1, .inl (gy G 0, 120, .inl sg)), (m 2, .inl (gy G 0, 271, .inl rd)), (m 3, .inl (gy G 0, 271, .inl (upd f (63 + 3 * j + 2) 1))), (m 4, .inl (gy G 0, 271, .inl tr)), (m 5, .inl (gy G 0, 3794, .inl dy2)), (m 6, .inl (gy G 0, 542, .inl kp)), (m 7, .inl (gy G 2, 2, .inl ik)), (m 8, .inl (gy G 0, 10, .inl tn))]) E (mX8_carriers G (m 3) S9 (upd f (63 + 3 * j + 2) 1)  hI9 hT9 hRR9 ) gX8_carry_X8_carriers rfl hnX8_carriers ⟨Nat.le_of_ble_eq_true rfl, Nat.le_of_ble_eq_true rfl⟩ (gPerm_ix [3, 0, 1, 2, 4, 5, 6, 7, 8] rfl rfl) rfl rfl (Nat.le_of_ble_eq_true rfl) dX8_carry_48 ⟨Nat.le_of_ble_eq_true rfl, Nat.le_of_ble_eq_true rfl⟩ (gPerm_ix [1, 2, 3, 0, 4, 5, 6, 7, 8] rfl rfl) ?_
      have eC : gCar S9 10 = gWb (sI S 9 0) (nI j) b := by rw [xE9]; exact gCar_all (gI2_cb (gI2_u9 hJ (by omega)))
      exact RET _ _ _ (qU (qU (qU q 0 0) 1 (nI n)) 5 (nI (gHc c)), sg, rd, upd f (63 + 3 * j + 2) 1, tr, dy2, kp, ik, tn) (gRefP_mk (k := 0) (v := gWb (sI S 9 0) (nI j) b) (A := (aRem ((n, sg), S, (c, H), sl) S9)) (by exact aAct_0 (v := gWb (sI S 9 0) (nI j) b) (T := S9) (by rw [xE9]; exact gTC_yes (by omega)) (gTC_nn hK (by omega))) rfl (fun _ => eC) ⟨rfl, rfl, hRR9, rfl, hD2, hKp⟩) rfl dX8_carry_51

set_option maxHeartbeats 4000000 in
set_option maxRecDepth 100000 in
theorem mX8_punish (G : gG) (m : Nat → Nat) (q : Nat → Int32) (n c : Nat) (sg : Nat → Int32) (S : gSt) (H : Nat → gSt) (sl : Nat → Option gSt) (rd f tr dy kp ik tn : Nat → Int32) (p z : Int32) (hn12 : n ≤ 120) (hO : gOk 50000 S) (hc14 : c ≤ 14) (hHo : gHok 50000 c H) (hRR : RR S f) (hD : gDry c H dy) (hKp : gKpt sl kp ik) : CI G yX8_punish wsX8_punish 2 46 [.ref (m 0), .int p, .int z] [(m 0, .inr (8, [.int (q 0), .ref (m 1), .int (nI n), .int (q 2), .int (q 3), .int (q 4), .ref (m 2), .ref (m 3), .ref (m 4), .ref (m 5), .int (nI c), .ref (m 6), .ref (m 7), .ref (m 8), .int (q 6), .int (q 7), .int (q 8)])), (m 1, .inl (gy G 0, 120, .inl sg)), (m 2, .inl (gy G 0, 271, .inl rd)), (m 3, .inl (gy G 0, 271, .inl f)), (m 4, .inl (gy G 0, 271, .inl tr)), (m 5, .inl (gy G 0, 3794, .inl dy)), (m 6, .inl (gy G 0, 542, .inl kp)), (m 7, .inl (gy G 2, 2, .inl ik)), (m 8, .inl (gy G 0, 10, .inl tn))] (gRefP (aAct 1 2 0 ((n, sg), S, (c, H), sl) (gTryPunish S p z))) (fun (u : gRu) => (wR G m u)) 0 0 := by
  refine g_enterI (ty := .int) RX8 rfl (by decide) rfl (Nat.le_of_ble_eq_true rfl) ?_
  intro V E RET
  have hK := hO.1
  have hJ := hK.1
  have hI := hJ.1
  have hT1 := hO.2.2
  have hT2 : sN S 0 < 200000000 := by omega
  have hT : sN S 0 < 1000000000 := by omega
  have hb2 := gI2_b2 hJ
  have hX := hI
  obtain ⟨hP8, hn, hw, hW8, hs3, hs4, hs5, hs6, hs7, hs8, hb34⟩ := hX
  refine g_aload_n E dX8_punish_0 rfl 0 rfl ?_
  refine g_aload_n E dX8_punish_1 rfl 0 rfl ?_
  refine g_iload_n E dX8_punish_2 rfl 1 rfl ?_
  refine g_callVIe (F := [(m 1, .inl (gy G 0, 120, .inl sg)), (m 2, .inl (gy G 0, 271, .inl rd)), (m 4, .inl (gy G 0, 271, .inl tr)), (m 5, .inl (gy G 0, 3794, .inl dy)), (m 6, .inl (gy G 0, 542, .inl kp)), (m 7, .inl (gy G 2, 2, .inl ik)), (m 8, .inl (gy G 0, 10, .inl tn))]) (ws2 := [(m 0, .inr (8, [.int (q 0), .ref (m 1), .int (nI n), .int (q 2), .int (q 3), .int (q 4), .ref (m 2), .ref (m 3), .ref (m 4), .ref (m 5), .int (nI c), .ref (m 6), .ref (m 7), .ref (m 8), .int (q 6), .int (q 7), .int (q 8)])), (m 1, .inl (gy G 0, 120, .inl sg)), (m 2, .inl (gy G 0, 271, .inl rd)), (m 3, .inl (gy G 0, 271, .inl f)), (m 4, .inl (gy G 0, 271, .inl tr)), (m 5, .inl (gy G 0, 3794, .inl dy)), (m 6, .inl (gy G 0, 542, .inl kp)), (m 7, .inl (gy G 2, 2, .inl ik)), (m 8, .inl (gy G 0, 10, .inl tn))]) E (mX8_isPrisoner G m (qU (qU q 1 (nI n)) 5 (nI c)) S f p hI hT hRR) gX8_punish_X8_isPrisoner rfl hdX8_isPrisoner ⟨Nat.le_of_ble_eq_true rfl, Nat.le_of_ble_eq_true rfl⟩ 8 0 rfl rfl rfl (gPerm_ix [0, 3, 1, 2, 4, 5, 6, 7, 8] rfl rfl) rfl rfl (Nat.le_of_ble_eq_true rfl) dX8_punish_3 ⟨Nat.le_of_ble_eq_true rfl, Nat.le_of_ble_eq_true rfl⟩ (gPerm_ix [0, 2, 3, 1, 4, 5, 6, 7, 8] rfl rfl) ?_
  refine g_if_neB (tgt := 13) (P := (¬ p < 0 ∧ ¬ nI (sN S 1) ≤ p)) E dX8_punish_6 (by decide) (fun c1 => ?_) (fun c1 => ?_)
  · skip
    obtain ⟨j, hj, rfl⟩ := gNat_of c1 (by omega)
    refine g_iload_n E dX8_punish_13 rfl 2 rfl ?_
    refine g_i2l (v := z.toInt64) E dX8_punish_14 rfl ?_
    refine g_lconst (v := 0) E dX8_punish_15 (by decide) ?_
    refine g_ldc2 (v := 99) E kX8_punish_293 dX8_punish_16 ?_
    refine g_callSIe (F := [(m 0, .inr (8, [.int (q 0), .ref (m 1), .int (nI n), .int (q 2), .int (q 3), .int (q 4), .ref (m 2), .ref (m 3), .ref (m 4), .ref (m 5), .int (nI c), .ref (m 6), .ref (m 7), .ref (m 8), .int (q 6), .int (q 7), .int (q 8)])), (m 1, .inl (gy G 0, 120, .inl sg)), (m 2, .inl (gy G 0, 271, .inl rd)), (m 3, .inl (gy G 0, 271, .inl f)), (m 4, .inl (gy G 0, 271, .inl tr)), (m 5, .inl (gy G 0, 3794, .inl dy)), (m 6, .inl (gy G 0, 542, .inl kp)), (m 7, .inl (gy G 2, 2, .inl ik)), (m 8, .inl (gy G 0, 10, .inl tn))]) (ws2 := [(m 0, .inr (8, [.int (q 0), .ref (m 1), .int (nI n), .int (q 2), .int (q 3), .int (q 4), .ref (m 2), .ref (m 3), .ref (m 4), .ref (m 5), .int (nI c), .ref (m 6), .ref (m 7), .ref (m 8), .int (q 6), .int (q 7), .int (q 8)])), (m 1, .inl (gy G 0, 120, .inl sg)), (m 2, .inl (gy G 0, 271, .inl rd)), (m 3, .inl (gy G 0, 271, .inl f)), (m 4, .inl (gy G 0, 271, .inl tr)), (m 5, .inl (gy G 0, 3794, .inl dy)), (m 6, .inl (gy G 0, 542, .inl kp)), (m 7, .inl (gy G 2, 2, .inl ik)), (m 8, .inl (gy G 0, 10, .inl tn))]) E (g_resI (gIn64 (lo := 0) (hi := 99) rfl rfl) (mX8_in G z.toInt64 0 99)) gX8_punish_X8_in rfl hnX8_in ⟨Nat.le_of_ble_eq_true rfl, Nat.le_of_ble_eq_true rfl⟩ (gPerm_ix [0, 1, 2, 3, 4, 5, 6, 7, 8] rfl rfl) rfl rfl (Nat.le_of_ble_eq_true rfl) dX8_punish_19 ⟨Nat.le_of_ble_eq_true rfl, Nat.le_of_ble_eq_true rfl⟩ (gPerm_ix [0, 1, 2, 3, 4, 5, 6, 7, 8] rfl rfl) ?_
    refine g_if_eqB (tgt := 29) (P := (¬ z < 0 ∧ ¬ 99 < z)) E dX8_punish_22 (by decide) (fun c2 => ?_) (fun c2 => ?_)
    · skip
      refine g_iconst (v := 2) E dX8_punish_29 (by decide) ?_
      refine g_callVIe (F := [(m 1, .inl (gy G 0, 120, .inl sg)), (m 2, .inl (gy G 0, 271, .inl rd)), (m 3, .inl (gy G 0, 271, .inl f)), (m 4, .inl (gy G 0, 271, .inl tr)), (m 5, .inl (gy G 0, 3794, .inl dy)), (m 6, .inl (gy G 0, 542, .inl kp)), (m 7, .inl (gy G 2, 2, .inl ik)), (m 8, .inl (gy G 0, 10, .inl tn))]) (ws2 := [(m 0, .inr (8, [.int 2, .ref (m 1), .int (nI n), .int (q 2), .int (q 3), .int (q 4), .ref (m 2), .ref (m 3), .ref (m 4), .ref (m 5), .int (nI c), .ref (m 6), .ref (m 7), .ref (m 8), .int (q 6), .int (q 7), .int (q 8)])), (m 1, .inl (gy G 0, 120, .inl sg)), (m 2, .inl (gy G 0, 271, .inl rd)), (m 3, .inl (gy G 0, 271, .inl f)), (m 4, .inl (gy G 0, 271, .inl tr)), (m 5, .inl (gy G 0, 3794, .inl dy)), (m 6, .inl (gy G 0, 542, .inl kp)), (m 7, .inl (gy G 2, 2, .inl ik)), (m 8, .inl (gy G 0, 10, .inl tn))]) E (mX8_refused G m (qU (qU q 1 (nI n)) 5 (nI c)) 2) gX8_punish_X8_refused rfl hdX8_refused ⟨Nat.le_of_ble_eq_true rfl, Nat.le_of_ble_eq_true rfl⟩ 8 0 rfl rfl rfl (gPerm_ix [0, 1, 2, 3, 4, 5, 6, 7, 8] rfl rfl) rfl rfl (Nat.le_of_ble_eq_true rfl) dX8_punish_30 ⟨Nat.le_of_ble_eq_true rfl, Nat.le_of_ble_eq_true rfl⟩ (gPerm_ix [0, 1, 2, 3, 4, 5, 6, 7, 8] rfl rfl) ?_
      refine g_if_eq (tgt := 38) E dX8_punish_33 (by decide) (fun c => absurd c (by decide)) (fun _ => ?_)
      refine g_iconst (v := 0) E dX8_punish_36 (by decide) ?_
      exact RET _ _ _ (qU (qU (qU q 0 2) 1 (nI n)) 5 (nI c), sg, rd, f, tr, dy, kp, ik, tn) (gRefP_mk (k := 2) (A := ((n, sg), S, (c, H), sl)) (aAct_2 (by unfold gTryPunish; rw [if_pos c1, if_neg c2])) rfl (fun e => absurd e (by decide)) ⟨rfl, rfl, hRR, rfl, hD, hKp⟩) rfl dX8_punish_37
    · skip
      refine g_iconst (v := 0) E dX8_punish_25 (by decide) ?_
      refine g_goto (tgt := 30) E dX8_punish_26 (by decide) ?_
      refine g_callVIe (F := [(m 1, .inl (gy G 0, 120, .inl sg)), (m 2, .inl (gy G 0, 271, .inl rd)), (m 3, .inl (gy G 0, 271, .inl f)), (m 4, .inl (gy G 0, 271, .inl tr)), (m 5, .inl (gy G 0, 3794, .inl dy)), (m 6, .inl (gy G 0, 542, .inl kp)), (m 7, .inl (gy G 2, 2, .inl ik)), (m 8, .inl (gy G 0, 10, .inl tn))]) (ws2 := [(m 0, .inr (8, [.int 0, .ref (m 1), .int (nI n), .int (q 2), .int (q 3), .int (q 4), .ref (m 2), .ref (m 3), .ref (m 4), .ref (m 5), .int (nI c), .ref (m 6), .ref (m 7), .ref (m 8), .int (q 6), .int (q 7), .int (q 8)])), (m 1, .inl (gy G 0, 120, .inl sg)), (m 2, .inl (gy G 0, 271, .inl rd)), (m 3, .inl (gy G 0, 271, .inl f)), (m 4, .inl (gy G 0, 271, .inl tr)), (m 5, .inl (gy G 0, 3794, .inl dy)), (m 6, .inl (gy G 0, 542, .inl kp)), (m 7, .inl (gy G 2, 2, .inl ik)), (m 8, .inl (gy G 0, 10, .inl tn))]) E (mX8_refused G m (qU (qU q 1 (nI n)) 5 (nI c)) 0) gX8_punish_X8_refused rfl hdX8_refused ⟨Nat.le_of_ble_eq_true rfl, Nat.le_of_ble_eq_true rfl⟩ 8 0 rfl rfl rfl (gPerm_ix [0, 1, 2, 3, 4, 5, 6, 7, 8] rfl rfl) rfl rfl (Nat.le_of_ble_eq_true rfl) dX8_punish_30 ⟨Nat.le_of_ble_eq_true rfl, Nat.le_of_ble_eq_true rfl⟩ (gPerm_ix [0, 1, 2, 3, 4, 5, 6, 7, 8] rfl rfl) ?_
      refine g_if_eq (tgt := 38) E dX8_punish_33 (by decide) (fun _ => ?_) (fun c => absurd c (by decide))
      refine g_aload_n E dX8_punish_38 rfl 0 rfl ?_
      refine g_callVV (F := [(m 1, .inl (gy G 0, 120, .inl sg)), (m 2, .inl (gy G 0, 271, .inl rd)), (m 4, .inl (gy G 0, 271, .inl tr)), (m 6, .inl (gy G 0, 542, .inl kp)), (m 7, .inl (gy G 2, 2, .inl ik)), (m 8, .inl (gy G 0, 10, .inl tn))]) E (mX8_remember G m (qU (qU (qU q 0 0) 1 (nI n)) 5 (nI c)) c S H f dy hc14 hHo hI hRR hD) gX8_punish_X8_remember rfl hdX8_remember ⟨Nat.le_of_ble_eq_true rfl, Nat.le_of_ble_eq_true rfl⟩ 8 0 rfl rfl rfl (gPerm_ix [0, 3, 5, 1, 2, 4, 6, 7, 8] rfl rfl) rfl rfl (Nat.le_of_ble_eq_true rfl) dX8_punish_39 ⟨Nat.le_of_ble_eq_true rfl, Nat.le_of_ble_eq_true rfl⟩ (fun dy2 hD2 => ?_)
      refine g_perm (ws1 := [(m 0, .inr (8, [.int 0, .ref (m 1), .int (nI n), .int (q 2), .int (q 3), .int (q 4), .ref (m 2), .ref (m 3), .ref (m 4), .ref (m 5), .int (nI (gHc c)), .ref (m 6), .ref (m 7), .ref (m 8), .int (q 6), .int (q 7), .int (q 8)])), (m 1, .inl (gy G 0, 120, .inl sg)), (m 2, .inl (gy G 0, 271, .inl rd)), (m 3, .inl (gy G 0, 271, .inl f)), (m 4, .inl (gy G 0, 271, .inl tr)), (m 5, .inl (gy G 0, 3794, .inl dy2)), (m 6, .inl (gy G 0, 542, .inl kp)), (m 7, .inl (gy G 2, 2, .inl ik)), (m 8, .inl (gy G 0, 10, .inl tn))]) (gPerm_ix [0, 3, 4, 1, 5, 2, 6, 7, 8] rfl rfl) ?_
      refine g_aload_n E dX8_punish_42 rfl 0 rfl ?_
      refine g_get E uX8_punish_RX8 0 rfl rfl 7 (by decide) kX8_punish_16 rfl rfl dX8_punish_43 ?_
      refine g_iload_n E dX8_punish_46 rfl 1 rfl ?_
      refine g_iload_n E dX8_punish_47 rfl 2 rfl ?_
      refine g_callSIu (F := [(m 0, .inr (8, [.int 0, .ref (m 1), .int (nI n), .int (q 2), .int (q 3), .int (q 4), .ref (m 2), .ref (m 3), .ref (m 4), .ref (m 5), .int (nI (gHc c)), .ref (m 6), .ref (m 7), .ref (m 8), .int (q 6), .int (q 7), .int (q 8)])), (m 1, .inl (gy G 0, 120, .inl sg)), (m 2, .inl (gy G 0, 271, .inl rd)), (m 4, .inl (gy G 0, 271, .inl tr)), (m 5, .inl (gy G 0, 3794, .inl dy2)), (m 6, .inl (gy G 0, 542, .inl kp)), (m 7, .inl (gy G 2, 2, .inl ik)), (m 8, .inl (gy G 0, 10, .inl tn))]) E (mX8_punishIn G (m 3) S f j z hI hT hRR (by omega)) gX8_punish_X8_punishIn rfl hnX8_punishIn ⟨Nat.le_of_ble_eq_true rfl, Nat.le_of_ble_eq_true rfl⟩ (gPerm_ix [3, 0, 1, 2, 4, 5, 6, 7, 8] rfl rfl) rfl rfl (Nat.le_of_ble_eq_true rfl) dX8_punish_48 ⟨Nat.le_of_ble_eq_true rfl, Nat.le_of_ble_eq_true rfl⟩ (fun u4 hU4 => ?_)
      obtain ⟨S4, xE4⟩ : ∃ x, x = uI S 2 (upd (sI S 2) j (nI (sN S 0) + z)) := ⟨_, rfl⟩
      have hRR4 : RR S4 u4 := by rw [xE4]; exact hU4
      have hI4 : gI1 S4 := by rw [xE4]; exact gI1_uI hI
      have hT4 : sN S4 0 < 1000000000 := by rw [xE4]; exact gT_uI hT
      refine g_perm (ws1 := [(m 0, .inr (8, [.int 0, .ref (m 1), .int (nI n), .int (q 2), .int (q 3), .int (q 4), .ref (m 2), .ref (m 3), .ref (m 4), .ref (m 5), .int (nI (gHc c)), .ref (m 6), .ref (m 7), .ref (m 8), .int (q 6), .int (q 7), .int (q 8)])), (m 1, .inl (gy G 0, 120, .inl sg)), (m 2, .inl (gy G 0, 271, .inl rd)), (m 3, .inl (gy G 0, 271, .inl u4)), (m 4, .inl (gy G 0, 271, .inl tr)), (m 5, .inl (gy G 0, 3794, .inl dy2)), (m 6, .inl (gy G 0, 542, .inl kp)), (m 7, .inl (gy G 2, 2, .inl ik)), (m 8, .inl (gy G 0, 10, .inl tn))]) (gPerm_ix [1, 2, 3, 0, 4, 5, 6, 7, 8] rfl rfl) ?_
      exact RET _ _ _ (qU (qU (qU q 0 0) 1 (nI n)) 5 (nI (gHc c)), sg, rd, u4, tr, dy2, kp, ik, tn) (gRefP_mk (k := 0) (v := sI S 2 j) (A := (aRem ((n, sg), S, (c, H), sl) S4)) (by exact aAct_0 (v := sI S 2 j) (T := S4) (by rw [xE4]; unfold gTryPunish; rw [if_pos c1, if_pos c2, nI_clamp (by omega)]) ((hK.2.1 j (by omega)).2.2.2)) rfl (fun _ => rfl) ⟨rfl, rfl, hRR4, rfl, hD2, hKp⟩) rfl dX8_punish_51
  · skip
    refine g_iconst (v := 1) E dX8_punish_9 (by decide) ?_
    refine g_goto (tgt := 30) E dX8_punish_10 (by decide) ?_
    refine g_callVIe (F := [(m 1, .inl (gy G 0, 120, .inl sg)), (m 2, .inl (gy G 0, 271, .inl rd)), (m 3, .inl (gy G 0, 271, .inl f)), (m 4, .inl (gy G 0, 271, .inl tr)), (m 5, .inl (gy G 0, 3794, .inl dy)), (m 6, .inl (gy G 0, 542, .inl kp)), (m 7, .inl (gy G 2, 2, .inl ik)), (m 8, .inl (gy G 0, 10, .inl tn))]) (ws2 := [(m 0, .inr (8, [.int 1, .ref (m 1), .int (nI n), .int (q 2), .int (q 3), .int (q 4), .ref (m 2), .ref (m 3), .ref (m 4), .ref (m 5), .int (nI c), .ref (m 6), .ref (m 7), .ref (m 8), .int (q 6), .int (q 7), .int (q 8)])), (m 1, .inl (gy G 0, 120, .inl sg)), (m 2, .inl (gy G 0, 271, .inl rd)), (m 3, .inl (gy G 0, 271, .inl f)), (m 4, .inl (gy G 0, 271, .inl tr)), (m 5, .inl (gy G 0, 3794, .inl dy)), (m 6, .inl (gy G 0, 542, .inl kp)), (m 7, .inl (gy G 2, 2, .inl ik)), (m 8, .inl (gy G 0, 10, .inl tn))]) E (mX8_refused G m (qU (qU q 1 (nI n)) 5 (nI c)) 1) gX8_punish_X8_refused rfl hdX8_refused ⟨Nat.le_of_ble_eq_true rfl, Nat.le_of_ble_eq_true rfl⟩ 8 0 rfl rfl rfl (gPerm_ix [0, 1, 2, 3, 4, 5, 6, 7, 8] rfl rfl) rfl rfl (Nat.le_of_ble_eq_true rfl) dX8_punish_30 ⟨Nat.le_of_ble_eq_true rfl, Nat.le_of_ble_eq_true rfl⟩ (gPerm_ix [0, 1, 2, 3, 4, 5, 6, 7, 8] rfl rfl) ?_
    refine g_if_eq (tgt := 38) E dX8_punish_33 (by decide) (fun c => absurd c (by decide)) (fun _ => ?_)
    refine g_iconst (v := 0) E dX8_punish_36 (by decide) ?_
    exact RET _ _ _ (qU (qU (qU q 0 1) 1 (nI n)) 5 (nI c), sg, rd, f, tr, dy, kp, ik, tn) (gRefP_mk (k := 1) (A := ((n, sg), S, (c, H), sl)) (aAct_1 (by unfold gTryPunish; rw [if_neg c1])) rfl (fun e => absurd e (by decide)) ⟨rfl, rfl, hRR, rfl, hD, hKp⟩) rfl dX8_punish_37

set_option maxHeartbeats 4000000 in
set_option maxRecDepth 100000 in
theorem mX8_wish (G : gG) (m : Nat → Nat) (q : Nat → Int32) (n c : Nat) (sg : Nat → Int32) (S : gSt) (H : Nat → gSt) (sl : Nat → Option gSt) (rd f tr dy kp ik tn : Nat → Int32) (p v : Int32) (hn12 : n ≤ 120) (hO : gOk 50000 S) (hc14 : c ≤ 14) (hHo : gHok 50000 c H) (hRR : RR S f) (hD : gDry c H dy) (hKp : gKpt sl kp ik) : CI G yX8_wish wsX8_wish 3 65 [.ref (m 0), .int p, .int v] [(m 0, .inr (8, [.int (q 0), .ref (m 1), .int (nI n), .int (q 2), .int (q 3), .int (q 4), .ref (m 2), .ref (m 3), .ref (m 4), .ref (m 5), .int (nI c), .ref (m 6), .ref (m 7), .ref (m 8), .int (q 6), .int (q 7), .int (q 8)])), (m 1, .inl (gy G 0, 120, .inl sg)), (m 2, .inl (gy G 0, 271, .inl rd)), (m 3, .inl (gy G 0, 271, .inl f)), (m 4, .inl (gy G 0, 271, .inl tr)), (m 5, .inl (gy G 0, 3794, .inl dy)), (m 6, .inl (gy G 0, 542, .inl kp)), (m 7, .inl (gy G 2, 2, .inl ik)), (m 8, .inl (gy G 0, 10, .inl tn))] (gRefP (aAct 1 0 2 ((n, sg), S, (c, H), sl) (gTryWish S p v))) (fun (u : gRu) => (wR G m u)) 0 0 := by
  refine g_enterI (ty := .int) RX8 rfl (by decide) rfl (Nat.le_of_ble_eq_true rfl) ?_
  intro V E RET
  have hK := hO.1
  have hJ := hK.1
  have hI := hJ.1
  have hT1 := hO.2.2
  have hT2 : sN S 0 < 200000000 := by omega
  have hT : sN S 0 < 1000000000 := by omega
  have hb2 := gI2_b2 hJ
  have hX := hI
  obtain ⟨hP8, hn, hw, hW8, hs3, hs4, hs5, hs6, hs7, hs8, hb34⟩ := hX
  refine g_aload_n E dX8_wish_0 rfl 0 rfl ?_
  refine g_aload_n E dX8_wish_1 rfl 0 rfl ?_
  refine g_iload_n E dX8_wish_2 rfl 1 rfl ?_
  refine g_callVIe (F := [(m 1, .inl (gy G 0, 120, .inl sg)), (m 2, .inl (gy G 0, 271, .inl rd)), (m 4, .inl (gy G 0, 271, .inl tr)), (m 5, .inl (gy G 0, 3794, .inl dy)), (m 6, .inl (gy G 0, 542, .inl kp)), (m 7, .inl (gy G 2, 2, .inl ik)), (m 8, .inl (gy G 0, 10, .inl tn))]) (ws2 := [(m 0, .inr (8, [.int (q 0), .ref (m 1), .int (nI n), .int (q 2), .int (q 3), .int (q 4), .ref (m 2), .ref (m 3), .ref (m 4), .ref (m 5), .int (nI c), .ref (m 6), .ref (m 7), .ref (m 8), .int (q 6), .int (q 7), .int (q 8)])), (m 1, .inl (gy G 0, 120, .inl sg)), (m 2, .inl (gy G 0, 271, .inl rd)), (m 3, .inl (gy G 0, 271, .inl f)), (m 4, .inl (gy G 0, 271, .inl tr)), (m 5, .inl (gy G 0, 3794, .inl dy)), (m 6, .inl (gy G 0, 542, .inl kp)), (m 7, .inl (gy G 2, 2, .inl ik)), (m 8, .inl (gy G 0, 10, .inl tn))]) E (mX8_isPrisoner G m (qU (qU q 1 (nI n)) 5 (nI c)) S f p hI hT hRR) gX8_wish_X8_isPrisoner rfl hdX8_isPrisoner ⟨Nat.le_of_ble_eq_true rfl, Nat.le_of_ble_eq_true rfl⟩ 8 0 rfl rfl rfl (gPerm_ix [0, 3, 1, 2, 4, 5, 6, 7, 8] rfl rfl) rfl rfl (Nat.le_of_ble_eq_true rfl) dX8_wish_3 ⟨Nat.le_of_ble_eq_true rfl, Nat.le_of_ble_eq_true rfl⟩ (gPerm_ix [0, 2, 3, 1, 4, 5, 6, 7, 8] rfl rfl) ?_
  refine g_if_eqB (tgt := 16) (P := (¬ p < 0 ∧ ¬ nI (sN S 1) ≤ p)) E dX8_wish_6 (by decide) (fun c1 => ?_) (fun c1 => ?_)
  · skip
    refine g_iconst (v := 1) E dX8_wish_16 (by decide) ?_
    refine g_goto (tgt := 37) E dX8_wish_17 (by decide) ?_
    refine g_callVIe (F := [(m 1, .inl (gy G 0, 120, .inl sg)), (m 2, .inl (gy G 0, 271, .inl rd)), (m 3, .inl (gy G 0, 271, .inl f)), (m 4, .inl (gy G 0, 271, .inl tr)), (m 5, .inl (gy G 0, 3794, .inl dy)), (m 6, .inl (gy G 0, 542, .inl kp)), (m 7, .inl (gy G 2, 2, .inl ik)), (m 8, .inl (gy G 0, 10, .inl tn))]) (ws2 := [(m 0, .inr (8, [.int 1, .ref (m 1), .int (nI n), .int (q 2), .int (q 3), .int (q 4), .ref (m 2), .ref (m 3), .ref (m 4), .ref (m 5), .int (nI c), .ref (m 6), .ref (m 7), .ref (m 8), .int (q 6), .int (q 7), .int (q 8)])), (m 1, .inl (gy G 0, 120, .inl sg)), (m 2, .inl (gy G 0, 271, .inl rd)), (m 3, .inl (gy G 0, 271, .inl f)), (m 4, .inl (gy G 0, 271, .inl tr)), (m 5, .inl (gy G 0, 3794, .inl dy)), (m 6, .inl (gy G 0, 542, .inl kp)), (m 7, .inl (gy G 2, 2, .inl ik)), (m 8, .inl (gy G 0, 10, .inl tn))]) E (mX8_refused G m (qU (qU q 1 (nI n)) 5 (nI c)) 1) gX8_wish_X8_refused rfl hdX8_refused ⟨Nat.le_of_ble_eq_true rfl, Nat.le_of_ble_eq_true rfl⟩ 8 0 rfl rfl rfl (gPerm_ix [0, 1, 2, 3, 4, 5, 6, 7, 8] rfl rfl) rfl rfl (Nat.le_of_ble_eq_true rfl) dX8_wish_37 ⟨Nat.le_of_ble_eq_true rfl, Nat.le_of_ble_eq_true rfl⟩ (gPerm_ix [0, 1, 2, 3, 4, 5, 6, 7, 8] rfl rfl) ?_
    refine g_if_eq (tgt := 45) E dX8_wish_40 (by decide) (fun c => absurd c (by decide)) (fun _ => ?_)
    refine g_iconst (v := 0) E dX8_wish_43 (by decide) ?_
    exact RET _ _ _ (qU (qU (qU q 0 1) 1 (nI n)) 5 (nI c), sg, rd, f, tr, dy, kp, ik, tn) (gRefP_mk (k := 1) (A := ((n, sg), S, (c, H), sl)) (aAct_1 (by unfold gTryWish; rw [if_neg (fun q => c1 q.1)])) rfl (fun e => absurd e (by decide)) ⟨rfl, rfl, hRR, rfl, hD, hKp⟩) rfl dX8_wish_44
  · skip
    obtain ⟨j, hj, rfl⟩ := gNat_of c1 (by omega)
    refine g_iload_n E dX8_wish_9 rfl 2 rfl ?_
    refine g_callSIe (F := [(m 0, .inr (8, [.int (q 0), .ref (m 1), .int (nI n), .int (q 2), .int (q 3), .int (q 4), .ref (m 2), .ref (m 3), .ref (m 4), .ref (m 5), .int (nI c), .ref (m 6), .ref (m 7), .ref (m 8), .int (q 6), .int (q 7), .int (q 8)])), (m 1, .inl (gy G 0, 120, .inl sg)), (m 2, .inl (gy G 0, 271, .inl rd)), (m 3, .inl (gy G 0, 271, .inl f)), (m 4, .inl (gy G 0, 271, .inl tr)), (m 5, .inl (gy G 0, 3794, .inl dy)), (m 6, .inl (gy G 0, 542, .inl kp)), (m 7, .inl (gy G 2, 2, .inl ik)), (m 8, .inl (gy G 0, 10, .inl tn))]) (ws2 := [(m 0, .inr (8, [.int (q 0), .ref (m 1), .int (nI n), .int (q 2), .int (q 3), .int (q 4), .ref (m 2), .ref (m 3), .ref (m 4), .ref (m 5), .int (nI c), .ref (m 6), .ref (m 7), .ref (m 8), .int (q 6), .int (q 7), .int (q 8)])), (m 1, .inl (gy G 0, 120, .inl sg)), (m 2, .inl (gy G 0, 271, .inl rd)), (m 3, .inl (gy G 0, 271, .inl f)), (m 4, .inl (gy G 0, 271, .inl tr)), (m 5, .inl (gy G 0, 3794, .inl dy)), (m 6, .inl (gy G 0, 542, .inl kp)), (m 7, .inl (gy G 2, 2, .inl ik)), (m 8, .inl (gy G 0, 10, .inl tn))]) E (mX8_isVisitor G v) gX8_wish_X8_isVisitor rfl hnX8_isVisitor ⟨Nat.le_of_ble_eq_true rfl, Nat.le_of_ble_eq_true rfl⟩ (gPerm_ix [0, 1, 2, 3, 4, 5, 6, 7, 8] rfl rfl) rfl rfl (Nat.le_of_ble_eq_true rfl) dX8_wish_10 ⟨Nat.le_of_ble_eq_true rfl, Nat.le_of_ble_eq_true rfl⟩ (gPerm_ix [0, 1, 2, 3, 4, 5, 6, 7, 8] rfl rfl) ?_
    refine g_if_neB (tgt := 20) (P := (¬ v < 0 ∧ ¬ 9 < v)) E dX8_wish_13 (by decide) (fun c2 => ?_) (fun c2 => ?_)
    · skip
      obtain ⟨e, he, rfl⟩ := gNat_ofl (m := 9) c2 rfl rfl (by decide)
      refine g_aload_n E dX8_wish_20 rfl 0 rfl ?_
      refine g_get E uX8_wish_RX8 0 rfl rfl 7 (by decide) kX8_wish_16 rfl rfl dX8_wish_21 ?_
      refine g_iload_n E dX8_wish_24 rfl 1 rfl ?_
      refine g_iload_n E dX8_wish_25 rfl 2 rfl ?_
      refine g_callSIe (F := [(m 0, .inr (8, [.int (q 0), .ref (m 1), .int (nI n), .int (q 2), .int (q 3), .int (q 4), .ref (m 2), .ref (m 3), .ref (m 4), .ref (m 5), .int (nI c), .ref (m 6), .ref (m 7), .ref (m 8), .int (q 6), .int (q 7), .int (q 8)])), (m 1, .inl (gy G 0, 120, .inl sg)), (m 2, .inl (gy G 0, 271, .inl rd)), (m 4, .inl (gy G 0, 271, .inl tr)), (m 5, .inl (gy G 0, 3794, .inl dy)), (m 6, .inl (gy G 0, 542, .inl kp)), (m 7, .inl (gy G 2, 2, .inl ik)), (m 8, .inl (gy G 0, 10, .inl tn))]) (ws2 := [(m 0, .inr (8, [.int (q 0), .ref (m 1), .int (nI n), .int (q 2), .int (q 3), .int (q 4), .ref (m 2), .ref (m 3), .ref (m 4), .ref (m 5), .int (nI c), .ref (m 6), .ref (m 7), .ref (m 8), .int (q 6), .int (q 7), .int (q 8)])), (m 1, .inl (gy G 0, 120, .inl sg)), (m 2, .inl (gy G 0, 271, .inl rd)), (m 3, .inl (gy G 0, 271, .inl f)), (m 4, .inl (gy G 0, 271, .inl tr)), (m 5, .inl (gy G 0, 3794, .inl dy)), (m 6, .inl (gy G 0, 542, .inl kp)), (m 7, .inl (gy G 2, 2, .inl ik)), (m 8, .inl (gy G 0, 10, .inl tn))]) E (mX8_canWish G (m 3) S f j e hI hT hRR (by omega) (by omega)) gX8_wish_X8_canWish rfl hnX8_canWish ⟨Nat.le_of_ble_eq_true rfl, Nat.le_of_ble_eq_true rfl⟩ (gPerm_ix [3, 0, 1, 2, 4, 5, 6, 7, 8] rfl rfl) rfl rfl (Nat.le_of_ble_eq_true rfl) dX8_wish_26 ⟨Nat.le_of_ble_eq_true rfl, Nat.le_of_ble_eq_true rfl⟩ (gPerm_ix [1, 2, 3, 0, 4, 5, 6, 7, 8] rfl rfl) ?_
      refine g_if_eqB (tgt := 36) (P := (gHb (sI S 1 j) (nI e) = true ∧ (sW S).length < 10)) E dX8_wish_29 (by decide) (fun c3 => ?_) (fun c3 => ?_)
      · skip
        refine g_iconst (v := 2) E dX8_wish_36 (by decide) ?_
        refine g_callVIe (F := [(m 1, .inl (gy G 0, 120, .inl sg)), (m 2, .inl (gy G 0, 271, .inl rd)), (m 3, .inl (gy G 0, 271, .inl f)), (m 4, .inl (gy G 0, 271, .inl tr)), (m 5, .inl (gy G 0, 3794, .inl dy)), (m 6, .inl (gy G 0, 542, .inl kp)), (m 7, .inl (gy G 2, 2, .inl ik)), (m 8, .inl (gy G 0, 10, .inl tn))]) (ws2 := [(m 0, .inr (8, [.int 2, .ref (m 1), .int (nI n), .int (q 2), .int (q 3), .int (q 4), .ref (m 2), .ref (m 3), .ref (m 4), .ref (m 5), .int (nI c), .ref (m 6), .ref (m 7), .ref (m 8), .int (q 6), .int (q 7), .int (q 8)])), (m 1, .inl (gy G 0, 120, .inl sg)), (m 2, .inl (gy G 0, 271, .inl rd)), (m 3, .inl (gy G 0, 271, .inl f)), (m 4, .inl (gy G 0, 271, .inl tr)), (m 5, .inl (gy G 0, 3794, .inl dy)), (m 6, .inl (gy G 0, 542, .inl kp)), (m 7, .inl (gy G 2, 2, .inl ik)), (m 8, .inl (gy G 0, 10, .inl tn))]) E (mX8_refused G m (qU (qU q 1 (nI n)) 5 (nI c)) 2) gX8_wish_X8_refused rfl hdX8_refused ⟨Nat.le_of_ble_eq_true rfl, Nat.le_of_ble_eq_true rfl⟩ 8 0 rfl rfl rfl (gPerm_ix [0, 1, 2, 3, 4, 5, 6, 7, 8] rfl rfl) rfl rfl (Nat.le_of_ble_eq_true rfl) dX8_wish_37 ⟨Nat.le_of_ble_eq_true rfl, Nat.le_of_ble_eq_true rfl⟩ (gPerm_ix [0, 1, 2, 3, 4, 5, 6, 7, 8] rfl rfl) ?_
        refine g_if_eq (tgt := 45) E dX8_wish_40 (by decide) (fun c => absurd c (by decide)) (fun _ => ?_)
        refine g_iconst (v := 0) E dX8_wish_43 (by decide) ?_
        exact RET _ _ _ (qU (qU (qU q 0 2) 1 (nI n)) 5 (nI c), sg, rd, f, tr, dy, kp, ik, tn) (gRefP_mk (k := 2) (A := ((n, sg), S, (c, H), sl)) (aAct_3 (gTW_3 hP8 hj he c3)) rfl (fun e => absurd e (by decide)) ⟨rfl, rfl, hRR, rfl, hD, hKp⟩) rfl dX8_wish_44
      · skip
        have hcw2 := c3.2
        refine g_iconst (v := 0) E dX8_wish_32 (by decide) ?_
        refine g_goto (tgt := 37) E dX8_wish_33 (by decide) ?_
        refine g_callVIe (F := [(m 1, .inl (gy G 0, 120, .inl sg)), (m 2, .inl (gy G 0, 271, .inl rd)), (m 3, .inl (gy G 0, 271, .inl f)), (m 4, .inl (gy G 0, 271, .inl tr)), (m 5, .inl (gy G 0, 3794, .inl dy)), (m 6, .inl (gy G 0, 542, .inl kp)), (m 7, .inl (gy G 2, 2, .inl ik)), (m 8, .inl (gy G 0, 10, .inl tn))]) (ws2 := [(m 0, .inr (8, [.int 0, .ref (m 1), .int (nI n), .int (q 2), .int (q 3), .int (q 4), .ref (m 2), .ref (m 3), .ref (m 4), .ref (m 5), .int (nI c), .ref (m 6), .ref (m 7), .ref (m 8), .int (q 6), .int (q 7), .int (q 8)])), (m 1, .inl (gy G 0, 120, .inl sg)), (m 2, .inl (gy G 0, 271, .inl rd)), (m 3, .inl (gy G 0, 271, .inl f)), (m 4, .inl (gy G 0, 271, .inl tr)), (m 5, .inl (gy G 0, 3794, .inl dy)), (m 6, .inl (gy G 0, 542, .inl kp)), (m 7, .inl (gy G 2, 2, .inl ik)), (m 8, .inl (gy G 0, 10, .inl tn))]) E (mX8_refused G m (qU (qU q 1 (nI n)) 5 (nI c)) 0) gX8_wish_X8_refused rfl hdX8_refused ⟨Nat.le_of_ble_eq_true rfl, Nat.le_of_ble_eq_true rfl⟩ 8 0 rfl rfl rfl (gPerm_ix [0, 1, 2, 3, 4, 5, 6, 7, 8] rfl rfl) rfl rfl (Nat.le_of_ble_eq_true rfl) dX8_wish_37 ⟨Nat.le_of_ble_eq_true rfl, Nat.le_of_ble_eq_true rfl⟩ (gPerm_ix [0, 1, 2, 3, 4, 5, 6, 7, 8] rfl rfl) ?_
        refine g_if_eq (tgt := 45) E dX8_wish_40 (by decide) (fun _ => ?_) (fun c => absurd c (by decide))
        refine g_aload_n E dX8_wish_45 rfl 0 rfl ?_
        refine g_callVV (F := [(m 1, .inl (gy G 0, 120, .inl sg)), (m 2, .inl (gy G 0, 271, .inl rd)), (m 4, .inl (gy G 0, 271, .inl tr)), (m 6, .inl (gy G 0, 542, .inl kp)), (m 7, .inl (gy G 2, 2, .inl ik)), (m 8, .inl (gy G 0, 10, .inl tn))]) E (mX8_remember G m (qU (qU (qU q 0 0) 1 (nI n)) 5 (nI c)) c S H f dy hc14 hHo hI hRR hD) gX8_wish_X8_remember rfl hdX8_remember ⟨Nat.le_of_ble_eq_true rfl, Nat.le_of_ble_eq_true rfl⟩ 8 0 rfl rfl rfl (gPerm_ix [0, 3, 5, 1, 2, 4, 6, 7, 8] rfl rfl) rfl rfl (Nat.le_of_ble_eq_true rfl) dX8_wish_46 ⟨Nat.le_of_ble_eq_true rfl, Nat.le_of_ble_eq_true rfl⟩ (fun dy2 hD2 => ?_)
        refine g_perm (ws1 := [(m 0, .inr (8, [.int 0, .ref (m 1), .int (nI n), .int (q 2), .int (q 3), .int (q 4), .ref (m 2), .ref (m 3), .ref (m 4), .ref (m 5), .int (nI (gHc c)), .ref (m 6), .ref (m 7), .ref (m 8), .int (q 6), .int (q 7), .int (q 8)])), (m 1, .inl (gy G 0, 120, .inl sg)), (m 2, .inl (gy G 0, 271, .inl rd)), (m 3, .inl (gy G 0, 271, .inl f)), (m 4, .inl (gy G 0, 271, .inl tr)), (m 5, .inl (gy G 0, 3794, .inl dy2)), (m 6, .inl (gy G 0, 542, .inl kp)), (m 7, .inl (gy G 2, 2, .inl ik)), (m 8, .inl (gy G 0, 10, .inl tn))]) (gPerm_ix [0, 3, 4, 1, 5, 2, 6, 7, 8] rfl rfl) ?_
        refine g_aload_n E dX8_wish_49 rfl 0 rfl ?_
        refine g_get E uX8_wish_RX8 0 rfl rfl 7 (by decide) kX8_wish_16 rfl rfl dX8_wish_50 ?_
        refine g_iload_n E dX8_wish_53 rfl 1 rfl ?_
        refine g_iload_n E dX8_wish_54 rfl 2 rfl ?_
        refine g_callSIu (F := [(m 0, .inr (8, [.int 0, .ref (m 1), .int (nI n), .int (q 2), .int (q 3), .int (q 4), .ref (m 2), .ref (m 3), .ref (m 4), .ref (m 5), .int (nI (gHc c)), .ref (m 6), .ref (m 7), .ref (m 8), .int (q 6), .int (q 7), .int (q 8)])), (m 1, .inl (gy G 0, 120, .inl sg)), (m 2, .inl (gy G 0, 271, .inl rd)), (m 4, .inl (gy G 0, 271, .inl tr)), (m 5, .inl (gy G 0, 3794, .inl dy2)), (m 6, .inl (gy G 0, 542, .inl kp)), (m 7, .inl (gy G 2, 2, .inl ik)), (m 8, .inl (gy G 0, 10, .inl tn))]) E (mX8_wishIn G (m 3) S f j e hI hT hRR (by omega) (by omega) (by omega)) gX8_wish_X8_wishIn rfl hnX8_wishIn ⟨Nat.le_of_ble_eq_true rfl, Nat.le_of_ble_eq_true rfl⟩ (gPerm_ix [3, 0, 1, 2, 4, 5, 6, 7, 8] rfl rfl) rfl rfl (Nat.le_of_ble_eq_true rfl) dX8_wish_55 ⟨Nat.le_of_ble_eq_true rfl, Nat.le_of_ble_eq_true rfl⟩ (fun u5 hU5 => ?_)
        obtain ⟨S5, xE5⟩ : ∃ x, x = uW S (sW S ++ [10 * j + e]) := ⟨_, rfl⟩
        have hRR5 : RR S5 u5 := by rw [xE5]; exact hU5
        have hI5 : gI1 S5 := by rw [xE5]; exact gI1_wish hI (by omega) (by omega) (by omega)
        have hT5 : sN S5 0 < 1000000000 := by rw [xE5]; exact hT
        refine g_perm (ws1 := [(m 0, .inr (8, [.int 0, .ref (m 1), .int (nI n), .int (q 2), .int (q 3), .int (q 4), .ref (m 2), .ref (m 3), .ref (m 4), .ref (m 5), .int (nI (gHc c)), .ref (m 6), .ref (m 7), .ref (m 8), .int (q 6), .int (q 7), .int (q 8)])), (m 1, .inl (gy G 0, 120, .inl sg)), (m 2, .inl (gy G 0, 271, .inl rd)), (m 3, .inl (gy G 0, 271, .inl u5)), (m 4, .inl (gy G 0, 271, .inl tr)), (m 5, .inl (gy G 0, 3794, .inl dy2)), (m 6, .inl (gy G 0, 542, .inl kp)), (m 7, .inl (gy G 2, 2, .inl ik)), (m 8, .inl (gy G 0, 10, .inl tn))]) (gPerm_ix [1, 2, 3, 0, 4, 5, 6, 7, 8] rfl rfl) ?_
        exact RET _ _ _ (qU (qU (qU q 0 0) 1 (nI n)) 5 (nI (gHc c)), sg, rd, u5, tr, dy2, kp, ik, tn) (gRefP_mk (k := 0) (v := nI ((sW S).length + 1)) (A := (aRem ((n, sg), S, (c, H), sl) S5)) (by exact aAct_0 (v := nI ((sW S).length + 1)) (T := S5) (by rw [xE5]; exact gTW_yes hP8 hj he c3) (nI_nneg (by omega))) rfl (fun _ => rfl) ⟨rfl, rfl, hRR5, rfl, hD2, hKp⟩) rfl dX8_wish_58
    · skip
      refine g_iconst (v := 1) E dX8_wish_16 (by decide) ?_
      refine g_goto (tgt := 37) E dX8_wish_17 (by decide) ?_
      refine g_callVIe (F := [(m 1, .inl (gy G 0, 120, .inl sg)), (m 2, .inl (gy G 0, 271, .inl rd)), (m 3, .inl (gy G 0, 271, .inl f)), (m 4, .inl (gy G 0, 271, .inl tr)), (m 5, .inl (gy G 0, 3794, .inl dy)), (m 6, .inl (gy G 0, 542, .inl kp)), (m 7, .inl (gy G 2, 2, .inl ik)), (m 8, .inl (gy G 0, 10, .inl tn))]) (ws2 := [(m 0, .inr (8, [.int 1, .ref (m 1), .int (nI n), .int (q 2), .int (q 3), .int (q 4), .ref (m 2), .ref (m 3), .ref (m 4), .ref (m 5), .int (nI c), .ref (m 6), .ref (m 7), .ref (m 8), .int (q 6), .int (q 7), .int (q 8)])), (m 1, .inl (gy G 0, 120, .inl sg)), (m 2, .inl (gy G 0, 271, .inl rd)), (m 3, .inl (gy G 0, 271, .inl f)), (m 4, .inl (gy G 0, 271, .inl tr)), (m 5, .inl (gy G 0, 3794, .inl dy)), (m 6, .inl (gy G 0, 542, .inl kp)), (m 7, .inl (gy G 2, 2, .inl ik)), (m 8, .inl (gy G 0, 10, .inl tn))]) E (mX8_refused G m (qU (qU q 1 (nI n)) 5 (nI c)) 1) gX8_wish_X8_refused rfl hdX8_refused ⟨Nat.le_of_ble_eq_true rfl, Nat.le_of_ble_eq_true rfl⟩ 8 0 rfl rfl rfl (gPerm_ix [0, 1, 2, 3, 4, 5, 6, 7, 8] rfl rfl) rfl rfl (Nat.le_of_ble_eq_true rfl) dX8_wish_37 ⟨Nat.le_of_ble_eq_true rfl, Nat.le_of_ble_eq_true rfl⟩ (gPerm_ix [0, 1, 2, 3, 4, 5, 6, 7, 8] rfl rfl) ?_
      refine g_if_eq (tgt := 45) E dX8_wish_40 (by decide) (fun c => absurd c (by decide)) (fun _ => ?_)
      refine g_iconst (v := 0) E dX8_wish_43 (by decide) ?_
      exact RET _ _ _ (qU (qU (qU q 0 1) 1 (nI n)) 5 (nI c), sg, rd, f, tr, dy, kp, ik, tn) (gRefP_mk (k := 1) (A := ((n, sg), S, (c, H), sl)) (aAct_1 (by unfold gTryWish; rw [if_neg (fun q => c2 (gV910.mpr q.2))])) rfl (fun e => absurd e (by decide)) ⟨rfl, rfl, hRR, rfl, hD, hKp⟩) rfl dX8_wish_44

set_option maxHeartbeats 4000000 in
set_option maxRecDepth 100000 in
theorem mX8_run (G : gG) (m : Nat → Nat) (q : Nat → Int32) (n c : Nat) (sg : Nat → Int32) (S : gSt) (H : Nat → gSt) (sl : Nat → Option gSt) (rd f tr dy kp ik tn : Nat → Int32) (z : Int32) (hn12 : n ≤ 120) (hO : gOk 50000 S) (hc14 : c ≤ 14) (hHo : gHok 50000 c H) (hRR : RR S f) (hD : gDry c H dy) (hKp : gKpt sl kp ik) : CI G yX8_run wsX8_run 8 190 [.ref (m 0), .int z] [(m 0, .inr (8, [.int (q 0), .ref (m 1), .int (nI n), .int (q 2), .int (q 3), .int (q 4), .ref (m 2), .ref (m 3), .ref (m 4), .ref (m 5), .int (nI c), .ref (m 6), .ref (m 7), .ref (m 8), .int (q 6), .int (q 7), .int (q 8)])), (m 1, .inl (gy G 0, 120, .inl sg)), (m 2, .inl (gy G 0, 271, .inl rd)), (m 3, .inl (gy G 0, 271, .inl f)), (m 4, .inl (gy G 0, 271, .inl tr)), (m 5, .inl (gy G 0, 3794, .inl dy)), (m 6, .inl (gy G 0, 542, .inl kp)), (m 7, .inl (gy G 2, 2, .inl ik)), (m 8, .inl (gy G 0, 10, .inl tn))] (gRefP (fRun ((n, sg), S, (c, H), sl) z)) (fun (u : gRu) => (wR G m u)) 0 0 := by
  refine g_enterI (ty := .int) RX8 rfl (by decide) rfl (Nat.le_of_ble_eq_true rfl) ?_
  intro V E RET
  have hK := hO.1
  have hJ := hK.1
  have hI := hJ.1
  have hT1 := hO.2.2
  have hT2 : sN S 0 < 200000000 := by omega
  have hT : sN S 0 < 1000000000 := by omega
  have hb2 := gI2_b2 hJ
  have hX := hI
  obtain ⟨hP8, hn, hw, hW8, hs3, hs4, hs5, hs6, hs7, hs8, hb34⟩ := hX
  refine g_aload_n E dX8_run_0 rfl 0 rfl ?_
  refine g_iload_n E dX8_run_1 rfl 1 rfl ?_
  refine g_callSIe (F := [(m 0, .inr (8, [.int (q 0), .ref (m 1), .int (nI n), .int (q 2), .int (q 3), .int (q 4), .ref (m 2), .ref (m 3), .ref (m 4), .ref (m 5), .int (nI c), .ref (m 6), .ref (m 7), .ref (m 8), .int (q 6), .int (q 7), .int (q 8)])), (m 1, .inl (gy G 0, 120, .inl sg)), (m 2, .inl (gy G 0, 271, .inl rd)), (m 3, .inl (gy G 0, 271, .inl f)), (m 4, .inl (gy G 0, 271, .inl tr)), (m 5, .inl (gy G 0, 3794, .inl dy)), (m 6, .inl (gy G 0, 542, .inl kp)), (m 7, .inl (gy G 2, 2, .inl ik)), (m 8, .inl (gy G 0, 10, .inl tn))]) (ws2 := [(m 0, .inr (8, [.int (q 0), .ref (m 1), .int (nI n), .int (q 2), .int (q 3), .int (q 4), .ref (m 2), .ref (m 3), .ref (m 4), .ref (m 5), .int (nI c), .ref (m 6), .ref (m 7), .ref (m 8), .int (q 6), .int (q 7), .int (q 8)])), (m 1, .inl (gy G 0, 120, .inl sg)), (m 2, .inl (gy G 0, 271, .inl rd)), (m 3, .inl (gy G 0, 271, .inl f)), (m 4, .inl (gy G 0, 271, .inl tr)), (m 5, .inl (gy G 0, 3794, .inl dy)), (m 6, .inl (gy G 0, 542, .inl kp)), (m 7, .inl (gy G 2, 2, .inl ik)), (m 8, .inl (gy G 0, 10, .inl tn))]) E (mX8_isRun G z) gX8_run_X8_isRun rfl hnX8_isRun ⟨Nat.le_of_ble_eq_true rfl, Nat.le_of_ble_eq_true rfl⟩ (gPerm_ix [0, 1, 2, 3, 4, 5, 6, 7, 8] rfl rfl) rfl rfl (Nat.le_of_ble_eq_true rfl) dX8_run_2 ⟨Nat.le_of_ble_eq_true rfl, Nat.le_of_ble_eq_true rfl⟩ (gPerm_ix [0, 1, 2, 3, 4, 5, 6, 7, 8] rfl rfl) ?_
  refine g_if_eqB (tgt := 12) (P := (¬ z < 1 ∧ ¬ 30 < z)) E dX8_run_5 (by decide) (fun c1 => ?_) (fun c1 => ?_)
  · skip
    refine g_iconst (v := 1) E dX8_run_12 (by decide) ?_
    refine g_callVIe (F := [(m 1, .inl (gy G 0, 120, .inl sg)), (m 2, .inl (gy G 0, 271, .inl rd)), (m 3, .inl (gy G 0, 271, .inl f)), (m 4, .inl (gy G 0, 271, .inl tr)), (m 5, .inl (gy G 0, 3794, .inl dy)), (m 6, .inl (gy G 0, 542, .inl kp)), (m 7, .inl (gy G 2, 2, .inl ik)), (m 8, .inl (gy G 0, 10, .inl tn))]) (ws2 := [(m 0, .inr (8, [.int 1, .ref (m 1), .int (nI n), .int (q 2), .int (q 3), .int (q 4), .ref (m 2), .ref (m 3), .ref (m 4), .ref (m 5), .int (nI c), .ref (m 6), .ref (m 7), .ref (m 8), .int (q 6), .int (q 7), .int (q 8)])), (m 1, .inl (gy G 0, 120, .inl sg)), (m 2, .inl (gy G 0, 271, .inl rd)), (m 3, .inl (gy G 0, 271, .inl f)), (m 4, .inl (gy G 0, 271, .inl tr)), (m 5, .inl (gy G 0, 3794, .inl dy)), (m 6, .inl (gy G 0, 542, .inl kp)), (m 7, .inl (gy G 2, 2, .inl ik)), (m 8, .inl (gy G 0, 10, .inl tn))]) E (mX8_refused G m (qU (qU q 1 (nI n)) 5 (nI c)) 1) gX8_run_X8_refused rfl hdX8_refused ⟨Nat.le_of_ble_eq_true rfl, Nat.le_of_ble_eq_true rfl⟩ 8 0 rfl rfl rfl (gPerm_ix [0, 1, 2, 3, 4, 5, 6, 7, 8] rfl rfl) rfl rfl (Nat.le_of_ble_eq_true rfl) dX8_run_13 ⟨Nat.le_of_ble_eq_true rfl, Nat.le_of_ble_eq_true rfl⟩ (gPerm_ix [0, 1, 2, 3, 4, 5, 6, 7, 8] rfl rfl) ?_
    refine g_if_eq (tgt := 21) E dX8_run_16 (by decide) (fun c => absurd c (by decide)) (fun _ => ?_)
    refine g_iconst (v := 0) E dX8_run_19 (by decide) ?_
    exact RET _ _ _ (qU (qU (qU q 0 1) 1 (nI n)) 5 (nI c), sg, rd, f, tr, dy, kp, ik, tn) (gRefP_mk (k := 1) (A := ((n, sg), S, (c, H), sl)) (by rw [fRun, if_neg c1]) rfl (fun e => absurd e (by decide)) ⟨rfl, rfl, hRR, rfl, hD, hKp⟩) rfl dX8_run_20
  · skip
    obtain ⟨j, hj0, hj, rfl⟩ := nI_ofl1 (m := 30) c1 rfl rfl (by decide)
    refine g_iconst (v := 0) E dX8_run_8 (by decide) ?_
    refine g_goto (tgt := 13) E dX8_run_9 (by decide) ?_
    refine g_callVIe (F := [(m 1, .inl (gy G 0, 120, .inl sg)), (m 2, .inl (gy G 0, 271, .inl rd)), (m 3, .inl (gy G 0, 271, .inl f)), (m 4, .inl (gy G 0, 271, .inl tr)), (m 5, .inl (gy G 0, 3794, .inl dy)), (m 6, .inl (gy G 0, 542, .inl kp)), (m 7, .inl (gy G 2, 2, .inl ik)), (m 8, .inl (gy G 0, 10, .inl tn))]) (ws2 := [(m 0, .inr (8, [.int 0, .ref (m 1), .int (nI n), .int (q 2), .int (q 3), .int (q 4), .ref (m 2), .ref (m 3), .ref (m 4), .ref (m 5), .int (nI c), .ref (m 6), .ref (m 7), .ref (m 8), .int (q 6), .int (q 7), .int (q 8)])), (m 1, .inl (gy G 0, 120, .inl sg)), (m 2, .inl (gy G 0, 271, .inl rd)), (m 3, .inl (gy G 0, 271, .inl f)), (m 4, .inl (gy G 0, 271, .inl tr)), (m 5, .inl (gy G 0, 3794, .inl dy)), (m 6, .inl (gy G 0, 542, .inl kp)), (m 7, .inl (gy G 2, 2, .inl ik)), (m 8, .inl (gy G 0, 10, .inl tn))]) E (mX8_refused G m (qU (qU q 1 (nI n)) 5 (nI c)) 0) gX8_run_X8_refused rfl hdX8_refused ⟨Nat.le_of_ble_eq_true rfl, Nat.le_of_ble_eq_true rfl⟩ 8 0 rfl rfl rfl (gPerm_ix [0, 1, 2, 3, 4, 5, 6, 7, 8] rfl rfl) rfl rfl (Nat.le_of_ble_eq_true rfl) dX8_run_13 ⟨Nat.le_of_ble_eq_true rfl, Nat.le_of_ble_eq_true rfl⟩ (gPerm_ix [0, 1, 2, 3, 4, 5, 6, 7, 8] rfl rfl) ?_
    refine g_if_eq (tgt := 21) E dX8_run_16 (by decide) (fun _ => ?_) (fun c => absurd c (by decide))
    refine g_aload_n E dX8_run_21 rfl 0 rfl ?_
    refine g_callVV (F := [(m 1, .inl (gy G 0, 120, .inl sg)), (m 2, .inl (gy G 0, 271, .inl rd)), (m 4, .inl (gy G 0, 271, .inl tr)), (m 6, .inl (gy G 0, 542, .inl kp)), (m 7, .inl (gy G 2, 2, .inl ik)), (m 8, .inl (gy G 0, 10, .inl tn))]) E (mX8_remember G m (qU (qU (qU q 0 0) 1 (nI n)) 5 (nI c)) c S H f dy hc14 hHo hI hRR hD) gX8_run_X8_remember rfl hdX8_remember ⟨Nat.le_of_ble_eq_true rfl, Nat.le_of_ble_eq_true rfl⟩ 8 0 rfl rfl rfl (gPerm_ix [0, 3, 5, 1, 2, 4, 6, 7, 8] rfl rfl) rfl rfl (Nat.le_of_ble_eq_true rfl) dX8_run_22 ⟨Nat.le_of_ble_eq_true rfl, Nat.le_of_ble_eq_true rfl⟩ (fun dy2 hD2 => ?_)
    refine g_perm (ws1 := [(m 0, .inr (8, [.int 0, .ref (m 1), .int (nI n), .int (q 2), .int (q 3), .int (q 4), .ref (m 2), .ref (m 3), .ref (m 4), .ref (m 5), .int (nI (gHc c)), .ref (m 6), .ref (m 7), .ref (m 8), .int (q 6), .int (q 7), .int (q 8)])), (m 1, .inl (gy G 0, 120, .inl sg)), (m 2, .inl (gy G 0, 271, .inl rd)), (m 3, .inl (gy G 0, 271, .inl f)), (m 4, .inl (gy G 0, 271, .inl tr)), (m 5, .inl (gy G 0, 3794, .inl dy2)), (m 6, .inl (gy G 0, 542, .inl kp)), (m 7, .inl (gy G 2, 2, .inl ik)), (m 8, .inl (gy G 0, 10, .inl tn))]) (gPerm_ix [0, 3, 4, 1, 5, 2, 6, 7, 8] rfl rfl) ?_
    refine g_aload_n E dX8_run_25 rfl 0 rfl ?_
    refine g_aload_n E dX8_run_26 rfl 0 rfl ?_
    refine g_get E uX8_run_RX8 0 rfl rfl 7 (by decide) kX8_run_16 rfl rfl dX8_run_27 ?_
    refine g_iload_n E dX8_run_30 rfl 1 rfl ?_
    refine g_callVIu (F := [(m 1, .inl (gy G 0, 120, .inl sg)), (m 2, .inl (gy G 0, 271, .inl rd)), (m 4, .inl (gy G 0, 271, .inl tr)), (m 5, .inl (gy G 0, 3794, .inl dy2)), (m 6, .inl (gy G 0, 542, .inl kp)), (m 7, .inl (gy G 2, 2, .inl ik))]) E (mX8_runIn G m (qU (qU (qU q 0 0) 1 (nI n)) 5 (nI (gHc c))) (m 3) S f tn j hJ (by omega) hRR) gX8_run_X8_runIn rfl hdX8_runIn ⟨Nat.le_of_ble_eq_true rfl, Nat.le_of_ble_eq_true rfl⟩ 8 0 rfl rfl rfl (gPerm_ix [0, 8, 3, 1, 2, 4, 5, 6, 7] rfl rfl) rfl rfl (Nat.le_of_ble_eq_true rfl) dX8_run_31 ⟨Nat.le_of_ble_eq_true rfl, Nat.le_of_ble_eq_true rfl⟩ (fun u3 hU3 => ?_)
    obtain ⟨S3, xE3⟩ : ∃ x, x = gDays j S := ⟨_, rfl⟩
    have hRR3 : RR S3 u3.2.2 := by rw [xE3]; exact hU3
    refine g_perm (ws1 := [(m 0, .inr (8, [.int 0, .ref (m 1), .int (nI n), .int (q 2), .int (q 3), .int (q 4), .ref (m 2), .ref (m 3), .ref (m 4), .ref (m 5), .int (nI (gHc c)), .ref (m 6), .ref (m 7), .ref (m 8), .int u3.1, .int (q 7), .int (q 8)])), (m 1, .inl (gy G 0, 120, .inl sg)), (m 2, .inl (gy G 0, 271, .inl rd)), (m 3, .inl (gy G 0, 271, .inl u3.2.2)), (m 4, .inl (gy G 0, 271, .inl tr)), (m 5, .inl (gy G 0, 3794, .inl dy2)), (m 6, .inl (gy G 0, 542, .inl kp)), (m 7, .inl (gy G 2, 2, .inl ik)), (m 8, .inl (gy G 0, 10, .inl u3.2.1))]) (gPerm_ix [0, 3, 4, 2, 5, 6, 7, 8, 1] rfl rfl) ?_
    obtain ⟨xa, xb, xc⟩ := gDays_ans (n := j) hK (by omega)
    exact RET _ _ _ (qU (qU (qU (qU q 0 0) 1 (nI n)) 5 (nI (gHc c))) 6 u3.1, sg, rd, u3.2.2, tr, dy2, kp, ik, u3.2.1) (gRefP_mk (k := 0) (v := sI (gDays j S) 8 0 - sI S 8 0) (A := (aRem ((n, sg), S, (c, H), sl) S3)) (by rw [fRun, if_pos c1, nI_clamp (by omega)]; exact aAct_0 (v := sI (gDays j S) 8 0 - sI S 8 0) (T := S3) (by rw [xE3]) (by rw [xc]; exact nI_nneg (by omega))) rfl (fun _ => rfl) ⟨rfl, rfl, hRR3, rfl, hD2, hKp⟩) rfl dX8_run_34

set_option maxHeartbeats 4000000 in
set_option maxRecDepth 100000 in
theorem mX8_isSetting (G : gG) (x y : Int32)  : CIe G yX8_isSetting wsX8_isSetting 1 25 [.int x, .int y] [] (if ((¬ x < 0 ∧ ¬ 6 ≤ x) ∧ (¬ y < gLst x.toNatClampNeg ∧ ¬ gMst x.toNatClampNeg < y)) then 1 else 0) [] 0 0 := by
  refine g_enterIe (ty := .boolean) RX8 rfl (by decide) rfl (Nat.le_of_ble_eq_true rfl) ?_
  intro V E RET
  by_cases cq : (¬ x < 0 ∧ ¬ 5 < x)
  · skip
    obtain ⟨j, hj, rfl⟩ := gNat_ofl (m := 5) cq rfl rfl (by decide)
    rcases (show j = 0 ∨ j = 1 ∨ j = 2 ∨ j = 3 ∨ j = 4 ∨ j = 5 by omega) with rfl | rfl | rfl | rfl | rfl | rfl
    · skip
      refine g_iload_n E dX8_isSetting_0 rfl 0 rfl ?_
      refine g_if_ne (tgt := 8) E dX8_isSetting_1 (by decide) (fun c => absurd c (by decide)) (fun _ => ?_)
      refine g_iconst (v := 4) E dX8_isSetting_4 (by decide) ?_
      refine g_goto (tgt := 30) E dX8_isSetting_5 (by decide) ?_
      refine g_istore_n (lv' := [(2, .int 4), (0, .int 0), (1, .int y)]) E dX8_isSetting_30 rfl (by decide) rfl ?_
      refine g_iload_n E dX8_isSetting_31 rfl 1 rfl ?_
      refine g_i2l (v := (0 : Int32).toInt64) E dX8_isSetting_32 rfl ?_
      refine g_lconst (v := 0) E dX8_isSetting_33 (by decide) ?_
      refine g_ldc2 (v := 5) E kX8_isSetting_254 dX8_isSetting_34 ?_
      refine g_callSIe (F := []) (ws2 := []) E (g_resI (gIn64 (lo := 0) (hi := 5) rfl rfl) (mX8_in G ((0 : Int32).toInt64) 0 5)) gX8_isSetting_X8_in rfl hnX8_in ⟨Nat.le_of_ble_eq_true rfl, Nat.le_of_ble_eq_true rfl⟩ (gPerm_ix [] rfl rfl) rfl rfl (Nat.le_of_ble_eq_true rfl) dX8_isSetting_37 ⟨Nat.le_of_ble_eq_true rfl, Nat.le_of_ble_eq_true rfl⟩ (gPerm_ix [] rfl rfl) ?_
      refine g_if_eqB (tgt := 67) (P := (¬ 0 < 0 ∧ ¬ 5 < 0)) E dX8_isSetting_40 (by decide) (fun c1 => ?_) (fun c1 => ?_)
      · exfalso
        exact c1 (by decide)
      · skip
        refine g_iload_n E dX8_isSetting_43 rfl 2 rfl ?_
        refine g_i2l (v := y.toInt64) E dX8_isSetting_44 rfl ?_
        refine g_iload_n E dX8_isSetting_45 rfl 1 rfl ?_
        refine g_iconst (v := 4) E dX8_isSetting_46 (by decide) ?_
        refine g_icmp_ge (tgt := 54) E dX8_isSetting_47 (by decide) (fun c => absurd c (by decide)) (fun _ => ?_)
        refine g_lconst (v := 1) E dX8_isSetting_50 (by decide) ?_
        refine g_goto (tgt := 55) E dX8_isSetting_51 (by decide) ?_
        refine g_iload_n E dX8_isSetting_55 rfl 0 rfl ?_
        refine g_i2l (v := (4 : Int32).toInt64) E dX8_isSetting_56 rfl ?_
        refine g_callSIe (F := []) (ws2 := []) E (g_resI (gIn64 (lo := 1) (hi := 4) rfl rfl) (mX8_in G y.toInt64 1 ((4 : Int32).toInt64))) gX8_isSetting_X8_in rfl hnX8_in ⟨Nat.le_of_ble_eq_true rfl, Nat.le_of_ble_eq_true rfl⟩ (gPerm_ix [] rfl rfl) rfl rfl (Nat.le_of_ble_eq_true rfl) dX8_isSetting_57 ⟨Nat.le_of_ble_eq_true rfl, Nat.le_of_ble_eq_true rfl⟩ (gPerm_ix [] rfl rfl) ?_
        refine g_if_eqB (tgt := 67) (P := (¬ y < 1 ∧ ¬ 4 < y)) E dX8_isSetting_60 (by decide) (fun c2 => ?_) (fun c2 => ?_)
        · skip
          refine g_iconst (v := 0) E dX8_isSetting_67 (by decide) ?_
          exact RET _ _ _ () ((if_neg (fun q => c2 q.2)).symm) rfl dX8_isSetting_68
        · skip
          refine g_iconst (v := 1) E dX8_isSetting_63 (by decide) ?_
          refine g_goto (tgt := 68) E dX8_isSetting_64 (by decide) ?_
          exact RET _ _ _ () ((if_pos ⟨by decide, c2⟩).symm) rfl dX8_isSetting_68
    · skip
      refine g_iload_n E dX8_isSetting_0 rfl 0 rfl ?_
      refine g_if_ne (tgt := 8) E dX8_isSetting_1 (by decide) (fun _ => ?_) (fun c => absurd c (by decide))
      refine g_iload_n E dX8_isSetting_8 rfl 0 rfl ?_
      refine g_iconst (v := 1) E dX8_isSetting_9 (by decide) ?_
      refine g_icmp_ne (tgt := 18) E dX8_isSetting_10 (by decide) (fun c => absurd c (by decide)) (fun _ => ?_)
      refine g_bipush (v := 9) E dX8_isSetting_13 (by decide) ?_
      refine g_goto (tgt := 30) E dX8_isSetting_15 (by decide) ?_
      refine g_istore_n (lv' := [(2, .int 9), (0, .int 1), (1, .int y)]) E dX8_isSetting_30 rfl (by decide) rfl ?_
      refine g_iload_n E dX8_isSetting_31 rfl 1 rfl ?_
      refine g_i2l (v := (1 : Int32).toInt64) E dX8_isSetting_32 rfl ?_
      refine g_lconst (v := 0) E dX8_isSetting_33 (by decide) ?_
      refine g_ldc2 (v := 5) E kX8_isSetting_254 dX8_isSetting_34 ?_
      refine g_callSIe (F := []) (ws2 := []) E (g_resI (gIn64 (lo := 0) (hi := 5) rfl rfl) (mX8_in G ((1 : Int32).toInt64) 0 5)) gX8_isSetting_X8_in rfl hnX8_in ⟨Nat.le_of_ble_eq_true rfl, Nat.le_of_ble_eq_true rfl⟩ (gPerm_ix [] rfl rfl) rfl rfl (Nat.le_of_ble_eq_true rfl) dX8_isSetting_37 ⟨Nat.le_of_ble_eq_true rfl, Nat.le_of_ble_eq_true rfl⟩ (gPerm_ix [] rfl rfl) ?_
      refine g_if_eqB (tgt := 67) (P := (¬ 1 < 0 ∧ ¬ 5 < 1)) E dX8_isSetting_40 (by decide) (fun c3 => ?_) (fun c3 => ?_)
      · exfalso
        exact c3 (by decide)
      · skip
        refine g_iload_n E dX8_isSetting_43 rfl 2 rfl ?_
        refine g_i2l (v := y.toInt64) E dX8_isSetting_44 rfl ?_
        refine g_iload_n E dX8_isSetting_45 rfl 1 rfl ?_
        refine g_iconst (v := 4) E dX8_isSetting_46 (by decide) ?_
        refine g_icmp_ge (tgt := 54) E dX8_isSetting_47 (by decide) (fun c => absurd c (by decide)) (fun _ => ?_)
        refine g_lconst (v := 1) E dX8_isSetting_50 (by decide) ?_
        refine g_goto (tgt := 55) E dX8_isSetting_51 (by decide) ?_
        refine g_iload_n E dX8_isSetting_55 rfl 0 rfl ?_
        refine g_i2l (v := (9 : Int32).toInt64) E dX8_isSetting_56 rfl ?_
        refine g_callSIe (F := []) (ws2 := []) E (g_resI (gIn64 (lo := 1) (hi := 9) rfl rfl) (mX8_in G y.toInt64 1 ((9 : Int32).toInt64))) gX8_isSetting_X8_in rfl hnX8_in ⟨Nat.le_of_ble_eq_true rfl, Nat.le_of_ble_eq_true rfl⟩ (gPerm_ix [] rfl rfl) rfl rfl (Nat.le_of_ble_eq_true rfl) dX8_isSetting_57 ⟨Nat.le_of_ble_eq_true rfl, Nat.le_of_ble_eq_true rfl⟩ (gPerm_ix [] rfl rfl) ?_
        refine g_if_eqB (tgt := 67) (P := (¬ y < 1 ∧ ¬ 9 < y)) E dX8_isSetting_60 (by decide) (fun c4 => ?_) (fun c4 => ?_)
        · skip
          refine g_iconst (v := 0) E dX8_isSetting_67 (by decide) ?_
          exact RET _ _ _ () ((if_neg (fun q => c4 q.2)).symm) rfl dX8_isSetting_68
        · skip
          refine g_iconst (v := 1) E dX8_isSetting_63 (by decide) ?_
          refine g_goto (tgt := 68) E dX8_isSetting_64 (by decide) ?_
          exact RET _ _ _ () ((if_pos ⟨by decide, c4⟩).symm) rfl dX8_isSetting_68
    · skip
      refine g_iload_n E dX8_isSetting_0 rfl 0 rfl ?_
      refine g_if_ne (tgt := 8) E dX8_isSetting_1 (by decide) (fun _ => ?_) (fun c => absurd c (by decide))
      refine g_iload_n E dX8_isSetting_8 rfl 0 rfl ?_
      refine g_iconst (v := 1) E dX8_isSetting_9 (by decide) ?_
      refine g_icmp_ne (tgt := 18) E dX8_isSetting_10 (by decide) (fun _ => ?_) (fun c => absurd c (by decide))
      refine g_iload_n E dX8_isSetting_18 rfl 0 rfl ?_
      refine g_iconst (v := 4) E dX8_isSetting_19 (by decide) ?_
      refine g_icmp_ne (tgt := 28) E dX8_isSetting_20 (by decide) (fun _ => ?_) (fun c => absurd c (by decide))
      refine g_bipush (v := 99) E dX8_isSetting_28 (by decide) ?_
      refine g_istore_n (lv' := [(2, .int 99), (0, .int 2), (1, .int y)]) E dX8_isSetting_30 rfl (by decide) rfl ?_
      refine g_iload_n E dX8_isSetting_31 rfl 1 rfl ?_
      refine g_i2l (v := (2 : Int32).toInt64) E dX8_isSetting_32 rfl ?_
      refine g_lconst (v := 0) E dX8_isSetting_33 (by decide) ?_
      refine g_ldc2 (v := 5) E kX8_isSetting_254 dX8_isSetting_34 ?_
      refine g_callSIe (F := []) (ws2 := []) E (g_resI (gIn64 (lo := 0) (hi := 5) rfl rfl) (mX8_in G ((2 : Int32).toInt64) 0 5)) gX8_isSetting_X8_in rfl hnX8_in ⟨Nat.le_of_ble_eq_true rfl, Nat.le_of_ble_eq_true rfl⟩ (gPerm_ix [] rfl rfl) rfl rfl (Nat.le_of_ble_eq_true rfl) dX8_isSetting_37 ⟨Nat.le_of_ble_eq_true rfl, Nat.le_of_ble_eq_true rfl⟩ (gPerm_ix [] rfl rfl) ?_
      refine g_if_eqB (tgt := 67) (P := (¬ 2 < 0 ∧ ¬ 5 < 2)) E dX8_isSetting_40 (by decide) (fun c5 => ?_) (fun c5 => ?_)
      · exfalso
        exact c5 (by decide)
      · skip
        refine g_iload_n E dX8_isSetting_43 rfl 2 rfl ?_
        refine g_i2l (v := y.toInt64) E dX8_isSetting_44 rfl ?_
        refine g_iload_n E dX8_isSetting_45 rfl 1 rfl ?_
        refine g_iconst (v := 4) E dX8_isSetting_46 (by decide) ?_
        refine g_icmp_ge (tgt := 54) E dX8_isSetting_47 (by decide) (fun c => absurd c (by decide)) (fun _ => ?_)
        refine g_lconst (v := 1) E dX8_isSetting_50 (by decide) ?_
        refine g_goto (tgt := 55) E dX8_isSetting_51 (by decide) ?_
        refine g_iload_n E dX8_isSetting_55 rfl 0 rfl ?_
        refine g_i2l (v := (99 : Int32).toInt64) E dX8_isSetting_56 rfl ?_
        refine g_callSIe (F := []) (ws2 := []) E (g_resI (gIn64 (lo := 1) (hi := 99) rfl rfl) (mX8_in G y.toInt64 1 ((99 : Int32).toInt64))) gX8_isSetting_X8_in rfl hnX8_in ⟨Nat.le_of_ble_eq_true rfl, Nat.le_of_ble_eq_true rfl⟩ (gPerm_ix [] rfl rfl) rfl rfl (Nat.le_of_ble_eq_true rfl) dX8_isSetting_57 ⟨Nat.le_of_ble_eq_true rfl, Nat.le_of_ble_eq_true rfl⟩ (gPerm_ix [] rfl rfl) ?_
        refine g_if_eqB (tgt := 67) (P := (¬ y < 1 ∧ ¬ 99 < y)) E dX8_isSetting_60 (by decide) (fun c6 => ?_) (fun c6 => ?_)
        · skip
          refine g_iconst (v := 0) E dX8_isSetting_67 (by decide) ?_
          exact RET _ _ _ () ((if_neg (fun q => c6 q.2)).symm) rfl dX8_isSetting_68
        · skip
          refine g_iconst (v := 1) E dX8_isSetting_63 (by decide) ?_
          refine g_goto (tgt := 68) E dX8_isSetting_64 (by decide) ?_
          exact RET _ _ _ () ((if_pos ⟨by decide, c6⟩).symm) rfl dX8_isSetting_68
    · skip
      refine g_iload_n E dX8_isSetting_0 rfl 0 rfl ?_
      refine g_if_ne (tgt := 8) E dX8_isSetting_1 (by decide) (fun _ => ?_) (fun c => absurd c (by decide))
      refine g_iload_n E dX8_isSetting_8 rfl 0 rfl ?_
      refine g_iconst (v := 1) E dX8_isSetting_9 (by decide) ?_
      refine g_icmp_ne (tgt := 18) E dX8_isSetting_10 (by decide) (fun _ => ?_) (fun c => absurd c (by decide))
      refine g_iload_n E dX8_isSetting_18 rfl 0 rfl ?_
      refine g_iconst (v := 4) E dX8_isSetting_19 (by decide) ?_
      refine g_icmp_ne (tgt := 28) E dX8_isSetting_20 (by decide) (fun _ => ?_) (fun c => absurd c (by decide))
      refine g_bipush (v := 99) E dX8_isSetting_28 (by decide) ?_
      refine g_istore_n (lv' := [(2, .int 99), (0, .int 3), (1, .int y)]) E dX8_isSetting_30 rfl (by decide) rfl ?_
      refine g_iload_n E dX8_isSetting_31 rfl 1 rfl ?_
      refine g_i2l (v := (3 : Int32).toInt64) E dX8_isSetting_32 rfl ?_
      refine g_lconst (v := 0) E dX8_isSetting_33 (by decide) ?_
      refine g_ldc2 (v := 5) E kX8_isSetting_254 dX8_isSetting_34 ?_
      refine g_callSIe (F := []) (ws2 := []) E (g_resI (gIn64 (lo := 0) (hi := 5) rfl rfl) (mX8_in G ((3 : Int32).toInt64) 0 5)) gX8_isSetting_X8_in rfl hnX8_in ⟨Nat.le_of_ble_eq_true rfl, Nat.le_of_ble_eq_true rfl⟩ (gPerm_ix [] rfl rfl) rfl rfl (Nat.le_of_ble_eq_true rfl) dX8_isSetting_37 ⟨Nat.le_of_ble_eq_true rfl, Nat.le_of_ble_eq_true rfl⟩ (gPerm_ix [] rfl rfl) ?_
      refine g_if_eqB (tgt := 67) (P := (¬ 3 < 0 ∧ ¬ 5 < 3)) E dX8_isSetting_40 (by decide) (fun c7 => ?_) (fun c7 => ?_)
      · exfalso
        exact c7 (by decide)
      · skip
        refine g_iload_n E dX8_isSetting_43 rfl 2 rfl ?_
        refine g_i2l (v := y.toInt64) E dX8_isSetting_44 rfl ?_
        refine g_iload_n E dX8_isSetting_45 rfl 1 rfl ?_
        refine g_iconst (v := 4) E dX8_isSetting_46 (by decide) ?_
        refine g_icmp_ge (tgt := 54) E dX8_isSetting_47 (by decide) (fun c => absurd c (by decide)) (fun _ => ?_)
        refine g_lconst (v := 1) E dX8_isSetting_50 (by decide) ?_
        refine g_goto (tgt := 55) E dX8_isSetting_51 (by decide) ?_
        refine g_iload_n E dX8_isSetting_55 rfl 0 rfl ?_
        refine g_i2l (v := (99 : Int32).toInt64) E dX8_isSetting_56 rfl ?_
        refine g_callSIe (F := []) (ws2 := []) E (g_resI (gIn64 (lo := 1) (hi := 99) rfl rfl) (mX8_in G y.toInt64 1 ((99 : Int32).toInt64))) gX8_isSetting_X8_in rfl hnX8_in ⟨Nat.le_of_ble_eq_true rfl, Nat.le_of_ble_eq_true rfl⟩ (gPerm_ix [] rfl rfl) rfl rfl (Nat.le_of_ble_eq_true rfl) dX8_isSetting_57 ⟨Nat.le_of_ble_eq_true rfl, Nat.le_of_ble_eq_true rfl⟩ (gPerm_ix [] rfl rfl) ?_
        refine g_if_eqB (tgt := 67) (P := (¬ y < 1 ∧ ¬ 99 < y)) E dX8_isSetting_60 (by decide) (fun c8 => ?_) (fun c8 => ?_)
        · skip
          refine g_iconst (v := 0) E dX8_isSetting_67 (by decide) ?_
          exact RET _ _ _ () ((if_neg (fun q => c8 q.2)).symm) rfl dX8_isSetting_68
        · skip
          refine g_iconst (v := 1) E dX8_isSetting_63 (by decide) ?_
          refine g_goto (tgt := 68) E dX8_isSetting_64 (by decide) ?_
          exact RET _ _ _ () ((if_pos ⟨by decide, c8⟩).symm) rfl dX8_isSetting_68
    · skip
      refine g_iload_n E dX8_isSetting_0 rfl 0 rfl ?_
      refine g_if_ne (tgt := 8) E dX8_isSetting_1 (by decide) (fun _ => ?_) (fun c => absurd c (by decide))
      refine g_iload_n E dX8_isSetting_8 rfl 0 rfl ?_
      refine g_iconst (v := 1) E dX8_isSetting_9 (by decide) ?_
      refine g_icmp_ne (tgt := 18) E dX8_isSetting_10 (by decide) (fun _ => ?_) (fun c => absurd c (by decide))
      refine g_iload_n E dX8_isSetting_18 rfl 0 rfl ?_
      refine g_iconst (v := 4) E dX8_isSetting_19 (by decide) ?_
      refine g_icmp_ne (tgt := 28) E dX8_isSetting_20 (by decide) (fun c => absurd c (by decide)) (fun _ => ?_)
      refine g_bipush (v := 59) E dX8_isSetting_23 (by decide) ?_
      refine g_goto (tgt := 30) E dX8_isSetting_25 (by decide) ?_
      refine g_istore_n (lv' := [(2, .int 59), (0, .int 4), (1, .int y)]) E dX8_isSetting_30 rfl (by decide) rfl ?_
      refine g_iload_n E dX8_isSetting_31 rfl 1 rfl ?_
      refine g_i2l (v := (4 : Int32).toInt64) E dX8_isSetting_32 rfl ?_
      refine g_lconst (v := 0) E dX8_isSetting_33 (by decide) ?_
      refine g_ldc2 (v := 5) E kX8_isSetting_254 dX8_isSetting_34 ?_
      refine g_callSIe (F := []) (ws2 := []) E (g_resI (gIn64 (lo := 0) (hi := 5) rfl rfl) (mX8_in G ((4 : Int32).toInt64) 0 5)) gX8_isSetting_X8_in rfl hnX8_in ⟨Nat.le_of_ble_eq_true rfl, Nat.le_of_ble_eq_true rfl⟩ (gPerm_ix [] rfl rfl) rfl rfl (Nat.le_of_ble_eq_true rfl) dX8_isSetting_37 ⟨Nat.le_of_ble_eq_true rfl, Nat.le_of_ble_eq_true rfl⟩ (gPerm_ix [] rfl rfl) ?_
      refine g_if_eqB (tgt := 67) (P := (¬ 4 < 0 ∧ ¬ 5 < 4)) E dX8_isSetting_40 (by decide) (fun c9 => ?_) (fun c9 => ?_)
      · exfalso
        exact c9 (by decide)
      · skip
        refine g_iload_n E dX8_isSetting_43 rfl 2 rfl ?_
        refine g_i2l (v := y.toInt64) E dX8_isSetting_44 rfl ?_
        refine g_iload_n E dX8_isSetting_45 rfl 1 rfl ?_
        refine g_iconst (v := 4) E dX8_isSetting_46 (by decide) ?_
        refine g_icmp_ge (tgt := 54) E dX8_isSetting_47 (by decide) (fun _ => ?_) (fun c => absurd c (by decide))
        refine g_lconst (v := 0) E dX8_isSetting_54 (by decide) ?_
        refine g_iload_n E dX8_isSetting_55 rfl 0 rfl ?_
        refine g_i2l (v := (59 : Int32).toInt64) E dX8_isSetting_56 rfl ?_
        refine g_callSIe (F := []) (ws2 := []) E (g_resI (gIn64 (lo := 0) (hi := 59) rfl rfl) (mX8_in G y.toInt64 0 ((59 : Int32).toInt64))) gX8_isSetting_X8_in rfl hnX8_in ⟨Nat.le_of_ble_eq_true rfl, Nat.le_of_ble_eq_true rfl⟩ (gPerm_ix [] rfl rfl) rfl rfl (Nat.le_of_ble_eq_true rfl) dX8_isSetting_57 ⟨Nat.le_of_ble_eq_true rfl, Nat.le_of_ble_eq_true rfl⟩ (gPerm_ix [] rfl rfl) ?_
        refine g_if_eqB (tgt := 67) (P := (¬ y < 0 ∧ ¬ 59 < y)) E dX8_isSetting_60 (by decide) (fun c10 => ?_) (fun c10 => ?_)
        · skip
          refine g_iconst (v := 0) E dX8_isSetting_67 (by decide) ?_
          exact RET _ _ _ () ((if_neg (fun q => c10 q.2)).symm) rfl dX8_isSetting_68
        · skip
          refine g_iconst (v := 1) E dX8_isSetting_63 (by decide) ?_
          refine g_goto (tgt := 68) E dX8_isSetting_64 (by decide) ?_
          exact RET _ _ _ () ((if_pos ⟨by decide, c10⟩).symm) rfl dX8_isSetting_68
    · skip
      refine g_iload_n E dX8_isSetting_0 rfl 0 rfl ?_
      refine g_if_ne (tgt := 8) E dX8_isSetting_1 (by decide) (fun _ => ?_) (fun c => absurd c (by decide))
      refine g_iload_n E dX8_isSetting_8 rfl 0 rfl ?_
      refine g_iconst (v := 1) E dX8_isSetting_9 (by decide) ?_
      refine g_icmp_ne (tgt := 18) E dX8_isSetting_10 (by decide) (fun _ => ?_) (fun c => absurd c (by decide))
      refine g_iload_n E dX8_isSetting_18 rfl 0 rfl ?_
      refine g_iconst (v := 4) E dX8_isSetting_19 (by decide) ?_
      refine g_icmp_ne (tgt := 28) E dX8_isSetting_20 (by decide) (fun _ => ?_) (fun c => absurd c (by decide))
      refine g_bipush (v := 99) E dX8_isSetting_28 (by decide) ?_
      refine g_istore_n (lv' := [(2, .int 99), (0, .int 5), (1, .int y)]) E dX8_isSetting_30 rfl (by decide) rfl ?_
      refine g_iload_n E dX8_isSetting_31 rfl 1 rfl ?_
      refine g_i2l (v := (5 : Int32).toInt64) E dX8_isSetting_32 rfl ?_
      refine g_lconst (v := 0) E dX8_isSetting_33 (by decide) ?_
      refine g_ldc2 (v := 5) E kX8_isSetting_254 dX8_isSetting_34 ?_
      refine g_callSIe (F := []) (ws2 := []) E (g_resI (gIn64 (lo := 0) (hi := 5) rfl rfl) (mX8_in G ((5 : Int32).toInt64) 0 5)) gX8_isSetting_X8_in rfl hnX8_in ⟨Nat.le_of_ble_eq_true rfl, Nat.le_of_ble_eq_true rfl⟩ (gPerm_ix [] rfl rfl) rfl rfl (Nat.le_of_ble_eq_true rfl) dX8_isSetting_37 ⟨Nat.le_of_ble_eq_true rfl, Nat.le_of_ble_eq_true rfl⟩ (gPerm_ix [] rfl rfl) ?_
      refine g_if_eqB (tgt := 67) (P := (¬ 5 < 0 ∧ ¬ 5 < 5)) E dX8_isSetting_40 (by decide) (fun c11 => ?_) (fun c11 => ?_)
      · exfalso
        exact c11 (by decide)
      · skip
        refine g_iload_n E dX8_isSetting_43 rfl 2 rfl ?_
        refine g_i2l (v := y.toInt64) E dX8_isSetting_44 rfl ?_
        refine g_iload_n E dX8_isSetting_45 rfl 1 rfl ?_
        refine g_iconst (v := 4) E dX8_isSetting_46 (by decide) ?_
        refine g_icmp_ge (tgt := 54) E dX8_isSetting_47 (by decide) (fun _ => ?_) (fun c => absurd c (by decide))
        refine g_lconst (v := 0) E dX8_isSetting_54 (by decide) ?_
        refine g_iload_n E dX8_isSetting_55 rfl 0 rfl ?_
        refine g_i2l (v := (99 : Int32).toInt64) E dX8_isSetting_56 rfl ?_
        refine g_callSIe (F := []) (ws2 := []) E (g_resI (gIn64 (lo := 0) (hi := 99) rfl rfl) (mX8_in G y.toInt64 0 ((99 : Int32).toInt64))) gX8_isSetting_X8_in rfl hnX8_in ⟨Nat.le_of_ble_eq_true rfl, Nat.le_of_ble_eq_true rfl⟩ (gPerm_ix [] rfl rfl) rfl rfl (Nat.le_of_ble_eq_true rfl) dX8_isSetting_57 ⟨Nat.le_of_ble_eq_true rfl, Nat.le_of_ble_eq_true rfl⟩ (gPerm_ix [] rfl rfl) ?_
        refine g_if_eqB (tgt := 67) (P := (¬ y < 0 ∧ ¬ 99 < y)) E dX8_isSetting_60 (by decide) (fun c12 => ?_) (fun c12 => ?_)
        · skip
          refine g_iconst (v := 0) E dX8_isSetting_67 (by decide) ?_
          exact RET _ _ _ () ((if_neg (fun q => c12 q.2)).symm) rfl dX8_isSetting_68
        · skip
          refine g_iconst (v := 1) E dX8_isSetting_63 (by decide) ?_
          refine g_goto (tgt := 68) E dX8_isSetting_64 (by decide) ?_
          exact RET _ _ _ () ((if_pos ⟨by decide, c12⟩).symm) rfl dX8_isSetting_68
  · skip
    have hx0 : ¬ x = 0 := fun q => cq (by rw [q]; decide)
    have hx1 : ¬ x = 1 := fun q => cq (by rw [q]; decide)
    have hx4 : ¬ x = 4 := fun q => cq (by rw [q]; decide)
    refine g_iload_n E dX8_isSetting_0 rfl 0 rfl ?_
    refine g_if_ne (tgt := 8) E dX8_isSetting_1 (by decide) (fun c13 => ?_) (fun c13 => ?_)
    · skip
      refine g_iload_n E dX8_isSetting_8 rfl 0 rfl ?_
      refine g_iconst (v := 1) E dX8_isSetting_9 (by decide) ?_
      refine g_icmp_ne (tgt := 18) E dX8_isSetting_10 (by decide) (fun c14 => ?_) (fun c14 => ?_)
      · skip
        refine g_iload_n E dX8_isSetting_18 rfl 0 rfl ?_
        refine g_iconst (v := 4) E dX8_isSetting_19 (by decide) ?_
        refine g_icmp_ne (tgt := 28) E dX8_isSetting_20 (by decide) (fun c15 => ?_) (fun c15 => ?_)
        · skip
          refine g_bipush (v := 99) E dX8_isSetting_28 (by decide) ?_
          refine g_istore_n (lv' := [(2, .int 99), (0, .int x), (1, .int y)]) E dX8_isSetting_30 rfl (by decide) rfl ?_
          refine g_iload_n E dX8_isSetting_31 rfl 1 rfl ?_
          refine g_i2l (v := x.toInt64) E dX8_isSetting_32 rfl ?_
          refine g_lconst (v := 0) E dX8_isSetting_33 (by decide) ?_
          refine g_ldc2 (v := 5) E kX8_isSetting_254 dX8_isSetting_34 ?_
          refine g_callSIe (F := []) (ws2 := []) E (g_resI (gIn64 (lo := 0) (hi := 5) rfl rfl) (mX8_in G x.toInt64 0 5)) gX8_isSetting_X8_in rfl hnX8_in ⟨Nat.le_of_ble_eq_true rfl, Nat.le_of_ble_eq_true rfl⟩ (gPerm_ix [] rfl rfl) rfl rfl (Nat.le_of_ble_eq_true rfl) dX8_isSetting_37 ⟨Nat.le_of_ble_eq_true rfl, Nat.le_of_ble_eq_true rfl⟩ (gPerm_ix [] rfl rfl) ?_
          refine g_if_eqB (tgt := 67) (P := (¬ x < 0 ∧ ¬ 5 < x)) E dX8_isSetting_40 (by decide) (fun c16 => ?_) (fun c16 => ?_)
          · skip
            refine g_iconst (v := 0) E dX8_isSetting_67 (by decide) ?_
            exact RET _ _ _ () (by rw [if_neg (fun q => cq (gV56.mpr q.1))]) rfl dX8_isSetting_68
          · exfalso
            exact cq c16
        · exfalso
          exact hx4 c15
      · exfalso
        exact hx1 c14
    · exfalso
      exact hx0 c13

set_option maxHeartbeats 4000000 in
set_option maxRecDepth 100000 in
theorem mX8_set (G : gG) (m : Nat → Nat) (q : Nat → Int32) (n c : Nat) (sg : Nat → Int32) (S : gSt) (H : Nat → gSt) (sl : Nat → Option gSt) (rd f tr dy kp ik tn : Nat → Int32) (x y : Int32) (hn12 : n ≤ 120) (hO : gOk 50000 S) (hc14 : c ≤ 14) (hHo : gHok 50000 c H) (hRR : RR S f) (hD : gDry c H dy) (hKp : gKpt sl kp ik) : CI G yX8_set wsX8_set 2 47 [.ref (m 0), .int x, .int y] [(m 0, .inr (8, [.int (q 0), .ref (m 1), .int (nI n), .int (q 2), .int (q 3), .int (q 4), .ref (m 2), .ref (m 3), .ref (m 4), .ref (m 5), .int (nI c), .ref (m 6), .ref (m 7), .ref (m 8), .int (q 6), .int (q 7), .int (q 8)])), (m 1, .inl (gy G 0, 120, .inl sg)), (m 2, .inl (gy G 0, 271, .inl rd)), (m 3, .inl (gy G 0, 271, .inl f)), (m 4, .inl (gy G 0, 271, .inl tr)), (m 5, .inl (gy G 0, 3794, .inl dy)), (m 6, .inl (gy G 0, 542, .inl kp)), (m 7, .inl (gy G 2, 2, .inl ik)), (m 8, .inl (gy G 0, 10, .inl tn))] (gRefP (aAct 0 1 0 ((n, sg), S, (c, H), sl) (gTrySet S x y))) (fun (u : gRu) => (wR G m u)) 0 0 := by
  refine g_enterI (ty := .int) RX8 rfl (by decide) rfl (Nat.le_of_ble_eq_true rfl) ?_
  intro V E RET
  have hK := hO.1
  have hJ := hK.1
  have hI := hJ.1
  have hT1 := hO.2.2
  have hT2 : sN S 0 < 200000000 := by omega
  have hT : sN S 0 < 1000000000 := by omega
  have hb2 := gI2_b2 hJ
  have hX := hI
  obtain ⟨hP8, hn, hw, hW8, hs3, hs4, hs5, hs6, hs7, hs8, hb34⟩ := hX
  refine g_aload_n E dX8_set_0 rfl 0 rfl ?_
  refine g_iload_n E dX8_set_1 rfl 1 rfl ?_
  refine g_iload_n E dX8_set_2 rfl 2 rfl ?_
  refine g_callSIe (F := [(m 0, .inr (8, [.int (q 0), .ref (m 1), .int (nI n), .int (q 2), .int (q 3), .int (q 4), .ref (m 2), .ref (m 3), .ref (m 4), .ref (m 5), .int (nI c), .ref (m 6), .ref (m 7), .ref (m 8), .int (q 6), .int (q 7), .int (q 8)])), (m 1, .inl (gy G 0, 120, .inl sg)), (m 2, .inl (gy G 0, 271, .inl rd)), (m 3, .inl (gy G 0, 271, .inl f)), (m 4, .inl (gy G 0, 271, .inl tr)), (m 5, .inl (gy G 0, 3794, .inl dy)), (m 6, .inl (gy G 0, 542, .inl kp)), (m 7, .inl (gy G 2, 2, .inl ik)), (m 8, .inl (gy G 0, 10, .inl tn))]) (ws2 := [(m 0, .inr (8, [.int (q 0), .ref (m 1), .int (nI n), .int (q 2), .int (q 3), .int (q 4), .ref (m 2), .ref (m 3), .ref (m 4), .ref (m 5), .int (nI c), .ref (m 6), .ref (m 7), .ref (m 8), .int (q 6), .int (q 7), .int (q 8)])), (m 1, .inl (gy G 0, 120, .inl sg)), (m 2, .inl (gy G 0, 271, .inl rd)), (m 3, .inl (gy G 0, 271, .inl f)), (m 4, .inl (gy G 0, 271, .inl tr)), (m 5, .inl (gy G 0, 3794, .inl dy)), (m 6, .inl (gy G 0, 542, .inl kp)), (m 7, .inl (gy G 2, 2, .inl ik)), (m 8, .inl (gy G 0, 10, .inl tn))]) E (mX8_isSetting G x y) gX8_set_X8_isSetting rfl hnX8_isSetting ⟨Nat.le_of_ble_eq_true rfl, Nat.le_of_ble_eq_true rfl⟩ (gPerm_ix [0, 1, 2, 3, 4, 5, 6, 7, 8] rfl rfl) rfl rfl (Nat.le_of_ble_eq_true rfl) dX8_set_3 ⟨Nat.le_of_ble_eq_true rfl, Nat.le_of_ble_eq_true rfl⟩ (gPerm_ix [0, 1, 2, 3, 4, 5, 6, 7, 8] rfl rfl) ?_
  refine g_if_eqB (tgt := 13) (P := ((¬ x < 0 ∧ ¬ 6 ≤ x) ∧ (¬ y < gLst x.toNatClampNeg ∧ ¬ gMst x.toNatClampNeg < y))) E dX8_set_6 (by decide) (fun c1 => ?_) (fun c1 => ?_)
  · skip
    refine g_iconst (v := 1) E dX8_set_13 (by decide) ?_
    refine g_callVIe (F := [(m 1, .inl (gy G 0, 120, .inl sg)), (m 2, .inl (gy G 0, 271, .inl rd)), (m 3, .inl (gy G 0, 271, .inl f)), (m 4, .inl (gy G 0, 271, .inl tr)), (m 5, .inl (gy G 0, 3794, .inl dy)), (m 6, .inl (gy G 0, 542, .inl kp)), (m 7, .inl (gy G 2, 2, .inl ik)), (m 8, .inl (gy G 0, 10, .inl tn))]) (ws2 := [(m 0, .inr (8, [.int 1, .ref (m 1), .int (nI n), .int (q 2), .int (q 3), .int (q 4), .ref (m 2), .ref (m 3), .ref (m 4), .ref (m 5), .int (nI c), .ref (m 6), .ref (m 7), .ref (m 8), .int (q 6), .int (q 7), .int (q 8)])), (m 1, .inl (gy G 0, 120, .inl sg)), (m 2, .inl (gy G 0, 271, .inl rd)), (m 3, .inl (gy G 0, 271, .inl f)), (m 4, .inl (gy G 0, 271, .inl tr)), (m 5, .inl (gy G 0, 3794, .inl dy)), (m 6, .inl (gy G 0, 542, .inl kp)), (m 7, .inl (gy G 2, 2, .inl ik)), (m 8, .inl (gy G 0, 10, .inl tn))]) E (mX8_refused G m (qU (qU q 1 (nI n)) 5 (nI c)) 1) gX8_set_X8_refused rfl hdX8_refused ⟨Nat.le_of_ble_eq_true rfl, Nat.le_of_ble_eq_true rfl⟩ 8 0 rfl rfl rfl (gPerm_ix [0, 1, 2, 3, 4, 5, 6, 7, 8] rfl rfl) rfl rfl (Nat.le_of_ble_eq_true rfl) dX8_set_14 ⟨Nat.le_of_ble_eq_true rfl, Nat.le_of_ble_eq_true rfl⟩ (gPerm_ix [0, 1, 2, 3, 4, 5, 6, 7, 8] rfl rfl) ?_
    refine g_if_eq (tgt := 22) E dX8_set_17 (by decide) (fun c => absurd c (by decide)) (fun _ => ?_)
    refine g_iconst (v := 0) E dX8_set_20 (by decide) ?_
    exact RET _ _ _ (qU (qU (qU q 0 1) 1 (nI n)) 5 (nI c), sg, rd, f, tr, dy, kp, ik, tn) (gRefP_mk (k := 1) (A := ((n, sg), S, (c, H), sl)) (aAct_2 (gSet_no c1)) rfl (fun e => absurd e (by decide)) ⟨rfl, rfl, hRR, rfl, hD, hKp⟩) rfl dX8_set_21
  · skip
    obtain ⟨j, hj, rfl⟩ := gNat_ofl (m := 5) (gV56.mpr c1.1) rfl rfl (by decide)
    have hc2 := c1.2
    rw [nI_clamp (by omega)] at hc2
    obtain ⟨e, hea, heb, rfl⟩ := gSet_nat hj hc2
    have hm9 := gMstN_le hj
    refine g_iconst (v := 0) E dX8_set_9 (by decide) ?_
    refine g_goto (tgt := 14) E dX8_set_10 (by decide) ?_
    refine g_callVIe (F := [(m 1, .inl (gy G 0, 120, .inl sg)), (m 2, .inl (gy G 0, 271, .inl rd)), (m 3, .inl (gy G 0, 271, .inl f)), (m 4, .inl (gy G 0, 271, .inl tr)), (m 5, .inl (gy G 0, 3794, .inl dy)), (m 6, .inl (gy G 0, 542, .inl kp)), (m 7, .inl (gy G 2, 2, .inl ik)), (m 8, .inl (gy G 0, 10, .inl tn))]) (ws2 := [(m 0, .inr (8, [.int 0, .ref (m 1), .int (nI n), .int (q 2), .int (q 3), .int (q 4), .ref (m 2), .ref (m 3), .ref (m 4), .ref (m 5), .int (nI c), .ref (m 6), .ref (m 7), .ref (m 8), .int (q 6), .int (q 7), .int (q 8)])), (m 1, .inl (gy G 0, 120, .inl sg)), (m 2, .inl (gy G 0, 271, .inl rd)), (m 3, .inl (gy G 0, 271, .inl f)), (m 4, .inl (gy G 0, 271, .inl tr)), (m 5, .inl (gy G 0, 3794, .inl dy)), (m 6, .inl (gy G 0, 542, .inl kp)), (m 7, .inl (gy G 2, 2, .inl ik)), (m 8, .inl (gy G 0, 10, .inl tn))]) E (mX8_refused G m (qU (qU q 1 (nI n)) 5 (nI c)) 0) gX8_set_X8_refused rfl hdX8_refused ⟨Nat.le_of_ble_eq_true rfl, Nat.le_of_ble_eq_true rfl⟩ 8 0 rfl rfl rfl (gPerm_ix [0, 1, 2, 3, 4, 5, 6, 7, 8] rfl rfl) rfl rfl (Nat.le_of_ble_eq_true rfl) dX8_set_14 ⟨Nat.le_of_ble_eq_true rfl, Nat.le_of_ble_eq_true rfl⟩ (gPerm_ix [0, 1, 2, 3, 4, 5, 6, 7, 8] rfl rfl) ?_
    refine g_if_eq (tgt := 22) E dX8_set_17 (by decide) (fun _ => ?_) (fun c => absurd c (by decide))
    refine g_aload_n E dX8_set_22 rfl 0 rfl ?_
    refine g_callVV (F := [(m 1, .inl (gy G 0, 120, .inl sg)), (m 2, .inl (gy G 0, 271, .inl rd)), (m 4, .inl (gy G 0, 271, .inl tr)), (m 6, .inl (gy G 0, 542, .inl kp)), (m 7, .inl (gy G 2, 2, .inl ik)), (m 8, .inl (gy G 0, 10, .inl tn))]) E (mX8_remember G m (qU (qU (qU q 0 0) 1 (nI n)) 5 (nI c)) c S H f dy hc14 hHo hI hRR hD) gX8_set_X8_remember rfl hdX8_remember ⟨Nat.le_of_ble_eq_true rfl, Nat.le_of_ble_eq_true rfl⟩ 8 0 rfl rfl rfl (gPerm_ix [0, 3, 5, 1, 2, 4, 6, 7, 8] rfl rfl) rfl rfl (Nat.le_of_ble_eq_true rfl) dX8_set_23 ⟨Nat.le_of_ble_eq_true rfl, Nat.le_of_ble_eq_true rfl⟩ (fun dy2 hD2 => ?_)
    refine g_perm (ws1 := [(m 0, .inr (8, [.int 0, .ref (m 1), .int (nI n), .int (q 2), .int (q 3), .int (q 4), .ref (m 2), .ref (m 3), .ref (m 4), .ref (m 5), .int (nI (gHc c)), .ref (m 6), .ref (m 7), .ref (m 8), .int (q 6), .int (q 7), .int (q 8)])), (m 1, .inl (gy G 0, 120, .inl sg)), (m 2, .inl (gy G 0, 271, .inl rd)), (m 3, .inl (gy G 0, 271, .inl f)), (m 4, .inl (gy G 0, 271, .inl tr)), (m 5, .inl (gy G 0, 3794, .inl dy2)), (m 6, .inl (gy G 0, 542, .inl kp)), (m 7, .inl (gy G 2, 2, .inl ik)), (m 8, .inl (gy G 0, 10, .inl tn))]) (gPerm_ix [0, 3, 4, 1, 5, 2, 6, 7, 8] rfl rfl) ?_
    refine g_aload_n E dX8_set_26 rfl 0 rfl ?_
    refine g_get E uX8_set_RX8 0 rfl rfl 7 (by decide) kX8_set_16 rfl rfl dX8_set_27 ?_
    refine g_bipush (v := 9) E dX8_set_30 (by decide) ?_
    refine g_iload_n E dX8_set_32 rfl 1 rfl ?_
    refine g_iaddN (a := 9) (b := j) E dX8_set_33 ?_
    refine g_ialdN (e := 9 + j) E 3 rfl (by omega) rfl (v := nI (sS S j)) (RR_S hRR (j := j) (by omega)) dX8_set_34 ?_
    refine g_istore_n (lv' := [(3, .int (nI (sS S j))), (0, .ref (m 0)), (1, .int (nI j)), (2, .int (nI e))]) E dX8_set_35 rfl (by decide) rfl ?_
    refine g_aload_n E dX8_set_36 rfl 1 rfl ?_
    refine g_get E uX8_set_RX8 0 rfl rfl 7 (by decide) kX8_set_16 rfl rfl dX8_set_37 ?_
    refine g_bipush (v := 9) E dX8_set_40 (by decide) ?_
    refine g_iload_n E dX8_set_42 rfl 2 rfl ?_
    refine g_iaddN (a := 9) (b := j) E dX8_set_43 ?_
    refine g_iload_n E dX8_set_44 rfl 3 rfl ?_
    refine g_iast (ws' := [(m 0, .inr (8, [.int 0, .ref (m 1), .int (nI n), .int (q 2), .int (q 3), .int (q 4), .ref (m 2), .ref (m 3), .ref (m 4), .ref (m 5), .int (nI (gHc c)), .ref (m 6), .ref (m 7), .ref (m 8), .int (q 6), .int (q 7), .int (q 8)])), (m 1, .inl (gy G 0, 120, .inl sg)), (m 2, .inl (gy G 0, 271, .inl rd)), (m 3, .inl (gy G 0, 271, .inl (upd f (9 + j) (nI e)))), (m 4, .inl (gy G 0, 271, .inl tr)), (m 5, .inl (gy G 0, 3794, .inl dy2)), (m 6, .inl (gy G 0, 542, .inl kp)), (m 7, .inl (gy G 2, 2, .inl ik)), (m 8, .inl (gy G 0, 10, .inl tn))]) (j := 9 + j) (y := nI e) E 3 rfl (g_in (e := 9 + j) (by omega) rfl) (nI_clamp (n := 9 + j) (by omega)) rfl rfl dX8_set_45 ?_
    have hRR3 : RR (uS S j e) (upd f (9 + j) (nI e)) := RR_uS hRR hj
    refine g_iload_n E dX8_set_46 rfl 0 rfl ?_
    have hsj := gSet_lt hI hj
    exact RET _ _ _ (qU (qU (qU q 0 0) 1 (nI n)) 5 (nI (gHc c)), sg, rd, upd f (9 + j) (nI e), tr, dy2, kp, ik, tn) (gRefP_mk (k := 0) (v := nI (sS S j)) (A := (aRem ((n, sg), S, (c, H), sl) (uS S j e))) (by exact aAct_0 (v := nI (sS S j)) (T := uS S j e) (gSet_yes c1 hj (by omega)) (nI_nneg (by omega))) rfl (fun _ => rfl) ⟨rfl, rfl, hRR3, rfl, hD2, hKp⟩) rfl dX8_set_47

set_option maxHeartbeats 4000000 in
set_option maxRecDepth 100000 in
theorem mX8_undo (G : gG) (m : Nat → Nat) (q : Nat → Int32) (n c : Nat) (sg : Nat → Int32) (S : gSt) (H : Nat → gSt) (sl : Nat → Option gSt) (rd f tr dy kp ik tn : Nat → Int32)  (hn12 : n ≤ 120) (hO : gOk 50000 S) (hc14 : c ≤ 14) (hHo : gHok 50000 c H) (hRR : RR S f) (hD : gDry c H dy) (hKp : gKpt sl kp ik) : CI G yX8_undo wsX8_undo 1 25 [.ref (m 0)] [(m 0, .inr (8, [.int (q 0), .ref (m 1), .int (nI n), .int (q 2), .int (q 3), .int (q 4), .ref (m 2), .ref (m 3), .ref (m 4), .ref (m 5), .int (nI c), .ref (m 6), .ref (m 7), .ref (m 8), .int (q 6), .int (q 7), .int (q 8)])), (m 1, .inl (gy G 0, 120, .inl sg)), (m 2, .inl (gy G 0, 271, .inl rd)), (m 3, .inl (gy G 0, 271, .inl f)), (m 4, .inl (gy G 0, 271, .inl tr)), (m 5, .inl (gy G 0, 3794, .inl dy)), (m 6, .inl (gy G 0, 542, .inl kp)), (m 7, .inl (gy G 2, 2, .inl ik)), (m 8, .inl (gy G 0, 10, .inl tn))] (gRefP (fUndo ((n, sg), S, (c, H), sl))) (fun (u : gRu) => (wR G m u)) 0 0 := by
  refine g_enterI (ty := .int) RX8 rfl (by decide) rfl (Nat.le_of_ble_eq_true rfl) ?_
  intro V E RET
  have hK := hO.1
  have hJ := hK.1
  have hI := hJ.1
  have hT1 := hO.2.2
  have hT2 : sN S 0 < 200000000 := by omega
  have hT : sN S 0 < 1000000000 := by omega
  have hb2 := gI2_b2 hJ
  have hX := hI
  obtain ⟨hP8, hn, hw, hW8, hs3, hs4, hs5, hs6, hs7, hs8, hb34⟩ := hX
  refine g_aload_n E dX8_undo_0 rfl 0 rfl ?_
  refine g_aload_n E dX8_undo_1 rfl 0 rfl ?_
  refine g_get E uX8_undo_RX8 0 rfl rfl 10 (by decide) kX8_undo_45 rfl rfl dX8_undo_2 ?_
  refine g_if_neN (tgt := 12) (a := c) E dX8_undo_5 (by decide) (by omega) (fun c1 => ?_) (fun c1 => ?_)
  · skip
    refine g_iconst (v := 0) E dX8_undo_12 (by decide) ?_
    refine g_callVIe (F := [(m 1, .inl (gy G 0, 120, .inl sg)), (m 2, .inl (gy G 0, 271, .inl rd)), (m 3, .inl (gy G 0, 271, .inl f)), (m 4, .inl (gy G 0, 271, .inl tr)), (m 5, .inl (gy G 0, 3794, .inl dy)), (m 6, .inl (gy G 0, 542, .inl kp)), (m 7, .inl (gy G 2, 2, .inl ik)), (m 8, .inl (gy G 0, 10, .inl tn))]) (ws2 := [(m 0, .inr (8, [.int 0, .ref (m 1), .int (nI n), .int (q 2), .int (q 3), .int (q 4), .ref (m 2), .ref (m 3), .ref (m 4), .ref (m 5), .int (nI c), .ref (m 6), .ref (m 7), .ref (m 8), .int (q 6), .int (q 7), .int (q 8)])), (m 1, .inl (gy G 0, 120, .inl sg)), (m 2, .inl (gy G 0, 271, .inl rd)), (m 3, .inl (gy G 0, 271, .inl f)), (m 4, .inl (gy G 0, 271, .inl tr)), (m 5, .inl (gy G 0, 3794, .inl dy)), (m 6, .inl (gy G 0, 542, .inl kp)), (m 7, .inl (gy G 2, 2, .inl ik)), (m 8, .inl (gy G 0, 10, .inl tn))]) E (mX8_refused G m (qU (qU q 1 (nI n)) 5 (nI c)) 0) gX8_undo_X8_refused rfl hdX8_refused ⟨Nat.le_of_ble_eq_true rfl, Nat.le_of_ble_eq_true rfl⟩ 8 0 rfl rfl rfl (gPerm_ix [0, 1, 2, 3, 4, 5, 6, 7, 8] rfl rfl) rfl rfl (Nat.le_of_ble_eq_true rfl) dX8_undo_13 ⟨Nat.le_of_ble_eq_true rfl, Nat.le_of_ble_eq_true rfl⟩ (gPerm_ix [0, 1, 2, 3, 4, 5, 6, 7, 8] rfl rfl) ?_
    refine g_if_eq (tgt := 21) E dX8_undo_16 (by decide) (fun _ => ?_) (fun c => absurd c (by decide))
    refine g_aload_n E dX8_undo_21 rfl 0 rfl ?_
    refine g_dup E dX8_undo_22 rfl ?_
    refine g_get E uX8_undo_RX8 0 rfl rfl 10 (by decide) kX8_undo_45 rfl rfl dX8_undo_23 ?_
    refine g_iconst (v := 1) E dX8_undo_26 (by decide) ?_
    refine g_isubN (a := c) (b := 1) E dX8_undo_27 (by omega) ?_
    refine g_put (ws' := [(m 0, .inr (8, [.int 0, .ref (m 1), .int (nI n), .int (q 2), .int (q 3), .int (q 4), .ref (m 2), .ref (m 3), .ref (m 4), .ref (m 5), .int (nI (c - 1)), .ref (m 6), .ref (m 7), .ref (m 8), .int (q 6), .int (q 7), .int (q 8)])), (m 1, .inl (gy G 0, 120, .inl sg)), (m 2, .inl (gy G 0, 271, .inl rd)), (m 3, .inl (gy G 0, 271, .inl f)), (m 4, .inl (gy G 0, 271, .inl tr)), (m 5, .inl (gy G 0, 3794, .inl dy)), (m 6, .inl (gy G 0, 542, .inl kp)), (m 7, .inl (gy G 2, 2, .inl ik)), (m 8, .inl (gy G 0, 10, .inl tn))]) E uX8_undo_RX8 tyX8 tyX8_ok nmX8 0 rfl rfl 10 (by decide) kX8_undo_45 rfl rfl rfl rfl (Nat.le_of_ble_eq_true rfl) rfl dX8_undo_28 ?_
    refine g_aload_n E dX8_undo_31 rfl 0 rfl ?_
    refine g_get E uX8_undo_RX8 0 rfl rfl 9 (by decide) kX8_undo_22 rfl rfl dX8_undo_32 ?_
    refine g_sipush (v := 271) E dX8_undo_35 (by decide) ?_
    refine g_aload_n E dX8_undo_38 rfl 0 rfl ?_
    refine g_get E uX8_undo_RX8 0 rfl rfl 10 (by decide) kX8_undo_45 rfl rfl dX8_undo_39 ?_
    refine g_imulN (a := 271) (b := c - 1) E dX8_undo_42 ?_
    refine g_aload_n E dX8_undo_43 rfl 0 rfl ?_
    refine g_get E uX8_undo_RX8 0 rfl rfl 7 (by decide) kX8_undo_16 rfl rfl dX8_undo_44 ?_
    refine g_iconst (v := 0) E dX8_undo_47 (by decide) ?_
    refine g_sipush (v := 271) E dX8_undo_48 (by decide) ?_
    refine g_callSVe (F := [(m 0, .inr (8, [.int 0, .ref (m 1), .int (nI n), .int (q 2), .int (q 3), .int (q 4), .ref (m 2), .ref (m 3), .ref (m 4), .ref (m 5), .int (nI (c - 1)), .ref (m 6), .ref (m 7), .ref (m 8), .int (q 6), .int (q 7), .int (q 8)])), (m 1, .inl (gy G 0, 120, .inl sg)), (m 2, .inl (gy G 0, 271, .inl rd)), (m 4, .inl (gy G 0, 271, .inl tr)), (m 6, .inl (gy G 0, 542, .inl kp)), (m 7, .inl (gy G 2, 2, .inl ik)), (m 8, .inl (gy G 0, 10, .inl tn))]) (ws2 := [(m 0, .inr (8, [.int 0, .ref (m 1), .int (nI n), .int (q 2), .int (q 3), .int (q 4), .ref (m 2), .ref (m 3), .ref (m 4), .ref (m 5), .int (nI (c - 1)), .ref (m 6), .ref (m 7), .ref (m 8), .int (q 6), .int (q 7), .int (q 8)])), (m 1, .inl (gy G 0, 120, .inl sg)), (m 2, .inl (gy G 0, 271, .inl rd)), (m 3, .inl (gy G 0, 271, .inl (va_cpy dy f (271 * (c - 1)) 0 271))), (m 4, .inl (gy G 0, 271, .inl tr)), (m 5, .inl (gy G 0, 3794, .inl dy)), (m 6, .inl (gy G 0, 542, .inl kp)), (m 7, .inl (gy G 2, 2, .inl ik)), (m 8, .inl (gy G 0, 10, .inl tn))]) E (mX8_copyE G (m 5) (m 3) dy f (271 * (c - 1)) 0 271 (by omega) (by omega)) gX8_undo_X8_copy rfl hnX8_copy ⟨Nat.le_of_ble_eq_true rfl, Nat.le_of_ble_eq_true rfl⟩ (gPerm_ix [5, 3, 0, 1, 2, 4, 6, 7, 8] rfl rfl) rfl rfl (Nat.le_of_ble_eq_true rfl) dX8_undo_51 ⟨Nat.le_of_ble_eq_true rfl, Nat.le_of_ble_eq_true rfl⟩ (gPerm_ix [2, 3, 4, 1, 5, 0, 6, 7, 8] rfl rfl) ?_
    have hRU : RR (H (c - 1)) (va_cpy dy f (271 * (c - 1)) 0 271) := RR_cg (hD (c - 1) (by omega)) (hHo (c - 1) (by omega)).1.1.1 (fun i hi => by show va_cpy dy f (271 * (c - 1)) 0 271 i = dy (271 * (c - 1) + i); unfold va_cpy; rw [if_pos (by omega), Nat.sub_zero])
    refine g_aload_n E dX8_undo_54 rfl 0 rfl ?_
    refine g_get E uX8_undo_RX8 0 rfl rfl 10 (by decide) kX8_undo_45 rfl rfl dX8_undo_55 ?_
    exact RET _ _ _ (qU (qU (qU q 0 0) 1 (nI n)) 5 (nI (c - 1)), sg, rd, va_cpy dy f (271 * (c - 1)) 0 271, tr, dy, kp, ik, tn) (gRefP_mk (k := 0) (A := ((n, sg), H (c - 1), (c - 1, H), sl)) (by rw [fUndo, if_neg c1]) rfl (fun _ => rfl) ⟨rfl, rfl, hRU, rfl, (fun i hi => hD i (show i < c by have q : i < c - 1 := hi; omega)), hKp⟩) rfl dX8_undo_58
  · skip
    refine g_iconst (v := 1) E dX8_undo_8 (by decide) ?_
    refine g_goto (tgt := 13) E dX8_undo_9 (by decide) ?_
    refine g_callVIe (F := [(m 1, .inl (gy G 0, 120, .inl sg)), (m 2, .inl (gy G 0, 271, .inl rd)), (m 3, .inl (gy G 0, 271, .inl f)), (m 4, .inl (gy G 0, 271, .inl tr)), (m 5, .inl (gy G 0, 3794, .inl dy)), (m 6, .inl (gy G 0, 542, .inl kp)), (m 7, .inl (gy G 2, 2, .inl ik)), (m 8, .inl (gy G 0, 10, .inl tn))]) (ws2 := [(m 0, .inr (8, [.int 1, .ref (m 1), .int (nI n), .int (q 2), .int (q 3), .int (q 4), .ref (m 2), .ref (m 3), .ref (m 4), .ref (m 5), .int (nI c), .ref (m 6), .ref (m 7), .ref (m 8), .int (q 6), .int (q 7), .int (q 8)])), (m 1, .inl (gy G 0, 120, .inl sg)), (m 2, .inl (gy G 0, 271, .inl rd)), (m 3, .inl (gy G 0, 271, .inl f)), (m 4, .inl (gy G 0, 271, .inl tr)), (m 5, .inl (gy G 0, 3794, .inl dy)), (m 6, .inl (gy G 0, 542, .inl kp)), (m 7, .inl (gy G 2, 2, .inl ik)), (m 8, .inl (gy G 0, 10, .inl tn))]) E (mX8_refused G m (qU (qU q 1 (nI n)) 5 (nI c)) 1) gX8_undo_X8_refused rfl hdX8_refused ⟨Nat.le_of_ble_eq_true rfl, Nat.le_of_ble_eq_true rfl⟩ 8 0 rfl rfl rfl (gPerm_ix [0, 1, 2, 3, 4, 5, 6, 7, 8] rfl rfl) rfl rfl (Nat.le_of_ble_eq_true rfl) dX8_undo_13 ⟨Nat.le_of_ble_eq_true rfl, Nat.le_of_ble_eq_true rfl⟩ (gPerm_ix [0, 1, 2, 3, 4, 5, 6, 7, 8] rfl rfl) ?_
    refine g_if_eq (tgt := 21) E dX8_undo_16 (by decide) (fun c => absurd c (by decide)) (fun _ => ?_)
    refine g_iconst (v := 0) E dX8_undo_19 (by decide) ?_
    exact RET _ _ _ (qU (qU (qU q 0 1) 1 (nI n)) 5 (nI c), sg, rd, f, tr, dy, kp, ik, tn) (gRefP_mk (k := 1) (A := ((n, sg), S, (c, H), sl)) (by rw [fUndo, if_pos c1]) rfl (fun e => absurd e (by decide)) ⟨rfl, rfl, hRR, rfl, hD, hKp⟩) rfl dX8_undo_20
