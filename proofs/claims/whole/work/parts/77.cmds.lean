set_option maxHeartbeats 4000000 in
set_option maxRecDepth 100000 in
theorem mX8_readM (G : gG) (m : Nat → Nat) (q : Nat → Int32) (n a : Nat) (sg : Nat → Int32) (S : gSt) (f : Nat → Int32) (lo : Nat)  (hn12 : n ≤ 120) (h0 : gSg n sg a = 109) (hK : gI3 S) (hT30 : sN S 0 + 30 < 200000000) (hRR : RR S f) : CV G yX8_readM wsX8_readM 3 69 [.ref (m 0)] [(m 0, .inr (8, [.int (q 0), .ref (m 1), .int (nI n), .int (nI (a + 1)), .int 1, .int (nI lo), .ref (m 2), .ref (m 3), .ref (m 4), .ref (m 5), .int (q 5), .ref (m 6), .ref (m 7), .ref (m 8), .int (q 6), .int (q 7), .int (q 8)])), (m 1, .inl (gy G 0, 120, .inl sg)), (m 2, .inl (gy G 0, 271, .inl f))] (fun u : Nat × Bool × Nat × (Nat → Int32) => u.1 ≤ n ∧ ∃ T, gCmdP n sg a S lo (u.1, u.2.1, u.2.2.1) T ∧ (u.2.1 = true → RR T u.2.2.2)) (fun (u : Nat × Bool × Nat × (Nat → Int32)) => [(m 0, .inr (8, [.int (q 0), .ref (m 1), .int (nI n), .int (nI u.1), .int (if u.2.1 = true then 1 else 0), .int (nI u.2.2.1), .ref (m 2), .ref (m 3), .ref (m 4), .ref (m 5), .int (q 5), .ref (m 6), .ref (m 7), .ref (m 8), .int (q 6), .int (q 7), .int (q 8)])), (m 1, .inl (gy G 0, 120, .inl sg)), (m 2, .inl (gy G 0, 271, .inl u.2.2.2))]) 0 0 := by
  refine g_enterV RX8 rfl (by decide) rfl (Nat.le_of_ble_eq_true rfl) ?_
  intro V E RET
  have hJ := hK.1
  have hI := hJ.1
  have hT2 : sN S 0 < 200000000 := by omega
  have hT : sN S 0 < 1000000000 := by omega
  have hb2 := gI2_b2 hJ
  have hX := hI
  obtain ⟨hP8, hn, hw, hW8, hs3, hs4, hs5, hs6, hs7, hs8, hb34⟩ := hX
  have ha1 : a < n := gSg_lt h0 (by first | decide | (rcases hx with q | q <;> (rw [q]; decide)))
  refine g_aload_n E dX8_readM_0 rfl 0 rfl ?_
  refine g_aload_n E dX8_readM_1 rfl 0 rfl ?_
  refine g_bipush (v := 97) E dX8_readM_2 (by decide) ?_
  refine g_callVIe (F := [(m 2, .inl (gy G 0, 271, .inl f))]) (ws2 := [(m 0, .inr (8, [.int (q 0), .ref (m 1), .int (nI n), .int (nI (a + 1)), .int 1, .int (nI lo), .ref (m 2), .ref (m 3), .ref (m 4), .ref (m 5), .int (q 5), .ref (m 6), .ref (m 7), .ref (m 8), .int (q 6), .int (q 7), .int (q 8)])), (m 1, .inl (gy G 0, 120, .inl sg)), (m 2, .inl (gy G 0, 271, .inl f))]) E (mX8_isNext G m (qU (qU (qU (qU q 1 (nI n)) 2 (nI (a + 1))) 3 1) 4 (nI lo)) n (a + 1) sg 97 (by omega) (by omega) (by decide)) gX8_readM_X8_isNext rfl hdX8_isNext ⟨Nat.le_of_ble_eq_true rfl, Nat.le_of_ble_eq_true rfl⟩ 8 0 rfl rfl rfl (gPerm_ix [0, 1, 2] rfl rfl) rfl rfl (Nat.le_of_ble_eq_true rfl) dX8_readM_4 ⟨Nat.le_of_ble_eq_true rfl, Nat.le_of_ble_eq_true rfl⟩ (gPerm_ix [0, 1, 2] rfl rfl) ?_
  by_cases c1 : gSg n sg (a + 1) = 97
  · skip
    refine g_top (y := 1) (if_pos c1) ?_
    have hltc1 : (a + 1) < n := gSg_lt c1 (by first | decide | assumption)
    refine g_callVVe (F := [(m 1, .inl (gy G 0, 120, .inl sg)), (m 2, .inl (gy G 0, 271, .inl f))]) (ws2 := [(m 0, .inr (8, [.int (q 0), .ref (m 1), .int (nI n), .int (nI (a + 1 + 1)), .int 1, .int (nI lo), .ref (m 2), .ref (m 3), .ref (m 4), .ref (m 5), .int (q 5), .ref (m 6), .ref (m 7), .ref (m 8), .int (q 6), .int (q 7), .int (q 8)])), (m 1, .inl (gy G 0, 120, .inl sg)), (m 2, .inl (gy G 0, 271, .inl f))]) E (mX8_acceptY G m (qU (qU (qU (qU q 1 (nI n)) 2 (nI (a + 1))) 3 1) 4 (nI lo)) (a + 1)) gX8_readM_X8_accept rfl hdX8_accept ⟨Nat.le_of_ble_eq_true rfl, Nat.le_of_ble_eq_true rfl⟩ 8 0 rfl rfl rfl (gPerm_ix [0, 1, 2] rfl rfl) rfl rfl (Nat.le_of_ble_eq_true rfl) dX8_readM_7 ⟨Nat.le_of_ble_eq_true rfl, Nat.le_of_ble_eq_true rfl⟩ (gPerm_ix [0, 1, 2] rfl rfl) ?_
    refine g_aload_n E dX8_readM_10 rfl 0 rfl ?_
    refine g_bipush (v := 110) E dX8_readM_11 (by decide) ?_
    refine g_callVIe (F := [(m 2, .inl (gy G 0, 271, .inl f))]) (ws2 := [(m 0, .inr (8, [.int (q 0), .ref (m 1), .int (nI n), .int (nI (a + 1 + 1)), .int 1, .int (nI lo), .ref (m 2), .ref (m 3), .ref (m 4), .ref (m 5), .int (q 5), .ref (m 6), .ref (m 7), .ref (m 8), .int (q 6), .int (q 7), .int (q 8)])), (m 1, .inl (gy G 0, 120, .inl sg)), (m 2, .inl (gy G 0, 271, .inl f))]) E (mX8_isNext G m (qU (qU (qU (qU q 1 (nI n)) 2 (nI (a + 1 + 1))) 3 1) 4 (nI lo)) n (a + 1 + 1) sg 110 (by omega) (by omega) (by decide)) gX8_readM_X8_isNext rfl hdX8_isNext ⟨Nat.le_of_ble_eq_true rfl, Nat.le_of_ble_eq_true rfl⟩ 8 0 rfl rfl rfl (gPerm_ix [0, 1, 2] rfl rfl) rfl rfl (Nat.le_of_ble_eq_true rfl) dX8_readM_13 ⟨Nat.le_of_ble_eq_true rfl, Nat.le_of_ble_eq_true rfl⟩ (gPerm_ix [0, 1, 2] rfl rfl) ?_
    refine g_istore_n (lv' := [(1, .int (if gSg n sg (a + 1 + 1) = 110 then 1 else 0)), (0, .ref (m 0))]) E dX8_readM_16 rfl (by decide) rfl ?_
    refine g_aload_n E dX8_readM_17 rfl 1 rfl ?_
    refine g_iload_n E dX8_readM_18 rfl 0 rfl ?_
    refine g_if_neB (tgt := 31) (P := gSg n sg (a + 1 + 1) = 110) E dX8_readM_19 (by decide) (fun c2 => ?_) (fun c2 => ?_)
    · skip
      have hlu := gSg_lt c2 (by decide)
      refine g_iconst (v := 1) E dX8_readM_31 (by decide) ?_
      refine g_goto (tgt := 36) E dX8_readM_32 (by decide) ?_
      refine g_callVVe (F := [(m 1, .inl (gy G 0, 120, .inl sg)), (m 2, .inl (gy G 0, 271, .inl f))]) (ws2 := [(m 0, .inr (8, [.int (q 0), .ref (m 1), .int (nI n), .int (nI (a + 1 + 1 + 1)), .int 1, .int (nI lo), .ref (m 2), .ref (m 3), .ref (m 4), .ref (m 5), .int (q 5), .ref (m 6), .ref (m 7), .ref (m 8), .int (q 6), .int (q 7), .int (q 8)])), (m 1, .inl (gy G 0, 120, .inl sg)), (m 2, .inl (gy G 0, 271, .inl f))]) E (mX8_acceptY G m (qU (qU (qU (qU q 1 (nI n)) 2 (nI (a + 1 + 1))) 3 1) 4 (nI lo)) (a + 1 + 1)) gX8_readM_X8_accept rfl hdX8_accept ⟨Nat.le_of_ble_eq_true rfl, Nat.le_of_ble_eq_true rfl⟩ 8 0 rfl rfl rfl (gPerm_ix [0, 1, 2] rfl rfl) rfl rfl (Nat.le_of_ble_eq_true rfl) dX8_readM_36 ⟨Nat.le_of_ble_eq_true rfl, Nat.le_of_ble_eq_true rfl⟩ (gPerm_ix [0, 1, 2] rfl rfl) ?_
      refine g_iload_n E dX8_readM_39 rfl 0 rfl ?_
      refine g_if_eqB (tgt := 85) (P := gSg n sg (a + 1 + 1) = 110) E dX8_readM_40 (by decide) (fun c3 => ?_) (fun c3 => ?_)
      · exfalso
        exact c3 c2
      · skip
        refine g_aload_n E dX8_readM_43 rfl 1 rfl ?_
        refine g_iconst (v := 0) E dX8_readM_44 (by decide) ?_
        refine g_iconst (v := 3) E dX8_readM_45 (by decide) ?_
        refine g_callVI (F := [(m 2, .inl (gy G 0, 271, .inl f))]) E (mX8_number G m (qU (qU (qU (qU q 1 (nI n)) 2 (nI (a + 1 + 1 + 1))) 3 1) 4 (nI lo)) n (a + 1 + 1 + 1) sg 114 0 3 (by omega) (by omega) (by decide) (by decide)) gX8_readM_X8_number rfl hdX8_number ⟨Nat.le_of_ble_eq_true rfl, Nat.le_of_ble_eq_true rfl⟩ 8 0 rfl rfl rfl (gPerm_ix [0, 1, 2] rfl rfl) rfl rfl (Nat.le_of_ble_eq_true rfl) dX8_readM_46 ⟨Nat.le_of_ble_eq_true rfl, Nat.le_of_ble_eq_true rfl⟩ (fun r4 u4 h4 => ?_)
        obtain ⟨hl4, hN4⟩ := h4
        refine g_perm (ws1 := [(m 0, .inr (8, [.int (q 0), .ref (m 1), .int (nI n), .int (nI u4.1), .int (if u4.2 = true then 1 else 0), .int (nI lo), .ref (m 2), .ref (m 3), .ref (m 4), .ref (m 5), .int (q 5), .ref (m 6), .ref (m 7), .ref (m 8), .int (q 6), .int (q 7), .int (q 8)])), (m 1, .inl (gy G 0, 120, .inl sg)), (m 2, .inl (gy G 0, 271, .inl f))]) (gPerm_ix [0, 1, 2] rfl rfl) ?_
        by_cases c5 : u4.2 = true
        · skip
          refine g_ws (ws' := [(m 0, .inr (8, [.int (q 0), .ref (m 1), .int (nI n), .int (nI u4.1), .int 1, .int (nI lo), .ref (m 2), .ref (m 3), .ref (m 4), .ref (m 5), .int (q 5), .ref (m 6), .ref (m 7), .ref (m 8), .int (q 6), .int (q 7), .int (q 8)])), (m 1, .inl (gy G 0, 120, .inl sg)), (m 2, .inl (gy G 0, 271, .inl f))]) (by rw [if_pos c5]) ?_
          obtain ⟨j4, ja4, jb4, jr4⟩ := gK_r hN4 c5 (M := 3) (by decide) (by decide) 0 (by decide) (by decide)
          refine g_top (y := nI j4) jr4 ?_
          refine g_istore_n (lv' := [(2, .int (nI j4)), (1, .int (if gSg n sg (a + 1 + 1) = 110 then 1 else 0)), (0, .ref (m 0))]) E dX8_readM_49 rfl (by decide) rfl ?_
          refine g_aload_n E dX8_readM_50 rfl 2 rfl ?_
          refine g_aload_n E dX8_readM_51 rfl 2 rfl ?_
          refine g_get E uX8_readM_RX8 0 rfl rfl 6 (by decide) kX8_readM_13 rfl rfl dX8_readM_52 ?_
          refine g_iconst (v := 1) E dX8_readM_55 (by decide) ?_
          refine g_ialdN (e := 1) E 2 rfl (by first | omega | exact fun w hw => gI2_zp hJ _ (Nat.le_refl _) (by omega) w hw) rfl (v := nI (sN S 1)) (RR_1 hRR) dX8_readM_56 ?_
          refine g_bipush (v := 8) E dX8_readM_57 (by decide) ?_
          refine g_icmp_geN (tgt := 66) (a := sN S 1) (b := 8) E dX8_readM_59 (by decide) (by first | omega | exact fun w hw => gI2_zp hJ _ (Nat.le_refl _) (by omega) w hw) (by first | omega | exact fun w hw => gI2_zp hJ _ (Nat.le_refl _) (by omega) w hw) (fun c6 => ?_) (fun c6 => ?_)
          · skip
            refine g_iconst (v := 0) E dX8_readM_66 (by decide) ?_
            refine g_callVIe (F := [(m 1, .inl (gy G 0, 120, .inl sg)), (m 2, .inl (gy G 0, 271, .inl f))]) (ws2 := [(m 0, .inr (8, [.int (q 0), .ref (m 1), .int (nI n), .int (nI u4.1), .int 1, .int (nI (lo + 1)), .ref (m 2), .ref (m 3), .ref (m 4), .ref (m 5), .int (q 5), .ref (m 6), .ref (m 7), .ref (m 8), .int (q 6), .int (q 7), .int (q 8)])), (m 1, .inl (gy G 0, 120, .inl sg)), (m 2, .inl (gy G 0, 271, .inl f))]) E (mX8_goesN G m (qU (qU (qU (qU q 1 (nI n)) 2 (nI u4.1)) 3 1) 4 (nI lo)) lo) gX8_readM_X8_goes rfl hdX8_goes ⟨Nat.le_of_ble_eq_true rfl, Nat.le_of_ble_eq_true rfl⟩ 8 0 rfl rfl rfl (gPerm_ix [0, 1, 2] rfl rfl) rfl rfl (Nat.le_of_ble_eq_true rfl) dX8_readM_67 ⟨Nat.le_of_ble_eq_true rfl, Nat.le_of_ble_eq_true rfl⟩ (gPerm_ix [0, 1, 2] rfl rfl) ?_
            refine g_if_eq (tgt := 82) E dX8_readM_70 (by decide) (fun _ => ?_) (fun c => absurd c (by decide))
            refine g_goto (tgt := 134) E dX8_readM_82 (by decide) ?_
            exact RET _ _ (u4.1, true, lo + 1, f) (⟨(show u4.1 ≤ n by omega), _, (by obtain ⟨rr, hr1, hr2⟩ := (⟨_, gTA_no jb4 (by omega), by decide⟩ : ∃ r, gTryAdd S (nI j4) = (r, S) ∧ r < 0); exact gCmd_out (w := 0) (by decide) (fun nm => (upd nm 0 r4)) (fun wd nm => by rw [gRC_w ((gRWd_m h0).trans (by rw [if_pos c1, if_pos c2])), gKz0]; rw [gK_y hN4 c5]; rfl) rr (fun _ c => absurd c (by decide)) (fun nm => by rw [gDoE_0]; show gTryAdd S r4 = _; rw [jr4]; exact hr1) hr2), fun _ => hRR⟩) dX8_readM_134
          · skip
            refine g_iconst (v := 1) E dX8_readM_62 (by decide) ?_
            refine g_goto (tgt := 67) E dX8_readM_63 (by decide) ?_
            refine g_callVIe (F := [(m 1, .inl (gy G 0, 120, .inl sg)), (m 2, .inl (gy G 0, 271, .inl f))]) (ws2 := [(m 0, .inr (8, [.int (q 0), .ref (m 1), .int (nI n), .int (nI u4.1), .int 1, .int (nI lo), .ref (m 2), .ref (m 3), .ref (m 4), .ref (m 5), .int (q 5), .ref (m 6), .ref (m 7), .ref (m 8), .int (q 6), .int (q 7), .int (q 8)])), (m 1, .inl (gy G 0, 120, .inl sg)), (m 2, .inl (gy G 0, 271, .inl f))]) E (mX8_goesY G m (qU (qU (qU (qU q 1 (nI n)) 2 (nI u4.1)) 3 1) 4 (nI lo))) gX8_readM_X8_goes rfl hdX8_goes ⟨Nat.le_of_ble_eq_true rfl, Nat.le_of_ble_eq_true rfl⟩ 8 0 rfl rfl rfl (gPerm_ix [0, 1, 2] rfl rfl) rfl rfl (Nat.le_of_ble_eq_true rfl) dX8_readM_67 ⟨Nat.le_of_ble_eq_true rfl, Nat.le_of_ble_eq_true rfl⟩ (gPerm_ix [0, 1, 2] rfl rfl) ?_
            refine g_if_eq (tgt := 82) E dX8_readM_70 (by decide) (fun c => absurd c (by decide)) (fun _ => ?_)
            refine g_aload_n E dX8_readM_73 rfl 2 rfl ?_
            refine g_get E uX8_readM_RX8 0 rfl rfl 6 (by decide) kX8_readM_13 rfl rfl dX8_readM_74 ?_
            refine g_iload_n E dX8_readM_77 rfl 0 rfl ?_
            refine g_callSIu (F := [(m 0, .inr (8, [.int (q 0), .ref (m 1), .int (nI n), .int (nI u4.1), .int 1, .int (nI lo), .ref (m 2), .ref (m 3), .ref (m 4), .ref (m 5), .int (q 5), .ref (m 6), .ref (m 7), .ref (m 8), .int (q 6), .int (q 7), .int (q 8)])), (m 1, .inl (gy G 0, 120, .inl sg))]) E (mX8_addIn G (m 2) S f (nI j4) hI hT hRR (by first | omega | exact fun w hw => gI2_zp hJ _ (Nat.le_refl _) (by omega) w hw) (by first | omega | exact fun w hw => gI2_zp hJ _ (Nat.le_refl _) (by omega) w hw)) gX8_readM_X8_addIn rfl hnX8_addIn ⟨Nat.le_of_ble_eq_true rfl, Nat.le_of_ble_eq_true rfl⟩ (gPerm_ix [2, 0, 1] rfl rfl) rfl rfl (Nat.le_of_ble_eq_true rfl) dX8_readM_78 ⟨Nat.le_of_ble_eq_true rfl, Nat.le_of_ble_eq_true rfl⟩ (fun u7 hU7 => ?_)
            obtain ⟨S7, xE7⟩ : ∃ x, x = uN (uI S 0 (upd (sI S 0) (sN S 1) (nI j4))) 1 (sN S 1 + 1) := ⟨_, rfl⟩
            have hRR7 : RR S7 u7 := by rw [xE7]; exact hU7
            have hI7 : gI1 S7 := by rw [xE7]; exact (gI1_addR hI (by omega))
            have hT7 : sN S7 0 < 1000000000 := by rw [xE7]; exact hT
            refine g_perm (ws1 := [(m 0, .inr (8, [.int (q 0), .ref (m 1), .int (nI n), .int (nI u4.1), .int 1, .int (nI lo), .ref (m 2), .ref (m 3), .ref (m 4), .ref (m 5), .int (q 5), .ref (m 6), .ref (m 7), .ref (m 8), .int (q 6), .int (q 7), .int (q 8)])), (m 1, .inl (gy G 0, 120, .inl sg)), (m 2, .inl (gy G 0, 271, .inl u7))]) (gPerm_ix [1, 2, 0] rfl rfl) ?_
            refine g_pop E dX8_readM_81 rfl ?_
            refine g_goto (tgt := 134) E dX8_readM_82 (by decide) ?_
            exact RET _ _ (u4.1, true, lo, u7) (⟨(show u4.1 ≤ n by omega), _, gCmd_yes (w := 0) (by decide) (fun nm => (upd nm 0 r4)) (fun wd nm => by rw [gRC_w ((gRWd_m h0).trans (by rw [if_pos c1, if_pos c2])), gKz0]; rw [gK_y hN4 c5]; rfl) _ (fun _ c => absurd c (by decide)) (fun nm => by rw [gDoE_0]; show gTryAdd S r4 = _; rw [jr4]; exact gTA_yes jb4 (by omega)) (nI_nneg (by omega)), fun _ => xE7 ▸ hRR7⟩) dX8_readM_134
        · skip
          refine g_ws (ws' := [(m 0, .inr (8, [.int (q 0), .ref (m 1), .int (nI n), .int (nI u4.1), .int 0, .int (nI lo), .ref (m 2), .ref (m 3), .ref (m 4), .ref (m 5), .int (q 5), .ref (m 6), .ref (m 7), .ref (m 8), .int (q 6), .int (q 7), .int (q 8)])), (m 1, .inl (gy G 0, 120, .inl sg)), (m 2, .inl (gy G 0, 271, .inl f))]) (by rw [if_neg c5]) ?_
          refine g_istore_n (lv' := [(2, .int r4), (1, .int (if gSg n sg (a + 1 + 1) = 110 then 1 else 0)), (0, .ref (m 0))]) E dX8_readM_49 rfl (by decide) rfl ?_
          refine g_aload_n E dX8_readM_50 rfl 2 rfl ?_
          refine g_aload_n E dX8_readM_51 rfl 2 rfl ?_
          refine g_get E uX8_readM_RX8 0 rfl rfl 6 (by decide) kX8_readM_13 rfl rfl dX8_readM_52 ?_
          refine g_iconst (v := 1) E dX8_readM_55 (by decide) ?_
          refine g_ialdN (e := 1) E 2 rfl (by first | omega | exact fun w hw => gI2_zp hJ _ (Nat.le_refl _) (by omega) w hw) rfl (v := nI (sN S 1)) (RR_1 hRR) dX8_readM_56 ?_
          refine g_bipush (v := 8) E dX8_readM_57 (by decide) ?_
          refine g_icmp_geN (tgt := 66) (a := sN S 1) (b := 8) E dX8_readM_59 (by decide) (by first | omega | exact fun w hw => gI2_zp hJ _ (Nat.le_refl _) (by omega) w hw) (by first | omega | exact fun w hw => gI2_zp hJ _ (Nat.le_refl _) (by omega) w hw) (fun c9 => ?_) (fun c9 => ?_)
          · skip
            refine g_iconst (v := 0) E dX8_readM_66 (by decide) ?_
            refine g_callVIe (F := [(m 1, .inl (gy G 0, 120, .inl sg)), (m 2, .inl (gy G 0, 271, .inl f))]) (ws2 := [(m 0, .inr (8, [.int (q 0), .ref (m 1), .int (nI n), .int (nI u4.1), .int 0, .int (nI lo), .ref (m 2), .ref (m 3), .ref (m 4), .ref (m 5), .int (q 5), .ref (m 6), .ref (m 7), .ref (m 8), .int (q 6), .int (q 7), .int (q 8)])), (m 1, .inl (gy G 0, 120, .inl sg)), (m 2, .inl (gy G 0, 271, .inl f))]) E (mX8_goes0 G m (qU (qU (qU (qU q 1 (nI n)) 2 (nI u4.1)) 3 0) 4 (nI lo)) 0) gX8_readM_X8_goes rfl hdX8_goes ⟨Nat.le_of_ble_eq_true rfl, Nat.le_of_ble_eq_true rfl⟩ 8 0 rfl rfl rfl (gPerm_ix [0, 1, 2] rfl rfl) rfl rfl (Nat.le_of_ble_eq_true rfl) dX8_readM_67 ⟨Nat.le_of_ble_eq_true rfl, Nat.le_of_ble_eq_true rfl⟩ (gPerm_ix [0, 1, 2] rfl rfl) ?_
            refine g_if_eq (tgt := 82) E dX8_readM_70 (by decide) (fun _ => ?_) (fun c => absurd c (by decide))
            refine g_goto (tgt := 134) E dX8_readM_82 (by decide) ?_
            exact RET _ _ (u4.1, false, lo, f) (⟨(show u4.1 ≤ n by omega), S, gCmd_bad (fun wd nm => by rw [gRC_w ((gRWd_m h0).trans (by rw [if_pos c1, if_pos c2])), gKz0]; exact gK_n hN4 c5 _), fun c => by cases c⟩) dX8_readM_134
          · skip
            refine g_iconst (v := 1) E dX8_readM_62 (by decide) ?_
            refine g_goto (tgt := 67) E dX8_readM_63 (by decide) ?_
            refine g_callVIe (F := [(m 1, .inl (gy G 0, 120, .inl sg)), (m 2, .inl (gy G 0, 271, .inl f))]) (ws2 := [(m 0, .inr (8, [.int (q 0), .ref (m 1), .int (nI n), .int (nI u4.1), .int 0, .int (nI lo), .ref (m 2), .ref (m 3), .ref (m 4), .ref (m 5), .int (q 5), .ref (m 6), .ref (m 7), .ref (m 8), .int (q 6), .int (q 7), .int (q 8)])), (m 1, .inl (gy G 0, 120, .inl sg)), (m 2, .inl (gy G 0, 271, .inl f))]) E (mX8_goes0 G m (qU (qU (qU (qU q 1 (nI n)) 2 (nI u4.1)) 3 0) 4 (nI lo)) 1) gX8_readM_X8_goes rfl hdX8_goes ⟨Nat.le_of_ble_eq_true rfl, Nat.le_of_ble_eq_true rfl⟩ 8 0 rfl rfl rfl (gPerm_ix [0, 1, 2] rfl rfl) rfl rfl (Nat.le_of_ble_eq_true rfl) dX8_readM_67 ⟨Nat.le_of_ble_eq_true rfl, Nat.le_of_ble_eq_true rfl⟩ (gPerm_ix [0, 1, 2] rfl rfl) ?_
            refine g_if_eq (tgt := 82) E dX8_readM_70 (by decide) (fun _ => ?_) (fun c => absurd c (by decide))
            refine g_goto (tgt := 134) E dX8_readM_82 (by decide) ?_
            exact RET _ _ (u4.1, false, lo, f) (⟨(show u4.1 ≤ n by omega), S, gCmd_bad (fun wd nm => by rw [gRC_w ((gRWd_m h0).trans (by rw [if_pos c1, if_pos c2])), gKz0]; exact gK_n hN4 c5 _), fun c => by cases c⟩) dX8_readM_134
    · skip
      refine g_aload_n E dX8_readM_22 rfl 1 rfl ?_
      refine g_bipush (v := 121) E dX8_readM_23 (by decide) ?_
      refine g_callVIe (F := [(m 2, .inl (gy G 0, 271, .inl f))]) (ws2 := [(m 0, .inr (8, [.int (q 0), .ref (m 1), .int (nI n), .int (nI (a + 1 + 1)), .int 1, .int (nI lo), .ref (m 2), .ref (m 3), .ref (m 4), .ref (m 5), .int (q 5), .ref (m 6), .ref (m 7), .ref (m 8), .int (q 6), .int (q 7), .int (q 8)])), (m 1, .inl (gy G 0, 120, .inl sg)), (m 2, .inl (gy G 0, 271, .inl f))]) E (mX8_isNext G m (qU (qU (qU (qU q 1 (nI n)) 2 (nI (a + 1 + 1))) 3 1) 4 (nI lo)) n (a + 1 + 1) sg 121 (by omega) (by omega) (by decide)) gX8_readM_X8_isNext rfl hdX8_isNext ⟨Nat.le_of_ble_eq_true rfl, Nat.le_of_ble_eq_true rfl⟩ 8 0 rfl rfl rfl (gPerm_ix [0, 1, 2] rfl rfl) rfl rfl (Nat.le_of_ble_eq_true rfl) dX8_readM_25 ⟨Nat.le_of_ble_eq_true rfl, Nat.le_of_ble_eq_true rfl⟩ (gPerm_ix [0, 1, 2] rfl rfl) ?_
      refine g_if_eqB (tgt := 35) (P := gSg n sg (a + 1 + 1) = 121) E dX8_readM_28 (by decide) (fun c10 => ?_) (fun c10 => ?_)
      · skip
        refine g_iconst (v := 0) E dX8_readM_35 (by decide) ?_
        refine g_callVVe (F := [(m 1, .inl (gy G 0, 120, .inl sg)), (m 2, .inl (gy G 0, 271, .inl f))]) (ws2 := [(m 0, .inr (8, [.int (q 0), .ref (m 1), .int (nI n), .int (nI (a + 1 + 1)), .int 0, .int (nI lo), .ref (m 2), .ref (m 3), .ref (m 4), .ref (m 5), .int (q 5), .ref (m 6), .ref (m 7), .ref (m 8), .int (q 6), .int (q 7), .int (q 8)])), (m 1, .inl (gy G 0, 120, .inl sg)), (m 2, .inl (gy G 0, 271, .inl f))]) E (mX8_acceptN G m (qU (qU (qU (qU q 1 (nI n)) 2 (nI (a + 1 + 1))) 3 1) 4 (nI lo)) (a + 1 + 1)) gX8_readM_X8_accept rfl hdX8_accept ⟨Nat.le_of_ble_eq_true rfl, Nat.le_of_ble_eq_true rfl⟩ 8 0 rfl rfl rfl (gPerm_ix [0, 1, 2] rfl rfl) rfl rfl (Nat.le_of_ble_eq_true rfl) dX8_readM_36 ⟨Nat.le_of_ble_eq_true rfl, Nat.le_of_ble_eq_true rfl⟩ (gPerm_ix [0, 1, 2] rfl rfl) ?_
        refine g_iload_n E dX8_readM_39 rfl 0 rfl ?_
        refine g_if_eqB (tgt := 85) (P := gSg n sg (a + 1 + 1) = 110) E dX8_readM_40 (by decide) (fun c11 => ?_) (fun c11 => ?_)
        · skip
          refine g_aload_n E dX8_readM_85 rfl 1 rfl ?_
          refine g_iconst (v := 0) E dX8_readM_86 (by decide) ?_
          refine g_bipush (v := 7) E dX8_readM_87 (by decide) ?_
          refine g_callVI (F := [(m 2, .inl (gy G 0, 271, .inl f))]) E (mX8_number0 G m (qU (qU (qU (qU q 1 (nI n)) 2 (nI (a + 1 + 1))) 3 0) 4 (nI lo)) n (a + 1 + 1) sg 0 7 (by omega) (by omega)) gX8_readM_X8_number rfl hdX8_number ⟨Nat.le_of_ble_eq_true rfl, Nat.le_of_ble_eq_true rfl⟩ 8 0 rfl rfl rfl (gPerm_ix [0, 1, 2] rfl rfl) rfl rfl (Nat.le_of_ble_eq_true rfl) dX8_readM_89 ⟨Nat.le_of_ble_eq_true rfl, Nat.le_of_ble_eq_true rfl⟩ (fun r12 u12 h12 => ?_)
          refine g_perm (ws1 := [(m 0, .inr (8, [.int (q 0), .ref (m 1), .int (nI n), .int (nI (a + 1 + 1)), .int 0, .int (nI lo), .ref (m 2), .ref (m 3), .ref (m 4), .ref (m 5), .int (q 5), .ref (m 6), .ref (m 7), .ref (m 8), .int (q 6), .int (q 7), .int (q 8)])), (m 1, .inl (gy G 0, 120, .inl sg)), (m 2, .inl (gy G 0, 271, .inl f))]) (gPerm_ix [0, 1, 2] rfl rfl) ?_
          refine g_istore_n (lv' := [(2, .int r12), (1, .int (if gSg n sg (a + 1 + 1) = 110 then 1 else 0)), (0, .ref (m 0))]) E dX8_readM_92 rfl (by decide) rfl ?_
          refine g_aload_n E dX8_readM_93 rfl 2 rfl ?_
          refine g_iconst (v := 0) E dX8_readM_94 (by decide) ?_
          refine g_bipush (v := 9) E dX8_readM_95 (by decide) ?_
          refine g_callVI (F := [(m 2, .inl (gy G 0, 271, .inl f))]) E (mX8_number0 G m (qU (qU (qU (qU q 1 (nI n)) 2 (nI (a + 1 + 1))) 3 0) 4 (nI lo)) n (a + 1 + 1) sg 0 9 (by omega) (by omega)) gX8_readM_X8_number rfl hdX8_number ⟨Nat.le_of_ble_eq_true rfl, Nat.le_of_ble_eq_true rfl⟩ 8 0 rfl rfl rfl (gPerm_ix [0, 1, 2] rfl rfl) rfl rfl (Nat.le_of_ble_eq_true rfl) dX8_readM_97 ⟨Nat.le_of_ble_eq_true rfl, Nat.le_of_ble_eq_true rfl⟩ (fun r13 u13 h13 => ?_)
          refine g_perm (ws1 := [(m 0, .inr (8, [.int (q 0), .ref (m 1), .int (nI n), .int (nI (a + 1 + 1)), .int 0, .int (nI lo), .ref (m 2), .ref (m 3), .ref (m 4), .ref (m 5), .int (q 5), .ref (m 6), .ref (m 7), .ref (m 8), .int (q 6), .int (q 7), .int (q 8)])), (m 1, .inl (gy G 0, 120, .inl sg)), (m 2, .inl (gy G 0, 271, .inl f))]) (gPerm_ix [0, 1, 2] rfl rfl) ?_
          refine g_istore_n (lv' := [(3, .int r13), (2, .int r12), (1, .int (if gSg n sg (a + 1 + 1) = 110 then 1 else 0)), (0, .ref (m 0))]) E dX8_readM_100 rfl (by decide) rfl ?_
          refine g_aload_n E dX8_readM_101 rfl 3 rfl ?_
          refine g_iload_n E dX8_readM_102 rfl 1 rfl ?_
          refine g_aload_n E dX8_readM_103 rfl 3 rfl ?_
          refine g_get E uX8_readM_RX8 0 rfl rfl 6 (by decide) kX8_readM_13 rfl rfl dX8_readM_104 ?_
          refine g_iconst (v := 1) E dX8_readM_107 (by decide) ?_
          refine g_ialdN (e := 1) E 2 rfl (by first | omega | exact fun w hw => gI2_zp hJ _ (Nat.le_refl _) (by omega) w hw) rfl (v := nI (sN S 1)) (RR_1 hRR) dX8_readM_108 ?_
          refine g_icmp_ge (tgt := 116) E dX8_readM_109 (by decide) (fun c14 => ?_) (fun c14 => ?_)
          · skip
            refine g_iconst (v := 0) E dX8_readM_116 (by decide) ?_
            refine g_callVIe (F := [(m 1, .inl (gy G 0, 120, .inl sg)), (m 2, .inl (gy G 0, 271, .inl f))]) (ws2 := [(m 0, .inr (8, [.int (q 0), .ref (m 1), .int (nI n), .int (nI (a + 1 + 1)), .int 0, .int (nI lo), .ref (m 2), .ref (m 3), .ref (m 4), .ref (m 5), .int (q 5), .ref (m 6), .ref (m 7), .ref (m 8), .int (q 6), .int (q 7), .int (q 8)])), (m 1, .inl (gy G 0, 120, .inl sg)), (m 2, .inl (gy G 0, 271, .inl f))]) E (mX8_goes0 G m (qU (qU (qU (qU q 1 (nI n)) 2 (nI (a + 1 + 1))) 3 0) 4 (nI lo)) 0) gX8_readM_X8_goes rfl hdX8_goes ⟨Nat.le_of_ble_eq_true rfl, Nat.le_of_ble_eq_true rfl⟩ 8 0 rfl rfl rfl (gPerm_ix [0, 1, 2] rfl rfl) rfl rfl (Nat.le_of_ble_eq_true rfl) dX8_readM_117 ⟨Nat.le_of_ble_eq_true rfl, Nat.le_of_ble_eq_true rfl⟩ (gPerm_ix [0, 1, 2] rfl rfl) ?_
            refine g_if_eq (tgt := 134) E dX8_readM_120 (by decide) (fun _ => ?_) (fun c => absurd c (by decide))
            exact RET _ _ (a + 1 + 1, false, lo, f) (⟨(show a + 1 + 1 ≤ n by omega), S, gCmd_bad (fun wd nm => gRC_b ((gRWd_m h0).trans (by rw [if_pos c1, if_neg c2, if_neg c10]))), fun c => by cases c⟩) dX8_readM_134
          · skip
            refine g_iconst (v := 1) E dX8_readM_112 (by decide) ?_
            refine g_goto (tgt := 117) E dX8_readM_113 (by decide) ?_
            refine g_callVIe (F := [(m 1, .inl (gy G 0, 120, .inl sg)), (m 2, .inl (gy G 0, 271, .inl f))]) (ws2 := [(m 0, .inr (8, [.int (q 0), .ref (m 1), .int (nI n), .int (nI (a + 1 + 1)), .int 0, .int (nI lo), .ref (m 2), .ref (m 3), .ref (m 4), .ref (m 5), .int (q 5), .ref (m 6), .ref (m 7), .ref (m 8), .int (q 6), .int (q 7), .int (q 8)])), (m 1, .inl (gy G 0, 120, .inl sg)), (m 2, .inl (gy G 0, 271, .inl f))]) E (mX8_goes0 G m (qU (qU (qU (qU q 1 (nI n)) 2 (nI (a + 1 + 1))) 3 0) 4 (nI lo)) 1) gX8_readM_X8_goes rfl hdX8_goes ⟨Nat.le_of_ble_eq_true rfl, Nat.le_of_ble_eq_true rfl⟩ 8 0 rfl rfl rfl (gPerm_ix [0, 1, 2] rfl rfl) rfl rfl (Nat.le_of_ble_eq_true rfl) dX8_readM_117 ⟨Nat.le_of_ble_eq_true rfl, Nat.le_of_ble_eq_true rfl⟩ (gPerm_ix [0, 1, 2] rfl rfl) ?_
            refine g_if_eq (tgt := 134) E dX8_readM_120 (by decide) (fun _ => ?_) (fun c => absurd c (by decide))
            exact RET _ _ (a + 1 + 1, false, lo, f) (⟨(show a + 1 + 1 ≤ n by omega), S, gCmd_bad (fun wd nm => gRC_b ((gRWd_m h0).trans (by rw [if_pos c1, if_neg c2, if_neg c10]))), fun c => by cases c⟩) dX8_readM_134
        · exfalso
          exact c2 c11
      · skip
        have hlv := gSg_lt c10 (by decide)
        refine g_iconst (v := 1) E dX8_readM_31 (by decide) ?_
        refine g_goto (tgt := 36) E dX8_readM_32 (by decide) ?_
        refine g_callVVe (F := [(m 1, .inl (gy G 0, 120, .inl sg)), (m 2, .inl (gy G 0, 271, .inl f))]) (ws2 := [(m 0, .inr (8, [.int (q 0), .ref (m 1), .int (nI n), .int (nI (a + 1 + 1 + 1)), .int 1, .int (nI lo), .ref (m 2), .ref (m 3), .ref (m 4), .ref (m 5), .int (q 5), .ref (m 6), .ref (m 7), .ref (m 8), .int (q 6), .int (q 7), .int (q 8)])), (m 1, .inl (gy G 0, 120, .inl sg)), (m 2, .inl (gy G 0, 271, .inl f))]) E (mX8_acceptY G m (qU (qU (qU (qU q 1 (nI n)) 2 (nI (a + 1 + 1))) 3 1) 4 (nI lo)) (a + 1 + 1)) gX8_readM_X8_accept rfl hdX8_accept ⟨Nat.le_of_ble_eq_true rfl, Nat.le_of_ble_eq_true rfl⟩ 8 0 rfl rfl rfl (gPerm_ix [0, 1, 2] rfl rfl) rfl rfl (Nat.le_of_ble_eq_true rfl) dX8_readM_36 ⟨Nat.le_of_ble_eq_true rfl, Nat.le_of_ble_eq_true rfl⟩ (gPerm_ix [0, 1, 2] rfl rfl) ?_
        refine g_iload_n E dX8_readM_39 rfl 0 rfl ?_
        refine g_if_eqB (tgt := 85) (P := gSg n sg (a + 1 + 1) = 110) E dX8_readM_40 (by decide) (fun c15 => ?_) (fun c15 => ?_)
        · skip
          refine g_aload_n E dX8_readM_85 rfl 1 rfl ?_
          refine g_iconst (v := 0) E dX8_readM_86 (by decide) ?_
          refine g_bipush (v := 7) E dX8_readM_87 (by decide) ?_
          refine g_callVI (F := [(m 2, .inl (gy G 0, 271, .inl f))]) E (mX8_number G m (qU (qU (qU (qU q 1 (nI n)) 2 (nI (a + 1 + 1 + 1))) 3 1) 4 (nI lo)) n (a + 1 + 1 + 1) sg 112 0 7 (by omega) (by omega) (by decide) (by decide)) gX8_readM_X8_number rfl hdX8_number ⟨Nat.le_of_ble_eq_true rfl, Nat.le_of_ble_eq_true rfl⟩ 8 0 rfl rfl rfl (gPerm_ix [0, 1, 2] rfl rfl) rfl rfl (Nat.le_of_ble_eq_true rfl) dX8_readM_89 ⟨Nat.le_of_ble_eq_true rfl, Nat.le_of_ble_eq_true rfl⟩ (fun r16 u16 h16 => ?_)
          obtain ⟨hl16, hN16⟩ := h16
          refine g_perm (ws1 := [(m 0, .inr (8, [.int (q 0), .ref (m 1), .int (nI n), .int (nI u16.1), .int (if u16.2 = true then 1 else 0), .int (nI lo), .ref (m 2), .ref (m 3), .ref (m 4), .ref (m 5), .int (q 5), .ref (m 6), .ref (m 7), .ref (m 8), .int (q 6), .int (q 7), .int (q 8)])), (m 1, .inl (gy G 0, 120, .inl sg)), (m 2, .inl (gy G 0, 271, .inl f))]) (gPerm_ix [0, 1, 2] rfl rfl) ?_
          by_cases c17 : u16.2 = true
          · skip
            refine g_ws (ws' := [(m 0, .inr (8, [.int (q 0), .ref (m 1), .int (nI n), .int (nI u16.1), .int 1, .int (nI lo), .ref (m 2), .ref (m 3), .ref (m 4), .ref (m 5), .int (q 5), .ref (m 6), .ref (m 7), .ref (m 8), .int (q 6), .int (q 7), .int (q 8)])), (m 1, .inl (gy G 0, 120, .inl sg)), (m 2, .inl (gy G 0, 271, .inl f))]) (by rw [if_pos c17]) ?_
            obtain ⟨j16, ja16, jb16, jr16⟩ := gK_r hN16 c17 (M := 7) (by decide) (by decide) 0 (by decide) (by decide)
            refine g_top (y := nI j16) jr16 ?_
            refine g_istore_n (lv' := [(2, .int (nI j16)), (1, .int (if gSg n sg (a + 1 + 1) = 110 then 1 else 0)), (0, .ref (m 0))]) E dX8_readM_92 rfl (by decide) rfl ?_
            refine g_aload_n E dX8_readM_93 rfl 2 rfl ?_
            refine g_iconst (v := 0) E dX8_readM_94 (by decide) ?_
            refine g_bipush (v := 9) E dX8_readM_95 (by decide) ?_
            refine g_callVI (F := [(m 2, .inl (gy G 0, 271, .inl f))]) E (mX8_number G m (qU (qU (qU (qU q 1 (nI n)) 2 (nI u16.1)) 3 1) 4 (nI lo)) n u16.1 sg 118 0 9 (by omega) (by omega) (by decide) (by decide)) gX8_readM_X8_number rfl hdX8_number ⟨Nat.le_of_ble_eq_true rfl, Nat.le_of_ble_eq_true rfl⟩ 8 0 rfl rfl rfl (gPerm_ix [0, 1, 2] rfl rfl) rfl rfl (Nat.le_of_ble_eq_true rfl) dX8_readM_97 ⟨Nat.le_of_ble_eq_true rfl, Nat.le_of_ble_eq_true rfl⟩ (fun r18 u18 h18 => ?_)
            obtain ⟨hl18, hN18⟩ := h18
            refine g_perm (ws1 := [(m 0, .inr (8, [.int (q 0), .ref (m 1), .int (nI n), .int (nI u18.1), .int (if u18.2 = true then 1 else 0), .int (nI lo), .ref (m 2), .ref (m 3), .ref (m 4), .ref (m 5), .int (q 5), .ref (m 6), .ref (m 7), .ref (m 8), .int (q 6), .int (q 7), .int (q 8)])), (m 1, .inl (gy G 0, 120, .inl sg)), (m 2, .inl (gy G 0, 271, .inl f))]) (gPerm_ix [0, 1, 2] rfl rfl) ?_
            by_cases c19 : u18.2 = true
            · skip
              refine g_ws (ws' := [(m 0, .inr (8, [.int (q 0), .ref (m 1), .int (nI n), .int (nI u18.1), .int 1, .int (nI lo), .ref (m 2), .ref (m 3), .ref (m 4), .ref (m 5), .int (q 5), .ref (m 6), .ref (m 7), .ref (m 8), .int (q 6), .int (q 7), .int (q 8)])), (m 1, .inl (gy G 0, 120, .inl sg)), (m 2, .inl (gy G 0, 271, .inl f))]) (by rw [if_pos c19]) ?_
              obtain ⟨j18, ja18, jb18, jr18⟩ := gK_r hN18 c19 (M := 9) (by decide) (by decide) 0 (by decide) (by decide)
              refine g_top (y := nI j18) jr18 ?_
              refine g_istore_n (lv' := [(3, .int (nI j18)), (2, .int (nI j16)), (1, .int (if gSg n sg (a + 1 + 1) = 110 then 1 else 0)), (0, .ref (m 0))]) E dX8_readM_100 rfl (by decide) rfl ?_
              refine g_aload_n E dX8_readM_101 rfl 3 rfl ?_
              refine g_iload_n E dX8_readM_102 rfl 1 rfl ?_
              refine g_aload_n E dX8_readM_103 rfl 3 rfl ?_
              refine g_get E uX8_readM_RX8 0 rfl rfl 6 (by decide) kX8_readM_13 rfl rfl dX8_readM_104 ?_
              refine g_iconst (v := 1) E dX8_readM_107 (by decide) ?_
              refine g_ialdN (e := 1) E 2 rfl (by first | omega | exact fun w hw => gI2_zp hJ _ (Nat.le_refl _) (by omega) w hw) rfl (v := nI (sN S 1)) (RR_1 hRR) dX8_readM_108 ?_
              refine g_icmp_geN (tgt := 116) (a := j16) (b := sN S 1) E dX8_readM_109 (by decide) (by first | omega | exact fun w hw => gI2_zp hJ _ (Nat.le_refl _) (by omega) w hw) (by first | omega | exact fun w hw => gI2_zp hJ _ (Nat.le_refl _) (by omega) w hw) (fun c20 => ?_) (fun c20 => ?_)
              · skip
                refine g_iconst (v := 0) E dX8_readM_116 (by decide) ?_
                refine g_callVIe (F := [(m 1, .inl (gy G 0, 120, .inl sg)), (m 2, .inl (gy G 0, 271, .inl f))]) (ws2 := [(m 0, .inr (8, [.int (q 0), .ref (m 1), .int (nI n), .int (nI u18.1), .int 1, .int (nI (lo + 1)), .ref (m 2), .ref (m 3), .ref (m 4), .ref (m 5), .int (q 5), .ref (m 6), .ref (m 7), .ref (m 8), .int (q 6), .int (q 7), .int (q 8)])), (m 1, .inl (gy G 0, 120, .inl sg)), (m 2, .inl (gy G 0, 271, .inl f))]) E (mX8_goesN G m (qU (qU (qU (qU q 1 (nI n)) 2 (nI u18.1)) 3 1) 4 (nI lo)) lo) gX8_readM_X8_goes rfl hdX8_goes ⟨Nat.le_of_ble_eq_true rfl, Nat.le_of_ble_eq_true rfl⟩ 8 0 rfl rfl rfl (gPerm_ix [0, 1, 2] rfl rfl) rfl rfl (Nat.le_of_ble_eq_true rfl) dX8_readM_117 ⟨Nat.le_of_ble_eq_true rfl, Nat.le_of_ble_eq_true rfl⟩ (gPerm_ix [0, 1, 2] rfl rfl) ?_
                refine g_if_eq (tgt := 134) E dX8_readM_120 (by decide) (fun _ => ?_) (fun c => absurd c (by decide))
                exact RET _ _ (u18.1, true, lo + 1, f) (⟨(show u18.1 ≤ n by omega), _, (by obtain ⟨rr, hr1, hr2⟩ := (⟨_, gTL_no hP8 (by omega) (by omega) (by omega), by decide⟩ : ∃ r, gTryList S (nI j16) (nI j18) 1 = (r, S) ∧ r < 0); exact gCmd_out (w := 1) (by decide) (fun nm => (upd (upd nm 0 r16) 1 r18)) (fun wd nm => by rw [gRC_w ((gRWd_m h0).trans (by rw [if_pos c1, if_neg c2, if_pos c10])), gKz1]; rw [gK_y hN16 c17]; rw [gK_y hN18 c19]; rfl) rr (fun _ c => absurd c (by decide)) (fun nm => by rw [gDoE_1]; show gTryList S r16 r18 1 = _; rw [jr16, jr18]; exact hr1) hr2), fun _ => hRR⟩) dX8_readM_134
              · skip
                refine g_iconst (v := 1) E dX8_readM_112 (by decide) ?_
                refine g_goto (tgt := 117) E dX8_readM_113 (by decide) ?_
                refine g_callVIe (F := [(m 1, .inl (gy G 0, 120, .inl sg)), (m 2, .inl (gy G 0, 271, .inl f))]) (ws2 := [(m 0, .inr (8, [.int (q 0), .ref (m 1), .int (nI n), .int (nI u18.1), .int 1, .int (nI lo), .ref (m 2), .ref (m 3), .ref (m 4), .ref (m 5), .int (q 5), .ref (m 6), .ref (m 7), .ref (m 8), .int (q 6), .int (q 7), .int (q 8)])), (m 1, .inl (gy G 0, 120, .inl sg)), (m 2, .inl (gy G 0, 271, .inl f))]) E (mX8_goesY G m (qU (qU (qU (qU q 1 (nI n)) 2 (nI u18.1)) 3 1) 4 (nI lo))) gX8_readM_X8_goes rfl hdX8_goes ⟨Nat.le_of_ble_eq_true rfl, Nat.le_of_ble_eq_true rfl⟩ 8 0 rfl rfl rfl (gPerm_ix [0, 1, 2] rfl rfl) rfl rfl (Nat.le_of_ble_eq_true rfl) dX8_readM_117 ⟨Nat.le_of_ble_eq_true rfl, Nat.le_of_ble_eq_true rfl⟩ (gPerm_ix [0, 1, 2] rfl rfl) ?_
                refine g_if_eq (tgt := 134) E dX8_readM_120 (by decide) (fun c => absurd c (by decide)) (fun _ => ?_)
                refine g_aload_n E dX8_readM_123 rfl 3 rfl ?_
                refine g_get E uX8_readM_RX8 0 rfl rfl 6 (by decide) kX8_readM_13 rfl rfl dX8_readM_124 ?_
                refine g_iload_n E dX8_readM_127 rfl 1 rfl ?_
                refine g_iload_n E dX8_readM_128 rfl 0 rfl ?_
                refine g_iconst (v := 1) E dX8_readM_129 (by decide) ?_
                refine g_callSIu (F := [(m 0, .inr (8, [.int (q 0), .ref (m 1), .int (nI n), .int (nI u18.1), .int 1, .int (nI lo), .ref (m 2), .ref (m 3), .ref (m 4), .ref (m 5), .int (q 5), .ref (m 6), .ref (m 7), .ref (m 8), .int (q 6), .int (q 7), .int (q 8)])), (m 1, .inl (gy G 0, 120, .inl sg))]) E (mX8_listIn G (m 2) S f j16 j18 1 hI hT hRR (by first | omega | exact fun w hw => gI2_zp hJ _ (Nat.le_refl _) (by omega) w hw) (by first | omega | exact fun w hw => gI2_zp hJ _ (Nat.le_refl _) (by omega) w hw)) gX8_readM_X8_listIn rfl hnX8_listIn ⟨Nat.le_of_ble_eq_true rfl, Nat.le_of_ble_eq_true rfl⟩ (gPerm_ix [2, 0, 1] rfl rfl) rfl rfl (Nat.le_of_ble_eq_true rfl) dX8_readM_130 ⟨Nat.le_of_ble_eq_true rfl, Nat.le_of_ble_eq_true rfl⟩ (fun u21 hU21 => ?_)
                obtain ⟨S21, xE21⟩ : ∃ x, x = uI S 1 (upd (sI S 1) j16 (gWb (sI S 1 j16) (nI j18) 1)) := ⟨_, rfl⟩
                have hRR21 : RR S21 u21 := by rw [xE21]; exact hU21
                have hI21 : gI1 S21 := by rw [xE21]; exact gI1_uI hI
                have hT21 : sN S21 0 < 1000000000 := by rw [xE21]; exact gT_uI hT
                refine g_perm (ws1 := [(m 0, .inr (8, [.int (q 0), .ref (m 1), .int (nI n), .int (nI u18.1), .int 1, .int (nI lo), .ref (m 2), .ref (m 3), .ref (m 4), .ref (m 5), .int (q 5), .ref (m 6), .ref (m 7), .ref (m 8), .int (q 6), .int (q 7), .int (q 8)])), (m 1, .inl (gy G 0, 120, .inl sg)), (m 2, .inl (gy G 0, 271, .inl u21))]) (gPerm_ix [1, 2, 0] rfl rfl) ?_
                refine g_pop E dX8_readM_133 rfl ?_
                exact RET _ _ (u18.1, true, lo, u21) (⟨(show u18.1 ≤ n by omega), _, gCmd_yes (w := 1) (by decide) (fun nm => (upd (upd nm 0 r16) 1 r18)) (fun wd nm => by rw [gRC_w ((gRWd_m h0).trans (by rw [if_pos c1, if_neg c2, if_pos c10])), gKz1]; rw [gK_y hN16 c17]; rw [gK_y hN18 c19]; rfl) _ (fun _ c => absurd c (by decide)) (fun nm => by rw [gDoE_1]; show gTryList S r16 r18 1 = _; rw [jr16, jr18]; exact gTL_yes hP8 (by omega) (by omega)) (gTL_nn hK (by omega) (by omega)), fun _ => xE21 ▸ hRR21⟩) dX8_readM_134
            · skip
              refine g_ws (ws' := [(m 0, .inr (8, [.int (q 0), .ref (m 1), .int (nI n), .int (nI u18.1), .int 0, .int (nI lo), .ref (m 2), .ref (m 3), .ref (m 4), .ref (m 5), .int (q 5), .ref (m 6), .ref (m 7), .ref (m 8), .int (q 6), .int (q 7), .int (q 8)])), (m 1, .inl (gy G 0, 120, .inl sg)), (m 2, .inl (gy G 0, 271, .inl f))]) (by rw [if_neg c19]) ?_
              refine g_istore_n (lv' := [(3, .int r18), (2, .int (nI j16)), (1, .int (if gSg n sg (a + 1 + 1) = 110 then 1 else 0)), (0, .ref (m 0))]) E dX8_readM_100 rfl (by decide) rfl ?_
              refine g_aload_n E dX8_readM_101 rfl 3 rfl ?_
              refine g_iload_n E dX8_readM_102 rfl 1 rfl ?_
              refine g_aload_n E dX8_readM_103 rfl 3 rfl ?_
              refine g_get E uX8_readM_RX8 0 rfl rfl 6 (by decide) kX8_readM_13 rfl rfl dX8_readM_104 ?_
              refine g_iconst (v := 1) E dX8_readM_107 (by decide) ?_
              refine g_ialdN (e := 1) E 2 rfl (by first | omega | exact fun w hw => gI2_zp hJ _ (Nat.le_refl _) (by omega) w hw) rfl (v := nI (sN S 1)) (RR_1 hRR) dX8_readM_108 ?_
              refine g_icmp_geN (tgt := 116) (a := j16) (b := sN S 1) E dX8_readM_109 (by decide) (by first | omega | exact fun w hw => gI2_zp hJ _ (Nat.le_refl _) (by omega) w hw) (by first | omega | exact fun w hw => gI2_zp hJ _ (Nat.le_refl _) (by omega) w hw) (fun c23 => ?_) (fun c23 => ?_)
              · skip
                refine g_iconst (v := 0) E dX8_readM_116 (by decide) ?_
                refine g_callVIe (F := [(m 1, .inl (gy G 0, 120, .inl sg)), (m 2, .inl (gy G 0, 271, .inl f))]) (ws2 := [(m 0, .inr (8, [.int (q 0), .ref (m 1), .int (nI n), .int (nI u18.1), .int 0, .int (nI lo), .ref (m 2), .ref (m 3), .ref (m 4), .ref (m 5), .int (q 5), .ref (m 6), .ref (m 7), .ref (m 8), .int (q 6), .int (q 7), .int (q 8)])), (m 1, .inl (gy G 0, 120, .inl sg)), (m 2, .inl (gy G 0, 271, .inl f))]) E (mX8_goes0 G m (qU (qU (qU (qU q 1 (nI n)) 2 (nI u18.1)) 3 0) 4 (nI lo)) 0) gX8_readM_X8_goes rfl hdX8_goes ⟨Nat.le_of_ble_eq_true rfl, Nat.le_of_ble_eq_true rfl⟩ 8 0 rfl rfl rfl (gPerm_ix [0, 1, 2] rfl rfl) rfl rfl (Nat.le_of_ble_eq_true rfl) dX8_readM_117 ⟨Nat.le_of_ble_eq_true rfl, Nat.le_of_ble_eq_true rfl⟩ (gPerm_ix [0, 1, 2] rfl rfl) ?_
                refine g_if_eq (tgt := 134) E dX8_readM_120 (by decide) (fun _ => ?_) (fun c => absurd c (by decide))
                exact RET _ _ (u18.1, false, lo, f) (⟨(show u18.1 ≤ n by omega), S, gCmd_bad (fun wd nm => by rw [gRC_w ((gRWd_m h0).trans (by rw [if_pos c1, if_neg c2, if_pos c10])), gKz1]; rw [gK_y hN16 c17]; exact gK_n hN18 c19 _), fun c => by cases c⟩) dX8_readM_134
              · skip
                refine g_iconst (v := 1) E dX8_readM_112 (by decide) ?_
                refine g_goto (tgt := 117) E dX8_readM_113 (by decide) ?_
                refine g_callVIe (F := [(m 1, .inl (gy G 0, 120, .inl sg)), (m 2, .inl (gy G 0, 271, .inl f))]) (ws2 := [(m 0, .inr (8, [.int (q 0), .ref (m 1), .int (nI n), .int (nI u18.1), .int 0, .int (nI lo), .ref (m 2), .ref (m 3), .ref (m 4), .ref (m 5), .int (q 5), .ref (m 6), .ref (m 7), .ref (m 8), .int (q 6), .int (q 7), .int (q 8)])), (m 1, .inl (gy G 0, 120, .inl sg)), (m 2, .inl (gy G 0, 271, .inl f))]) E (mX8_goes0 G m (qU (qU (qU (qU q 1 (nI n)) 2 (nI u18.1)) 3 0) 4 (nI lo)) 1) gX8_readM_X8_goes rfl hdX8_goes ⟨Nat.le_of_ble_eq_true rfl, Nat.le_of_ble_eq_true rfl⟩ 8 0 rfl rfl rfl (gPerm_ix [0, 1, 2] rfl rfl) rfl rfl (Nat.le_of_ble_eq_true rfl) dX8_readM_117 ⟨Nat.le_of_ble_eq_true rfl, Nat.le_of_ble_eq_true rfl⟩ (gPerm_ix [0, 1, 2] rfl rfl) ?_
                refine g_if_eq (tgt := 134) E dX8_readM_120 (by decide) (fun _ => ?_) (fun c => absurd c (by decide))
                exact RET _ _ (u18.1, false, lo, f) (⟨(show u18.1 ≤ n by omega), S, gCmd_bad (fun wd nm => by rw [gRC_w ((gRWd_m h0).trans (by rw [if_pos c1, if_neg c2, if_pos c10])), gKz1]; rw [gK_y hN16 c17]; exact gK_n hN18 c19 _), fun c => by cases c⟩) dX8_readM_134
          · skip
            refine g_ws (ws' := [(m 0, .inr (8, [.int (q 0), .ref (m 1), .int (nI n), .int (nI u16.1), .int 0, .int (nI lo), .ref (m 2), .ref (m 3), .ref (m 4), .ref (m 5), .int (q 5), .ref (m 6), .ref (m 7), .ref (m 8), .int (q 6), .int (q 7), .int (q 8)])), (m 1, .inl (gy G 0, 120, .inl sg)), (m 2, .inl (gy G 0, 271, .inl f))]) (by rw [if_neg c17]) ?_
            refine g_istore_n (lv' := [(2, .int r16), (1, .int (if gSg n sg (a + 1 + 1) = 110 then 1 else 0)), (0, .ref (m 0))]) E dX8_readM_92 rfl (by decide) rfl ?_
            refine g_aload_n E dX8_readM_93 rfl 2 rfl ?_
            refine g_iconst (v := 0) E dX8_readM_94 (by decide) ?_
            refine g_bipush (v := 9) E dX8_readM_95 (by decide) ?_
            refine g_callVI (F := [(m 2, .inl (gy G 0, 271, .inl f))]) E (mX8_number0 G m (qU (qU (qU (qU q 1 (nI n)) 2 (nI u16.1)) 3 0) 4 (nI lo)) n u16.1 sg 0 9 (by omega) (by omega)) gX8_readM_X8_number rfl hdX8_number ⟨Nat.le_of_ble_eq_true rfl, Nat.le_of_ble_eq_true rfl⟩ 8 0 rfl rfl rfl (gPerm_ix [0, 1, 2] rfl rfl) rfl rfl (Nat.le_of_ble_eq_true rfl) dX8_readM_97 ⟨Nat.le_of_ble_eq_true rfl, Nat.le_of_ble_eq_true rfl⟩ (fun r24 u24 h24 => ?_)
            refine g_perm (ws1 := [(m 0, .inr (8, [.int (q 0), .ref (m 1), .int (nI n), .int (nI u16.1), .int 0, .int (nI lo), .ref (m 2), .ref (m 3), .ref (m 4), .ref (m 5), .int (q 5), .ref (m 6), .ref (m 7), .ref (m 8), .int (q 6), .int (q 7), .int (q 8)])), (m 1, .inl (gy G 0, 120, .inl sg)), (m 2, .inl (gy G 0, 271, .inl f))]) (gPerm_ix [0, 1, 2] rfl rfl) ?_
            refine g_istore_n (lv' := [(3, .int r24), (2, .int r16), (1, .int (if gSg n sg (a + 1 + 1) = 110 then 1 else 0)), (0, .ref (m 0))]) E dX8_readM_100 rfl (by decide) rfl ?_
            refine g_aload_n E dX8_readM_101 rfl 3 rfl ?_
            refine g_iload_n E dX8_readM_102 rfl 1 rfl ?_
            refine g_aload_n E dX8_readM_103 rfl 3 rfl ?_
            refine g_get E uX8_readM_RX8 0 rfl rfl 6 (by decide) kX8_readM_13 rfl rfl dX8_readM_104 ?_
            refine g_iconst (v := 1) E dX8_readM_107 (by decide) ?_
            refine g_ialdN (e := 1) E 2 rfl (by first | omega | exact fun w hw => gI2_zp hJ _ (Nat.le_refl _) (by omega) w hw) rfl (v := nI (sN S 1)) (RR_1 hRR) dX8_readM_108 ?_
            refine g_icmp_ge (tgt := 116) E dX8_readM_109 (by decide) (fun c25 => ?_) (fun c25 => ?_)
            · skip
              refine g_iconst (v := 0) E dX8_readM_116 (by decide) ?_
              refine g_callVIe (F := [(m 1, .inl (gy G 0, 120, .inl sg)), (m 2, .inl (gy G 0, 271, .inl f))]) (ws2 := [(m 0, .inr (8, [.int (q 0), .ref (m 1), .int (nI n), .int (nI u16.1), .int 0, .int (nI lo), .ref (m 2), .ref (m 3), .ref (m 4), .ref (m 5), .int (q 5), .ref (m 6), .ref (m 7), .ref (m 8), .int (q 6), .int (q 7), .int (q 8)])), (m 1, .inl (gy G 0, 120, .inl sg)), (m 2, .inl (gy G 0, 271, .inl f))]) E (mX8_goes0 G m (qU (qU (qU (qU q 1 (nI n)) 2 (nI u16.1)) 3 0) 4 (nI lo)) 0) gX8_readM_X8_goes rfl hdX8_goes ⟨Nat.le_of_ble_eq_true rfl, Nat.le_of_ble_eq_true rfl⟩ 8 0 rfl rfl rfl (gPerm_ix [0, 1, 2] rfl rfl) rfl rfl (Nat.le_of_ble_eq_true rfl) dX8_readM_117 ⟨Nat.le_of_ble_eq_true rfl, Nat.le_of_ble_eq_true rfl⟩ (gPerm_ix [0, 1, 2] rfl rfl) ?_
              refine g_if_eq (tgt := 134) E dX8_readM_120 (by decide) (fun _ => ?_) (fun c => absurd c (by decide))
              exact RET _ _ (u16.1, false, lo, f) (⟨(show u16.1 ≤ n by omega), S, gCmd_bad (fun wd nm => by rw [gRC_w ((gRWd_m h0).trans (by rw [if_pos c1, if_neg c2, if_pos c10])), gKz1]; exact gK_n hN16 c17 _), fun c => by cases c⟩) dX8_readM_134
            · skip
              refine g_iconst (v := 1) E dX8_readM_112 (by decide) ?_
              refine g_goto (tgt := 117) E dX8_readM_113 (by decide) ?_
              refine g_callVIe (F := [(m 1, .inl (gy G 0, 120, .inl sg)), (m 2, .inl (gy G 0, 271, .inl f))]) (ws2 := [(m 0, .inr (8, [.int (q 0), .ref (m 1), .int (nI n), .int (nI u16.1), .int 0, .int (nI lo), .ref (m 2), .ref (m 3), .ref (m 4), .ref (m 5), .int (q 5), .ref (m 6), .ref (m 7), .ref (m 8), .int (q 6), .int (q 7), .int (q 8)])), (m 1, .inl (gy G 0, 120, .inl sg)), (m 2, .inl (gy G 0, 271, .inl f))]) E (mX8_goes0 G m (qU (qU (qU (qU q 1 (nI n)) 2 (nI u16.1)) 3 0) 4 (nI lo)) 1) gX8_readM_X8_goes rfl hdX8_goes ⟨Nat.le_of_ble_eq_true rfl, Nat.le_of_ble_eq_true rfl⟩ 8 0 rfl rfl rfl (gPerm_ix [0, 1, 2] rfl rfl) rfl rfl (Nat.le_of_ble_eq_true rfl) dX8_readM_117 ⟨Nat.le_of_ble_eq_true rfl, Nat.le_of_ble_eq_true rfl⟩ (gPerm_ix [0, 1, 2] rfl rfl) ?_
              refine g_if_eq (tgt := 134) E dX8_readM_120 (by decide) (fun _ => ?_) (fun c => absurd c (by decide))
              exact RET _ _ (u16.1, false, lo, f) (⟨(show u16.1 ≤ n by omega), S, gCmd_bad (fun wd nm => by rw [gRC_w ((gRWd_m h0).trans (by rw [if_pos c1, if_neg c2, if_pos c10])), gKz1]; exact gK_n hN16 c17 _), fun c => by cases c⟩) dX8_readM_134
        · exfalso
          exact c2 c15
  · skip
    refine g_top (y := 0) (if_neg c1) ?_
    refine g_callVVe (F := [(m 1, .inl (gy G 0, 120, .inl sg)), (m 2, .inl (gy G 0, 271, .inl f))]) (ws2 := [(m 0, .inr (8, [.int (q 0), .ref (m 1), .int (nI n), .int (nI (a + 1)), .int 0, .int (nI lo), .ref (m 2), .ref (m 3), .ref (m 4), .ref (m 5), .int (q 5), .ref (m 6), .ref (m 7), .ref (m 8), .int (q 6), .int (q 7), .int (q 8)])), (m 1, .inl (gy G 0, 120, .inl sg)), (m 2, .inl (gy G 0, 271, .inl f))]) E (mX8_acceptN G m (qU (qU (qU (qU q 1 (nI n)) 2 (nI (a + 1))) 3 1) 4 (nI lo)) (a + 1)) gX8_readM_X8_accept rfl hdX8_accept ⟨Nat.le_of_ble_eq_true rfl, Nat.le_of_ble_eq_true rfl⟩ 8 0 rfl rfl rfl (gPerm_ix [0, 1, 2] rfl rfl) rfl rfl (Nat.le_of_ble_eq_true rfl) dX8_readM_7 ⟨Nat.le_of_ble_eq_true rfl, Nat.le_of_ble_eq_true rfl⟩ (gPerm_ix [0, 1, 2] rfl rfl) ?_
    refine g_aload_n E dX8_readM_10 rfl 0 rfl ?_
    refine g_bipush (v := 110) E dX8_readM_11 (by decide) ?_
    refine g_callVIe (F := [(m 2, .inl (gy G 0, 271, .inl f))]) (ws2 := [(m 0, .inr (8, [.int (q 0), .ref (m 1), .int (nI n), .int (nI (a + 1)), .int 0, .int (nI lo), .ref (m 2), .ref (m 3), .ref (m 4), .ref (m 5), .int (q 5), .ref (m 6), .ref (m 7), .ref (m 8), .int (q 6), .int (q 7), .int (q 8)])), (m 1, .inl (gy G 0, 120, .inl sg)), (m 2, .inl (gy G 0, 271, .inl f))]) E (mX8_isNext G m (qU (qU (qU (qU q 1 (nI n)) 2 (nI (a + 1))) 3 0) 4 (nI lo)) n (a + 1) sg 110 (by omega) (by omega) (by decide)) gX8_readM_X8_isNext rfl hdX8_isNext ⟨Nat.le_of_ble_eq_true rfl, Nat.le_of_ble_eq_true rfl⟩ 8 0 rfl rfl rfl (gPerm_ix [0, 1, 2] rfl rfl) rfl rfl (Nat.le_of_ble_eq_true rfl) dX8_readM_13 ⟨Nat.le_of_ble_eq_true rfl, Nat.le_of_ble_eq_true rfl⟩ (gPerm_ix [0, 1, 2] rfl rfl) ?_
    refine g_istore_n (lv' := [(1, .int (if gSg n sg (a + 1) = 110 then 1 else 0)), (0, .ref (m 0))]) E dX8_readM_16 rfl (by decide) rfl ?_
    refine g_aload_n E dX8_readM_17 rfl 1 rfl ?_
    refine g_iload_n E dX8_readM_18 rfl 0 rfl ?_
    refine g_if_neB (tgt := 31) (P := gSg n sg (a + 1) = 110) E dX8_readM_19 (by decide) (fun c26 => ?_) (fun c26 => ?_)
    · skip
      have hlu := gSg_lt c26 (by decide)
      refine g_iconst (v := 1) E dX8_readM_31 (by decide) ?_
      refine g_goto (tgt := 36) E dX8_readM_32 (by decide) ?_
      refine g_callVVe (F := [(m 1, .inl (gy G 0, 120, .inl sg)), (m 2, .inl (gy G 0, 271, .inl f))]) (ws2 := [(m 0, .inr (8, [.int (q 0), .ref (m 1), .int (nI n), .int (nI (a + 1)), .int 0, .int (nI lo), .ref (m 2), .ref (m 3), .ref (m 4), .ref (m 5), .int (q 5), .ref (m 6), .ref (m 7), .ref (m 8), .int (q 6), .int (q 7), .int (q 8)])), (m 1, .inl (gy G 0, 120, .inl sg)), (m 2, .inl (gy G 0, 271, .inl f))]) E (mX8_accept0 G m (qU (qU (qU (qU q 1 (nI n)) 2 (nI (a + 1))) 3 0) 4 (nI lo)) 1) gX8_readM_X8_accept rfl hdX8_accept ⟨Nat.le_of_ble_eq_true rfl, Nat.le_of_ble_eq_true rfl⟩ 8 0 rfl rfl rfl (gPerm_ix [0, 1, 2] rfl rfl) rfl rfl (Nat.le_of_ble_eq_true rfl) dX8_readM_36 ⟨Nat.le_of_ble_eq_true rfl, Nat.le_of_ble_eq_true rfl⟩ (gPerm_ix [0, 1, 2] rfl rfl) ?_
      refine g_iload_n E dX8_readM_39 rfl 0 rfl ?_
      refine g_if_eqB (tgt := 85) (P := gSg n sg (a + 1) = 110) E dX8_readM_40 (by decide) (fun c27 => ?_) (fun c27 => ?_)
      · exfalso
        exact c27 c26
      · skip
        refine g_aload_n E dX8_readM_43 rfl 1 rfl ?_
        refine g_iconst (v := 0) E dX8_readM_44 (by decide) ?_
        refine g_iconst (v := 3) E dX8_readM_45 (by decide) ?_
        refine g_callVI (F := [(m 2, .inl (gy G 0, 271, .inl f))]) E (mX8_number0 G m (qU (qU (qU (qU q 1 (nI n)) 2 (nI (a + 1))) 3 0) 4 (nI lo)) n (a + 1) sg 0 3 (by omega) (by omega)) gX8_readM_X8_number rfl hdX8_number ⟨Nat.le_of_ble_eq_true rfl, Nat.le_of_ble_eq_true rfl⟩ 8 0 rfl rfl rfl (gPerm_ix [0, 1, 2] rfl rfl) rfl rfl (Nat.le_of_ble_eq_true rfl) dX8_readM_46 ⟨Nat.le_of_ble_eq_true rfl, Nat.le_of_ble_eq_true rfl⟩ (fun r28 u28 h28 => ?_)
        refine g_perm (ws1 := [(m 0, .inr (8, [.int (q 0), .ref (m 1), .int (nI n), .int (nI (a + 1)), .int 0, .int (nI lo), .ref (m 2), .ref (m 3), .ref (m 4), .ref (m 5), .int (q 5), .ref (m 6), .ref (m 7), .ref (m 8), .int (q 6), .int (q 7), .int (q 8)])), (m 1, .inl (gy G 0, 120, .inl sg)), (m 2, .inl (gy G 0, 271, .inl f))]) (gPerm_ix [0, 1, 2] rfl rfl) ?_
        refine g_istore_n (lv' := [(2, .int r28), (1, .int (if gSg n sg (a + 1) = 110 then 1 else 0)), (0, .ref (m 0))]) E dX8_readM_49 rfl (by decide) rfl ?_
        refine g_aload_n E dX8_readM_50 rfl 2 rfl ?_
        refine g_aload_n E dX8_readM_51 rfl 2 rfl ?_
        refine g_get E uX8_readM_RX8 0 rfl rfl 6 (by decide) kX8_readM_13 rfl rfl dX8_readM_52 ?_
        refine g_iconst (v := 1) E dX8_readM_55 (by decide) ?_
        refine g_ialdN (e := 1) E 2 rfl (by first | omega | exact fun w hw => gI2_zp hJ _ (Nat.le_refl _) (by omega) w hw) rfl (v := nI (sN S 1)) (RR_1 hRR) dX8_readM_56 ?_
        refine g_bipush (v := 8) E dX8_readM_57 (by decide) ?_
        refine g_icmp_geN (tgt := 66) (a := sN S 1) (b := 8) E dX8_readM_59 (by decide) (by first | omega | exact fun w hw => gI2_zp hJ _ (Nat.le_refl _) (by omega) w hw) (by first | omega | exact fun w hw => gI2_zp hJ _ (Nat.le_refl _) (by omega) w hw) (fun c29 => ?_) (fun c29 => ?_)
        · skip
          refine g_iconst (v := 0) E dX8_readM_66 (by decide) ?_
          refine g_callVIe (F := [(m 1, .inl (gy G 0, 120, .inl sg)), (m 2, .inl (gy G 0, 271, .inl f))]) (ws2 := [(m 0, .inr (8, [.int (q 0), .ref (m 1), .int (nI n), .int (nI (a + 1)), .int 0, .int (nI lo), .ref (m 2), .ref (m 3), .ref (m 4), .ref (m 5), .int (q 5), .ref (m 6), .ref (m 7), .ref (m 8), .int (q 6), .int (q 7), .int (q 8)])), (m 1, .inl (gy G 0, 120, .inl sg)), (m 2, .inl (gy G 0, 271, .inl f))]) E (mX8_goes0 G m (qU (qU (qU (qU q 1 (nI n)) 2 (nI (a + 1))) 3 0) 4 (nI lo)) 0) gX8_readM_X8_goes rfl hdX8_goes ⟨Nat.le_of_ble_eq_true rfl, Nat.le_of_ble_eq_true rfl⟩ 8 0 rfl rfl rfl (gPerm_ix [0, 1, 2] rfl rfl) rfl rfl (Nat.le_of_ble_eq_true rfl) dX8_readM_67 ⟨Nat.le_of_ble_eq_true rfl, Nat.le_of_ble_eq_true rfl⟩ (gPerm_ix [0, 1, 2] rfl rfl) ?_
          refine g_if_eq (tgt := 82) E dX8_readM_70 (by decide) (fun _ => ?_) (fun c => absurd c (by decide))
          refine g_goto (tgt := 134) E dX8_readM_82 (by decide) ?_
          exact RET _ _ (a + 1, false, lo, f) (⟨(show a + 1 ≤ n by omega), S, gCmd_bad (fun wd nm => gRC_b ((gRWd_m h0).trans (if_neg c1))), fun c => by cases c⟩) dX8_readM_134
        · skip
          refine g_iconst (v := 1) E dX8_readM_62 (by decide) ?_
          refine g_goto (tgt := 67) E dX8_readM_63 (by decide) ?_
          refine g_callVIe (F := [(m 1, .inl (gy G 0, 120, .inl sg)), (m 2, .inl (gy G 0, 271, .inl f))]) (ws2 := [(m 0, .inr (8, [.int (q 0), .ref (m 1), .int (nI n), .int (nI (a + 1)), .int 0, .int (nI lo), .ref (m 2), .ref (m 3), .ref (m 4), .ref (m 5), .int (q 5), .ref (m 6), .ref (m 7), .ref (m 8), .int (q 6), .int (q 7), .int (q 8)])), (m 1, .inl (gy G 0, 120, .inl sg)), (m 2, .inl (gy G 0, 271, .inl f))]) E (mX8_goes0 G m (qU (qU (qU (qU q 1 (nI n)) 2 (nI (a + 1))) 3 0) 4 (nI lo)) 1) gX8_readM_X8_goes rfl hdX8_goes ⟨Nat.le_of_ble_eq_true rfl, Nat.le_of_ble_eq_true rfl⟩ 8 0 rfl rfl rfl (gPerm_ix [0, 1, 2] rfl rfl) rfl rfl (Nat.le_of_ble_eq_true rfl) dX8_readM_67 ⟨Nat.le_of_ble_eq_true rfl, Nat.le_of_ble_eq_true rfl⟩ (gPerm_ix [0, 1, 2] rfl rfl) ?_
          refine g_if_eq (tgt := 82) E dX8_readM_70 (by decide) (fun _ => ?_) (fun c => absurd c (by decide))
          refine g_goto (tgt := 134) E dX8_readM_82 (by decide) ?_
          exact RET _ _ (a + 1, false, lo, f) (⟨(show a + 1 ≤ n by omega), S, gCmd_bad (fun wd nm => gRC_b ((gRWd_m h0).trans (if_neg c1))), fun c => by cases c⟩) dX8_readM_134
    · skip
      refine g_aload_n E dX8_readM_22 rfl 1 rfl ?_
      refine g_bipush (v := 121) E dX8_readM_23 (by decide) ?_
      refine g_callVIe (F := [(m 2, .inl (gy G 0, 271, .inl f))]) (ws2 := [(m 0, .inr (8, [.int (q 0), .ref (m 1), .int (nI n), .int (nI (a + 1)), .int 0, .int (nI lo), .ref (m 2), .ref (m 3), .ref (m 4), .ref (m 5), .int (q 5), .ref (m 6), .ref (m 7), .ref (m 8), .int (q 6), .int (q 7), .int (q 8)])), (m 1, .inl (gy G 0, 120, .inl sg)), (m 2, .inl (gy G 0, 271, .inl f))]) E (mX8_isNext G m (qU (qU (qU (qU q 1 (nI n)) 2 (nI (a + 1))) 3 0) 4 (nI lo)) n (a + 1) sg 121 (by omega) (by omega) (by decide)) gX8_readM_X8_isNext rfl hdX8_isNext ⟨Nat.le_of_ble_eq_true rfl, Nat.le_of_ble_eq_true rfl⟩ 8 0 rfl rfl rfl (gPerm_ix [0, 1, 2] rfl rfl) rfl rfl (Nat.le_of_ble_eq_true rfl) dX8_readM_25 ⟨Nat.le_of_ble_eq_true rfl, Nat.le_of_ble_eq_true rfl⟩ (gPerm_ix [0, 1, 2] rfl rfl) ?_
      refine g_if_eqB (tgt := 35) (P := gSg n sg (a + 1) = 121) E dX8_readM_28 (by decide) (fun c30 => ?_) (fun c30 => ?_)
      · skip
        refine g_iconst (v := 0) E dX8_readM_35 (by decide) ?_
        refine g_callVVe (F := [(m 1, .inl (gy G 0, 120, .inl sg)), (m 2, .inl (gy G 0, 271, .inl f))]) (ws2 := [(m 0, .inr (8, [.int (q 0), .ref (m 1), .int (nI n), .int (nI (a + 1)), .int 0, .int (nI lo), .ref (m 2), .ref (m 3), .ref (m 4), .ref (m 5), .int (q 5), .ref (m 6), .ref (m 7), .ref (m 8), .int (q 6), .int (q 7), .int (q 8)])), (m 1, .inl (gy G 0, 120, .inl sg)), (m 2, .inl (gy G 0, 271, .inl f))]) E (mX8_accept0 G m (qU (qU (qU (qU q 1 (nI n)) 2 (nI (a + 1))) 3 0) 4 (nI lo)) 0) gX8_readM_X8_accept rfl hdX8_accept ⟨Nat.le_of_ble_eq_true rfl, Nat.le_of_ble_eq_true rfl⟩ 8 0 rfl rfl rfl (gPerm_ix [0, 1, 2] rfl rfl) rfl rfl (Nat.le_of_ble_eq_true rfl) dX8_readM_36 ⟨Nat.le_of_ble_eq_true rfl, Nat.le_of_ble_eq_true rfl⟩ (gPerm_ix [0, 1, 2] rfl rfl) ?_
        refine g_iload_n E dX8_readM_39 rfl 0 rfl ?_
        refine g_if_eqB (tgt := 85) (P := gSg n sg (a + 1) = 110) E dX8_readM_40 (by decide) (fun c31 => ?_) (fun c31 => ?_)
        · skip
          refine g_aload_n E dX8_readM_85 rfl 1 rfl ?_
          refine g_iconst (v := 0) E dX8_readM_86 (by decide) ?_
          refine g_bipush (v := 7) E dX8_readM_87 (by decide) ?_
          refine g_callVI (F := [(m 2, .inl (gy G 0, 271, .inl f))]) E (mX8_number0 G m (qU (qU (qU (qU q 1 (nI n)) 2 (nI (a + 1))) 3 0) 4 (nI lo)) n (a + 1) sg 0 7 (by omega) (by omega)) gX8_readM_X8_number rfl hdX8_number ⟨Nat.le_of_ble_eq_true rfl, Nat.le_of_ble_eq_true rfl⟩ 8 0 rfl rfl rfl (gPerm_ix [0, 1, 2] rfl rfl) rfl rfl (Nat.le_of_ble_eq_true rfl) dX8_readM_89 ⟨Nat.le_of_ble_eq_true rfl, Nat.le_of_ble_eq_true rfl⟩ (fun r32 u32 h32 => ?_)
          refine g_perm (ws1 := [(m 0, .inr (8, [.int (q 0), .ref (m 1), .int (nI n), .int (nI (a + 1)), .int 0, .int (nI lo), .ref (m 2), .ref (m 3), .ref (m 4), .ref (m 5), .int (q 5), .ref (m 6), .ref (m 7), .ref (m 8), .int (q 6), .int (q 7), .int (q 8)])), (m 1, .inl (gy G 0, 120, .inl sg)), (m 2, .inl (gy G 0, 271, .inl f))]) (gPerm_ix [0, 1, 2] rfl rfl) ?_
          refine g_istore_n (lv' := [(2, .int r32), (1, .int (if gSg n sg (a + 1) = 110 then 1 else 0)), (0, .ref (m 0))]) E dX8_readM_92 rfl (by decide) rfl ?_
          refine g_aload_n E dX8_readM_93 rfl 2 rfl ?_
          refine g_iconst (v := 0) E dX8_readM_94 (by decide) ?_
          refine g_bipush (v := 9) E dX8_readM_95 (by decide) ?_
          refine g_callVI (F := [(m 2, .inl (gy G 0, 271, .inl f))]) E (mX8_number0 G m (qU (qU (qU (qU q 1 (nI n)) 2 (nI (a + 1))) 3 0) 4 (nI lo)) n (a + 1) sg 0 9 (by omega) (by omega)) gX8_readM_X8_number rfl hdX8_number ⟨Nat.le_of_ble_eq_true rfl, Nat.le_of_ble_eq_true rfl⟩ 8 0 rfl rfl rfl (gPerm_ix [0, 1, 2] rfl rfl) rfl rfl (Nat.le_of_ble_eq_true rfl) dX8_readM_97 ⟨Nat.le_of_ble_eq_true rfl, Nat.le_of_ble_eq_true rfl⟩ (fun r33 u33 h33 => ?_)
          refine g_perm (ws1 := [(m 0, .inr (8, [.int (q 0), .ref (m 1), .int (nI n), .int (nI (a + 1)), .int 0, .int (nI lo), .ref (m 2), .ref (m 3), .ref (m 4), .ref (m 5), .int (q 5), .ref (m 6), .ref (m 7), .ref (m 8), .int (q 6), .int (q 7), .int (q 8)])), (m 1, .inl (gy G 0, 120, .inl sg)), (m 2, .inl (gy G 0, 271, .inl f))]) (gPerm_ix [0, 1, 2] rfl rfl) ?_
          refine g_istore_n (lv' := [(3, .int r33), (2, .int r32), (1, .int (if gSg n sg (a + 1) = 110 then 1 else 0)), (0, .ref (m 0))]) E dX8_readM_100 rfl (by decide) rfl ?_
          refine g_aload_n E dX8_readM_101 rfl 3 rfl ?_
          refine g_iload_n E dX8_readM_102 rfl 1 rfl ?_
          refine g_aload_n E dX8_readM_103 rfl 3 rfl ?_
          refine g_get E uX8_readM_RX8 0 rfl rfl 6 (by decide) kX8_readM_13 rfl rfl dX8_readM_104 ?_
          refine g_iconst (v := 1) E dX8_readM_107 (by decide) ?_
          refine g_ialdN (e := 1) E 2 rfl (by first | omega | exact fun w hw => gI2_zp hJ _ (Nat.le_refl _) (by omega) w hw) rfl (v := nI (sN S 1)) (RR_1 hRR) dX8_readM_108 ?_
          refine g_icmp_ge (tgt := 116) E dX8_readM_109 (by decide) (fun c34 => ?_) (fun c34 => ?_)
          · skip
            refine g_iconst (v := 0) E dX8_readM_116 (by decide) ?_
            refine g_callVIe (F := [(m 1, .inl (gy G 0, 120, .inl sg)), (m 2, .inl (gy G 0, 271, .inl f))]) (ws2 := [(m 0, .inr (8, [.int (q 0), .ref (m 1), .int (nI n), .int (nI (a + 1)), .int 0, .int (nI lo), .ref (m 2), .ref (m 3), .ref (m 4), .ref (m 5), .int (q 5), .ref (m 6), .ref (m 7), .ref (m 8), .int (q 6), .int (q 7), .int (q 8)])), (m 1, .inl (gy G 0, 120, .inl sg)), (m 2, .inl (gy G 0, 271, .inl f))]) E (mX8_goes0 G m (qU (qU (qU (qU q 1 (nI n)) 2 (nI (a + 1))) 3 0) 4 (nI lo)) 0) gX8_readM_X8_goes rfl hdX8_goes ⟨Nat.le_of_ble_eq_true rfl, Nat.le_of_ble_eq_true rfl⟩ 8 0 rfl rfl rfl (gPerm_ix [0, 1, 2] rfl rfl) rfl rfl (Nat.le_of_ble_eq_true rfl) dX8_readM_117 ⟨Nat.le_of_ble_eq_true rfl, Nat.le_of_ble_eq_true rfl⟩ (gPerm_ix [0, 1, 2] rfl rfl) ?_
            refine g_if_eq (tgt := 134) E dX8_readM_120 (by decide) (fun _ => ?_) (fun c => absurd c (by decide))
            exact RET _ _ (a + 1, false, lo, f) (⟨(show a + 1 ≤ n by omega), S, gCmd_bad (fun wd nm => gRC_b ((gRWd_m h0).trans (if_neg c1))), fun c => by cases c⟩) dX8_readM_134
          · skip
            refine g_iconst (v := 1) E dX8_readM_112 (by decide) ?_
            refine g_goto (tgt := 117) E dX8_readM_113 (by decide) ?_
            refine g_callVIe (F := [(m 1, .inl (gy G 0, 120, .inl sg)), (m 2, .inl (gy G 0, 271, .inl f))]) (ws2 := [(m 0, .inr (8, [.int (q 0), .ref (m 1), .int (nI n), .int (nI (a + 1)), .int 0, .int (nI lo), .ref (m 2), .ref (m 3), .ref (m 4), .ref (m 5), .int (q 5), .ref (m 6), .ref (m 7), .ref (m 8), .int (q 6), .int (q 7), .int (q 8)])), (m 1, .inl (gy G 0, 120, .inl sg)), (m 2, .inl (gy G 0, 271, .inl f))]) E (mX8_goes0 G m (qU (qU (qU (qU q 1 (nI n)) 2 (nI (a + 1))) 3 0) 4 (nI lo)) 1) gX8_readM_X8_goes rfl hdX8_goes ⟨Nat.le_of_ble_eq_true rfl, Nat.le_of_ble_eq_true rfl⟩ 8 0 rfl rfl rfl (gPerm_ix [0, 1, 2] rfl rfl) rfl rfl (Nat.le_of_ble_eq_true rfl) dX8_readM_117 ⟨Nat.le_of_ble_eq_true rfl, Nat.le_of_ble_eq_true rfl⟩ (gPerm_ix [0, 1, 2] rfl rfl) ?_
            refine g_if_eq (tgt := 134) E dX8_readM_120 (by decide) (fun _ => ?_) (fun c => absurd c (by decide))
            exact RET _ _ (a + 1, false, lo, f) (⟨(show a + 1 ≤ n by omega), S, gCmd_bad (fun wd nm => gRC_b ((gRWd_m h0).trans (if_neg c1))), fun c => by cases c⟩) dX8_readM_134
        · exfalso
          exact c26 c31
      · skip
        have hlv := gSg_lt c30 (by decide)
        refine g_iconst (v := 1) E dX8_readM_31 (by decide) ?_
        refine g_goto (tgt := 36) E dX8_readM_32 (by decide) ?_
        refine g_callVVe (F := [(m 1, .inl (gy G 0, 120, .inl sg)), (m 2, .inl (gy G 0, 271, .inl f))]) (ws2 := [(m 0, .inr (8, [.int (q 0), .ref (m 1), .int (nI n), .int (nI (a + 1)), .int 0, .int (nI lo), .ref (m 2), .ref (m 3), .ref (m 4), .ref (m 5), .int (q 5), .ref (m 6), .ref (m 7), .ref (m 8), .int (q 6), .int (q 7), .int (q 8)])), (m 1, .inl (gy G 0, 120, .inl sg)), (m 2, .inl (gy G 0, 271, .inl f))]) E (mX8_accept0 G m (qU (qU (qU (qU q 1 (nI n)) 2 (nI (a + 1))) 3 0) 4 (nI lo)) 1) gX8_readM_X8_accept rfl hdX8_accept ⟨Nat.le_of_ble_eq_true rfl, Nat.le_of_ble_eq_true rfl⟩ 8 0 rfl rfl rfl (gPerm_ix [0, 1, 2] rfl rfl) rfl rfl (Nat.le_of_ble_eq_true rfl) dX8_readM_36 ⟨Nat.le_of_ble_eq_true rfl, Nat.le_of_ble_eq_true rfl⟩ (gPerm_ix [0, 1, 2] rfl rfl) ?_
        refine g_iload_n E dX8_readM_39 rfl 0 rfl ?_
        refine g_if_eqB (tgt := 85) (P := gSg n sg (a + 1) = 110) E dX8_readM_40 (by decide) (fun c35 => ?_) (fun c35 => ?_)
        · skip
          refine g_aload_n E dX8_readM_85 rfl 1 rfl ?_
          refine g_iconst (v := 0) E dX8_readM_86 (by decide) ?_
          refine g_bipush (v := 7) E dX8_readM_87 (by decide) ?_
          refine g_callVI (F := [(m 2, .inl (gy G 0, 271, .inl f))]) E (mX8_number0 G m (qU (qU (qU (qU q 1 (nI n)) 2 (nI (a + 1))) 3 0) 4 (nI lo)) n (a + 1) sg 0 7 (by omega) (by omega)) gX8_readM_X8_number rfl hdX8_number ⟨Nat.le_of_ble_eq_true rfl, Nat.le_of_ble_eq_true rfl⟩ 8 0 rfl rfl rfl (gPerm_ix [0, 1, 2] rfl rfl) rfl rfl (Nat.le_of_ble_eq_true rfl) dX8_readM_89 ⟨Nat.le_of_ble_eq_true rfl, Nat.le_of_ble_eq_true rfl⟩ (fun r36 u36 h36 => ?_)
          refine g_perm (ws1 := [(m 0, .inr (8, [.int (q 0), .ref (m 1), .int (nI n), .int (nI (a + 1)), .int 0, .int (nI lo), .ref (m 2), .ref (m 3), .ref (m 4), .ref (m 5), .int (q 5), .ref (m 6), .ref (m 7), .ref (m 8), .int (q 6), .int (q 7), .int (q 8)])), (m 1, .inl (gy G 0, 120, .inl sg)), (m 2, .inl (gy G 0, 271, .inl f))]) (gPerm_ix [0, 1, 2] rfl rfl) ?_
          refine g_istore_n (lv' := [(2, .int r36), (1, .int (if gSg n sg (a + 1) = 110 then 1 else 0)), (0, .ref (m 0))]) E dX8_readM_92 rfl (by decide) rfl ?_
          refine g_aload_n E dX8_readM_93 rfl 2 rfl ?_
          refine g_iconst (v := 0) E dX8_readM_94 (by decide) ?_
          refine g_bipush (v := 9) E dX8_readM_95 (by decide) ?_
          refine g_callVI (F := [(m 2, .inl (gy G 0, 271, .inl f))]) E (mX8_number0 G m (qU (qU (qU (qU q 1 (nI n)) 2 (nI (a + 1))) 3 0) 4 (nI lo)) n (a + 1) sg 0 9 (by omega) (by omega)) gX8_readM_X8_number rfl hdX8_number ⟨Nat.le_of_ble_eq_true rfl, Nat.le_of_ble_eq_true rfl⟩ 8 0 rfl rfl rfl (gPerm_ix [0, 1, 2] rfl rfl) rfl rfl (Nat.le_of_ble_eq_true rfl) dX8_readM_97 ⟨Nat.le_of_ble_eq_true rfl, Nat.le_of_ble_eq_true rfl⟩ (fun r37 u37 h37 => ?_)
          refine g_perm (ws1 := [(m 0, .inr (8, [.int (q 0), .ref (m 1), .int (nI n), .int (nI (a + 1)), .int 0, .int (nI lo), .ref (m 2), .ref (m 3), .ref (m 4), .ref (m 5), .int (q 5), .ref (m 6), .ref (m 7), .ref (m 8), .int (q 6), .int (q 7), .int (q 8)])), (m 1, .inl (gy G 0, 120, .inl sg)), (m 2, .inl (gy G 0, 271, .inl f))]) (gPerm_ix [0, 1, 2] rfl rfl) ?_
          refine g_istore_n (lv' := [(3, .int r37), (2, .int r36), (1, .int (if gSg n sg (a + 1) = 110 then 1 else 0)), (0, .ref (m 0))]) E dX8_readM_100 rfl (by decide) rfl ?_
          refine g_aload_n E dX8_readM_101 rfl 3 rfl ?_
          refine g_iload_n E dX8_readM_102 rfl 1 rfl ?_
          refine g_aload_n E dX8_readM_103 rfl 3 rfl ?_
          refine g_get E uX8_readM_RX8 0 rfl rfl 6 (by decide) kX8_readM_13 rfl rfl dX8_readM_104 ?_
          refine g_iconst (v := 1) E dX8_readM_107 (by decide) ?_
          refine g_ialdN (e := 1) E 2 rfl (by first | omega | exact fun w hw => gI2_zp hJ _ (Nat.le_refl _) (by omega) w hw) rfl (v := nI (sN S 1)) (RR_1 hRR) dX8_readM_108 ?_
          refine g_icmp_ge (tgt := 116) E dX8_readM_109 (by decide) (fun c38 => ?_) (fun c38 => ?_)
          · skip
            refine g_iconst (v := 0) E dX8_readM_116 (by decide) ?_
            refine g_callVIe (F := [(m 1, .inl (gy G 0, 120, .inl sg)), (m 2, .inl (gy G 0, 271, .inl f))]) (ws2 := [(m 0, .inr (8, [.int (q 0), .ref (m 1), .int (nI n), .int (nI (a + 1)), .int 0, .int (nI lo), .ref (m 2), .ref (m 3), .ref (m 4), .ref (m 5), .int (q 5), .ref (m 6), .ref (m 7), .ref (m 8), .int (q 6), .int (q 7), .int (q 8)])), (m 1, .inl (gy G 0, 120, .inl sg)), (m 2, .inl (gy G 0, 271, .inl f))]) E (mX8_goes0 G m (qU (qU (qU (qU q 1 (nI n)) 2 (nI (a + 1))) 3 0) 4 (nI lo)) 0) gX8_readM_X8_goes rfl hdX8_goes ⟨Nat.le_of_ble_eq_true rfl, Nat.le_of_ble_eq_true rfl⟩ 8 0 rfl rfl rfl (gPerm_ix [0, 1, 2] rfl rfl) rfl rfl (Nat.le_of_ble_eq_true rfl) dX8_readM_117 ⟨Nat.le_of_ble_eq_true rfl, Nat.le_of_ble_eq_true rfl⟩ (gPerm_ix [0, 1, 2] rfl rfl) ?_
            refine g_if_eq (tgt := 134) E dX8_readM_120 (by decide) (fun _ => ?_) (fun c => absurd c (by decide))
            exact RET _ _ (a + 1, false, lo, f) (⟨(show a + 1 ≤ n by omega), S, gCmd_bad (fun wd nm => gRC_b ((gRWd_m h0).trans (if_neg c1))), fun c => by cases c⟩) dX8_readM_134
          · skip
            refine g_iconst (v := 1) E dX8_readM_112 (by decide) ?_
            refine g_goto (tgt := 117) E dX8_readM_113 (by decide) ?_
            refine g_callVIe (F := [(m 1, .inl (gy G 0, 120, .inl sg)), (m 2, .inl (gy G 0, 271, .inl f))]) (ws2 := [(m 0, .inr (8, [.int (q 0), .ref (m 1), .int (nI n), .int (nI (a + 1)), .int 0, .int (nI lo), .ref (m 2), .ref (m 3), .ref (m 4), .ref (m 5), .int (q 5), .ref (m 6), .ref (m 7), .ref (m 8), .int (q 6), .int (q 7), .int (q 8)])), (m 1, .inl (gy G 0, 120, .inl sg)), (m 2, .inl (gy G 0, 271, .inl f))]) E (mX8_goes0 G m (qU (qU (qU (qU q 1 (nI n)) 2 (nI (a + 1))) 3 0) 4 (nI lo)) 1) gX8_readM_X8_goes rfl hdX8_goes ⟨Nat.le_of_ble_eq_true rfl, Nat.le_of_ble_eq_true rfl⟩ 8 0 rfl rfl rfl (gPerm_ix [0, 1, 2] rfl rfl) rfl rfl (Nat.le_of_ble_eq_true rfl) dX8_readM_117 ⟨Nat.le_of_ble_eq_true rfl, Nat.le_of_ble_eq_true rfl⟩ (gPerm_ix [0, 1, 2] rfl rfl) ?_
            refine g_if_eq (tgt := 134) E dX8_readM_120 (by decide) (fun _ => ?_) (fun c => absurd c (by decide))
            exact RET _ _ (a + 1, false, lo, f) (⟨(show a + 1 ≤ n by omega), S, gCmd_bad (fun wd nm => gRC_b ((gRWd_m h0).trans (if_neg c1))), fun c => by cases c⟩) dX8_readM_134
        · exfalso
          exact c26 c35

set_option maxHeartbeats 4000000 in
set_option maxRecDepth 100000 in
theorem mX8_readBook (G : gG) (m : Nat → Nat) (q : Nat → Int32) (n a : Nat) (sg : Nat → Int32) (S : gSt) (f : Nat → Int32) (lo : Nat)  (hn12 : n ≤ 120) (h0 : gSg n sg a = 98) (hK : gI3 S) (hT30 : sN S 0 + 30 < 200000000) (hRR : RR S f) : CV G yX8_readBook wsX8_readBook 4 95 [.ref (m 0)] [(m 0, .inr (8, [.int (q 0), .ref (m 1), .int (nI n), .int (nI (a + 1)), .int 1, .int (nI lo), .ref (m 2), .ref (m 3), .ref (m 4), .ref (m 5), .int (q 5), .ref (m 6), .ref (m 7), .ref (m 8), .int (q 6), .int (q 7), .int (q 8)])), (m 1, .inl (gy G 0, 120, .inl sg)), (m 2, .inl (gy G 0, 271, .inl f))] (fun u : Nat × Bool × Nat × (Nat → Int32) => u.1 ≤ n ∧ ∃ T, gCmdP n sg a S lo (u.1, u.2.1, u.2.2.1) T ∧ (u.2.1 = true → RR T u.2.2.2)) (fun (u : Nat × Bool × Nat × (Nat → Int32)) => [(m 0, .inr (8, [.int (q 0), .ref (m 1), .int (nI n), .int (nI u.1), .int (if u.2.1 = true then 1 else 0), .int (nI u.2.2.1), .ref (m 2), .ref (m 3), .ref (m 4), .ref (m 5), .int (q 5), .ref (m 6), .ref (m 7), .ref (m 8), .int (q 6), .int (q 7), .int (q 8)])), (m 1, .inl (gy G 0, 120, .inl sg)), (m 2, .inl (gy G 0, 271, .inl u.2.2.2))]) 0 0 := by
  refine g_enterV RX8 rfl (by decide) rfl (Nat.le_of_ble_eq_true rfl) ?_
  intro V E RET
  have hJ := hK.1
  have hI := hJ.1
  have hT2 : sN S 0 < 200000000 := by omega
  have hT : sN S 0 < 1000000000 := by omega
  have hb2 := gI2_b2 hJ
  have hX := hI
  obtain ⟨hP8, hn, hw, hW8, hs3, hs4, hs5, hs6, hs7, hs8, hb34⟩ := hX
  have ha1 : a < n := gSg_lt h0 (by first | decide | (rcases hx with q | q <;> (rw [q]; decide)))
  refine g_aload_n E dX8_readBook_0 rfl 0 rfl ?_
  refine g_bipush (v := 111) E dX8_readBook_1 (by decide) ?_
  refine g_bipush (v := 111) E dX8_readBook_3 (by decide) ?_
  refine g_bipush (v := 107) E dX8_readBook_5 (by decide) ?_
  refine g_callVV (F := [(m 2, .inl (gy G 0, 271, .inl f))]) E (mX8_word G m (qU (qU (qU (qU q 1 (nI n)) 2 (nI (a + 1))) 3 1) 4 (nI lo)) n (a + 1) sg 111 111 107 (by omega) (by omega) (by decide) (by decide) (by decide)) gX8_readBook_X8_word rfl hdX8_word ⟨Nat.le_of_ble_eq_true rfl, Nat.le_of_ble_eq_true rfl⟩ 8 0 rfl rfl rfl (gPerm_ix [0, 1, 2] rfl rfl) rfl rfl (Nat.le_of_ble_eq_true rfl) dX8_readBook_7 ⟨Nat.le_of_ble_eq_true rfl, Nat.le_of_ble_eq_true rfl⟩ (fun u1 h1 => ?_)
  obtain ⟨hl1, hN1⟩ := h1
  refine g_perm (ws1 := [(m 0, .inr (8, [.int (q 0), .ref (m 1), .int (nI n), .int (nI u1.1), .int (if u1.2 = true then 1 else 0), .int (nI lo), .ref (m 2), .ref (m 3), .ref (m 4), .ref (m 5), .int (q 5), .ref (m 6), .ref (m 7), .ref (m 8), .int (q 6), .int (q 7), .int (q 8)])), (m 1, .inl (gy G 0, 120, .inl sg)), (m 2, .inl (gy G 0, 271, .inl f))]) (gPerm_ix [0, 1, 2] rfl rfl) ?_
  by_cases c3 : u1.2 = true
  · skip
    refine g_ws (ws' := [(m 0, .inr (8, [.int (q 0), .ref (m 1), .int (nI n), .int (nI u1.1), .int 1, .int (nI lo), .ref (m 2), .ref (m 3), .ref (m 4), .ref (m 5), .int (q 5), .ref (m 6), .ref (m 7), .ref (m 8), .int (q 6), .int (q 7), .int (q 8)])), (m 1, .inl (gy G 0, 120, .inl sg)), (m 2, .inl (gy G 0, 271, .inl f))]) (by rw [if_pos c3]) ?_
    have ex1 : a + 1 + 3 = u1.1 := by rw [(gWdP_y hN1 c3).2]; rfl
    refine g_aload_n E dX8_readBook_10 rfl 0 rfl ?_
    refine g_iconst (v := 0) E dX8_readBook_11 (by decide) ?_
    refine g_bipush (v := 7) E dX8_readBook_12 (by decide) ?_
    refine g_callVI (F := [(m 2, .inl (gy G 0, 271, .inl f))]) E (mX8_number G m (qU (qU (qU (qU q 1 (nI n)) 2 (nI u1.1)) 3 1) 4 (nI lo)) n u1.1 sg 112 0 7 (by omega) (by omega) (by decide) (by decide)) gX8_readBook_X8_number rfl hdX8_number ⟨Nat.le_of_ble_eq_true rfl, Nat.le_of_ble_eq_true rfl⟩ 8 0 rfl rfl rfl (gPerm_ix [0, 1, 2] rfl rfl) rfl rfl (Nat.le_of_ble_eq_true rfl) dX8_readBook_14 ⟨Nat.le_of_ble_eq_true rfl, Nat.le_of_ble_eq_true rfl⟩ (fun r4 u4 h4 => ?_)
    obtain ⟨hl4, hN4⟩ := h4
    refine g_perm (ws1 := [(m 0, .inr (8, [.int (q 0), .ref (m 1), .int (nI n), .int (nI u4.1), .int (if u4.2 = true then 1 else 0), .int (nI lo), .ref (m 2), .ref (m 3), .ref (m 4), .ref (m 5), .int (q 5), .ref (m 6), .ref (m 7), .ref (m 8), .int (q 6), .int (q 7), .int (q 8)])), (m 1, .inl (gy G 0, 120, .inl sg)), (m 2, .inl (gy G 0, 271, .inl f))]) (gPerm_ix [0, 1, 2] rfl rfl) ?_
    by_cases c5 : u4.2 = true
    · skip
      refine g_ws (ws' := [(m 0, .inr (8, [.int (q 0), .ref (m 1), .int (nI n), .int (nI u4.1), .int 1, .int (nI lo), .ref (m 2), .ref (m 3), .ref (m 4), .ref (m 5), .int (q 5), .ref (m 6), .ref (m 7), .ref (m 8), .int (q 6), .int (q 7), .int (q 8)])), (m 1, .inl (gy G 0, 120, .inl sg)), (m 2, .inl (gy G 0, 271, .inl f))]) (by rw [if_pos c5]) ?_
      obtain ⟨j4, ja4, jb4, jr4⟩ := gK_r hN4 c5 (M := 7) (by decide) (by decide) 0 (by decide) (by decide)
      refine g_top (y := nI j4) jr4 ?_
      refine g_istore_n (lv' := [(1, .int (nI j4)), (0, .ref (m 0))]) E dX8_readBook_17 rfl (by decide) rfl ?_
      refine g_aload_n E dX8_readBook_18 rfl 1 rfl ?_
      refine g_iconst (v := 0) E dX8_readBook_19 (by decide) ?_
      refine g_bipush (v := 9) E dX8_readBook_20 (by decide) ?_
      refine g_callVI (F := [(m 2, .inl (gy G 0, 271, .inl f))]) E (mX8_number G m (qU (qU (qU (qU q 1 (nI n)) 2 (nI u4.1)) 3 1) 4 (nI lo)) n u4.1 sg 118 0 9 (by omega) (by omega) (by decide) (by decide)) gX8_readBook_X8_number rfl hdX8_number ⟨Nat.le_of_ble_eq_true rfl, Nat.le_of_ble_eq_true rfl⟩ 8 0 rfl rfl rfl (gPerm_ix [0, 1, 2] rfl rfl) rfl rfl (Nat.le_of_ble_eq_true rfl) dX8_readBook_22 ⟨Nat.le_of_ble_eq_true rfl, Nat.le_of_ble_eq_true rfl⟩ (fun r6 u6 h6 => ?_)
      obtain ⟨hl6, hN6⟩ := h6
      refine g_perm (ws1 := [(m 0, .inr (8, [.int (q 0), .ref (m 1), .int (nI n), .int (nI u6.1), .int (if u6.2 = true then 1 else 0), .int (nI lo), .ref (m 2), .ref (m 3), .ref (m 4), .ref (m 5), .int (q 5), .ref (m 6), .ref (m 7), .ref (m 8), .int (q 6), .int (q 7), .int (q 8)])), (m 1, .inl (gy G 0, 120, .inl sg)), (m 2, .inl (gy G 0, 271, .inl f))]) (gPerm_ix [0, 1, 2] rfl rfl) ?_
      by_cases c7 : u6.2 = true
      · skip
        refine g_ws (ws' := [(m 0, .inr (8, [.int (q 0), .ref (m 1), .int (nI n), .int (nI u6.1), .int 1, .int (nI lo), .ref (m 2), .ref (m 3), .ref (m 4), .ref (m 5), .int (q 5), .ref (m 6), .ref (m 7), .ref (m 8), .int (q 6), .int (q 7), .int (q 8)])), (m 1, .inl (gy G 0, 120, .inl sg)), (m 2, .inl (gy G 0, 271, .inl f))]) (by rw [if_pos c7]) ?_
        obtain ⟨j6, ja6, jb6, jr6⟩ := gK_r hN6 c7 (M := 9) (by decide) (by decide) 0 (by decide) (by decide)
        refine g_top (y := nI j6) jr6 ?_
        refine g_istore_n (lv' := [(2, .int (nI j6)), (1, .int (nI j4)), (0, .ref (m 0))]) E dX8_readBook_25 rfl (by decide) rfl ?_
        refine g_aload_n E dX8_readBook_26 rfl 2 rfl ?_
        refine g_iconst (v := 0) E dX8_readBook_27 (by decide) ?_
        refine g_bipush (v := 99) E dX8_readBook_28 (by decide) ?_
        refine g_callVI (F := [(m 2, .inl (gy G 0, 271, .inl f))]) E (mX8_number G m (qU (qU (qU (qU q 1 (nI n)) 2 (nI u6.1)) 3 1) 4 (nI lo)) n u6.1 sg 100 0 99 (by omega) (by omega) (by decide) (by decide)) gX8_readBook_X8_number rfl hdX8_number ⟨Nat.le_of_ble_eq_true rfl, Nat.le_of_ble_eq_true rfl⟩ 8 0 rfl rfl rfl (gPerm_ix [0, 1, 2] rfl rfl) rfl rfl (Nat.le_of_ble_eq_true rfl) dX8_readBook_30 ⟨Nat.le_of_ble_eq_true rfl, Nat.le_of_ble_eq_true rfl⟩ (fun r8 u8 h8 => ?_)
        obtain ⟨hl8, hN8⟩ := h8
        refine g_perm (ws1 := [(m 0, .inr (8, [.int (q 0), .ref (m 1), .int (nI n), .int (nI u8.1), .int (if u8.2 = true then 1 else 0), .int (nI lo), .ref (m 2), .ref (m 3), .ref (m 4), .ref (m 5), .int (q 5), .ref (m 6), .ref (m 7), .ref (m 8), .int (q 6), .int (q 7), .int (q 8)])), (m 1, .inl (gy G 0, 120, .inl sg)), (m 2, .inl (gy G 0, 271, .inl f))]) (gPerm_ix [0, 1, 2] rfl rfl) ?_
        by_cases c9 : u8.2 = true
        · skip
          refine g_ws (ws' := [(m 0, .inr (8, [.int (q 0), .ref (m 1), .int (nI n), .int (nI u8.1), .int 1, .int (nI lo), .ref (m 2), .ref (m 3), .ref (m 4), .ref (m 5), .int (q 5), .ref (m 6), .ref (m 7), .ref (m 8), .int (q 6), .int (q 7), .int (q 8)])), (m 1, .inl (gy G 0, 120, .inl sg)), (m 2, .inl (gy G 0, 271, .inl f))]) (by rw [if_pos c9]) ?_
          obtain ⟨j8, ja8, jb8, jr8⟩ := gK_r hN8 c9 (M := 99) (by decide) (by decide) 0 (by decide) (by decide)
          refine g_top (y := nI j8) jr8 ?_
          refine g_istore_n (lv' := [(3, .int (nI j8)), (2, .int (nI j6)), (1, .int (nI j4)), (0, .ref (m 0))]) E dX8_readBook_33 rfl (by decide) rfl ?_
          refine g_aload_n E dX8_readBook_34 rfl 3 rfl ?_
          refine g_iconst (v := 0) E dX8_readBook_35 (by decide) ?_
          refine g_bipush (v := 7) E dX8_readBook_36 (by decide) ?_
          refine g_callVI (F := [(m 2, .inl (gy G 0, 271, .inl f))]) E (mX8_number G m (qU (qU (qU (qU q 1 (nI n)) 2 (nI u8.1)) 3 1) 4 (nI lo)) n u8.1 sg 104 0 7 (by omega) (by omega) (by decide) (by decide)) gX8_readBook_X8_number rfl hdX8_number ⟨Nat.le_of_ble_eq_true rfl, Nat.le_of_ble_eq_true rfl⟩ 8 0 rfl rfl rfl (gPerm_ix [0, 1, 2] rfl rfl) rfl rfl (Nat.le_of_ble_eq_true rfl) dX8_readBook_38 ⟨Nat.le_of_ble_eq_true rfl, Nat.le_of_ble_eq_true rfl⟩ (fun r10 u10 h10 => ?_)
          obtain ⟨hl10, hN10⟩ := h10
          refine g_perm (ws1 := [(m 0, .inr (8, [.int (q 0), .ref (m 1), .int (nI n), .int (nI u10.1), .int (if u10.2 = true then 1 else 0), .int (nI lo), .ref (m 2), .ref (m 3), .ref (m 4), .ref (m 5), .int (q 5), .ref (m 6), .ref (m 7), .ref (m 8), .int (q 6), .int (q 7), .int (q 8)])), (m 1, .inl (gy G 0, 120, .inl sg)), (m 2, .inl (gy G 0, 271, .inl f))]) (gPerm_ix [0, 1, 2] rfl rfl) ?_
          by_cases c11 : u10.2 = true
          · skip
            refine g_ws (ws' := [(m 0, .inr (8, [.int (q 0), .ref (m 1), .int (nI n), .int (nI u10.1), .int 1, .int (nI lo), .ref (m 2), .ref (m 3), .ref (m 4), .ref (m 5), .int (q 5), .ref (m 6), .ref (m 7), .ref (m 8), .int (q 6), .int (q 7), .int (q 8)])), (m 1, .inl (gy G 0, 120, .inl sg)), (m 2, .inl (gy G 0, 271, .inl f))]) (by rw [if_pos c11]) ?_
            obtain ⟨j10, ja10, jb10, jr10⟩ := gK_r hN10 c11 (M := 7) (by decide) (by decide) 0 (by decide) (by decide)
            refine g_top (y := nI j10) jr10 ?_
            refine g_istore (lv' := [(4, .int (nI j10)), (3, .int (nI j8)), (2, .int (nI j6)), (1, .int (nI j4)), (0, .ref (m 0))]) E dX8_readBook_41 (by decide) rfl ?_
            refine g_aload_n E dX8_readBook_43 rfl 4 rfl ?_
            refine g_get E uX8_readBook_RX8 0 rfl rfl 4 (by decide) kX8_readBook_158 rfl rfl dX8_readBook_44 ?_
            refine g_if_eq (tgt := 113) E dX8_readBook_47 (by decide) (fun c => absurd c (by decide)) (fun _ => ?_)
            refine g_aload_n E dX8_readBook_50 rfl 4 rfl ?_
            refine g_iload_n E dX8_readBook_51 rfl 3 rfl ?_
            refine g_aload_n E dX8_readBook_52 rfl 4 rfl ?_
            refine g_get E uX8_readBook_RX8 0 rfl rfl 6 (by decide) kX8_readBook_13 rfl rfl dX8_readBook_53 ?_
            refine g_iconst (v := 1) E dX8_readBook_56 (by decide) ?_
            refine g_ialdN (e := 1) E 2 rfl (by first | omega | exact fun w hw => gI2_zp hJ _ (Nat.le_refl _) (by omega) w hw) rfl (v := nI (sN S 1)) (RR_1 hRR) dX8_readBook_57 ?_
            refine g_icmp_geN (tgt := 93) (a := j4) (b := sN S 1) E dX8_readBook_58 (by decide) (by first | omega | exact fun w hw => gI2_zp hJ _ (Nat.le_refl _) (by omega) w hw) (by first | omega | exact fun w hw => gI2_zp hJ _ (Nat.le_refl _) (by omega) w hw) (fun c12 => ?_) (fun c12 => ?_)
            · skip
              refine g_iconst (v := 0) E dX8_readBook_93 (by decide) ?_
              refine g_callVIe (F := [(m 1, .inl (gy G 0, 120, .inl sg)), (m 2, .inl (gy G 0, 271, .inl f))]) (ws2 := [(m 0, .inr (8, [.int (q 0), .ref (m 1), .int (nI n), .int (nI u10.1), .int 1, .int (nI (lo + 1)), .ref (m 2), .ref (m 3), .ref (m 4), .ref (m 5), .int (q 5), .ref (m 6), .ref (m 7), .ref (m 8), .int (q 6), .int (q 7), .int (q 8)])), (m 1, .inl (gy G 0, 120, .inl sg)), (m 2, .inl (gy G 0, 271, .inl f))]) E (mX8_goesN G m (qU (qU (qU (qU q 1 (nI n)) 2 (nI u10.1)) 3 1) 4 (nI lo)) lo) gX8_readBook_X8_goes rfl hdX8_goes ⟨Nat.le_of_ble_eq_true rfl, Nat.le_of_ble_eq_true rfl⟩ 8 0 rfl rfl rfl (gPerm_ix [0, 1, 2] rfl rfl) rfl rfl (Nat.le_of_ble_eq_true rfl) dX8_readBook_94 ⟨Nat.le_of_ble_eq_true rfl, Nat.le_of_ble_eq_true rfl⟩ (gPerm_ix [0, 1, 2] rfl rfl) ?_
              refine g_if_eq (tgt := 113) E dX8_readBook_97 (by decide) (fun _ => ?_) (fun c => absurd c (by decide))
              exact RET _ _ (u10.1, true, lo + 1, f) (⟨(show u10.1 ≤ n by omega), _, (by obtain ⟨rr, hr1, hr2⟩ := gTB_no (p := j4) (v := j6) (d := j8) (h := j10) hP8 hT (by omega) (by omega) (by omega) (by omega) (fun q => by have q1 := q.1.1; have q2 := q.2.1; have q3 := q.2.2; first | omega | exact absurd q2 c12 | exact absurd q3 c12); exact gCmd_out (w := 2) (by decide) (fun nm => (upd (upd (upd (upd nm 0 r4) 1 r6) 2 r8) 3 r10)) (fun wd nm => by rw [gRC_w ((gRWd_b h0).trans (if_pos (gWdP_y hN1 c3).1)), gKz2]; rw [show a + 4 = u1.1 from ex1]; rw [gK_y hN4 c5]; rw [gK_y hN6 c7]; rw [gK_y hN8 c9]; rw [gK_y hN10 c11]; rfl) rr (fun _ c => absurd c (by decide)) (fun nm => by rw [gDoE_2]; show gTryBook S r4 r6 r8 r10 = _; rw [jr4, jr6, jr8, jr10]; exact hr1) hr2), fun _ => hRR⟩) dX8_readBook_113
            · skip
              refine g_aload_n E dX8_readBook_61 rfl 4 rfl ?_
              refine g_get E uX8_readBook_RX8 0 rfl rfl 6 (by decide) kX8_readBook_13 rfl rfl dX8_readBook_62 ?_
              refine g_iload_n E dX8_readBook_65 rfl 1 rfl ?_
              refine g_iload E dX8_readBook_66 0 rfl ?_
              refine g_callSIe (F := [(m 0, .inr (8, [.int (q 0), .ref (m 1), .int (nI n), .int (nI u10.1), .int 1, .int (nI lo), .ref (m 2), .ref (m 3), .ref (m 4), .ref (m 5), .int (q 5), .ref (m 6), .ref (m 7), .ref (m 8), .int (q 6), .int (q 7), .int (q 8)])), (m 1, .inl (gy G 0, 120, .inl sg))]) (ws2 := [(m 0, .inr (8, [.int (q 0), .ref (m 1), .int (nI n), .int (nI u10.1), .int 1, .int (nI lo), .ref (m 2), .ref (m 3), .ref (m 4), .ref (m 5), .int (q 5), .ref (m 6), .ref (m 7), .ref (m 8), .int (q 6), .int (q 7), .int (q 8)])), (m 1, .inl (gy G 0, 120, .inl sg)), (m 2, .inl (gy G 0, 271, .inl f))]) E (mX8_isTime G (m 2) S f (nI j8) (nI j10) (gI1_r hI) hT hRR ) gX8_readBook_X8_isTime rfl hnX8_isTime ⟨Nat.le_of_ble_eq_true rfl, Nat.le_of_ble_eq_true rfl⟩ (gPerm_ix [2, 0, 1] rfl rfl) rfl rfl (Nat.le_of_ble_eq_true rfl) dX8_readBook_68 ⟨Nat.le_of_ble_eq_true rfl, Nat.le_of_ble_eq_true rfl⟩ (gPerm_ix [1, 2, 0] rfl rfl) ?_
              refine g_if_eqB (tgt := 93) (P := ((¬ (nI j8) < nI (sN S 0) ∧ ¬ 9999 < (nI j8)) ∧ (¬ (nI j10) < 0 ∧ ¬ 7 < (nI j10)))) E dX8_readBook_71 (by decide) (fun c13 => ?_) (fun c13 => ?_)
              · skip
                refine g_iconst (v := 0) E dX8_readBook_93 (by decide) ?_
                refine g_callVIe (F := [(m 1, .inl (gy G 0, 120, .inl sg)), (m 2, .inl (gy G 0, 271, .inl f))]) (ws2 := [(m 0, .inr (8, [.int (q 0), .ref (m 1), .int (nI n), .int (nI u10.1), .int 1, .int (nI (lo + 1)), .ref (m 2), .ref (m 3), .ref (m 4), .ref (m 5), .int (q 5), .ref (m 6), .ref (m 7), .ref (m 8), .int (q 6), .int (q 7), .int (q 8)])), (m 1, .inl (gy G 0, 120, .inl sg)), (m 2, .inl (gy G 0, 271, .inl f))]) E (mX8_goesN G m (qU (qU (qU (qU q 1 (nI n)) 2 (nI u10.1)) 3 1) 4 (nI lo)) lo) gX8_readBook_X8_goes rfl hdX8_goes ⟨Nat.le_of_ble_eq_true rfl, Nat.le_of_ble_eq_true rfl⟩ 8 0 rfl rfl rfl (gPerm_ix [0, 1, 2] rfl rfl) rfl rfl (Nat.le_of_ble_eq_true rfl) dX8_readBook_94 ⟨Nat.le_of_ble_eq_true rfl, Nat.le_of_ble_eq_true rfl⟩ (gPerm_ix [0, 1, 2] rfl rfl) ?_
                refine g_if_eq (tgt := 113) E dX8_readBook_97 (by decide) (fun _ => ?_) (fun c => absurd c (by decide))
                exact RET _ _ (u10.1, true, lo + 1, f) (⟨(show u10.1 ≤ n by omega), _, (by obtain ⟨rr, hr1, hr2⟩ := gTB_no (p := j4) (v := j6) (d := j8) (h := j10) hP8 hT (by omega) (by omega) (by omega) (by omega) (fun q => by have q1 := q.1.1; have q2 := q.2.1; have q3 := q.2.2; first | omega | exact absurd q2 c13 | exact absurd q3 c13); exact gCmd_out (w := 2) (by decide) (fun nm => (upd (upd (upd (upd nm 0 r4) 1 r6) 2 r8) 3 r10)) (fun wd nm => by rw [gRC_w ((gRWd_b h0).trans (if_pos (gWdP_y hN1 c3).1)), gKz2]; rw [show a + 4 = u1.1 from ex1]; rw [gK_y hN4 c5]; rw [gK_y hN6 c7]; rw [gK_y hN8 c9]; rw [gK_y hN10 c11]; rfl) rr (fun _ c => absurd c (by decide)) (fun nm => by rw [gDoE_2]; show gTryBook S r4 r6 r8 r10 = _; rw [jr4, jr6, jr8, jr10]; exact hr1) hr2), fun _ => hRR⟩) dX8_readBook_113
              · skip
                refine g_aload_n E dX8_readBook_74 rfl 4 rfl ?_
                refine g_get E uX8_readBook_RX8 0 rfl rfl 6 (by decide) kX8_readBook_13 rfl rfl dX8_readBook_75 ?_
                refine g_iload_n E dX8_readBook_78 rfl 3 rfl ?_
                refine g_iload_n E dX8_readBook_79 rfl 2 rfl ?_
                refine g_iload_n E dX8_readBook_80 rfl 1 rfl ?_
                refine g_iload E dX8_readBook_81 0 rfl ?_
                refine g_callSIe (F := [(m 0, .inr (8, [.int (q 0), .ref (m 1), .int (nI n), .int (nI u10.1), .int 1, .int (nI lo), .ref (m 2), .ref (m 3), .ref (m 4), .ref (m 5), .int (q 5), .ref (m 6), .ref (m 7), .ref (m 8), .int (q 6), .int (q 7), .int (q 8)])), (m 1, .inl (gy G 0, 120, .inl sg))]) (ws2 := [(m 0, .inr (8, [.int (q 0), .ref (m 1), .int (nI n), .int (nI u10.1), .int 1, .int (nI lo), .ref (m 2), .ref (m 3), .ref (m 4), .ref (m 5), .int (q 5), .ref (m 6), .ref (m 7), .ref (m 8), .int (q 6), .int (q 7), .int (q 8)])), (m 1, .inl (gy G 0, 120, .inl sg)), (m 2, .inl (gy G 0, 271, .inl f))]) E (g_resI (congrArg nI (gWhyR_eq (d := j8) (h := j10) (gI1_r hI) hb2 (p := j4) (v := j6) (by first | omega | exact fun w hw => gI2_zp hJ _ (Nat.le_refl _) (by omega) w hw) (by first | omega | exact fun w hw => gI2_zp hJ _ (Nat.le_refl _) (by omega) w hw))) (mX8_why G (m 2) S f j4 j6 j8 j10 (gI1_r hI) hT hRR (by first | omega | exact fun w hw => gI2_zp hJ _ (Nat.le_refl _) (by omega) w hw) (by first | omega | exact fun w hw => gI2_zp hJ _ (Nat.le_refl _) (by omega) w hw) (by first | omega | exact fun w hw => gI2_zp hJ _ (Nat.le_refl _) (by omega) w hw) (by first | omega | exact fun w hw => gI2_zp hJ _ (Nat.le_refl _) (by omega) w hw))) gX8_readBook_X8_why rfl hnX8_why ⟨Nat.le_of_ble_eq_true rfl, Nat.le_of_ble_eq_true rfl⟩ (gPerm_ix [2, 0, 1] rfl rfl) rfl rfl (Nat.le_of_ble_eq_true rfl) dX8_readBook_83 ⟨Nat.le_of_ble_eq_true rfl, Nat.le_of_ble_eq_true rfl⟩ (gPerm_ix [1, 2, 0] rfl rfl) ?_
                have q4 := gRA_le S j4 j6 j8 j10
                refine g_if_neN (tgt := 93) (a := gRA S j4 j6 j8 j10) E dX8_readBook_86 (by decide) (by first | omega | exact fun w hw => gI2_zp hJ _ (Nat.le_refl _) (by omega) w hw) (fun c14 => ?_) (fun c14 => ?_)
                · skip
                  refine g_iconst (v := 0) E dX8_readBook_93 (by decide) ?_
                  refine g_callVIe (F := [(m 1, .inl (gy G 0, 120, .inl sg)), (m 2, .inl (gy G 0, 271, .inl f))]) (ws2 := [(m 0, .inr (8, [.int (q 0), .ref (m 1), .int (nI n), .int (nI u10.1), .int 1, .int (nI (lo + 1)), .ref (m 2), .ref (m 3), .ref (m 4), .ref (m 5), .int (q 5), .ref (m 6), .ref (m 7), .ref (m 8), .int (q 6), .int (q 7), .int (q 8)])), (m 1, .inl (gy G 0, 120, .inl sg)), (m 2, .inl (gy G 0, 271, .inl f))]) E (mX8_goesN G m (qU (qU (qU (qU q 1 (nI n)) 2 (nI u10.1)) 3 1) 4 (nI lo)) lo) gX8_readBook_X8_goes rfl hdX8_goes ⟨Nat.le_of_ble_eq_true rfl, Nat.le_of_ble_eq_true rfl⟩ 8 0 rfl rfl rfl (gPerm_ix [0, 1, 2] rfl rfl) rfl rfl (Nat.le_of_ble_eq_true rfl) dX8_readBook_94 ⟨Nat.le_of_ble_eq_true rfl, Nat.le_of_ble_eq_true rfl⟩ (gPerm_ix [0, 1, 2] rfl rfl) ?_
                  refine g_if_eq (tgt := 113) E dX8_readBook_97 (by decide) (fun _ => ?_) (fun c => absurd c (by decide))
                  exact RET _ _ (u10.1, true, lo + 1, f) (⟨(show u10.1 ≤ n by omega), _, (by obtain ⟨rr, hr1, hr2⟩ := gTB_no (p := j4) (v := j6) (d := j8) (h := j10) hP8 hT (by omega) (by omega) (by omega) (by omega) (fun q => by have q1 := q.1.1; have q2 := q.2.1; have q3 := q.2.2; first | omega | exact absurd q2 c14 | exact absurd q3 c14); exact gCmd_out (w := 2) (by decide) (fun nm => (upd (upd (upd (upd nm 0 r4) 1 r6) 2 r8) 3 r10)) (fun wd nm => by rw [gRC_w ((gRWd_b h0).trans (if_pos (gWdP_y hN1 c3).1)), gKz2]; rw [show a + 4 = u1.1 from ex1]; rw [gK_y hN4 c5]; rw [gK_y hN6 c7]; rw [gK_y hN8 c9]; rw [gK_y hN10 c11]; rfl) rr (fun _ c => absurd c (by decide)) (fun nm => by rw [gDoE_2]; show gTryBook S r4 r6 r8 r10 = _; rw [jr4, jr6, jr8, jr10]; exact hr1) hr2), fun _ => hRR⟩) dX8_readBook_113
                · skip
                  refine g_iconst (v := 1) E dX8_readBook_89 (by decide) ?_
                  refine g_goto (tgt := 94) E dX8_readBook_90 (by decide) ?_
                  refine g_callVIe (F := [(m 1, .inl (gy G 0, 120, .inl sg)), (m 2, .inl (gy G 0, 271, .inl f))]) (ws2 := [(m 0, .inr (8, [.int (q 0), .ref (m 1), .int (nI n), .int (nI u10.1), .int 1, .int (nI lo), .ref (m 2), .ref (m 3), .ref (m 4), .ref (m 5), .int (q 5), .ref (m 6), .ref (m 7), .ref (m 8), .int (q 6), .int (q 7), .int (q 8)])), (m 1, .inl (gy G 0, 120, .inl sg)), (m 2, .inl (gy G 0, 271, .inl f))]) E (mX8_goesY G m (qU (qU (qU (qU q 1 (nI n)) 2 (nI u10.1)) 3 1) 4 (nI lo))) gX8_readBook_X8_goes rfl hdX8_goes ⟨Nat.le_of_ble_eq_true rfl, Nat.le_of_ble_eq_true rfl⟩ 8 0 rfl rfl rfl (gPerm_ix [0, 1, 2] rfl rfl) rfl rfl (Nat.le_of_ble_eq_true rfl) dX8_readBook_94 ⟨Nat.le_of_ble_eq_true rfl, Nat.le_of_ble_eq_true rfl⟩ (gPerm_ix [0, 1, 2] rfl rfl) ?_
                  refine g_if_eq (tgt := 113) E dX8_readBook_97 (by decide) (fun c => absurd c (by decide)) (fun _ => ?_)
                  refine g_aload_n E dX8_readBook_100 rfl 4 rfl ?_
                  refine g_get E uX8_readBook_RX8 0 rfl rfl 6 (by decide) kX8_readBook_13 rfl rfl dX8_readBook_101 ?_
                  refine g_iload_n E dX8_readBook_104 rfl 3 rfl ?_
                  refine g_iload_n E dX8_readBook_105 rfl 2 rfl ?_
                  refine g_iload_n E dX8_readBook_106 rfl 1 rfl ?_
                  refine g_iload E dX8_readBook_107 0 rfl ?_
                  refine g_callSIu (F := [(m 0, .inr (8, [.int (q 0), .ref (m 1), .int (nI n), .int (nI u10.1), .int 1, .int (nI lo), .ref (m 2), .ref (m 3), .ref (m 4), .ref (m 5), .int (q 5), .ref (m 6), .ref (m 7), .ref (m 8), .int (q 6), .int (q 7), .int (q 8)])), (m 1, .inl (gy G 0, 120, .inl sg))]) E (mX8_bookIn G (m 2) S f j4 j6 j8 j10 (gFr (gVih (sB S) 2 j8 j10 (sB S).length)) (gI1_r hI) hT hRR (by omega) (by omega) (by omega) (by omega) (gBook_ok (gI1_r hI) hb2 c14).2.2.1 (gBook_ok (gI1_r hI) hb2 c14).1 (by have := (gBook_ok (gI1_r hI) hb2 c14).2.1; omega) (gI2_so hJ) (gBook_ok (gI1_r hI) hb2 c14).2.2.2) gX8_readBook_X8_bookIn rfl hnX8_bookIn ⟨Nat.le_of_ble_eq_true rfl, Nat.le_of_ble_eq_true rfl⟩ (gPerm_ix [2, 0, 1] rfl rfl) rfl rfl (Nat.le_of_ble_eq_true rfl) dX8_readBook_109 ⟨Nat.le_of_ble_eq_true rfl, Nat.le_of_ble_eq_true rfl⟩ (fun u15 hU15 => ?_)
                  have hU15 : RR (gBook S j4 j6 j8 j10) u15 := hU15
                  refine g_perm (ws1 := [(m 0, .inr (8, [.int (q 0), .ref (m 1), .int (nI n), .int (nI u10.1), .int 1, .int (nI lo), .ref (m 2), .ref (m 3), .ref (m 4), .ref (m 5), .int (q 5), .ref (m 6), .ref (m 7), .ref (m 8), .int (q 6), .int (q 7), .int (q 8)])), (m 1, .inl (gy G 0, 120, .inl sg)), (m 2, .inl (gy G 0, 271, .inl u15))]) (gPerm_ix [1, 2, 0] rfl rfl) ?_
                  refine g_pop E dX8_readBook_112 rfl ?_
                  exact RET _ _ (u10.1, true, lo, u15) (⟨(show u10.1 ≤ n by omega), _, gCmd_yes (w := 2) (by decide) (fun nm => (upd (upd (upd (upd nm 0 r4) 1 r6) 2 r8) 3 r10)) (fun wd nm => by rw [gRC_w ((gRWd_b h0).trans (if_pos (gWdP_y hN1 c3).1)), gKz2]; rw [show a + 4 = u1.1 from ex1]; rw [gK_y hN4 c5]; rw [gK_y hN6 c7]; rw [gK_y hN8 c9]; rw [gK_y hN10 c11]; rfl) _ (fun _ c => absurd c (by decide)) (fun nm => by rw [gDoE_2]; show gTryBook S r4 r6 r8 r10 = _; rw [jr4, jr6, jr8, jr10]; exact gTB_yes hP8 hT (by omega) (by omega) (by omega) (by omega) c13 c14) (nI_nneg (by have := gFr_le (gVih (sB S) 2 j8 j10 (sB S).length); omega)), fun _ => hU15⟩) dX8_readBook_113
          · skip
            refine g_ws (ws' := [(m 0, .inr (8, [.int (q 0), .ref (m 1), .int (nI n), .int (nI u10.1), .int 0, .int (nI lo), .ref (m 2), .ref (m 3), .ref (m 4), .ref (m 5), .int (q 5), .ref (m 6), .ref (m 7), .ref (m 8), .int (q 6), .int (q 7), .int (q 8)])), (m 1, .inl (gy G 0, 120, .inl sg)), (m 2, .inl (gy G 0, 271, .inl f))]) (by rw [if_neg c11]) ?_
            refine g_istore (lv' := [(4, .int r10), (3, .int (nI j8)), (2, .int (nI j6)), (1, .int (nI j4)), (0, .ref (m 0))]) E dX8_readBook_41 (by decide) rfl ?_
            refine g_aload_n E dX8_readBook_43 rfl 4 rfl ?_
            refine g_get E uX8_readBook_RX8 0 rfl rfl 4 (by decide) kX8_readBook_158 rfl rfl dX8_readBook_44 ?_
            refine g_if_eq (tgt := 113) E dX8_readBook_47 (by decide) (fun _ => ?_) (fun c => absurd c (by decide))
            exact RET _ _ (u10.1, false, lo, f) (⟨(show u10.1 ≤ n by omega), S, gCmd_bad (fun wd nm => by rw [gRC_w ((gRWd_b h0).trans (if_pos (gWdP_y hN1 c3).1)), gKz2]; rw [show a + 4 = u1.1 from ex1]; rw [gK_y hN4 c5]; rw [gK_y hN6 c7]; rw [gK_y hN8 c9]; exact gK_n hN10 c11 _), fun c => by cases c⟩) dX8_readBook_113
        · skip
          refine g_ws (ws' := [(m 0, .inr (8, [.int (q 0), .ref (m 1), .int (nI n), .int (nI u8.1), .int 0, .int (nI lo), .ref (m 2), .ref (m 3), .ref (m 4), .ref (m 5), .int (q 5), .ref (m 6), .ref (m 7), .ref (m 8), .int (q 6), .int (q 7), .int (q 8)])), (m 1, .inl (gy G 0, 120, .inl sg)), (m 2, .inl (gy G 0, 271, .inl f))]) (by rw [if_neg c9]) ?_
          refine g_istore_n (lv' := [(3, .int r8), (2, .int (nI j6)), (1, .int (nI j4)), (0, .ref (m 0))]) E dX8_readBook_33 rfl (by decide) rfl ?_
          refine g_aload_n E dX8_readBook_34 rfl 3 rfl ?_
          refine g_iconst (v := 0) E dX8_readBook_35 (by decide) ?_
          refine g_bipush (v := 7) E dX8_readBook_36 (by decide) ?_
          refine g_callVI (F := [(m 2, .inl (gy G 0, 271, .inl f))]) E (mX8_number0 G m (qU (qU (qU (qU q 1 (nI n)) 2 (nI u8.1)) 3 0) 4 (nI lo)) n u8.1 sg 0 7 (by omega) (by omega)) gX8_readBook_X8_number rfl hdX8_number ⟨Nat.le_of_ble_eq_true rfl, Nat.le_of_ble_eq_true rfl⟩ 8 0 rfl rfl rfl (gPerm_ix [0, 1, 2] rfl rfl) rfl rfl (Nat.le_of_ble_eq_true rfl) dX8_readBook_38 ⟨Nat.le_of_ble_eq_true rfl, Nat.le_of_ble_eq_true rfl⟩ (fun r17 u17 h17 => ?_)
          refine g_perm (ws1 := [(m 0, .inr (8, [.int (q 0), .ref (m 1), .int (nI n), .int (nI u8.1), .int 0, .int (nI lo), .ref (m 2), .ref (m 3), .ref (m 4), .ref (m 5), .int (q 5), .ref (m 6), .ref (m 7), .ref (m 8), .int (q 6), .int (q 7), .int (q 8)])), (m 1, .inl (gy G 0, 120, .inl sg)), (m 2, .inl (gy G 0, 271, .inl f))]) (gPerm_ix [0, 1, 2] rfl rfl) ?_
          refine g_istore (lv' := [(4, .int r17), (3, .int r8), (2, .int (nI j6)), (1, .int (nI j4)), (0, .ref (m 0))]) E dX8_readBook_41 (by decide) rfl ?_
          refine g_aload_n E dX8_readBook_43 rfl 4 rfl ?_
          refine g_get E uX8_readBook_RX8 0 rfl rfl 4 (by decide) kX8_readBook_158 rfl rfl dX8_readBook_44 ?_
          refine g_if_eq (tgt := 113) E dX8_readBook_47 (by decide) (fun _ => ?_) (fun c => absurd c (by decide))
          exact RET _ _ (u8.1, false, lo, f) (⟨(show u8.1 ≤ n by omega), S, gCmd_bad (fun wd nm => by rw [gRC_w ((gRWd_b h0).trans (if_pos (gWdP_y hN1 c3).1)), gKz2]; rw [show a + 4 = u1.1 from ex1]; rw [gK_y hN4 c5]; rw [gK_y hN6 c7]; exact gK_n hN8 c9 _), fun c => by cases c⟩) dX8_readBook_113
      · skip
        refine g_ws (ws' := [(m 0, .inr (8, [.int (q 0), .ref (m 1), .int (nI n), .int (nI u6.1), .int 0, .int (nI lo), .ref (m 2), .ref (m 3), .ref (m 4), .ref (m 5), .int (q 5), .ref (m 6), .ref (m 7), .ref (m 8), .int (q 6), .int (q 7), .int (q 8)])), (m 1, .inl (gy G 0, 120, .inl sg)), (m 2, .inl (gy G 0, 271, .inl f))]) (by rw [if_neg c7]) ?_
        refine g_istore_n (lv' := [(2, .int r6), (1, .int (nI j4)), (0, .ref (m 0))]) E dX8_readBook_25 rfl (by decide) rfl ?_
        refine g_aload_n E dX8_readBook_26 rfl 2 rfl ?_
        refine g_iconst (v := 0) E dX8_readBook_27 (by decide) ?_
        refine g_bipush (v := 99) E dX8_readBook_28 (by decide) ?_
        refine g_callVI (F := [(m 2, .inl (gy G 0, 271, .inl f))]) E (mX8_number0 G m (qU (qU (qU (qU q 1 (nI n)) 2 (nI u6.1)) 3 0) 4 (nI lo)) n u6.1 sg 0 99 (by omega) (by omega)) gX8_readBook_X8_number rfl hdX8_number ⟨Nat.le_of_ble_eq_true rfl, Nat.le_of_ble_eq_true rfl⟩ 8 0 rfl rfl rfl (gPerm_ix [0, 1, 2] rfl rfl) rfl rfl (Nat.le_of_ble_eq_true rfl) dX8_readBook_30 ⟨Nat.le_of_ble_eq_true rfl, Nat.le_of_ble_eq_true rfl⟩ (fun r18 u18 h18 => ?_)
        refine g_perm (ws1 := [(m 0, .inr (8, [.int (q 0), .ref (m 1), .int (nI n), .int (nI u6.1), .int 0, .int (nI lo), .ref (m 2), .ref (m 3), .ref (m 4), .ref (m 5), .int (q 5), .ref (m 6), .ref (m 7), .ref (m 8), .int (q 6), .int (q 7), .int (q 8)])), (m 1, .inl (gy G 0, 120, .inl sg)), (m 2, .inl (gy G 0, 271, .inl f))]) (gPerm_ix [0, 1, 2] rfl rfl) ?_
        refine g_istore_n (lv' := [(3, .int r18), (2, .int r6), (1, .int (nI j4)), (0, .ref (m 0))]) E dX8_readBook_33 rfl (by decide) rfl ?_
        refine g_aload_n E dX8_readBook_34 rfl 3 rfl ?_
        refine g_iconst (v := 0) E dX8_readBook_35 (by decide) ?_
        refine g_bipush (v := 7) E dX8_readBook_36 (by decide) ?_
        refine g_callVI (F := [(m 2, .inl (gy G 0, 271, .inl f))]) E (mX8_number0 G m (qU (qU (qU (qU q 1 (nI n)) 2 (nI u6.1)) 3 0) 4 (nI lo)) n u6.1 sg 0 7 (by omega) (by omega)) gX8_readBook_X8_number rfl hdX8_number ⟨Nat.le_of_ble_eq_true rfl, Nat.le_of_ble_eq_true rfl⟩ 8 0 rfl rfl rfl (gPerm_ix [0, 1, 2] rfl rfl) rfl rfl (Nat.le_of_ble_eq_true rfl) dX8_readBook_38 ⟨Nat.le_of_ble_eq_true rfl, Nat.le_of_ble_eq_true rfl⟩ (fun r19 u19 h19 => ?_)
        refine g_perm (ws1 := [(m 0, .inr (8, [.int (q 0), .ref (m 1), .int (nI n), .int (nI u6.1), .int 0, .int (nI lo), .ref (m 2), .ref (m 3), .ref (m 4), .ref (m 5), .int (q 5), .ref (m 6), .ref (m 7), .ref (m 8), .int (q 6), .int (q 7), .int (q 8)])), (m 1, .inl (gy G 0, 120, .inl sg)), (m 2, .inl (gy G 0, 271, .inl f))]) (gPerm_ix [0, 1, 2] rfl rfl) ?_
        refine g_istore (lv' := [(4, .int r19), (3, .int r18), (2, .int r6), (1, .int (nI j4)), (0, .ref (m 0))]) E dX8_readBook_41 (by decide) rfl ?_
        refine g_aload_n E dX8_readBook_43 rfl 4 rfl ?_
        refine g_get E uX8_readBook_RX8 0 rfl rfl 4 (by decide) kX8_readBook_158 rfl rfl dX8_readBook_44 ?_
        refine g_if_eq (tgt := 113) E dX8_readBook_47 (by decide) (fun _ => ?_) (fun c => absurd c (by decide))
        exact RET _ _ (u6.1, false, lo, f) (⟨(show u6.1 ≤ n by omega), S, gCmd_bad (fun wd nm => by rw [gRC_w ((gRWd_b h0).trans (if_pos (gWdP_y hN1 c3).1)), gKz2]; rw [show a + 4 = u1.1 from ex1]; rw [gK_y hN4 c5]; exact gK_n hN6 c7 _), fun c => by cases c⟩) dX8_readBook_113
    · skip
      refine g_ws (ws' := [(m 0, .inr (8, [.int (q 0), .ref (m 1), .int (nI n), .int (nI u4.1), .int 0, .int (nI lo), .ref (m 2), .ref (m 3), .ref (m 4), .ref (m 5), .int (q 5), .ref (m 6), .ref (m 7), .ref (m 8), .int (q 6), .int (q 7), .int (q 8)])), (m 1, .inl (gy G 0, 120, .inl sg)), (m 2, .inl (gy G 0, 271, .inl f))]) (by rw [if_neg c5]) ?_
      refine g_istore_n (lv' := [(1, .int r4), (0, .ref (m 0))]) E dX8_readBook_17 rfl (by decide) rfl ?_
      refine g_aload_n E dX8_readBook_18 rfl 1 rfl ?_
      refine g_iconst (v := 0) E dX8_readBook_19 (by decide) ?_
      refine g_bipush (v := 9) E dX8_readBook_20 (by decide) ?_
      refine g_callVI (F := [(m 2, .inl (gy G 0, 271, .inl f))]) E (mX8_number0 G m (qU (qU (qU (qU q 1 (nI n)) 2 (nI u4.1)) 3 0) 4 (nI lo)) n u4.1 sg 0 9 (by omega) (by omega)) gX8_readBook_X8_number rfl hdX8_number ⟨Nat.le_of_ble_eq_true rfl, Nat.le_of_ble_eq_true rfl⟩ 8 0 rfl rfl rfl (gPerm_ix [0, 1, 2] rfl rfl) rfl rfl (Nat.le_of_ble_eq_true rfl) dX8_readBook_22 ⟨Nat.le_of_ble_eq_true rfl, Nat.le_of_ble_eq_true rfl⟩ (fun r20 u20 h20 => ?_)
      refine g_perm (ws1 := [(m 0, .inr (8, [.int (q 0), .ref (m 1), .int (nI n), .int (nI u4.1), .int 0, .int (nI lo), .ref (m 2), .ref (m 3), .ref (m 4), .ref (m 5), .int (q 5), .ref (m 6), .ref (m 7), .ref (m 8), .int (q 6), .int (q 7), .int (q 8)])), (m 1, .inl (gy G 0, 120, .inl sg)), (m 2, .inl (gy G 0, 271, .inl f))]) (gPerm_ix [0, 1, 2] rfl rfl) ?_
      refine g_istore_n (lv' := [(2, .int r20), (1, .int r4), (0, .ref (m 0))]) E dX8_readBook_25 rfl (by decide) rfl ?_
      refine g_aload_n E dX8_readBook_26 rfl 2 rfl ?_
      refine g_iconst (v := 0) E dX8_readBook_27 (by decide) ?_
      refine g_bipush (v := 99) E dX8_readBook_28 (by decide) ?_
      refine g_callVI (F := [(m 2, .inl (gy G 0, 271, .inl f))]) E (mX8_number0 G m (qU (qU (qU (qU q 1 (nI n)) 2 (nI u4.1)) 3 0) 4 (nI lo)) n u4.1 sg 0 99 (by omega) (by omega)) gX8_readBook_X8_number rfl hdX8_number ⟨Nat.le_of_ble_eq_true rfl, Nat.le_of_ble_eq_true rfl⟩ 8 0 rfl rfl rfl (gPerm_ix [0, 1, 2] rfl rfl) rfl rfl (Nat.le_of_ble_eq_true rfl) dX8_readBook_30 ⟨Nat.le_of_ble_eq_true rfl, Nat.le_of_ble_eq_true rfl⟩ (fun r21 u21 h21 => ?_)
      refine g_perm (ws1 := [(m 0, .inr (8, [.int (q 0), .ref (m 1), .int (nI n), .int (nI u4.1), .int 0, .int (nI lo), .ref (m 2), .ref (m 3), .ref (m 4), .ref (m 5), .int (q 5), .ref (m 6), .ref (m 7), .ref (m 8), .int (q 6), .int (q 7), .int (q 8)])), (m 1, .inl (gy G 0, 120, .inl sg)), (m 2, .inl (gy G 0, 271, .inl f))]) (gPerm_ix [0, 1, 2] rfl rfl) ?_
      refine g_istore_n (lv' := [(3, .int r21), (2, .int r20), (1, .int r4), (0, .ref (m 0))]) E dX8_readBook_33 rfl (by decide) rfl ?_
      refine g_aload_n E dX8_readBook_34 rfl 3 rfl ?_
      refine g_iconst (v := 0) E dX8_readBook_35 (by decide) ?_
      refine g_bipush (v := 7) E dX8_readBook_36 (by decide) ?_
      refine g_callVI (F := [(m 2, .inl (gy G 0, 271, .inl f))]) E (mX8_number0 G m (qU (qU (qU (qU q 1 (nI n)) 2 (nI u4.1)) 3 0) 4 (nI lo)) n u4.1 sg 0 7 (by omega) (by omega)) gX8_readBook_X8_number rfl hdX8_number ⟨Nat.le_of_ble_eq_true rfl, Nat.le_of_ble_eq_true rfl⟩ 8 0 rfl rfl rfl (gPerm_ix [0, 1, 2] rfl rfl) rfl rfl (Nat.le_of_ble_eq_true rfl) dX8_readBook_38 ⟨Nat.le_of_ble_eq_true rfl, Nat.le_of_ble_eq_true rfl⟩ (fun r22 u22 h22 => ?_)
      refine g_perm (ws1 := [(m 0, .inr (8, [.int (q 0), .ref (m 1), .int (nI n), .int (nI u4.1), .int 0, .int (nI lo), .ref (m 2), .ref (m 3), .ref (m 4), .ref (m 5), .int (q 5), .ref (m 6), .ref (m 7), .ref (m 8), .int (q 6), .int (q 7), .int (q 8)])), (m 1, .inl (gy G 0, 120, .inl sg)), (m 2, .inl (gy G 0, 271, .inl f))]) (gPerm_ix [0, 1, 2] rfl rfl) ?_
      refine g_istore (lv' := [(4, .int r22), (3, .int r21), (2, .int r20), (1, .int r4), (0, .ref (m 0))]) E dX8_readBook_41 (by decide) rfl ?_
      refine g_aload_n E dX8_readBook_43 rfl 4 rfl ?_
      refine g_get E uX8_readBook_RX8 0 rfl rfl 4 (by decide) kX8_readBook_158 rfl rfl dX8_readBook_44 ?_
      refine g_if_eq (tgt := 113) E dX8_readBook_47 (by decide) (fun _ => ?_) (fun c => absurd c (by decide))
      exact RET _ _ (u4.1, false, lo, f) (⟨(show u4.1 ≤ n by omega), S, gCmd_bad (fun wd nm => by rw [gRC_w ((gRWd_b h0).trans (if_pos (gWdP_y hN1 c3).1)), gKz2]; rw [show a + 4 = u1.1 from ex1]; exact gK_n hN4 c5 _), fun c => by cases c⟩) dX8_readBook_113
  · skip
    refine g_ws (ws' := [(m 0, .inr (8, [.int (q 0), .ref (m 1), .int (nI n), .int (nI u1.1), .int 0, .int (nI lo), .ref (m 2), .ref (m 3), .ref (m 4), .ref (m 5), .int (q 5), .ref (m 6), .ref (m 7), .ref (m 8), .int (q 6), .int (q 7), .int (q 8)])), (m 1, .inl (gy G 0, 120, .inl sg)), (m 2, .inl (gy G 0, 271, .inl f))]) (by rw [if_neg c3]) ?_
    refine g_aload_n E dX8_readBook_10 rfl 0 rfl ?_
    refine g_iconst (v := 0) E dX8_readBook_11 (by decide) ?_
    refine g_bipush (v := 7) E dX8_readBook_12 (by decide) ?_
    refine g_callVI (F := [(m 2, .inl (gy G 0, 271, .inl f))]) E (mX8_number0 G m (qU (qU (qU (qU q 1 (nI n)) 2 (nI u1.1)) 3 0) 4 (nI lo)) n u1.1 sg 0 7 (by omega) (by omega)) gX8_readBook_X8_number rfl hdX8_number ⟨Nat.le_of_ble_eq_true rfl, Nat.le_of_ble_eq_true rfl⟩ 8 0 rfl rfl rfl (gPerm_ix [0, 1, 2] rfl rfl) rfl rfl (Nat.le_of_ble_eq_true rfl) dX8_readBook_14 ⟨Nat.le_of_ble_eq_true rfl, Nat.le_of_ble_eq_true rfl⟩ (fun r23 u23 h23 => ?_)
    refine g_perm (ws1 := [(m 0, .inr (8, [.int (q 0), .ref (m 1), .int (nI n), .int (nI u1.1), .int 0, .int (nI lo), .ref (m 2), .ref (m 3), .ref (m 4), .ref (m 5), .int (q 5), .ref (m 6), .ref (m 7), .ref (m 8), .int (q 6), .int (q 7), .int (q 8)])), (m 1, .inl (gy G 0, 120, .inl sg)), (m 2, .inl (gy G 0, 271, .inl f))]) (gPerm_ix [0, 1, 2] rfl rfl) ?_
    refine g_istore_n (lv' := [(1, .int r23), (0, .ref (m 0))]) E dX8_readBook_17 rfl (by decide) rfl ?_
    refine g_aload_n E dX8_readBook_18 rfl 1 rfl ?_
    refine g_iconst (v := 0) E dX8_readBook_19 (by decide) ?_
    refine g_bipush (v := 9) E dX8_readBook_20 (by decide) ?_
    refine g_callVI (F := [(m 2, .inl (gy G 0, 271, .inl f))]) E (mX8_number0 G m (qU (qU (qU (qU q 1 (nI n)) 2 (nI u1.1)) 3 0) 4 (nI lo)) n u1.1 sg 0 9 (by omega) (by omega)) gX8_readBook_X8_number rfl hdX8_number ⟨Nat.le_of_ble_eq_true rfl, Nat.le_of_ble_eq_true rfl⟩ 8 0 rfl rfl rfl (gPerm_ix [0, 1, 2] rfl rfl) rfl rfl (Nat.le_of_ble_eq_true rfl) dX8_readBook_22 ⟨Nat.le_of_ble_eq_true rfl, Nat.le_of_ble_eq_true rfl⟩ (fun r24 u24 h24 => ?_)
    refine g_perm (ws1 := [(m 0, .inr (8, [.int (q 0), .ref (m 1), .int (nI n), .int (nI u1.1), .int 0, .int (nI lo), .ref (m 2), .ref (m 3), .ref (m 4), .ref (m 5), .int (q 5), .ref (m 6), .ref (m 7), .ref (m 8), .int (q 6), .int (q 7), .int (q 8)])), (m 1, .inl (gy G 0, 120, .inl sg)), (m 2, .inl (gy G 0, 271, .inl f))]) (gPerm_ix [0, 1, 2] rfl rfl) ?_
    refine g_istore_n (lv' := [(2, .int r24), (1, .int r23), (0, .ref (m 0))]) E dX8_readBook_25 rfl (by decide) rfl ?_
    refine g_aload_n E dX8_readBook_26 rfl 2 rfl ?_
    refine g_iconst (v := 0) E dX8_readBook_27 (by decide) ?_
    refine g_bipush (v := 99) E dX8_readBook_28 (by decide) ?_
    refine g_callVI (F := [(m 2, .inl (gy G 0, 271, .inl f))]) E (mX8_number0 G m (qU (qU (qU (qU q 1 (nI n)) 2 (nI u1.1)) 3 0) 4 (nI lo)) n u1.1 sg 0 99 (by omega) (by omega)) gX8_readBook_X8_number rfl hdX8_number ⟨Nat.le_of_ble_eq_true rfl, Nat.le_of_ble_eq_true rfl⟩ 8 0 rfl rfl rfl (gPerm_ix [0, 1, 2] rfl rfl) rfl rfl (Nat.le_of_ble_eq_true rfl) dX8_readBook_30 ⟨Nat.le_of_ble_eq_true rfl, Nat.le_of_ble_eq_true rfl⟩ (fun r25 u25 h25 => ?_)
    refine g_perm (ws1 := [(m 0, .inr (8, [.int (q 0), .ref (m 1), .int (nI n), .int (nI u1.1), .int 0, .int (nI lo), .ref (m 2), .ref (m 3), .ref (m 4), .ref (m 5), .int (q 5), .ref (m 6), .ref (m 7), .ref (m 8), .int (q 6), .int (q 7), .int (q 8)])), (m 1, .inl (gy G 0, 120, .inl sg)), (m 2, .inl (gy G 0, 271, .inl f))]) (gPerm_ix [0, 1, 2] rfl rfl) ?_
    refine g_istore_n (lv' := [(3, .int r25), (2, .int r24), (1, .int r23), (0, .ref (m 0))]) E dX8_readBook_33 rfl (by decide) rfl ?_
    refine g_aload_n E dX8_readBook_34 rfl 3 rfl ?_
    refine g_iconst (v := 0) E dX8_readBook_35 (by decide) ?_
    refine g_bipush (v := 7) E dX8_readBook_36 (by decide) ?_
    refine g_callVI (F := [(m 2, .inl (gy G 0, 271, .inl f))]) E (mX8_number0 G m (qU (qU (qU (qU q 1 (nI n)) 2 (nI u1.1)) 3 0) 4 (nI lo)) n u1.1 sg 0 7 (by omega) (by omega)) gX8_readBook_X8_number rfl hdX8_number ⟨Nat.le_of_ble_eq_true rfl, Nat.le_of_ble_eq_true rfl⟩ 8 0 rfl rfl rfl (gPerm_ix [0, 1, 2] rfl rfl) rfl rfl (Nat.le_of_ble_eq_true rfl) dX8_readBook_38 ⟨Nat.le_of_ble_eq_true rfl, Nat.le_of_ble_eq_true rfl⟩ (fun r26 u26 h26 => ?_)
    refine g_perm (ws1 := [(m 0, .inr (8, [.int (q 0), .ref (m 1), .int (nI n), .int (nI u1.1), .int 0, .int (nI lo), .ref (m 2), .ref (m 3), .ref (m 4), .ref (m 5), .int (q 5), .ref (m 6), .ref (m 7), .ref (m 8), .int (q 6), .int (q 7), .int (q 8)])), (m 1, .inl (gy G 0, 120, .inl sg)), (m 2, .inl (gy G 0, 271, .inl f))]) (gPerm_ix [0, 1, 2] rfl rfl) ?_
    refine g_istore (lv' := [(4, .int r26), (3, .int r25), (2, .int r24), (1, .int r23), (0, .ref (m 0))]) E dX8_readBook_41 (by decide) rfl ?_
    refine g_aload_n E dX8_readBook_43 rfl 4 rfl ?_
    refine g_get E uX8_readBook_RX8 0 rfl rfl 4 (by decide) kX8_readBook_158 rfl rfl dX8_readBook_44 ?_
    refine g_if_eq (tgt := 113) E dX8_readBook_47 (by decide) (fun _ => ?_) (fun c => absurd c (by decide))
    exact RET _ _ (u1.1, false, lo, f) (⟨(show u1.1 ≤ n by omega), S, gCmd_bad (fun wd nm => by rw [(gWdP_n hN1 c3).2]; exact gRC_b ((gRWd_b h0).trans (if_neg (gWdP_n hN1 c3).1))), fun c => by cases c⟩) dX8_readBook_113

set_option maxHeartbeats 4000000 in
set_option maxRecDepth 100000 in
theorem mX8_readWish (G : gG) (m : Nat → Nat) (q : Nat → Int32) (n a : Nat) (sg : Nat → Int32) (S : gSt) (f : Nat → Int32) (lo : Nat)  (hn12 : n ≤ 120) (h0 : gSg n sg a = 119) (hK : gI3 S) (hT30 : sN S 0 + 30 < 200000000) (hRR : RR S f) : CV G yX8_readWish wsX8_readWish 3 69 [.ref (m 0)] [(m 0, .inr (8, [.int (q 0), .ref (m 1), .int (nI n), .int (nI (a + 1)), .int 1, .int (nI lo), .ref (m 2), .ref (m 3), .ref (m 4), .ref (m 5), .int (q 5), .ref (m 6), .ref (m 7), .ref (m 8), .int (q 6), .int (q 7), .int (q 8)])), (m 1, .inl (gy G 0, 120, .inl sg)), (m 2, .inl (gy G 0, 271, .inl f))] (fun u : Nat × Bool × Nat × (Nat → Int32) => u.1 ≤ n ∧ ∃ T, gCmdP n sg a S lo (u.1, u.2.1, u.2.2.1) T ∧ (u.2.1 = true → RR T u.2.2.2)) (fun (u : Nat × Bool × Nat × (Nat → Int32)) => [(m 0, .inr (8, [.int (q 0), .ref (m 1), .int (nI n), .int (nI u.1), .int (if u.2.1 = true then 1 else 0), .int (nI u.2.2.1), .ref (m 2), .ref (m 3), .ref (m 4), .ref (m 5), .int (q 5), .ref (m 6), .ref (m 7), .ref (m 8), .int (q 6), .int (q 7), .int (q 8)])), (m 1, .inl (gy G 0, 120, .inl sg)), (m 2, .inl (gy G 0, 271, .inl u.2.2.2))]) 0 0 := by
  refine g_enterV RX8 rfl (by decide) rfl (Nat.le_of_ble_eq_true rfl) ?_
  intro V E RET
  have hJ := hK.1
  have hI := hJ.1
  have hT2 : sN S 0 < 200000000 := by omega
  have hT : sN S 0 < 1000000000 := by omega
  have hb2 := gI2_b2 hJ
  have hX := hI
  obtain ⟨hP8, hn, hw, hW8, hs3, hs4, hs5, hs6, hs7, hs8, hb34⟩ := hX
  have ha1 : a < n := gSg_lt h0 (by first | decide | (rcases hx with q | q <;> (rw [q]; decide)))
  refine g_aload_n E dX8_readWish_0 rfl 0 rfl ?_
  refine g_bipush (v := 105) E dX8_readWish_1 (by decide) ?_
  refine g_bipush (v := 115) E dX8_readWish_3 (by decide) ?_
  refine g_bipush (v := 104) E dX8_readWish_5 (by decide) ?_
  refine g_callVV (F := [(m 2, .inl (gy G 0, 271, .inl f))]) E (mX8_word G m (qU (qU (qU (qU q 1 (nI n)) 2 (nI (a + 1))) 3 1) 4 (nI lo)) n (a + 1) sg 105 115 104 (by omega) (by omega) (by decide) (by decide) (by decide)) gX8_readWish_X8_word rfl hdX8_word ⟨Nat.le_of_ble_eq_true rfl, Nat.le_of_ble_eq_true rfl⟩ 8 0 rfl rfl rfl (gPerm_ix [0, 1, 2] rfl rfl) rfl rfl (Nat.le_of_ble_eq_true rfl) dX8_readWish_7 ⟨Nat.le_of_ble_eq_true rfl, Nat.le_of_ble_eq_true rfl⟩ (fun u1 h1 => ?_)
  obtain ⟨hl1, hN1⟩ := h1
  refine g_perm (ws1 := [(m 0, .inr (8, [.int (q 0), .ref (m 1), .int (nI n), .int (nI u1.1), .int (if u1.2 = true then 1 else 0), .int (nI lo), .ref (m 2), .ref (m 3), .ref (m 4), .ref (m 5), .int (q 5), .ref (m 6), .ref (m 7), .ref (m 8), .int (q 6), .int (q 7), .int (q 8)])), (m 1, .inl (gy G 0, 120, .inl sg)), (m 2, .inl (gy G 0, 271, .inl f))]) (gPerm_ix [0, 1, 2] rfl rfl) ?_
  by_cases c3 : u1.2 = true
  · skip
    refine g_ws (ws' := [(m 0, .inr (8, [.int (q 0), .ref (m 1), .int (nI n), .int (nI u1.1), .int 1, .int (nI lo), .ref (m 2), .ref (m 3), .ref (m 4), .ref (m 5), .int (q 5), .ref (m 6), .ref (m 7), .ref (m 8), .int (q 6), .int (q 7), .int (q 8)])), (m 1, .inl (gy G 0, 120, .inl sg)), (m 2, .inl (gy G 0, 271, .inl f))]) (by rw [if_pos c3]) ?_
    have ex1 : a + 1 + 3 = u1.1 := by rw [(gWdP_y hN1 c3).2]; rfl
    refine g_aload_n E dX8_readWish_10 rfl 0 rfl ?_
    refine g_iconst (v := 0) E dX8_readWish_11 (by decide) ?_
    refine g_bipush (v := 7) E dX8_readWish_12 (by decide) ?_
    refine g_callVI (F := [(m 2, .inl (gy G 0, 271, .inl f))]) E (mX8_number G m (qU (qU (qU (qU q 1 (nI n)) 2 (nI u1.1)) 3 1) 4 (nI lo)) n u1.1 sg 112 0 7 (by omega) (by omega) (by decide) (by decide)) gX8_readWish_X8_number rfl hdX8_number ⟨Nat.le_of_ble_eq_true rfl, Nat.le_of_ble_eq_true rfl⟩ 8 0 rfl rfl rfl (gPerm_ix [0, 1, 2] rfl rfl) rfl rfl (Nat.le_of_ble_eq_true rfl) dX8_readWish_14 ⟨Nat.le_of_ble_eq_true rfl, Nat.le_of_ble_eq_true rfl⟩ (fun r4 u4 h4 => ?_)
    obtain ⟨hl4, hN4⟩ := h4
    refine g_perm (ws1 := [(m 0, .inr (8, [.int (q 0), .ref (m 1), .int (nI n), .int (nI u4.1), .int (if u4.2 = true then 1 else 0), .int (nI lo), .ref (m 2), .ref (m 3), .ref (m 4), .ref (m 5), .int (q 5), .ref (m 6), .ref (m 7), .ref (m 8), .int (q 6), .int (q 7), .int (q 8)])), (m 1, .inl (gy G 0, 120, .inl sg)), (m 2, .inl (gy G 0, 271, .inl f))]) (gPerm_ix [0, 1, 2] rfl rfl) ?_
    by_cases c5 : u4.2 = true
    · skip
      refine g_ws (ws' := [(m 0, .inr (8, [.int (q 0), .ref (m 1), .int (nI n), .int (nI u4.1), .int 1, .int (nI lo), .ref (m 2), .ref (m 3), .ref (m 4), .ref (m 5), .int (q 5), .ref (m 6), .ref (m 7), .ref (m 8), .int (q 6), .int (q 7), .int (q 8)])), (m 1, .inl (gy G 0, 120, .inl sg)), (m 2, .inl (gy G 0, 271, .inl f))]) (by rw [if_pos c5]) ?_
      obtain ⟨j4, ja4, jb4, jr4⟩ := gK_r hN4 c5 (M := 7) (by decide) (by decide) 0 (by decide) (by decide)
      refine g_top (y := nI j4) jr4 ?_
      refine g_istore_n (lv' := [(1, .int (nI j4)), (0, .ref (m 0))]) E dX8_readWish_17 rfl (by decide) rfl ?_
      refine g_aload_n E dX8_readWish_18 rfl 1 rfl ?_
      refine g_iconst (v := 0) E dX8_readWish_19 (by decide) ?_
      refine g_bipush (v := 9) E dX8_readWish_20 (by decide) ?_
      refine g_callVI (F := [(m 2, .inl (gy G 0, 271, .inl f))]) E (mX8_number G m (qU (qU (qU (qU q 1 (nI n)) 2 (nI u4.1)) 3 1) 4 (nI lo)) n u4.1 sg 118 0 9 (by omega) (by omega) (by decide) (by decide)) gX8_readWish_X8_number rfl hdX8_number ⟨Nat.le_of_ble_eq_true rfl, Nat.le_of_ble_eq_true rfl⟩ 8 0 rfl rfl rfl (gPerm_ix [0, 1, 2] rfl rfl) rfl rfl (Nat.le_of_ble_eq_true rfl) dX8_readWish_22 ⟨Nat.le_of_ble_eq_true rfl, Nat.le_of_ble_eq_true rfl⟩ (fun r6 u6 h6 => ?_)
      obtain ⟨hl6, hN6⟩ := h6
      refine g_perm (ws1 := [(m 0, .inr (8, [.int (q 0), .ref (m 1), .int (nI n), .int (nI u6.1), .int (if u6.2 = true then 1 else 0), .int (nI lo), .ref (m 2), .ref (m 3), .ref (m 4), .ref (m 5), .int (q 5), .ref (m 6), .ref (m 7), .ref (m 8), .int (q 6), .int (q 7), .int (q 8)])), (m 1, .inl (gy G 0, 120, .inl sg)), (m 2, .inl (gy G 0, 271, .inl f))]) (gPerm_ix [0, 1, 2] rfl rfl) ?_
      by_cases c7 : u6.2 = true
      · skip
        refine g_ws (ws' := [(m 0, .inr (8, [.int (q 0), .ref (m 1), .int (nI n), .int (nI u6.1), .int 1, .int (nI lo), .ref (m 2), .ref (m 3), .ref (m 4), .ref (m 5), .int (q 5), .ref (m 6), .ref (m 7), .ref (m 8), .int (q 6), .int (q 7), .int (q 8)])), (m 1, .inl (gy G 0, 120, .inl sg)), (m 2, .inl (gy G 0, 271, .inl f))]) (by rw [if_pos c7]) ?_
        obtain ⟨j6, ja6, jb6, jr6⟩ := gK_r hN6 c7 (M := 9) (by decide) (by decide) 0 (by decide) (by decide)
        refine g_top (y := nI j6) jr6 ?_
        refine g_istore_n (lv' := [(2, .int (nI j6)), (1, .int (nI j4)), (0, .ref (m 0))]) E dX8_readWish_25 rfl (by decide) rfl ?_
        refine g_aload_n E dX8_readWish_26 rfl 2 rfl ?_
        refine g_get E uX8_readWish_RX8 0 rfl rfl 4 (by decide) kX8_readWish_158 rfl rfl dX8_readWish_27 ?_
        refine g_if_eq (tgt := 77) E dX8_readWish_30 (by decide) (fun c => absurd c (by decide)) (fun _ => ?_)
        refine g_aload_n E dX8_readWish_33 rfl 2 rfl ?_
        refine g_iload_n E dX8_readWish_34 rfl 1 rfl ?_
        refine g_aload_n E dX8_readWish_35 rfl 2 rfl ?_
        refine g_get E uX8_readWish_RX8 0 rfl rfl 6 (by decide) kX8_readWish_13 rfl rfl dX8_readWish_36 ?_
        refine g_iconst (v := 1) E dX8_readWish_39 (by decide) ?_
        refine g_ialdN (e := 1) E 2 rfl (by first | omega | exact fun w hw => gI2_zp hJ _ (Nat.le_refl _) (by omega) w hw) rfl (v := nI (sN S 1)) (RR_1 hRR) dX8_readWish_40 ?_
        refine g_icmp_geN (tgt := 60) (a := j4) (b := sN S 1) E dX8_readWish_41 (by decide) (by first | omega | exact fun w hw => gI2_zp hJ _ (Nat.le_refl _) (by omega) w hw) (by first | omega | exact fun w hw => gI2_zp hJ _ (Nat.le_refl _) (by omega) w hw) (fun c8 => ?_) (fun c8 => ?_)
        · skip
          refine g_iconst (v := 0) E dX8_readWish_60 (by decide) ?_
          refine g_callVIe (F := [(m 1, .inl (gy G 0, 120, .inl sg)), (m 2, .inl (gy G 0, 271, .inl f))]) (ws2 := [(m 0, .inr (8, [.int (q 0), .ref (m 1), .int (nI n), .int (nI u6.1), .int 1, .int (nI (lo + 1)), .ref (m 2), .ref (m 3), .ref (m 4), .ref (m 5), .int (q 5), .ref (m 6), .ref (m 7), .ref (m 8), .int (q 6), .int (q 7), .int (q 8)])), (m 1, .inl (gy G 0, 120, .inl sg)), (m 2, .inl (gy G 0, 271, .inl f))]) E (mX8_goesN G m (qU (qU (qU (qU q 1 (nI n)) 2 (nI u6.1)) 3 1) 4 (nI lo)) lo) gX8_readWish_X8_goes rfl hdX8_goes ⟨Nat.le_of_ble_eq_true rfl, Nat.le_of_ble_eq_true rfl⟩ 8 0 rfl rfl rfl (gPerm_ix [0, 1, 2] rfl rfl) rfl rfl (Nat.le_of_ble_eq_true rfl) dX8_readWish_61 ⟨Nat.le_of_ble_eq_true rfl, Nat.le_of_ble_eq_true rfl⟩ (gPerm_ix [0, 1, 2] rfl rfl) ?_
          refine g_if_eq (tgt := 77) E dX8_readWish_64 (by decide) (fun _ => ?_) (fun c => absurd c (by decide))
          exact RET _ _ (u6.1, true, lo + 1, f) (⟨(show u6.1 ≤ n by omega), _, (by obtain ⟨rr, hr1, hr2⟩ := gTW_no (p := j4) (v := j6) hP8 (by omega) (by omega) (fun q => by have q1 := q.1.1; have q2 := q.2; first | omega | exact absurd q2 c8); exact gCmd_out (w := 3) (by decide) (fun nm => (upd (upd nm 0 r4) 1 r6)) (fun wd nm => by rw [gRC_w ((gRWd_w h0).trans (if_pos (gWdP_y hN1 c3).1)), gKz3]; rw [show a + 4 = u1.1 from ex1]; rw [gK_y hN4 c5]; rw [gK_y hN6 c7]; rfl) rr (fun _ c => absurd c (by decide)) (fun nm => by rw [gDoE_3]; show gTryWish S r4 r6 = _; rw [jr4, jr6]; exact hr1) hr2), fun _ => hRR⟩) dX8_readWish_77
        · skip
          refine g_aload_n E dX8_readWish_44 rfl 2 rfl ?_
          refine g_get E uX8_readWish_RX8 0 rfl rfl 6 (by decide) kX8_readWish_13 rfl rfl dX8_readWish_45 ?_
          refine g_iload_n E dX8_readWish_48 rfl 1 rfl ?_
          refine g_iload_n E dX8_readWish_49 rfl 0 rfl ?_
          refine g_callSIe (F := [(m 0, .inr (8, [.int (q 0), .ref (m 1), .int (nI n), .int (nI u6.1), .int 1, .int (nI lo), .ref (m 2), .ref (m 3), .ref (m 4), .ref (m 5), .int (q 5), .ref (m 6), .ref (m 7), .ref (m 8), .int (q 6), .int (q 7), .int (q 8)])), (m 1, .inl (gy G 0, 120, .inl sg))]) (ws2 := [(m 0, .inr (8, [.int (q 0), .ref (m 1), .int (nI n), .int (nI u6.1), .int 1, .int (nI lo), .ref (m 2), .ref (m 3), .ref (m 4), .ref (m 5), .int (q 5), .ref (m 6), .ref (m 7), .ref (m 8), .int (q 6), .int (q 7), .int (q 8)])), (m 1, .inl (gy G 0, 120, .inl sg)), (m 2, .inl (gy G 0, 271, .inl f))]) E (mX8_canWish G (m 2) S f j4 j6 hI hT hRR (by first | omega | exact fun w hw => gI2_zp hJ _ (Nat.le_refl _) (by omega) w hw) (by first | omega | exact fun w hw => gI2_zp hJ _ (Nat.le_refl _) (by omega) w hw)) gX8_readWish_X8_canWish rfl hnX8_canWish ⟨Nat.le_of_ble_eq_true rfl, Nat.le_of_ble_eq_true rfl⟩ (gPerm_ix [2, 0, 1] rfl rfl) rfl rfl (Nat.le_of_ble_eq_true rfl) dX8_readWish_50 ⟨Nat.le_of_ble_eq_true rfl, Nat.le_of_ble_eq_true rfl⟩ (gPerm_ix [1, 2, 0] rfl rfl) ?_
          refine g_if_eqB (tgt := 60) (P := (gHb (sI S 1 j4) (nI j6) = true ∧ (sW S).length < 10)) E dX8_readWish_53 (by decide) (fun c9 => ?_) (fun c9 => ?_)
          · skip
            refine g_iconst (v := 0) E dX8_readWish_60 (by decide) ?_
            refine g_callVIe (F := [(m 1, .inl (gy G 0, 120, .inl sg)), (m 2, .inl (gy G 0, 271, .inl f))]) (ws2 := [(m 0, .inr (8, [.int (q 0), .ref (m 1), .int (nI n), .int (nI u6.1), .int 1, .int (nI (lo + 1)), .ref (m 2), .ref (m 3), .ref (m 4), .ref (m 5), .int (q 5), .ref (m 6), .ref (m 7), .ref (m 8), .int (q 6), .int (q 7), .int (q 8)])), (m 1, .inl (gy G 0, 120, .inl sg)), (m 2, .inl (gy G 0, 271, .inl f))]) E (mX8_goesN G m (qU (qU (qU (qU q 1 (nI n)) 2 (nI u6.1)) 3 1) 4 (nI lo)) lo) gX8_readWish_X8_goes rfl hdX8_goes ⟨Nat.le_of_ble_eq_true rfl, Nat.le_of_ble_eq_true rfl⟩ 8 0 rfl rfl rfl (gPerm_ix [0, 1, 2] rfl rfl) rfl rfl (Nat.le_of_ble_eq_true rfl) dX8_readWish_61 ⟨Nat.le_of_ble_eq_true rfl, Nat.le_of_ble_eq_true rfl⟩ (gPerm_ix [0, 1, 2] rfl rfl) ?_
            refine g_if_eq (tgt := 77) E dX8_readWish_64 (by decide) (fun _ => ?_) (fun c => absurd c (by decide))
            exact RET _ _ (u6.1, true, lo + 1, f) (⟨(show u6.1 ≤ n by omega), _, (by obtain ⟨rr, hr1, hr2⟩ := gTW_no (p := j4) (v := j6) hP8 (by omega) (by omega) (fun q => by have q1 := q.1.1; have q2 := q.2; first | omega | exact absurd q2 c9); exact gCmd_out (w := 3) (by decide) (fun nm => (upd (upd nm 0 r4) 1 r6)) (fun wd nm => by rw [gRC_w ((gRWd_w h0).trans (if_pos (gWdP_y hN1 c3).1)), gKz3]; rw [show a + 4 = u1.1 from ex1]; rw [gK_y hN4 c5]; rw [gK_y hN6 c7]; rfl) rr (fun _ c => absurd c (by decide)) (fun nm => by rw [gDoE_3]; show gTryWish S r4 r6 = _; rw [jr4, jr6]; exact hr1) hr2), fun _ => hRR⟩) dX8_readWish_77
          · skip
            have hcw2 := c9.2
            refine g_iconst (v := 1) E dX8_readWish_56 (by decide) ?_
            refine g_goto (tgt := 61) E dX8_readWish_57 (by decide) ?_
            refine g_callVIe (F := [(m 1, .inl (gy G 0, 120, .inl sg)), (m 2, .inl (gy G 0, 271, .inl f))]) (ws2 := [(m 0, .inr (8, [.int (q 0), .ref (m 1), .int (nI n), .int (nI u6.1), .int 1, .int (nI lo), .ref (m 2), .ref (m 3), .ref (m 4), .ref (m 5), .int (q 5), .ref (m 6), .ref (m 7), .ref (m 8), .int (q 6), .int (q 7), .int (q 8)])), (m 1, .inl (gy G 0, 120, .inl sg)), (m 2, .inl (gy G 0, 271, .inl f))]) E (mX8_goesY G m (qU (qU (qU (qU q 1 (nI n)) 2 (nI u6.1)) 3 1) 4 (nI lo))) gX8_readWish_X8_goes rfl hdX8_goes ⟨Nat.le_of_ble_eq_true rfl, Nat.le_of_ble_eq_true rfl⟩ 8 0 rfl rfl rfl (gPerm_ix [0, 1, 2] rfl rfl) rfl rfl (Nat.le_of_ble_eq_true rfl) dX8_readWish_61 ⟨Nat.le_of_ble_eq_true rfl, Nat.le_of_ble_eq_true rfl⟩ (gPerm_ix [0, 1, 2] rfl rfl) ?_
            refine g_if_eq (tgt := 77) E dX8_readWish_64 (by decide) (fun c => absurd c (by decide)) (fun _ => ?_)
            refine g_aload_n E dX8_readWish_67 rfl 2 rfl ?_
            refine g_get E uX8_readWish_RX8 0 rfl rfl 6 (by decide) kX8_readWish_13 rfl rfl dX8_readWish_68 ?_
            refine g_iload_n E dX8_readWish_71 rfl 1 rfl ?_
            refine g_iload_n E dX8_readWish_72 rfl 0 rfl ?_
            refine g_callSIu (F := [(m 0, .inr (8, [.int (q 0), .ref (m 1), .int (nI n), .int (nI u6.1), .int 1, .int (nI lo), .ref (m 2), .ref (m 3), .ref (m 4), .ref (m 5), .int (q 5), .ref (m 6), .ref (m 7), .ref (m 8), .int (q 6), .int (q 7), .int (q 8)])), (m 1, .inl (gy G 0, 120, .inl sg))]) E (mX8_wishIn G (m 2) S f j4 j6 hI hT hRR (by first | omega | exact fun w hw => gI2_zp hJ _ (Nat.le_refl _) (by omega) w hw) (by first | omega | exact fun w hw => gI2_zp hJ _ (Nat.le_refl _) (by omega) w hw) (by first | omega | exact fun w hw => gI2_zp hJ _ (Nat.le_refl _) (by omega) w hw)) gX8_readWish_X8_wishIn rfl hnX8_wishIn ⟨Nat.le_of_ble_eq_true rfl, Nat.le_of_ble_eq_true rfl⟩ (gPerm_ix [2, 0, 1] rfl rfl) rfl rfl (Nat.le_of_ble_eq_true rfl) dX8_readWish_73 ⟨Nat.le_of_ble_eq_true rfl, Nat.le_of_ble_eq_true rfl⟩ (fun u10 hU10 => ?_)
            obtain ⟨S10, xE10⟩ : ∃ x, x = uW S (sW S ++ [10 * j4 + j6]) := ⟨_, rfl⟩
            have hRR10 : RR S10 u10 := by rw [xE10]; exact hU10
            have hI10 : gI1 S10 := by rw [xE10]; exact gI1_wish hI (by omega) (by omega) (by omega)
            have hT10 : sN S10 0 < 1000000000 := by rw [xE10]; exact hT
            refine g_perm (ws1 := [(m 0, .inr (8, [.int (q 0), .ref (m 1), .int (nI n), .int (nI u6.1), .int 1, .int (nI lo), .ref (m 2), .ref (m 3), .ref (m 4), .ref (m 5), .int (q 5), .ref (m 6), .ref (m 7), .ref (m 8), .int (q 6), .int (q 7), .int (q 8)])), (m 1, .inl (gy G 0, 120, .inl sg)), (m 2, .inl (gy G 0, 271, .inl u10))]) (gPerm_ix [1, 2, 0] rfl rfl) ?_
            refine g_pop E dX8_readWish_76 rfl ?_
            exact RET _ _ (u6.1, true, lo, u10) (⟨(show u6.1 ≤ n by omega), _, gCmd_yes (w := 3) (by decide) (fun nm => (upd (upd nm 0 r4) 1 r6)) (fun wd nm => by rw [gRC_w ((gRWd_w h0).trans (if_pos (gWdP_y hN1 c3).1)), gKz3]; rw [show a + 4 = u1.1 from ex1]; rw [gK_y hN4 c5]; rw [gK_y hN6 c7]; rfl) _ (fun _ c => absurd c (by decide)) (fun nm => by rw [gDoE_3]; show gTryWish S r4 r6 = _; rw [jr4, jr6]; exact gTW_yes hP8 (by omega) (by omega) c9) (nI_nneg (by omega)), fun _ => xE10 ▸ hRR10⟩) dX8_readWish_77
      · skip
        refine g_ws (ws' := [(m 0, .inr (8, [.int (q 0), .ref (m 1), .int (nI n), .int (nI u6.1), .int 0, .int (nI lo), .ref (m 2), .ref (m 3), .ref (m 4), .ref (m 5), .int (q 5), .ref (m 6), .ref (m 7), .ref (m 8), .int (q 6), .int (q 7), .int (q 8)])), (m 1, .inl (gy G 0, 120, .inl sg)), (m 2, .inl (gy G 0, 271, .inl f))]) (by rw [if_neg c7]) ?_
        refine g_istore_n (lv' := [(2, .int r6), (1, .int (nI j4)), (0, .ref (m 0))]) E dX8_readWish_25 rfl (by decide) rfl ?_
        refine g_aload_n E dX8_readWish_26 rfl 2 rfl ?_
        refine g_get E uX8_readWish_RX8 0 rfl rfl 4 (by decide) kX8_readWish_158 rfl rfl dX8_readWish_27 ?_
        refine g_if_eq (tgt := 77) E dX8_readWish_30 (by decide) (fun _ => ?_) (fun c => absurd c (by decide))
        exact RET _ _ (u6.1, false, lo, f) (⟨(show u6.1 ≤ n by omega), S, gCmd_bad (fun wd nm => by rw [gRC_w ((gRWd_w h0).trans (if_pos (gWdP_y hN1 c3).1)), gKz3]; rw [show a + 4 = u1.1 from ex1]; rw [gK_y hN4 c5]; exact gK_n hN6 c7 _), fun c => by cases c⟩) dX8_readWish_77
    · skip
      refine g_ws (ws' := [(m 0, .inr (8, [.int (q 0), .ref (m 1), .int (nI n), .int (nI u4.1), .int 0, .int (nI lo), .ref (m 2), .ref (m 3), .ref (m 4), .ref (m 5), .int (q 5), .ref (m 6), .ref (m 7), .ref (m 8), .int (q 6), .int (q 7), .int (q 8)])), (m 1, .inl (gy G 0, 120, .inl sg)), (m 2, .inl (gy G 0, 271, .inl f))]) (by rw [if_neg c5]) ?_
      refine g_istore_n (lv' := [(1, .int r4), (0, .ref (m 0))]) E dX8_readWish_17 rfl (by decide) rfl ?_
      refine g_aload_n E dX8_readWish_18 rfl 1 rfl ?_
      refine g_iconst (v := 0) E dX8_readWish_19 (by decide) ?_
      refine g_bipush (v := 9) E dX8_readWish_20 (by decide) ?_
      refine g_callVI (F := [(m 2, .inl (gy G 0, 271, .inl f))]) E (mX8_number0 G m (qU (qU (qU (qU q 1 (nI n)) 2 (nI u4.1)) 3 0) 4 (nI lo)) n u4.1 sg 0 9 (by omega) (by omega)) gX8_readWish_X8_number rfl hdX8_number ⟨Nat.le_of_ble_eq_true rfl, Nat.le_of_ble_eq_true rfl⟩ 8 0 rfl rfl rfl (gPerm_ix [0, 1, 2] rfl rfl) rfl rfl (Nat.le_of_ble_eq_true rfl) dX8_readWish_22 ⟨Nat.le_of_ble_eq_true rfl, Nat.le_of_ble_eq_true rfl⟩ (fun r12 u12 h12 => ?_)
      refine g_perm (ws1 := [(m 0, .inr (8, [.int (q 0), .ref (m 1), .int (nI n), .int (nI u4.1), .int 0, .int (nI lo), .ref (m 2), .ref (m 3), .ref (m 4), .ref (m 5), .int (q 5), .ref (m 6), .ref (m 7), .ref (m 8), .int (q 6), .int (q 7), .int (q 8)])), (m 1, .inl (gy G 0, 120, .inl sg)), (m 2, .inl (gy G 0, 271, .inl f))]) (gPerm_ix [0, 1, 2] rfl rfl) ?_
      refine g_istore_n (lv' := [(2, .int r12), (1, .int r4), (0, .ref (m 0))]) E dX8_readWish_25 rfl (by decide) rfl ?_
      refine g_aload_n E dX8_readWish_26 rfl 2 rfl ?_
      refine g_get E uX8_readWish_RX8 0 rfl rfl 4 (by decide) kX8_readWish_158 rfl rfl dX8_readWish_27 ?_
      refine g_if_eq (tgt := 77) E dX8_readWish_30 (by decide) (fun _ => ?_) (fun c => absurd c (by decide))
      exact RET _ _ (u4.1, false, lo, f) (⟨(show u4.1 ≤ n by omega), S, gCmd_bad (fun wd nm => by rw [gRC_w ((gRWd_w h0).trans (if_pos (gWdP_y hN1 c3).1)), gKz3]; rw [show a + 4 = u1.1 from ex1]; exact gK_n hN4 c5 _), fun c => by cases c⟩) dX8_readWish_77
  · skip
    refine g_ws (ws' := [(m 0, .inr (8, [.int (q 0), .ref (m 1), .int (nI n), .int (nI u1.1), .int 0, .int (nI lo), .ref (m 2), .ref (m 3), .ref (m 4), .ref (m 5), .int (q 5), .ref (m 6), .ref (m 7), .ref (m 8), .int (q 6), .int (q 7), .int (q 8)])), (m 1, .inl (gy G 0, 120, .inl sg)), (m 2, .inl (gy G 0, 271, .inl f))]) (by rw [if_neg c3]) ?_
    refine g_aload_n E dX8_readWish_10 rfl 0 rfl ?_
    refine g_iconst (v := 0) E dX8_readWish_11 (by decide) ?_
    refine g_bipush (v := 7) E dX8_readWish_12 (by decide) ?_
    refine g_callVI (F := [(m 2, .inl (gy G 0, 271, .inl f))]) E (mX8_number0 G m (qU (qU (qU (qU q 1 (nI n)) 2 (nI u1.1)) 3 0) 4 (nI lo)) n u1.1 sg 0 7 (by omega) (by omega)) gX8_readWish_X8_number rfl hdX8_number ⟨Nat.le_of_ble_eq_true rfl, Nat.le_of_ble_eq_true rfl⟩ 8 0 rfl rfl rfl (gPerm_ix [0, 1, 2] rfl rfl) rfl rfl (Nat.le_of_ble_eq_true rfl) dX8_readWish_14 ⟨Nat.le_of_ble_eq_true rfl, Nat.le_of_ble_eq_true rfl⟩ (fun r13 u13 h13 => ?_)
    refine g_perm (ws1 := [(m 0, .inr (8, [.int (q 0), .ref (m 1), .int (nI n), .int (nI u1.1), .int 0, .int (nI lo), .ref (m 2), .ref (m 3), .ref (m 4), .ref (m 5), .int (q 5), .ref (m 6), .ref (m 7), .ref (m 8), .int (q 6), .int (q 7), .int (q 8)])), (m 1, .inl (gy G 0, 120, .inl sg)), (m 2, .inl (gy G 0, 271, .inl f))]) (gPerm_ix [0, 1, 2] rfl rfl) ?_
    refine g_istore_n (lv' := [(1, .int r13), (0, .ref (m 0))]) E dX8_readWish_17 rfl (by decide) rfl ?_
    refine g_aload_n E dX8_readWish_18 rfl 1 rfl ?_
    refine g_iconst (v := 0) E dX8_readWish_19 (by decide) ?_
    refine g_bipush (v := 9) E dX8_readWish_20 (by decide) ?_
    refine g_callVI (F := [(m 2, .inl (gy G 0, 271, .inl f))]) E (mX8_number0 G m (qU (qU (qU (qU q 1 (nI n)) 2 (nI u1.1)) 3 0) 4 (nI lo)) n u1.1 sg 0 9 (by omega) (by omega)) gX8_readWish_X8_number rfl hdX8_number ⟨Nat.le_of_ble_eq_true rfl, Nat.le_of_ble_eq_true rfl⟩ 8 0 rfl rfl rfl (gPerm_ix [0, 1, 2] rfl rfl) rfl rfl (Nat.le_of_ble_eq_true rfl) dX8_readWish_22 ⟨Nat.le_of_ble_eq_true rfl, Nat.le_of_ble_eq_true rfl⟩ (fun r14 u14 h14 => ?_)
    refine g_perm (ws1 := [(m 0, .inr (8, [.int (q 0), .ref (m 1), .int (nI n), .int (nI u1.1), .int 0, .int (nI lo), .ref (m 2), .ref (m 3), .ref (m 4), .ref (m 5), .int (q 5), .ref (m 6), .ref (m 7), .ref (m 8), .int (q 6), .int (q 7), .int (q 8)])), (m 1, .inl (gy G 0, 120, .inl sg)), (m 2, .inl (gy G 0, 271, .inl f))]) (gPerm_ix [0, 1, 2] rfl rfl) ?_
    refine g_istore_n (lv' := [(2, .int r14), (1, .int r13), (0, .ref (m 0))]) E dX8_readWish_25 rfl (by decide) rfl ?_
    refine g_aload_n E dX8_readWish_26 rfl 2 rfl ?_
    refine g_get E uX8_readWish_RX8 0 rfl rfl 4 (by decide) kX8_readWish_158 rfl rfl dX8_readWish_27 ?_
    refine g_if_eq (tgt := 77) E dX8_readWish_30 (by decide) (fun _ => ?_) (fun c => absurd c (by decide))
    exact RET _ _ (u1.1, false, lo, f) (⟨(show u1.1 ≤ n by omega), S, gCmd_bad (fun wd nm => by rw [(gWdP_n hN1 c3).2]; exact gRC_b ((gRWd_w h0).trans (if_neg (gWdP_n hN1 c3).1))), fun c => by cases c⟩) dX8_readWish_77

set_option maxHeartbeats 4000000 in
set_option maxRecDepth 100000 in
theorem mX8_readRest (G : gG) (m : Nat → Nat) (q : Nat → Int32) (n a : Nat) (sg : Nat → Int32) (S : gSt) (f : Nat → Int32) (lo : Nat) (x : Int32) (tn : Nat → Int32) (hn12 : n ≤ 120) (h0 : gSg n sg a = x) (hx : x = 104 ∨ x = 114) (hK : gI3 S) (hT30 : sN S 0 + 30 < 200000000) (hRR : RR S f) : CV G yX8_readRest wsX8_readRest 8 190 [.ref (m 0), .int x] [(m 0, .inr (8, [.int (q 0), .ref (m 1), .int (nI n), .int (nI (a + 1)), .int 1, .int (nI lo), .ref (m 2), .ref (m 3), .ref (m 4), .ref (m 5), .int (q 5), .ref (m 6), .ref (m 7), .ref (m 8), .int (q 6), .int (q 7), .int (q 8)])), (m 1, .inl (gy G 0, 120, .inl sg)), (m 2, .inl (gy G 0, 271, .inl f)), (m 8, .inl (gy G 0, 10, .inl tn))] (fun u : Nat × Bool × Nat × (Nat → Int32) × Int32 × (Nat → Int32) => u.1 ≤ n ∧ ∃ T, gCmdP n sg a S lo (u.1, u.2.1, u.2.2.1) T ∧ (u.2.1 = true → RR T u.2.2.2.1)) (fun (u : Nat × Bool × Nat × (Nat → Int32) × Int32 × (Nat → Int32)) => [(m 0, .inr (8, [.int (q 0), .ref (m 1), .int (nI n), .int (nI u.1), .int (if u.2.1 = true then 1 else 0), .int (nI u.2.2.1), .ref (m 2), .ref (m 3), .ref (m 4), .ref (m 5), .int (q 5), .ref (m 6), .ref (m 7), .ref (m 8), .int u.2.2.2.2.1, .int (q 7), .int (q 8)])), (m 1, .inl (gy G 0, 120, .inl sg)), (m 2, .inl (gy G 0, 271, .inl u.2.2.2.1)), (m 8, .inl (gy G 0, 10, .inl u.2.2.2.2.2))]) 0 0 := by
  refine g_enterV RX8 rfl (by decide) rfl (Nat.le_of_ble_eq_true rfl) ?_
  intro V E RET
  have hJ := hK.1
  have hI := hJ.1
  have hT2 : sN S 0 < 200000000 := by omega
  have hT : sN S 0 < 1000000000 := by omega
  have hb2 := gI2_b2 hJ
  have hX := hI
  obtain ⟨hP8, hn, hw, hW8, hs3, hs4, hs5, hs6, hs7, hs8, hb34⟩ := hX
  have ha1 : a < n := gSg_lt h0 (by first | decide | (rcases hx with q | q <;> (rw [q]; decide)))
  refine g_iload_n E dX8_readRest_0 rfl 1 rfl ?_
  refine g_bipush (v := 104) E dX8_readRest_1 (by decide) ?_
  refine g_icmp_ne (tgt := 44) E dX8_readRest_3 (by decide) (fun c1 => ?_) (fun c1 => ?_)
  · skip
    have h1 : gSg n sg a = 114 := h0.trans (hx.resolve_left c1)
    refine g_aload_n E dX8_readRest_44 rfl 0 rfl ?_
    refine g_bipush (v := 117) E dX8_readRest_45 (by decide) ?_
    refine g_bipush (v := 110) E dX8_readRest_47 (by decide) ?_
    refine g_iconst (v := (-1)) E dX8_readRest_49 (by decide) ?_
    refine g_callVV (F := [(m 2, .inl (gy G 0, 271, .inl f)), (m 8, .inl (gy G 0, 10, .inl tn))]) E (mX8_word2 G m (qU (qU (qU (qU q 1 (nI n)) 2 (nI (a + 1))) 3 1) 4 (nI lo)) n (a + 1) sg 117 110 (by omega) (by omega) (by decide) (by decide)) gX8_readRest_X8_word rfl hdX8_word ⟨Nat.le_of_ble_eq_true rfl, Nat.le_of_ble_eq_true rfl⟩ 8 0 rfl rfl rfl (gPerm_ix [0, 1, 2, 3] rfl rfl) rfl rfl (Nat.le_of_ble_eq_true rfl) dX8_readRest_50 ⟨Nat.le_of_ble_eq_true rfl, Nat.le_of_ble_eq_true rfl⟩ (fun u2 h2 => ?_)
    obtain ⟨hl2, hN2⟩ := h2
    refine g_perm (ws1 := [(m 0, .inr (8, [.int (q 0), .ref (m 1), .int (nI n), .int (nI u2.1), .int (if u2.2 = true then 1 else 0), .int (nI lo), .ref (m 2), .ref (m 3), .ref (m 4), .ref (m 5), .int (q 5), .ref (m 6), .ref (m 7), .ref (m 8), .int (q 6), .int (q 7), .int (q 8)])), (m 1, .inl (gy G 0, 120, .inl sg)), (m 2, .inl (gy G 0, 271, .inl f)), (m 8, .inl (gy G 0, 10, .inl tn))]) (gPerm_ix [0, 1, 2, 3] rfl rfl) ?_
    by_cases c4 : u2.2 = true
    · skip
      refine g_ws (ws' := [(m 0, .inr (8, [.int (q 0), .ref (m 1), .int (nI n), .int (nI u2.1), .int 1, .int (nI lo), .ref (m 2), .ref (m 3), .ref (m 4), .ref (m 5), .int (q 5), .ref (m 6), .ref (m 7), .ref (m 8), .int (q 6), .int (q 7), .int (q 8)])), (m 1, .inl (gy G 0, 120, .inl sg)), (m 2, .inl (gy G 0, 271, .inl f)), (m 8, .inl (gy G 0, 10, .inl tn))]) (by rw [if_pos c4]) ?_
      have ex2 : a + 1 + 2 = u2.1 := by rw [(gWdP_y hN2 c4).2]; rfl
      refine g_aload_n E dX8_readRest_53 rfl 0 rfl ?_
      refine g_iconst (v := 1) E dX8_readRest_54 (by decide) ?_
      refine g_bipush (v := 30) E dX8_readRest_55 (by decide) ?_
      refine g_callVI (F := [(m 2, .inl (gy G 0, 271, .inl f)), (m 8, .inl (gy G 0, 10, .inl tn))]) E (mX8_number G m (qU (qU (qU (qU q 1 (nI n)) 2 (nI u2.1)) 3 1) 4 (nI lo)) n u2.1 sg 110 1 30 (by omega) (by omega) (by decide) (by decide)) gX8_readRest_X8_number rfl hdX8_number ⟨Nat.le_of_ble_eq_true rfl, Nat.le_of_ble_eq_true rfl⟩ 8 0 rfl rfl rfl (gPerm_ix [0, 1, 2, 3] rfl rfl) rfl rfl (Nat.le_of_ble_eq_true rfl) dX8_readRest_57 ⟨Nat.le_of_ble_eq_true rfl, Nat.le_of_ble_eq_true rfl⟩ (fun r5 u5 h5 => ?_)
      obtain ⟨hl5, hN5⟩ := h5
      refine g_perm (ws1 := [(m 0, .inr (8, [.int (q 0), .ref (m 1), .int (nI n), .int (nI u5.1), .int (if u5.2 = true then 1 else 0), .int (nI lo), .ref (m 2), .ref (m 3), .ref (m 4), .ref (m 5), .int (q 5), .ref (m 6), .ref (m 7), .ref (m 8), .int (q 6), .int (q 7), .int (q 8)])), (m 1, .inl (gy G 0, 120, .inl sg)), (m 2, .inl (gy G 0, 271, .inl f)), (m 8, .inl (gy G 0, 10, .inl tn))]) (gPerm_ix [0, 1, 2, 3] rfl rfl) ?_
      by_cases c6 : u5.2 = true
      · skip
        refine g_ws (ws' := [(m 0, .inr (8, [.int (q 0), .ref (m 1), .int (nI n), .int (nI u5.1), .int 1, .int (nI lo), .ref (m 2), .ref (m 3), .ref (m 4), .ref (m 5), .int (q 5), .ref (m 6), .ref (m 7), .ref (m 8), .int (q 6), .int (q 7), .int (q 8)])), (m 1, .inl (gy G 0, 120, .inl sg)), (m 2, .inl (gy G 0, 271, .inl f)), (m 8, .inl (gy G 0, 10, .inl tn))]) (by rw [if_pos c6]) ?_
        obtain ⟨j5, ja5, jb5, jr5⟩ := gK_r hN5 c6 (M := 30) (by decide) (by decide) 1 (by decide) (by decide)
        refine g_top (y := nI j5) jr5 ?_
        refine g_istore_n (lv' := [(2, .int (nI j5)), (0, .ref (m 0)), (1, .int x)]) E dX8_readRest_60 rfl (by decide) rfl ?_
        refine g_aload_n E dX8_readRest_61 rfl 1 rfl ?_
        refine g_get E uX8_readRest_RX8 0 rfl rfl 4 (by decide) kX8_readRest_158 rfl rfl dX8_readRest_62 ?_
        refine g_if_eq (tgt := 78) E dX8_readRest_65 (by decide) (fun c => absurd c (by decide)) (fun _ => ?_)
        refine g_aload_n E dX8_readRest_68 rfl 1 rfl ?_
        refine g_aload_n E dX8_readRest_69 rfl 1 rfl ?_
        refine g_get E uX8_readRest_RX8 0 rfl rfl 6 (by decide) kX8_readRest_13 rfl rfl dX8_readRest_70 ?_
        refine g_iload_n E dX8_readRest_73 rfl 0 rfl ?_
        refine g_callVIu (F := [(m 1, .inl (gy G 0, 120, .inl sg))]) E (mX8_runIn G m (qU (qU (qU (qU q 1 (nI n)) 2 (nI u5.1)) 3 1) 4 (nI lo)) (m 2) S f tn j5 hJ (by omega) hRR) gX8_readRest_X8_runIn rfl hdX8_runIn ⟨Nat.le_of_ble_eq_true rfl, Nat.le_of_ble_eq_true rfl⟩ 8 0 rfl rfl rfl (gPerm_ix [0, 3, 2, 1] rfl rfl) rfl rfl (Nat.le_of_ble_eq_true rfl) dX8_readRest_74 ⟨Nat.le_of_ble_eq_true rfl, Nat.le_of_ble_eq_true rfl⟩ (fun u7 hU7 => ?_)
        obtain ⟨S7, xE7⟩ : ∃ x, x = gDays j5 S := ⟨_, rfl⟩
        have hRR7 : RR S7 u7.2.2 := by rw [xE7]; exact hU7
        refine g_perm (ws1 := [(m 0, .inr (8, [.int (q 0), .ref (m 1), .int (nI n), .int (nI u5.1), .int 1, .int (nI lo), .ref (m 2), .ref (m 3), .ref (m 4), .ref (m 5), .int (q 5), .ref (m 6), .ref (m 7), .ref (m 8), .int u7.1, .int (q 7), .int (q 8)])), (m 1, .inl (gy G 0, 120, .inl sg)), (m 2, .inl (gy G 0, 271, .inl u7.2.2)), (m 8, .inl (gy G 0, 10, .inl u7.2.1))]) (gPerm_ix [0, 3, 2, 1] rfl rfl) ?_
        refine g_pop E dX8_readRest_77 rfl ?_
        exact RET _ _ (u5.1, true, lo, u7.2.2, u7.1, u7.2.1) (⟨(show u5.1 ≤ n by omega), _, (by obtain ⟨xa, xb, xc⟩ := gDays_ans (n := j5) hK (by omega); exact gCmd_yes (w := 5) (by decide) (fun nm => upd nm 0 r5) (fun wd nm => by rw [gRC_w ((gRWd_r h1).trans (if_pos (gWdP_y hN2 c4).1)), gKz5]; rw [show a + 3 = u2.1 from ex2]; rw [gK_y hN5 c6]; rfl) _ (fun nm _ => by rw [upd_eq rfl, jr5, nI_clamp (by omega)]; exact ⟨rfl, by omega⟩) (fun nm => gDoE_5 (j := j5) (by rw [upd_eq rfl, jr5]) (by omega)) (by rw [xc]; exact nI_nneg (by omega))), fun _ => xE7 ▸ hRR7⟩) dX8_readRest_78
      · skip
        refine g_ws (ws' := [(m 0, .inr (8, [.int (q 0), .ref (m 1), .int (nI n), .int (nI u5.1), .int 0, .int (nI lo), .ref (m 2), .ref (m 3), .ref (m 4), .ref (m 5), .int (q 5), .ref (m 6), .ref (m 7), .ref (m 8), .int (q 6), .int (q 7), .int (q 8)])), (m 1, .inl (gy G 0, 120, .inl sg)), (m 2, .inl (gy G 0, 271, .inl f)), (m 8, .inl (gy G 0, 10, .inl tn))]) (by rw [if_neg c6]) ?_
        refine g_istore_n (lv' := [(2, .int r5), (0, .ref (m 0)), (1, .int x)]) E dX8_readRest_60 rfl (by decide) rfl ?_
        refine g_aload_n E dX8_readRest_61 rfl 1 rfl ?_
        refine g_get E uX8_readRest_RX8 0 rfl rfl 4 (by decide) kX8_readRest_158 rfl rfl dX8_readRest_62 ?_
        refine g_if_eq (tgt := 78) E dX8_readRest_65 (by decide) (fun _ => ?_) (fun c => absurd c (by decide))
        exact RET _ _ (u5.1, false, lo, f, q 6, tn) (⟨(show u5.1 ≤ n by omega), S, gCmd_bad (fun wd nm => by rw [gRC_w ((gRWd_r h1).trans (if_pos (gWdP_y hN2 c4).1)), gKz5]; rw [show a + 3 = u2.1 from ex2]; exact gK_n hN5 c6 _), fun c => by cases c⟩) dX8_readRest_78
    · skip
      refine g_ws (ws' := [(m 0, .inr (8, [.int (q 0), .ref (m 1), .int (nI n), .int (nI u2.1), .int 0, .int (nI lo), .ref (m 2), .ref (m 3), .ref (m 4), .ref (m 5), .int (q 5), .ref (m 6), .ref (m 7), .ref (m 8), .int (q 6), .int (q 7), .int (q 8)])), (m 1, .inl (gy G 0, 120, .inl sg)), (m 2, .inl (gy G 0, 271, .inl f)), (m 8, .inl (gy G 0, 10, .inl tn))]) (by rw [if_neg c4]) ?_
      refine g_aload_n E dX8_readRest_53 rfl 0 rfl ?_
      refine g_iconst (v := 1) E dX8_readRest_54 (by decide) ?_
      refine g_bipush (v := 30) E dX8_readRest_55 (by decide) ?_
      refine g_callVI (F := [(m 2, .inl (gy G 0, 271, .inl f)), (m 8, .inl (gy G 0, 10, .inl tn))]) E (mX8_number0 G m (qU (qU (qU (qU q 1 (nI n)) 2 (nI u2.1)) 3 0) 4 (nI lo)) n u2.1 sg 1 30 (by omega) (by omega)) gX8_readRest_X8_number rfl hdX8_number ⟨Nat.le_of_ble_eq_true rfl, Nat.le_of_ble_eq_true rfl⟩ 8 0 rfl rfl rfl (gPerm_ix [0, 1, 2, 3] rfl rfl) rfl rfl (Nat.le_of_ble_eq_true rfl) dX8_readRest_57 ⟨Nat.le_of_ble_eq_true rfl, Nat.le_of_ble_eq_true rfl⟩ (fun r9 u9 h9 => ?_)
      refine g_perm (ws1 := [(m 0, .inr (8, [.int (q 0), .ref (m 1), .int (nI n), .int (nI u2.1), .int 0, .int (nI lo), .ref (m 2), .ref (m 3), .ref (m 4), .ref (m 5), .int (q 5), .ref (m 6), .ref (m 7), .ref (m 8), .int (q 6), .int (q 7), .int (q 8)])), (m 1, .inl (gy G 0, 120, .inl sg)), (m 2, .inl (gy G 0, 271, .inl f)), (m 8, .inl (gy G 0, 10, .inl tn))]) (gPerm_ix [0, 1, 2, 3] rfl rfl) ?_
      refine g_istore_n (lv' := [(2, .int r9), (0, .ref (m 0)), (1, .int x)]) E dX8_readRest_60 rfl (by decide) rfl ?_
      refine g_aload_n E dX8_readRest_61 rfl 1 rfl ?_
      refine g_get E uX8_readRest_RX8 0 rfl rfl 4 (by decide) kX8_readRest_158 rfl rfl dX8_readRest_62 ?_
      refine g_if_eq (tgt := 78) E dX8_readRest_65 (by decide) (fun _ => ?_) (fun c => absurd c (by decide))
      exact RET _ _ (u2.1, false, lo, f, q 6, tn) (⟨(show u2.1 ≤ n by omega), S, gCmd_bad (fun wd nm => by rw [(gWdP_n hN2 c4).2]; exact gRC_b ((gRWd_r h1).trans (if_neg (gWdP_n hN2 c4).1))), fun c => by cases c⟩) dX8_readRest_78
  · skip
    have h1 : gSg n sg a = 104 := h0.trans c1
    refine g_aload_n E dX8_readRest_6 rfl 0 rfl ?_
    refine g_bipush (v := 97) E dX8_readRest_7 (by decide) ?_
    refine g_bipush (v := 115) E dX8_readRest_9 (by decide) ?_
    refine g_iconst (v := (-1)) E dX8_readRest_11 (by decide) ?_
    refine g_callVV (F := [(m 2, .inl (gy G 0, 271, .inl f)), (m 8, .inl (gy G 0, 10, .inl tn))]) E (mX8_word2 G m (qU (qU (qU (qU q 1 (nI n)) 2 (nI (a + 1))) 3 1) 4 (nI lo)) n (a + 1) sg 97 115 (by omega) (by omega) (by decide) (by decide)) gX8_readRest_X8_word rfl hdX8_word ⟨Nat.le_of_ble_eq_true rfl, Nat.le_of_ble_eq_true rfl⟩ 8 0 rfl rfl rfl (gPerm_ix [0, 1, 2, 3] rfl rfl) rfl rfl (Nat.le_of_ble_eq_true rfl) dX8_readRest_12 ⟨Nat.le_of_ble_eq_true rfl, Nat.le_of_ble_eq_true rfl⟩ (fun u10 h10 => ?_)
    obtain ⟨hl10, hN10⟩ := h10
    refine g_perm (ws1 := [(m 0, .inr (8, [.int (q 0), .ref (m 1), .int (nI n), .int (nI u10.1), .int (if u10.2 = true then 1 else 0), .int (nI lo), .ref (m 2), .ref (m 3), .ref (m 4), .ref (m 5), .int (q 5), .ref (m 6), .ref (m 7), .ref (m 8), .int (q 6), .int (q 7), .int (q 8)])), (m 1, .inl (gy G 0, 120, .inl sg)), (m 2, .inl (gy G 0, 271, .inl f)), (m 8, .inl (gy G 0, 10, .inl tn))]) (gPerm_ix [0, 1, 2, 3] rfl rfl) ?_
    by_cases c12 : u10.2 = true
    · skip
      refine g_ws (ws' := [(m 0, .inr (8, [.int (q 0), .ref (m 1), .int (nI n), .int (nI u10.1), .int 1, .int (nI lo), .ref (m 2), .ref (m 3), .ref (m 4), .ref (m 5), .int (q 5), .ref (m 6), .ref (m 7), .ref (m 8), .int (q 6), .int (q 7), .int (q 8)])), (m 1, .inl (gy G 0, 120, .inl sg)), (m 2, .inl (gy G 0, 271, .inl f)), (m 8, .inl (gy G 0, 10, .inl tn))]) (by rw [if_pos c12]) ?_
      have ex10 : a + 1 + 2 = u10.1 := by rw [(gWdP_y hN10 c12).2]; rfl
      refine g_aload_n E dX8_readRest_15 rfl 0 rfl ?_
      refine g_iconst (v := 0) E dX8_readRest_16 (by decide) ?_
      refine g_bipush (v := 9) E dX8_readRest_17 (by decide) ?_
      refine g_callVI (F := [(m 2, .inl (gy G 0, 271, .inl f)), (m 8, .inl (gy G 0, 10, .inl tn))]) E (mX8_number G m (qU (qU (qU (qU q 1 (nI n)) 2 (nI u10.1)) 3 1) 4 (nI lo)) n u10.1 sg 118 0 9 (by omega) (by omega) (by decide) (by decide)) gX8_readRest_X8_number rfl hdX8_number ⟨Nat.le_of_ble_eq_true rfl, Nat.le_of_ble_eq_true rfl⟩ 8 0 rfl rfl rfl (gPerm_ix [0, 1, 2, 3] rfl rfl) rfl rfl (Nat.le_of_ble_eq_true rfl) dX8_readRest_19 ⟨Nat.le_of_ble_eq_true rfl, Nat.le_of_ble_eq_true rfl⟩ (fun r13 u13 h13 => ?_)
      obtain ⟨hl13, hN13⟩ := h13
      refine g_perm (ws1 := [(m 0, .inr (8, [.int (q 0), .ref (m 1), .int (nI n), .int (nI u13.1), .int (if u13.2 = true then 1 else 0), .int (nI lo), .ref (m 2), .ref (m 3), .ref (m 4), .ref (m 5), .int (q 5), .ref (m 6), .ref (m 7), .ref (m 8), .int (q 6), .int (q 7), .int (q 8)])), (m 1, .inl (gy G 0, 120, .inl sg)), (m 2, .inl (gy G 0, 271, .inl f)), (m 8, .inl (gy G 0, 10, .inl tn))]) (gPerm_ix [0, 1, 2, 3] rfl rfl) ?_
      by_cases c14 : u13.2 = true
      · skip
        refine g_ws (ws' := [(m 0, .inr (8, [.int (q 0), .ref (m 1), .int (nI n), .int (nI u13.1), .int 1, .int (nI lo), .ref (m 2), .ref (m 3), .ref (m 4), .ref (m 5), .int (q 5), .ref (m 6), .ref (m 7), .ref (m 8), .int (q 6), .int (q 7), .int (q 8)])), (m 1, .inl (gy G 0, 120, .inl sg)), (m 2, .inl (gy G 0, 271, .inl f)), (m 8, .inl (gy G 0, 10, .inl tn))]) (by rw [if_pos c14]) ?_
        obtain ⟨j13, ja13, jb13, jr13⟩ := gK_r hN13 c14 (M := 9) (by decide) (by decide) 0 (by decide) (by decide)
        refine g_top (y := nI j13) jr13 ?_
        refine g_istore_n (lv' := [(2, .int (nI j13)), (0, .ref (m 0)), (1, .int x)]) E dX8_readRest_22 rfl (by decide) rfl ?_
        refine g_aload_n E dX8_readRest_23 rfl 1 rfl ?_
        refine g_get E uX8_readRest_RX8 0 rfl rfl 4 (by decide) kX8_readRest_158 rfl rfl dX8_readRest_24 ?_
        refine g_if_eq (tgt := 41) E dX8_readRest_27 (by decide) (fun c => absurd c (by decide)) (fun _ => ?_)
        refine g_aload_n E dX8_readRest_30 rfl 1 rfl ?_
        refine g_get E uX8_readRest_RX8 0 rfl rfl 6 (by decide) kX8_readRest_13 rfl rfl dX8_readRest_31 ?_
        refine g_iload_n E dX8_readRest_34 rfl 0 rfl ?_
        refine g_iconst (v := 2) E dX8_readRest_35 (by decide) ?_
        refine g_callSIe (F := [(m 0, .inr (8, [.int (q 0), .ref (m 1), .int (nI n), .int (nI u13.1), .int 1, .int (nI lo), .ref (m 2), .ref (m 3), .ref (m 4), .ref (m 5), .int (q 5), .ref (m 6), .ref (m 7), .ref (m 8), .int (q 6), .int (q 7), .int (q 8)])), (m 1, .inl (gy G 0, 120, .inl sg)), (m 2, .inl (gy G 0, 271, .inl f)), (m 8, .inl (gy G 0, 10, .inl tn))]) (ws2 := [(m 0, .inr (8, [.int (q 0), .ref (m 1), .int (nI n), .int (nI u13.1), .int 1, .int (nI lo), .ref (m 2), .ref (m 3), .ref (m 4), .ref (m 5), .int (q 5), .ref (m 6), .ref (m 7), .ref (m 8), .int (q 6), .int (q 7), .int (q 8)])), (m 1, .inl (gy G 0, 120, .inl sg)), (m 2, .inl (gy G 0, 271, .inl f)), (m 8, .inl (gy G 0, 10, .inl tn))]) E (mX8_visitorAt G j13 2 (by first | omega | exact fun w hw => gI2_zp hJ _ (Nat.le_refl _) (by omega) w hw) (by first | omega | exact fun w hw => gI2_zp hJ _ (Nat.le_refl _) (by omega) w hw)) gX8_readRest_X8_visitorAt rfl hnX8_visitorAt ⟨Nat.le_of_ble_eq_true rfl, Nat.le_of_ble_eq_true rfl⟩ (gPerm_ix [0, 1, 2, 3] rfl rfl) rfl rfl (Nat.le_of_ble_eq_true rfl) dX8_readRest_36 ⟨Nat.le_of_ble_eq_true rfl, Nat.le_of_ble_eq_true rfl⟩ (gPerm_ix [0, 1, 2, 3] rfl rfl) ?_
        refine g_iconst (v := 1) E dX8_readRest_39 (by decide) ?_
        refine g_iast (ws' := [(m 0, .inr (8, [.int (q 0), .ref (m 1), .int (nI n), .int (nI u13.1), .int 1, .int (nI lo), .ref (m 2), .ref (m 3), .ref (m 4), .ref (m 5), .int (q 5), .ref (m 6), .ref (m 7), .ref (m 8), .int (q 6), .int (q 7), .int (q 8)])), (m 1, .inl (gy G 0, 120, .inl sg)), (m 2, .inl (gy G 0, 271, .inl (upd f (63 + 3 * j13 + 2) 1))), (m 8, .inl (gy G 0, 10, .inl tn))]) (j := 63 + 3 * j13 + 2) (y := 1) E 2 rfl (g_in (e := 63 + 3 * j13 + 2) (by first | omega | exact fun w hw => gI2_zp hJ _ (Nat.le_refl _) (by omega) w hw) rfl) (nI_clamp (n := 63 + 3 * j13 + 2) (by first | omega | exact fun w hw => gI2_zp hJ _ (Nat.le_refl _) (by omega) w hw)) rfl rfl dX8_readRest_40 ?_
        have hRR15 : RR (uI S 9 (fun _ => gWb (sI S 9 0) (nI j13) 1)) (upd f (63 + 3 * j13 + 2) 1) := (by have q := RR_uV2 (v := j13) (b := 1) hRR (by omega); rw [if_neg (by decide)] at q; exact q)
        refine g_goto (tgt := 78) E dX8_readRest_41 (by decide) ?_
        exact RET _ _ (u13.1, true, lo, upd f (63 + 3 * j13 + 2) 1, q 6, tn) (⟨(show u13.1 ≤ n by omega), _, gCmd_yes (w := 4) (by decide) (fun nm => (upd nm 0 r13)) (fun wd nm => by rw [gRC_w ((gRWd_h h1).trans (if_pos (gWdP_y hN10 c12).1)), gKz4]; rw [show a + 3 = u10.1 from ex10]; rw [gK_y hN13 c14]; rfl) _ (fun _ c => absurd c (by decide)) (fun nm => by rw [gDoE_4]; show gTryCarry S r13 1 = _; rw [jr13]; exact gTC_yes (by omega)) (gTC_nn hK (by omega)), fun _ => hRR15⟩) dX8_readRest_78
      · skip
        refine g_ws (ws' := [(m 0, .inr (8, [.int (q 0), .ref (m 1), .int (nI n), .int (nI u13.1), .int 0, .int (nI lo), .ref (m 2), .ref (m 3), .ref (m 4), .ref (m 5), .int (q 5), .ref (m 6), .ref (m 7), .ref (m 8), .int (q 6), .int (q 7), .int (q 8)])), (m 1, .inl (gy G 0, 120, .inl sg)), (m 2, .inl (gy G 0, 271, .inl f)), (m 8, .inl (gy G 0, 10, .inl tn))]) (by rw [if_neg c14]) ?_
        refine g_istore_n (lv' := [(2, .int r13), (0, .ref (m 0)), (1, .int x)]) E dX8_readRest_22 rfl (by decide) rfl ?_
        refine g_aload_n E dX8_readRest_23 rfl 1 rfl ?_
        refine g_get E uX8_readRest_RX8 0 rfl rfl 4 (by decide) kX8_readRest_158 rfl rfl dX8_readRest_24 ?_
        refine g_if_eq (tgt := 41) E dX8_readRest_27 (by decide) (fun _ => ?_) (fun c => absurd c (by decide))
        refine g_goto (tgt := 78) E dX8_readRest_41 (by decide) ?_
        exact RET _ _ (u13.1, false, lo, f, q 6, tn) (⟨(show u13.1 ≤ n by omega), S, gCmd_bad (fun wd nm => by rw [gRC_w ((gRWd_h h1).trans (if_pos (gWdP_y hN10 c12).1)), gKz4]; rw [show a + 3 = u10.1 from ex10]; exact gK_n hN13 c14 _), fun c => by cases c⟩) dX8_readRest_78
    · skip
      refine g_ws (ws' := [(m 0, .inr (8, [.int (q 0), .ref (m 1), .int (nI n), .int (nI u10.1), .int 0, .int (nI lo), .ref (m 2), .ref (m 3), .ref (m 4), .ref (m 5), .int (q 5), .ref (m 6), .ref (m 7), .ref (m 8), .int (q 6), .int (q 7), .int (q 8)])), (m 1, .inl (gy G 0, 120, .inl sg)), (m 2, .inl (gy G 0, 271, .inl f)), (m 8, .inl (gy G 0, 10, .inl tn))]) (by rw [if_neg c12]) ?_
      refine g_aload_n E dX8_readRest_15 rfl 0 rfl ?_
      refine g_iconst (v := 0) E dX8_readRest_16 (by decide) ?_
      refine g_bipush (v := 9) E dX8_readRest_17 (by decide) ?_
      refine g_callVI (F := [(m 2, .inl (gy G 0, 271, .inl f)), (m 8, .inl (gy G 0, 10, .inl tn))]) E (mX8_number0 G m (qU (qU (qU (qU q 1 (nI n)) 2 (nI u10.1)) 3 0) 4 (nI lo)) n u10.1 sg 0 9 (by omega) (by omega)) gX8_readRest_X8_number rfl hdX8_number ⟨Nat.le_of_ble_eq_true rfl, Nat.le_of_ble_eq_true rfl⟩ 8 0 rfl rfl rfl (gPerm_ix [0, 1, 2, 3] rfl rfl) rfl rfl (Nat.le_of_ble_eq_true rfl) dX8_readRest_19 ⟨Nat.le_of_ble_eq_true rfl, Nat.le_of_ble_eq_true rfl⟩ (fun r16 u16 h16 => ?_)
      refine g_perm (ws1 := [(m 0, .inr (8, [.int (q 0), .ref (m 1), .int (nI n), .int (nI u10.1), .int 0, .int (nI lo), .ref (m 2), .ref (m 3), .ref (m 4), .ref (m 5), .int (q 5), .ref (m 6), .ref (m 7), .ref (m 8), .int (q 6), .int (q 7), .int (q 8)])), (m 1, .inl (gy G 0, 120, .inl sg)), (m 2, .inl (gy G 0, 271, .inl f)), (m 8, .inl (gy G 0, 10, .inl tn))]) (gPerm_ix [0, 1, 2, 3] rfl rfl) ?_
      refine g_istore_n (lv' := [(2, .int r16), (0, .ref (m 0)), (1, .int x)]) E dX8_readRest_22 rfl (by decide) rfl ?_
      refine g_aload_n E dX8_readRest_23 rfl 1 rfl ?_
      refine g_get E uX8_readRest_RX8 0 rfl rfl 4 (by decide) kX8_readRest_158 rfl rfl dX8_readRest_24 ?_
      refine g_if_eq (tgt := 41) E dX8_readRest_27 (by decide) (fun _ => ?_) (fun c => absurd c (by decide))
      refine g_goto (tgt := 78) E dX8_readRest_41 (by decide) ?_
      exact RET _ _ (u10.1, false, lo, f, q 6, tn) (⟨(show u10.1 ≤ n by omega), S, gCmd_bad (fun wd nm => by rw [(gWdP_n hN10 c12).2]; exact gRC_b ((gRWd_h h1).trans (if_neg (gWdP_n hN10 c12).1))), fun c => by cases c⟩) dX8_readRest_78
