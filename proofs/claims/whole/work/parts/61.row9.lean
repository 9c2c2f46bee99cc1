theorem gIte1 {P : Prop} [Decidable P] : ((if P then (1 : Int32) else 0) = 1) ↔ P := by
  by_cases h : P
  · rw [if_pos h]; exact ⟨fun _ => h, fun _ => rfl⟩
  · rw [if_neg h]; exact ⟨fun c => absurd c (by decide), fun c => absurd c h⟩
def gCn (S : gSt) : gSt := uI S 8 (upd (sI S 8) 4 (sI S 8 4 + 1))
/-- the reference's look: the booking stays -/
def gLookR (S : gSt) : Nat × gSt := ((gJudge (gCn S) (bk (sB S) 0 3) (bk (sB S) 0 4) (bk (sB S) 0 5)).1, if (gJudge (gCn S) (bk (sB S) 0 3) (bk (sB S) 0 4) (bk (sB S) 0 5)).1 = 0 then gHeld (gJudge (gCn S) (bk (sB S) 0 3) (bk (sB S) 0 4) (bk (sB S) 0 5)).2 (bk (sB S) 0 3) else (gJudge (gCn S) (bk (sB S) 0 3) (bk (sB S) 0 4) (bk (sB S) 0 5)).2)
theorem gLookR_1 {S S1 T : gSt} {r : Nat} (e : S1 = gCn S) (h : gJudge S1 (bk (sB S) 0 3) (bk (sB S) 0 4) (bk (sB S) 0 5) = (r, T)) : nI r = nI (gLookR S).1 := by
  rw [e] at h
  unfold gLookR
  rw [h]
theorem gLookR_0 {S S1 T : gSt} (e : S1 = gCn S) (h : gJudge S1 (bk (sB S) 0 3) (bk (sB S) 0 4) (bk (sB S) 0 5) = (0, T)) : (gLookR S).2 = gHeld T (bk (sB S) 0 3) := by
  rw [e] at h
  unfold gLookR
  rw [h]
  rfl
theorem gLookR_2 {S S1 T : gSt} {r : Nat} (e : S1 = gCn S) (h : gJudge S1 (bk (sB S) 0 3) (bk (sB S) 0 4) (bk (sB S) 0 5) = (r, T)) (hr : r ≠ 0) : (gLookR S).2 = T := by
  rw [e] at h
  unfold gLookR
  rw [h]
  exact if_neg hr
set_option maxHeartbeats 4000000 in
set_option maxRecDepth 100000 in
theorem mX8_look (G : gG) (r : Nat) (S : gSt) (f : Nat → Int32)  (hI : gI1 S) (hT : sN S 0 < 1000000000) (hRR : RR S f) (h0 : 0 < (sB S).length) (hst : sI S 6 (bk (sB S) 0 4) = 0 ∨ sI S 6 (bk (sB S) 0 4) = 1 ∨ sI S 6 (bk (sB S) 0 4) = 2) : CIu G yX8_look wsX8_look 3 66 [.ref r] [(r, .inl (gy G 0, 271, .inl f))] (nI ((gLookR S).1)) (fun u : Nat → Int32 => RR ((gLookR S).2) u) (fun (u : Nat → Int32) => [(r, .inl (gy G 0, 271, .inl u))]) 0 0 := by
  refine g_enterIu (ty := .int) RX8 rfl (by decide) rfl (Nat.le_of_ble_eq_true rfl) ?_
  intro V E RET
  have hX := hI
  obtain ⟨hP8, hn, hw, hW8, hs3, hs4, hs5, hs6, hs7, hs8, hb34⟩ := hX
  have hb0 := hb34 0 h0
  refine g_aload_n E dX8_look_0 rfl 0 rfl ?_
  refine g_iconst (v := 0) E dX8_look_1 (by decide) ?_
  refine g_iconst (v := 3) E dX8_look_2 (by decide) ?_
  refine g_callSIe (F := [(r, .inl (gy G 0, 271, .inl f))]) (ws2 := [(r, .inl (gy G 0, 271, .inl f))]) E (mX8_bookingAt G 0 3 (by omega) (by omega)) gX8_look_X8_bookingAt rfl hnX8_bookingAt ⟨Nat.le_of_ble_eq_true rfl, Nat.le_of_ble_eq_true rfl⟩ (gPerm_ix [0] rfl rfl) rfl rfl (Nat.le_of_ble_eq_true rfl) dX8_look_3 ⟨Nat.le_of_ble_eq_true rfl, Nat.le_of_ble_eq_true rfl⟩ (gPerm_ix [0] rfl rfl) ?_
  refine g_ialdN (e := 93 + 7 * 0 + 3) E 0 rfl (by omega) rfl (v := nI (bk (sB S) 0 3)) (RR_B hRR (k := 0) (w := 3) (by omega) (by omega)) dX8_look_6 ?_
  refine g_istore_n (lv' := [(1, .int (nI (bk (sB S) 0 3))), (0, .ref r)]) E dX8_look_7 rfl (by decide) rfl ?_
  refine g_aload_n E dX8_look_8 rfl 1 rfl ?_
  refine g_iconst (v := 0) E dX8_look_9 (by decide) ?_
  refine g_iconst (v := 4) E dX8_look_10 (by decide) ?_
  refine g_callSIe (F := [(r, .inl (gy G 0, 271, .inl f))]) (ws2 := [(r, .inl (gy G 0, 271, .inl f))]) E (mX8_bookingAt G 0 4 (by omega) (by omega)) gX8_look_X8_bookingAt rfl hnX8_bookingAt ⟨Nat.le_of_ble_eq_true rfl, Nat.le_of_ble_eq_true rfl⟩ (gPerm_ix [0] rfl rfl) rfl rfl (Nat.le_of_ble_eq_true rfl) dX8_look_11 ⟨Nat.le_of_ble_eq_true rfl, Nat.le_of_ble_eq_true rfl⟩ (gPerm_ix [0] rfl rfl) ?_
  refine g_ialdN (e := 93 + 7 * 0 + 4) E 0 rfl (by omega) rfl (v := nI (bk (sB S) 0 4)) (RR_B hRR (k := 0) (w := 4) (by omega) (by omega)) dX8_look_14 ?_
  refine g_istore_n (lv' := [(2, .int (nI (bk (sB S) 0 4))), (1, .int (nI (bk (sB S) 0 3))), (0, .ref r)]) E dX8_look_15 rfl (by decide) rfl ?_
  refine g_aload_n E dX8_look_16 rfl 2 rfl ?_
  refine g_bipush (v := 8) E dX8_look_17 (by decide) ?_
  refine g_dup2 E dX8_look_19 rfl rfl ?_
  refine g_ialdN (e := 8) E 0 rfl (by omega) rfl (v := sI S 8 4) (RR_C hRR (j := 4) (by decide)) dX8_look_20 ?_
  refine g_iconst (v := 1) E dX8_look_21 (by decide) ?_
  refine g_iadd E dX8_look_22 ?_
  refine g_iast (ws' := [(r, .inl (gy G 0, 271, .inl (upd f 8 ((sI S 8 4) + 1))))]) (j := 8) (y := (sI S 8 4) + 1) E 0 rfl (g_in (e := 8) (by omega) rfl) (nI_clamp (n := 8) (by omega)) rfl rfl dX8_look_23 ?_
  have hRR1 : RR (gCn S) (upd f 8 ((sI S 8 4) + 1)) := RR_uC (w := 4) hRR (by decide)
  obtain ⟨S1, eS1⟩ : ∃ x, x = gCn S := ⟨_, rfl⟩
  have hRR1 : RR S1 (upd f 8 ((sI S 8 4) + 1)) := by rw [eS1]; exact hRR1
  have hI1 : gI1 S1 := by rw [eS1]; exact gI1_uI hI
  have hT1 : sN S1 0 < 1000000000 := by rw [eS1]; exact hT
  have hl1 : 0 < (sB S1).length := by rw [eS1]; exact h0
  have hm1 : bk (sB S1) 0 5 = bk (sB S) 0 5 := by rw [eS1]; rfl
  have hm2 : bk (sB S) 0 5 < 1073741824 := (hRR.2.2.2.2.2.2.2.2.1 0 h0 5 (by decide)).2
  have hst1 : sI S1 6 (bk (sB S) 0 4) = 0 ∨ sI S1 6 (bk (sB S) 0 4) = 1 ∨ sI S1 6 (bk (sB S) 0 4) = 2 := by rw [eS1]; exact hst
  have hs41 : 1 ≤ sS S1 1 ∧ sS S1 1 ≤ 9 := by rw [eS1]; exact hs4
  have hs71 : sS S1 4 < 100 := by rw [eS1]; exact hs7
  have hs81 : sS S1 5 < 100 := by rw [eS1]; exact hs8
  refine g_aload_n E dX8_look_24 rfl 2 rfl ?_
  refine g_iload_n E dX8_look_25 rfl 1 rfl ?_
  refine g_aload_n E dX8_look_26 rfl 2 rfl ?_
  refine g_iconst (v := 0) E dX8_look_27 (by decide) ?_
  refine g_ialdN (e := 0) E 0 rfl (by omega) rfl (v := nI (sN S1 0)) (RR_0 hRR1) dX8_look_28 ?_
  refine g_callSIe (F := []) (ws2 := [(r, .inl (gy G 0, 271, .inl (upd f 8 ((sI S 8 4) + 1))))]) E (mX8_isLost G r S1 (upd f 8 ((sI S 8 4) + 1)) (bk (sB S) 0 3) (sN S1 0) (gI1_r hI1) hT1 hRR1 (by omega)) gX8_look_X8_isLost rfl hnX8_isLost ⟨Nat.le_of_ble_eq_true rfl, Nat.le_of_ble_eq_true rfl⟩ (gPerm_ix [0] rfl rfl) rfl rfl (Nat.le_of_ble_eq_true rfl) dX8_look_29 ⟨Nat.le_of_ble_eq_true rfl, Nat.le_of_ble_eq_true rfl⟩ (gPerm_ix [0] rfl rfl) ?_
  refine g_if_neB (tgt := 46) (P := nI (sN S1 0) < sI S1 2 (bk (sB S) 0 3)) E dX8_look_32 (by decide) (fun c2 => ?_) (fun c2 => ?_)
  · skip
    refine g_iconst (v := 1) E dX8_look_46 (by decide) ?_
    exact RET _ _ _ _ (⟨(gLookR_1 (r := 1) (T := S1) eS1 (by simp [gJudge, gSearch, ← hm1, c2])), (by rw [gLookR_2 (r := 1) (T := S1) eS1 (by simp [gJudge, gSearch, ← hm1, c2]) (by decide)]; exact hRR1)⟩) rfl dX8_look_47
  · skip
    refine g_aload_n E dX8_look_35 rfl 2 rfl ?_
    refine g_iload_n E dX8_look_36 rfl 0 rfl ?_
    refine g_aload_n E dX8_look_37 rfl 2 rfl ?_
    refine g_iconst (v := 0) E dX8_look_38 (by decide) ?_
    refine g_ialdN (e := 0) E 0 rfl (by omega) rfl (v := nI (sN S1 0)) (RR_0 hRR1) dX8_look_39 ?_
    refine g_callSIe (F := []) (ws2 := [(r, .inl (gy G 0, 271, .inl (upd f 8 ((sI S 8 4) + 1))))]) E (mX8_isBanned G r S1 (upd f 8 ((sI S 8 4) + 1)) (bk (sB S) 0 4) (sN S1 0) (gI1_r hI1) hT1 hRR1 (by omega)) gX8_look_X8_isBanned rfl hnX8_isBanned ⟨Nat.le_of_ble_eq_true rfl, Nat.le_of_ble_eq_true rfl⟩ (gPerm_ix [0] rfl rfl) rfl rfl (Nat.le_of_ble_eq_true rfl) dX8_look_40 ⟨Nat.le_of_ble_eq_true rfl, Nat.le_of_ble_eq_true rfl⟩ (gPerm_ix [0] rfl rfl) ?_
    refine g_if_eqB (tgt := 48) (P := nI (sN S1 0) < sI S1 7 (bk (sB S) 0 4)) E dX8_look_43 (by decide) (fun c3 => ?_) (fun c3 => ?_)
    · skip
      refine g_aload_n E dX8_look_48 rfl 2 rfl ?_
      refine g_bipush (v := 8) E dX8_look_49 (by decide) ?_
      refine g_ialdN (e := 8) E 0 rfl (by omega) rfl (v := sI S1 8 4) (RR_C hRR1 (j := 4) (by decide)) dX8_look_51 ?_
      refine g_aload_n E dX8_look_52 rfl 2 rfl ?_
      refine g_bipush (v := 10) E dX8_look_53 (by decide) ?_
      refine g_ialdN (e := 10) E 0 rfl (by omega) rfl (v := nI (sS S1 1)) (RR_S hRR1 (j := 1) (by decide)) dX8_look_55 ?_
      refine g_irem E dX8_look_56 (nI_ne0 (by omega) (by omega)) ?_
      refine g_if_eq (tgt := 70) E dX8_look_57 (by decide) (fun c4 => ?_) (fun c4 => ?_)
      · skip
        refine g_iconst (v := 1) E dX8_look_70 (by decide) ?_
        refine g_goto (tgt := 75) E dX8_look_71 (by decide) ?_
        refine g_istore_n (lv' := [(3, .int 1), (2, .int (nI (bk (sB S) 0 4))), (1, .int (nI (bk (sB S) 0 3))), (0, .ref r)]) E dX8_look_75 rfl (by decide) rfl ?_
        refine g_iload_n E dX8_look_76 rfl 0 rfl ?_
        refine g_if_eq (tgt := 99) E dX8_look_77 (by decide) (fun c => absurd c (by decide)) (fun _ => ?_)
        refine g_aload_n E dX8_look_80 rfl 3 rfl ?_
        refine g_iload_n E dX8_look_81 rfl 1 rfl ?_
        refine g_iconst (v := 2) E dX8_look_82 (by decide) ?_
        refine g_callSIe (F := [(r, .inl (gy G 0, 271, .inl (upd f 8 ((sI S 8 4) + 1))))]) (ws2 := [(r, .inl (gy G 0, 271, .inl (upd f 8 ((sI S 8 4) + 1))))]) E (mX8_visitorAt G (bk (sB S) 0 4) 2 (by omega) (by omega)) gX8_look_X8_visitorAt rfl hnX8_visitorAt ⟨Nat.le_of_ble_eq_true rfl, Nat.le_of_ble_eq_true rfl⟩ (gPerm_ix [0] rfl rfl) rfl rfl (Nat.le_of_ble_eq_true rfl) dX8_look_83 ⟨Nat.le_of_ble_eq_true rfl, Nat.le_of_ble_eq_true rfl⟩ (gPerm_ix [0] rfl rfl) ?_
        refine g_ialdN (e := 63 + 3 * (bk (sB S) 0 4) + 2) E 0 rfl (by omega) rfl (v := if gHb (sI S1 9 0) (nI (bk (sB S) 0 4)) = true then 1 else 0) (RR_V2 hRR1 (v := bk (sB S) 0 4) (by omega)) dX8_look_86 ?_
        refine g_iconst (v := 1) E dX8_look_87 (by decide) ?_
        refine g_icmp_ne (tgt := 99) E dX8_look_88 (by decide) (fun c5 => ?_) (fun c5 => ?_)
        · skip
          rw [gIte1] at c5
          refine g_aload_n E dX8_look_99 rfl 3 rfl ?_
          refine g_iconst (v := 0) E dX8_look_100 (by decide) ?_
          refine g_iconst (v := 5) E dX8_look_101 (by decide) ?_
          refine g_callSIe (F := [(r, .inl (gy G 0, 271, .inl (upd f 8 ((sI S 8 4) + 1))))]) (ws2 := [(r, .inl (gy G 0, 271, .inl (upd f 8 ((sI S 8 4) + 1))))]) E (mX8_bookingAt G 0 5 (by omega) (by omega)) gX8_look_X8_bookingAt rfl hnX8_bookingAt ⟨Nat.le_of_ble_eq_true rfl, Nat.le_of_ble_eq_true rfl⟩ (gPerm_ix [0] rfl rfl) rfl rfl (Nat.le_of_ble_eq_true rfl) dX8_look_102 ⟨Nat.le_of_ble_eq_true rfl, Nat.le_of_ble_eq_true rfl⟩ (gPerm_ix [0] rfl rfl) ?_
          refine g_ialdN (e := 93 + 7 * 0 + 5) E 0 rfl (by omega) rfl (v := nI (bk (sB S1) 0 5)) (RR_B hRR1 (k := 0) (w := 5) (by omega) (by omega)) dX8_look_105 ?_
          refine g_iload_n E dX8_look_106 rfl 0 rfl ?_
          refine g_if_eq (tgt := 117) E dX8_look_107 (by decide) (fun c => absurd c (by decide)) (fun _ => ?_)
          refine g_aload_n E dX8_look_110 rfl 3 rfl ?_
          refine g_bipush (v := 13) E dX8_look_111 (by decide) ?_
          refine g_ialdN (e := 13) E 0 rfl (by omega) rfl (v := nI (sS S1 4)) (RR_S hRR1 (j := 4) (by decide)) dX8_look_113 ?_
          refine g_goto (tgt := 118) E dX8_look_114 (by decide) ?_
          refine g_iaddN (a := bk (sB S1) 0 5) (b := sS S1 4) E dX8_look_118 ?_
          refine g_aload_n E dX8_look_119 rfl 3 rfl ?_
          refine g_bipush (v := 14) E dX8_look_120 (by decide) ?_
          refine g_ialdN (e := 14) E 0 rfl (by omega) rfl (v := nI (sS S1 5)) (RR_S hRR1 (j := 5) (by decide)) dX8_look_122 ?_
          refine g_icmp_leN (tgt := 133) (a := bk (sB S1) 0 5 + (sS S1 4)) (b := sS S1 5) E dX8_look_123 (by decide) (by omega) (by omega) (fun c6 => ?_) (fun c6 => ?_)
          · skip
            try rw [Nat.add_zero] at c6
            refine g_aload_n E dX8_look_133 rfl 3 rfl ?_
            refine g_iload_n E dX8_look_134 rfl 2 rfl ?_
            refine g_iconst (v := 3) E dX8_look_135 (by decide) ?_
            refine g_callSIe (F := [(r, .inl (gy G 0, 271, .inl (upd f 8 ((sI S 8 4) + 1))))]) (ws2 := [(r, .inl (gy G 0, 271, .inl (upd f 8 ((sI S 8 4) + 1))))]) E (mX8_prisonerAt G (bk (sB S) 0 3) 3 (by omega) (by omega)) gX8_look_X8_prisonerAt rfl hnX8_prisonerAt ⟨Nat.le_of_ble_eq_true rfl, Nat.le_of_ble_eq_true rfl⟩ (gPerm_ix [0] rfl rfl) rfl rfl (Nat.le_of_ble_eq_true rfl) dX8_look_136 ⟨Nat.le_of_ble_eq_true rfl, Nat.le_of_ble_eq_true rfl⟩ (gPerm_ix [0] rfl rfl) ?_
            refine g_dup2 E dX8_look_139 rfl rfl ?_
            refine g_ialdN (e := 15 + 6 * (bk (sB S) 0 3) + 3) E 0 rfl (by omega) rfl (v := sI S1 3 (bk (sB S) 0 3)) (RR_P hRR1 (p := bk (sB S) 0 3) (w := 3) (by omega) (by omega)) dX8_look_140 ?_
            refine g_iconst (v := 1) E dX8_look_141 (by decide) ?_
            refine g_iadd E dX8_look_142 ?_
            refine g_iast (ws' := [(r, .inl (gy G 0, 271, .inl (upd (upd f 8 ((sI S 8 4) + 1)) (15 + 6 * (bk (sB S) 0 3) + 3) ((sI S1 3 (bk (sB S) 0 3)) + 1))))]) (j := 15 + 6 * (bk (sB S) 0 3) + 3) (y := (sI S1 3 (bk (sB S) 0 3)) + 1) E 0 rfl (g_in (e := 15 + 6 * (bk (sB S) 0 3) + 3) (by omega) rfl) (nI_clamp (n := 15 + 6 * (bk (sB S) 0 3) + 3) (by omega)) rfl rfl dX8_look_143 ?_
            have hRR7 : RR (uI S1 3 (upd (sI S1 3) (bk (sB S) 0 3) (sI S1 3 (bk (sB S) 0 3) + 1))) (upd (upd f 8 ((sI S 8 4) + 1)) (15 + 6 * (bk (sB S) 0 3) + 3) ((sI S1 3 (bk (sB S) 0 3)) + 1)) := RR_uP hRR1 (by omega) (by decide)
            refine g_aload_n E dX8_look_144 rfl 3 rfl ?_
            refine g_iload_n E dX8_look_145 rfl 2 rfl ?_
            refine g_iconst (v := 4) E dX8_look_146 (by decide) ?_
            refine g_callSIe (F := [(r, .inl (gy G 0, 271, .inl (upd (upd f 8 ((sI S 8 4) + 1)) (15 + 6 * (bk (sB S) 0 3) + 3) ((sI S1 3 (bk (sB S) 0 3)) + 1))))]) (ws2 := [(r, .inl (gy G 0, 271, .inl (upd (upd f 8 ((sI S 8 4) + 1)) (15 + 6 * (bk (sB S) 0 3) + 3) ((sI S1 3 (bk (sB S) 0 3)) + 1))))]) E (mX8_prisonerAt G (bk (sB S) 0 3) 4 (by omega) (by omega)) gX8_look_X8_prisonerAt rfl hnX8_prisonerAt ⟨Nat.le_of_ble_eq_true rfl, Nat.le_of_ble_eq_true rfl⟩ (gPerm_ix [0] rfl rfl) rfl rfl (Nat.le_of_ble_eq_true rfl) dX8_look_147 ⟨Nat.le_of_ble_eq_true rfl, Nat.le_of_ble_eq_true rfl⟩ (gPerm_ix [0] rfl rfl) ?_
            refine g_dup2 E dX8_look_150 rfl rfl ?_
            refine g_ialdN (e := 15 + 6 * (bk (sB S) 0 3) + 4) E 0 rfl (by omega) rfl (v := sI (uI S1 3 (upd (sI S1 3) (bk (sB S) 0 3) (sI S1 3 (bk (sB S) 0 3) + 1))) 4 (bk (sB S) 0 3)) (RR_P hRR7 (p := bk (sB S) 0 3) (w := 4) (by omega) (by omega)) dX8_look_151 ?_
            refine g_iconst (v := 1) E dX8_look_152 (by decide) ?_
            refine g_iadd E dX8_look_153 ?_
            refine g_iast (ws' := [(r, .inl (gy G 0, 271, .inl (upd (upd (upd f 8 ((sI S 8 4) + 1)) (15 + 6 * (bk (sB S) 0 3) + 3) ((sI S1 3 (bk (sB S) 0 3)) + 1)) (15 + 6 * (bk (sB S) 0 3) + 4) ((sI (uI S1 3 (upd (sI S1 3) (bk (sB S) 0 3) (sI S1 3 (bk (sB S) 0 3) + 1))) 4 (bk (sB S) 0 3)) + 1))))]) (j := 15 + 6 * (bk (sB S) 0 3) + 4) (y := (sI (uI S1 3 (upd (sI S1 3) (bk (sB S) 0 3) (sI S1 3 (bk (sB S) 0 3) + 1))) 4 (bk (sB S) 0 3)) + 1) E 0 rfl (g_in (e := 15 + 6 * (bk (sB S) 0 3) + 4) (by omega) rfl) (nI_clamp (n := 15 + 6 * (bk (sB S) 0 3) + 4) (by omega)) rfl rfl dX8_look_154 ?_
            have hRR8 : RR (gHeld S1 (bk (sB S) 0 3)) (upd (upd (upd f 8 ((sI S 8 4) + 1)) (15 + 6 * (bk (sB S) 0 3) + 3) ((sI S1 3 (bk (sB S) 0 3)) + 1)) (15 + 6 * (bk (sB S) 0 3) + 4) ((sI (uI S1 3 (upd (sI S1 3) (bk (sB S) 0 3) (sI S1 3 (bk (sB S) 0 3) + 1))) 4 (bk (sB S) 0 3)) + 1)) := RR_uP hRR7 (by omega) (by decide)
            refine g_iconst (v := 0) E dX8_look_155 (by decide) ?_
            exact RET _ _ _ _ (⟨(gLookR_1 (r := 0) (T := S1) eS1 (by simp [gJudge, gSearch, ← hm1, c2, c3, c4, c5, c6])), (by rw [gLookR_0 (T := S1) eS1 (by simp [gJudge, gSearch, ← hm1, c2, c3, c4, c5, c6])]; exact hRR8)⟩) rfl dX8_look_156
          · skip
            try rw [Nat.add_zero] at c6
            refine g_aload_n E dX8_look_126 rfl 3 rfl ?_
            refine g_iload_n E dX8_look_127 rfl 1 rfl ?_
            refine g_callSV (F := []) E (mX8_strike G r S1 (upd f 8 ((sI S 8 4) + 1)) (bk (sB S) 0 4) hI1 hT1 hRR1 (by omega) hst1) gX8_look_X8_strike rfl hnX8_strike ⟨Nat.le_of_ble_eq_true rfl, Nat.le_of_ble_eq_true rfl⟩ (gPerm_ix [0] rfl rfl) rfl rfl (Nat.le_of_ble_eq_true rfl) dX8_look_128 ⟨Nat.le_of_ble_eq_true rfl, Nat.le_of_ble_eq_true rfl⟩ (fun u9 hU9 => ?_)
            obtain ⟨S9, xE9⟩ : ∃ x, x = gStrike S1 (bk (sB S) 0 4) := ⟨_, rfl⟩
            have hRR9 : RR S9 u9 := by rw [xE9]; exact hU9
            refine g_perm (ws1 := [(r, .inl (gy G 0, 271, .inl u9))]) (gPerm_ix [0] rfl rfl) ?_
            refine g_iconst (v := 3) E dX8_look_131 (by decide) ?_
            exact RET _ _ _ _ (⟨(gLookR_1 (r := 3) (T := S9) eS1 (by simp [gJudge, gSearch, ← hm1, c2, c3, c4, c5, c6]; rw [xE9, gStrike]; split <;> rfl)), (by rw [gLookR_2 (r := 3) (T := S9) eS1 (by simp [gJudge, gSearch, ← hm1, c2, c3, c4, c5, c6]; rw [xE9, gStrike]; split <;> rfl) (by decide)]; exact hRR9)⟩) rfl dX8_look_132
        · skip
          rw [gIte1] at c5
          refine g_aload_n E dX8_look_91 rfl 3 rfl ?_
          refine g_iload_n E dX8_look_92 rfl 2 rfl ?_
          refine g_iload_n E dX8_look_93 rfl 1 rfl ?_
          refine g_callSV (F := []) E (mX8_find G r S1 (upd f 8 ((sI S 8 4) + 1)) (bk (sB S) 0 3) (bk (sB S) 0 4) hI1 hT1 hRR1 (by omega) (by omega)) gX8_look_X8_find rfl hnX8_find ⟨Nat.le_of_ble_eq_true rfl, Nat.le_of_ble_eq_true rfl⟩ (gPerm_ix [0] rfl rfl) rfl rfl (Nat.le_of_ble_eq_true rfl) dX8_look_94 ⟨Nat.le_of_ble_eq_true rfl, Nat.le_of_ble_eq_true rfl⟩ (fun u11 hU11 => ?_)
          obtain ⟨S11, xE11⟩ : ∃ x, x = gTake (gBan (uI S1 9 (fun _ => gWb (sI S1 9 0) (nI (bk (sB S) 0 4)) 0)) (bk (sB S) 0 4)) (bk (sB S) 0 3) := ⟨_, rfl⟩
          have hRR11 : RR S11 u11 := by rw [xE11]; exact hU11
          have hI11 : gI1 S11 := by rw [xE11]; exact gI1_take (gI1_ban (gI1_uI hI1) _) _
          have hT11 : sN S11 0 < 1000000000 := by rw [xE11]; exact gT_take (gT_ban (gT_uI hT1) _) _
          refine g_perm (ws1 := [(r, .inl (gy G 0, 271, .inl u11))]) (gPerm_ix [0] rfl rfl) ?_
          refine g_iconst (v := 2) E dX8_look_97 (by decide) ?_
          exact RET _ _ _ _ (⟨(gLookR_1 (r := 2) (T := S11) eS1 (by rw [xE11]; simp [gJudge, gSearch, ← hm1, c2, c3, c4, c5])), (by rw [gLookR_2 (r := 2) (T := S11) eS1 (by rw [xE11]; simp [gJudge, gSearch, ← hm1, c2, c3, c4, c5]) (by decide)]; exact hRR11)⟩) rfl dX8_look_98
      · skip
        refine g_aload_n E dX8_look_60 rfl 2 rfl ?_
        refine g_iload_n E dX8_look_61 rfl 0 rfl ?_
        refine g_iconst (v := 0) E dX8_look_62 (by decide) ?_
        refine g_callSIe (F := [(r, .inl (gy G 0, 271, .inl (upd f 8 ((sI S 8 4) + 1))))]) (ws2 := [(r, .inl (gy G 0, 271, .inl (upd f 8 ((sI S 8 4) + 1))))]) E (mX8_visitorAt G (bk (sB S) 0 4) 0 (by omega) (by omega)) gX8_look_X8_visitorAt rfl hnX8_visitorAt ⟨Nat.le_of_ble_eq_true rfl, Nat.le_of_ble_eq_true rfl⟩ (gPerm_ix [0] rfl rfl) rfl rfl (Nat.le_of_ble_eq_true rfl) dX8_look_63 ⟨Nat.le_of_ble_eq_true rfl, Nat.le_of_ble_eq_true rfl⟩ (gPerm_ix [0] rfl rfl) ?_
        refine g_ialdN (e := 63 + 3 * (bk (sB S) 0 4) + 0) E 0 rfl (by omega) rfl (v := sI S1 6 (bk (sB S) 0 4)) (RR_V0 hRR1 (v := bk (sB S) 0 4) (by omega)) dX8_look_66 ?_
        refine g_if_le (tgt := 74) E dX8_look_67 (by decide) (fun c13 => ?_) (fun c13 => ?_)
        · skip
          refine g_iconst (v := 0) E dX8_look_74 (by decide) ?_
          refine g_istore_n (lv' := [(3, .int 0), (2, .int (nI (bk (sB S) 0 4))), (1, .int (nI (bk (sB S) 0 3))), (0, .ref r)]) E dX8_look_75 rfl (by decide) rfl ?_
          refine g_iload_n E dX8_look_76 rfl 0 rfl ?_
          refine g_if_eq (tgt := 99) E dX8_look_77 (by decide) (fun _ => ?_) (fun c => absurd c (by decide))
          refine g_aload_n E dX8_look_99 rfl 3 rfl ?_
          refine g_iconst (v := 0) E dX8_look_100 (by decide) ?_
          refine g_iconst (v := 5) E dX8_look_101 (by decide) ?_
          refine g_callSIe (F := [(r, .inl (gy G 0, 271, .inl (upd f 8 ((sI S 8 4) + 1))))]) (ws2 := [(r, .inl (gy G 0, 271, .inl (upd f 8 ((sI S 8 4) + 1))))]) E (mX8_bookingAt G 0 5 (by omega) (by omega)) gX8_look_X8_bookingAt rfl hnX8_bookingAt ⟨Nat.le_of_ble_eq_true rfl, Nat.le_of_ble_eq_true rfl⟩ (gPerm_ix [0] rfl rfl) rfl rfl (Nat.le_of_ble_eq_true rfl) dX8_look_102 ⟨Nat.le_of_ble_eq_true rfl, Nat.le_of_ble_eq_true rfl⟩ (gPerm_ix [0] rfl rfl) ?_
          refine g_ialdN (e := 93 + 7 * 0 + 5) E 0 rfl (by omega) rfl (v := nI (bk (sB S1) 0 5)) (RR_B hRR1 (k := 0) (w := 5) (by omega) (by omega)) dX8_look_105 ?_
          refine g_iload_n E dX8_look_106 rfl 0 rfl ?_
          refine g_if_eq (tgt := 117) E dX8_look_107 (by decide) (fun _ => ?_) (fun c => absurd c (by decide))
          refine g_iconst (v := 0) E dX8_look_117 (by decide) ?_
          refine g_iaddN (a := bk (sB S1) 0 5) (b := 0) E dX8_look_118 ?_
          refine g_aload_n E dX8_look_119 rfl 3 rfl ?_
          refine g_bipush (v := 14) E dX8_look_120 (by decide) ?_
          refine g_ialdN (e := 14) E 0 rfl (by omega) rfl (v := nI (sS S1 5)) (RR_S hRR1 (j := 5) (by decide)) dX8_look_122 ?_
          refine g_icmp_leN (tgt := 133) (a := bk (sB S1) 0 5 + 0) (b := sS S1 5) E dX8_look_123 (by decide) (by omega) (by omega) (fun c14 => ?_) (fun c14 => ?_)
          · skip
            try rw [Nat.add_zero] at c14
            refine g_aload_n E dX8_look_133 rfl 3 rfl ?_
            refine g_iload_n E dX8_look_134 rfl 2 rfl ?_
            refine g_iconst (v := 3) E dX8_look_135 (by decide) ?_
            refine g_callSIe (F := [(r, .inl (gy G 0, 271, .inl (upd f 8 ((sI S 8 4) + 1))))]) (ws2 := [(r, .inl (gy G 0, 271, .inl (upd f 8 ((sI S 8 4) + 1))))]) E (mX8_prisonerAt G (bk (sB S) 0 3) 3 (by omega) (by omega)) gX8_look_X8_prisonerAt rfl hnX8_prisonerAt ⟨Nat.le_of_ble_eq_true rfl, Nat.le_of_ble_eq_true rfl⟩ (gPerm_ix [0] rfl rfl) rfl rfl (Nat.le_of_ble_eq_true rfl) dX8_look_136 ⟨Nat.le_of_ble_eq_true rfl, Nat.le_of_ble_eq_true rfl⟩ (gPerm_ix [0] rfl rfl) ?_
            refine g_dup2 E dX8_look_139 rfl rfl ?_
            refine g_ialdN (e := 15 + 6 * (bk (sB S) 0 3) + 3) E 0 rfl (by omega) rfl (v := sI S1 3 (bk (sB S) 0 3)) (RR_P hRR1 (p := bk (sB S) 0 3) (w := 3) (by omega) (by omega)) dX8_look_140 ?_
            refine g_iconst (v := 1) E dX8_look_141 (by decide) ?_
            refine g_iadd E dX8_look_142 ?_
            refine g_iast (ws' := [(r, .inl (gy G 0, 271, .inl (upd (upd f 8 ((sI S 8 4) + 1)) (15 + 6 * (bk (sB S) 0 3) + 3) ((sI S1 3 (bk (sB S) 0 3)) + 1))))]) (j := 15 + 6 * (bk (sB S) 0 3) + 3) (y := (sI S1 3 (bk (sB S) 0 3)) + 1) E 0 rfl (g_in (e := 15 + 6 * (bk (sB S) 0 3) + 3) (by omega) rfl) (nI_clamp (n := 15 + 6 * (bk (sB S) 0 3) + 3) (by omega)) rfl rfl dX8_look_143 ?_
            have hRR15 : RR (uI S1 3 (upd (sI S1 3) (bk (sB S) 0 3) (sI S1 3 (bk (sB S) 0 3) + 1))) (upd (upd f 8 ((sI S 8 4) + 1)) (15 + 6 * (bk (sB S) 0 3) + 3) ((sI S1 3 (bk (sB S) 0 3)) + 1)) := RR_uP hRR1 (by omega) (by decide)
            refine g_aload_n E dX8_look_144 rfl 3 rfl ?_
            refine g_iload_n E dX8_look_145 rfl 2 rfl ?_
            refine g_iconst (v := 4) E dX8_look_146 (by decide) ?_
            refine g_callSIe (F := [(r, .inl (gy G 0, 271, .inl (upd (upd f 8 ((sI S 8 4) + 1)) (15 + 6 * (bk (sB S) 0 3) + 3) ((sI S1 3 (bk (sB S) 0 3)) + 1))))]) (ws2 := [(r, .inl (gy G 0, 271, .inl (upd (upd f 8 ((sI S 8 4) + 1)) (15 + 6 * (bk (sB S) 0 3) + 3) ((sI S1 3 (bk (sB S) 0 3)) + 1))))]) E (mX8_prisonerAt G (bk (sB S) 0 3) 4 (by omega) (by omega)) gX8_look_X8_prisonerAt rfl hnX8_prisonerAt ⟨Nat.le_of_ble_eq_true rfl, Nat.le_of_ble_eq_true rfl⟩ (gPerm_ix [0] rfl rfl) rfl rfl (Nat.le_of_ble_eq_true rfl) dX8_look_147 ⟨Nat.le_of_ble_eq_true rfl, Nat.le_of_ble_eq_true rfl⟩ (gPerm_ix [0] rfl rfl) ?_
            refine g_dup2 E dX8_look_150 rfl rfl ?_
            refine g_ialdN (e := 15 + 6 * (bk (sB S) 0 3) + 4) E 0 rfl (by omega) rfl (v := sI (uI S1 3 (upd (sI S1 3) (bk (sB S) 0 3) (sI S1 3 (bk (sB S) 0 3) + 1))) 4 (bk (sB S) 0 3)) (RR_P hRR15 (p := bk (sB S) 0 3) (w := 4) (by omega) (by omega)) dX8_look_151 ?_
            refine g_iconst (v := 1) E dX8_look_152 (by decide) ?_
            refine g_iadd E dX8_look_153 ?_
            refine g_iast (ws' := [(r, .inl (gy G 0, 271, .inl (upd (upd (upd f 8 ((sI S 8 4) + 1)) (15 + 6 * (bk (sB S) 0 3) + 3) ((sI S1 3 (bk (sB S) 0 3)) + 1)) (15 + 6 * (bk (sB S) 0 3) + 4) ((sI (uI S1 3 (upd (sI S1 3) (bk (sB S) 0 3) (sI S1 3 (bk (sB S) 0 3) + 1))) 4 (bk (sB S) 0 3)) + 1))))]) (j := 15 + 6 * (bk (sB S) 0 3) + 4) (y := (sI (uI S1 3 (upd (sI S1 3) (bk (sB S) 0 3) (sI S1 3 (bk (sB S) 0 3) + 1))) 4 (bk (sB S) 0 3)) + 1) E 0 rfl (g_in (e := 15 + 6 * (bk (sB S) 0 3) + 4) (by omega) rfl) (nI_clamp (n := 15 + 6 * (bk (sB S) 0 3) + 4) (by omega)) rfl rfl dX8_look_154 ?_
            have hRR16 : RR (gHeld S1 (bk (sB S) 0 3)) (upd (upd (upd f 8 ((sI S 8 4) + 1)) (15 + 6 * (bk (sB S) 0 3) + 3) ((sI S1 3 (bk (sB S) 0 3)) + 1)) (15 + 6 * (bk (sB S) 0 3) + 4) ((sI (uI S1 3 (upd (sI S1 3) (bk (sB S) 0 3) (sI S1 3 (bk (sB S) 0 3) + 1))) 4 (bk (sB S) 0 3)) + 1)) := RR_uP hRR15 (by omega) (by decide)
            refine g_iconst (v := 0) E dX8_look_155 (by decide) ?_
            exact RET _ _ _ _ (⟨(gLookR_1 (r := 0) (T := S1) eS1 (by simp [gJudge, gSearch, ← hm1, c2, c3, c4, c13, c14])), (by rw [gLookR_0 (T := S1) eS1 (by simp [gJudge, gSearch, ← hm1, c2, c3, c4, c13, c14])]; exact hRR16)⟩) rfl dX8_look_156
          · skip
            try rw [Nat.add_zero] at c14
            refine g_aload_n E dX8_look_126 rfl 3 rfl ?_
            refine g_iload_n E dX8_look_127 rfl 1 rfl ?_
            refine g_callSV (F := []) E (mX8_strike G r S1 (upd f 8 ((sI S 8 4) + 1)) (bk (sB S) 0 4) hI1 hT1 hRR1 (by omega) hst1) gX8_look_X8_strike rfl hnX8_strike ⟨Nat.le_of_ble_eq_true rfl, Nat.le_of_ble_eq_true rfl⟩ (gPerm_ix [0] rfl rfl) rfl rfl (Nat.le_of_ble_eq_true rfl) dX8_look_128 ⟨Nat.le_of_ble_eq_true rfl, Nat.le_of_ble_eq_true rfl⟩ (fun u17 hU17 => ?_)
            obtain ⟨S17, xE17⟩ : ∃ x, x = gStrike S1 (bk (sB S) 0 4) := ⟨_, rfl⟩
            have hRR17 : RR S17 u17 := by rw [xE17]; exact hU17
            refine g_perm (ws1 := [(r, .inl (gy G 0, 271, .inl u17))]) (gPerm_ix [0] rfl rfl) ?_
            refine g_iconst (v := 3) E dX8_look_131 (by decide) ?_
            exact RET _ _ _ _ (⟨(gLookR_1 (r := 3) (T := S17) eS1 (by simp [gJudge, gSearch, ← hm1, c2, c3, c4, c13, c14]; rw [xE17, gStrike]; split <;> rfl)), (by rw [gLookR_2 (r := 3) (T := S17) eS1 (by simp [gJudge, gSearch, ← hm1, c2, c3, c4, c13, c14]; rw [xE17, gStrike]; split <;> rfl) (by decide)]; exact hRR17)⟩) rfl dX8_look_132
        · skip
          refine g_iconst (v := 1) E dX8_look_70 (by decide) ?_
          refine g_goto (tgt := 75) E dX8_look_71 (by decide) ?_
          refine g_istore_n (lv' := [(3, .int 1), (2, .int (nI (bk (sB S) 0 4))), (1, .int (nI (bk (sB S) 0 3))), (0, .ref r)]) E dX8_look_75 rfl (by decide) rfl ?_
          refine g_iload_n E dX8_look_76 rfl 0 rfl ?_
          refine g_if_eq (tgt := 99) E dX8_look_77 (by decide) (fun c => absurd c (by decide)) (fun _ => ?_)
          refine g_aload_n E dX8_look_80 rfl 3 rfl ?_
          refine g_iload_n E dX8_look_81 rfl 1 rfl ?_
          refine g_iconst (v := 2) E dX8_look_82 (by decide) ?_
          refine g_callSIe (F := [(r, .inl (gy G 0, 271, .inl (upd f 8 ((sI S 8 4) + 1))))]) (ws2 := [(r, .inl (gy G 0, 271, .inl (upd f 8 ((sI S 8 4) + 1))))]) E (mX8_visitorAt G (bk (sB S) 0 4) 2 (by omega) (by omega)) gX8_look_X8_visitorAt rfl hnX8_visitorAt ⟨Nat.le_of_ble_eq_true rfl, Nat.le_of_ble_eq_true rfl⟩ (gPerm_ix [0] rfl rfl) rfl rfl (Nat.le_of_ble_eq_true rfl) dX8_look_83 ⟨Nat.le_of_ble_eq_true rfl, Nat.le_of_ble_eq_true rfl⟩ (gPerm_ix [0] rfl rfl) ?_
          refine g_ialdN (e := 63 + 3 * (bk (sB S) 0 4) + 2) E 0 rfl (by omega) rfl (v := if gHb (sI S1 9 0) (nI (bk (sB S) 0 4)) = true then 1 else 0) (RR_V2 hRR1 (v := bk (sB S) 0 4) (by omega)) dX8_look_86 ?_
          refine g_iconst (v := 1) E dX8_look_87 (by decide) ?_
          refine g_icmp_ne (tgt := 99) E dX8_look_88 (by decide) (fun c19 => ?_) (fun c19 => ?_)
          · skip
            rw [gIte1] at c19
            refine g_aload_n E dX8_look_99 rfl 3 rfl ?_
            refine g_iconst (v := 0) E dX8_look_100 (by decide) ?_
            refine g_iconst (v := 5) E dX8_look_101 (by decide) ?_
            refine g_callSIe (F := [(r, .inl (gy G 0, 271, .inl (upd f 8 ((sI S 8 4) + 1))))]) (ws2 := [(r, .inl (gy G 0, 271, .inl (upd f 8 ((sI S 8 4) + 1))))]) E (mX8_bookingAt G 0 5 (by omega) (by omega)) gX8_look_X8_bookingAt rfl hnX8_bookingAt ⟨Nat.le_of_ble_eq_true rfl, Nat.le_of_ble_eq_true rfl⟩ (gPerm_ix [0] rfl rfl) rfl rfl (Nat.le_of_ble_eq_true rfl) dX8_look_102 ⟨Nat.le_of_ble_eq_true rfl, Nat.le_of_ble_eq_true rfl⟩ (gPerm_ix [0] rfl rfl) ?_
            refine g_ialdN (e := 93 + 7 * 0 + 5) E 0 rfl (by omega) rfl (v := nI (bk (sB S1) 0 5)) (RR_B hRR1 (k := 0) (w := 5) (by omega) (by omega)) dX8_look_105 ?_
            refine g_iload_n E dX8_look_106 rfl 0 rfl ?_
            refine g_if_eq (tgt := 117) E dX8_look_107 (by decide) (fun c => absurd c (by decide)) (fun _ => ?_)
            refine g_aload_n E dX8_look_110 rfl 3 rfl ?_
            refine g_bipush (v := 13) E dX8_look_111 (by decide) ?_
            refine g_ialdN (e := 13) E 0 rfl (by omega) rfl (v := nI (sS S1 4)) (RR_S hRR1 (j := 4) (by decide)) dX8_look_113 ?_
            refine g_goto (tgt := 118) E dX8_look_114 (by decide) ?_
            refine g_iaddN (a := bk (sB S1) 0 5) (b := sS S1 4) E dX8_look_118 ?_
            refine g_aload_n E dX8_look_119 rfl 3 rfl ?_
            refine g_bipush (v := 14) E dX8_look_120 (by decide) ?_
            refine g_ialdN (e := 14) E 0 rfl (by omega) rfl (v := nI (sS S1 5)) (RR_S hRR1 (j := 5) (by decide)) dX8_look_122 ?_
            refine g_icmp_leN (tgt := 133) (a := bk (sB S1) 0 5 + (sS S1 4)) (b := sS S1 5) E dX8_look_123 (by decide) (by omega) (by omega) (fun c20 => ?_) (fun c20 => ?_)
            · skip
              try rw [Nat.add_zero] at c20
              refine g_aload_n E dX8_look_133 rfl 3 rfl ?_
              refine g_iload_n E dX8_look_134 rfl 2 rfl ?_
              refine g_iconst (v := 3) E dX8_look_135 (by decide) ?_
              refine g_callSIe (F := [(r, .inl (gy G 0, 271, .inl (upd f 8 ((sI S 8 4) + 1))))]) (ws2 := [(r, .inl (gy G 0, 271, .inl (upd f 8 ((sI S 8 4) + 1))))]) E (mX8_prisonerAt G (bk (sB S) 0 3) 3 (by omega) (by omega)) gX8_look_X8_prisonerAt rfl hnX8_prisonerAt ⟨Nat.le_of_ble_eq_true rfl, Nat.le_of_ble_eq_true rfl⟩ (gPerm_ix [0] rfl rfl) rfl rfl (Nat.le_of_ble_eq_true rfl) dX8_look_136 ⟨Nat.le_of_ble_eq_true rfl, Nat.le_of_ble_eq_true rfl⟩ (gPerm_ix [0] rfl rfl) ?_
              refine g_dup2 E dX8_look_139 rfl rfl ?_
              refine g_ialdN (e := 15 + 6 * (bk (sB S) 0 3) + 3) E 0 rfl (by omega) rfl (v := sI S1 3 (bk (sB S) 0 3)) (RR_P hRR1 (p := bk (sB S) 0 3) (w := 3) (by omega) (by omega)) dX8_look_140 ?_
              refine g_iconst (v := 1) E dX8_look_141 (by decide) ?_
              refine g_iadd E dX8_look_142 ?_
              refine g_iast (ws' := [(r, .inl (gy G 0, 271, .inl (upd (upd f 8 ((sI S 8 4) + 1)) (15 + 6 * (bk (sB S) 0 3) + 3) ((sI S1 3 (bk (sB S) 0 3)) + 1))))]) (j := 15 + 6 * (bk (sB S) 0 3) + 3) (y := (sI S1 3 (bk (sB S) 0 3)) + 1) E 0 rfl (g_in (e := 15 + 6 * (bk (sB S) 0 3) + 3) (by omega) rfl) (nI_clamp (n := 15 + 6 * (bk (sB S) 0 3) + 3) (by omega)) rfl rfl dX8_look_143 ?_
              have hRR21 : RR (uI S1 3 (upd (sI S1 3) (bk (sB S) 0 3) (sI S1 3 (bk (sB S) 0 3) + 1))) (upd (upd f 8 ((sI S 8 4) + 1)) (15 + 6 * (bk (sB S) 0 3) + 3) ((sI S1 3 (bk (sB S) 0 3)) + 1)) := RR_uP hRR1 (by omega) (by decide)
              refine g_aload_n E dX8_look_144 rfl 3 rfl ?_
              refine g_iload_n E dX8_look_145 rfl 2 rfl ?_
              refine g_iconst (v := 4) E dX8_look_146 (by decide) ?_
              refine g_callSIe (F := [(r, .inl (gy G 0, 271, .inl (upd (upd f 8 ((sI S 8 4) + 1)) (15 + 6 * (bk (sB S) 0 3) + 3) ((sI S1 3 (bk (sB S) 0 3)) + 1))))]) (ws2 := [(r, .inl (gy G 0, 271, .inl (upd (upd f 8 ((sI S 8 4) + 1)) (15 + 6 * (bk (sB S) 0 3) + 3) ((sI S1 3 (bk (sB S) 0 3)) + 1))))]) E (mX8_prisonerAt G (bk (sB S) 0 3) 4 (by omega) (by omega)) gX8_look_X8_prisonerAt rfl hnX8_prisonerAt ⟨Nat.le_of_ble_eq_true rfl, Nat.le_of_ble_eq_true rfl⟩ (gPerm_ix [0] rfl rfl) rfl rfl (Nat.le_of_ble_eq_true rfl) dX8_look_147 ⟨Nat.le_of_ble_eq_true rfl, Nat.le_of_ble_eq_true rfl⟩ (gPerm_ix [0] rfl rfl) ?_
              refine g_dup2 E dX8_look_150 rfl rfl ?_
              refine g_ialdN (e := 15 + 6 * (bk (sB S) 0 3) + 4) E 0 rfl (by omega) rfl (v := sI (uI S1 3 (upd (sI S1 3) (bk (sB S) 0 3) (sI S1 3 (bk (sB S) 0 3) + 1))) 4 (bk (sB S) 0 3)) (RR_P hRR21 (p := bk (sB S) 0 3) (w := 4) (by omega) (by omega)) dX8_look_151 ?_
              refine g_iconst (v := 1) E dX8_look_152 (by decide) ?_
              refine g_iadd E dX8_look_153 ?_
              refine g_iast (ws' := [(r, .inl (gy G 0, 271, .inl (upd (upd (upd f 8 ((sI S 8 4) + 1)) (15 + 6 * (bk (sB S) 0 3) + 3) ((sI S1 3 (bk (sB S) 0 3)) + 1)) (15 + 6 * (bk (sB S) 0 3) + 4) ((sI (uI S1 3 (upd (sI S1 3) (bk (sB S) 0 3) (sI S1 3 (bk (sB S) 0 3) + 1))) 4 (bk (sB S) 0 3)) + 1))))]) (j := 15 + 6 * (bk (sB S) 0 3) + 4) (y := (sI (uI S1 3 (upd (sI S1 3) (bk (sB S) 0 3) (sI S1 3 (bk (sB S) 0 3) + 1))) 4 (bk (sB S) 0 3)) + 1) E 0 rfl (g_in (e := 15 + 6 * (bk (sB S) 0 3) + 4) (by omega) rfl) (nI_clamp (n := 15 + 6 * (bk (sB S) 0 3) + 4) (by omega)) rfl rfl dX8_look_154 ?_
              have hRR22 : RR (gHeld S1 (bk (sB S) 0 3)) (upd (upd (upd f 8 ((sI S 8 4) + 1)) (15 + 6 * (bk (sB S) 0 3) + 3) ((sI S1 3 (bk (sB S) 0 3)) + 1)) (15 + 6 * (bk (sB S) 0 3) + 4) ((sI (uI S1 3 (upd (sI S1 3) (bk (sB S) 0 3) (sI S1 3 (bk (sB S) 0 3) + 1))) 4 (bk (sB S) 0 3)) + 1)) := RR_uP hRR21 (by omega) (by decide)
              refine g_iconst (v := 0) E dX8_look_155 (by decide) ?_
              exact RET _ _ _ _ (⟨(gLookR_1 (r := 0) (T := S1) eS1 (by simp [gJudge, gSearch, ← hm1, c2, c3, c4, c13, c19, c20])), (by rw [gLookR_0 (T := S1) eS1 (by simp [gJudge, gSearch, ← hm1, c2, c3, c4, c13, c19, c20])]; exact hRR22)⟩) rfl dX8_look_156
            · skip
              try rw [Nat.add_zero] at c20
              refine g_aload_n E dX8_look_126 rfl 3 rfl ?_
              refine g_iload_n E dX8_look_127 rfl 1 rfl ?_
              refine g_callSV (F := []) E (mX8_strike G r S1 (upd f 8 ((sI S 8 4) + 1)) (bk (sB S) 0 4) hI1 hT1 hRR1 (by omega) hst1) gX8_look_X8_strike rfl hnX8_strike ⟨Nat.le_of_ble_eq_true rfl, Nat.le_of_ble_eq_true rfl⟩ (gPerm_ix [0] rfl rfl) rfl rfl (Nat.le_of_ble_eq_true rfl) dX8_look_128 ⟨Nat.le_of_ble_eq_true rfl, Nat.le_of_ble_eq_true rfl⟩ (fun u23 hU23 => ?_)
              obtain ⟨S23, xE23⟩ : ∃ x, x = gStrike S1 (bk (sB S) 0 4) := ⟨_, rfl⟩
              have hRR23 : RR S23 u23 := by rw [xE23]; exact hU23
              refine g_perm (ws1 := [(r, .inl (gy G 0, 271, .inl u23))]) (gPerm_ix [0] rfl rfl) ?_
              refine g_iconst (v := 3) E dX8_look_131 (by decide) ?_
              exact RET _ _ _ _ (⟨(gLookR_1 (r := 3) (T := S23) eS1 (by simp [gJudge, gSearch, ← hm1, c2, c3, c4, c13, c19, c20]; rw [xE23, gStrike]; split <;> rfl)), (by rw [gLookR_2 (r := 3) (T := S23) eS1 (by simp [gJudge, gSearch, ← hm1, c2, c3, c4, c13, c19, c20]; rw [xE23, gStrike]; split <;> rfl) (by decide)]; exact hRR23)⟩) rfl dX8_look_132
          · skip
            rw [gIte1] at c19
            refine g_aload_n E dX8_look_91 rfl 3 rfl ?_
            refine g_iload_n E dX8_look_92 rfl 2 rfl ?_
            refine g_iload_n E dX8_look_93 rfl 1 rfl ?_
            refine g_callSV (F := []) E (mX8_find G r S1 (upd f 8 ((sI S 8 4) + 1)) (bk (sB S) 0 3) (bk (sB S) 0 4) hI1 hT1 hRR1 (by omega) (by omega)) gX8_look_X8_find rfl hnX8_find ⟨Nat.le_of_ble_eq_true rfl, Nat.le_of_ble_eq_true rfl⟩ (gPerm_ix [0] rfl rfl) rfl rfl (Nat.le_of_ble_eq_true rfl) dX8_look_94 ⟨Nat.le_of_ble_eq_true rfl, Nat.le_of_ble_eq_true rfl⟩ (fun u25 hU25 => ?_)
            obtain ⟨S25, xE25⟩ : ∃ x, x = gTake (gBan (uI S1 9 (fun _ => gWb (sI S1 9 0) (nI (bk (sB S) 0 4)) 0)) (bk (sB S) 0 4)) (bk (sB S) 0 3) := ⟨_, rfl⟩
            have hRR25 : RR S25 u25 := by rw [xE25]; exact hU25
            have hI25 : gI1 S25 := by rw [xE25]; exact gI1_take (gI1_ban (gI1_uI hI1) _) _
            have hT25 : sN S25 0 < 1000000000 := by rw [xE25]; exact gT_take (gT_ban (gT_uI hT1) _) _
            refine g_perm (ws1 := [(r, .inl (gy G 0, 271, .inl u25))]) (gPerm_ix [0] rfl rfl) ?_
            refine g_iconst (v := 2) E dX8_look_97 (by decide) ?_
            exact RET _ _ _ _ (⟨(gLookR_1 (r := 2) (T := S25) eS1 (by rw [xE25]; simp [gJudge, gSearch, ← hm1, c2, c3, c4, c13, c19])), (by rw [gLookR_2 (r := 2) (T := S25) eS1 (by rw [xE25]; simp [gJudge, gSearch, ← hm1, c2, c3, c4, c13, c19]) (by decide)]; exact hRR25)⟩) rfl dX8_look_98
    · skip
      refine g_iconst (v := 1) E dX8_look_46 (by decide) ?_
      exact RET _ _ _ _ (⟨(gLookR_1 (r := 1) (T := S1) eS1 (by simp [gJudge, gSearch, ← hm1, c2, c3])), (by rw [gLookR_2 (r := 1) (T := S1) eS1 (by simp [gJudge, gSearch, ← hm1, c2, c3]) (by decide)]; exact hRR1)⟩) rfl dX8_look_47
