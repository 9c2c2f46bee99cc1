/-- what a command does -/
def gDo (S : gSt) (wd : Nat) (nm : Nat → Int32) : Int32 × gSt :=
  if wd = 0 then gTryAdd S (nm 0) else if wd = 1 then gTryList S (nm 0) (nm 1) 1 else if wd = 2 then gTryBook S (nm 0) (nm 1) (nm 2) (nm 3)
  else if wd = 3 then gTryWish S (nm 0) (nm 1) else if wd = 4 then gTryCarry S (nm 0) 1 else (sI (gDays (nm 0).toNatClampNeg S) 8 0 - sI S 8 0, gDays (nm 0).toNatClampNeg S)
theorem gI1_do {S : gSt} (h : gI1 S) (wd : Nat) (nm : Nat → Int32) : gI1 (gDo S wd nm).2 := by
  unfold gDo
  split
  · exact gI1_tryAdd h _
  · split
    · exact gI1_tryList h _ _ _
    · split
      · exact gI1_tryBook h _ _ _ _
      · split
        · exact gI1_tryWish h _ _
        · split
          · exact gI1_tryCarry h _ _
          · exact gI1_days h _
theorem gTryAdd_0 (S : gSt) (r : Int32) : sN (gTryAdd S r).2 0 = sN S 0 := by
  unfold gTryAdd
  repeat' split
  all_goals rfl
theorem gTryList_0 (S : gSt) (p v b : Int32) : sN (gTryList S p v b).2 0 = sN S 0 := by
  unfold gTryList
  repeat' split
  all_goals rfl
theorem gTryBook_0 (S : gSt) (p v d t : Int32) : sN (gTryBook S p v d t).2 0 = sN S 0 := by
  unfold gTryBook
  repeat' split
  all_goals rfl
theorem gTryWish_0 (S : gSt) (p v : Int32) : sN (gTryWish S p v).2 0 = sN S 0 := by
  unfold gTryWish
  repeat' split
  all_goals rfl
theorem gTryCarry_0 (S : gSt) (v b : Int32) : sN (gTryCarry S v b).2 0 = sN S 0 := by
  unfold gTryCarry
  repeat' split
  all_goals rfl
theorem gDo_0 (S : gSt) (wd : Nat) (nm : Nat → Int32) (h5 : wd = 5 → nm 0 = nI (nm 0).toNatClampNeg ∧ (nm 0).toNatClampNeg ≤ 30) (hw : wd < 6) : sN (gDo S wd nm).2 0 ≤ sN S 0 + 30 := by
  unfold gDo
  split
  · rw [gTryAdd_0]; omega
  · split
    · rw [gTryList_0]; omega
    · split
      · rw [gTryBook_0]; omega
      · split
        · rw [gTryWish_0]; omega
        · split
          · rw [gTryCarry_0]; omega
          · have := (h5 (by omega)).2
            show sN (gDays (nm 0).toNatClampNeg S) 0 ≤ _
            rw [gDays_0]
            omega
set_option maxHeartbeats 4000000 in
set_option maxRecDepth 100000 in
theorem mX5_doCommand (G : gG) (t0 t1 t2 : Nat) (n y wd : Nat) (sg nm : Nat → Int32) (a : Nat → Nat) (S : gSt) (gb gw : Nat → Int32) (hw6 : wd < 6) (h5 : wd = 5 → nm 0 = nI (nm 0).toNatClampNeg ∧ (nm 0).toNatClampNeg ≤ 30) (hI : gI1 S) (hT : sN S 0 < 1000000000) (hR : RB (sB S) gb) (hQ : RW (sW S) gw) (hT8 : sN S 0 + 30 < 200000000) : CIu G yX5_doCommand wsX5_doCommand 5 163 [.ref t0, .ref (a 0)] [(t0, .inr (5, [.int (nI n), .ref t1, .int (nI y), .int (nI wd), .ref t2])), (t1, .inl (gy G 1, 120, .inl sg)), (t2, .inl (gy G 0, 4, .inl nm)), (a 0, .inr (3, [.int (nI (sN S 0)), .int (nI (sN S 1)), .ref (a 1), .ref (a 2), .ref (a 3), .ref (a 4), .ref (a 5), .ref (a 6), .ref (a 7), .ref (a 8), .int (sI S 9 0), .ref (a 9), .ref (a 11), .ref (a 13), .ref (a 14)])), (a 1, .inl (gy G 0, 8, .inl (sI S 0))), (a 2, .inl (gy G 0, 8, .inl (sI S 1))), (a 3, .inl (gy G 0, 8, .inl (sI S 2))), (a 4, .inl (gy G 0, 8, .inl (sI S 3))), (a 5, .inl (gy G 0, 8, .inl (sI S 4))), (a 6, .inl (gy G 0, 8, .inl (sI S 5))), (a 7, .inl (gy G 0, 10, .inl (sI S 6))), (a 8, .inl (gy G 0, 10, .inl (sI S 7))), (a 9, .inr (1, [.int (nI ((sB S).length)), .ref (a 10)])), (a 10, .inl (gy G 0, 144, .inl gb)), (a 11, .inr (6, [.int (nI ((sW S).length)), .ref (a 12)])), (a 12, .inl (gy G 0, 10, .inl gw)), (a 13, .inl (gy G 0, 5, .inl (sI S 8))), (a 14, .inl (gy G 0, 6, .inl (fun j => nI (sS S j))))] ((gDo S wd nm).1) (fun u : gU => u.1 = (gDo S wd nm).2 ∧ RB (sB u.1) u.2.1 ∧ RW (sW u.1) u.2.2) (fun (u : gU) => [(t0, .inr (5, [.int (nI n), .ref t1, .int (nI y), .int (nI wd), .ref t2])), (t1, .inl (gy G 1, 120, .inl sg)), (t2, .inl (gy G 0, 4, .inl nm)), (a 0, .inr (3, [.int (nI (sN u.1 0)), .int (nI (sN u.1 1)), .ref (a 1), .ref (a 2), .ref (a 3), .ref (a 4), .ref (a 5), .ref (a 6), .ref (a 7), .ref (a 8), .int (sI u.1 9 0), .ref (a 9), .ref (a 11), .ref (a 13), .ref (a 14)])), (a 1, .inl (gy G 0, 8, .inl (sI u.1 0))), (a 2, .inl (gy G 0, 8, .inl (sI u.1 1))), (a 3, .inl (gy G 0, 8, .inl (sI u.1 2))), (a 4, .inl (gy G 0, 8, .inl (sI u.1 3))), (a 5, .inl (gy G 0, 8, .inl (sI u.1 4))), (a 6, .inl (gy G 0, 8, .inl (sI u.1 5))), (a 7, .inl (gy G 0, 10, .inl (sI u.1 6))), (a 8, .inl (gy G 0, 10, .inl (sI u.1 7))), (a 9, .inr (1, [.int (nI ((sB u.1).length)), .ref (a 10)])), (a 10, .inl (gy G 0, 144, .inl u.2.1)), (a 11, .inr (6, [.int (nI ((sW u.1).length)), .ref (a 12)])), (a 12, .inl (gy G 0, 10, .inl u.2.2)), (a 13, .inl (gy G 0, 5, .inl (sI u.1 8))), (a 14, .inl (gy G 0, 6, .inl (fun j => nI (sS u.1 j))))]) 0 0 := by
  refine g_enterIu (ty := .int) RX5 rfl (by decide) rfl (Nat.le_of_ble_eq_true rfl) ?_
  intro V E RET
  have hX := hI
  obtain ⟨hP8, hn, hw, hW8, hs3, hs4, hs5, hs6, hs7, hs8, hb34⟩ := hX
  have h8 : ∀ j, j < (sW S).length → wq (sW S) j < 80 := fun j hj => (hW8 j hj).1
  refine g_aload_n E dX5_doCommand_0 rfl 0 rfl ?_
  refine g_get E uX5_doCommand_RX5 0 rfl rfl 3 (by decide) kX5_doCommand_40 rfl rfl dX5_doCommand_1 ?_
  rcases (show wd = 0 ∨ wd = 1 ∨ wd = 2 ∨ wd = 3 ∨ wd = 4 ∨ wd = 5 by omega) with k1 | k1 | k1 | k1 | k1 | k1
  · skip
    refine g_top (y := 0) (by rw [k1]; rfl) ?_
    refine g_tableIn (tgt := 44) E dX5_doCommand_4 (by decide) (by decide) rfl (by decide) ?_
    refine g_aload_n E dX5_doCommand_44 rfl 1 rfl ?_
    refine g_aload_n E dX5_doCommand_45 rfl 0 rfl ?_
    refine g_get E uX5_doCommand_RX5 0 rfl rfl 4 (by decide) kX5_doCommand_15 rfl rfl dX5_doCommand_46 ?_
    refine g_iconst (v := 0) E dX5_doCommand_49 (by decide) ?_
    refine g_ialdN (e := 0) E 2 rfl (by omega) rfl (v := nm 0) rfl dX5_doCommand_50 ?_
    refine g_callVIu (F := [(t0, .inr (5, [.int (nI n), .ref t1, .int (nI y), .int (nI wd), .ref t2])), (t1, .inl (gy G 1, 120, .inl sg)), (t2, .inl (gy G 0, 4, .inl nm))]) E (mX2_tryAdd G a S gb gw (nm 0) hI hT hR hQ ) gX5_doCommand_X2_tryAdd rfl hdX2_tryAdd ⟨Nat.le_of_ble_eq_true rfl, Nat.le_of_ble_eq_true rfl⟩ 3 0 rfl rfl rfl (gPerm_ix [3, 4, 5, 6, 7, 8, 9, 10, 11, 12, 13, 14, 15, 16, 17, 0, 1, 2] rfl rfl) rfl rfl (Nat.le_of_ble_eq_true rfl) dX5_doCommand_51 ⟨Nat.le_of_ble_eq_true rfl, Nat.le_of_ble_eq_true rfl⟩ (fun u2 h2 => ?_)
    obtain ⟨S2, gb2, gw2⟩ := u2
    obtain ⟨hS2, hR2, hQ2⟩ := h2
    have xE2 : S2 = (gTryAdd S (nm 0)).2 := hS2
    have hI2 : gI1 S2 := by rw [xE2]; exact gI1_tryAdd hI _
    have hT2 : sN S2 0 < 1000000000 := by rw [xE2]; exact gT_tryAdd hT _
    refine g_perm (ws1 := [(t0, .inr (5, [.int (nI n), .ref t1, .int (nI y), .int (nI wd), .ref t2])), (t1, .inl (gy G 1, 120, .inl sg)), (t2, .inl (gy G 0, 4, .inl nm)), (a 0, .inr (3, [.int (nI (sN S2 0)), .int (nI (sN S2 1)), .ref (a 1), .ref (a 2), .ref (a 3), .ref (a 4), .ref (a 5), .ref (a 6), .ref (a 7), .ref (a 8), .int (sI S2 9 0), .ref (a 9), .ref (a 11), .ref (a 13), .ref (a 14)])), (a 1, .inl (gy G 0, 8, .inl (sI S2 0))), (a 2, .inl (gy G 0, 8, .inl (sI S2 1))), (a 3, .inl (gy G 0, 8, .inl (sI S2 2))), (a 4, .inl (gy G 0, 8, .inl (sI S2 3))), (a 5, .inl (gy G 0, 8, .inl (sI S2 4))), (a 6, .inl (gy G 0, 8, .inl (sI S2 5))), (a 7, .inl (gy G 0, 10, .inl (sI S2 6))), (a 8, .inl (gy G 0, 10, .inl (sI S2 7))), (a 9, .inr (1, [.int (nI ((sB S2).length)), .ref (a 10)])), (a 10, .inl (gy G 0, 144, .inl gb2)), (a 11, .inr (6, [.int (nI ((sW S2).length)), .ref (a 12)])), (a 12, .inl (gy G 0, 10, .inl gw2)), (a 13, .inl (gy G 0, 5, .inl (sI S2 8))), (a 14, .inl (gy G 0, 6, .inl (fun j => nI (sS S2 j))))]) (gPerm_ix [15, 16, 17, 0, 1, 2, 3, 4, 5, 6, 7, 8, 9, 10, 11, 12, 13, 14] rfl rfl) ?_
    exact RET _ _ _ (S2, gb2, gw2) (⟨by simp [gDo, k1], by simp [gDo, k1]; exact xE2, hR2, hQ2⟩) rfl dX5_doCommand_54
  · skip
    refine g_top (y := 1) (by rw [k1]; rfl) ?_
    refine g_tableIn (tgt := 55) E dX5_doCommand_4 (by decide) (by decide) rfl (by decide) ?_
    refine g_aload_n E dX5_doCommand_55 rfl 1 rfl ?_
    refine g_aload_n E dX5_doCommand_56 rfl 0 rfl ?_
    refine g_get E uX5_doCommand_RX5 0 rfl rfl 4 (by decide) kX5_doCommand_15 rfl rfl dX5_doCommand_57 ?_
    refine g_iconst (v := 0) E dX5_doCommand_60 (by decide) ?_
    refine g_ialdN (e := 0) E 2 rfl (by omega) rfl (v := nm 0) rfl dX5_doCommand_61 ?_
    refine g_aload_n E dX5_doCommand_62 rfl 0 rfl ?_
    refine g_get E uX5_doCommand_RX5 0 rfl rfl 4 (by decide) kX5_doCommand_15 rfl rfl dX5_doCommand_63 ?_
    refine g_iconst (v := 1) E dX5_doCommand_66 (by decide) ?_
    refine g_ialdN (e := 1) E 2 rfl (by omega) rfl (v := nm 1) rfl dX5_doCommand_67 ?_
    refine g_iconst (v := 1) E dX5_doCommand_68 (by decide) ?_
    refine g_callVIu (F := [(t0, .inr (5, [.int (nI n), .ref t1, .int (nI y), .int (nI wd), .ref t2])), (t1, .inl (gy G 1, 120, .inl sg)), (t2, .inl (gy G 0, 4, .inl nm))]) E (mX2_tryList G a S gb gw (nm 0) (nm 1) 1 hI hT hR hQ ) gX5_doCommand_X2_tryList rfl hdX2_tryList ⟨Nat.le_of_ble_eq_true rfl, Nat.le_of_ble_eq_true rfl⟩ 3 0 rfl rfl rfl (gPerm_ix [3, 4, 5, 6, 7, 8, 9, 10, 11, 12, 13, 14, 15, 16, 17, 0, 1, 2] rfl rfl) rfl rfl (Nat.le_of_ble_eq_true rfl) dX5_doCommand_69 ⟨Nat.le_of_ble_eq_true rfl, Nat.le_of_ble_eq_true rfl⟩ (fun u4 h4 => ?_)
    obtain ⟨S4, gb4, gw4⟩ := u4
    obtain ⟨hS4, hR4, hQ4⟩ := h4
    have xE4 : S4 = (gTryList S (nm 0) (nm 1) 1).2 := hS4
    have hI4 : gI1 S4 := by rw [xE4]; exact gI1_tryList hI _ _ _
    have hT4 : sN S4 0 < 1000000000 := by rw [xE4]; exact gT_tryList hT _ _ _
    refine g_perm (ws1 := [(t0, .inr (5, [.int (nI n), .ref t1, .int (nI y), .int (nI wd), .ref t2])), (t1, .inl (gy G 1, 120, .inl sg)), (t2, .inl (gy G 0, 4, .inl nm)), (a 0, .inr (3, [.int (nI (sN S4 0)), .int (nI (sN S4 1)), .ref (a 1), .ref (a 2), .ref (a 3), .ref (a 4), .ref (a 5), .ref (a 6), .ref (a 7), .ref (a 8), .int (sI S4 9 0), .ref (a 9), .ref (a 11), .ref (a 13), .ref (a 14)])), (a 1, .inl (gy G 0, 8, .inl (sI S4 0))), (a 2, .inl (gy G 0, 8, .inl (sI S4 1))), (a 3, .inl (gy G 0, 8, .inl (sI S4 2))), (a 4, .inl (gy G 0, 8, .inl (sI S4 3))), (a 5, .inl (gy G 0, 8, .inl (sI S4 4))), (a 6, .inl (gy G 0, 8, .inl (sI S4 5))), (a 7, .inl (gy G 0, 10, .inl (sI S4 6))), (a 8, .inl (gy G 0, 10, .inl (sI S4 7))), (a 9, .inr (1, [.int (nI ((sB S4).length)), .ref (a 10)])), (a 10, .inl (gy G 0, 144, .inl gb4)), (a 11, .inr (6, [.int (nI ((sW S4).length)), .ref (a 12)])), (a 12, .inl (gy G 0, 10, .inl gw4)), (a 13, .inl (gy G 0, 5, .inl (sI S4 8))), (a 14, .inl (gy G 0, 6, .inl (fun j => nI (sS S4 j))))]) (gPerm_ix [15, 16, 17, 0, 1, 2, 3, 4, 5, 6, 7, 8, 9, 10, 11, 12, 13, 14] rfl rfl) ?_
    exact RET _ _ _ (S4, gb4, gw4) (⟨by simp [gDo, k1], by simp [gDo, k1]; exact xE4, hR4, hQ4⟩) rfl dX5_doCommand_72
  · skip
    refine g_top (y := 2) (by rw [k1]; rfl) ?_
    refine g_tableIn (tgt := 73) E dX5_doCommand_4 (by decide) (by decide) rfl (by decide) ?_
    refine g_aload_n E dX5_doCommand_73 rfl 1 rfl ?_
    refine g_aload_n E dX5_doCommand_74 rfl 0 rfl ?_
    refine g_get E uX5_doCommand_RX5 0 rfl rfl 4 (by decide) kX5_doCommand_15 rfl rfl dX5_doCommand_75 ?_
    refine g_iconst (v := 0) E dX5_doCommand_78 (by decide) ?_
    refine g_ialdN (e := 0) E 2 rfl (by omega) rfl (v := nm 0) rfl dX5_doCommand_79 ?_
    refine g_aload_n E dX5_doCommand_80 rfl 0 rfl ?_
    refine g_get E uX5_doCommand_RX5 0 rfl rfl 4 (by decide) kX5_doCommand_15 rfl rfl dX5_doCommand_81 ?_
    refine g_iconst (v := 1) E dX5_doCommand_84 (by decide) ?_
    refine g_ialdN (e := 1) E 2 rfl (by omega) rfl (v := nm 1) rfl dX5_doCommand_85 ?_
    refine g_aload_n E dX5_doCommand_86 rfl 0 rfl ?_
    refine g_get E uX5_doCommand_RX5 0 rfl rfl 4 (by decide) kX5_doCommand_15 rfl rfl dX5_doCommand_87 ?_
    refine g_iconst (v := 2) E dX5_doCommand_90 (by decide) ?_
    refine g_ialdN (e := 2) E 2 rfl (by omega) rfl (v := nm 2) rfl dX5_doCommand_91 ?_
    refine g_aload_n E dX5_doCommand_92 rfl 0 rfl ?_
    refine g_get E uX5_doCommand_RX5 0 rfl rfl 4 (by decide) kX5_doCommand_15 rfl rfl dX5_doCommand_93 ?_
    refine g_iconst (v := 3) E dX5_doCommand_96 (by decide) ?_
    refine g_ialdN (e := 3) E 2 rfl (by omega) rfl (v := nm 3) rfl dX5_doCommand_97 ?_
    refine g_callVIu (F := [(t0, .inr (5, [.int (nI n), .ref t1, .int (nI y), .int (nI wd), .ref t2])), (t1, .inl (gy G 1, 120, .inl sg)), (t2, .inl (gy G 0, 4, .inl nm))]) E (mX2_tryBook G a S gb gw (nm 0) (nm 1) (nm 2) (nm 3) hI hT hR hQ ) gX5_doCommand_X2_tryBook rfl hdX2_tryBook ⟨Nat.le_of_ble_eq_true rfl, Nat.le_of_ble_eq_true rfl⟩ 3 0 rfl rfl rfl (gPerm_ix [3, 4, 5, 6, 7, 8, 9, 10, 11, 12, 13, 14, 15, 16, 17, 0, 1, 2] rfl rfl) rfl rfl (Nat.le_of_ble_eq_true rfl) dX5_doCommand_98 ⟨Nat.le_of_ble_eq_true rfl, Nat.le_of_ble_eq_true rfl⟩ (fun u6 h6 => ?_)
    obtain ⟨S6, gb6, gw6⟩ := u6
    obtain ⟨hS6, hR6, hQ6⟩ := h6
    have xE6 : S6 = (gTryBook S (nm 0) (nm 1) (nm 2) (nm 3)).2 := hS6
    have hI6 : gI1 S6 := by rw [xE6]; exact gI1_tryBook hI _ _ _ _
    have hT6 : sN S6 0 < 1000000000 := by rw [xE6]; exact gT_tryBook hT _ _ _ _
    refine g_perm (ws1 := [(t0, .inr (5, [.int (nI n), .ref t1, .int (nI y), .int (nI wd), .ref t2])), (t1, .inl (gy G 1, 120, .inl sg)), (t2, .inl (gy G 0, 4, .inl nm)), (a 0, .inr (3, [.int (nI (sN S6 0)), .int (nI (sN S6 1)), .ref (a 1), .ref (a 2), .ref (a 3), .ref (a 4), .ref (a 5), .ref (a 6), .ref (a 7), .ref (a 8), .int (sI S6 9 0), .ref (a 9), .ref (a 11), .ref (a 13), .ref (a 14)])), (a 1, .inl (gy G 0, 8, .inl (sI S6 0))), (a 2, .inl (gy G 0, 8, .inl (sI S6 1))), (a 3, .inl (gy G 0, 8, .inl (sI S6 2))), (a 4, .inl (gy G 0, 8, .inl (sI S6 3))), (a 5, .inl (gy G 0, 8, .inl (sI S6 4))), (a 6, .inl (gy G 0, 8, .inl (sI S6 5))), (a 7, .inl (gy G 0, 10, .inl (sI S6 6))), (a 8, .inl (gy G 0, 10, .inl (sI S6 7))), (a 9, .inr (1, [.int (nI ((sB S6).length)), .ref (a 10)])), (a 10, .inl (gy G 0, 144, .inl gb6)), (a 11, .inr (6, [.int (nI ((sW S6).length)), .ref (a 12)])), (a 12, .inl (gy G 0, 10, .inl gw6)), (a 13, .inl (gy G 0, 5, .inl (sI S6 8))), (a 14, .inl (gy G 0, 6, .inl (fun j => nI (sS S6 j))))]) (gPerm_ix [15, 16, 17, 0, 1, 2, 3, 4, 5, 6, 7, 8, 9, 10, 11, 12, 13, 14] rfl rfl) ?_
    exact RET _ _ _ (S6, gb6, gw6) (⟨by simp [gDo, k1], by simp [gDo, k1]; exact xE6, hR6, hQ6⟩) rfl dX5_doCommand_101
  · skip
    refine g_top (y := 3) (by rw [k1]; rfl) ?_
    refine g_tableIn (tgt := 102) E dX5_doCommand_4 (by decide) (by decide) rfl (by decide) ?_
    refine g_aload_n E dX5_doCommand_102 rfl 1 rfl ?_
    refine g_aload_n E dX5_doCommand_103 rfl 0 rfl ?_
    refine g_get E uX5_doCommand_RX5 0 rfl rfl 4 (by decide) kX5_doCommand_15 rfl rfl dX5_doCommand_104 ?_
    refine g_iconst (v := 0) E dX5_doCommand_107 (by decide) ?_
    refine g_ialdN (e := 0) E 2 rfl (by omega) rfl (v := nm 0) rfl dX5_doCommand_108 ?_
    refine g_aload_n E dX5_doCommand_109 rfl 0 rfl ?_
    refine g_get E uX5_doCommand_RX5 0 rfl rfl 4 (by decide) kX5_doCommand_15 rfl rfl dX5_doCommand_110 ?_
    refine g_iconst (v := 1) E dX5_doCommand_113 (by decide) ?_
    refine g_ialdN (e := 1) E 2 rfl (by omega) rfl (v := nm 1) rfl dX5_doCommand_114 ?_
    refine g_callVIu (F := [(t0, .inr (5, [.int (nI n), .ref t1, .int (nI y), .int (nI wd), .ref t2])), (t1, .inl (gy G 1, 120, .inl sg)), (t2, .inl (gy G 0, 4, .inl nm))]) E (mX2_tryWish G a S gb gw (nm 0) (nm 1) hI hT hR hQ ) gX5_doCommand_X2_tryWish rfl hdX2_tryWish ⟨Nat.le_of_ble_eq_true rfl, Nat.le_of_ble_eq_true rfl⟩ 3 0 rfl rfl rfl (gPerm_ix [3, 4, 5, 6, 7, 8, 9, 10, 11, 12, 13, 14, 15, 16, 17, 0, 1, 2] rfl rfl) rfl rfl (Nat.le_of_ble_eq_true rfl) dX5_doCommand_115 ⟨Nat.le_of_ble_eq_true rfl, Nat.le_of_ble_eq_true rfl⟩ (fun u8 h8 => ?_)
    obtain ⟨S8, gb8, gw8⟩ := u8
    obtain ⟨hS8, hR8, hQ8⟩ := h8
    have xE8 : S8 = (gTryWish S (nm 0) (nm 1)).2 := hS8
    have hI8 : gI1 S8 := by rw [xE8]; exact gI1_tryWish hI _ _
    have hT8 : sN S8 0 < 1000000000 := by rw [xE8]; exact gT_tryWish hT _ _
    refine g_perm (ws1 := [(t0, .inr (5, [.int (nI n), .ref t1, .int (nI y), .int (nI wd), .ref t2])), (t1, .inl (gy G 1, 120, .inl sg)), (t2, .inl (gy G 0, 4, .inl nm)), (a 0, .inr (3, [.int (nI (sN S8 0)), .int (nI (sN S8 1)), .ref (a 1), .ref (a 2), .ref (a 3), .ref (a 4), .ref (a 5), .ref (a 6), .ref (a 7), .ref (a 8), .int (sI S8 9 0), .ref (a 9), .ref (a 11), .ref (a 13), .ref (a 14)])), (a 1, .inl (gy G 0, 8, .inl (sI S8 0))), (a 2, .inl (gy G 0, 8, .inl (sI S8 1))), (a 3, .inl (gy G 0, 8, .inl (sI S8 2))), (a 4, .inl (gy G 0, 8, .inl (sI S8 3))), (a 5, .inl (gy G 0, 8, .inl (sI S8 4))), (a 6, .inl (gy G 0, 8, .inl (sI S8 5))), (a 7, .inl (gy G 0, 10, .inl (sI S8 6))), (a 8, .inl (gy G 0, 10, .inl (sI S8 7))), (a 9, .inr (1, [.int (nI ((sB S8).length)), .ref (a 10)])), (a 10, .inl (gy G 0, 144, .inl gb8)), (a 11, .inr (6, [.int (nI ((sW S8).length)), .ref (a 12)])), (a 12, .inl (gy G 0, 10, .inl gw8)), (a 13, .inl (gy G 0, 5, .inl (sI S8 8))), (a 14, .inl (gy G 0, 6, .inl (fun j => nI (sS S8 j))))]) (gPerm_ix [15, 16, 17, 0, 1, 2, 3, 4, 5, 6, 7, 8, 9, 10, 11, 12, 13, 14] rfl rfl) ?_
    exact RET _ _ _ (S8, gb8, gw8) (⟨by simp [gDo, k1], by simp [gDo, k1]; exact xE8, hR8, hQ8⟩) rfl dX5_doCommand_118
  · skip
    refine g_top (y := 4) (by rw [k1]; rfl) ?_
    refine g_tableIn (tgt := 119) E dX5_doCommand_4 (by decide) (by decide) rfl (by decide) ?_
    refine g_aload_n E dX5_doCommand_119 rfl 1 rfl ?_
    refine g_aload_n E dX5_doCommand_120 rfl 0 rfl ?_
    refine g_get E uX5_doCommand_RX5 0 rfl rfl 4 (by decide) kX5_doCommand_15 rfl rfl dX5_doCommand_121 ?_
    refine g_iconst (v := 0) E dX5_doCommand_124 (by decide) ?_
    refine g_ialdN (e := 0) E 2 rfl (by omega) rfl (v := nm 0) rfl dX5_doCommand_125 ?_
    refine g_iconst (v := 1) E dX5_doCommand_126 (by decide) ?_
    refine g_callVIu (F := [(t0, .inr (5, [.int (nI n), .ref t1, .int (nI y), .int (nI wd), .ref t2])), (t1, .inl (gy G 1, 120, .inl sg)), (t2, .inl (gy G 0, 4, .inl nm))]) E (mX2_tryCarry G a S gb gw (nm 0) 1 hI hT hR hQ ) gX5_doCommand_X2_tryCarry rfl hdX2_tryCarry ⟨Nat.le_of_ble_eq_true rfl, Nat.le_of_ble_eq_true rfl⟩ 3 0 rfl rfl rfl (gPerm_ix [3, 4, 5, 6, 7, 8, 9, 10, 11, 12, 13, 14, 15, 16, 17, 0, 1, 2] rfl rfl) rfl rfl (Nat.le_of_ble_eq_true rfl) dX5_doCommand_127 ⟨Nat.le_of_ble_eq_true rfl, Nat.le_of_ble_eq_true rfl⟩ (fun u10 h10 => ?_)
    obtain ⟨S10, gb10, gw10⟩ := u10
    obtain ⟨hS10, hR10, hQ10⟩ := h10
    have xE10 : S10 = (gTryCarry S (nm 0) 1).2 := hS10
    have hI10 : gI1 S10 := by rw [xE10]; exact gI1_tryCarry hI _ _
    have hT10 : sN S10 0 < 1000000000 := by rw [xE10]; exact gT_tryCarry hT _ _
    refine g_perm (ws1 := [(t0, .inr (5, [.int (nI n), .ref t1, .int (nI y), .int (nI wd), .ref t2])), (t1, .inl (gy G 1, 120, .inl sg)), (t2, .inl (gy G 0, 4, .inl nm)), (a 0, .inr (3, [.int (nI (sN S10 0)), .int (nI (sN S10 1)), .ref (a 1), .ref (a 2), .ref (a 3), .ref (a 4), .ref (a 5), .ref (a 6), .ref (a 7), .ref (a 8), .int (sI S10 9 0), .ref (a 9), .ref (a 11), .ref (a 13), .ref (a 14)])), (a 1, .inl (gy G 0, 8, .inl (sI S10 0))), (a 2, .inl (gy G 0, 8, .inl (sI S10 1))), (a 3, .inl (gy G 0, 8, .inl (sI S10 2))), (a 4, .inl (gy G 0, 8, .inl (sI S10 3))), (a 5, .inl (gy G 0, 8, .inl (sI S10 4))), (a 6, .inl (gy G 0, 8, .inl (sI S10 5))), (a 7, .inl (gy G 0, 10, .inl (sI S10 6))), (a 8, .inl (gy G 0, 10, .inl (sI S10 7))), (a 9, .inr (1, [.int (nI ((sB S10).length)), .ref (a 10)])), (a 10, .inl (gy G 0, 144, .inl gb10)), (a 11, .inr (6, [.int (nI ((sW S10).length)), .ref (a 12)])), (a 12, .inl (gy G 0, 10, .inl gw10)), (a 13, .inl (gy G 0, 5, .inl (sI S10 8))), (a 14, .inl (gy G 0, 6, .inl (fun j => nI (sS S10 j))))]) (gPerm_ix [15, 16, 17, 0, 1, 2, 3, 4, 5, 6, 7, 8, 9, 10, 11, 12, 13, 14] rfl rfl) ?_
    exact RET _ _ _ (S10, gb10, gw10) (⟨by simp [gDo, k1], by simp [gDo, k1]; exact xE10, hR10, hQ10⟩) rfl dX5_doCommand_130
  · skip
    refine g_top (y := 5) (by rw [k1]; rfl) ?_
    refine g_tableIn (tgt := 131) E dX5_doCommand_4 (by decide) (by decide) rfl (by decide) ?_
    have h5x := h5 k1
    refine g_aload_n E dX5_doCommand_131 rfl 1 rfl ?_
    refine g_aload_n E dX5_doCommand_132 rfl 0 rfl ?_
    refine g_get E uX5_doCommand_RX5 0 rfl rfl 4 (by decide) kX5_doCommand_15 rfl rfl dX5_doCommand_133 ?_
    refine g_iconst (v := 0) E dX5_doCommand_136 (by decide) ?_
    refine g_ialdN (e := 0) E 2 rfl (by omega) rfl (v := nm 0) rfl dX5_doCommand_137 ?_
    refine g_top (y := nI (nm 0).toNatClampNeg) h5x.1 ?_
    have h5y := h5x.2
    refine g_callVIu (F := [(t0, .inr (5, [.int (nI n), .ref t1, .int (nI y), .int (nI wd), .ref t2])), (t1, .inl (gy G 1, 120, .inl sg)), (t2, .inl (gy G 0, 4, .inl nm))]) E (mX2_letDaysPass G a S gb gw ((nm 0).toNatClampNeg) hI hT hR hQ (by omega)) gX5_doCommand_X2_letDaysPass rfl hdX2_letDaysPass ⟨Nat.le_of_ble_eq_true rfl, Nat.le_of_ble_eq_true rfl⟩ 3 0 rfl rfl rfl (gPerm_ix [3, 4, 5, 6, 7, 8, 9, 10, 11, 12, 13, 14, 15, 16, 17, 0, 1, 2] rfl rfl) rfl rfl (Nat.le_of_ble_eq_true rfl) dX5_doCommand_138 ⟨Nat.le_of_ble_eq_true rfl, Nat.le_of_ble_eq_true rfl⟩ (fun u12 h12 => ?_)
    obtain ⟨S12, gb12, gw12⟩ := u12
    obtain ⟨hS12, hR12, hQ12⟩ := h12
    have xE12 : S12 = gDays ((nm 0).toNatClampNeg) S := hS12
    have hI12 : gI1 S12 := by rw [xE12]; exact gI1_days hI _
    have hD12 : sN S12 0 = sN S 0 + ((nm 0).toNatClampNeg) := by rw [xE12]; exact gDays_0 _ _
    have hT12 : sN S12 0 < 1000000000 := by rw [hD12]; exact (by omega)
    refine g_perm (ws1 := [(t0, .inr (5, [.int (nI n), .ref t1, .int (nI y), .int (nI wd), .ref t2])), (t1, .inl (gy G 1, 120, .inl sg)), (t2, .inl (gy G 0, 4, .inl nm)), (a 0, .inr (3, [.int (nI (sN S12 0)), .int (nI (sN S12 1)), .ref (a 1), .ref (a 2), .ref (a 3), .ref (a 4), .ref (a 5), .ref (a 6), .ref (a 7), .ref (a 8), .int (sI S12 9 0), .ref (a 9), .ref (a 11), .ref (a 13), .ref (a 14)])), (a 1, .inl (gy G 0, 8, .inl (sI S12 0))), (a 2, .inl (gy G 0, 8, .inl (sI S12 1))), (a 3, .inl (gy G 0, 8, .inl (sI S12 2))), (a 4, .inl (gy G 0, 8, .inl (sI S12 3))), (a 5, .inl (gy G 0, 8, .inl (sI S12 4))), (a 6, .inl (gy G 0, 8, .inl (sI S12 5))), (a 7, .inl (gy G 0, 10, .inl (sI S12 6))), (a 8, .inl (gy G 0, 10, .inl (sI S12 7))), (a 9, .inr (1, [.int (nI ((sB S12).length)), .ref (a 10)])), (a 10, .inl (gy G 0, 144, .inl gb12)), (a 11, .inr (6, [.int (nI ((sW S12).length)), .ref (a 12)])), (a 12, .inl (gy G 0, 10, .inl gw12)), (a 13, .inl (gy G 0, 5, .inl (sI S12 8))), (a 14, .inl (gy G 0, 6, .inl (fun j => nI (sS S12 j))))]) (gPerm_ix [15, 16, 17, 0, 1, 2, 3, 4, 5, 6, 7, 8, 9, 10, 11, 12, 13, 14] rfl rfl) ?_
    exact RET _ _ _ (S12, gb12, gw12) (⟨by simp [gDo, k1], by simp [gDo, k1]; exact xE12, hR12, hQ12⟩) rfl dX5_doCommand_141
