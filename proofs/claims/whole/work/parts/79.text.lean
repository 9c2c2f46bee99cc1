/-! ===== the text as a whole ===== -/
theorem gRN_ge {n : Nat} {sg : Nat → Int32} {lo hi : Int32} : ∀ (f a : Nat) (v : Int32), a ≤ (gRN n sg lo hi f a v).1
  | 0, _, _ => Nat.le_refl _
  | f + 1, a, v => by
    rw [gRN]
    split
    · have := gRN_ge (n := n) (sg := sg) (lo := lo) (hi := hi) f (a + 1) (gWD v (gSg n sg a))
      omega
    · exact Nat.le_refl _
theorem gRNb_ge {n a i : Nat} {sg nm : Nat → Int32} {k : Int32} : a ≤ (gRNb n sg a nm i k).2.1 := by
  have h : a ≤ (gRNum n sg a k).1 := gRN_ge (n - a) a (-1)
  unfold gRNb
  split <;> exact h
theorem gRK_ge {n wd : Nat} {sg : Nat → Int32} : ∀ (l : List Int32) (i a : Nat) (nm : Nat → Int32), a ≤ (gRK n sg wd l i a nm).2.1
  | [], _, _, _ => Nat.le_refl _
  | k :: l, i, a, nm => by
    rw [gRK]
    have h := gRNb_ge (n := n) (a := a + 1) (i := i) (sg := sg) (nm := nm) (k := k)
    split
    · split
      · have := gRK_ge (n := n) (wd := wd) (sg := sg) l (i + 1) (gRNb n sg (a + 1) nm i k).2.1 (gRNb n sg (a + 1) nm i k).2.2
        omega
      · show a ≤ (gRNb n sg (a + 1) nm i k).2.1
        omega
    · exact Nat.le_refl _
theorem gRK_w {n wd : Nat} {sg : Nat → Int32} : ∀ (l : List Int32) (i a : Nat) (nm : Nat → Int32), (gRK n sg wd l i a nm).2.2.1 = wd
  | [], _, _, _ => rfl
  | k :: l, i, a, nm => by
    rw [gRK]
    split
    · split
      · exact gRK_w l _ _ _
      · rfl
    · rfl
theorem gRWd_ge {n a wd : Nat} {sg : Nat → Int32} (h : (gRWd n sg a wd).1 = true) : a + 3 ≤ (gRWd n sg a wd).2.1 ∧ (gRWd n sg a wd).2.2 < 6 := by
  rw [gRWd_eq] at h ⊢
  split
  · exact ⟨by show a + 3 ≤ a + 3; omega, show 0 < 6 by decide⟩
  · rename_i c0
    rw [if_neg c0] at h
    split
    · exact ⟨by show a + 3 ≤ a + 3; omega, show 1 < 6 by decide⟩
    · rename_i c1
      rw [if_neg c1] at h
      split
      · exact ⟨by show a + 3 ≤ a + 4; omega, show 2 < 6 by decide⟩
      · rename_i c2
        rw [if_neg c2] at h
        split
        · exact ⟨by show a + 3 ≤ a + 4; omega, show 3 < 6 by decide⟩
        · rename_i c3
          rw [if_neg c3] at h
          split
          · exact ⟨by show a + 3 ≤ a + 3; omega, show 4 < 6 by decide⟩
          · rename_i c4
            rw [if_neg c4] at h
            split
            · exact ⟨by show a + 3 ≤ a + 3; omega, show 5 < 6 by decide⟩
            · rename_i c5
              rw [if_neg c5] at h
              cases h
theorem gRC_ge {n a wd : Nat} {sg nm : Nat → Int32} (h : (gRC n sg a wd nm).1 = true) : a + 3 ≤ (gRC n sg a wd nm).2.1 ∧ (gRC n sg a wd nm).2.2.1 < 6 := by
  unfold gRC at h ⊢
  by_cases c : (gRWd n sg a wd).1 = true
  · rw [if_pos c] at h ⊢
    have h1 := gRWd_ge c
    have h2 := gRK_ge (n := n) (sg := sg) (wd := (gRWd n sg a wd).2.2) (gKi_z (gRWd n sg a wd).2.2).2.2.2 0 (gRWd n sg a wd).2.1 nm
    rw [gRK_w]
    exact ⟨by omega, h1.2⟩
  · rw [if_neg c] at h
    cases h
/-- what a text that is read does to a state, and how many of its commands are left out -/
def gLoad : Nat → Nat → (Nat → Int32) → Nat → Nat → (Nat → Int32) → gSt → Nat → gSt × Nat
  | 0, _, _, _, _, _, S, lo => (S, lo)
  | f + 1, n, sg, a, wd, nm, S, lo => if (gRC n sg a wd nm).1 = true then gLoad f n sg (gRS n sg (gRC n sg a wd nm).2.1 59) (gRC n sg a wd nm).2.2.1 (gRC n sg a wd nm).2.2.2 (gDo S (gRC n sg a wd nm).2.2.1 (gRC n sg a wd nm).2.2.2).2 (lo + (if (gDo S (gRC n sg a wd nm).2.2.1 (gRC n sg a wd nm).2.2.2).1 < 0 then 1 else 0)) else (S, lo)
def gE1 (f n : Nat) (sg : Nat → Int32) (x w : Nat) (m : Nat → Int32) : Int32 := if x < n then (if gSg n sg x = 59 then (gEI f n sg (x + 1) w m).1 else nI x) else -1
section
variable {n a x lo : Nat} {sg : Nat → Int32} {S T : gSt}
theorem gEI_bad {f wd : Nat} {nm : Nat → Int32} (h : gBadP n sg (gRC n sg a wd nm) x) : (gEI (f + 1) n sg a wd nm).1 = nI x := by
  obtain ⟨h1, h2⟩ := h
  rw [gEI]
  by_cases c : (gRC n sg a wd nm).1 = true
  · have d := h2 c
    have h59 : ¬ gSg n sg x = 59 := by
      rw [gSg, if_pos d.1]
      intro e
      exact d.2.2 (by rw [e]; decide)
    rw [if_pos c, h1, if_pos d.1, if_neg h59]
  · rw [if_neg c, h1]
theorem gEI_good {f wd w : Nat} {nm m : Nat → Int32} (h : gRC n sg a wd nm = (true, x, w, m)) : (gEI (f + 1) n sg a wd nm).1 = gE1 f n sg x w m := by
  rw [gEI, h]
  unfold gE1
  show (if true = true then (if x < n then (if gSg n sg x = 59 then gEI f n sg (x + 1) w m else (nI x, (x, w, m))) else (-1, (x, w, m))) else (nI x, (x, w, m))).1 = _
  rw [if_pos rfl]
  by_cases c : x < n
  · rw [if_pos c, if_pos c]
    by_cases c2 : gSg n sg x = 59
    · rw [if_pos c2, if_pos c2]
    · rw [if_neg c2, if_neg c2]
  · rw [if_neg c, if_neg c]
theorem gLoad_good {f wd w : Nat} {nm m : Nat → Int32} (h : gRC n sg a wd nm = (true, x, w, m)) : gLoad (f + 1) n sg a wd nm S lo = gLoad f n sg (gRS n sg x 59) w m (gDo S w m).2 (lo + (if (gDo S w m).1 < 0 then 1 else 0)) := by
  rw [gLoad, h]
  exact if_pos rfl
theorem gLoad_end {wd : Nat} {nm : Nat → Int32} (hx : n ≤ a) : ∀ f, gLoad f n sg a wd nm S lo = (S, lo)
  | 0 => rfl
  | f + 1 => by
    have e : gSg n sg a = -1 := by rw [gSg, if_neg (by omega)]
    have h := gRWd_none (n := n) (a := a) (wd := wd) (sg := sg) (by rw [e]; decide) (by rw [e]; decide) (by rw [e]; decide) (by rw [e]; decide) (by rw [e]; decide)
    have h2 : (gRC n sg a wd nm).1 = false := by
      unfold gRC
      rw [h, if_neg Bool.false_ne_true]
    rw [gLoad, if_neg (by rw [h2]; decide)]
/-- the reference's reading: k + 1 commands are read -/
def gTxI (n : Nat) (sg : Nat → Int32) (k x : Nat) (g : Bool) (lo : Nat) (T : gSt) : Prop := ∀ (wd : Nat) (nm : Nat → Int32),
  (g = false → (gEI 120 n sg 0 wd nm).1 = nI x) ∧
  (g = true → k + 1 ≤ x ∧ ∃ w m, (gEI 120 n sg 0 wd nm).1 = gE1 (119 - k) n sg x w m ∧ gLoad 120 n sg 0 wd nm gSt0 0 = gLoad (119 - k) n sg (gRS n sg x 59) w m T lo)
theorem gTxI_0 {u : Nat × Bool × Nat} (h : gCmdP n sg 0 gSt0 0 u T) : gTxI n sg 0 u.1 u.2.1 u.2.2 T := by
  intro wd nm
  obtain ⟨h1, h2⟩ := h wd nm
  refine ⟨fun c => gEI_bad (f := 119) (h1 c), fun c => ?_⟩
  obtain ⟨w, m, hw, h5, hc, hT, hl⟩ := h2 c
  have h3 := gRC_ge (n := n) (a := 0) (wd := wd) (sg := sg) (nm := nm) (by rw [hc])
  rw [hc] at h3
  have h4 : 0 + 3 ≤ u.1 := h3.1
  refine ⟨by omega, w, m, gEI_good (f := 119) hc, ?_⟩
  rw [hT, hl]
  exact gLoad_good (f := 119) hc
theorem gTxI_n {k : Nat} {u : Nat × Bool × Nat} (hn : n ≤ 120) (hi : gTxI n sg k x true lo S) (hx : x < n) (h59 : gSg n sg x = 59) (h : gCmdP n sg (x + 1) S lo u T) : gTxI n sg (k + 1) u.1 u.2.1 u.2.2 T := by
  intro wd nm
  obtain ⟨hk, w0, m0, e1, e2⟩ := (hi wd nm).2 rfl
  obtain ⟨h1, h2⟩ := h w0 m0
  have ef : 119 - k = (119 - (k + 1)) + 1 := by omega
  have e1' : (gEI 120 n sg 0 wd nm).1 = (gEI ((119 - (k + 1)) + 1) n sg (x + 1) w0 m0).1 := by
    rw [e1, ef]
    unfold gE1
    rw [if_pos hx, if_pos h59]
  have e2' : gLoad 120 n sg 0 wd nm gSt0 0 = gLoad ((119 - (k + 1)) + 1) n sg (x + 1) w0 m0 S lo := by
    rw [e2, ef]
    unfold gRS
    rw [if_pos h59]
  refine ⟨fun c => e1'.trans (gEI_bad (h1 c)), fun c => ?_⟩
  obtain ⟨w, m, hw, h5, hc, hT, hl⟩ := h2 c
  have h3 := gRC_ge (n := n) (a := x + 1) (wd := w0) (sg := sg) (nm := m0) (by rw [hc])
  rw [hc] at h3
  have h4 : x + 1 + 3 ≤ u.1 := h3.1
  refine ⟨by omega, w, m, e1'.trans (gEI_good hc), e2'.trans ?_⟩
  rw [hT, hl]
  exact gLoad_good hc
theorem gTxI_b {k : Nat} (hi : gTxI n sg k x true lo S) (hx : x < n) (h59 : ¬ gSg n sg x = 59) (l2 : Nat) (T : gSt) : gTxI n sg k x false l2 T := by
  intro wd nm
  obtain ⟨hk, w0, m0, e1, e2⟩ := (hi wd nm).2 rfl
  refine ⟨fun _ => ?_, fun c => (by cases c)⟩
  rw [e1]
  unfold gE1
  rw [if_pos hx, if_neg h59]
theorem gTxI_e {k : Nat} (hi : gTxI n sg k x true lo S) (hx : n ≤ x) : ∀ wd nm, (gEI 120 n sg 0 wd nm).1 = -1 ∧ gLoad 120 n sg 0 wd nm gSt0 0 = (S, lo) := by
  intro wd nm
  obtain ⟨hk, w0, m0, e1, e2⟩ := (hi wd nm).2 rfl
  have e : gSg n sg x = -1 := by rw [gSg, if_neg (by omega)]
  refine ⟨?_, ?_⟩
  · rw [e1]
    unfold gE1
    rw [if_neg (by omega)]
  · rw [e2]
    unfold gRS
    rw [e, if_neg (by decide)]
    exact gLoad_end hx _
theorem gCmd_ge {u : Nat × Bool × Nat} (h : gCmdP n sg a S lo u T) (hg : u.2.1 = true) : a + 3 ≤ u.1 := by
  obtain ⟨w, m, hw, h5, hc, hT, hl⟩ := (h 0 (fun _ => 0)).2 hg
  have h3 := gRC_ge (n := n) (a := a) (wd := 0) (sg := sg) (nm := fun _ => 0) (by rw [hc])
  rw [hc] at h3
  exact h3.1
theorem gDo_t (wd : Nat) (nm : Nat → Int32) (h5 : wd = 5 → (nm 0).toNatClampNeg ≤ 30) (hw : wd < 6) : sN (gDo S wd nm).2 0 ≤ sN S 0 + 30 := by
  unfold gDo
  split
  · rw [gTryAdd_0]; omega
  · split
    · rw [gTryList_0]; omega
    · split
      · rw [gTryBook_0]; omega
      · split
        · rw [gTryWish_0]; omega
        · split
          · have e : sN (gTryCarry S (nm 0) 1).2 0 = sN S 0 := by unfold gTryCarry; split <;> rfl
            rw [e]; omega
          · have := h5 (by omega)
            rw [gDays_0]; omega
theorem gCmd_I3 {u : Nat × Bool × Nat} (h : gCmdP n sg a S lo u T) (hg : u.2.1 = true) (hI : gI3 S) (hT : sN S 0 + 30 < 200000000) : gI3 T ∧ sN T 0 ≤ sN S 0 + 30 := by
  obtain ⟨w, m, hw, h5, hc, e, hl⟩ := (h 0 (fun _ => 0)).2 hg
  rw [e]
  exact ⟨gI3_do hI hT w m (fun c => (h5 c).2) hw, gDo_t w m (fun c => (h5 c).2) hw⟩
end
set_option maxHeartbeats 4000000 in
set_option maxRecDepth 100000 in
theorem mX8_readCommand (G : gG) (m : Nat → Nat) (q : Nat → Int32) (n a : Nat) (sg : Nat → Int32) (S : gSt) (f : Nat → Int32) (lo : Nat) (tn : Nat → Int32) (hn12 : n ≤ 120) (ha : a ≤ n) (hK : gI3 S) (hT30 : sN S 0 + 30 < 200000000) (hRR : RR S f) : CV G yX8_readCommand wsX8_readCommand 9 212 [.ref (m 0)] [(m 0, .inr (8, [.int (q 0), .ref (m 1), .int (nI n), .int (nI a), .int 1, .int (nI lo), .ref (m 2), .ref (m 3), .ref (m 4), .ref (m 5), .int (q 5), .ref (m 6), .ref (m 7), .ref (m 8), .int (q 6), .int (q 7), .int (q 8)])), (m 1, .inl (gy G 0, 120, .inl sg)), (m 2, .inl (gy G 0, 271, .inl f)), (m 8, .inl (gy G 0, 10, .inl tn))] (fun u : Nat × Bool × Nat × (Nat → Int32) × Int32 × (Nat → Int32) => u.1 ≤ n ∧ ∃ T, gCmdP n sg a S lo (u.1, u.2.1, u.2.2.1) T ∧ (u.2.1 = true → RR T u.2.2.2.1)) (fun (u : Nat × Bool × Nat × (Nat → Int32) × Int32 × (Nat → Int32)) => [(m 0, .inr (8, [.int (q 0), .ref (m 1), .int (nI n), .int (nI u.1), .int (if u.2.1 = true then 1 else 0), .int (nI u.2.2.1), .ref (m 2), .ref (m 3), .ref (m 4), .ref (m 5), .int (q 5), .ref (m 6), .ref (m 7), .ref (m 8), .int u.2.2.2.2.1, .int (q 7), .int (q 8)])), (m 1, .inl (gy G 0, 120, .inl sg)), (m 2, .inl (gy G 0, 271, .inl u.2.2.2.1)), (m 8, .inl (gy G 0, 10, .inl u.2.2.2.2.2))]) 0 0 := by
  refine g_enterV RX8 rfl (by decide) rfl (Nat.le_of_ble_eq_true rfl) ?_
  intro V E RET
  refine g_aload_n E dX8_readCommand_0 rfl 0 rfl ?_
  refine g_get E uX8_readCommand_RX8 0 rfl rfl 3 (by decide) kX8_readCommand_155 rfl rfl dX8_readCommand_1 ?_
  refine g_aload_n E dX8_readCommand_4 rfl 0 rfl ?_
  refine g_get E uX8_readCommand_RX8 0 rfl rfl 2 (by decide) kX8_readCommand_148 rfl rfl dX8_readCommand_5 ?_
  refine g_icmp_geN (tgt := 23) (a := a) (b := n) E dX8_readCommand_8 (by decide) (by omega) (by omega) (fun c1 => ?_) (fun c1 => ?_)
  · skip
    have eg : gSg n sg a = -1 := by rw [gSg, if_neg (by omega)]
    refine g_iconst (v := (-1)) E dX8_readCommand_23 (by decide) ?_
    refine g_istore_n (lv' := [(1, .int (-1)), (0, .ref (m 0))]) E dX8_readCommand_24 rfl (by decide) rfl ?_
    refine g_aload_n E dX8_readCommand_25 rfl 1 rfl ?_
    refine g_iload_n E dX8_readCommand_26 rfl 0 rfl ?_
    refine g_bipush (v := 109) E dX8_readCommand_27 (by decide) ?_
    refine g_icmp_eq (tgt := 56) E dX8_readCommand_29 (by decide) (fun c => absurd c (by decide)) (fun _ => ?_)
    refine g_iload_n E dX8_readCommand_32 rfl 0 rfl ?_
    refine g_bipush (v := 98) E dX8_readCommand_33 (by decide) ?_
    refine g_icmp_eq (tgt := 56) E dX8_readCommand_35 (by decide) (fun c => absurd c (by decide)) (fun _ => ?_)
    refine g_iload_n E dX8_readCommand_38 rfl 0 rfl ?_
    refine g_bipush (v := 119) E dX8_readCommand_39 (by decide) ?_
    refine g_icmp_eq (tgt := 56) E dX8_readCommand_41 (by decide) (fun c => absurd c (by decide)) (fun _ => ?_)
    refine g_iload_n E dX8_readCommand_44 rfl 0 rfl ?_
    refine g_bipush (v := 104) E dX8_readCommand_45 (by decide) ?_
    refine g_icmp_eq (tgt := 56) E dX8_readCommand_47 (by decide) (fun c => absurd c (by decide)) (fun _ => ?_)
    refine g_iload_n E dX8_readCommand_50 rfl 0 rfl ?_
    refine g_bipush (v := 114) E dX8_readCommand_51 (by decide) ?_
    refine g_icmp_ne (tgt := 60) E dX8_readCommand_53 (by decide) (fun _ => ?_) (fun c => absurd c (by decide))
    refine g_iconst (v := 0) E dX8_readCommand_60 (by decide) ?_
    refine g_callVVe (F := [(m 1, .inl (gy G 0, 120, .inl sg)), (m 2, .inl (gy G 0, 271, .inl f)), (m 8, .inl (gy G 0, 10, .inl tn))]) (ws2 := [(m 0, .inr (8, [.int (q 0), .ref (m 1), .int (nI n), .int (nI a), .int 0, .int (nI lo), .ref (m 2), .ref (m 3), .ref (m 4), .ref (m 5), .int (q 5), .ref (m 6), .ref (m 7), .ref (m 8), .int (q 6), .int (q 7), .int (q 8)])), (m 1, .inl (gy G 0, 120, .inl sg)), (m 2, .inl (gy G 0, 271, .inl f)), (m 8, .inl (gy G 0, 10, .inl tn))]) E (mX8_acceptN G m (qU (qU (qU (qU q 1 (nI n)) 2 (nI a)) 3 1) 4 (nI lo)) a) gX8_readCommand_X8_accept rfl hdX8_accept ⟨Nat.le_of_ble_eq_true rfl, Nat.le_of_ble_eq_true rfl⟩ 8 0 rfl rfl rfl (gPerm_ix [0, 1, 2, 3] rfl rfl) rfl rfl (Nat.le_of_ble_eq_true rfl) dX8_readCommand_61 ⟨Nat.le_of_ble_eq_true rfl, Nat.le_of_ble_eq_true rfl⟩ (gPerm_ix [0, 1, 2, 3] rfl rfl) ?_
    refine g_aload_n E dX8_readCommand_64 rfl 1 rfl ?_
    refine g_get E uX8_readCommand_RX8 0 rfl rfl 4 (by decide) kX8_readCommand_158 rfl rfl dX8_readCommand_65 ?_
    refine g_if_ne (tgt := 72) E dX8_readCommand_68 (by decide) (fun c => absurd c (by decide)) (fun _ => ?_)
    exact RET _ _ (a, false, lo, f, q 6, tn) (⟨(show a ≤ n by omega), S, gCmd_bad (fun wd nm => gRC_b (gRWd_none (by rw [eg]; decide) (by rw [eg]; decide) (by rw [eg]; decide) (by rw [eg]; decide) (by rw [eg]; decide))), fun c => by cases c⟩) dX8_readCommand_71
  · skip
    have eg : gSg n sg a = sg a := by rw [gSg, if_pos (by omega)]
    refine g_aload_n E dX8_readCommand_11 rfl 0 rfl ?_
    refine g_get E uX8_readCommand_RX8 0 rfl rfl 1 (by decide) kX8_readCommand_7 rfl rfl dX8_readCommand_12 ?_
    refine g_aload_n E dX8_readCommand_15 rfl 0 rfl ?_
    refine g_get E uX8_readCommand_RX8 0 rfl rfl 3 (by decide) kX8_readCommand_155 rfl rfl dX8_readCommand_16 ?_
    refine g_ialdN (e := a) E 1 rfl (by omega) rfl (v := sg a) rfl dX8_readCommand_19 ?_
    refine g_goto (tgt := 24) E dX8_readCommand_20 (by decide) ?_
    by_cases c2 : sg a = 109
    · skip
      refine g_top (y := 109) c2 ?_
      have h1 : gSg n sg a = 109 := eg.trans c2
      refine g_istore_n (lv' := [(1, .int 109), (0, .ref (m 0))]) E dX8_readCommand_24 rfl (by decide) rfl ?_
      refine g_aload_n E dX8_readCommand_25 rfl 1 rfl ?_
      refine g_iload_n E dX8_readCommand_26 rfl 0 rfl ?_
      refine g_bipush (v := 109) E dX8_readCommand_27 (by decide) ?_
      refine g_icmp_eq (tgt := 56) E dX8_readCommand_29 (by decide) (fun _ => ?_) (fun c => absurd c (by decide))
      refine g_iconst (v := 1) E dX8_readCommand_56 (by decide) ?_
      refine g_goto (tgt := 61) E dX8_readCommand_57 (by decide) ?_
      refine g_callVVe (F := [(m 1, .inl (gy G 0, 120, .inl sg)), (m 2, .inl (gy G 0, 271, .inl f)), (m 8, .inl (gy G 0, 10, .inl tn))]) (ws2 := [(m 0, .inr (8, [.int (q 0), .ref (m 1), .int (nI n), .int (nI (a + 1)), .int 1, .int (nI lo), .ref (m 2), .ref (m 3), .ref (m 4), .ref (m 5), .int (q 5), .ref (m 6), .ref (m 7), .ref (m 8), .int (q 6), .int (q 7), .int (q 8)])), (m 1, .inl (gy G 0, 120, .inl sg)), (m 2, .inl (gy G 0, 271, .inl f)), (m 8, .inl (gy G 0, 10, .inl tn))]) E (mX8_acceptY G m (qU (qU (qU (qU q 1 (nI n)) 2 (nI a)) 3 1) 4 (nI lo)) a) gX8_readCommand_X8_accept rfl hdX8_accept ⟨Nat.le_of_ble_eq_true rfl, Nat.le_of_ble_eq_true rfl⟩ 8 0 rfl rfl rfl (gPerm_ix [0, 1, 2, 3] rfl rfl) rfl rfl (Nat.le_of_ble_eq_true rfl) dX8_readCommand_61 ⟨Nat.le_of_ble_eq_true rfl, Nat.le_of_ble_eq_true rfl⟩ (gPerm_ix [0, 1, 2, 3] rfl rfl) ?_
      refine g_aload_n E dX8_readCommand_64 rfl 1 rfl ?_
      refine g_get E uX8_readCommand_RX8 0 rfl rfl 4 (by decide) kX8_readCommand_158 rfl rfl dX8_readCommand_65 ?_
      refine g_if_ne (tgt := 72) E dX8_readCommand_68 (by decide) (fun _ => ?_) (fun c => absurd c (by decide))
      refine g_iload_n E dX8_readCommand_72 rfl 0 rfl ?_
      refine g_bipush (v := 109) E dX8_readCommand_73 (by decide) ?_
      refine g_icmp_ne (tgt := 85) E dX8_readCommand_75 (by decide) (fun c => absurd c (by decide)) (fun _ => ?_)
      refine g_aload_n E dX8_readCommand_78 rfl 1 rfl ?_
      refine g_callVV (F := [(m 8, .inl (gy G 0, 10, .inl tn))]) E (mX8_readM G m (qU (qU (qU (qU q 1 (nI n)) 2 (nI (a + 1))) 3 1) 4 (nI lo)) n a sg S f lo hn12 h1 hK hT30 hRR) gX8_readCommand_X8_readM rfl hdX8_readM ⟨Nat.le_of_ble_eq_true rfl, Nat.le_of_ble_eq_true rfl⟩ 8 0 rfl rfl rfl (gPerm_ix [0, 1, 2, 3] rfl rfl) rfl rfl (Nat.le_of_ble_eq_true rfl) dX8_readCommand_79 ⟨Nat.le_of_ble_eq_true rfl, Nat.le_of_ble_eq_true rfl⟩ (fun u3 h3 => ?_)
      refine g_perm (ws1 := [(m 0, .inr (8, [.int (q 0), .ref (m 1), .int (nI n), .int (nI u3.1), .int (if u3.2.1 = true then 1 else 0), .int (nI u3.2.2.1), .ref (m 2), .ref (m 3), .ref (m 4), .ref (m 5), .int (q 5), .ref (m 6), .ref (m 7), .ref (m 8), .int (q 6), .int (q 7), .int (q 8)])), (m 1, .inl (gy G 0, 120, .inl sg)), (m 2, .inl (gy G 0, 271, .inl u3.2.2.2)), (m 8, .inl (gy G 0, 10, .inl tn))]) (gPerm_ix [0, 1, 2, 3] rfl rfl) ?_
      refine g_goto (tgt := 116) E dX8_readCommand_82 (by decide) ?_
      exact RET _ _ (u3.1, u3.2.1, u3.2.2.1, u3.2.2.2, q 6, tn) (h3) dX8_readCommand_116
    · skip
      by_cases c5 : sg a = 98
      · skip
        refine g_top (y := 98) c5 ?_
        have h1 : gSg n sg a = 98 := eg.trans c5
        refine g_istore_n (lv' := [(1, .int 98), (0, .ref (m 0))]) E dX8_readCommand_24 rfl (by decide) rfl ?_
        refine g_aload_n E dX8_readCommand_25 rfl 1 rfl ?_
        refine g_iload_n E dX8_readCommand_26 rfl 0 rfl ?_
        refine g_bipush (v := 109) E dX8_readCommand_27 (by decide) ?_
        refine g_icmp_eq (tgt := 56) E dX8_readCommand_29 (by decide) (fun c => absurd c (by decide)) (fun _ => ?_)
        refine g_iload_n E dX8_readCommand_32 rfl 0 rfl ?_
        refine g_bipush (v := 98) E dX8_readCommand_33 (by decide) ?_
        refine g_icmp_eq (tgt := 56) E dX8_readCommand_35 (by decide) (fun _ => ?_) (fun c => absurd c (by decide))
        refine g_iconst (v := 1) E dX8_readCommand_56 (by decide) ?_
        refine g_goto (tgt := 61) E dX8_readCommand_57 (by decide) ?_
        refine g_callVVe (F := [(m 1, .inl (gy G 0, 120, .inl sg)), (m 2, .inl (gy G 0, 271, .inl f)), (m 8, .inl (gy G 0, 10, .inl tn))]) (ws2 := [(m 0, .inr (8, [.int (q 0), .ref (m 1), .int (nI n), .int (nI (a + 1)), .int 1, .int (nI lo), .ref (m 2), .ref (m 3), .ref (m 4), .ref (m 5), .int (q 5), .ref (m 6), .ref (m 7), .ref (m 8), .int (q 6), .int (q 7), .int (q 8)])), (m 1, .inl (gy G 0, 120, .inl sg)), (m 2, .inl (gy G 0, 271, .inl f)), (m 8, .inl (gy G 0, 10, .inl tn))]) E (mX8_acceptY G m (qU (qU (qU (qU q 1 (nI n)) 2 (nI a)) 3 1) 4 (nI lo)) a) gX8_readCommand_X8_accept rfl hdX8_accept ⟨Nat.le_of_ble_eq_true rfl, Nat.le_of_ble_eq_true rfl⟩ 8 0 rfl rfl rfl (gPerm_ix [0, 1, 2, 3] rfl rfl) rfl rfl (Nat.le_of_ble_eq_true rfl) dX8_readCommand_61 ⟨Nat.le_of_ble_eq_true rfl, Nat.le_of_ble_eq_true rfl⟩ (gPerm_ix [0, 1, 2, 3] rfl rfl) ?_
        refine g_aload_n E dX8_readCommand_64 rfl 1 rfl ?_
        refine g_get E uX8_readCommand_RX8 0 rfl rfl 4 (by decide) kX8_readCommand_158 rfl rfl dX8_readCommand_65 ?_
        refine g_if_ne (tgt := 72) E dX8_readCommand_68 (by decide) (fun _ => ?_) (fun c => absurd c (by decide))
        refine g_iload_n E dX8_readCommand_72 rfl 0 rfl ?_
        refine g_bipush (v := 109) E dX8_readCommand_73 (by decide) ?_
        refine g_icmp_ne (tgt := 85) E dX8_readCommand_75 (by decide) (fun _ => ?_) (fun c => absurd c (by decide))
        refine g_iload_n E dX8_readCommand_85 rfl 0 rfl ?_
        refine g_bipush (v := 98) E dX8_readCommand_86 (by decide) ?_
        refine g_icmp_ne (tgt := 98) E dX8_readCommand_88 (by decide) (fun c => absurd c (by decide)) (fun _ => ?_)
        refine g_aload_n E dX8_readCommand_91 rfl 1 rfl ?_
        refine g_callVV (F := [(m 8, .inl (gy G 0, 10, .inl tn))]) E (mX8_readBook G m (qU (qU (qU (qU q 1 (nI n)) 2 (nI (a + 1))) 3 1) 4 (nI lo)) n a sg S f lo hn12 h1 hK hT30 hRR) gX8_readCommand_X8_readBook rfl hdX8_readBook ⟨Nat.le_of_ble_eq_true rfl, Nat.le_of_ble_eq_true rfl⟩ 8 0 rfl rfl rfl (gPerm_ix [0, 1, 2, 3] rfl rfl) rfl rfl (Nat.le_of_ble_eq_true rfl) dX8_readCommand_92 ⟨Nat.le_of_ble_eq_true rfl, Nat.le_of_ble_eq_true rfl⟩ (fun u6 h6 => ?_)
        refine g_perm (ws1 := [(m 0, .inr (8, [.int (q 0), .ref (m 1), .int (nI n), .int (nI u6.1), .int (if u6.2.1 = true then 1 else 0), .int (nI u6.2.2.1), .ref (m 2), .ref (m 3), .ref (m 4), .ref (m 5), .int (q 5), .ref (m 6), .ref (m 7), .ref (m 8), .int (q 6), .int (q 7), .int (q 8)])), (m 1, .inl (gy G 0, 120, .inl sg)), (m 2, .inl (gy G 0, 271, .inl u6.2.2.2)), (m 8, .inl (gy G 0, 10, .inl tn))]) (gPerm_ix [0, 1, 2, 3] rfl rfl) ?_
        refine g_goto (tgt := 116) E dX8_readCommand_95 (by decide) ?_
        exact RET _ _ (u6.1, u6.2.1, u6.2.2.1, u6.2.2.2, q 6, tn) (h6) dX8_readCommand_116
      · skip
        by_cases c8 : sg a = 119
        · skip
          refine g_top (y := 119) c8 ?_
          have h1 : gSg n sg a = 119 := eg.trans c8
          refine g_istore_n (lv' := [(1, .int 119), (0, .ref (m 0))]) E dX8_readCommand_24 rfl (by decide) rfl ?_
          refine g_aload_n E dX8_readCommand_25 rfl 1 rfl ?_
          refine g_iload_n E dX8_readCommand_26 rfl 0 rfl ?_
          refine g_bipush (v := 109) E dX8_readCommand_27 (by decide) ?_
          refine g_icmp_eq (tgt := 56) E dX8_readCommand_29 (by decide) (fun c => absurd c (by decide)) (fun _ => ?_)
          refine g_iload_n E dX8_readCommand_32 rfl 0 rfl ?_
          refine g_bipush (v := 98) E dX8_readCommand_33 (by decide) ?_
          refine g_icmp_eq (tgt := 56) E dX8_readCommand_35 (by decide) (fun c => absurd c (by decide)) (fun _ => ?_)
          refine g_iload_n E dX8_readCommand_38 rfl 0 rfl ?_
          refine g_bipush (v := 119) E dX8_readCommand_39 (by decide) ?_
          refine g_icmp_eq (tgt := 56) E dX8_readCommand_41 (by decide) (fun _ => ?_) (fun c => absurd c (by decide))
          refine g_iconst (v := 1) E dX8_readCommand_56 (by decide) ?_
          refine g_goto (tgt := 61) E dX8_readCommand_57 (by decide) ?_
          refine g_callVVe (F := [(m 1, .inl (gy G 0, 120, .inl sg)), (m 2, .inl (gy G 0, 271, .inl f)), (m 8, .inl (gy G 0, 10, .inl tn))]) (ws2 := [(m 0, .inr (8, [.int (q 0), .ref (m 1), .int (nI n), .int (nI (a + 1)), .int 1, .int (nI lo), .ref (m 2), .ref (m 3), .ref (m 4), .ref (m 5), .int (q 5), .ref (m 6), .ref (m 7), .ref (m 8), .int (q 6), .int (q 7), .int (q 8)])), (m 1, .inl (gy G 0, 120, .inl sg)), (m 2, .inl (gy G 0, 271, .inl f)), (m 8, .inl (gy G 0, 10, .inl tn))]) E (mX8_acceptY G m (qU (qU (qU (qU q 1 (nI n)) 2 (nI a)) 3 1) 4 (nI lo)) a) gX8_readCommand_X8_accept rfl hdX8_accept ⟨Nat.le_of_ble_eq_true rfl, Nat.le_of_ble_eq_true rfl⟩ 8 0 rfl rfl rfl (gPerm_ix [0, 1, 2, 3] rfl rfl) rfl rfl (Nat.le_of_ble_eq_true rfl) dX8_readCommand_61 ⟨Nat.le_of_ble_eq_true rfl, Nat.le_of_ble_eq_true rfl⟩ (gPerm_ix [0, 1, 2, 3] rfl rfl) ?_
          refine g_aload_n E dX8_readCommand_64 rfl 1 rfl ?_
          refine g_get E uX8_readCommand_RX8 0 rfl rfl 4 (by decide) kX8_readCommand_158 rfl rfl dX8_readCommand_65 ?_
          refine g_if_ne (tgt := 72) E dX8_readCommand_68 (by decide) (fun _ => ?_) (fun c => absurd c (by decide))
          refine g_iload_n E dX8_readCommand_72 rfl 0 rfl ?_
          refine g_bipush (v := 109) E dX8_readCommand_73 (by decide) ?_
          refine g_icmp_ne (tgt := 85) E dX8_readCommand_75 (by decide) (fun _ => ?_) (fun c => absurd c (by decide))
          refine g_iload_n E dX8_readCommand_85 rfl 0 rfl ?_
          refine g_bipush (v := 98) E dX8_readCommand_86 (by decide) ?_
          refine g_icmp_ne (tgt := 98) E dX8_readCommand_88 (by decide) (fun _ => ?_) (fun c => absurd c (by decide))
          refine g_iload_n E dX8_readCommand_98 rfl 0 rfl ?_
          refine g_bipush (v := 119) E dX8_readCommand_99 (by decide) ?_
          refine g_icmp_ne (tgt := 111) E dX8_readCommand_101 (by decide) (fun c => absurd c (by decide)) (fun _ => ?_)
          refine g_aload_n E dX8_readCommand_104 rfl 1 rfl ?_
          refine g_callVV (F := [(m 8, .inl (gy G 0, 10, .inl tn))]) E (mX8_readWish G m (qU (qU (qU (qU q 1 (nI n)) 2 (nI (a + 1))) 3 1) 4 (nI lo)) n a sg S f lo hn12 h1 hK hT30 hRR) gX8_readCommand_X8_readWish rfl hdX8_readWish ⟨Nat.le_of_ble_eq_true rfl, Nat.le_of_ble_eq_true rfl⟩ 8 0 rfl rfl rfl (gPerm_ix [0, 1, 2, 3] rfl rfl) rfl rfl (Nat.le_of_ble_eq_true rfl) dX8_readCommand_105 ⟨Nat.le_of_ble_eq_true rfl, Nat.le_of_ble_eq_true rfl⟩ (fun u9 h9 => ?_)
          refine g_perm (ws1 := [(m 0, .inr (8, [.int (q 0), .ref (m 1), .int (nI n), .int (nI u9.1), .int (if u9.2.1 = true then 1 else 0), .int (nI u9.2.2.1), .ref (m 2), .ref (m 3), .ref (m 4), .ref (m 5), .int (q 5), .ref (m 6), .ref (m 7), .ref (m 8), .int (q 6), .int (q 7), .int (q 8)])), (m 1, .inl (gy G 0, 120, .inl sg)), (m 2, .inl (gy G 0, 271, .inl u9.2.2.2)), (m 8, .inl (gy G 0, 10, .inl tn))]) (gPerm_ix [0, 1, 2, 3] rfl rfl) ?_
          refine g_goto (tgt := 116) E dX8_readCommand_108 (by decide) ?_
          exact RET _ _ (u9.1, u9.2.1, u9.2.2.1, u9.2.2.2, q 6, tn) (h9) dX8_readCommand_116
        · skip
          by_cases c11 : sg a = 104
          · skip
            refine g_top (y := 104) c11 ?_
            have h1 : gSg n sg a = 104 := eg.trans c11
            refine g_istore_n (lv' := [(1, .int 104), (0, .ref (m 0))]) E dX8_readCommand_24 rfl (by decide) rfl ?_
            refine g_aload_n E dX8_readCommand_25 rfl 1 rfl ?_
            refine g_iload_n E dX8_readCommand_26 rfl 0 rfl ?_
            refine g_bipush (v := 109) E dX8_readCommand_27 (by decide) ?_
            refine g_icmp_eq (tgt := 56) E dX8_readCommand_29 (by decide) (fun c => absurd c (by decide)) (fun _ => ?_)
            refine g_iload_n E dX8_readCommand_32 rfl 0 rfl ?_
            refine g_bipush (v := 98) E dX8_readCommand_33 (by decide) ?_
            refine g_icmp_eq (tgt := 56) E dX8_readCommand_35 (by decide) (fun c => absurd c (by decide)) (fun _ => ?_)
            refine g_iload_n E dX8_readCommand_38 rfl 0 rfl ?_
            refine g_bipush (v := 119) E dX8_readCommand_39 (by decide) ?_
            refine g_icmp_eq (tgt := 56) E dX8_readCommand_41 (by decide) (fun c => absurd c (by decide)) (fun _ => ?_)
            refine g_iload_n E dX8_readCommand_44 rfl 0 rfl ?_
            refine g_bipush (v := 104) E dX8_readCommand_45 (by decide) ?_
            refine g_icmp_eq (tgt := 56) E dX8_readCommand_47 (by decide) (fun _ => ?_) (fun c => absurd c (by decide))
            refine g_iconst (v := 1) E dX8_readCommand_56 (by decide) ?_
            refine g_goto (tgt := 61) E dX8_readCommand_57 (by decide) ?_
            refine g_callVVe (F := [(m 1, .inl (gy G 0, 120, .inl sg)), (m 2, .inl (gy G 0, 271, .inl f)), (m 8, .inl (gy G 0, 10, .inl tn))]) (ws2 := [(m 0, .inr (8, [.int (q 0), .ref (m 1), .int (nI n), .int (nI (a + 1)), .int 1, .int (nI lo), .ref (m 2), .ref (m 3), .ref (m 4), .ref (m 5), .int (q 5), .ref (m 6), .ref (m 7), .ref (m 8), .int (q 6), .int (q 7), .int (q 8)])), (m 1, .inl (gy G 0, 120, .inl sg)), (m 2, .inl (gy G 0, 271, .inl f)), (m 8, .inl (gy G 0, 10, .inl tn))]) E (mX8_acceptY G m (qU (qU (qU (qU q 1 (nI n)) 2 (nI a)) 3 1) 4 (nI lo)) a) gX8_readCommand_X8_accept rfl hdX8_accept ⟨Nat.le_of_ble_eq_true rfl, Nat.le_of_ble_eq_true rfl⟩ 8 0 rfl rfl rfl (gPerm_ix [0, 1, 2, 3] rfl rfl) rfl rfl (Nat.le_of_ble_eq_true rfl) dX8_readCommand_61 ⟨Nat.le_of_ble_eq_true rfl, Nat.le_of_ble_eq_true rfl⟩ (gPerm_ix [0, 1, 2, 3] rfl rfl) ?_
            refine g_aload_n E dX8_readCommand_64 rfl 1 rfl ?_
            refine g_get E uX8_readCommand_RX8 0 rfl rfl 4 (by decide) kX8_readCommand_158 rfl rfl dX8_readCommand_65 ?_
            refine g_if_ne (tgt := 72) E dX8_readCommand_68 (by decide) (fun _ => ?_) (fun c => absurd c (by decide))
            refine g_iload_n E dX8_readCommand_72 rfl 0 rfl ?_
            refine g_bipush (v := 109) E dX8_readCommand_73 (by decide) ?_
            refine g_icmp_ne (tgt := 85) E dX8_readCommand_75 (by decide) (fun _ => ?_) (fun c => absurd c (by decide))
            refine g_iload_n E dX8_readCommand_85 rfl 0 rfl ?_
            refine g_bipush (v := 98) E dX8_readCommand_86 (by decide) ?_
            refine g_icmp_ne (tgt := 98) E dX8_readCommand_88 (by decide) (fun _ => ?_) (fun c => absurd c (by decide))
            refine g_iload_n E dX8_readCommand_98 rfl 0 rfl ?_
            refine g_bipush (v := 119) E dX8_readCommand_99 (by decide) ?_
            refine g_icmp_ne (tgt := 111) E dX8_readCommand_101 (by decide) (fun _ => ?_) (fun c => absurd c (by decide))
            refine g_aload_n E dX8_readCommand_111 rfl 1 rfl ?_
            refine g_iload_n E dX8_readCommand_112 rfl 0 rfl ?_
            refine g_callVV (F := []) E (mX8_readRest G m (qU (qU (qU (qU q 1 (nI n)) 2 (nI (a + 1))) 3 1) 4 (nI lo)) n a sg S f lo 104 tn hn12 h1 (by first | exact Or.inl rfl | exact Or.inr rfl) hK hT30 hRR) gX8_readCommand_X8_readRest rfl hdX8_readRest ⟨Nat.le_of_ble_eq_true rfl, Nat.le_of_ble_eq_true rfl⟩ 8 0 rfl rfl rfl (gPerm_ix [0, 1, 2, 3] rfl rfl) rfl rfl (Nat.le_of_ble_eq_true rfl) dX8_readCommand_113 ⟨Nat.le_of_ble_eq_true rfl, Nat.le_of_ble_eq_true rfl⟩ (fun u12 h12 => ?_)
            refine g_perm (ws1 := [(m 0, .inr (8, [.int (q 0), .ref (m 1), .int (nI n), .int (nI u12.1), .int (if u12.2.1 = true then 1 else 0), .int (nI u12.2.2.1), .ref (m 2), .ref (m 3), .ref (m 4), .ref (m 5), .int (q 5), .ref (m 6), .ref (m 7), .ref (m 8), .int u12.2.2.2.2.1, .int (q 7), .int (q 8)])), (m 1, .inl (gy G 0, 120, .inl sg)), (m 2, .inl (gy G 0, 271, .inl u12.2.2.2.1)), (m 8, .inl (gy G 0, 10, .inl u12.2.2.2.2.2))]) (gPerm_ix [0, 1, 2, 3] rfl rfl) ?_
            exact RET _ _ u12 (h12) dX8_readCommand_116
          · skip
            by_cases c14 : sg a = 114
            · skip
              refine g_top (y := 114) c14 ?_
              have h1 : gSg n sg a = 114 := eg.trans c14
              refine g_istore_n (lv' := [(1, .int 114), (0, .ref (m 0))]) E dX8_readCommand_24 rfl (by decide) rfl ?_
              refine g_aload_n E dX8_readCommand_25 rfl 1 rfl ?_
              refine g_iload_n E dX8_readCommand_26 rfl 0 rfl ?_
              refine g_bipush (v := 109) E dX8_readCommand_27 (by decide) ?_
              refine g_icmp_eq (tgt := 56) E dX8_readCommand_29 (by decide) (fun c => absurd c (by decide)) (fun _ => ?_)
              refine g_iload_n E dX8_readCommand_32 rfl 0 rfl ?_
              refine g_bipush (v := 98) E dX8_readCommand_33 (by decide) ?_
              refine g_icmp_eq (tgt := 56) E dX8_readCommand_35 (by decide) (fun c => absurd c (by decide)) (fun _ => ?_)
              refine g_iload_n E dX8_readCommand_38 rfl 0 rfl ?_
              refine g_bipush (v := 119) E dX8_readCommand_39 (by decide) ?_
              refine g_icmp_eq (tgt := 56) E dX8_readCommand_41 (by decide) (fun c => absurd c (by decide)) (fun _ => ?_)
              refine g_iload_n E dX8_readCommand_44 rfl 0 rfl ?_
              refine g_bipush (v := 104) E dX8_readCommand_45 (by decide) ?_
              refine g_icmp_eq (tgt := 56) E dX8_readCommand_47 (by decide) (fun c => absurd c (by decide)) (fun _ => ?_)
              refine g_iload_n E dX8_readCommand_50 rfl 0 rfl ?_
              refine g_bipush (v := 114) E dX8_readCommand_51 (by decide) ?_
              refine g_icmp_ne (tgt := 60) E dX8_readCommand_53 (by decide) (fun c => absurd c (by decide)) (fun _ => ?_)
              refine g_iconst (v := 1) E dX8_readCommand_56 (by decide) ?_
              refine g_goto (tgt := 61) E dX8_readCommand_57 (by decide) ?_
              refine g_callVVe (F := [(m 1, .inl (gy G 0, 120, .inl sg)), (m 2, .inl (gy G 0, 271, .inl f)), (m 8, .inl (gy G 0, 10, .inl tn))]) (ws2 := [(m 0, .inr (8, [.int (q 0), .ref (m 1), .int (nI n), .int (nI (a + 1)), .int 1, .int (nI lo), .ref (m 2), .ref (m 3), .ref (m 4), .ref (m 5), .int (q 5), .ref (m 6), .ref (m 7), .ref (m 8), .int (q 6), .int (q 7), .int (q 8)])), (m 1, .inl (gy G 0, 120, .inl sg)), (m 2, .inl (gy G 0, 271, .inl f)), (m 8, .inl (gy G 0, 10, .inl tn))]) E (mX8_acceptY G m (qU (qU (qU (qU q 1 (nI n)) 2 (nI a)) 3 1) 4 (nI lo)) a) gX8_readCommand_X8_accept rfl hdX8_accept ⟨Nat.le_of_ble_eq_true rfl, Nat.le_of_ble_eq_true rfl⟩ 8 0 rfl rfl rfl (gPerm_ix [0, 1, 2, 3] rfl rfl) rfl rfl (Nat.le_of_ble_eq_true rfl) dX8_readCommand_61 ⟨Nat.le_of_ble_eq_true rfl, Nat.le_of_ble_eq_true rfl⟩ (gPerm_ix [0, 1, 2, 3] rfl rfl) ?_
              refine g_aload_n E dX8_readCommand_64 rfl 1 rfl ?_
              refine g_get E uX8_readCommand_RX8 0 rfl rfl 4 (by decide) kX8_readCommand_158 rfl rfl dX8_readCommand_65 ?_
              refine g_if_ne (tgt := 72) E dX8_readCommand_68 (by decide) (fun _ => ?_) (fun c => absurd c (by decide))
              refine g_iload_n E dX8_readCommand_72 rfl 0 rfl ?_
              refine g_bipush (v := 109) E dX8_readCommand_73 (by decide) ?_
              refine g_icmp_ne (tgt := 85) E dX8_readCommand_75 (by decide) (fun _ => ?_) (fun c => absurd c (by decide))
              refine g_iload_n E dX8_readCommand_85 rfl 0 rfl ?_
              refine g_bipush (v := 98) E dX8_readCommand_86 (by decide) ?_
              refine g_icmp_ne (tgt := 98) E dX8_readCommand_88 (by decide) (fun _ => ?_) (fun c => absurd c (by decide))
              refine g_iload_n E dX8_readCommand_98 rfl 0 rfl ?_
              refine g_bipush (v := 119) E dX8_readCommand_99 (by decide) ?_
              refine g_icmp_ne (tgt := 111) E dX8_readCommand_101 (by decide) (fun _ => ?_) (fun c => absurd c (by decide))
              refine g_aload_n E dX8_readCommand_111 rfl 1 rfl ?_
              refine g_iload_n E dX8_readCommand_112 rfl 0 rfl ?_
              refine g_callVV (F := []) E (mX8_readRest G m (qU (qU (qU (qU q 1 (nI n)) 2 (nI (a + 1))) 3 1) 4 (nI lo)) n a sg S f lo 114 tn hn12 h1 (by first | exact Or.inl rfl | exact Or.inr rfl) hK hT30 hRR) gX8_readCommand_X8_readRest rfl hdX8_readRest ⟨Nat.le_of_ble_eq_true rfl, Nat.le_of_ble_eq_true rfl⟩ 8 0 rfl rfl rfl (gPerm_ix [0, 1, 2, 3] rfl rfl) rfl rfl (Nat.le_of_ble_eq_true rfl) dX8_readCommand_113 ⟨Nat.le_of_ble_eq_true rfl, Nat.le_of_ble_eq_true rfl⟩ (fun u15 h15 => ?_)
              refine g_perm (ws1 := [(m 0, .inr (8, [.int (q 0), .ref (m 1), .int (nI n), .int (nI u15.1), .int (if u15.2.1 = true then 1 else 0), .int (nI u15.2.2.1), .ref (m 2), .ref (m 3), .ref (m 4), .ref (m 5), .int (q 5), .ref (m 6), .ref (m 7), .ref (m 8), .int u15.2.2.2.2.1, .int (q 7), .int (q 8)])), (m 1, .inl (gy G 0, 120, .inl sg)), (m 2, .inl (gy G 0, 271, .inl u15.2.2.2.1)), (m 8, .inl (gy G 0, 10, .inl u15.2.2.2.2.2))]) (gPerm_ix [0, 1, 2, 3] rfl rfl) ?_
              exact RET _ _ u15 (h15) dX8_readCommand_116
            · skip
              refine g_istore_n (lv' := [(1, .int (sg a)), (0, .ref (m 0))]) E dX8_readCommand_24 rfl (by decide) rfl ?_
              refine g_aload_n E dX8_readCommand_25 rfl 1 rfl ?_
              refine g_iload_n E dX8_readCommand_26 rfl 0 rfl ?_
              refine g_bipush (v := 109) E dX8_readCommand_27 (by decide) ?_
              refine g_icmp_eq (tgt := 56) E dX8_readCommand_29 (by decide) (fun c17 => ?_) (fun c17 => ?_)
              · exfalso
                exact c2 c17
              · skip
                refine g_iload_n E dX8_readCommand_32 rfl 0 rfl ?_
                refine g_bipush (v := 98) E dX8_readCommand_33 (by decide) ?_
                refine g_icmp_eq (tgt := 56) E dX8_readCommand_35 (by decide) (fun c18 => ?_) (fun c18 => ?_)
                · exfalso
                  exact c5 c18
                · skip
                  refine g_iload_n E dX8_readCommand_38 rfl 0 rfl ?_
                  refine g_bipush (v := 119) E dX8_readCommand_39 (by decide) ?_
                  refine g_icmp_eq (tgt := 56) E dX8_readCommand_41 (by decide) (fun c19 => ?_) (fun c19 => ?_)
                  · exfalso
                    exact c8 c19
                  · skip
                    refine g_iload_n E dX8_readCommand_44 rfl 0 rfl ?_
                    refine g_bipush (v := 104) E dX8_readCommand_45 (by decide) ?_
                    refine g_icmp_eq (tgt := 56) E dX8_readCommand_47 (by decide) (fun c20 => ?_) (fun c20 => ?_)
                    · exfalso
                      exact c11 c20
                    · skip
                      refine g_iload_n E dX8_readCommand_50 rfl 0 rfl ?_
                      refine g_bipush (v := 114) E dX8_readCommand_51 (by decide) ?_
                      refine g_icmp_ne (tgt := 60) E dX8_readCommand_53 (by decide) (fun c21 => ?_) (fun c21 => ?_)
                      · skip
                        refine g_iconst (v := 0) E dX8_readCommand_60 (by decide) ?_
                        refine g_callVVe (F := [(m 1, .inl (gy G 0, 120, .inl sg)), (m 2, .inl (gy G 0, 271, .inl f)), (m 8, .inl (gy G 0, 10, .inl tn))]) (ws2 := [(m 0, .inr (8, [.int (q 0), .ref (m 1), .int (nI n), .int (nI a), .int 0, .int (nI lo), .ref (m 2), .ref (m 3), .ref (m 4), .ref (m 5), .int (q 5), .ref (m 6), .ref (m 7), .ref (m 8), .int (q 6), .int (q 7), .int (q 8)])), (m 1, .inl (gy G 0, 120, .inl sg)), (m 2, .inl (gy G 0, 271, .inl f)), (m 8, .inl (gy G 0, 10, .inl tn))]) E (mX8_acceptN G m (qU (qU (qU (qU q 1 (nI n)) 2 (nI a)) 3 1) 4 (nI lo)) a) gX8_readCommand_X8_accept rfl hdX8_accept ⟨Nat.le_of_ble_eq_true rfl, Nat.le_of_ble_eq_true rfl⟩ 8 0 rfl rfl rfl (gPerm_ix [0, 1, 2, 3] rfl rfl) rfl rfl (Nat.le_of_ble_eq_true rfl) dX8_readCommand_61 ⟨Nat.le_of_ble_eq_true rfl, Nat.le_of_ble_eq_true rfl⟩ (gPerm_ix [0, 1, 2, 3] rfl rfl) ?_
                        refine g_aload_n E dX8_readCommand_64 rfl 1 rfl ?_
                        refine g_get E uX8_readCommand_RX8 0 rfl rfl 4 (by decide) kX8_readCommand_158 rfl rfl dX8_readCommand_65 ?_
                        refine g_if_ne (tgt := 72) E dX8_readCommand_68 (by decide) (fun c => absurd c (by decide)) (fun _ => ?_)
                        exact RET _ _ (a, false, lo, f, q 6, tn) (⟨(show a ≤ n by omega), S, gCmd_bad (fun wd nm => gRC_b (gRWd_none (by rw [eg]; exact c2) (by rw [eg]; exact c5) (by rw [eg]; exact c8) (by rw [eg]; exact c11) (by rw [eg]; exact c14))), fun c => by cases c⟩) dX8_readCommand_71
                      · exfalso
                        exact c14 c21

set_option maxHeartbeats 4000000 in
set_option maxRecDepth 100000 in
theorem mX8_readText (G : gG) (m : Nat → Nat) (q : Nat → Int32) (n : Nat) (sg : Nat → Int32) (f tn : Nat → Int32) (hn12 : n ≤ 120) : CI G yX8_readText wsX8_readText 10 233 [.ref (m 0)] [(m 0, .inr (8, [.int (q 0), .ref (m 1), .int (nI n), .int (q 2), .int (q 3), .int (q 4), .ref (m 2), .ref (m 3), .ref (m 4), .ref (m 5), .int (q 5), .ref (m 6), .ref (m 7), .ref (m 8), .int (q 6), .int (q 7), .int (q 8)])), (m 1, .inl (gy G 0, 120, .inl sg)), (m 2, .inl (gy G 0, 271, .inl f)), (m 8, .inl (gy G 0, 10, .inl tn))] (fun (r : Int32) (u : Nat × Bool × Nat × (Nat → Int32) × Int32 × (Nat → Int32)) => (∀ wd nm, (gEI 120 n sg 0 wd nm).1 = r) ∧ (r = -1 → ∃ T, (∀ wd nm, gLoad 120 n sg 0 wd nm gSt0 0 = (T, u.2.2.1)) ∧ gI3 T ∧ sN T 0 ≤ 3630 ∧ RR T u.2.2.2.1)) (fun (u : Nat × Bool × Nat × (Nat → Int32) × Int32 × (Nat → Int32)) => [(m 0, .inr (8, [.int (q 0), .ref (m 1), .int (nI n), .int (nI u.1), .int (if u.2.1 = true then 1 else 0), .int (nI u.2.2.1), .ref (m 2), .ref (m 3), .ref (m 4), .ref (m 5), .int (q 5), .ref (m 6), .ref (m 7), .ref (m 8), .int u.2.2.2.2.1, .int (q 7), .int (q 8)])), (m 1, .inl (gy G 0, 120, .inl sg)), (m 2, .inl (gy G 0, 271, .inl u.2.2.2.1)), (m 8, .inl (gy G 0, 10, .inl u.2.2.2.2.2))]) 0 0 := by
  refine g_enterI (ty := .int) RX8 rfl (by decide) rfl (Nat.le_of_ble_eq_true rfl) ?_
  intro V E RET
  refine g_aload_n E dX8_readText_0 rfl 0 rfl ?_
  refine g_iconst (v := 0) E dX8_readText_1 (by decide) ?_
  refine g_put (ws' := [(m 0, .inr (8, [.int (q 0), .ref (m 1), .int (nI n), .int 0, .int (q 3), .int (q 4), .ref (m 2), .ref (m 3), .ref (m 4), .ref (m 5), .int (q 5), .ref (m 6), .ref (m 7), .ref (m 8), .int (q 6), .int (q 7), .int (q 8)])), (m 1, .inl (gy G 0, 120, .inl sg)), (m 2, .inl (gy G 0, 271, .inl f)), (m 8, .inl (gy G 0, 10, .inl tn))]) E uX8_readText_RX8 tyX8 tyX8_ok nmX8 0 rfl rfl 3 (by decide) kX8_readText_155 rfl rfl rfl rfl (Nat.le_of_ble_eq_true rfl) rfl dX8_readText_2 ?_
  refine g_aload_n E dX8_readText_5 rfl 0 rfl ?_
  refine g_iconst (v := 1) E dX8_readText_6 (by decide) ?_
  refine g_put (ws' := [(m 0, .inr (8, [.int (q 0), .ref (m 1), .int (nI n), .int 0, .int 1, .int (q 4), .ref (m 2), .ref (m 3), .ref (m 4), .ref (m 5), .int (q 5), .ref (m 6), .ref (m 7), .ref (m 8), .int (q 6), .int (q 7), .int (q 8)])), (m 1, .inl (gy G 0, 120, .inl sg)), (m 2, .inl (gy G 0, 271, .inl f)), (m 8, .inl (gy G 0, 10, .inl tn))]) E uX8_readText_RX8 tyX8 tyX8_ok nmX8 0 rfl rfl 4 (by decide) kX8_readText_158 rfl rfl rfl rfl (Nat.le_of_ble_eq_true rfl) rfl dX8_readText_7 ?_
  refine g_aload_n E dX8_readText_10 rfl 0 rfl ?_
  refine g_iconst (v := 0) E dX8_readText_11 (by decide) ?_
  refine g_put (ws' := [(m 0, .inr (8, [.int (q 0), .ref (m 1), .int (nI n), .int 0, .int 1, .int 0, .ref (m 2), .ref (m 3), .ref (m 4), .ref (m 5), .int (q 5), .ref (m 6), .ref (m 7), .ref (m 8), .int (q 6), .int (q 7), .int (q 8)])), (m 1, .inl (gy G 0, 120, .inl sg)), (m 2, .inl (gy G 0, 271, .inl f)), (m 8, .inl (gy G 0, 10, .inl tn))]) E uX8_readText_RX8 tyX8 tyX8_ok nmX8 0 rfl rfl 5 (by decide) kX8_readText_175 rfl rfl rfl rfl (Nat.le_of_ble_eq_true rfl) rfl dX8_readText_12 ?_
  refine g_aload_n E dX8_readText_15 rfl 0 rfl ?_
  refine g_get E uX8_readText_RX8 0 rfl rfl 6 (by decide) kX8_readText_13 rfl rfl dX8_readText_16 ?_
  refine g_callSV (F := [(m 0, .inr (8, [.int (q 0), .ref (m 1), .int (nI n), .int 0, .int 1, .int 0, .ref (m 2), .ref (m 3), .ref (m 4), .ref (m 5), .int (q 5), .ref (m 6), .ref (m 7), .ref (m 8), .int (q 6), .int (q 7), .int (q 8)])), (m 1, .inl (gy G 0, 120, .inl sg)), (m 8, .inl (gy G 0, 10, .inl tn))]) E (mX8_clean G (m 2) f) gX8_readText_X8_clean rfl hnX8_clean ⟨Nat.le_of_ble_eq_true rfl, Nat.le_of_ble_eq_true rfl⟩ (gPerm_ix [2, 0, 1, 3] rfl rfl) rfl rfl (Nat.le_of_ble_eq_true rfl) dX8_readText_19 ⟨Nat.le_of_ble_eq_true rfl, Nat.le_of_ble_eq_true rfl⟩ (fun u0 hU0 => ?_)
  refine g_perm (ws1 := [(m 0, .inr (8, [.int (q 0), .ref (m 1), .int (nI n), .int 0, .int 1, .int 0, .ref (m 2), .ref (m 3), .ref (m 4), .ref (m 5), .int (q 5), .ref (m 6), .ref (m 7), .ref (m 8), .int (q 6), .int (q 7), .int (q 8)])), (m 1, .inl (gy G 0, 120, .inl sg)), (m 2, .inl (gy G 0, 271, .inl u0)), (m 8, .inl (gy G 0, 10, .inl tn))]) (gPerm_ix [1, 2, 0, 3] rfl rfl) ?_
  refine g_aload_n E dX8_readText_22 rfl 0 rfl ?_
  refine g_callVV (F := []) E (mX8_readCommand G m (qU (qU (qU (qU q 1 (nI n)) 2 0) 3 1) 4 0) n 0 sg gSt0 u0 0 tn hn12 (by omega) gI3_0 (by decide) hU0) gX8_readText_X8_readCommand rfl hdX8_readCommand ⟨Nat.le_of_ble_eq_true rfl, Nat.le_of_ble_eq_true rfl⟩ 8 0 rfl rfl rfl (gPerm_ix [0, 1, 2, 3] rfl rfl) rfl rfl (Nat.le_of_ble_eq_true rfl) dX8_readText_23 ⟨Nat.le_of_ble_eq_true rfl, Nat.le_of_ble_eq_true rfl⟩ (fun u2 h2 => ?_)
  obtain ⟨hl2, T2, hC2, hR2⟩ := h2
  refine g_perm (ws1 := [(m 0, .inr (8, [.int (q 0), .ref (m 1), .int (nI n), .int (nI u2.1), .int (if u2.2.1 = true then 1 else 0), .int (nI u2.2.2.1), .ref (m 2), .ref (m 3), .ref (m 4), .ref (m 5), .int (q 5), .ref (m 6), .ref (m 7), .ref (m 8), .int u2.2.2.2.2.1, .int (q 7), .int (q 8)])), (m 1, .inl (gy G 0, 120, .inl sg)), (m 2, .inl (gy G 0, 271, .inl u2.2.2.2.1)), (m 8, .inl (gy G 0, 10, .inl u2.2.2.2.2.2))]) (gPerm_ix [0, 1, 2, 3] rfl rfl) ?_
  have loop4 : ∀ (n5 : Nat) (k x : Nat) (g : Bool) (lo : Nat) (T : gSt) (ft : Int32) (tk f1 : Nat → Int32), (x ≤ n) → (gTxI n sg k x g lo T) → (g = true → gI3 T ∧ sN T 0 ≤ 30 * (k + 1) ∧ RR T f1) → (if g = true then n + 1 - x else 0) < n5 → gW V 1 0 0 [(m 0, .inr (8, [.int (q 0), .ref (m 1), .int (nI n), .int (nI x), .int (if g = true then 1 else 0), .int (nI lo), .ref (m 2), .ref (m 3), .ref (m 4), .ref (m 5), .int (q 5), .ref (m 6), .ref (m 7), .ref (m 8), .int ft, .int (q 7), .int (q 8)])), (m 1, .inl (gy G 0, 120, .inl sg)), (m 2, .inl (gy G 0, 271, .inl f1)), (m 8, .inl (gy G 0, 10, .inl tk))] [(0, .ref (m 0))] 26 [] := by
    intro n5
    induction n5 with
    | zero => intro k x g lo T ft tk f1 hx hTx hKT hm7; exact absurd hm7 (Nat.not_lt_zero _)
    | succ n5 ih6 =>
      intro k x g lo T ft tk f1 hx hTx hKT hm7
      refine g_aload_n E dX8_readText_26 rfl 0 rfl ?_
      refine g_get E uX8_readText_RX8 0 rfl rfl 4 (by decide) kX8_readText_158 rfl rfl dX8_readText_27 ?_
      refine g_if_eqB (tgt := 68) (P := g = true) E dX8_readText_30 (by decide) (fun c8 => ?_) (fun c8 => ?_)
      · skip
        have hg0 : g = false := Bool.eq_false_iff.mpr c8
        refine g_aload_n E dX8_readText_68 rfl 0 rfl ?_
        refine g_get E uX8_readText_RX8 0 rfl rfl 4 (by decide) kX8_readText_158 rfl rfl dX8_readText_69 ?_
        refine g_if_eqB (tgt := 79) (P := g = true) E dX8_readText_72 (by decide) (fun c9 => ?_) (fun c9 => ?_)
        · skip
          refine g_aload_n E dX8_readText_79 rfl 0 rfl ?_
          refine g_get E uX8_readText_RX8 0 rfl rfl 3 (by decide) kX8_readText_155 rfl rfl dX8_readText_80 ?_
          exact RET _ _ _ (x, g, lo, f1, ft, tk) (⟨fun wd nm => ((hTx wd nm).1 hg0), fun c => (gNe_m1 (by omega) c).elim⟩) rfl dX8_readText_83
        · exfalso
          exact c8 c9
      · skip
        have hg1 : g = true := c8
        have hTt : gTxI n sg k x true lo T := hg1 ▸ hTx
        have hK1 := hKT hg1
        have hk1 : k + 1 ≤ x := ((hTt 0 (fun _ => 0)).2 rfl).1
        have hT31 := hK1.2.1
        refine g_ws (ws' := [(m 0, .inr (8, [.int (q 0), .ref (m 1), .int (nI n), .int (nI x), .int 1, .int (nI lo), .ref (m 2), .ref (m 3), .ref (m 4), .ref (m 5), .int (q 5), .ref (m 6), .ref (m 7), .ref (m 8), .int ft, .int (q 7), .int (q 8)])), (m 1, .inl (gy G 0, 120, .inl sg)), (m 2, .inl (gy G 0, 271, .inl f1)), (m 8, .inl (gy G 0, 10, .inl tk))]) (by rw [if_pos c8]) ?_
        refine g_aload_n E dX8_readText_33 rfl 0 rfl ?_
        refine g_get E uX8_readText_RX8 0 rfl rfl 3 (by decide) kX8_readText_155 rfl rfl dX8_readText_34 ?_
        refine g_aload_n E dX8_readText_37 rfl 0 rfl ?_
        refine g_get E uX8_readText_RX8 0 rfl rfl 2 (by decide) kX8_readText_148 rfl rfl dX8_readText_38 ?_
        refine g_icmp_geN (tgt := 68) (a := x) (b := n) E dX8_readText_41 (by decide) (by omega) (by omega) (fun c10 => ?_) (fun c10 => ?_)
        · skip
          have hxe := gTxI_e hTt (show n ≤ x by omega)
          refine g_aload_n E dX8_readText_68 rfl 0 rfl ?_
          refine g_get E uX8_readText_RX8 0 rfl rfl 4 (by decide) kX8_readText_158 rfl rfl dX8_readText_69 ?_
          refine g_if_eq (tgt := 79) E dX8_readText_72 (by decide) (fun c => absurd c (by decide)) (fun _ => ?_)
          refine g_iconst (v := (-1)) E dX8_readText_75 (by decide) ?_
          refine g_goto (tgt := 83) E dX8_readText_76 (by decide) ?_
          exact RET _ _ _ (x, true, lo, f1, ft, tk) (⟨fun wd nm => (hxe wd nm).1, fun _ => ⟨T, fun wd nm => (hxe wd nm).2, hK1.1, by omega, hK1.2.2⟩⟩) rfl dX8_readText_83
        · skip
          have hxn : x < n := by omega
          refine g_aload_n E dX8_readText_44 rfl 0 rfl ?_
          refine g_aload_n E dX8_readText_45 rfl 0 rfl ?_
          refine g_bipush (v := 59) E dX8_readText_46 (by decide) ?_
          refine g_callVIe (F := [(m 2, .inl (gy G 0, 271, .inl f1)), (m 8, .inl (gy G 0, 10, .inl tk))]) (ws2 := [(m 0, .inr (8, [.int (q 0), .ref (m 1), .int (nI n), .int (nI x), .int 1, .int (nI lo), .ref (m 2), .ref (m 3), .ref (m 4), .ref (m 5), .int (q 5), .ref (m 6), .ref (m 7), .ref (m 8), .int ft, .int (q 7), .int (q 8)])), (m 1, .inl (gy G 0, 120, .inl sg)), (m 2, .inl (gy G 0, 271, .inl f1)), (m 8, .inl (gy G 0, 10, .inl tk))]) E (mX8_isNext G m (qU (qU (qU (qU (qU q 1 (nI n)) 2 (nI x)) 3 1) 4 (nI lo)) 6 ft) n x sg 59 (by omega) (by omega) (by decide)) gX8_readText_X8_isNext rfl hdX8_isNext ⟨Nat.le_of_ble_eq_true rfl, Nat.le_of_ble_eq_true rfl⟩ 8 0 rfl rfl rfl (gPerm_ix [0, 1, 2, 3] rfl rfl) rfl rfl (Nat.le_of_ble_eq_true rfl) dX8_readText_48 ⟨Nat.le_of_ble_eq_true rfl, Nat.le_of_ble_eq_true rfl⟩ (gPerm_ix [0, 1, 2, 3] rfl rfl) ?_
          by_cases c11 : gSg n sg x = 59
          · skip
            refine g_top (y := 1) (if_pos c11) ?_
            have hltc11 : x < n := gSg_lt c11 (by first | decide | assumption)
            refine g_callVVe (F := [(m 1, .inl (gy G 0, 120, .inl sg)), (m 2, .inl (gy G 0, 271, .inl f1)), (m 8, .inl (gy G 0, 10, .inl tk))]) (ws2 := [(m 0, .inr (8, [.int (q 0), .ref (m 1), .int (nI n), .int (nI (x + 1)), .int 1, .int (nI lo), .ref (m 2), .ref (m 3), .ref (m 4), .ref (m 5), .int (q 5), .ref (m 6), .ref (m 7), .ref (m 8), .int ft, .int (q 7), .int (q 8)])), (m 1, .inl (gy G 0, 120, .inl sg)), (m 2, .inl (gy G 0, 271, .inl f1)), (m 8, .inl (gy G 0, 10, .inl tk))]) E (mX8_acceptY G m (qU (qU (qU (qU (qU q 1 (nI n)) 2 (nI x)) 3 1) 4 (nI lo)) 6 ft) x) gX8_readText_X8_accept rfl hdX8_accept ⟨Nat.le_of_ble_eq_true rfl, Nat.le_of_ble_eq_true rfl⟩ 8 0 rfl rfl rfl (gPerm_ix [0, 1, 2, 3] rfl rfl) rfl rfl (Nat.le_of_ble_eq_true rfl) dX8_readText_51 ⟨Nat.le_of_ble_eq_true rfl, Nat.le_of_ble_eq_true rfl⟩ (gPerm_ix [0, 1, 2, 3] rfl rfl) ?_
            refine g_aload_n E dX8_readText_54 rfl 0 rfl ?_
            refine g_get E uX8_readText_RX8 0 rfl rfl 4 (by decide) kX8_readText_158 rfl rfl dX8_readText_55 ?_
            refine g_if_eq (tgt := 26) E dX8_readText_58 (by decide) (fun c => absurd c (by decide)) (fun _ => ?_)
            refine g_aload_n E dX8_readText_61 rfl 0 rfl ?_
            refine g_callVV (F := []) E (mX8_readCommand G m (qU (qU (qU (qU (qU q 1 (nI n)) 2 (nI (x + 1))) 3 1) 4 (nI lo)) 6 ft) n (x + 1) sg T f1 lo tk hn12 (by omega) hK1.1 (by omega) hK1.2.2) gX8_readText_X8_readCommand rfl hdX8_readCommand ⟨Nat.le_of_ble_eq_true rfl, Nat.le_of_ble_eq_true rfl⟩ 8 0 rfl rfl rfl (gPerm_ix [0, 1, 2, 3] rfl rfl) rfl rfl (Nat.le_of_ble_eq_true rfl) dX8_readText_62 ⟨Nat.le_of_ble_eq_true rfl, Nat.le_of_ble_eq_true rfl⟩ (fun u12 h12 => ?_)
            obtain ⟨hl12, T12, hC12, hR12⟩ := h12
            refine g_perm (ws1 := [(m 0, .inr (8, [.int (q 0), .ref (m 1), .int (nI n), .int (nI u12.1), .int (if u12.2.1 = true then 1 else 0), .int (nI u12.2.2.1), .ref (m 2), .ref (m 3), .ref (m 4), .ref (m 5), .int (q 5), .ref (m 6), .ref (m 7), .ref (m 8), .int u12.2.2.2.2.1, .int (q 7), .int (q 8)])), (m 1, .inl (gy G 0, 120, .inl sg)), (m 2, .inl (gy G 0, 271, .inl u12.2.2.2.1)), (m 8, .inl (gy G 0, 10, .inl u12.2.2.2.2.2))]) (gPerm_ix [0, 1, 2, 3] rfl rfl) ?_
            refine g_goto (tgt := 26) E dX8_readText_65 (by decide) ?_
            refine g_lv [0] rfl ?_
            exact ih6  (k + 1) u12.1 u12.2.1 u12.2.2.1 T12 _ _ _ hl12 (gTxI_n hn12 hTt hxn c11 hC12) (fun c => by have q := gCmd_I3 hC12 c hK1.1 (by omega); exact ⟨q.1, by omega, hR12 c⟩) (by rw [if_pos hg1] at hm7; split; (have := gCmd_ge hC12 (by assumption)); (have q9 : x + 1 + 3 ≤ u12.1 := this); omega; omega)
          · skip
            refine g_top (y := 0) (if_neg c11) ?_
            refine g_callVVe (F := [(m 1, .inl (gy G 0, 120, .inl sg)), (m 2, .inl (gy G 0, 271, .inl f1)), (m 8, .inl (gy G 0, 10, .inl tk))]) (ws2 := [(m 0, .inr (8, [.int (q 0), .ref (m 1), .int (nI n), .int (nI x), .int 0, .int (nI lo), .ref (m 2), .ref (m 3), .ref (m 4), .ref (m 5), .int (q 5), .ref (m 6), .ref (m 7), .ref (m 8), .int ft, .int (q 7), .int (q 8)])), (m 1, .inl (gy G 0, 120, .inl sg)), (m 2, .inl (gy G 0, 271, .inl f1)), (m 8, .inl (gy G 0, 10, .inl tk))]) E (mX8_acceptN G m (qU (qU (qU (qU (qU q 1 (nI n)) 2 (nI x)) 3 1) 4 (nI lo)) 6 ft) x) gX8_readText_X8_accept rfl hdX8_accept ⟨Nat.le_of_ble_eq_true rfl, Nat.le_of_ble_eq_true rfl⟩ 8 0 rfl rfl rfl (gPerm_ix [0, 1, 2, 3] rfl rfl) rfl rfl (Nat.le_of_ble_eq_true rfl) dX8_readText_51 ⟨Nat.le_of_ble_eq_true rfl, Nat.le_of_ble_eq_true rfl⟩ (gPerm_ix [0, 1, 2, 3] rfl rfl) ?_
            refine g_aload_n E dX8_readText_54 rfl 0 rfl ?_
            refine g_get E uX8_readText_RX8 0 rfl rfl 4 (by decide) kX8_readText_158 rfl rfl dX8_readText_55 ?_
            refine g_if_eq (tgt := 26) E dX8_readText_58 (by decide) (fun _ => ?_) (fun c => absurd c (by decide))
            refine g_lv [0] rfl ?_
            exact ih6  k x false lo T _ _ _ hx (gTxI_b hTt hxn c11 lo T) (fun c => by cases c) (by rw [if_pos hg1] at hm7; rw [if_neg (by decide)]; omega)
  refine g_lv [0] rfl ?_
  exact loop4 _ 0 u2.1 u2.2.1 u2.2.2.1 T2 _ _ _ hl2 (gTxI_0 hC2) (fun c => by have q := gCmd_I3 hC2 c gI3_0 (by decide); exact ⟨q.1, q.2, hR2 c⟩) (Nat.lt_succ_self _)
