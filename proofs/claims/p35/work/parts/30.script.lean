/-- a long number without its last groups -/
def gWL : Nat → Int64 → Int64
  | 0, s => s
  | n + 1, s => gWL n s / 100000
def gOkR (r : Int32 × gSt) : Int32 × gSt := (if r.1 < 0 then 0 else 1, r.2)
/-- what a group of digits does, and whether it succeeds -/
def gSucc (S : gSt) (g : Nat) : Int32 × gSt :=
  if g / 10000 = 1 then gOkR (gTryBook S (nI (g / 1000 % 10)) (nI (g / 100 % 10)) (nI (sN S 0 + g / 10 % 10)) (nI (g % 10)))
  else if g / 10000 = 2 then (if g / 10 % 10 = 0 then (if g % 10 = 0 then gOkR (gTryWish S (nI (g / 1000 % 10)) (nI (g / 100 % 10))) else (0, S)) else (0, S))
  else if g / 10000 = 3 then (if g / 10 % 10 = 0 then (if 1 < g % 10 then (0, S) else gOkR (gTryList S (nI (g / 1000 % 10)) (nI (g / 100 % 10)) (if g % 10 = 1 then 1 else 0))) else (0, S))
  else if g / 10000 = 4 then (if g / 100 % 10 = 0 then (if g / 10 % 10 = 0 then (if 1 < g % 10 then (0, S) else gOkR (gTryCarry S (nI (g / 1000 % 10)) (if g % 10 = 1 then 1 else 0))) else (0, S)) else (0, S))
  else if g / 10000 = 5 then (if g / 100 % 10 = 0 then gOkR (gTryPunish S (nI (g / 1000 % 10)) (nI (g % 100))) else (0, S))
  else if g / 10000 = 6 then (if g / 1000 % 10 = 0 then (if g / 100 % 10 = 0 then (if (¬ nI (g % 100) < 1 ∧ ¬ 30 < nI (g % 100)) then gOkR (sI (gDays (g % 100) S) 8 0 - sI S 8 0, gDays (g % 100) S) else (0, S)) else (0, S)) else (0, S))
  else if g / 10000 = 7 then (if g / 100 % 10 = 0 then (if (¬ nI (g / 1000 % 10) < 0 ∧ ¬ nI (sN S 1) ≤ nI (g / 1000 % 10)) then (if sI S 3 (g / 1000 % 10) < nI (g % 100) then (0, S) else (1, S)) else (0, S)) else (0, S))
  else if g / 10000 = 8 then (if g / 100 % 10 = 0 then (if g / 10 % 10 = 0 then (if g % 10 = 0 then (if nI (sN S 0) < sI S 7 (g / 1000 % 10) then (0, S) else (1, S)) else (0, S)) else (0, S)) else (0, S))
  else if g / 10000 = 9 then (if g / 1000 % 10 = 0 then (if g / 100 % 10 = 0 then (if g % 100 < (sB S).length then (0, S) else (1, S)) else (0, S)) else (0, S))
  else (0, S)
/-- what a turn of a simulation does -/
def gTurn1 (S : gSt) (r : Nat) : gSt :=
  if r % 8 = 0 ∨ r % 8 = 1 then (gTryBook S (nI (r / 8 % 8)) (nI (r / 64 % 10)) (nI (sN S 0 + r / 1024 % 5)) (nI (r / 8192 % 8))).2
  else if r % 8 = 2 then (gTryWish S (nI (r / 8 % 8)) (nI (r / 64 % 10))).2
  else if r % 8 = 3 then (gTryList S (nI (r / 8 % 8)) (nI (r / 64 % 10)) 1).2
  else if r % 8 = 4 then (gTryCarry S (nI (r / 64 % 10)) 1).2
  else if r % 8 = 5 then (gTryLate S (nI (r / 8 % 24)) (nI (r / 1024 % 40))).2
  else gDays 1 S
set_option maxHeartbeats 4000000 in
set_option maxRecDepth 100000 in
theorem mX3_withoutLast (G : gG) (s : Int64) (n : Nat) (hn30 : n < 1073741824) : CLe G yX3_withoutLast wsX3_withoutLast 0 0 [.long s, .int (nI n)] [] (gWL n s) [] 0 0 := by
  refine g_enterLe RX3 rfl (by decide) rfl (Nat.le_of_ble_eq_true rfl) ?_
  intro V E RET
  refine g_lload_n E dX3_withoutLast_0 rfl 0 rfl ?_
  refine g_lstore_n (lv' := [(3, .long s), (0, .long s), (2, .int (nI n))]) E dX3_withoutLast_1 rfl (by decide) rfl ?_
  refine g_iconst (v := 0) E dX3_withoutLast_2 (by decide) ?_
  refine g_istore (lv' := [(5, .int 0), (3, .long s), (0, .long s), (2, .int (nI n))]) E dX3_withoutLast_3 (by decide) rfl ?_
  have loop1 : ∀ (n2 : Nat) (k : Nat) (x : Int64), (k ≤ n) → (x = gWL k s) → n - k < n2 → gW V 6 0 0 [] [(0, .long s), (2, .int (nI n)), (3, .long x), (5, .int (nI k))] 5 [] := by
    intro n2
    induction n2 with
    | zero => intro k x hk hx hm4; exact absurd hm4 (Nat.not_lt_zero _)
    | succ n2 ih3 =>
      intro k x hk hx hm4
      refine g_iload E dX3_withoutLast_5 3 rfl ?_
      refine g_iload_n E dX3_withoutLast_7 rfl 1 rfl ?_
      refine g_icmp_geN (tgt := 23) (a := k) (b := n) E dX3_withoutLast_8 (by decide) (by omega) (by omega) (fun c5 => ?_) (fun c5 => ?_)
      · skip
        have e9 : x = gWL n s := by rw [hx, show k = n by omega]
        refine g_lload_n E dX3_withoutLast_23 rfl 2 rfl ?_
        exact RET _ _ _ () (e9) dX3_withoutLast_24
      · skip
        have hkn : k < n := by omega
        refine g_lload_n E dX3_withoutLast_11 rfl 2 rfl ?_
        refine g_ldc2 (v := 100000) E kX3_withoutLast_11 dX3_withoutLast_12 ?_
        refine g_ldiv E dX3_withoutLast_15 (by decide) ?_
        refine g_lstore_n (lv' := [(3, .long (x / 100000)), (0, .long s), (2, .int (nI n)), (5, .int (nI k))]) E dX3_withoutLast_16 rfl (by decide) rfl ?_
        refine g_iinc (lv' := [(5, .int (nI (k + 1))), (3, .long (x / 100000)), (0, .long s), (2, .int (nI n))]) E dX3_withoutLast_17 3 rfl (g_inc _ 1 (by decide)) (by decide) rfl ?_
        refine g_goto (tgt := 5) E dX3_withoutLast_20 (by decide) ?_
        refine g_lv [2, 3, 1, 0] rfl ?_
        exact ih3  (k + 1) _ (by omega) (by rw [hx]; rfl) (by omega)
  refine g_lv [2, 3, 1, 0] rfl ?_
  exact loop1 _ 0 _ (Nat.zero_le _) rfl (Nat.lt_succ_self _)
set_option maxHeartbeats 4000000 in
set_option maxRecDepth 100000 in
theorem mX3_succeeds (G : gG) (a : Nat → Nat) (S : gSt) (gb gw : Nat → Int32) (g : Nat) (hI : gI1 S) (hT : sN S 0 < 1000000000) (hR : RB (sB S) gb) (hQ : RW (sW S) gw) (hg : g < 100000) (hTn : sN S 0 + 30 < 200000000) : CIu G yX3_succeeds wsX3_succeeds 5 163 [.ref (a 0), .int (nI g)] [(a 0, .inr (3, [.int (nI (sN S 0)), .int (nI (sN S 1)), .ref (a 1), .ref (a 2), .ref (a 3), .ref (a 4), .ref (a 5), .ref (a 6), .ref (a 7), .ref (a 8), .int (sI S 9 0), .ref (a 9), .ref (a 11), .ref (a 13), .ref (a 14)])), (a 1, .inl (gy G 0, 8, .inl (sI S 0))), (a 2, .inl (gy G 0, 8, .inl (sI S 1))), (a 3, .inl (gy G 0, 8, .inl (sI S 2))), (a 4, .inl (gy G 0, 8, .inl (sI S 3))), (a 5, .inl (gy G 0, 8, .inl (sI S 4))), (a 6, .inl (gy G 0, 8, .inl (sI S 5))), (a 7, .inl (gy G 0, 10, .inl (sI S 6))), (a 8, .inl (gy G 0, 10, .inl (sI S 7))), (a 9, .inr (1, [.int (nI ((sB S).length)), .ref (a 10)])), (a 10, .inl (gy G 0, 144, .inl gb)), (a 11, .inr (6, [.int (nI ((sW S).length)), .ref (a 12)])), (a 12, .inl (gy G 0, 10, .inl gw)), (a 13, .inl (gy G 0, 5, .inl (sI S 8))), (a 14, .inl (gy G 0, 6, .inl (fun j => nI (sS S j))))] ((gSucc S g).1) (fun u : gU => u.1 = (gSucc S g).2 ∧ RB (sB u.1) u.2.1 ∧ RW (sW u.1) u.2.2) (fun (u : gU) => [(a 0, .inr (3, [.int (nI (sN u.1 0)), .int (nI (sN u.1 1)), .ref (a 1), .ref (a 2), .ref (a 3), .ref (a 4), .ref (a 5), .ref (a 6), .ref (a 7), .ref (a 8), .int (sI u.1 9 0), .ref (a 9), .ref (a 11), .ref (a 13), .ref (a 14)])), (a 1, .inl (gy G 0, 8, .inl (sI u.1 0))), (a 2, .inl (gy G 0, 8, .inl (sI u.1 1))), (a 3, .inl (gy G 0, 8, .inl (sI u.1 2))), (a 4, .inl (gy G 0, 8, .inl (sI u.1 3))), (a 5, .inl (gy G 0, 8, .inl (sI u.1 4))), (a 6, .inl (gy G 0, 8, .inl (sI u.1 5))), (a 7, .inl (gy G 0, 10, .inl (sI u.1 6))), (a 8, .inl (gy G 0, 10, .inl (sI u.1 7))), (a 9, .inr (1, [.int (nI ((sB u.1).length)), .ref (a 10)])), (a 10, .inl (gy G 0, 144, .inl u.2.1)), (a 11, .inr (6, [.int (nI ((sW u.1).length)), .ref (a 12)])), (a 12, .inl (gy G 0, 10, .inl u.2.2)), (a 13, .inl (gy G 0, 5, .inl (sI u.1 8))), (a 14, .inl (gy G 0, 6, .inl (fun j => nI (sS u.1 j))))]) 0 0 := by
  refine g_enterIu (ty := .boolean) RX3 rfl (by decide) rfl (Nat.le_of_ble_eq_true rfl) ?_
  intro V E RET
  have hX := hI
  obtain ⟨hP8, hn, hw, hW8, hs3, hs4, hs5, hs6, hs7, hs8, hb34⟩ := hX
  have h8 : ∀ j, j < (sW S).length → wq (sW S) j < 80 := fun j hj => (hW8 j hj).1
  refine g_iload_n E dX3_succeeds_0 rfl 1 rfl ?_
  refine g_sipush (v := 1000) E dX3_succeeds_1 (by decide) ?_
  refine g_idivN (a := g) (b := 1000) E dX3_succeeds_4 (by omega) (by omega) (by omega) ?_
  refine g_bipush (v := 10) E dX3_succeeds_5 (by decide) ?_
  refine g_iremN (a := g / 1000) (b := 10) E dX3_succeeds_7 (by omega) (by omega) (by omega) ?_
  refine g_istore_n (lv' := [(2, .int (nI ((g / 1000) % 10))), (0, .ref (a 0)), (1, .int (nI g))]) E dX3_succeeds_8 rfl (by decide) rfl ?_
  refine g_iload_n E dX3_succeeds_9 rfl 2 rfl ?_
  refine g_bipush (v := 100) E dX3_succeeds_10 (by decide) ?_
  refine g_idivN (a := g) (b := 100) E dX3_succeeds_12 (by omega) (by omega) (by omega) ?_
  refine g_bipush (v := 10) E dX3_succeeds_13 (by decide) ?_
  refine g_iremN (a := g / 100) (b := 10) E dX3_succeeds_15 (by omega) (by omega) (by omega) ?_
  refine g_istore_n (lv' := [(3, .int (nI ((g / 100) % 10))), (2, .int (nI ((g / 1000) % 10))), (0, .ref (a 0)), (1, .int (nI g))]) E dX3_succeeds_16 rfl (by decide) rfl ?_
  refine g_iload_n E dX3_succeeds_17 rfl 3 rfl ?_
  refine g_bipush (v := 10) E dX3_succeeds_18 (by decide) ?_
  refine g_idivN (a := g) (b := 10) E dX3_succeeds_20 (by omega) (by omega) (by omega) ?_
  refine g_bipush (v := 10) E dX3_succeeds_21 (by decide) ?_
  refine g_iremN (a := g / 10) (b := 10) E dX3_succeeds_23 (by omega) (by omega) (by omega) ?_
  refine g_istore (lv' := [(4, .int (nI ((g / 10) % 10))), (3, .int (nI ((g / 100) % 10))), (2, .int (nI ((g / 1000) % 10))), (0, .ref (a 0)), (1, .int (nI g))]) E dX3_succeeds_24 (by decide) rfl ?_
  refine g_iload_n E dX3_succeeds_26 rfl 4 rfl ?_
  refine g_bipush (v := 10) E dX3_succeeds_27 (by decide) ?_
  refine g_iremN (a := g) (b := 10) E dX3_succeeds_29 (by omega) (by omega) (by omega) ?_
  refine g_istore (lv' := [(5, .int (nI (g % 10))), (4, .int (nI ((g / 10) % 10))), (3, .int (nI ((g / 100) % 10))), (2, .int (nI ((g / 1000) % 10))), (0, .ref (a 0)), (1, .int (nI g))]) E dX3_succeeds_30 (by decide) rfl ?_
  refine g_iload_n E dX3_succeeds_32 rfl 5 rfl ?_
  refine g_bipush (v := 100) E dX3_succeeds_33 (by decide) ?_
  refine g_iremN (a := g) (b := 100) E dX3_succeeds_35 (by omega) (by omega) (by omega) ?_
  refine g_istore (lv' := [(6, .int (nI (g % 100))), (5, .int (nI (g % 10))), (4, .int (nI ((g / 10) % 10))), (3, .int (nI ((g / 100) % 10))), (2, .int (nI ((g / 1000) % 10))), (0, .ref (a 0)), (1, .int (nI g))]) E dX3_succeeds_36 (by decide) rfl ?_
  refine g_iload_n E dX3_succeeds_38 rfl 6 rfl ?_
  refine g_sipush (v := 10000) E dX3_succeeds_39 (by decide) ?_
  refine g_idivN (a := g) (b := 10000) E dX3_succeeds_42 (by omega) (by omega) (by omega) ?_
  rcases (show g / 10000 = 0 ∨ g / 10000 = 1 ∨ g / 10000 = 2 ∨ g / 10000 = 3 ∨ g / 10000 = 4 ∨ g / 10000 = 5 ∨ g / 10000 = 6 ∨ g / 10000 = 7 ∨ g / 10000 = 8 ∨ g / 10000 = 9 by omega) with k1 | k1 | k1 | k1 | k1 | k1 | k1 | k1 | k1 | k1
  · skip
    refine g_top (y := 0) (by rw [k1]; rfl) ?_
    refine g_tableOut (tgt := 359) E dX3_succeeds_43 (by decide) (by decide) ?_
    refine g_iconst (v := 0) E dX3_succeeds_359 (by decide) ?_
    exact RET _ _ _ (S, gb, gw) (⟨(by first | (simp [gSucc, gOkR, k1]; done) | (simp [gSucc, gOkR, k1, -Int32.not_lt, -Int32.not_le]; done)), (by first | (simp [gSucc, gOkR, k1]; done) | (simp [gSucc, gOkR, k1, -Int32.not_lt, -Int32.not_le]; done)), hR, hQ⟩) rfl dX3_succeeds_360
  · skip
    refine g_top (y := 1) (by rw [k1]; rfl) ?_
    refine g_tableIn (tgt := 92) E dX3_succeeds_43 (by decide) (by decide) rfl (by decide) ?_
    refine g_aload_n E dX3_succeeds_92 rfl 5 rfl ?_
    refine g_iload_n E dX3_succeeds_93 rfl 4 rfl ?_
    refine g_iload_n E dX3_succeeds_94 rfl 3 rfl ?_
    refine g_aload_n E dX3_succeeds_95 rfl 5 rfl ?_
    refine g_get E uX3_succeeds_RX2 0 rfl rfl 0 (by decide) kX3_succeeds_13 rfl rfl dX3_succeeds_96 ?_
    refine g_iload E dX3_succeeds_99 2 rfl ?_
    refine g_iaddN (a := sN S 0) (b := (g / 10) % 10) E dX3_succeeds_101 ?_
    refine g_iload E dX3_succeeds_102 1 rfl ?_
    refine g_callVIu (F := []) E (mX2_tryBook G a S gb gw (nI ((g / 1000) % 10)) (nI ((g / 100) % 10)) (nI (sN S 0 + ((g / 10) % 10))) (nI (g % 10)) hI hT hR hQ ) gX3_succeeds_X2_tryBook rfl hdX2_tryBook ⟨Nat.le_of_ble_eq_true rfl, Nat.le_of_ble_eq_true rfl⟩ 3 0 rfl rfl rfl (gPerm_ix [0, 1, 2, 3, 4, 5, 6, 7, 8, 9, 10, 11, 12, 13, 14] rfl rfl) rfl rfl (Nat.le_of_ble_eq_true rfl) dX3_succeeds_104 ⟨Nat.le_of_ble_eq_true rfl, Nat.le_of_ble_eq_true rfl⟩ (fun u2 h2 => ?_)
    obtain ⟨S2, gb2, gw2⟩ := u2
    obtain ⟨hS2, hR2, hQ2⟩ := h2
    have xE2 : S2 = (gTryBook S (nI ((g / 1000) % 10)) (nI ((g / 100) % 10)) (nI (sN S 0 + ((g / 10) % 10))) (nI (g % 10))).2 := hS2
    have hI2 : gI1 S2 := by rw [xE2]; exact gI1_tryBook hI _ _ _ _
    have hT2 : sN S2 0 < 1000000000 := by rw [xE2]; exact gT_tryBook hT _ _ _ _
    refine g_perm (ws1 := [(a 0, .inr (3, [.int (nI (sN S2 0)), .int (nI (sN S2 1)), .ref (a 1), .ref (a 2), .ref (a 3), .ref (a 4), .ref (a 5), .ref (a 6), .ref (a 7), .ref (a 8), .int (sI S2 9 0), .ref (a 9), .ref (a 11), .ref (a 13), .ref (a 14)])), (a 1, .inl (gy G 0, 8, .inl (sI S2 0))), (a 2, .inl (gy G 0, 8, .inl (sI S2 1))), (a 3, .inl (gy G 0, 8, .inl (sI S2 2))), (a 4, .inl (gy G 0, 8, .inl (sI S2 3))), (a 5, .inl (gy G 0, 8, .inl (sI S2 4))), (a 6, .inl (gy G 0, 8, .inl (sI S2 5))), (a 7, .inl (gy G 0, 10, .inl (sI S2 6))), (a 8, .inl (gy G 0, 10, .inl (sI S2 7))), (a 9, .inr (1, [.int (nI ((sB S2).length)), .ref (a 10)])), (a 10, .inl (gy G 0, 144, .inl gb2)), (a 11, .inr (6, [.int (nI ((sW S2).length)), .ref (a 12)])), (a 12, .inl (gy G 0, 10, .inl gw2)), (a 13, .inl (gy G 0, 5, .inl (sI S2 8))), (a 14, .inl (gy G 0, 6, .inl (fun j => nI (sS S2 j))))]) (gPerm_ix [0, 1, 2, 3, 4, 5, 6, 7, 8, 9, 10, 11, 12, 13, 14] rfl rfl) ?_
    refine g_if_lt (tgt := 114) E dX3_succeeds_107 (by decide) (fun c4 => ?_) (fun c4 => ?_)
    · skip
      refine g_iconst (v := 0) E dX3_succeeds_114 (by decide) ?_
      exact RET _ _ _ (S2, gb2, gw2) (⟨(by first | (simp [gSucc, gOkR, k1, c4]; done) | (simp [gSucc, gOkR, k1, c4]; exact xE2) | (simp [gSucc, gOkR, k1, c4, -Int32.not_lt, -Int32.not_le]; done) | (simp [gSucc, gOkR, k1, c4, -Int32.not_lt, -Int32.not_le]; exact xE2)), (by first | (simp [gSucc, gOkR, k1, c4]; done) | (simp [gSucc, gOkR, k1, c4]; exact xE2) | (simp [gSucc, gOkR, k1, c4, -Int32.not_lt, -Int32.not_le]; done) | (simp [gSucc, gOkR, k1, c4, -Int32.not_lt, -Int32.not_le]; exact xE2)), hR2, hQ2⟩) rfl dX3_succeeds_115
    · skip
      refine g_iconst (v := 1) E dX3_succeeds_110 (by decide) ?_
      refine g_goto (tgt := 115) E dX3_succeeds_111 (by decide) ?_
      exact RET _ _ _ (S2, gb2, gw2) (⟨(by first | (simp [gSucc, gOkR, k1, c4]; done) | (simp [gSucc, gOkR, k1, c4]; exact xE2) | (simp [gSucc, gOkR, k1, c4, -Int32.not_lt, -Int32.not_le]; done) | (simp [gSucc, gOkR, k1, c4, -Int32.not_lt, -Int32.not_le]; exact xE2)), (by first | (simp [gSucc, gOkR, k1, c4]; done) | (simp [gSucc, gOkR, k1, c4]; exact xE2) | (simp [gSucc, gOkR, k1, c4, -Int32.not_lt, -Int32.not_le]; done) | (simp [gSucc, gOkR, k1, c4, -Int32.not_lt, -Int32.not_le]; exact xE2)), hR2, hQ2⟩) rfl dX3_succeeds_115
  · skip
    refine g_top (y := 2) (by rw [k1]; rfl) ?_
    refine g_tableIn (tgt := 116) E dX3_succeeds_43 (by decide) (by decide) rfl (by decide) ?_
    refine g_iload E dX3_succeeds_116 2 rfl ?_
    refine g_if_neN (tgt := 139) (a := (g / 10) % 10) E dX3_succeeds_118 (by decide) (by omega) (fun c5 => ?_) (fun c5 => ?_)
    · skip
      refine g_iconst (v := 0) E dX3_succeeds_139 (by decide) ?_
      exact RET _ _ _ (S, gb, gw) (⟨(by first | (simp [gSucc, gOkR, k1, c5]; done) | (simp [gSucc, gOkR, k1, c5, -Int32.not_lt, -Int32.not_le]; done)), (by first | (simp [gSucc, gOkR, k1, c5]; done) | (simp [gSucc, gOkR, k1, c5, -Int32.not_lt, -Int32.not_le]; done)), hR, hQ⟩) rfl dX3_succeeds_140
    · skip
      refine g_iload E dX3_succeeds_121 1 rfl ?_
      refine g_if_neN (tgt := 139) (a := g % 10) E dX3_succeeds_123 (by decide) (by omega) (fun c6 => ?_) (fun c6 => ?_)
      · skip
        refine g_iconst (v := 0) E dX3_succeeds_139 (by decide) ?_
        exact RET _ _ _ (S, gb, gw) (⟨(by first | (simp [gSucc, gOkR, k1, c5, c6]; done) | (simp [gSucc, gOkR, k1, c5, c6, -Int32.not_lt, -Int32.not_le]; done)), (by first | (simp [gSucc, gOkR, k1, c5, c6]; done) | (simp [gSucc, gOkR, k1, c5, c6, -Int32.not_lt, -Int32.not_le]; done)), hR, hQ⟩) rfl dX3_succeeds_140
      · skip
        refine g_aload_n E dX3_succeeds_126 rfl 5 rfl ?_
        refine g_iload_n E dX3_succeeds_127 rfl 4 rfl ?_
        refine g_iload_n E dX3_succeeds_128 rfl 3 rfl ?_
        refine g_callVIu (F := []) E (mX2_tryWish G a S gb gw (nI ((g / 1000) % 10)) (nI ((g / 100) % 10)) hI hT hR hQ ) gX3_succeeds_X2_tryWish rfl hdX2_tryWish ⟨Nat.le_of_ble_eq_true rfl, Nat.le_of_ble_eq_true rfl⟩ 3 0 rfl rfl rfl (gPerm_ix [0, 1, 2, 3, 4, 5, 6, 7, 8, 9, 10, 11, 12, 13, 14] rfl rfl) rfl rfl (Nat.le_of_ble_eq_true rfl) dX3_succeeds_129 ⟨Nat.le_of_ble_eq_true rfl, Nat.le_of_ble_eq_true rfl⟩ (fun u7 h7 => ?_)
        obtain ⟨S7, gb7, gw7⟩ := u7
        obtain ⟨hS7, hR7, hQ7⟩ := h7
        have xE7 : S7 = (gTryWish S (nI ((g / 1000) % 10)) (nI ((g / 100) % 10))).2 := hS7
        have hI7 : gI1 S7 := by rw [xE7]; exact gI1_tryWish hI _ _
        have hT7 : sN S7 0 < 1000000000 := by rw [xE7]; exact gT_tryWish hT _ _
        refine g_perm (ws1 := [(a 0, .inr (3, [.int (nI (sN S7 0)), .int (nI (sN S7 1)), .ref (a 1), .ref (a 2), .ref (a 3), .ref (a 4), .ref (a 5), .ref (a 6), .ref (a 7), .ref (a 8), .int (sI S7 9 0), .ref (a 9), .ref (a 11), .ref (a 13), .ref (a 14)])), (a 1, .inl (gy G 0, 8, .inl (sI S7 0))), (a 2, .inl (gy G 0, 8, .inl (sI S7 1))), (a 3, .inl (gy G 0, 8, .inl (sI S7 2))), (a 4, .inl (gy G 0, 8, .inl (sI S7 3))), (a 5, .inl (gy G 0, 8, .inl (sI S7 4))), (a 6, .inl (gy G 0, 8, .inl (sI S7 5))), (a 7, .inl (gy G 0, 10, .inl (sI S7 6))), (a 8, .inl (gy G 0, 10, .inl (sI S7 7))), (a 9, .inr (1, [.int (nI ((sB S7).length)), .ref (a 10)])), (a 10, .inl (gy G 0, 144, .inl gb7)), (a 11, .inr (6, [.int (nI ((sW S7).length)), .ref (a 12)])), (a 12, .inl (gy G 0, 10, .inl gw7)), (a 13, .inl (gy G 0, 5, .inl (sI S7 8))), (a 14, .inl (gy G 0, 6, .inl (fun j => nI (sS S7 j))))]) (gPerm_ix [0, 1, 2, 3, 4, 5, 6, 7, 8, 9, 10, 11, 12, 13, 14] rfl rfl) ?_
        refine g_if_lt (tgt := 139) E dX3_succeeds_132 (by decide) (fun c9 => ?_) (fun c9 => ?_)
        · skip
          refine g_iconst (v := 0) E dX3_succeeds_139 (by decide) ?_
          exact RET _ _ _ (S7, gb7, gw7) (⟨(by first | (simp [gSucc, gOkR, k1, c5, c6, c9]; done) | (simp [gSucc, gOkR, k1, c5, c6, c9]; exact xE7) | (simp [gSucc, gOkR, k1, c5, c6, c9, -Int32.not_lt, -Int32.not_le]; done) | (simp [gSucc, gOkR, k1, c5, c6, c9, -Int32.not_lt, -Int32.not_le]; exact xE7)), (by first | (simp [gSucc, gOkR, k1, c5, c6, c9]; done) | (simp [gSucc, gOkR, k1, c5, c6, c9]; exact xE7) | (simp [gSucc, gOkR, k1, c5, c6, c9, -Int32.not_lt, -Int32.not_le]; done) | (simp [gSucc, gOkR, k1, c5, c6, c9, -Int32.not_lt, -Int32.not_le]; exact xE7)), hR7, hQ7⟩) rfl dX3_succeeds_140
        · skip
          refine g_iconst (v := 1) E dX3_succeeds_135 (by decide) ?_
          refine g_goto (tgt := 140) E dX3_succeeds_136 (by decide) ?_
          exact RET _ _ _ (S7, gb7, gw7) (⟨(by first | (simp [gSucc, gOkR, k1, c5, c6, c9]; done) | (simp [gSucc, gOkR, k1, c5, c6, c9]; exact xE7) | (simp [gSucc, gOkR, k1, c5, c6, c9, -Int32.not_lt, -Int32.not_le]; done) | (simp [gSucc, gOkR, k1, c5, c6, c9, -Int32.not_lt, -Int32.not_le]; exact xE7)), (by first | (simp [gSucc, gOkR, k1, c5, c6, c9]; done) | (simp [gSucc, gOkR, k1, c5, c6, c9]; exact xE7) | (simp [gSucc, gOkR, k1, c5, c6, c9, -Int32.not_lt, -Int32.not_le]; done) | (simp [gSucc, gOkR, k1, c5, c6, c9, -Int32.not_lt, -Int32.not_le]; exact xE7)), hR7, hQ7⟩) rfl dX3_succeeds_140
  · skip
    refine g_top (y := 3) (by rw [k1]; rfl) ?_
    refine g_tableIn (tgt := 141) E dX3_succeeds_43 (by decide) (by decide) rfl (by decide) ?_
    refine g_iload E dX3_succeeds_141 2 rfl ?_
    refine g_if_neN (tgt := 176) (a := (g / 10) % 10) E dX3_succeeds_143 (by decide) (by omega) (fun c10 => ?_) (fun c10 => ?_)
    · skip
      refine g_iconst (v := 0) E dX3_succeeds_176 (by decide) ?_
      exact RET _ _ _ (S, gb, gw) (⟨(by first | (simp [gSucc, gOkR, k1, c10]; done) | (simp [gSucc, gOkR, k1, c10, -Int32.not_lt, -Int32.not_le]; done)), (by first | (simp [gSucc, gOkR, k1, c10]; done) | (simp [gSucc, gOkR, k1, c10, -Int32.not_lt, -Int32.not_le]; done)), hR, hQ⟩) rfl dX3_succeeds_177
    · skip
      refine g_iload E dX3_succeeds_146 1 rfl ?_
      refine g_iconst (v := 1) E dX3_succeeds_148 (by decide) ?_
      refine g_icmp_gtN (tgt := 176) (a := g % 10) (b := 1) E dX3_succeeds_149 (by decide) (by omega) (by omega) (fun c11 => ?_) (fun c11 => ?_)
      · skip
        refine g_iconst (v := 0) E dX3_succeeds_176 (by decide) ?_
        exact RET _ _ _ (S, gb, gw) (⟨(by first | (simp [gSucc, gOkR, k1, c10, c11]; done) | (simp [gSucc, gOkR, k1, c10, c11, -Int32.not_lt, -Int32.not_le]; done)), (by first | (simp [gSucc, gOkR, k1, c10, c11]; done) | (simp [gSucc, gOkR, k1, c10, c11, -Int32.not_lt, -Int32.not_le]; done)), hR, hQ⟩) rfl dX3_succeeds_177
      · skip
        refine g_aload_n E dX3_succeeds_152 rfl 5 rfl ?_
        refine g_iload_n E dX3_succeeds_153 rfl 4 rfl ?_
        refine g_iload_n E dX3_succeeds_154 rfl 3 rfl ?_
        refine g_iload E dX3_succeeds_155 1 rfl ?_
        refine g_iconst (v := 1) E dX3_succeeds_157 (by decide) ?_
        refine g_icmp_neN (tgt := 165) (a := g % 10) (b := 1) E dX3_succeeds_158 (by decide) (by omega) (by omega) (fun c12 => ?_) (fun c12 => ?_)
        · skip
          refine g_iconst (v := 0) E dX3_succeeds_165 (by decide) ?_
          refine g_callVIu (F := []) E (mX2_tryList G a S gb gw (nI ((g / 1000) % 10)) (nI ((g / 100) % 10)) 0 hI hT hR hQ ) gX3_succeeds_X2_tryList rfl hdX2_tryList ⟨Nat.le_of_ble_eq_true rfl, Nat.le_of_ble_eq_true rfl⟩ 3 0 rfl rfl rfl (gPerm_ix [0, 1, 2, 3, 4, 5, 6, 7, 8, 9, 10, 11, 12, 13, 14] rfl rfl) rfl rfl (Nat.le_of_ble_eq_true rfl) dX3_succeeds_166 ⟨Nat.le_of_ble_eq_true rfl, Nat.le_of_ble_eq_true rfl⟩ (fun u13 h13 => ?_)
          obtain ⟨S13, gb13, gw13⟩ := u13
          obtain ⟨hS13, hR13, hQ13⟩ := h13
          have xE13 : S13 = (gTryList S (nI ((g / 1000) % 10)) (nI ((g / 100) % 10)) 0).2 := hS13
          have hI13 : gI1 S13 := by rw [xE13]; exact gI1_tryList hI _ _ _
          have hT13 : sN S13 0 < 1000000000 := by rw [xE13]; exact gT_tryList hT _ _ _
          refine g_perm (ws1 := [(a 0, .inr (3, [.int (nI (sN S13 0)), .int (nI (sN S13 1)), .ref (a 1), .ref (a 2), .ref (a 3), .ref (a 4), .ref (a 5), .ref (a 6), .ref (a 7), .ref (a 8), .int (sI S13 9 0), .ref (a 9), .ref (a 11), .ref (a 13), .ref (a 14)])), (a 1, .inl (gy G 0, 8, .inl (sI S13 0))), (a 2, .inl (gy G 0, 8, .inl (sI S13 1))), (a 3, .inl (gy G 0, 8, .inl (sI S13 2))), (a 4, .inl (gy G 0, 8, .inl (sI S13 3))), (a 5, .inl (gy G 0, 8, .inl (sI S13 4))), (a 6, .inl (gy G 0, 8, .inl (sI S13 5))), (a 7, .inl (gy G 0, 10, .inl (sI S13 6))), (a 8, .inl (gy G 0, 10, .inl (sI S13 7))), (a 9, .inr (1, [.int (nI ((sB S13).length)), .ref (a 10)])), (a 10, .inl (gy G 0, 144, .inl gb13)), (a 11, .inr (6, [.int (nI ((sW S13).length)), .ref (a 12)])), (a 12, .inl (gy G 0, 10, .inl gw13)), (a 13, .inl (gy G 0, 5, .inl (sI S13 8))), (a 14, .inl (gy G 0, 6, .inl (fun j => nI (sS S13 j))))]) (gPerm_ix [0, 1, 2, 3, 4, 5, 6, 7, 8, 9, 10, 11, 12, 13, 14] rfl rfl) ?_
          refine g_if_lt (tgt := 176) E dX3_succeeds_169 (by decide) (fun c15 => ?_) (fun c15 => ?_)
          · skip
            refine g_iconst (v := 0) E dX3_succeeds_176 (by decide) ?_
            exact RET _ _ _ (S13, gb13, gw13) (⟨(by first | (simp [gSucc, gOkR, k1, c10, c11, c12, c15]; done) | (simp [gSucc, gOkR, k1, c10, c11, c12, c15]; exact xE13) | (simp [gSucc, gOkR, k1, c10, c11, c12, c15, -Int32.not_lt, -Int32.not_le]; done) | (simp [gSucc, gOkR, k1, c10, c11, c12, c15, -Int32.not_lt, -Int32.not_le]; exact xE13)), (by first | (simp [gSucc, gOkR, k1, c10, c11, c12, c15]; done) | (simp [gSucc, gOkR, k1, c10, c11, c12, c15]; exact xE13) | (simp [gSucc, gOkR, k1, c10, c11, c12, c15, -Int32.not_lt, -Int32.not_le]; done) | (simp [gSucc, gOkR, k1, c10, c11, c12, c15, -Int32.not_lt, -Int32.not_le]; exact xE13)), hR13, hQ13⟩) rfl dX3_succeeds_177
          · skip
            refine g_iconst (v := 1) E dX3_succeeds_172 (by decide) ?_
            refine g_goto (tgt := 177) E dX3_succeeds_173 (by decide) ?_
            exact RET _ _ _ (S13, gb13, gw13) (⟨(by first | (simp [gSucc, gOkR, k1, c10, c11, c12, c15]; done) | (simp [gSucc, gOkR, k1, c10, c11, c12, c15]; exact xE13) | (simp [gSucc, gOkR, k1, c10, c11, c12, c15, -Int32.not_lt, -Int32.not_le]; done) | (simp [gSucc, gOkR, k1, c10, c11, c12, c15, -Int32.not_lt, -Int32.not_le]; exact xE13)), (by first | (simp [gSucc, gOkR, k1, c10, c11, c12, c15]; done) | (simp [gSucc, gOkR, k1, c10, c11, c12, c15]; exact xE13) | (simp [gSucc, gOkR, k1, c10, c11, c12, c15, -Int32.not_lt, -Int32.not_le]; done) | (simp [gSucc, gOkR, k1, c10, c11, c12, c15, -Int32.not_lt, -Int32.not_le]; exact xE13)), hR13, hQ13⟩) rfl dX3_succeeds_177
        · skip
          refine g_iconst (v := 1) E dX3_succeeds_161 (by decide) ?_
          refine g_goto (tgt := 166) E dX3_succeeds_162 (by decide) ?_
          refine g_callVIu (F := []) E (mX2_tryList G a S gb gw (nI ((g / 1000) % 10)) (nI ((g / 100) % 10)) 1 hI hT hR hQ ) gX3_succeeds_X2_tryList rfl hdX2_tryList ⟨Nat.le_of_ble_eq_true rfl, Nat.le_of_ble_eq_true rfl⟩ 3 0 rfl rfl rfl (gPerm_ix [0, 1, 2, 3, 4, 5, 6, 7, 8, 9, 10, 11, 12, 13, 14] rfl rfl) rfl rfl (Nat.le_of_ble_eq_true rfl) dX3_succeeds_166 ⟨Nat.le_of_ble_eq_true rfl, Nat.le_of_ble_eq_true rfl⟩ (fun u16 h16 => ?_)
          obtain ⟨S16, gb16, gw16⟩ := u16
          obtain ⟨hS16, hR16, hQ16⟩ := h16
          have xE16 : S16 = (gTryList S (nI ((g / 1000) % 10)) (nI ((g / 100) % 10)) 1).2 := hS16
          have hI16 : gI1 S16 := by rw [xE16]; exact gI1_tryList hI _ _ _
          have hT16 : sN S16 0 < 1000000000 := by rw [xE16]; exact gT_tryList hT _ _ _
          refine g_perm (ws1 := [(a 0, .inr (3, [.int (nI (sN S16 0)), .int (nI (sN S16 1)), .ref (a 1), .ref (a 2), .ref (a 3), .ref (a 4), .ref (a 5), .ref (a 6), .ref (a 7), .ref (a 8), .int (sI S16 9 0), .ref (a 9), .ref (a 11), .ref (a 13), .ref (a 14)])), (a 1, .inl (gy G 0, 8, .inl (sI S16 0))), (a 2, .inl (gy G 0, 8, .inl (sI S16 1))), (a 3, .inl (gy G 0, 8, .inl (sI S16 2))), (a 4, .inl (gy G 0, 8, .inl (sI S16 3))), (a 5, .inl (gy G 0, 8, .inl (sI S16 4))), (a 6, .inl (gy G 0, 8, .inl (sI S16 5))), (a 7, .inl (gy G 0, 10, .inl (sI S16 6))), (a 8, .inl (gy G 0, 10, .inl (sI S16 7))), (a 9, .inr (1, [.int (nI ((sB S16).length)), .ref (a 10)])), (a 10, .inl (gy G 0, 144, .inl gb16)), (a 11, .inr (6, [.int (nI ((sW S16).length)), .ref (a 12)])), (a 12, .inl (gy G 0, 10, .inl gw16)), (a 13, .inl (gy G 0, 5, .inl (sI S16 8))), (a 14, .inl (gy G 0, 6, .inl (fun j => nI (sS S16 j))))]) (gPerm_ix [0, 1, 2, 3, 4, 5, 6, 7, 8, 9, 10, 11, 12, 13, 14] rfl rfl) ?_
          refine g_if_lt (tgt := 176) E dX3_succeeds_169 (by decide) (fun c18 => ?_) (fun c18 => ?_)
          · skip
            refine g_iconst (v := 0) E dX3_succeeds_176 (by decide) ?_
            exact RET _ _ _ (S16, gb16, gw16) (⟨(by first | (simp [gSucc, gOkR, k1, c10, c11, c12, c18]; done) | (simp [gSucc, gOkR, k1, c10, c11, c12, c18]; exact xE16) | (simp [gSucc, gOkR, k1, c10, c11, c12, c18, -Int32.not_lt, -Int32.not_le]; done) | (simp [gSucc, gOkR, k1, c10, c11, c12, c18, -Int32.not_lt, -Int32.not_le]; exact xE16)), (by first | (simp [gSucc, gOkR, k1, c10, c11, c12, c18]; done) | (simp [gSucc, gOkR, k1, c10, c11, c12, c18]; exact xE16) | (simp [gSucc, gOkR, k1, c10, c11, c12, c18, -Int32.not_lt, -Int32.not_le]; done) | (simp [gSucc, gOkR, k1, c10, c11, c12, c18, -Int32.not_lt, -Int32.not_le]; exact xE16)), hR16, hQ16⟩) rfl dX3_succeeds_177
          · skip
            refine g_iconst (v := 1) E dX3_succeeds_172 (by decide) ?_
            refine g_goto (tgt := 177) E dX3_succeeds_173 (by decide) ?_
            exact RET _ _ _ (S16, gb16, gw16) (⟨(by first | (simp [gSucc, gOkR, k1, c10, c11, c12, c18]; done) | (simp [gSucc, gOkR, k1, c10, c11, c12, c18]; exact xE16) | (simp [gSucc, gOkR, k1, c10, c11, c12, c18, -Int32.not_lt, -Int32.not_le]; done) | (simp [gSucc, gOkR, k1, c10, c11, c12, c18, -Int32.not_lt, -Int32.not_le]; exact xE16)), (by first | (simp [gSucc, gOkR, k1, c10, c11, c12, c18]; done) | (simp [gSucc, gOkR, k1, c10, c11, c12, c18]; exact xE16) | (simp [gSucc, gOkR, k1, c10, c11, c12, c18, -Int32.not_lt, -Int32.not_le]; done) | (simp [gSucc, gOkR, k1, c10, c11, c12, c18, -Int32.not_lt, -Int32.not_le]; exact xE16)), hR16, hQ16⟩) rfl dX3_succeeds_177
  · skip
    refine g_top (y := 4) (by rw [k1]; rfl) ?_
    refine g_tableIn (tgt := 178) E dX3_succeeds_43 (by decide) (by decide) rfl (by decide) ?_
    refine g_iload_n E dX3_succeeds_178 rfl 3 rfl ?_
    refine g_if_neN (tgt := 216) (a := (g / 100) % 10) E dX3_succeeds_179 (by decide) (by omega) (fun c19 => ?_) (fun c19 => ?_)
    · skip
      refine g_iconst (v := 0) E dX3_succeeds_216 (by decide) ?_
      exact RET _ _ _ (S, gb, gw) (⟨(by first | (simp [gSucc, gOkR, k1, c19]; done) | (simp [gSucc, gOkR, k1, c19, -Int32.not_lt, -Int32.not_le]; done)), (by first | (simp [gSucc, gOkR, k1, c19]; done) | (simp [gSucc, gOkR, k1, c19, -Int32.not_lt, -Int32.not_le]; done)), hR, hQ⟩) rfl dX3_succeeds_217
    · skip
      refine g_iload E dX3_succeeds_182 2 rfl ?_
      refine g_if_neN (tgt := 216) (a := (g / 10) % 10) E dX3_succeeds_184 (by decide) (by omega) (fun c20 => ?_) (fun c20 => ?_)
      · skip
        refine g_iconst (v := 0) E dX3_succeeds_216 (by decide) ?_
        exact RET _ _ _ (S, gb, gw) (⟨(by first | (simp [gSucc, gOkR, k1, c19, c20]; done) | (simp [gSucc, gOkR, k1, c19, c20, -Int32.not_lt, -Int32.not_le]; done)), (by first | (simp [gSucc, gOkR, k1, c19, c20]; done) | (simp [gSucc, gOkR, k1, c19, c20, -Int32.not_lt, -Int32.not_le]; done)), hR, hQ⟩) rfl dX3_succeeds_217
      · skip
        refine g_iload E dX3_succeeds_187 1 rfl ?_
        refine g_iconst (v := 1) E dX3_succeeds_189 (by decide) ?_
        refine g_icmp_gtN (tgt := 216) (a := g % 10) (b := 1) E dX3_succeeds_190 (by decide) (by omega) (by omega) (fun c21 => ?_) (fun c21 => ?_)
        · skip
          refine g_iconst (v := 0) E dX3_succeeds_216 (by decide) ?_
          exact RET _ _ _ (S, gb, gw) (⟨(by first | (simp [gSucc, gOkR, k1, c19, c20, c21]; done) | (simp [gSucc, gOkR, k1, c19, c20, c21, -Int32.not_lt, -Int32.not_le]; done)), (by first | (simp [gSucc, gOkR, k1, c19, c20, c21]; done) | (simp [gSucc, gOkR, k1, c19, c20, c21, -Int32.not_lt, -Int32.not_le]; done)), hR, hQ⟩) rfl dX3_succeeds_217
        · skip
          refine g_aload_n E dX3_succeeds_193 rfl 5 rfl ?_
          refine g_iload_n E dX3_succeeds_194 rfl 4 rfl ?_
          refine g_iload E dX3_succeeds_195 1 rfl ?_
          refine g_iconst (v := 1) E dX3_succeeds_197 (by decide) ?_
          refine g_icmp_neN (tgt := 205) (a := g % 10) (b := 1) E dX3_succeeds_198 (by decide) (by omega) (by omega) (fun c22 => ?_) (fun c22 => ?_)
          · skip
            refine g_iconst (v := 0) E dX3_succeeds_205 (by decide) ?_
            refine g_callVIu (F := []) E (mX2_tryCarry G a S gb gw (nI ((g / 1000) % 10)) 0 hI hT hR hQ ) gX3_succeeds_X2_tryCarry rfl hdX2_tryCarry ⟨Nat.le_of_ble_eq_true rfl, Nat.le_of_ble_eq_true rfl⟩ 3 0 rfl rfl rfl (gPerm_ix [0, 1, 2, 3, 4, 5, 6, 7, 8, 9, 10, 11, 12, 13, 14] rfl rfl) rfl rfl (Nat.le_of_ble_eq_true rfl) dX3_succeeds_206 ⟨Nat.le_of_ble_eq_true rfl, Nat.le_of_ble_eq_true rfl⟩ (fun u23 h23 => ?_)
            obtain ⟨S23, gb23, gw23⟩ := u23
            obtain ⟨hS23, hR23, hQ23⟩ := h23
            have xE23 : S23 = (gTryCarry S (nI ((g / 1000) % 10)) 0).2 := hS23
            have hI23 : gI1 S23 := by rw [xE23]; exact gI1_tryCarry hI _ _
            have hT23 : sN S23 0 < 1000000000 := by rw [xE23]; exact gT_tryCarry hT _ _
            refine g_perm (ws1 := [(a 0, .inr (3, [.int (nI (sN S23 0)), .int (nI (sN S23 1)), .ref (a 1), .ref (a 2), .ref (a 3), .ref (a 4), .ref (a 5), .ref (a 6), .ref (a 7), .ref (a 8), .int (sI S23 9 0), .ref (a 9), .ref (a 11), .ref (a 13), .ref (a 14)])), (a 1, .inl (gy G 0, 8, .inl (sI S23 0))), (a 2, .inl (gy G 0, 8, .inl (sI S23 1))), (a 3, .inl (gy G 0, 8, .inl (sI S23 2))), (a 4, .inl (gy G 0, 8, .inl (sI S23 3))), (a 5, .inl (gy G 0, 8, .inl (sI S23 4))), (a 6, .inl (gy G 0, 8, .inl (sI S23 5))), (a 7, .inl (gy G 0, 10, .inl (sI S23 6))), (a 8, .inl (gy G 0, 10, .inl (sI S23 7))), (a 9, .inr (1, [.int (nI ((sB S23).length)), .ref (a 10)])), (a 10, .inl (gy G 0, 144, .inl gb23)), (a 11, .inr (6, [.int (nI ((sW S23).length)), .ref (a 12)])), (a 12, .inl (gy G 0, 10, .inl gw23)), (a 13, .inl (gy G 0, 5, .inl (sI S23 8))), (a 14, .inl (gy G 0, 6, .inl (fun j => nI (sS S23 j))))]) (gPerm_ix [0, 1, 2, 3, 4, 5, 6, 7, 8, 9, 10, 11, 12, 13, 14] rfl rfl) ?_
            refine g_if_lt (tgt := 216) E dX3_succeeds_209 (by decide) (fun c25 => ?_) (fun c25 => ?_)
            · skip
              refine g_iconst (v := 0) E dX3_succeeds_216 (by decide) ?_
              exact RET _ _ _ (S23, gb23, gw23) (⟨(by first | (simp [gSucc, gOkR, k1, c19, c20, c21, c22, c25]; done) | (simp [gSucc, gOkR, k1, c19, c20, c21, c22, c25]; exact xE23) | (simp [gSucc, gOkR, k1, c19, c20, c21, c22, c25, -Int32.not_lt, -Int32.not_le]; done) | (simp [gSucc, gOkR, k1, c19, c20, c21, c22, c25, -Int32.not_lt, -Int32.not_le]; exact xE23)), (by first | (simp [gSucc, gOkR, k1, c19, c20, c21, c22, c25]; done) | (simp [gSucc, gOkR, k1, c19, c20, c21, c22, c25]; exact xE23) | (simp [gSucc, gOkR, k1, c19, c20, c21, c22, c25, -Int32.not_lt, -Int32.not_le]; done) | (simp [gSucc, gOkR, k1, c19, c20, c21, c22, c25, -Int32.not_lt, -Int32.not_le]; exact xE23)), hR23, hQ23⟩) rfl dX3_succeeds_217
            · skip
              refine g_iconst (v := 1) E dX3_succeeds_212 (by decide) ?_
              refine g_goto (tgt := 217) E dX3_succeeds_213 (by decide) ?_
              exact RET _ _ _ (S23, gb23, gw23) (⟨(by first | (simp [gSucc, gOkR, k1, c19, c20, c21, c22, c25]; done) | (simp [gSucc, gOkR, k1, c19, c20, c21, c22, c25]; exact xE23) | (simp [gSucc, gOkR, k1, c19, c20, c21, c22, c25, -Int32.not_lt, -Int32.not_le]; done) | (simp [gSucc, gOkR, k1, c19, c20, c21, c22, c25, -Int32.not_lt, -Int32.not_le]; exact xE23)), (by first | (simp [gSucc, gOkR, k1, c19, c20, c21, c22, c25]; done) | (simp [gSucc, gOkR, k1, c19, c20, c21, c22, c25]; exact xE23) | (simp [gSucc, gOkR, k1, c19, c20, c21, c22, c25, -Int32.not_lt, -Int32.not_le]; done) | (simp [gSucc, gOkR, k1, c19, c20, c21, c22, c25, -Int32.not_lt, -Int32.not_le]; exact xE23)), hR23, hQ23⟩) rfl dX3_succeeds_217
          · skip
            refine g_iconst (v := 1) E dX3_succeeds_201 (by decide) ?_
            refine g_goto (tgt := 206) E dX3_succeeds_202 (by decide) ?_
            refine g_callVIu (F := []) E (mX2_tryCarry G a S gb gw (nI ((g / 1000) % 10)) 1 hI hT hR hQ ) gX3_succeeds_X2_tryCarry rfl hdX2_tryCarry ⟨Nat.le_of_ble_eq_true rfl, Nat.le_of_ble_eq_true rfl⟩ 3 0 rfl rfl rfl (gPerm_ix [0, 1, 2, 3, 4, 5, 6, 7, 8, 9, 10, 11, 12, 13, 14] rfl rfl) rfl rfl (Nat.le_of_ble_eq_true rfl) dX3_succeeds_206 ⟨Nat.le_of_ble_eq_true rfl, Nat.le_of_ble_eq_true rfl⟩ (fun u26 h26 => ?_)
            obtain ⟨S26, gb26, gw26⟩ := u26
            obtain ⟨hS26, hR26, hQ26⟩ := h26
            have xE26 : S26 = (gTryCarry S (nI ((g / 1000) % 10)) 1).2 := hS26
            have hI26 : gI1 S26 := by rw [xE26]; exact gI1_tryCarry hI _ _
            have hT26 : sN S26 0 < 1000000000 := by rw [xE26]; exact gT_tryCarry hT _ _
            refine g_perm (ws1 := [(a 0, .inr (3, [.int (nI (sN S26 0)), .int (nI (sN S26 1)), .ref (a 1), .ref (a 2), .ref (a 3), .ref (a 4), .ref (a 5), .ref (a 6), .ref (a 7), .ref (a 8), .int (sI S26 9 0), .ref (a 9), .ref (a 11), .ref (a 13), .ref (a 14)])), (a 1, .inl (gy G 0, 8, .inl (sI S26 0))), (a 2, .inl (gy G 0, 8, .inl (sI S26 1))), (a 3, .inl (gy G 0, 8, .inl (sI S26 2))), (a 4, .inl (gy G 0, 8, .inl (sI S26 3))), (a 5, .inl (gy G 0, 8, .inl (sI S26 4))), (a 6, .inl (gy G 0, 8, .inl (sI S26 5))), (a 7, .inl (gy G 0, 10, .inl (sI S26 6))), (a 8, .inl (gy G 0, 10, .inl (sI S26 7))), (a 9, .inr (1, [.int (nI ((sB S26).length)), .ref (a 10)])), (a 10, .inl (gy G 0, 144, .inl gb26)), (a 11, .inr (6, [.int (nI ((sW S26).length)), .ref (a 12)])), (a 12, .inl (gy G 0, 10, .inl gw26)), (a 13, .inl (gy G 0, 5, .inl (sI S26 8))), (a 14, .inl (gy G 0, 6, .inl (fun j => nI (sS S26 j))))]) (gPerm_ix [0, 1, 2, 3, 4, 5, 6, 7, 8, 9, 10, 11, 12, 13, 14] rfl rfl) ?_
            refine g_if_lt (tgt := 216) E dX3_succeeds_209 (by decide) (fun c28 => ?_) (fun c28 => ?_)
            · skip
              refine g_iconst (v := 0) E dX3_succeeds_216 (by decide) ?_
              exact RET _ _ _ (S26, gb26, gw26) (⟨(by first | (simp [gSucc, gOkR, k1, c19, c20, c21, c22, c28]; done) | (simp [gSucc, gOkR, k1, c19, c20, c21, c22, c28]; exact xE26) | (simp [gSucc, gOkR, k1, c19, c20, c21, c22, c28, -Int32.not_lt, -Int32.not_le]; done) | (simp [gSucc, gOkR, k1, c19, c20, c21, c22, c28, -Int32.not_lt, -Int32.not_le]; exact xE26)), (by first | (simp [gSucc, gOkR, k1, c19, c20, c21, c22, c28]; done) | (simp [gSucc, gOkR, k1, c19, c20, c21, c22, c28]; exact xE26) | (simp [gSucc, gOkR, k1, c19, c20, c21, c22, c28, -Int32.not_lt, -Int32.not_le]; done) | (simp [gSucc, gOkR, k1, c19, c20, c21, c22, c28, -Int32.not_lt, -Int32.not_le]; exact xE26)), hR26, hQ26⟩) rfl dX3_succeeds_217
            · skip
              refine g_iconst (v := 1) E dX3_succeeds_212 (by decide) ?_
              refine g_goto (tgt := 217) E dX3_succeeds_213 (by decide) ?_
              exact RET _ _ _ (S26, gb26, gw26) (⟨(by first | (simp [gSucc, gOkR, k1, c19, c20, c21, c22, c28]; done) | (simp [gSucc, gOkR, k1, c19, c20, c21, c22, c28]; exact xE26) | (simp [gSucc, gOkR, k1, c19, c20, c21, c22, c28, -Int32.not_lt, -Int32.not_le]; done) | (simp [gSucc, gOkR, k1, c19, c20, c21, c22, c28, -Int32.not_lt, -Int32.not_le]; exact xE26)), (by first | (simp [gSucc, gOkR, k1, c19, c20, c21, c22, c28]; done) | (simp [gSucc, gOkR, k1, c19, c20, c21, c22, c28]; exact xE26) | (simp [gSucc, gOkR, k1, c19, c20, c21, c22, c28, -Int32.not_lt, -Int32.not_le]; done) | (simp [gSucc, gOkR, k1, c19, c20, c21, c22, c28, -Int32.not_lt, -Int32.not_le]; exact xE26)), hR26, hQ26⟩) rfl dX3_succeeds_217
  · skip
    refine g_top (y := 5) (by rw [k1]; rfl) ?_
    refine g_tableIn (tgt := 218) E dX3_succeeds_43 (by decide) (by decide) rfl (by decide) ?_
    refine g_iload_n E dX3_succeeds_218 rfl 3 rfl ?_
    refine g_if_neN (tgt := 236) (a := (g / 100) % 10) E dX3_succeeds_219 (by decide) (by omega) (fun c29 => ?_) (fun c29 => ?_)
    · skip
      refine g_iconst (v := 0) E dX3_succeeds_236 (by decide) ?_
      exact RET _ _ _ (S, gb, gw) (⟨(by first | (simp [gSucc, gOkR, k1, c29]; done) | (simp [gSucc, gOkR, k1, c29, -Int32.not_lt, -Int32.not_le]; done)), (by first | (simp [gSucc, gOkR, k1, c29]; done) | (simp [gSucc, gOkR, k1, c29, -Int32.not_lt, -Int32.not_le]; done)), hR, hQ⟩) rfl dX3_succeeds_237
    · skip
      refine g_aload_n E dX3_succeeds_222 rfl 5 rfl ?_
      refine g_iload_n E dX3_succeeds_223 rfl 4 rfl ?_
      refine g_iload E dX3_succeeds_224 0 rfl ?_
      refine g_callVIu (F := []) E (mX2_tryPunish G a S gb gw (nI ((g / 1000) % 10)) (nI (g % 100)) hI hT hR hQ ) gX3_succeeds_X2_tryPunish rfl hdX2_tryPunish ⟨Nat.le_of_ble_eq_true rfl, Nat.le_of_ble_eq_true rfl⟩ 3 0 rfl rfl rfl (gPerm_ix [0, 1, 2, 3, 4, 5, 6, 7, 8, 9, 10, 11, 12, 13, 14] rfl rfl) rfl rfl (Nat.le_of_ble_eq_true rfl) dX3_succeeds_226 ⟨Nat.le_of_ble_eq_true rfl, Nat.le_of_ble_eq_true rfl⟩ (fun u30 h30 => ?_)
      obtain ⟨S30, gb30, gw30⟩ := u30
      obtain ⟨hS30, hR30, hQ30⟩ := h30
      have xE30 : S30 = (gTryPunish S (nI ((g / 1000) % 10)) (nI (g % 100))).2 := hS30
      have hI30 : gI1 S30 := by rw [xE30]; exact gI1_tryPunish hI _ _
      have hT30 : sN S30 0 < 1000000000 := by rw [xE30]; exact gT_tryPunish hT _ _
      refine g_perm (ws1 := [(a 0, .inr (3, [.int (nI (sN S30 0)), .int (nI (sN S30 1)), .ref (a 1), .ref (a 2), .ref (a 3), .ref (a 4), .ref (a 5), .ref (a 6), .ref (a 7), .ref (a 8), .int (sI S30 9 0), .ref (a 9), .ref (a 11), .ref (a 13), .ref (a 14)])), (a 1, .inl (gy G 0, 8, .inl (sI S30 0))), (a 2, .inl (gy G 0, 8, .inl (sI S30 1))), (a 3, .inl (gy G 0, 8, .inl (sI S30 2))), (a 4, .inl (gy G 0, 8, .inl (sI S30 3))), (a 5, .inl (gy G 0, 8, .inl (sI S30 4))), (a 6, .inl (gy G 0, 8, .inl (sI S30 5))), (a 7, .inl (gy G 0, 10, .inl (sI S30 6))), (a 8, .inl (gy G 0, 10, .inl (sI S30 7))), (a 9, .inr (1, [.int (nI ((sB S30).length)), .ref (a 10)])), (a 10, .inl (gy G 0, 144, .inl gb30)), (a 11, .inr (6, [.int (nI ((sW S30).length)), .ref (a 12)])), (a 12, .inl (gy G 0, 10, .inl gw30)), (a 13, .inl (gy G 0, 5, .inl (sI S30 8))), (a 14, .inl (gy G 0, 6, .inl (fun j => nI (sS S30 j))))]) (gPerm_ix [0, 1, 2, 3, 4, 5, 6, 7, 8, 9, 10, 11, 12, 13, 14] rfl rfl) ?_
      refine g_if_lt (tgt := 236) E dX3_succeeds_229 (by decide) (fun c32 => ?_) (fun c32 => ?_)
      · skip
        refine g_iconst (v := 0) E dX3_succeeds_236 (by decide) ?_
        exact RET _ _ _ (S30, gb30, gw30) (⟨(by first | (simp [gSucc, gOkR, k1, c29, c32]; done) | (simp [gSucc, gOkR, k1, c29, c32]; exact xE30) | (simp [gSucc, gOkR, k1, c29, c32, -Int32.not_lt, -Int32.not_le]; done) | (simp [gSucc, gOkR, k1, c29, c32, -Int32.not_lt, -Int32.not_le]; exact xE30)), (by first | (simp [gSucc, gOkR, k1, c29, c32]; done) | (simp [gSucc, gOkR, k1, c29, c32]; exact xE30) | (simp [gSucc, gOkR, k1, c29, c32, -Int32.not_lt, -Int32.not_le]; done) | (simp [gSucc, gOkR, k1, c29, c32, -Int32.not_lt, -Int32.not_le]; exact xE30)), hR30, hQ30⟩) rfl dX3_succeeds_237
      · skip
        refine g_iconst (v := 1) E dX3_succeeds_232 (by decide) ?_
        refine g_goto (tgt := 237) E dX3_succeeds_233 (by decide) ?_
        exact RET _ _ _ (S30, gb30, gw30) (⟨(by first | (simp [gSucc, gOkR, k1, c29, c32]; done) | (simp [gSucc, gOkR, k1, c29, c32]; exact xE30) | (simp [gSucc, gOkR, k1, c29, c32, -Int32.not_lt, -Int32.not_le]; done) | (simp [gSucc, gOkR, k1, c29, c32, -Int32.not_lt, -Int32.not_le]; exact xE30)), (by first | (simp [gSucc, gOkR, k1, c29, c32]; done) | (simp [gSucc, gOkR, k1, c29, c32]; exact xE30) | (simp [gSucc, gOkR, k1, c29, c32, -Int32.not_lt, -Int32.not_le]; done) | (simp [gSucc, gOkR, k1, c29, c32, -Int32.not_lt, -Int32.not_le]; exact xE30)), hR30, hQ30⟩) rfl dX3_succeeds_237
  · skip
    refine g_top (y := 6) (by rw [k1]; rfl) ?_
    refine g_tableIn (tgt := 238) E dX3_succeeds_43 (by decide) (by decide) rfl (by decide) ?_
    refine g_iload_n E dX3_succeeds_238 rfl 4 rfl ?_
    refine g_if_neN (tgt := 270) (a := (g / 1000) % 10) E dX3_succeeds_239 (by decide) (by omega) (fun c33 => ?_) (fun c33 => ?_)
    · skip
      refine g_iconst (v := 0) E dX3_succeeds_270 (by decide) ?_
      exact RET _ _ _ (S, gb, gw) (⟨(by first | (simp [gSucc, gOkR, k1, c33]; done) | (simp [gSucc, gOkR, k1, c33, -Int32.not_lt, -Int32.not_le]; done)), (by first | (simp [gSucc, gOkR, k1, c33]; done) | (simp [gSucc, gOkR, k1, c33, -Int32.not_lt, -Int32.not_le]; done)), hR, hQ⟩) rfl dX3_succeeds_271
    · skip
      refine g_iload_n E dX3_succeeds_242 rfl 3 rfl ?_
      refine g_if_neN (tgt := 270) (a := (g / 100) % 10) E dX3_succeeds_243 (by decide) (by omega) (fun c34 => ?_) (fun c34 => ?_)
      · skip
        refine g_iconst (v := 0) E dX3_succeeds_270 (by decide) ?_
        exact RET _ _ _ (S, gb, gw) (⟨(by first | (simp [gSucc, gOkR, k1, c33, c34]; done) | (simp [gSucc, gOkR, k1, c33, c34, -Int32.not_lt, -Int32.not_le]; done)), (by first | (simp [gSucc, gOkR, k1, c33, c34]; done) | (simp [gSucc, gOkR, k1, c33, c34, -Int32.not_lt, -Int32.not_le]; done)), hR, hQ⟩) rfl dX3_succeeds_271
      · skip
        refine g_iload E dX3_succeeds_246 0 rfl ?_
        refine g_iconst (v := 1) E dX3_succeeds_248 (by decide) ?_
        refine g_bipush (v := 30) E dX3_succeeds_249 (by decide) ?_
        refine g_callSNIe (F := [(a 0, .inr (3, [.int (nI (sN S 0)), .int (nI (sN S 1)), .ref (a 1), .ref (a 2), .ref (a 3), .ref (a 4), .ref (a 5), .ref (a 6), .ref (a 7), .ref (a 8), .int (sI S 9 0), .ref (a 9), .ref (a 11), .ref (a 13), .ref (a 14)])), (a 1, .inl (gy G 0, 8, .inl (sI S 0))), (a 2, .inl (gy G 0, 8, .inl (sI S 1))), (a 3, .inl (gy G 0, 8, .inl (sI S 2))), (a 4, .inl (gy G 0, 8, .inl (sI S 3))), (a 5, .inl (gy G 0, 8, .inl (sI S 4))), (a 6, .inl (gy G 0, 8, .inl (sI S 5))), (a 7, .inl (gy G 0, 10, .inl (sI S 6))), (a 8, .inl (gy G 0, 10, .inl (sI S 7))), (a 9, .inr (1, [.int (nI ((sB S).length)), .ref (a 10)])), (a 10, .inl (gy G 0, 144, .inl gb)), (a 11, .inr (6, [.int (nI ((sW S).length)), .ref (a 12)])), (a 12, .inl (gy G 0, 10, .inl gw)), (a 13, .inl (gy G 0, 5, .inl (sI S 8))), (a 14, .inl (gy G 0, 6, .inl (fun j => nI (sS S j))))]) (ws2 := [(a 0, .inr (3, [.int (nI (sN S 0)), .int (nI (sN S 1)), .ref (a 1), .ref (a 2), .ref (a 3), .ref (a 4), .ref (a 5), .ref (a 6), .ref (a 7), .ref (a 8), .int (sI S 9 0), .ref (a 9), .ref (a 11), .ref (a 13), .ref (a 14)])), (a 1, .inl (gy G 0, 8, .inl (sI S 0))), (a 2, .inl (gy G 0, 8, .inl (sI S 1))), (a 3, .inl (gy G 0, 8, .inl (sI S 2))), (a 4, .inl (gy G 0, 8, .inl (sI S 3))), (a 5, .inl (gy G 0, 8, .inl (sI S 4))), (a 6, .inl (gy G 0, 8, .inl (sI S 5))), (a 7, .inl (gy G 0, 10, .inl (sI S 6))), (a 8, .inl (gy G 0, 10, .inl (sI S 7))), (a 9, .inr (1, [.int (nI ((sB S).length)), .ref (a 10)])), (a 10, .inl (gy G 0, 144, .inl gb)), (a 11, .inr (6, [.int (nI ((sW S).length)), .ref (a 12)])), (a 12, .inl (gy G 0, 10, .inl gw)), (a 13, .inl (gy G 0, 5, .inl (sI S 8))), (a 14, .inl (gy G 0, 6, .inl (fun j => nI (sS S j))))]) E (mX7_isBetween G (nI (g % 100)) 1 30) gX3_succeeds_X7_isBetween_n38 (by decide +kernel) (g_nest (h := "VisitHours") E (by decide +kernel)) (by decide +kernel) rfl hnX7_isBetween ⟨Nat.le_of_ble_eq_true rfl, Nat.le_of_ble_eq_true rfl⟩ (gPerm_ix [0, 1, 2, 3, 4, 5, 6, 7, 8, 9, 10, 11, 12, 13, 14] rfl rfl) rfl rfl (Nat.le_of_ble_eq_true rfl) dX3_succeeds_251 ⟨Nat.le_of_ble_eq_true rfl, Nat.le_of_ble_eq_true rfl⟩ (gPerm_ix [0, 1, 2, 3, 4, 5, 6, 7, 8, 9, 10, 11, 12, 13, 14] rfl rfl) ?_
        refine g_if_eqB (tgt := 270) (P := (¬ (nI (g % 100)) < 1 ∧ ¬ 30 < (nI (g % 100)))) E dX3_succeeds_254 (by decide) (fun c35 => ?_) (fun c35 => ?_)
        · skip
          refine g_iconst (v := 0) E dX3_succeeds_270 (by decide) ?_
          exact RET _ _ _ (S, gb, gw) (⟨(by first | (simp [gSucc, gOkR, k1, c33, c34, c35]; done) | (simp [gSucc, gOkR, k1, c33, c34, c35, -Int32.not_lt, -Int32.not_le]; done)), (by first | (simp [gSucc, gOkR, k1, c33, c34, c35]; done) | (simp [gSucc, gOkR, k1, c33, c34, c35, -Int32.not_lt, -Int32.not_le]; done)), hR, hQ⟩) rfl dX3_succeeds_271
        · skip
          have hn30 : g % 100 ≤ 30 := Nat.le_of_not_lt (fun q => (c35).2 (nI_lt (a := 30) q (by omega)))
          refine g_aload_n E dX3_succeeds_257 rfl 5 rfl ?_
          refine g_iload E dX3_succeeds_258 0 rfl ?_
          refine g_callVIu (F := []) E (mX2_letDaysPass G a S gb gw (g % 100) hI hT hR hQ (by omega)) gX3_succeeds_X2_letDaysPass rfl hdX2_letDaysPass ⟨Nat.le_of_ble_eq_true rfl, Nat.le_of_ble_eq_true rfl⟩ 3 0 rfl rfl rfl (gPerm_ix [0, 1, 2, 3, 4, 5, 6, 7, 8, 9, 10, 11, 12, 13, 14] rfl rfl) rfl rfl (Nat.le_of_ble_eq_true rfl) dX3_succeeds_260 ⟨Nat.le_of_ble_eq_true rfl, Nat.le_of_ble_eq_true rfl⟩ (fun u36 h36 => ?_)
          obtain ⟨S36, gb36, gw36⟩ := u36
          obtain ⟨hS36, hR36, hQ36⟩ := h36
          have xE36 : S36 = gDays (g % 100) S := hS36
          have hI36 : gI1 S36 := by rw [xE36]; exact gI1_days hI _
          have hD36 : sN S36 0 = sN S 0 + (g % 100) := by rw [xE36]; exact gDays_0 _ _
          have hT36 : sN S36 0 < 1000000000 := by rw [hD36]; exact (by omega)
          refine g_perm (ws1 := [(a 0, .inr (3, [.int (nI (sN S36 0)), .int (nI (sN S36 1)), .ref (a 1), .ref (a 2), .ref (a 3), .ref (a 4), .ref (a 5), .ref (a 6), .ref (a 7), .ref (a 8), .int (sI S36 9 0), .ref (a 9), .ref (a 11), .ref (a 13), .ref (a 14)])), (a 1, .inl (gy G 0, 8, .inl (sI S36 0))), (a 2, .inl (gy G 0, 8, .inl (sI S36 1))), (a 3, .inl (gy G 0, 8, .inl (sI S36 2))), (a 4, .inl (gy G 0, 8, .inl (sI S36 3))), (a 5, .inl (gy G 0, 8, .inl (sI S36 4))), (a 6, .inl (gy G 0, 8, .inl (sI S36 5))), (a 7, .inl (gy G 0, 10, .inl (sI S36 6))), (a 8, .inl (gy G 0, 10, .inl (sI S36 7))), (a 9, .inr (1, [.int (nI ((sB S36).length)), .ref (a 10)])), (a 10, .inl (gy G 0, 144, .inl gb36)), (a 11, .inr (6, [.int (nI ((sW S36).length)), .ref (a 12)])), (a 12, .inl (gy G 0, 10, .inl gw36)), (a 13, .inl (gy G 0, 5, .inl (sI S36 8))), (a 14, .inl (gy G 0, 6, .inl (fun j => nI (sS S36 j))))]) (gPerm_ix [0, 1, 2, 3, 4, 5, 6, 7, 8, 9, 10, 11, 12, 13, 14] rfl rfl) ?_
          refine g_if_lt (tgt := 270) E dX3_succeeds_263 (by decide) (fun c38 => ?_) (fun c38 => ?_)
          · skip
            refine g_iconst (v := 0) E dX3_succeeds_270 (by decide) ?_
            exact RET _ _ _ (S36, gb36, gw36) (⟨(by first | (simp [gSucc, gOkR, k1, c33, c34, c35, c38]; done) | (simp [gSucc, gOkR, k1, c33, c34, c35, c38]; exact xE36) | (simp [gSucc, gOkR, k1, c33, c34, c35, c38, -Int32.not_lt, -Int32.not_le]; done) | (simp [gSucc, gOkR, k1, c33, c34, c35, c38, -Int32.not_lt, -Int32.not_le]; exact xE36)), (by first | (simp [gSucc, gOkR, k1, c33, c34, c35, c38]; done) | (simp [gSucc, gOkR, k1, c33, c34, c35, c38]; exact xE36) | (simp [gSucc, gOkR, k1, c33, c34, c35, c38, -Int32.not_lt, -Int32.not_le]; done) | (simp [gSucc, gOkR, k1, c33, c34, c35, c38, -Int32.not_lt, -Int32.not_le]; exact xE36)), hR36, hQ36⟩) rfl dX3_succeeds_271
          · skip
            refine g_iconst (v := 1) E dX3_succeeds_266 (by decide) ?_
            refine g_goto (tgt := 271) E dX3_succeeds_267 (by decide) ?_
            exact RET _ _ _ (S36, gb36, gw36) (⟨(by first | (simp [gSucc, gOkR, k1, c33, c34, c35, c38]; done) | (simp [gSucc, gOkR, k1, c33, c34, c35, c38]; exact xE36) | (simp [gSucc, gOkR, k1, c33, c34, c35, c38, -Int32.not_lt, -Int32.not_le]; done) | (simp [gSucc, gOkR, k1, c33, c34, c35, c38, -Int32.not_lt, -Int32.not_le]; exact xE36)), (by first | (simp [gSucc, gOkR, k1, c33, c34, c35, c38]; done) | (simp [gSucc, gOkR, k1, c33, c34, c35, c38]; exact xE36) | (simp [gSucc, gOkR, k1, c33, c34, c35, c38, -Int32.not_lt, -Int32.not_le]; done) | (simp [gSucc, gOkR, k1, c33, c34, c35, c38, -Int32.not_lt, -Int32.not_le]; exact xE36)), hR36, hQ36⟩) rfl dX3_succeeds_271
  · skip
    refine g_top (y := 7) (by rw [k1]; rfl) ?_
    refine g_tableIn (tgt := 272) E dX3_succeeds_43 (by decide) (by decide) rfl (by decide) ?_
    refine g_iload_n E dX3_succeeds_272 rfl 3 rfl ?_
    refine g_if_neN (tgt := 299) (a := (g / 100) % 10) E dX3_succeeds_273 (by decide) (by omega) (fun c39 => ?_) (fun c39 => ?_)
    · skip
      refine g_iconst (v := 0) E dX3_succeeds_299 (by decide) ?_
      exact RET _ _ _ (S, gb, gw) (⟨(by first | (simp [gSucc, gOkR, k1, c39]; done) | (simp [gSucc, gOkR, k1, c39, -Int32.not_lt, -Int32.not_le]; done)), (by first | (simp [gSucc, gOkR, k1, c39]; done) | (simp [gSucc, gOkR, k1, c39, -Int32.not_lt, -Int32.not_le]; done)), hR, hQ⟩) rfl dX3_succeeds_300
    · skip
      refine g_aload_n E dX3_succeeds_276 rfl 5 rfl ?_
      refine g_iload_n E dX3_succeeds_277 rfl 4 rfl ?_
      refine g_callVIe (F := []) (ws2 := [(a 0, .inr (3, [.int (nI (sN S 0)), .int (nI (sN S 1)), .ref (a 1), .ref (a 2), .ref (a 3), .ref (a 4), .ref (a 5), .ref (a 6), .ref (a 7), .ref (a 8), .int (sI S 9 0), .ref (a 9), .ref (a 11), .ref (a 13), .ref (a 14)])), (a 1, .inl (gy G 0, 8, .inl (sI S 0))), (a 2, .inl (gy G 0, 8, .inl (sI S 1))), (a 3, .inl (gy G 0, 8, .inl (sI S 2))), (a 4, .inl (gy G 0, 8, .inl (sI S 3))), (a 5, .inl (gy G 0, 8, .inl (sI S 4))), (a 6, .inl (gy G 0, 8, .inl (sI S 5))), (a 7, .inl (gy G 0, 10, .inl (sI S 6))), (a 8, .inl (gy G 0, 10, .inl (sI S 7))), (a 9, .inr (1, [.int (nI ((sB S).length)), .ref (a 10)])), (a 10, .inl (gy G 0, 144, .inl gb)), (a 11, .inr (6, [.int (nI ((sW S).length)), .ref (a 12)])), (a 12, .inl (gy G 0, 10, .inl gw)), (a 13, .inl (gy G 0, 5, .inl (sI S 8))), (a 14, .inl (gy G 0, 6, .inl (fun j => nI (sS S j))))]) E (mX2_hasPrisoner G a S gb gw (nI ((g / 1000) % 10)) hI hT hR hQ) gX3_succeeds_X2_hasPrisoner rfl hdX2_hasPrisoner ⟨Nat.le_of_ble_eq_true rfl, Nat.le_of_ble_eq_true rfl⟩ 3 0 rfl rfl rfl (gPerm_ix [0, 1, 2, 3, 4, 5, 6, 7, 8, 9, 10, 11, 12, 13, 14] rfl rfl) rfl rfl (Nat.le_of_ble_eq_true rfl) dX3_succeeds_278 ⟨Nat.le_of_ble_eq_true rfl, Nat.le_of_ble_eq_true rfl⟩ (gPerm_ix [0, 1, 2, 3, 4, 5, 6, 7, 8, 9, 10, 11, 12, 13, 14] rfl rfl) ?_
      refine g_if_eqB (tgt := 299) (P := (¬ (nI ((g / 1000) % 10)) < 0 ∧ ¬ nI (sN S 1) ≤ (nI ((g / 1000) % 10)))) E dX3_succeeds_281 (by decide) (fun c40 => ?_) (fun c40 => ?_)
      · skip
        refine g_iconst (v := 0) E dX3_succeeds_299 (by decide) ?_
        exact RET _ _ _ (S, gb, gw) (⟨(by first | (simp [gSucc, gOkR, k1, c39, c40]; done) | (simp [gSucc, gOkR, k1, c39, c40, -Int32.not_lt, -Int32.not_le]; done)), (by first | (simp [gSucc, gOkR, k1, c39, c40]; done) | (simp [gSucc, gOkR, k1, c39, c40, -Int32.not_lt, -Int32.not_le]; done)), hR, hQ⟩) rfl dX3_succeeds_300
      · skip
        have hp7 : g / 1000 % 10 < sN S 1 := Nat.lt_of_not_le (fun q => (c40).2 (nI_le q (by omega)))
        refine g_aload_n E dX3_succeeds_284 rfl 5 rfl ?_
        refine g_get E uX3_succeeds_RX2 0 rfl rfl 5 (by decide) kX3_succeeds_50 rfl rfl dX3_succeeds_285 ?_
        refine g_iload_n E dX3_succeeds_288 rfl 4 rfl ?_
        refine g_ialdN (e := (g / 1000) % 10) E 4 rfl (by omega) rfl (v := (sI S 3) ((g / 1000) % 10)) rfl dX3_succeeds_289 ?_
        refine g_iload E dX3_succeeds_290 0 rfl ?_
        refine g_icmp_lt (tgt := 299) E dX3_succeeds_292 (by decide) (fun c41 => ?_) (fun c41 => ?_)
        · skip
          refine g_iconst (v := 0) E dX3_succeeds_299 (by decide) ?_
          exact RET _ _ _ (S, gb, gw) (⟨(by first | (simp [gSucc, gOkR, k1, c39, c40, c41]; done) | (simp [gSucc, gOkR, k1, c39, c40, c41, -Int32.not_lt, -Int32.not_le]; done)), (by first | (simp [gSucc, gOkR, k1, c39, c40, c41]; done) | (simp [gSucc, gOkR, k1, c39, c40, c41, -Int32.not_lt, -Int32.not_le]; done)), hR, hQ⟩) rfl dX3_succeeds_300
        · skip
          refine g_iconst (v := 1) E dX3_succeeds_295 (by decide) ?_
          refine g_goto (tgt := 300) E dX3_succeeds_296 (by decide) ?_
          exact RET _ _ _ (S, gb, gw) (⟨(by first | (simp [gSucc, gOkR, k1, c39, c40, c41]; done) | (simp [gSucc, gOkR, k1, c39, c40, c41, -Int32.not_lt, -Int32.not_le]; done)), (by first | (simp [gSucc, gOkR, k1, c39, c40, c41]; done) | (simp [gSucc, gOkR, k1, c39, c40, c41, -Int32.not_lt, -Int32.not_le]; done)), hR, hQ⟩) rfl dX3_succeeds_300
  · skip
    refine g_top (y := 8) (by rw [k1]; rfl) ?_
    refine g_tableIn (tgt := 301) E dX3_succeeds_43 (by decide) (by decide) rfl (by decide) ?_
    refine g_iload_n E dX3_succeeds_301 rfl 3 rfl ?_
    refine g_if_neN (tgt := 331) (a := (g / 100) % 10) E dX3_succeeds_302 (by decide) (by omega) (fun c42 => ?_) (fun c42 => ?_)
    · skip
      refine g_iconst (v := 0) E dX3_succeeds_331 (by decide) ?_
      exact RET _ _ _ (S, gb, gw) (⟨(by first | (simp [gSucc, gOkR, k1, c42]; done) | (simp [gSucc, gOkR, k1, c42, -Int32.not_lt, -Int32.not_le]; done)), (by first | (simp [gSucc, gOkR, k1, c42]; done) | (simp [gSucc, gOkR, k1, c42, -Int32.not_lt, -Int32.not_le]; done)), hR, hQ⟩) rfl dX3_succeeds_332
    · skip
      refine g_iload E dX3_succeeds_305 2 rfl ?_
      refine g_if_neN (tgt := 331) (a := (g / 10) % 10) E dX3_succeeds_307 (by decide) (by omega) (fun c43 => ?_) (fun c43 => ?_)
      · skip
        refine g_iconst (v := 0) E dX3_succeeds_331 (by decide) ?_
        exact RET _ _ _ (S, gb, gw) (⟨(by first | (simp [gSucc, gOkR, k1, c42, c43]; done) | (simp [gSucc, gOkR, k1, c42, c43, -Int32.not_lt, -Int32.not_le]; done)), (by first | (simp [gSucc, gOkR, k1, c42, c43]; done) | (simp [gSucc, gOkR, k1, c42, c43, -Int32.not_lt, -Int32.not_le]; done)), hR, hQ⟩) rfl dX3_succeeds_332
      · skip
        refine g_iload E dX3_succeeds_310 1 rfl ?_
        refine g_if_neN (tgt := 331) (a := g % 10) E dX3_succeeds_312 (by decide) (by omega) (fun c44 => ?_) (fun c44 => ?_)
        · skip
          refine g_iconst (v := 0) E dX3_succeeds_331 (by decide) ?_
          exact RET _ _ _ (S, gb, gw) (⟨(by first | (simp [gSucc, gOkR, k1, c42, c43, c44]; done) | (simp [gSucc, gOkR, k1, c42, c43, c44, -Int32.not_lt, -Int32.not_le]; done)), (by first | (simp [gSucc, gOkR, k1, c42, c43, c44]; done) | (simp [gSucc, gOkR, k1, c42, c43, c44, -Int32.not_lt, -Int32.not_le]; done)), hR, hQ⟩) rfl dX3_succeeds_332
        · skip
          refine g_aload_n E dX3_succeeds_315 rfl 5 rfl ?_
          refine g_iload_n E dX3_succeeds_316 rfl 4 rfl ?_
          refine g_aload_n E dX3_succeeds_317 rfl 5 rfl ?_
          refine g_get E uX3_succeeds_RX2 0 rfl rfl 0 (by decide) kX3_succeeds_13 rfl rfl dX3_succeeds_318 ?_
          refine g_callVIe (F := []) (ws2 := [(a 0, .inr (3, [.int (nI (sN S 0)), .int (nI (sN S 1)), .ref (a 1), .ref (a 2), .ref (a 3), .ref (a 4), .ref (a 5), .ref (a 6), .ref (a 7), .ref (a 8), .int (sI S 9 0), .ref (a 9), .ref (a 11), .ref (a 13), .ref (a 14)])), (a 1, .inl (gy G 0, 8, .inl (sI S 0))), (a 2, .inl (gy G 0, 8, .inl (sI S 1))), (a 3, .inl (gy G 0, 8, .inl (sI S 2))), (a 4, .inl (gy G 0, 8, .inl (sI S 3))), (a 5, .inl (gy G 0, 8, .inl (sI S 4))), (a 6, .inl (gy G 0, 8, .inl (sI S 5))), (a 7, .inl (gy G 0, 10, .inl (sI S 6))), (a 8, .inl (gy G 0, 10, .inl (sI S 7))), (a 9, .inr (1, [.int (nI ((sB S).length)), .ref (a 10)])), (a 10, .inl (gy G 0, 144, .inl gb)), (a 11, .inr (6, [.int (nI ((sW S).length)), .ref (a 12)])), (a 12, .inl (gy G 0, 10, .inl gw)), (a 13, .inl (gy G 0, 5, .inl (sI S 8))), (a 14, .inl (gy G 0, 6, .inl (fun j => nI (sS S j))))]) E (mX2_isBanned G a S gb gw ((g / 1000) % 10) (sN S 0) hI hT hR hQ (by omega)) gX3_succeeds_X2_isBanned rfl hdX2_isBanned ⟨Nat.le_of_ble_eq_true rfl, Nat.le_of_ble_eq_true rfl⟩ 3 0 rfl rfl rfl (gPerm_ix [0, 1, 2, 3, 4, 5, 6, 7, 8, 9, 10, 11, 12, 13, 14] rfl rfl) rfl rfl (Nat.le_of_ble_eq_true rfl) dX3_succeeds_321 ⟨Nat.le_of_ble_eq_true rfl, Nat.le_of_ble_eq_true rfl⟩ (gPerm_ix [0, 1, 2, 3, 4, 5, 6, 7, 8, 9, 10, 11, 12, 13, 14] rfl rfl) ?_
          refine g_if_neB (tgt := 331) (P := (nI (sN S 0) < sI S 7 ((g / 1000) % 10))) E dX3_succeeds_324 (by decide) (fun c45 => ?_) (fun c45 => ?_)
          · skip
            refine g_iconst (v := 0) E dX3_succeeds_331 (by decide) ?_
            exact RET _ _ _ (S, gb, gw) (⟨(by first | (simp [gSucc, gOkR, k1, c42, c43, c44, c45]; done) | (simp [gSucc, gOkR, k1, c42, c43, c44, c45, -Int32.not_lt, -Int32.not_le]; done)), (by first | (simp [gSucc, gOkR, k1, c42, c43, c44, c45]; done) | (simp [gSucc, gOkR, k1, c42, c43, c44, c45, -Int32.not_lt, -Int32.not_le]; done)), hR, hQ⟩) rfl dX3_succeeds_332
          · skip
            refine g_iconst (v := 1) E dX3_succeeds_327 (by decide) ?_
            refine g_goto (tgt := 332) E dX3_succeeds_328 (by decide) ?_
            exact RET _ _ _ (S, gb, gw) (⟨(by first | (simp [gSucc, gOkR, k1, c42, c43, c44, c45]; done) | (simp [gSucc, gOkR, k1, c42, c43, c44, c45, -Int32.not_lt, -Int32.not_le]; done)), (by first | (simp [gSucc, gOkR, k1, c42, c43, c44, c45]; done) | (simp [gSucc, gOkR, k1, c42, c43, c44, c45, -Int32.not_lt, -Int32.not_le]; done)), hR, hQ⟩) rfl dX3_succeeds_332
  · skip
    refine g_top (y := 9) (by rw [k1]; rfl) ?_
    refine g_tableIn (tgt := 333) E dX3_succeeds_43 (by decide) (by decide) rfl (by decide) ?_
    refine g_iload_n E dX3_succeeds_333 rfl 4 rfl ?_
    refine g_if_neN (tgt := 357) (a := (g / 1000) % 10) E dX3_succeeds_334 (by decide) (by omega) (fun c46 => ?_) (fun c46 => ?_)
    · skip
      refine g_iconst (v := 0) E dX3_succeeds_357 (by decide) ?_
      exact RET _ _ _ (S, gb, gw) (⟨(by first | (simp [gSucc, gOkR, k1, c46]; done) | (simp [gSucc, gOkR, k1, c46, -Int32.not_lt, -Int32.not_le]; done)), (by first | (simp [gSucc, gOkR, k1, c46]; done) | (simp [gSucc, gOkR, k1, c46, -Int32.not_lt, -Int32.not_le]; done)), hR, hQ⟩) rfl dX3_succeeds_358
    · skip
      refine g_iload_n E dX3_succeeds_337 rfl 3 rfl ?_
      refine g_if_neN (tgt := 357) (a := (g / 100) % 10) E dX3_succeeds_338 (by decide) (by omega) (fun c47 => ?_) (fun c47 => ?_)
      · skip
        refine g_iconst (v := 0) E dX3_succeeds_357 (by decide) ?_
        exact RET _ _ _ (S, gb, gw) (⟨(by first | (simp [gSucc, gOkR, k1, c46, c47]; done) | (simp [gSucc, gOkR, k1, c46, c47, -Int32.not_lt, -Int32.not_le]; done)), (by first | (simp [gSucc, gOkR, k1, c46, c47]; done) | (simp [gSucc, gOkR, k1, c46, c47, -Int32.not_lt, -Int32.not_le]; done)), hR, hQ⟩) rfl dX3_succeeds_358
      · skip
        refine g_aload_n E dX3_succeeds_341 rfl 5 rfl ?_
        refine g_get E uX3_succeeds_RX2 0 rfl rfl 11 (by decide) kX3_succeeds_58 rfl rfl dX3_succeeds_342 ?_
        refine g_get E uX3_succeeds_RX0 9 rfl rfl 0 (by decide) kX3_succeeds_62 rfl rfl dX3_succeeds_345 ?_
        refine g_iload E dX3_succeeds_348 0 rfl ?_
        refine g_icmp_gtN (tgt := 357) (a := (sB S).length) (b := g % 100) E dX3_succeeds_350 (by decide) (by omega) (by omega) (fun c48 => ?_) (fun c48 => ?_)
        · skip
          refine g_iconst (v := 0) E dX3_succeeds_357 (by decide) ?_
          exact RET _ _ _ (S, gb, gw) (⟨(by first | (simp [gSucc, gOkR, k1, c46, c47, c48]; done) | (simp [gSucc, gOkR, k1, c46, c47, c48, -Int32.not_lt, -Int32.not_le]; done)), (by first | (simp [gSucc, gOkR, k1, c46, c47, c48]; done) | (simp [gSucc, gOkR, k1, c46, c47, c48, -Int32.not_lt, -Int32.not_le]; done)), hR, hQ⟩) rfl dX3_succeeds_358
        · skip
          refine g_iconst (v := 1) E dX3_succeeds_353 (by decide) ?_
          refine g_goto (tgt := 358) E dX3_succeeds_354 (by decide) ?_
          exact RET _ _ _ (S, gb, gw) (⟨(by first | (simp [gSucc, gOkR, k1, c46, c47, c48]; done) | (simp [gSucc, gOkR, k1, c46, c47, c48, -Int32.not_lt, -Int32.not_le]; done)), (by first | (simp [gSucc, gOkR, k1, c46, c47, c48]; done) | (simp [gSucc, gOkR, k1, c46, c47, c48, -Int32.not_lt, -Int32.not_le]; done)), hR, hQ⟩) rfl dX3_succeeds_358
set_option maxHeartbeats 4000000 in
set_option maxRecDepth 100000 in
theorem mX3_takeTurn (G : gG) (a : Nat → Nat) (S : gSt) (gb gw : Nat → Int32) (r : Nat) (hI : gI1 S) (hT : sN S 0 < 1000000000) (hR : RB (sB S) gb) (hQ : RW (sW S) gw) (hr : r < 2147483648) (hTn : sN S 0 + 1 < 200000000) : CV G yX3_takeTurn wsX3_takeTurn 5 163 [.ref (a 0), .int (nI r)] [(a 0, .inr (3, [.int (nI (sN S 0)), .int (nI (sN S 1)), .ref (a 1), .ref (a 2), .ref (a 3), .ref (a 4), .ref (a 5), .ref (a 6), .ref (a 7), .ref (a 8), .int (sI S 9 0), .ref (a 9), .ref (a 11), .ref (a 13), .ref (a 14)])), (a 1, .inl (gy G 0, 8, .inl (sI S 0))), (a 2, .inl (gy G 0, 8, .inl (sI S 1))), (a 3, .inl (gy G 0, 8, .inl (sI S 2))), (a 4, .inl (gy G 0, 8, .inl (sI S 3))), (a 5, .inl (gy G 0, 8, .inl (sI S 4))), (a 6, .inl (gy G 0, 8, .inl (sI S 5))), (a 7, .inl (gy G 0, 10, .inl (sI S 6))), (a 8, .inl (gy G 0, 10, .inl (sI S 7))), (a 9, .inr (1, [.int (nI ((sB S).length)), .ref (a 10)])), (a 10, .inl (gy G 0, 144, .inl gb)), (a 11, .inr (6, [.int (nI ((sW S).length)), .ref (a 12)])), (a 12, .inl (gy G 0, 10, .inl gw)), (a 13, .inl (gy G 0, 5, .inl (sI S 8))), (a 14, .inl (gy G 0, 6, .inl (fun j => nI (sS S j))))] (fun u : gU => u.1 = gTurn1 S r ∧ RB (sB u.1) u.2.1 ∧ RW (sW u.1) u.2.2) (fun (u : gU) => [(a 0, .inr (3, [.int (nI (sN u.1 0)), .int (nI (sN u.1 1)), .ref (a 1), .ref (a 2), .ref (a 3), .ref (a 4), .ref (a 5), .ref (a 6), .ref (a 7), .ref (a 8), .int (sI u.1 9 0), .ref (a 9), .ref (a 11), .ref (a 13), .ref (a 14)])), (a 1, .inl (gy G 0, 8, .inl (sI u.1 0))), (a 2, .inl (gy G 0, 8, .inl (sI u.1 1))), (a 3, .inl (gy G 0, 8, .inl (sI u.1 2))), (a 4, .inl (gy G 0, 8, .inl (sI u.1 3))), (a 5, .inl (gy G 0, 8, .inl (sI u.1 4))), (a 6, .inl (gy G 0, 8, .inl (sI u.1 5))), (a 7, .inl (gy G 0, 10, .inl (sI u.1 6))), (a 8, .inl (gy G 0, 10, .inl (sI u.1 7))), (a 9, .inr (1, [.int (nI ((sB u.1).length)), .ref (a 10)])), (a 10, .inl (gy G 0, 144, .inl u.2.1)), (a 11, .inr (6, [.int (nI ((sW u.1).length)), .ref (a 12)])), (a 12, .inl (gy G 0, 10, .inl u.2.2)), (a 13, .inl (gy G 0, 5, .inl (sI u.1 8))), (a 14, .inl (gy G 0, 6, .inl (fun j => nI (sS u.1 j))))]) 0 0 := by
  refine g_enterV RX3 rfl (by decide) rfl (Nat.le_of_ble_eq_true rfl) ?_
  intro V E RET
  have hX := hI
  obtain ⟨hP8, hn, hw, hW8, hs3, hs4, hs5, hs6, hs7, hs8, hb34⟩ := hX
  have h8 : ∀ j, j < (sW S).length → wq (sW S) j < 80 := fun j hj => (hW8 j hj).1
  refine g_iload_n E dX3_takeTurn_0 rfl 1 rfl ?_
  refine g_bipush (v := 8) E dX3_takeTurn_1 (by decide) ?_
  refine g_idivN (a := r) (b := 8) E dX3_takeTurn_3 (by omega) (by omega) (by omega) ?_
  refine g_bipush (v := 8) E dX3_takeTurn_4 (by decide) ?_
  refine g_iremN (a := r / 8) (b := 8) E dX3_takeTurn_6 (by omega) (by omega) (by omega) ?_
  refine g_istore_n (lv' := [(2, .int (nI ((r / 8) % 8))), (0, .ref (a 0)), (1, .int (nI r))]) E dX3_takeTurn_7 rfl (by decide) rfl ?_
  refine g_iload_n E dX3_takeTurn_8 rfl 2 rfl ?_
  refine g_bipush (v := 64) E dX3_takeTurn_9 (by decide) ?_
  refine g_idivN (a := r) (b := 64) E dX3_takeTurn_11 (by omega) (by omega) (by omega) ?_
  refine g_bipush (v := 10) E dX3_takeTurn_12 (by decide) ?_
  refine g_iremN (a := r / 64) (b := 10) E dX3_takeTurn_14 (by omega) (by omega) (by omega) ?_
  refine g_istore_n (lv' := [(3, .int (nI ((r / 64) % 10))), (2, .int (nI ((r / 8) % 8))), (0, .ref (a 0)), (1, .int (nI r))]) E dX3_takeTurn_15 rfl (by decide) rfl ?_
  refine g_iload_n E dX3_takeTurn_16 rfl 3 rfl ?_
  refine g_bipush (v := 8) E dX3_takeTurn_17 (by decide) ?_
  refine g_iremN (a := r) (b := 8) E dX3_takeTurn_19 (by omega) (by omega) (by omega) ?_
  rcases (show r % 8 = 0 ∨ r % 8 = 1 ∨ r % 8 = 2 ∨ r % 8 = 3 ∨ r % 8 = 4 ∨ r % 8 = 5 ∨ (r % 8 ≠ 0 ∧ r % 8 ≠ 1 ∧ r % 8 ≠ 2 ∧ r % 8 ≠ 3 ∧ r % 8 ≠ 4 ∧ r % 8 ≠ 5) by omega) with k1 | k1 | k1 | k1 | k1 | k1 | k1
  · skip
    refine g_top (y := 0) (by rw [k1]; rfl) ?_
    refine g_tableIn (tgt := 60) E dX3_takeTurn_20 (by decide) (by decide) rfl (by decide) ?_
    refine g_aload_n E dX3_takeTurn_60 rfl 2 rfl ?_
    refine g_iload_n E dX3_takeTurn_61 rfl 1 rfl ?_
    refine g_iload_n E dX3_takeTurn_62 rfl 0 rfl ?_
    refine g_aload_n E dX3_takeTurn_63 rfl 2 rfl ?_
    refine g_get E uX3_takeTurn_RX2 0 rfl rfl 0 (by decide) kX3_takeTurn_13 rfl rfl dX3_takeTurn_64 ?_
    refine g_iload_n E dX3_takeTurn_67 rfl 3 rfl ?_
    refine g_sipush (v := 1024) E dX3_takeTurn_68 (by decide) ?_
    refine g_idivN (a := r) (b := 1024) E dX3_takeTurn_71 (by omega) (by omega) (by omega) ?_
    refine g_iconst (v := 5) E dX3_takeTurn_72 (by decide) ?_
    refine g_iremN (a := r / 1024) (b := 5) E dX3_takeTurn_73 (by omega) (by omega) (by omega) ?_
    refine g_iaddN (a := sN S 0) (b := (r / 1024) % 5) E dX3_takeTurn_74 ?_
    refine g_iload_n E dX3_takeTurn_75 rfl 3 rfl ?_
    refine g_sipush (v := 8192) E dX3_takeTurn_76 (by decide) ?_
    refine g_idivN (a := r) (b := 8192) E dX3_takeTurn_79 (by omega) (by omega) (by omega) ?_
    refine g_bipush (v := 8) E dX3_takeTurn_80 (by decide) ?_
    refine g_iremN (a := r / 8192) (b := 8) E dX3_takeTurn_82 (by omega) (by omega) (by omega) ?_
    refine g_callVIu (F := []) E (mX2_tryBook G a S gb gw (nI ((r / 8) % 8)) (nI ((r / 64) % 10)) (nI (sN S 0 + ((r / 1024) % 5))) (nI ((r / 8192) % 8)) hI hT hR hQ ) gX3_takeTurn_X2_tryBook rfl hdX2_tryBook ⟨Nat.le_of_ble_eq_true rfl, Nat.le_of_ble_eq_true rfl⟩ 3 0 rfl rfl rfl (gPerm_ix [0, 1, 2, 3, 4, 5, 6, 7, 8, 9, 10, 11, 12, 13, 14] rfl rfl) rfl rfl (Nat.le_of_ble_eq_true rfl) dX3_takeTurn_83 ⟨Nat.le_of_ble_eq_true rfl, Nat.le_of_ble_eq_true rfl⟩ (fun u2 h2 => ?_)
    obtain ⟨S2, gb2, gw2⟩ := u2
    obtain ⟨hS2, hR2, hQ2⟩ := h2
    have xE2 : S2 = (gTryBook S (nI ((r / 8) % 8)) (nI ((r / 64) % 10)) (nI (sN S 0 + ((r / 1024) % 5))) (nI ((r / 8192) % 8))).2 := hS2
    have hI2 : gI1 S2 := by rw [xE2]; exact gI1_tryBook hI _ _ _ _
    have hT2 : sN S2 0 < 1000000000 := by rw [xE2]; exact gT_tryBook hT _ _ _ _
    refine g_perm (ws1 := [(a 0, .inr (3, [.int (nI (sN S2 0)), .int (nI (sN S2 1)), .ref (a 1), .ref (a 2), .ref (a 3), .ref (a 4), .ref (a 5), .ref (a 6), .ref (a 7), .ref (a 8), .int (sI S2 9 0), .ref (a 9), .ref (a 11), .ref (a 13), .ref (a 14)])), (a 1, .inl (gy G 0, 8, .inl (sI S2 0))), (a 2, .inl (gy G 0, 8, .inl (sI S2 1))), (a 3, .inl (gy G 0, 8, .inl (sI S2 2))), (a 4, .inl (gy G 0, 8, .inl (sI S2 3))), (a 5, .inl (gy G 0, 8, .inl (sI S2 4))), (a 6, .inl (gy G 0, 8, .inl (sI S2 5))), (a 7, .inl (gy G 0, 10, .inl (sI S2 6))), (a 8, .inl (gy G 0, 10, .inl (sI S2 7))), (a 9, .inr (1, [.int (nI ((sB S2).length)), .ref (a 10)])), (a 10, .inl (gy G 0, 144, .inl gb2)), (a 11, .inr (6, [.int (nI ((sW S2).length)), .ref (a 12)])), (a 12, .inl (gy G 0, 10, .inl gw2)), (a 13, .inl (gy G 0, 5, .inl (sI S2 8))), (a 14, .inl (gy G 0, 6, .inl (fun j => nI (sS S2 j))))]) (gPerm_ix [0, 1, 2, 3, 4, 5, 6, 7, 8, 9, 10, 11, 12, 13, 14] rfl rfl) ?_
    refine g_pop E dX3_takeTurn_86 rfl ?_
    refine g_goto (tgt := 150) E dX3_takeTurn_87 (by decide) ?_
    exact RET _ _ (S2, gb2, gw2) (⟨(by first | (simp [gTurn1, k1]; done) | (simp [gTurn1, k1]; exact xE2)), hR2, hQ2⟩) dX3_takeTurn_150
  · skip
    refine g_top (y := 1) (by rw [k1]; rfl) ?_
    refine g_tableIn (tgt := 60) E dX3_takeTurn_20 (by decide) (by decide) rfl (by decide) ?_
    refine g_aload_n E dX3_takeTurn_60 rfl 2 rfl ?_
    refine g_iload_n E dX3_takeTurn_61 rfl 1 rfl ?_
    refine g_iload_n E dX3_takeTurn_62 rfl 0 rfl ?_
    refine g_aload_n E dX3_takeTurn_63 rfl 2 rfl ?_
    refine g_get E uX3_takeTurn_RX2 0 rfl rfl 0 (by decide) kX3_takeTurn_13 rfl rfl dX3_takeTurn_64 ?_
    refine g_iload_n E dX3_takeTurn_67 rfl 3 rfl ?_
    refine g_sipush (v := 1024) E dX3_takeTurn_68 (by decide) ?_
    refine g_idivN (a := r) (b := 1024) E dX3_takeTurn_71 (by omega) (by omega) (by omega) ?_
    refine g_iconst (v := 5) E dX3_takeTurn_72 (by decide) ?_
    refine g_iremN (a := r / 1024) (b := 5) E dX3_takeTurn_73 (by omega) (by omega) (by omega) ?_
    refine g_iaddN (a := sN S 0) (b := (r / 1024) % 5) E dX3_takeTurn_74 ?_
    refine g_iload_n E dX3_takeTurn_75 rfl 3 rfl ?_
    refine g_sipush (v := 8192) E dX3_takeTurn_76 (by decide) ?_
    refine g_idivN (a := r) (b := 8192) E dX3_takeTurn_79 (by omega) (by omega) (by omega) ?_
    refine g_bipush (v := 8) E dX3_takeTurn_80 (by decide) ?_
    refine g_iremN (a := r / 8192) (b := 8) E dX3_takeTurn_82 (by omega) (by omega) (by omega) ?_
    refine g_callVIu (F := []) E (mX2_tryBook G a S gb gw (nI ((r / 8) % 8)) (nI ((r / 64) % 10)) (nI (sN S 0 + ((r / 1024) % 5))) (nI ((r / 8192) % 8)) hI hT hR hQ ) gX3_takeTurn_X2_tryBook rfl hdX2_tryBook ⟨Nat.le_of_ble_eq_true rfl, Nat.le_of_ble_eq_true rfl⟩ 3 0 rfl rfl rfl (gPerm_ix [0, 1, 2, 3, 4, 5, 6, 7, 8, 9, 10, 11, 12, 13, 14] rfl rfl) rfl rfl (Nat.le_of_ble_eq_true rfl) dX3_takeTurn_83 ⟨Nat.le_of_ble_eq_true rfl, Nat.le_of_ble_eq_true rfl⟩ (fun u4 h4 => ?_)
    obtain ⟨S4, gb4, gw4⟩ := u4
    obtain ⟨hS4, hR4, hQ4⟩ := h4
    have xE4 : S4 = (gTryBook S (nI ((r / 8) % 8)) (nI ((r / 64) % 10)) (nI (sN S 0 + ((r / 1024) % 5))) (nI ((r / 8192) % 8))).2 := hS4
    have hI4 : gI1 S4 := by rw [xE4]; exact gI1_tryBook hI _ _ _ _
    have hT4 : sN S4 0 < 1000000000 := by rw [xE4]; exact gT_tryBook hT _ _ _ _
    refine g_perm (ws1 := [(a 0, .inr (3, [.int (nI (sN S4 0)), .int (nI (sN S4 1)), .ref (a 1), .ref (a 2), .ref (a 3), .ref (a 4), .ref (a 5), .ref (a 6), .ref (a 7), .ref (a 8), .int (sI S4 9 0), .ref (a 9), .ref (a 11), .ref (a 13), .ref (a 14)])), (a 1, .inl (gy G 0, 8, .inl (sI S4 0))), (a 2, .inl (gy G 0, 8, .inl (sI S4 1))), (a 3, .inl (gy G 0, 8, .inl (sI S4 2))), (a 4, .inl (gy G 0, 8, .inl (sI S4 3))), (a 5, .inl (gy G 0, 8, .inl (sI S4 4))), (a 6, .inl (gy G 0, 8, .inl (sI S4 5))), (a 7, .inl (gy G 0, 10, .inl (sI S4 6))), (a 8, .inl (gy G 0, 10, .inl (sI S4 7))), (a 9, .inr (1, [.int (nI ((sB S4).length)), .ref (a 10)])), (a 10, .inl (gy G 0, 144, .inl gb4)), (a 11, .inr (6, [.int (nI ((sW S4).length)), .ref (a 12)])), (a 12, .inl (gy G 0, 10, .inl gw4)), (a 13, .inl (gy G 0, 5, .inl (sI S4 8))), (a 14, .inl (gy G 0, 6, .inl (fun j => nI (sS S4 j))))]) (gPerm_ix [0, 1, 2, 3, 4, 5, 6, 7, 8, 9, 10, 11, 12, 13, 14] rfl rfl) ?_
    refine g_pop E dX3_takeTurn_86 rfl ?_
    refine g_goto (tgt := 150) E dX3_takeTurn_87 (by decide) ?_
    exact RET _ _ (S4, gb4, gw4) (⟨(by first | (simp [gTurn1, k1]; done) | (simp [gTurn1, k1]; exact xE4)), hR4, hQ4⟩) dX3_takeTurn_150
  · skip
    refine g_top (y := 2) (by rw [k1]; rfl) ?_
    refine g_tableIn (tgt := 90) E dX3_takeTurn_20 (by decide) (by decide) rfl (by decide) ?_
    refine g_aload_n E dX3_takeTurn_90 rfl 2 rfl ?_
    refine g_iload_n E dX3_takeTurn_91 rfl 1 rfl ?_
    refine g_iload_n E dX3_takeTurn_92 rfl 0 rfl ?_
    refine g_callVIu (F := []) E (mX2_tryWish G a S gb gw (nI ((r / 8) % 8)) (nI ((r / 64) % 10)) hI hT hR hQ ) gX3_takeTurn_X2_tryWish rfl hdX2_tryWish ⟨Nat.le_of_ble_eq_true rfl, Nat.le_of_ble_eq_true rfl⟩ 3 0 rfl rfl rfl (gPerm_ix [0, 1, 2, 3, 4, 5, 6, 7, 8, 9, 10, 11, 12, 13, 14] rfl rfl) rfl rfl (Nat.le_of_ble_eq_true rfl) dX3_takeTurn_93 ⟨Nat.le_of_ble_eq_true rfl, Nat.le_of_ble_eq_true rfl⟩ (fun u6 h6 => ?_)
    obtain ⟨S6, gb6, gw6⟩ := u6
    obtain ⟨hS6, hR6, hQ6⟩ := h6
    have xE6 : S6 = (gTryWish S (nI ((r / 8) % 8)) (nI ((r / 64) % 10))).2 := hS6
    have hI6 : gI1 S6 := by rw [xE6]; exact gI1_tryWish hI _ _
    have hT6 : sN S6 0 < 1000000000 := by rw [xE6]; exact gT_tryWish hT _ _
    refine g_perm (ws1 := [(a 0, .inr (3, [.int (nI (sN S6 0)), .int (nI (sN S6 1)), .ref (a 1), .ref (a 2), .ref (a 3), .ref (a 4), .ref (a 5), .ref (a 6), .ref (a 7), .ref (a 8), .int (sI S6 9 0), .ref (a 9), .ref (a 11), .ref (a 13), .ref (a 14)])), (a 1, .inl (gy G 0, 8, .inl (sI S6 0))), (a 2, .inl (gy G 0, 8, .inl (sI S6 1))), (a 3, .inl (gy G 0, 8, .inl (sI S6 2))), (a 4, .inl (gy G 0, 8, .inl (sI S6 3))), (a 5, .inl (gy G 0, 8, .inl (sI S6 4))), (a 6, .inl (gy G 0, 8, .inl (sI S6 5))), (a 7, .inl (gy G 0, 10, .inl (sI S6 6))), (a 8, .inl (gy G 0, 10, .inl (sI S6 7))), (a 9, .inr (1, [.int (nI ((sB S6).length)), .ref (a 10)])), (a 10, .inl (gy G 0, 144, .inl gb6)), (a 11, .inr (6, [.int (nI ((sW S6).length)), .ref (a 12)])), (a 12, .inl (gy G 0, 10, .inl gw6)), (a 13, .inl (gy G 0, 5, .inl (sI S6 8))), (a 14, .inl (gy G 0, 6, .inl (fun j => nI (sS S6 j))))]) (gPerm_ix [0, 1, 2, 3, 4, 5, 6, 7, 8, 9, 10, 11, 12, 13, 14] rfl rfl) ?_
    refine g_pop E dX3_takeTurn_96 rfl ?_
    refine g_goto (tgt := 150) E dX3_takeTurn_97 (by decide) ?_
    exact RET _ _ (S6, gb6, gw6) (⟨(by first | (simp [gTurn1, k1]; done) | (simp [gTurn1, k1]; exact xE6)), hR6, hQ6⟩) dX3_takeTurn_150
  · skip
    refine g_top (y := 3) (by rw [k1]; rfl) ?_
    refine g_tableIn (tgt := 100) E dX3_takeTurn_20 (by decide) (by decide) rfl (by decide) ?_
    refine g_aload_n E dX3_takeTurn_100 rfl 2 rfl ?_
    refine g_iload_n E dX3_takeTurn_101 rfl 1 rfl ?_
    refine g_iload_n E dX3_takeTurn_102 rfl 0 rfl ?_
    refine g_iconst (v := 1) E dX3_takeTurn_103 (by decide) ?_
    refine g_callVIu (F := []) E (mX2_tryList G a S gb gw (nI ((r / 8) % 8)) (nI ((r / 64) % 10)) 1 hI hT hR hQ ) gX3_takeTurn_X2_tryList rfl hdX2_tryList ⟨Nat.le_of_ble_eq_true rfl, Nat.le_of_ble_eq_true rfl⟩ 3 0 rfl rfl rfl (gPerm_ix [0, 1, 2, 3, 4, 5, 6, 7, 8, 9, 10, 11, 12, 13, 14] rfl rfl) rfl rfl (Nat.le_of_ble_eq_true rfl) dX3_takeTurn_104 ⟨Nat.le_of_ble_eq_true rfl, Nat.le_of_ble_eq_true rfl⟩ (fun u8 h8 => ?_)
    obtain ⟨S8, gb8, gw8⟩ := u8
    obtain ⟨hS8, hR8, hQ8⟩ := h8
    have xE8 : S8 = (gTryList S (nI ((r / 8) % 8)) (nI ((r / 64) % 10)) 1).2 := hS8
    have hI8 : gI1 S8 := by rw [xE8]; exact gI1_tryList hI _ _ _
    have hT8 : sN S8 0 < 1000000000 := by rw [xE8]; exact gT_tryList hT _ _ _
    refine g_perm (ws1 := [(a 0, .inr (3, [.int (nI (sN S8 0)), .int (nI (sN S8 1)), .ref (a 1), .ref (a 2), .ref (a 3), .ref (a 4), .ref (a 5), .ref (a 6), .ref (a 7), .ref (a 8), .int (sI S8 9 0), .ref (a 9), .ref (a 11), .ref (a 13), .ref (a 14)])), (a 1, .inl (gy G 0, 8, .inl (sI S8 0))), (a 2, .inl (gy G 0, 8, .inl (sI S8 1))), (a 3, .inl (gy G 0, 8, .inl (sI S8 2))), (a 4, .inl (gy G 0, 8, .inl (sI S8 3))), (a 5, .inl (gy G 0, 8, .inl (sI S8 4))), (a 6, .inl (gy G 0, 8, .inl (sI S8 5))), (a 7, .inl (gy G 0, 10, .inl (sI S8 6))), (a 8, .inl (gy G 0, 10, .inl (sI S8 7))), (a 9, .inr (1, [.int (nI ((sB S8).length)), .ref (a 10)])), (a 10, .inl (gy G 0, 144, .inl gb8)), (a 11, .inr (6, [.int (nI ((sW S8).length)), .ref (a 12)])), (a 12, .inl (gy G 0, 10, .inl gw8)), (a 13, .inl (gy G 0, 5, .inl (sI S8 8))), (a 14, .inl (gy G 0, 6, .inl (fun j => nI (sS S8 j))))]) (gPerm_ix [0, 1, 2, 3, 4, 5, 6, 7, 8, 9, 10, 11, 12, 13, 14] rfl rfl) ?_
    refine g_pop E dX3_takeTurn_107 rfl ?_
    refine g_goto (tgt := 150) E dX3_takeTurn_108 (by decide) ?_
    exact RET _ _ (S8, gb8, gw8) (⟨(by first | (simp [gTurn1, k1]; done) | (simp [gTurn1, k1]; exact xE8)), hR8, hQ8⟩) dX3_takeTurn_150
  · skip
    refine g_top (y := 4) (by rw [k1]; rfl) ?_
    refine g_tableIn (tgt := 111) E dX3_takeTurn_20 (by decide) (by decide) rfl (by decide) ?_
    refine g_aload_n E dX3_takeTurn_111 rfl 2 rfl ?_
    refine g_iload_n E dX3_takeTurn_112 rfl 0 rfl ?_
    refine g_iconst (v := 1) E dX3_takeTurn_113 (by decide) ?_
    refine g_callVIu (F := []) E (mX2_tryCarry G a S gb gw (nI ((r / 64) % 10)) 1 hI hT hR hQ ) gX3_takeTurn_X2_tryCarry rfl hdX2_tryCarry ⟨Nat.le_of_ble_eq_true rfl, Nat.le_of_ble_eq_true rfl⟩ 3 0 rfl rfl rfl (gPerm_ix [0, 1, 2, 3, 4, 5, 6, 7, 8, 9, 10, 11, 12, 13, 14] rfl rfl) rfl rfl (Nat.le_of_ble_eq_true rfl) dX3_takeTurn_114 ⟨Nat.le_of_ble_eq_true rfl, Nat.le_of_ble_eq_true rfl⟩ (fun u10 h10 => ?_)
    obtain ⟨S10, gb10, gw10⟩ := u10
    obtain ⟨hS10, hR10, hQ10⟩ := h10
    have xE10 : S10 = (gTryCarry S (nI ((r / 64) % 10)) 1).2 := hS10
    have hI10 : gI1 S10 := by rw [xE10]; exact gI1_tryCarry hI _ _
    have hT10 : sN S10 0 < 1000000000 := by rw [xE10]; exact gT_tryCarry hT _ _
    refine g_perm (ws1 := [(a 0, .inr (3, [.int (nI (sN S10 0)), .int (nI (sN S10 1)), .ref (a 1), .ref (a 2), .ref (a 3), .ref (a 4), .ref (a 5), .ref (a 6), .ref (a 7), .ref (a 8), .int (sI S10 9 0), .ref (a 9), .ref (a 11), .ref (a 13), .ref (a 14)])), (a 1, .inl (gy G 0, 8, .inl (sI S10 0))), (a 2, .inl (gy G 0, 8, .inl (sI S10 1))), (a 3, .inl (gy G 0, 8, .inl (sI S10 2))), (a 4, .inl (gy G 0, 8, .inl (sI S10 3))), (a 5, .inl (gy G 0, 8, .inl (sI S10 4))), (a 6, .inl (gy G 0, 8, .inl (sI S10 5))), (a 7, .inl (gy G 0, 10, .inl (sI S10 6))), (a 8, .inl (gy G 0, 10, .inl (sI S10 7))), (a 9, .inr (1, [.int (nI ((sB S10).length)), .ref (a 10)])), (a 10, .inl (gy G 0, 144, .inl gb10)), (a 11, .inr (6, [.int (nI ((sW S10).length)), .ref (a 12)])), (a 12, .inl (gy G 0, 10, .inl gw10)), (a 13, .inl (gy G 0, 5, .inl (sI S10 8))), (a 14, .inl (gy G 0, 6, .inl (fun j => nI (sS S10 j))))]) (gPerm_ix [0, 1, 2, 3, 4, 5, 6, 7, 8, 9, 10, 11, 12, 13, 14] rfl rfl) ?_
    refine g_pop E dX3_takeTurn_117 rfl ?_
    refine g_goto (tgt := 150) E dX3_takeTurn_118 (by decide) ?_
    exact RET _ _ (S10, gb10, gw10) (⟨(by first | (simp [gTurn1, k1]; done) | (simp [gTurn1, k1]; exact xE10)), hR10, hQ10⟩) dX3_takeTurn_150
  · skip
    refine g_top (y := 5) (by rw [k1]; rfl) ?_
    refine g_tableIn (tgt := 121) E dX3_takeTurn_20 (by decide) (by decide) rfl (by decide) ?_
    refine g_aload_n E dX3_takeTurn_121 rfl 2 rfl ?_
    refine g_iload_n E dX3_takeTurn_122 rfl 3 rfl ?_
    refine g_bipush (v := 8) E dX3_takeTurn_123 (by decide) ?_
    refine g_idivN (a := r) (b := 8) E dX3_takeTurn_125 (by omega) (by omega) (by omega) ?_
    refine g_bipush (v := 24) E dX3_takeTurn_126 (by decide) ?_
    refine g_iremN (a := r / 8) (b := 24) E dX3_takeTurn_128 (by omega) (by omega) (by omega) ?_
    refine g_iload_n E dX3_takeTurn_129 rfl 3 rfl ?_
    refine g_sipush (v := 1024) E dX3_takeTurn_130 (by decide) ?_
    refine g_idivN (a := r) (b := 1024) E dX3_takeTurn_133 (by omega) (by omega) (by omega) ?_
    refine g_bipush (v := 40) E dX3_takeTurn_134 (by decide) ?_
    refine g_iremN (a := r / 1024) (b := 40) E dX3_takeTurn_136 (by omega) (by omega) (by omega) ?_
    refine g_callVIu (F := []) E (mX2_tryLate G a S gb gw (nI ((r / 8) % 24)) (nI ((r / 1024) % 40)) hI hT hR hQ ) gX3_takeTurn_X2_tryLate rfl hdX2_tryLate ⟨Nat.le_of_ble_eq_true rfl, Nat.le_of_ble_eq_true rfl⟩ 3 0 rfl rfl rfl (gPerm_ix [0, 1, 2, 3, 4, 5, 6, 7, 8, 9, 10, 11, 12, 13, 14] rfl rfl) rfl rfl (Nat.le_of_ble_eq_true rfl) dX3_takeTurn_137 ⟨Nat.le_of_ble_eq_true rfl, Nat.le_of_ble_eq_true rfl⟩ (fun u12 h12 => ?_)
    obtain ⟨S12, gb12, gw12⟩ := u12
    obtain ⟨hS12, hR12, hQ12⟩ := h12
    have xE12 : S12 = (gTryLate S (nI ((r / 8) % 24)) (nI ((r / 1024) % 40))).2 := hS12
    have hI12 : gI1 S12 := by rw [xE12]; exact gI1_tryLate hI _ _
    have hT12 : sN S12 0 < 1000000000 := by rw [xE12]; exact gT_tryLate hT _ _
    refine g_perm (ws1 := [(a 0, .inr (3, [.int (nI (sN S12 0)), .int (nI (sN S12 1)), .ref (a 1), .ref (a 2), .ref (a 3), .ref (a 4), .ref (a 5), .ref (a 6), .ref (a 7), .ref (a 8), .int (sI S12 9 0), .ref (a 9), .ref (a 11), .ref (a 13), .ref (a 14)])), (a 1, .inl (gy G 0, 8, .inl (sI S12 0))), (a 2, .inl (gy G 0, 8, .inl (sI S12 1))), (a 3, .inl (gy G 0, 8, .inl (sI S12 2))), (a 4, .inl (gy G 0, 8, .inl (sI S12 3))), (a 5, .inl (gy G 0, 8, .inl (sI S12 4))), (a 6, .inl (gy G 0, 8, .inl (sI S12 5))), (a 7, .inl (gy G 0, 10, .inl (sI S12 6))), (a 8, .inl (gy G 0, 10, .inl (sI S12 7))), (a 9, .inr (1, [.int (nI ((sB S12).length)), .ref (a 10)])), (a 10, .inl (gy G 0, 144, .inl gb12)), (a 11, .inr (6, [.int (nI ((sW S12).length)), .ref (a 12)])), (a 12, .inl (gy G 0, 10, .inl gw12)), (a 13, .inl (gy G 0, 5, .inl (sI S12 8))), (a 14, .inl (gy G 0, 6, .inl (fun j => nI (sS S12 j))))]) (gPerm_ix [0, 1, 2, 3, 4, 5, 6, 7, 8, 9, 10, 11, 12, 13, 14] rfl rfl) ?_
    refine g_pop E dX3_takeTurn_140 rfl ?_
    refine g_goto (tgt := 150) E dX3_takeTurn_141 (by decide) ?_
    exact RET _ _ (S12, gb12, gw12) (⟨(by first | (simp [gTurn1, k1]; done) | (simp [gTurn1, k1]; exact xE12)), hR12, hQ12⟩) dX3_takeTurn_150
  · skip
    refine g_tableOutN (tgt := 144) (a := r % 8) E dX3_takeTurn_20 (by omega) (by omega) (by decide) ?_
    refine g_aload_n E dX3_takeTurn_144 rfl 2 rfl ?_
    refine g_iconst (v := 1) E dX3_takeTurn_145 (by decide) ?_
    refine g_callVIu (F := []) E (mX2_letDaysPass G a S gb gw 1 hI hT hR hQ (by omega)) gX3_takeTurn_X2_letDaysPass rfl hdX2_letDaysPass ⟨Nat.le_of_ble_eq_true rfl, Nat.le_of_ble_eq_true rfl⟩ 3 0 rfl rfl rfl (gPerm_ix [0, 1, 2, 3, 4, 5, 6, 7, 8, 9, 10, 11, 12, 13, 14] rfl rfl) rfl rfl (Nat.le_of_ble_eq_true rfl) dX3_takeTurn_146 ⟨Nat.le_of_ble_eq_true rfl, Nat.le_of_ble_eq_true rfl⟩ (fun u14 h14 => ?_)
    obtain ⟨S14, gb14, gw14⟩ := u14
    obtain ⟨hS14, hR14, hQ14⟩ := h14
    have xE14 : S14 = gDays 1 S := hS14
    have hI14 : gI1 S14 := by rw [xE14]; exact gI1_days hI _
    have hD14 : sN S14 0 = sN S 0 + 1 := by rw [xE14]; exact gDays_0 _ _
    have hT14 : sN S14 0 < 1000000000 := by rw [hD14]; exact (by omega)
    refine g_perm (ws1 := [(a 0, .inr (3, [.int (nI (sN S14 0)), .int (nI (sN S14 1)), .ref (a 1), .ref (a 2), .ref (a 3), .ref (a 4), .ref (a 5), .ref (a 6), .ref (a 7), .ref (a 8), .int (sI S14 9 0), .ref (a 9), .ref (a 11), .ref (a 13), .ref (a 14)])), (a 1, .inl (gy G 0, 8, .inl (sI S14 0))), (a 2, .inl (gy G 0, 8, .inl (sI S14 1))), (a 3, .inl (gy G 0, 8, .inl (sI S14 2))), (a 4, .inl (gy G 0, 8, .inl (sI S14 3))), (a 5, .inl (gy G 0, 8, .inl (sI S14 4))), (a 6, .inl (gy G 0, 8, .inl (sI S14 5))), (a 7, .inl (gy G 0, 10, .inl (sI S14 6))), (a 8, .inl (gy G 0, 10, .inl (sI S14 7))), (a 9, .inr (1, [.int (nI ((sB S14).length)), .ref (a 10)])), (a 10, .inl (gy G 0, 144, .inl gb14)), (a 11, .inr (6, [.int (nI ((sW S14).length)), .ref (a 12)])), (a 12, .inl (gy G 0, 10, .inl gw14)), (a 13, .inl (gy G 0, 5, .inl (sI S14 8))), (a 14, .inl (gy G 0, 6, .inl (fun j => nI (sS S14 j))))]) (gPerm_ix [0, 1, 2, 3, 4, 5, 6, 7, 8, 9, 10, 11, 12, 13, 14] rfl rfl) ?_
    refine g_pop E dX3_takeTurn_149 rfl ?_
    exact RET _ _ (S14, gb14, gw14) (⟨(by first | (simp [gTurn1, k1]; done) | (simp [gTurn1, k1]; exact xE14)), hR14, hQ14⟩) dX3_takeTurn_150
