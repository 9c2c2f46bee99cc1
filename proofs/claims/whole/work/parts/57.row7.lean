theorem gUp_out {f : Nat → Int32} {n y j : Nat} (h : j < 93 + 7 * (y + 1)) : va_cpy f f (93 + 7 * y) (93 + 7 * (y + 1)) (7 * (n - y)) j = f j := by
  unfold va_cpy
  rw [if_neg (by omega)]
theorem gUp_st {f : Nat → Int32} {n y : Nat} (h0 : 0 < y) (hy : y ≤ n) : va_cpy (va_cpy f f (93 + 7 * y) (93 + 7 * (y + 1)) (7 * (n - y))) (va_cpy f f (93 + 7 * y) (93 + 7 * (y + 1)) (7 * (n - y))) (93 + 7 * (y - 1) + 0) (93 + 7 * y + 0) 7 = va_cpy f f (93 + 7 * (y - 1)) (93 + 7 * (y - 1 + 1)) (7 * (n - (y - 1))) := by
  funext j
  unfold va_cpy
  by_cases c : 93 + 7 * y + 0 ≤ j ∧ j < 93 + 7 * y + 0 + 7
  · rw [if_pos c, if_neg (by omega), if_pos (by omega)]
    congr 1
    omega
  · rw [if_neg c]
    by_cases c2 : 93 + 7 * (y + 1) ≤ j ∧ j < 93 + 7 * (y + 1) + 7 * (n - y)
    · rw [if_pos c2, if_pos (by omega)]
      congr 1
      omega
    · rw [if_neg c2, if_neg (by omega)]
theorem gPlc_at {bs : List (Nat → Nat)} {d h t y : Nat} (hy : y ≤ bs.length) (hA : ∀ j, y ≤ j → j < bs.length → gBhd (bk bs j) d h (nI t) = true) (hB : y = 0 ∨ (0 < y ∧ ¬ gBhd (bk bs (y - 1)) d h (nI t) = true))
    (hso : ∀ i j, i < j → j < bs.length → gKlt (bk bs j 0) (bk bs j 1) (bk bs j 2) (bk bs i) = true) (hne : ∀ j, j < bs.length → ¬ (bk bs j 0 = d ∧ bk bs j 1 = h ∧ bk bs j 2 = t)) (ht : t < 1073741824) (hb2 : ∀ j, j < bs.length → bk bs j 2 < 1073741824) : gPlc bs d h t = y := by
  refine gPlc_of (fun j hj => ?_) hy ?_
  · rcases hB with rfl | ⟨h0, h1⟩
    · exact absurd hj (Nat.not_lt_zero j)
    · have hl : gKlt d h t (bk bs (y - 1)) = true := by
        have hn := hne (y - 1) (by omega)
        simp only [gBhd, Bool.or_eq_true, Bool.and_eq_true, decide_eq_true_eq, not_or, not_and] at h1
        simp only [gKlt, Bool.or_eq_true, Bool.and_eq_true, decide_eq_true_eq]
        obtain ⟨h2, h3⟩ := h1
        rcases Nat.lt_or_ge (bk bs (y - 1) 0) d with q | q
        · exact Or.inl q
        · right
          have e0 : bk bs (y - 1) 0 = d := by omega
          refine ⟨e0, ?_⟩
          obtain ⟨h4, h5⟩ := h3 e0
          rcases Nat.lt_or_ge (bk bs (y - 1) 1) h with q | q
          · exact Or.inl q
          · right
            have e1 : bk bs (y - 1) 1 = h := by omega
            refine ⟨e1, ?_⟩
            have h6 := h5 e1
            rcases Nat.lt_or_ge (bk bs (y - 1) 2) t with q2 | q2
            · exact q2
            · have q3 : bk bs (y - 1) 2 ≠ t := fun e => hn ⟨e0, e1, e⟩
              have := hb2 (y - 1) (by omega)
              exact absurd ((nI_ltI (by omega) (by omega)).mpr (by omega)) h6
      by_cases c : j = y - 1
      · rw [c]
        exact hl
      · have h2 := hso j (y - 1) (by omega) (by omega)
        simp only [gKlt, Bool.or_eq_true, Bool.and_eq_true, decide_eq_true_eq] at h2 hl ⊢
        omega
  · rcases Nat.lt_or_ge y bs.length with q | q
    · right
      have h1 := hA y (Nat.le_refl _) q
      simp only [gBhd, Bool.or_eq_true, Bool.and_eq_true, decide_eq_true_eq] at h1
      apply Bool.eq_false_iff.mpr
      intro h2
      simp only [gKlt, Bool.or_eq_true, Bool.and_eq_true, decide_eq_true_eq] at h2
      rcases h1 with a | ⟨a, b | ⟨b, c⟩⟩
      · omega
      · omega
      · rcases h2 with e | ⟨e, e2 | ⟨e2, e3⟩⟩
        · omega
        · omega
        · have := hb2 y q
          rw [nI_ltI (by omega) (by omega)] at c
          omega
    · exact Or.inl (by omega)
theorem RR_ins {S : gSt} {f : Nat → Int32} {y d h t p v : Nat} (hR : RR S f) (hy : y ≤ (sB S).length) (hn : (sB S).length < 24) (hp : p < 1073741824) (hv : v < 1073741824) (hd : d < 1073741824) (hh : h < 1073741824) (ht : t < 1073741824) :
    RR (uB S (gIns (sB S) y (gNb d h t p v))) (upd (upd (upd (upd (upd (upd (upd (upd (va_cpy f f (93 + 7 * y) (93 + 7 * (y + 1)) (7 * ((sB S).length - y))) (93 + 7 * y + 0) (nI d)) (93 + 7 * y + 1) (nI h)) (93 + 7 * y + 2) (nI t)) (93 + 7 * y + 3) (nI p)) (93 + 7 * y + 4) (nI v)) (93 + 7 * y + 5) 0) (93 + 7 * y + 6) 0) 2 (nI ((sB S).length + 1))) := by
  obtain ⟨h0, h1, h2, h3, h4, h5, h6, h7, h8, h9⟩ := hR
  have el := gIns_length (sB S) y (gNb d h t p v) hy
  have out : ∀ j, j ≠ 2 → (j < 93 + 7 * y ∨ 261 ≤ j) → upd (upd (upd (upd (upd (upd (upd (upd (va_cpy f f (93 + 7 * y) (93 + 7 * (y + 1)) (7 * ((sB S).length - y))) (93 + 7 * y + 0) (nI d)) (93 + 7 * y + 1) (nI h)) (93 + 7 * y + 2) (nI t)) (93 + 7 * y + 3) (nI p)) (93 + 7 * y + 4) (nI v)) (93 + 7 * y + 5) 0) (93 + 7 * y + 6) 0) 2 (nI ((sB S).length + 1)) j = f j := by
    intro j hj hj2
    rw [upd_ne (by omega), upd_ne (by omega), upd_ne (by omega), upd_ne (by omega), upd_ne (by omega), upd_ne (by omega), upd_ne (by omega), upd_ne (by omega)]
    unfold va_cpy
    rw [if_neg (by omega)]
  refine ⟨by rw [out _ (by omega) (by omega)]; exact h0, by rw [out _ (by omega) (by omega)]; exact h1, ?_, by rw [out _ (by omega) (by omega)]; exact h3, fun j hj => by rw [out _ (by omega) (by omega)]; exact h4 j hj, fun j hj => by rw [out _ (by omega) (by omega)]; exact h5 j hj, fun q hq u hu => by rw [out _ (by omega) (by omega)]; exact h6 q hq u hu, fun v hv => ?_, fun k hk w hw => ?_, fun k hk => by rw [out _ (by omega) (by omega)]; exact h9 k hk⟩
  · rw [upd_eq rfl]
    show _ = nI (gIns (sB S) y (gNb d h t p v)).length
    rw [el]
  · rw [out _ (by omega) (by omega), out _ (by omega) (by omega), out _ (by omega) (by omega)]
    exact h7 v hv
  · have hk' : k < (sB S).length + 1 := by
      have : k < (gIns (sB S) y (gNb d h t p v)).length := hk
      omega
    show _ = nI (bk (gIns (sB S) y (gNb d h t p v)) k w) ∧ bk (gIns (sB S) y (gNb d h t p v)) k w < 1073741824
    rw [bk_ins hy]
    by_cases c : k < y
    · rw [if_pos c, out _ (by omega) (by omega)]
      exact h8 k (by omega) w hw
    · rw [if_neg c]
      by_cases c2 : k = y
      · subst c2
        rw [if_pos rfl]
        rcases (show w = 0 ∨ w = 1 ∨ w = 2 ∨ w = 3 ∨ w = 4 ∨ w = 5 ∨ w = 6 by omega) with rfl | rfl | rfl | rfl | rfl | rfl | rfl
        · rw [upd_ne (by omega), upd_ne (by omega), upd_ne (by omega), upd_ne (by omega), upd_ne (by omega), upd_ne (by omega), upd_ne (by omega), upd_eq rfl]
          exact ⟨rfl, hd⟩
        · rw [upd_ne (by omega), upd_ne (by omega), upd_ne (by omega), upd_ne (by omega), upd_ne (by omega), upd_ne (by omega), upd_eq rfl]
          exact ⟨rfl, hh⟩
        · rw [upd_ne (by omega), upd_ne (by omega), upd_ne (by omega), upd_ne (by omega), upd_ne (by omega), upd_eq rfl]
          exact ⟨rfl, ht⟩
        · rw [upd_ne (by omega), upd_ne (by omega), upd_ne (by omega), upd_ne (by omega), upd_eq rfl]
          exact ⟨rfl, hp⟩
        · rw [upd_ne (by omega), upd_ne (by omega), upd_ne (by omega), upd_eq rfl]
          exact ⟨rfl, hv⟩
        · rw [upd_ne (by omega), upd_ne (by omega), upd_eq rfl]
          exact ⟨rfl, (show (0 : Nat) < 1073741824 by decide)⟩
        · rw [upd_ne (by omega), upd_eq rfl]
          exact ⟨rfl, (show (0 : Nat) < 1073741824 by decide)⟩
      · rw [if_neg c2, upd_ne (by omega), upd_ne (by omega), upd_ne (by omega), upd_ne (by omega), upd_ne (by omega), upd_ne (by omega), upd_ne (by omega), upd_ne (by omega)]
        unfold va_cpy
        rw [if_pos (by omega), show 93 + 7 * y + (93 + 7 * k + w - (93 + 7 * (y + 1))) = 93 + 7 * (k - 1) + w by omega]
        exact h8 (k - 1) (by omega) w hw
set_option maxHeartbeats 4000000 in
set_option maxRecDepth 100000 in
theorem mX8_isBehindW (G : gG) (r : Nat) (f : Nat → Int32) (k d h : Nat) (t : Int32) (b : Nat → Nat) (hk : k < 24) (hd : d < 1073741824) (hh : h < 1073741824) (e0 : f (93 + 7 * k + 0) = nI (b 0)) (e1 : f (93 + 7 * k + 1) = nI (b 1)) (e2 : f (93 + 7 * k + 2) = nI (b 2)) (q0 : b 0 < 1073741824) (q1 : b 1 < 1073741824) : CIe G yX8_isBehind wsX8_isBehind 1 21 [.ref r, .int (nI k), .int (nI d), .int (nI h), .int t] [(r, .inl (gy G 0, 271, .inl f))] (if gBhd b d h t = true then 1 else 0) [(r, .inl (gy G 0, 271, .inl f))] 0 0 := by
  refine g_enterIe (ty := .boolean) RX8 rfl (by decide) rfl (Nat.le_of_ble_eq_true rfl) ?_
  intro V E RET
  refine g_aload_n E dX8_isBehind_0 rfl 0 rfl ?_
  refine g_iload_n E dX8_isBehind_1 rfl 1 rfl ?_
  refine g_iconst (v := 0) E dX8_isBehind_2 (by decide) ?_
  refine g_callSIe (F := [(r, .inl (gy G 0, 271, .inl f))]) (ws2 := [(r, .inl (gy G 0, 271, .inl f))]) E (mX8_bookingAt G k 0 (by omega) (by omega)) gX8_isBehind_X8_bookingAt rfl hnX8_bookingAt ⟨Nat.le_of_ble_eq_true rfl, Nat.le_of_ble_eq_true rfl⟩ (gPerm_ix [0] rfl rfl) rfl rfl (Nat.le_of_ble_eq_true rfl) dX8_isBehind_3 ⟨Nat.le_of_ble_eq_true rfl, Nat.le_of_ble_eq_true rfl⟩ (gPerm_ix [0] rfl rfl) ?_
  refine g_ialdN (e := 93 + 7 * k + 0) E 0 rfl (by omega) rfl (v := nI (b 0)) (e0) dX8_isBehind_6 ?_
  refine g_iload_n E dX8_isBehind_7 rfl 2 rfl ?_
  refine g_isub E dX8_isBehind_8 ?_
  refine g_istore (lv' := [(5, .int ((nI (b 0)) - (nI d))), (0, .ref r), (1, .int (nI k)), (2, .int (nI d)), (3, .int (nI h)), (4, .int t)]) E dX8_isBehind_9 (by decide) rfl ?_
  refine g_aload_n E dX8_isBehind_11 rfl 1 rfl ?_
  refine g_iload_n E dX8_isBehind_12 rfl 2 rfl ?_
  refine g_iconst (v := 1) E dX8_isBehind_13 (by decide) ?_
  refine g_callSIe (F := [(r, .inl (gy G 0, 271, .inl f))]) (ws2 := [(r, .inl (gy G 0, 271, .inl f))]) E (mX8_bookingAt G k 1 (by omega) (by omega)) gX8_isBehind_X8_bookingAt rfl hnX8_bookingAt ⟨Nat.le_of_ble_eq_true rfl, Nat.le_of_ble_eq_true rfl⟩ (gPerm_ix [0] rfl rfl) rfl rfl (Nat.le_of_ble_eq_true rfl) dX8_isBehind_14 ⟨Nat.le_of_ble_eq_true rfl, Nat.le_of_ble_eq_true rfl⟩ (gPerm_ix [0] rfl rfl) ?_
  refine g_ialdN (e := 93 + 7 * k + 1) E 0 rfl (by omega) rfl (v := nI (b 1)) (e1) dX8_isBehind_17 ?_
  refine g_iload_n E dX8_isBehind_18 rfl 4 rfl ?_
  refine g_isub E dX8_isBehind_19 ?_
  refine g_istore (lv' := [(6, .int ((nI (b 1)) - (nI h))), (5, .int ((nI (b 0)) - (nI d))), (0, .ref r), (1, .int (nI k)), (2, .int (nI d)), (3, .int (nI h)), (4, .int t)]) E dX8_isBehind_20 (by decide) rfl ?_
  refine g_iload E dX8_isBehind_22 1 rfl ?_
  refine g_if_gt (tgt := 54) E dX8_isBehind_24 (by decide) (fun c1 => ?_) (fun c1 => ?_)
  · skip
    rw [gSub_gt q0 hd] at c1
    refine g_iconst (v := 1) E dX8_isBehind_54 (by decide) ?_
    refine g_goto (tgt := 59) E dX8_isBehind_55 (by decide) ?_
    exact RET _ _ _ () (by first | (simp [gBhd, c1]; done) | (simp [gBhd, c1, -Int32.not_lt]; done)) rfl dX8_isBehind_59
  · skip
    rw [gSub_gt q0 hd] at c1
    refine g_iload E dX8_isBehind_27 1 rfl ?_
    refine g_if_ne (tgt := 58) E dX8_isBehind_29 (by decide) (fun c2 => ?_) (fun c2 => ?_)
    · skip
      rw [gSub_eq q0 hd] at c2
      refine g_iconst (v := 0) E dX8_isBehind_58 (by decide) ?_
      exact RET _ _ _ () (by first | (simp [gBhd, c1, c2]; done) | (simp [gBhd, c1, c2, -Int32.not_lt]; done)) rfl dX8_isBehind_59
    · skip
      rw [gSub_eq q0 hd] at c2
      refine g_iload E dX8_isBehind_32 0 rfl ?_
      refine g_if_gt (tgt := 54) E dX8_isBehind_34 (by decide) (fun c3 => ?_) (fun c3 => ?_)
      · skip
        rw [gSub_gt q1 hh] at c3
        refine g_iconst (v := 1) E dX8_isBehind_54 (by decide) ?_
        refine g_goto (tgt := 59) E dX8_isBehind_55 (by decide) ?_
        exact RET _ _ _ () (by first | (simp [gBhd, c1, c2, c3]; done) | (simp [gBhd, c1, c2, c3, -Int32.not_lt]; done)) rfl dX8_isBehind_59
      · skip
        rw [gSub_gt q1 hh] at c3
        refine g_iload E dX8_isBehind_37 0 rfl ?_
        refine g_if_ne (tgt := 58) E dX8_isBehind_39 (by decide) (fun c4 => ?_) (fun c4 => ?_)
        · skip
          rw [gSub_eq q1 hh] at c4
          refine g_iconst (v := 0) E dX8_isBehind_58 (by decide) ?_
          exact RET _ _ _ () (by first | (simp [gBhd, c1, c2, c3, c4]; done) | (simp [gBhd, c1, c2, c3, c4, -Int32.not_lt]; done)) rfl dX8_isBehind_59
        · skip
          rw [gSub_eq q1 hh] at c4
          refine g_aload_n E dX8_isBehind_42 rfl 2 rfl ?_
          refine g_iload_n E dX8_isBehind_43 rfl 3 rfl ?_
          refine g_iconst (v := 2) E dX8_isBehind_44 (by decide) ?_
          refine g_callSIe (F := [(r, .inl (gy G 0, 271, .inl f))]) (ws2 := [(r, .inl (gy G 0, 271, .inl f))]) E (mX8_bookingAt G k 2 (by omega) (by omega)) gX8_isBehind_X8_bookingAt rfl hnX8_bookingAt ⟨Nat.le_of_ble_eq_true rfl, Nat.le_of_ble_eq_true rfl⟩ (gPerm_ix [0] rfl rfl) rfl rfl (Nat.le_of_ble_eq_true rfl) dX8_isBehind_45 ⟨Nat.le_of_ble_eq_true rfl, Nat.le_of_ble_eq_true rfl⟩ (gPerm_ix [0] rfl rfl) ?_
          refine g_ialdN (e := 93 + 7 * k + 2) E 0 rfl (by omega) rfl (v := nI (b 2)) (e2) dX8_isBehind_48 ?_
          refine g_iload E dX8_isBehind_49 6 rfl ?_
          refine g_icmp_le (tgt := 58) E dX8_isBehind_51 (by decide) (fun c5 => ?_) (fun c5 => ?_)
          · skip
            rw [← Int32.not_lt] at c5
            refine g_iconst (v := 0) E dX8_isBehind_58 (by decide) ?_
            exact RET _ _ _ () (by first | (simp [gBhd, c1, c2, c3, c4, c5]; done) | (simp [gBhd, c1, c2, c3, c4, c5, -Int32.not_lt]; done)) rfl dX8_isBehind_59
          · skip
            rw [Int32.not_le] at c5
            refine g_iconst (v := 1) E dX8_isBehind_54 (by decide) ?_
            refine g_goto (tgt := 59) E dX8_isBehind_55 (by decide) ?_
            exact RET _ _ _ () (by first | (simp [gBhd, c1, c2, c3, c4, c5]; done) | (simp [gBhd, c1, c2, c3, c4, c5, -Int32.not_lt]; done)) rfl dX8_isBehind_59

set_option maxHeartbeats 4000000 in
set_option maxRecDepth 100000 in
theorem mX8_bookIn (G : gG) (r : Nat) (S : gSt) (f : Nat → Int32) (p v d h t : Nat) (hI : gI1r S) (hT : sN S 0 < 1000000000) (hRR : RR S f) (hp : p < 1073741824) (hv : v < 1073741824) (hd : d < 1073741824) (hh : h < 1073741824) (hn24 : (sB S).length < 24) (ht : gFb S d h = nI t) (ht4 : t < 1073741824) (hso : ∀ i j, i < j → j < (sB S).length → gKlt (bk (sB S) j 0) (bk (sB S) j 1) (bk (sB S) j 2) (bk (sB S) i) = true) (hne : ∀ j, j < (sB S).length → ¬ (bk (sB S) j 0 = d ∧ bk (sB S) j 1 = h ∧ bk (sB S) j 2 = t)) : CIu G yX8_bookIn wsX8_bookIn 3 69 [.ref r, .int (nI p), .int (nI v), .int (nI d), .int (nI h)] [(r, .inl (gy G 0, 271, .inl f))] (nI t) (fun u : Nat → Int32 => RR (uB S (gIns (sB S) (gPlc (sB S) d h t) (gNb d h t p v))) u) (fun (u : Nat → Int32) => [(r, .inl (gy G 0, 271, .inl u))]) 0 0 := by
  refine g_enterIu (ty := .int) RX8 rfl (by decide) rfl (Nat.le_of_ble_eq_true rfl) ?_
  intro V E RET
  have hX := hI
  obtain ⟨hP8, hn, hw, hW8, hs3, hs4, hs5, hs6, hs7, hs8, hb34⟩ := hX
  have hb2 : ∀ j, j < (sB S).length → bk (sB S) j 2 < 1073741824 := fun j hj => (hRR.2.2.2.2.2.2.2.2.1 j hj 2 (by decide)).2
  refine g_aload_n E dX8_bookIn_0 rfl 0 rfl ?_
  refine g_iload_n E dX8_bookIn_1 rfl 3 rfl ?_
  refine g_iload E dX8_bookIn_2 4 rfl ?_
  refine g_callSIe (F := []) (ws2 := [(r, .inl (gy G 0, 271, .inl f))]) E (mX8_freeBooth G r S f d h hI hT hRR (by omega) (by omega)) gX8_bookIn_X8_freeBooth rfl hnX8_freeBooth ⟨Nat.le_of_ble_eq_true rfl, Nat.le_of_ble_eq_true rfl⟩ (gPerm_ix [0] rfl rfl) rfl rfl (Nat.le_of_ble_eq_true rfl) dX8_bookIn_4 ⟨Nat.le_of_ble_eq_true rfl, Nat.le_of_ble_eq_true rfl⟩ (gPerm_ix [0] rfl rfl) ?_
  refine g_top (y := nI t) ht ?_
  refine g_istore (lv' := [(5, .int (nI t)), (0, .ref r), (1, .int (nI p)), (2, .int (nI v)), (3, .int (nI d)), (4, .int (nI h))]) E dX8_bookIn_7 (by decide) rfl ?_
  refine g_aload_n E dX8_bookIn_9 rfl 1 rfl ?_
  refine g_iconst (v := 2) E dX8_bookIn_10 (by decide) ?_
  refine g_ialdN (e := 2) E 0 rfl (by omega) rfl (v := nI ((sB S).length)) (RR_2 hRR) dX8_bookIn_11 ?_
  refine g_istore (lv' := [(6, .int (nI ((sB S).length))), (5, .int (nI t)), (0, .ref r), (1, .int (nI p)), (2, .int (nI v)), (3, .int (nI d)), (4, .int (nI h))]) E dX8_bookIn_12 (by decide) rfl ?_
  have loop1 : ∀ (n2 : Nat) (y : Nat) (g : Nat → Int32), (y ≤ (sB S).length) → (g = va_cpy f f (93 + 7 * y) (93 + 7 * (y + 1)) (7 * ((sB S).length - y))) → (∀ j, y ≤ j → j < (sB S).length → gBhd (bk (sB S) j) d h (nI t) = true) → y < n2 → gW V 7 0 0 [(r, .inl (gy G 0, 271, .inl g))] [(0, .ref r), (1, .int (nI p)), (2, .int (nI v)), (3, .int (nI d)), (4, .int (nI h)), (5, .int (nI t)), (6, .int (nI y))] 14 [] := by
    intro n2
    induction n2 with
    | zero => intro y g hy hg hA hm4; exact absurd hm4 (Nat.not_lt_zero _)
    | succ n2 ih3 =>
      intro y g hy hg hA hm4
      refine g_iload E dX8_bookIn_14 6 rfl ?_
      refine g_if_leN (tgt := 62) (a := y) E dX8_bookIn_16 (by decide) (by omega) (fun c5 => ?_) (fun c5 => ?_)
      · skip
        have ePl : gPlc (sB S) d h t = y := gPlc_at hy hA (Or.inl (by omega)) hso hne ht4 hb2
        refine g_aload_n E dX8_bookIn_62 rfl 0 rfl ?_
        refine g_iload E dX8_bookIn_63 6 rfl ?_
        refine g_iconst (v := 0) E dX8_bookIn_65 (by decide) ?_
        refine g_callSIe (F := [(r, .inl (gy G 0, 271, .inl g))]) (ws2 := [(r, .inl (gy G 0, 271, .inl g))]) E (mX8_bookingAt G y 0 (by omega) (by omega)) gX8_bookIn_X8_bookingAt rfl hnX8_bookingAt ⟨Nat.le_of_ble_eq_true rfl, Nat.le_of_ble_eq_true rfl⟩ (gPerm_ix [0] rfl rfl) rfl rfl (Nat.le_of_ble_eq_true rfl) dX8_bookIn_66 ⟨Nat.le_of_ble_eq_true rfl, Nat.le_of_ble_eq_true rfl⟩ (gPerm_ix [0] rfl rfl) ?_
        refine g_iload_n E dX8_bookIn_69 rfl 3 rfl ?_
        refine g_iast (ws' := [(r, .inl (gy G 0, 271, .inl (upd g (93 + 7 * y + 0) (nI d))))]) (j := 93 + 7 * y + 0) (y := nI d) E 0 rfl (g_in (e := 93 + 7 * y + 0) (by omega) rfl) (nI_clamp (n := 93 + 7 * y + 0) (by omega)) rfl rfl dX8_bookIn_70 ?_
        refine g_aload_n E dX8_bookIn_71 rfl 0 rfl ?_
        refine g_iload E dX8_bookIn_72 6 rfl ?_
        refine g_iconst (v := 1) E dX8_bookIn_74 (by decide) ?_
        refine g_callSIe (F := [(r, .inl (gy G 0, 271, .inl (upd g (93 + 7 * y + 0) (nI d))))]) (ws2 := [(r, .inl (gy G 0, 271, .inl (upd g (93 + 7 * y + 0) (nI d))))]) E (mX8_bookingAt G y 1 (by omega) (by omega)) gX8_bookIn_X8_bookingAt rfl hnX8_bookingAt ⟨Nat.le_of_ble_eq_true rfl, Nat.le_of_ble_eq_true rfl⟩ (gPerm_ix [0] rfl rfl) rfl rfl (Nat.le_of_ble_eq_true rfl) dX8_bookIn_75 ⟨Nat.le_of_ble_eq_true rfl, Nat.le_of_ble_eq_true rfl⟩ (gPerm_ix [0] rfl rfl) ?_
        refine g_iload E dX8_bookIn_78 4 rfl ?_
        refine g_iast (ws' := [(r, .inl (gy G 0, 271, .inl (upd (upd g (93 + 7 * y + 0) (nI d)) (93 + 7 * y + 1) (nI h))))]) (j := 93 + 7 * y + 1) (y := nI h) E 0 rfl (g_in (e := 93 + 7 * y + 1) (by omega) rfl) (nI_clamp (n := 93 + 7 * y + 1) (by omega)) rfl rfl dX8_bookIn_80 ?_
        refine g_aload_n E dX8_bookIn_81 rfl 0 rfl ?_
        refine g_iload E dX8_bookIn_82 6 rfl ?_
        refine g_iconst (v := 2) E dX8_bookIn_84 (by decide) ?_
        refine g_callSIe (F := [(r, .inl (gy G 0, 271, .inl (upd (upd g (93 + 7 * y + 0) (nI d)) (93 + 7 * y + 1) (nI h))))]) (ws2 := [(r, .inl (gy G 0, 271, .inl (upd (upd g (93 + 7 * y + 0) (nI d)) (93 + 7 * y + 1) (nI h))))]) E (mX8_bookingAt G y 2 (by omega) (by omega)) gX8_bookIn_X8_bookingAt rfl hnX8_bookingAt ⟨Nat.le_of_ble_eq_true rfl, Nat.le_of_ble_eq_true rfl⟩ (gPerm_ix [0] rfl rfl) rfl rfl (Nat.le_of_ble_eq_true rfl) dX8_bookIn_85 ⟨Nat.le_of_ble_eq_true rfl, Nat.le_of_ble_eq_true rfl⟩ (gPerm_ix [0] rfl rfl) ?_
        refine g_iload E dX8_bookIn_88 5 rfl ?_
        refine g_iast (ws' := [(r, .inl (gy G 0, 271, .inl (upd (upd (upd g (93 + 7 * y + 0) (nI d)) (93 + 7 * y + 1) (nI h)) (93 + 7 * y + 2) (nI t))))]) (j := 93 + 7 * y + 2) (y := nI t) E 0 rfl (g_in (e := 93 + 7 * y + 2) (by omega) rfl) (nI_clamp (n := 93 + 7 * y + 2) (by omega)) rfl rfl dX8_bookIn_90 ?_
        refine g_aload_n E dX8_bookIn_91 rfl 0 rfl ?_
        refine g_iload E dX8_bookIn_92 6 rfl ?_
        refine g_iconst (v := 3) E dX8_bookIn_94 (by decide) ?_
        refine g_callSIe (F := [(r, .inl (gy G 0, 271, .inl (upd (upd (upd g (93 + 7 * y + 0) (nI d)) (93 + 7 * y + 1) (nI h)) (93 + 7 * y + 2) (nI t))))]) (ws2 := [(r, .inl (gy G 0, 271, .inl (upd (upd (upd g (93 + 7 * y + 0) (nI d)) (93 + 7 * y + 1) (nI h)) (93 + 7 * y + 2) (nI t))))]) E (mX8_bookingAt G y 3 (by omega) (by omega)) gX8_bookIn_X8_bookingAt rfl hnX8_bookingAt ⟨Nat.le_of_ble_eq_true rfl, Nat.le_of_ble_eq_true rfl⟩ (gPerm_ix [0] rfl rfl) rfl rfl (Nat.le_of_ble_eq_true rfl) dX8_bookIn_95 ⟨Nat.le_of_ble_eq_true rfl, Nat.le_of_ble_eq_true rfl⟩ (gPerm_ix [0] rfl rfl) ?_
        refine g_iload_n E dX8_bookIn_98 rfl 1 rfl ?_
        refine g_iast (ws' := [(r, .inl (gy G 0, 271, .inl (upd (upd (upd (upd g (93 + 7 * y + 0) (nI d)) (93 + 7 * y + 1) (nI h)) (93 + 7 * y + 2) (nI t)) (93 + 7 * y + 3) (nI p))))]) (j := 93 + 7 * y + 3) (y := nI p) E 0 rfl (g_in (e := 93 + 7 * y + 3) (by omega) rfl) (nI_clamp (n := 93 + 7 * y + 3) (by omega)) rfl rfl dX8_bookIn_99 ?_
        refine g_aload_n E dX8_bookIn_100 rfl 0 rfl ?_
        refine g_iload E dX8_bookIn_101 6 rfl ?_
        refine g_iconst (v := 4) E dX8_bookIn_103 (by decide) ?_
        refine g_callSIe (F := [(r, .inl (gy G 0, 271, .inl (upd (upd (upd (upd g (93 + 7 * y + 0) (nI d)) (93 + 7 * y + 1) (nI h)) (93 + 7 * y + 2) (nI t)) (93 + 7 * y + 3) (nI p))))]) (ws2 := [(r, .inl (gy G 0, 271, .inl (upd (upd (upd (upd g (93 + 7 * y + 0) (nI d)) (93 + 7 * y + 1) (nI h)) (93 + 7 * y + 2) (nI t)) (93 + 7 * y + 3) (nI p))))]) E (mX8_bookingAt G y 4 (by omega) (by omega)) gX8_bookIn_X8_bookingAt rfl hnX8_bookingAt ⟨Nat.le_of_ble_eq_true rfl, Nat.le_of_ble_eq_true rfl⟩ (gPerm_ix [0] rfl rfl) rfl rfl (Nat.le_of_ble_eq_true rfl) dX8_bookIn_104 ⟨Nat.le_of_ble_eq_true rfl, Nat.le_of_ble_eq_true rfl⟩ (gPerm_ix [0] rfl rfl) ?_
        refine g_iload_n E dX8_bookIn_107 rfl 2 rfl ?_
        refine g_iast (ws' := [(r, .inl (gy G 0, 271, .inl (upd (upd (upd (upd (upd g (93 + 7 * y + 0) (nI d)) (93 + 7 * y + 1) (nI h)) (93 + 7 * y + 2) (nI t)) (93 + 7 * y + 3) (nI p)) (93 + 7 * y + 4) (nI v))))]) (j := 93 + 7 * y + 4) (y := nI v) E 0 rfl (g_in (e := 93 + 7 * y + 4) (by omega) rfl) (nI_clamp (n := 93 + 7 * y + 4) (by omega)) rfl rfl dX8_bookIn_108 ?_
        refine g_aload_n E dX8_bookIn_109 rfl 0 rfl ?_
        refine g_iload E dX8_bookIn_110 6 rfl ?_
        refine g_iconst (v := 5) E dX8_bookIn_112 (by decide) ?_
        refine g_callSIe (F := [(r, .inl (gy G 0, 271, .inl (upd (upd (upd (upd (upd g (93 + 7 * y + 0) (nI d)) (93 + 7 * y + 1) (nI h)) (93 + 7 * y + 2) (nI t)) (93 + 7 * y + 3) (nI p)) (93 + 7 * y + 4) (nI v))))]) (ws2 := [(r, .inl (gy G 0, 271, .inl (upd (upd (upd (upd (upd g (93 + 7 * y + 0) (nI d)) (93 + 7 * y + 1) (nI h)) (93 + 7 * y + 2) (nI t)) (93 + 7 * y + 3) (nI p)) (93 + 7 * y + 4) (nI v))))]) E (mX8_bookingAt G y 5 (by omega) (by omega)) gX8_bookIn_X8_bookingAt rfl hnX8_bookingAt ⟨Nat.le_of_ble_eq_true rfl, Nat.le_of_ble_eq_true rfl⟩ (gPerm_ix [0] rfl rfl) rfl rfl (Nat.le_of_ble_eq_true rfl) dX8_bookIn_113 ⟨Nat.le_of_ble_eq_true rfl, Nat.le_of_ble_eq_true rfl⟩ (gPerm_ix [0] rfl rfl) ?_
        refine g_iconst (v := 0) E dX8_bookIn_116 (by decide) ?_
        refine g_iast (ws' := [(r, .inl (gy G 0, 271, .inl (upd (upd (upd (upd (upd (upd g (93 + 7 * y + 0) (nI d)) (93 + 7 * y + 1) (nI h)) (93 + 7 * y + 2) (nI t)) (93 + 7 * y + 3) (nI p)) (93 + 7 * y + 4) (nI v)) (93 + 7 * y + 5) 0)))]) (j := 93 + 7 * y + 5) (y := 0) E 0 rfl (g_in (e := 93 + 7 * y + 5) (by omega) rfl) (nI_clamp (n := 93 + 7 * y + 5) (by omega)) rfl rfl dX8_bookIn_117 ?_
        refine g_aload_n E dX8_bookIn_118 rfl 0 rfl ?_
        refine g_iload E dX8_bookIn_119 6 rfl ?_
        refine g_bipush (v := 6) E dX8_bookIn_121 (by decide) ?_
        refine g_callSIe (F := [(r, .inl (gy G 0, 271, .inl (upd (upd (upd (upd (upd (upd g (93 + 7 * y + 0) (nI d)) (93 + 7 * y + 1) (nI h)) (93 + 7 * y + 2) (nI t)) (93 + 7 * y + 3) (nI p)) (93 + 7 * y + 4) (nI v)) (93 + 7 * y + 5) 0)))]) (ws2 := [(r, .inl (gy G 0, 271, .inl (upd (upd (upd (upd (upd (upd g (93 + 7 * y + 0) (nI d)) (93 + 7 * y + 1) (nI h)) (93 + 7 * y + 2) (nI t)) (93 + 7 * y + 3) (nI p)) (93 + 7 * y + 4) (nI v)) (93 + 7 * y + 5) 0)))]) E (mX8_bookingAt G y 6 (by omega) (by omega)) gX8_bookIn_X8_bookingAt rfl hnX8_bookingAt ⟨Nat.le_of_ble_eq_true rfl, Nat.le_of_ble_eq_true rfl⟩ (gPerm_ix [0] rfl rfl) rfl rfl (Nat.le_of_ble_eq_true rfl) dX8_bookIn_123 ⟨Nat.le_of_ble_eq_true rfl, Nat.le_of_ble_eq_true rfl⟩ (gPerm_ix [0] rfl rfl) ?_
        refine g_iconst (v := 0) E dX8_bookIn_126 (by decide) ?_
        refine g_iast (ws' := [(r, .inl (gy G 0, 271, .inl (upd (upd (upd (upd (upd (upd (upd g (93 + 7 * y + 0) (nI d)) (93 + 7 * y + 1) (nI h)) (93 + 7 * y + 2) (nI t)) (93 + 7 * y + 3) (nI p)) (93 + 7 * y + 4) (nI v)) (93 + 7 * y + 5) 0) (93 + 7 * y + 6) 0)))]) (j := 93 + 7 * y + 6) (y := 0) E 0 rfl (g_in (e := 93 + 7 * y + 6) (by omega) rfl) (nI_clamp (n := 93 + 7 * y + 6) (by omega)) rfl rfl dX8_bookIn_127 ?_
        refine g_aload_n E dX8_bookIn_128 rfl 0 rfl ?_
        refine g_iconst (v := 2) E dX8_bookIn_129 (by decide) ?_
        refine g_dup2 E dX8_bookIn_130 rfl rfl ?_
        refine g_ialdN (e := 2) E 0 rfl (by omega) rfl (v := nI (sB S).length) (by rw [upd_ne (by omega), upd_ne (by omega), upd_ne (by omega), upd_ne (by omega), upd_ne (by omega), upd_ne (by omega), upd_ne (by omega), hg]; exact (gUp_out (by omega)).trans (RR_2 hRR)) dX8_bookIn_131 ?_
        refine g_iconst (v := 1) E dX8_bookIn_132 (by decide) ?_
        refine g_iaddN (a := (sB S).length) (b := 1) E dX8_bookIn_133 ?_
        refine g_iast (ws' := [(r, .inl (gy G 0, 271, .inl (upd (upd (upd (upd (upd (upd (upd (upd g (93 + 7 * y + 0) (nI d)) (93 + 7 * y + 1) (nI h)) (93 + 7 * y + 2) (nI t)) (93 + 7 * y + 3) (nI p)) (93 + 7 * y + 4) (nI v)) (93 + 7 * y + 5) 0) (93 + 7 * y + 6) 0) 2 (nI ((sB S).length + 1)))))]) (j := 2) (y := nI ((sB S).length + 1)) E 0 rfl (g_in (e := 2) (by omega) rfl) (nI_clamp (n := 2) (by omega)) rfl rfl dX8_bookIn_134 ?_
        refine g_iload E dX8_bookIn_135 5 rfl ?_
        exact RET _ _ _ _ (⟨rfl, by rw [ePl, hg]; exact RR_ins hRR hy hn24 hp hv hd hh ht4⟩) rfl dX8_bookIn_137
      · skip
        have hy0 : 0 < y := by omega
        have hy1 : y - 1 < (sB S).length := by omega
        refine g_aload_n E dX8_bookIn_19 rfl 0 rfl ?_
        refine g_iload E dX8_bookIn_20 6 rfl ?_
        refine g_iconst (v := 1) E dX8_bookIn_22 (by decide) ?_
        refine g_isubN (a := y) (b := 1) E dX8_bookIn_23 (by omega) ?_
        refine g_iload_n E dX8_bookIn_24 rfl 3 rfl ?_
        refine g_iload E dX8_bookIn_25 4 rfl ?_
        refine g_iload E dX8_bookIn_27 5 rfl ?_
        refine g_callSIe (F := []) (ws2 := [(r, .inl (gy G 0, 271, .inl g))]) E (mX8_isBehindW G r g (y - 1) d h (nI t) (bk (sB S) (y - 1)) (by omega) hd hh (by rw [hg]; exact (gUp_out (by omega)).trans (RR_B hRR hy1 (by decide))) (by rw [hg]; exact (gUp_out (by omega)).trans (RR_B hRR hy1 (by decide))) (by rw [hg]; exact (gUp_out (by omega)).trans (RR_B hRR hy1 (by decide))) (hRR.2.2.2.2.2.2.2.2.1 _ hy1 0 (by decide)).2 (hRR.2.2.2.2.2.2.2.2.1 _ hy1 1 (by decide)).2) gX8_bookIn_X8_isBehind rfl hnX8_isBehind ⟨Nat.le_of_ble_eq_true rfl, Nat.le_of_ble_eq_true rfl⟩ (gPerm_ix [0] rfl rfl) rfl rfl (Nat.le_of_ble_eq_true rfl) dX8_bookIn_29 ⟨Nat.le_of_ble_eq_true rfl, Nat.le_of_ble_eq_true rfl⟩ (gPerm_ix [0] rfl rfl) ?_
        refine g_if_eqB (tgt := 62) (P := gBhd (bk (sB S) (y - 1)) d h (nI t) = true) E dX8_bookIn_32 (by decide) (fun c6 => ?_) (fun c6 => ?_)
        · skip
          have ePl : gPlc (sB S) d h t = y := gPlc_at hy hA (Or.inr ⟨hy0, c6⟩) hso hne ht4 hb2
          refine g_aload_n E dX8_bookIn_62 rfl 0 rfl ?_
          refine g_iload E dX8_bookIn_63 6 rfl ?_
          refine g_iconst (v := 0) E dX8_bookIn_65 (by decide) ?_
          refine g_callSIe (F := [(r, .inl (gy G 0, 271, .inl g))]) (ws2 := [(r, .inl (gy G 0, 271, .inl g))]) E (mX8_bookingAt G y 0 (by omega) (by omega)) gX8_bookIn_X8_bookingAt rfl hnX8_bookingAt ⟨Nat.le_of_ble_eq_true rfl, Nat.le_of_ble_eq_true rfl⟩ (gPerm_ix [0] rfl rfl) rfl rfl (Nat.le_of_ble_eq_true rfl) dX8_bookIn_66 ⟨Nat.le_of_ble_eq_true rfl, Nat.le_of_ble_eq_true rfl⟩ (gPerm_ix [0] rfl rfl) ?_
          refine g_iload_n E dX8_bookIn_69 rfl 3 rfl ?_
          refine g_iast (ws' := [(r, .inl (gy G 0, 271, .inl (upd g (93 + 7 * y + 0) (nI d))))]) (j := 93 + 7 * y + 0) (y := nI d) E 0 rfl (g_in (e := 93 + 7 * y + 0) (by omega) rfl) (nI_clamp (n := 93 + 7 * y + 0) (by omega)) rfl rfl dX8_bookIn_70 ?_
          refine g_aload_n E dX8_bookIn_71 rfl 0 rfl ?_
          refine g_iload E dX8_bookIn_72 6 rfl ?_
          refine g_iconst (v := 1) E dX8_bookIn_74 (by decide) ?_
          refine g_callSIe (F := [(r, .inl (gy G 0, 271, .inl (upd g (93 + 7 * y + 0) (nI d))))]) (ws2 := [(r, .inl (gy G 0, 271, .inl (upd g (93 + 7 * y + 0) (nI d))))]) E (mX8_bookingAt G y 1 (by omega) (by omega)) gX8_bookIn_X8_bookingAt rfl hnX8_bookingAt ⟨Nat.le_of_ble_eq_true rfl, Nat.le_of_ble_eq_true rfl⟩ (gPerm_ix [0] rfl rfl) rfl rfl (Nat.le_of_ble_eq_true rfl) dX8_bookIn_75 ⟨Nat.le_of_ble_eq_true rfl, Nat.le_of_ble_eq_true rfl⟩ (gPerm_ix [0] rfl rfl) ?_
          refine g_iload E dX8_bookIn_78 4 rfl ?_
          refine g_iast (ws' := [(r, .inl (gy G 0, 271, .inl (upd (upd g (93 + 7 * y + 0) (nI d)) (93 + 7 * y + 1) (nI h))))]) (j := 93 + 7 * y + 1) (y := nI h) E 0 rfl (g_in (e := 93 + 7 * y + 1) (by omega) rfl) (nI_clamp (n := 93 + 7 * y + 1) (by omega)) rfl rfl dX8_bookIn_80 ?_
          refine g_aload_n E dX8_bookIn_81 rfl 0 rfl ?_
          refine g_iload E dX8_bookIn_82 6 rfl ?_
          refine g_iconst (v := 2) E dX8_bookIn_84 (by decide) ?_
          refine g_callSIe (F := [(r, .inl (gy G 0, 271, .inl (upd (upd g (93 + 7 * y + 0) (nI d)) (93 + 7 * y + 1) (nI h))))]) (ws2 := [(r, .inl (gy G 0, 271, .inl (upd (upd g (93 + 7 * y + 0) (nI d)) (93 + 7 * y + 1) (nI h))))]) E (mX8_bookingAt G y 2 (by omega) (by omega)) gX8_bookIn_X8_bookingAt rfl hnX8_bookingAt ⟨Nat.le_of_ble_eq_true rfl, Nat.le_of_ble_eq_true rfl⟩ (gPerm_ix [0] rfl rfl) rfl rfl (Nat.le_of_ble_eq_true rfl) dX8_bookIn_85 ⟨Nat.le_of_ble_eq_true rfl, Nat.le_of_ble_eq_true rfl⟩ (gPerm_ix [0] rfl rfl) ?_
          refine g_iload E dX8_bookIn_88 5 rfl ?_
          refine g_iast (ws' := [(r, .inl (gy G 0, 271, .inl (upd (upd (upd g (93 + 7 * y + 0) (nI d)) (93 + 7 * y + 1) (nI h)) (93 + 7 * y + 2) (nI t))))]) (j := 93 + 7 * y + 2) (y := nI t) E 0 rfl (g_in (e := 93 + 7 * y + 2) (by omega) rfl) (nI_clamp (n := 93 + 7 * y + 2) (by omega)) rfl rfl dX8_bookIn_90 ?_
          refine g_aload_n E dX8_bookIn_91 rfl 0 rfl ?_
          refine g_iload E dX8_bookIn_92 6 rfl ?_
          refine g_iconst (v := 3) E dX8_bookIn_94 (by decide) ?_
          refine g_callSIe (F := [(r, .inl (gy G 0, 271, .inl (upd (upd (upd g (93 + 7 * y + 0) (nI d)) (93 + 7 * y + 1) (nI h)) (93 + 7 * y + 2) (nI t))))]) (ws2 := [(r, .inl (gy G 0, 271, .inl (upd (upd (upd g (93 + 7 * y + 0) (nI d)) (93 + 7 * y + 1) (nI h)) (93 + 7 * y + 2) (nI t))))]) E (mX8_bookingAt G y 3 (by omega) (by omega)) gX8_bookIn_X8_bookingAt rfl hnX8_bookingAt ⟨Nat.le_of_ble_eq_true rfl, Nat.le_of_ble_eq_true rfl⟩ (gPerm_ix [0] rfl rfl) rfl rfl (Nat.le_of_ble_eq_true rfl) dX8_bookIn_95 ⟨Nat.le_of_ble_eq_true rfl, Nat.le_of_ble_eq_true rfl⟩ (gPerm_ix [0] rfl rfl) ?_
          refine g_iload_n E dX8_bookIn_98 rfl 1 rfl ?_
          refine g_iast (ws' := [(r, .inl (gy G 0, 271, .inl (upd (upd (upd (upd g (93 + 7 * y + 0) (nI d)) (93 + 7 * y + 1) (nI h)) (93 + 7 * y + 2) (nI t)) (93 + 7 * y + 3) (nI p))))]) (j := 93 + 7 * y + 3) (y := nI p) E 0 rfl (g_in (e := 93 + 7 * y + 3) (by omega) rfl) (nI_clamp (n := 93 + 7 * y + 3) (by omega)) rfl rfl dX8_bookIn_99 ?_
          refine g_aload_n E dX8_bookIn_100 rfl 0 rfl ?_
          refine g_iload E dX8_bookIn_101 6 rfl ?_
          refine g_iconst (v := 4) E dX8_bookIn_103 (by decide) ?_
          refine g_callSIe (F := [(r, .inl (gy G 0, 271, .inl (upd (upd (upd (upd g (93 + 7 * y + 0) (nI d)) (93 + 7 * y + 1) (nI h)) (93 + 7 * y + 2) (nI t)) (93 + 7 * y + 3) (nI p))))]) (ws2 := [(r, .inl (gy G 0, 271, .inl (upd (upd (upd (upd g (93 + 7 * y + 0) (nI d)) (93 + 7 * y + 1) (nI h)) (93 + 7 * y + 2) (nI t)) (93 + 7 * y + 3) (nI p))))]) E (mX8_bookingAt G y 4 (by omega) (by omega)) gX8_bookIn_X8_bookingAt rfl hnX8_bookingAt ⟨Nat.le_of_ble_eq_true rfl, Nat.le_of_ble_eq_true rfl⟩ (gPerm_ix [0] rfl rfl) rfl rfl (Nat.le_of_ble_eq_true rfl) dX8_bookIn_104 ⟨Nat.le_of_ble_eq_true rfl, Nat.le_of_ble_eq_true rfl⟩ (gPerm_ix [0] rfl rfl) ?_
          refine g_iload_n E dX8_bookIn_107 rfl 2 rfl ?_
          refine g_iast (ws' := [(r, .inl (gy G 0, 271, .inl (upd (upd (upd (upd (upd g (93 + 7 * y + 0) (nI d)) (93 + 7 * y + 1) (nI h)) (93 + 7 * y + 2) (nI t)) (93 + 7 * y + 3) (nI p)) (93 + 7 * y + 4) (nI v))))]) (j := 93 + 7 * y + 4) (y := nI v) E 0 rfl (g_in (e := 93 + 7 * y + 4) (by omega) rfl) (nI_clamp (n := 93 + 7 * y + 4) (by omega)) rfl rfl dX8_bookIn_108 ?_
          refine g_aload_n E dX8_bookIn_109 rfl 0 rfl ?_
          refine g_iload E dX8_bookIn_110 6 rfl ?_
          refine g_iconst (v := 5) E dX8_bookIn_112 (by decide) ?_
          refine g_callSIe (F := [(r, .inl (gy G 0, 271, .inl (upd (upd (upd (upd (upd g (93 + 7 * y + 0) (nI d)) (93 + 7 * y + 1) (nI h)) (93 + 7 * y + 2) (nI t)) (93 + 7 * y + 3) (nI p)) (93 + 7 * y + 4) (nI v))))]) (ws2 := [(r, .inl (gy G 0, 271, .inl (upd (upd (upd (upd (upd g (93 + 7 * y + 0) (nI d)) (93 + 7 * y + 1) (nI h)) (93 + 7 * y + 2) (nI t)) (93 + 7 * y + 3) (nI p)) (93 + 7 * y + 4) (nI v))))]) E (mX8_bookingAt G y 5 (by omega) (by omega)) gX8_bookIn_X8_bookingAt rfl hnX8_bookingAt ⟨Nat.le_of_ble_eq_true rfl, Nat.le_of_ble_eq_true rfl⟩ (gPerm_ix [0] rfl rfl) rfl rfl (Nat.le_of_ble_eq_true rfl) dX8_bookIn_113 ⟨Nat.le_of_ble_eq_true rfl, Nat.le_of_ble_eq_true rfl⟩ (gPerm_ix [0] rfl rfl) ?_
          refine g_iconst (v := 0) E dX8_bookIn_116 (by decide) ?_
          refine g_iast (ws' := [(r, .inl (gy G 0, 271, .inl (upd (upd (upd (upd (upd (upd g (93 + 7 * y + 0) (nI d)) (93 + 7 * y + 1) (nI h)) (93 + 7 * y + 2) (nI t)) (93 + 7 * y + 3) (nI p)) (93 + 7 * y + 4) (nI v)) (93 + 7 * y + 5) 0)))]) (j := 93 + 7 * y + 5) (y := 0) E 0 rfl (g_in (e := 93 + 7 * y + 5) (by omega) rfl) (nI_clamp (n := 93 + 7 * y + 5) (by omega)) rfl rfl dX8_bookIn_117 ?_
          refine g_aload_n E dX8_bookIn_118 rfl 0 rfl ?_
          refine g_iload E dX8_bookIn_119 6 rfl ?_
          refine g_bipush (v := 6) E dX8_bookIn_121 (by decide) ?_
          refine g_callSIe (F := [(r, .inl (gy G 0, 271, .inl (upd (upd (upd (upd (upd (upd g (93 + 7 * y + 0) (nI d)) (93 + 7 * y + 1) (nI h)) (93 + 7 * y + 2) (nI t)) (93 + 7 * y + 3) (nI p)) (93 + 7 * y + 4) (nI v)) (93 + 7 * y + 5) 0)))]) (ws2 := [(r, .inl (gy G 0, 271, .inl (upd (upd (upd (upd (upd (upd g (93 + 7 * y + 0) (nI d)) (93 + 7 * y + 1) (nI h)) (93 + 7 * y + 2) (nI t)) (93 + 7 * y + 3) (nI p)) (93 + 7 * y + 4) (nI v)) (93 + 7 * y + 5) 0)))]) E (mX8_bookingAt G y 6 (by omega) (by omega)) gX8_bookIn_X8_bookingAt rfl hnX8_bookingAt ⟨Nat.le_of_ble_eq_true rfl, Nat.le_of_ble_eq_true rfl⟩ (gPerm_ix [0] rfl rfl) rfl rfl (Nat.le_of_ble_eq_true rfl) dX8_bookIn_123 ⟨Nat.le_of_ble_eq_true rfl, Nat.le_of_ble_eq_true rfl⟩ (gPerm_ix [0] rfl rfl) ?_
          refine g_iconst (v := 0) E dX8_bookIn_126 (by decide) ?_
          refine g_iast (ws' := [(r, .inl (gy G 0, 271, .inl (upd (upd (upd (upd (upd (upd (upd g (93 + 7 * y + 0) (nI d)) (93 + 7 * y + 1) (nI h)) (93 + 7 * y + 2) (nI t)) (93 + 7 * y + 3) (nI p)) (93 + 7 * y + 4) (nI v)) (93 + 7 * y + 5) 0) (93 + 7 * y + 6) 0)))]) (j := 93 + 7 * y + 6) (y := 0) E 0 rfl (g_in (e := 93 + 7 * y + 6) (by omega) rfl) (nI_clamp (n := 93 + 7 * y + 6) (by omega)) rfl rfl dX8_bookIn_127 ?_
          refine g_aload_n E dX8_bookIn_128 rfl 0 rfl ?_
          refine g_iconst (v := 2) E dX8_bookIn_129 (by decide) ?_
          refine g_dup2 E dX8_bookIn_130 rfl rfl ?_
          refine g_ialdN (e := 2) E 0 rfl (by omega) rfl (v := nI (sB S).length) (by rw [upd_ne (by omega), upd_ne (by omega), upd_ne (by omega), upd_ne (by omega), upd_ne (by omega), upd_ne (by omega), upd_ne (by omega), hg]; exact (gUp_out (by omega)).trans (RR_2 hRR)) dX8_bookIn_131 ?_
          refine g_iconst (v := 1) E dX8_bookIn_132 (by decide) ?_
          refine g_iaddN (a := (sB S).length) (b := 1) E dX8_bookIn_133 ?_
          refine g_iast (ws' := [(r, .inl (gy G 0, 271, .inl (upd (upd (upd (upd (upd (upd (upd (upd g (93 + 7 * y + 0) (nI d)) (93 + 7 * y + 1) (nI h)) (93 + 7 * y + 2) (nI t)) (93 + 7 * y + 3) (nI p)) (93 + 7 * y + 4) (nI v)) (93 + 7 * y + 5) 0) (93 + 7 * y + 6) 0) 2 (nI ((sB S).length + 1)))))]) (j := 2) (y := nI ((sB S).length + 1)) E 0 rfl (g_in (e := 2) (by omega) rfl) (nI_clamp (n := 2) (by omega)) rfl rfl dX8_bookIn_134 ?_
          refine g_iload E dX8_bookIn_135 5 rfl ?_
          exact RET _ _ _ _ (⟨rfl, by rw [ePl, hg]; exact RR_ins hRR hy hn24 hp hv hd hh ht4⟩) rfl dX8_bookIn_137
        · skip
          refine g_aload_n E dX8_bookIn_35 rfl 0 rfl ?_
          refine g_iload E dX8_bookIn_36 6 rfl ?_
          refine g_iconst (v := 1) E dX8_bookIn_38 (by decide) ?_
          refine g_isubN (a := y) (b := 1) E dX8_bookIn_39 (by omega) ?_
          refine g_iconst (v := 0) E dX8_bookIn_40 (by decide) ?_
          refine g_callSIe (F := [(r, .inl (gy G 0, 271, .inl g))]) (ws2 := [(r, .inl (gy G 0, 271, .inl g))]) E (mX8_bookingAt G (y - 1) 0 (by omega) (by omega)) gX8_bookIn_X8_bookingAt rfl hnX8_bookingAt ⟨Nat.le_of_ble_eq_true rfl, Nat.le_of_ble_eq_true rfl⟩ (gPerm_ix [0] rfl rfl) rfl rfl (Nat.le_of_ble_eq_true rfl) dX8_bookIn_41 ⟨Nat.le_of_ble_eq_true rfl, Nat.le_of_ble_eq_true rfl⟩ (gPerm_ix [0] rfl rfl) ?_
          refine g_aload_n E dX8_bookIn_44 rfl 0 rfl ?_
          refine g_iload E dX8_bookIn_45 6 rfl ?_
          refine g_iconst (v := 0) E dX8_bookIn_47 (by decide) ?_
          refine g_callSIe (F := [(r, .inl (gy G 0, 271, .inl g))]) (ws2 := [(r, .inl (gy G 0, 271, .inl g))]) E (mX8_bookingAt G y 0 (by omega) (by omega)) gX8_bookIn_X8_bookingAt rfl hnX8_bookingAt ⟨Nat.le_of_ble_eq_true rfl, Nat.le_of_ble_eq_true rfl⟩ (gPerm_ix [0] rfl rfl) rfl rfl (Nat.le_of_ble_eq_true rfl) dX8_bookIn_48 ⟨Nat.le_of_ble_eq_true rfl, Nat.le_of_ble_eq_true rfl⟩ (gPerm_ix [0] rfl rfl) ?_
          refine g_bipush (v := 7) E dX8_bookIn_51 (by decide) ?_
          refine g_callSVe (F := []) (ws2 := [(r, .inl (gy G 0, 271, .inl (va_cpy g g (93 + 7 * (y - 1) + 0) (93 + 7 * y + 0) 7)))]) E (mX8_copyA G r g (93 + 7 * (y - 1) + 0) (93 + 7 * y + 0) 7 (by omega) (by omega) (by omega)) gX8_bookIn_X8_copy rfl hnX8_copy ⟨Nat.le_of_ble_eq_true rfl, Nat.le_of_ble_eq_true rfl⟩ (gPerm_ix [0] rfl rfl) rfl rfl (Nat.le_of_ble_eq_true rfl) dX8_bookIn_53 ⟨Nat.le_of_ble_eq_true rfl, Nat.le_of_ble_eq_true rfl⟩ (gPerm_ix [0] rfl rfl) ?_
          refine g_iinc (lv' := [(6, .int (nI (y - 1))), (0, .ref r), (1, .int (nI p)), (2, .int (nI v)), (3, .int (nI d)), (4, .int (nI h)), (5, .int (nI t))]) E dX8_bookIn_56 6 rfl (g_dec _ (by omega)) (by decide) rfl ?_
          refine g_goto (tgt := 14) E dX8_bookIn_59 (by decide) ?_
          refine g_lv [1, 2, 3, 4, 5, 6, 0] rfl ?_
          exact ih3  (y - 1) _ (by omega) (by rw [hg]; exact gUp_st hy0 hy) (fun j h1 h2 => if c9 : y ≤ j then hA j c9 h2 else (show j = y - 1 by omega) ▸ c6) (by omega)
  refine g_lv [2, 3, 4, 5, 6, 1, 0] rfl ?_
  exact loop1 _ _ _ (Nat.le_refl _) (by rw [Nat.sub_self, Nat.mul_zero, gCpy_0]) (fun j h1 h2 => absurd h2 (Nat.not_lt.mpr h1)) (Nat.lt_succ_self _)
