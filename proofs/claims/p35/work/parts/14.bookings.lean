set_option maxHeartbeats 4000000 in
set_option maxRecDepth 100000 in
theorem mX7_hasBit (G : gG) (x i : Int32)  : CIe G yX7_hasBit wsX7_hasBit 0 0 [.int x, .int i] [] (if gHb x i = true then 1 else 0) [] 0 0 := by
  refine g_enterIe (ty := .boolean) RX7 rfl (by decide) rfl (Nat.le_of_ble_eq_true rfl) ?_
  intro V E RET
  refine g_iload_n E dX7_hasBit_0 rfl 0 rfl ?_
  refine g_iload_n E dX7_hasBit_1 rfl 1 rfl ?_
  refine g_ishr E dX7_hasBit_2 ?_
  refine g_iconst (v := 1) E dX7_hasBit_3 (by decide) ?_
  refine g_iand E dX7_hasBit_4 ?_
  refine g_iconst (v := 1) E dX7_hasBit_5 (by decide) ?_
  refine g_icmp_ne (tgt := 13) E dX7_hasBit_6 (by decide) (fun c1 => ?_) (fun c1 => ?_)
  · skip
    refine g_iconst (v := 0) E dX7_hasBit_13 (by decide) ?_
    exact RET _ _ _ () (by simp [gHb, c1]) rfl dX7_hasBit_14
  · skip
    refine g_iconst (v := 1) E dX7_hasBit_9 (by decide) ?_
    refine g_goto (tgt := 14) E dX7_hasBit_10 (by decide) ?_
    exact RET _ _ _ () (by simp [gHb, c1]) rfl dX7_hasBit_14
set_option maxHeartbeats 4000000 in
set_option maxRecDepth 100000 in
theorem mX7_withBit (G : gG) (x i b : Int32)  : CIe G yX7_withBit wsX7_withBit 0 0 [.int x, .int i, .int b] [] (gWb x i b) [] 0 0 := by
  refine g_enterIe (ty := .int) RX7 rfl (by decide) rfl (Nat.le_of_ble_eq_true rfl) ?_
  intro V E RET
  refine g_iload_n E dX7_withBit_0 rfl 2 rfl ?_
  refine g_if_eq (tgt := 12) E dX7_withBit_1 (by decide) (fun c1 => ?_) (fun c1 => ?_)
  · skip
    refine g_iload_n E dX7_withBit_12 rfl 0 rfl ?_
    refine g_iconst (v := 1) E dX7_withBit_13 (by decide) ?_
    refine g_iload_n E dX7_withBit_14 rfl 1 rfl ?_
    refine g_ishl E dX7_withBit_15 ?_
    refine g_iconst (v := (-1)) E dX7_withBit_16 (by decide) ?_
    refine g_ixor E dX7_withBit_17 ?_
    refine g_iand E dX7_withBit_18 ?_
    exact RET _ _ _ () (by simp only [gWb]; first | rw [if_pos c1] | rw [if_neg c1]) rfl dX7_withBit_19
  · skip
    refine g_iload_n E dX7_withBit_4 rfl 0 rfl ?_
    refine g_iconst (v := 1) E dX7_withBit_5 (by decide) ?_
    refine g_iload_n E dX7_withBit_6 rfl 1 rfl ?_
    refine g_ishl E dX7_withBit_7 ?_
    refine g_ior E dX7_withBit_8 ?_
    refine g_goto (tgt := 19) E dX7_withBit_9 (by decide) ?_
    exact RET _ _ _ () (by simp only [gWb]; first | rw [if_pos c1] | rw [if_neg c1]) rfl dX7_withBit_19
set_option maxHeartbeats 4000000 in
set_option maxRecDepth 100000 in
theorem mX7_isBetween (G : gG) (x lo hi : Int32)  : CIe G yX7_isBetween wsX7_isBetween 0 0 [.int x, .int lo, .int hi] [] (if (¬ x < lo ∧ ¬ hi < x) then 1 else 0) [] 0 0 := by
  refine g_enterIe (ty := .boolean) RX7 rfl (by decide) rfl (Nat.le_of_ble_eq_true rfl) ?_
  intro V E RET
  refine g_iload_n E dX7_isBetween_0 rfl 0 rfl ?_
  refine g_iload_n E dX7_isBetween_1 rfl 1 rfl ?_
  refine g_icmp_lt (tgt := 14) E dX7_isBetween_2 (by decide) (fun c1 => ?_) (fun c1 => ?_)
  · skip
    refine g_iconst (v := 0) E dX7_isBetween_14 (by decide) ?_
    exact RET _ _ _ () (by simp [c1]) rfl dX7_isBetween_15
  · skip
    refine g_iload_n E dX7_isBetween_5 rfl 0 rfl ?_
    refine g_iload_n E dX7_isBetween_6 rfl 2 rfl ?_
    refine g_icmp_gt (tgt := 14) E dX7_isBetween_7 (by decide) (fun c2 => ?_) (fun c2 => ?_)
    · skip
      refine g_iconst (v := 0) E dX7_isBetween_14 (by decide) ?_
      exact RET _ _ _ () (by simp [c1, c2]) rfl dX7_isBetween_15
    · skip
      refine g_iconst (v := 1) E dX7_isBetween_10 (by decide) ?_
      refine g_goto (tgt := 15) E dX7_isBetween_11 (by decide) ?_
      exact RET _ _ _ () (by simp [c1, c2]) rfl dX7_isBetween_15
set_option maxHeartbeats 4000000 in
set_option maxRecDepth 100000 in
theorem mX0_has (G : gG) (h0 h1 : Nat) (bs : List (Nat → Nat)) (gb : Nat → Int32) (k : Int32) (hn : bs.length ≤ 24) : CIe G yX0_has wsX0_has 0 0 [.ref h0, .int k] [(h0, .inr (1, [.int (nI bs.length), .ref h1])), (h1, .inl (gy G 0, 144, .inl gb))] (if (¬ k < 0 ∧ ¬ nI bs.length ≤ k) then 1 else 0) [(h0, .inr (1, [.int (nI bs.length), .ref h1])), (h1, .inl (gy G 0, 144, .inl gb))] 0 0 := by
  refine g_enterIe (ty := .boolean) RX0 rfl (by decide) rfl (Nat.le_of_ble_eq_true rfl) ?_
  intro V E RET
  refine g_iload_n E dX0_has_0 rfl 1 rfl ?_
  refine g_if_lt (tgt := 22) E dX0_has_1 (by decide) (fun c1 => ?_) (fun c1 => ?_)
  · skip
    refine g_iconst (v := 0) E dX0_has_22 (by decide) ?_
    exact RET _ _ _ () (by simp [c1]) rfl dX0_has_23
  · skip
    refine g_iload_n E dX0_has_4 rfl 1 rfl ?_
    refine g_aload_n E dX0_has_5 rfl 0 rfl ?_
    refine g_get E uX0_has_RX0 0 rfl rfl 0 (by decide) kX0_has_15 rfl rfl dX0_has_6 ?_
    refine g_icmp_ge (tgt := 22) E dX0_has_9 (by decide) (fun c2 => ?_) (fun c2 => ?_)
    · skip
      refine g_iconst (v := 0) E dX0_has_22 (by decide) ?_
      exact RET _ _ _ () (by simp [c1, c2]) rfl dX0_has_23
    · skip
      refine g_iload_n E dX0_has_12 rfl 1 rfl ?_
      refine g_bipush (v := 24) E dX0_has_13 (by decide) ?_
      refine g_icmp_ge (tgt := 22) E dX0_has_15 (by decide) (fun c3 => ?_) (fun c3 => ?_)
      · exfalso
        exact c2 (Int32.le_trans ((nI_leI (a := bs.length) (b := 24) (by omega) (by omega)).mpr hn) c3)
      · skip
        refine g_iconst (v := 1) E dX0_has_18 (by decide) ?_
        refine g_goto (tgt := 23) E dX0_has_19 (by decide) ?_
        exact RET _ _ _ () (by simp [c1, c2, c3]) rfl dX0_has_23
set_option maxHeartbeats 4000000 in
set_option maxRecDepth 100000 in
theorem mX0_isFull (G : gG) (h0 h1 : Nat) (bs : List (Nat → Nat)) (gb : Nat → Int32) (hn : bs.length ≤ 24) : CIe G yX0_isFull wsX0_isFull 0 0 [.ref h0] [(h0, .inr (1, [.int (nI bs.length), .ref h1])), (h1, .inl (gy G 0, 144, .inl gb))] (if (24 ≤ bs.length) then 1 else 0) [(h0, .inr (1, [.int (nI bs.length), .ref h1])), (h1, .inl (gy G 0, 144, .inl gb))] 0 0 := by
  refine g_enterIe (ty := .boolean) RX0 rfl (by decide) rfl (Nat.le_of_ble_eq_true rfl) ?_
  intro V E RET
  refine g_aload_n E dX0_isFull_0 rfl 0 rfl ?_
  refine g_get E uX0_isFull_RX0 0 rfl rfl 0 (by decide) kX0_isFull_15 rfl rfl dX0_isFull_1 ?_
  refine g_bipush (v := 24) E dX0_isFull_4 (by decide) ?_
  refine g_icmp_ltN (tgt := 13) (a := bs.length) (b := 24) E dX0_isFull_6 (by decide) (by omega) (by omega) (fun c1 => ?_) (fun c1 => ?_)
  · skip
    refine g_iconst (v := 0) E dX0_isFull_13 (by decide) ?_
    exact RET _ _ _ () (by simp [c1]) rfl dX0_isFull_14
  · skip
    refine g_iconst (v := 1) E dX0_isFull_9 (by decide) ?_
    refine g_goto (tgt := 14) E dX0_isFull_10 (by decide) ?_
    exact RET _ _ _ () (by simp [c1]) rfl dX0_isFull_14
set_option maxHeartbeats 4000000 in
set_option maxRecDepth 100000 in
theorem mX0_at (G : gG) (h0 h1 : Nat) (bs : List (Nat → Nat)) (gb : Nat → Int32) (K f : Nat) (hn : bs.length ≤ 24) (hR : RB bs gb) (hK : K < bs.length) (hf : f < 6) : CIe G yX0_at wsX0_at 1 21 [.ref h0, .int (nI K), .int (nI f)] [(h0, .inr (1, [.int (nI bs.length), .ref h1])), (h1, .inl (gy G 0, 144, .inl gb))] (nI (bk bs K f)) [(h0, .inr (1, [.int (nI bs.length), .ref h1])), (h1, .inl (gy G 0, 144, .inl gb))] 0 0 := by
  refine g_enterIe (ty := .int) RX0 rfl (by decide) rfl (Nat.le_of_ble_eq_true rfl) ?_
  intro V E RET
  refine g_aload_n E dX0_at_0 rfl 0 rfl ?_
  refine g_iload_n E dX0_at_1 rfl 1 rfl ?_
  refine g_callVIe (F := []) (ws2 := [(h0, .inr (1, [.int (nI bs.length), .ref h1])), (h1, .inl (gy G 0, 144, .inl gb))]) E (g_resI (gHas_in (by omega) (by omega)) (mX0_has G h0 h1 bs gb (nI K) hn)) gX0_at_X0_has rfl hdX0_has ⟨Nat.le_of_ble_eq_true rfl, Nat.le_of_ble_eq_true rfl⟩ 1 0 rfl rfl rfl (gPerm_ix [0, 1] rfl rfl) rfl rfl (Nat.le_of_ble_eq_true rfl) dX0_at_2 ⟨Nat.le_of_ble_eq_true rfl, Nat.le_of_ble_eq_true rfl⟩ (gPerm_ix [0, 1] rfl rfl) ?_
  refine g_if_eq (tgt := 32) E dX0_at_5 (by decide) (fun c => absurd c (by decide)) (fun _ => ?_)
  refine g_iload_n E dX0_at_8 rfl 2 rfl ?_
  refine g_if_ltN (tgt := 32) (a := f) E dX0_at_9 (by decide) (by omega) ?_
  refine g_iload_n E dX0_at_12 rfl 2 rfl ?_
  refine g_bipush (v := 6) E dX0_at_13 (by decide) ?_
  refine g_icmp_geN (tgt := 32) (a := f) (b := 6) E dX0_at_15 (by decide) (by omega) (by omega) (fun c1 => ?_) (fun c1 => ?_)
  · exfalso
    omega
  · skip
    refine g_aload_n E dX0_at_18 rfl 0 rfl ?_
    refine g_get E uX0_at_RX0 0 rfl rfl 1 (by decide) kX0_at_11 rfl rfl dX0_at_19 ?_
    refine g_bipush (v := 6) E dX0_at_22 (by decide) ?_
    refine g_iload_n E dX0_at_24 rfl 1 rfl ?_
    refine g_imulN (a := 6) (b := K) E dX0_at_25 ?_
    refine g_iload_n E dX0_at_26 rfl 2 rfl ?_
    refine g_iaddN (a := 6 * K) (b := f) E dX0_at_27 ?_
    refine g_ialdN (e := 6 * K + f) E 1 rfl (by omega) rfl (v := nI (bk bs K f)) ((hR K hK f hf).1) dX0_at_28 ?_
    refine g_goto (tgt := 33) E dX0_at_29 (by decide) ?_
    exact RET _ _ _ () (rfl) rfl dX0_at_33
set_option maxHeartbeats 4000000 in
set_option maxRecDepth 100000 in
theorem mX0_putMinutes (G : gG) (h0 h1 : Nat) (bs : List (Nat → Nat)) (gb : Nat → Int32) (K : Nat) (m : Int32) (hn : bs.length ≤ 24) (hK : K < bs.length) : CVe G yX0_putMinutes wsX0_putMinutes 1 21 [.ref h0, .int (nI K), .int m] [(h0, .inr (1, [.int (nI bs.length), .ref h1])), (h1, .inl (gy G 0, 144, .inl gb))]  [(h0, .inr (1, [.int (nI bs.length), .ref h1])), (h1, .inl (gy G 0, 144, .inl (upd gb (6 * K + 5) m)))] 0 0 := by
  refine g_enterVe RX0 rfl (by decide) rfl (Nat.le_of_ble_eq_true rfl) ?_
  intro V E RET
  refine g_aload_n E dX0_putMinutes_0 rfl 0 rfl ?_
  refine g_iload_n E dX0_putMinutes_1 rfl 1 rfl ?_
  refine g_callVIe (F := []) (ws2 := [(h0, .inr (1, [.int (nI bs.length), .ref h1])), (h1, .inl (gy G 0, 144, .inl gb))]) E (g_resI (gHas_in (by omega) (by omega)) (mX0_has G h0 h1 bs gb (nI K) hn)) gX0_putMinutes_X0_has rfl hdX0_has ⟨Nat.le_of_ble_eq_true rfl, Nat.le_of_ble_eq_true rfl⟩ 1 0 rfl rfl rfl (gPerm_ix [0, 1] rfl rfl) rfl rfl (Nat.le_of_ble_eq_true rfl) dX0_putMinutes_2 ⟨Nat.le_of_ble_eq_true rfl, Nat.le_of_ble_eq_true rfl⟩ (gPerm_ix [0, 1] rfl rfl) ?_
  refine g_if_eq (tgt := 20) E dX0_putMinutes_5 (by decide) (fun c => absurd c (by decide)) (fun _ => ?_)
  refine g_aload_n E dX0_putMinutes_8 rfl 0 rfl ?_
  refine g_get E uX0_putMinutes_RX0 0 rfl rfl 1 (by decide) kX0_putMinutes_11 rfl rfl dX0_putMinutes_9 ?_
  refine g_bipush (v := 6) E dX0_putMinutes_12 (by decide) ?_
  refine g_iload_n E dX0_putMinutes_14 rfl 1 rfl ?_
  refine g_imulN (a := 6) (b := K) E dX0_putMinutes_15 ?_
  refine g_iconst (v := 5) E dX0_putMinutes_16 (by decide) ?_
  refine g_iaddN (a := 6 * K) (b := 5) E dX0_putMinutes_17 ?_
  refine g_iload_n E dX0_putMinutes_18 rfl 2 rfl ?_
  refine g_iast (ws' := [(h0, .inr (1, [.int (nI bs.length), .ref h1])), (h1, .inl (gy G 0, 144, .inl (upd gb (6 * K + 5) m)))]) (j := 6 * K + 5) (y := m) E 1 rfl (g_in (by omega) rfl) (nI_clamp (by omega)) rfl rfl dX0_putMinutes_19 ?_
  exact RET _ _ () (trivial) dX0_putMinutes_20
set_option maxHeartbeats 4000000 in
set_option maxRecDepth 100000 in
theorem mX0_isAhead (G : gG) (h0 h1 : Nat) (bs : List (Nat → Nat)) (gb : Nat → Int32) (K d h t : Nat) (hn : bs.length ≤ 24) (hR : RB bs gb) (hK : K < bs.length) (hd : d < 1073741824) (hh : h < 1073741824) (ht : t < 1073741824) : CIe G yX0_isAhead wsX0_isAhead 0 0 [.ref h0, .int (nI K), .int (nI d), .int (nI h), .int (nI t)] [(h0, .inr (1, [.int (nI bs.length), .ref h1])), (h1, .inl (gy G 0, 144, .inl gb))] (if gKlt d h t (bk bs K) = true then 1 else 0) [(h0, .inr (1, [.int (nI bs.length), .ref h1])), (h1, .inl (gy G 0, 144, .inl gb))] 0 0 := by
  refine g_enterIe (ty := .boolean) RX0 rfl (by decide) rfl (Nat.le_of_ble_eq_true rfl) ?_
  intro V E RET
  have b0 := (hR K hK 0 (by decide)).2
  have b1 := (hR K hK 1 (by decide)).2
  have b2 := (hR K hK 2 (by decide)).2
  refine g_iload_n E dX0_isAhead_0 rfl 1 rfl ?_
  refine g_if_ltN (tgt := 10) (a := K) E dX0_isAhead_1 (by decide) (by omega) ?_
  refine g_iload_n E dX0_isAhead_4 rfl 1 rfl ?_
  refine g_bipush (v := 24) E dX0_isAhead_5 (by decide) ?_
  refine g_icmp_ltN (tgt := 12) (a := K) (b := 24) E dX0_isAhead_7 (by decide) (by omega) (by omega) (fun c1 => ?_) (fun c1 => ?_)
  · skip
    refine g_bipush (v := 6) E dX0_isAhead_12 (by decide) ?_
    refine g_iload_n E dX0_isAhead_14 rfl 1 rfl ?_
    refine g_imulN (a := 6) (b := K) E dX0_isAhead_15 ?_
    refine g_istore (lv' := [(5, .int (nI (6 * K))), (0, .ref h0), (1, .int (nI K)), (2, .int (nI d)), (3, .int (nI h)), (4, .int (nI t))]) E dX0_isAhead_16 (by decide) rfl ?_
    refine g_aload_n E dX0_isAhead_18 rfl 1 rfl ?_
    refine g_get E uX0_isAhead_RX0 0 rfl rfl 1 (by decide) kX0_isAhead_11 rfl rfl dX0_isAhead_19 ?_
    refine g_iload E dX0_isAhead_22 0 rfl ?_
    refine g_iconst (v := 0) E dX0_isAhead_24 (by decide) ?_
    refine g_iaddN (a := 6 * K) (b := 0) E dX0_isAhead_25 ?_
    refine g_ialdN (e := 6 * K + 0) E 1 rfl (by omega) rfl (v := nI (bk bs K 0)) ((hR K hK 0 (by decide)).1) dX0_isAhead_26 ?_
    refine g_iload_n E dX0_isAhead_27 rfl 3 rfl ?_
    refine g_icmp_eqN (tgt := 50) (a := bk bs K 0) (b := d) E dX0_isAhead_28 (by decide) (by omega) (by omega) (fun c2 => ?_) (fun c2 => ?_)
    · skip
      refine g_aload_n E dX0_isAhead_50 rfl 1 rfl ?_
      refine g_get E uX0_isAhead_RX0 0 rfl rfl 1 (by decide) kX0_isAhead_11 rfl rfl dX0_isAhead_51 ?_
      refine g_iload E dX0_isAhead_54 0 rfl ?_
      refine g_iconst (v := 1) E dX0_isAhead_56 (by decide) ?_
      refine g_iaddN (a := 6 * K) (b := 1) E dX0_isAhead_57 ?_
      refine g_ialdN (e := 6 * K + 1) E 1 rfl (by omega) rfl (v := nI (bk bs K 1)) ((hR K hK 1 (by decide)).1) dX0_isAhead_58 ?_
      refine g_iload_n E dX0_isAhead_59 rfl 4 rfl ?_
      refine g_icmp_eqN (tgt := 82) (a := bk bs K 1) (b := h) E dX0_isAhead_60 (by decide) (by omega) (by omega) (fun c3 => ?_) (fun c3 => ?_)
      · skip
        refine g_aload_n E dX0_isAhead_82 rfl 1 rfl ?_
        refine g_get E uX0_isAhead_RX0 0 rfl rfl 1 (by decide) kX0_isAhead_11 rfl rfl dX0_isAhead_83 ?_
        refine g_iload E dX0_isAhead_86 0 rfl ?_
        refine g_iconst (v := 2) E dX0_isAhead_88 (by decide) ?_
        refine g_iaddN (a := 6 * K) (b := 2) E dX0_isAhead_89 ?_
        refine g_ialdN (e := 6 * K + 2) E 1 rfl (by omega) rfl (v := nI (bk bs K 2)) ((hR K hK 2 (by decide)).1) dX0_isAhead_90 ?_
        refine g_iload E dX0_isAhead_91 5 rfl ?_
        refine g_icmp_geN (tgt := 100) (a := bk bs K 2) (b := t) E dX0_isAhead_93 (by decide) (by omega) (by omega) (fun c4 => ?_) (fun c4 => ?_)
        · skip
          refine g_iconst (v := 0) E dX0_isAhead_100 (by decide) ?_
          exact RET _ _ _ () (by first | (simp [gKlt, c1, c2, c3, c4]; done) | (simp [gKlt]; omega)) rfl dX0_isAhead_101
        · skip
          refine g_iconst (v := 1) E dX0_isAhead_96 (by decide) ?_
          refine g_goto (tgt := 101) E dX0_isAhead_97 (by decide) ?_
          exact RET _ _ _ () (by first | (simp [gKlt, c1, c2, c3, c4]; done) | (simp [gKlt]; omega)) rfl dX0_isAhead_101
      · skip
        refine g_aload_n E dX0_isAhead_63 rfl 1 rfl ?_
        refine g_get E uX0_isAhead_RX0 0 rfl rfl 1 (by decide) kX0_isAhead_11 rfl rfl dX0_isAhead_64 ?_
        refine g_iload E dX0_isAhead_67 0 rfl ?_
        refine g_iconst (v := 1) E dX0_isAhead_69 (by decide) ?_
        refine g_iaddN (a := 6 * K) (b := 1) E dX0_isAhead_70 ?_
        refine g_ialdN (e := 6 * K + 1) E 1 rfl (by omega) rfl (v := nI (bk bs K 1)) ((hR K hK 1 (by decide)).1) dX0_isAhead_71 ?_
        refine g_iload_n E dX0_isAhead_72 rfl 4 rfl ?_
        refine g_icmp_geN (tgt := 80) (a := bk bs K 1) (b := h) E dX0_isAhead_73 (by decide) (by omega) (by omega) (fun c5 => ?_) (fun c5 => ?_)
        · skip
          refine g_iconst (v := 0) E dX0_isAhead_80 (by decide) ?_
          exact RET _ _ _ () (by first | (simp [gKlt, c1, c2, c3, c5]; done) | (simp [gKlt]; omega)) rfl dX0_isAhead_81
        · skip
          refine g_iconst (v := 1) E dX0_isAhead_76 (by decide) ?_
          refine g_goto (tgt := 81) E dX0_isAhead_77 (by decide) ?_
          exact RET _ _ _ () (by first | (simp [gKlt, c1, c2, c3, c5]; done) | (simp [gKlt]; omega)) rfl dX0_isAhead_81
    · skip
      refine g_aload_n E dX0_isAhead_31 rfl 1 rfl ?_
      refine g_get E uX0_isAhead_RX0 0 rfl rfl 1 (by decide) kX0_isAhead_11 rfl rfl dX0_isAhead_32 ?_
      refine g_iload E dX0_isAhead_35 0 rfl ?_
      refine g_iconst (v := 0) E dX0_isAhead_37 (by decide) ?_
      refine g_iaddN (a := 6 * K) (b := 0) E dX0_isAhead_38 ?_
      refine g_ialdN (e := 6 * K + 0) E 1 rfl (by omega) rfl (v := nI (bk bs K 0)) ((hR K hK 0 (by decide)).1) dX0_isAhead_39 ?_
      refine g_iload_n E dX0_isAhead_40 rfl 3 rfl ?_
      refine g_icmp_geN (tgt := 48) (a := bk bs K 0) (b := d) E dX0_isAhead_41 (by decide) (by omega) (by omega) (fun c6 => ?_) (fun c6 => ?_)
      · skip
        refine g_iconst (v := 0) E dX0_isAhead_48 (by decide) ?_
        exact RET _ _ _ () (by first | (simp [gKlt, c1, c2, c6]; done) | (simp [gKlt]; omega)) rfl dX0_isAhead_49
      · skip
        refine g_iconst (v := 1) E dX0_isAhead_44 (by decide) ?_
        refine g_goto (tgt := 49) E dX0_isAhead_45 (by decide) ?_
        exact RET _ _ _ () (by first | (simp [gKlt, c1, c2, c6]; done) | (simp [gKlt]; omega)) rfl dX0_isAhead_49
  · exfalso
    omega
set_option maxHeartbeats 4000000 in
set_option maxRecDepth 100000 in
theorem mX0_placeFor (G : gG) (h0 h1 : Nat) (bs : List (Nat → Nat)) (gb : Nat → Int32) (d h t : Nat) (hn : bs.length ≤ 24) (hR : RB bs gb) (hd : d < 1073741824) (hh : h < 1073741824) (ht : t < 1073741824) : CIe G yX0_placeFor wsX0_placeFor 1 25 [.ref h0, .int (nI d), .int (nI h), .int (nI t)] [(h0, .inr (1, [.int (nI bs.length), .ref h1])), (h1, .inl (gy G 0, 144, .inl gb))] (nI (gPlc bs d h t)) [(h0, .inr (1, [.int (nI bs.length), .ref h1])), (h1, .inl (gy G 0, 144, .inl gb))] 0 0 := by
  refine g_enterIe (ty := .int) RX0 rfl (by decide) rfl (Nat.le_of_ble_eq_true rfl) ?_
  intro V E RET
  refine g_iconst (v := 0) E dX0_placeFor_0 (by decide) ?_
  refine g_istore (lv' := [(4, .int 0), (0, .ref h0), (1, .int (nI d)), (2, .int (nI h)), (3, .int (nI t))]) E dX0_placeFor_1 (by decide) rfl ?_
  have loop1 : ∀ (n2 : Nat) (k : Nat), (k ≤ bs.length) → (∀ j, j < k → gKlt d h t (bk bs j) = true) → bs.length - k < n2 → gW V 5 0 0 [(h0, .inr (1, [.int (nI bs.length), .ref h1])), (h1, .inl (gy G 0, 144, .inl gb))] [(0, .ref h0), (1, .int (nI d)), (2, .int (nI h)), (3, .int (nI t)), (4, .int (nI k))] 3 [] := by
    intro n2
    induction n2 with
    | zero => intro k hk ha hm4; exact absurd hm4 (Nat.not_lt_zero _)
    | succ n2 ih3 =>
      intro k hk ha hm4
      refine g_iload E dX0_placeFor_3 4 rfl ?_
      refine g_aload_n E dX0_placeFor_5 rfl 0 rfl ?_
      refine g_get E uX0_placeFor_RX0 0 rfl rfl 0 (by decide) kX0_placeFor_15 rfl rfl dX0_placeFor_6 ?_
      refine g_icmp_geN (tgt := 30) (a := k) (b := bs.length) E dX0_placeFor_9 (by decide) (by omega) (by omega) (fun c5 => ?_) (fun c5 => ?_)
      · skip
        have e9 : nI k = nI (gPlc bs d h t) := by rw [gPlc_of ha hk (Or.inl (by omega))]
        refine g_iload E dX0_placeFor_30 4 rfl ?_
        exact RET _ _ _ () (e9) rfl dX0_placeFor_32
      · skip
        refine g_aload_n E dX0_placeFor_12 rfl 0 rfl ?_
        refine g_iload E dX0_placeFor_13 4 rfl ?_
        refine g_iload_n E dX0_placeFor_15 rfl 1 rfl ?_
        refine g_iload_n E dX0_placeFor_16 rfl 2 rfl ?_
        refine g_iload_n E dX0_placeFor_17 rfl 3 rfl ?_
        refine g_callVIe (F := []) (ws2 := [(h0, .inr (1, [.int (nI bs.length), .ref h1])), (h1, .inl (gy G 0, 144, .inl gb))]) E (mX0_isAhead G h0 h1 bs gb k d h t hn hR (by omega) (by omega) (by omega) (by omega)) gX0_placeFor_X0_isAhead rfl hdX0_isAhead ⟨Nat.le_of_ble_eq_true rfl, Nat.le_of_ble_eq_true rfl⟩ 1 0 rfl rfl rfl (gPerm_ix [0, 1] rfl rfl) rfl rfl (Nat.le_of_ble_eq_true rfl) dX0_placeFor_18 ⟨Nat.le_of_ble_eq_true rfl, Nat.le_of_ble_eq_true rfl⟩ (gPerm_ix [0, 1] rfl rfl) ?_
        refine g_if_eqB (tgt := 30) (P := gKlt d h t (bk bs k) = true) E dX0_placeFor_21 (by decide) (fun c6 => ?_) (fun c6 => ?_)
        · skip
          have e9 : nI k = nI (gPlc bs d h t) := by rw [gPlc_of ha hk (Or.inr (by simpa using c6))]
          refine g_iload E dX0_placeFor_30 4 rfl ?_
          exact RET _ _ _ () (e9) rfl dX0_placeFor_32
        · skip
          refine g_iinc (lv' := [(4, .int (nI (k + 1))), (0, .ref h0), (1, .int (nI d)), (2, .int (nI h)), (3, .int (nI t))]) E dX0_placeFor_24 4 rfl (g_inc _ 1 (by decide)) (by decide) rfl ?_
          refine g_goto (tgt := 3) E dX0_placeFor_27 (by decide) ?_
          refine g_lv [1, 2, 3, 4, 0] rfl ?_
          exact ih3  (k + 1) (by omega) (fun j hj => (Nat.lt_succ_iff_lt_or_eq.mp hj).elim (ha j) (fun e => e ▸ c6)) (by omega)
  refine g_lv [1, 2, 3, 4, 0] rfl ?_
  exact loop1 _ 0 (Nat.zero_le _) (fun j hj => absurd hj (Nat.not_lt_zero j)) (Nat.lt_succ_self _)
set_option maxHeartbeats 4000000 in
set_option maxRecDepth 100000 in
theorem mX0_valuesInHour (G : gG) (h0 h1 : Nat) (bs : List (Nat → Nat)) (gb : Nat → Int32) (f d h : Nat) (hn : bs.length ≤ 24) (hR : RB bs gb) (hf : f < 6) (hd : d < 1073741824) (hh : h < 1073741824) : CIe G yX0_valuesInHour wsX0_valuesInHour 0 0 [.ref h0, .int (nI f), .int (nI d), .int (nI h)] [(h0, .inr (1, [.int (nI bs.length), .ref h1])), (h1, .inl (gy G 0, 144, .inl gb))] (gVih bs f d h bs.length) [(h0, .inr (1, [.int (nI bs.length), .ref h1])), (h1, .inl (gy G 0, 144, .inl gb))] 0 0 := by
  refine g_enterIe (ty := .int) RX0 rfl (by decide) rfl (Nat.le_of_ble_eq_true rfl) ?_
  intro V E RET
  refine g_iload_n E dX0_valuesInHour_0 rfl 1 rfl ?_
  refine g_if_ltN (tgt := 10) (a := f) E dX0_valuesInHour_1 (by decide) (by omega) ?_
  refine g_iload_n E dX0_valuesInHour_4 rfl 1 rfl ?_
  refine g_bipush (v := 6) E dX0_valuesInHour_5 (by decide) ?_
  refine g_icmp_ltN (tgt := 12) (a := f) (b := 6) E dX0_valuesInHour_7 (by decide) (by omega) (by omega) (fun c1 => ?_) (fun c1 => ?_)
  · skip
    refine g_iconst (v := 0) E dX0_valuesInHour_12 (by decide) ?_
    refine g_istore (lv' := [(4, .int 0), (0, .ref h0), (1, .int (nI f)), (2, .int (nI d)), (3, .int (nI h))]) E dX0_valuesInHour_13 (by decide) rfl ?_
    refine g_iconst (v := 0) E dX0_valuesInHour_15 (by decide) ?_
    refine g_istore (lv' := [(5, .int 0), (4, .int 0), (0, .ref h0), (1, .int (nI f)), (2, .int (nI d)), (3, .int (nI h))]) E dX0_valuesInHour_16 (by decide) rfl ?_
    have loop2 : ∀ (n3 : Nat) (k : Nat) (fr : Nat) (x : Int32), (k ≤ bs.length) → (fr = 6 * k) → (x = gVih bs f d h k) → bs.length - k < n3 → gW V 6 0 0 [(h0, .inr (1, [.int (nI bs.length), .ref h1])), (h1, .inl (gy G 0, 144, .inl gb))] [(0, .ref h0), (1, .int (nI f)), (2, .int (nI d)), (3, .int (nI h)), (4, .int x), (5, .int (nI fr))] 18 [] := by
      intro n3
      induction n3 with
      | zero => intro k fr x hk hfr hx hm5; exact absurd hm5 (Nat.not_lt_zero _)
      | succ n3 ih4 =>
        intro k fr x hk hfr hx hm5
        refine g_iload E dX0_valuesInHour_18 5 rfl ?_
        refine g_bipush (v := 6) E dX0_valuesInHour_20 (by decide) ?_
        refine g_aload_n E dX0_valuesInHour_22 rfl 0 rfl ?_
        refine g_get E uX0_valuesInHour_RX0 0 rfl rfl 0 (by decide) kX0_valuesInHour_15 rfl rfl dX0_valuesInHour_23 ?_
        refine g_imulN (a := 6) (b := bs.length) E dX0_valuesInHour_26 ?_
        refine g_icmp_geN (tgt := 91) (a := fr) (b := 6 * bs.length) E dX0_valuesInHour_27 (by decide) (by omega) (by omega) (fun c6 => ?_) (fun c6 => ?_)
        · skip
          have e9 : x = gVih bs f d h bs.length := by rw [hx, show k = bs.length by omega]
          refine g_iload E dX0_valuesInHour_91 4 rfl ?_
          exact RET _ _ _ () (e9) rfl dX0_valuesInHour_93
        · skip
          have hkl : k < bs.length := by omega
          have b0 := (hR k hkl 0 (by decide)).2
          have b1 := (hR k hkl 1 (by decide)).2
          refine g_iload E dX0_valuesInHour_30 5 rfl ?_
          refine g_bipush (v := 6) E dX0_valuesInHour_32 (by decide) ?_
          refine g_iaddN (a := fr) (b := 6) E dX0_valuesInHour_34 ?_
          refine g_aload_n E dX0_valuesInHour_35 rfl 0 rfl ?_
          refine g_get E uX0_valuesInHour_RX0 0 rfl rfl 1 (by decide) kX0_valuesInHour_11 rfl rfl dX0_valuesInHour_36 ?_
          refine g_alen (v := 144) E 1 0 rfl rfl (by first | rfl | decide) dX0_valuesInHour_39 ?_
          refine g_icmp_gtN (tgt := 91) (a := fr + 6) (b := 144) E dX0_valuesInHour_40 (by decide) (by omega) (by omega) (fun c7 => ?_) (fun c7 => ?_)
          · exfalso
            omega
          · skip
            refine g_aload_n E dX0_valuesInHour_43 rfl 0 rfl ?_
            refine g_get E uX0_valuesInHour_RX0 0 rfl rfl 1 (by decide) kX0_valuesInHour_11 rfl rfl dX0_valuesInHour_44 ?_
            refine g_iload E dX0_valuesInHour_47 5 rfl ?_
            refine g_iconst (v := 0) E dX0_valuesInHour_49 (by decide) ?_
            refine g_iaddN (a := fr) (b := 0) E dX0_valuesInHour_50 ?_
            refine g_ialdN (e := fr + 0) E 1 rfl (by omega) rfl (v := nI (bk bs k 0)) (by rw [hfr]; exact (hR k (by omega) 0 (by omega)).1) dX0_valuesInHour_51 ?_
            refine g_iload_n E dX0_valuesInHour_52 rfl 2 rfl ?_
            refine g_icmp_neN (tgt := 85) (a := bk bs k 0) (b := d) E dX0_valuesInHour_53 (by decide) (by omega) (by omega) (fun c8 => ?_) (fun c8 => ?_)
            · skip
              refine g_iinc (lv' := [(5, .int (nI (fr + 6))), (0, .ref h0), (1, .int (nI f)), (2, .int (nI d)), (3, .int (nI h)), (4, .int x)]) E dX0_valuesInHour_85 5 rfl (g_inc _ 6 (by decide)) (by decide) rfl ?_
              refine g_goto (tgt := 18) E dX0_valuesInHour_88 (by decide) ?_
              refine g_lv [1, 2, 3, 4, 5, 0] rfl ?_
              exact ih4  (k + 1) _ _ (by omega) (by omega) (by simp [gVih, hx, c6, c7, c8]) (by omega)
            · skip
              refine g_aload_n E dX0_valuesInHour_56 rfl 0 rfl ?_
              refine g_get E uX0_valuesInHour_RX0 0 rfl rfl 1 (by decide) kX0_valuesInHour_11 rfl rfl dX0_valuesInHour_57 ?_
              refine g_iload E dX0_valuesInHour_60 5 rfl ?_
              refine g_iconst (v := 1) E dX0_valuesInHour_62 (by decide) ?_
              refine g_iaddN (a := fr) (b := 1) E dX0_valuesInHour_63 ?_
              refine g_ialdN (e := fr + 1) E 1 rfl (by omega) rfl (v := nI (bk bs k 1)) (by rw [hfr]; exact (hR k (by omega) 1 (by omega)).1) dX0_valuesInHour_64 ?_
              refine g_iload_n E dX0_valuesInHour_65 rfl 3 rfl ?_
              refine g_icmp_neN (tgt := 85) (a := bk bs k 1) (b := h) E dX0_valuesInHour_66 (by decide) (by omega) (by omega) (fun c9 => ?_) (fun c9 => ?_)
              · skip
                refine g_iinc (lv' := [(5, .int (nI (fr + 6))), (0, .ref h0), (1, .int (nI f)), (2, .int (nI d)), (3, .int (nI h)), (4, .int x)]) E dX0_valuesInHour_85 5 rfl (g_inc _ 6 (by decide)) (by decide) rfl ?_
                refine g_goto (tgt := 18) E dX0_valuesInHour_88 (by decide) ?_
                refine g_lv [1, 2, 3, 4, 5, 0] rfl ?_
                exact ih4  (k + 1) _ _ (by omega) (by omega) (by simp [gVih, hx, c6, c7, c8, c9]) (by omega)
              · skip
                refine g_iload E dX0_valuesInHour_69 4 rfl ?_
                refine g_iconst (v := 1) E dX0_valuesInHour_71 (by decide) ?_
                refine g_aload_n E dX0_valuesInHour_72 rfl 0 rfl ?_
                refine g_get E uX0_valuesInHour_RX0 0 rfl rfl 1 (by decide) kX0_valuesInHour_11 rfl rfl dX0_valuesInHour_73 ?_
                refine g_iload E dX0_valuesInHour_76 5 rfl ?_
                refine g_iload_n E dX0_valuesInHour_78 rfl 1 rfl ?_
                refine g_iaddN (a := fr) (b := f) E dX0_valuesInHour_79 ?_
                refine g_ialdN (e := fr + f) E 1 rfl (by omega) rfl (v := nI (bk bs k f)) (by rw [hfr]; exact (hR k (by omega) f (by omega)).1) dX0_valuesInHour_80 ?_
                refine g_ishl E dX0_valuesInHour_81 ?_
                refine g_ior E dX0_valuesInHour_82 ?_
                refine g_istore (lv' := [(4, .int (x ||| (1 <<< (nI (bk bs k f) &&& 31)))), (0, .ref h0), (1, .int (nI f)), (2, .int (nI d)), (3, .int (nI h)), (5, .int (nI fr))]) E dX0_valuesInHour_83 (by decide) rfl ?_
                refine g_iinc (lv' := [(5, .int (nI (fr + 6))), (4, .int (x ||| (1 <<< (nI (bk bs k f) &&& 31)))), (0, .ref h0), (1, .int (nI f)), (2, .int (nI d)), (3, .int (nI h))]) E dX0_valuesInHour_85 5 rfl (g_inc _ 6 (by decide)) (by decide) rfl ?_
                refine g_goto (tgt := 18) E dX0_valuesInHour_88 (by decide) ?_
                refine g_lv [2, 3, 4, 5, 1, 0] rfl ?_
                exact ih4  (k + 1) _ _ (by omega) (by omega) (by simp [gVih, hx, c6, c7, c8, c9]) (by omega)
    refine g_lv [2, 3, 4, 5, 1, 0] rfl ?_
    exact loop2 _ 0 0 0 (Nat.zero_le _) rfl rfl (Nat.lt_succ_self _)
  · exfalso
    omega
set_option maxHeartbeats 4000000 in
set_option maxRecDepth 100000 in
theorem mX0_countOf (G : gG) (h0 h1 : Nat) (bs : List (Nat → Nat)) (gb : Nat → Int32) (f v : Nat) (hn : bs.length ≤ 24) (hR : RB bs gb) (hf : f < 6) (hv : v < 1073741824) : CIe G yX0_countOf wsX0_countOf 2 43 [.ref h0, .int (nI f), .int (nI v)] [(h0, .inr (1, [.int (nI bs.length), .ref h1])), (h1, .inl (gy G 0, 144, .inl gb))] (nI (gCnt (fun k => bk bs k f == v) bs.length)) [(h0, .inr (1, [.int (nI bs.length), .ref h1])), (h1, .inl (gy G 0, 144, .inl gb))] 0 0 := by
  refine g_enterIe (ty := .int) RX0 rfl (by decide) rfl (Nat.le_of_ble_eq_true rfl) ?_
  intro V E RET
  refine g_iconst (v := 0) E dX0_countOf_0 (by decide) ?_
  refine g_istore_n (lv' := [(3, .int 0), (0, .ref h0), (1, .int (nI f)), (2, .int (nI v))]) E dX0_countOf_1 rfl (by decide) rfl ?_
  refine g_iconst (v := 0) E dX0_countOf_2 (by decide) ?_
  refine g_istore (lv' := [(4, .int 0), (3, .int 0), (0, .ref h0), (1, .int (nI f)), (2, .int (nI v))]) E dX0_countOf_3 (by decide) rfl ?_
  have loop1 : ∀ (n2 : Nat) (k c : Nat), (k ≤ bs.length) → (c = gCnt (fun k => bk bs k f == v) k) → bs.length - k < n2 → gW V 5 0 0 [(h0, .inr (1, [.int (nI bs.length), .ref h1])), (h1, .inl (gy G 0, 144, .inl gb))] [(0, .ref h0), (1, .int (nI f)), (2, .int (nI v)), (3, .int (nI c)), (4, .int (nI k))] 5 [] := by
    intro n2
    induction n2 with
    | zero => intro k c hk hc hm4; exact absurd hm4 (Nat.not_lt_zero _)
    | succ n2 ih3 =>
      intro k c hk hc hm4
      refine g_iload E dX0_countOf_5 4 rfl ?_
      refine g_aload_n E dX0_countOf_7 rfl 0 rfl ?_
      refine g_get E uX0_countOf_RX0 0 rfl rfl 0 (by decide) kX0_countOf_15 rfl rfl dX0_countOf_8 ?_
      refine g_icmp_geN (tgt := 34) (a := k) (b := bs.length) E dX0_countOf_11 (by decide) (by omega) (by omega) (fun c5 => ?_) (fun c5 => ?_)
      · skip
        have e9 : nI c = nI (gCnt (fun k => bk bs k f == v) bs.length) := by rw [hc, show k = bs.length by omega]
        refine g_iload_n E dX0_countOf_34 rfl 3 rfl ?_
        exact RET _ _ _ () (e9) rfl dX0_countOf_35
      · skip
        have hkl : k < bs.length := by omega
        have b0 := (hR k hkl f hf).2
        refine g_aload_n E dX0_countOf_14 rfl 0 rfl ?_
        refine g_iload E dX0_countOf_15 4 rfl ?_
        refine g_iload_n E dX0_countOf_17 rfl 1 rfl ?_
        refine g_callVIe (F := []) (ws2 := [(h0, .inr (1, [.int (nI bs.length), .ref h1])), (h1, .inl (gy G 0, 144, .inl gb))]) E (mX0_at G h0 h1 bs gb k f hn hR (by omega) (by omega)) gX0_countOf_X0_at rfl hdX0_at ⟨Nat.le_of_ble_eq_true rfl, Nat.le_of_ble_eq_true rfl⟩ 1 0 rfl rfl rfl (gPerm_ix [0, 1] rfl rfl) rfl rfl (Nat.le_of_ble_eq_true rfl) dX0_countOf_18 ⟨Nat.le_of_ble_eq_true rfl, Nat.le_of_ble_eq_true rfl⟩ (gPerm_ix [0, 1] rfl rfl) ?_
        refine g_iload_n E dX0_countOf_21 rfl 2 rfl ?_
        refine g_icmp_neN (tgt := 28) (a := bk bs k f) (b := v) E dX0_countOf_22 (by decide) (by omega) (by omega) (fun c6 => ?_) (fun c6 => ?_)
        · skip
          refine g_iinc (lv' := [(4, .int (nI (k + 1))), (0, .ref h0), (1, .int (nI f)), (2, .int (nI v)), (3, .int (nI c))]) E dX0_countOf_28 4 rfl (g_inc _ 1 (by decide)) (by decide) rfl ?_
          refine g_goto (tgt := 5) E dX0_countOf_31 (by decide) ?_
          refine g_lv [1, 2, 3, 4, 0] rfl ?_
          exact ih3  (k + 1) _ (by omega) (by simp [gCnt, hc, c6]) (by omega)
        · skip
          refine g_iinc (lv' := [(3, .int (nI (c + 1))), (0, .ref h0), (1, .int (nI f)), (2, .int (nI v)), (4, .int (nI k))]) E dX0_countOf_25 3 rfl (g_inc _ 1 (by decide)) (by decide) rfl ?_
          refine g_iinc (lv' := [(4, .int (nI (k + 1))), (3, .int (nI (c + 1))), (0, .ref h0), (1, .int (nI f)), (2, .int (nI v))]) E dX0_countOf_28 4 rfl (g_inc _ 1 (by decide)) (by decide) rfl ?_
          refine g_goto (tgt := 5) E dX0_countOf_31 (by decide) ?_
          refine g_lv [2, 3, 4, 1, 0] rfl ?_
          exact ih3  (k + 1) _ (by omega) (by simp [gCnt, hc, c6]) (by omega)
  refine g_lv [2, 3, 4, 1, 0] rfl ?_
  exact loop1 _ 0 0 (Nat.zero_le _) rfl (Nat.lt_succ_self _)
set_option maxHeartbeats 4000000 in
set_option maxRecDepth 100000 in
theorem mX0_countInWeek (G : gG) (h0 h1 : Nat) (bs : List (Nat → Nat)) (gb : Nat → Int32) (p wk : Nat) (hn : bs.length ≤ 24) (hR : RB bs gb) (hp : p < 1073741824) (hw : wk < 1073741824) : CIe G yX0_countInWeek wsX0_countInWeek 0 0 [.ref h0, .int (nI p), .int (nI wk)] [(h0, .inr (1, [.int (nI bs.length), .ref h1])), (h1, .inl (gy G 0, 144, .inl gb))] (nI (gCnt (fun k => bk bs k 3 == p && bk bs k 0 / 7 == wk) bs.length)) [(h0, .inr (1, [.int (nI bs.length), .ref h1])), (h1, .inl (gy G 0, 144, .inl gb))] 0 0 := by
  refine g_enterIe (ty := .int) RX0 rfl (by decide) rfl (Nat.le_of_ble_eq_true rfl) ?_
  intro V E RET
  refine g_iconst (v := 0) E dX0_countInWeek_0 (by decide) ?_
  refine g_istore_n (lv' := [(3, .int 0), (0, .ref h0), (1, .int (nI p)), (2, .int (nI wk))]) E dX0_countInWeek_1 rfl (by decide) rfl ?_
  refine g_iconst (v := 0) E dX0_countInWeek_2 (by decide) ?_
  refine g_istore (lv' := [(4, .int 0), (3, .int 0), (0, .ref h0), (1, .int (nI p)), (2, .int (nI wk))]) E dX0_countInWeek_3 (by decide) rfl ?_
  have loop1 : ∀ (n2 : Nat) (k fr c : Nat), (k ≤ bs.length) → (fr = 6 * k) → (c = gCnt (fun k => bk bs k 3 == p && bk bs k 0 / 7 == wk) k) → bs.length - k < n2 → gW V 5 0 0 [(h0, .inr (1, [.int (nI bs.length), .ref h1])), (h1, .inl (gy G 0, 144, .inl gb))] [(0, .ref h0), (1, .int (nI p)), (2, .int (nI wk)), (3, .int (nI c)), (4, .int (nI fr))] 5 [] := by
    intro n2
    induction n2 with
    | zero => intro k fr c hk hfr hc hm4; exact absurd hm4 (Nat.not_lt_zero _)
    | succ n2 ih3 =>
      intro k fr c hk hfr hc hm4
      refine g_iload E dX0_countInWeek_5 4 rfl ?_
      refine g_bipush (v := 6) E dX0_countInWeek_7 (by decide) ?_
      refine g_aload_n E dX0_countInWeek_9 rfl 0 rfl ?_
      refine g_get E uX0_countInWeek_RX0 0 rfl rfl 0 (by decide) kX0_countInWeek_15 rfl rfl dX0_countInWeek_10 ?_
      refine g_imulN (a := 6) (b := bs.length) E dX0_countInWeek_13 ?_
      refine g_icmp_geN (tgt := 68) (a := fr) (b := 6 * bs.length) E dX0_countInWeek_14 (by decide) (by omega) (by omega) (fun c5 => ?_) (fun c5 => ?_)
      · skip
        have e9 : nI c = nI (gCnt (fun k => bk bs k 3 == p && bk bs k 0 / 7 == wk) bs.length) := by rw [hc, show k = bs.length by omega]
        refine g_iload_n E dX0_countInWeek_68 rfl 3 rfl ?_
        exact RET _ _ _ () (e9) rfl dX0_countInWeek_69
      · skip
        have hkl : k < bs.length := by omega
        have b0 := (hR k hkl 0 (by decide)).2
        have b3 := (hR k hkl 3 (by decide)).2
        refine g_iload E dX0_countInWeek_17 4 rfl ?_
        refine g_bipush (v := 6) E dX0_countInWeek_19 (by decide) ?_
        refine g_iaddN (a := fr) (b := 6) E dX0_countInWeek_21 ?_
        refine g_aload_n E dX0_countInWeek_22 rfl 0 rfl ?_
        refine g_get E uX0_countInWeek_RX0 0 rfl rfl 1 (by decide) kX0_countInWeek_11 rfl rfl dX0_countInWeek_23 ?_
        refine g_alen (v := 144) E 1 0 rfl rfl (by first | rfl | decide) dX0_countInWeek_26 ?_
        refine g_icmp_gtN (tgt := 68) (a := fr + 6) (b := 144) E dX0_countInWeek_27 (by decide) (by omega) (by omega) (fun c6 => ?_) (fun c6 => ?_)
        · exfalso
          omega
        · skip
          refine g_aload_n E dX0_countInWeek_30 rfl 0 rfl ?_
          refine g_get E uX0_countInWeek_RX0 0 rfl rfl 1 (by decide) kX0_countInWeek_11 rfl rfl dX0_countInWeek_31 ?_
          refine g_iload E dX0_countInWeek_34 4 rfl ?_
          refine g_iconst (v := 3) E dX0_countInWeek_36 (by decide) ?_
          refine g_iaddN (a := fr) (b := 3) E dX0_countInWeek_37 ?_
          refine g_ialdN (e := fr + 3) E 1 rfl (by omega) rfl (v := nI (bk bs k 3)) (by rw [hfr]; exact (hR k (by omega) 3 (by omega)).1) dX0_countInWeek_38 ?_
          refine g_iload_n E dX0_countInWeek_39 rfl 1 rfl ?_
          refine g_icmp_neN (tgt := 62) (a := bk bs k 3) (b := p) E dX0_countInWeek_40 (by decide) (by omega) (by omega) (fun c7 => ?_) (fun c7 => ?_)
          · skip
            refine g_iinc (lv' := [(4, .int (nI (fr + 6))), (0, .ref h0), (1, .int (nI p)), (2, .int (nI wk)), (3, .int (nI c))]) E dX0_countInWeek_62 4 rfl (g_inc _ 6 (by decide)) (by decide) rfl ?_
            refine g_goto (tgt := 5) E dX0_countInWeek_65 (by decide) ?_
            refine g_lv [1, 2, 3, 4, 0] rfl ?_
            exact ih3  (k + 1) _ _ (by omega) (by omega) (by simp [gCnt, hc, c5, c6, c7]) (by omega)
          · skip
            refine g_aload_n E dX0_countInWeek_43 rfl 0 rfl ?_
            refine g_get E uX0_countInWeek_RX0 0 rfl rfl 1 (by decide) kX0_countInWeek_11 rfl rfl dX0_countInWeek_44 ?_
            refine g_iload E dX0_countInWeek_47 4 rfl ?_
            refine g_iconst (v := 0) E dX0_countInWeek_49 (by decide) ?_
            refine g_iaddN (a := fr) (b := 0) E dX0_countInWeek_50 ?_
            refine g_ialdN (e := fr + 0) E 1 rfl (by omega) rfl (v := nI (bk bs k 0)) (by rw [hfr]; exact (hR k (by omega) 0 (by omega)).1) dX0_countInWeek_51 ?_
            refine g_bipush (v := 7) E dX0_countInWeek_52 (by decide) ?_
            refine g_idivN (a := bk bs k 0) (b := 7) E dX0_countInWeek_54 (by omega) (by omega) (by omega) ?_
            refine g_iload_n E dX0_countInWeek_55 rfl 2 rfl ?_
            refine g_icmp_neN (tgt := 62) (a := (bk bs k 0) / 7) (b := wk) E dX0_countInWeek_56 (by decide) (by omega) (by omega) (fun c8 => ?_) (fun c8 => ?_)
            · skip
              refine g_iinc (lv' := [(4, .int (nI (fr + 6))), (0, .ref h0), (1, .int (nI p)), (2, .int (nI wk)), (3, .int (nI c))]) E dX0_countInWeek_62 4 rfl (g_inc _ 6 (by decide)) (by decide) rfl ?_
              refine g_goto (tgt := 5) E dX0_countInWeek_65 (by decide) ?_
              refine g_lv [1, 2, 3, 4, 0] rfl ?_
              exact ih3  (k + 1) _ _ (by omega) (by omega) (by simp [gCnt, hc, c5, c6, c7, c8]) (by omega)
            · skip
              refine g_iinc (lv' := [(3, .int (nI (c + 1))), (0, .ref h0), (1, .int (nI p)), (2, .int (nI wk)), (4, .int (nI fr))]) E dX0_countInWeek_59 3 rfl (g_inc _ 1 (by decide)) (by decide) rfl ?_
              refine g_iinc (lv' := [(4, .int (nI (fr + 6))), (3, .int (nI (c + 1))), (0, .ref h0), (1, .int (nI p)), (2, .int (nI wk))]) E dX0_countInWeek_62 4 rfl (g_inc _ 6 (by decide)) (by decide) rfl ?_
              refine g_goto (tgt := 5) E dX0_countInWeek_65 (by decide) ?_
              refine g_lv [2, 3, 4, 1, 0] rfl ?_
              exact ih3  (k + 1) _ _ (by omega) (by omega) (by simp [gCnt, hc, c5, c6, c7, c8]) (by omega)
  refine g_lv [2, 3, 4, 1, 0] rfl ?_
  exact loop1 _ 0 0 0 (Nat.zero_le _) rfl rfl (Nat.lt_succ_self _)
set_option maxHeartbeats 4000000 in
set_option maxRecDepth 100000 in
theorem mX0_remove (G : gG) (h0 h1 : Nat) (bs : List (Nat → Nat)) (gb : Nat → Int32) (K : Nat) (hn : bs.length ≤ 24) (hR : RB bs gb) (hK : K < bs.length) : CV G yX0_remove wsX0_remove 1 60 [.ref h0, .int (nI K)] [(h0, .inr (1, [.int (nI bs.length), .ref h1])), (h1, .inl (gy G 0, 144, .inl gb))] (fun (u : Nat → Int32) => RB (bs.eraseIdx K) u) (fun (u : Nat → Int32) => [(h0, .inr (1, [.int (nI ((bs.eraseIdx K).length)), .ref h1])), (h1, .inl (gy G 0, 144, .inl u))]) 0 0 := by
  refine g_enterV RX0 rfl (by decide) rfl (Nat.le_of_ble_eq_true rfl) ?_
  intro V E RET
  refine g_aload_n E dX0_remove_0 rfl 0 rfl ?_
  refine g_iload_n E dX0_remove_1 rfl 1 rfl ?_
  refine g_callVIe (F := []) (ws2 := [(h0, .inr (1, [.int (nI bs.length), .ref h1])), (h1, .inl (gy G 0, 144, .inl gb))]) E (g_resI (gHas_in (by omega) (by omega)) (mX0_has G h0 h1 bs gb (nI K) hn)) gX0_remove_X0_has rfl hdX0_has ⟨Nat.le_of_ble_eq_true rfl, Nat.le_of_ble_eq_true rfl⟩ 1 0 rfl rfl rfl (gPerm_ix [0, 1] rfl rfl) rfl rfl (Nat.le_of_ble_eq_true rfl) dX0_remove_2 ⟨Nat.le_of_ble_eq_true rfl, Nat.le_of_ble_eq_true rfl⟩ (gPerm_ix [0, 1] rfl rfl) ?_
  refine g_if_eq (tgt := 59) E dX0_remove_5 (by decide) (fun c => absurd c (by decide)) (fun _ => ?_)
  refine g_aload_n E dX0_remove_8 rfl 0 rfl ?_
  refine g_get E uX0_remove_RX0 0 rfl rfl 0 (by decide) kX0_remove_15 rfl rfl dX0_remove_9 ?_
  refine g_bipush (v := 24) E dX0_remove_12 (by decide) ?_
  refine g_icmp_gtN (tgt := 59) (a := bs.length) (b := 24) E dX0_remove_14 (by decide) (by omega) (by omega) (fun c1 => ?_) (fun c1 => ?_)
  · exfalso
    omega
  · skip
    refine g_bipush (v := 6) E dX0_remove_17 (by decide) ?_
    refine g_iload_n E dX0_remove_19 rfl 1 rfl ?_
    refine g_iconst (v := 1) E dX0_remove_20 (by decide) ?_
    refine g_iaddN (a := K) (b := 1) E dX0_remove_21 ?_
    refine g_imulN (a := 6) (b := K + 1) E dX0_remove_22 ?_
    refine g_istore_n (lv' := [(2, .int (nI (6 * (K + 1)))), (0, .ref h0), (1, .int (nI K))]) E dX0_remove_23 rfl (by decide) rfl ?_
    refine g_aload_n E dX0_remove_24 rfl 1 rfl ?_
    refine g_get E uX0_remove_RX0 0 rfl rfl 1 (by decide) kX0_remove_11 rfl rfl dX0_remove_25 ?_
    refine g_iload_n E dX0_remove_28 rfl 0 rfl ?_
    refine g_aload_n E dX0_remove_29 rfl 1 rfl ?_
    refine g_get E uX0_remove_RX0 0 rfl rfl 1 (by decide) kX0_remove_11 rfl rfl dX0_remove_30 ?_
    refine g_iload_n E dX0_remove_33 rfl 0 rfl ?_
    refine g_bipush (v := 6) E dX0_remove_34 (by decide) ?_
    refine g_isubN (a := 6 * (K + 1)) (b := 6) E dX0_remove_36 (by omega) ?_
    refine g_bipush (v := 6) E dX0_remove_37 (by decide) ?_
    refine g_aload_n E dX0_remove_39 rfl 1 rfl ?_
    refine g_get E uX0_remove_RX0 0 rfl rfl 0 (by decide) kX0_remove_15 rfl rfl dX0_remove_40 ?_
    refine g_imulN (a := 6) (b := bs.length) E dX0_remove_43 ?_
    refine g_iload_n E dX0_remove_44 rfl 0 rfl ?_
    refine g_isubN (a := 6 * bs.length) (b := 6 * (K + 1)) E dX0_remove_45 (by omega) ?_
    refine g_copyi (ws' := [(h0, .inr (1, [.int (nI bs.length), .ref h1])), (h1, .inl (gy G 0, 144, .inl (va_cpy gb gb (6 * (K + 1)) (6 * (K + 1) - 6) (6 * bs.length - (6 * (K + 1))))))]) (sp := 6 * (K + 1)) (dp := 6 * (K + 1) - 6) (n := 6 * bs.length - (6 * (K + 1))) E (by decide +kernel) (by decide +kernel) (by decide +kernel) (by decide +kernel) 1 1 rfl rfl (by omega) (by omega) (by omega) (by omega) (by omega) (Nat.le_of_ble_eq_true rfl) (Nat.le_of_ble_eq_true rfl) (Nat.le_of_ble_eq_true rfl) rfl dX0_remove_46 ?_
    refine g_aload_n E dX0_remove_49 rfl 1 rfl ?_
    refine g_dup E dX0_remove_50 rfl ?_
    refine g_get E uX0_remove_RX0 0 rfl rfl 0 (by decide) kX0_remove_15 rfl rfl dX0_remove_51 ?_
    refine g_iconst (v := 1) E dX0_remove_54 (by decide) ?_
    refine g_isubN (a := bs.length) (b := 1) E dX0_remove_55 (by omega) ?_
    refine g_put (ws' := [(h0, .inr (1, [.int (nI (bs.length - 1)), .ref h1])), (h1, .inl (gy G 0, 144, .inl (va_cpy gb gb (6 * (K + 1)) (6 * (K + 1) - 6) (6 * bs.length - (6 * (K + 1))))))]) E uX0_remove_RX0 tyX0 tyX0_ok nmX0 0 rfl rfl 0 (by decide) kX0_remove_15 rfl rfl rfl rfl (Nat.le_of_ble_eq_true rfl) rfl dX0_remove_56 ?_
    have el : bs.length - 1 = (bs.eraseIdx K).length := by rw [List.length_eraseIdx, if_pos hK]
    rw [el]
    exact RET _ _ _ (gRem_RB hR hK hn) dX0_remove_59
set_option maxHeartbeats 4000000 in
set_option maxRecDepth 100000 in
theorem mX0_copyFrom (G : gG) (h0 h1 : Nat) (bs : List (Nat → Nat)) (gb : Nat → Int32) (k0 k1 : Nat) (bs2 : List (Nat → Nat)) (gb2 : Nat → Int32)  : CVe G yX0_copyFrom wsX0_copyFrom 1 60 [.ref h0, .ref k0] [(h0, .inr (1, [.int (nI bs.length), .ref h1])), (h1, .inl (gy G 0, 144, .inl gb)), (k0, .inr (1, [.int (nI bs2.length), .ref k1])), (k1, .inl (gy G 0, 144, .inl gb2))]  [(h0, .inr (1, [.int (nI bs2.length), .ref h1])), (h1, .inl (gy G 0, 144, .inl (va_cpy gb2 gb 0 0 144))), (k0, .inr (1, [.int (nI bs2.length), .ref k1])), (k1, .inl (gy G 0, 144, .inl gb2))] 0 0 := by
  refine g_enterVe RX0 rfl (by decide) rfl (Nat.le_of_ble_eq_true rfl) ?_
  intro V E RET
  refine g_aload_n E dX0_copyFrom_0 rfl 0 rfl ?_
  refine g_aload_n E dX0_copyFrom_1 rfl 1 rfl ?_
  refine g_get E uX0_copyFrom_RX0 2 rfl rfl 0 (by decide) kX0_copyFrom_15 rfl rfl dX0_copyFrom_2 ?_
  refine g_put (ws' := [(h0, .inr (1, [.int (nI bs2.length), .ref h1])), (h1, .inl (gy G 0, 144, .inl gb)), (k0, .inr (1, [.int (nI bs2.length), .ref k1])), (k1, .inl (gy G 0, 144, .inl gb2))]) E uX0_copyFrom_RX0 tyX0 tyX0_ok nmX0 0 rfl rfl 0 (by decide) kX0_copyFrom_15 rfl rfl rfl rfl (Nat.le_of_ble_eq_true rfl) rfl dX0_copyFrom_5 ?_
  refine g_aload_n E dX0_copyFrom_8 rfl 1 rfl ?_
  refine g_get E uX0_copyFrom_RX0 2 rfl rfl 1 (by decide) kX0_copyFrom_11 rfl rfl dX0_copyFrom_9 ?_
  refine g_iconst (v := 0) E dX0_copyFrom_12 (by decide) ?_
  refine g_aload_n E dX0_copyFrom_13 rfl 0 rfl ?_
  refine g_get E uX0_copyFrom_RX0 0 rfl rfl 1 (by decide) kX0_copyFrom_11 rfl rfl dX0_copyFrom_14 ?_
  refine g_iconst (v := 0) E dX0_copyFrom_17 (by decide) ?_
  refine g_aload_n E dX0_copyFrom_18 rfl 0 rfl ?_
  refine g_get E uX0_copyFrom_RX0 0 rfl rfl 1 (by decide) kX0_copyFrom_11 rfl rfl dX0_copyFrom_19 ?_
  refine g_alen (v := 144) E 1 0 rfl rfl (by first | rfl | decide) dX0_copyFrom_22 ?_
  refine g_copyi (ws' := [(h0, .inr (1, [.int (nI bs2.length), .ref h1])), (h1, .inl (gy G 0, 144, .inl (va_cpy gb2 gb 0 0 144))), (k0, .inr (1, [.int (nI bs2.length), .ref k1])), (k1, .inl (gy G 0, 144, .inl gb2))]) (sp := 0) (dp := 0) (n := 144) E (by decide +kernel) (by decide +kernel) (by decide +kernel) (by decide +kernel) 3 1 rfl rfl (by omega) (by omega) (by omega) (by omega) (by omega) (Nat.le_of_ble_eq_true rfl) (Nat.le_of_ble_eq_true rfl) (Nat.le_of_ble_eq_true rfl) rfl dX0_copyFrom_23 ?_
  exact RET _ _ () (trivial) dX0_copyFrom_26
