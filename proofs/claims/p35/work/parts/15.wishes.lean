set_option maxHeartbeats 4000000 in
set_option maxRecDepth 100000 in
theorem mX6_isFull (G : gG) (h0 h1 : Nat) (W : List Nat) (gw : Nat → Int32) (hw : W.length ≤ 10) : CIe G yX6_isFull wsX6_isFull 0 0 [.ref h0] [(h0, .inr (6, [.int (nI W.length), .ref h1])), (h1, .inl (gy G 0, 10, .inl gw))] (if (10 ≤ W.length) then 1 else 0) [(h0, .inr (6, [.int (nI W.length), .ref h1])), (h1, .inl (gy G 0, 10, .inl gw))] 0 0 := by
  refine g_enterIe (ty := .boolean) RX6 rfl (by decide) rfl (Nat.le_of_ble_eq_true rfl) ?_
  intro V E RET
  refine g_aload_n E dX6_isFull_0 rfl 0 rfl ?_
  refine g_get E uX6_isFull_RX6 0 rfl rfl 0 (by decide) kX6_isFull_15 rfl rfl dX6_isFull_1 ?_
  refine g_bipush (v := 10) E dX6_isFull_4 (by decide) ?_
  refine g_icmp_ltN (tgt := 13) (a := W.length) (b := 10) E dX6_isFull_6 (by decide) (by omega) (by omega) (fun c1 => ?_) (fun c1 => ?_)
  · skip
    refine g_iconst (v := 0) E dX6_isFull_13 (by decide) ?_
    exact RET _ _ _ () (by simp [c1]) rfl dX6_isFull_14
  · skip
    refine g_iconst (v := 1) E dX6_isFull_9 (by decide) ?_
    refine g_goto (tgt := 14) E dX6_isFull_10 (by decide) ?_
    exact RET _ _ _ () (by simp [c1]) rfl dX6_isFull_14
set_option maxHeartbeats 4000000 in
set_option maxRecDepth 100000 in
theorem mX6_at (G : gG) (h0 h1 : Nat) (W : List Nat) (gw : Nat → Int32) (K : Nat) (hw : W.length ≤ 10) (hQ : RW W gw) (hK : K < W.length) : CIe G yX6_at wsX6_at 0 0 [.ref h0, .int (nI K)] [(h0, .inr (6, [.int (nI W.length), .ref h1])), (h1, .inl (gy G 0, 10, .inl gw))] (nI (wq W K)) [(h0, .inr (6, [.int (nI W.length), .ref h1])), (h1, .inl (gy G 0, 10, .inl gw))] 0 0 := by
  refine g_enterIe (ty := .int) RX6 rfl (by decide) rfl (Nat.le_of_ble_eq_true rfl) ?_
  intro V E RET
  refine g_iload_n E dX6_at_0 rfl 1 rfl ?_
  refine g_if_ltN (tgt := 27) (a := K) E dX6_at_1 (by decide) (by omega) ?_
  refine g_iload_n E dX6_at_4 rfl 1 rfl ?_
  refine g_aload_n E dX6_at_5 rfl 0 rfl ?_
  refine g_get E uX6_at_RX6 0 rfl rfl 0 (by decide) kX6_at_15 rfl rfl dX6_at_6 ?_
  refine g_icmp_geN (tgt := 27) (a := K) (b := W.length) E dX6_at_9 (by decide) (by omega) (by omega) (fun c1 => ?_) (fun c1 => ?_)
  · exfalso
    omega
  · skip
    refine g_iload_n E dX6_at_12 rfl 1 rfl ?_
    refine g_bipush (v := 10) E dX6_at_13 (by decide) ?_
    refine g_icmp_geN (tgt := 27) (a := K) (b := 10) E dX6_at_15 (by decide) (by omega) (by omega) (fun c2 => ?_) (fun c2 => ?_)
    · exfalso
      omega
    · skip
      refine g_aload_n E dX6_at_18 rfl 0 rfl ?_
      refine g_get E uX6_at_RX6 0 rfl rfl 1 (by decide) kX6_at_11 rfl rfl dX6_at_19 ?_
      refine g_iload_n E dX6_at_22 rfl 1 rfl ?_
      refine g_ialdN (e := K) E 1 rfl (by omega) rfl (v := nI (wq W K)) ((hQ K hK).1) dX6_at_23 ?_
      refine g_goto (tgt := 28) E dX6_at_24 (by decide) ?_
      exact RET _ _ _ () (rfl) rfl dX6_at_28
set_option maxHeartbeats 4000000 in
set_option maxRecDepth 100000 in
theorem mX6_prisonerOf (G : gG) (h0 h1 : Nat) (W : List Nat) (gw : Nat → Int32) (K : Nat) (hw : W.length ≤ 10) (hQ : RW W gw) (hK : K < W.length) : CIe G yX6_prisonerOf wsX6_prisonerOf 1 21 [.ref h0, .int (nI K)] [(h0, .inr (6, [.int (nI W.length), .ref h1])), (h1, .inl (gy G 0, 10, .inl gw))] (nI (wq W K / 10)) [(h0, .inr (6, [.int (nI W.length), .ref h1])), (h1, .inl (gy G 0, 10, .inl gw))] 0 0 := by
  refine g_enterIe (ty := .int) RX6 rfl (by decide) rfl (Nat.le_of_ble_eq_true rfl) ?_
  intro V E RET
  have q2 := (hQ K hK).2
  refine g_aload_n E dX6_prisonerOf_0 rfl 0 rfl ?_
  refine g_iload_n E dX6_prisonerOf_1 rfl 1 rfl ?_
  refine g_callVIe (F := []) (ws2 := [(h0, .inr (6, [.int (nI W.length), .ref h1])), (h1, .inl (gy G 0, 10, .inl gw))]) E (mX6_at G h0 h1 W gw K hw hQ (by omega)) gX6_prisonerOf_X6_at rfl hdX6_at ⟨Nat.le_of_ble_eq_true rfl, Nat.le_of_ble_eq_true rfl⟩ 6 0 rfl rfl rfl (gPerm_ix [0, 1] rfl rfl) rfl rfl (Nat.le_of_ble_eq_true rfl) dX6_prisonerOf_2 ⟨Nat.le_of_ble_eq_true rfl, Nat.le_of_ble_eq_true rfl⟩ (gPerm_ix [0, 1] rfl rfl) ?_
  refine g_if_geN (tgt := 12) (a := wq W K) E dX6_prisonerOf_5 (by decide) (by omega) ?_
  refine g_aload_n E dX6_prisonerOf_12 rfl 0 rfl ?_
  refine g_iload_n E dX6_prisonerOf_13 rfl 1 rfl ?_
  refine g_callVIe (F := []) (ws2 := [(h0, .inr (6, [.int (nI W.length), .ref h1])), (h1, .inl (gy G 0, 10, .inl gw))]) E (mX6_at G h0 h1 W gw K hw hQ (by omega)) gX6_prisonerOf_X6_at rfl hdX6_at ⟨Nat.le_of_ble_eq_true rfl, Nat.le_of_ble_eq_true rfl⟩ 6 0 rfl rfl rfl (gPerm_ix [0, 1] rfl rfl) rfl rfl (Nat.le_of_ble_eq_true rfl) dX6_prisonerOf_14 ⟨Nat.le_of_ble_eq_true rfl, Nat.le_of_ble_eq_true rfl⟩ (gPerm_ix [0, 1] rfl rfl) ?_
  refine g_bipush (v := 10) E dX6_prisonerOf_17 (by decide) ?_
  refine g_idivN (a := wq W K) (b := 10) E dX6_prisonerOf_19 (by omega) (by omega) (by omega) ?_
  exact RET _ _ _ () (rfl) rfl dX6_prisonerOf_20
set_option maxHeartbeats 4000000 in
set_option maxRecDepth 100000 in
theorem mX6_visitorOf (G : gG) (h0 h1 : Nat) (W : List Nat) (gw : Nat → Int32) (K : Nat) (hw : W.length ≤ 10) (hQ : RW W gw) (hK : K < W.length) : CIe G yX6_visitorOf wsX6_visitorOf 1 21 [.ref h0, .int (nI K)] [(h0, .inr (6, [.int (nI W.length), .ref h1])), (h1, .inl (gy G 0, 10, .inl gw))] (nI (wq W K % 10)) [(h0, .inr (6, [.int (nI W.length), .ref h1])), (h1, .inl (gy G 0, 10, .inl gw))] 0 0 := by
  refine g_enterIe (ty := .int) RX6 rfl (by decide) rfl (Nat.le_of_ble_eq_true rfl) ?_
  intro V E RET
  have q2 := (hQ K hK).2
  refine g_aload_n E dX6_visitorOf_0 rfl 0 rfl ?_
  refine g_iload_n E dX6_visitorOf_1 rfl 1 rfl ?_
  refine g_callVIe (F := []) (ws2 := [(h0, .inr (6, [.int (nI W.length), .ref h1])), (h1, .inl (gy G 0, 10, .inl gw))]) E (mX6_at G h0 h1 W gw K hw hQ (by omega)) gX6_visitorOf_X6_at rfl hdX6_at ⟨Nat.le_of_ble_eq_true rfl, Nat.le_of_ble_eq_true rfl⟩ 6 0 rfl rfl rfl (gPerm_ix [0, 1] rfl rfl) rfl rfl (Nat.le_of_ble_eq_true rfl) dX6_visitorOf_2 ⟨Nat.le_of_ble_eq_true rfl, Nat.le_of_ble_eq_true rfl⟩ (gPerm_ix [0, 1] rfl rfl) ?_
  refine g_if_geN (tgt := 12) (a := wq W K) E dX6_visitorOf_5 (by decide) (by omega) ?_
  refine g_aload_n E dX6_visitorOf_12 rfl 0 rfl ?_
  refine g_iload_n E dX6_visitorOf_13 rfl 1 rfl ?_
  refine g_callVIe (F := []) (ws2 := [(h0, .inr (6, [.int (nI W.length), .ref h1])), (h1, .inl (gy G 0, 10, .inl gw))]) E (mX6_at G h0 h1 W gw K hw hQ (by omega)) gX6_visitorOf_X6_at rfl hdX6_at ⟨Nat.le_of_ble_eq_true rfl, Nat.le_of_ble_eq_true rfl⟩ 6 0 rfl rfl rfl (gPerm_ix [0, 1] rfl rfl) rfl rfl (Nat.le_of_ble_eq_true rfl) dX6_visitorOf_14 ⟨Nat.le_of_ble_eq_true rfl, Nat.le_of_ble_eq_true rfl⟩ (gPerm_ix [0, 1] rfl rfl) ?_
  refine g_bipush (v := 10) E dX6_visitorOf_17 (by decide) ?_
  refine g_iremN (a := wq W K) (b := 10) E dX6_visitorOf_19 (by omega) (by omega) (by omega) ?_
  exact RET _ _ _ () (rfl) rfl dX6_visitorOf_20
set_option maxHeartbeats 4000000 in
set_option maxRecDepth 100000 in
theorem mX6_add (G : gG) (h0 h1 : Nat) (W : List Nat) (gw : Nat → Int32) (p v : Nat) (hw : W.length < 10) (hQ : RW W gw) (hp : p < 8) (hv : v < 10) : CV G yX6_add wsX6_add 0 0 [.ref h0, .int (nI p), .int (nI v)] [(h0, .inr (6, [.int (nI W.length), .ref h1])), (h1, .inl (gy G 0, 10, .inl gw))] (fun (u : Nat → Int32) => RW (W ++ [10 * p + v]) u) (fun (u : Nat → Int32) => [(h0, .inr (6, [.int (nI ((W ++ [10 * p + v]).length)), .ref h1])), (h1, .inl (gy G 0, 10, .inl u))]) 0 0 := by
  refine g_enterV RX6 rfl (by decide) rfl (Nat.le_of_ble_eq_true rfl) ?_
  intro V E RET
  refine g_aload_n E dX6_add_0 rfl 0 rfl ?_
  refine g_get E uX6_add_RX6 0 rfl rfl 0 (by decide) kX6_add_15 rfl rfl dX6_add_1 ?_
  refine g_if_ltN (tgt := 41) (a := W.length) E dX6_add_4 (by decide) (by omega) ?_
  refine g_aload_n E dX6_add_7 rfl 0 rfl ?_
  refine g_get E uX6_add_RX6 0 rfl rfl 0 (by decide) kX6_add_15 rfl rfl dX6_add_8 ?_
  refine g_bipush (v := 10) E dX6_add_11 (by decide) ?_
  refine g_icmp_geN (tgt := 41) (a := W.length) (b := 10) E dX6_add_13 (by decide) (by omega) (by omega) (fun c1 => ?_) (fun c1 => ?_)
  · exfalso
    omega
  · skip
    refine g_aload_n E dX6_add_16 rfl 0 rfl ?_
    refine g_get E uX6_add_RX6 0 rfl rfl 1 (by decide) kX6_add_11 rfl rfl dX6_add_17 ?_
    refine g_aload_n E dX6_add_20 rfl 0 rfl ?_
    refine g_get E uX6_add_RX6 0 rfl rfl 0 (by decide) kX6_add_15 rfl rfl dX6_add_21 ?_
    refine g_bipush (v := 10) E dX6_add_24 (by decide) ?_
    refine g_iload_n E dX6_add_26 rfl 1 rfl ?_
    refine g_imulN (a := 10) (b := p) E dX6_add_27 ?_
    refine g_iload_n E dX6_add_28 rfl 2 rfl ?_
    refine g_iaddN (a := 10 * p) (b := v) E dX6_add_29 ?_
    refine g_iast (ws' := [(h0, .inr (6, [.int (nI W.length), .ref h1])), (h1, .inl (gy G 0, 10, .inl (upd gw W.length (nI (10 * p + v)))))]) (j := W.length) (y := nI (10 * p + v)) E 1 rfl (g_in (by omega) rfl) (nI_clamp (by omega)) rfl rfl dX6_add_30 ?_
    refine g_aload_n E dX6_add_31 rfl 0 rfl ?_
    refine g_dup E dX6_add_32 rfl ?_
    refine g_get E uX6_add_RX6 0 rfl rfl 0 (by decide) kX6_add_15 rfl rfl dX6_add_33 ?_
    refine g_iconst (v := 1) E dX6_add_36 (by decide) ?_
    refine g_iaddN (a := W.length) (b := 1) E dX6_add_37 ?_
    refine g_put (ws' := [(h0, .inr (6, [.int (nI (W.length + 1)), .ref h1])), (h1, .inl (gy G 0, 10, .inl (upd gw W.length (nI (10 * p + v)))))]) E uX6_add_RX6 tyX6 tyX6_ok nmX6 0 rfl rfl 0 (by decide) kX6_add_15 rfl rfl rfl rfl (Nat.le_of_ble_eq_true rfl) rfl dX6_add_38 ?_
    have el : W.length + 1 = (W ++ [10 * p + v]).length := by simp
    rw [el]
    exact RET _ _ _ (gAdd_RW hQ (by omega)) dX6_add_41
set_option maxHeartbeats 4000000 in
set_option maxRecDepth 100000 in
theorem mX6_remove (G : gG) (h0 h1 : Nat) (W : List Nat) (gw : Nat → Int32) (K : Nat) (hw : W.length ≤ 10) (hQ : RW W gw) (hK : K < W.length) : CV G yX6_remove wsX6_remove 1 60 [.ref h0, .int (nI K)] [(h0, .inr (6, [.int (nI W.length), .ref h1])), (h1, .inl (gy G 0, 10, .inl gw))] (fun (u : Nat → Int32) => RW (W.eraseIdx K) u) (fun (u : Nat → Int32) => [(h0, .inr (6, [.int (nI ((W.eraseIdx K).length)), .ref h1])), (h1, .inl (gy G 0, 10, .inl u))]) 0 0 := by
  refine g_enterV RX6 rfl (by decide) rfl (Nat.le_of_ble_eq_true rfl) ?_
  intro V E RET
  refine g_iload_n E dX6_remove_0 rfl 1 rfl ?_
  refine g_if_ltN (tgt := 54) (a := K) E dX6_remove_1 (by decide) (by omega) ?_
  refine g_iload_n E dX6_remove_4 rfl 1 rfl ?_
  refine g_aload_n E dX6_remove_5 rfl 0 rfl ?_
  refine g_get E uX6_remove_RX6 0 rfl rfl 0 (by decide) kX6_remove_15 rfl rfl dX6_remove_6 ?_
  refine g_icmp_geN (tgt := 54) (a := K) (b := W.length) E dX6_remove_9 (by decide) (by omega) (by omega) (fun c1 => ?_) (fun c1 => ?_)
  · exfalso
    omega
  · skip
    refine g_aload_n E dX6_remove_12 rfl 0 rfl ?_
    refine g_get E uX6_remove_RX6 0 rfl rfl 0 (by decide) kX6_remove_15 rfl rfl dX6_remove_13 ?_
    refine g_bipush (v := 10) E dX6_remove_16 (by decide) ?_
    refine g_icmp_gtN (tgt := 54) (a := W.length) (b := 10) E dX6_remove_18 (by decide) (by omega) (by omega) (fun c2 => ?_) (fun c2 => ?_)
    · exfalso
      omega
    · skip
      refine g_aload_n E dX6_remove_21 rfl 0 rfl ?_
      refine g_get E uX6_remove_RX6 0 rfl rfl 1 (by decide) kX6_remove_11 rfl rfl dX6_remove_22 ?_
      refine g_iload_n E dX6_remove_25 rfl 1 rfl ?_
      refine g_iconst (v := 1) E dX6_remove_26 (by decide) ?_
      refine g_iaddN (a := K) (b := 1) E dX6_remove_27 ?_
      refine g_aload_n E dX6_remove_28 rfl 0 rfl ?_
      refine g_get E uX6_remove_RX6 0 rfl rfl 1 (by decide) kX6_remove_11 rfl rfl dX6_remove_29 ?_
      refine g_iload_n E dX6_remove_32 rfl 1 rfl ?_
      refine g_aload_n E dX6_remove_33 rfl 0 rfl ?_
      refine g_get E uX6_remove_RX6 0 rfl rfl 0 (by decide) kX6_remove_15 rfl rfl dX6_remove_34 ?_
      refine g_iload_n E dX6_remove_37 rfl 1 rfl ?_
      refine g_isubN (a := W.length) (b := K) E dX6_remove_38 (by omega) ?_
      refine g_iconst (v := 1) E dX6_remove_39 (by decide) ?_
      refine g_isubN (a := W.length - K) (b := 1) E dX6_remove_40 (by omega) ?_
      refine g_copyi (ws' := [(h0, .inr (6, [.int (nI W.length), .ref h1])), (h1, .inl (gy G 0, 10, .inl (va_cpy gw gw (K + 1) K (W.length - K - 1))))]) (sp := K + 1) (dp := K) (n := W.length - K - 1) E (by decide +kernel) (by decide +kernel) (by decide +kernel) (by decide +kernel) 1 1 rfl rfl (by omega) (by omega) (by omega) (by omega) (by omega) (Nat.le_of_ble_eq_true rfl) (Nat.le_of_ble_eq_true rfl) (Nat.le_of_ble_eq_true rfl) rfl dX6_remove_41 ?_
      refine g_aload_n E dX6_remove_44 rfl 0 rfl ?_
      refine g_dup E dX6_remove_45 rfl ?_
      refine g_get E uX6_remove_RX6 0 rfl rfl 0 (by decide) kX6_remove_15 rfl rfl dX6_remove_46 ?_
      refine g_iconst (v := 1) E dX6_remove_49 (by decide) ?_
      refine g_isubN (a := W.length) (b := 1) E dX6_remove_50 (by omega) ?_
      refine g_put (ws' := [(h0, .inr (6, [.int (nI (W.length - 1)), .ref h1])), (h1, .inl (gy G 0, 10, .inl (va_cpy gw gw (K + 1) K (W.length - K - 1))))]) E uX6_remove_RX6 tyX6 tyX6_ok nmX6 0 rfl rfl 0 (by decide) kX6_remove_15 rfl rfl rfl rfl (Nat.le_of_ble_eq_true rfl) rfl dX6_remove_51 ?_
      have el : W.length - 1 = (W.eraseIdx K).length := by rw [List.length_eraseIdx, if_pos hK]
      rw [el]
      exact RET _ _ _ (gRem_RW hQ hK) dX6_remove_54
set_option maxHeartbeats 4000000 in
set_option maxRecDepth 100000 in
theorem mX6_countOf (G : gG) (h0 h1 : Nat) (W : List Nat) (gw : Nat → Int32) (p : Nat) (hw : W.length ≤ 10) (hQ : RW W gw) (hp : p < 1073741824) : CIe G yX6_countOf wsX6_countOf 2 42 [.ref h0, .int (nI p)] [(h0, .inr (6, [.int (nI W.length), .ref h1])), (h1, .inl (gy G 0, 10, .inl gw))] (nI (gCnt (fun i => wq W i / 10 == p) W.length)) [(h0, .inr (6, [.int (nI W.length), .ref h1])), (h1, .inl (gy G 0, 10, .inl gw))] 0 0 := by
  refine g_enterIe (ty := .int) RX6 rfl (by decide) rfl (Nat.le_of_ble_eq_true rfl) ?_
  intro V E RET
  refine g_iconst (v := 0) E dX6_countOf_0 (by decide) ?_
  refine g_istore_n (lv' := [(2, .int 0), (0, .ref h0), (1, .int (nI p))]) E dX6_countOf_1 rfl (by decide) rfl ?_
  refine g_iconst (v := 0) E dX6_countOf_2 (by decide) ?_
  refine g_istore_n (lv' := [(3, .int 0), (2, .int 0), (0, .ref h0), (1, .int (nI p))]) E dX6_countOf_3 rfl (by decide) rfl ?_
  have loop1 : ∀ (n2 : Nat) (k c : Nat), (k ≤ W.length) → (c = gCnt (fun i => wq W i / 10 == p) k) → W.length - k < n2 → gW V 4 0 0 [(h0, .inr (6, [.int (nI W.length), .ref h1])), (h1, .inl (gy G 0, 10, .inl gw))] [(0, .ref h0), (1, .int (nI p)), (2, .int (nI c)), (3, .int (nI k))] 4 [] := by
    intro n2
    induction n2 with
    | zero => intro k c hk hc hm4; exact absurd hm4 (Nat.not_lt_zero _)
    | succ n2 ih3 =>
      intro k c hk hc hm4
      refine g_iload_n E dX6_countOf_4 rfl 3 rfl ?_
      refine g_aload_n E dX6_countOf_5 rfl 0 rfl ?_
      refine g_get E uX6_countOf_RX6 0 rfl rfl 0 (by decide) kX6_countOf_15 rfl rfl dX6_countOf_6 ?_
      refine g_icmp_geN (tgt := 30) (a := k) (b := W.length) E dX6_countOf_9 (by decide) (by omega) (by omega) (fun c5 => ?_) (fun c5 => ?_)
      · skip
        have e9 : nI c = nI (gCnt (fun i => wq W i / 10 == p) W.length) := by rw [hc, show k = W.length by omega]
        refine g_iload_n E dX6_countOf_30 rfl 2 rfl ?_
        exact RET _ _ _ () (e9) rfl dX6_countOf_31
      · skip
        have hkl : k < W.length := by omega
        have q2 := (hQ k hkl).2
        refine g_aload_n E dX6_countOf_12 rfl 0 rfl ?_
        refine g_iload_n E dX6_countOf_13 rfl 3 rfl ?_
        refine g_callVIe (F := []) (ws2 := [(h0, .inr (6, [.int (nI W.length), .ref h1])), (h1, .inl (gy G 0, 10, .inl gw))]) E (mX6_prisonerOf G h0 h1 W gw k hw hQ (by omega)) gX6_countOf_X6_prisonerOf rfl hdX6_prisonerOf ⟨Nat.le_of_ble_eq_true rfl, Nat.le_of_ble_eq_true rfl⟩ 6 0 rfl rfl rfl (gPerm_ix [0, 1] rfl rfl) rfl rfl (Nat.le_of_ble_eq_true rfl) dX6_countOf_14 ⟨Nat.le_of_ble_eq_true rfl, Nat.le_of_ble_eq_true rfl⟩ (gPerm_ix [0, 1] rfl rfl) ?_
        refine g_iload_n E dX6_countOf_17 rfl 1 rfl ?_
        refine g_icmp_neN (tgt := 24) (a := wq W k / 10) (b := p) E dX6_countOf_18 (by decide) (by omega) (by omega) (fun c6 => ?_) (fun c6 => ?_)
        · skip
          refine g_iinc (lv' := [(3, .int (nI (k + 1))), (0, .ref h0), (1, .int (nI p)), (2, .int (nI c))]) E dX6_countOf_24 3 rfl (g_inc _ 1 (by decide)) (by decide) rfl ?_
          refine g_goto (tgt := 4) E dX6_countOf_27 (by decide) ?_
          refine g_lv [1, 2, 3, 0] rfl ?_
          exact ih3  (k + 1) _ (by omega) (by simp [gCnt, hc, c6]) (by omega)
        · skip
          refine g_iinc (lv' := [(2, .int (nI (c + 1))), (0, .ref h0), (1, .int (nI p)), (3, .int (nI k))]) E dX6_countOf_21 2 rfl (g_inc _ 1 (by decide)) (by decide) rfl ?_
          refine g_iinc (lv' := [(3, .int (nI (k + 1))), (2, .int (nI (c + 1))), (0, .ref h0), (1, .int (nI p))]) E dX6_countOf_24 3 rfl (g_inc _ 1 (by decide)) (by decide) rfl ?_
          refine g_goto (tgt := 4) E dX6_countOf_27 (by decide) ?_
          refine g_lv [2, 3, 1, 0] rfl ?_
          exact ih3  (k + 1) _ (by omega) (by simp [gCnt, hc, c6]) (by omega)
  refine g_lv [2, 3, 1, 0] rfl ?_
  exact loop1 _ 0 0 (Nat.zero_le _) rfl (Nat.lt_succ_self _)
set_option maxHeartbeats 4000000 in
set_option maxRecDepth 100000 in
theorem mX6_heldBy (G : gG) (h0 h1 : Nat) (W : List Nat) (gw : Nat → Int32) (hh : Nat) (hf : Nat → Int32) (K : Nat) (hw : W.length ≤ 10) (hQ : RW W gw) (h8 : ∀ j, j < W.length → wq W j < 80) (hK : K < W.length) : CIe G yX6_heldBy wsX6_heldBy 0 0 [.ref h0, .int (nI K), .ref hh] [(h0, .inr (6, [.int (nI W.length), .ref h1])), (h1, .inl (gy G 0, 10, .inl gw)), (hh, .inl (gy G 0, 8, .inl hf))] (hf (wq W K / 10)) [(h0, .inr (6, [.int (nI W.length), .ref h1])), (h1, .inl (gy G 0, 10, .inl gw)), (hh, .inl (gy G 0, 8, .inl hf))] 0 0 := by
  refine g_enterIe (ty := .int) RX6 rfl (by decide) rfl (Nat.le_of_ble_eq_true rfl) ?_
  intro V E RET
  have q2 := h8 K hK
  refine g_iload_n E dX6_heldBy_0 rfl 1 rfl ?_
  refine g_if_ltN (tgt := 22) (a := K) E dX6_heldBy_1 (by decide) (by omega) ?_
  refine g_iload_n E dX6_heldBy_4 rfl 1 rfl ?_
  refine g_bipush (v := 10) E dX6_heldBy_5 (by decide) ?_
  refine g_icmp_geN (tgt := 22) (a := K) (b := 10) E dX6_heldBy_7 (by decide) (by omega) (by omega) (fun c1 => ?_) (fun c1 => ?_)
  · exfalso
    omega
  · skip
    refine g_aload_n E dX6_heldBy_10 rfl 0 rfl ?_
    refine g_get E uX6_heldBy_RX6 0 rfl rfl 1 (by decide) kX6_heldBy_11 rfl rfl dX6_heldBy_11 ?_
    refine g_iload_n E dX6_heldBy_14 rfl 1 rfl ?_
    refine g_ialdN (e := K) E 1 rfl (by omega) rfl (v := nI (wq W K)) ((hQ K hK).1) dX6_heldBy_15 ?_
    refine g_bipush (v := 10) E dX6_heldBy_16 (by decide) ?_
    refine g_idivN (a := wq W K) (b := 10) E dX6_heldBy_18 (by omega) (by omega) (by omega) ?_
    refine g_goto (tgt := 23) E dX6_heldBy_19 (by decide) ?_
    refine g_istore_n (lv' := [(3, .int (nI ((wq W K) / 10))), (0, .ref h0), (1, .int (nI K)), (2, .ref hh)]) E dX6_heldBy_23 rfl (by decide) rfl ?_
    refine g_iload_n E dX6_heldBy_24 rfl 0 rfl ?_
    refine g_if_ltN (tgt := 40) (a := (wq W K) / 10) E dX6_heldBy_25 (by decide) (by omega) ?_
    refine g_iload_n E dX6_heldBy_28 rfl 0 rfl ?_
    refine g_aload_n E dX6_heldBy_29 rfl 3 rfl ?_
    refine g_alen (v := 8) E 2 0 rfl rfl (by first | rfl | decide) dX6_heldBy_30 ?_
    refine g_icmp_geN (tgt := 40) (a := (wq W K) / 10) (b := 8) E dX6_heldBy_31 (by decide) (by omega) (by omega) (fun c2 => ?_) (fun c2 => ?_)
    · exfalso
      omega
    · skip
      refine g_aload_n E dX6_heldBy_34 rfl 3 rfl ?_
      refine g_iload_n E dX6_heldBy_35 rfl 0 rfl ?_
      refine g_ialdN (e := (wq W K) / 10) E 2 rfl (by omega) rfl (v := hf ((wq W K) / 10)) rfl dX6_heldBy_36 ?_
      refine g_goto (tgt := 41) E dX6_heldBy_37 (by decide) ?_
      exact RET _ _ _ () (rfl) rfl dX6_heldBy_41
set_option maxHeartbeats 4000000 in
set_option maxRecDepth 100000 in
theorem mX6_turnOf (G : gG) (h0 h1 : Nat) (W : List Nat) (gw : Nat → Int32) (hh : Nat) (hf : Nat → Int32) (K : Nat) (hw : W.length ≤ 10) (hQ : RW W gw) (h8 : ∀ j, j < W.length → wq W j < 80) (hK : K < W.length) : CIe G yX6_turnOf wsX6_turnOf 1 23 [.ref h0, .int (nI K), .ref hh] [(h0, .inr (6, [.int (nI W.length), .ref h1])), (h1, .inl (gy G 0, 10, .inl gw)), (hh, .inl (gy G 0, 8, .inl hf))] (nI (gRank W hf K)) [(h0, .inr (6, [.int (nI W.length), .ref h1])), (h1, .inl (gy G 0, 10, .inl gw)), (hh, .inl (gy G 0, 8, .inl hf))] 0 0 := by
  refine g_enterIe (ty := .int) RX6 rfl (by decide) rfl (Nat.le_of_ble_eq_true rfl) ?_
  intro V E RET
  refine g_aload_n E dX6_turnOf_0 rfl 0 rfl ?_
  refine g_iload_n E dX6_turnOf_1 rfl 1 rfl ?_
  refine g_aload_n E dX6_turnOf_2 rfl 2 rfl ?_
  refine g_callVIe (F := []) (ws2 := [(h0, .inr (6, [.int (nI W.length), .ref h1])), (h1, .inl (gy G 0, 10, .inl gw)), (hh, .inl (gy G 0, 8, .inl hf))]) E (mX6_heldBy G h0 h1 W gw hh hf K hw hQ h8 (by omega)) gX6_turnOf_X6_heldBy rfl hdX6_heldBy ⟨Nat.le_of_ble_eq_true rfl, Nat.le_of_ble_eq_true rfl⟩ 6 0 rfl rfl rfl (gPerm_ix [0, 1, 2] rfl rfl) rfl rfl (Nat.le_of_ble_eq_true rfl) dX6_turnOf_3 ⟨Nat.le_of_ble_eq_true rfl, Nat.le_of_ble_eq_true rfl⟩ (gPerm_ix [0, 1, 2] rfl rfl) ?_
  refine g_istore_n (lv' := [(3, .int (hf (wq W K / 10))), (0, .ref h0), (1, .int (nI K)), (2, .ref hh)]) E dX6_turnOf_6 rfl (by decide) rfl ?_
  refine g_iconst (v := 0) E dX6_turnOf_7 (by decide) ?_
  refine g_istore (lv' := [(4, .int 0), (3, .int (hf (wq W K / 10))), (0, .ref h0), (1, .int (nI K)), (2, .ref hh)]) E dX6_turnOf_8 (by decide) rfl ?_
  refine g_iconst (v := 0) E dX6_turnOf_10 (by decide) ?_
  refine g_istore (lv' := [(5, .int 0), (4, .int 0), (3, .int (hf (wq W K / 10))), (0, .ref h0), (1, .int (nI K)), (2, .ref hh)]) E dX6_turnOf_11 (by decide) rfl ?_
  have loop1 : ∀ (n2 : Nat) (k c : Nat), (k ≤ W.length) → (c = gCnt (gRk W hf K) k) → W.length - k < n2 → gW V 7 0 0 [(h0, .inr (6, [.int (nI W.length), .ref h1])), (h1, .inl (gy G 0, 10, .inl gw)), (hh, .inl (gy G 0, 8, .inl hf))] [(0, .ref h0), (1, .int (nI K)), (2, .ref hh), (3, .int (hf (wq W K / 10))), (4, .int (nI c)), (5, .int (nI k))] 13 [] := by
    intro n2
    induction n2 with
    | zero => intro k c hk hc hm4; exact absurd hm4 (Nat.not_lt_zero _)
    | succ n2 ih3 =>
      intro k c hk hc hm4
      refine g_iload E dX6_turnOf_13 5 rfl ?_
      refine g_aload_n E dX6_turnOf_15 rfl 0 rfl ?_
      refine g_get E uX6_turnOf_RX6 0 rfl rfl 0 (by decide) kX6_turnOf_15 rfl rfl dX6_turnOf_16 ?_
      refine g_icmp_geN (tgt := 58) (a := k) (b := W.length) E dX6_turnOf_19 (by decide) (by omega) (by omega) (fun c5 => ?_) (fun c5 => ?_)
      · skip
        have e9 : nI c = nI (gRank W hf K) := by rw [hc, gRank, show k = W.length by omega]
        refine g_iload E dX6_turnOf_58 4 rfl ?_
        exact RET _ _ _ () (e9) rfl dX6_turnOf_60
      · skip
        have hkl : k < W.length := by omega
        refine g_aload_n E dX6_turnOf_22 rfl 0 rfl ?_
        refine g_iload E dX6_turnOf_23 5 rfl ?_
        refine g_aload_n E dX6_turnOf_25 rfl 2 rfl ?_
        refine g_callVIe (F := []) (ws2 := [(h0, .inr (6, [.int (nI W.length), .ref h1])), (h1, .inl (gy G 0, 10, .inl gw)), (hh, .inl (gy G 0, 8, .inl hf))]) E (mX6_heldBy G h0 h1 W gw hh hf k hw hQ h8 (by omega)) gX6_turnOf_X6_heldBy rfl hdX6_heldBy ⟨Nat.le_of_ble_eq_true rfl, Nat.le_of_ble_eq_true rfl⟩ 6 0 rfl rfl rfl (gPerm_ix [0, 1, 2] rfl rfl) rfl rfl (Nat.le_of_ble_eq_true rfl) dX6_turnOf_26 ⟨Nat.le_of_ble_eq_true rfl, Nat.le_of_ble_eq_true rfl⟩ (gPerm_ix [0, 1, 2] rfl rfl) ?_
        refine g_istore (lv' := [(6, .int (hf (wq W k / 10))), (0, .ref h0), (1, .int (nI K)), (2, .ref hh), (3, .int (hf (wq W K / 10))), (4, .int (nI c)), (5, .int (nI k))]) E dX6_turnOf_29 (by decide) rfl ?_
        refine g_iload E dX6_turnOf_31 0 rfl ?_
        refine g_iload_n E dX6_turnOf_33 rfl 4 rfl ?_
        refine g_icmp_lt (tgt := 49) E dX6_turnOf_34 (by decide) (fun c6 => ?_) (fun c6 => ?_)
        · skip
          refine g_iinc (lv' := [(4, .int (nI (c + 1))), (6, .int (hf (wq W k / 10))), (0, .ref h0), (1, .int (nI K)), (2, .ref hh), (3, .int (hf (wq W K / 10))), (5, .int (nI k))]) E dX6_turnOf_49 5 rfl (g_inc _ 1 (by decide)) (by decide) rfl ?_
          refine g_iinc (lv' := [(5, .int (nI (k + 1))), (4, .int (nI (c + 1))), (6, .int (hf (wq W k / 10))), (0, .ref h0), (1, .int (nI K)), (2, .ref hh), (3, .int (hf (wq W K / 10)))]) E dX6_turnOf_52 6 rfl (g_inc _ 1 (by decide)) (by decide) rfl ?_
          refine g_goto (tgt := 13) E dX6_turnOf_55 (by decide) ?_
          refine g_lv [3, 4, 5, 6, 1, 0] rfl ?_
          exact ih3  (k + 1) _ (by omega) (by simp [gCnt, gRk, hc, c5, c6]) (by omega)
        · skip
          refine g_iload E dX6_turnOf_37 0 rfl ?_
          refine g_iload_n E dX6_turnOf_39 rfl 4 rfl ?_
          refine g_icmp_ne (tgt := 52) E dX6_turnOf_40 (by decide) (fun c7 => ?_) (fun c7 => ?_)
          · skip
            refine g_iinc (lv' := [(5, .int (nI (k + 1))), (6, .int (hf (wq W k / 10))), (0, .ref h0), (1, .int (nI K)), (2, .ref hh), (3, .int (hf (wq W K / 10))), (4, .int (nI c))]) E dX6_turnOf_52 6 rfl (g_inc _ 1 (by decide)) (by decide) rfl ?_
            refine g_goto (tgt := 13) E dX6_turnOf_55 (by decide) ?_
            refine g_lv [2, 3, 4, 5, 6, 0] rfl ?_
            exact ih3  (k + 1) _ (by omega) (by simp [gCnt, gRk, hc, c5, c6, c7]) (by omega)
          · skip
            refine g_iload E dX6_turnOf_43 6 rfl ?_
            refine g_iload_n E dX6_turnOf_45 rfl 2 rfl ?_
            refine g_icmp_geN (tgt := 52) (a := k) (b := K) E dX6_turnOf_46 (by decide) (by omega) (by omega) (fun c8 => ?_) (fun c8 => ?_)
            · skip
              refine g_iinc (lv' := [(5, .int (nI (k + 1))), (6, .int (hf (wq W k / 10))), (0, .ref h0), (1, .int (nI K)), (2, .ref hh), (3, .int (hf (wq W K / 10))), (4, .int (nI c))]) E dX6_turnOf_52 6 rfl (g_inc _ 1 (by decide)) (by decide) rfl ?_
              refine g_goto (tgt := 13) E dX6_turnOf_55 (by decide) ?_
              refine g_lv [2, 3, 4, 5, 6, 0] rfl ?_
              exact ih3  (k + 1) _ (by omega) (by simp [gCnt, gRk, hc, c5, c6, c7, c8]) (by omega)
            · skip
              refine g_iinc (lv' := [(4, .int (nI (c + 1))), (6, .int (hf (wq W k / 10))), (0, .ref h0), (1, .int (nI K)), (2, .ref hh), (3, .int (hf (wq W K / 10))), (5, .int (nI k))]) E dX6_turnOf_49 5 rfl (g_inc _ 1 (by decide)) (by decide) rfl ?_
              refine g_iinc (lv' := [(5, .int (nI (k + 1))), (4, .int (nI (c + 1))), (6, .int (hf (wq W k / 10))), (0, .ref h0), (1, .int (nI K)), (2, .ref hh), (3, .int (hf (wq W K / 10)))]) E dX6_turnOf_52 6 rfl (g_inc _ 1 (by decide)) (by decide) rfl ?_
              refine g_goto (tgt := 13) E dX6_turnOf_55 (by decide) ?_
              refine g_lv [3, 4, 5, 6, 1, 0] rfl ?_
              exact ih3  (k + 1) _ (by omega) (by simp [gCnt, gRk, hc, c5, c6, c7, c8]) (by omega)
  refine g_lv [3, 4, 5, 2, 1, 0] rfl ?_
  exact loop1 _ 0 0 (Nat.zero_le _) rfl (Nat.lt_succ_self _)
set_option maxHeartbeats 4000000 in
set_option maxRecDepth 100000 in
theorem mX6_inTurn (G : gG) (h0 h1 : Nat) (W : List Nat) (gw : Nat → Int32) (hh : Nat) (hf : Nat → Int32) (T : Nat) (hw : W.length ≤ 10) (hQ : RW W gw) (h8 : ∀ j, j < W.length → wq W j < 80) (hT : T < 2147483648) : CIe G yX6_inTurn wsX6_inTurn 2 49 [.ref h0, .int (nI T), .ref hh] [(h0, .inr (6, [.int (nI W.length), .ref h1])), (h1, .inl (gy G 0, 10, .inl gw)), (hh, .inl (gy G 0, 8, .inl hf))] (gOptI (gTurn W hf T)) [(h0, .inr (6, [.int (nI W.length), .ref h1])), (h1, .inl (gy G 0, 10, .inl gw)), (hh, .inl (gy G 0, 8, .inl hf))] 0 0 := by
  refine g_enterIe (ty := .int) RX6 rfl (by decide) rfl (Nat.le_of_ble_eq_true rfl) ?_
  intro V E RET
  refine g_iconst (v := 0) E dX6_inTurn_0 (by decide) ?_
  refine g_istore_n (lv' := [(3, .int 0), (0, .ref h0), (1, .int (nI T)), (2, .ref hh)]) E dX6_inTurn_1 rfl (by decide) rfl ?_
  have loop1 : ∀ (n2 : Nat) (k : Nat), (k ≤ W.length) → (∀ j, j < k → ¬ gRank W hf j = T) → W.length - k < n2 → gW V 4 0 0 [(h0, .inr (6, [.int (nI W.length), .ref h1])), (h1, .inl (gy G 0, 10, .inl gw)), (hh, .inl (gy G 0, 8, .inl hf))] [(0, .ref h0), (1, .int (nI T)), (2, .ref hh), (3, .int (nI k))] 2 [] := by
    intro n2
    induction n2 with
    | zero => intro k hk ha hm4; exact absurd hm4 (Nat.not_lt_zero _)
    | succ n2 ih3 =>
      intro k hk ha hm4
      refine g_iload_n E dX6_inTurn_2 rfl 3 rfl ?_
      refine g_aload_n E dX6_inTurn_3 rfl 0 rfl ?_
      refine g_get E uX6_inTurn_RX6 0 rfl rfl 0 (by decide) kX6_inTurn_15 rfl rfl dX6_inTurn_4 ?_
      refine g_icmp_geN (tgt := 28) (a := k) (b := W.length) E dX6_inTurn_7 (by decide) (by omega) (by omega) (fun c5 => ?_) (fun c5 => ?_)
      · skip
        refine g_iconst (v := (-1)) E dX6_inTurn_28 (by decide) ?_
        exact RET _ _ _ () (gTurn_none (fun j hj => ha j (by omega))) rfl dX6_inTurn_29
      · skip
        have hkl : k < W.length := by omega
        have q4 := gRank_le W hf k
        refine g_aload_n E dX6_inTurn_10 rfl 0 rfl ?_
        refine g_iload_n E dX6_inTurn_11 rfl 3 rfl ?_
        refine g_aload_n E dX6_inTurn_12 rfl 2 rfl ?_
        refine g_callVIe (F := []) (ws2 := [(h0, .inr (6, [.int (nI W.length), .ref h1])), (h1, .inl (gy G 0, 10, .inl gw)), (hh, .inl (gy G 0, 8, .inl hf))]) E (mX6_turnOf G h0 h1 W gw hh hf k hw hQ h8 (by omega)) gX6_inTurn_X6_turnOf rfl hdX6_turnOf ⟨Nat.le_of_ble_eq_true rfl, Nat.le_of_ble_eq_true rfl⟩ 6 0 rfl rfl rfl (gPerm_ix [0, 1, 2] rfl rfl) rfl rfl (Nat.le_of_ble_eq_true rfl) dX6_inTurn_13 ⟨Nat.le_of_ble_eq_true rfl, Nat.le_of_ble_eq_true rfl⟩ (gPerm_ix [0, 1, 2] rfl rfl) ?_
        refine g_iload_n E dX6_inTurn_16 rfl 1 rfl ?_
        refine g_icmp_neN (tgt := 22) (a := gRank W hf k) (b := T) E dX6_inTurn_17 (by decide) (by omega) (by omega) (fun c6 => ?_) (fun c6 => ?_)
        · skip
          refine g_iinc (lv' := [(3, .int (nI (k + 1))), (0, .ref h0), (1, .int (nI T)), (2, .ref hh)]) E dX6_inTurn_22 3 rfl (g_inc _ 1 (by decide)) (by decide) rfl ?_
          refine g_goto (tgt := 2) E dX6_inTurn_25 (by decide) ?_
          refine g_lv [1, 2, 3, 0] rfl ?_
          exact ih3  (k + 1) (by omega) (fun j hj => (Nat.lt_succ_iff_lt_or_eq.mp hj).elim (ha j) (fun e => e ▸ c6)) (by omega)
        · skip
          refine g_iload_n E dX6_inTurn_20 rfl 3 rfl ?_
          exact RET _ _ _ () (gTurn_some hkl ha c6) rfl dX6_inTurn_21
  refine g_lv [1, 2, 3, 0] rfl ?_
  exact loop1 _ 0 (Nat.zero_le _) (fun j hj => absurd hj (Nat.not_lt_zero j)) (Nat.lt_succ_self _)
set_option maxHeartbeats 4000000 in
set_option maxRecDepth 100000 in
theorem mX6_copyFrom (G : gG) (h0 h1 : Nat) (W : List Nat) (gw : Nat → Int32) (k0 k1 : Nat) (W2 : List Nat) (gw2 : Nat → Int32)  : CVe G yX6_copyFrom wsX6_copyFrom 1 60 [.ref h0, .ref k0] [(h0, .inr (6, [.int (nI W.length), .ref h1])), (h1, .inl (gy G 0, 10, .inl gw)), (k0, .inr (6, [.int (nI W2.length), .ref k1])), (k1, .inl (gy G 0, 10, .inl gw2))]  [(h0, .inr (6, [.int (nI W2.length), .ref h1])), (h1, .inl (gy G 0, 10, .inl (va_cpy gw2 gw 0 0 10))), (k0, .inr (6, [.int (nI W2.length), .ref k1])), (k1, .inl (gy G 0, 10, .inl gw2))] 0 0 := by
  refine g_enterVe RX6 rfl (by decide) rfl (Nat.le_of_ble_eq_true rfl) ?_
  intro V E RET
  refine g_aload_n E dX6_copyFrom_0 rfl 0 rfl ?_
  refine g_aload_n E dX6_copyFrom_1 rfl 1 rfl ?_
  refine g_get E uX6_copyFrom_RX6 2 rfl rfl 0 (by decide) kX6_copyFrom_15 rfl rfl dX6_copyFrom_2 ?_
  refine g_put (ws' := [(h0, .inr (6, [.int (nI W2.length), .ref h1])), (h1, .inl (gy G 0, 10, .inl gw)), (k0, .inr (6, [.int (nI W2.length), .ref k1])), (k1, .inl (gy G 0, 10, .inl gw2))]) E uX6_copyFrom_RX6 tyX6 tyX6_ok nmX6 0 rfl rfl 0 (by decide) kX6_copyFrom_15 rfl rfl rfl rfl (Nat.le_of_ble_eq_true rfl) rfl dX6_copyFrom_5 ?_
  refine g_aload_n E dX6_copyFrom_8 rfl 1 rfl ?_
  refine g_get E uX6_copyFrom_RX6 2 rfl rfl 1 (by decide) kX6_copyFrom_11 rfl rfl dX6_copyFrom_9 ?_
  refine g_iconst (v := 0) E dX6_copyFrom_12 (by decide) ?_
  refine g_aload_n E dX6_copyFrom_13 rfl 0 rfl ?_
  refine g_get E uX6_copyFrom_RX6 0 rfl rfl 1 (by decide) kX6_copyFrom_11 rfl rfl dX6_copyFrom_14 ?_
  refine g_iconst (v := 0) E dX6_copyFrom_17 (by decide) ?_
  refine g_bipush (v := 10) E dX6_copyFrom_18 (by decide) ?_
  refine g_copyi (ws' := [(h0, .inr (6, [.int (nI W2.length), .ref h1])), (h1, .inl (gy G 0, 10, .inl (va_cpy gw2 gw 0 0 10))), (k0, .inr (6, [.int (nI W2.length), .ref k1])), (k1, .inl (gy G 0, 10, .inl gw2))]) (sp := 0) (dp := 0) (n := 10) E (by decide +kernel) (by decide +kernel) (by decide +kernel) (by decide +kernel) 3 1 rfl rfl (by omega) (by omega) (by omega) (by omega) (by omega) (Nat.le_of_ble_eq_true rfl) (Nat.le_of_ble_eq_true rfl) (Nat.le_of_ble_eq_true rfl) rfl dX6_copyFrom_20 ?_
  exact RET _ _ () (trivial) dX6_copyFrom_23
