set_option maxHeartbeats 4000000 in
set_option maxRecDepth 100000 in
theorem mX8_append (G : gG) (m : Nat → Nat) (q : Nat → Int32) (n c : Nat) (sg : Nat → Int32) (S : gSt) (H : Nat → gSt) (sl : Nat → Option gSt) (rd f tr dy kp ik tn : Nat → Int32) (x : Int32) (hn12 : n ≤ 120) (hO : gOk 50000 S) (hc14 : c ≤ 14) (hHo : gHok 50000 c H) (hRR : RR S f) (hD : gDry c H dy) (hKp : gKpt sl kp ik) : CI G yX8_append wsX8_append 1 25 [.ref (m 0), .int x] [(m 0, .inr (8, [.int (q 0), .ref (m 1), .int (nI n), .int (q 2), .int (q 3), .int (q 4), .ref (m 2), .ref (m 3), .ref (m 4), .ref (m 5), .int (nI c), .ref (m 6), .ref (m 7), .ref (m 8), .int (q 6), .int (q 7), .int (q 8)])), (m 1, .inl (gy G 0, 120, .inl sg)), (m 2, .inl (gy G 0, 271, .inl rd)), (m 3, .inl (gy G 0, 271, .inl f)), (m 4, .inl (gy G 0, 271, .inl tr)), (m 5, .inl (gy G 0, 3794, .inl dy)), (m 6, .inl (gy G 0, 542, .inl kp)), (m 7, .inl (gy G 2, 2, .inl ik)), (m 8, .inl (gy G 0, 10, .inl tn))] (gRefP (fAppend ((n, sg), S, (c, H), sl) x)) (fun (u : gRu) => (wR G m u)) 0 0 := by
  refine g_enterI (ty := .int) RX8 rfl (by decide) rfl (Nat.le_of_ble_eq_true rfl) ?_
  intro V E RET
  have hK := hO.1
  have hJ := hK.1
  have hI := hJ.1
  have hT1 := hO.2.2
  have hT2 : sN S 0 < 200000000 := by omega
  have hT : sN S 0 < 1000000000 := by omega
  have hb2 := gI2_b2 hJ
  have hX := hI
  obtain ⟨hP8, hn, hw, hW8, hs3, hs4, hs5, hs6, hs7, hs8, hb34⟩ := hX
  refine g_aload_n E dX8_append_0 rfl 0 rfl ?_
  refine g_iload_n E dX8_append_1 rfl 1 rfl ?_
  refine g_i2l (v := x.toInt64) E dX8_append_2 rfl ?_
  refine g_lconst (v := 0) E dX8_append_3 (by decide) ?_
  refine g_ldc2 (v := 255) E kX8_append_146 dX8_append_4 ?_
  refine g_callSIe (F := [(m 0, .inr (8, [.int (q 0), .ref (m 1), .int (nI n), .int (q 2), .int (q 3), .int (q 4), .ref (m 2), .ref (m 3), .ref (m 4), .ref (m 5), .int (nI c), .ref (m 6), .ref (m 7), .ref (m 8), .int (q 6), .int (q 7), .int (q 8)])), (m 1, .inl (gy G 0, 120, .inl sg)), (m 2, .inl (gy G 0, 271, .inl rd)), (m 3, .inl (gy G 0, 271, .inl f)), (m 4, .inl (gy G 0, 271, .inl tr)), (m 5, .inl (gy G 0, 3794, .inl dy)), (m 6, .inl (gy G 0, 542, .inl kp)), (m 7, .inl (gy G 2, 2, .inl ik)), (m 8, .inl (gy G 0, 10, .inl tn))]) (ws2 := [(m 0, .inr (8, [.int (q 0), .ref (m 1), .int (nI n), .int (q 2), .int (q 3), .int (q 4), .ref (m 2), .ref (m 3), .ref (m 4), .ref (m 5), .int (nI c), .ref (m 6), .ref (m 7), .ref (m 8), .int (q 6), .int (q 7), .int (q 8)])), (m 1, .inl (gy G 0, 120, .inl sg)), (m 2, .inl (gy G 0, 271, .inl rd)), (m 3, .inl (gy G 0, 271, .inl f)), (m 4, .inl (gy G 0, 271, .inl tr)), (m 5, .inl (gy G 0, 3794, .inl dy)), (m 6, .inl (gy G 0, 542, .inl kp)), (m 7, .inl (gy G 2, 2, .inl ik)), (m 8, .inl (gy G 0, 10, .inl tn))]) E (g_resI (gIn64 (lo := 0) (hi := 255) rfl rfl) (mX8_in G x.toInt64 0 255)) gX8_append_X8_in rfl hnX8_in ⟨Nat.le_of_ble_eq_true rfl, Nat.le_of_ble_eq_true rfl⟩ (gPerm_ix [0, 1, 2, 3, 4, 5, 6, 7, 8] rfl rfl) rfl rfl (Nat.le_of_ble_eq_true rfl) dX8_append_7 ⟨Nat.le_of_ble_eq_true rfl, Nat.le_of_ble_eq_true rfl⟩ (gPerm_ix [0, 1, 2, 3, 4, 5, 6, 7, 8] rfl rfl) ?_
  refine g_if_neB (tgt := 17) (P := (¬ x < 0 ∧ ¬ 255 < x)) E dX8_append_10 (by decide) (fun c1 => ?_) (fun c1 => ?_)
  · skip
    refine g_aload_n E dX8_append_17 rfl 0 rfl ?_
    refine g_get E uX8_append_RX8 0 rfl rfl 2 (by decide) kX8_append_148 rfl rfl dX8_append_18 ?_
    refine g_bipush (v := 120) E dX8_append_21 (by decide) ?_
    refine g_icmp_neN (tgt := 30) (a := n) (b := 120) E dX8_append_23 (by decide) (by omega) (by omega) (fun c2 => ?_) (fun c2 => ?_)
    · skip
      have hn119 : n < 120 := by omega
      refine g_iconst (v := 0) E dX8_append_30 (by decide) ?_
      refine g_callVIe (F := [(m 1, .inl (gy G 0, 120, .inl sg)), (m 2, .inl (gy G 0, 271, .inl rd)), (m 3, .inl (gy G 0, 271, .inl f)), (m 4, .inl (gy G 0, 271, .inl tr)), (m 5, .inl (gy G 0, 3794, .inl dy)), (m 6, .inl (gy G 0, 542, .inl kp)), (m 7, .inl (gy G 2, 2, .inl ik)), (m 8, .inl (gy G 0, 10, .inl tn))]) (ws2 := [(m 0, .inr (8, [.int 0, .ref (m 1), .int (nI n), .int (q 2), .int (q 3), .int (q 4), .ref (m 2), .ref (m 3), .ref (m 4), .ref (m 5), .int (nI c), .ref (m 6), .ref (m 7), .ref (m 8), .int (q 6), .int (q 7), .int (q 8)])), (m 1, .inl (gy G 0, 120, .inl sg)), (m 2, .inl (gy G 0, 271, .inl rd)), (m 3, .inl (gy G 0, 271, .inl f)), (m 4, .inl (gy G 0, 271, .inl tr)), (m 5, .inl (gy G 0, 3794, .inl dy)), (m 6, .inl (gy G 0, 542, .inl kp)), (m 7, .inl (gy G 2, 2, .inl ik)), (m 8, .inl (gy G 0, 10, .inl tn))]) E (mX8_refused G m (qU (qU q 1 (nI n)) 5 (nI c)) 0) gX8_append_X8_refused rfl hdX8_refused ⟨Nat.le_of_ble_eq_true rfl, Nat.le_of_ble_eq_true rfl⟩ 8 0 rfl rfl rfl (gPerm_ix [0, 1, 2, 3, 4, 5, 6, 7, 8] rfl rfl) rfl rfl (Nat.le_of_ble_eq_true rfl) dX8_append_31 ⟨Nat.le_of_ble_eq_true rfl, Nat.le_of_ble_eq_true rfl⟩ (gPerm_ix [0, 1, 2, 3, 4, 5, 6, 7, 8] rfl rfl) ?_
      refine g_if_eq (tgt := 39) E dX8_append_34 (by decide) (fun _ => ?_) (fun c => absurd c (by decide))
      refine g_aload_n E dX8_append_39 rfl 0 rfl ?_
      refine g_get E uX8_append_RX8 0 rfl rfl 1 (by decide) kX8_append_7 rfl rfl dX8_append_40 ?_
      refine g_aload_n E dX8_append_43 rfl 0 rfl ?_
      refine g_get E uX8_append_RX8 0 rfl rfl 2 (by decide) kX8_append_148 rfl rfl dX8_append_44 ?_
      refine g_iload_n E dX8_append_47 rfl 1 rfl ?_
      refine g_iast (ws' := [(m 0, .inr (8, [.int 0, .ref (m 1), .int (nI n), .int (q 2), .int (q 3), .int (q 4), .ref (m 2), .ref (m 3), .ref (m 4), .ref (m 5), .int (nI c), .ref (m 6), .ref (m 7), .ref (m 8), .int (q 6), .int (q 7), .int (q 8)])), (m 1, .inl (gy G 0, 120, .inl (upd sg n x))), (m 2, .inl (gy G 0, 271, .inl rd)), (m 3, .inl (gy G 0, 271, .inl f)), (m 4, .inl (gy G 0, 271, .inl tr)), (m 5, .inl (gy G 0, 3794, .inl dy)), (m 6, .inl (gy G 0, 542, .inl kp)), (m 7, .inl (gy G 2, 2, .inl ik)), (m 8, .inl (gy G 0, 10, .inl tn))]) (j := n) (y := x) E 1 rfl (g_in (e := n) (by omega) rfl) (nI_clamp (n := n) (by omega)) rfl rfl dX8_append_48 ?_
      refine g_aload_n E dX8_append_49 rfl 0 rfl ?_
      refine g_dup E dX8_append_50 rfl ?_
      refine g_get E uX8_append_RX8 0 rfl rfl 2 (by decide) kX8_append_148 rfl rfl dX8_append_51 ?_
      refine g_iconst (v := 1) E dX8_append_54 (by decide) ?_
      refine g_iaddN (a := n) (b := 1) E dX8_append_55 ?_
      refine g_put (ws' := [(m 0, .inr (8, [.int 0, .ref (m 1), .int (nI (n + 1)), .int (q 2), .int (q 3), .int (q 4), .ref (m 2), .ref (m 3), .ref (m 4), .ref (m 5), .int (nI c), .ref (m 6), .ref (m 7), .ref (m 8), .int (q 6), .int (q 7), .int (q 8)])), (m 1, .inl (gy G 0, 120, .inl (upd sg n x))), (m 2, .inl (gy G 0, 271, .inl rd)), (m 3, .inl (gy G 0, 271, .inl f)), (m 4, .inl (gy G 0, 271, .inl tr)), (m 5, .inl (gy G 0, 3794, .inl dy)), (m 6, .inl (gy G 0, 542, .inl kp)), (m 7, .inl (gy G 2, 2, .inl ik)), (m 8, .inl (gy G 0, 10, .inl tn))]) E uX8_append_RX8 tyX8 tyX8_ok nmX8 0 rfl rfl 2 (by decide) kX8_append_148 rfl rfl rfl rfl (Nat.le_of_ble_eq_true rfl) rfl dX8_append_56 ?_
      refine g_aload_n E dX8_append_59 rfl 0 rfl ?_
      refine g_get E uX8_append_RX8 0 rfl rfl 2 (by decide) kX8_append_148 rfl rfl dX8_append_60 ?_
      exact RET _ _ _ (qU (qU (qU q 0 0) 1 (nI (n + 1))) 5 (nI c), upd sg n x, rd, f, tr, dy, kp, ik, tn) (gRefP_mk (k := 0) (A := ((n + 1, upd sg n x), S, (c, H), sl)) (by rw [fAppend, if_pos c1, if_neg c2]) rfl (fun _ => rfl) ⟨rfl, rfl, hRR, rfl, hD, hKp⟩) rfl dX8_append_63
    · skip
      refine g_iconst (v := 2) E dX8_append_26 (by decide) ?_
      refine g_goto (tgt := 31) E dX8_append_27 (by decide) ?_
      refine g_callVIe (F := [(m 1, .inl (gy G 0, 120, .inl sg)), (m 2, .inl (gy G 0, 271, .inl rd)), (m 3, .inl (gy G 0, 271, .inl f)), (m 4, .inl (gy G 0, 271, .inl tr)), (m 5, .inl (gy G 0, 3794, .inl dy)), (m 6, .inl (gy G 0, 542, .inl kp)), (m 7, .inl (gy G 2, 2, .inl ik)), (m 8, .inl (gy G 0, 10, .inl tn))]) (ws2 := [(m 0, .inr (8, [.int 2, .ref (m 1), .int (nI n), .int (q 2), .int (q 3), .int (q 4), .ref (m 2), .ref (m 3), .ref (m 4), .ref (m 5), .int (nI c), .ref (m 6), .ref (m 7), .ref (m 8), .int (q 6), .int (q 7), .int (q 8)])), (m 1, .inl (gy G 0, 120, .inl sg)), (m 2, .inl (gy G 0, 271, .inl rd)), (m 3, .inl (gy G 0, 271, .inl f)), (m 4, .inl (gy G 0, 271, .inl tr)), (m 5, .inl (gy G 0, 3794, .inl dy)), (m 6, .inl (gy G 0, 542, .inl kp)), (m 7, .inl (gy G 2, 2, .inl ik)), (m 8, .inl (gy G 0, 10, .inl tn))]) E (mX8_refused G m (qU (qU q 1 (nI n)) 5 (nI c)) 2) gX8_append_X8_refused rfl hdX8_refused ⟨Nat.le_of_ble_eq_true rfl, Nat.le_of_ble_eq_true rfl⟩ 8 0 rfl rfl rfl (gPerm_ix [0, 1, 2, 3, 4, 5, 6, 7, 8] rfl rfl) rfl rfl (Nat.le_of_ble_eq_true rfl) dX8_append_31 ⟨Nat.le_of_ble_eq_true rfl, Nat.le_of_ble_eq_true rfl⟩ (gPerm_ix [0, 1, 2, 3, 4, 5, 6, 7, 8] rfl rfl) ?_
      refine g_if_eq (tgt := 39) E dX8_append_34 (by decide) (fun c => absurd c (by decide)) (fun _ => ?_)
      refine g_iconst (v := 0) E dX8_append_37 (by decide) ?_
      exact RET _ _ _ (qU (qU (qU q 0 2) 1 (nI n)) 5 (nI c), sg, rd, f, tr, dy, kp, ik, tn) (gRefP_mk (k := 2) (A := ((n, sg), S, (c, H), sl)) (by rw [fAppend, if_pos c1, if_pos c2]) rfl (fun e => absurd e (by decide)) ⟨rfl, rfl, hRR, rfl, hD, hKp⟩) rfl dX8_append_38
  · skip
    refine g_iconst (v := 1) E dX8_append_13 (by decide) ?_
    refine g_goto (tgt := 31) E dX8_append_14 (by decide) ?_
    refine g_callVIe (F := [(m 1, .inl (gy G 0, 120, .inl sg)), (m 2, .inl (gy G 0, 271, .inl rd)), (m 3, .inl (gy G 0, 271, .inl f)), (m 4, .inl (gy G 0, 271, .inl tr)), (m 5, .inl (gy G 0, 3794, .inl dy)), (m 6, .inl (gy G 0, 542, .inl kp)), (m 7, .inl (gy G 2, 2, .inl ik)), (m 8, .inl (gy G 0, 10, .inl tn))]) (ws2 := [(m 0, .inr (8, [.int 1, .ref (m 1), .int (nI n), .int (q 2), .int (q 3), .int (q 4), .ref (m 2), .ref (m 3), .ref (m 4), .ref (m 5), .int (nI c), .ref (m 6), .ref (m 7), .ref (m 8), .int (q 6), .int (q 7), .int (q 8)])), (m 1, .inl (gy G 0, 120, .inl sg)), (m 2, .inl (gy G 0, 271, .inl rd)), (m 3, .inl (gy G 0, 271, .inl f)), (m 4, .inl (gy G 0, 271, .inl tr)), (m 5, .inl (gy G 0, 3794, .inl dy)), (m 6, .inl (gy G 0, 542, .inl kp)), (m 7, .inl (gy G 2, 2, .inl ik)), (m 8, .inl (gy G 0, 10, .inl tn))]) E (mX8_refused G m (qU (qU q 1 (nI n)) 5 (nI c)) 1) gX8_append_X8_refused rfl hdX8_refused ⟨Nat.le_of_ble_eq_true rfl, Nat.le_of_ble_eq_true rfl⟩ 8 0 rfl rfl rfl (gPerm_ix [0, 1, 2, 3, 4, 5, 6, 7, 8] rfl rfl) rfl rfl (Nat.le_of_ble_eq_true rfl) dX8_append_31 ⟨Nat.le_of_ble_eq_true rfl, Nat.le_of_ble_eq_true rfl⟩ (gPerm_ix [0, 1, 2, 3, 4, 5, 6, 7, 8] rfl rfl) ?_
    refine g_if_eq (tgt := 39) E dX8_append_34 (by decide) (fun c => absurd c (by decide)) (fun _ => ?_)
    refine g_iconst (v := 0) E dX8_append_37 (by decide) ?_
    exact RET _ _ _ (qU (qU (qU q 0 1) 1 (nI n)) 5 (nI c), sg, rd, f, tr, dy, kp, ik, tn) (gRefP_mk (k := 1) (A := ((n, sg), S, (c, H), sl)) (by rw [fAppend, if_neg c1]) rfl (fun e => absurd e (by decide)) ⟨rfl, rfl, hRR, rfl, hD, hKp⟩) rfl dX8_append_38

set_option maxHeartbeats 4000000 in
set_option maxRecDepth 100000 in
theorem mX8_clearText (G : gG) (m : Nat → Nat) (q : Nat → Int32) (n c : Nat) (sg : Nat → Int32) (S : gSt) (H : Nat → gSt) (sl : Nat → Option gSt) (rd f tr dy kp ik tn : Nat → Int32)  (hn12 : n ≤ 120) (hO : gOk 50000 S) (hc14 : c ≤ 14) (hHo : gHok 50000 c H) (hRR : RR S f) (hD : gDry c H dy) (hKp : gKpt sl kp ik) : CI G yX8_clearText wsX8_clearText 0 0 [.ref (m 0)] [(m 0, .inr (8, [.int (q 0), .ref (m 1), .int (nI n), .int (q 2), .int (q 3), .int (q 4), .ref (m 2), .ref (m 3), .ref (m 4), .ref (m 5), .int (nI c), .ref (m 6), .ref (m 7), .ref (m 8), .int (q 6), .int (q 7), .int (q 8)])), (m 1, .inl (gy G 0, 120, .inl sg)), (m 2, .inl (gy G 0, 271, .inl rd)), (m 3, .inl (gy G 0, 271, .inl f)), (m 4, .inl (gy G 0, 271, .inl tr)), (m 5, .inl (gy G 0, 3794, .inl dy)), (m 6, .inl (gy G 0, 542, .inl kp)), (m 7, .inl (gy G 2, 2, .inl ik)), (m 8, .inl (gy G 0, 10, .inl tn))] (gRefP (fClear ((n, sg), S, (c, H), sl))) (fun (u : gRu) => (wR G m u)) 0 0 := by
  refine g_enterI (ty := .int) RX8 rfl (by decide) rfl (Nat.le_of_ble_eq_true rfl) ?_
  intro V E RET
  have hK := hO.1
  have hJ := hK.1
  have hI := hJ.1
  have hT1 := hO.2.2
  have hT2 : sN S 0 < 200000000 := by omega
  have hT : sN S 0 < 1000000000 := by omega
  have hb2 := gI2_b2 hJ
  have hX := hI
  obtain ⟨hP8, hn, hw, hW8, hs3, hs4, hs5, hs6, hs7, hs8, hb34⟩ := hX
  refine g_aload_n E dX8_clearText_0 rfl 0 rfl ?_
  refine g_iconst (v := 0) E dX8_clearText_1 (by decide) ?_
  refine g_put (ws' := [(m 0, .inr (8, [.int 0, .ref (m 1), .int (nI n), .int (q 2), .int (q 3), .int (q 4), .ref (m 2), .ref (m 3), .ref (m 4), .ref (m 5), .int (nI c), .ref (m 6), .ref (m 7), .ref (m 8), .int (q 6), .int (q 7), .int (q 8)])), (m 1, .inl (gy G 0, 120, .inl sg)), (m 2, .inl (gy G 0, 271, .inl rd)), (m 3, .inl (gy G 0, 271, .inl f)), (m 4, .inl (gy G 0, 271, .inl tr)), (m 5, .inl (gy G 0, 3794, .inl dy)), (m 6, .inl (gy G 0, 542, .inl kp)), (m 7, .inl (gy G 2, 2, .inl ik)), (m 8, .inl (gy G 0, 10, .inl tn))]) E uX8_clearText_RX8 tyX8 tyX8_ok nmX8 0 rfl rfl 0 (by decide) kX8_clearText_39 rfl rfl rfl rfl (Nat.le_of_ble_eq_true rfl) rfl dX8_clearText_2 ?_
  refine g_aload_n E dX8_clearText_5 rfl 0 rfl ?_
  refine g_get E uX8_clearText_RX8 0 rfl rfl 2 (by decide) kX8_clearText_148 rfl rfl dX8_clearText_6 ?_
  refine g_istore_n (lv' := [(1, .int (nI n)), (0, .ref (m 0))]) E dX8_clearText_9 rfl (by decide) rfl ?_
  refine g_aload_n E dX8_clearText_10 rfl 1 rfl ?_
  refine g_iconst (v := 0) E dX8_clearText_11 (by decide) ?_
  refine g_put (ws' := [(m 0, .inr (8, [.int 0, .ref (m 1), .int 0, .int (q 2), .int (q 3), .int (q 4), .ref (m 2), .ref (m 3), .ref (m 4), .ref (m 5), .int (nI c), .ref (m 6), .ref (m 7), .ref (m 8), .int (q 6), .int (q 7), .int (q 8)])), (m 1, .inl (gy G 0, 120, .inl sg)), (m 2, .inl (gy G 0, 271, .inl rd)), (m 3, .inl (gy G 0, 271, .inl f)), (m 4, .inl (gy G 0, 271, .inl tr)), (m 5, .inl (gy G 0, 3794, .inl dy)), (m 6, .inl (gy G 0, 542, .inl kp)), (m 7, .inl (gy G 2, 2, .inl ik)), (m 8, .inl (gy G 0, 10, .inl tn))]) E uX8_clearText_RX8 tyX8 tyX8_ok nmX8 0 rfl rfl 2 (by decide) kX8_clearText_148 rfl rfl rfl rfl (Nat.le_of_ble_eq_true rfl) rfl dX8_clearText_12 ?_
  refine g_iload_n E dX8_clearText_15 rfl 0 rfl ?_
  exact RET _ _ _ (qU (qU (qU q 0 0) 1 0) 5 (nI c), sg, rd, f, tr, dy, kp, ik, tn) (gRefP_mk (k := 0) (A := ((0, sg), S, (c, H), sl)) (rfl) rfl (fun _ => rfl) ⟨rfl, rfl, hRR, rfl, hD, hKp⟩) rfl dX8_clearText_16

set_option maxHeartbeats 4000000 in
set_option maxRecDepth 100000 in
theorem mX8_errorPosition (G : gG) (m : Nat → Nat) (q : Nat → Int32) (n c : Nat) (sg : Nat → Int32) (S : gSt) (H : Nat → gSt) (sl : Nat → Option gSt) (rd f tr dy kp ik tn : Nat → Int32)  (hn12 : n ≤ 120) (hO : gOk 50000 S) (hc14 : c ≤ 14) (hHo : gHok 50000 c H) (hRR : RR S f) (hD : gDry c H dy) (hKp : gKpt sl kp ik) : CI G yX8_errorPosition wsX8_errorPosition 11 253 [.ref (m 0)] [(m 0, .inr (8, [.int (q 0), .ref (m 1), .int (nI n), .int (q 2), .int (q 3), .int (q 4), .ref (m 2), .ref (m 3), .ref (m 4), .ref (m 5), .int (nI c), .ref (m 6), .ref (m 7), .ref (m 8), .int (q 6), .int (q 7), .int (q 8)])), (m 1, .inl (gy G 0, 120, .inl sg)), (m 2, .inl (gy G 0, 271, .inl rd)), (m 3, .inl (gy G 0, 271, .inl f)), (m 4, .inl (gy G 0, 271, .inl tr)), (m 5, .inl (gy G 0, 3794, .inl dy)), (m 6, .inl (gy G 0, 542, .inl kp)), (m 7, .inl (gy G 2, 2, .inl ik)), (m 8, .inl (gy G 0, 10, .inl tn))] (gRefP (fError ((n, sg), S, (c, H), sl))) (fun (u : gRu) => (wR G m u)) 0 0 := by
  refine g_enterI (ty := .int) RX8 rfl (by decide) rfl (Nat.le_of_ble_eq_true rfl) ?_
  intro V E RET
  have hK := hO.1
  have hJ := hK.1
  have hI := hJ.1
  have hT1 := hO.2.2
  have hT2 : sN S 0 < 200000000 := by omega
  have hT : sN S 0 < 1000000000 := by omega
  have hb2 := gI2_b2 hJ
  have hX := hI
  obtain ⟨hP8, hn, hw, hW8, hs3, hs4, hs5, hs6, hs7, hs8, hb34⟩ := hX
  refine g_aload_n E dX8_errorPosition_0 rfl 0 rfl ?_
  refine g_iconst (v := 0) E dX8_errorPosition_1 (by decide) ?_
  refine g_put (ws' := [(m 0, .inr (8, [.int 0, .ref (m 1), .int (nI n), .int (q 2), .int (q 3), .int (q 4), .ref (m 2), .ref (m 3), .ref (m 4), .ref (m 5), .int (nI c), .ref (m 6), .ref (m 7), .ref (m 8), .int (q 6), .int (q 7), .int (q 8)])), (m 1, .inl (gy G 0, 120, .inl sg)), (m 2, .inl (gy G 0, 271, .inl rd)), (m 3, .inl (gy G 0, 271, .inl f)), (m 4, .inl (gy G 0, 271, .inl tr)), (m 5, .inl (gy G 0, 3794, .inl dy)), (m 6, .inl (gy G 0, 542, .inl kp)), (m 7, .inl (gy G 2, 2, .inl ik)), (m 8, .inl (gy G 0, 10, .inl tn))]) E uX8_errorPosition_RX8 tyX8 tyX8_ok nmX8 0 rfl rfl 0 (by decide) kX8_errorPosition_39 rfl rfl rfl rfl (Nat.le_of_ble_eq_true rfl) rfl dX8_errorPosition_2 ?_
  refine g_aload_n E dX8_errorPosition_5 rfl 0 rfl ?_
  refine g_callVI (F := [(m 3, .inl (gy G 0, 271, .inl f)), (m 4, .inl (gy G 0, 271, .inl tr)), (m 5, .inl (gy G 0, 3794, .inl dy)), (m 6, .inl (gy G 0, 542, .inl kp)), (m 7, .inl (gy G 2, 2, .inl ik))]) E (mX8_readText G m (qU (qU (qU q 0 0) 1 (nI n)) 5 (nI c)) n sg rd tn hn12) gX8_errorPosition_X8_readText rfl hdX8_readText ⟨Nat.le_of_ble_eq_true rfl, Nat.le_of_ble_eq_true rfl⟩ 8 0 rfl rfl rfl (gPerm_ix [0, 1, 2, 8, 3, 4, 5, 6, 7] rfl rfl) rfl rfl (Nat.le_of_ble_eq_true rfl) dX8_errorPosition_6 ⟨Nat.le_of_ble_eq_true rfl, Nat.le_of_ble_eq_true rfl⟩ (fun rt ut ht => ?_)
  obtain ⟨ht1, ht2⟩ := ht
  refine g_perm (ws1 := [(m 0, .inr (8, [.int 0, .ref (m 1), .int (nI n), .int (nI ut.1), .int (if ut.2.1 = true then 1 else 0), .int (nI ut.2.2.1), .ref (m 2), .ref (m 3), .ref (m 4), .ref (m 5), .int (nI c), .ref (m 6), .ref (m 7), .ref (m 8), .int ut.2.2.2.2.1, .int (q 7), .int (q 8)])), (m 1, .inl (gy G 0, 120, .inl sg)), (m 2, .inl (gy G 0, 271, .inl ut.2.2.2.1)), (m 3, .inl (gy G 0, 271, .inl f)), (m 4, .inl (gy G 0, 271, .inl tr)), (m 5, .inl (gy G 0, 3794, .inl dy)), (m 6, .inl (gy G 0, 542, .inl kp)), (m 7, .inl (gy G 2, 2, .inl ik)), (m 8, .inl (gy G 0, 10, .inl ut.2.2.2.2.2))]) (gPerm_ix [0, 1, 2, 4, 5, 6, 7, 8, 3] rfl rfl) ?_
  exact RET _ _ _ (qU (qU (qU (qU (qU (qU (qU q 0 0) 1 (nI n)) 2 (nI ut.1)) 3 (if ut.2.1 = true then 1 else 0)) 4 (nI ut.2.2.1)) 5 (nI c)) 6 ut.2.2.2.2.1, sg, ut.2.2.2.1, f, tr, dy, kp, ik, ut.2.2.2.2.2) (gRefP_mk (k := 0) (A := ((n, sg), S, (c, H), sl)) (rfl) rfl (fun _ => (ht1 0 (fun _ => 0)).symm) ⟨rfl, rfl, hRR, rfl, hD, hKp⟩) rfl dX8_errorPosition_9

set_option maxHeartbeats 4000000 in
set_option maxRecDepth 100000 in
theorem mX8_load (G : gG) (m : Nat → Nat) (q : Nat → Int32) (n c : Nat) (sg : Nat → Int32) (S : gSt) (H : Nat → gSt) (sl : Nat → Option gSt) (rd f tr dy kp ik tn : Nat → Int32)  (hn12 : n ≤ 120) (hO : gOk 50000 S) (hc14 : c ≤ 14) (hHo : gHok 50000 c H) (hRR : RR S f) (hD : gDry c H dy) (hKp : gKpt sl kp ik) : CI G yX8_load wsX8_load 11 253 [.ref (m 0)] [(m 0, .inr (8, [.int (q 0), .ref (m 1), .int (nI n), .int (q 2), .int (q 3), .int (q 4), .ref (m 2), .ref (m 3), .ref (m 4), .ref (m 5), .int (nI c), .ref (m 6), .ref (m 7), .ref (m 8), .int (q 6), .int (q 7), .int (q 8)])), (m 1, .inl (gy G 0, 120, .inl sg)), (m 2, .inl (gy G 0, 271, .inl rd)), (m 3, .inl (gy G 0, 271, .inl f)), (m 4, .inl (gy G 0, 271, .inl tr)), (m 5, .inl (gy G 0, 3794, .inl dy)), (m 6, .inl (gy G 0, 542, .inl kp)), (m 7, .inl (gy G 2, 2, .inl ik)), (m 8, .inl (gy G 0, 10, .inl tn))] (gRefP (fLoad ((n, sg), S, (c, H), sl))) (fun (u : gRu) => (wR G m u)) 0 0 := by
  refine g_enterI (ty := .int) RX8 rfl (by decide) rfl (Nat.le_of_ble_eq_true rfl) ?_
  intro V E RET
  have hK := hO.1
  have hJ := hK.1
  have hI := hJ.1
  have hT1 := hO.2.2
  have hT2 : sN S 0 < 200000000 := by omega
  have hT : sN S 0 < 1000000000 := by omega
  have hb2 := gI2_b2 hJ
  have hX := hI
  obtain ⟨hP8, hn, hw, hW8, hs3, hs4, hs5, hs6, hs7, hs8, hb34⟩ := hX
  refine g_aload_n E dX8_load_0 rfl 0 rfl ?_
  refine g_aload_n E dX8_load_1 rfl 0 rfl ?_
  refine g_callVI (F := [(m 3, .inl (gy G 0, 271, .inl f)), (m 4, .inl (gy G 0, 271, .inl tr)), (m 5, .inl (gy G 0, 3794, .inl dy)), (m 6, .inl (gy G 0, 542, .inl kp)), (m 7, .inl (gy G 2, 2, .inl ik))]) E (mX8_readText G m (qU (qU q 1 (nI n)) 5 (nI c)) n sg rd tn hn12) gX8_load_X8_readText rfl hdX8_readText ⟨Nat.le_of_ble_eq_true rfl, Nat.le_of_ble_eq_true rfl⟩ 8 0 rfl rfl rfl (gPerm_ix [0, 1, 2, 8, 3, 4, 5, 6, 7] rfl rfl) rfl rfl (Nat.le_of_ble_eq_true rfl) dX8_load_2 ⟨Nat.le_of_ble_eq_true rfl, Nat.le_of_ble_eq_true rfl⟩ (fun rt ut ht => ?_)
  obtain ⟨ht1, ht2⟩ := ht
  refine g_perm (ws1 := [(m 0, .inr (8, [.int (q 0), .ref (m 1), .int (nI n), .int (nI ut.1), .int (if ut.2.1 = true then 1 else 0), .int (nI ut.2.2.1), .ref (m 2), .ref (m 3), .ref (m 4), .ref (m 5), .int (nI c), .ref (m 6), .ref (m 7), .ref (m 8), .int ut.2.2.2.2.1, .int (q 7), .int (q 8)])), (m 1, .inl (gy G 0, 120, .inl sg)), (m 2, .inl (gy G 0, 271, .inl ut.2.2.2.1)), (m 3, .inl (gy G 0, 271, .inl f)), (m 4, .inl (gy G 0, 271, .inl tr)), (m 5, .inl (gy G 0, 3794, .inl dy)), (m 6, .inl (gy G 0, 542, .inl kp)), (m 7, .inl (gy G 2, 2, .inl ik)), (m 8, .inl (gy G 0, 10, .inl ut.2.2.2.2.2))]) (gPerm_ix [0, 1, 2, 4, 5, 6, 7, 8, 3] rfl rfl) ?_
  refine g_iconst (v := (-1)) E dX8_load_5 (by decide) ?_
  refine g_icmp_ne (tgt := 13) E dX8_load_6 (by decide) (fun c1 => ?_) (fun c1 => ?_)
  · skip
    refine g_iconst (v := 1) E dX8_load_13 (by decide) ?_
    refine g_callVIe (F := [(m 1, .inl (gy G 0, 120, .inl sg)), (m 2, .inl (gy G 0, 271, .inl ut.2.2.2.1)), (m 3, .inl (gy G 0, 271, .inl f)), (m 4, .inl (gy G 0, 271, .inl tr)), (m 5, .inl (gy G 0, 3794, .inl dy)), (m 6, .inl (gy G 0, 542, .inl kp)), (m 7, .inl (gy G 2, 2, .inl ik)), (m 8, .inl (gy G 0, 10, .inl ut.2.2.2.2.2))]) (ws2 := [(m 0, .inr (8, [.int 1, .ref (m 1), .int (nI n), .int (nI ut.1), .int (if ut.2.1 = true then 1 else 0), .int (nI ut.2.2.1), .ref (m 2), .ref (m 3), .ref (m 4), .ref (m 5), .int (nI c), .ref (m 6), .ref (m 7), .ref (m 8), .int ut.2.2.2.2.1, .int (q 7), .int (q 8)])), (m 1, .inl (gy G 0, 120, .inl sg)), (m 2, .inl (gy G 0, 271, .inl ut.2.2.2.1)), (m 3, .inl (gy G 0, 271, .inl f)), (m 4, .inl (gy G 0, 271, .inl tr)), (m 5, .inl (gy G 0, 3794, .inl dy)), (m 6, .inl (gy G 0, 542, .inl kp)), (m 7, .inl (gy G 2, 2, .inl ik)), (m 8, .inl (gy G 0, 10, .inl ut.2.2.2.2.2))]) E (mX8_refused G m (qU (qU (qU (qU (qU (qU q 1 (nI n)) 2 (nI ut.1)) 3 (if ut.2.1 = true then 1 else 0)) 4 (nI ut.2.2.1)) 5 (nI c)) 6 ut.2.2.2.2.1) 1) gX8_load_X8_refused rfl hdX8_refused ⟨Nat.le_of_ble_eq_true rfl, Nat.le_of_ble_eq_true rfl⟩ 8 0 rfl rfl rfl (gPerm_ix [0, 1, 2, 3, 4, 5, 6, 7, 8] rfl rfl) rfl rfl (Nat.le_of_ble_eq_true rfl) dX8_load_14 ⟨Nat.le_of_ble_eq_true rfl, Nat.le_of_ble_eq_true rfl⟩ (gPerm_ix [0, 1, 2, 3, 4, 5, 6, 7, 8] rfl rfl) ?_
    refine g_if_eq (tgt := 22) E dX8_load_17 (by decide) (fun c => absurd c (by decide)) (fun _ => ?_)
    refine g_iconst (v := 0) E dX8_load_20 (by decide) ?_
    exact RET _ _ _ (qU (qU (qU (qU (qU (qU (qU q 0 1) 1 (nI n)) 2 (nI ut.1)) 3 (if ut.2.1 = true then 1 else 0)) 4 (nI ut.2.2.1)) 5 (nI c)) 6 ut.2.2.2.2.1, sg, ut.2.2.2.1, f, tr, dy, kp, ik, ut.2.2.2.2.2) (gRefP_mk (k := 1) (A := ((n, sg), S, (c, H), sl)) (by rw [fLoad, if_neg (show ¬ aEI n sg = -1 from fun e => c1 ((ht1 0 (fun _ => 0)).symm.trans e))]) rfl (fun e => absurd e (by decide)) ⟨rfl, rfl, hRR, rfl, hD, hKp⟩) rfl dX8_load_21
  · skip
    refine g_iconst (v := 0) E dX8_load_9 (by decide) ?_
    refine g_goto (tgt := 14) E dX8_load_10 (by decide) ?_
    refine g_callVIe (F := [(m 1, .inl (gy G 0, 120, .inl sg)), (m 2, .inl (gy G 0, 271, .inl ut.2.2.2.1)), (m 3, .inl (gy G 0, 271, .inl f)), (m 4, .inl (gy G 0, 271, .inl tr)), (m 5, .inl (gy G 0, 3794, .inl dy)), (m 6, .inl (gy G 0, 542, .inl kp)), (m 7, .inl (gy G 2, 2, .inl ik)), (m 8, .inl (gy G 0, 10, .inl ut.2.2.2.2.2))]) (ws2 := [(m 0, .inr (8, [.int 0, .ref (m 1), .int (nI n), .int (nI ut.1), .int (if ut.2.1 = true then 1 else 0), .int (nI ut.2.2.1), .ref (m 2), .ref (m 3), .ref (m 4), .ref (m 5), .int (nI c), .ref (m 6), .ref (m 7), .ref (m 8), .int ut.2.2.2.2.1, .int (q 7), .int (q 8)])), (m 1, .inl (gy G 0, 120, .inl sg)), (m 2, .inl (gy G 0, 271, .inl ut.2.2.2.1)), (m 3, .inl (gy G 0, 271, .inl f)), (m 4, .inl (gy G 0, 271, .inl tr)), (m 5, .inl (gy G 0, 3794, .inl dy)), (m 6, .inl (gy G 0, 542, .inl kp)), (m 7, .inl (gy G 2, 2, .inl ik)), (m 8, .inl (gy G 0, 10, .inl ut.2.2.2.2.2))]) E (mX8_refused G m (qU (qU (qU (qU (qU (qU q 1 (nI n)) 2 (nI ut.1)) 3 (if ut.2.1 = true then 1 else 0)) 4 (nI ut.2.2.1)) 5 (nI c)) 6 ut.2.2.2.2.1) 0) gX8_load_X8_refused rfl hdX8_refused ⟨Nat.le_of_ble_eq_true rfl, Nat.le_of_ble_eq_true rfl⟩ 8 0 rfl rfl rfl (gPerm_ix [0, 1, 2, 3, 4, 5, 6, 7, 8] rfl rfl) rfl rfl (Nat.le_of_ble_eq_true rfl) dX8_load_14 ⟨Nat.le_of_ble_eq_true rfl, Nat.le_of_ble_eq_true rfl⟩ (gPerm_ix [0, 1, 2, 3, 4, 5, 6, 7, 8] rfl rfl) ?_
    refine g_if_eq (tgt := 22) E dX8_load_17 (by decide) (fun _ => ?_) (fun c => absurd c (by decide))
    refine g_aload_n E dX8_load_22 rfl 0 rfl ?_
    refine g_get E uX8_load_RX8 0 rfl rfl 6 (by decide) kX8_load_13 rfl rfl dX8_load_23 ?_
    refine g_iconst (v := 0) E dX8_load_26 (by decide) ?_
    refine g_aload_n E dX8_load_27 rfl 0 rfl ?_
    refine g_get E uX8_load_RX8 0 rfl rfl 7 (by decide) kX8_load_16 rfl rfl dX8_load_28 ?_
    refine g_iconst (v := 0) E dX8_load_31 (by decide) ?_
    refine g_sipush (v := 271) E dX8_load_32 (by decide) ?_
    refine g_callSVe (F := [(m 0, .inr (8, [.int 0, .ref (m 1), .int (nI n), .int (nI ut.1), .int (if ut.2.1 = true then 1 else 0), .int (nI ut.2.2.1), .ref (m 2), .ref (m 3), .ref (m 4), .ref (m 5), .int (nI c), .ref (m 6), .ref (m 7), .ref (m 8), .int ut.2.2.2.2.1, .int (q 7), .int (q 8)])), (m 1, .inl (gy G 0, 120, .inl sg)), (m 4, .inl (gy G 0, 271, .inl tr)), (m 5, .inl (gy G 0, 3794, .inl dy)), (m 6, .inl (gy G 0, 542, .inl kp)), (m 7, .inl (gy G 2, 2, .inl ik)), (m 8, .inl (gy G 0, 10, .inl ut.2.2.2.2.2))]) (ws2 := [(m 0, .inr (8, [.int 0, .ref (m 1), .int (nI n), .int (nI ut.1), .int (if ut.2.1 = true then 1 else 0), .int (nI ut.2.2.1), .ref (m 2), .ref (m 3), .ref (m 4), .ref (m 5), .int (nI c), .ref (m 6), .ref (m 7), .ref (m 8), .int ut.2.2.2.2.1, .int (q 7), .int (q 8)])), (m 1, .inl (gy G 0, 120, .inl sg)), (m 2, .inl (gy G 0, 271, .inl ut.2.2.2.1)), (m 3, .inl (gy G 0, 271, .inl (va_cpy ut.2.2.2.1 f 0 0 271))), (m 4, .inl (gy G 0, 271, .inl tr)), (m 5, .inl (gy G 0, 3794, .inl dy)), (m 6, .inl (gy G 0, 542, .inl kp)), (m 7, .inl (gy G 2, 2, .inl ik)), (m 8, .inl (gy G 0, 10, .inl ut.2.2.2.2.2))]) E (mX8_copyB G (m 2) (m 3) ut.2.2.2.1 f 0 0 271 (by omega) (by omega)) gX8_load_X8_copy rfl hnX8_copy ⟨Nat.le_of_ble_eq_true rfl, Nat.le_of_ble_eq_true rfl⟩ (gPerm_ix [2, 3, 0, 1, 4, 5, 6, 7, 8] rfl rfl) rfl rfl (Nat.le_of_ble_eq_true rfl) dX8_load_35 ⟨Nat.le_of_ble_eq_true rfl, Nat.le_of_ble_eq_true rfl⟩ (gPerm_ix [2, 3, 0, 1, 4, 5, 6, 7, 8] rfl rfl) ?_
    obtain ⟨T, hl1, hK1, hT9, hR1⟩ := ht2 c1
    have hRT : RR T (va_cpy ut.2.2.2.1 f 0 0 271) := RR_cg hR1 hK1.1.1 (fun j hj => gCpyA hj)
    refine g_aload_n E dX8_load_38 rfl 0 rfl ?_
    refine g_iconst (v := 0) E dX8_load_39 (by decide) ?_
    refine g_put (ws' := [(m 0, .inr (8, [.int 0, .ref (m 1), .int (nI n), .int (nI ut.1), .int (if ut.2.1 = true then 1 else 0), .int (nI ut.2.2.1), .ref (m 2), .ref (m 3), .ref (m 4), .ref (m 5), .int 0, .ref (m 6), .ref (m 7), .ref (m 8), .int ut.2.2.2.2.1, .int (q 7), .int (q 8)])), (m 1, .inl (gy G 0, 120, .inl sg)), (m 2, .inl (gy G 0, 271, .inl ut.2.2.2.1)), (m 3, .inl (gy G 0, 271, .inl (va_cpy ut.2.2.2.1 f 0 0 271))), (m 4, .inl (gy G 0, 271, .inl tr)), (m 5, .inl (gy G 0, 3794, .inl dy)), (m 6, .inl (gy G 0, 542, .inl kp)), (m 7, .inl (gy G 2, 2, .inl ik)), (m 8, .inl (gy G 0, 10, .inl ut.2.2.2.2.2))]) E uX8_load_RX8 tyX8 tyX8_ok nmX8 0 rfl rfl 10 (by decide) kX8_load_45 rfl rfl rfl rfl (Nat.le_of_ble_eq_true rfl) rfl dX8_load_40 ?_
    refine g_aload_n E dX8_load_43 rfl 0 rfl ?_
    refine g_get E uX8_load_RX8 0 rfl rfl 12 (by decide) kX8_load_28 rfl rfl dX8_load_44 ?_
    refine g_iconst (v := 0) E dX8_load_47 (by decide) ?_
    refine g_iconst (v := 0) E dX8_load_48 (by decide) ?_
    refine g_zast (ws' := [(m 0, .inr (8, [.int 0, .ref (m 1), .int (nI n), .int (nI ut.1), .int (if ut.2.1 = true then 1 else 0), .int (nI ut.2.2.1), .ref (m 2), .ref (m 3), .ref (m 4), .ref (m 5), .int 0, .ref (m 6), .ref (m 7), .ref (m 8), .int ut.2.2.2.2.1, .int (q 7), .int (q 8)])), (m 1, .inl (gy G 0, 120, .inl sg)), (m 2, .inl (gy G 0, 271, .inl ut.2.2.2.1)), (m 3, .inl (gy G 0, 271, .inl (va_cpy ut.2.2.2.1 f 0 0 271))), (m 4, .inl (gy G 0, 271, .inl tr)), (m 5, .inl (gy G 0, 3794, .inl dy)), (m 6, .inl (gy G 0, 542, .inl kp)), (m 7, .inl (gy G 2, 2, .inl (upd ik 0 0))), (m 8, .inl (gy G 0, 10, .inl ut.2.2.2.2.2))]) (j := 0) (y := 0) E 7 rfl (g_in (e := 0) (by omega) rfl) (nI_clamp (n := 0) (by omega)) rfl rfl dX8_load_49 ?_
    refine g_aload_n E dX8_load_50 rfl 0 rfl ?_
    refine g_get E uX8_load_RX8 0 rfl rfl 12 (by decide) kX8_load_28 rfl rfl dX8_load_51 ?_
    refine g_iconst (v := 1) E dX8_load_54 (by decide) ?_
    refine g_iconst (v := 0) E dX8_load_55 (by decide) ?_
    refine g_zast (ws' := [(m 0, .inr (8, [.int 0, .ref (m 1), .int (nI n), .int (nI ut.1), .int (if ut.2.1 = true then 1 else 0), .int (nI ut.2.2.1), .ref (m 2), .ref (m 3), .ref (m 4), .ref (m 5), .int 0, .ref (m 6), .ref (m 7), .ref (m 8), .int ut.2.2.2.2.1, .int (q 7), .int (q 8)])), (m 1, .inl (gy G 0, 120, .inl sg)), (m 2, .inl (gy G 0, 271, .inl ut.2.2.2.1)), (m 3, .inl (gy G 0, 271, .inl (va_cpy ut.2.2.2.1 f 0 0 271))), (m 4, .inl (gy G 0, 271, .inl tr)), (m 5, .inl (gy G 0, 3794, .inl dy)), (m 6, .inl (gy G 0, 542, .inl kp)), (m 7, .inl (gy G 2, 2, .inl (upd (upd ik 0 0) 1 0))), (m 8, .inl (gy G 0, 10, .inl ut.2.2.2.2.2))]) (j := 1) (y := 0) E 7 rfl (g_in (e := 1) (by omega) rfl) (nI_clamp (n := 1) (by omega)) rfl rfl dX8_load_56 ?_
    refine g_aload_n E dX8_load_57 rfl 0 rfl ?_
    refine g_get E uX8_load_RX8 0 rfl rfl 5 (by decide) kX8_load_175 rfl rfl dX8_load_58 ?_
    exact RET _ _ _ (qU (qU (qU (qU (qU (qU (qU q 0 0) 1 (nI n)) 2 (nI ut.1)) 3 (if ut.2.1 = true then 1 else 0)) 4 (nI ut.2.2.1)) 5 0) 6 ut.2.2.2.2.1, sg, ut.2.2.2.1, va_cpy ut.2.2.2.1 f 0 0 271, tr, dy, kp, upd (upd ik 0 0) 1 0, ut.2.2.2.2.2) (gRefP_mk (k := 0) (A := ((n, sg), T, (0, H), fun _ => none)) (by rw [fLoad, if_pos (show aEI n sg = -1 from (ht1 0 (fun _ => 0)).trans c1)]; show (0, nI (aLd n sg).2, ((n, sg), (aLd n sg).1, (0, H), fun _ => none)) = _; rw [show aLd n sg = (T, ut.2.2.1) from hl1 0 (fun _ => 0)]) rfl (fun _ => rfl) ⟨rfl, rfl, hRT, rfl, (fun k hk => absurd hk (Nat.not_lt_zero k)), (fun i hi => ⟨fun _ => (by rcases (show i = 0 ∨ i = 1 by omega) with rfl | rfl <;> rfl), fun T q => (by cases q)⟩)⟩) rfl dX8_load_61
