set_option maxHeartbeats 4000000 in
set_option maxRecDepth 100000 in
theorem mX8_save (G : gG) (m : Nat → Nat) (q : Nat → Int32) (n c : Nat) (sg : Nat → Int32) (S : gSt) (H : Nat → gSt) (sl : Nat → Option gSt) (rd f tr dy kp ik tn : Nat → Int32) (z : Int32) (hn12 : n ≤ 120) (hO : gOk 50000 S) (hc14 : c ≤ 14) (hHo : gHok 50000 c H) (hRR : RR S f) (hD : gDry c H dy) (hKp : gKpt sl kp ik) (hSok : gSok 50000 sl) : CI G yX8_save wsX8_save 1 25 [.ref (m 0), .int z] [(m 0, .inr (8, [.int (q 0), .ref (m 1), .int (nI n), .int (q 2), .int (q 3), .int (q 4), .ref (m 2), .ref (m 3), .ref (m 4), .ref (m 5), .int (nI c), .ref (m 6), .ref (m 7), .ref (m 8), .int (q 6), .int (q 7), .int (q 8)])), (m 1, .inl (gy G 0, 120, .inl sg)), (m 2, .inl (gy G 0, 271, .inl rd)), (m 3, .inl (gy G 0, 271, .inl f)), (m 4, .inl (gy G 0, 271, .inl tr)), (m 5, .inl (gy G 0, 3794, .inl dy)), (m 6, .inl (gy G 0, 542, .inl kp)), (m 7, .inl (gy G 2, 2, .inl ik)), (m 8, .inl (gy G 0, 10, .inl tn))] (gRefP (fSave ((n, sg), S, (c, H), sl) z)) (fun (u : gRu) => (wR G m u)) 0 0 := by
  refine g_enterI (ty := .int) RX8 rfl (by decide) rfl (Nat.le_of_ble_eq_true rfl) ?_
  intro V E RET
  have hK := hO.1
  have hJ := hK.1
  have hI := hJ.1
  have hT1 := hO.2.2
  have hT2 : sN S 0 < 200000000 := by omega
  have hT : sN S 0 < 1000000000 := by omega
  have hb2 := gI2_b2 hJ
  have hX := hI
  obtain ⟨hP8, hn, hw, hW8, hs3, hs4, hs5, hs6, hs7, hs8, hb34⟩ := hX
  refine g_aload_n E dX8_save_0 rfl 0 rfl ?_
  refine g_iload_n E dX8_save_1 rfl 1 rfl ?_
  refine g_i2l (v := z.toInt64) E dX8_save_2 rfl ?_
  refine g_lconst (v := 0) E dX8_save_3 (by decide) ?_
  refine g_lconst (v := 1) E dX8_save_4 (by decide) ?_
  refine g_callSIe (F := [(m 0, .inr (8, [.int (q 0), .ref (m 1), .int (nI n), .int (q 2), .int (q 3), .int (q 4), .ref (m 2), .ref (m 3), .ref (m 4), .ref (m 5), .int (nI c), .ref (m 6), .ref (m 7), .ref (m 8), .int (q 6), .int (q 7), .int (q 8)])), (m 1, .inl (gy G 0, 120, .inl sg)), (m 2, .inl (gy G 0, 271, .inl rd)), (m 3, .inl (gy G 0, 271, .inl f)), (m 4, .inl (gy G 0, 271, .inl tr)), (m 5, .inl (gy G 0, 3794, .inl dy)), (m 6, .inl (gy G 0, 542, .inl kp)), (m 7, .inl (gy G 2, 2, .inl ik)), (m 8, .inl (gy G 0, 10, .inl tn))]) (ws2 := [(m 0, .inr (8, [.int (q 0), .ref (m 1), .int (nI n), .int (q 2), .int (q 3), .int (q 4), .ref (m 2), .ref (m 3), .ref (m 4), .ref (m 5), .int (nI c), .ref (m 6), .ref (m 7), .ref (m 8), .int (q 6), .int (q 7), .int (q 8)])), (m 1, .inl (gy G 0, 120, .inl sg)), (m 2, .inl (gy G 0, 271, .inl rd)), (m 3, .inl (gy G 0, 271, .inl f)), (m 4, .inl (gy G 0, 271, .inl tr)), (m 5, .inl (gy G 0, 3794, .inl dy)), (m 6, .inl (gy G 0, 542, .inl kp)), (m 7, .inl (gy G 2, 2, .inl ik)), (m 8, .inl (gy G 0, 10, .inl tn))]) E (g_resI (gIn64 (lo := 0) (hi := 1) rfl rfl) (mX8_in G z.toInt64 0 1)) gX8_save_X8_in rfl hnX8_in ⟨Nat.le_of_ble_eq_true rfl, Nat.le_of_ble_eq_true rfl⟩ (gPerm_ix [0, 1, 2, 3, 4, 5, 6, 7, 8] rfl rfl) rfl rfl (Nat.le_of_ble_eq_true rfl) dX8_save_5 ⟨Nat.le_of_ble_eq_true rfl, Nat.le_of_ble_eq_true rfl⟩ (gPerm_ix [0, 1, 2, 3, 4, 5, 6, 7, 8] rfl rfl) ?_
  refine g_if_eqB (tgt := 15) (P := (¬ z < 0 ∧ ¬ 1 < z)) E dX8_save_8 (by decide) (fun c1 => ?_) (fun c1 => ?_)
  · skip
    refine g_iconst (v := 1) E dX8_save_15 (by decide) ?_
    refine g_callVIe (F := [(m 1, .inl (gy G 0, 120, .inl sg)), (m 2, .inl (gy G 0, 271, .inl rd)), (m 3, .inl (gy G 0, 271, .inl f)), (m 4, .inl (gy G 0, 271, .inl tr)), (m 5, .inl (gy G 0, 3794, .inl dy)), (m 6, .inl (gy G 0, 542, .inl kp)), (m 7, .inl (gy G 2, 2, .inl ik)), (m 8, .inl (gy G 0, 10, .inl tn))]) (ws2 := [(m 0, .inr (8, [.int 1, .ref (m 1), .int (nI n), .int (q 2), .int (q 3), .int (q 4), .ref (m 2), .ref (m 3), .ref (m 4), .ref (m 5), .int (nI c), .ref (m 6), .ref (m 7), .ref (m 8), .int (q 6), .int (q 7), .int (q 8)])), (m 1, .inl (gy G 0, 120, .inl sg)), (m 2, .inl (gy G 0, 271, .inl rd)), (m 3, .inl (gy G 0, 271, .inl f)), (m 4, .inl (gy G 0, 271, .inl tr)), (m 5, .inl (gy G 0, 3794, .inl dy)), (m 6, .inl (gy G 0, 542, .inl kp)), (m 7, .inl (gy G 2, 2, .inl ik)), (m 8, .inl (gy G 0, 10, .inl tn))]) E (mX8_refused G m (qU (qU q 1 (nI n)) 5 (nI c)) 1) gX8_save_X8_refused rfl hdX8_refused ⟨Nat.le_of_ble_eq_true rfl, Nat.le_of_ble_eq_true rfl⟩ 8 0 rfl rfl rfl (gPerm_ix [0, 1, 2, 3, 4, 5, 6, 7, 8] rfl rfl) rfl rfl (Nat.le_of_ble_eq_true rfl) dX8_save_16 ⟨Nat.le_of_ble_eq_true rfl, Nat.le_of_ble_eq_true rfl⟩ (gPerm_ix [0, 1, 2, 3, 4, 5, 6, 7, 8] rfl rfl) ?_
    refine g_if_eq (tgt := 24) E dX8_save_19 (by decide) (fun c => absurd c (by decide)) (fun _ => ?_)
    refine g_iconst (v := 0) E dX8_save_22 (by decide) ?_
    exact RET _ _ _ (qU (qU (qU q 0 1) 1 (nI n)) 5 (nI c), sg, rd, f, tr, dy, kp, ik, tn) (gRefP_mk (k := 1) (A := ((n, sg), S, (c, H), sl)) (by rw [fSave, if_neg c1]) rfl (fun e => absurd e (by decide)) ⟨rfl, rfl, hRR, rfl, hD, hKp⟩) rfl dX8_save_23
  · skip
    obtain ⟨j, hj, rfl⟩ := gNat_ofl (m := 1) c1 rfl rfl (by decide)
    refine g_iconst (v := 0) E dX8_save_11 (by decide) ?_
    refine g_goto (tgt := 16) E dX8_save_12 (by decide) ?_
    refine g_callVIe (F := [(m 1, .inl (gy G 0, 120, .inl sg)), (m 2, .inl (gy G 0, 271, .inl rd)), (m 3, .inl (gy G 0, 271, .inl f)), (m 4, .inl (gy G 0, 271, .inl tr)), (m 5, .inl (gy G 0, 3794, .inl dy)), (m 6, .inl (gy G 0, 542, .inl kp)), (m 7, .inl (gy G 2, 2, .inl ik)), (m 8, .inl (gy G 0, 10, .inl tn))]) (ws2 := [(m 0, .inr (8, [.int 0, .ref (m 1), .int (nI n), .int (q 2), .int (q 3), .int (q 4), .ref (m 2), .ref (m 3), .ref (m 4), .ref (m 5), .int (nI c), .ref (m 6), .ref (m 7), .ref (m 8), .int (q 6), .int (q 7), .int (q 8)])), (m 1, .inl (gy G 0, 120, .inl sg)), (m 2, .inl (gy G 0, 271, .inl rd)), (m 3, .inl (gy G 0, 271, .inl f)), (m 4, .inl (gy G 0, 271, .inl tr)), (m 5, .inl (gy G 0, 3794, .inl dy)), (m 6, .inl (gy G 0, 542, .inl kp)), (m 7, .inl (gy G 2, 2, .inl ik)), (m 8, .inl (gy G 0, 10, .inl tn))]) E (mX8_refused G m (qU (qU q 1 (nI n)) 5 (nI c)) 0) gX8_save_X8_refused rfl hdX8_refused ⟨Nat.le_of_ble_eq_true rfl, Nat.le_of_ble_eq_true rfl⟩ 8 0 rfl rfl rfl (gPerm_ix [0, 1, 2, 3, 4, 5, 6, 7, 8] rfl rfl) rfl rfl (Nat.le_of_ble_eq_true rfl) dX8_save_16 ⟨Nat.le_of_ble_eq_true rfl, Nat.le_of_ble_eq_true rfl⟩ (gPerm_ix [0, 1, 2, 3, 4, 5, 6, 7, 8] rfl rfl) ?_
    refine g_if_eq (tgt := 24) E dX8_save_19 (by decide) (fun _ => ?_) (fun c => absurd c (by decide))
    refine g_aload_n E dX8_save_24 rfl 0 rfl ?_
    refine g_get E uX8_save_RX8 0 rfl rfl 7 (by decide) kX8_save_16 rfl rfl dX8_save_25 ?_
    refine g_iconst (v := 0) E dX8_save_28 (by decide) ?_
    refine g_aload_n E dX8_save_29 rfl 0 rfl ?_
    refine g_get E uX8_save_RX8 0 rfl rfl 11 (by decide) kX8_save_25 rfl rfl dX8_save_30 ?_
    refine g_sipush (v := 271) E dX8_save_33 (by decide) ?_
    refine g_iload_n E dX8_save_36 rfl 1 rfl ?_
    refine g_imulN (a := 271) (b := j) E dX8_save_37 ?_
    refine g_sipush (v := 271) E dX8_save_38 (by decide) ?_
    refine g_callSVe (F := [(m 0, .inr (8, [.int 0, .ref (m 1), .int (nI n), .int (q 2), .int (q 3), .int (q 4), .ref (m 2), .ref (m 3), .ref (m 4), .ref (m 5), .int (nI c), .ref (m 6), .ref (m 7), .ref (m 8), .int (q 6), .int (q 7), .int (q 8)])), (m 1, .inl (gy G 0, 120, .inl sg)), (m 2, .inl (gy G 0, 271, .inl rd)), (m 4, .inl (gy G 0, 271, .inl tr)), (m 5, .inl (gy G 0, 3794, .inl dy)), (m 7, .inl (gy G 2, 2, .inl ik)), (m 8, .inl (gy G 0, 10, .inl tn))]) (ws2 := [(m 0, .inr (8, [.int 0, .ref (m 1), .int (nI n), .int (q 2), .int (q 3), .int (q 4), .ref (m 2), .ref (m 3), .ref (m 4), .ref (m 5), .int (nI c), .ref (m 6), .ref (m 7), .ref (m 8), .int (q 6), .int (q 7), .int (q 8)])), (m 1, .inl (gy G 0, 120, .inl sg)), (m 2, .inl (gy G 0, 271, .inl rd)), (m 3, .inl (gy G 0, 271, .inl f)), (m 4, .inl (gy G 0, 271, .inl tr)), (m 5, .inl (gy G 0, 3794, .inl dy)), (m 6, .inl (gy G 0, 542, .inl (va_cpy f kp 0 (271 * j) 271))), (m 7, .inl (gy G 2, 2, .inl ik)), (m 8, .inl (gy G 0, 10, .inl tn))]) E (mX8_copyF G (m 3) (m 6) f kp 0 (271 * j) 271 (by omega) (by omega)) gX8_save_X8_copy rfl hnX8_copy ⟨Nat.le_of_ble_eq_true rfl, Nat.le_of_ble_eq_true rfl⟩ (gPerm_ix [3, 6, 0, 1, 2, 4, 5, 7, 8] rfl rfl) rfl rfl (Nat.le_of_ble_eq_true rfl) dX8_save_41 ⟨Nat.le_of_ble_eq_true rfl, Nat.le_of_ble_eq_true rfl⟩ (gPerm_ix [2, 3, 4, 0, 5, 6, 1, 7, 8] rfl rfl) ?_
    refine g_aload_n E dX8_save_44 rfl 0 rfl ?_
    refine g_get E uX8_save_RX8 0 rfl rfl 12 (by decide) kX8_save_28 rfl rfl dX8_save_45 ?_
    refine g_iload_n E dX8_save_48 rfl 1 rfl ?_
    refine g_iconst (v := 1) E dX8_save_49 (by decide) ?_
    refine g_zast (ws' := [(m 0, .inr (8, [.int 0, .ref (m 1), .int (nI n), .int (q 2), .int (q 3), .int (q 4), .ref (m 2), .ref (m 3), .ref (m 4), .ref (m 5), .int (nI c), .ref (m 6), .ref (m 7), .ref (m 8), .int (q 6), .int (q 7), .int (q 8)])), (m 1, .inl (gy G 0, 120, .inl sg)), (m 2, .inl (gy G 0, 271, .inl rd)), (m 3, .inl (gy G 0, 271, .inl f)), (m 4, .inl (gy G 0, 271, .inl tr)), (m 5, .inl (gy G 0, 3794, .inl dy)), (m 6, .inl (gy G 0, 542, .inl (va_cpy f kp 0 (271 * j) 271))), (m 7, .inl (gy G 2, 2, .inl (upd ik j 1))), (m 8, .inl (gy G 0, 10, .inl tn))]) (j := j) (y := 1) E 7 rfl (g_in (e := j) (by omega) rfl) (nI_clamp (n := j) (by omega)) rfl rfl dX8_save_50 ?_
    refine g_aload_n E dX8_save_51 rfl 0 rfl ?_
    refine g_get E uX8_save_RX8 0 rfl rfl 7 (by decide) kX8_save_16 rfl rfl dX8_save_52 ?_
    refine g_iconst (v := 0) E dX8_save_55 (by decide) ?_
    refine g_ialdN (e := 0) E 3 rfl (by omega) rfl (v := nI (sN S 0)) (RR_0 hRR) dX8_save_56 ?_
    exact RET _ _ _ (qU (qU (qU q 0 0) 1 (nI n)) 5 (nI c), sg, rd, f, tr, dy, va_cpy f kp 0 (271 * j) 271, upd ik j 1, tn) (gRefP_mk (k := 0) (A := ((n, sg), S, (c, H), fun i => if i = j then some S else sl i)) (by rw [fSave, if_pos c1, nI_clamp (by omega)]) rfl (fun _ => rfl) ⟨rfl, rfl, hRR, rfl, hD, (gKpt_save hKp hRR hI hSok hj)⟩) rfl dX8_save_57

set_option maxHeartbeats 4000000 in
set_option maxRecDepth 100000 in
theorem mX8_restore (G : gG) (m : Nat → Nat) (q : Nat → Int32) (n c : Nat) (sg : Nat → Int32) (S : gSt) (H : Nat → gSt) (sl : Nat → Option gSt) (rd f tr dy kp ik tn : Nat → Int32) (z : Int32) (hn12 : n ≤ 120) (hO : gOk 50000 S) (hc14 : c ≤ 14) (hHo : gHok 50000 c H) (hRR : RR S f) (hD : gDry c H dy) (hKp : gKpt sl kp ik) (hSok : gSok 50000 sl) : CI G yX8_restore wsX8_restore 1 25 [.ref (m 0), .int z] [(m 0, .inr (8, [.int (q 0), .ref (m 1), .int (nI n), .int (q 2), .int (q 3), .int (q 4), .ref (m 2), .ref (m 3), .ref (m 4), .ref (m 5), .int (nI c), .ref (m 6), .ref (m 7), .ref (m 8), .int (q 6), .int (q 7), .int (q 8)])), (m 1, .inl (gy G 0, 120, .inl sg)), (m 2, .inl (gy G 0, 271, .inl rd)), (m 3, .inl (gy G 0, 271, .inl f)), (m 4, .inl (gy G 0, 271, .inl tr)), (m 5, .inl (gy G 0, 3794, .inl dy)), (m 6, .inl (gy G 0, 542, .inl kp)), (m 7, .inl (gy G 2, 2, .inl ik)), (m 8, .inl (gy G 0, 10, .inl tn))] (gRefP (fRest ((n, sg), S, (c, H), sl) z)) (fun (u : gRu) => (wR G m u)) 0 0 := by
  refine g_enterI (ty := .int) RX8 rfl (by decide) rfl (Nat.le_of_ble_eq_true rfl) ?_
  intro V E RET
  have hK := hO.1
  have hJ := hK.1
  have hI := hJ.1
  have hT1 := hO.2.2
  have hT2 : sN S 0 < 200000000 := by omega
  have hT : sN S 0 < 1000000000 := by omega
  have hb2 := gI2_b2 hJ
  have hX := hI
  obtain ⟨hP8, hn, hw, hW8, hs3, hs4, hs5, hs6, hs7, hs8, hb34⟩ := hX
  refine g_aload_n E dX8_restore_0 rfl 0 rfl ?_
  refine g_iload_n E dX8_restore_1 rfl 1 rfl ?_
  refine g_i2l (v := z.toInt64) E dX8_restore_2 rfl ?_
  refine g_lconst (v := 0) E dX8_restore_3 (by decide) ?_
  refine g_lconst (v := 1) E dX8_restore_4 (by decide) ?_
  refine g_callSIe (F := [(m 0, .inr (8, [.int (q 0), .ref (m 1), .int (nI n), .int (q 2), .int (q 3), .int (q 4), .ref (m 2), .ref (m 3), .ref (m 4), .ref (m 5), .int (nI c), .ref (m 6), .ref (m 7), .ref (m 8), .int (q 6), .int (q 7), .int (q 8)])), (m 1, .inl (gy G 0, 120, .inl sg)), (m 2, .inl (gy G 0, 271, .inl rd)), (m 3, .inl (gy G 0, 271, .inl f)), (m 4, .inl (gy G 0, 271, .inl tr)), (m 5, .inl (gy G 0, 3794, .inl dy)), (m 6, .inl (gy G 0, 542, .inl kp)), (m 7, .inl (gy G 2, 2, .inl ik)), (m 8, .inl (gy G 0, 10, .inl tn))]) (ws2 := [(m 0, .inr (8, [.int (q 0), .ref (m 1), .int (nI n), .int (q 2), .int (q 3), .int (q 4), .ref (m 2), .ref (m 3), .ref (m 4), .ref (m 5), .int (nI c), .ref (m 6), .ref (m 7), .ref (m 8), .int (q 6), .int (q 7), .int (q 8)])), (m 1, .inl (gy G 0, 120, .inl sg)), (m 2, .inl (gy G 0, 271, .inl rd)), (m 3, .inl (gy G 0, 271, .inl f)), (m 4, .inl (gy G 0, 271, .inl tr)), (m 5, .inl (gy G 0, 3794, .inl dy)), (m 6, .inl (gy G 0, 542, .inl kp)), (m 7, .inl (gy G 2, 2, .inl ik)), (m 8, .inl (gy G 0, 10, .inl tn))]) E (g_resI (gIn64 (lo := 0) (hi := 1) rfl rfl) (mX8_in G z.toInt64 0 1)) gX8_restore_X8_in rfl hnX8_in ⟨Nat.le_of_ble_eq_true rfl, Nat.le_of_ble_eq_true rfl⟩ (gPerm_ix [0, 1, 2, 3, 4, 5, 6, 7, 8] rfl rfl) rfl rfl (Nat.le_of_ble_eq_true rfl) dX8_restore_5 ⟨Nat.le_of_ble_eq_true rfl, Nat.le_of_ble_eq_true rfl⟩ (gPerm_ix [0, 1, 2, 3, 4, 5, 6, 7, 8] rfl rfl) ?_
  refine g_if_neB (tgt := 15) (P := (¬ z < 0 ∧ ¬ 1 < z)) E dX8_restore_8 (by decide) (fun c1 => ?_) (fun c1 => ?_)
  · skip
    obtain ⟨j, hj, rfl⟩ := gNat_ofl (m := 1) c1 rfl rfl (by decide)
    refine g_aload_n E dX8_restore_15 rfl 0 rfl ?_
    refine g_get E uX8_restore_RX8 0 rfl rfl 12 (by decide) kX8_restore_28 rfl rfl dX8_restore_16 ?_
    refine g_iload_n E dX8_restore_19 rfl 1 rfl ?_
    refine g_zaldN (e := j) E 7 rfl (by omega) rfl (v := ik j) rfl dX8_restore_20 ?_
    rcases hsl : sl j with _ | T
    · skip
      refine g_top (y := 0) ((hKp j hj).1 hsl) ?_
      refine g_if_eq (tgt := 28) E dX8_restore_21 (by decide) (fun _ => ?_) (fun c => absurd c (by decide))
      refine g_iconst (v := 2) E dX8_restore_28 (by decide) ?_
      refine g_callVIe (F := [(m 1, .inl (gy G 0, 120, .inl sg)), (m 2, .inl (gy G 0, 271, .inl rd)), (m 3, .inl (gy G 0, 271, .inl f)), (m 4, .inl (gy G 0, 271, .inl tr)), (m 5, .inl (gy G 0, 3794, .inl dy)), (m 6, .inl (gy G 0, 542, .inl kp)), (m 7, .inl (gy G 2, 2, .inl ik)), (m 8, .inl (gy G 0, 10, .inl tn))]) (ws2 := [(m 0, .inr (8, [.int 2, .ref (m 1), .int (nI n), .int (q 2), .int (q 3), .int (q 4), .ref (m 2), .ref (m 3), .ref (m 4), .ref (m 5), .int (nI c), .ref (m 6), .ref (m 7), .ref (m 8), .int (q 6), .int (q 7), .int (q 8)])), (m 1, .inl (gy G 0, 120, .inl sg)), (m 2, .inl (gy G 0, 271, .inl rd)), (m 3, .inl (gy G 0, 271, .inl f)), (m 4, .inl (gy G 0, 271, .inl tr)), (m 5, .inl (gy G 0, 3794, .inl dy)), (m 6, .inl (gy G 0, 542, .inl kp)), (m 7, .inl (gy G 2, 2, .inl ik)), (m 8, .inl (gy G 0, 10, .inl tn))]) E (mX8_refused G m (qU (qU q 1 (nI n)) 5 (nI c)) 2) gX8_restore_X8_refused rfl hdX8_refused ⟨Nat.le_of_ble_eq_true rfl, Nat.le_of_ble_eq_true rfl⟩ 8 0 rfl rfl rfl (gPerm_ix [0, 1, 2, 3, 4, 5, 6, 7, 8] rfl rfl) rfl rfl (Nat.le_of_ble_eq_true rfl) dX8_restore_29 ⟨Nat.le_of_ble_eq_true rfl, Nat.le_of_ble_eq_true rfl⟩ (gPerm_ix [0, 1, 2, 3, 4, 5, 6, 7, 8] rfl rfl) ?_
      refine g_if_eq (tgt := 37) E dX8_restore_32 (by decide) (fun c => absurd c (by decide)) (fun _ => ?_)
      refine g_iconst (v := 0) E dX8_restore_35 (by decide) ?_
      exact RET _ _ _ (qU (qU (qU q 0 2) 1 (nI n)) 5 (nI c), sg, rd, f, tr, dy, kp, ik, tn) (gRefP_mk (k := 2) (A := ((n, sg), S, (c, H), sl)) (by rw [fRest, if_pos c1, nI_clamp (by omega)]; show (match sl j with | none => _ | some T => _) = _; rw [hsl]) rfl (fun e => absurd e (by decide)) ⟨rfl, rfl, hRR, rfl, hD, hKp⟩) rfl dX8_restore_36
    · skip
      refine g_top (y := 1) ((hKp j hj).2 T hsl).1 ?_
      have hRk := ((hKp j hj).2 T hsl).2
      have hOk := hSok j hj T hsl
      refine g_if_eq (tgt := 28) E dX8_restore_21 (by decide) (fun c => absurd c (by decide)) (fun _ => ?_)
      refine g_iconst (v := 0) E dX8_restore_24 (by decide) ?_
      refine g_goto (tgt := 29) E dX8_restore_25 (by decide) ?_
      refine g_callVIe (F := [(m 1, .inl (gy G 0, 120, .inl sg)), (m 2, .inl (gy G 0, 271, .inl rd)), (m 3, .inl (gy G 0, 271, .inl f)), (m 4, .inl (gy G 0, 271, .inl tr)), (m 5, .inl (gy G 0, 3794, .inl dy)), (m 6, .inl (gy G 0, 542, .inl kp)), (m 7, .inl (gy G 2, 2, .inl ik)), (m 8, .inl (gy G 0, 10, .inl tn))]) (ws2 := [(m 0, .inr (8, [.int 0, .ref (m 1), .int (nI n), .int (q 2), .int (q 3), .int (q 4), .ref (m 2), .ref (m 3), .ref (m 4), .ref (m 5), .int (nI c), .ref (m 6), .ref (m 7), .ref (m 8), .int (q 6), .int (q 7), .int (q 8)])), (m 1, .inl (gy G 0, 120, .inl sg)), (m 2, .inl (gy G 0, 271, .inl rd)), (m 3, .inl (gy G 0, 271, .inl f)), (m 4, .inl (gy G 0, 271, .inl tr)), (m 5, .inl (gy G 0, 3794, .inl dy)), (m 6, .inl (gy G 0, 542, .inl kp)), (m 7, .inl (gy G 2, 2, .inl ik)), (m 8, .inl (gy G 0, 10, .inl tn))]) E (mX8_refused G m (qU (qU q 1 (nI n)) 5 (nI c)) 0) gX8_restore_X8_refused rfl hdX8_refused ⟨Nat.le_of_ble_eq_true rfl, Nat.le_of_ble_eq_true rfl⟩ 8 0 rfl rfl rfl (gPerm_ix [0, 1, 2, 3, 4, 5, 6, 7, 8] rfl rfl) rfl rfl (Nat.le_of_ble_eq_true rfl) dX8_restore_29 ⟨Nat.le_of_ble_eq_true rfl, Nat.le_of_ble_eq_true rfl⟩ (gPerm_ix [0, 1, 2, 3, 4, 5, 6, 7, 8] rfl rfl) ?_
      refine g_if_eq (tgt := 37) E dX8_restore_32 (by decide) (fun _ => ?_) (fun c => absurd c (by decide))
      refine g_aload_n E dX8_restore_37 rfl 0 rfl ?_
      refine g_get E uX8_restore_RX8 0 rfl rfl 11 (by decide) kX8_restore_25 rfl rfl dX8_restore_38 ?_
      refine g_sipush (v := 271) E dX8_restore_41 (by decide) ?_
      refine g_iload_n E dX8_restore_44 rfl 1 rfl ?_
      refine g_imulN (a := 271) (b := j) E dX8_restore_45 ?_
      refine g_aload_n E dX8_restore_46 rfl 0 rfl ?_
      refine g_get E uX8_restore_RX8 0 rfl rfl 7 (by decide) kX8_restore_16 rfl rfl dX8_restore_47 ?_
      refine g_iconst (v := 0) E dX8_restore_50 (by decide) ?_
      refine g_sipush (v := 271) E dX8_restore_51 (by decide) ?_
      refine g_callSVe (F := [(m 0, .inr (8, [.int 0, .ref (m 1), .int (nI n), .int (q 2), .int (q 3), .int (q 4), .ref (m 2), .ref (m 3), .ref (m 4), .ref (m 5), .int (nI c), .ref (m 6), .ref (m 7), .ref (m 8), .int (q 6), .int (q 7), .int (q 8)])), (m 1, .inl (gy G 0, 120, .inl sg)), (m 2, .inl (gy G 0, 271, .inl rd)), (m 4, .inl (gy G 0, 271, .inl tr)), (m 5, .inl (gy G 0, 3794, .inl dy)), (m 7, .inl (gy G 2, 2, .inl ik)), (m 8, .inl (gy G 0, 10, .inl tn))]) (ws2 := [(m 0, .inr (8, [.int 0, .ref (m 1), .int (nI n), .int (q 2), .int (q 3), .int (q 4), .ref (m 2), .ref (m 3), .ref (m 4), .ref (m 5), .int (nI c), .ref (m 6), .ref (m 7), .ref (m 8), .int (q 6), .int (q 7), .int (q 8)])), (m 1, .inl (gy G 0, 120, .inl sg)), (m 2, .inl (gy G 0, 271, .inl rd)), (m 3, .inl (gy G 0, 271, .inl (va_cpy kp f (271 * j) 0 271))), (m 4, .inl (gy G 0, 271, .inl tr)), (m 5, .inl (gy G 0, 3794, .inl dy)), (m 6, .inl (gy G 0, 542, .inl kp)), (m 7, .inl (gy G 2, 2, .inl ik)), (m 8, .inl (gy G 0, 10, .inl tn))]) E (mX8_copyG G (m 6) (m 3) kp f (271 * j) 0 271 (by omega) (by omega)) gX8_restore_X8_copy rfl hnX8_copy ⟨Nat.le_of_ble_eq_true rfl, Nat.le_of_ble_eq_true rfl⟩ (gPerm_ix [6, 3, 0, 1, 2, 4, 5, 7, 8] rfl rfl) rfl rfl (Nat.le_of_ble_eq_true rfl) dX8_restore_54 ⟨Nat.le_of_ble_eq_true rfl, Nat.le_of_ble_eq_true rfl⟩ (gPerm_ix [2, 3, 4, 1, 5, 6, 0, 7, 8] rfl rfl) ?_
      have hRT : RR T (va_cpy kp f (271 * j) 0 271) := RR_cg hRk hOk.1.1.1 (fun i hi => by show va_cpy kp f (271 * j) 0 271 i = kp (271 * j + i); unfold va_cpy; rw [if_pos (by omega), Nat.sub_zero])
      refine g_aload_n E dX8_restore_57 rfl 0 rfl ?_
      refine g_iconst (v := 0) E dX8_restore_58 (by decide) ?_
      refine g_put (ws' := [(m 0, .inr (8, [.int 0, .ref (m 1), .int (nI n), .int (q 2), .int (q 3), .int (q 4), .ref (m 2), .ref (m 3), .ref (m 4), .ref (m 5), .int 0, .ref (m 6), .ref (m 7), .ref (m 8), .int (q 6), .int (q 7), .int (q 8)])), (m 1, .inl (gy G 0, 120, .inl sg)), (m 2, .inl (gy G 0, 271, .inl rd)), (m 3, .inl (gy G 0, 271, .inl (va_cpy kp f (271 * j) 0 271))), (m 4, .inl (gy G 0, 271, .inl tr)), (m 5, .inl (gy G 0, 3794, .inl dy)), (m 6, .inl (gy G 0, 542, .inl kp)), (m 7, .inl (gy G 2, 2, .inl ik)), (m 8, .inl (gy G 0, 10, .inl tn))]) E uX8_restore_RX8 tyX8 tyX8_ok nmX8 0 rfl rfl 10 (by decide) kX8_restore_45 rfl rfl rfl rfl (Nat.le_of_ble_eq_true rfl) rfl dX8_restore_59 ?_
      refine g_aload_n E dX8_restore_62 rfl 0 rfl ?_
      refine g_get E uX8_restore_RX8 0 rfl rfl 7 (by decide) kX8_restore_16 rfl rfl dX8_restore_63 ?_
      refine g_iconst (v := 0) E dX8_restore_66 (by decide) ?_
      refine g_ialdN (e := 0) E 3 rfl (by omega) rfl (v := nI (sN T 0)) (RR_0 hRT) dX8_restore_67 ?_
      exact RET _ _ _ (qU (qU (qU q 0 0) 1 (nI n)) 5 0, sg, rd, va_cpy kp f (271 * j) 0 271, tr, dy, kp, ik, tn) (gRefP_mk (k := 0) (A := ((n, sg), T, (0, H), sl)) (by rw [fRest, if_pos c1, nI_clamp (by omega)]; show (match sl j with | none => _ | some T => _) = _; rw [hsl]) rfl (fun _ => rfl) ⟨rfl, rfl, hRT, rfl, (fun i hi => absurd hi (Nat.not_lt_zero i)), hKp⟩) rfl dX8_restore_68
  · skip
    refine g_iconst (v := 1) E dX8_restore_11 (by decide) ?_
    refine g_goto (tgt := 29) E dX8_restore_12 (by decide) ?_
    refine g_callVIe (F := [(m 1, .inl (gy G 0, 120, .inl sg)), (m 2, .inl (gy G 0, 271, .inl rd)), (m 3, .inl (gy G 0, 271, .inl f)), (m 4, .inl (gy G 0, 271, .inl tr)), (m 5, .inl (gy G 0, 3794, .inl dy)), (m 6, .inl (gy G 0, 542, .inl kp)), (m 7, .inl (gy G 2, 2, .inl ik)), (m 8, .inl (gy G 0, 10, .inl tn))]) (ws2 := [(m 0, .inr (8, [.int 1, .ref (m 1), .int (nI n), .int (q 2), .int (q 3), .int (q 4), .ref (m 2), .ref (m 3), .ref (m 4), .ref (m 5), .int (nI c), .ref (m 6), .ref (m 7), .ref (m 8), .int (q 6), .int (q 7), .int (q 8)])), (m 1, .inl (gy G 0, 120, .inl sg)), (m 2, .inl (gy G 0, 271, .inl rd)), (m 3, .inl (gy G 0, 271, .inl f)), (m 4, .inl (gy G 0, 271, .inl tr)), (m 5, .inl (gy G 0, 3794, .inl dy)), (m 6, .inl (gy G 0, 542, .inl kp)), (m 7, .inl (gy G 2, 2, .inl ik)), (m 8, .inl (gy G 0, 10, .inl tn))]) E (mX8_refused G m (qU (qU q 1 (nI n)) 5 (nI c)) 1) gX8_restore_X8_refused rfl hdX8_refused ⟨Nat.le_of_ble_eq_true rfl, Nat.le_of_ble_eq_true rfl⟩ 8 0 rfl rfl rfl (gPerm_ix [0, 1, 2, 3, 4, 5, 6, 7, 8] rfl rfl) rfl rfl (Nat.le_of_ble_eq_true rfl) dX8_restore_29 ⟨Nat.le_of_ble_eq_true rfl, Nat.le_of_ble_eq_true rfl⟩ (gPerm_ix [0, 1, 2, 3, 4, 5, 6, 7, 8] rfl rfl) ?_
    refine g_if_eq (tgt := 37) E dX8_restore_32 (by decide) (fun c => absurd c (by decide)) (fun _ => ?_)
    refine g_iconst (v := 0) E dX8_restore_35 (by decide) ?_
    exact RET _ _ _ (qU (qU (qU q 0 1) 1 (nI n)) 5 (nI c), sg, rd, f, tr, dy, kp, ik, tn) (gRefP_mk (k := 1) (A := ((n, sg), S, (c, H), sl)) (by rw [fRest, if_neg c1]) rfl (fun e => absurd e (by decide)) ⟨rfl, rfl, hRR, rfl, hD, hKp⟩) rfl dX8_restore_36

set_option maxHeartbeats 4000000 in
set_option maxRecDepth 100000 in
theorem mX8_runScript (G : gG) (m : Nat → Nat) (q : Nat → Int32) (n c : Nat) (sg : Nat → Int32) (S : gSt) (H : Nat → gSt) (sl : Nat → Option gSt) (rd f tr dy kp ik tn : Nat → Int32) (n0 : Int32) (x : Int64) (hn12 : n ≤ 120) (hO : gOk 50000 S) (hc14 : c ≤ 14) (hHo : gHok 50000 c H) (hRR : RR S f) (hD : gDry c H dy) (hKp : gKpt sl kp ik) : CI G yX8_runScript wsX8_runScript 10 239 [.ref (m 0), .int n0, .long x] [(m 0, .inr (8, [.int (q 0), .ref (m 1), .int (nI n), .int (q 2), .int (q 3), .int (q 4), .ref (m 2), .ref (m 3), .ref (m 4), .ref (m 5), .int (nI c), .ref (m 6), .ref (m 7), .ref (m 8), .int (q 6), .int (q 7), .int (q 8)])), (m 1, .inl (gy G 0, 120, .inl sg)), (m 2, .inl (gy G 0, 271, .inl rd)), (m 3, .inl (gy G 0, 271, .inl f)), (m 4, .inl (gy G 0, 271, .inl tr)), (m 5, .inl (gy G 0, 3794, .inl dy)), (m 6, .inl (gy G 0, 542, .inl kp)), (m 7, .inl (gy G 2, 2, .inl ik)), (m 8, .inl (gy G 0, 10, .inl tn))] (gRefP (fScript ((n, sg), S, (c, H), sl) n0 x)) (fun (u : gRu) => (wR G m u)) 0 0 := by
  refine g_enterI (ty := .int) RX8 rfl (by decide) rfl (Nat.le_of_ble_eq_true rfl) ?_
  intro V E RET
  have hK := hO.1
  have hJ := hK.1
  have hI := hJ.1
  have hT1 := hO.2.2
  have hT2 : sN S 0 < 200000000 := by omega
  have hT : sN S 0 < 1000000000 := by omega
  have hb2 := gI2_b2 hJ
  have hX := hI
  obtain ⟨hP8, hn, hw, hW8, hs3, hs4, hs5, hs6, hs7, hs8, hb34⟩ := hX
  refine g_iload_n E dX8_runScript_0 rfl 1 rfl ?_
  refine g_i2l (v := n0.toInt64) E dX8_runScript_1 rfl ?_
  refine g_lconst (v := 1) E dX8_runScript_2 (by decide) ?_
  refine g_ldc2 (v := 3) E kX8_runScript_276 dX8_runScript_3 ?_
  refine g_callSIe (F := [(m 0, .inr (8, [.int (q 0), .ref (m 1), .int (nI n), .int (q 2), .int (q 3), .int (q 4), .ref (m 2), .ref (m 3), .ref (m 4), .ref (m 5), .int (nI c), .ref (m 6), .ref (m 7), .ref (m 8), .int (q 6), .int (q 7), .int (q 8)])), (m 1, .inl (gy G 0, 120, .inl sg)), (m 2, .inl (gy G 0, 271, .inl rd)), (m 3, .inl (gy G 0, 271, .inl f)), (m 4, .inl (gy G 0, 271, .inl tr)), (m 5, .inl (gy G 0, 3794, .inl dy)), (m 6, .inl (gy G 0, 542, .inl kp)), (m 7, .inl (gy G 2, 2, .inl ik)), (m 8, .inl (gy G 0, 10, .inl tn))]) (ws2 := [(m 0, .inr (8, [.int (q 0), .ref (m 1), .int (nI n), .int (q 2), .int (q 3), .int (q 4), .ref (m 2), .ref (m 3), .ref (m 4), .ref (m 5), .int (nI c), .ref (m 6), .ref (m 7), .ref (m 8), .int (q 6), .int (q 7), .int (q 8)])), (m 1, .inl (gy G 0, 120, .inl sg)), (m 2, .inl (gy G 0, 271, .inl rd)), (m 3, .inl (gy G 0, 271, .inl f)), (m 4, .inl (gy G 0, 271, .inl tr)), (m 5, .inl (gy G 0, 3794, .inl dy)), (m 6, .inl (gy G 0, 542, .inl kp)), (m 7, .inl (gy G 2, 2, .inl ik)), (m 8, .inl (gy G 0, 10, .inl tn))]) E (g_resI (gIn64 (lo := 1) (hi := 3) rfl rfl) (mX8_in G n0.toInt64 1 3)) gX8_runScript_X8_in rfl hnX8_in ⟨Nat.le_of_ble_eq_true rfl, Nat.le_of_ble_eq_true rfl⟩ (gPerm_ix [0, 1, 2, 3, 4, 5, 6, 7, 8] rfl rfl) rfl rfl (Nat.le_of_ble_eq_true rfl) dX8_runScript_6 ⟨Nat.le_of_ble_eq_true rfl, Nat.le_of_ble_eq_true rfl⟩ (gPerm_ix [0, 1, 2, 3, 4, 5, 6, 7, 8] rfl rfl) ?_
  by_cases c1 : (¬ n0 < 1 ∧ ¬ 3 < n0)
  · skip
    refine g_top (y := 1) (if_pos c1) ?_
    obtain ⟨j, hj0, hj, rfl⟩ := nI_ofl1 (m := 3) c1 rfl rfl (by decide)
    refine g_istore (lv' := [(4, .int 1), (0, .ref (m 0)), (1, .int (nI j)), (2, .long x)]) E dX8_runScript_9 (by decide) rfl ?_
    refine g_aload_n E dX8_runScript_11 rfl 1 rfl ?_
    refine g_iload E dX8_runScript_12 0 rfl ?_
    refine g_if_eq (tgt := 46) E dX8_runScript_14 (by decide) (fun c => absurd c (by decide)) (fun _ => ?_)
    refine g_lload_n E dX8_runScript_17 rfl 3 rfl ?_
    refine g_lconst (v := 0) E dX8_runScript_18 (by decide) ?_
    refine g_iload E dX8_runScript_19 0 rfl ?_
    refine g_if_eq (tgt := 30) E dX8_runScript_21 (by decide) (fun c => absurd c (by decide)) (fun _ => ?_)
    refine g_iconst (v := 5) E dX8_runScript_24 (by decide) ?_
    refine g_iload_n E dX8_runScript_25 rfl 2 rfl ?_
    refine g_imulN (a := 5) (b := j) E dX8_runScript_26 ?_
    refine g_goto (tgt := 31) E dX8_runScript_27 (by decide) ?_
    refine g_callSLe (F := [(m 0, .inr (8, [.int (q 0), .ref (m 1), .int (nI n), .int (q 2), .int (q 3), .int (q 4), .ref (m 2), .ref (m 3), .ref (m 4), .ref (m 5), .int (nI c), .ref (m 6), .ref (m 7), .ref (m 8), .int (q 6), .int (q 7), .int (q 8)])), (m 1, .inl (gy G 0, 120, .inl sg)), (m 2, .inl (gy G 0, 271, .inl rd)), (m 3, .inl (gy G 0, 271, .inl f)), (m 4, .inl (gy G 0, 271, .inl tr)), (m 5, .inl (gy G 0, 3794, .inl dy)), (m 6, .inl (gy G 0, 542, .inl kp)), (m 7, .inl (gy G 2, 2, .inl ik)), (m 8, .inl (gy G 0, 10, .inl tn))]) (ws2 := [(m 0, .inr (8, [.int (q 0), .ref (m 1), .int (nI n), .int (q 2), .int (q 3), .int (q 4), .ref (m 2), .ref (m 3), .ref (m 4), .ref (m 5), .int (nI c), .ref (m 6), .ref (m 7), .ref (m 8), .int (q 6), .int (q 7), .int (q 8)])), (m 1, .inl (gy G 0, 120, .inl sg)), (m 2, .inl (gy G 0, 271, .inl rd)), (m 3, .inl (gy G 0, 271, .inl f)), (m 4, .inl (gy G 0, 271, .inl tr)), (m 5, .inl (gy G 0, 3794, .inl dy)), (m 6, .inl (gy G 0, 542, .inl kp)), (m 7, .inl (gy G 2, 2, .inl ik)), (m 8, .inl (gy G 0, 10, .inl tn))]) E (mX8_tenTo G (5 * j) (by omega)) gX8_runScript_X8_tenTo rfl hnX8_tenTo ⟨Nat.le_of_ble_eq_true rfl, Nat.le_of_ble_eq_true rfl⟩ (gPerm_ix [0, 1, 2, 3, 4, 5, 6, 7, 8] rfl rfl) rfl rfl (Nat.le_of_ble_eq_true rfl) dX8_runScript_31 ⟨Nat.le_of_ble_eq_true rfl, Nat.le_of_ble_eq_true rfl⟩ (gPerm_ix [0, 1, 2, 3, 4, 5, 6, 7, 8] rfl rfl) ?_
    refine g_lconst (v := 1) E dX8_runScript_34 (by decide) ?_
    refine g_lsub E dX8_runScript_35 ?_
    refine g_callSIe (F := [(m 0, .inr (8, [.int (q 0), .ref (m 1), .int (nI n), .int (q 2), .int (q 3), .int (q 4), .ref (m 2), .ref (m 3), .ref (m 4), .ref (m 5), .int (nI c), .ref (m 6), .ref (m 7), .ref (m 8), .int (q 6), .int (q 7), .int (q 8)])), (m 1, .inl (gy G 0, 120, .inl sg)), (m 2, .inl (gy G 0, 271, .inl rd)), (m 3, .inl (gy G 0, 271, .inl f)), (m 4, .inl (gy G 0, 271, .inl tr)), (m 5, .inl (gy G 0, 3794, .inl dy)), (m 6, .inl (gy G 0, 542, .inl kp)), (m 7, .inl (gy G 2, 2, .inl ik)), (m 8, .inl (gy G 0, 10, .inl tn))]) (ws2 := [(m 0, .inr (8, [.int (q 0), .ref (m 1), .int (nI n), .int (q 2), .int (q 3), .int (q 4), .ref (m 2), .ref (m 3), .ref (m 4), .ref (m 5), .int (nI c), .ref (m 6), .ref (m 7), .ref (m 8), .int (q 6), .int (q 7), .int (q 8)])), (m 1, .inl (gy G 0, 120, .inl sg)), (m 2, .inl (gy G 0, 271, .inl rd)), (m 3, .inl (gy G 0, 271, .inl f)), (m 4, .inl (gy G 0, 271, .inl tr)), (m 5, .inl (gy G 0, 3794, .inl dy)), (m 6, .inl (gy G 0, 542, .inl kp)), (m 7, .inl (gy G 2, 2, .inl ik)), (m 8, .inl (gy G 0, 10, .inl tn))]) E (mX8_in G x 0 ((gTen (5 * j)) - 1)) gX8_runScript_X8_in rfl hnX8_in ⟨Nat.le_of_ble_eq_true rfl, Nat.le_of_ble_eq_true rfl⟩ (gPerm_ix [0, 1, 2, 3, 4, 5, 6, 7, 8] rfl rfl) rfl rfl (Nat.le_of_ble_eq_true rfl) dX8_runScript_36 ⟨Nat.le_of_ble_eq_true rfl, Nat.le_of_ble_eq_true rfl⟩ (gPerm_ix [0, 1, 2, 3, 4, 5, 6, 7, 8] rfl rfl) ?_
    refine g_if_eqB (tgt := 46) (P := (¬ x < 0 ∧ ¬ ((gTen (5 * j)) - 1) < x)) E dX8_runScript_39 (by decide) (fun c2 => ?_) (fun c2 => ?_)
    · skip
      refine g_iconst (v := 1) E dX8_runScript_46 (by decide) ?_
      refine g_callVIe (F := [(m 1, .inl (gy G 0, 120, .inl sg)), (m 2, .inl (gy G 0, 271, .inl rd)), (m 3, .inl (gy G 0, 271, .inl f)), (m 4, .inl (gy G 0, 271, .inl tr)), (m 5, .inl (gy G 0, 3794, .inl dy)), (m 6, .inl (gy G 0, 542, .inl kp)), (m 7, .inl (gy G 2, 2, .inl ik)), (m 8, .inl (gy G 0, 10, .inl tn))]) (ws2 := [(m 0, .inr (8, [.int 1, .ref (m 1), .int (nI n), .int (q 2), .int (q 3), .int (q 4), .ref (m 2), .ref (m 3), .ref (m 4), .ref (m 5), .int (nI c), .ref (m 6), .ref (m 7), .ref (m 8), .int (q 6), .int (q 7), .int (q 8)])), (m 1, .inl (gy G 0, 120, .inl sg)), (m 2, .inl (gy G 0, 271, .inl rd)), (m 3, .inl (gy G 0, 271, .inl f)), (m 4, .inl (gy G 0, 271, .inl tr)), (m 5, .inl (gy G 0, 3794, .inl dy)), (m 6, .inl (gy G 0, 542, .inl kp)), (m 7, .inl (gy G 2, 2, .inl ik)), (m 8, .inl (gy G 0, 10, .inl tn))]) E (mX8_refused G m (qU (qU q 1 (nI n)) 5 (nI c)) 1) gX8_runScript_X8_refused rfl hdX8_refused ⟨Nat.le_of_ble_eq_true rfl, Nat.le_of_ble_eq_true rfl⟩ 8 0 rfl rfl rfl (gPerm_ix [0, 1, 2, 3, 4, 5, 6, 7, 8] rfl rfl) rfl rfl (Nat.le_of_ble_eq_true rfl) dX8_runScript_47 ⟨Nat.le_of_ble_eq_true rfl, Nat.le_of_ble_eq_true rfl⟩ (gPerm_ix [0, 1, 2, 3, 4, 5, 6, 7, 8] rfl rfl) ?_
      refine g_if_eq (tgt := 55) E dX8_runScript_50 (by decide) (fun c => absurd c (by decide)) (fun _ => ?_)
      refine g_iconst (v := 0) E dX8_runScript_53 (by decide) ?_
      exact RET _ _ _ (qU (qU (qU q 0 1) 1 (nI n)) 5 (nI c), sg, rd, f, tr, dy, kp, ik, tn) (gRefP_mk (k := 1) (A := ((n, sg), S, (c, H), sl)) (by rw [fScript, if_pos c1, nI_clamp (by omega), if_neg (fun q => c2 ((gScr_in hj0 (by omega)).mpr q))]) rfl (fun e => absurd e (by decide)) ⟨rfl, rfl, hRR, rfl, hD, hKp⟩) rfl dX8_runScript_54
    · skip
      refine g_iconst (v := 0) E dX8_runScript_42 (by decide) ?_
      refine g_goto (tgt := 47) E dX8_runScript_43 (by decide) ?_
      refine g_callVIe (F := [(m 1, .inl (gy G 0, 120, .inl sg)), (m 2, .inl (gy G 0, 271, .inl rd)), (m 3, .inl (gy G 0, 271, .inl f)), (m 4, .inl (gy G 0, 271, .inl tr)), (m 5, .inl (gy G 0, 3794, .inl dy)), (m 6, .inl (gy G 0, 542, .inl kp)), (m 7, .inl (gy G 2, 2, .inl ik)), (m 8, .inl (gy G 0, 10, .inl tn))]) (ws2 := [(m 0, .inr (8, [.int 0, .ref (m 1), .int (nI n), .int (q 2), .int (q 3), .int (q 4), .ref (m 2), .ref (m 3), .ref (m 4), .ref (m 5), .int (nI c), .ref (m 6), .ref (m 7), .ref (m 8), .int (q 6), .int (q 7), .int (q 8)])), (m 1, .inl (gy G 0, 120, .inl sg)), (m 2, .inl (gy G 0, 271, .inl rd)), (m 3, .inl (gy G 0, 271, .inl f)), (m 4, .inl (gy G 0, 271, .inl tr)), (m 5, .inl (gy G 0, 3794, .inl dy)), (m 6, .inl (gy G 0, 542, .inl kp)), (m 7, .inl (gy G 2, 2, .inl ik)), (m 8, .inl (gy G 0, 10, .inl tn))]) E (mX8_refused G m (qU (qU q 1 (nI n)) 5 (nI c)) 0) gX8_runScript_X8_refused rfl hdX8_refused ⟨Nat.le_of_ble_eq_true rfl, Nat.le_of_ble_eq_true rfl⟩ 8 0 rfl rfl rfl (gPerm_ix [0, 1, 2, 3, 4, 5, 6, 7, 8] rfl rfl) rfl rfl (Nat.le_of_ble_eq_true rfl) dX8_runScript_47 ⟨Nat.le_of_ble_eq_true rfl, Nat.le_of_ble_eq_true rfl⟩ (gPerm_ix [0, 1, 2, 3, 4, 5, 6, 7, 8] rfl rfl) ?_
      refine g_if_eq (tgt := 55) E dX8_runScript_50 (by decide) (fun _ => ?_) (fun c => absurd c (by decide))
      refine g_aload_n E dX8_runScript_55 rfl 1 rfl ?_
      refine g_callVVe (F := [(m 1, .inl (gy G 0, 120, .inl sg)), (m 2, .inl (gy G 0, 271, .inl rd)), (m 5, .inl (gy G 0, 3794, .inl dy)), (m 6, .inl (gy G 0, 542, .inl kp)), (m 7, .inl (gy G 2, 2, .inl ik)), (m 8, .inl (gy G 0, 10, .inl tn))]) (ws2 := [(m 0, .inr (8, [.int 0, .ref (m 1), .int (nI n), .int (q 2), .int (q 3), .int (q 4), .ref (m 2), .ref (m 3), .ref (m 4), .ref (m 5), .int (nI c), .ref (m 6), .ref (m 7), .ref (m 8), .int (-1), .int (q 7), .int (q 8)])), (m 1, .inl (gy G 0, 120, .inl sg)), (m 2, .inl (gy G 0, 271, .inl rd)), (m 3, .inl (gy G 0, 271, .inl f)), (m 4, .inl (gy G 0, 271, .inl (va_cpy f tr 0 0 271))), (m 5, .inl (gy G 0, 3794, .inl dy)), (m 6, .inl (gy G 0, 542, .inl kp)), (m 7, .inl (gy G 2, 2, .inl ik)), (m 8, .inl (gy G 0, 10, .inl tn))]) E (mX8_tryIt G m (qU (qU (qU q 0 0) 1 (nI n)) 5 (nI c)) f tr) gX8_runScript_X8_tryIt rfl hdX8_tryIt ⟨Nat.le_of_ble_eq_true rfl, Nat.le_of_ble_eq_true rfl⟩ 8 0 rfl rfl rfl (gPerm_ix [0, 3, 4, 1, 2, 5, 6, 7, 8] rfl rfl) rfl rfl (Nat.le_of_ble_eq_true rfl) dX8_runScript_56 ⟨Nat.le_of_ble_eq_true rfl, Nat.le_of_ble_eq_true rfl⟩ (gPerm_ix [0, 3, 4, 1, 2, 5, 6, 7, 8] rfl rfl) ?_
      have hRt : RR S (va_cpy f tr 0 0 271) := RR_cg hRR hI (fun i hi => gCpyA hi)
      refine g_iconst (v := 0) E dX8_runScript_59 (by decide) ?_
      refine g_istore (lv' := [(5, .int 0), (4, .int 1), (0, .ref (m 0)), (1, .int (nI j)), (2, .long x)]) E dX8_runScript_60 (by decide) rfl ?_
      have loop3 : ∀ (n4 : Nat) (k : Nat) (C : gSt) (ft : Int32) (tk g : Nat → Int32), (k ≤ j) → (gI3 C) → (sN C 0 ≤ 50000 + 100 * k) → (gScr j x (j - k) C = gScr j x j S) → (RR C g) → j - k < n4 → gW V 6 0 0 [(m 0, .inr (8, [.int 0, .ref (m 1), .int (nI n), .int (q 2), .int (q 3), .int (q 4), .ref (m 2), .ref (m 3), .ref (m 4), .ref (m 5), .int (nI c), .ref (m 6), .ref (m 7), .ref (m 8), .int ft, .int (q 7), .int (q 8)])), (m 1, .inl (gy G 0, 120, .inl sg)), (m 2, .inl (gy G 0, 271, .inl rd)), (m 3, .inl (gy G 0, 271, .inl f)), (m 4, .inl (gy G 0, 271, .inl g)), (m 5, .inl (gy G 0, 3794, .inl dy)), (m 6, .inl (gy G 0, 542, .inl kp)), (m 7, .inl (gy G 2, 2, .inl ik)), (m 8, .inl (gy G 0, 10, .inl tk))] [(0, .ref (m 0)), (1, .int (nI j)), (2, .long x), (4, .int 1), (5, .int (nI k))] 62 [] := by
        intro n4
        induction n4 with
        | zero => intro k C ft tk g hk hKC hTC hSc hRg hm6; exact absurd hm6 (Nat.not_lt_zero _)
        | succ n4 ih5 =>
          intro k C ft tk g hk hKC hTC hSc hRg hm6
          refine g_iload E dX8_runScript_62 4 rfl ?_
          refine g_iload_n E dX8_runScript_64 rfl 1 rfl ?_
          refine g_icmp_geN (tgt := 102) (a := k) (b := j) E dX8_runScript_65 (by decide) (by omega) (by omega) (fun c7 => ?_) (fun c7 => ?_)
          · skip
            refine g_iconst (v := (-1)) E dX8_runScript_102 (by decide) ?_
            exact RET _ _ _ (qU (qU (qU (qU q 0 0) 1 (nI n)) 5 (nI c)) 6 ft, sg, rd, f, g, dy, kp, ik, tk) (gRefP_mk (k := 0) (A := ((n, sg), S, (c, H), sl)) (by rw [fScript, if_pos c1, nI_clamp (by omega), if_pos ((gScr_in hj0 (by omega)).mp c2), ← hSc, show j - k = 0 by omega]; rfl) rfl (fun _ => rfl) ⟨rfl, rfl, hRR, rfl, hD, hKp⟩) rfl dX8_runScript_103
          · skip
            have hkj : k < j := by omega
            refine g_aload_n E dX8_runScript_68 rfl 0 rfl ?_
            refine g_lload_n E dX8_runScript_69 rfl 2 rfl ?_
            refine g_iconst (v := 5) E dX8_runScript_70 (by decide) ?_
            refine g_iload_n E dX8_runScript_71 rfl 1 rfl ?_
            refine g_iconst (v := 1) E dX8_runScript_72 (by decide) ?_
            refine g_isubN (a := j) (b := 1) E dX8_runScript_73 (by omega) ?_
            refine g_iload E dX8_runScript_74 4 rfl ?_
            refine g_isubN (a := j - 1) (b := k) E dX8_runScript_76 (by omega) ?_
            refine g_imulN (a := 5) (b := j - 1 - k) E dX8_runScript_77 ?_
            refine g_callSLe (F := [(m 0, .inr (8, [.int 0, .ref (m 1), .int (nI n), .int (q 2), .int (q 3), .int (q 4), .ref (m 2), .ref (m 3), .ref (m 4), .ref (m 5), .int (nI c), .ref (m 6), .ref (m 7), .ref (m 8), .int ft, .int (q 7), .int (q 8)])), (m 1, .inl (gy G 0, 120, .inl sg)), (m 2, .inl (gy G 0, 271, .inl rd)), (m 3, .inl (gy G 0, 271, .inl f)), (m 4, .inl (gy G 0, 271, .inl g)), (m 5, .inl (gy G 0, 3794, .inl dy)), (m 6, .inl (gy G 0, 542, .inl kp)), (m 7, .inl (gy G 2, 2, .inl ik)), (m 8, .inl (gy G 0, 10, .inl tk))]) (ws2 := [(m 0, .inr (8, [.int 0, .ref (m 1), .int (nI n), .int (q 2), .int (q 3), .int (q 4), .ref (m 2), .ref (m 3), .ref (m 4), .ref (m 5), .int (nI c), .ref (m 6), .ref (m 7), .ref (m 8), .int ft, .int (q 7), .int (q 8)])), (m 1, .inl (gy G 0, 120, .inl sg)), (m 2, .inl (gy G 0, 271, .inl rd)), (m 3, .inl (gy G 0, 271, .inl f)), (m 4, .inl (gy G 0, 271, .inl g)), (m 5, .inl (gy G 0, 3794, .inl dy)), (m 6, .inl (gy G 0, 542, .inl kp)), (m 7, .inl (gy G 2, 2, .inl ik)), (m 8, .inl (gy G 0, 10, .inl tk))]) E (mX8_tenTo G (5 * (j - 1 - k)) (by omega)) gX8_runScript_X8_tenTo rfl hnX8_tenTo ⟨Nat.le_of_ble_eq_true rfl, Nat.le_of_ble_eq_true rfl⟩ (gPerm_ix [0, 1, 2, 3, 4, 5, 6, 7, 8] rfl rfl) rfl rfl (Nat.le_of_ble_eq_true rfl) dX8_runScript_78 ⟨Nat.le_of_ble_eq_true rfl, Nat.le_of_ble_eq_true rfl⟩ (gPerm_ix [0, 1, 2, 3, 4, 5, 6, 7, 8] rfl rfl) ?_
            refine g_ldiv E dX8_runScript_81 (gTen_nz (by omega)) ?_
            refine g_ldc2 (v := 100000) E kX8_runScript_338 dX8_runScript_82 ?_
            refine g_lrem E dX8_runScript_85 (by decide) ?_
            refine g_l2i (v := ((x / (gTen (5 * (j - 1 - k)))) - (x / (gTen (5 * (j - 1 - k)))) / 100000 * 100000).toInt32) E dX8_runScript_86 rfl ?_
            obtain ⟨hge, hgl⟩ := gGrp_eq (r := j - 1 - k) c2.1 (by omega)
            refine g_top (y := nI (gGrp x (j - 1 - k))) hge ?_
            refine g_callVIu (F := [(m 1, .inl (gy G 0, 120, .inl sg)), (m 2, .inl (gy G 0, 271, .inl rd)), (m 3, .inl (gy G 0, 271, .inl f)), (m 5, .inl (gy G 0, 3794, .inl dy)), (m 6, .inl (gy G 0, 542, .inl kp)), (m 7, .inl (gy G 2, 2, .inl ik))]) E (mX8_does G m (qU (qU (qU (qU q 0 0) 1 (nI n)) 5 (nI c)) 6 ft) C g (gGrp x (j - 1 - k)) tk hKC (by omega) hRg hgl) gX8_runScript_X8_does rfl hdX8_does ⟨Nat.le_of_ble_eq_true rfl, Nat.le_of_ble_eq_true rfl⟩ 8 0 rfl rfl rfl (gPerm_ix [0, 4, 8, 1, 2, 3, 5, 6, 7] rfl rfl) rfl rfl (Nat.le_of_ble_eq_true rfl) dX8_runScript_87 ⟨Nat.le_of_ble_eq_true rfl, Nat.le_of_ble_eq_true rfl⟩ (fun u8 hU8 => ?_)
            refine g_perm (ws1 := [(m 0, .inr (8, [.int 0, .ref (m 1), .int (nI n), .int (q 2), .int (q 3), .int (q 4), .ref (m 2), .ref (m 3), .ref (m 4), .ref (m 5), .int (nI c), .ref (m 6), .ref (m 7), .ref (m 8), .int u8.1, .int (q 7), .int (q 8)])), (m 1, .inl (gy G 0, 120, .inl sg)), (m 2, .inl (gy G 0, 271, .inl rd)), (m 3, .inl (gy G 0, 271, .inl f)), (m 4, .inl (gy G 0, 271, .inl u8.2.2)), (m 5, .inl (gy G 0, 3794, .inl dy)), (m 6, .inl (gy G 0, 542, .inl kp)), (m 7, .inl (gy G 2, 2, .inl ik)), (m 8, .inl (gy G 0, 10, .inl u8.2.1))]) (gPerm_ix [0, 3, 4, 5, 1, 6, 7, 8, 2] rfl rfl) ?_
            refine g_if_ne (tgt := 96) E dX8_runScript_90 (by decide) (fun c10 => ?_) (fun c10 => ?_)
            · skip
              refine g_iinc (lv' := [(5, .int (nI (k + 1))), (0, .ref (m 0)), (1, .int (nI j)), (2, .long x), (4, .int 1)]) E dX8_runScript_96 4 rfl (g_inc _ 1 (by decide)) (by decide) rfl ?_
              refine g_goto (tgt := 62) E dX8_runScript_99 (by decide) ?_
              refine g_lv [1, 2, 3, 4, 0] rfl ?_
              exact ih5  (k + 1) _ _ _ _ (by omega) (gI3_succ hKC (by omega) _) (by have := gSucc_t (S := C) (gGrp x (j - 1 - k)); omega) (by rw [← hSc, show j - k = (j - 1 - k) + 1 by omega, gScr_st, if_neg c10, show j - (k + 1) = j - 1 - k by omega]) hU8 (by omega)
            · skip
              refine g_iload E dX8_runScript_93 4 rfl ?_
              exact RET _ _ _ (qU (qU (qU (qU q 0 0) 1 (nI n)) 5 (nI c)) 6 u8.1, sg, rd, f, u8.2.2, dy, kp, ik, u8.2.1) (gRefP_mk (k := 0) (A := ((n, sg), S, (c, H), sl)) (by rw [fScript, if_pos c1, nI_clamp (by omega), if_pos ((gScr_in hj0 (by omega)).mp c2), ← hSc, show j - k = (j - 1 - k) + 1 by omega, gScr_st, if_pos c10, show j - 1 - (j - 1 - k) = k by omega]) rfl (fun _ => rfl) ⟨rfl, rfl, hRR, rfl, hD, hKp⟩) rfl dX8_runScript_95
      refine g_lv [2, 3, 4, 1, 0] rfl ?_
      exact loop3 _ 0 S _ _ _ (Nat.zero_le _) hK (by omega) rfl hRt (Nat.lt_succ_self _)
  · skip
    refine g_top (y := 0) (if_neg c1) ?_
    refine g_istore (lv' := [(4, .int 0), (0, .ref (m 0)), (1, .int n0), (2, .long x)]) E dX8_runScript_9 (by decide) rfl ?_
    refine g_aload_n E dX8_runScript_11 rfl 1 rfl ?_
    refine g_iload E dX8_runScript_12 0 rfl ?_
    refine g_if_eq (tgt := 46) E dX8_runScript_14 (by decide) (fun _ => ?_) (fun c => absurd c (by decide))
    refine g_iconst (v := 1) E dX8_runScript_46 (by decide) ?_
    refine g_callVIe (F := [(m 1, .inl (gy G 0, 120, .inl sg)), (m 2, .inl (gy G 0, 271, .inl rd)), (m 3, .inl (gy G 0, 271, .inl f)), (m 4, .inl (gy G 0, 271, .inl tr)), (m 5, .inl (gy G 0, 3794, .inl dy)), (m 6, .inl (gy G 0, 542, .inl kp)), (m 7, .inl (gy G 2, 2, .inl ik)), (m 8, .inl (gy G 0, 10, .inl tn))]) (ws2 := [(m 0, .inr (8, [.int 1, .ref (m 1), .int (nI n), .int (q 2), .int (q 3), .int (q 4), .ref (m 2), .ref (m 3), .ref (m 4), .ref (m 5), .int (nI c), .ref (m 6), .ref (m 7), .ref (m 8), .int (q 6), .int (q 7), .int (q 8)])), (m 1, .inl (gy G 0, 120, .inl sg)), (m 2, .inl (gy G 0, 271, .inl rd)), (m 3, .inl (gy G 0, 271, .inl f)), (m 4, .inl (gy G 0, 271, .inl tr)), (m 5, .inl (gy G 0, 3794, .inl dy)), (m 6, .inl (gy G 0, 542, .inl kp)), (m 7, .inl (gy G 2, 2, .inl ik)), (m 8, .inl (gy G 0, 10, .inl tn))]) E (mX8_refused G m (qU (qU q 1 (nI n)) 5 (nI c)) 1) gX8_runScript_X8_refused rfl hdX8_refused ⟨Nat.le_of_ble_eq_true rfl, Nat.le_of_ble_eq_true rfl⟩ 8 0 rfl rfl rfl (gPerm_ix [0, 1, 2, 3, 4, 5, 6, 7, 8] rfl rfl) rfl rfl (Nat.le_of_ble_eq_true rfl) dX8_runScript_47 ⟨Nat.le_of_ble_eq_true rfl, Nat.le_of_ble_eq_true rfl⟩ (gPerm_ix [0, 1, 2, 3, 4, 5, 6, 7, 8] rfl rfl) ?_
    refine g_if_eq (tgt := 55) E dX8_runScript_50 (by decide) (fun c => absurd c (by decide)) (fun _ => ?_)
    refine g_iconst (v := 0) E dX8_runScript_53 (by decide) ?_
    exact RET _ _ _ (qU (qU (qU q 0 1) 1 (nI n)) 5 (nI c), sg, rd, f, tr, dy, kp, ik, tn) (gRefP_mk (k := 1) (A := ((n, sg), S, (c, H), sl)) (by rw [fScript, if_neg c1]) rfl (fun e => absurd e (by decide)) ⟨rfl, rfl, hRR, rfl, hD, hKp⟩) rfl dX8_runScript_54

set_option maxHeartbeats 4000000 in
set_option maxRecDepth 100000 in
theorem mX8_simulate (G : gG) (m : Nat → Nat) (q : Nat → Int32) (n c : Nat) (sg : Nat → Int32) (S : gSt) (H : Nat → gSt) (sl : Nat → Option gSt) (rd f tr dy kp ik tn : Nat → Int32) (x : Int64) (n0 : Int32) (hn12 : n ≤ 120) (hO : gOk 50000 S) (hc14 : c ≤ 14) (hHo : gHok 50000 c H) (hRR : RR S f) (hD : gDry c H dy) (hKp : gKpt sl kp ik) : CI G yX8_simulate wsX8_simulate 9 215 [.ref (m 0), .long x, .int n0] [(m 0, .inr (8, [.int (q 0), .ref (m 1), .int (nI n), .int (q 2), .int (q 3), .int (q 4), .ref (m 2), .ref (m 3), .ref (m 4), .ref (m 5), .int (nI c), .ref (m 6), .ref (m 7), .ref (m 8), .int (q 6), .int (q 7), .int (q 8)])), (m 1, .inl (gy G 0, 120, .inl sg)), (m 2, .inl (gy G 0, 271, .inl rd)), (m 3, .inl (gy G 0, 271, .inl f)), (m 4, .inl (gy G 0, 271, .inl tr)), (m 5, .inl (gy G 0, 3794, .inl dy)), (m 6, .inl (gy G 0, 542, .inl kp)), (m 7, .inl (gy G 2, 2, .inl ik)), (m 8, .inl (gy G 0, 10, .inl tn))] (gRefP (fSim ((n, sg), S, (c, H), sl) x n0)) (fun (u : gRu) => (wR G m u)) 0 0 := by
  refine g_enterI (ty := .int) RX8 rfl (by decide) rfl (Nat.le_of_ble_eq_true rfl) ?_
  intro V E RET
  have hK := hO.1
  have hJ := hK.1
  have hI := hJ.1
  have hT1 := hO.2.2
  have hT2 : sN S 0 < 200000000 := by omega
  have hT : sN S 0 < 1000000000 := by omega
  have hb2 := gI2_b2 hJ
  have hX := hI
  obtain ⟨hP8, hn, hw, hW8, hs3, hs4, hs5, hs6, hs7, hs8, hb34⟩ := hX
  refine g_aload_n E dX8_simulate_0 rfl 0 rfl ?_
  refine g_iload_n E dX8_simulate_1 rfl 2 rfl ?_
  refine g_i2l (v := n0.toInt64) E dX8_simulate_2 rfl ?_
  refine g_lconst (v := 1) E dX8_simulate_3 (by decide) ?_
  refine g_ldc2 (v := 60) E kX8_simulate_307 dX8_simulate_4 ?_
  refine g_callSIe (F := [(m 0, .inr (8, [.int (q 0), .ref (m 1), .int (nI n), .int (q 2), .int (q 3), .int (q 4), .ref (m 2), .ref (m 3), .ref (m 4), .ref (m 5), .int (nI c), .ref (m 6), .ref (m 7), .ref (m 8), .int (q 6), .int (q 7), .int (q 8)])), (m 1, .inl (gy G 0, 120, .inl sg)), (m 2, .inl (gy G 0, 271, .inl rd)), (m 3, .inl (gy G 0, 271, .inl f)), (m 4, .inl (gy G 0, 271, .inl tr)), (m 5, .inl (gy G 0, 3794, .inl dy)), (m 6, .inl (gy G 0, 542, .inl kp)), (m 7, .inl (gy G 2, 2, .inl ik)), (m 8, .inl (gy G 0, 10, .inl tn))]) (ws2 := [(m 0, .inr (8, [.int (q 0), .ref (m 1), .int (nI n), .int (q 2), .int (q 3), .int (q 4), .ref (m 2), .ref (m 3), .ref (m 4), .ref (m 5), .int (nI c), .ref (m 6), .ref (m 7), .ref (m 8), .int (q 6), .int (q 7), .int (q 8)])), (m 1, .inl (gy G 0, 120, .inl sg)), (m 2, .inl (gy G 0, 271, .inl rd)), (m 3, .inl (gy G 0, 271, .inl f)), (m 4, .inl (gy G 0, 271, .inl tr)), (m 5, .inl (gy G 0, 3794, .inl dy)), (m 6, .inl (gy G 0, 542, .inl kp)), (m 7, .inl (gy G 2, 2, .inl ik)), (m 8, .inl (gy G 0, 10, .inl tn))]) E (g_resI (gIn64 (lo := 1) (hi := 60) rfl rfl) (mX8_in G n0.toInt64 1 60)) gX8_simulate_X8_in rfl hnX8_in ⟨Nat.le_of_ble_eq_true rfl, Nat.le_of_ble_eq_true rfl⟩ (gPerm_ix [0, 1, 2, 3, 4, 5, 6, 7, 8] rfl rfl) rfl rfl (Nat.le_of_ble_eq_true rfl) dX8_simulate_7 ⟨Nat.le_of_ble_eq_true rfl, Nat.le_of_ble_eq_true rfl⟩ (gPerm_ix [0, 1, 2, 3, 4, 5, 6, 7, 8] rfl rfl) ?_
  refine g_if_eqB (tgt := 17) (P := (¬ n0 < 1 ∧ ¬ 60 < n0)) E dX8_simulate_10 (by decide) (fun c1 => ?_) (fun c1 => ?_)
  · skip
    refine g_iconst (v := 1) E dX8_simulate_17 (by decide) ?_
    refine g_callVIe (F := [(m 1, .inl (gy G 0, 120, .inl sg)), (m 2, .inl (gy G 0, 271, .inl rd)), (m 3, .inl (gy G 0, 271, .inl f)), (m 4, .inl (gy G 0, 271, .inl tr)), (m 5, .inl (gy G 0, 3794, .inl dy)), (m 6, .inl (gy G 0, 542, .inl kp)), (m 7, .inl (gy G 2, 2, .inl ik)), (m 8, .inl (gy G 0, 10, .inl tn))]) (ws2 := [(m 0, .inr (8, [.int 1, .ref (m 1), .int (nI n), .int (q 2), .int (q 3), .int (q 4), .ref (m 2), .ref (m 3), .ref (m 4), .ref (m 5), .int (nI c), .ref (m 6), .ref (m 7), .ref (m 8), .int (q 6), .int (q 7), .int (q 8)])), (m 1, .inl (gy G 0, 120, .inl sg)), (m 2, .inl (gy G 0, 271, .inl rd)), (m 3, .inl (gy G 0, 271, .inl f)), (m 4, .inl (gy G 0, 271, .inl tr)), (m 5, .inl (gy G 0, 3794, .inl dy)), (m 6, .inl (gy G 0, 542, .inl kp)), (m 7, .inl (gy G 2, 2, .inl ik)), (m 8, .inl (gy G 0, 10, .inl tn))]) E (mX8_refused G m (qU (qU q 1 (nI n)) 5 (nI c)) 1) gX8_simulate_X8_refused rfl hdX8_refused ⟨Nat.le_of_ble_eq_true rfl, Nat.le_of_ble_eq_true rfl⟩ 8 0 rfl rfl rfl (gPerm_ix [0, 1, 2, 3, 4, 5, 6, 7, 8] rfl rfl) rfl rfl (Nat.le_of_ble_eq_true rfl) dX8_simulate_18 ⟨Nat.le_of_ble_eq_true rfl, Nat.le_of_ble_eq_true rfl⟩ (gPerm_ix [0, 1, 2, 3, 4, 5, 6, 7, 8] rfl rfl) ?_
    refine g_if_eq (tgt := 26) E dX8_simulate_21 (by decide) (fun c => absurd c (by decide)) (fun _ => ?_)
    refine g_iconst (v := 0) E dX8_simulate_24 (by decide) ?_
    exact RET _ _ _ (qU (qU (qU q 0 1) 1 (nI n)) 5 (nI c), sg, rd, f, tr, dy, kp, ik, tn) (gRefP_mk (k := 1) (A := ((n, sg), S, (c, H), sl)) (by rw [fSim, if_neg c1]) rfl (fun e => absurd e (by decide)) ⟨rfl, rfl, hRR, rfl, hD, hKp⟩) rfl dX8_simulate_25
  · skip
    obtain ⟨j, hj0, hj, rfl⟩ := nI_ofl1 (m := 60) c1 rfl rfl (by decide)
    refine g_iconst (v := 0) E dX8_simulate_13 (by decide) ?_
    refine g_goto (tgt := 18) E dX8_simulate_14 (by decide) ?_
    refine g_callVIe (F := [(m 1, .inl (gy G 0, 120, .inl sg)), (m 2, .inl (gy G 0, 271, .inl rd)), (m 3, .inl (gy G 0, 271, .inl f)), (m 4, .inl (gy G 0, 271, .inl tr)), (m 5, .inl (gy G 0, 3794, .inl dy)), (m 6, .inl (gy G 0, 542, .inl kp)), (m 7, .inl (gy G 2, 2, .inl ik)), (m 8, .inl (gy G 0, 10, .inl tn))]) (ws2 := [(m 0, .inr (8, [.int 0, .ref (m 1), .int (nI n), .int (q 2), .int (q 3), .int (q 4), .ref (m 2), .ref (m 3), .ref (m 4), .ref (m 5), .int (nI c), .ref (m 6), .ref (m 7), .ref (m 8), .int (q 6), .int (q 7), .int (q 8)])), (m 1, .inl (gy G 0, 120, .inl sg)), (m 2, .inl (gy G 0, 271, .inl rd)), (m 3, .inl (gy G 0, 271, .inl f)), (m 4, .inl (gy G 0, 271, .inl tr)), (m 5, .inl (gy G 0, 3794, .inl dy)), (m 6, .inl (gy G 0, 542, .inl kp)), (m 7, .inl (gy G 2, 2, .inl ik)), (m 8, .inl (gy G 0, 10, .inl tn))]) E (mX8_refused G m (qU (qU q 1 (nI n)) 5 (nI c)) 0) gX8_simulate_X8_refused rfl hdX8_refused ⟨Nat.le_of_ble_eq_true rfl, Nat.le_of_ble_eq_true rfl⟩ 8 0 rfl rfl rfl (gPerm_ix [0, 1, 2, 3, 4, 5, 6, 7, 8] rfl rfl) rfl rfl (Nat.le_of_ble_eq_true rfl) dX8_simulate_18 ⟨Nat.le_of_ble_eq_true rfl, Nat.le_of_ble_eq_true rfl⟩ (gPerm_ix [0, 1, 2, 3, 4, 5, 6, 7, 8] rfl rfl) ?_
    refine g_if_eq (tgt := 26) E dX8_simulate_21 (by decide) (fun _ => ?_) (fun c => absurd c (by decide))
    refine g_aload_n E dX8_simulate_26 rfl 0 rfl ?_
    refine g_callVVe (F := [(m 1, .inl (gy G 0, 120, .inl sg)), (m 2, .inl (gy G 0, 271, .inl rd)), (m 5, .inl (gy G 0, 3794, .inl dy)), (m 6, .inl (gy G 0, 542, .inl kp)), (m 7, .inl (gy G 2, 2, .inl ik)), (m 8, .inl (gy G 0, 10, .inl tn))]) (ws2 := [(m 0, .inr (8, [.int 0, .ref (m 1), .int (nI n), .int (q 2), .int (q 3), .int (q 4), .ref (m 2), .ref (m 3), .ref (m 4), .ref (m 5), .int (nI c), .ref (m 6), .ref (m 7), .ref (m 8), .int (-1), .int (q 7), .int (q 8)])), (m 1, .inl (gy G 0, 120, .inl sg)), (m 2, .inl (gy G 0, 271, .inl rd)), (m 3, .inl (gy G 0, 271, .inl f)), (m 4, .inl (gy G 0, 271, .inl (va_cpy f tr 0 0 271))), (m 5, .inl (gy G 0, 3794, .inl dy)), (m 6, .inl (gy G 0, 542, .inl kp)), (m 7, .inl (gy G 2, 2, .inl ik)), (m 8, .inl (gy G 0, 10, .inl tn))]) E (mX8_tryIt G m (qU (qU (qU q 0 0) 1 (nI n)) 5 (nI c)) f tr) gX8_simulate_X8_tryIt rfl hdX8_tryIt ⟨Nat.le_of_ble_eq_true rfl, Nat.le_of_ble_eq_true rfl⟩ 8 0 rfl rfl rfl (gPerm_ix [0, 3, 4, 1, 2, 5, 6, 7, 8] rfl rfl) rfl rfl (Nat.le_of_ble_eq_true rfl) dX8_simulate_27 ⟨Nat.le_of_ble_eq_true rfl, Nat.le_of_ble_eq_true rfl⟩ (gPerm_ix [0, 3, 4, 1, 2, 5, 6, 7, 8] rfl rfl) ?_
    have hRt : RR S (va_cpy f tr 0 0 271) := RR_cg hRR hI (fun i hi => gCpyA hi)
    refine g_lload_n E dX8_simulate_30 rfl 1 rfl ?_
    refine g_lstore (lv' := [(4, .long x), (0, .ref (m 0)), (1, .long x), (3, .int (nI j))]) E dX8_simulate_31 (by decide) rfl ?_
    refine g_iconst (v := 0) E dX8_simulate_33 (by decide) ?_
    refine g_istore (lv' := [(6, .int 0), (4, .long x), (0, .ref (m 0)), (1, .long x), (3, .int (nI j))]) E dX8_simulate_34 (by decide) rfl ?_
    have loop2 : ∀ (n3 : Nat) (k : Nat) (y : Int64) (C : gSt) (ft : Int32) (tk g : Nat → Int32), (k ≤ j) → (gI3 C) → (sN C 0 ≤ 50000 + k) → (gSim (j - k) y C = gSim j x S) → (RR C g) → j - k < n3 → gW V 7 0 0 [(m 0, .inr (8, [.int 0, .ref (m 1), .int (nI n), .int (q 2), .int (q 3), .int (q 4), .ref (m 2), .ref (m 3), .ref (m 4), .ref (m 5), .int (nI c), .ref (m 6), .ref (m 7), .ref (m 8), .int ft, .int (q 7), .int (q 8)])), (m 1, .inl (gy G 0, 120, .inl sg)), (m 2, .inl (gy G 0, 271, .inl rd)), (m 3, .inl (gy G 0, 271, .inl f)), (m 4, .inl (gy G 0, 271, .inl g)), (m 5, .inl (gy G 0, 3794, .inl dy)), (m 6, .inl (gy G 0, 542, .inl kp)), (m 7, .inl (gy G 2, 2, .inl ik)), (m 8, .inl (gy G 0, 10, .inl tk))] [(0, .ref (m 0)), (1, .long x), (3, .int (nI j)), (4, .long y), (6, .int (nI k))] 36 [] := by
      intro n3
      induction n3 with
      | zero => intro k y C ft tk g hk hKC hTC hSc hRg hm5; exact absurd hm5 (Nat.not_lt_zero _)
      | succ n3 ih4 =>
        intro k y C ft tk g hk hKC hTC hSc hRg hm5
        refine g_iload E dX8_simulate_36 4 rfl ?_
        refine g_iload_n E dX8_simulate_38 rfl 2 rfl ?_
        refine g_icmp_geN (tgt := 70) (a := k) (b := j) E dX8_simulate_39 (by decide) (by omega) (by omega) (fun c6 => ?_) (fun c6 => ?_)
        · skip
          refine g_bipush (v := 100) E dX8_simulate_70 (by decide) ?_
          refine g_aload_n E dX8_simulate_72 rfl 0 rfl ?_
          refine g_get E uX8_simulate_RX8 0 rfl rfl 8 (by decide) kX8_simulate_19 rfl rfl dX8_simulate_73 ?_
          refine g_iconst (v := 4) E dX8_simulate_76 (by decide) ?_
          refine g_ialdN (e := 4) E 4 rfl (by omega) rfl (v := sI C 8 0) (RR_C hRg (j := 0) (by decide)) dX8_simulate_77 ?_
          refine g_aload_n E dX8_simulate_78 rfl 0 rfl ?_
          refine g_get E uX8_simulate_RX8 0 rfl rfl 7 (by decide) kX8_simulate_16 rfl rfl dX8_simulate_79 ?_
          refine g_iconst (v := 4) E dX8_simulate_82 (by decide) ?_
          refine g_ialdN (e := 4) E 3 rfl (by omega) rfl (v := sI S 8 0) (RR_C hRR (j := 0) (by decide)) dX8_simulate_83 ?_
          refine g_isub E dX8_simulate_84 ?_
          refine g_imul E dX8_simulate_85 ?_
          refine g_aload_n E dX8_simulate_86 rfl 0 rfl ?_
          refine g_get E uX8_simulate_RX8 0 rfl rfl 8 (by decide) kX8_simulate_19 rfl rfl dX8_simulate_87 ?_
          refine g_iconst (v := 2) E dX8_simulate_90 (by decide) ?_
          refine g_ialdN (e := 2) E 4 rfl (by omega) rfl (v := nI ((sB C).length)) (RR_2 hRg) dX8_simulate_91 ?_
          refine g_iadd E dX8_simulate_92 ?_
          exact RET _ _ _ (qU (qU (qU (qU q 0 0) 1 (nI n)) 5 (nI c)) 6 ft, sg, rd, f, g, dy, kp, ik, tk) (gRefP_mk (k := 0) (A := ((n, sg), S, (c, H), sl)) (by rw [fSim, if_pos c1, nI_clamp (by omega), ← hSc, show j - k = 0 by omega, gSim_0]) rfl (fun _ => rfl) ⟨rfl, rfl, hRR, rfl, hD, hKp⟩) rfl dX8_simulate_93
        · skip
          have hkj : k < j := by omega
          refine g_lload E dX8_simulate_42 3 rfl ?_
          refine g_ldc2 (v := 6364136223846793005) E kX8_simulate_343 dX8_simulate_44 ?_
          refine g_lmul E dX8_simulate_47 ?_
          refine g_ldc2 (v := 1442695040888963407) E kX8_simulate_345 dX8_simulate_48 ?_
          refine g_ladd E dX8_simulate_51 ?_
          refine g_topL (gRnd_eq y) ?_
          refine g_lstore (lv' := [(4, .long (gRnd y)), (0, .ref (m 0)), (1, .long x), (3, .int (nI j)), (6, .int (nI k))]) E dX8_simulate_52 (by decide) rfl ?_
          refine g_aload_n E dX8_simulate_54 rfl 1 rfl ?_
          refine g_lload E dX8_simulate_55 0 rfl ?_
          refine g_bipush (v := 33) E dX8_simulate_57 (by decide) ?_
          refine g_lushr (v := ((gRnd y).toUInt64 >>> ((33 : Int32).toInt64.toUInt64 &&& Int64.toUInt64 63)).toInt64) E dX8_simulate_59 rfl ?_
          refine g_l2i (v := (((gRnd y).toUInt64 >>> ((33 : Int32).toInt64.toUInt64 &&& Int64.toUInt64 63)).toInt64).toInt32) E dX8_simulate_60 rfl ?_
          obtain ⟨hgl, hge⟩ := gR31_lt y
          refine g_top (y := nI (gR31 y)) hge ?_
          refine g_callVV (F := [(m 1, .inl (gy G 0, 120, .inl sg)), (m 2, .inl (gy G 0, 271, .inl rd)), (m 3, .inl (gy G 0, 271, .inl f)), (m 5, .inl (gy G 0, 3794, .inl dy)), (m 6, .inl (gy G 0, 542, .inl kp)), (m 7, .inl (gy G 2, 2, .inl ik))]) E (mX8_stir G m (qU (qU (qU (qU q 0 0) 1 (nI n)) 5 (nI c)) 6 ft) C g (gR31 y) tk hKC (by omega) hRg hgl) gX8_simulate_X8_stir rfl hdX8_stir ⟨Nat.le_of_ble_eq_true rfl, Nat.le_of_ble_eq_true rfl⟩ 8 0 rfl rfl rfl (gPerm_ix [0, 4, 8, 1, 2, 3, 5, 6, 7] rfl rfl) rfl rfl (Nat.le_of_ble_eq_true rfl) dX8_simulate_61 ⟨Nat.le_of_ble_eq_true rfl, Nat.le_of_ble_eq_true rfl⟩ (fun u7 hU7 => ?_)
          refine g_perm (ws1 := [(m 0, .inr (8, [.int 0, .ref (m 1), .int (nI n), .int (q 2), .int (q 3), .int (q 4), .ref (m 2), .ref (m 3), .ref (m 4), .ref (m 5), .int (nI c), .ref (m 6), .ref (m 7), .ref (m 8), .int u7.1, .int (q 7), .int (q 8)])), (m 1, .inl (gy G 0, 120, .inl sg)), (m 2, .inl (gy G 0, 271, .inl rd)), (m 3, .inl (gy G 0, 271, .inl f)), (m 4, .inl (gy G 0, 271, .inl u7.2.2)), (m 5, .inl (gy G 0, 3794, .inl dy)), (m 6, .inl (gy G 0, 542, .inl kp)), (m 7, .inl (gy G 2, 2, .inl ik)), (m 8, .inl (gy G 0, 10, .inl u7.2.1))]) (gPerm_ix [0, 3, 4, 5, 1, 6, 7, 8, 2] rfl rfl) ?_
          refine g_iinc (lv' := [(6, .int (nI (k + 1))), (4, .long (gRnd y)), (0, .ref (m 0)), (1, .long x), (3, .int (nI j))]) E dX8_simulate_64 4 rfl (g_inc _ 1 (by decide)) (by decide) rfl ?_
          refine g_goto (tgt := 36) E dX8_simulate_67 (by decide) ?_
          refine g_lv [2, 3, 4, 1, 0] rfl ?_
          exact ih4  (k + 1) (gRnd y) _ _ _ _ (by omega) (gI3_turn hKC (by omega) _) (by have := gTurn1_t (S := C) (gR31 y); omega) (by rw [← hSc, show j - k = (j - (k + 1)) + 1 by omega, gSim_st]) hU7 (by omega)
    refine g_lv [2, 3, 4, 1, 0] rfl ?_
    exact loop2 _ 0 x S _ _ _ (Nat.zero_le _) hK (by omega) rfl hRt (Nat.lt_succ_self _)
