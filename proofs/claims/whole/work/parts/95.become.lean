set_option maxHeartbeats 4000000 in
set_option maxRecDepth 100000 in
theorem mX8_whyNot (G : gG) (m : Nat → Nat) (q : Nat → Int32) (n c : Nat) (sg : Nat → Int32) (S : gSt) (H : Nat → gSt) (sl : Nat → Option gSt) (rd f tr dy kp ik tn : Nat → Int32) (p v d h : Int32) (hn12 : n ≤ 120) (hO : gOk 50000 S) (hc14 : c ≤ 14) (hHo : gHok 50000 c H) (hRR : RR S f) (hD : gDry c H dy) (hKp : gKpt sl kp ik) : CI G yX8_whyNot wsX8_whyNot 4 94 [.ref (m 0), .int p, .int v, .int d, .int h] [(m 0, .inr (8, [.int (q 0), .ref (m 1), .int (nI n), .int (q 2), .int (q 3), .int (q 4), .ref (m 2), .ref (m 3), .ref (m 4), .ref (m 5), .int (nI c), .ref (m 6), .ref (m 7), .ref (m 8), .int (q 6), .int (q 7), .int (q 8)])), (m 1, .inl (gy G 0, 120, .inl sg)), (m 2, .inl (gy G 0, 271, .inl rd)), (m 3, .inl (gy G 0, 271, .inl f)), (m 4, .inl (gy G 0, 271, .inl tr)), (m 5, .inl (gy G 0, 3794, .inl dy)), (m 6, .inl (gy G 0, 542, .inl kp)), (m 7, .inl (gy G 2, 2, .inl ik)), (m 8, .inl (gy G 0, 10, .inl tn))] (gRefP (fWhy ((n, sg), S, (c, H), sl) p v d h)) (fun (u : gRu) => (wR G m u)) 0 0 := by
  refine g_enterI (ty := .int) RX8 rfl (by decide) rfl (Nat.le_of_ble_eq_true rfl) ?_
  intro V E RET
  have hK := hO.1
  have hJ := hK.1
  have hI := hJ.1
  have hT1 := hO.2.2
  have hT2 : sN S 0 < 200000000 := by omega
  have hT : sN S 0 < 1000000000 := by omega
  have hb2 := gI2_b2 hJ
  have hX := hI
  obtain ⟨hP8, hn, hw, hW8, hs3, hs4, hs5, hs6, hs7, hs8, hb34⟩ := hX
  refine g_aload_n E dX8_whyNot_0 rfl 0 rfl ?_
  refine g_aload_n E dX8_whyNot_1 rfl 0 rfl ?_
  refine g_iload_n E dX8_whyNot_2 rfl 1 rfl ?_
  refine g_callVIe (F := [(m 1, .inl (gy G 0, 120, .inl sg)), (m 2, .inl (gy G 0, 271, .inl rd)), (m 4, .inl (gy G 0, 271, .inl tr)), (m 5, .inl (gy G 0, 3794, .inl dy)), (m 6, .inl (gy G 0, 542, .inl kp)), (m 7, .inl (gy G 2, 2, .inl ik)), (m 8, .inl (gy G 0, 10, .inl tn))]) (ws2 := [(m 0, .inr (8, [.int (q 0), .ref (m 1), .int (nI n), .int (q 2), .int (q 3), .int (q 4), .ref (m 2), .ref (m 3), .ref (m 4), .ref (m 5), .int (nI c), .ref (m 6), .ref (m 7), .ref (m 8), .int (q 6), .int (q 7), .int (q 8)])), (m 1, .inl (gy G 0, 120, .inl sg)), (m 2, .inl (gy G 0, 271, .inl rd)), (m 3, .inl (gy G 0, 271, .inl f)), (m 4, .inl (gy G 0, 271, .inl tr)), (m 5, .inl (gy G 0, 3794, .inl dy)), (m 6, .inl (gy G 0, 542, .inl kp)), (m 7, .inl (gy G 2, 2, .inl ik)), (m 8, .inl (gy G 0, 10, .inl tn))]) E (mX8_isPrisoner G m (qU (qU q 1 (nI n)) 5 (nI c)) S f p hI hT hRR) gX8_whyNot_X8_isPrisoner rfl hdX8_isPrisoner ⟨Nat.le_of_ble_eq_true rfl, Nat.le_of_ble_eq_true rfl⟩ 8 0 rfl rfl rfl (gPerm_ix [0, 3, 1, 2, 4, 5, 6, 7, 8] rfl rfl) rfl rfl (Nat.le_of_ble_eq_true rfl) dX8_whyNot_3 ⟨Nat.le_of_ble_eq_true rfl, Nat.le_of_ble_eq_true rfl⟩ (gPerm_ix [0, 2, 3, 1, 4, 5, 6, 7, 8] rfl rfl) ?_
  refine g_if_eqB (tgt := 16) (P := (¬ p < 0 ∧ ¬ nI (sN S 1) ≤ p)) E dX8_whyNot_6 (by decide) (fun c1 => ?_) (fun c1 => ?_)
  · skip
    refine g_iconst (v := 1) E dX8_whyNot_16 (by decide) ?_
    refine g_goto (tgt := 38) E dX8_whyNot_17 (by decide) ?_
    refine g_callVIe (F := [(m 1, .inl (gy G 0, 120, .inl sg)), (m 2, .inl (gy G 0, 271, .inl rd)), (m 3, .inl (gy G 0, 271, .inl f)), (m 4, .inl (gy G 0, 271, .inl tr)), (m 5, .inl (gy G 0, 3794, .inl dy)), (m 6, .inl (gy G 0, 542, .inl kp)), (m 7, .inl (gy G 2, 2, .inl ik)), (m 8, .inl (gy G 0, 10, .inl tn))]) (ws2 := [(m 0, .inr (8, [.int 1, .ref (m 1), .int (nI n), .int (q 2), .int (q 3), .int (q 4), .ref (m 2), .ref (m 3), .ref (m 4), .ref (m 5), .int (nI c), .ref (m 6), .ref (m 7), .ref (m 8), .int (q 6), .int (q 7), .int (q 8)])), (m 1, .inl (gy G 0, 120, .inl sg)), (m 2, .inl (gy G 0, 271, .inl rd)), (m 3, .inl (gy G 0, 271, .inl f)), (m 4, .inl (gy G 0, 271, .inl tr)), (m 5, .inl (gy G 0, 3794, .inl dy)), (m 6, .inl (gy G 0, 542, .inl kp)), (m 7, .inl (gy G 2, 2, .inl ik)), (m 8, .inl (gy G 0, 10, .inl tn))]) E (mX8_refused G m (qU (qU q 1 (nI n)) 5 (nI c)) 1) gX8_whyNot_X8_refused rfl hdX8_refused ⟨Nat.le_of_ble_eq_true rfl, Nat.le_of_ble_eq_true rfl⟩ 8 0 rfl rfl rfl (gPerm_ix [0, 1, 2, 3, 4, 5, 6, 7, 8] rfl rfl) rfl rfl (Nat.le_of_ble_eq_true rfl) dX8_whyNot_38 ⟨Nat.le_of_ble_eq_true rfl, Nat.le_of_ble_eq_true rfl⟩ (gPerm_ix [0, 1, 2, 3, 4, 5, 6, 7, 8] rfl rfl) ?_
    refine g_if_eq (tgt := 46) E dX8_whyNot_41 (by decide) (fun c => absurd c (by decide)) (fun _ => ?_)
    refine g_iconst (v := 0) E dX8_whyNot_44 (by decide) ?_
    exact RET _ _ _ (qU (qU (qU q 0 1) 1 (nI n)) 5 (nI c), sg, rd, f, tr, dy, kp, ik, tn) (gRefP_mk (k := 1) (A := ((n, sg), S, (c, H), sl)) (by rw [fWhy, if_neg (fun q => c1 q.1)]) rfl (fun e => absurd e (by decide)) ⟨rfl, rfl, hRR, rfl, hD, hKp⟩) rfl dX8_whyNot_45
  · skip
    obtain ⟨j, hj, rfl⟩ := gNat_of c1 (by omega)
    refine g_iload_n E dX8_whyNot_9 rfl 2 rfl ?_
    refine g_callSIe (F := [(m 0, .inr (8, [.int (q 0), .ref (m 1), .int (nI n), .int (q 2), .int (q 3), .int (q 4), .ref (m 2), .ref (m 3), .ref (m 4), .ref (m 5), .int (nI c), .ref (m 6), .ref (m 7), .ref (m 8), .int (q 6), .int (q 7), .int (q 8)])), (m 1, .inl (gy G 0, 120, .inl sg)), (m 2, .inl (gy G 0, 271, .inl rd)), (m 3, .inl (gy G 0, 271, .inl f)), (m 4, .inl (gy G 0, 271, .inl tr)), (m 5, .inl (gy G 0, 3794, .inl dy)), (m 6, .inl (gy G 0, 542, .inl kp)), (m 7, .inl (gy G 2, 2, .inl ik)), (m 8, .inl (gy G 0, 10, .inl tn))]) (ws2 := [(m 0, .inr (8, [.int (q 0), .ref (m 1), .int (nI n), .int (q 2), .int (q 3), .int (q 4), .ref (m 2), .ref (m 3), .ref (m 4), .ref (m 5), .int (nI c), .ref (m 6), .ref (m 7), .ref (m 8), .int (q 6), .int (q 7), .int (q 8)])), (m 1, .inl (gy G 0, 120, .inl sg)), (m 2, .inl (gy G 0, 271, .inl rd)), (m 3, .inl (gy G 0, 271, .inl f)), (m 4, .inl (gy G 0, 271, .inl tr)), (m 5, .inl (gy G 0, 3794, .inl dy)), (m 6, .inl (gy G 0, 542, .inl kp)), (m 7, .inl (gy G 2, 2, .inl ik)), (m 8, .inl (gy G 0, 10, .inl tn))]) E (mX8_isVisitor G v) gX8_whyNot_X8_isVisitor rfl hnX8_isVisitor ⟨Nat.le_of_ble_eq_true rfl, Nat.le_of_ble_eq_true rfl⟩ (gPerm_ix [0, 1, 2, 3, 4, 5, 6, 7, 8] rfl rfl) rfl rfl (Nat.le_of_ble_eq_true rfl) dX8_whyNot_10 ⟨Nat.le_of_ble_eq_true rfl, Nat.le_of_ble_eq_true rfl⟩ (gPerm_ix [0, 1, 2, 3, 4, 5, 6, 7, 8] rfl rfl) ?_
    refine g_if_neB (tgt := 20) (P := (¬ v < 0 ∧ ¬ 9 < v)) E dX8_whyNot_13 (by decide) (fun c2 => ?_) (fun c2 => ?_)
    · skip
      obtain ⟨e, he, rfl⟩ := gNat_ofl (m := 9) c2 rfl rfl (by decide)
      refine g_aload_n E dX8_whyNot_20 rfl 0 rfl ?_
      refine g_get E uX8_whyNot_RX8 0 rfl rfl 7 (by decide) kX8_whyNot_16 rfl rfl dX8_whyNot_21 ?_
      refine g_iload_n E dX8_whyNot_24 rfl 3 rfl ?_
      refine g_iload E dX8_whyNot_25 4 rfl ?_
      refine g_callSIe (F := [(m 0, .inr (8, [.int (q 0), .ref (m 1), .int (nI n), .int (q 2), .int (q 3), .int (q 4), .ref (m 2), .ref (m 3), .ref (m 4), .ref (m 5), .int (nI c), .ref (m 6), .ref (m 7), .ref (m 8), .int (q 6), .int (q 7), .int (q 8)])), (m 1, .inl (gy G 0, 120, .inl sg)), (m 2, .inl (gy G 0, 271, .inl rd)), (m 4, .inl (gy G 0, 271, .inl tr)), (m 5, .inl (gy G 0, 3794, .inl dy)), (m 6, .inl (gy G 0, 542, .inl kp)), (m 7, .inl (gy G 2, 2, .inl ik)), (m 8, .inl (gy G 0, 10, .inl tn))]) (ws2 := [(m 0, .inr (8, [.int (q 0), .ref (m 1), .int (nI n), .int (q 2), .int (q 3), .int (q 4), .ref (m 2), .ref (m 3), .ref (m 4), .ref (m 5), .int (nI c), .ref (m 6), .ref (m 7), .ref (m 8), .int (q 6), .int (q 7), .int (q 8)])), (m 1, .inl (gy G 0, 120, .inl sg)), (m 2, .inl (gy G 0, 271, .inl rd)), (m 3, .inl (gy G 0, 271, .inl f)), (m 4, .inl (gy G 0, 271, .inl tr)), (m 5, .inl (gy G 0, 3794, .inl dy)), (m 6, .inl (gy G 0, 542, .inl kp)), (m 7, .inl (gy G 2, 2, .inl ik)), (m 8, .inl (gy G 0, 10, .inl tn))]) E (mX8_isTime G (m 3) S f d h (gI1_r hI) hT hRR ) gX8_whyNot_X8_isTime rfl hnX8_isTime ⟨Nat.le_of_ble_eq_true rfl, Nat.le_of_ble_eq_true rfl⟩ (gPerm_ix [3, 0, 1, 2, 4, 5, 6, 7, 8] rfl rfl) rfl rfl (Nat.le_of_ble_eq_true rfl) dX8_whyNot_27 ⟨Nat.le_of_ble_eq_true rfl, Nat.le_of_ble_eq_true rfl⟩ (gPerm_ix [1, 2, 3, 0, 4, 5, 6, 7, 8] rfl rfl) ?_
      refine g_if_eqB (tgt := 37) (P := ((¬ d < nI (sN S 0) ∧ ¬ 9999 < d) ∧ (¬ h < 0 ∧ ¬ 7 < h))) E dX8_whyNot_30 (by decide) (fun c3 => ?_) (fun c3 => ?_)
      · skip
        refine g_iconst (v := 2) E dX8_whyNot_37 (by decide) ?_
        refine g_callVIe (F := [(m 1, .inl (gy G 0, 120, .inl sg)), (m 2, .inl (gy G 0, 271, .inl rd)), (m 3, .inl (gy G 0, 271, .inl f)), (m 4, .inl (gy G 0, 271, .inl tr)), (m 5, .inl (gy G 0, 3794, .inl dy)), (m 6, .inl (gy G 0, 542, .inl kp)), (m 7, .inl (gy G 2, 2, .inl ik)), (m 8, .inl (gy G 0, 10, .inl tn))]) (ws2 := [(m 0, .inr (8, [.int 2, .ref (m 1), .int (nI n), .int (q 2), .int (q 3), .int (q 4), .ref (m 2), .ref (m 3), .ref (m 4), .ref (m 5), .int (nI c), .ref (m 6), .ref (m 7), .ref (m 8), .int (q 6), .int (q 7), .int (q 8)])), (m 1, .inl (gy G 0, 120, .inl sg)), (m 2, .inl (gy G 0, 271, .inl rd)), (m 3, .inl (gy G 0, 271, .inl f)), (m 4, .inl (gy G 0, 271, .inl tr)), (m 5, .inl (gy G 0, 3794, .inl dy)), (m 6, .inl (gy G 0, 542, .inl kp)), (m 7, .inl (gy G 2, 2, .inl ik)), (m 8, .inl (gy G 0, 10, .inl tn))]) E (mX8_refused G m (qU (qU q 1 (nI n)) 5 (nI c)) 2) gX8_whyNot_X8_refused rfl hdX8_refused ⟨Nat.le_of_ble_eq_true rfl, Nat.le_of_ble_eq_true rfl⟩ 8 0 rfl rfl rfl (gPerm_ix [0, 1, 2, 3, 4, 5, 6, 7, 8] rfl rfl) rfl rfl (Nat.le_of_ble_eq_true rfl) dX8_whyNot_38 ⟨Nat.le_of_ble_eq_true rfl, Nat.le_of_ble_eq_true rfl⟩ (gPerm_ix [0, 1, 2, 3, 4, 5, 6, 7, 8] rfl rfl) ?_
        refine g_if_eq (tgt := 46) E dX8_whyNot_41 (by decide) (fun c => absurd c (by decide)) (fun _ => ?_)
        refine g_iconst (v := 0) E dX8_whyNot_44 (by decide) ?_
        exact RET _ _ _ (qU (qU (qU q 0 2) 1 (nI n)) 5 (nI c), sg, rd, f, tr, dy, kp, ik, tn) (gRefP_mk (k := 2) (A := ((n, sg), S, (c, H), sl)) (by rw [fWhy, if_pos (show _ ∧ _ from ⟨c1, gV910.mp c2⟩), if_neg (fun q => c3 (gTm78.mpr q))]) rfl (fun e => absurd e (by decide)) ⟨rfl, rfl, hRR, rfl, hD, hKp⟩) rfl dX8_whyNot_45
      · skip
        obtain ⟨x, hx, rfl⟩ := nI_of (gDnn c3.1.1 hT)
        have hx9 := gD9 hx c3.1.2
        obtain ⟨y, hy, rfl⟩ := gNat_ofl (m := 7) c3.2 rfl rfl (by decide)
        have q4 := gRA_le S j e x y
        refine g_iconst (v := 0) E dX8_whyNot_33 (by decide) ?_
        refine g_goto (tgt := 38) E dX8_whyNot_34 (by decide) ?_
        refine g_callVIe (F := [(m 1, .inl (gy G 0, 120, .inl sg)), (m 2, .inl (gy G 0, 271, .inl rd)), (m 3, .inl (gy G 0, 271, .inl f)), (m 4, .inl (gy G 0, 271, .inl tr)), (m 5, .inl (gy G 0, 3794, .inl dy)), (m 6, .inl (gy G 0, 542, .inl kp)), (m 7, .inl (gy G 2, 2, .inl ik)), (m 8, .inl (gy G 0, 10, .inl tn))]) (ws2 := [(m 0, .inr (8, [.int 0, .ref (m 1), .int (nI n), .int (q 2), .int (q 3), .int (q 4), .ref (m 2), .ref (m 3), .ref (m 4), .ref (m 5), .int (nI c), .ref (m 6), .ref (m 7), .ref (m 8), .int (q 6), .int (q 7), .int (q 8)])), (m 1, .inl (gy G 0, 120, .inl sg)), (m 2, .inl (gy G 0, 271, .inl rd)), (m 3, .inl (gy G 0, 271, .inl f)), (m 4, .inl (gy G 0, 271, .inl tr)), (m 5, .inl (gy G 0, 3794, .inl dy)), (m 6, .inl (gy G 0, 542, .inl kp)), (m 7, .inl (gy G 2, 2, .inl ik)), (m 8, .inl (gy G 0, 10, .inl tn))]) E (mX8_refused G m (qU (qU q 1 (nI n)) 5 (nI c)) 0) gX8_whyNot_X8_refused rfl hdX8_refused ⟨Nat.le_of_ble_eq_true rfl, Nat.le_of_ble_eq_true rfl⟩ 8 0 rfl rfl rfl (gPerm_ix [0, 1, 2, 3, 4, 5, 6, 7, 8] rfl rfl) rfl rfl (Nat.le_of_ble_eq_true rfl) dX8_whyNot_38 ⟨Nat.le_of_ble_eq_true rfl, Nat.le_of_ble_eq_true rfl⟩ (gPerm_ix [0, 1, 2, 3, 4, 5, 6, 7, 8] rfl rfl) ?_
        refine g_if_eq (tgt := 46) E dX8_whyNot_41 (by decide) (fun _ => ?_) (fun c => absurd c (by decide))
        refine g_aload_n E dX8_whyNot_46 rfl 0 rfl ?_
        refine g_get E uX8_whyNot_RX8 0 rfl rfl 7 (by decide) kX8_whyNot_16 rfl rfl dX8_whyNot_47 ?_
        refine g_iload_n E dX8_whyNot_50 rfl 1 rfl ?_
        refine g_iload_n E dX8_whyNot_51 rfl 2 rfl ?_
        refine g_iload_n E dX8_whyNot_52 rfl 3 rfl ?_
        refine g_iload E dX8_whyNot_53 4 rfl ?_
        refine g_callSIe (F := [(m 0, .inr (8, [.int 0, .ref (m 1), .int (nI n), .int (q 2), .int (q 3), .int (q 4), .ref (m 2), .ref (m 3), .ref (m 4), .ref (m 5), .int (nI c), .ref (m 6), .ref (m 7), .ref (m 8), .int (q 6), .int (q 7), .int (q 8)])), (m 1, .inl (gy G 0, 120, .inl sg)), (m 2, .inl (gy G 0, 271, .inl rd)), (m 4, .inl (gy G 0, 271, .inl tr)), (m 5, .inl (gy G 0, 3794, .inl dy)), (m 6, .inl (gy G 0, 542, .inl kp)), (m 7, .inl (gy G 2, 2, .inl ik)), (m 8, .inl (gy G 0, 10, .inl tn))]) (ws2 := [(m 0, .inr (8, [.int 0, .ref (m 1), .int (nI n), .int (q 2), .int (q 3), .int (q 4), .ref (m 2), .ref (m 3), .ref (m 4), .ref (m 5), .int (nI c), .ref (m 6), .ref (m 7), .ref (m 8), .int (q 6), .int (q 7), .int (q 8)])), (m 1, .inl (gy G 0, 120, .inl sg)), (m 2, .inl (gy G 0, 271, .inl rd)), (m 3, .inl (gy G 0, 271, .inl f)), (m 4, .inl (gy G 0, 271, .inl tr)), (m 5, .inl (gy G 0, 3794, .inl dy)), (m 6, .inl (gy G 0, 542, .inl kp)), (m 7, .inl (gy G 2, 2, .inl ik)), (m 8, .inl (gy G 0, 10, .inl tn))]) E (g_resI (congrArg nI (gWhyR_eq (d := x) (h := y) (gI1_r hI) hb2 (p := j) (v := e) (by omega) (by omega))) (mX8_why G (m 3) S f j e x y (gI1_r hI) hT hRR (by omega) (by omega) (by omega) (by omega))) gX8_whyNot_X8_why rfl hnX8_why ⟨Nat.le_of_ble_eq_true rfl, Nat.le_of_ble_eq_true rfl⟩ (gPerm_ix [3, 0, 1, 2, 4, 5, 6, 7, 8] rfl rfl) rfl rfl (Nat.le_of_ble_eq_true rfl) dX8_whyNot_55 ⟨Nat.le_of_ble_eq_true rfl, Nat.le_of_ble_eq_true rfl⟩ (gPerm_ix [1, 2, 3, 0, 4, 5, 6, 7, 8] rfl rfl) ?_
        exact RET _ _ _ (qU (qU (qU q 0 0) 1 (nI n)) 5 (nI c), sg, rd, f, tr, dy, kp, ik, tn) (gRefP_mk (k := 0) (A := ((n, sg), S, (c, H), sl)) (by rw [fWhy, if_pos (show _ ∧ _ from ⟨c1, gV910.mp c2⟩), if_pos (gTm78.mp c3), nI_clamp (by omega), nI_clamp (by omega), nI_clamp (by omega), nI_clamp (by omega)]) rfl (fun _ => rfl) ⟨rfl, rfl, hRR, rfl, hD, hKp⟩) rfl dX8_whyNot_58
    · skip
      refine g_iconst (v := 1) E dX8_whyNot_16 (by decide) ?_
      refine g_goto (tgt := 38) E dX8_whyNot_17 (by decide) ?_
      refine g_callVIe (F := [(m 1, .inl (gy G 0, 120, .inl sg)), (m 2, .inl (gy G 0, 271, .inl rd)), (m 3, .inl (gy G 0, 271, .inl f)), (m 4, .inl (gy G 0, 271, .inl tr)), (m 5, .inl (gy G 0, 3794, .inl dy)), (m 6, .inl (gy G 0, 542, .inl kp)), (m 7, .inl (gy G 2, 2, .inl ik)), (m 8, .inl (gy G 0, 10, .inl tn))]) (ws2 := [(m 0, .inr (8, [.int 1, .ref (m 1), .int (nI n), .int (q 2), .int (q 3), .int (q 4), .ref (m 2), .ref (m 3), .ref (m 4), .ref (m 5), .int (nI c), .ref (m 6), .ref (m 7), .ref (m 8), .int (q 6), .int (q 7), .int (q 8)])), (m 1, .inl (gy G 0, 120, .inl sg)), (m 2, .inl (gy G 0, 271, .inl rd)), (m 3, .inl (gy G 0, 271, .inl f)), (m 4, .inl (gy G 0, 271, .inl tr)), (m 5, .inl (gy G 0, 3794, .inl dy)), (m 6, .inl (gy G 0, 542, .inl kp)), (m 7, .inl (gy G 2, 2, .inl ik)), (m 8, .inl (gy G 0, 10, .inl tn))]) E (mX8_refused G m (qU (qU q 1 (nI n)) 5 (nI c)) 1) gX8_whyNot_X8_refused rfl hdX8_refused ⟨Nat.le_of_ble_eq_true rfl, Nat.le_of_ble_eq_true rfl⟩ 8 0 rfl rfl rfl (gPerm_ix [0, 1, 2, 3, 4, 5, 6, 7, 8] rfl rfl) rfl rfl (Nat.le_of_ble_eq_true rfl) dX8_whyNot_38 ⟨Nat.le_of_ble_eq_true rfl, Nat.le_of_ble_eq_true rfl⟩ (gPerm_ix [0, 1, 2, 3, 4, 5, 6, 7, 8] rfl rfl) ?_
      refine g_if_eq (tgt := 46) E dX8_whyNot_41 (by decide) (fun c => absurd c (by decide)) (fun _ => ?_)
      refine g_iconst (v := 0) E dX8_whyNot_44 (by decide) ?_
      exact RET _ _ _ (qU (qU (qU q 0 1) 1 (nI n)) 5 (nI c), sg, rd, f, tr, dy, kp, ik, tn) (gRefP_mk (k := 1) (A := ((n, sg), S, (c, H), sl)) (by rw [fWhy, if_neg (fun q => c2 (gV910.mpr q.2))]) rfl (fun e => absurd e (by decide)) ⟨rfl, rfl, hRR, rfl, hD, hKp⟩) rfl dX8_whyNot_45

set_option maxHeartbeats 4000000 in
set_option maxRecDepth 100000 in
theorem mX8_firstTime (G : gG) (m : Nat → Nat) (q : Nat → Int32) (n c : Nat) (sg : Nat → Int32) (S : gSt) (H : Nat → gSt) (sl : Nat → Option gSt) (rd f tr dy kp ik tn : Nat → Int32) (p v : Int32) (hn12 : n ≤ 120) (hO : gOk 50000 S) (hc14 : c ≤ 14) (hHo : gHok 50000 c H) (hRR : RR S f) (hD : gDry c H dy) (hKp : gKpt sl kp ik) : CI G yX8_firstTime wsX8_firstTime 5 119 [.ref (m 0), .int p, .int v] [(m 0, .inr (8, [.int (q 0), .ref (m 1), .int (nI n), .int (q 2), .int (q 3), .int (q 4), .ref (m 2), .ref (m 3), .ref (m 4), .ref (m 5), .int (nI c), .ref (m 6), .ref (m 7), .ref (m 8), .int (q 6), .int (q 7), .int (q 8)])), (m 1, .inl (gy G 0, 120, .inl sg)), (m 2, .inl (gy G 0, 271, .inl rd)), (m 3, .inl (gy G 0, 271, .inl f)), (m 4, .inl (gy G 0, 271, .inl tr)), (m 5, .inl (gy G 0, 3794, .inl dy)), (m 6, .inl (gy G 0, 542, .inl kp)), (m 7, .inl (gy G 2, 2, .inl ik)), (m 8, .inl (gy G 0, 10, .inl tn))] (gRefP (fFirst ((n, sg), S, (c, H), sl) p v)) (fun (u : gRu) => (wR G m u)) 0 0 := by
  refine g_enterI (ty := .int) RX8 rfl (by decide) rfl (Nat.le_of_ble_eq_true rfl) ?_
  intro V E RET
  have hK := hO.1
  have hJ := hK.1
  have hI := hJ.1
  have hT1 := hO.2.2
  have hT2 : sN S 0 < 200000000 := by omega
  have hT : sN S 0 < 1000000000 := by omega
  have hb2 := gI2_b2 hJ
  have hX := hI
  obtain ⟨hP8, hn, hw, hW8, hs3, hs4, hs5, hs6, hs7, hs8, hb34⟩ := hX
  refine g_aload_n E dX8_firstTime_0 rfl 0 rfl ?_
  refine g_aload_n E dX8_firstTime_1 rfl 0 rfl ?_
  refine g_iload_n E dX8_firstTime_2 rfl 1 rfl ?_
  refine g_callVIe (F := [(m 1, .inl (gy G 0, 120, .inl sg)), (m 2, .inl (gy G 0, 271, .inl rd)), (m 4, .inl (gy G 0, 271, .inl tr)), (m 5, .inl (gy G 0, 3794, .inl dy)), (m 6, .inl (gy G 0, 542, .inl kp)), (m 7, .inl (gy G 2, 2, .inl ik)), (m 8, .inl (gy G 0, 10, .inl tn))]) (ws2 := [(m 0, .inr (8, [.int (q 0), .ref (m 1), .int (nI n), .int (q 2), .int (q 3), .int (q 4), .ref (m 2), .ref (m 3), .ref (m 4), .ref (m 5), .int (nI c), .ref (m 6), .ref (m 7), .ref (m 8), .int (q 6), .int (q 7), .int (q 8)])), (m 1, .inl (gy G 0, 120, .inl sg)), (m 2, .inl (gy G 0, 271, .inl rd)), (m 3, .inl (gy G 0, 271, .inl f)), (m 4, .inl (gy G 0, 271, .inl tr)), (m 5, .inl (gy G 0, 3794, .inl dy)), (m 6, .inl (gy G 0, 542, .inl kp)), (m 7, .inl (gy G 2, 2, .inl ik)), (m 8, .inl (gy G 0, 10, .inl tn))]) E (mX8_isPrisoner G m (qU (qU q 1 (nI n)) 5 (nI c)) S f p hI hT hRR) gX8_firstTime_X8_isPrisoner rfl hdX8_isPrisoner ⟨Nat.le_of_ble_eq_true rfl, Nat.le_of_ble_eq_true rfl⟩ 8 0 rfl rfl rfl (gPerm_ix [0, 3, 1, 2, 4, 5, 6, 7, 8] rfl rfl) rfl rfl (Nat.le_of_ble_eq_true rfl) dX8_firstTime_3 ⟨Nat.le_of_ble_eq_true rfl, Nat.le_of_ble_eq_true rfl⟩ (gPerm_ix [0, 2, 3, 1, 4, 5, 6, 7, 8] rfl rfl) ?_
  refine g_if_eqB (tgt := 20) (P := (¬ p < 0 ∧ ¬ nI (sN S 1) ≤ p)) E dX8_firstTime_6 (by decide) (fun c1 => ?_) (fun c1 => ?_)
  · skip
    refine g_iconst (v := 1) E dX8_firstTime_20 (by decide) ?_
    refine g_callVIe (F := [(m 1, .inl (gy G 0, 120, .inl sg)), (m 2, .inl (gy G 0, 271, .inl rd)), (m 3, .inl (gy G 0, 271, .inl f)), (m 4, .inl (gy G 0, 271, .inl tr)), (m 5, .inl (gy G 0, 3794, .inl dy)), (m 6, .inl (gy G 0, 542, .inl kp)), (m 7, .inl (gy G 2, 2, .inl ik)), (m 8, .inl (gy G 0, 10, .inl tn))]) (ws2 := [(m 0, .inr (8, [.int 1, .ref (m 1), .int (nI n), .int (q 2), .int (q 3), .int (q 4), .ref (m 2), .ref (m 3), .ref (m 4), .ref (m 5), .int (nI c), .ref (m 6), .ref (m 7), .ref (m 8), .int (q 6), .int (q 7), .int (q 8)])), (m 1, .inl (gy G 0, 120, .inl sg)), (m 2, .inl (gy G 0, 271, .inl rd)), (m 3, .inl (gy G 0, 271, .inl f)), (m 4, .inl (gy G 0, 271, .inl tr)), (m 5, .inl (gy G 0, 3794, .inl dy)), (m 6, .inl (gy G 0, 542, .inl kp)), (m 7, .inl (gy G 2, 2, .inl ik)), (m 8, .inl (gy G 0, 10, .inl tn))]) E (mX8_refused G m (qU (qU q 1 (nI n)) 5 (nI c)) 1) gX8_firstTime_X8_refused rfl hdX8_refused ⟨Nat.le_of_ble_eq_true rfl, Nat.le_of_ble_eq_true rfl⟩ 8 0 rfl rfl rfl (gPerm_ix [0, 1, 2, 3, 4, 5, 6, 7, 8] rfl rfl) rfl rfl (Nat.le_of_ble_eq_true rfl) dX8_firstTime_21 ⟨Nat.le_of_ble_eq_true rfl, Nat.le_of_ble_eq_true rfl⟩ (gPerm_ix [0, 1, 2, 3, 4, 5, 6, 7, 8] rfl rfl) ?_
    refine g_if_eq (tgt := 29) E dX8_firstTime_24 (by decide) (fun c => absurd c (by decide)) (fun _ => ?_)
    refine g_iconst (v := 0) E dX8_firstTime_27 (by decide) ?_
    exact RET _ _ _ (qU (qU (qU q 0 1) 1 (nI n)) 5 (nI c), sg, rd, f, tr, dy, kp, ik, tn) (gRefP_mk (k := 1) (A := ((n, sg), S, (c, H), sl)) (by rw [fFirst, if_neg (fun q => c1 q.1)]) rfl (fun e => absurd e (by decide)) ⟨rfl, rfl, hRR, rfl, hD, hKp⟩) rfl dX8_firstTime_28
  · skip
    obtain ⟨j, hj, rfl⟩ := gNat_of c1 (by omega)
    refine g_iload_n E dX8_firstTime_9 rfl 2 rfl ?_
    refine g_callSIe (F := [(m 0, .inr (8, [.int (q 0), .ref (m 1), .int (nI n), .int (q 2), .int (q 3), .int (q 4), .ref (m 2), .ref (m 3), .ref (m 4), .ref (m 5), .int (nI c), .ref (m 6), .ref (m 7), .ref (m 8), .int (q 6), .int (q 7), .int (q 8)])), (m 1, .inl (gy G 0, 120, .inl sg)), (m 2, .inl (gy G 0, 271, .inl rd)), (m 3, .inl (gy G 0, 271, .inl f)), (m 4, .inl (gy G 0, 271, .inl tr)), (m 5, .inl (gy G 0, 3794, .inl dy)), (m 6, .inl (gy G 0, 542, .inl kp)), (m 7, .inl (gy G 2, 2, .inl ik)), (m 8, .inl (gy G 0, 10, .inl tn))]) (ws2 := [(m 0, .inr (8, [.int (q 0), .ref (m 1), .int (nI n), .int (q 2), .int (q 3), .int (q 4), .ref (m 2), .ref (m 3), .ref (m 4), .ref (m 5), .int (nI c), .ref (m 6), .ref (m 7), .ref (m 8), .int (q 6), .int (q 7), .int (q 8)])), (m 1, .inl (gy G 0, 120, .inl sg)), (m 2, .inl (gy G 0, 271, .inl rd)), (m 3, .inl (gy G 0, 271, .inl f)), (m 4, .inl (gy G 0, 271, .inl tr)), (m 5, .inl (gy G 0, 3794, .inl dy)), (m 6, .inl (gy G 0, 542, .inl kp)), (m 7, .inl (gy G 2, 2, .inl ik)), (m 8, .inl (gy G 0, 10, .inl tn))]) E (mX8_isVisitor G v) gX8_firstTime_X8_isVisitor rfl hnX8_isVisitor ⟨Nat.le_of_ble_eq_true rfl, Nat.le_of_ble_eq_true rfl⟩ (gPerm_ix [0, 1, 2, 3, 4, 5, 6, 7, 8] rfl rfl) rfl rfl (Nat.le_of_ble_eq_true rfl) dX8_firstTime_10 ⟨Nat.le_of_ble_eq_true rfl, Nat.le_of_ble_eq_true rfl⟩ (gPerm_ix [0, 1, 2, 3, 4, 5, 6, 7, 8] rfl rfl) ?_
    refine g_if_eqB (tgt := 20) (P := (¬ v < 0 ∧ ¬ 9 < v)) E dX8_firstTime_13 (by decide) (fun c2 => ?_) (fun c2 => ?_)
    · skip
      refine g_iconst (v := 1) E dX8_firstTime_20 (by decide) ?_
      refine g_callVIe (F := [(m 1, .inl (gy G 0, 120, .inl sg)), (m 2, .inl (gy G 0, 271, .inl rd)), (m 3, .inl (gy G 0, 271, .inl f)), (m 4, .inl (gy G 0, 271, .inl tr)), (m 5, .inl (gy G 0, 3794, .inl dy)), (m 6, .inl (gy G 0, 542, .inl kp)), (m 7, .inl (gy G 2, 2, .inl ik)), (m 8, .inl (gy G 0, 10, .inl tn))]) (ws2 := [(m 0, .inr (8, [.int 1, .ref (m 1), .int (nI n), .int (q 2), .int (q 3), .int (q 4), .ref (m 2), .ref (m 3), .ref (m 4), .ref (m 5), .int (nI c), .ref (m 6), .ref (m 7), .ref (m 8), .int (q 6), .int (q 7), .int (q 8)])), (m 1, .inl (gy G 0, 120, .inl sg)), (m 2, .inl (gy G 0, 271, .inl rd)), (m 3, .inl (gy G 0, 271, .inl f)), (m 4, .inl (gy G 0, 271, .inl tr)), (m 5, .inl (gy G 0, 3794, .inl dy)), (m 6, .inl (gy G 0, 542, .inl kp)), (m 7, .inl (gy G 2, 2, .inl ik)), (m 8, .inl (gy G 0, 10, .inl tn))]) E (mX8_refused G m (qU (qU q 1 (nI n)) 5 (nI c)) 1) gX8_firstTime_X8_refused rfl hdX8_refused ⟨Nat.le_of_ble_eq_true rfl, Nat.le_of_ble_eq_true rfl⟩ 8 0 rfl rfl rfl (gPerm_ix [0, 1, 2, 3, 4, 5, 6, 7, 8] rfl rfl) rfl rfl (Nat.le_of_ble_eq_true rfl) dX8_firstTime_21 ⟨Nat.le_of_ble_eq_true rfl, Nat.le_of_ble_eq_true rfl⟩ (gPerm_ix [0, 1, 2, 3, 4, 5, 6, 7, 8] rfl rfl) ?_
      refine g_if_eq (tgt := 29) E dX8_firstTime_24 (by decide) (fun c => absurd c (by decide)) (fun _ => ?_)
      refine g_iconst (v := 0) E dX8_firstTime_27 (by decide) ?_
      exact RET _ _ _ (qU (qU (qU q 0 1) 1 (nI n)) 5 (nI c), sg, rd, f, tr, dy, kp, ik, tn) (gRefP_mk (k := 1) (A := ((n, sg), S, (c, H), sl)) (by rw [fFirst, if_neg (fun q => c2 (gV910.mpr q.2))]) rfl (fun e => absurd e (by decide)) ⟨rfl, rfl, hRR, rfl, hD, hKp⟩) rfl dX8_firstTime_28
    · skip
      obtain ⟨e, he, rfl⟩ := gNat_ofl (m := 9) c2 rfl rfl (by decide)
      refine g_iconst (v := 0) E dX8_firstTime_16 (by decide) ?_
      refine g_goto (tgt := 21) E dX8_firstTime_17 (by decide) ?_
      refine g_callVIe (F := [(m 1, .inl (gy G 0, 120, .inl sg)), (m 2, .inl (gy G 0, 271, .inl rd)), (m 3, .inl (gy G 0, 271, .inl f)), (m 4, .inl (gy G 0, 271, .inl tr)), (m 5, .inl (gy G 0, 3794, .inl dy)), (m 6, .inl (gy G 0, 542, .inl kp)), (m 7, .inl (gy G 2, 2, .inl ik)), (m 8, .inl (gy G 0, 10, .inl tn))]) (ws2 := [(m 0, .inr (8, [.int 0, .ref (m 1), .int (nI n), .int (q 2), .int (q 3), .int (q 4), .ref (m 2), .ref (m 3), .ref (m 4), .ref (m 5), .int (nI c), .ref (m 6), .ref (m 7), .ref (m 8), .int (q 6), .int (q 7), .int (q 8)])), (m 1, .inl (gy G 0, 120, .inl sg)), (m 2, .inl (gy G 0, 271, .inl rd)), (m 3, .inl (gy G 0, 271, .inl f)), (m 4, .inl (gy G 0, 271, .inl tr)), (m 5, .inl (gy G 0, 3794, .inl dy)), (m 6, .inl (gy G 0, 542, .inl kp)), (m 7, .inl (gy G 2, 2, .inl ik)), (m 8, .inl (gy G 0, 10, .inl tn))]) E (mX8_refused G m (qU (qU q 1 (nI n)) 5 (nI c)) 0) gX8_firstTime_X8_refused rfl hdX8_refused ⟨Nat.le_of_ble_eq_true rfl, Nat.le_of_ble_eq_true rfl⟩ 8 0 rfl rfl rfl (gPerm_ix [0, 1, 2, 3, 4, 5, 6, 7, 8] rfl rfl) rfl rfl (Nat.le_of_ble_eq_true rfl) dX8_firstTime_21 ⟨Nat.le_of_ble_eq_true rfl, Nat.le_of_ble_eq_true rfl⟩ (gPerm_ix [0, 1, 2, 3, 4, 5, 6, 7, 8] rfl rfl) ?_
      refine g_if_eq (tgt := 29) E dX8_firstTime_24 (by decide) (fun _ => ?_) (fun c => absurd c (by decide))
      refine g_aload_n E dX8_firstTime_29 rfl 0 rfl ?_
      refine g_get E uX8_firstTime_RX8 0 rfl rfl 7 (by decide) kX8_firstTime_16 rfl rfl dX8_firstTime_30 ?_
      refine g_iload_n E dX8_firstTime_33 rfl 1 rfl ?_
      refine g_iload_n E dX8_firstTime_34 rfl 2 rfl ?_
      refine g_bipush (v := 60) E dX8_firstTime_35 (by decide) ?_
      refine g_callSIe (F := [(m 0, .inr (8, [.int 0, .ref (m 1), .int (nI n), .int (q 2), .int (q 3), .int (q 4), .ref (m 2), .ref (m 3), .ref (m 4), .ref (m 5), .int (nI c), .ref (m 6), .ref (m 7), .ref (m 8), .int (q 6), .int (q 7), .int (q 8)])), (m 1, .inl (gy G 0, 120, .inl sg)), (m 2, .inl (gy G 0, 271, .inl rd)), (m 4, .inl (gy G 0, 271, .inl tr)), (m 5, .inl (gy G 0, 3794, .inl dy)), (m 6, .inl (gy G 0, 542, .inl kp)), (m 7, .inl (gy G 2, 2, .inl ik)), (m 8, .inl (gy G 0, 10, .inl tn))]) (ws2 := [(m 0, .inr (8, [.int 0, .ref (m 1), .int (nI n), .int (q 2), .int (q 3), .int (q 4), .ref (m 2), .ref (m 3), .ref (m 4), .ref (m 5), .int (nI c), .ref (m 6), .ref (m 7), .ref (m 8), .int (q 6), .int (q 7), .int (q 8)])), (m 1, .inl (gy G 0, 120, .inl sg)), (m 2, .inl (gy G 0, 271, .inl rd)), (m 3, .inl (gy G 0, 271, .inl f)), (m 4, .inl (gy G 0, 271, .inl tr)), (m 5, .inl (gy G 0, 3794, .inl dy)), (m 6, .inl (gy G 0, 542, .inl kp)), (m 7, .inl (gy G 2, 2, .inl ik)), (m 8, .inl (gy G 0, 10, .inl tn))]) E (mX8_firstIn G (m 3) S f j e 60 (gI1_r hI) hT hRR (by omega) (by omega) (by omega) hb2) gX8_firstTime_X8_firstIn rfl hnX8_firstIn ⟨Nat.le_of_ble_eq_true rfl, Nat.le_of_ble_eq_true rfl⟩ (gPerm_ix [3, 0, 1, 2, 4, 5, 6, 7, 8] rfl rfl) rfl rfl (Nat.le_of_ble_eq_true rfl) dX8_firstTime_37 ⟨Nat.le_of_ble_eq_true rfl, Nat.le_of_ble_eq_true rfl⟩ (gPerm_ix [1, 2, 3, 0, 4, 5, 6, 7, 8] rfl rfl) ?_
      exact RET _ _ _ (qU (qU (qU q 0 0) 1 (nI n)) 5 (nI c), sg, rd, f, tr, dy, kp, ik, tn) (gRefP_mk (k := 0) (A := ((n, sg), S, (c, H), sl)) (by rw [fFirst, if_pos (show _ ∧ _ from ⟨c1, gV910.mp c2⟩), nI_clamp (by omega), nI_clamp (by omega)]) rfl (fun _ => rfl) ⟨rfl, rfl, hRR, rfl, hD, hKp⟩) rfl dX8_firstTime_40

set_option maxHeartbeats 4000000 in
set_option maxRecDepth 100000 in
theorem mX8_coming (G : gG) (m : Nat → Nat) (q : Nat → Int32) (n c : Nat) (sg : Nat → Int32) (S : gSt) (H : Nat → gSt) (sl : Nat → Option gSt) (rd f tr dy kp ik tn : Nat → Int32) (z y : Int32) (hn12 : n ≤ 120) (hO : gOk 50000 S) (hc14 : c ≤ 14) (hHo : gHok 50000 c H) (hRR : RR S f) (hD : gDry c H dy) (hKp : gKpt sl kp ik) : CI G yX8_coming wsX8_coming 8 190 [.ref (m 0), .int z, .int y] [(m 0, .inr (8, [.int (q 0), .ref (m 1), .int (nI n), .int (q 2), .int (q 3), .int (q 4), .ref (m 2), .ref (m 3), .ref (m 4), .ref (m 5), .int (nI c), .ref (m 6), .ref (m 7), .ref (m 8), .int (q 6), .int (q 7), .int (q 8)])), (m 1, .inl (gy G 0, 120, .inl sg)), (m 2, .inl (gy G 0, 271, .inl rd)), (m 3, .inl (gy G 0, 271, .inl f)), (m 4, .inl (gy G 0, 271, .inl tr)), (m 5, .inl (gy G 0, 3794, .inl dy)), (m 6, .inl (gy G 0, 542, .inl kp)), (m 7, .inl (gy G 2, 2, .inl ik)), (m 8, .inl (gy G 0, 10, .inl tn))] (gRefP (fComing ((n, sg), S, (c, H), sl) z y)) (fun (u : gRu) => (wR G m u)) 0 0 := by
  refine g_enterI (ty := .int) RX8 rfl (by decide) rfl (Nat.le_of_ble_eq_true rfl) ?_
  intro V E RET
  have hK := hO.1
  have hJ := hK.1
  have hI := hJ.1
  have hT1 := hO.2.2
  have hT2 : sN S 0 < 200000000 := by omega
  have hT : sN S 0 < 1000000000 := by omega
  have hb2 := gI2_b2 hJ
  have hX := hI
  obtain ⟨hP8, hn, hw, hW8, hs3, hs4, hs5, hs6, hs7, hs8, hb34⟩ := hX
  refine g_aload_n E dX8_coming_0 rfl 0 rfl ?_
  refine g_iload_n E dX8_coming_1 rfl 1 rfl ?_
  refine g_callSIe (F := [(m 0, .inr (8, [.int (q 0), .ref (m 1), .int (nI n), .int (q 2), .int (q 3), .int (q 4), .ref (m 2), .ref (m 3), .ref (m 4), .ref (m 5), .int (nI c), .ref (m 6), .ref (m 7), .ref (m 8), .int (q 6), .int (q 7), .int (q 8)])), (m 1, .inl (gy G 0, 120, .inl sg)), (m 2, .inl (gy G 0, 271, .inl rd)), (m 3, .inl (gy G 0, 271, .inl f)), (m 4, .inl (gy G 0, 271, .inl tr)), (m 5, .inl (gy G 0, 3794, .inl dy)), (m 6, .inl (gy G 0, 542, .inl kp)), (m 7, .inl (gy G 2, 2, .inl ik)), (m 8, .inl (gy G 0, 10, .inl tn))]) (ws2 := [(m 0, .inr (8, [.int (q 0), .ref (m 1), .int (nI n), .int (q 2), .int (q 3), .int (q 4), .ref (m 2), .ref (m 3), .ref (m 4), .ref (m 5), .int (nI c), .ref (m 6), .ref (m 7), .ref (m 8), .int (q 6), .int (q 7), .int (q 8)])), (m 1, .inl (gy G 0, 120, .inl sg)), (m 2, .inl (gy G 0, 271, .inl rd)), (m 3, .inl (gy G 0, 271, .inl f)), (m 4, .inl (gy G 0, 271, .inl tr)), (m 5, .inl (gy G 0, 3794, .inl dy)), (m 6, .inl (gy G 0, 542, .inl kp)), (m 7, .inl (gy G 2, 2, .inl ik)), (m 8, .inl (gy G 0, 10, .inl tn))]) E (mX8_isFar G z) gX8_coming_X8_isFar rfl hnX8_isFar ⟨Nat.le_of_ble_eq_true rfl, Nat.le_of_ble_eq_true rfl⟩ (gPerm_ix [0, 1, 2, 3, 4, 5, 6, 7, 8] rfl rfl) rfl rfl (Nat.le_of_ble_eq_true rfl) dX8_coming_2 ⟨Nat.le_of_ble_eq_true rfl, Nat.le_of_ble_eq_true rfl⟩ (gPerm_ix [0, 1, 2, 3, 4, 5, 6, 7, 8] rfl rfl) ?_
  refine g_if_eqB (tgt := 24) (P := (¬ z < 1 ∧ ¬ 60 < z)) E dX8_coming_5 (by decide) (fun c1 => ?_) (fun c1 => ?_)
  · skip
    refine g_iconst (v := 1) E dX8_coming_24 (by decide) ?_
    refine g_callVIe (F := [(m 1, .inl (gy G 0, 120, .inl sg)), (m 2, .inl (gy G 0, 271, .inl rd)), (m 3, .inl (gy G 0, 271, .inl f)), (m 4, .inl (gy G 0, 271, .inl tr)), (m 5, .inl (gy G 0, 3794, .inl dy)), (m 6, .inl (gy G 0, 542, .inl kp)), (m 7, .inl (gy G 2, 2, .inl ik)), (m 8, .inl (gy G 0, 10, .inl tn))]) (ws2 := [(m 0, .inr (8, [.int 1, .ref (m 1), .int (nI n), .int (q 2), .int (q 3), .int (q 4), .ref (m 2), .ref (m 3), .ref (m 4), .ref (m 5), .int (nI c), .ref (m 6), .ref (m 7), .ref (m 8), .int (q 6), .int (q 7), .int (q 8)])), (m 1, .inl (gy G 0, 120, .inl sg)), (m 2, .inl (gy G 0, 271, .inl rd)), (m 3, .inl (gy G 0, 271, .inl f)), (m 4, .inl (gy G 0, 271, .inl tr)), (m 5, .inl (gy G 0, 3794, .inl dy)), (m 6, .inl (gy G 0, 542, .inl kp)), (m 7, .inl (gy G 2, 2, .inl ik)), (m 8, .inl (gy G 0, 10, .inl tn))]) E (mX8_refused G m (qU (qU q 1 (nI n)) 5 (nI c)) 1) gX8_coming_X8_refused rfl hdX8_refused ⟨Nat.le_of_ble_eq_true rfl, Nat.le_of_ble_eq_true rfl⟩ 8 0 rfl rfl rfl (gPerm_ix [0, 1, 2, 3, 4, 5, 6, 7, 8] rfl rfl) rfl rfl (Nat.le_of_ble_eq_true rfl) dX8_coming_25 ⟨Nat.le_of_ble_eq_true rfl, Nat.le_of_ble_eq_true rfl⟩ (gPerm_ix [0, 1, 2, 3, 4, 5, 6, 7, 8] rfl rfl) ?_
    refine g_if_eq (tgt := 33) E dX8_coming_28 (by decide) (fun c => absurd c (by decide)) (fun _ => ?_)
    refine g_iconst (v := 0) E dX8_coming_31 (by decide) ?_
    exact RET _ _ _ (qU (qU (qU q 0 1) 1 (nI n)) 5 (nI c), sg, rd, f, tr, dy, kp, ik, tn) (gRefP_mk (k := 1) (A := ((n, sg), S, (c, H), sl)) (by rw [fComing, if_neg c1]) rfl (fun e => absurd e (by decide)) ⟨rfl, rfl, hRR, rfl, hD, hKp⟩) rfl dX8_coming_32
  · skip
    obtain ⟨j, hj0, hj, rfl⟩ := nI_ofl1 (m := 60) c1 rfl rfl (by decide)
    refine g_iload_n E dX8_coming_8 rfl 2 rfl ?_
    refine g_i2l (v := y.toInt64) E dX8_coming_9 rfl ?_
    refine g_lconst (v := 0) E dX8_coming_10 (by decide) ?_
    refine g_ldc2 (v := 4) E kX8_coming_246 dX8_coming_11 ?_
    refine g_callSIe (F := [(m 0, .inr (8, [.int (q 0), .ref (m 1), .int (nI n), .int (q 2), .int (q 3), .int (q 4), .ref (m 2), .ref (m 3), .ref (m 4), .ref (m 5), .int (nI c), .ref (m 6), .ref (m 7), .ref (m 8), .int (q 6), .int (q 7), .int (q 8)])), (m 1, .inl (gy G 0, 120, .inl sg)), (m 2, .inl (gy G 0, 271, .inl rd)), (m 3, .inl (gy G 0, 271, .inl f)), (m 4, .inl (gy G 0, 271, .inl tr)), (m 5, .inl (gy G 0, 3794, .inl dy)), (m 6, .inl (gy G 0, 542, .inl kp)), (m 7, .inl (gy G 2, 2, .inl ik)), (m 8, .inl (gy G 0, 10, .inl tn))]) (ws2 := [(m 0, .inr (8, [.int (q 0), .ref (m 1), .int (nI n), .int (q 2), .int (q 3), .int (q 4), .ref (m 2), .ref (m 3), .ref (m 4), .ref (m 5), .int (nI c), .ref (m 6), .ref (m 7), .ref (m 8), .int (q 6), .int (q 7), .int (q 8)])), (m 1, .inl (gy G 0, 120, .inl sg)), (m 2, .inl (gy G 0, 271, .inl rd)), (m 3, .inl (gy G 0, 271, .inl f)), (m 4, .inl (gy G 0, 271, .inl tr)), (m 5, .inl (gy G 0, 3794, .inl dy)), (m 6, .inl (gy G 0, 542, .inl kp)), (m 7, .inl (gy G 2, 2, .inl ik)), (m 8, .inl (gy G 0, 10, .inl tn))]) E (g_resI (gIn64 (lo := 0) (hi := 4) rfl rfl) (mX8_in G y.toInt64 0 4)) gX8_coming_X8_in rfl hnX8_in ⟨Nat.le_of_ble_eq_true rfl, Nat.le_of_ble_eq_true rfl⟩ (gPerm_ix [0, 1, 2, 3, 4, 5, 6, 7, 8] rfl rfl) rfl rfl (Nat.le_of_ble_eq_true rfl) dX8_coming_14 ⟨Nat.le_of_ble_eq_true rfl, Nat.le_of_ble_eq_true rfl⟩ (gPerm_ix [0, 1, 2, 3, 4, 5, 6, 7, 8] rfl rfl) ?_
    refine g_if_eqB (tgt := 24) (P := (¬ y < 0 ∧ ¬ 4 < y)) E dX8_coming_17 (by decide) (fun c2 => ?_) (fun c2 => ?_)
    · skip
      refine g_iconst (v := 1) E dX8_coming_24 (by decide) ?_
      refine g_callVIe (F := [(m 1, .inl (gy G 0, 120, .inl sg)), (m 2, .inl (gy G 0, 271, .inl rd)), (m 3, .inl (gy G 0, 271, .inl f)), (m 4, .inl (gy G 0, 271, .inl tr)), (m 5, .inl (gy G 0, 3794, .inl dy)), (m 6, .inl (gy G 0, 542, .inl kp)), (m 7, .inl (gy G 2, 2, .inl ik)), (m 8, .inl (gy G 0, 10, .inl tn))]) (ws2 := [(m 0, .inr (8, [.int 1, .ref (m 1), .int (nI n), .int (q 2), .int (q 3), .int (q 4), .ref (m 2), .ref (m 3), .ref (m 4), .ref (m 5), .int (nI c), .ref (m 6), .ref (m 7), .ref (m 8), .int (q 6), .int (q 7), .int (q 8)])), (m 1, .inl (gy G 0, 120, .inl sg)), (m 2, .inl (gy G 0, 271, .inl rd)), (m 3, .inl (gy G 0, 271, .inl f)), (m 4, .inl (gy G 0, 271, .inl tr)), (m 5, .inl (gy G 0, 3794, .inl dy)), (m 6, .inl (gy G 0, 542, .inl kp)), (m 7, .inl (gy G 2, 2, .inl ik)), (m 8, .inl (gy G 0, 10, .inl tn))]) E (mX8_refused G m (qU (qU q 1 (nI n)) 5 (nI c)) 1) gX8_coming_X8_refused rfl hdX8_refused ⟨Nat.le_of_ble_eq_true rfl, Nat.le_of_ble_eq_true rfl⟩ 8 0 rfl rfl rfl (gPerm_ix [0, 1, 2, 3, 4, 5, 6, 7, 8] rfl rfl) rfl rfl (Nat.le_of_ble_eq_true rfl) dX8_coming_25 ⟨Nat.le_of_ble_eq_true rfl, Nat.le_of_ble_eq_true rfl⟩ (gPerm_ix [0, 1, 2, 3, 4, 5, 6, 7, 8] rfl rfl) ?_
      refine g_if_eq (tgt := 33) E dX8_coming_28 (by decide) (fun c => absurd c (by decide)) (fun _ => ?_)
      refine g_iconst (v := 0) E dX8_coming_31 (by decide) ?_
      exact RET _ _ _ (qU (qU (qU q 0 1) 1 (nI n)) 5 (nI c), sg, rd, f, tr, dy, kp, ik, tn) (gRefP_mk (k := 1) (A := ((n, sg), S, (c, H), sl)) (by rw [fComing, if_pos c1, if_neg c2]) rfl (fun e => absurd e (by decide)) ⟨rfl, rfl, hRR, rfl, hD, hKp⟩) rfl dX8_coming_32
    · skip
      obtain ⟨e, he, rfl⟩ := gNat_ofl (m := 4) c2 rfl rfl (by decide)
      refine g_iconst (v := 0) E dX8_coming_20 (by decide) ?_
      refine g_goto (tgt := 25) E dX8_coming_21 (by decide) ?_
      refine g_callVIe (F := [(m 1, .inl (gy G 0, 120, .inl sg)), (m 2, .inl (gy G 0, 271, .inl rd)), (m 3, .inl (gy G 0, 271, .inl f)), (m 4, .inl (gy G 0, 271, .inl tr)), (m 5, .inl (gy G 0, 3794, .inl dy)), (m 6, .inl (gy G 0, 542, .inl kp)), (m 7, .inl (gy G 2, 2, .inl ik)), (m 8, .inl (gy G 0, 10, .inl tn))]) (ws2 := [(m 0, .inr (8, [.int 0, .ref (m 1), .int (nI n), .int (q 2), .int (q 3), .int (q 4), .ref (m 2), .ref (m 3), .ref (m 4), .ref (m 5), .int (nI c), .ref (m 6), .ref (m 7), .ref (m 8), .int (q 6), .int (q 7), .int (q 8)])), (m 1, .inl (gy G 0, 120, .inl sg)), (m 2, .inl (gy G 0, 271, .inl rd)), (m 3, .inl (gy G 0, 271, .inl f)), (m 4, .inl (gy G 0, 271, .inl tr)), (m 5, .inl (gy G 0, 3794, .inl dy)), (m 6, .inl (gy G 0, 542, .inl kp)), (m 7, .inl (gy G 2, 2, .inl ik)), (m 8, .inl (gy G 0, 10, .inl tn))]) E (mX8_refused G m (qU (qU q 1 (nI n)) 5 (nI c)) 0) gX8_coming_X8_refused rfl hdX8_refused ⟨Nat.le_of_ble_eq_true rfl, Nat.le_of_ble_eq_true rfl⟩ 8 0 rfl rfl rfl (gPerm_ix [0, 1, 2, 3, 4, 5, 6, 7, 8] rfl rfl) rfl rfl (Nat.le_of_ble_eq_true rfl) dX8_coming_25 ⟨Nat.le_of_ble_eq_true rfl, Nat.le_of_ble_eq_true rfl⟩ (gPerm_ix [0, 1, 2, 3, 4, 5, 6, 7, 8] rfl rfl) ?_
      refine g_if_eq (tgt := 33) E dX8_coming_28 (by decide) (fun _ => ?_) (fun c => absurd c (by decide))
      refine g_aload_n E dX8_coming_33 rfl 0 rfl ?_
      refine g_callVVe (F := [(m 1, .inl (gy G 0, 120, .inl sg)), (m 2, .inl (gy G 0, 271, .inl rd)), (m 5, .inl (gy G 0, 3794, .inl dy)), (m 6, .inl (gy G 0, 542, .inl kp)), (m 7, .inl (gy G 2, 2, .inl ik)), (m 8, .inl (gy G 0, 10, .inl tn))]) (ws2 := [(m 0, .inr (8, [.int 0, .ref (m 1), .int (nI n), .int (q 2), .int (q 3), .int (q 4), .ref (m 2), .ref (m 3), .ref (m 4), .ref (m 5), .int (nI c), .ref (m 6), .ref (m 7), .ref (m 8), .int (-1), .int (q 7), .int (q 8)])), (m 1, .inl (gy G 0, 120, .inl sg)), (m 2, .inl (gy G 0, 271, .inl rd)), (m 3, .inl (gy G 0, 271, .inl f)), (m 4, .inl (gy G 0, 271, .inl (va_cpy f tr 0 0 271))), (m 5, .inl (gy G 0, 3794, .inl dy)), (m 6, .inl (gy G 0, 542, .inl kp)), (m 7, .inl (gy G 2, 2, .inl ik)), (m 8, .inl (gy G 0, 10, .inl tn))]) E (mX8_tryIt G m (qU (qU (qU q 0 0) 1 (nI n)) 5 (nI c)) f tr) gX8_coming_X8_tryIt rfl hdX8_tryIt ⟨Nat.le_of_ble_eq_true rfl, Nat.le_of_ble_eq_true rfl⟩ 8 0 rfl rfl rfl (gPerm_ix [0, 3, 4, 1, 2, 5, 6, 7, 8] rfl rfl) rfl rfl (Nat.le_of_ble_eq_true rfl) dX8_coming_34 ⟨Nat.le_of_ble_eq_true rfl, Nat.le_of_ble_eq_true rfl⟩ (gPerm_ix [0, 3, 4, 1, 2, 5, 6, 7, 8] rfl rfl) ?_
      have hRt : RR S (va_cpy f tr 0 0 271) := RR_cg hRR hI (fun i hi => gCpyA hi)
      refine g_aload_n E dX8_coming_37 rfl 0 rfl ?_
      refine g_aload_n E dX8_coming_38 rfl 0 rfl ?_
      refine g_get E uX8_coming_RX8 0 rfl rfl 8 (by decide) kX8_coming_19 rfl rfl dX8_coming_39 ?_
      refine g_iload_n E dX8_coming_42 rfl 1 rfl ?_
      refine g_callVIu (F := [(m 1, .inl (gy G 0, 120, .inl sg)), (m 2, .inl (gy G 0, 271, .inl rd)), (m 3, .inl (gy G 0, 271, .inl f)), (m 5, .inl (gy G 0, 3794, .inl dy)), (m 6, .inl (gy G 0, 542, .inl kp)), (m 7, .inl (gy G 2, 2, .inl ik))]) E (mX8_runIn G m (qU (qU (qU (qU q 0 0) 1 (nI n)) 5 (nI c)) 6 (-1)) (m 4) S (va_cpy f tr 0 0 271) tn j hJ (by omega) hRt) gX8_coming_X8_runIn rfl hdX8_runIn ⟨Nat.le_of_ble_eq_true rfl, Nat.le_of_ble_eq_true rfl⟩ 8 0 rfl rfl rfl (gPerm_ix [0, 8, 4, 1, 2, 3, 5, 6, 7] rfl rfl) rfl rfl (Nat.le_of_ble_eq_true rfl) dX8_coming_43 ⟨Nat.le_of_ble_eq_true rfl, Nat.le_of_ble_eq_true rfl⟩ (fun u3 hU3 => ?_)
      obtain ⟨S3, xE3⟩ : ∃ x, x = gDays j S := ⟨_, rfl⟩
      have hRR3 : RR S3 u3.2.2 := by rw [xE3]; exact hU3
      refine g_perm (ws1 := [(m 0, .inr (8, [.int 0, .ref (m 1), .int (nI n), .int (q 2), .int (q 3), .int (q 4), .ref (m 2), .ref (m 3), .ref (m 4), .ref (m 5), .int (nI c), .ref (m 6), .ref (m 7), .ref (m 8), .int u3.1, .int (q 7), .int (q 8)])), (m 1, .inl (gy G 0, 120, .inl sg)), (m 2, .inl (gy G 0, 271, .inl rd)), (m 3, .inl (gy G 0, 271, .inl f)), (m 4, .inl (gy G 0, 271, .inl u3.2.2)), (m 5, .inl (gy G 0, 3794, .inl dy)), (m 6, .inl (gy G 0, 542, .inl kp)), (m 7, .inl (gy G 2, 2, .inl ik)), (m 8, .inl (gy G 0, 10, .inl u3.2.1))]) (gPerm_ix [0, 3, 4, 5, 2, 6, 7, 8, 1] rfl rfl) ?_
      refine g_pop E dX8_coming_46 rfl ?_
      refine g_iload_n E dX8_coming_47 rfl 2 rfl ?_
      refine g_iconst (v := 4) E dX8_coming_48 (by decide) ?_
      refine g_icmp_neN (tgt := 61) (a := e) (b := 4) E dX8_coming_49 (by decide) (by omega) (by omega) (fun c5 => ?_) (fun c5 => ?_)
      · skip
        refine g_aload_n E dX8_coming_61 rfl 0 rfl ?_
        refine g_get E uX8_coming_RX8 0 rfl rfl 8 (by decide) kX8_coming_19 rfl rfl dX8_coming_62 ?_
        refine g_iconst (v := 4) E dX8_coming_65 (by decide) ?_
        refine g_iload_n E dX8_coming_66 rfl 2 rfl ?_
        refine g_iaddN (a := 4) (b := e) E dX8_coming_67 ?_
        refine g_ialdN (e := 4 + e) E 4 rfl (by omega) rfl (v := sI S3 8 e) (RR_C hRR3 (j := e) (by omega)) dX8_coming_68 ?_
        refine g_aload_n E dX8_coming_69 rfl 0 rfl ?_
        refine g_get E uX8_coming_RX8 0 rfl rfl 7 (by decide) kX8_coming_16 rfl rfl dX8_coming_70 ?_
        refine g_iconst (v := 4) E dX8_coming_73 (by decide) ?_
        refine g_iload_n E dX8_coming_74 rfl 2 rfl ?_
        refine g_iaddN (a := 4) (b := e) E dX8_coming_75 ?_
        refine g_ialdN (e := 4 + e) E 3 rfl (by omega) rfl (v := sI S 8 e) (RR_C hRR (j := e) (by omega)) dX8_coming_76 ?_
        refine g_isub E dX8_coming_77 ?_
        exact RET _ _ _ (qU (qU (qU (qU q 0 0) 1 (nI n)) 5 (nI c)) 6 u3.1, sg, rd, f, u3.2.2, dy, kp, ik, u3.2.1) (gRefP_mk (k := 0) (A := ((n, sg), S, (c, H), sl)) (by rw [fComing, if_pos c1, if_pos c2, nI_clamp (by omega), nI_clamp (by omega)]; show (0, (if nI e = 4 then nI (sW (gDays j S)).length else sI (gDays j S) 8 e - sI S 8 e), _) = _; rw [if_neg (fun q => c5 (nI_inj' (by omega) (by decide) (q.trans (show (4 : Int32) = nI 4 from rfl)))), xE3]) rfl (fun _ => rfl) ⟨rfl, rfl, hRR, rfl, hD, hKp⟩) rfl dX8_coming_78
      · skip
        obtain rfl : e = 4 := c5
        refine g_aload_n E dX8_coming_52 rfl 0 rfl ?_
        refine g_get E uX8_coming_RX8 0 rfl rfl 8 (by decide) kX8_coming_19 rfl rfl dX8_coming_53 ?_
        refine g_iconst (v := 3) E dX8_coming_56 (by decide) ?_
        refine g_ialdN (e := 3) E 4 rfl (by omega) rfl (v := nI ((sW S3).length)) (RR_3 hRR3) dX8_coming_57 ?_
        refine g_goto (tgt := 78) E dX8_coming_58 (by decide) ?_
        exact RET _ _ _ (qU (qU (qU (qU q 0 0) 1 (nI n)) 5 (nI c)) 6 u3.1, sg, rd, f, u3.2.2, dy, kp, ik, u3.2.1) (gRefP_mk (k := 0) (A := ((n, sg), S, (c, H), sl)) (by rw [fComing, if_pos c1, if_pos c2, nI_clamp (by omega), nI_clamp (by omega)]; show (0, (if nI 4 = 4 then nI (sW (gDays j S)).length else sI (gDays j S) 8 4 - sI S 8 4), _) = _; rw [if_pos (show nI 4 = 4 from rfl), xE3]) rfl (fun _ => rfl) ⟨rfl, rfl, hRR, rfl, hD, hKp⟩) rfl dX8_coming_78

set_option maxHeartbeats 4000000 in
set_option maxRecDepth 100000 in
theorem mX8_becomes (G : gG) (m : Nat → Nat) (q : Nat → Int32) (n c : Nat) (sg : Nat → Int32) (S : gSt) (H : Nat → gSt) (sl : Nat → Option gSt) (rd f tr dy kp ik tn : Nat → Int32) (k0 : Int32) (hn12 : n ≤ 120) (hO : gOk 50000 S) (hc14 : c ≤ 14) (hHo : gHok 50000 c H) (hRR : RR S f) (hD : gDry c H dy) (hKp : gKpt sl kp ik) : CI G yX8_becomes wsX8_becomes 7 166 [.ref (m 0), .int k0] [(m 0, .inr (8, [.int (q 0), .ref (m 1), .int (nI n), .int (q 2), .int (q 3), .int (q 4), .ref (m 2), .ref (m 3), .ref (m 4), .ref (m 5), .int (nI c), .ref (m 6), .ref (m 7), .ref (m 8), .int (q 6), .int (q 7), .int (q 8)])), (m 1, .inl (gy G 0, 120, .inl sg)), (m 2, .inl (gy G 0, 271, .inl rd)), (m 3, .inl (gy G 0, 271, .inl f)), (m 4, .inl (gy G 0, 271, .inl tr)), (m 5, .inl (gy G 0, 3794, .inl dy)), (m 6, .inl (gy G 0, 542, .inl kp)), (m 7, .inl (gy G 2, 2, .inl ik)), (m 8, .inl (gy G 0, 10, .inl tn))] (gRefP (fBecomes ((n, sg), S, (c, H), sl) k0)) (fun (u : gRu) => (wR G m u)) 0 0 := by
  refine g_enterI (ty := .int) RX8 rfl (by decide) rfl (Nat.le_of_ble_eq_true rfl) ?_
  intro V E RET
  have hK := hO.1
  have hJ := hK.1
  have hI := hJ.1
  have hT1 := hO.2.2
  have hT2 : sN S 0 < 200000000 := by omega
  have hT : sN S 0 < 1000000000 := by omega
  have hb2 := gI2_b2 hJ
  have hX := hI
  obtain ⟨hP8, hn, hw, hW8, hs3, hs4, hs5, hs6, hs7, hs8, hb34⟩ := hX
  refine g_aload_n E dX8_becomes_0 rfl 0 rfl ?_
  refine g_aload_n E dX8_becomes_1 rfl 0 rfl ?_
  refine g_iload_n E dX8_becomes_2 rfl 1 rfl ?_
  refine g_callVIe (F := [(m 1, .inl (gy G 0, 120, .inl sg)), (m 2, .inl (gy G 0, 271, .inl rd)), (m 4, .inl (gy G 0, 271, .inl tr)), (m 5, .inl (gy G 0, 3794, .inl dy)), (m 6, .inl (gy G 0, 542, .inl kp)), (m 7, .inl (gy G 2, 2, .inl ik)), (m 8, .inl (gy G 0, 10, .inl tn))]) (ws2 := [(m 0, .inr (8, [.int (q 0), .ref (m 1), .int (nI n), .int (q 2), .int (q 3), .int (q 4), .ref (m 2), .ref (m 3), .ref (m 4), .ref (m 5), .int (nI c), .ref (m 6), .ref (m 7), .ref (m 8), .int (q 6), .int (q 7), .int (q 8)])), (m 1, .inl (gy G 0, 120, .inl sg)), (m 2, .inl (gy G 0, 271, .inl rd)), (m 3, .inl (gy G 0, 271, .inl f)), (m 4, .inl (gy G 0, 271, .inl tr)), (m 5, .inl (gy G 0, 3794, .inl dy)), (m 6, .inl (gy G 0, 542, .inl kp)), (m 7, .inl (gy G 2, 2, .inl ik)), (m 8, .inl (gy G 0, 10, .inl tn))]) E (mX8_isBooking G m (qU (qU q 1 (nI n)) 5 (nI c)) S f k0 hI hT hRR) gX8_becomes_X8_isBooking rfl hdX8_isBooking ⟨Nat.le_of_ble_eq_true rfl, Nat.le_of_ble_eq_true rfl⟩ 8 0 rfl rfl rfl (gPerm_ix [0, 3, 1, 2, 4, 5, 6, 7, 8] rfl rfl) rfl rfl (Nat.le_of_ble_eq_true rfl) dX8_becomes_3 ⟨Nat.le_of_ble_eq_true rfl, Nat.le_of_ble_eq_true rfl⟩ (gPerm_ix [0, 2, 3, 1, 4, 5, 6, 7, 8] rfl rfl) ?_
  refine g_if_neB (tgt := 13) (P := (¬ k0 < 0 ∧ ¬ nI ((sB S).length) ≤ k0)) E dX8_becomes_6 (by decide) (fun c1 => ?_) (fun c1 => ?_)
  · skip
    obtain ⟨j, hj, rfl⟩ := gNat_of c1 (by omega)
    have hf0 := hJ.2.2.1 j hj
    refine g_aload_n E dX8_becomes_13 rfl 0 rfl ?_
    refine g_get E uX8_becomes_RX8 0 rfl rfl 7 (by decide) kX8_becomes_16 rfl rfl dX8_becomes_14 ?_
    refine g_iload_n E dX8_becomes_17 rfl 1 rfl ?_
    refine g_iconst (v := 0) E dX8_becomes_18 (by decide) ?_
    refine g_callSIe (F := [(m 0, .inr (8, [.int (q 0), .ref (m 1), .int (nI n), .int (q 2), .int (q 3), .int (q 4), .ref (m 2), .ref (m 3), .ref (m 4), .ref (m 5), .int (nI c), .ref (m 6), .ref (m 7), .ref (m 8), .int (q 6), .int (q 7), .int (q 8)])), (m 1, .inl (gy G 0, 120, .inl sg)), (m 2, .inl (gy G 0, 271, .inl rd)), (m 3, .inl (gy G 0, 271, .inl f)), (m 4, .inl (gy G 0, 271, .inl tr)), (m 5, .inl (gy G 0, 3794, .inl dy)), (m 6, .inl (gy G 0, 542, .inl kp)), (m 7, .inl (gy G 2, 2, .inl ik)), (m 8, .inl (gy G 0, 10, .inl tn))]) (ws2 := [(m 0, .inr (8, [.int (q 0), .ref (m 1), .int (nI n), .int (q 2), .int (q 3), .int (q 4), .ref (m 2), .ref (m 3), .ref (m 4), .ref (m 5), .int (nI c), .ref (m 6), .ref (m 7), .ref (m 8), .int (q 6), .int (q 7), .int (q 8)])), (m 1, .inl (gy G 0, 120, .inl sg)), (m 2, .inl (gy G 0, 271, .inl rd)), (m 3, .inl (gy G 0, 271, .inl f)), (m 4, .inl (gy G 0, 271, .inl tr)), (m 5, .inl (gy G 0, 3794, .inl dy)), (m 6, .inl (gy G 0, 542, .inl kp)), (m 7, .inl (gy G 2, 2, .inl ik)), (m 8, .inl (gy G 0, 10, .inl tn))]) E (mX8_bookingAt G j 0 (by omega) (by omega)) gX8_becomes_X8_bookingAt rfl hnX8_bookingAt ⟨Nat.le_of_ble_eq_true rfl, Nat.le_of_ble_eq_true rfl⟩ (gPerm_ix [0, 1, 2, 3, 4, 5, 6, 7, 8] rfl rfl) rfl rfl (Nat.le_of_ble_eq_true rfl) dX8_becomes_19 ⟨Nat.le_of_ble_eq_true rfl, Nat.le_of_ble_eq_true rfl⟩ (gPerm_ix [0, 1, 2, 3, 4, 5, 6, 7, 8] rfl rfl) ?_
    refine g_ialdN (e := 93 + 7 * j + 0) E 3 rfl (by omega) rfl (v := nI (bk (sB S) j 0)) (RR_B hRR (k := j) (w := 0) (by omega) (by omega)) dX8_becomes_22 ?_
    refine g_aload_n E dX8_becomes_23 rfl 0 rfl ?_
    refine g_get E uX8_becomes_RX8 0 rfl rfl 7 (by decide) kX8_becomes_16 rfl rfl dX8_becomes_24 ?_
    refine g_iconst (v := 0) E dX8_becomes_27 (by decide) ?_
    refine g_ialdN (e := 0) E 3 rfl (by omega) rfl (v := nI (sN S 0)) (RR_0 hRR) dX8_becomes_28 ?_
    refine g_bipush (v := 60) E dX8_becomes_29 (by decide) ?_
    refine g_iaddN (a := sN S 0) (b := 60) E dX8_becomes_31 ?_
    refine g_iconst (v := 1) E dX8_becomes_32 (by decide) ?_
    refine g_isubN (a := sN S 0 + 60) (b := 1) E dX8_becomes_33 (by omega) ?_
    refine g_icmp_leN (tgt := 41) (a := bk (sB S) j 0) (b := sN S 0 + 60 - 1) E dX8_becomes_34 (by decide) (by omega) (by omega) (fun c2 => ?_) (fun c2 => ?_)
    · skip
      refine g_iconst (v := 0) E dX8_becomes_41 (by decide) ?_
      refine g_callVIe (F := [(m 1, .inl (gy G 0, 120, .inl sg)), (m 2, .inl (gy G 0, 271, .inl rd)), (m 3, .inl (gy G 0, 271, .inl f)), (m 4, .inl (gy G 0, 271, .inl tr)), (m 5, .inl (gy G 0, 3794, .inl dy)), (m 6, .inl (gy G 0, 542, .inl kp)), (m 7, .inl (gy G 2, 2, .inl ik)), (m 8, .inl (gy G 0, 10, .inl tn))]) (ws2 := [(m 0, .inr (8, [.int 0, .ref (m 1), .int (nI n), .int (q 2), .int (q 3), .int (q 4), .ref (m 2), .ref (m 3), .ref (m 4), .ref (m 5), .int (nI c), .ref (m 6), .ref (m 7), .ref (m 8), .int (q 6), .int (q 7), .int (q 8)])), (m 1, .inl (gy G 0, 120, .inl sg)), (m 2, .inl (gy G 0, 271, .inl rd)), (m 3, .inl (gy G 0, 271, .inl f)), (m 4, .inl (gy G 0, 271, .inl tr)), (m 5, .inl (gy G 0, 3794, .inl dy)), (m 6, .inl (gy G 0, 542, .inl kp)), (m 7, .inl (gy G 2, 2, .inl ik)), (m 8, .inl (gy G 0, 10, .inl tn))]) E (mX8_refused G m (qU (qU q 1 (nI n)) 5 (nI c)) 0) gX8_becomes_X8_refused rfl hdX8_refused ⟨Nat.le_of_ble_eq_true rfl, Nat.le_of_ble_eq_true rfl⟩ 8 0 rfl rfl rfl (gPerm_ix [0, 1, 2, 3, 4, 5, 6, 7, 8] rfl rfl) rfl rfl (Nat.le_of_ble_eq_true rfl) dX8_becomes_42 ⟨Nat.le_of_ble_eq_true rfl, Nat.le_of_ble_eq_true rfl⟩ (gPerm_ix [0, 1, 2, 3, 4, 5, 6, 7, 8] rfl rfl) ?_
      refine g_if_eq (tgt := 50) E dX8_becomes_45 (by decide) (fun _ => ?_) (fun c => absurd c (by decide))
      refine g_aload_n E dX8_becomes_50 rfl 0 rfl ?_
      refine g_callVVe (F := [(m 1, .inl (gy G 0, 120, .inl sg)), (m 2, .inl (gy G 0, 271, .inl rd)), (m 5, .inl (gy G 0, 3794, .inl dy)), (m 6, .inl (gy G 0, 542, .inl kp)), (m 7, .inl (gy G 2, 2, .inl ik)), (m 8, .inl (gy G 0, 10, .inl tn))]) (ws2 := [(m 0, .inr (8, [.int 0, .ref (m 1), .int (nI n), .int (q 2), .int (q 3), .int (q 4), .ref (m 2), .ref (m 3), .ref (m 4), .ref (m 5), .int (nI c), .ref (m 6), .ref (m 7), .ref (m 8), .int (-1), .int (q 7), .int (q 8)])), (m 1, .inl (gy G 0, 120, .inl sg)), (m 2, .inl (gy G 0, 271, .inl rd)), (m 3, .inl (gy G 0, 271, .inl f)), (m 4, .inl (gy G 0, 271, .inl (va_cpy f tr 0 0 271))), (m 5, .inl (gy G 0, 3794, .inl dy)), (m 6, .inl (gy G 0, 542, .inl kp)), (m 7, .inl (gy G 2, 2, .inl ik)), (m 8, .inl (gy G 0, 10, .inl tn))]) E (mX8_tryIt G m (qU (qU (qU q 0 0) 1 (nI n)) 5 (nI c)) f tr) gX8_becomes_X8_tryIt rfl hdX8_tryIt ⟨Nat.le_of_ble_eq_true rfl, Nat.le_of_ble_eq_true rfl⟩ 8 0 rfl rfl rfl (gPerm_ix [0, 3, 4, 1, 2, 5, 6, 7, 8] rfl rfl) rfl rfl (Nat.le_of_ble_eq_true rfl) dX8_becomes_51 ⟨Nat.le_of_ble_eq_true rfl, Nat.le_of_ble_eq_true rfl⟩ (gPerm_ix [0, 3, 4, 1, 2, 5, 6, 7, 8] rfl rfl) ?_
      have hRt : RR S (va_cpy f tr 0 0 271) := RR_cg hRR hI (fun i hi => gCpyA hi)
      refine g_aload_n E dX8_becomes_54 rfl 0 rfl ?_
      refine g_get E uX8_becomes_RX8 0 rfl rfl 8 (by decide) kX8_becomes_19 rfl rfl dX8_becomes_55 ?_
      refine g_iload_n E dX8_becomes_58 rfl 1 rfl ?_
      refine g_bipush (v := 6) E dX8_becomes_59 (by decide) ?_
      refine g_callSIe (F := [(m 0, .inr (8, [.int 0, .ref (m 1), .int (nI n), .int (q 2), .int (q 3), .int (q 4), .ref (m 2), .ref (m 3), .ref (m 4), .ref (m 5), .int (nI c), .ref (m 6), .ref (m 7), .ref (m 8), .int (-1), .int (q 7), .int (q 8)])), (m 1, .inl (gy G 0, 120, .inl sg)), (m 2, .inl (gy G 0, 271, .inl rd)), (m 3, .inl (gy G 0, 271, .inl f)), (m 4, .inl (gy G 0, 271, .inl (va_cpy f tr 0 0 271))), (m 5, .inl (gy G 0, 3794, .inl dy)), (m 6, .inl (gy G 0, 542, .inl kp)), (m 7, .inl (gy G 2, 2, .inl ik)), (m 8, .inl (gy G 0, 10, .inl tn))]) (ws2 := [(m 0, .inr (8, [.int 0, .ref (m 1), .int (nI n), .int (q 2), .int (q 3), .int (q 4), .ref (m 2), .ref (m 3), .ref (m 4), .ref (m 5), .int (nI c), .ref (m 6), .ref (m 7), .ref (m 8), .int (-1), .int (q 7), .int (q 8)])), (m 1, .inl (gy G 0, 120, .inl sg)), (m 2, .inl (gy G 0, 271, .inl rd)), (m 3, .inl (gy G 0, 271, .inl f)), (m 4, .inl (gy G 0, 271, .inl (va_cpy f tr 0 0 271))), (m 5, .inl (gy G 0, 3794, .inl dy)), (m 6, .inl (gy G 0, 542, .inl kp)), (m 7, .inl (gy G 2, 2, .inl ik)), (m 8, .inl (gy G 0, 10, .inl tn))]) E (mX8_bookingAt G j 6 (by omega) (by omega)) gX8_becomes_X8_bookingAt rfl hnX8_bookingAt ⟨Nat.le_of_ble_eq_true rfl, Nat.le_of_ble_eq_true rfl⟩ (gPerm_ix [0, 1, 2, 3, 4, 5, 6, 7, 8] rfl rfl) rfl rfl (Nat.le_of_ble_eq_true rfl) dX8_becomes_61 ⟨Nat.le_of_ble_eq_true rfl, Nat.le_of_ble_eq_true rfl⟩ (gPerm_ix [0, 1, 2, 3, 4, 5, 6, 7, 8] rfl rfl) ?_
      refine g_iconst (v := 1) E dX8_becomes_64 (by decide) ?_
      refine g_iast (ws' := [(m 0, .inr (8, [.int 0, .ref (m 1), .int (nI n), .int (q 2), .int (q 3), .int (q 4), .ref (m 2), .ref (m 3), .ref (m 4), .ref (m 5), .int (nI c), .ref (m 6), .ref (m 7), .ref (m 8), .int (-1), .int (q 7), .int (q 8)])), (m 1, .inl (gy G 0, 120, .inl sg)), (m 2, .inl (gy G 0, 271, .inl rd)), (m 3, .inl (gy G 0, 271, .inl f)), (m 4, .inl (gy G 0, 271, .inl (upd (va_cpy f tr 0 0 271) (93 + 7 * j + 6) 1))), (m 5, .inl (gy G 0, 3794, .inl dy)), (m 6, .inl (gy G 0, 542, .inl kp)), (m 7, .inl (gy G 2, 2, .inl ik)), (m 8, .inl (gy G 0, 10, .inl tn))]) (j := 93 + 7 * j + 6) (y := 1) E 4 rfl (g_in (e := 93 + 7 * j + 6) (by omega) rfl) (nI_clamp (n := 93 + 7 * j + 6) (by omega)) rfl rfl dX8_becomes_65 ?_
      obtain ⟨M, xM⟩ : ∃ xx, xx = gMark S j := ⟨_, rfl⟩
      have hRM : RR M (upd (va_cpy f tr 0 0 271) (93 + 7 * j + 6) 1) := by rw [xM]; exact RR_mark hRt hn hj
      have hB0 : gBcI M j 0 M (-1) := by rw [xM]; exact gBc_0 hK hO.2.1 hj
      have hMt : sN M 0 = sN S 0 := by rw [xM]; rfl
      have hMd : bk (sB M) j 0 = bk (sB S) j 0 := by rw [xM]; exact gMark_bk hj j 0 (by decide)
      refine g_iconst (v := 0) E dX8_becomes_66 (by decide) ?_
      refine g_istore_n (lv' := [(2, .int 0), (0, .ref (m 0)), (1, .int (nI j))]) E dX8_becomes_67 rfl (by decide) rfl ?_
      have loop3 : ∀ (n4 : Nat) (k : Nat) (C : gSt) (ft : Int32) (tk g : Nat → Int32), (k ≤ 60) → (gBcI M j k C ft) → (RR C g) → 60 - k < n4 → gW V 3 0 0 [(m 0, .inr (8, [.int 0, .ref (m 1), .int (nI n), .int (q 2), .int (q 3), .int (q 4), .ref (m 2), .ref (m 3), .ref (m 4), .ref (m 5), .int (nI c), .ref (m 6), .ref (m 7), .ref (m 8), .int ft, .int (q 7), .int (q 8)])), (m 1, .inl (gy G 0, 120, .inl sg)), (m 2, .inl (gy G 0, 271, .inl rd)), (m 3, .inl (gy G 0, 271, .inl f)), (m 4, .inl (gy G 0, 271, .inl g)), (m 5, .inl (gy G 0, 3794, .inl dy)), (m 6, .inl (gy G 0, 542, .inl kp)), (m 7, .inl (gy G 2, 2, .inl ik)), (m 8, .inl (gy G 0, 10, .inl tk))] [(0, .ref (m 0)), (1, .int (nI j)), (2, .int (nI k))] 68 [] := by
        intro n4
        induction n4 with
        | zero => intro k C ft tk g hk hB hRg hm6; exact absurd hm6 (Nat.not_lt_zero _)
        | succ n4 ih5 =>
          intro k C ft tk g hk hB hRg hm6
          refine g_iload_n E dX8_becomes_68 rfl 2 rfl ?_
          refine g_bipush (v := 60) E dX8_becomes_69 (by decide) ?_
          refine g_icmp_geN (tgt := 96) (a := k) (b := 60) E dX8_becomes_71 (by decide) (by omega) (by omega) (fun c7 => ?_) (fun c7 => ?_)
          · skip
            refine g_aload_n E dX8_becomes_96 rfl 0 rfl ?_
            refine g_get E uX8_becomes_RX8 0 rfl rfl 14 (by decide) kX8_becomes_52 rfl rfl dX8_becomes_97 ?_
            exact RET _ _ _ (qU (qU (qU (qU q 0 0) 1 (nI n)) 5 (nI c)) 6 ft, sg, rd, f, g, dy, kp, ik, tk) (gRefP_mk (k := 0) (A := ((n, sg), S, (c, H), sl)) (by rw [fBecomes, if_pos c1, nI_clamp (by omega)]; exact (if_neg (show ¬ 60 ≤ bk (sB S) j 0 - sN S 0 by omega)).trans (by rw [gBc_e hB (by omega) (Or.inr (by omega)), xM])) rfl (fun _ => rfl) ⟨rfl, rfl, hRR, rfl, hD, hKp⟩) rfl dX8_becomes_100
          · skip
            have hk60 : k < 60 := by omega
            refine g_aload_n E dX8_becomes_74 rfl 0 rfl ?_
            refine g_get E uX8_becomes_RX8 0 rfl rfl 14 (by decide) kX8_becomes_52 rfl rfl dX8_becomes_75 ?_
            refine g_iconst (v := (-1)) E dX8_becomes_78 (by decide) ?_
            refine g_icmp_ne (tgt := 96) E dX8_becomes_79 (by decide) (fun c8 => ?_) (fun c8 => ?_)
            · skip
              refine g_aload_n E dX8_becomes_96 rfl 0 rfl ?_
              refine g_get E uX8_becomes_RX8 0 rfl rfl 14 (by decide) kX8_becomes_52 rfl rfl dX8_becomes_97 ?_
              exact RET _ _ _ (qU (qU (qU (qU q 0 0) 1 (nI n)) 5 (nI c)) 6 ft, sg, rd, f, g, dy, kp, ik, tk) (gRefP_mk (k := 0) (A := ((n, sg), S, (c, H), sl)) (by rw [fBecomes, if_pos c1, nI_clamp (by omega)]; exact (if_neg (show ¬ 60 ≤ bk (sB S) j 0 - sN S 0 by omega)).trans (by rw [gBc_e hB (by omega) (Or.inl c8), xM])) rfl (fun _ => rfl) ⟨rfl, rfl, hRR, rfl, hD, hKp⟩) rfl dX8_becomes_100
            · skip
              have hft : ft = -1 := c8
              refine g_aload_n E dX8_becomes_82 rfl 0 rfl ?_
              refine g_aload_n E dX8_becomes_83 rfl 0 rfl ?_
              refine g_get E uX8_becomes_RX8 0 rfl rfl 8 (by decide) kX8_becomes_19 rfl rfl dX8_becomes_84 ?_
              refine g_callVV (F := [(m 1, .inl (gy G 0, 120, .inl sg)), (m 2, .inl (gy G 0, 271, .inl rd)), (m 3, .inl (gy G 0, 271, .inl f)), (m 5, .inl (gy G 0, 3794, .inl dy)), (m 6, .inl (gy G 0, 542, .inl kp)), (m 7, .inl (gy G 2, 2, .inl ik))]) E (mX8_dayIn G m (qU (qU (qU (qU q 0 0) 1 (nI n)) 5 (nI c)) 6 ft) (m 4) C g tk hB.1.1 (by have := hB.2.1; omega) hRg) gX8_becomes_X8_dayIn rfl hdX8_dayIn ⟨Nat.le_of_ble_eq_true rfl, Nat.le_of_ble_eq_true rfl⟩ 8 0 rfl rfl rfl (gPerm_ix [0, 8, 4, 1, 2, 3, 5, 6, 7] rfl rfl) rfl rfl (Nat.le_of_ble_eq_true rfl) dX8_becomes_87 ⟨Nat.le_of_ble_eq_true rfl, Nat.le_of_ble_eq_true rfl⟩ (fun u9 hU9 => ?_)
              obtain ⟨S9, xE9⟩ : ∃ x, x = gDay C := ⟨_, rfl⟩
              obtain ⟨hF9, hU9b⟩ := hU9
              have hRR9 : RR S9 u9.2.2 := by rw [xE9]; exact hU9b
              refine g_perm (ws1 := [(m 0, .inr (8, [.int 0, .ref (m 1), .int (nI n), .int (q 2), .int (q 3), .int (q 4), .ref (m 2), .ref (m 3), .ref (m 4), .ref (m 5), .int (nI c), .ref (m 6), .ref (m 7), .ref (m 8), .int u9.1, .int (q 7), .int (q 8)])), (m 1, .inl (gy G 0, 120, .inl sg)), (m 2, .inl (gy G 0, 271, .inl rd)), (m 3, .inl (gy G 0, 271, .inl f)), (m 4, .inl (gy G 0, 271, .inl u9.2.2)), (m 5, .inl (gy G 0, 3794, .inl dy)), (m 6, .inl (gy G 0, 542, .inl kp)), (m 7, .inl (gy G 2, 2, .inl ik)), (m 8, .inl (gy G 0, 10, .inl u9.2.1))]) (gPerm_ix [0, 3, 4, 5, 2, 6, 7, 8, 1] rfl rfl) ?_
              refine g_iinc (lv' := [(2, .int (nI (k + 1))), (0, .ref (m 0)), (1, .int (nI j))]) E dX8_becomes_90 2 rfl (g_inc _ 1 (by decide)) (by decide) rfl ?_
              refine g_goto (tgt := 68) E dX8_becomes_93 (by decide) ?_
              refine g_lv [1, 2, 0] rfl ?_
              exact ih5  (k + 1) (gDay C) _ _ _ (by omega) (by rw [hF9]; show gBcI M j (k + 1) (gDay C) (gDf C ft); rw [hft] at hB ⊢; exact gBc_st hB (by omega) (by omega)) (xE9 ▸ hRR9) (by omega)
      refine g_lv [1, 2, 0] rfl ?_
      exact loop3 _ 0 M (-1) _ _ (Nat.zero_le _) hB0 hRM (Nat.lt_succ_self _)
    · skip
      refine g_iconst (v := 2) E dX8_becomes_37 (by decide) ?_
      refine g_goto (tgt := 42) E dX8_becomes_38 (by decide) ?_
      refine g_callVIe (F := [(m 1, .inl (gy G 0, 120, .inl sg)), (m 2, .inl (gy G 0, 271, .inl rd)), (m 3, .inl (gy G 0, 271, .inl f)), (m 4, .inl (gy G 0, 271, .inl tr)), (m 5, .inl (gy G 0, 3794, .inl dy)), (m 6, .inl (gy G 0, 542, .inl kp)), (m 7, .inl (gy G 2, 2, .inl ik)), (m 8, .inl (gy G 0, 10, .inl tn))]) (ws2 := [(m 0, .inr (8, [.int 2, .ref (m 1), .int (nI n), .int (q 2), .int (q 3), .int (q 4), .ref (m 2), .ref (m 3), .ref (m 4), .ref (m 5), .int (nI c), .ref (m 6), .ref (m 7), .ref (m 8), .int (q 6), .int (q 7), .int (q 8)])), (m 1, .inl (gy G 0, 120, .inl sg)), (m 2, .inl (gy G 0, 271, .inl rd)), (m 3, .inl (gy G 0, 271, .inl f)), (m 4, .inl (gy G 0, 271, .inl tr)), (m 5, .inl (gy G 0, 3794, .inl dy)), (m 6, .inl (gy G 0, 542, .inl kp)), (m 7, .inl (gy G 2, 2, .inl ik)), (m 8, .inl (gy G 0, 10, .inl tn))]) E (mX8_refused G m (qU (qU q 1 (nI n)) 5 (nI c)) 2) gX8_becomes_X8_refused rfl hdX8_refused ⟨Nat.le_of_ble_eq_true rfl, Nat.le_of_ble_eq_true rfl⟩ 8 0 rfl rfl rfl (gPerm_ix [0, 1, 2, 3, 4, 5, 6, 7, 8] rfl rfl) rfl rfl (Nat.le_of_ble_eq_true rfl) dX8_becomes_42 ⟨Nat.le_of_ble_eq_true rfl, Nat.le_of_ble_eq_true rfl⟩ (gPerm_ix [0, 1, 2, 3, 4, 5, 6, 7, 8] rfl rfl) ?_
      refine g_if_eq (tgt := 50) E dX8_becomes_45 (by decide) (fun c => absurd c (by decide)) (fun _ => ?_)
      refine g_iconst (v := 0) E dX8_becomes_48 (by decide) ?_
      exact RET _ _ _ (qU (qU (qU q 0 2) 1 (nI n)) 5 (nI c), sg, rd, f, tr, dy, kp, ik, tn) (gRefP_mk (k := 2) (A := ((n, sg), S, (c, H), sl)) (by rw [fBecomes, if_pos c1, nI_clamp (by omega)]; exact if_pos (show 60 ≤ bk (sB S) j 0 - sN S 0 by omega)) rfl (fun e => absurd e (by decide)) ⟨rfl, rfl, hRR, rfl, hD, hKp⟩) rfl dX8_becomes_49
  · skip
    refine g_iconst (v := 1) E dX8_becomes_9 (by decide) ?_
    refine g_goto (tgt := 42) E dX8_becomes_10 (by decide) ?_
    refine g_callVIe (F := [(m 1, .inl (gy G 0, 120, .inl sg)), (m 2, .inl (gy G 0, 271, .inl rd)), (m 3, .inl (gy G 0, 271, .inl f)), (m 4, .inl (gy G 0, 271, .inl tr)), (m 5, .inl (gy G 0, 3794, .inl dy)), (m 6, .inl (gy G 0, 542, .inl kp)), (m 7, .inl (gy G 2, 2, .inl ik)), (m 8, .inl (gy G 0, 10, .inl tn))]) (ws2 := [(m 0, .inr (8, [.int 1, .ref (m 1), .int (nI n), .int (q 2), .int (q 3), .int (q 4), .ref (m 2), .ref (m 3), .ref (m 4), .ref (m 5), .int (nI c), .ref (m 6), .ref (m 7), .ref (m 8), .int (q 6), .int (q 7), .int (q 8)])), (m 1, .inl (gy G 0, 120, .inl sg)), (m 2, .inl (gy G 0, 271, .inl rd)), (m 3, .inl (gy G 0, 271, .inl f)), (m 4, .inl (gy G 0, 271, .inl tr)), (m 5, .inl (gy G 0, 3794, .inl dy)), (m 6, .inl (gy G 0, 542, .inl kp)), (m 7, .inl (gy G 2, 2, .inl ik)), (m 8, .inl (gy G 0, 10, .inl tn))]) E (mX8_refused G m (qU (qU q 1 (nI n)) 5 (nI c)) 1) gX8_becomes_X8_refused rfl hdX8_refused ⟨Nat.le_of_ble_eq_true rfl, Nat.le_of_ble_eq_true rfl⟩ 8 0 rfl rfl rfl (gPerm_ix [0, 1, 2, 3, 4, 5, 6, 7, 8] rfl rfl) rfl rfl (Nat.le_of_ble_eq_true rfl) dX8_becomes_42 ⟨Nat.le_of_ble_eq_true rfl, Nat.le_of_ble_eq_true rfl⟩ (gPerm_ix [0, 1, 2, 3, 4, 5, 6, 7, 8] rfl rfl) ?_
    refine g_if_eq (tgt := 50) E dX8_becomes_45 (by decide) (fun c => absurd c (by decide)) (fun _ => ?_)
    refine g_iconst (v := 0) E dX8_becomes_48 (by decide) ?_
    exact RET _ _ _ (qU (qU (qU q 0 1) 1 (nI n)) 5 (nI c), sg, rd, f, tr, dy, kp, ik, tn) (gRefP_mk (k := 1) (A := ((n, sg), S, (c, H), sl)) (by rw [fBecomes, if_neg c1]) rfl (fun e => absurd e (by decide)) ⟨rfl, rfl, hRR, rfl, hD, hKp⟩) rfl dX8_becomes_49
