set_option maxHeartbeats 4000000 in
set_option maxRecDepth 100000 in
theorem mL_kept {G : gG} {b : Nat} (hST : (gl G).stackTraces = false) (hb : b ≤ 9000) {x : gVa} {u : gVu} {A : gA} (hA : gAok b A) (hX : gX5 A) (hC : gClsI A u)   : CI G yL_kept wsL_kept 14 355 [.ref (x.1 0)] (wV G x u) (fun (r : Int32) (w : gVu) => r = 1 ∧ gClsI A w) (fun w : gVu => wV G x w) 25000 400000 := by
  refine g_enterI (ty := .boolean) RL rfl (by decide) rfl (Nat.le_of_ble_eq_true rfl) ?_
  intro V E RET
  have hb5 : b ≤ 50000 := by omega
  have h8 : sN (aS A) 1 ≤ 8 := hA.2.1.1.1.1.1
  have hn24 : (sB (aS A)).length ≤ 24 := hA.2.1.1.1.1.2.1
  have hT : sN (aS A) 0 ≤ b := hA.2.1.2.2
  have hng : gNg (aS A) := hA.2.1.1.2.1
  have hI2 : gI2 (aS A) := hA.2.1.1.1
  have hfi : ∀ k, k < (sB (aS A)).length → bk (sB (aS A)) k 1 < 8 ∧ bk (sB (aS A)) k 2 < 4 ∧ sN (aS A) 0 ≤ bk (sB (aS A)) k 0 ∧ (bk (sB (aS A)) k 0 ≤ 9999 ∨ bk (sB (aS A)) k 0 ≤ sN (aS A) 0 + 6) ∧ bk (sB (aS A)) k 5 < 60 ∧ bk (sB (aS A)) k 6 < 2 := hI2.2.2.1
  have hbk : ∀ k, k < (sB (aS A)).length → bk (sB (aS A)) k 3 < sN (aS A) 1 ∧ bk (sB (aS A)) k 4 < 10 := hI2.1.2.2.2.2.2.2.2.2.2.2
  have hwi : ∀ j, j < (sW (aS A)).length → wq (sW (aS A)) j < 80 ∧ wq (sW (aS A)) j / 10 < sN (aS A) 1 := hI2.1.2.2.2.1
  have hW10 : (sW (aS A)).length ≤ 10 := hI2.1.2.2.1
  have hsk : ∀ v, v < 10 → sI (aS A) 6 v = 0 ∨ sI (aS A) 6 v = 1 ∨ sI (aS A) 6 v = 2 := hI2.2.2.2.1
  have hso : gSo (sB (aS A)) := hI2.2.1
  have hzp : gZp (aS A) := hI2.2.2.2.2.1
  obtain ⟨hap, hrk, hhr, nc, nf, nw, hn8, hn9, hnb, hnp, hns⟩ := hX.1
  have hn3 : ∀ p, p < 8 → sI (aS A) 3 p = nI (nf p) := fun p hp => (hnp p hp).1
  have hn4 : ∀ p, p < 8 → sI (aS A) 4 p = nI (nw p) := fun p hp => (hnp p hp).2.1
  have hnw : ∀ p, p < 8 → nw p ≤ nf p := fun p hp => (hnp p hp).2.2
  have hnf : ∀ p, p < 8 → nf p ≤ 24 * b := fun p hp => by have := gSum_le (f := nf) hp; omega
  have hHs : gSum nf (sN (aS A) 1) = nc 0 := gSt8 hzp h8 hn3 (fun p hp => by have := hnf p hp; omega) hns
  have hBs : gSum (fun p => gCnt (fun k => bk (sB (aS A)) k 3 == p) (sB (aS A)).length) (sN (aS A) 1) = (sB (aS A)).length := gCnt_sum (fun k hk => (hbk k hk).1)
  have hVs : gSum (fun v => gCnt (fun k => bk (sB (aS A)) k 4 == v) (sB (aS A)).length) 10 = (sB (aS A)).length := gCnt_sum (fun k hk => (hbk k hk).2)
  have hWs : gSum (fun p => gCnt (fun i => wq (sW (aS A)) i / 10 == p) (sW (aS A)).length) (sN (aS A) 1) = (sW (aS A)).length := gCnt_sum (g := fun i => wq (sW (aS A)) i / 10) (fun k hk => (hwi k hk).2)
  have hLs : gCnt (fun j => decide (nI (sN (aS A) 0) < sI (aS A) 2 j)) (sN (aS A) 1) = gCnt (fun j => decide (nI (sN (aS A) 0) < sI (aS A) 2 j)) 8 := gLost_all hzp h8 (by omega)
  refine g_aload_n E dL_kept_0 rfl 0 rfl ?_
  refine g_iconst (v := 0) E dL_kept_1 (by decide) ?_
  refine g_callSWL (As := [.ref (x.1 0), .int 0]) (F := []) E (wL_about (x := x) hST hA hb5 hC (0 : Int32)) gL_kept_L_about rfl hdL_about ⟨Nat.le_of_ble_eq_true rfl, Nat.le_of_ble_eq_true rfl⟩ gPerm_n rfl rfl ?_ dL_kept_2 ⟨by show 0 + 1 ≤ 25000; omega, by show 0 + 6 ≤ 400000; omega⟩ (fun rq1 uq1 hq1 => ?_)
  · exact Nat.le_of_ble_eq_true rfl
  refine g_perm (ws1 := wV G x uq1) gPerm_n' ?_
  obtain ⟨eq1, hCq1⟩ := hq1
  rw [show fAbout A (0 : Int32) = _ from fAbout_0 (A := A)] at eq1 hCq1
  refine g_topL (y := (nI (sN (aS A) 1)).toInt64) (eq1.trans (gCd_a rfl)) ?_
  refine g_l2i (v := nI (sN (aS A) 1)) E dL_kept_5 (gL2I _) ?_
  refine g_istore_n (lv' := [(1, .int (nI (sN (aS A) 1))), (0, .ref (x.1 0))]) E dL_kept_6 rfl (by decide) rfl ?_
  refine g_aload_n E dL_kept_7 rfl 1 rfl ?_
  refine g_iconst (v := 2) E dL_kept_8 (by decide) ?_
  refine g_callSWL (As := [.ref (x.1 0), .int 2]) (F := []) E (wL_about (x := x) hST hA hb5 hCq1 (2 : Int32)) gL_kept_L_about rfl hdL_about ⟨Nat.le_of_ble_eq_true rfl, Nat.le_of_ble_eq_true rfl⟩ gPerm_n rfl rfl ?_ dL_kept_9 ⟨by show 1 + 1 ≤ 25000; omega, by show 6 + 6 ≤ 400000; omega⟩ (fun rq2 uq2 hq2 => ?_)
  · exact Nat.le_of_ble_eq_true rfl
  refine g_perm (ws1 := wV G x uq2) gPerm_n' ?_
  obtain ⟨eq2, hCq2⟩ := hq2
  rw [show fAbout A (2 : Int32) = _ from fAbout_2 (A := A)] at eq2 hCq2
  refine g_topL (y := (nI (sB (aS A)).length).toInt64) (eq2.trans (gCd_a rfl)) ?_
  refine g_l2i (v := nI ((sB (aS A)).length)) E dL_kept_12 (gL2I _) ?_
  refine g_istore_n (lv' := [(2, .int (nI ((sB (aS A)).length))), (1, .int (nI (sN (aS A) 1))), (0, .ref (x.1 0))]) E dL_kept_13 rfl (by decide) rfl ?_
  refine g_aload_n E dL_kept_14 rfl 2 rfl ?_
  refine g_iconst (v := 1) E dL_kept_15 (by decide) ?_
  refine g_callSWL (As := [.ref (x.1 0), .int 1]) (F := []) E (wL_about (x := x) hST hA hb5 hCq2 (1 : Int32)) gL_kept_L_about rfl hdL_about ⟨Nat.le_of_ble_eq_true rfl, Nat.le_of_ble_eq_true rfl⟩ gPerm_n rfl rfl ?_ dL_kept_16 ⟨by show 2 + 1 ≤ 25000; omega, by show 12 + 6 ≤ 400000; omega⟩ (fun rq3 uq3 hq3 => ?_)
  · exact Nat.le_of_ble_eq_true rfl
  refine g_perm (ws1 := wV G x uq3) gPerm_n' ?_
  obtain ⟨eq3, hCq3⟩ := hq3
  rw [show fAbout A (1 : Int32) = _ from fAbout_1 (A := A)] at eq3 hCq3
  refine g_topL (y := (nI (sN (aS A) 0)).toInt64) (eq3.trans (gCd_a rfl)) ?_
  refine g_lstore_n (lv' := [(3, .long ((nI (sN (aS A) 0)).toInt64)), (2, .int (nI ((sB (aS A)).length))), (1, .int (nI (sN (aS A) 1))), (0, .ref (x.1 0))]) E dL_kept_19 rfl (by decide) rfl ?_
  refine g_iload_n E dL_kept_20 rfl 2 rfl ?_
  refine g_i2l (v := (nI (sN (aS A) 1)).toInt64) E dL_kept_21 rfl ?_
  refine g_lconst (v := 0) E dL_kept_22 (by decide) ?_
  refine g_ldc2 (v := 8) E kL_kept_202 dL_kept_23 ?_
  refine g_callSI (As := [.long ((nI (sN (aS A) 1)).toInt64), .long 0, .long 8]) (F := wV G x uq3) E (mL_in ((nI (sN (aS A) 1)).toInt64) (0 : Int64) (8 : Int64)) gL_kept_L_in rfl hdL_in ⟨Nat.le_of_ble_eq_true rfl, Nat.le_of_ble_eq_true rfl⟩ (gPerm_rfl _) rfl rfl ?_ dL_kept_26 ⟨by show 3 + 0 ≤ 25000; omega, by show 18 + 0 ≤ 400000; omega⟩ (fun rq4 uq4 hq4 => ?_)
  · exact Nat.le_of_ble_eq_true rfl
  refine g_ws (ws' := wV G x uq3) rfl ?_
  refine g_top (y := 1) (hq4.trans (if_pos (in64 (l := 0) (h := 8) rfl rfl (Nat.zero_le _) h8 (by decide)))) ?_
  refine g_if_eq (tgt := 83) E dL_kept_29 (by decide) (fun c => absurd c (by decide)) (fun _ => ?_)
  refine g_iload_n E dL_kept_32 rfl 1 rfl ?_
  refine g_i2l (v := (nI ((sB (aS A)).length)).toInt64) E dL_kept_33 rfl ?_
  refine g_lconst (v := 0) E dL_kept_34 (by decide) ?_
  refine g_ldc2 (v := 24) E kL_kept_208 dL_kept_35 ?_
  refine g_callSI (As := [.long ((nI ((sB (aS A)).length)).toInt64), .long 0, .long 24]) (F := wV G x uq3) E (mL_in ((nI ((sB (aS A)).length)).toInt64) (0 : Int64) (24 : Int64)) gL_kept_L_in rfl hdL_in ⟨Nat.le_of_ble_eq_true rfl, Nat.le_of_ble_eq_true rfl⟩ (gPerm_rfl _) rfl rfl ?_ dL_kept_38 ⟨by show 3 + 0 ≤ 25000; omega, by show 18 + 0 ≤ 400000; omega⟩ (fun rq5 uq5 hq5 => ?_)
  · exact Nat.le_of_ble_eq_true rfl
  refine g_ws (ws' := wV G x uq3) rfl ?_
  refine g_top (y := 1) (hq5.trans (if_pos (in64 (l := 0) (h := 24) rfl rfl (Nat.zero_le _) hn24 (by decide)))) ?_
  refine g_if_eq (tgt := 83) E dL_kept_41 (by decide) (fun c => absurd c (by decide)) (fun _ => ?_)
  refine g_aload_n E dL_kept_44 rfl 3 rfl ?_
  refine g_bipush (v := 8) E dL_kept_45 (by decide) ?_
  refine g_callSWL (As := [.ref (x.1 0), .int 8]) (F := []) E (wL_about (x := x) hST hA hb5 hCq3 (8 : Int32)) gL_kept_L_about rfl hdL_about ⟨Nat.le_of_ble_eq_true rfl, Nat.le_of_ble_eq_true rfl⟩ gPerm_n rfl rfl ?_ dL_kept_47 ⟨by show 3 + 1 ≤ 25000; omega, by show 18 + 6 ≤ 400000; omega⟩ (fun rq6 uq6 hq6 => ?_)
  · exact Nat.le_of_ble_eq_true rfl
  refine g_perm (ws1 := wV G x uq6) gPerm_n' ?_
  obtain ⟨eq6, hCq6⟩ := hq6
  rw [show fAbout A (8 : Int32) = _ from fAb_8 (A := A) (hn8 4 (by decide))] at eq6 hCq6
  refine g_topL (y := (nI (nc 4)).toInt64) (eq6.trans (gCd_a rfl)) ?_
  refine g_aload_n E dL_kept_50 rfl 3 rfl ?_
  refine g_iconst (v := 4) E dL_kept_51 (by decide) ?_
  refine g_callSWL (As := [.ref (x.1 0), .int 4]) (F := []) E (wL_about (x := x) hST hA hb5 hCq6 (4 : Int32)) gL_kept_L_about rfl hdL_about ⟨Nat.le_of_ble_eq_true rfl, Nat.le_of_ble_eq_true rfl⟩ gPerm_n rfl rfl ?_ dL_kept_52 ⟨by show 4 + 1 ≤ 25000; omega, by show 24 + 6 ≤ 400000; omega⟩ (fun rq7 uq7 hq7 => ?_)
  · exact Nat.le_of_ble_eq_true rfl
  refine g_perm (ws1 := wV G x uq7) gPerm_n' ?_
  obtain ⟨eq7, hCq7⟩ := hq7
  rw [show fAbout A (4 : Int32) = _ from fAb_4 (A := A) (hn8 0 (by decide))] at eq7 hCq7
  refine g_topL (y := (nI (nc 0)).toInt64) (eq7.trans (gCd_a rfl)) ?_
  refine g_aload_n E dL_kept_55 rfl 3 rfl ?_
  refine g_iconst (v := 5) E dL_kept_56 (by decide) ?_
  refine g_callSWL (As := [.ref (x.1 0), .int 5]) (F := []) E (wL_about (x := x) hST hA hb5 hCq7 (5 : Int32)) gL_kept_L_about rfl hdL_about ⟨Nat.le_of_ble_eq_true rfl, Nat.le_of_ble_eq_true rfl⟩ gPerm_n rfl rfl ?_ dL_kept_57 ⟨by show 5 + 1 ≤ 25000; omega, by show 30 + 6 ≤ 400000; omega⟩ (fun rq8 uq8 hq8 => ?_)
  · exact Nat.le_of_ble_eq_true rfl
  refine g_perm (ws1 := wV G x uq8) gPerm_n' ?_
  obtain ⟨eq8, hCq8⟩ := hq8
  rw [show fAbout A (5 : Int32) = _ from fAb_5 (A := A) (hn8 1 (by decide))] at eq8 hCq8
  refine g_topL (y := (nI (nc 1)).toInt64) (eq8.trans (gCd_a rfl)) ?_
  refine g_ladd E dL_kept_60 ?_
  refine g_aload_n E dL_kept_61 rfl 3 rfl ?_
  refine g_bipush (v := 6) E dL_kept_62 (by decide) ?_
  refine g_callSWL (As := [.ref (x.1 0), .int 6]) (F := []) E (wL_about (x := x) hST hA hb5 hCq8 (6 : Int32)) gL_kept_L_about rfl hdL_about ⟨Nat.le_of_ble_eq_true rfl, Nat.le_of_ble_eq_true rfl⟩ gPerm_n rfl rfl ?_ dL_kept_64 ⟨by show 6 + 1 ≤ 25000; omega, by show 36 + 6 ≤ 400000; omega⟩ (fun rq9 uq9 hq9 => ?_)
  · exact Nat.le_of_ble_eq_true rfl
  refine g_perm (ws1 := wV G x uq9) gPerm_n' ?_
  obtain ⟨eq9, hCq9⟩ := hq9
  rw [show fAbout A (6 : Int32) = _ from fAb_6 (A := A) (hn8 2 (by decide))] at eq9 hCq9
  refine g_topL (y := (nI (nc 2)).toInt64) (eq9.trans (gCd_a rfl)) ?_
  refine g_ladd E dL_kept_67 ?_
  refine g_aload_n E dL_kept_68 rfl 3 rfl ?_
  refine g_bipush (v := 7) E dL_kept_69 (by decide) ?_
  refine g_callSWL (As := [.ref (x.1 0), .int 7]) (F := []) E (wL_about (x := x) hST hA hb5 hCq9 (7 : Int32)) gL_kept_L_about rfl hdL_about ⟨Nat.le_of_ble_eq_true rfl, Nat.le_of_ble_eq_true rfl⟩ gPerm_n rfl rfl ?_ dL_kept_71 ⟨by show 7 + 1 ≤ 25000; omega, by show 42 + 6 ≤ 400000; omega⟩ (fun rq10 uq10 hq10 => ?_)
  · exact Nat.le_of_ble_eq_true rfl
  refine g_perm (ws1 := wV G x uq10) gPerm_n' ?_
  obtain ⟨eq10, hCq10⟩ := hq10
  rw [show fAbout A (7 : Int32) = _ from fAb_7 (A := A) (hn8 3 (by decide))] at eq10 hCq10
  refine g_topL (y := (nI (nc 3)).toInt64) (eq10.trans (gCd_a rfl)) ?_
  refine g_ladd E dL_kept_74 ?_
  refine g_lcmp E dL_kept_75 ?_
  refine g_if_ne (tgt := 83) E dL_kept_76 (by decide) (fun c => absurd (gCmp_eq.mpr (by rw [gI64 (nc 0) (by omega), gI64 (nc 1) (by omega), gI64 (nc 2) (by omega), gI64 (nc 3) (by omega), gI64 (nc 4) (by omega), ← Int64.ofNat_add, ← Int64.ofNat_add, ← Int64.ofNat_add, hn9])) c) (fun _ => ?_)
  refine g_iconst (v := 1) E dL_kept_79 (by decide) ?_
  refine g_goto (tgt := 84) E dL_kept_80 (by decide) ?_
  refine g_istore (lv' := [(5, .int 1), (3, .long ((nI (sN (aS A) 0)).toInt64)), (2, .int (nI ((sB (aS A)).length))), (1, .int (nI (sN (aS A) 1))), (0, .ref (x.1 0))]) E dL_kept_84 (by decide) rfl ?_
  refine g_lconst (v := 0) E dL_kept_86 (by decide) ?_
  refine g_lstore (lv' := [(6, .long 0), (5, .int 1), (3, .long ((nI (sN (aS A) 0)).toInt64)), (2, .int (nI ((sB (aS A)).length))), (1, .int (nI (sN (aS A) 1))), (0, .ref (x.1 0))]) E dL_kept_87 (by decide) rfl ?_
  refine g_lconst (v := 0) E dL_kept_89 (by decide) ?_
  refine g_lstore (lv' := [(8, .long 0), (6, .long 0), (5, .int 1), (3, .long ((nI (sN (aS A) 0)).toInt64)), (2, .int (nI ((sB (aS A)).length))), (1, .int (nI (sN (aS A) 1))), (0, .ref (x.1 0))]) E dL_kept_90 (by decide) rfl ?_
  refine g_lconst (v := 0) E dL_kept_92 (by decide) ?_
  refine g_lstore (lv' := [(10, .long 0), (8, .long 0), (6, .long 0), (5, .int 1), (3, .long ((nI (sN (aS A) 0)).toInt64)), (2, .int (nI ((sB (aS A)).length))), (1, .int (nI (sN (aS A) 1))), (0, .ref (x.1 0))]) E dL_kept_93 (by decide) rfl ?_
  refine g_lconst (v := 0) E dL_kept_95 (by decide) ?_
  refine g_lstore (lv' := [(12, .long 0), (10, .long 0), (8, .long 0), (6, .long 0), (5, .int 1), (3, .long ((nI (sN (aS A) 0)).toInt64)), (2, .int (nI ((sB (aS A)).length))), (1, .int (nI (sN (aS A) 1))), (0, .ref (x.1 0))]) E dL_kept_96 (by decide) rfl ?_
  refine g_iconst (v := 0) E dL_kept_98 (by decide) ?_
  refine g_istore (lv' := [(14, .int 0), (12, .long 0), (10, .long 0), (8, .long 0), (6, .long 0), (5, .int 1), (3, .long ((nI (sN (aS A) 0)).toInt64)), (2, .int (nI ((sB (aS A)).length))), (1, .int (nI (sN (aS A) 1))), (0, .ref (x.1 0))]) E dL_kept_99 (by decide) rfl ?_
  have loop11 : ∀ (n12 : Nat) (kp : Nat) (up : gVu) (csp : Nat) (ssp : Nat), (kp ≤ sN (aS A) 1) → (gClsI A up) → (csp ≤ 8 + 60 * kp) → (ssp ≤ 48 + 360 * kp) → sN (aS A) 1 - kp < n12 → gW V 28 csp ssp (wV G x up) [(0, .ref (x.1 0)), (1, .int (nI (sN (aS A) 1))), (2, .int (nI ((sB (aS A)).length))), (3, .long ((nI (sN (aS A) 0)).toInt64)), (5, .int 1), (6, .long (Int64.ofNat (gSum nf kp))), (8, .long (Int64.ofNat (gSum (fun p => gCnt (fun k => bk (sB (aS A)) k 3 == p) (sB (aS A)).length) kp))), (10, .long (Int64.ofNat (gSum (fun p => gCnt (fun i => wq (sW (aS A)) i / 10 == p) (sW (aS A)).length) kp))), (12, .long (Int64.ofNat (gCnt (fun j => decide (nI (sN (aS A) 0) < sI (aS A) 2 j)) kp))), (14, .int (nI kp))] 101 [] := by
    intro n12
    induction n12 with
    | zero => intro kp up csp ssp hkp hCp hcp hsp hm14; exact absurd hm14 (Nat.not_lt_zero _)
    | succ n12 ih13 =>
      intro kp up csp ssp hkp hCp hcp hsp hm14
      refine g_iload E dL_kept_101 9 rfl ?_
      refine g_iload_n E dL_kept_103 rfl 1 rfl ?_
      refine g_icmp_geN (tgt := 361) (a := kp) (b := sN (aS A) 1) E dL_kept_104 (by decide) (by omega) (by omega) (fun c15 => ?_) (fun c15 => ?_)
      · skip
        obtain rfl : kp = sN (aS A) 1 := by omega
        refine g_lconst (v := 0) E dL_kept_361 (by decide) ?_
        refine g_lstore (lv' := [(14, .long 0), (0, .ref (x.1 0)), (1, .int (nI (sN (aS A) 1))), (2, .int (nI ((sB (aS A)).length))), (3, .long ((nI (sN (aS A) 0)).toInt64)), (5, .int 1), (6, .long (Int64.ofNat (gSum nf (sN (aS A) 1)))), (8, .long (Int64.ofNat (gSum (fun p => gCnt (fun k => bk (sB (aS A)) k 3 == p) (sB (aS A)).length) (sN (aS A) 1)))), (10, .long (Int64.ofNat (gSum (fun p => gCnt (fun i => wq (sW (aS A)) i / 10 == p) (sW (aS A)).length) (sN (aS A) 1)))), (12, .long (Int64.ofNat (gCnt (fun j => decide (nI (sN (aS A) 0) < sI (aS A) 2 j)) (sN (aS A) 1))))]) E dL_kept_362 (by decide) rfl ?_
        refine g_lconst (v := 0) E dL_kept_364 (by decide) ?_
        refine g_lstore (lv' := [(16, .long 0), (14, .long 0), (0, .ref (x.1 0)), (1, .int (nI (sN (aS A) 1))), (2, .int (nI ((sB (aS A)).length))), (3, .long ((nI (sN (aS A) 0)).toInt64)), (5, .int 1), (6, .long (Int64.ofNat (gSum nf (sN (aS A) 1)))), (8, .long (Int64.ofNat (gSum (fun p => gCnt (fun k => bk (sB (aS A)) k 3 == p) (sB (aS A)).length) (sN (aS A) 1)))), (10, .long (Int64.ofNat (gSum (fun p => gCnt (fun i => wq (sW (aS A)) i / 10 == p) (sW (aS A)).length) (sN (aS A) 1)))), (12, .long (Int64.ofNat (gCnt (fun j => decide (nI (sN (aS A) 0) < sI (aS A) 2 j)) (sN (aS A) 1))))]) E dL_kept_365 (by decide) rfl ?_
        refine g_iconst (v := 0) E dL_kept_367 (by decide) ?_
        refine g_istore (lv' := [(18, .int 0), (16, .long 0), (14, .long 0), (0, .ref (x.1 0)), (1, .int (nI (sN (aS A) 1))), (2, .int (nI ((sB (aS A)).length))), (3, .long ((nI (sN (aS A) 0)).toInt64)), (5, .int 1), (6, .long (Int64.ofNat (gSum nf (sN (aS A) 1)))), (8, .long (Int64.ofNat (gSum (fun p => gCnt (fun k => bk (sB (aS A)) k 3 == p) (sB (aS A)).length) (sN (aS A) 1)))), (10, .long (Int64.ofNat (gSum (fun p => gCnt (fun i => wq (sW (aS A)) i / 10 == p) (sW (aS A)).length) (sN (aS A) 1)))), (12, .long (Int64.ofNat (gCnt (fun j => decide (nI (sN (aS A) 0) < sI (aS A) 2 j)) (sN (aS A) 1))))]) E dL_kept_368 (by decide) rfl ?_
        have loop16 : ∀ (n17 : Nat) (kv : Nat) (uv : gVu) (csv : Nat) (ssv : Nat), (kv ≤ 10) → (gClsI A uv) → (csv ≤ csp + 4 * kv) → (ssv ≤ ssp + 24 * kv) → 10 - kv < n17 → gW V 28 csv ssv (wV G x uv) [(0, .ref (x.1 0)), (1, .int (nI (sN (aS A) 1))), (2, .int (nI ((sB (aS A)).length))), (3, .long ((nI (sN (aS A) 0)).toInt64)), (5, .int 1), (6, .long (Int64.ofNat (gSum nf (sN (aS A) 1)))), (8, .long (Int64.ofNat (gSum (fun p => gCnt (fun k => bk (sB (aS A)) k 3 == p) (sB (aS A)).length) (sN (aS A) 1)))), (10, .long (Int64.ofNat (gSum (fun p => gCnt (fun i => wq (sW (aS A)) i / 10 == p) (sW (aS A)).length) (sN (aS A) 1)))), (12, .long (Int64.ofNat (gCnt (fun j => decide (nI (sN (aS A) 0) < sI (aS A) 2 j)) (sN (aS A) 1)))), (14, .long (Int64.ofNat (gSum (fun v => gCnt (fun k => bk (sB (aS A)) k 4 == v) (sB (aS A)).length) kv))), (16, .long (Int64.ofNat (gCnt (fun j => decide (nI (sN (aS A) 0) < sI (aS A) 7 j)) kv))), (18, .int (nI kv))] 370 [] := by
          intro n17
          induction n17 with
          | zero => intro kv uv csv ssv hkv hCv hcv hsv hm19; exact absurd hm19 (Nat.not_lt_zero _)
          | succ n17 ih18 =>
            intro kv uv csv ssv hkv hCv hcv hsv hm19
            refine g_iload E dL_kept_370 11 rfl ?_
            refine g_bipush (v := 10) E dL_kept_372 (by decide) ?_
            refine g_icmp_geN (tgt := 461) (a := kv) (b := 10) E dL_kept_374 (by decide) (by omega) (by omega) (fun c20 => ?_) (fun c20 => ?_)
            · skip
              obtain rfl : kv = 10 := by omega
              refine g_iconst (v := 0) E dL_kept_461 (by decide) ?_
              refine g_istore (lv' := [(18, .int 0), (0, .ref (x.1 0)), (1, .int (nI (sN (aS A) 1))), (2, .int (nI ((sB (aS A)).length))), (3, .long ((nI (sN (aS A) 0)).toInt64)), (5, .int 1), (6, .long (Int64.ofNat (gSum nf (sN (aS A) 1)))), (8, .long (Int64.ofNat (gSum (fun p => gCnt (fun k => bk (sB (aS A)) k 3 == p) (sB (aS A)).length) (sN (aS A) 1)))), (10, .long (Int64.ofNat (gSum (fun p => gCnt (fun i => wq (sW (aS A)) i / 10 == p) (sW (aS A)).length) (sN (aS A) 1)))), (12, .long (Int64.ofNat (gCnt (fun j => decide (nI (sN (aS A) 0) < sI (aS A) 2 j)) (sN (aS A) 1)))), (14, .long (Int64.ofNat (gSum (fun v => gCnt (fun k => bk (sB (aS A)) k 4 == v) (sB (aS A)).length) 10))), (16, .long (Int64.ofNat (gCnt (fun j => decide (nI (sN (aS A) 0) < sI (aS A) 7 j)) 10)))]) E dL_kept_462 (by decide) rfl ?_
              have loop21 : ∀ (n22 : Nat) (kb : Nat) (ub : gVu) (csb : Nat) (ssb : Nat), (kb ≤ (sB (aS A)).length) → (gClsI A ub) → (csb ≤ csv + 900 * kb) → (ssb ≤ ssv + 15000 * kb) → (sB (aS A)).length - kb < n22 → gW V 28 csb ssb (wV G x ub) [(0, .ref (x.1 0)), (1, .int (nI (sN (aS A) 1))), (2, .int (nI ((sB (aS A)).length))), (3, .long ((nI (sN (aS A) 0)).toInt64)), (5, .int 1), (6, .long (Int64.ofNat (gSum nf (sN (aS A) 1)))), (8, .long (Int64.ofNat (gSum (fun p => gCnt (fun k => bk (sB (aS A)) k 3 == p) (sB (aS A)).length) (sN (aS A) 1)))), (10, .long (Int64.ofNat (gSum (fun p => gCnt (fun i => wq (sW (aS A)) i / 10 == p) (sW (aS A)).length) (sN (aS A) 1)))), (12, .long (Int64.ofNat (gCnt (fun j => decide (nI (sN (aS A) 0) < sI (aS A) 2 j)) (sN (aS A) 1)))), (14, .long (Int64.ofNat (gSum (fun v => gCnt (fun k => bk (sB (aS A)) k 4 == v) (sB (aS A)).length) 10))), (16, .long (Int64.ofNat (gCnt (fun j => decide (nI (sN (aS A) 0) < sI (aS A) 7 j)) 10))), (18, .int (nI kb))] 464 [] := by
                intro n22
                induction n22 with
                | zero => intro kb ub csb ssb hkb hCb hcb hsb hm24; exact absurd hm24 (Nat.not_lt_zero _)
                | succ n22 ih23 =>
                  intro kb ub csb ssb hkb hCb hcb hsb hm24
                  refine g_iload E dL_kept_464 11 rfl ?_
                  refine g_iload_n E dL_kept_466 rfl 2 rfl ?_
                  refine g_icmp_geN (tgt := 1231) (a := kb) (b := (sB (aS A)).length) E dL_kept_467 (by decide) (by omega) (by omega) (fun c25 => ?_) (fun c25 => ?_)
                  · skip
                    obtain rfl : kb = (sB (aS A)).length := by omega
                    refine g_iconst (v := 1) E dL_kept_1231 (by decide) ?_
                    refine g_istore (lv' := [(18, .int 1), (0, .ref (x.1 0)), (1, .int (nI (sN (aS A) 1))), (2, .int (nI ((sB (aS A)).length))), (3, .long ((nI (sN (aS A) 0)).toInt64)), (5, .int 1), (6, .long (Int64.ofNat (gSum nf (sN (aS A) 1)))), (8, .long (Int64.ofNat (gSum (fun p => gCnt (fun k => bk (sB (aS A)) k 3 == p) (sB (aS A)).length) (sN (aS A) 1)))), (10, .long (Int64.ofNat (gSum (fun p => gCnt (fun i => wq (sW (aS A)) i / 10 == p) (sW (aS A)).length) (sN (aS A) 1)))), (12, .long (Int64.ofNat (gCnt (fun j => decide (nI (sN (aS A) 0) < sI (aS A) 2 j)) (sN (aS A) 1)))), (14, .long (Int64.ofNat (gSum (fun v => gCnt (fun k => bk (sB (aS A)) k 4 == v) (sB (aS A)).length) 10))), (16, .long (Int64.ofNat (gCnt (fun j => decide (nI (sN (aS A) 0) < sI (aS A) 7 j)) 10)))]) E dL_kept_1232 (by decide) rfl ?_
                    have loop26 : ∀ (n27 : Nat) (kz : Nat) (uz : gVu) (csz : Nat) (ssz : Nat), (kz ≤ 10) → (gClsI A uz) → (csz ≤ csb + 4 * kz) → (ssz ≤ ssb + 24 * kz) → 10 - kz < n27 → gW V 28 csz ssz (wV G x uz) [(0, .ref (x.1 0)), (1, .int (nI (sN (aS A) 1))), (2, .int (nI ((sB (aS A)).length))), (3, .long ((nI (sN (aS A) 0)).toInt64)), (5, .int 1), (6, .long (Int64.ofNat (gSum nf (sN (aS A) 1)))), (8, .long (Int64.ofNat (gSum (fun p => gCnt (fun k => bk (sB (aS A)) k 3 == p) (sB (aS A)).length) (sN (aS A) 1)))), (10, .long (Int64.ofNat (gSum (fun p => gCnt (fun i => wq (sW (aS A)) i / 10 == p) (sW (aS A)).length) (sN (aS A) 1)))), (12, .long (Int64.ofNat (gCnt (fun j => decide (nI (sN (aS A) 0) < sI (aS A) 2 j)) (sN (aS A) 1)))), (14, .long (Int64.ofNat (gSum (fun v => gCnt (fun k => bk (sB (aS A)) k 4 == v) (sB (aS A)).length) 10))), (16, .long (Int64.ofNat (gCnt (fun j => decide (nI (sN (aS A) 0) < sI (aS A) 7 j)) 10))), (18, .int (nI (kz + 1)))] 1234 [] := by
                      intro n27
                      induction n27 with
                      | zero => intro kz uz csz ssz hkz hCz hcz hsz hm29; exact absurd hm29 (Nat.not_lt_zero _)
                      | succ n27 ih28 =>
                        intro kz uz csz ssz hkz hCz hcz hsz hm29
                        refine g_iload E dL_kept_1234 11 rfl ?_
                        refine g_i2l (v := (nI (kz + 1)).toInt64) E dL_kept_1236 rfl ?_
                        refine g_lload E dL_kept_1237 7 rfl ?_
                        refine g_lcmp E dL_kept_1239 ?_
                        refine g_if_ge (tgt := 1297) E dL_kept_1240 (by decide) (fun c30 => ?_) (fun c30 => ?_)
                        · skip
                          have hwe : ¬ kz + 1 < (sW (aS A)).length := fun q => gCmp_ge c30 (by rw [gI64 _ (by omega), ofNat_lt64 (by omega) (by omega), hWs]; exact q)
                          refine g_iload E dL_kept_1297 4 rfl ?_
                          refine g_if_eq (tgt := 1382) E dL_kept_1299 (by decide) (fun c => absurd c (by decide)) (fun _ => ?_)
                          refine g_lload E dL_kept_1302 5 rfl ?_
                          refine g_aload_n E dL_kept_1304 rfl 0 rfl ?_
                          refine g_iconst (v := 4) E dL_kept_1305 (by decide) ?_
                          refine g_callSWL (As := [.ref (x.1 0), .int 4]) (F := []) E (wL_about (x := x) hST hA hb5 hCz (4 : Int32)) gL_kept_L_about rfl hdL_about ⟨Nat.le_of_ble_eq_true rfl, Nat.le_of_ble_eq_true rfl⟩ gPerm_n rfl rfl ?_ dL_kept_1306 ⟨by show csz + 1 ≤ 25000; omega, by show ssz + 6 ≤ 400000; omega⟩ (fun rq31 uq31 hq31 => ?_)
                          · exact Nat.le_of_ble_eq_true rfl
                          refine g_perm (ws1 := wV G x uq31) gPerm_n' ?_
                          obtain ⟨eq31, hCq31⟩ := hq31
                          rw [show fAbout A (4 : Int32) = _ from fAb_4 (A := A) (hn8 0 (by decide))] at eq31 hCq31
                          refine g_topL (y := (nI (nc 0)).toInt64) (eq31.trans (gCd_a rfl)) ?_
                          refine g_lcmp E dL_kept_1309 ?_
                          refine g_if_ne (tgt := 1382) E dL_kept_1310 (by decide) (fun c => absurd (gCmp_eq.mpr (by rw [gI64 _ (by omega), hHs])) c) (fun _ => ?_)
                          refine g_lload E dL_kept_1313 6 rfl ?_
                          refine g_iload_n E dL_kept_1315 rfl 2 rfl ?_
                          refine g_i2l (v := (nI ((sB (aS A)).length)).toInt64) E dL_kept_1316 rfl ?_
                          refine g_lcmp E dL_kept_1317 ?_
                          refine g_if_ne (tgt := 1382) E dL_kept_1318 (by decide) (fun c => absurd (gCmp_eq.mpr (by rw [gI64 _ (by omega), hBs])) c) (fun _ => ?_)
                          refine g_lload E dL_kept_1321 9 rfl ?_
                          refine g_iload_n E dL_kept_1323 rfl 2 rfl ?_
                          refine g_i2l (v := (nI ((sB (aS A)).length)).toInt64) E dL_kept_1324 rfl ?_
                          refine g_lcmp E dL_kept_1325 ?_
                          refine g_if_ne (tgt := 1382) E dL_kept_1326 (by decide) (fun c => absurd (gCmp_eq.mpr (by rw [gI64 _ (by omega), hVs])) c) (fun _ => ?_)
                          refine g_lload E dL_kept_1329 7 rfl ?_
                          refine g_aload_n E dL_kept_1331 rfl 0 rfl ?_
                          refine g_iconst (v := 3) E dL_kept_1332 (by decide) ?_
                          refine g_callSWL (As := [.ref (x.1 0), .int 3]) (F := []) E (wL_about (x := x) hST hA hb5 hCq31 (3 : Int32)) gL_kept_L_about rfl hdL_about ⟨Nat.le_of_ble_eq_true rfl, Nat.le_of_ble_eq_true rfl⟩ gPerm_n rfl rfl ?_ dL_kept_1333 ⟨by show (csz + 1) + 1 ≤ 25000; omega, by show (ssz + 6) + 6 ≤ 400000; omega⟩ (fun rq32 uq32 hq32 => ?_)
                          · exact Nat.le_of_ble_eq_true rfl
                          refine g_perm (ws1 := wV G x uq32) gPerm_n' ?_
                          obtain ⟨eq32, hCq32⟩ := hq32
                          rw [show fAbout A (3 : Int32) = _ from fAbout_3 (A := A)] at eq32 hCq32
                          refine g_topL (y := (nI (sW (aS A)).length).toInt64) (eq32.trans (gCd_a rfl)) ?_
                          refine g_lcmp E dL_kept_1336 ?_
                          refine g_if_ne (tgt := 1382) E dL_kept_1337 (by decide) (fun c => absurd (gCmp_eq.mpr (by rw [gI64 _ (by omega), hWs])) c) (fun _ => ?_)
                          refine g_aload_n E dL_kept_1340 rfl 0 rfl ?_
                          refine g_lload E dL_kept_1341 7 rfl ?_
                          refine g_l2i (v := nI ((sW (aS A)).length)) E dL_kept_1343 (by rw [hWs, ← gI64 _ (by omega)]; exact gL2I _) ?_
                          refine g_callSWL (As := [.ref (x.1 0), .int (nI ((sW (aS A)).length))]) (F := []) E (wL_wishAt (x := x) hST hA hb5 hCq32 (nI ((sW (aS A)).length))) gL_kept_L_wishAt rfl hdL_wishAt ⟨Nat.le_of_ble_eq_true rfl, Nat.le_of_ble_eq_true rfl⟩ gPerm_n rfl rfl ?_ dL_kept_1344 ⟨by show (csz + 2) + 1 ≤ 25000; omega, by show (ssz + 12) + 6 ≤ 400000; omega⟩ (fun rq33 uq33 hq33 => ?_)
                          · exact Nat.le_of_ble_eq_true rfl
                          refine g_perm (ws1 := wV G x uq33) gPerm_n' ?_
                          obtain ⟨eq33, hCq33⟩ := hq33
                          rw [show fWish A (nI ((sW (aS A)).length)) = _ from fWish_no (A := A) (k := (sW (aS A)).length) (by omega) (Nat.le_refl _)] at eq33 hCq33
                          refine g_topL (y := (-1 : Int32).toInt64) (eq33.trans (gCd_a rfl)) ?_
                          refine g_ldc2 (v := -1) E kL_kept_183 dL_kept_1347 ?_
                          refine g_lcmp E dL_kept_1350 ?_
                          refine g_if_ne (tgt := 1382) E dL_kept_1351 (by decide) (fun c => absurd (gCmp_eq.mpr rfl) c) (fun _ => ?_)
                          refine g_lload E dL_kept_1354 8 rfl ?_
                          refine g_aload_n E dL_kept_1356 rfl 0 rfl ?_
                          refine g_bipush (v := 10) E dL_kept_1357 (by decide) ?_
                          refine g_callSWL (As := [.ref (x.1 0), .int 10]) (F := []) E (wL_about (x := x) hST hA hb5 hCq33 (10 : Int32)) gL_kept_L_about rfl hdL_about ⟨Nat.le_of_ble_eq_true rfl, Nat.le_of_ble_eq_true rfl⟩ gPerm_n rfl rfl ?_ dL_kept_1359 ⟨by show (csz + 3) + 1 ≤ 25000; omega, by show (ssz + 18) + 6 ≤ 400000; omega⟩ (fun rq34 uq34 hq34 => ?_)
                          · exact Nat.le_of_ble_eq_true rfl
                          refine g_perm (ws1 := wV G x uq34) gPerm_n' ?_
                          obtain ⟨eq34, hCq34⟩ := hq34
                          rw [show fAbout A (10 : Int32) = _ from fAb_10 (A := A)] at eq34 hCq34
                          refine g_topL (y := (nI (gCnt (fun j => decide (nI (sN (aS A) 0) < sI (aS A) 2 j)) 8)).toInt64) (eq34.trans (gCd_a rfl)) ?_
                          refine g_lcmp E dL_kept_1362 ?_
                          refine g_if_ne (tgt := 1382) E dL_kept_1363 (by decide) (fun c => absurd (gCmp_eq.mpr (by rw [gI64 _ (by have := gCnt_le (fun j => decide (nI (sN (aS A) 0) < sI (aS A) 2 j)) 8; omega), hLs])) c) (fun _ => ?_)
                          refine g_lload E dL_kept_1366 10 rfl ?_
                          refine g_aload_n E dL_kept_1368 rfl 0 rfl ?_
                          refine g_bipush (v := 9) E dL_kept_1369 (by decide) ?_
                          refine g_callSWL (As := [.ref (x.1 0), .int 9]) (F := []) E (wL_about (x := x) hST hA hb5 hCq34 (9 : Int32)) gL_kept_L_about rfl hdL_about ⟨Nat.le_of_ble_eq_true rfl, Nat.le_of_ble_eq_true rfl⟩ gPerm_n rfl rfl ?_ dL_kept_1371 ⟨by show (csz + 4) + 1 ≤ 25000; omega, by show (ssz + 24) + 6 ≤ 400000; omega⟩ (fun rq35 uq35 hq35 => ?_)
                          · exact Nat.le_of_ble_eq_true rfl
                          refine g_perm (ws1 := wV G x uq35) gPerm_n' ?_
                          obtain ⟨eq35, hCq35⟩ := hq35
                          rw [show fAbout A (9 : Int32) = _ from fAb_9 (A := A)] at eq35 hCq35
                          refine g_topL (y := (nI (gCnt (fun j => decide (nI (sN (aS A) 0) < sI (aS A) 7 j)) 10)).toInt64) (eq35.trans (gCd_a rfl)) ?_
                          refine g_lcmp E dL_kept_1374 ?_
                          refine g_if_ne (tgt := 1382) E dL_kept_1375 (by decide) (fun c => absurd (gCmp_eq.mpr (by rw [gI64 _ (by have := gCnt_le (fun j => decide (nI (sN (aS A) 0) < sI (aS A) 7 j)) 10; omega)])) c) (fun _ => ?_)
                          refine g_iconst (v := 1) E dL_kept_1378 (by decide) ?_
                          refine g_goto (tgt := 1383) E dL_kept_1379 (by decide) ?_
                          refine g_widen (k := 25000) (n := 400000) (by omega) (by omega) ?_
                          exact RET _ _ _ uq35 (⟨rfl, hCq35⟩) rfl dL_kept_1383
                        · skip
                          have hwl : kz + 1 < (sW (aS A)).length := (by have q := gCmp_lt.mp (Int32.not_le.mp c30); rw [gI64 _ (by omega), ofNat_lt64 (by omega) (by omega), hWs] at q; exact q)
                          obtain ⟨ia, hia, hib⟩ := gTurn_ex (hf := sI (aS A) 3) (show kz < (sW (aS A)).length by omega)
                          obtain ⟨ja, hja, hjb⟩ := gTurn_ex (hf := sI (aS A) 3) hwl
                          have hwa := hwi ia hia
                          have hwb := hwi ja hja
                          refine g_iload E dL_kept_1243 4 rfl ?_
                          refine g_if_eq (tgt := 1297) E dL_kept_1245 (by decide) (fun c => absurd c (by decide)) (fun _ => ?_)
                          refine g_aload_n E dL_kept_1248 rfl 0 rfl ?_
                          refine g_aload_n E dL_kept_1249 rfl 0 rfl ?_
                          refine g_iload E dL_kept_1250 11 rfl ?_
                          refine g_iconst (v := 1) E dL_kept_1252 (by decide) ?_
                          refine g_isubN (a := kz + 1) (b := 1) E dL_kept_1253 (by omega) ?_
                          refine g_callSWL (As := [.ref (x.1 0), .int (nI (kz + 1 - 1))]) (F := []) E (wL_wishAt (x := x) hST hA hb5 hCz (nI (kz + 1 - 1))) gL_kept_L_wishAt rfl hdL_wishAt ⟨Nat.le_of_ble_eq_true rfl, Nat.le_of_ble_eq_true rfl⟩ gPerm_n rfl rfl ?_ dL_kept_1254 ⟨by show csz + 1 ≤ 25000; omega, by show ssz + 6 ≤ 400000; omega⟩ (fun rq36 uq36 hq36 => ?_)
                          · exact Nat.le_of_ble_eq_true rfl
                          refine g_perm (ws1 := wV G x uq36) gPerm_n' ?_
                          obtain ⟨eq36, hCq36⟩ := hq36
                          rw [show fWish A (nI (kz + 1 - 1)) = _ from fWish_at (A := A) (k := kz + 1 - 1) (by omega) hib] at eq36 hCq36
                          refine g_topL (y := (nI (wq (sW (aS A)) ia)).toInt64) (eq36.trans (gCd_a rfl)) ?_
                          refine g_l2i (v := nI (wq (sW (aS A)) ia)) E dL_kept_1257 (gL2I _) ?_
                          refine g_bipush (v := 10) E dL_kept_1258 (by decide) ?_
                          refine g_idivN (a := wq (sW (aS A)) ia) (b := 10) E dL_kept_1260 (by omega) (by omega) (by omega) ?_
                          refine g_iconst (v := 3) E dL_kept_1261 (by decide) ?_
                          refine g_callSWL (As := [.ref (x.1 0), .int (nI ((wq (sW (aS A)) ia) / 10)), .int 3]) (F := []) E (wL_prisoner (x := x) hST hA hb5 hCq36 (nI ((wq (sW (aS A)) ia) / 10)) (3 : Int32)) gL_kept_L_prisoner rfl hdL_prisoner ⟨Nat.le_of_ble_eq_true rfl, Nat.le_of_ble_eq_true rfl⟩ gPerm_n rfl rfl ?_ dL_kept_1262 ⟨by show (csz + 1) + 1 ≤ 25000; omega, by show (ssz + 6) + 6 ≤ 400000; omega⟩ (fun rq37 uq37 hq37 => ?_)
                          · exact Nat.le_of_ble_eq_true rfl
                          refine g_perm (ws1 := wV G x uq37) gPerm_n' ?_
                          obtain ⟨eq37, hCq37⟩ := hq37
                          rw [show fPris A (nI ((wq (sW (aS A)) ia) / 10)) (3 : Int32) = _ from fPr_3 (A := A) (p := ((wq (sW (aS A)) ia) / 10)) (by omega) h8 (hn3 ((wq (sW (aS A)) ia) / 10) (by omega))] at eq37 hCq37
                          refine g_topL (y := (nI (nf ((wq (sW (aS A)) ia) / 10))).toInt64) (eq37.trans (gCd_a rfl)) ?_
                          refine g_aload_n E dL_kept_1265 rfl 0 rfl ?_
                          refine g_aload_n E dL_kept_1266 rfl 0 rfl ?_
                          refine g_iload E dL_kept_1267 11 rfl ?_
                          refine g_callSWL (As := [.ref (x.1 0), .int (nI (kz + 1))]) (F := []) E (wL_wishAt (x := x) hST hA hb5 hCq37 (nI (kz + 1))) gL_kept_L_wishAt rfl hdL_wishAt ⟨Nat.le_of_ble_eq_true rfl, Nat.le_of_ble_eq_true rfl⟩ gPerm_n rfl rfl ?_ dL_kept_1269 ⟨by show (csz + 2) + 1 ≤ 25000; omega, by show (ssz + 12) + 6 ≤ 400000; omega⟩ (fun rq38 uq38 hq38 => ?_)
                          · exact Nat.le_of_ble_eq_true rfl
                          refine g_perm (ws1 := wV G x uq38) gPerm_n' ?_
                          obtain ⟨eq38, hCq38⟩ := hq38
                          rw [show fWish A (nI (kz + 1)) = _ from fWish_at (A := A) (k := kz + 1) (by omega) hjb] at eq38 hCq38
                          refine g_topL (y := (nI (wq (sW (aS A)) ja)).toInt64) (eq38.trans (gCd_a rfl)) ?_
                          refine g_l2i (v := nI (wq (sW (aS A)) ja)) E dL_kept_1272 (gL2I _) ?_
                          refine g_bipush (v := 10) E dL_kept_1273 (by decide) ?_
                          refine g_idivN (a := wq (sW (aS A)) ja) (b := 10) E dL_kept_1275 (by omega) (by omega) (by omega) ?_
                          refine g_iconst (v := 3) E dL_kept_1276 (by decide) ?_
                          refine g_callSWL (As := [.ref (x.1 0), .int (nI ((wq (sW (aS A)) ja) / 10)), .int 3]) (F := []) E (wL_prisoner (x := x) hST hA hb5 hCq38 (nI ((wq (sW (aS A)) ja) / 10)) (3 : Int32)) gL_kept_L_prisoner rfl hdL_prisoner ⟨Nat.le_of_ble_eq_true rfl, Nat.le_of_ble_eq_true rfl⟩ gPerm_n rfl rfl ?_ dL_kept_1277 ⟨by show (csz + 3) + 1 ≤ 25000; omega, by show (ssz + 18) + 6 ≤ 400000; omega⟩ (fun rq39 uq39 hq39 => ?_)
                          · exact Nat.le_of_ble_eq_true rfl
                          refine g_perm (ws1 := wV G x uq39) gPerm_n' ?_
                          obtain ⟨eq39, hCq39⟩ := hq39
                          rw [show fPris A (nI ((wq (sW (aS A)) ja) / 10)) (3 : Int32) = _ from fPr_3 (A := A) (p := ((wq (sW (aS A)) ja) / 10)) (by omega) h8 (hn3 ((wq (sW (aS A)) ja) / 10) (by omega))] at eq39 hCq39
                          refine g_topL (y := (nI (nf ((wq (sW (aS A)) ja) / 10))).toInt64) (eq39.trans (gCd_a rfl)) ?_
                          refine g_lcmp E dL_kept_1280 ?_
                          refine g_if_gt (tgt := 1288) E dL_kept_1281 (by decide) (fun c => absurd c (gCmp_ngt (by rw [← hn3 _ (show wq (sW (aS A)) ia / 10 < 8 by omega), ← hn3 _ (show wq (sW (aS A)) ja / 10 < 8 by omega), gLt64]; exact gTurn_le hib hjb))) (fun _ => ?_)
                          refine g_iconst (v := 1) E dL_kept_1284 (by decide) ?_
                          refine g_goto (tgt := 1289) E dL_kept_1285 (by decide) ?_
                          refine g_istore (lv' := [(5, .int 1), (0, .ref (x.1 0)), (1, .int (nI (sN (aS A) 1))), (2, .int (nI ((sB (aS A)).length))), (3, .long ((nI (sN (aS A) 0)).toInt64)), (6, .long (Int64.ofNat (gSum nf (sN (aS A) 1)))), (8, .long (Int64.ofNat (gSum (fun p => gCnt (fun k => bk (sB (aS A)) k 3 == p) (sB (aS A)).length) (sN (aS A) 1)))), (10, .long (Int64.ofNat (gSum (fun p => gCnt (fun i => wq (sW (aS A)) i / 10 == p) (sW (aS A)).length) (sN (aS A) 1)))), (12, .long (Int64.ofNat (gCnt (fun j => decide (nI (sN (aS A) 0) < sI (aS A) 2 j)) (sN (aS A) 1)))), (14, .long (Int64.ofNat (gSum (fun v => gCnt (fun k => bk (sB (aS A)) k 4 == v) (sB (aS A)).length) 10))), (16, .long (Int64.ofNat (gCnt (fun j => decide (nI (sN (aS A) 0) < sI (aS A) 7 j)) 10))), (18, .int (nI (kz + 1)))]) E dL_kept_1289 (by decide) rfl ?_
                          refine g_iinc (lv' := [(18, .int (nI (kz + 1 + 1))), (5, .int 1), (0, .ref (x.1 0)), (1, .int (nI (sN (aS A) 1))), (2, .int (nI ((sB (aS A)).length))), (3, .long ((nI (sN (aS A) 0)).toInt64)), (6, .long (Int64.ofNat (gSum nf (sN (aS A) 1)))), (8, .long (Int64.ofNat (gSum (fun p => gCnt (fun k => bk (sB (aS A)) k 3 == p) (sB (aS A)).length) (sN (aS A) 1)))), (10, .long (Int64.ofNat (gSum (fun p => gCnt (fun i => wq (sW (aS A)) i / 10 == p) (sW (aS A)).length) (sN (aS A) 1)))), (12, .long (Int64.ofNat (gCnt (fun j => decide (nI (sN (aS A) 0) < sI (aS A) 2 j)) (sN (aS A) 1)))), (14, .long (Int64.ofNat (gSum (fun v => gCnt (fun k => bk (sB (aS A)) k 4 == v) (sB (aS A)).length) 10))), (16, .long (Int64.ofNat (gCnt (fun j => decide (nI (sN (aS A) 0) < sI (aS A) 7 j)) 10)))]) E dL_kept_1291 11 rfl (g_inc _ 1 (by decide)) (by decide) rfl ?_
                          refine g_goto (tgt := 1234) E dL_kept_1294 (by decide) ?_
                          refine g_lv [2, 3, 4, 5, 1, 6, 7, 8, 9, 10, 11, 0] rfl ?_
                          exact ih28  (kz + 1) uq39 (csz + 4) (ssz + 24) (by omega) hCq39 (by omega) (by omega) (by omega)
                    refine g_lv [1, 2, 3, 4, 5, 6, 7, 8, 9, 10, 11, 0] rfl ?_
                    exact loop26 _ 0 ub csb ssb (Nat.zero_le _) hCb (by omega) (by omega) (Nat.lt_succ_self _)
                  · skip
                    have hDk := gDc_le (bk (sB (aS A)) kb 0)
                    have hMk := gDc_2 (v := bk (sB (aS A)) kb 5) (by have := (hfi kb (by omega)).2.2.2.2.1; omega)
                    have hq := hfi kb (by omega)
                    have hq3 := hbk kb (by omega)
                    have hh1 : bk (sB (aS A)) kb 1 < 10 := by omega
                    have hh2 : bk (sB (aS A)) kb 2 < 10 := by omega
                    have hh3 : bk (sB (aS A)) kb 3 < 10 := by omega
                    have hh4 : bk (sB (aS A)) kb 4 < 10 := by omega
                    refine g_iload E dL_kept_470 4 rfl ?_
                    refine g_if_eq (tgt := 1231) E dL_kept_472 (by decide) (fun c => absurd c (by decide)) (fun _ => ?_)
                    refine g_aload_n E dL_kept_475 rfl 0 rfl ?_
                    refine g_iload E dL_kept_476 11 rfl ?_
                    refine g_iconst (v := 0) E dL_kept_478 (by decide) ?_
                    refine g_callSWL (As := [.ref (x.1 0), .int (nI kb), .int 0]) (F := []) E (wL_booking (x := x) hST hA hb5 hCb (nI kb) (0 : Int32)) gL_kept_L_booking rfl hdL_booking ⟨Nat.le_of_ble_eq_true rfl, Nat.le_of_ble_eq_true rfl⟩ gPerm_n rfl rfl ?_ dL_kept_479 ⟨by show csb + 1 ≤ 25000; omega, by show ssb + 6 ≤ 400000; omega⟩ (fun rq40 uq40 hq40 => ?_)
                    · exact Nat.le_of_ble_eq_true rfl
                    refine g_perm (ws1 := wV G x uq40) gPerm_n' ?_
                    obtain ⟨eq40, hCq40⟩ := hq40
                    rw [show fBkng A (nI kb) (0 : Int32) = _ from fBkng_in (A := A) (j := kb) (k := 0) (by omega) hn24 rfl (by omega)] at eq40 hCq40
                    refine g_topL (y := (nI (bk (sB (aS A)) kb 0)).toInt64) (eq40.trans (gCd_a rfl)) ?_
                    refine g_lstore (lv' := [(19, .long ((nI (bk (sB (aS A)) kb 0)).toInt64)), (0, .ref (x.1 0)), (1, .int (nI (sN (aS A) 1))), (2, .int (nI ((sB (aS A)).length))), (3, .long ((nI (sN (aS A) 0)).toInt64)), (5, .int 1), (6, .long (Int64.ofNat (gSum nf (sN (aS A) 1)))), (8, .long (Int64.ofNat (gSum (fun p => gCnt (fun k => bk (sB (aS A)) k 3 == p) (sB (aS A)).length) (sN (aS A) 1)))), (10, .long (Int64.ofNat (gSum (fun p => gCnt (fun i => wq (sW (aS A)) i / 10 == p) (sW (aS A)).length) (sN (aS A) 1)))), (12, .long (Int64.ofNat (gCnt (fun j => decide (nI (sN (aS A) 0) < sI (aS A) 2 j)) (sN (aS A) 1)))), (14, .long (Int64.ofNat (gSum (fun v => gCnt (fun k => bk (sB (aS A)) k 4 == v) (sB (aS A)).length) 10))), (16, .long (Int64.ofNat (gCnt (fun j => decide (nI (sN (aS A) 0) < sI (aS A) 7 j)) 10))), (18, .int (nI kb))]) E dL_kept_482 (by decide) rfl ?_
                    refine g_aload_n E dL_kept_484 rfl 1 rfl ?_
                    refine g_iload E dL_kept_485 12 rfl ?_
                    refine g_iconst (v := 3) E dL_kept_487 (by decide) ?_
                    refine g_callSWL (As := [.ref (x.1 0), .int (nI kb), .int 3]) (F := []) E (wL_booking (x := x) hST hA hb5 hCq40 (nI kb) (3 : Int32)) gL_kept_L_booking rfl hdL_booking ⟨Nat.le_of_ble_eq_true rfl, Nat.le_of_ble_eq_true rfl⟩ gPerm_n rfl rfl ?_ dL_kept_488 ⟨by show (csb + 1) + 1 ≤ 25000; omega, by show (ssb + 6) + 6 ≤ 400000; omega⟩ (fun rq41 uq41 hq41 => ?_)
                    · exact Nat.le_of_ble_eq_true rfl
                    refine g_perm (ws1 := wV G x uq41) gPerm_n' ?_
                    obtain ⟨eq41, hCq41⟩ := hq41
                    rw [show fBkng A (nI kb) (3 : Int32) = _ from fBkng_in (A := A) (j := kb) (k := 3) (by omega) hn24 rfl (by omega)] at eq41 hCq41
                    refine g_topL (y := (nI (bk (sB (aS A)) kb 3)).toInt64) (eq41.trans (gCd_a rfl)) ?_
                    refine g_l2i (v := nI (bk (sB (aS A)) kb 3)) E dL_kept_491 (gL2I _) ?_
                    refine g_istore (lv' := [(21, .int (nI (bk (sB (aS A)) kb 3))), (19, .long ((nI (bk (sB (aS A)) kb 0)).toInt64)), (0, .ref (x.1 0)), (1, .int (nI (sN (aS A) 1))), (2, .int (nI ((sB (aS A)).length))), (3, .long ((nI (sN (aS A) 0)).toInt64)), (5, .int 1), (6, .long (Int64.ofNat (gSum nf (sN (aS A) 1)))), (8, .long (Int64.ofNat (gSum (fun p => gCnt (fun k => bk (sB (aS A)) k 3 == p) (sB (aS A)).length) (sN (aS A) 1)))), (10, .long (Int64.ofNat (gSum (fun p => gCnt (fun i => wq (sW (aS A)) i / 10 == p) (sW (aS A)).length) (sN (aS A) 1)))), (12, .long (Int64.ofNat (gCnt (fun j => decide (nI (sN (aS A) 0) < sI (aS A) 2 j)) (sN (aS A) 1)))), (14, .long (Int64.ofNat (gSum (fun v => gCnt (fun k => bk (sB (aS A)) k 4 == v) (sB (aS A)).length) 10))), (16, .long (Int64.ofNat (gCnt (fun j => decide (nI (sN (aS A) 0) < sI (aS A) 7 j)) 10))), (18, .int (nI kb))]) E dL_kept_492 (by decide) rfl ?_
                    refine g_aload_n E dL_kept_494 rfl 2 rfl ?_
                    refine g_iload E dL_kept_495 13 rfl ?_
                    refine g_iconst (v := 4) E dL_kept_497 (by decide) ?_
                    refine g_callSWL (As := [.ref (x.1 0), .int (nI kb), .int 4]) (F := []) E (wL_booking (x := x) hST hA hb5 hCq41 (nI kb) (4 : Int32)) gL_kept_L_booking rfl hdL_booking ⟨Nat.le_of_ble_eq_true rfl, Nat.le_of_ble_eq_true rfl⟩ gPerm_n rfl rfl ?_ dL_kept_498 ⟨by show (csb + 2) + 1 ≤ 25000; omega, by show (ssb + 12) + 6 ≤ 400000; omega⟩ (fun rq42 uq42 hq42 => ?_)
                    · exact Nat.le_of_ble_eq_true rfl
                    refine g_perm (ws1 := wV G x uq42) gPerm_n' ?_
                    obtain ⟨eq42, hCq42⟩ := hq42
                    rw [show fBkng A (nI kb) (4 : Int32) = _ from fBkng_in (A := A) (j := kb) (k := 4) (by omega) hn24 rfl (by omega)] at eq42 hCq42
                    refine g_topL (y := (nI (bk (sB (aS A)) kb 4)).toInt64) (eq42.trans (gCd_a rfl)) ?_
                    refine g_l2i (v := nI (bk (sB (aS A)) kb 4)) E dL_kept_501 (gL2I _) ?_
                    refine g_istore (lv' := [(22, .int (nI (bk (sB (aS A)) kb 4))), (21, .int (nI (bk (sB (aS A)) kb 3))), (19, .long ((nI (bk (sB (aS A)) kb 0)).toInt64)), (0, .ref (x.1 0)), (1, .int (nI (sN (aS A) 1))), (2, .int (nI ((sB (aS A)).length))), (3, .long ((nI (sN (aS A) 0)).toInt64)), (5, .int 1), (6, .long (Int64.ofNat (gSum nf (sN (aS A) 1)))), (8, .long (Int64.ofNat (gSum (fun p => gCnt (fun k => bk (sB (aS A)) k 3 == p) (sB (aS A)).length) (sN (aS A) 1)))), (10, .long (Int64.ofNat (gSum (fun p => gCnt (fun i => wq (sW (aS A)) i / 10 == p) (sW (aS A)).length) (sN (aS A) 1)))), (12, .long (Int64.ofNat (gCnt (fun j => decide (nI (sN (aS A) 0) < sI (aS A) 2 j)) (sN (aS A) 1)))), (14, .long (Int64.ofNat (gSum (fun v => gCnt (fun k => bk (sB (aS A)) k 4 == v) (sB (aS A)).length) 10))), (16, .long (Int64.ofNat (gCnt (fun j => decide (nI (sN (aS A) 0) < sI (aS A) 7 j)) 10))), (18, .int (nI kb))]) E dL_kept_502 (by decide) rfl ?_
                    refine g_lload E dL_kept_504 2 rfl ?_
                    refine g_lload_n E dL_kept_506 rfl 6 rfl ?_
                    refine g_lcmp E dL_kept_507 ?_
                    refine g_if_lt (tgt := 593) E dL_kept_508 (by decide) (fun c => absurd c (gCmp_nlt (by rw [gNlt64 (by omega) (by omega)]; omega))) (fun _ => ?_)
                    refine g_aload_n E dL_kept_511 rfl 3 rfl ?_
                    refine g_iload E dL_kept_512 14 rfl ?_
                    refine g_iconst (v := 1) E dL_kept_514 (by decide) ?_
                    refine g_callSWL (As := [.ref (x.1 0), .int (nI kb), .int 1]) (F := []) E (wL_booking (x := x) hST hA hb5 hCq42 (nI kb) (1 : Int32)) gL_kept_L_booking rfl hdL_booking ⟨Nat.le_of_ble_eq_true rfl, Nat.le_of_ble_eq_true rfl⟩ gPerm_n rfl rfl ?_ dL_kept_515 ⟨by show (csb + 3) + 1 ≤ 25000; omega, by show (ssb + 18) + 6 ≤ 400000; omega⟩ (fun rq43 uq43 hq43 => ?_)
                    · exact Nat.le_of_ble_eq_true rfl
                    refine g_perm (ws1 := wV G x uq43) gPerm_n' ?_
                    obtain ⟨eq43, hCq43⟩ := hq43
                    rw [show fBkng A (nI kb) (1 : Int32) = _ from fBkng_in (A := A) (j := kb) (k := 1) (by omega) hn24 rfl (by omega)] at eq43 hCq43
                    refine g_topL (y := (nI (bk (sB (aS A)) kb 1)).toInt64) (eq43.trans (gCd_a rfl)) ?_
                    refine g_lconst (v := 0) E dL_kept_518 (by decide) ?_
                    refine g_ldc2 (v := 7) E kL_kept_216 dL_kept_519 ?_
                    refine g_callSI (As := [.long ((nI (bk (sB (aS A)) kb 1)).toInt64), .long 0, .long 7]) (F := wV G x uq43) E (mL_in ((nI (bk (sB (aS A)) kb 1)).toInt64) (0 : Int64) (7 : Int64)) gL_kept_L_in rfl hdL_in ⟨Nat.le_of_ble_eq_true rfl, Nat.le_of_ble_eq_true rfl⟩ (gPerm_rfl _) rfl rfl ?_ dL_kept_522 ⟨by show (csb + 4) + 0 ≤ 25000; omega, by show (ssb + 24) + 0 ≤ 400000; omega⟩ (fun rq44 uq44 hq44 => ?_)
                    · exact Nat.le_of_ble_eq_true rfl
                    refine g_ws (ws' := wV G x uq43) rfl ?_
                    refine g_top (y := 1) (hq44.trans (if_pos (in64 (l := 0) (h := 7) rfl rfl (Nat.zero_le _) (by omega) (by decide)))) ?_
                    refine g_if_eq (tgt := 593) E dL_kept_525 (by decide) (fun c => absurd c (by decide)) (fun _ => ?_)
                    refine g_aload_n E dL_kept_528 rfl 3 rfl ?_
                    refine g_iload E dL_kept_529 14 rfl ?_
                    refine g_iconst (v := 2) E dL_kept_531 (by decide) ?_
                    refine g_callSWL (As := [.ref (x.1 0), .int (nI kb), .int 2]) (F := []) E (wL_booking (x := x) hST hA hb5 hCq43 (nI kb) (2 : Int32)) gL_kept_L_booking rfl hdL_booking ⟨Nat.le_of_ble_eq_true rfl, Nat.le_of_ble_eq_true rfl⟩ gPerm_n rfl rfl ?_ dL_kept_532 ⟨by show (csb + 4) + 1 ≤ 25000; omega, by show (ssb + 24) + 6 ≤ 400000; omega⟩ (fun rq45 uq45 hq45 => ?_)
                    · exact Nat.le_of_ble_eq_true rfl
                    refine g_perm (ws1 := wV G x uq45) gPerm_n' ?_
                    obtain ⟨eq45, hCq45⟩ := hq45
                    rw [show fBkng A (nI kb) (2 : Int32) = _ from fBkng_in (A := A) (j := kb) (k := 2) (by omega) hn24 rfl (by omega)] at eq45 hCq45
                    refine g_topL (y := (nI (bk (sB (aS A)) kb 2)).toInt64) (eq45.trans (gCd_a rfl)) ?_
                    refine g_lconst (v := 0) E dL_kept_535 (by decide) ?_
                    refine g_ldc2 (v := 3) E kL_kept_210 dL_kept_536 ?_
                    refine g_callSI (As := [.long ((nI (bk (sB (aS A)) kb 2)).toInt64), .long 0, .long 3]) (F := wV G x uq45) E (mL_in ((nI (bk (sB (aS A)) kb 2)).toInt64) (0 : Int64) (3 : Int64)) gL_kept_L_in rfl hdL_in ⟨Nat.le_of_ble_eq_true rfl, Nat.le_of_ble_eq_true rfl⟩ (gPerm_rfl _) rfl rfl ?_ dL_kept_539 ⟨by show (csb + 5) + 0 ≤ 25000; omega, by show (ssb + 30) + 0 ≤ 400000; omega⟩ (fun rq46 uq46 hq46 => ?_)
                    · exact Nat.le_of_ble_eq_true rfl
                    refine g_ws (ws' := wV G x uq45) rfl ?_
                    refine g_top (y := 1) (hq46.trans (if_pos (in64 (l := 0) (h := 3) rfl rfl (Nat.zero_le _) (by omega) (by decide)))) ?_
                    refine g_if_eq (tgt := 593) E dL_kept_542 (by decide) (fun c => absurd c (by decide)) (fun _ => ?_)
                    refine g_iload E dL_kept_545 1 rfl ?_
                    refine g_i2l (v := (nI (bk (sB (aS A)) kb 3)).toInt64) E dL_kept_547 rfl ?_
                    refine g_lconst (v := 0) E dL_kept_548 (by decide) ?_
                    refine g_iload_n E dL_kept_549 rfl 4 rfl ?_
                    refine g_iconst (v := 1) E dL_kept_550 (by decide) ?_
                    refine g_isubN (a := sN (aS A) 1) (b := 1) E dL_kept_551 (by omega) ?_
                    refine g_i2l (v := (nI (sN (aS A) 1 - 1)).toInt64) E dL_kept_552 rfl ?_
                    refine g_callSI (As := [.long ((nI (bk (sB (aS A)) kb 3)).toInt64), .long 0, .long ((nI (sN (aS A) 1 - 1)).toInt64)]) (F := wV G x uq45) E (mL_in ((nI (bk (sB (aS A)) kb 3)).toInt64) (0 : Int64) ((nI (sN (aS A) 1 - 1)).toInt64)) gL_kept_L_in rfl hdL_in ⟨Nat.le_of_ble_eq_true rfl, Nat.le_of_ble_eq_true rfl⟩ (gPerm_rfl _) rfl rfl ?_ dL_kept_553 ⟨by show (csb + 5) + 0 ≤ 25000; omega, by show (ssb + 30) + 0 ≤ 400000; omega⟩ (fun rq47 uq47 hq47 => ?_)
                    · exact Nat.le_of_ble_eq_true rfl
                    refine g_ws (ws' := wV G x uq45) rfl ?_
                    refine g_top (y := 1) (hq47.trans (if_pos (in64 (l := 0) (h := sN (aS A) 1 - 1) rfl (gI64 _ (by omega)) (Nat.zero_le _) (by omega) (by omega)))) ?_
                    refine g_if_eq (tgt := 593) E dL_kept_556 (by decide) (fun c => absurd c (by decide)) (fun _ => ?_)
                    refine g_iload E dL_kept_559 0 rfl ?_
                    refine g_i2l (v := (nI (bk (sB (aS A)) kb 4)).toInt64) E dL_kept_561 rfl ?_
                    refine g_lconst (v := 0) E dL_kept_562 (by decide) ?_
                    refine g_ldc2 (v := 9) E kL_kept_218 dL_kept_563 ?_
                    refine g_callSI (As := [.long ((nI (bk (sB (aS A)) kb 4)).toInt64), .long 0, .long 9]) (F := wV G x uq45) E (mL_in ((nI (bk (sB (aS A)) kb 4)).toInt64) (0 : Int64) (9 : Int64)) gL_kept_L_in rfl hdL_in ⟨Nat.le_of_ble_eq_true rfl, Nat.le_of_ble_eq_true rfl⟩ (gPerm_rfl _) rfl rfl ?_ dL_kept_566 ⟨by show (csb + 5) + 0 ≤ 25000; omega, by show (ssb + 30) + 0 ≤ 400000; omega⟩ (fun rq48 uq48 hq48 => ?_)
                    · exact Nat.le_of_ble_eq_true rfl
                    refine g_ws (ws' := wV G x uq45) rfl ?_
                    refine g_top (y := 1) (hq48.trans (if_pos (in64 (l := 0) (h := 9) rfl rfl (Nat.zero_le _) (by omega) (by decide)))) ?_
                    refine g_if_eq (tgt := 593) E dL_kept_569 (by decide) (fun c => absurd c (by decide)) (fun _ => ?_)
                    refine g_aload_n E dL_kept_572 rfl 3 rfl ?_
                    refine g_iload E dL_kept_573 14 rfl ?_
                    refine g_iconst (v := 5) E dL_kept_575 (by decide) ?_
                    refine g_callSWL (As := [.ref (x.1 0), .int (nI kb), .int 5]) (F := []) E (wL_booking (x := x) hST hA hb5 hCq45 (nI kb) (5 : Int32)) gL_kept_L_booking rfl hdL_booking ⟨Nat.le_of_ble_eq_true rfl, Nat.le_of_ble_eq_true rfl⟩ gPerm_n rfl rfl ?_ dL_kept_576 ⟨by show (csb + 5) + 1 ≤ 25000; omega, by show (ssb + 30) + 6 ≤ 400000; omega⟩ (fun rq49 uq49 hq49 => ?_)
                    · exact Nat.le_of_ble_eq_true rfl
                    refine g_perm (ws1 := wV G x uq49) gPerm_n' ?_
                    obtain ⟨eq49, hCq49⟩ := hq49
                    rw [show fBkng A (nI kb) (5 : Int32) = _ from fBkng_in (A := A) (j := kb) (k := 5) (by omega) hn24 rfl (by omega)] at eq49 hCq49
                    refine g_topL (y := (nI (bk (sB (aS A)) kb 5)).toInt64) (eq49.trans (gCd_a rfl)) ?_
                    refine g_lconst (v := 0) E dL_kept_579 (by decide) ?_
                    refine g_ldc2 (v := 59) E kL_kept_185 dL_kept_580 ?_
                    refine g_callSI (As := [.long ((nI (bk (sB (aS A)) kb 5)).toInt64), .long 0, .long 59]) (F := wV G x uq49) E (mL_in ((nI (bk (sB (aS A)) kb 5)).toInt64) (0 : Int64) (59 : Int64)) gL_kept_L_in rfl hdL_in ⟨Nat.le_of_ble_eq_true rfl, Nat.le_of_ble_eq_true rfl⟩ (gPerm_rfl _) rfl rfl ?_ dL_kept_583 ⟨by show (csb + 6) + 0 ≤ 25000; omega, by show (ssb + 36) + 0 ≤ 400000; omega⟩ (fun rq50 uq50 hq50 => ?_)
                    · exact Nat.le_of_ble_eq_true rfl
                    refine g_ws (ws' := wV G x uq49) rfl ?_
                    refine g_top (y := 1) (hq50.trans (if_pos (in64 (l := 0) (h := 59) rfl rfl (Nat.zero_le _) (by omega) (by decide)))) ?_
                    refine g_if_eq (tgt := 593) E dL_kept_586 (by decide) (fun c => absurd c (by decide)) (fun _ => ?_)
                    refine g_iconst (v := 1) E dL_kept_589 (by decide) ?_
                    refine g_goto (tgt := 594) E dL_kept_590 (by decide) ?_
                    refine g_istore (lv' := [(5, .int 1), (22, .int (nI (bk (sB (aS A)) kb 4))), (21, .int (nI (bk (sB (aS A)) kb 3))), (19, .long ((nI (bk (sB (aS A)) kb 0)).toInt64)), (0, .ref (x.1 0)), (1, .int (nI (sN (aS A) 1))), (2, .int (nI ((sB (aS A)).length))), (3, .long ((nI (sN (aS A) 0)).toInt64)), (6, .long (Int64.ofNat (gSum nf (sN (aS A) 1)))), (8, .long (Int64.ofNat (gSum (fun p => gCnt (fun k => bk (sB (aS A)) k 3 == p) (sB (aS A)).length) (sN (aS A) 1)))), (10, .long (Int64.ofNat (gSum (fun p => gCnt (fun i => wq (sW (aS A)) i / 10 == p) (sW (aS A)).length) (sN (aS A) 1)))), (12, .long (Int64.ofNat (gCnt (fun j => decide (nI (sN (aS A) 0) < sI (aS A) 2 j)) (sN (aS A) 1)))), (14, .long (Int64.ofNat (gSum (fun v => gCnt (fun k => bk (sB (aS A)) k 4 == v) (sB (aS A)).length) 10))), (16, .long (Int64.ofNat (gCnt (fun j => decide (nI (sN (aS A) 0) < sI (aS A) 7 j)) 10))), (18, .int (nI kb))]) E dL_kept_594 (by decide) rfl ?_
                    refine g_iconst (v := 0) E dL_kept_596 (by decide) ?_
                    refine g_istore (lv' := [(23, .int 0), (5, .int 1), (22, .int (nI (bk (sB (aS A)) kb 4))), (21, .int (nI (bk (sB (aS A)) kb 3))), (19, .long ((nI (bk (sB (aS A)) kb 0)).toInt64)), (0, .ref (x.1 0)), (1, .int (nI (sN (aS A) 1))), (2, .int (nI ((sB (aS A)).length))), (3, .long ((nI (sN (aS A) 0)).toInt64)), (6, .long (Int64.ofNat (gSum nf (sN (aS A) 1)))), (8, .long (Int64.ofNat (gSum (fun p => gCnt (fun k => bk (sB (aS A)) k 3 == p) (sB (aS A)).length) (sN (aS A) 1)))), (10, .long (Int64.ofNat (gSum (fun p => gCnt (fun i => wq (sW (aS A)) i / 10 == p) (sW (aS A)).length) (sN (aS A) 1)))), (12, .long (Int64.ofNat (gCnt (fun j => decide (nI (sN (aS A) 0) < sI (aS A) 2 j)) (sN (aS A) 1)))), (14, .long (Int64.ofNat (gSum (fun v => gCnt (fun k => bk (sB (aS A)) k 4 == v) (sB (aS A)).length) 10))), (16, .long (Int64.ofNat (gCnt (fun j => decide (nI (sN (aS A) 0) < sI (aS A) 7 j)) 10))), (18, .int (nI kb))]) E dL_kept_597 (by decide) rfl ?_
                    have loop51 : ∀ (n52 : Nat) (ki : Nat) (ui : gVu) (csi : Nat) (ssi : Nat), (ki ≤ kb) → (gClsI A ui) → (csi ≤ (csb + 6) + 12 * ki) → (ssi ≤ (ssb + 36) + 72 * ki) → kb - ki < n52 → gW V 28 csi ssi (wV G x ui) [(0, .ref (x.1 0)), (1, .int (nI (sN (aS A) 1))), (2, .int (nI ((sB (aS A)).length))), (3, .long ((nI (sN (aS A) 0)).toInt64)), (5, .int 1), (6, .long (Int64.ofNat (gSum nf (sN (aS A) 1)))), (8, .long (Int64.ofNat (gSum (fun p => gCnt (fun k => bk (sB (aS A)) k 3 == p) (sB (aS A)).length) (sN (aS A) 1)))), (10, .long (Int64.ofNat (gSum (fun p => gCnt (fun i => wq (sW (aS A)) i / 10 == p) (sW (aS A)).length) (sN (aS A) 1)))), (12, .long (Int64.ofNat (gCnt (fun j => decide (nI (sN (aS A) 0) < sI (aS A) 2 j)) (sN (aS A) 1)))), (14, .long (Int64.ofNat (gSum (fun v => gCnt (fun k => bk (sB (aS A)) k 4 == v) (sB (aS A)).length) 10))), (16, .long (Int64.ofNat (gCnt (fun j => decide (nI (sN (aS A) 0) < sI (aS A) 7 j)) 10))), (18, .int (nI kb)), (19, .long ((nI (bk (sB (aS A)) kb 0)).toInt64)), (21, .int (nI (bk (sB (aS A)) kb 3))), (22, .int (nI (bk (sB (aS A)) kb 4))), (23, .int (nI ki))] 599 [] := by
                      intro n52
                      induction n52 with
                      | zero => intro ki ui csi ssi hki hCi hci hsi hm54; exact absurd hm54 (Nat.not_lt_zero _)
                      | succ n52 ih53 =>
                        intro ki ui csi ssi hki hCi hci hsi hm54
                        refine g_iload E dL_kept_599 15 rfl ?_
                        refine g_iload E dL_kept_601 11 rfl ?_
                        refine g_icmp_geN (tgt := 760) (a := ki) (b := kb) E dL_kept_603 (by decide) (by omega) (by omega) (fun c55 => ?_) (fun c55 => ?_)
                        · skip
                          obtain rfl : kb = ki := by omega
                          refine g_iconst (v := 0) E dL_kept_760 (by decide) ?_
                          refine g_istore (lv' := [(23, .int 0), (0, .ref (x.1 0)), (1, .int (nI (sN (aS A) 1))), (2, .int (nI ((sB (aS A)).length))), (3, .long ((nI (sN (aS A) 0)).toInt64)), (5, .int 1), (6, .long (Int64.ofNat (gSum nf (sN (aS A) 1)))), (8, .long (Int64.ofNat (gSum (fun p => gCnt (fun k => bk (sB (aS A)) k 3 == p) (sB (aS A)).length) (sN (aS A) 1)))), (10, .long (Int64.ofNat (gSum (fun p => gCnt (fun i => wq (sW (aS A)) i / 10 == p) (sW (aS A)).length) (sN (aS A) 1)))), (12, .long (Int64.ofNat (gCnt (fun j => decide (nI (sN (aS A) 0) < sI (aS A) 2 j)) (sN (aS A) 1)))), (14, .long (Int64.ofNat (gSum (fun v => gCnt (fun k => bk (sB (aS A)) k 4 == v) (sB (aS A)).length) 10))), (16, .long (Int64.ofNat (gCnt (fun j => decide (nI (sN (aS A) 0) < sI (aS A) 7 j)) 10))), (18, .int (nI kb)), (19, .long ((nI (bk (sB (aS A)) kb 0)).toInt64)), (21, .int (nI (bk (sB (aS A)) kb 3))), (22, .int (nI (bk (sB (aS A)) kb 4)))]) E dL_kept_761 (by decide) rfl ?_
                          refine g_lconst (v := 0) E dL_kept_763 (by decide) ?_
                          refine g_topL (y := Int64.ofNat (bk (sB (aS A)) kb 0 / 10 ^ (gDc (bk (sB (aS A)) kb 0) - 0))) (by rw [Nat.sub_zero, gDc_pow (by omega)]; rfl) ?_
                          refine g_lstore (lv' := [(24, .long (Int64.ofNat (bk (sB (aS A)) kb 0 / 10 ^ (gDc (bk (sB (aS A)) kb 0) - 0)))), (23, .int 0), (0, .ref (x.1 0)), (1, .int (nI (sN (aS A) 1))), (2, .int (nI ((sB (aS A)).length))), (3, .long ((nI (sN (aS A) 0)).toInt64)), (5, .int 1), (6, .long (Int64.ofNat (gSum nf (sN (aS A) 1)))), (8, .long (Int64.ofNat (gSum (fun p => gCnt (fun k => bk (sB (aS A)) k 3 == p) (sB (aS A)).length) (sN (aS A) 1)))), (10, .long (Int64.ofNat (gSum (fun p => gCnt (fun i => wq (sW (aS A)) i / 10 == p) (sW (aS A)).length) (sN (aS A) 1)))), (12, .long (Int64.ofNat (gCnt (fun j => decide (nI (sN (aS A) 0) < sI (aS A) 2 j)) (sN (aS A) 1)))), (14, .long (Int64.ofNat (gSum (fun v => gCnt (fun k => bk (sB (aS A)) k 4 == v) (sB (aS A)).length) 10))), (16, .long (Int64.ofNat (gCnt (fun j => decide (nI (sN (aS A) 0) < sI (aS A) 7 j)) 10))), (18, .int (nI kb)), (19, .long ((nI (bk (sB (aS A)) kb 0)).toInt64)), (21, .int (nI (bk (sB (aS A)) kb 3))), (22, .int (nI (bk (sB (aS A)) kb 4)))]) E dL_kept_764 (by decide) rfl ?_
                          have loop56 : ∀ (n57 : Nat) (kj : Nat) (uj : gVu) (csj : Nat) (ssj : Nat), (kj ≤ gDc (bk (sB (aS A)) kb 0)) → (gClsI A uj) → (csj ≤ csi + 28 * kj) → (ssj ≤ ssi + 856 * kj) → gDc (bk (sB (aS A)) kb 0) - kj < n57 → gW V 28 csj ssj (wV G x uj) [(0, .ref (x.1 0)), (1, .int (nI (sN (aS A) 1))), (2, .int (nI ((sB (aS A)).length))), (3, .long ((nI (sN (aS A) 0)).toInt64)), (5, .int 1), (6, .long (Int64.ofNat (gSum nf (sN (aS A) 1)))), (8, .long (Int64.ofNat (gSum (fun p => gCnt (fun k => bk (sB (aS A)) k 3 == p) (sB (aS A)).length) (sN (aS A) 1)))), (10, .long (Int64.ofNat (gSum (fun p => gCnt (fun i => wq (sW (aS A)) i / 10 == p) (sW (aS A)).length) (sN (aS A) 1)))), (12, .long (Int64.ofNat (gCnt (fun j => decide (nI (sN (aS A) 0) < sI (aS A) 2 j)) (sN (aS A) 1)))), (14, .long (Int64.ofNat (gSum (fun v => gCnt (fun k => bk (sB (aS A)) k 4 == v) (sB (aS A)).length) 10))), (16, .long (Int64.ofNat (gCnt (fun j => decide (nI (sN (aS A) 0) < sI (aS A) 7 j)) 10))), (18, .int (nI kb)), (19, .long ((nI (bk (sB (aS A)) kb 0)).toInt64)), (21, .int (nI (bk (sB (aS A)) kb 3))), (22, .int (nI (bk (sB (aS A)) kb 4))), (23, .int (nI kj)), (24, .long (Int64.ofNat (bk (sB (aS A)) kb 0 / 10 ^ (gDc (bk (sB (aS A)) kb 0) - kj))))] 766 [] := by
                            intro n57
                            induction n57 with
                            | zero => intro kj uj csj ssj hkj hCj hcj hsj hm59; exact absurd hm59 (Nat.not_lt_zero _)
                            | succ n57 ih58 =>
                              intro kj uj csj ssj hkj hCj hcj hsj hm59
                              refine g_aload_n E dL_kept_766 rfl 0 rfl ?_
                              refine g_iload E dL_kept_767 11 rfl ?_
                              refine g_iload E dL_kept_769 15 rfl ?_
                              refine g_callSWL (As := [.ref (x.1 0), .int (nI kb), .int (nI kj)]) (F := []) E (wL_line (x := x) hST hA hb5 hCj (nI kb) (nI kj)) gL_kept_L_line rfl hdL_line ⟨Nat.le_of_ble_eq_true rfl, Nat.le_of_ble_eq_true rfl⟩ gPerm_n rfl rfl ?_ dL_kept_771 ⟨by show csj + 14 ≤ 25000; omega, by show ssj + 428 ≤ 400000; omega⟩ (fun rq60 uq60 hq60 => ?_)
                              · exact Nat.le_of_ble_eq_true rfl
                              refine g_perm (ws1 := wV G x uq60) gPerm_n' ?_
                              obtain ⟨eq60, hCq60⟩ := hq60
                              rw [show fLine A (nI kb) (nI kj) = _ from fLine_in (A := A) (k := kb) (j := kj) (by omega) hn24 (by omega)] at eq60 hCq60
                              refine g_topL (y := ((gLine (aS A) kb).getD kj (-1)).toInt64) (eq60.trans (gCd_a rfl)) ?_
                              refine g_ldc2 (v := 48) E kL_kept_224 dL_kept_774 ?_
                              refine g_ldc2 (v := 57) E kL_kept_226 dL_kept_777 ?_
                              refine g_callSI (As := [.long (((gLine (aS A) kb).getD kj (-1)).toInt64), .long 48, .long 57]) (F := wV G x uq60) E (mL_in (((gLine (aS A) kb).getD kj (-1)).toInt64) (48 : Int64) (57 : Int64)) gL_kept_L_in rfl hdL_in ⟨Nat.le_of_ble_eq_true rfl, Nat.le_of_ble_eq_true rfl⟩ (gPerm_rfl _) rfl rfl ?_ dL_kept_780 ⟨by show (csj + 14) + 0 ≤ 25000; omega, by show (ssj + 428) + 0 ≤ 400000; omega⟩ (fun rq61 uq61 hq61 => ?_)
                              · exact Nat.le_of_ble_eq_true rfl
                              refine g_ws (ws' := wV G x uq60) rfl ?_
                              refine g_top (y := if ¬ (((gLine (aS A) kb).getD kj (-1)).toInt64) < (48 : Int64) ∧ ¬ (57 : Int64) < (((gLine (aS A) kb).getD kj (-1)).toInt64) then 1 else 0) hq61 ?_
                              refine g_if_eqB (tgt := 813) (P := (¬ (((gLine (aS A) kb).getD kj (-1)).toInt64) < (48 : Int64) ∧ ¬ (57 : Int64) < (((gLine (aS A) kb).getD kj (-1)).toInt64))) E dL_kept_783 (by decide) (fun c62 => ?_) (fun c62 => ?_)
                              · skip
                                have hjD : kj = gDc (bk (sB (aS A)) kb 0) := by
                                  rcases Nat.lt_or_ge kj (gDc (bk (sB (aS A)) kb 0)) with q | q
                                  · exfalso
                                    refine c62 ?_
                                    rw [gLn_d hh1 hh2 hh3 hh4 q]
                                    exact digQ_yes (by omega)
                                  · omega
                                subst hjD
                                refine g_iload E dL_kept_813 4 rfl ?_
                                refine g_if_eq (tgt := 1011) E dL_kept_815 (by decide) (fun c => absurd c (by decide)) (fun _ => ?_)
                                refine g_iload E dL_kept_818 15 rfl ?_
                                refine g_if_leN (tgt := 1011) (a := gDc (bk (sB (aS A)) kb 0)) E dL_kept_820 (by decide) (by omega) (fun c63 => ?_) (fun c63 => ?_)
                                · exfalso
                                  have := (gDc_le (bk (sB (aS A)) kb 0)).1; omega
                                · skip
                                  refine g_lload E dL_kept_823 16 rfl ?_
                                  refine g_lload E dL_kept_825 12 rfl ?_
                                  refine g_lcmp E dL_kept_827 ?_
                                  refine g_if_ne (tgt := 1011) E dL_kept_828 (by decide) (fun c => absurd (gCmp_eq.mpr (by rw [Nat.sub_self, Nat.pow_zero, Nat.div_one, gI64 _ (by omega)])) c) (fun _ => ?_)
                                  refine g_aload_n E dL_kept_831 rfl 0 rfl ?_
                                  refine g_iload E dL_kept_832 11 rfl ?_
                                  refine g_iload E dL_kept_834 15 rfl ?_
                                  refine g_callSWL (As := [.ref (x.1 0), .int (nI kb), .int (nI (gDc (bk (sB (aS A)) kb 0)))]) (F := []) E (wL_line (x := x) hST hA hb5 hCq60 (nI kb) (nI (gDc (bk (sB (aS A)) kb 0)))) gL_kept_L_line rfl hdL_line ⟨Nat.le_of_ble_eq_true rfl, Nat.le_of_ble_eq_true rfl⟩ gPerm_n rfl rfl ?_ dL_kept_836 ⟨by show (csj + 14) + 14 ≤ 25000; omega, by show (ssj + 428) + 428 ≤ 400000; omega⟩ (fun rq64 uq64 hq64 => ?_)
                                  · exact Nat.le_of_ble_eq_true rfl
                                  refine g_perm (ws1 := wV G x uq64) gPerm_n' ?_
                                  obtain ⟨eq64, hCq64⟩ := hq64
                                  rw [show fLine A (nI kb) (nI (gDc (bk (sB (aS A)) kb 0))) = _ from fLine_in (A := A) (k := kb) (j := gDc (bk (sB (aS A)) kb 0)) (by omega) hn24 (by omega)] at eq64 hCq64
                                  refine g_topL (y := ((gLine (aS A) kb).getD (gDc (bk (sB (aS A)) kb 0)) (-1)).toInt64) (eq64.trans (gCd_a rfl)) ?_
                                  refine g_topL (y := (100 : Int32).toInt64) (congrArg Int32.toInt64 (gLn_c0 hh1 hh2 hh3 hh4)) ?_
                                  refine g_ldc2 (v := 100) E kL_kept_230 dL_kept_839 ?_
                                  refine g_lcmp E dL_kept_842 ?_
                                  refine g_if_ne (tgt := 1011) E dL_kept_843 (by decide) (fun c => absurd (gCmp_eq.mpr rfl) c) (fun _ => ?_)
                                  refine g_aload_n E dL_kept_846 rfl 0 rfl ?_
                                  refine g_iload E dL_kept_847 11 rfl ?_
                                  refine g_iload E dL_kept_849 15 rfl ?_
                                  refine g_iconst (v := 1) E dL_kept_851 (by decide) ?_
                                  refine g_iaddN (a := gDc (bk (sB (aS A)) kb 0)) (b := 1) E dL_kept_852 ?_
                                  refine g_callSWL (As := [.ref (x.1 0), .int (nI kb), .int (nI (gDc (bk (sB (aS A)) kb 0) + 1))]) (F := []) E (wL_line (x := x) hST hA hb5 hCq64 (nI kb) (nI (gDc (bk (sB (aS A)) kb 0) + 1))) gL_kept_L_line rfl hdL_line ⟨Nat.le_of_ble_eq_true rfl, Nat.le_of_ble_eq_true rfl⟩ gPerm_n rfl rfl ?_ dL_kept_853 ⟨by show (csj + 28) + 14 ≤ 25000; omega, by show (ssj + 856) + 428 ≤ 400000; omega⟩ (fun rq65 uq65 hq65 => ?_)
                                  · exact Nat.le_of_ble_eq_true rfl
                                  refine g_perm (ws1 := wV G x uq65) gPerm_n' ?_
                                  obtain ⟨eq65, hCq65⟩ := hq65
                                  rw [show fLine A (nI kb) (nI (gDc (bk (sB (aS A)) kb 0) + 1)) = _ from fLine_in (A := A) (k := kb) (j := gDc (bk (sB (aS A)) kb 0) + 1) (by omega) hn24 (by omega)] at eq65 hCq65
                                  refine g_topL (y := ((gLine (aS A) kb).getD (gDc (bk (sB (aS A)) kb 0) + 1) (-1)).toInt64) (eq65.trans (gCd_a rfl)) ?_
                                  refine g_topL (y := (nI (48 + bk (sB (aS A)) kb 1)).toInt64) (congrArg Int32.toInt64 (gLn_c hh1 hh2 hh3 hh4 (i := 1) (by decide))) ?_
                                  refine g_ldc2 (v := 48) E kL_kept_224 dL_kept_856 ?_
                                  refine g_aload_n E dL_kept_859 rfl 0 rfl ?_
                                  refine g_iload E dL_kept_860 11 rfl ?_
                                  refine g_iconst (v := 1) E dL_kept_862 (by decide) ?_
                                  refine g_callSWL (As := [.ref (x.1 0), .int (nI kb), .int 1]) (F := []) E (wL_booking (x := x) hST hA hb5 hCq65 (nI kb) (1 : Int32)) gL_kept_L_booking rfl hdL_booking ⟨Nat.le_of_ble_eq_true rfl, Nat.le_of_ble_eq_true rfl⟩ gPerm_n rfl rfl ?_ dL_kept_863 ⟨by show (csj + 42) + 1 ≤ 25000; omega, by show (ssj + 1284) + 6 ≤ 400000; omega⟩ (fun rq66 uq66 hq66 => ?_)
                                  · exact Nat.le_of_ble_eq_true rfl
                                  refine g_perm (ws1 := wV G x uq66) gPerm_n' ?_
                                  obtain ⟨eq66, hCq66⟩ := hq66
                                  rw [show fBkng A (nI kb) (1 : Int32) = _ from fBkng_in (A := A) (j := kb) (k := 1) (by omega) hn24 rfl (by omega)] at eq66 hCq66
                                  refine g_topL (y := (nI (bk (sB (aS A)) kb 1)).toInt64) (eq66.trans (gCd_a rfl)) ?_
                                  refine g_ladd E dL_kept_866 ?_
                                  refine g_lcmp E dL_kept_867 ?_
                                  refine g_if_ne (tgt := 1011) E dL_kept_868 (by decide) (fun c => absurd (gCmp_eq.mpr (g48 (by omega)).symm) c) (fun _ => ?_)
                                  refine g_aload_n E dL_kept_871 rfl 0 rfl ?_
                                  refine g_iload E dL_kept_872 11 rfl ?_
                                  refine g_iload E dL_kept_874 15 rfl ?_
                                  refine g_iconst (v := 2) E dL_kept_876 (by decide) ?_
                                  refine g_iaddN (a := gDc (bk (sB (aS A)) kb 0)) (b := 2) E dL_kept_877 ?_
                                  refine g_callSWL (As := [.ref (x.1 0), .int (nI kb), .int (nI (gDc (bk (sB (aS A)) kb 0) + 2))]) (F := []) E (wL_line (x := x) hST hA hb5 hCq66 (nI kb) (nI (gDc (bk (sB (aS A)) kb 0) + 2))) gL_kept_L_line rfl hdL_line ⟨Nat.le_of_ble_eq_true rfl, Nat.le_of_ble_eq_true rfl⟩ gPerm_n rfl rfl ?_ dL_kept_878 ⟨by show (csj + 43) + 14 ≤ 25000; omega, by show (ssj + 1290) + 428 ≤ 400000; omega⟩ (fun rq67 uq67 hq67 => ?_)
                                  · exact Nat.le_of_ble_eq_true rfl
                                  refine g_perm (ws1 := wV G x uq67) gPerm_n' ?_
                                  obtain ⟨eq67, hCq67⟩ := hq67
                                  rw [show fLine A (nI kb) (nI (gDc (bk (sB (aS A)) kb 0) + 2)) = _ from fLine_in (A := A) (k := kb) (j := gDc (bk (sB (aS A)) kb 0) + 2) (by omega) hn24 (by omega)] at eq67 hCq67
                                  refine g_topL (y := ((gLine (aS A) kb).getD (gDc (bk (sB (aS A)) kb 0) + 2) (-1)).toInt64) (eq67.trans (gCd_a rfl)) ?_
                                  refine g_topL (y := (104 : Int32).toInt64) (congrArg Int32.toInt64 (gLn_c hh1 hh2 hh3 hh4 (i := 2) (by decide))) ?_
                                  refine g_ldc2 (v := 104) E kL_kept_232 dL_kept_881 ?_
                                  refine g_lcmp E dL_kept_884 ?_
                                  refine g_if_ne (tgt := 1011) E dL_kept_885 (by decide) (fun c => absurd (gCmp_eq.mpr rfl) c) (fun _ => ?_)
                                  refine g_aload_n E dL_kept_888 rfl 0 rfl ?_
                                  refine g_iload E dL_kept_889 11 rfl ?_
                                  refine g_iload E dL_kept_891 15 rfl ?_
                                  refine g_iconst (v := 3) E dL_kept_893 (by decide) ?_
                                  refine g_iaddN (a := gDc (bk (sB (aS A)) kb 0)) (b := 3) E dL_kept_894 ?_
                                  refine g_callSWL (As := [.ref (x.1 0), .int (nI kb), .int (nI (gDc (bk (sB (aS A)) kb 0) + 3))]) (F := []) E (wL_line (x := x) hST hA hb5 hCq67 (nI kb) (nI (gDc (bk (sB (aS A)) kb 0) + 3))) gL_kept_L_line rfl hdL_line ⟨Nat.le_of_ble_eq_true rfl, Nat.le_of_ble_eq_true rfl⟩ gPerm_n rfl rfl ?_ dL_kept_895 ⟨by show (csj + 57) + 14 ≤ 25000; omega, by show (ssj + 1718) + 428 ≤ 400000; omega⟩ (fun rq68 uq68 hq68 => ?_)
                                  · exact Nat.le_of_ble_eq_true rfl
                                  refine g_perm (ws1 := wV G x uq68) gPerm_n' ?_
                                  obtain ⟨eq68, hCq68⟩ := hq68
                                  rw [show fLine A (nI kb) (nI (gDc (bk (sB (aS A)) kb 0) + 3)) = _ from fLine_in (A := A) (k := kb) (j := gDc (bk (sB (aS A)) kb 0) + 3) (by omega) hn24 (by omega)] at eq68 hCq68
                                  refine g_topL (y := ((gLine (aS A) kb).getD (gDc (bk (sB (aS A)) kb 0) + 3) (-1)).toInt64) (eq68.trans (gCd_a rfl)) ?_
                                  refine g_topL (y := (nI (48 + bk (sB (aS A)) kb 2)).toInt64) (congrArg Int32.toInt64 (gLn_c hh1 hh2 hh3 hh4 (i := 3) (by decide))) ?_
                                  refine g_ldc2 (v := 48) E kL_kept_224 dL_kept_898 ?_
                                  refine g_aload_n E dL_kept_901 rfl 0 rfl ?_
                                  refine g_iload E dL_kept_902 11 rfl ?_
                                  refine g_iconst (v := 2) E dL_kept_904 (by decide) ?_
                                  refine g_callSWL (As := [.ref (x.1 0), .int (nI kb), .int 2]) (F := []) E (wL_booking (x := x) hST hA hb5 hCq68 (nI kb) (2 : Int32)) gL_kept_L_booking rfl hdL_booking ⟨Nat.le_of_ble_eq_true rfl, Nat.le_of_ble_eq_true rfl⟩ gPerm_n rfl rfl ?_ dL_kept_905 ⟨by show (csj + 71) + 1 ≤ 25000; omega, by show (ssj + 2146) + 6 ≤ 400000; omega⟩ (fun rq69 uq69 hq69 => ?_)
                                  · exact Nat.le_of_ble_eq_true rfl
                                  refine g_perm (ws1 := wV G x uq69) gPerm_n' ?_
                                  obtain ⟨eq69, hCq69⟩ := hq69
                                  rw [show fBkng A (nI kb) (2 : Int32) = _ from fBkng_in (A := A) (j := kb) (k := 2) (by omega) hn24 rfl (by omega)] at eq69 hCq69
                                  refine g_topL (y := (nI (bk (sB (aS A)) kb 2)).toInt64) (eq69.trans (gCd_a rfl)) ?_
                                  refine g_ladd E dL_kept_908 ?_
                                  refine g_lcmp E dL_kept_909 ?_
                                  refine g_if_ne (tgt := 1011) E dL_kept_910 (by decide) (fun c => absurd (gCmp_eq.mpr (g48 (by omega)).symm) c) (fun _ => ?_)
                                  refine g_aload_n E dL_kept_913 rfl 0 rfl ?_
                                  refine g_iload E dL_kept_914 11 rfl ?_
                                  refine g_iload E dL_kept_916 15 rfl ?_
                                  refine g_iconst (v := 4) E dL_kept_918 (by decide) ?_
                                  refine g_iaddN (a := gDc (bk (sB (aS A)) kb 0)) (b := 4) E dL_kept_919 ?_
                                  refine g_callSWL (As := [.ref (x.1 0), .int (nI kb), .int (nI (gDc (bk (sB (aS A)) kb 0) + 4))]) (F := []) E (wL_line (x := x) hST hA hb5 hCq69 (nI kb) (nI (gDc (bk (sB (aS A)) kb 0) + 4))) gL_kept_L_line rfl hdL_line ⟨Nat.le_of_ble_eq_true rfl, Nat.le_of_ble_eq_true rfl⟩ gPerm_n rfl rfl ?_ dL_kept_920 ⟨by show (csj + 72) + 14 ≤ 25000; omega, by show (ssj + 2152) + 428 ≤ 400000; omega⟩ (fun rq70 uq70 hq70 => ?_)
                                  · exact Nat.le_of_ble_eq_true rfl
                                  refine g_perm (ws1 := wV G x uq70) gPerm_n' ?_
                                  obtain ⟨eq70, hCq70⟩ := hq70
                                  rw [show fLine A (nI kb) (nI (gDc (bk (sB (aS A)) kb 0) + 4)) = _ from fLine_in (A := A) (k := kb) (j := gDc (bk (sB (aS A)) kb 0) + 4) (by omega) hn24 (by omega)] at eq70 hCq70
                                  refine g_topL (y := ((gLine (aS A) kb).getD (gDc (bk (sB (aS A)) kb 0) + 4) (-1)).toInt64) (eq70.trans (gCd_a rfl)) ?_
                                  refine g_topL (y := (32 : Int32).toInt64) (congrArg Int32.toInt64 (gLn_c hh1 hh2 hh3 hh4 (i := 4) (by decide))) ?_
                                  refine g_ldc2 (v := 32) E kL_kept_220 dL_kept_923 ?_
                                  refine g_lcmp E dL_kept_926 ?_
                                  refine g_if_ne (tgt := 1011) E dL_kept_927 (by decide) (fun c => absurd (gCmp_eq.mpr rfl) c) (fun _ => ?_)
                                  refine g_aload_n E dL_kept_930 rfl 0 rfl ?_
                                  refine g_iload E dL_kept_931 11 rfl ?_
                                  refine g_iload E dL_kept_933 15 rfl ?_
                                  refine g_iconst (v := 5) E dL_kept_935 (by decide) ?_
                                  refine g_iaddN (a := gDc (bk (sB (aS A)) kb 0)) (b := 5) E dL_kept_936 ?_
                                  refine g_callSWL (As := [.ref (x.1 0), .int (nI kb), .int (nI (gDc (bk (sB (aS A)) kb 0) + 5))]) (F := []) E (wL_line (x := x) hST hA hb5 hCq70 (nI kb) (nI (gDc (bk (sB (aS A)) kb 0) + 5))) gL_kept_L_line rfl hdL_line ⟨Nat.le_of_ble_eq_true rfl, Nat.le_of_ble_eq_true rfl⟩ gPerm_n rfl rfl ?_ dL_kept_937 ⟨by show (csj + 86) + 14 ≤ 25000; omega, by show (ssj + 2580) + 428 ≤ 400000; omega⟩ (fun rq71 uq71 hq71 => ?_)
                                  · exact Nat.le_of_ble_eq_true rfl
                                  refine g_perm (ws1 := wV G x uq71) gPerm_n' ?_
                                  obtain ⟨eq71, hCq71⟩ := hq71
                                  rw [show fLine A (nI kb) (nI (gDc (bk (sB (aS A)) kb 0) + 5)) = _ from fLine_in (A := A) (k := kb) (j := gDc (bk (sB (aS A)) kb 0) + 5) (by omega) hn24 (by omega)] at eq71 hCq71
                                  refine g_topL (y := ((gLine (aS A) kb).getD (gDc (bk (sB (aS A)) kb 0) + 5) (-1)).toInt64) (eq71.trans (gCd_a rfl)) ?_
                                  refine g_topL (y := (112 : Int32).toInt64) (congrArg Int32.toInt64 (gLn_c hh1 hh2 hh3 hh4 (i := 5) (by decide))) ?_
                                  refine g_ldc2 (v := 112) E kL_kept_234 dL_kept_940 ?_
                                  refine g_lcmp E dL_kept_943 ?_
                                  refine g_if_ne (tgt := 1011) E dL_kept_944 (by decide) (fun c => absurd (gCmp_eq.mpr rfl) c) (fun _ => ?_)
                                  refine g_aload_n E dL_kept_947 rfl 0 rfl ?_
                                  refine g_iload E dL_kept_948 11 rfl ?_
                                  refine g_iload E dL_kept_950 15 rfl ?_
                                  refine g_bipush (v := 6) E dL_kept_952 (by decide) ?_
                                  refine g_iaddN (a := gDc (bk (sB (aS A)) kb 0)) (b := 6) E dL_kept_954 ?_
                                  refine g_callSWL (As := [.ref (x.1 0), .int (nI kb), .int (nI (gDc (bk (sB (aS A)) kb 0) + 6))]) (F := []) E (wL_line (x := x) hST hA hb5 hCq71 (nI kb) (nI (gDc (bk (sB (aS A)) kb 0) + 6))) gL_kept_L_line rfl hdL_line ⟨Nat.le_of_ble_eq_true rfl, Nat.le_of_ble_eq_true rfl⟩ gPerm_n rfl rfl ?_ dL_kept_955 ⟨by show (csj + 100) + 14 ≤ 25000; omega, by show (ssj + 3008) + 428 ≤ 400000; omega⟩ (fun rq72 uq72 hq72 => ?_)
                                  · exact Nat.le_of_ble_eq_true rfl
                                  refine g_perm (ws1 := wV G x uq72) gPerm_n' ?_
                                  obtain ⟨eq72, hCq72⟩ := hq72
                                  rw [show fLine A (nI kb) (nI (gDc (bk (sB (aS A)) kb 0) + 6)) = _ from fLine_in (A := A) (k := kb) (j := gDc (bk (sB (aS A)) kb 0) + 6) (by omega) hn24 (by omega)] at eq72 hCq72
                                  refine g_topL (y := ((gLine (aS A) kb).getD (gDc (bk (sB (aS A)) kb 0) + 6) (-1)).toInt64) (eq72.trans (gCd_a rfl)) ?_
                                  refine g_topL (y := (nI (48 + bk (sB (aS A)) kb 3)).toInt64) (congrArg Int32.toInt64 (gLn_c hh1 hh2 hh3 hh4 (i := 6) (by decide))) ?_
                                  refine g_bipush (v := 48) E dL_kept_958 (by decide) ?_
                                  refine g_iload E dL_kept_960 13 rfl ?_
                                  refine g_iaddN (a := 48) (b := bk (sB (aS A)) kb 3) E dL_kept_962 ?_
                                  refine g_i2l (v := (nI (48 + (bk (sB (aS A)) kb 3))).toInt64) E dL_kept_963 rfl ?_
                                  refine g_lcmp E dL_kept_964 ?_
                                  refine g_if_ne (tgt := 1011) E dL_kept_965 (by decide) (fun c => absurd (gCmp_eq.mpr rfl) c) (fun _ => ?_)
                                  refine g_aload_n E dL_kept_968 rfl 0 rfl ?_
                                  refine g_iload E dL_kept_969 11 rfl ?_
                                  refine g_iload E dL_kept_971 15 rfl ?_
                                  refine g_bipush (v := 8) E dL_kept_973 (by decide) ?_
                                  refine g_iaddN (a := gDc (bk (sB (aS A)) kb 0)) (b := 8) E dL_kept_975 ?_
                                  refine g_callSWL (As := [.ref (x.1 0), .int (nI kb), .int (nI (gDc (bk (sB (aS A)) kb 0) + 8))]) (F := []) E (wL_line (x := x) hST hA hb5 hCq72 (nI kb) (nI (gDc (bk (sB (aS A)) kb 0) + 8))) gL_kept_L_line rfl hdL_line ⟨Nat.le_of_ble_eq_true rfl, Nat.le_of_ble_eq_true rfl⟩ gPerm_n rfl rfl ?_ dL_kept_976 ⟨by show (csj + 114) + 14 ≤ 25000; omega, by show (ssj + 3436) + 428 ≤ 400000; omega⟩ (fun rq73 uq73 hq73 => ?_)
                                  · exact Nat.le_of_ble_eq_true rfl
                                  refine g_perm (ws1 := wV G x uq73) gPerm_n' ?_
                                  obtain ⟨eq73, hCq73⟩ := hq73
                                  rw [show fLine A (nI kb) (nI (gDc (bk (sB (aS A)) kb 0) + 8)) = _ from fLine_in (A := A) (k := kb) (j := gDc (bk (sB (aS A)) kb 0) + 8) (by omega) hn24 (by omega)] at eq73 hCq73
                                  refine g_topL (y := ((gLine (aS A) kb).getD (gDc (bk (sB (aS A)) kb 0) + 8) (-1)).toInt64) (eq73.trans (gCd_a rfl)) ?_
                                  refine g_topL (y := (118 : Int32).toInt64) (congrArg Int32.toInt64 (gLn_c hh1 hh2 hh3 hh4 (i := 8) (by decide))) ?_
                                  refine g_ldc2 (v := 118) E kL_kept_236 dL_kept_979 ?_
                                  refine g_lcmp E dL_kept_982 ?_
                                  refine g_if_ne (tgt := 1011) E dL_kept_983 (by decide) (fun c => absurd (gCmp_eq.mpr rfl) c) (fun _ => ?_)
                                  refine g_aload_n E dL_kept_986 rfl 0 rfl ?_
                                  refine g_iload E dL_kept_987 11 rfl ?_
                                  refine g_iload E dL_kept_989 15 rfl ?_
                                  refine g_bipush (v := 9) E dL_kept_991 (by decide) ?_
                                  refine g_iaddN (a := gDc (bk (sB (aS A)) kb 0)) (b := 9) E dL_kept_993 ?_
                                  refine g_callSWL (As := [.ref (x.1 0), .int (nI kb), .int (nI (gDc (bk (sB (aS A)) kb 0) + 9))]) (F := []) E (wL_line (x := x) hST hA hb5 hCq73 (nI kb) (nI (gDc (bk (sB (aS A)) kb 0) + 9))) gL_kept_L_line rfl hdL_line ⟨Nat.le_of_ble_eq_true rfl, Nat.le_of_ble_eq_true rfl⟩ gPerm_n rfl rfl ?_ dL_kept_994 ⟨by show (csj + 128) + 14 ≤ 25000; omega, by show (ssj + 3864) + 428 ≤ 400000; omega⟩ (fun rq74 uq74 hq74 => ?_)
                                  · exact Nat.le_of_ble_eq_true rfl
                                  refine g_perm (ws1 := wV G x uq74) gPerm_n' ?_
                                  obtain ⟨eq74, hCq74⟩ := hq74
                                  rw [show fLine A (nI kb) (nI (gDc (bk (sB (aS A)) kb 0) + 9)) = _ from fLine_in (A := A) (k := kb) (j := gDc (bk (sB (aS A)) kb 0) + 9) (by omega) hn24 (by omega)] at eq74 hCq74
                                  refine g_topL (y := ((gLine (aS A) kb).getD (gDc (bk (sB (aS A)) kb 0) + 9) (-1)).toInt64) (eq74.trans (gCd_a rfl)) ?_
                                  refine g_topL (y := (nI (48 + bk (sB (aS A)) kb 4)).toInt64) (congrArg Int32.toInt64 (gLn_c hh1 hh2 hh3 hh4 (i := 9) (by decide))) ?_
                                  refine g_bipush (v := 48) E dL_kept_997 (by decide) ?_
                                  refine g_iload E dL_kept_999 14 rfl ?_
                                  refine g_iaddN (a := 48) (b := bk (sB (aS A)) kb 4) E dL_kept_1001 ?_
                                  refine g_i2l (v := (nI (48 + (bk (sB (aS A)) kb 4))).toInt64) E dL_kept_1002 rfl ?_
                                  refine g_lcmp E dL_kept_1003 ?_
                                  refine g_if_ne (tgt := 1011) E dL_kept_1004 (by decide) (fun c => absurd (gCmp_eq.mpr rfl) c) (fun _ => ?_)
                                  refine g_iconst (v := 1) E dL_kept_1007 (by decide) ?_
                                  refine g_goto (tgt := 1012) E dL_kept_1008 (by decide) ?_
                                  refine g_istore (lv' := [(5, .int 1), (0, .ref (x.1 0)), (1, .int (nI (sN (aS A) 1))), (2, .int (nI ((sB (aS A)).length))), (3, .long ((nI (sN (aS A) 0)).toInt64)), (6, .long (Int64.ofNat (gSum nf (sN (aS A) 1)))), (8, .long (Int64.ofNat (gSum (fun p => gCnt (fun k => bk (sB (aS A)) k 3 == p) (sB (aS A)).length) (sN (aS A) 1)))), (10, .long (Int64.ofNat (gSum (fun p => gCnt (fun i => wq (sW (aS A)) i / 10 == p) (sW (aS A)).length) (sN (aS A) 1)))), (12, .long (Int64.ofNat (gCnt (fun j => decide (nI (sN (aS A) 0) < sI (aS A) 2 j)) (sN (aS A) 1)))), (14, .long (Int64.ofNat (gSum (fun v => gCnt (fun k => bk (sB (aS A)) k 4 == v) (sB (aS A)).length) 10))), (16, .long (Int64.ofNat (gCnt (fun j => decide (nI (sN (aS A) 0) < sI (aS A) 7 j)) 10))), (18, .int (nI kb)), (19, .long ((nI (bk (sB (aS A)) kb 0)).toInt64)), (21, .int (nI (bk (sB (aS A)) kb 3))), (22, .int (nI (bk (sB (aS A)) kb 4))), (23, .int (nI (gDc (bk (sB (aS A)) kb 0)))), (24, .long (Int64.ofNat (bk (sB (aS A)) kb 0 / 10 ^ (gDc (bk (sB (aS A)) kb 0) - (gDc (bk (sB (aS A)) kb 0))))))]) E dL_kept_1012 (by decide) rfl ?_
                                  refine g_iinc (lv' := [(23, .int (nI (gDc (bk (sB (aS A)) kb 0) + 10))), (5, .int 1), (0, .ref (x.1 0)), (1, .int (nI (sN (aS A) 1))), (2, .int (nI ((sB (aS A)).length))), (3, .long ((nI (sN (aS A) 0)).toInt64)), (6, .long (Int64.ofNat (gSum nf (sN (aS A) 1)))), (8, .long (Int64.ofNat (gSum (fun p => gCnt (fun k => bk (sB (aS A)) k 3 == p) (sB (aS A)).length) (sN (aS A) 1)))), (10, .long (Int64.ofNat (gSum (fun p => gCnt (fun i => wq (sW (aS A)) i / 10 == p) (sW (aS A)).length) (sN (aS A) 1)))), (12, .long (Int64.ofNat (gCnt (fun j => decide (nI (sN (aS A) 0) < sI (aS A) 2 j)) (sN (aS A) 1)))), (14, .long (Int64.ofNat (gSum (fun v => gCnt (fun k => bk (sB (aS A)) k 4 == v) (sB (aS A)).length) 10))), (16, .long (Int64.ofNat (gCnt (fun j => decide (nI (sN (aS A) 0) < sI (aS A) 7 j)) 10))), (18, .int (nI kb)), (19, .long ((nI (bk (sB (aS A)) kb 0)).toInt64)), (21, .int (nI (bk (sB (aS A)) kb 3))), (22, .int (nI (bk (sB (aS A)) kb 4))), (24, .long (Int64.ofNat (bk (sB (aS A)) kb 0 / 10 ^ (gDc (bk (sB (aS A)) kb 0) - (gDc (bk (sB (aS A)) kb 0))))))]) E dL_kept_1014 15 rfl (g_inc _ 10 (by decide)) (by decide) rfl ?_
                                  refine g_aload_n E dL_kept_1017 rfl 2 rfl ?_
                                  refine g_iload E dL_kept_1018 12 rfl ?_
                                  refine g_iload E dL_kept_1020 0 rfl ?_
                                  refine g_callSWL (As := [.ref (x.1 0), .int (nI kb), .int (nI (gDc (bk (sB (aS A)) kb 0) + 10))]) (F := []) E (wL_line (x := x) hST hA hb5 hCq74 (nI kb) (nI (gDc (bk (sB (aS A)) kb 0) + 10))) gL_kept_L_line rfl hdL_line ⟨Nat.le_of_ble_eq_true rfl, Nat.le_of_ble_eq_true rfl⟩ gPerm_n rfl rfl ?_ dL_kept_1022 ⟨by show (csj + 142) + 14 ≤ 25000; omega, by show (ssj + 4292) + 428 ≤ 400000; omega⟩ (fun rq75 uq75 hq75 => ?_)
                                  · exact Nat.le_of_ble_eq_true rfl
                                  refine g_perm (ws1 := wV G x uq75) gPerm_n' ?_
                                  obtain ⟨eq75, hCq75⟩ := hq75
                                  rw [show fLine A (nI kb) (nI (gDc (bk (sB (aS A)) kb 0) + 10)) = _ from fLine_in (A := A) (k := kb) (j := gDc (bk (sB (aS A)) kb 0) + 10) (by omega) hn24 (by omega)] at eq75 hCq75
                                  refine g_topL (y := ((gLine (aS A) kb).getD (gDc (bk (sB (aS A)) kb 0) + 10) (-1)).toInt64) (eq75.trans (gCd_a rfl)) ?_
                                  refine g_ldc2 (v := 43) E kL_kept_238 dL_kept_1025 ?_
                                  refine g_lcmp E dL_kept_1028 ?_
                                  refine g_if_ne (tgt := 1036) E dL_kept_1029 (by decide) (fun c76 => ?_) (fun c76 => ?_)
                                  · skip
                                    have hm0 : ¬ 0 < bk (sB (aS A)) kb 5 := fun q => c76 ((gLate_iff hh1 hh2 hh3 hh4).mpr q)
                                    refine g_iconst (v := 0) E dL_kept_1036 (by decide) ?_
                                    refine g_istore (lv' := [(26, .int 0), (23, .int (nI (gDc (bk (sB (aS A)) kb 0) + 10))), (5, .int 1), (0, .ref (x.1 0)), (1, .int (nI (sN (aS A) 1))), (2, .int (nI ((sB (aS A)).length))), (3, .long ((nI (sN (aS A) 0)).toInt64)), (6, .long (Int64.ofNat (gSum nf (sN (aS A) 1)))), (8, .long (Int64.ofNat (gSum (fun p => gCnt (fun k => bk (sB (aS A)) k 3 == p) (sB (aS A)).length) (sN (aS A) 1)))), (10, .long (Int64.ofNat (gSum (fun p => gCnt (fun i => wq (sW (aS A)) i / 10 == p) (sW (aS A)).length) (sN (aS A) 1)))), (12, .long (Int64.ofNat (gCnt (fun j => decide (nI (sN (aS A) 0) < sI (aS A) 2 j)) (sN (aS A) 1)))), (14, .long (Int64.ofNat (gSum (fun v => gCnt (fun k => bk (sB (aS A)) k 4 == v) (sB (aS A)).length) 10))), (16, .long (Int64.ofNat (gCnt (fun j => decide (nI (sN (aS A) 0) < sI (aS A) 7 j)) 10))), (18, .int (nI kb)), (19, .long ((nI (bk (sB (aS A)) kb 0)).toInt64)), (21, .int (nI (bk (sB (aS A)) kb 3))), (22, .int (nI (bk (sB (aS A)) kb 4))), (24, .long (Int64.ofNat (bk (sB (aS A)) kb 0 / 10 ^ (gDc (bk (sB (aS A)) kb 0) - (gDc (bk (sB (aS A)) kb 0))))))]) E dL_kept_1037 (by decide) rfl ?_
                                    refine g_lconst (v := 0) E dL_kept_1039 (by decide) ?_
                                    refine g_topL (y := Int64.ofNat (bk (sB (aS A)) kb 5 / 10 ^ (0 - 0))) (by rw [Nat.sub_zero, Nat.pow_zero, Nat.div_one, show bk (sB (aS A)) kb 5 = 0 by omega]; rfl) ?_
                                    refine g_lstore (lv' := [(24, .long (Int64.ofNat (bk (sB (aS A)) kb 5 / 10 ^ (0 - 0)))), (26, .int 0), (23, .int (nI (gDc (bk (sB (aS A)) kb 0) + 10))), (5, .int 1), (0, .ref (x.1 0)), (1, .int (nI (sN (aS A) 1))), (2, .int (nI ((sB (aS A)).length))), (3, .long ((nI (sN (aS A) 0)).toInt64)), (6, .long (Int64.ofNat (gSum nf (sN (aS A) 1)))), (8, .long (Int64.ofNat (gSum (fun p => gCnt (fun k => bk (sB (aS A)) k 3 == p) (sB (aS A)).length) (sN (aS A) 1)))), (10, .long (Int64.ofNat (gSum (fun p => gCnt (fun i => wq (sW (aS A)) i / 10 == p) (sW (aS A)).length) (sN (aS A) 1)))), (12, .long (Int64.ofNat (gCnt (fun j => decide (nI (sN (aS A) 0) < sI (aS A) 2 j)) (sN (aS A) 1)))), (14, .long (Int64.ofNat (gSum (fun v => gCnt (fun k => bk (sB (aS A)) k 4 == v) (sB (aS A)).length) 10))), (16, .long (Int64.ofNat (gCnt (fun j => decide (nI (sN (aS A) 0) < sI (aS A) 7 j)) 10))), (18, .int (nI kb)), (19, .long ((nI (bk (sB (aS A)) kb 0)).toInt64)), (21, .int (nI (bk (sB (aS A)) kb 3))), (22, .int (nI (bk (sB (aS A)) kb 4)))]) E dL_kept_1040 (by decide) rfl ?_
                                    refine g_iload E dL_kept_1042 2 rfl ?_
                                    refine g_iload E dL_kept_1044 1 rfl ?_
                                    refine g_if_eq (tgt := 1053) E dL_kept_1046 (by decide) (fun _ => ?_) (fun c => absurd c (by decide))
                                    refine g_iconst (v := 0) E dL_kept_1053 (by decide) ?_
                                    refine g_iaddN (a := gDc (bk (sB (aS A)) kb 0) + 10) (b := 0) E dL_kept_1054 ?_
                                    refine g_istore (lv' := [(23, .int (nI (gDc (bk (sB (aS A)) kb 0) + 10))), (24, .long (Int64.ofNat (bk (sB (aS A)) kb 5 / 10 ^ (0 - 0)))), (26, .int 0), (5, .int 1), (0, .ref (x.1 0)), (1, .int (nI (sN (aS A) 1))), (2, .int (nI ((sB (aS A)).length))), (3, .long ((nI (sN (aS A) 0)).toInt64)), (6, .long (Int64.ofNat (gSum nf (sN (aS A) 1)))), (8, .long (Int64.ofNat (gSum (fun p => gCnt (fun k => bk (sB (aS A)) k 3 == p) (sB (aS A)).length) (sN (aS A) 1)))), (10, .long (Int64.ofNat (gSum (fun p => gCnt (fun i => wq (sW (aS A)) i / 10 == p) (sW (aS A)).length) (sN (aS A) 1)))), (12, .long (Int64.ofNat (gCnt (fun j => decide (nI (sN (aS A) 0) < sI (aS A) 2 j)) (sN (aS A) 1)))), (14, .long (Int64.ofNat (gSum (fun v => gCnt (fun k => bk (sB (aS A)) k 4 == v) (sB (aS A)).length) 10))), (16, .long (Int64.ofNat (gCnt (fun j => decide (nI (sN (aS A) 0) < sI (aS A) 7 j)) 10))), (18, .int (nI kb)), (19, .long ((nI (bk (sB (aS A)) kb 0)).toInt64)), (21, .int (nI (bk (sB (aS A)) kb 3))), (22, .int (nI (bk (sB (aS A)) kb 4)))]) E dL_kept_1055 (by decide) rfl ?_
                                    have loop77 : ∀ (n78 : Nat) (kl : Nat) (ul : gVu) (csl : Nat) (ssl : Nat), (kl ≤ 0) → (gClsI A ul) → (csl ≤ (csj + 156) + 28 * kl) → (ssl ≤ (ssj + 4720) + 856 * kl) → 0 - kl < n78 → gW V 28 csl ssl (wV G x ul) [(0, .ref (x.1 0)), (1, .int (nI (sN (aS A) 1))), (2, .int (nI ((sB (aS A)).length))), (3, .long ((nI (sN (aS A) 0)).toInt64)), (5, .int 1), (6, .long (Int64.ofNat (gSum nf (sN (aS A) 1)))), (8, .long (Int64.ofNat (gSum (fun p => gCnt (fun k => bk (sB (aS A)) k 3 == p) (sB (aS A)).length) (sN (aS A) 1)))), (10, .long (Int64.ofNat (gSum (fun p => gCnt (fun i => wq (sW (aS A)) i / 10 == p) (sW (aS A)).length) (sN (aS A) 1)))), (12, .long (Int64.ofNat (gCnt (fun j => decide (nI (sN (aS A) 0) < sI (aS A) 2 j)) (sN (aS A) 1)))), (14, .long (Int64.ofNat (gSum (fun v => gCnt (fun k => bk (sB (aS A)) k 4 == v) (sB (aS A)).length) 10))), (16, .long (Int64.ofNat (gCnt (fun j => decide (nI (sN (aS A) 0) < sI (aS A) 7 j)) 10))), (18, .int (nI kb)), (19, .long ((nI (bk (sB (aS A)) kb 0)).toInt64)), (21, .int (nI (bk (sB (aS A)) kb 3))), (22, .int (nI (bk (sB (aS A)) kb 4))), (23, .int (nI (gDc (bk (sB (aS A)) kb 0) + 10 + kl))), (24, .long (Int64.ofNat (bk (sB (aS A)) kb 5 / 10 ^ (0 - kl)))), (26, .int 0)] 1057 [] := by
                                      intro n78
                                      induction n78 with
                                      | zero => intro kl ul csl ssl hkl hCl hcl hsl hm80; exact absurd hm80 (Nat.not_lt_zero _)
                                      | succ n78 ih79 =>
                                        intro kl ul csl ssl hkl hCl hcl hsl hm80
                                        refine g_aload_n E dL_kept_1057 rfl 0 rfl ?_
                                        refine g_iload E dL_kept_1058 11 rfl ?_
                                        refine g_iload E dL_kept_1060 15 rfl ?_
                                        refine g_callSWL (As := [.ref (x.1 0), .int (nI kb), .int (nI (gDc (bk (sB (aS A)) kb 0) + 10 + kl))]) (F := []) E (wL_line (x := x) hST hA hb5 hCl (nI kb) (nI (gDc (bk (sB (aS A)) kb 0) + 10 + kl))) gL_kept_L_line rfl hdL_line ⟨Nat.le_of_ble_eq_true rfl, Nat.le_of_ble_eq_true rfl⟩ gPerm_n rfl rfl ?_ dL_kept_1062 ⟨by show csl + 14 ≤ 25000; omega, by show ssl + 428 ≤ 400000; omega⟩ (fun rq81 uq81 hq81 => ?_)
                                        · exact Nat.le_of_ble_eq_true rfl
                                        refine g_perm (ws1 := wV G x uq81) gPerm_n' ?_
                                        obtain ⟨eq81, hCq81⟩ := hq81
                                        rw [show fLine A (nI kb) (nI (gDc (bk (sB (aS A)) kb 0) + 10 + kl)) = _ from fLine_in (A := A) (k := kb) (j := gDc (bk (sB (aS A)) kb 0) + 10 + kl) (by omega) hn24 (by have := (gDc_le (bk (sB (aS A)) kb 0)).2; have := (gDc_le (bk (sB (aS A)) kb 5)).2; omega)] at eq81 hCq81
                                        refine g_topL (y := ((gLine (aS A) kb).getD (gDc (bk (sB (aS A)) kb 0) + 10 + kl) (-1)).toInt64) (eq81.trans (gCd_a rfl)) ?_
                                        refine g_ldc2 (v := 48) E kL_kept_224 dL_kept_1065 ?_
                                        refine g_ldc2 (v := 57) E kL_kept_226 dL_kept_1068 ?_
                                        refine g_callSI (As := [.long (((gLine (aS A) kb).getD (gDc (bk (sB (aS A)) kb 0) + 10 + kl) (-1)).toInt64), .long 48, .long 57]) (F := wV G x uq81) E (mL_in (((gLine (aS A) kb).getD (gDc (bk (sB (aS A)) kb 0) + 10 + kl) (-1)).toInt64) (48 : Int64) (57 : Int64)) gL_kept_L_in rfl hdL_in ⟨Nat.le_of_ble_eq_true rfl, Nat.le_of_ble_eq_true rfl⟩ (gPerm_rfl _) rfl rfl ?_ dL_kept_1071 ⟨by show (csl + 14) + 0 ≤ 25000; omega, by show (ssl + 428) + 0 ≤ 400000; omega⟩ (fun rq82 uq82 hq82 => ?_)
                                        · exact Nat.le_of_ble_eq_true rfl
                                        refine g_ws (ws' := wV G x uq81) rfl ?_
                                        refine g_top (y := if ¬ (((gLine (aS A) kb).getD (gDc (bk (sB (aS A)) kb 0) + 10 + kl) (-1)).toInt64) < (48 : Int64) ∧ ¬ (57 : Int64) < (((gLine (aS A) kb).getD (gDc (bk (sB (aS A)) kb 0) + 10 + kl) (-1)).toInt64) then 1 else 0) hq82 ?_
                                        refine g_if_eqB (tgt := 1104) (P := (¬ (((gLine (aS A) kb).getD (gDc (bk (sB (aS A)) kb 0) + 10 + kl) (-1)).toInt64) < (48 : Int64) ∧ ¬ (57 : Int64) < (((gLine (aS A) kb).getD (gDc (bk (sB (aS A)) kb 0) + 10 + kl) (-1)).toInt64))) E dL_kept_1074 (by decide) (fun c83 => ?_) (fun c83 => ?_)
                                        · skip
                                          obtain rfl : kl = 0 := by omega
                                          refine g_lload E dL_kept_1104 12 rfl ?_
                                          refine g_aload_n E dL_kept_1106 rfl 0 rfl ?_
                                          refine g_iload E dL_kept_1107 13 rfl ?_
                                          refine g_iconst (v := 2) E dL_kept_1109 (by decide) ?_
                                          refine g_callSWL (As := [.ref (x.1 0), .int (nI (bk (sB (aS A)) kb 3)), .int 2]) (F := []) E (wL_prisoner (x := x) hST hA hb5 hCq81 (nI (bk (sB (aS A)) kb 3)) (2 : Int32)) gL_kept_L_prisoner rfl hdL_prisoner ⟨Nat.le_of_ble_eq_true rfl, Nat.le_of_ble_eq_true rfl⟩ gPerm_n rfl rfl ?_ dL_kept_1110 ⟨by show (csl + 14) + 1 ≤ 25000; omega, by show (ssl + 428) + 6 ≤ 400000; omega⟩ (fun rq84 uq84 hq84 => ?_)
                                          · exact Nat.le_of_ble_eq_true rfl
                                          refine g_perm (ws1 := wV G x uq84) gPerm_n' ?_
                                          obtain ⟨eq84, hCq84⟩ := hq84
                                          rw [show fPris A (nI (bk (sB (aS A)) kb 3)) (2 : Int32) = _ from fPr_2 (A := A) (p := (bk (sB (aS A)) kb 3)) (by omega) h8] at eq84 hCq84
                                          refine g_topL (y := (sI (aS A) 2 (bk (sB (aS A)) kb 3)).toInt64) (eq84.trans (gCd_a rfl)) ?_
                                          refine g_lcmp E dL_kept_1113 ?_
                                          refine g_if_lt (tgt := 1130) E dL_kept_1114 (by decide) (fun c85 => ?_) (fun c85 => ?_)
                                          · skip
                                            have hnt : (nI (bk (sB (aS A)) kb 0) < sI (aS A) 2 (bk (sB (aS A)) kb 3) ∨ nI (bk (sB (aS A)) kb 0) < sI (aS A) 7 (bk (sB (aS A)) kb 4)) := Or.inl (gLt64.mp (gCmp_lt.mp c85))
                                            refine g_iconst (v := 1) E dL_kept_1130 (by decide) ?_
                                            refine g_goto (tgt := 1135) E dL_kept_1131 (by decide) ?_
                                            refine g_istore (lv' := [(27, .int 1), (0, .ref (x.1 0)), (1, .int (nI (sN (aS A) 1))), (2, .int (nI ((sB (aS A)).length))), (3, .long ((nI (sN (aS A) 0)).toInt64)), (5, .int 1), (6, .long (Int64.ofNat (gSum nf (sN (aS A) 1)))), (8, .long (Int64.ofNat (gSum (fun p => gCnt (fun k => bk (sB (aS A)) k 3 == p) (sB (aS A)).length) (sN (aS A) 1)))), (10, .long (Int64.ofNat (gSum (fun p => gCnt (fun i => wq (sW (aS A)) i / 10 == p) (sW (aS A)).length) (sN (aS A) 1)))), (12, .long (Int64.ofNat (gCnt (fun j => decide (nI (sN (aS A) 0) < sI (aS A) 2 j)) (sN (aS A) 1)))), (14, .long (Int64.ofNat (gSum (fun v => gCnt (fun k => bk (sB (aS A)) k 4 == v) (sB (aS A)).length) 10))), (16, .long (Int64.ofNat (gCnt (fun j => decide (nI (sN (aS A) 0) < sI (aS A) 7 j)) 10))), (18, .int (nI kb)), (19, .long ((nI (bk (sB (aS A)) kb 0)).toInt64)), (21, .int (nI (bk (sB (aS A)) kb 3))), (22, .int (nI (bk (sB (aS A)) kb 4))), (23, .int (nI (gDc (bk (sB (aS A)) kb 0) + 10 + 0))), (24, .long (Int64.ofNat (bk (sB (aS A)) kb 5 / 10 ^ (0 - 0)))), (26, .int 0)]) E dL_kept_1135 (by decide) rfl ?_
                                            refine g_iload E dL_kept_1137 5 rfl ?_
                                            refine g_if_eq (tgt := 1222) E dL_kept_1139 (by decide) (fun c => absurd c (by decide)) (fun _ => ?_)
                                            refine g_iload E dL_kept_1142 18 rfl ?_
                                            refine g_aload_n E dL_kept_1144 rfl 1 rfl ?_
                                            refine g_iload E dL_kept_1145 12 rfl ?_
                                            refine g_iconst (v := 5) E dL_kept_1147 (by decide) ?_
                                            refine g_callSWL (As := [.ref (x.1 0), .int (nI kb), .int 5]) (F := []) E (wL_booking (x := x) hST hA hb5 hCq84 (nI kb) (5 : Int32)) gL_kept_L_booking rfl hdL_booking ⟨Nat.le_of_ble_eq_true rfl, Nat.le_of_ble_eq_true rfl⟩ gPerm_n rfl rfl ?_ dL_kept_1148 ⟨by show (csl + 15) + 1 ≤ 25000; omega, by show (ssl + 434) + 6 ≤ 400000; omega⟩ (fun rq86 uq86 hq86 => ?_)
                                            · exact Nat.le_of_ble_eq_true rfl
                                            refine g_perm (ws1 := wV G x uq86) gPerm_n' ?_
                                            obtain ⟨eq86, hCq86⟩ := hq86
                                            rw [show fBkng A (nI kb) (5 : Int32) = _ from fBkng_in (A := A) (j := kb) (k := 5) (by omega) hn24 rfl (by omega)] at eq86 hCq86
                                            refine g_topL (y := (nI (bk (sB (aS A)) kb 5)).toInt64) (eq86.trans (gCd_a rfl)) ?_
                                            refine g_lconst (v := 0) E dL_kept_1151 (by decide) ?_
                                            refine g_lcmp E dL_kept_1152 ?_
                                            refine g_if_le (tgt := 1160) E dL_kept_1153 (by decide) (fun _ => ?_) (fun c => absurd (gLe0 (by omega)) c)
                                            refine g_iconst (v := 0) E dL_kept_1160 (by decide) ?_
                                            refine g_icmp_ne (tgt := 1222) E dL_kept_1161 (by decide) (fun c => absurd c (by decide)) (fun _ => ?_)
                                            refine g_lload E dL_kept_1164 17 rfl ?_
                                            refine g_aload_n E dL_kept_1166 rfl 1 rfl ?_
                                            refine g_iload E dL_kept_1167 12 rfl ?_
                                            refine g_iconst (v := 5) E dL_kept_1169 (by decide) ?_
                                            refine g_callSWL (As := [.ref (x.1 0), .int (nI kb), .int 5]) (F := []) E (wL_booking (x := x) hST hA hb5 hCq86 (nI kb) (5 : Int32)) gL_kept_L_booking rfl hdL_booking ⟨Nat.le_of_ble_eq_true rfl, Nat.le_of_ble_eq_true rfl⟩ gPerm_n rfl rfl ?_ dL_kept_1170 ⟨by show (csl + 16) + 1 ≤ 25000; omega, by show (ssl + 440) + 6 ≤ 400000; omega⟩ (fun rq87 uq87 hq87 => ?_)
                                            · exact Nat.le_of_ble_eq_true rfl
                                            refine g_perm (ws1 := wV G x uq87) gPerm_n' ?_
                                            obtain ⟨eq87, hCq87⟩ := hq87
                                            rw [show fBkng A (nI kb) (5 : Int32) = _ from fBkng_in (A := A) (j := kb) (k := 5) (by omega) hn24 rfl (by omega)] at eq87 hCq87
                                            refine g_topL (y := (nI (bk (sB (aS A)) kb 5)).toInt64) (eq87.trans (gCd_a rfl)) ?_
                                            refine g_lcmp E dL_kept_1173 ?_
                                            refine g_if_ne (tgt := 1222) E dL_kept_1174 (by decide) (fun c => absurd (gCmp_eq.mpr (by rw [Nat.sub_self, Nat.pow_zero, Nat.div_one, gI64 _ (by omega)])) c) (fun _ => ?_)
                                            refine g_aload_n E dL_kept_1177 rfl 1 rfl ?_
                                            refine g_iload E dL_kept_1178 12 rfl ?_
                                            refine g_iload E dL_kept_1180 16 rfl ?_
                                            refine g_callSWL (As := [.ref (x.1 0), .int (nI kb), .int (nI (gDc (bk (sB (aS A)) kb 0) + 10 + 0))]) (F := []) E (wL_line (x := x) hST hA hb5 hCq87 (nI kb) (nI (gDc (bk (sB (aS A)) kb 0) + 10 + 0))) gL_kept_L_line rfl hdL_line ⟨Nat.le_of_ble_eq_true rfl, Nat.le_of_ble_eq_true rfl⟩ gPerm_n rfl rfl ?_ dL_kept_1182 ⟨by show (csl + 17) + 14 ≤ 25000; omega, by show (ssl + 446) + 428 ≤ 400000; omega⟩ (fun rq88 uq88 hq88 => ?_)
                                            · exact Nat.le_of_ble_eq_true rfl
                                            refine g_perm (ws1 := wV G x uq88) gPerm_n' ?_
                                            obtain ⟨eq88, hCq88⟩ := hq88
                                            rw [show fLine A (nI kb) (nI (gDc (bk (sB (aS A)) kb 0) + 10 + 0)) = _ from fLine_in (A := A) (k := kb) (j := gDc (bk (sB (aS A)) kb 0) + 10 + 0) (by omega) hn24 (by have := (gDc_le (bk (sB (aS A)) kb 0)).2; have := (gDc_le (bk (sB (aS A)) kb 5)).2; omega)] at eq88 hCq88
                                            refine g_topL (y := ((gLine (aS A) kb).getD (gDc (bk (sB (aS A)) kb 0) + 10 + 0) (-1)).toInt64) (eq88.trans (gCd_a rfl)) ?_
                                            refine g_topL (y := (33 : Int32).toInt64) (congrArg Int32.toInt64 ((gLn_0 hh1 hh2 hh3 hh4 hm0 0).trans (by rw [if_pos hnt]; rfl))) ?_
                                            refine g_iload E dL_kept_1185 0 rfl ?_
                                            refine g_if_eq (tgt := 1195) E dL_kept_1187 (by decide) (fun c => absurd c (by decide)) (fun _ => ?_)
                                            refine g_bipush (v := 33) E dL_kept_1190 (by decide) ?_
                                            refine g_goto (tgt := 1196) E dL_kept_1192 (by decide) ?_
                                            refine g_i2l (v := (33 : Int32).toInt64) E dL_kept_1196 rfl ?_
                                            refine g_lcmp E dL_kept_1197 ?_
                                            refine g_if_ne (tgt := 1222) E dL_kept_1198 (by decide) (fun c => absurd (gCmp_eq.mpr rfl) c) (fun _ => ?_)
                                            refine g_aload_n E dL_kept_1201 rfl 1 rfl ?_
                                            refine g_iload E dL_kept_1202 12 rfl ?_
                                            refine g_iload E dL_kept_1204 16 rfl ?_
                                            refine g_iconst (v := 1) E dL_kept_1206 (by decide) ?_
                                            refine g_iaddN (a := gDc (bk (sB (aS A)) kb 0) + 10 + 0) (b := 1) E dL_kept_1207 ?_
                                            refine g_callSWL (As := [.ref (x.1 0), .int (nI kb), .int (nI (gDc (bk (sB (aS A)) kb 0) + 10 + 0 + 1))]) (F := []) E (wL_line (x := x) hST hA hb5 hCq88 (nI kb) (nI (gDc (bk (sB (aS A)) kb 0) + 10 + 0 + 1))) gL_kept_L_line rfl hdL_line ⟨Nat.le_of_ble_eq_true rfl, Nat.le_of_ble_eq_true rfl⟩ gPerm_n rfl rfl ?_ dL_kept_1208 ⟨by show (csl + 31) + 14 ≤ 25000; omega, by show (ssl + 874) + 428 ≤ 400000; omega⟩ (fun rq89 uq89 hq89 => ?_)
                                            · exact Nat.le_of_ble_eq_true rfl
                                            refine g_perm (ws1 := wV G x uq89) gPerm_n' ?_
                                            obtain ⟨eq89, hCq89⟩ := hq89
                                            rw [show fLine A (nI kb) (nI (gDc (bk (sB (aS A)) kb 0) + 10 + 0 + 1)) = _ from fLine_in (A := A) (k := kb) (j := gDc (bk (sB (aS A)) kb 0) + 10 + 0 + 1) (by omega) hn24 (by have := (gDc_le (bk (sB (aS A)) kb 0)).2; have := (gDc_le (bk (sB (aS A)) kb 5)).2; omega)] at eq89 hCq89
                                            refine g_topL (y := ((gLine (aS A) kb).getD (gDc (bk (sB (aS A)) kb 0) + 10 + 0 + 1) (-1)).toInt64) (eq89.trans (gCd_a rfl)) ?_
                                            refine g_topL (y := (-1 : Int32).toInt64) (congrArg Int32.toInt64 ((gLn_0 hh1 hh2 hh3 hh4 hm0 1).trans (by rw [if_pos hnt]; rfl))) ?_
                                            refine g_ldc2 (v := -1) E kL_kept_183 dL_kept_1211 ?_
                                            refine g_lcmp E dL_kept_1214 ?_
                                            refine g_if_ne (tgt := 1222) E dL_kept_1215 (by decide) (fun c => absurd (gCmp_eq.mpr rfl) c) (fun _ => ?_)
                                            refine g_iconst (v := 1) E dL_kept_1218 (by decide) ?_
                                            refine g_goto (tgt := 1223) E dL_kept_1219 (by decide) ?_
                                            refine g_istore (lv' := [(5, .int 1), (27, .int 1), (0, .ref (x.1 0)), (1, .int (nI (sN (aS A) 1))), (2, .int (nI ((sB (aS A)).length))), (3, .long ((nI (sN (aS A) 0)).toInt64)), (6, .long (Int64.ofNat (gSum nf (sN (aS A) 1)))), (8, .long (Int64.ofNat (gSum (fun p => gCnt (fun k => bk (sB (aS A)) k 3 == p) (sB (aS A)).length) (sN (aS A) 1)))), (10, .long (Int64.ofNat (gSum (fun p => gCnt (fun i => wq (sW (aS A)) i / 10 == p) (sW (aS A)).length) (sN (aS A) 1)))), (12, .long (Int64.ofNat (gCnt (fun j => decide (nI (sN (aS A) 0) < sI (aS A) 2 j)) (sN (aS A) 1)))), (14, .long (Int64.ofNat (gSum (fun v => gCnt (fun k => bk (sB (aS A)) k 4 == v) (sB (aS A)).length) 10))), (16, .long (Int64.ofNat (gCnt (fun j => decide (nI (sN (aS A) 0) < sI (aS A) 7 j)) 10))), (18, .int (nI kb)), (19, .long ((nI (bk (sB (aS A)) kb 0)).toInt64)), (21, .int (nI (bk (sB (aS A)) kb 3))), (22, .int (nI (bk (sB (aS A)) kb 4))), (23, .int (nI (gDc (bk (sB (aS A)) kb 0) + 10 + 0))), (24, .long (Int64.ofNat (bk (sB (aS A)) kb 5 / 10 ^ (0 - 0)))), (26, .int 0)]) E dL_kept_1223 (by decide) rfl ?_
                                            refine g_iinc (lv' := [(18, .int (nI (kb + 1))), (5, .int 1), (27, .int 1), (0, .ref (x.1 0)), (1, .int (nI (sN (aS A) 1))), (2, .int (nI ((sB (aS A)).length))), (3, .long ((nI (sN (aS A) 0)).toInt64)), (6, .long (Int64.ofNat (gSum nf (sN (aS A) 1)))), (8, .long (Int64.ofNat (gSum (fun p => gCnt (fun k => bk (sB (aS A)) k 3 == p) (sB (aS A)).length) (sN (aS A) 1)))), (10, .long (Int64.ofNat (gSum (fun p => gCnt (fun i => wq (sW (aS A)) i / 10 == p) (sW (aS A)).length) (sN (aS A) 1)))), (12, .long (Int64.ofNat (gCnt (fun j => decide (nI (sN (aS A) 0) < sI (aS A) 2 j)) (sN (aS A) 1)))), (14, .long (Int64.ofNat (gSum (fun v => gCnt (fun k => bk (sB (aS A)) k 4 == v) (sB (aS A)).length) 10))), (16, .long (Int64.ofNat (gCnt (fun j => decide (nI (sN (aS A) 0) < sI (aS A) 7 j)) 10))), (19, .long ((nI (bk (sB (aS A)) kb 0)).toInt64)), (21, .int (nI (bk (sB (aS A)) kb 3))), (22, .int (nI (bk (sB (aS A)) kb 4))), (23, .int (nI (gDc (bk (sB (aS A)) kb 0) + 10 + 0))), (24, .long (Int64.ofNat (bk (sB (aS A)) kb 5 / 10 ^ (0 - 0)))), (26, .int 0)]) E dL_kept_1225 12 rfl (g_inc _ 1 (by decide)) (by decide) rfl ?_
                                            refine g_goto (tgt := 464) E dL_kept_1228 (by decide) ?_
                                            refine g_lv [3, 4, 5, 6, 1, 7, 8, 9, 10, 11, 12, 0] rfl ?_
                                            exact ih23  (kb + 1) uq89 (csl + 45) (ssl + 1302) (by omega) hCq89 (by omega) (by omega) (by omega)
                                          · skip
                                            refine g_lload E dL_kept_1117 12 rfl ?_
                                            refine g_aload_n E dL_kept_1119 rfl 0 rfl ?_
                                            refine g_iload E dL_kept_1120 14 rfl ?_
                                            refine g_iconst (v := 1) E dL_kept_1122 (by decide) ?_
                                            refine g_callSWL (As := [.ref (x.1 0), .int (nI (bk (sB (aS A)) kb 4)), .int 1]) (F := []) E (wL_visitor (x := x) hST hA hb5 hCq84 (nI (bk (sB (aS A)) kb 4)) (1 : Int32)) gL_kept_L_visitor rfl hdL_visitor ⟨Nat.le_of_ble_eq_true rfl, Nat.le_of_ble_eq_true rfl⟩ gPerm_n rfl rfl ?_ dL_kept_1123 ⟨by show (csl + 15) + 1 ≤ 25000; omega, by show (ssl + 434) + 6 ≤ 400000; omega⟩ (fun rq90 uq90 hq90 => ?_)
                                            · exact Nat.le_of_ble_eq_true rfl
                                            refine g_perm (ws1 := wV G x uq90) gPerm_n' ?_
                                            obtain ⟨eq90, hCq90⟩ := hq90
                                            rw [show fVisr A (nI (bk (sB (aS A)) kb 4)) (1 : Int32) = _ from fVi_1 (A := A) (v := (bk (sB (aS A)) kb 4)) (by omega)] at eq90 hCq90
                                            refine g_topL (y := (sI (aS A) 7 (bk (sB (aS A)) kb 4)).toInt64) (eq90.trans (gCd_a rfl)) ?_
                                            refine g_lcmp E dL_kept_1126 ?_
                                            refine g_if_ge (tgt := 1134) E dL_kept_1127 (by decide) (fun c91 => ?_) (fun c91 => ?_)
                                            · skip
                                              have hnt : ¬ (nI (bk (sB (aS A)) kb 0) < sI (aS A) 2 (bk (sB (aS A)) kb 3) ∨ nI (bk (sB (aS A)) kb 0) < sI (aS A) 7 (bk (sB (aS A)) kb 4)) := fun q => q.elim (fun z => c85 (gCmp_lt.mpr (gLt64.mpr z))) (fun z => gCmp_nge (gLt64.mpr z) c91)
                                              refine g_iconst (v := 0) E dL_kept_1134 (by decide) ?_
                                              refine g_istore (lv' := [(27, .int 0), (0, .ref (x.1 0)), (1, .int (nI (sN (aS A) 1))), (2, .int (nI ((sB (aS A)).length))), (3, .long ((nI (sN (aS A) 0)).toInt64)), (5, .int 1), (6, .long (Int64.ofNat (gSum nf (sN (aS A) 1)))), (8, .long (Int64.ofNat (gSum (fun p => gCnt (fun k => bk (sB (aS A)) k 3 == p) (sB (aS A)).length) (sN (aS A) 1)))), (10, .long (Int64.ofNat (gSum (fun p => gCnt (fun i => wq (sW (aS A)) i / 10 == p) (sW (aS A)).length) (sN (aS A) 1)))), (12, .long (Int64.ofNat (gCnt (fun j => decide (nI (sN (aS A) 0) < sI (aS A) 2 j)) (sN (aS A) 1)))), (14, .long (Int64.ofNat (gSum (fun v => gCnt (fun k => bk (sB (aS A)) k 4 == v) (sB (aS A)).length) 10))), (16, .long (Int64.ofNat (gCnt (fun j => decide (nI (sN (aS A) 0) < sI (aS A) 7 j)) 10))), (18, .int (nI kb)), (19, .long ((nI (bk (sB (aS A)) kb 0)).toInt64)), (21, .int (nI (bk (sB (aS A)) kb 3))), (22, .int (nI (bk (sB (aS A)) kb 4))), (23, .int (nI (gDc (bk (sB (aS A)) kb 0) + 10 + 0))), (24, .long (Int64.ofNat (bk (sB (aS A)) kb 5 / 10 ^ (0 - 0)))), (26, .int 0)]) E dL_kept_1135 (by decide) rfl ?_
                                              refine g_iload E dL_kept_1137 5 rfl ?_
                                              refine g_if_eq (tgt := 1222) E dL_kept_1139 (by decide) (fun c => absurd c (by decide)) (fun _ => ?_)
                                              refine g_iload E dL_kept_1142 18 rfl ?_
                                              refine g_aload_n E dL_kept_1144 rfl 1 rfl ?_
                                              refine g_iload E dL_kept_1145 12 rfl ?_
                                              refine g_iconst (v := 5) E dL_kept_1147 (by decide) ?_
                                              refine g_callSWL (As := [.ref (x.1 0), .int (nI kb), .int 5]) (F := []) E (wL_booking (x := x) hST hA hb5 hCq90 (nI kb) (5 : Int32)) gL_kept_L_booking rfl hdL_booking ⟨Nat.le_of_ble_eq_true rfl, Nat.le_of_ble_eq_true rfl⟩ gPerm_n rfl rfl ?_ dL_kept_1148 ⟨by show (csl + 16) + 1 ≤ 25000; omega, by show (ssl + 440) + 6 ≤ 400000; omega⟩ (fun rq92 uq92 hq92 => ?_)
                                              · exact Nat.le_of_ble_eq_true rfl
                                              refine g_perm (ws1 := wV G x uq92) gPerm_n' ?_
                                              obtain ⟨eq92, hCq92⟩ := hq92
                                              rw [show fBkng A (nI kb) (5 : Int32) = _ from fBkng_in (A := A) (j := kb) (k := 5) (by omega) hn24 rfl (by omega)] at eq92 hCq92
                                              refine g_topL (y := (nI (bk (sB (aS A)) kb 5)).toInt64) (eq92.trans (gCd_a rfl)) ?_
                                              refine g_lconst (v := 0) E dL_kept_1151 (by decide) ?_
                                              refine g_lcmp E dL_kept_1152 ?_
                                              refine g_if_le (tgt := 1160) E dL_kept_1153 (by decide) (fun _ => ?_) (fun c => absurd (gLe0 (by omega)) c)
                                              refine g_iconst (v := 0) E dL_kept_1160 (by decide) ?_
                                              refine g_icmp_ne (tgt := 1222) E dL_kept_1161 (by decide) (fun c => absurd c (by decide)) (fun _ => ?_)
                                              refine g_lload E dL_kept_1164 17 rfl ?_
                                              refine g_aload_n E dL_kept_1166 rfl 1 rfl ?_
                                              refine g_iload E dL_kept_1167 12 rfl ?_
                                              refine g_iconst (v := 5) E dL_kept_1169 (by decide) ?_
                                              refine g_callSWL (As := [.ref (x.1 0), .int (nI kb), .int 5]) (F := []) E (wL_booking (x := x) hST hA hb5 hCq92 (nI kb) (5 : Int32)) gL_kept_L_booking rfl hdL_booking ⟨Nat.le_of_ble_eq_true rfl, Nat.le_of_ble_eq_true rfl⟩ gPerm_n rfl rfl ?_ dL_kept_1170 ⟨by show (csl + 17) + 1 ≤ 25000; omega, by show (ssl + 446) + 6 ≤ 400000; omega⟩ (fun rq93 uq93 hq93 => ?_)
                                              · exact Nat.le_of_ble_eq_true rfl
                                              refine g_perm (ws1 := wV G x uq93) gPerm_n' ?_
                                              obtain ⟨eq93, hCq93⟩ := hq93
                                              rw [show fBkng A (nI kb) (5 : Int32) = _ from fBkng_in (A := A) (j := kb) (k := 5) (by omega) hn24 rfl (by omega)] at eq93 hCq93
                                              refine g_topL (y := (nI (bk (sB (aS A)) kb 5)).toInt64) (eq93.trans (gCd_a rfl)) ?_
                                              refine g_lcmp E dL_kept_1173 ?_
                                              refine g_if_ne (tgt := 1222) E dL_kept_1174 (by decide) (fun c => absurd (gCmp_eq.mpr (by rw [Nat.sub_self, Nat.pow_zero, Nat.div_one, gI64 _ (by omega)])) c) (fun _ => ?_)
                                              refine g_aload_n E dL_kept_1177 rfl 1 rfl ?_
                                              refine g_iload E dL_kept_1178 12 rfl ?_
                                              refine g_iload E dL_kept_1180 16 rfl ?_
                                              refine g_callSWL (As := [.ref (x.1 0), .int (nI kb), .int (nI (gDc (bk (sB (aS A)) kb 0) + 10 + 0))]) (F := []) E (wL_line (x := x) hST hA hb5 hCq93 (nI kb) (nI (gDc (bk (sB (aS A)) kb 0) + 10 + 0))) gL_kept_L_line rfl hdL_line ⟨Nat.le_of_ble_eq_true rfl, Nat.le_of_ble_eq_true rfl⟩ gPerm_n rfl rfl ?_ dL_kept_1182 ⟨by show (csl + 18) + 14 ≤ 25000; omega, by show (ssl + 452) + 428 ≤ 400000; omega⟩ (fun rq94 uq94 hq94 => ?_)
                                              · exact Nat.le_of_ble_eq_true rfl
                                              refine g_perm (ws1 := wV G x uq94) gPerm_n' ?_
                                              obtain ⟨eq94, hCq94⟩ := hq94
                                              rw [show fLine A (nI kb) (nI (gDc (bk (sB (aS A)) kb 0) + 10 + 0)) = _ from fLine_in (A := A) (k := kb) (j := gDc (bk (sB (aS A)) kb 0) + 10 + 0) (by omega) hn24 (by have := (gDc_le (bk (sB (aS A)) kb 0)).2; have := (gDc_le (bk (sB (aS A)) kb 5)).2; omega)] at eq94 hCq94
                                              refine g_topL (y := ((gLine (aS A) kb).getD (gDc (bk (sB (aS A)) kb 0) + 10 + 0) (-1)).toInt64) (eq94.trans (gCd_a rfl)) ?_
                                              refine g_topL (y := (-1 : Int32).toInt64) (congrArg Int32.toInt64 ((gLn_0 hh1 hh2 hh3 hh4 hm0 0).trans (by rw [if_neg hnt]; rfl))) ?_
                                              refine g_iload E dL_kept_1185 0 rfl ?_
                                              refine g_if_eq (tgt := 1195) E dL_kept_1187 (by decide) (fun _ => ?_) (fun c => absurd c (by decide))
                                              refine g_iconst (v := (-1)) E dL_kept_1195 (by decide) ?_
                                              refine g_i2l (v := (-1 : Int32).toInt64) E dL_kept_1196 rfl ?_
                                              refine g_lcmp E dL_kept_1197 ?_
                                              refine g_if_ne (tgt := 1222) E dL_kept_1198 (by decide) (fun c => absurd (gCmp_eq.mpr rfl) c) (fun _ => ?_)
                                              refine g_aload_n E dL_kept_1201 rfl 1 rfl ?_
                                              refine g_iload E dL_kept_1202 12 rfl ?_
                                              refine g_iload E dL_kept_1204 16 rfl ?_
                                              refine g_iconst (v := 1) E dL_kept_1206 (by decide) ?_
                                              refine g_iaddN (a := gDc (bk (sB (aS A)) kb 0) + 10 + 0) (b := 1) E dL_kept_1207 ?_
                                              refine g_callSWL (As := [.ref (x.1 0), .int (nI kb), .int (nI (gDc (bk (sB (aS A)) kb 0) + 10 + 0 + 1))]) (F := []) E (wL_line (x := x) hST hA hb5 hCq94 (nI kb) (nI (gDc (bk (sB (aS A)) kb 0) + 10 + 0 + 1))) gL_kept_L_line rfl hdL_line ⟨Nat.le_of_ble_eq_true rfl, Nat.le_of_ble_eq_true rfl⟩ gPerm_n rfl rfl ?_ dL_kept_1208 ⟨by show (csl + 32) + 14 ≤ 25000; omega, by show (ssl + 880) + 428 ≤ 400000; omega⟩ (fun rq95 uq95 hq95 => ?_)
                                              · exact Nat.le_of_ble_eq_true rfl
                                              refine g_perm (ws1 := wV G x uq95) gPerm_n' ?_
                                              obtain ⟨eq95, hCq95⟩ := hq95
                                              rw [show fLine A (nI kb) (nI (gDc (bk (sB (aS A)) kb 0) + 10 + 0 + 1)) = _ from fLine_in (A := A) (k := kb) (j := gDc (bk (sB (aS A)) kb 0) + 10 + 0 + 1) (by omega) hn24 (by have := (gDc_le (bk (sB (aS A)) kb 0)).2; have := (gDc_le (bk (sB (aS A)) kb 5)).2; omega)] at eq95 hCq95
                                              refine g_topL (y := ((gLine (aS A) kb).getD (gDc (bk (sB (aS A)) kb 0) + 10 + 0 + 1) (-1)).toInt64) (eq95.trans (gCd_a rfl)) ?_
                                              refine g_topL (y := (-1 : Int32).toInt64) (congrArg Int32.toInt64 ((gLn_0 hh1 hh2 hh3 hh4 hm0 1).trans (by rw [if_neg hnt]; rfl))) ?_
                                              refine g_ldc2 (v := -1) E kL_kept_183 dL_kept_1211 ?_
                                              refine g_lcmp E dL_kept_1214 ?_
                                              refine g_if_ne (tgt := 1222) E dL_kept_1215 (by decide) (fun c => absurd (gCmp_eq.mpr rfl) c) (fun _ => ?_)
                                              refine g_iconst (v := 1) E dL_kept_1218 (by decide) ?_
                                              refine g_goto (tgt := 1223) E dL_kept_1219 (by decide) ?_
                                              refine g_istore (lv' := [(5, .int 1), (27, .int 0), (0, .ref (x.1 0)), (1, .int (nI (sN (aS A) 1))), (2, .int (nI ((sB (aS A)).length))), (3, .long ((nI (sN (aS A) 0)).toInt64)), (6, .long (Int64.ofNat (gSum nf (sN (aS A) 1)))), (8, .long (Int64.ofNat (gSum (fun p => gCnt (fun k => bk (sB (aS A)) k 3 == p) (sB (aS A)).length) (sN (aS A) 1)))), (10, .long (Int64.ofNat (gSum (fun p => gCnt (fun i => wq (sW (aS A)) i / 10 == p) (sW (aS A)).length) (sN (aS A) 1)))), (12, .long (Int64.ofNat (gCnt (fun j => decide (nI (sN (aS A) 0) < sI (aS A) 2 j)) (sN (aS A) 1)))), (14, .long (Int64.ofNat (gSum (fun v => gCnt (fun k => bk (sB (aS A)) k 4 == v) (sB (aS A)).length) 10))), (16, .long (Int64.ofNat (gCnt (fun j => decide (nI (sN (aS A) 0) < sI (aS A) 7 j)) 10))), (18, .int (nI kb)), (19, .long ((nI (bk (sB (aS A)) kb 0)).toInt64)), (21, .int (nI (bk (sB (aS A)) kb 3))), (22, .int (nI (bk (sB (aS A)) kb 4))), (23, .int (nI (gDc (bk (sB (aS A)) kb 0) + 10 + 0))), (24, .long (Int64.ofNat (bk (sB (aS A)) kb 5 / 10 ^ (0 - 0)))), (26, .int 0)]) E dL_kept_1223 (by decide) rfl ?_
                                              refine g_iinc (lv' := [(18, .int (nI (kb + 1))), (5, .int 1), (27, .int 0), (0, .ref (x.1 0)), (1, .int (nI (sN (aS A) 1))), (2, .int (nI ((sB (aS A)).length))), (3, .long ((nI (sN (aS A) 0)).toInt64)), (6, .long (Int64.ofNat (gSum nf (sN (aS A) 1)))), (8, .long (Int64.ofNat (gSum (fun p => gCnt (fun k => bk (sB (aS A)) k 3 == p) (sB (aS A)).length) (sN (aS A) 1)))), (10, .long (Int64.ofNat (gSum (fun p => gCnt (fun i => wq (sW (aS A)) i / 10 == p) (sW (aS A)).length) (sN (aS A) 1)))), (12, .long (Int64.ofNat (gCnt (fun j => decide (nI (sN (aS A) 0) < sI (aS A) 2 j)) (sN (aS A) 1)))), (14, .long (Int64.ofNat (gSum (fun v => gCnt (fun k => bk (sB (aS A)) k 4 == v) (sB (aS A)).length) 10))), (16, .long (Int64.ofNat (gCnt (fun j => decide (nI (sN (aS A) 0) < sI (aS A) 7 j)) 10))), (19, .long ((nI (bk (sB (aS A)) kb 0)).toInt64)), (21, .int (nI (bk (sB (aS A)) kb 3))), (22, .int (nI (bk (sB (aS A)) kb 4))), (23, .int (nI (gDc (bk (sB (aS A)) kb 0) + 10 + 0))), (24, .long (Int64.ofNat (bk (sB (aS A)) kb 5 / 10 ^ (0 - 0)))), (26, .int 0)]) E dL_kept_1225 12 rfl (g_inc _ 1 (by decide)) (by decide) rfl ?_
                                              refine g_goto (tgt := 464) E dL_kept_1228 (by decide) ?_
                                              refine g_lv [3, 4, 5, 6, 1, 7, 8, 9, 10, 11, 12, 0] rfl ?_
                                              exact ih23  (kb + 1) uq95 (csl + 46) (ssl + 1308) (by omega) hCq95 (by omega) (by omega) (by omega)
                                            · skip
                                              have hnt : (nI (bk (sB (aS A)) kb 0) < sI (aS A) 2 (bk (sB (aS A)) kb 3) ∨ nI (bk (sB (aS A)) kb 0) < sI (aS A) 7 (bk (sB (aS A)) kb 4)) := Or.inr (gLt64.mp (gCmp_lt.mp (Int32.not_le.mp c91)))
                                              refine g_iconst (v := 1) E dL_kept_1130 (by decide) ?_
                                              refine g_goto (tgt := 1135) E dL_kept_1131 (by decide) ?_
                                              refine g_istore (lv' := [(27, .int 1), (0, .ref (x.1 0)), (1, .int (nI (sN (aS A) 1))), (2, .int (nI ((sB (aS A)).length))), (3, .long ((nI (sN (aS A) 0)).toInt64)), (5, .int 1), (6, .long (Int64.ofNat (gSum nf (sN (aS A) 1)))), (8, .long (Int64.ofNat (gSum (fun p => gCnt (fun k => bk (sB (aS A)) k 3 == p) (sB (aS A)).length) (sN (aS A) 1)))), (10, .long (Int64.ofNat (gSum (fun p => gCnt (fun i => wq (sW (aS A)) i / 10 == p) (sW (aS A)).length) (sN (aS A) 1)))), (12, .long (Int64.ofNat (gCnt (fun j => decide (nI (sN (aS A) 0) < sI (aS A) 2 j)) (sN (aS A) 1)))), (14, .long (Int64.ofNat (gSum (fun v => gCnt (fun k => bk (sB (aS A)) k 4 == v) (sB (aS A)).length) 10))), (16, .long (Int64.ofNat (gCnt (fun j => decide (nI (sN (aS A) 0) < sI (aS A) 7 j)) 10))), (18, .int (nI kb)), (19, .long ((nI (bk (sB (aS A)) kb 0)).toInt64)), (21, .int (nI (bk (sB (aS A)) kb 3))), (22, .int (nI (bk (sB (aS A)) kb 4))), (23, .int (nI (gDc (bk (sB (aS A)) kb 0) + 10 + 0))), (24, .long (Int64.ofNat (bk (sB (aS A)) kb 5 / 10 ^ (0 - 0)))), (26, .int 0)]) E dL_kept_1135 (by decide) rfl ?_
                                              refine g_iload E dL_kept_1137 5 rfl ?_
                                              refine g_if_eq (tgt := 1222) E dL_kept_1139 (by decide) (fun c => absurd c (by decide)) (fun _ => ?_)
                                              refine g_iload E dL_kept_1142 18 rfl ?_
                                              refine g_aload_n E dL_kept_1144 rfl 1 rfl ?_
                                              refine g_iload E dL_kept_1145 12 rfl ?_
                                              refine g_iconst (v := 5) E dL_kept_1147 (by decide) ?_
                                              refine g_callSWL (As := [.ref (x.1 0), .int (nI kb), .int 5]) (F := []) E (wL_booking (x := x) hST hA hb5 hCq90 (nI kb) (5 : Int32)) gL_kept_L_booking rfl hdL_booking ⟨Nat.le_of_ble_eq_true rfl, Nat.le_of_ble_eq_true rfl⟩ gPerm_n rfl rfl ?_ dL_kept_1148 ⟨by show (csl + 16) + 1 ≤ 25000; omega, by show (ssl + 440) + 6 ≤ 400000; omega⟩ (fun rq96 uq96 hq96 => ?_)
                                              · exact Nat.le_of_ble_eq_true rfl
                                              refine g_perm (ws1 := wV G x uq96) gPerm_n' ?_
                                              obtain ⟨eq96, hCq96⟩ := hq96
                                              rw [show fBkng A (nI kb) (5 : Int32) = _ from fBkng_in (A := A) (j := kb) (k := 5) (by omega) hn24 rfl (by omega)] at eq96 hCq96
                                              refine g_topL (y := (nI (bk (sB (aS A)) kb 5)).toInt64) (eq96.trans (gCd_a rfl)) ?_
                                              refine g_lconst (v := 0) E dL_kept_1151 (by decide) ?_
                                              refine g_lcmp E dL_kept_1152 ?_
                                              refine g_if_le (tgt := 1160) E dL_kept_1153 (by decide) (fun _ => ?_) (fun c => absurd (gLe0 (by omega)) c)
                                              refine g_iconst (v := 0) E dL_kept_1160 (by decide) ?_
                                              refine g_icmp_ne (tgt := 1222) E dL_kept_1161 (by decide) (fun c => absurd c (by decide)) (fun _ => ?_)
                                              refine g_lload E dL_kept_1164 17 rfl ?_
                                              refine g_aload_n E dL_kept_1166 rfl 1 rfl ?_
                                              refine g_iload E dL_kept_1167 12 rfl ?_
                                              refine g_iconst (v := 5) E dL_kept_1169 (by decide) ?_
                                              refine g_callSWL (As := [.ref (x.1 0), .int (nI kb), .int 5]) (F := []) E (wL_booking (x := x) hST hA hb5 hCq96 (nI kb) (5 : Int32)) gL_kept_L_booking rfl hdL_booking ⟨Nat.le_of_ble_eq_true rfl, Nat.le_of_ble_eq_true rfl⟩ gPerm_n rfl rfl ?_ dL_kept_1170 ⟨by show (csl + 17) + 1 ≤ 25000; omega, by show (ssl + 446) + 6 ≤ 400000; omega⟩ (fun rq97 uq97 hq97 => ?_)
                                              · exact Nat.le_of_ble_eq_true rfl
                                              refine g_perm (ws1 := wV G x uq97) gPerm_n' ?_
                                              obtain ⟨eq97, hCq97⟩ := hq97
                                              rw [show fBkng A (nI kb) (5 : Int32) = _ from fBkng_in (A := A) (j := kb) (k := 5) (by omega) hn24 rfl (by omega)] at eq97 hCq97
                                              refine g_topL (y := (nI (bk (sB (aS A)) kb 5)).toInt64) (eq97.trans (gCd_a rfl)) ?_
                                              refine g_lcmp E dL_kept_1173 ?_
                                              refine g_if_ne (tgt := 1222) E dL_kept_1174 (by decide) (fun c => absurd (gCmp_eq.mpr (by rw [Nat.sub_self, Nat.pow_zero, Nat.div_one, gI64 _ (by omega)])) c) (fun _ => ?_)
                                              refine g_aload_n E dL_kept_1177 rfl 1 rfl ?_
                                              refine g_iload E dL_kept_1178 12 rfl ?_
                                              refine g_iload E dL_kept_1180 16 rfl ?_
                                              refine g_callSWL (As := [.ref (x.1 0), .int (nI kb), .int (nI (gDc (bk (sB (aS A)) kb 0) + 10 + 0))]) (F := []) E (wL_line (x := x) hST hA hb5 hCq97 (nI kb) (nI (gDc (bk (sB (aS A)) kb 0) + 10 + 0))) gL_kept_L_line rfl hdL_line ⟨Nat.le_of_ble_eq_true rfl, Nat.le_of_ble_eq_true rfl⟩ gPerm_n rfl rfl ?_ dL_kept_1182 ⟨by show (csl + 18) + 14 ≤ 25000; omega, by show (ssl + 452) + 428 ≤ 400000; omega⟩ (fun rq98 uq98 hq98 => ?_)
                                              · exact Nat.le_of_ble_eq_true rfl
                                              refine g_perm (ws1 := wV G x uq98) gPerm_n' ?_
                                              obtain ⟨eq98, hCq98⟩ := hq98
                                              rw [show fLine A (nI kb) (nI (gDc (bk (sB (aS A)) kb 0) + 10 + 0)) = _ from fLine_in (A := A) (k := kb) (j := gDc (bk (sB (aS A)) kb 0) + 10 + 0) (by omega) hn24 (by have := (gDc_le (bk (sB (aS A)) kb 0)).2; have := (gDc_le (bk (sB (aS A)) kb 5)).2; omega)] at eq98 hCq98
                                              refine g_topL (y := ((gLine (aS A) kb).getD (gDc (bk (sB (aS A)) kb 0) + 10 + 0) (-1)).toInt64) (eq98.trans (gCd_a rfl)) ?_
                                              refine g_topL (y := (33 : Int32).toInt64) (congrArg Int32.toInt64 ((gLn_0 hh1 hh2 hh3 hh4 hm0 0).trans (by rw [if_pos hnt]; rfl))) ?_
                                              refine g_iload E dL_kept_1185 0 rfl ?_
                                              refine g_if_eq (tgt := 1195) E dL_kept_1187 (by decide) (fun c => absurd c (by decide)) (fun _ => ?_)
                                              refine g_bipush (v := 33) E dL_kept_1190 (by decide) ?_
                                              refine g_goto (tgt := 1196) E dL_kept_1192 (by decide) ?_
                                              refine g_i2l (v := (33 : Int32).toInt64) E dL_kept_1196 rfl ?_
                                              refine g_lcmp E dL_kept_1197 ?_
                                              refine g_if_ne (tgt := 1222) E dL_kept_1198 (by decide) (fun c => absurd (gCmp_eq.mpr rfl) c) (fun _ => ?_)
                                              refine g_aload_n E dL_kept_1201 rfl 1 rfl ?_
                                              refine g_iload E dL_kept_1202 12 rfl ?_
                                              refine g_iload E dL_kept_1204 16 rfl ?_
                                              refine g_iconst (v := 1) E dL_kept_1206 (by decide) ?_
                                              refine g_iaddN (a := gDc (bk (sB (aS A)) kb 0) + 10 + 0) (b := 1) E dL_kept_1207 ?_
                                              refine g_callSWL (As := [.ref (x.1 0), .int (nI kb), .int (nI (gDc (bk (sB (aS A)) kb 0) + 10 + 0 + 1))]) (F := []) E (wL_line (x := x) hST hA hb5 hCq98 (nI kb) (nI (gDc (bk (sB (aS A)) kb 0) + 10 + 0 + 1))) gL_kept_L_line rfl hdL_line ⟨Nat.le_of_ble_eq_true rfl, Nat.le_of_ble_eq_true rfl⟩ gPerm_n rfl rfl ?_ dL_kept_1208 ⟨by show (csl + 32) + 14 ≤ 25000; omega, by show (ssl + 880) + 428 ≤ 400000; omega⟩ (fun rq99 uq99 hq99 => ?_)
                                              · exact Nat.le_of_ble_eq_true rfl
                                              refine g_perm (ws1 := wV G x uq99) gPerm_n' ?_
                                              obtain ⟨eq99, hCq99⟩ := hq99
                                              rw [show fLine A (nI kb) (nI (gDc (bk (sB (aS A)) kb 0) + 10 + 0 + 1)) = _ from fLine_in (A := A) (k := kb) (j := gDc (bk (sB (aS A)) kb 0) + 10 + 0 + 1) (by omega) hn24 (by have := (gDc_le (bk (sB (aS A)) kb 0)).2; have := (gDc_le (bk (sB (aS A)) kb 5)).2; omega)] at eq99 hCq99
                                              refine g_topL (y := ((gLine (aS A) kb).getD (gDc (bk (sB (aS A)) kb 0) + 10 + 0 + 1) (-1)).toInt64) (eq99.trans (gCd_a rfl)) ?_
                                              refine g_topL (y := (-1 : Int32).toInt64) (congrArg Int32.toInt64 ((gLn_0 hh1 hh2 hh3 hh4 hm0 1).trans (by rw [if_pos hnt]; rfl))) ?_
                                              refine g_ldc2 (v := -1) E kL_kept_183 dL_kept_1211 ?_
                                              refine g_lcmp E dL_kept_1214 ?_
                                              refine g_if_ne (tgt := 1222) E dL_kept_1215 (by decide) (fun c => absurd (gCmp_eq.mpr rfl) c) (fun _ => ?_)
                                              refine g_iconst (v := 1) E dL_kept_1218 (by decide) ?_
                                              refine g_goto (tgt := 1223) E dL_kept_1219 (by decide) ?_
                                              refine g_istore (lv' := [(5, .int 1), (27, .int 1), (0, .ref (x.1 0)), (1, .int (nI (sN (aS A) 1))), (2, .int (nI ((sB (aS A)).length))), (3, .long ((nI (sN (aS A) 0)).toInt64)), (6, .long (Int64.ofNat (gSum nf (sN (aS A) 1)))), (8, .long (Int64.ofNat (gSum (fun p => gCnt (fun k => bk (sB (aS A)) k 3 == p) (sB (aS A)).length) (sN (aS A) 1)))), (10, .long (Int64.ofNat (gSum (fun p => gCnt (fun i => wq (sW (aS A)) i / 10 == p) (sW (aS A)).length) (sN (aS A) 1)))), (12, .long (Int64.ofNat (gCnt (fun j => decide (nI (sN (aS A) 0) < sI (aS A) 2 j)) (sN (aS A) 1)))), (14, .long (Int64.ofNat (gSum (fun v => gCnt (fun k => bk (sB (aS A)) k 4 == v) (sB (aS A)).length) 10))), (16, .long (Int64.ofNat (gCnt (fun j => decide (nI (sN (aS A) 0) < sI (aS A) 7 j)) 10))), (18, .int (nI kb)), (19, .long ((nI (bk (sB (aS A)) kb 0)).toInt64)), (21, .int (nI (bk (sB (aS A)) kb 3))), (22, .int (nI (bk (sB (aS A)) kb 4))), (23, .int (nI (gDc (bk (sB (aS A)) kb 0) + 10 + 0))), (24, .long (Int64.ofNat (bk (sB (aS A)) kb 5 / 10 ^ (0 - 0)))), (26, .int 0)]) E dL_kept_1223 (by decide) rfl ?_
                                              refine g_iinc (lv' := [(18, .int (nI (kb + 1))), (5, .int 1), (27, .int 1), (0, .ref (x.1 0)), (1, .int (nI (sN (aS A) 1))), (2, .int (nI ((sB (aS A)).length))), (3, .long ((nI (sN (aS A) 0)).toInt64)), (6, .long (Int64.ofNat (gSum nf (sN (aS A) 1)))), (8, .long (Int64.ofNat (gSum (fun p => gCnt (fun k => bk (sB (aS A)) k 3 == p) (sB (aS A)).length) (sN (aS A) 1)))), (10, .long (Int64.ofNat (gSum (fun p => gCnt (fun i => wq (sW (aS A)) i / 10 == p) (sW (aS A)).length) (sN (aS A) 1)))), (12, .long (Int64.ofNat (gCnt (fun j => decide (nI (sN (aS A) 0) < sI (aS A) 2 j)) (sN (aS A) 1)))), (14, .long (Int64.ofNat (gSum (fun v => gCnt (fun k => bk (sB (aS A)) k 4 == v) (sB (aS A)).length) 10))), (16, .long (Int64.ofNat (gCnt (fun j => decide (nI (sN (aS A) 0) < sI (aS A) 7 j)) 10))), (19, .long ((nI (bk (sB (aS A)) kb 0)).toInt64)), (21, .int (nI (bk (sB (aS A)) kb 3))), (22, .int (nI (bk (sB (aS A)) kb 4))), (23, .int (nI (gDc (bk (sB (aS A)) kb 0) + 10 + 0))), (24, .long (Int64.ofNat (bk (sB (aS A)) kb 5 / 10 ^ (0 - 0)))), (26, .int 0)]) E dL_kept_1225 12 rfl (g_inc _ 1 (by decide)) (by decide) rfl ?_
                                              refine g_goto (tgt := 464) E dL_kept_1228 (by decide) ?_
                                              refine g_lv [3, 4, 5, 6, 1, 7, 8, 9, 10, 11, 12, 0] rfl ?_
                                              exact ih23  (kb + 1) uq99 (csl + 46) (ssl + 1308) (by omega) hCq99 (by omega) (by omega) (by omega)
                                        · exfalso
                                          rw [gLn_0 hh1 hh2 hh3 hh4 hm0 kl] at c83; exact gEndc kl c83
                                    refine g_lv [4, 5, 6, 7, 3, 8, 9, 10, 11, 12, 13, 14, 15, 16, 17, 0, 1, 2] rfl ?_
                                    exact loop77 _ 0 uq75 (csj + 156) (ssj + 4720) (Nat.zero_le _) hCq75 (by omega) (by omega) (Nat.lt_succ_self _)
                                  · skip
                                    have hm0 : 0 < bk (sB (aS A)) kb 5 := (gLate_iff hh1 hh2 hh3 hh4).mp c76
                                    refine g_iconst (v := 1) E dL_kept_1032 (by decide) ?_
                                    refine g_goto (tgt := 1037) E dL_kept_1033 (by decide) ?_
                                    refine g_istore (lv' := [(26, .int 1), (23, .int (nI (gDc (bk (sB (aS A)) kb 0) + 10))), (5, .int 1), (0, .ref (x.1 0)), (1, .int (nI (sN (aS A) 1))), (2, .int (nI ((sB (aS A)).length))), (3, .long ((nI (sN (aS A) 0)).toInt64)), (6, .long (Int64.ofNat (gSum nf (sN (aS A) 1)))), (8, .long (Int64.ofNat (gSum (fun p => gCnt (fun k => bk (sB (aS A)) k 3 == p) (sB (aS A)).length) (sN (aS A) 1)))), (10, .long (Int64.ofNat (gSum (fun p => gCnt (fun i => wq (sW (aS A)) i / 10 == p) (sW (aS A)).length) (sN (aS A) 1)))), (12, .long (Int64.ofNat (gCnt (fun j => decide (nI (sN (aS A) 0) < sI (aS A) 2 j)) (sN (aS A) 1)))), (14, .long (Int64.ofNat (gSum (fun v => gCnt (fun k => bk (sB (aS A)) k 4 == v) (sB (aS A)).length) 10))), (16, .long (Int64.ofNat (gCnt (fun j => decide (nI (sN (aS A) 0) < sI (aS A) 7 j)) 10))), (18, .int (nI kb)), (19, .long ((nI (bk (sB (aS A)) kb 0)).toInt64)), (21, .int (nI (bk (sB (aS A)) kb 3))), (22, .int (nI (bk (sB (aS A)) kb 4))), (24, .long (Int64.ofNat (bk (sB (aS A)) kb 0 / 10 ^ (gDc (bk (sB (aS A)) kb 0) - (gDc (bk (sB (aS A)) kb 0))))))]) E dL_kept_1037 (by decide) rfl ?_
                                    refine g_lconst (v := 0) E dL_kept_1039 (by decide) ?_
                                    refine g_topL (y := Int64.ofNat (bk (sB (aS A)) kb 5 / 10 ^ ((gDc (bk (sB (aS A)) kb 5)) - 0))) (by rw [Nat.sub_zero, gDc_pow (by omega)]; rfl) ?_
                                    refine g_lstore (lv' := [(24, .long (Int64.ofNat (bk (sB (aS A)) kb 5 / 10 ^ ((gDc (bk (sB (aS A)) kb 5)) - 0)))), (26, .int 1), (23, .int (nI (gDc (bk (sB (aS A)) kb 0) + 10))), (5, .int 1), (0, .ref (x.1 0)), (1, .int (nI (sN (aS A) 1))), (2, .int (nI ((sB (aS A)).length))), (3, .long ((nI (sN (aS A) 0)).toInt64)), (6, .long (Int64.ofNat (gSum nf (sN (aS A) 1)))), (8, .long (Int64.ofNat (gSum (fun p => gCnt (fun k => bk (sB (aS A)) k 3 == p) (sB (aS A)).length) (sN (aS A) 1)))), (10, .long (Int64.ofNat (gSum (fun p => gCnt (fun i => wq (sW (aS A)) i / 10 == p) (sW (aS A)).length) (sN (aS A) 1)))), (12, .long (Int64.ofNat (gCnt (fun j => decide (nI (sN (aS A) 0) < sI (aS A) 2 j)) (sN (aS A) 1)))), (14, .long (Int64.ofNat (gSum (fun v => gCnt (fun k => bk (sB (aS A)) k 4 == v) (sB (aS A)).length) 10))), (16, .long (Int64.ofNat (gCnt (fun j => decide (nI (sN (aS A) 0) < sI (aS A) 7 j)) 10))), (18, .int (nI kb)), (19, .long ((nI (bk (sB (aS A)) kb 0)).toInt64)), (21, .int (nI (bk (sB (aS A)) kb 3))), (22, .int (nI (bk (sB (aS A)) kb 4)))]) E dL_kept_1040 (by decide) rfl ?_
                                    refine g_iload E dL_kept_1042 2 rfl ?_
                                    refine g_iload E dL_kept_1044 1 rfl ?_
                                    refine g_if_eq (tgt := 1053) E dL_kept_1046 (by decide) (fun c => absurd c (by decide)) (fun _ => ?_)
                                    refine g_iconst (v := 1) E dL_kept_1049 (by decide) ?_
                                    refine g_goto (tgt := 1054) E dL_kept_1050 (by decide) ?_
                                    refine g_iaddN (a := gDc (bk (sB (aS A)) kb 0) + 10) (b := 1) E dL_kept_1054 ?_
                                    refine g_top (y := nI (gDc (bk (sB (aS A)) kb 0) + 11)) (congrArg nI (by omega)) ?_
                                    refine g_istore (lv' := [(23, .int (nI (gDc (bk (sB (aS A)) kb 0) + 11))), (24, .long (Int64.ofNat (bk (sB (aS A)) kb 5 / 10 ^ ((gDc (bk (sB (aS A)) kb 5)) - 0)))), (26, .int 1), (5, .int 1), (0, .ref (x.1 0)), (1, .int (nI (sN (aS A) 1))), (2, .int (nI ((sB (aS A)).length))), (3, .long ((nI (sN (aS A) 0)).toInt64)), (6, .long (Int64.ofNat (gSum nf (sN (aS A) 1)))), (8, .long (Int64.ofNat (gSum (fun p => gCnt (fun k => bk (sB (aS A)) k 3 == p) (sB (aS A)).length) (sN (aS A) 1)))), (10, .long (Int64.ofNat (gSum (fun p => gCnt (fun i => wq (sW (aS A)) i / 10 == p) (sW (aS A)).length) (sN (aS A) 1)))), (12, .long (Int64.ofNat (gCnt (fun j => decide (nI (sN (aS A) 0) < sI (aS A) 2 j)) (sN (aS A) 1)))), (14, .long (Int64.ofNat (gSum (fun v => gCnt (fun k => bk (sB (aS A)) k 4 == v) (sB (aS A)).length) 10))), (16, .long (Int64.ofNat (gCnt (fun j => decide (nI (sN (aS A) 0) < sI (aS A) 7 j)) 10))), (18, .int (nI kb)), (19, .long ((nI (bk (sB (aS A)) kb 0)).toInt64)), (21, .int (nI (bk (sB (aS A)) kb 3))), (22, .int (nI (bk (sB (aS A)) kb 4)))]) E dL_kept_1055 (by decide) rfl ?_
                                    have loop100 : ∀ (n101 : Nat) (kl : Nat) (ul : gVu) (csl : Nat) (ssl : Nat), (kl ≤ (gDc (bk (sB (aS A)) kb 5))) → (gClsI A ul) → (csl ≤ (csj + 156) + 28 * kl) → (ssl ≤ (ssj + 4720) + 856 * kl) → (gDc (bk (sB (aS A)) kb 5)) - kl < n101 → gW V 28 csl ssl (wV G x ul) [(0, .ref (x.1 0)), (1, .int (nI (sN (aS A) 1))), (2, .int (nI ((sB (aS A)).length))), (3, .long ((nI (sN (aS A) 0)).toInt64)), (5, .int 1), (6, .long (Int64.ofNat (gSum nf (sN (aS A) 1)))), (8, .long (Int64.ofNat (gSum (fun p => gCnt (fun k => bk (sB (aS A)) k 3 == p) (sB (aS A)).length) (sN (aS A) 1)))), (10, .long (Int64.ofNat (gSum (fun p => gCnt (fun i => wq (sW (aS A)) i / 10 == p) (sW (aS A)).length) (sN (aS A) 1)))), (12, .long (Int64.ofNat (gCnt (fun j => decide (nI (sN (aS A) 0) < sI (aS A) 2 j)) (sN (aS A) 1)))), (14, .long (Int64.ofNat (gSum (fun v => gCnt (fun k => bk (sB (aS A)) k 4 == v) (sB (aS A)).length) 10))), (16, .long (Int64.ofNat (gCnt (fun j => decide (nI (sN (aS A) 0) < sI (aS A) 7 j)) 10))), (18, .int (nI kb)), (19, .long ((nI (bk (sB (aS A)) kb 0)).toInt64)), (21, .int (nI (bk (sB (aS A)) kb 3))), (22, .int (nI (bk (sB (aS A)) kb 4))), (23, .int (nI (gDc (bk (sB (aS A)) kb 0) + 11 + kl))), (24, .long (Int64.ofNat (bk (sB (aS A)) kb 5 / 10 ^ ((gDc (bk (sB (aS A)) kb 5)) - kl)))), (26, .int 1)] 1057 [] := by
                                      intro n101
                                      induction n101 with
                                      | zero => intro kl ul csl ssl hkl hCl hcl hsl hm103; exact absurd hm103 (Nat.not_lt_zero _)
                                      | succ n101 ih102 =>
                                        intro kl ul csl ssl hkl hCl hcl hsl hm103
                                        refine g_aload_n E dL_kept_1057 rfl 0 rfl ?_
                                        refine g_iload E dL_kept_1058 11 rfl ?_
                                        refine g_iload E dL_kept_1060 15 rfl ?_
                                        refine g_callSWL (As := [.ref (x.1 0), .int (nI kb), .int (nI (gDc (bk (sB (aS A)) kb 0) + 11 + kl))]) (F := []) E (wL_line (x := x) hST hA hb5 hCl (nI kb) (nI (gDc (bk (sB (aS A)) kb 0) + 11 + kl))) gL_kept_L_line rfl hdL_line ⟨Nat.le_of_ble_eq_true rfl, Nat.le_of_ble_eq_true rfl⟩ gPerm_n rfl rfl ?_ dL_kept_1062 ⟨by show csl + 14 ≤ 25000; omega, by show ssl + 428 ≤ 400000; omega⟩ (fun rq104 uq104 hq104 => ?_)
                                        · exact Nat.le_of_ble_eq_true rfl
                                        refine g_perm (ws1 := wV G x uq104) gPerm_n' ?_
                                        obtain ⟨eq104, hCq104⟩ := hq104
                                        rw [show fLine A (nI kb) (nI (gDc (bk (sB (aS A)) kb 0) + 11 + kl)) = _ from fLine_in (A := A) (k := kb) (j := gDc (bk (sB (aS A)) kb 0) + 11 + kl) (by omega) hn24 (by have := (gDc_le (bk (sB (aS A)) kb 0)).2; have := (gDc_le (bk (sB (aS A)) kb 5)).2; omega)] at eq104 hCq104
                                        refine g_topL (y := ((gLine (aS A) kb).getD (gDc (bk (sB (aS A)) kb 0) + 11 + kl) (-1)).toInt64) (eq104.trans (gCd_a rfl)) ?_
                                        refine g_ldc2 (v := 48) E kL_kept_224 dL_kept_1065 ?_
                                        refine g_ldc2 (v := 57) E kL_kept_226 dL_kept_1068 ?_
                                        refine g_callSI (As := [.long (((gLine (aS A) kb).getD (gDc (bk (sB (aS A)) kb 0) + 11 + kl) (-1)).toInt64), .long 48, .long 57]) (F := wV G x uq104) E (mL_in (((gLine (aS A) kb).getD (gDc (bk (sB (aS A)) kb 0) + 11 + kl) (-1)).toInt64) (48 : Int64) (57 : Int64)) gL_kept_L_in rfl hdL_in ⟨Nat.le_of_ble_eq_true rfl, Nat.le_of_ble_eq_true rfl⟩ (gPerm_rfl _) rfl rfl ?_ dL_kept_1071 ⟨by show (csl + 14) + 0 ≤ 25000; omega, by show (ssl + 428) + 0 ≤ 400000; omega⟩ (fun rq105 uq105 hq105 => ?_)
                                        · exact Nat.le_of_ble_eq_true rfl
                                        refine g_ws (ws' := wV G x uq104) rfl ?_
                                        refine g_top (y := if ¬ (((gLine (aS A) kb).getD (gDc (bk (sB (aS A)) kb 0) + 11 + kl) (-1)).toInt64) < (48 : Int64) ∧ ¬ (57 : Int64) < (((gLine (aS A) kb).getD (gDc (bk (sB (aS A)) kb 0) + 11 + kl) (-1)).toInt64) then 1 else 0) hq105 ?_
                                        refine g_if_eqB (tgt := 1104) (P := (¬ (((gLine (aS A) kb).getD (gDc (bk (sB (aS A)) kb 0) + 11 + kl) (-1)).toInt64) < (48 : Int64) ∧ ¬ (57 : Int64) < (((gLine (aS A) kb).getD (gDc (bk (sB (aS A)) kb 0) + 11 + kl) (-1)).toInt64))) E dL_kept_1074 (by decide) (fun c106 => ?_) (fun c106 => ?_)
                                        · skip
                                          have hlM : kl = (gDc (bk (sB (aS A)) kb 5)) := by
                                            rcases Nat.lt_or_ge kl (gDc (bk (sB (aS A)) kb 5)) with q | q
                                            · exfalso
                                              refine c106 ?_
                                              rw [gLn_m hh1 hh2 hh3 hh4 hm0 q]
                                              exact digQ_yes (by omega)
                                            · omega
                                          subst hlM
                                          refine g_lload E dL_kept_1104 12 rfl ?_
                                          refine g_aload_n E dL_kept_1106 rfl 0 rfl ?_
                                          refine g_iload E dL_kept_1107 13 rfl ?_
                                          refine g_iconst (v := 2) E dL_kept_1109 (by decide) ?_
                                          refine g_callSWL (As := [.ref (x.1 0), .int (nI (bk (sB (aS A)) kb 3)), .int 2]) (F := []) E (wL_prisoner (x := x) hST hA hb5 hCq104 (nI (bk (sB (aS A)) kb 3)) (2 : Int32)) gL_kept_L_prisoner rfl hdL_prisoner ⟨Nat.le_of_ble_eq_true rfl, Nat.le_of_ble_eq_true rfl⟩ gPerm_n rfl rfl ?_ dL_kept_1110 ⟨by show (csl + 14) + 1 ≤ 25000; omega, by show (ssl + 428) + 6 ≤ 400000; omega⟩ (fun rq107 uq107 hq107 => ?_)
                                          · exact Nat.le_of_ble_eq_true rfl
                                          refine g_perm (ws1 := wV G x uq107) gPerm_n' ?_
                                          obtain ⟨eq107, hCq107⟩ := hq107
                                          rw [show fPris A (nI (bk (sB (aS A)) kb 3)) (2 : Int32) = _ from fPr_2 (A := A) (p := (bk (sB (aS A)) kb 3)) (by omega) h8] at eq107 hCq107
                                          refine g_topL (y := (sI (aS A) 2 (bk (sB (aS A)) kb 3)).toInt64) (eq107.trans (gCd_a rfl)) ?_
                                          refine g_lcmp E dL_kept_1113 ?_
                                          refine g_if_lt (tgt := 1130) E dL_kept_1114 (by decide) (fun c108 => ?_) (fun c108 => ?_)
                                          · skip
                                            have hnt : (nI (bk (sB (aS A)) kb 0) < sI (aS A) 2 (bk (sB (aS A)) kb 3) ∨ nI (bk (sB (aS A)) kb 0) < sI (aS A) 7 (bk (sB (aS A)) kb 4)) := Or.inl (gLt64.mp (gCmp_lt.mp c108))
                                            refine g_iconst (v := 1) E dL_kept_1130 (by decide) ?_
                                            refine g_goto (tgt := 1135) E dL_kept_1131 (by decide) ?_
                                            refine g_istore (lv' := [(27, .int 1), (0, .ref (x.1 0)), (1, .int (nI (sN (aS A) 1))), (2, .int (nI ((sB (aS A)).length))), (3, .long ((nI (sN (aS A) 0)).toInt64)), (5, .int 1), (6, .long (Int64.ofNat (gSum nf (sN (aS A) 1)))), (8, .long (Int64.ofNat (gSum (fun p => gCnt (fun k => bk (sB (aS A)) k 3 == p) (sB (aS A)).length) (sN (aS A) 1)))), (10, .long (Int64.ofNat (gSum (fun p => gCnt (fun i => wq (sW (aS A)) i / 10 == p) (sW (aS A)).length) (sN (aS A) 1)))), (12, .long (Int64.ofNat (gCnt (fun j => decide (nI (sN (aS A) 0) < sI (aS A) 2 j)) (sN (aS A) 1)))), (14, .long (Int64.ofNat (gSum (fun v => gCnt (fun k => bk (sB (aS A)) k 4 == v) (sB (aS A)).length) 10))), (16, .long (Int64.ofNat (gCnt (fun j => decide (nI (sN (aS A) 0) < sI (aS A) 7 j)) 10))), (18, .int (nI kb)), (19, .long ((nI (bk (sB (aS A)) kb 0)).toInt64)), (21, .int (nI (bk (sB (aS A)) kb 3))), (22, .int (nI (bk (sB (aS A)) kb 4))), (23, .int (nI (gDc (bk (sB (aS A)) kb 0) + 11 + (gDc (bk (sB (aS A)) kb 5))))), (24, .long (Int64.ofNat (bk (sB (aS A)) kb 5 / 10 ^ ((gDc (bk (sB (aS A)) kb 5)) - (gDc (bk (sB (aS A)) kb 5)))))), (26, .int 1)]) E dL_kept_1135 (by decide) rfl ?_
                                            refine g_iload E dL_kept_1137 5 rfl ?_
                                            refine g_if_eq (tgt := 1222) E dL_kept_1139 (by decide) (fun c => absurd c (by decide)) (fun _ => ?_)
                                            refine g_iload E dL_kept_1142 18 rfl ?_
                                            refine g_aload_n E dL_kept_1144 rfl 1 rfl ?_
                                            refine g_iload E dL_kept_1145 12 rfl ?_
                                            refine g_iconst (v := 5) E dL_kept_1147 (by decide) ?_
                                            refine g_callSWL (As := [.ref (x.1 0), .int (nI kb), .int 5]) (F := []) E (wL_booking (x := x) hST hA hb5 hCq107 (nI kb) (5 : Int32)) gL_kept_L_booking rfl hdL_booking ⟨Nat.le_of_ble_eq_true rfl, Nat.le_of_ble_eq_true rfl⟩ gPerm_n rfl rfl ?_ dL_kept_1148 ⟨by show (csl + 15) + 1 ≤ 25000; omega, by show (ssl + 434) + 6 ≤ 400000; omega⟩ (fun rq109 uq109 hq109 => ?_)
                                            · exact Nat.le_of_ble_eq_true rfl
                                            refine g_perm (ws1 := wV G x uq109) gPerm_n' ?_
                                            obtain ⟨eq109, hCq109⟩ := hq109
                                            rw [show fBkng A (nI kb) (5 : Int32) = _ from fBkng_in (A := A) (j := kb) (k := 5) (by omega) hn24 rfl (by omega)] at eq109 hCq109
                                            refine g_topL (y := (nI (bk (sB (aS A)) kb 5)).toInt64) (eq109.trans (gCd_a rfl)) ?_
                                            refine g_lconst (v := 0) E dL_kept_1151 (by decide) ?_
                                            refine g_lcmp E dL_kept_1152 ?_
                                            refine g_if_le (tgt := 1160) E dL_kept_1153 (by decide) (fun c => absurd c (fun c => absurd (gCmp_gt.mpr ((ofNat_lt64 (a := 0) (by decide) (by omega)).mpr hm0 |> fun z => by rw [gI64 _ (by omega)]; exact z)) (Int32.not_lt.mpr c))) (fun _ => ?_)
                                            refine g_iconst (v := 1) E dL_kept_1156 (by decide) ?_
                                            refine g_goto (tgt := 1161) E dL_kept_1157 (by decide) ?_
                                            refine g_icmp_ne (tgt := 1222) E dL_kept_1161 (by decide) (fun c => absurd c (by decide)) (fun _ => ?_)
                                            refine g_lload E dL_kept_1164 17 rfl ?_
                                            refine g_aload_n E dL_kept_1166 rfl 1 rfl ?_
                                            refine g_iload E dL_kept_1167 12 rfl ?_
                                            refine g_iconst (v := 5) E dL_kept_1169 (by decide) ?_
                                            refine g_callSWL (As := [.ref (x.1 0), .int (nI kb), .int 5]) (F := []) E (wL_booking (x := x) hST hA hb5 hCq109 (nI kb) (5 : Int32)) gL_kept_L_booking rfl hdL_booking ⟨Nat.le_of_ble_eq_true rfl, Nat.le_of_ble_eq_true rfl⟩ gPerm_n rfl rfl ?_ dL_kept_1170 ⟨by show (csl + 16) + 1 ≤ 25000; omega, by show (ssl + 440) + 6 ≤ 400000; omega⟩ (fun rq110 uq110 hq110 => ?_)
                                            · exact Nat.le_of_ble_eq_true rfl
                                            refine g_perm (ws1 := wV G x uq110) gPerm_n' ?_
                                            obtain ⟨eq110, hCq110⟩ := hq110
                                            rw [show fBkng A (nI kb) (5 : Int32) = _ from fBkng_in (A := A) (j := kb) (k := 5) (by omega) hn24 rfl (by omega)] at eq110 hCq110
                                            refine g_topL (y := (nI (bk (sB (aS A)) kb 5)).toInt64) (eq110.trans (gCd_a rfl)) ?_
                                            refine g_lcmp E dL_kept_1173 ?_
                                            refine g_if_ne (tgt := 1222) E dL_kept_1174 (by decide) (fun c => absurd (gCmp_eq.mpr (by rw [Nat.sub_self, Nat.pow_zero, Nat.div_one, gI64 _ (by omega)])) c) (fun _ => ?_)
                                            refine g_aload_n E dL_kept_1177 rfl 1 rfl ?_
                                            refine g_iload E dL_kept_1178 12 rfl ?_
                                            refine g_iload E dL_kept_1180 16 rfl ?_
                                            refine g_callSWL (As := [.ref (x.1 0), .int (nI kb), .int (nI (gDc (bk (sB (aS A)) kb 0) + 11 + (gDc (bk (sB (aS A)) kb 5))))]) (F := []) E (wL_line (x := x) hST hA hb5 hCq110 (nI kb) (nI (gDc (bk (sB (aS A)) kb 0) + 11 + (gDc (bk (sB (aS A)) kb 5))))) gL_kept_L_line rfl hdL_line ⟨Nat.le_of_ble_eq_true rfl, Nat.le_of_ble_eq_true rfl⟩ gPerm_n rfl rfl ?_ dL_kept_1182 ⟨by show (csl + 17) + 14 ≤ 25000; omega, by show (ssl + 446) + 428 ≤ 400000; omega⟩ (fun rq111 uq111 hq111 => ?_)
                                            · exact Nat.le_of_ble_eq_true rfl
                                            refine g_perm (ws1 := wV G x uq111) gPerm_n' ?_
                                            obtain ⟨eq111, hCq111⟩ := hq111
                                            rw [show fLine A (nI kb) (nI (gDc (bk (sB (aS A)) kb 0) + 11 + (gDc (bk (sB (aS A)) kb 5)))) = _ from fLine_in (A := A) (k := kb) (j := gDc (bk (sB (aS A)) kb 0) + 11 + (gDc (bk (sB (aS A)) kb 5))) (by omega) hn24 (by have := (gDc_le (bk (sB (aS A)) kb 0)).2; have := (gDc_le (bk (sB (aS A)) kb 5)).2; omega)] at eq111 hCq111
                                            refine g_topL (y := ((gLine (aS A) kb).getD (gDc (bk (sB (aS A)) kb 0) + 11 + (gDc (bk (sB (aS A)) kb 5))) (-1)).toInt64) (eq111.trans (gCd_a rfl)) ?_
                                            refine g_topL (y := (33 : Int32).toInt64) (congrArg Int32.toInt64 ((gLn_e hh1 hh2 hh3 hh4 hm0 0).trans (by rw [if_pos hnt]; rfl))) ?_
                                            refine g_iload E dL_kept_1185 0 rfl ?_
                                            refine g_if_eq (tgt := 1195) E dL_kept_1187 (by decide) (fun c => absurd c (by decide)) (fun _ => ?_)
                                            refine g_bipush (v := 33) E dL_kept_1190 (by decide) ?_
                                            refine g_goto (tgt := 1196) E dL_kept_1192 (by decide) ?_
                                            refine g_i2l (v := (33 : Int32).toInt64) E dL_kept_1196 rfl ?_
                                            refine g_lcmp E dL_kept_1197 ?_
                                            refine g_if_ne (tgt := 1222) E dL_kept_1198 (by decide) (fun c => absurd (gCmp_eq.mpr rfl) c) (fun _ => ?_)
                                            refine g_aload_n E dL_kept_1201 rfl 1 rfl ?_
                                            refine g_iload E dL_kept_1202 12 rfl ?_
                                            refine g_iload E dL_kept_1204 16 rfl ?_
                                            refine g_iconst (v := 1) E dL_kept_1206 (by decide) ?_
                                            refine g_iaddN (a := gDc (bk (sB (aS A)) kb 0) + 11 + (gDc (bk (sB (aS A)) kb 5))) (b := 1) E dL_kept_1207 ?_
                                            refine g_callSWL (As := [.ref (x.1 0), .int (nI kb), .int (nI (gDc (bk (sB (aS A)) kb 0) + 11 + (gDc (bk (sB (aS A)) kb 5)) + 1))]) (F := []) E (wL_line (x := x) hST hA hb5 hCq111 (nI kb) (nI (gDc (bk (sB (aS A)) kb 0) + 11 + (gDc (bk (sB (aS A)) kb 5)) + 1))) gL_kept_L_line rfl hdL_line ⟨Nat.le_of_ble_eq_true rfl, Nat.le_of_ble_eq_true rfl⟩ gPerm_n rfl rfl ?_ dL_kept_1208 ⟨by show (csl + 31) + 14 ≤ 25000; omega, by show (ssl + 874) + 428 ≤ 400000; omega⟩ (fun rq112 uq112 hq112 => ?_)
                                            · exact Nat.le_of_ble_eq_true rfl
                                            refine g_perm (ws1 := wV G x uq112) gPerm_n' ?_
                                            obtain ⟨eq112, hCq112⟩ := hq112
                                            rw [show fLine A (nI kb) (nI (gDc (bk (sB (aS A)) kb 0) + 11 + (gDc (bk (sB (aS A)) kb 5)) + 1)) = _ from fLine_in (A := A) (k := kb) (j := gDc (bk (sB (aS A)) kb 0) + 11 + (gDc (bk (sB (aS A)) kb 5)) + 1) (by omega) hn24 (by have := (gDc_le (bk (sB (aS A)) kb 0)).2; have := (gDc_le (bk (sB (aS A)) kb 5)).2; omega)] at eq112 hCq112
                                            refine g_topL (y := ((gLine (aS A) kb).getD (gDc (bk (sB (aS A)) kb 0) + 11 + (gDc (bk (sB (aS A)) kb 5)) + 1) (-1)).toInt64) (eq112.trans (gCd_a rfl)) ?_
                                            refine g_topL (y := (-1 : Int32).toInt64) (congrArg Int32.toInt64 ((gLn_e hh1 hh2 hh3 hh4 hm0 1).trans (by rw [if_pos hnt]; rfl))) ?_
                                            refine g_ldc2 (v := -1) E kL_kept_183 dL_kept_1211 ?_
                                            refine g_lcmp E dL_kept_1214 ?_
                                            refine g_if_ne (tgt := 1222) E dL_kept_1215 (by decide) (fun c => absurd (gCmp_eq.mpr rfl) c) (fun _ => ?_)
                                            refine g_iconst (v := 1) E dL_kept_1218 (by decide) ?_
                                            refine g_goto (tgt := 1223) E dL_kept_1219 (by decide) ?_
                                            refine g_istore (lv' := [(5, .int 1), (27, .int 1), (0, .ref (x.1 0)), (1, .int (nI (sN (aS A) 1))), (2, .int (nI ((sB (aS A)).length))), (3, .long ((nI (sN (aS A) 0)).toInt64)), (6, .long (Int64.ofNat (gSum nf (sN (aS A) 1)))), (8, .long (Int64.ofNat (gSum (fun p => gCnt (fun k => bk (sB (aS A)) k 3 == p) (sB (aS A)).length) (sN (aS A) 1)))), (10, .long (Int64.ofNat (gSum (fun p => gCnt (fun i => wq (sW (aS A)) i / 10 == p) (sW (aS A)).length) (sN (aS A) 1)))), (12, .long (Int64.ofNat (gCnt (fun j => decide (nI (sN (aS A) 0) < sI (aS A) 2 j)) (sN (aS A) 1)))), (14, .long (Int64.ofNat (gSum (fun v => gCnt (fun k => bk (sB (aS A)) k 4 == v) (sB (aS A)).length) 10))), (16, .long (Int64.ofNat (gCnt (fun j => decide (nI (sN (aS A) 0) < sI (aS A) 7 j)) 10))), (18, .int (nI kb)), (19, .long ((nI (bk (sB (aS A)) kb 0)).toInt64)), (21, .int (nI (bk (sB (aS A)) kb 3))), (22, .int (nI (bk (sB (aS A)) kb 4))), (23, .int (nI (gDc (bk (sB (aS A)) kb 0) + 11 + (gDc (bk (sB (aS A)) kb 5))))), (24, .long (Int64.ofNat (bk (sB (aS A)) kb 5 / 10 ^ ((gDc (bk (sB (aS A)) kb 5)) - (gDc (bk (sB (aS A)) kb 5)))))), (26, .int 1)]) E dL_kept_1223 (by decide) rfl ?_
                                            refine g_iinc (lv' := [(18, .int (nI (kb + 1))), (5, .int 1), (27, .int 1), (0, .ref (x.1 0)), (1, .int (nI (sN (aS A) 1))), (2, .int (nI ((sB (aS A)).length))), (3, .long ((nI (sN (aS A) 0)).toInt64)), (6, .long (Int64.ofNat (gSum nf (sN (aS A) 1)))), (8, .long (Int64.ofNat (gSum (fun p => gCnt (fun k => bk (sB (aS A)) k 3 == p) (sB (aS A)).length) (sN (aS A) 1)))), (10, .long (Int64.ofNat (gSum (fun p => gCnt (fun i => wq (sW (aS A)) i / 10 == p) (sW (aS A)).length) (sN (aS A) 1)))), (12, .long (Int64.ofNat (gCnt (fun j => decide (nI (sN (aS A) 0) < sI (aS A) 2 j)) (sN (aS A) 1)))), (14, .long (Int64.ofNat (gSum (fun v => gCnt (fun k => bk (sB (aS A)) k 4 == v) (sB (aS A)).length) 10))), (16, .long (Int64.ofNat (gCnt (fun j => decide (nI (sN (aS A) 0) < sI (aS A) 7 j)) 10))), (19, .long ((nI (bk (sB (aS A)) kb 0)).toInt64)), (21, .int (nI (bk (sB (aS A)) kb 3))), (22, .int (nI (bk (sB (aS A)) kb 4))), (23, .int (nI (gDc (bk (sB (aS A)) kb 0) + 11 + (gDc (bk (sB (aS A)) kb 5))))), (24, .long (Int64.ofNat (bk (sB (aS A)) kb 5 / 10 ^ ((gDc (bk (sB (aS A)) kb 5)) - (gDc (bk (sB (aS A)) kb 5)))))), (26, .int 1)]) E dL_kept_1225 12 rfl (g_inc _ 1 (by decide)) (by decide) rfl ?_
                                            refine g_goto (tgt := 464) E dL_kept_1228 (by decide) ?_
                                            refine g_lv [3, 4, 5, 6, 1, 7, 8, 9, 10, 11, 12, 0] rfl ?_
                                            exact ih23  (kb + 1) uq112 (csl + 45) (ssl + 1302) (by omega) hCq112 (by omega) (by omega) (by omega)
                                          · skip
                                            refine g_lload E dL_kept_1117 12 rfl ?_
                                            refine g_aload_n E dL_kept_1119 rfl 0 rfl ?_
                                            refine g_iload E dL_kept_1120 14 rfl ?_
                                            refine g_iconst (v := 1) E dL_kept_1122 (by decide) ?_
                                            refine g_callSWL (As := [.ref (x.1 0), .int (nI (bk (sB (aS A)) kb 4)), .int 1]) (F := []) E (wL_visitor (x := x) hST hA hb5 hCq107 (nI (bk (sB (aS A)) kb 4)) (1 : Int32)) gL_kept_L_visitor rfl hdL_visitor ⟨Nat.le_of_ble_eq_true rfl, Nat.le_of_ble_eq_true rfl⟩ gPerm_n rfl rfl ?_ dL_kept_1123 ⟨by show (csl + 15) + 1 ≤ 25000; omega, by show (ssl + 434) + 6 ≤ 400000; omega⟩ (fun rq113 uq113 hq113 => ?_)
                                            · exact Nat.le_of_ble_eq_true rfl
                                            refine g_perm (ws1 := wV G x uq113) gPerm_n' ?_
                                            obtain ⟨eq113, hCq113⟩ := hq113
                                            rw [show fVisr A (nI (bk (sB (aS A)) kb 4)) (1 : Int32) = _ from fVi_1 (A := A) (v := (bk (sB (aS A)) kb 4)) (by omega)] at eq113 hCq113
                                            refine g_topL (y := (sI (aS A) 7 (bk (sB (aS A)) kb 4)).toInt64) (eq113.trans (gCd_a rfl)) ?_
                                            refine g_lcmp E dL_kept_1126 ?_
                                            refine g_if_ge (tgt := 1134) E dL_kept_1127 (by decide) (fun c114 => ?_) (fun c114 => ?_)
                                            · skip
                                              have hnt : ¬ (nI (bk (sB (aS A)) kb 0) < sI (aS A) 2 (bk (sB (aS A)) kb 3) ∨ nI (bk (sB (aS A)) kb 0) < sI (aS A) 7 (bk (sB (aS A)) kb 4)) := fun q => q.elim (fun z => c108 (gCmp_lt.mpr (gLt64.mpr z))) (fun z => gCmp_nge (gLt64.mpr z) c114)
                                              refine g_iconst (v := 0) E dL_kept_1134 (by decide) ?_
                                              refine g_istore (lv' := [(27, .int 0), (0, .ref (x.1 0)), (1, .int (nI (sN (aS A) 1))), (2, .int (nI ((sB (aS A)).length))), (3, .long ((nI (sN (aS A) 0)).toInt64)), (5, .int 1), (6, .long (Int64.ofNat (gSum nf (sN (aS A) 1)))), (8, .long (Int64.ofNat (gSum (fun p => gCnt (fun k => bk (sB (aS A)) k 3 == p) (sB (aS A)).length) (sN (aS A) 1)))), (10, .long (Int64.ofNat (gSum (fun p => gCnt (fun i => wq (sW (aS A)) i / 10 == p) (sW (aS A)).length) (sN (aS A) 1)))), (12, .long (Int64.ofNat (gCnt (fun j => decide (nI (sN (aS A) 0) < sI (aS A) 2 j)) (sN (aS A) 1)))), (14, .long (Int64.ofNat (gSum (fun v => gCnt (fun k => bk (sB (aS A)) k 4 == v) (sB (aS A)).length) 10))), (16, .long (Int64.ofNat (gCnt (fun j => decide (nI (sN (aS A) 0) < sI (aS A) 7 j)) 10))), (18, .int (nI kb)), (19, .long ((nI (bk (sB (aS A)) kb 0)).toInt64)), (21, .int (nI (bk (sB (aS A)) kb 3))), (22, .int (nI (bk (sB (aS A)) kb 4))), (23, .int (nI (gDc (bk (sB (aS A)) kb 0) + 11 + (gDc (bk (sB (aS A)) kb 5))))), (24, .long (Int64.ofNat (bk (sB (aS A)) kb 5 / 10 ^ ((gDc (bk (sB (aS A)) kb 5)) - (gDc (bk (sB (aS A)) kb 5)))))), (26, .int 1)]) E dL_kept_1135 (by decide) rfl ?_
                                              refine g_iload E dL_kept_1137 5 rfl ?_
                                              refine g_if_eq (tgt := 1222) E dL_kept_1139 (by decide) (fun c => absurd c (by decide)) (fun _ => ?_)
                                              refine g_iload E dL_kept_1142 18 rfl ?_
                                              refine g_aload_n E dL_kept_1144 rfl 1 rfl ?_
                                              refine g_iload E dL_kept_1145 12 rfl ?_
                                              refine g_iconst (v := 5) E dL_kept_1147 (by decide) ?_
                                              refine g_callSWL (As := [.ref (x.1 0), .int (nI kb), .int 5]) (F := []) E (wL_booking (x := x) hST hA hb5 hCq113 (nI kb) (5 : Int32)) gL_kept_L_booking rfl hdL_booking ⟨Nat.le_of_ble_eq_true rfl, Nat.le_of_ble_eq_true rfl⟩ gPerm_n rfl rfl ?_ dL_kept_1148 ⟨by show (csl + 16) + 1 ≤ 25000; omega, by show (ssl + 440) + 6 ≤ 400000; omega⟩ (fun rq115 uq115 hq115 => ?_)
                                              · exact Nat.le_of_ble_eq_true rfl
                                              refine g_perm (ws1 := wV G x uq115) gPerm_n' ?_
                                              obtain ⟨eq115, hCq115⟩ := hq115
                                              rw [show fBkng A (nI kb) (5 : Int32) = _ from fBkng_in (A := A) (j := kb) (k := 5) (by omega) hn24 rfl (by omega)] at eq115 hCq115
                                              refine g_topL (y := (nI (bk (sB (aS A)) kb 5)).toInt64) (eq115.trans (gCd_a rfl)) ?_
                                              refine g_lconst (v := 0) E dL_kept_1151 (by decide) ?_
                                              refine g_lcmp E dL_kept_1152 ?_
                                              refine g_if_le (tgt := 1160) E dL_kept_1153 (by decide) (fun c => absurd c (fun c => absurd (gCmp_gt.mpr ((ofNat_lt64 (a := 0) (by decide) (by omega)).mpr hm0 |> fun z => by rw [gI64 _ (by omega)]; exact z)) (Int32.not_lt.mpr c))) (fun _ => ?_)
                                              refine g_iconst (v := 1) E dL_kept_1156 (by decide) ?_
                                              refine g_goto (tgt := 1161) E dL_kept_1157 (by decide) ?_
                                              refine g_icmp_ne (tgt := 1222) E dL_kept_1161 (by decide) (fun c => absurd c (by decide)) (fun _ => ?_)
                                              refine g_lload E dL_kept_1164 17 rfl ?_
                                              refine g_aload_n E dL_kept_1166 rfl 1 rfl ?_
                                              refine g_iload E dL_kept_1167 12 rfl ?_
                                              refine g_iconst (v := 5) E dL_kept_1169 (by decide) ?_
                                              refine g_callSWL (As := [.ref (x.1 0), .int (nI kb), .int 5]) (F := []) E (wL_booking (x := x) hST hA hb5 hCq115 (nI kb) (5 : Int32)) gL_kept_L_booking rfl hdL_booking ⟨Nat.le_of_ble_eq_true rfl, Nat.le_of_ble_eq_true rfl⟩ gPerm_n rfl rfl ?_ dL_kept_1170 ⟨by show (csl + 17) + 1 ≤ 25000; omega, by show (ssl + 446) + 6 ≤ 400000; omega⟩ (fun rq116 uq116 hq116 => ?_)
                                              · exact Nat.le_of_ble_eq_true rfl
                                              refine g_perm (ws1 := wV G x uq116) gPerm_n' ?_
                                              obtain ⟨eq116, hCq116⟩ := hq116
                                              rw [show fBkng A (nI kb) (5 : Int32) = _ from fBkng_in (A := A) (j := kb) (k := 5) (by omega) hn24 rfl (by omega)] at eq116 hCq116
                                              refine g_topL (y := (nI (bk (sB (aS A)) kb 5)).toInt64) (eq116.trans (gCd_a rfl)) ?_
                                              refine g_lcmp E dL_kept_1173 ?_
                                              refine g_if_ne (tgt := 1222) E dL_kept_1174 (by decide) (fun c => absurd (gCmp_eq.mpr (by rw [Nat.sub_self, Nat.pow_zero, Nat.div_one, gI64 _ (by omega)])) c) (fun _ => ?_)
                                              refine g_aload_n E dL_kept_1177 rfl 1 rfl ?_
                                              refine g_iload E dL_kept_1178 12 rfl ?_
                                              refine g_iload E dL_kept_1180 16 rfl ?_
                                              refine g_callSWL (As := [.ref (x.1 0), .int (nI kb), .int (nI (gDc (bk (sB (aS A)) kb 0) + 11 + (gDc (bk (sB (aS A)) kb 5))))]) (F := []) E (wL_line (x := x) hST hA hb5 hCq116 (nI kb) (nI (gDc (bk (sB (aS A)) kb 0) + 11 + (gDc (bk (sB (aS A)) kb 5))))) gL_kept_L_line rfl hdL_line ⟨Nat.le_of_ble_eq_true rfl, Nat.le_of_ble_eq_true rfl⟩ gPerm_n rfl rfl ?_ dL_kept_1182 ⟨by show (csl + 18) + 14 ≤ 25000; omega, by show (ssl + 452) + 428 ≤ 400000; omega⟩ (fun rq117 uq117 hq117 => ?_)
                                              · exact Nat.le_of_ble_eq_true rfl
                                              refine g_perm (ws1 := wV G x uq117) gPerm_n' ?_
                                              obtain ⟨eq117, hCq117⟩ := hq117
                                              rw [show fLine A (nI kb) (nI (gDc (bk (sB (aS A)) kb 0) + 11 + (gDc (bk (sB (aS A)) kb 5)))) = _ from fLine_in (A := A) (k := kb) (j := gDc (bk (sB (aS A)) kb 0) + 11 + (gDc (bk (sB (aS A)) kb 5))) (by omega) hn24 (by have := (gDc_le (bk (sB (aS A)) kb 0)).2; have := (gDc_le (bk (sB (aS A)) kb 5)).2; omega)] at eq117 hCq117
                                              refine g_topL (y := ((gLine (aS A) kb).getD (gDc (bk (sB (aS A)) kb 0) + 11 + (gDc (bk (sB (aS A)) kb 5))) (-1)).toInt64) (eq117.trans (gCd_a rfl)) ?_
                                              refine g_topL (y := (-1 : Int32).toInt64) (congrArg Int32.toInt64 ((gLn_e hh1 hh2 hh3 hh4 hm0 0).trans (by rw [if_neg hnt]; rfl))) ?_
                                              refine g_iload E dL_kept_1185 0 rfl ?_
                                              refine g_if_eq (tgt := 1195) E dL_kept_1187 (by decide) (fun _ => ?_) (fun c => absurd c (by decide))
                                              refine g_iconst (v := (-1)) E dL_kept_1195 (by decide) ?_
                                              refine g_i2l (v := (-1 : Int32).toInt64) E dL_kept_1196 rfl ?_
                                              refine g_lcmp E dL_kept_1197 ?_
                                              refine g_if_ne (tgt := 1222) E dL_kept_1198 (by decide) (fun c => absurd (gCmp_eq.mpr rfl) c) (fun _ => ?_)
                                              refine g_aload_n E dL_kept_1201 rfl 1 rfl ?_
                                              refine g_iload E dL_kept_1202 12 rfl ?_
                                              refine g_iload E dL_kept_1204 16 rfl ?_
                                              refine g_iconst (v := 1) E dL_kept_1206 (by decide) ?_
                                              refine g_iaddN (a := gDc (bk (sB (aS A)) kb 0) + 11 + (gDc (bk (sB (aS A)) kb 5))) (b := 1) E dL_kept_1207 ?_
                                              refine g_callSWL (As := [.ref (x.1 0), .int (nI kb), .int (nI (gDc (bk (sB (aS A)) kb 0) + 11 + (gDc (bk (sB (aS A)) kb 5)) + 1))]) (F := []) E (wL_line (x := x) hST hA hb5 hCq117 (nI kb) (nI (gDc (bk (sB (aS A)) kb 0) + 11 + (gDc (bk (sB (aS A)) kb 5)) + 1))) gL_kept_L_line rfl hdL_line ⟨Nat.le_of_ble_eq_true rfl, Nat.le_of_ble_eq_true rfl⟩ gPerm_n rfl rfl ?_ dL_kept_1208 ⟨by show (csl + 32) + 14 ≤ 25000; omega, by show (ssl + 880) + 428 ≤ 400000; omega⟩ (fun rq118 uq118 hq118 => ?_)
                                              · exact Nat.le_of_ble_eq_true rfl
                                              refine g_perm (ws1 := wV G x uq118) gPerm_n' ?_
                                              obtain ⟨eq118, hCq118⟩ := hq118
                                              rw [show fLine A (nI kb) (nI (gDc (bk (sB (aS A)) kb 0) + 11 + (gDc (bk (sB (aS A)) kb 5)) + 1)) = _ from fLine_in (A := A) (k := kb) (j := gDc (bk (sB (aS A)) kb 0) + 11 + (gDc (bk (sB (aS A)) kb 5)) + 1) (by omega) hn24 (by have := (gDc_le (bk (sB (aS A)) kb 0)).2; have := (gDc_le (bk (sB (aS A)) kb 5)).2; omega)] at eq118 hCq118
                                              refine g_topL (y := ((gLine (aS A) kb).getD (gDc (bk (sB (aS A)) kb 0) + 11 + (gDc (bk (sB (aS A)) kb 5)) + 1) (-1)).toInt64) (eq118.trans (gCd_a rfl)) ?_
                                              refine g_topL (y := (-1 : Int32).toInt64) (congrArg Int32.toInt64 ((gLn_e hh1 hh2 hh3 hh4 hm0 1).trans (by rw [if_neg hnt]; rfl))) ?_
                                              refine g_ldc2 (v := -1) E kL_kept_183 dL_kept_1211 ?_
                                              refine g_lcmp E dL_kept_1214 ?_
                                              refine g_if_ne (tgt := 1222) E dL_kept_1215 (by decide) (fun c => absurd (gCmp_eq.mpr rfl) c) (fun _ => ?_)
                                              refine g_iconst (v := 1) E dL_kept_1218 (by decide) ?_
                                              refine g_goto (tgt := 1223) E dL_kept_1219 (by decide) ?_
                                              refine g_istore (lv' := [(5, .int 1), (27, .int 0), (0, .ref (x.1 0)), (1, .int (nI (sN (aS A) 1))), (2, .int (nI ((sB (aS A)).length))), (3, .long ((nI (sN (aS A) 0)).toInt64)), (6, .long (Int64.ofNat (gSum nf (sN (aS A) 1)))), (8, .long (Int64.ofNat (gSum (fun p => gCnt (fun k => bk (sB (aS A)) k 3 == p) (sB (aS A)).length) (sN (aS A) 1)))), (10, .long (Int64.ofNat (gSum (fun p => gCnt (fun i => wq (sW (aS A)) i / 10 == p) (sW (aS A)).length) (sN (aS A) 1)))), (12, .long (Int64.ofNat (gCnt (fun j => decide (nI (sN (aS A) 0) < sI (aS A) 2 j)) (sN (aS A) 1)))), (14, .long (Int64.ofNat (gSum (fun v => gCnt (fun k => bk (sB (aS A)) k 4 == v) (sB (aS A)).length) 10))), (16, .long (Int64.ofNat (gCnt (fun j => decide (nI (sN (aS A) 0) < sI (aS A) 7 j)) 10))), (18, .int (nI kb)), (19, .long ((nI (bk (sB (aS A)) kb 0)).toInt64)), (21, .int (nI (bk (sB (aS A)) kb 3))), (22, .int (nI (bk (sB (aS A)) kb 4))), (23, .int (nI (gDc (bk (sB (aS A)) kb 0) + 11 + (gDc (bk (sB (aS A)) kb 5))))), (24, .long (Int64.ofNat (bk (sB (aS A)) kb 5 / 10 ^ ((gDc (bk (sB (aS A)) kb 5)) - (gDc (bk (sB (aS A)) kb 5)))))), (26, .int 1)]) E dL_kept_1223 (by decide) rfl ?_
                                              refine g_iinc (lv' := [(18, .int (nI (kb + 1))), (5, .int 1), (27, .int 0), (0, .ref (x.1 0)), (1, .int (nI (sN (aS A) 1))), (2, .int (nI ((sB (aS A)).length))), (3, .long ((nI (sN (aS A) 0)).toInt64)), (6, .long (Int64.ofNat (gSum nf (sN (aS A) 1)))), (8, .long (Int64.ofNat (gSum (fun p => gCnt (fun k => bk (sB (aS A)) k 3 == p) (sB (aS A)).length) (sN (aS A) 1)))), (10, .long (Int64.ofNat (gSum (fun p => gCnt (fun i => wq (sW (aS A)) i / 10 == p) (sW (aS A)).length) (sN (aS A) 1)))), (12, .long (Int64.ofNat (gCnt (fun j => decide (nI (sN (aS A) 0) < sI (aS A) 2 j)) (sN (aS A) 1)))), (14, .long (Int64.ofNat (gSum (fun v => gCnt (fun k => bk (sB (aS A)) k 4 == v) (sB (aS A)).length) 10))), (16, .long (Int64.ofNat (gCnt (fun j => decide (nI (sN (aS A) 0) < sI (aS A) 7 j)) 10))), (19, .long ((nI (bk (sB (aS A)) kb 0)).toInt64)), (21, .int (nI (bk (sB (aS A)) kb 3))), (22, .int (nI (bk (sB (aS A)) kb 4))), (23, .int (nI (gDc (bk (sB (aS A)) kb 0) + 11 + (gDc (bk (sB (aS A)) kb 5))))), (24, .long (Int64.ofNat (bk (sB (aS A)) kb 5 / 10 ^ ((gDc (bk (sB (aS A)) kb 5)) - (gDc (bk (sB (aS A)) kb 5)))))), (26, .int 1)]) E dL_kept_1225 12 rfl (g_inc _ 1 (by decide)) (by decide) rfl ?_
                                              refine g_goto (tgt := 464) E dL_kept_1228 (by decide) ?_
                                              refine g_lv [3, 4, 5, 6, 1, 7, 8, 9, 10, 11, 12, 0] rfl ?_
                                              exact ih23  (kb + 1) uq118 (csl + 46) (ssl + 1308) (by omega) hCq118 (by omega) (by omega) (by omega)
                                            · skip
                                              have hnt : (nI (bk (sB (aS A)) kb 0) < sI (aS A) 2 (bk (sB (aS A)) kb 3) ∨ nI (bk (sB (aS A)) kb 0) < sI (aS A) 7 (bk (sB (aS A)) kb 4)) := Or.inr (gLt64.mp (gCmp_lt.mp (Int32.not_le.mp c114)))
                                              refine g_iconst (v := 1) E dL_kept_1130 (by decide) ?_
                                              refine g_goto (tgt := 1135) E dL_kept_1131 (by decide) ?_
                                              refine g_istore (lv' := [(27, .int 1), (0, .ref (x.1 0)), (1, .int (nI (sN (aS A) 1))), (2, .int (nI ((sB (aS A)).length))), (3, .long ((nI (sN (aS A) 0)).toInt64)), (5, .int 1), (6, .long (Int64.ofNat (gSum nf (sN (aS A) 1)))), (8, .long (Int64.ofNat (gSum (fun p => gCnt (fun k => bk (sB (aS A)) k 3 == p) (sB (aS A)).length) (sN (aS A) 1)))), (10, .long (Int64.ofNat (gSum (fun p => gCnt (fun i => wq (sW (aS A)) i / 10 == p) (sW (aS A)).length) (sN (aS A) 1)))), (12, .long (Int64.ofNat (gCnt (fun j => decide (nI (sN (aS A) 0) < sI (aS A) 2 j)) (sN (aS A) 1)))), (14, .long (Int64.ofNat (gSum (fun v => gCnt (fun k => bk (sB (aS A)) k 4 == v) (sB (aS A)).length) 10))), (16, .long (Int64.ofNat (gCnt (fun j => decide (nI (sN (aS A) 0) < sI (aS A) 7 j)) 10))), (18, .int (nI kb)), (19, .long ((nI (bk (sB (aS A)) kb 0)).toInt64)), (21, .int (nI (bk (sB (aS A)) kb 3))), (22, .int (nI (bk (sB (aS A)) kb 4))), (23, .int (nI (gDc (bk (sB (aS A)) kb 0) + 11 + (gDc (bk (sB (aS A)) kb 5))))), (24, .long (Int64.ofNat (bk (sB (aS A)) kb 5 / 10 ^ ((gDc (bk (sB (aS A)) kb 5)) - (gDc (bk (sB (aS A)) kb 5)))))), (26, .int 1)]) E dL_kept_1135 (by decide) rfl ?_
                                              refine g_iload E dL_kept_1137 5 rfl ?_
                                              refine g_if_eq (tgt := 1222) E dL_kept_1139 (by decide) (fun c => absurd c (by decide)) (fun _ => ?_)
                                              refine g_iload E dL_kept_1142 18 rfl ?_
                                              refine g_aload_n E dL_kept_1144 rfl 1 rfl ?_
                                              refine g_iload E dL_kept_1145 12 rfl ?_
                                              refine g_iconst (v := 5) E dL_kept_1147 (by decide) ?_
                                              refine g_callSWL (As := [.ref (x.1 0), .int (nI kb), .int 5]) (F := []) E (wL_booking (x := x) hST hA hb5 hCq113 (nI kb) (5 : Int32)) gL_kept_L_booking rfl hdL_booking ⟨Nat.le_of_ble_eq_true rfl, Nat.le_of_ble_eq_true rfl⟩ gPerm_n rfl rfl ?_ dL_kept_1148 ⟨by show (csl + 16) + 1 ≤ 25000; omega, by show (ssl + 440) + 6 ≤ 400000; omega⟩ (fun rq119 uq119 hq119 => ?_)
                                              · exact Nat.le_of_ble_eq_true rfl
                                              refine g_perm (ws1 := wV G x uq119) gPerm_n' ?_
                                              obtain ⟨eq119, hCq119⟩ := hq119
                                              rw [show fBkng A (nI kb) (5 : Int32) = _ from fBkng_in (A := A) (j := kb) (k := 5) (by omega) hn24 rfl (by omega)] at eq119 hCq119
                                              refine g_topL (y := (nI (bk (sB (aS A)) kb 5)).toInt64) (eq119.trans (gCd_a rfl)) ?_
                                              refine g_lconst (v := 0) E dL_kept_1151 (by decide) ?_
                                              refine g_lcmp E dL_kept_1152 ?_
                                              refine g_if_le (tgt := 1160) E dL_kept_1153 (by decide) (fun c => absurd c (fun c => absurd (gCmp_gt.mpr ((ofNat_lt64 (a := 0) (by decide) (by omega)).mpr hm0 |> fun z => by rw [gI64 _ (by omega)]; exact z)) (Int32.not_lt.mpr c))) (fun _ => ?_)
                                              refine g_iconst (v := 1) E dL_kept_1156 (by decide) ?_
                                              refine g_goto (tgt := 1161) E dL_kept_1157 (by decide) ?_
                                              refine g_icmp_ne (tgt := 1222) E dL_kept_1161 (by decide) (fun c => absurd c (by decide)) (fun _ => ?_)
                                              refine g_lload E dL_kept_1164 17 rfl ?_
                                              refine g_aload_n E dL_kept_1166 rfl 1 rfl ?_
                                              refine g_iload E dL_kept_1167 12 rfl ?_
                                              refine g_iconst (v := 5) E dL_kept_1169 (by decide) ?_
                                              refine g_callSWL (As := [.ref (x.1 0), .int (nI kb), .int 5]) (F := []) E (wL_booking (x := x) hST hA hb5 hCq119 (nI kb) (5 : Int32)) gL_kept_L_booking rfl hdL_booking ⟨Nat.le_of_ble_eq_true rfl, Nat.le_of_ble_eq_true rfl⟩ gPerm_n rfl rfl ?_ dL_kept_1170 ⟨by show (csl + 17) + 1 ≤ 25000; omega, by show (ssl + 446) + 6 ≤ 400000; omega⟩ (fun rq120 uq120 hq120 => ?_)
                                              · exact Nat.le_of_ble_eq_true rfl
                                              refine g_perm (ws1 := wV G x uq120) gPerm_n' ?_
                                              obtain ⟨eq120, hCq120⟩ := hq120
                                              rw [show fBkng A (nI kb) (5 : Int32) = _ from fBkng_in (A := A) (j := kb) (k := 5) (by omega) hn24 rfl (by omega)] at eq120 hCq120
                                              refine g_topL (y := (nI (bk (sB (aS A)) kb 5)).toInt64) (eq120.trans (gCd_a rfl)) ?_
                                              refine g_lcmp E dL_kept_1173 ?_
                                              refine g_if_ne (tgt := 1222) E dL_kept_1174 (by decide) (fun c => absurd (gCmp_eq.mpr (by rw [Nat.sub_self, Nat.pow_zero, Nat.div_one, gI64 _ (by omega)])) c) (fun _ => ?_)
                                              refine g_aload_n E dL_kept_1177 rfl 1 rfl ?_
                                              refine g_iload E dL_kept_1178 12 rfl ?_
                                              refine g_iload E dL_kept_1180 16 rfl ?_
                                              refine g_callSWL (As := [.ref (x.1 0), .int (nI kb), .int (nI (gDc (bk (sB (aS A)) kb 0) + 11 + (gDc (bk (sB (aS A)) kb 5))))]) (F := []) E (wL_line (x := x) hST hA hb5 hCq120 (nI kb) (nI (gDc (bk (sB (aS A)) kb 0) + 11 + (gDc (bk (sB (aS A)) kb 5))))) gL_kept_L_line rfl hdL_line ⟨Nat.le_of_ble_eq_true rfl, Nat.le_of_ble_eq_true rfl⟩ gPerm_n rfl rfl ?_ dL_kept_1182 ⟨by show (csl + 18) + 14 ≤ 25000; omega, by show (ssl + 452) + 428 ≤ 400000; omega⟩ (fun rq121 uq121 hq121 => ?_)
                                              · exact Nat.le_of_ble_eq_true rfl
                                              refine g_perm (ws1 := wV G x uq121) gPerm_n' ?_
                                              obtain ⟨eq121, hCq121⟩ := hq121
                                              rw [show fLine A (nI kb) (nI (gDc (bk (sB (aS A)) kb 0) + 11 + (gDc (bk (sB (aS A)) kb 5)))) = _ from fLine_in (A := A) (k := kb) (j := gDc (bk (sB (aS A)) kb 0) + 11 + (gDc (bk (sB (aS A)) kb 5))) (by omega) hn24 (by have := (gDc_le (bk (sB (aS A)) kb 0)).2; have := (gDc_le (bk (sB (aS A)) kb 5)).2; omega)] at eq121 hCq121
                                              refine g_topL (y := ((gLine (aS A) kb).getD (gDc (bk (sB (aS A)) kb 0) + 11 + (gDc (bk (sB (aS A)) kb 5))) (-1)).toInt64) (eq121.trans (gCd_a rfl)) ?_
                                              refine g_topL (y := (33 : Int32).toInt64) (congrArg Int32.toInt64 ((gLn_e hh1 hh2 hh3 hh4 hm0 0).trans (by rw [if_pos hnt]; rfl))) ?_
                                              refine g_iload E dL_kept_1185 0 rfl ?_
                                              refine g_if_eq (tgt := 1195) E dL_kept_1187 (by decide) (fun c => absurd c (by decide)) (fun _ => ?_)
                                              refine g_bipush (v := 33) E dL_kept_1190 (by decide) ?_
                                              refine g_goto (tgt := 1196) E dL_kept_1192 (by decide) ?_
                                              refine g_i2l (v := (33 : Int32).toInt64) E dL_kept_1196 rfl ?_
                                              refine g_lcmp E dL_kept_1197 ?_
                                              refine g_if_ne (tgt := 1222) E dL_kept_1198 (by decide) (fun c => absurd (gCmp_eq.mpr rfl) c) (fun _ => ?_)
                                              refine g_aload_n E dL_kept_1201 rfl 1 rfl ?_
                                              refine g_iload E dL_kept_1202 12 rfl ?_
                                              refine g_iload E dL_kept_1204 16 rfl ?_
                                              refine g_iconst (v := 1) E dL_kept_1206 (by decide) ?_
                                              refine g_iaddN (a := gDc (bk (sB (aS A)) kb 0) + 11 + (gDc (bk (sB (aS A)) kb 5))) (b := 1) E dL_kept_1207 ?_
                                              refine g_callSWL (As := [.ref (x.1 0), .int (nI kb), .int (nI (gDc (bk (sB (aS A)) kb 0) + 11 + (gDc (bk (sB (aS A)) kb 5)) + 1))]) (F := []) E (wL_line (x := x) hST hA hb5 hCq121 (nI kb) (nI (gDc (bk (sB (aS A)) kb 0) + 11 + (gDc (bk (sB (aS A)) kb 5)) + 1))) gL_kept_L_line rfl hdL_line ⟨Nat.le_of_ble_eq_true rfl, Nat.le_of_ble_eq_true rfl⟩ gPerm_n rfl rfl ?_ dL_kept_1208 ⟨by show (csl + 32) + 14 ≤ 25000; omega, by show (ssl + 880) + 428 ≤ 400000; omega⟩ (fun rq122 uq122 hq122 => ?_)
                                              · exact Nat.le_of_ble_eq_true rfl
                                              refine g_perm (ws1 := wV G x uq122) gPerm_n' ?_
                                              obtain ⟨eq122, hCq122⟩ := hq122
                                              rw [show fLine A (nI kb) (nI (gDc (bk (sB (aS A)) kb 0) + 11 + (gDc (bk (sB (aS A)) kb 5)) + 1)) = _ from fLine_in (A := A) (k := kb) (j := gDc (bk (sB (aS A)) kb 0) + 11 + (gDc (bk (sB (aS A)) kb 5)) + 1) (by omega) hn24 (by have := (gDc_le (bk (sB (aS A)) kb 0)).2; have := (gDc_le (bk (sB (aS A)) kb 5)).2; omega)] at eq122 hCq122
                                              refine g_topL (y := ((gLine (aS A) kb).getD (gDc (bk (sB (aS A)) kb 0) + 11 + (gDc (bk (sB (aS A)) kb 5)) + 1) (-1)).toInt64) (eq122.trans (gCd_a rfl)) ?_
                                              refine g_topL (y := (-1 : Int32).toInt64) (congrArg Int32.toInt64 ((gLn_e hh1 hh2 hh3 hh4 hm0 1).trans (by rw [if_pos hnt]; rfl))) ?_
                                              refine g_ldc2 (v := -1) E kL_kept_183 dL_kept_1211 ?_
                                              refine g_lcmp E dL_kept_1214 ?_
                                              refine g_if_ne (tgt := 1222) E dL_kept_1215 (by decide) (fun c => absurd (gCmp_eq.mpr rfl) c) (fun _ => ?_)
                                              refine g_iconst (v := 1) E dL_kept_1218 (by decide) ?_
                                              refine g_goto (tgt := 1223) E dL_kept_1219 (by decide) ?_
                                              refine g_istore (lv' := [(5, .int 1), (27, .int 1), (0, .ref (x.1 0)), (1, .int (nI (sN (aS A) 1))), (2, .int (nI ((sB (aS A)).length))), (3, .long ((nI (sN (aS A) 0)).toInt64)), (6, .long (Int64.ofNat (gSum nf (sN (aS A) 1)))), (8, .long (Int64.ofNat (gSum (fun p => gCnt (fun k => bk (sB (aS A)) k 3 == p) (sB (aS A)).length) (sN (aS A) 1)))), (10, .long (Int64.ofNat (gSum (fun p => gCnt (fun i => wq (sW (aS A)) i / 10 == p) (sW (aS A)).length) (sN (aS A) 1)))), (12, .long (Int64.ofNat (gCnt (fun j => decide (nI (sN (aS A) 0) < sI (aS A) 2 j)) (sN (aS A) 1)))), (14, .long (Int64.ofNat (gSum (fun v => gCnt (fun k => bk (sB (aS A)) k 4 == v) (sB (aS A)).length) 10))), (16, .long (Int64.ofNat (gCnt (fun j => decide (nI (sN (aS A) 0) < sI (aS A) 7 j)) 10))), (18, .int (nI kb)), (19, .long ((nI (bk (sB (aS A)) kb 0)).toInt64)), (21, .int (nI (bk (sB (aS A)) kb 3))), (22, .int (nI (bk (sB (aS A)) kb 4))), (23, .int (nI (gDc (bk (sB (aS A)) kb 0) + 11 + (gDc (bk (sB (aS A)) kb 5))))), (24, .long (Int64.ofNat (bk (sB (aS A)) kb 5 / 10 ^ ((gDc (bk (sB (aS A)) kb 5)) - (gDc (bk (sB (aS A)) kb 5)))))), (26, .int 1)]) E dL_kept_1223 (by decide) rfl ?_
                                              refine g_iinc (lv' := [(18, .int (nI (kb + 1))), (5, .int 1), (27, .int 1), (0, .ref (x.1 0)), (1, .int (nI (sN (aS A) 1))), (2, .int (nI ((sB (aS A)).length))), (3, .long ((nI (sN (aS A) 0)).toInt64)), (6, .long (Int64.ofNat (gSum nf (sN (aS A) 1)))), (8, .long (Int64.ofNat (gSum (fun p => gCnt (fun k => bk (sB (aS A)) k 3 == p) (sB (aS A)).length) (sN (aS A) 1)))), (10, .long (Int64.ofNat (gSum (fun p => gCnt (fun i => wq (sW (aS A)) i / 10 == p) (sW (aS A)).length) (sN (aS A) 1)))), (12, .long (Int64.ofNat (gCnt (fun j => decide (nI (sN (aS A) 0) < sI (aS A) 2 j)) (sN (aS A) 1)))), (14, .long (Int64.ofNat (gSum (fun v => gCnt (fun k => bk (sB (aS A)) k 4 == v) (sB (aS A)).length) 10))), (16, .long (Int64.ofNat (gCnt (fun j => decide (nI (sN (aS A) 0) < sI (aS A) 7 j)) 10))), (19, .long ((nI (bk (sB (aS A)) kb 0)).toInt64)), (21, .int (nI (bk (sB (aS A)) kb 3))), (22, .int (nI (bk (sB (aS A)) kb 4))), (23, .int (nI (gDc (bk (sB (aS A)) kb 0) + 11 + (gDc (bk (sB (aS A)) kb 5))))), (24, .long (Int64.ofNat (bk (sB (aS A)) kb 5 / 10 ^ ((gDc (bk (sB (aS A)) kb 5)) - (gDc (bk (sB (aS A)) kb 5)))))), (26, .int 1)]) E dL_kept_1225 12 rfl (g_inc _ 1 (by decide)) (by decide) rfl ?_
                                              refine g_goto (tgt := 464) E dL_kept_1228 (by decide) ?_
                                              refine g_lv [3, 4, 5, 6, 1, 7, 8, 9, 10, 11, 12, 0] rfl ?_
                                              exact ih23  (kb + 1) uq122 (csl + 46) (ssl + 1308) (by omega) hCq122 (by omega) (by omega) (by omega)
                                        · skip
                                          have hll : kl < (gDc (bk (sB (aS A)) kb 5)) := by
                                            rcases Nat.lt_or_ge kl (gDc (bk (sB (aS A)) kb 5)) with q | q
                                            · exact q
                                            · exfalso
                                              have hlM : kl = (gDc (bk (sB (aS A)) kb 5)) := by omega
                                              rw [hlM, gLn_e0 hh1 hh2 hh3 hh4 hm0] at c106
                                              exact gEndc 0 c106
                                          refine g_ldc2 (v := 10) E kL_kept_228 dL_kept_1077 ?_
                                          refine g_lload E dL_kept_1080 16 rfl ?_
                                          refine g_lmul E dL_kept_1082 ?_
                                          refine g_aload_n E dL_kept_1083 rfl 0 rfl ?_
                                          refine g_iload E dL_kept_1084 11 rfl ?_
                                          refine g_iload E dL_kept_1086 15 rfl ?_
                                          refine g_callSWL (As := [.ref (x.1 0), .int (nI kb), .int (nI (gDc (bk (sB (aS A)) kb 0) + 11 + kl))]) (F := []) E (wL_line (x := x) hST hA hb5 hCq104 (nI kb) (nI (gDc (bk (sB (aS A)) kb 0) + 11 + kl))) gL_kept_L_line rfl hdL_line ⟨Nat.le_of_ble_eq_true rfl, Nat.le_of_ble_eq_true rfl⟩ gPerm_n rfl rfl ?_ dL_kept_1088 ⟨by show (csl + 14) + 14 ≤ 25000; omega, by show (ssl + 428) + 428 ≤ 400000; omega⟩ (fun rq123 uq123 hq123 => ?_)
                                          · exact Nat.le_of_ble_eq_true rfl
                                          refine g_perm (ws1 := wV G x uq123) gPerm_n' ?_
                                          obtain ⟨eq123, hCq123⟩ := hq123
                                          rw [show fLine A (nI kb) (nI (gDc (bk (sB (aS A)) kb 0) + 11 + kl)) = _ from fLine_in (A := A) (k := kb) (j := gDc (bk (sB (aS A)) kb 0) + 11 + kl) (by omega) hn24 (by have := (gDc_le (bk (sB (aS A)) kb 0)).2; have := (gDc_le (bk (sB (aS A)) kb 5)).2; omega)] at eq123 hCq123
                                          refine g_topL (y := ((gLine (aS A) kb).getD (gDc (bk (sB (aS A)) kb 0) + 11 + kl) (-1)).toInt64) (eq123.trans (gCd_a rfl)) ?_
                                          refine g_topL (y := (nI (48 + bk (sB (aS A)) kb 5 / 10 ^ ((gDc (bk (sB (aS A)) kb 5)) - 1 - kl) % 10)).toInt64) (congrArg Int32.toInt64 (gLn_m hh1 hh2 hh3 hh4 hm0 hll)) ?_
                                          refine g_ladd E dL_kept_1091 ?_
                                          refine g_ldc2 (v := 48) E kL_kept_224 dL_kept_1092 ?_
                                          refine g_lsub E dL_kept_1095 ?_
                                          refine g_topL (y := Int64.ofNat (bk (sB (aS A)) kb 5 / 10 ^ ((gDc (bk (sB (aS A)) kb 5)) - (kl + 1)))) ((gNum64 (by have := Nat.div_le_self (bk (sB (aS A)) kb 5) (10 ^ ((gDc (bk (sB (aS A)) kb 5)) - kl)); omega) (by omega)).trans (congrArg Int64.ofNat (gPut10 hll))) ?_
                                          refine g_lstore (lv' := [(24, .long (Int64.ofNat (bk (sB (aS A)) kb 5 / 10 ^ ((gDc (bk (sB (aS A)) kb 5)) - (kl + 1))))), (0, .ref (x.1 0)), (1, .int (nI (sN (aS A) 1))), (2, .int (nI ((sB (aS A)).length))), (3, .long ((nI (sN (aS A) 0)).toInt64)), (5, .int 1), (6, .long (Int64.ofNat (gSum nf (sN (aS A) 1)))), (8, .long (Int64.ofNat (gSum (fun p => gCnt (fun k => bk (sB (aS A)) k 3 == p) (sB (aS A)).length) (sN (aS A) 1)))), (10, .long (Int64.ofNat (gSum (fun p => gCnt (fun i => wq (sW (aS A)) i / 10 == p) (sW (aS A)).length) (sN (aS A) 1)))), (12, .long (Int64.ofNat (gCnt (fun j => decide (nI (sN (aS A) 0) < sI (aS A) 2 j)) (sN (aS A) 1)))), (14, .long (Int64.ofNat (gSum (fun v => gCnt (fun k => bk (sB (aS A)) k 4 == v) (sB (aS A)).length) 10))), (16, .long (Int64.ofNat (gCnt (fun j => decide (nI (sN (aS A) 0) < sI (aS A) 7 j)) 10))), (18, .int (nI kb)), (19, .long ((nI (bk (sB (aS A)) kb 0)).toInt64)), (21, .int (nI (bk (sB (aS A)) kb 3))), (22, .int (nI (bk (sB (aS A)) kb 4))), (23, .int (nI (gDc (bk (sB (aS A)) kb 0) + 11 + kl))), (26, .int 1)]) E dL_kept_1096 (by decide) rfl ?_
                                          refine g_iinc (lv' := [(23, .int (nI (gDc (bk (sB (aS A)) kb 0) + 11 + kl + 1))), (24, .long (Int64.ofNat (bk (sB (aS A)) kb 5 / 10 ^ ((gDc (bk (sB (aS A)) kb 5)) - (kl + 1))))), (0, .ref (x.1 0)), (1, .int (nI (sN (aS A) 1))), (2, .int (nI ((sB (aS A)).length))), (3, .long ((nI (sN (aS A) 0)).toInt64)), (5, .int 1), (6, .long (Int64.ofNat (gSum nf (sN (aS A) 1)))), (8, .long (Int64.ofNat (gSum (fun p => gCnt (fun k => bk (sB (aS A)) k 3 == p) (sB (aS A)).length) (sN (aS A) 1)))), (10, .long (Int64.ofNat (gSum (fun p => gCnt (fun i => wq (sW (aS A)) i / 10 == p) (sW (aS A)).length) (sN (aS A) 1)))), (12, .long (Int64.ofNat (gCnt (fun j => decide (nI (sN (aS A) 0) < sI (aS A) 2 j)) (sN (aS A) 1)))), (14, .long (Int64.ofNat (gSum (fun v => gCnt (fun k => bk (sB (aS A)) k 4 == v) (sB (aS A)).length) 10))), (16, .long (Int64.ofNat (gCnt (fun j => decide (nI (sN (aS A) 0) < sI (aS A) 7 j)) 10))), (18, .int (nI kb)), (19, .long ((nI (bk (sB (aS A)) kb 0)).toInt64)), (21, .int (nI (bk (sB (aS A)) kb 3))), (22, .int (nI (bk (sB (aS A)) kb 4))), (26, .int 1)]) E dL_kept_1098 16 rfl (g_inc _ 1 (by decide)) (by decide) rfl ?_
                                          refine g_goto (tgt := 1057) E dL_kept_1101 (by decide) ?_
                                          refine g_lv [2, 3, 4, 5, 6, 7, 8, 9, 10, 11, 12, 13, 14, 15, 16, 0, 1, 17] rfl ?_
                                          exact ih102  (kl + 1) uq123 (csl + 28) (ssl + 856) (by omega) hCq123 (by omega) (by omega) (by omega)
                                    refine g_lv [4, 5, 6, 7, 3, 8, 9, 10, 11, 12, 13, 14, 15, 16, 17, 0, 1, 2] rfl ?_
                                    exact loop100 _ 0 uq75 (csj + 156) (ssj + 4720) (Nat.zero_le _) hCq75 (by omega) (by omega) (Nat.lt_succ_self _)
                              · skip
                                have hjl : kj < gDc (bk (sB (aS A)) kb 0) := by
                                  rcases Nat.lt_or_ge kj (gDc (bk (sB (aS A)) kb 0)) with q | q
                                  · exact q
                                  · exfalso
                                    have hjD : kj = gDc (bk (sB (aS A)) kb 0) := by omega
                                    rw [hjD] at c62
                                    rw [gLn_c0 hh1 hh2 hh3 hh4] at c62
                                    exact digQ_no (Or.inl rfl) c62
                                refine g_ldc2 (v := 10) E kL_kept_228 dL_kept_786 ?_
                                refine g_lload E dL_kept_789 16 rfl ?_
                                refine g_lmul E dL_kept_791 ?_
                                refine g_aload_n E dL_kept_792 rfl 0 rfl ?_
                                refine g_iload E dL_kept_793 11 rfl ?_
                                refine g_iload E dL_kept_795 15 rfl ?_
                                refine g_callSWL (As := [.ref (x.1 0), .int (nI kb), .int (nI kj)]) (F := []) E (wL_line (x := x) hST hA hb5 hCq60 (nI kb) (nI kj)) gL_kept_L_line rfl hdL_line ⟨Nat.le_of_ble_eq_true rfl, Nat.le_of_ble_eq_true rfl⟩ gPerm_n rfl rfl ?_ dL_kept_797 ⟨by show (csj + 14) + 14 ≤ 25000; omega, by show (ssj + 428) + 428 ≤ 400000; omega⟩ (fun rq124 uq124 hq124 => ?_)
                                · exact Nat.le_of_ble_eq_true rfl
                                refine g_perm (ws1 := wV G x uq124) gPerm_n' ?_
                                obtain ⟨eq124, hCq124⟩ := hq124
                                rw [show fLine A (nI kb) (nI kj) = _ from fLine_in (A := A) (k := kb) (j := kj) (by omega) hn24 (by omega)] at eq124 hCq124
                                refine g_topL (y := ((gLine (aS A) kb).getD kj (-1)).toInt64) (eq124.trans (gCd_a rfl)) ?_
                                refine g_topL (y := (nI (48 + bk (sB (aS A)) kb 0 / 10 ^ (gDc (bk (sB (aS A)) kb 0) - 1 - kj) % 10)).toInt64) (congrArg Int32.toInt64 (gLn_d hh1 hh2 hh3 hh4 hjl)) ?_
                                refine g_ladd E dL_kept_800 ?_
                                refine g_ldc2 (v := 48) E kL_kept_224 dL_kept_801 ?_
                                refine g_lsub E dL_kept_804 ?_
                                refine g_topL (y := Int64.ofNat (bk (sB (aS A)) kb 0 / 10 ^ (gDc (bk (sB (aS A)) kb 0) - (kj + 1)))) ((gNum64 (by have := Nat.div_le_self (bk (sB (aS A)) kb 0) (10 ^ (gDc (bk (sB (aS A)) kb 0) - kj)); omega) (by omega)).trans (congrArg Int64.ofNat (gPut10 hjl))) ?_
                                refine g_lstore (lv' := [(24, .long (Int64.ofNat (bk (sB (aS A)) kb 0 / 10 ^ (gDc (bk (sB (aS A)) kb 0) - (kj + 1))))), (0, .ref (x.1 0)), (1, .int (nI (sN (aS A) 1))), (2, .int (nI ((sB (aS A)).length))), (3, .long ((nI (sN (aS A) 0)).toInt64)), (5, .int 1), (6, .long (Int64.ofNat (gSum nf (sN (aS A) 1)))), (8, .long (Int64.ofNat (gSum (fun p => gCnt (fun k => bk (sB (aS A)) k 3 == p) (sB (aS A)).length) (sN (aS A) 1)))), (10, .long (Int64.ofNat (gSum (fun p => gCnt (fun i => wq (sW (aS A)) i / 10 == p) (sW (aS A)).length) (sN (aS A) 1)))), (12, .long (Int64.ofNat (gCnt (fun j => decide (nI (sN (aS A) 0) < sI (aS A) 2 j)) (sN (aS A) 1)))), (14, .long (Int64.ofNat (gSum (fun v => gCnt (fun k => bk (sB (aS A)) k 4 == v) (sB (aS A)).length) 10))), (16, .long (Int64.ofNat (gCnt (fun j => decide (nI (sN (aS A) 0) < sI (aS A) 7 j)) 10))), (18, .int (nI kb)), (19, .long ((nI (bk (sB (aS A)) kb 0)).toInt64)), (21, .int (nI (bk (sB (aS A)) kb 3))), (22, .int (nI (bk (sB (aS A)) kb 4))), (23, .int (nI kj))]) E dL_kept_805 (by decide) rfl ?_
                                refine g_iinc (lv' := [(23, .int (nI (kj + 1))), (24, .long (Int64.ofNat (bk (sB (aS A)) kb 0 / 10 ^ (gDc (bk (sB (aS A)) kb 0) - (kj + 1))))), (0, .ref (x.1 0)), (1, .int (nI (sN (aS A) 1))), (2, .int (nI ((sB (aS A)).length))), (3, .long ((nI (sN (aS A) 0)).toInt64)), (5, .int 1), (6, .long (Int64.ofNat (gSum nf (sN (aS A) 1)))), (8, .long (Int64.ofNat (gSum (fun p => gCnt (fun k => bk (sB (aS A)) k 3 == p) (sB (aS A)).length) (sN (aS A) 1)))), (10, .long (Int64.ofNat (gSum (fun p => gCnt (fun i => wq (sW (aS A)) i / 10 == p) (sW (aS A)).length) (sN (aS A) 1)))), (12, .long (Int64.ofNat (gCnt (fun j => decide (nI (sN (aS A) 0) < sI (aS A) 2 j)) (sN (aS A) 1)))), (14, .long (Int64.ofNat (gSum (fun v => gCnt (fun k => bk (sB (aS A)) k 4 == v) (sB (aS A)).length) 10))), (16, .long (Int64.ofNat (gCnt (fun j => decide (nI (sN (aS A) 0) < sI (aS A) 7 j)) 10))), (18, .int (nI kb)), (19, .long ((nI (bk (sB (aS A)) kb 0)).toInt64)), (21, .int (nI (bk (sB (aS A)) kb 3))), (22, .int (nI (bk (sB (aS A)) kb 4)))]) E dL_kept_807 16 rfl (g_inc _ 1 (by decide)) (by decide) rfl ?_
                                refine g_goto (tgt := 766) E dL_kept_810 (by decide) ?_
                                refine g_lv [2, 3, 4, 5, 6, 7, 8, 9, 10, 11, 12, 13, 14, 15, 16, 0, 1] rfl ?_
                                exact ih58  (kj + 1) uq124 (csj + 28) (ssj + 856) (by omega) hCq124 (by omega) (by omega) (by omega)
                          refine g_lv [2, 3, 4, 5, 6, 7, 8, 9, 10, 11, 12, 13, 14, 15, 16, 1, 0] rfl ?_
                          exact loop56 _ 0 ui csi ssi (Nat.zero_le _) hCi (by omega) (by omega) (Nat.lt_succ_self _)
                        · skip
                          have hqi := hfi ki (by omega)
                          have hqj := hbk ki (by omega)
                          refine g_iload E dL_kept_606 4 rfl ?_
                          refine g_if_eq (tgt := 760) E dL_kept_608 (by decide) (fun c => absurd c (by decide)) (fun _ => ?_)
                          refine g_ldc2 (v := 32) E kL_kept_220 dL_kept_611 ?_
                          refine g_aload_n E dL_kept_614 rfl 0 rfl ?_
                          refine g_iload E dL_kept_615 15 rfl ?_
                          refine g_iconst (v := 0) E dL_kept_617 (by decide) ?_
                          refine g_callSWL (As := [.ref (x.1 0), .int (nI ki), .int 0]) (F := []) E (wL_booking (x := x) hST hA hb5 hCi (nI ki) (0 : Int32)) gL_kept_L_booking rfl hdL_booking ⟨Nat.le_of_ble_eq_true rfl, Nat.le_of_ble_eq_true rfl⟩ gPerm_n rfl rfl ?_ dL_kept_618 ⟨by show csi + 1 ≤ 25000; omega, by show ssi + 6 ≤ 400000; omega⟩ (fun rq125 uq125 hq125 => ?_)
                          · exact Nat.le_of_ble_eq_true rfl
                          refine g_perm (ws1 := wV G x uq125) gPerm_n' ?_
                          obtain ⟨eq125, hCq125⟩ := hq125
                          rw [show fBkng A (nI ki) (0 : Int32) = _ from fBkng_in (A := A) (j := ki) (k := 0) (by omega) hn24 rfl (by omega)] at eq125 hCq125
                          refine g_topL (y := (nI (bk (sB (aS A)) ki 0)).toInt64) (eq125.trans (gCd_a rfl)) ?_
                          refine g_lmul E dL_kept_621 ?_
                          refine g_ldc2 (v := 4) E kL_kept_222 dL_kept_622 ?_
                          refine g_aload_n E dL_kept_625 rfl 0 rfl ?_
                          refine g_iload E dL_kept_626 15 rfl ?_
                          refine g_iconst (v := 1) E dL_kept_628 (by decide) ?_
                          refine g_callSWL (As := [.ref (x.1 0), .int (nI ki), .int 1]) (F := []) E (wL_booking (x := x) hST hA hb5 hCq125 (nI ki) (1 : Int32)) gL_kept_L_booking rfl hdL_booking ⟨Nat.le_of_ble_eq_true rfl, Nat.le_of_ble_eq_true rfl⟩ gPerm_n rfl rfl ?_ dL_kept_629 ⟨by show (csi + 1) + 1 ≤ 25000; omega, by show (ssi + 6) + 6 ≤ 400000; omega⟩ (fun rq126 uq126 hq126 => ?_)
                          · exact Nat.le_of_ble_eq_true rfl
                          refine g_perm (ws1 := wV G x uq126) gPerm_n' ?_
                          obtain ⟨eq126, hCq126⟩ := hq126
                          rw [show fBkng A (nI ki) (1 : Int32) = _ from fBkng_in (A := A) (j := ki) (k := 1) (by omega) hn24 rfl (by omega)] at eq126 hCq126
                          refine g_topL (y := (nI (bk (sB (aS A)) ki 1)).toInt64) (eq126.trans (gCd_a rfl)) ?_
                          refine g_lmul E dL_kept_632 ?_
                          refine g_ladd E dL_kept_633 ?_
                          refine g_aload_n E dL_kept_634 rfl 0 rfl ?_
                          refine g_iload E dL_kept_635 15 rfl ?_
                          refine g_iconst (v := 2) E dL_kept_637 (by decide) ?_
                          refine g_callSWL (As := [.ref (x.1 0), .int (nI ki), .int 2]) (F := []) E (wL_booking (x := x) hST hA hb5 hCq126 (nI ki) (2 : Int32)) gL_kept_L_booking rfl hdL_booking ⟨Nat.le_of_ble_eq_true rfl, Nat.le_of_ble_eq_true rfl⟩ gPerm_n rfl rfl ?_ dL_kept_638 ⟨by show (csi + 2) + 1 ≤ 25000; omega, by show (ssi + 12) + 6 ≤ 400000; omega⟩ (fun rq127 uq127 hq127 => ?_)
                          · exact Nat.le_of_ble_eq_true rfl
                          refine g_perm (ws1 := wV G x uq127) gPerm_n' ?_
                          obtain ⟨eq127, hCq127⟩ := hq127
                          rw [show fBkng A (nI ki) (2 : Int32) = _ from fBkng_in (A := A) (j := ki) (k := 2) (by omega) hn24 rfl (by omega)] at eq127 hCq127
                          refine g_topL (y := (nI (bk (sB (aS A)) ki 2)).toInt64) (eq127.trans (gCd_a rfl)) ?_
                          refine g_ladd E dL_kept_641 ?_
                          refine g_topL (y := Int64.ofNat (32 * bk (sB (aS A)) ki 0 + 4 * bk (sB (aS A)) ki 1 + bk (sB (aS A)) ki 2)) (gTime64 (by omega) (by omega) (by omega)) ?_
                          refine g_lstore (lv' := [(24, .long (Int64.ofNat (32 * bk (sB (aS A)) ki 0 + 4 * bk (sB (aS A)) ki 1 + bk (sB (aS A)) ki 2))), (0, .ref (x.1 0)), (1, .int (nI (sN (aS A) 1))), (2, .int (nI ((sB (aS A)).length))), (3, .long ((nI (sN (aS A) 0)).toInt64)), (5, .int 1), (6, .long (Int64.ofNat (gSum nf (sN (aS A) 1)))), (8, .long (Int64.ofNat (gSum (fun p => gCnt (fun k => bk (sB (aS A)) k 3 == p) (sB (aS A)).length) (sN (aS A) 1)))), (10, .long (Int64.ofNat (gSum (fun p => gCnt (fun i => wq (sW (aS A)) i / 10 == p) (sW (aS A)).length) (sN (aS A) 1)))), (12, .long (Int64.ofNat (gCnt (fun j => decide (nI (sN (aS A) 0) < sI (aS A) 2 j)) (sN (aS A) 1)))), (14, .long (Int64.ofNat (gSum (fun v => gCnt (fun k => bk (sB (aS A)) k 4 == v) (sB (aS A)).length) 10))), (16, .long (Int64.ofNat (gCnt (fun j => decide (nI (sN (aS A) 0) < sI (aS A) 7 j)) 10))), (18, .int (nI kb)), (19, .long ((nI (bk (sB (aS A)) kb 0)).toInt64)), (21, .int (nI (bk (sB (aS A)) kb 3))), (22, .int (nI (bk (sB (aS A)) kb 4))), (23, .int (nI ki))]) E dL_kept_642 (by decide) rfl ?_
                          refine g_aload_n E dL_kept_644 rfl 1 rfl ?_
                          refine g_iload E dL_kept_645 16 rfl ?_
                          refine g_iconst (v := 0) E dL_kept_647 (by decide) ?_
                          refine g_callSWL (As := [.ref (x.1 0), .int (nI ki), .int 0]) (F := []) E (wL_booking (x := x) hST hA hb5 hCq127 (nI ki) (0 : Int32)) gL_kept_L_booking rfl hdL_booking ⟨Nat.le_of_ble_eq_true rfl, Nat.le_of_ble_eq_true rfl⟩ gPerm_n rfl rfl ?_ dL_kept_648 ⟨by show (csi + 3) + 1 ≤ 25000; omega, by show (ssi + 18) + 6 ≤ 400000; omega⟩ (fun rq128 uq128 hq128 => ?_)
                          · exact Nat.le_of_ble_eq_true rfl
                          refine g_perm (ws1 := wV G x uq128) gPerm_n' ?_
                          obtain ⟨eq128, hCq128⟩ := hq128
                          rw [show fBkng A (nI ki) (0 : Int32) = _ from fBkng_in (A := A) (j := ki) (k := 0) (by omega) hn24 rfl (by omega)] at eq128 hCq128
                          refine g_topL (y := (nI (bk (sB (aS A)) ki 0)).toInt64) (eq128.trans (gCd_a rfl)) ?_
                          refine g_lload E dL_kept_651 13 rfl ?_
                          refine g_lcmp E dL_kept_653 ?_
                          refine g_if_ne (tgt := 679) E dL_kept_654 (by decide) (fun c129 => ?_) (fun c129 => ?_)
                          · skip
                            refine g_iconst (v := 0) E dL_kept_679 (by decide) ?_
                            refine g_istore (lv' := [(26, .int 0), (24, .long (Int64.ofNat (32 * bk (sB (aS A)) ki 0 + 4 * bk (sB (aS A)) ki 1 + bk (sB (aS A)) ki 2))), (0, .ref (x.1 0)), (1, .int (nI (sN (aS A) 1))), (2, .int (nI ((sB (aS A)).length))), (3, .long ((nI (sN (aS A) 0)).toInt64)), (5, .int 1), (6, .long (Int64.ofNat (gSum nf (sN (aS A) 1)))), (8, .long (Int64.ofNat (gSum (fun p => gCnt (fun k => bk (sB (aS A)) k 3 == p) (sB (aS A)).length) (sN (aS A) 1)))), (10, .long (Int64.ofNat (gSum (fun p => gCnt (fun i => wq (sW (aS A)) i / 10 == p) (sW (aS A)).length) (sN (aS A) 1)))), (12, .long (Int64.ofNat (gCnt (fun j => decide (nI (sN (aS A) 0) < sI (aS A) 2 j)) (sN (aS A) 1)))), (14, .long (Int64.ofNat (gSum (fun v => gCnt (fun k => bk (sB (aS A)) k 4 == v) (sB (aS A)).length) 10))), (16, .long (Int64.ofNat (gCnt (fun j => decide (nI (sN (aS A) 0) < sI (aS A) 7 j)) 10))), (18, .int (nI kb)), (19, .long ((nI (bk (sB (aS A)) kb 0)).toInt64)), (21, .int (nI (bk (sB (aS A)) kb 3))), (22, .int (nI (bk (sB (aS A)) kb 4))), (23, .int (nI ki))]) E dL_kept_680 (by decide) rfl ?_
                            refine g_lload E dL_kept_682 1 rfl ?_
                            refine g_ldc2 (v := 32) E kL_kept_220 dL_kept_684 ?_
                            refine g_lload E dL_kept_687 14 rfl ?_
                            refine g_lmul E dL_kept_689 ?_
                            refine g_ldc2 (v := 4) E kL_kept_222 dL_kept_690 ?_
                            refine g_aload_n E dL_kept_693 rfl 2 rfl ?_
                            refine g_iload E dL_kept_694 13 rfl ?_
                            refine g_iconst (v := 1) E dL_kept_696 (by decide) ?_
                            refine g_callSWL (As := [.ref (x.1 0), .int (nI kb), .int 1]) (F := []) E (wL_booking (x := x) hST hA hb5 hCq128 (nI kb) (1 : Int32)) gL_kept_L_booking rfl hdL_booking ⟨Nat.le_of_ble_eq_true rfl, Nat.le_of_ble_eq_true rfl⟩ gPerm_n rfl rfl ?_ dL_kept_697 ⟨by show (csi + 4) + 1 ≤ 25000; omega, by show (ssi + 24) + 6 ≤ 400000; omega⟩ (fun rq130 uq130 hq130 => ?_)
                            · exact Nat.le_of_ble_eq_true rfl
                            refine g_perm (ws1 := wV G x uq130) gPerm_n' ?_
                            obtain ⟨eq130, hCq130⟩ := hq130
                            rw [show fBkng A (nI kb) (1 : Int32) = _ from fBkng_in (A := A) (j := kb) (k := 1) (by omega) hn24 rfl (by omega)] at eq130 hCq130
                            refine g_topL (y := (nI (bk (sB (aS A)) kb 1)).toInt64) (eq130.trans (gCd_a rfl)) ?_
                            refine g_lmul E dL_kept_700 ?_
                            refine g_ladd E dL_kept_701 ?_
                            refine g_aload_n E dL_kept_702 rfl 2 rfl ?_
                            refine g_iload E dL_kept_703 13 rfl ?_
                            refine g_iconst (v := 2) E dL_kept_705 (by decide) ?_
                            refine g_callSWL (As := [.ref (x.1 0), .int (nI kb), .int 2]) (F := []) E (wL_booking (x := x) hST hA hb5 hCq130 (nI kb) (2 : Int32)) gL_kept_L_booking rfl hdL_booking ⟨Nat.le_of_ble_eq_true rfl, Nat.le_of_ble_eq_true rfl⟩ gPerm_n rfl rfl ?_ dL_kept_706 ⟨by show (csi + 5) + 1 ≤ 25000; omega, by show (ssi + 30) + 6 ≤ 400000; omega⟩ (fun rq131 uq131 hq131 => ?_)
                            · exact Nat.le_of_ble_eq_true rfl
                            refine g_perm (ws1 := wV G x uq131) gPerm_n' ?_
                            obtain ⟨eq131, hCq131⟩ := hq131
                            rw [show fBkng A (nI kb) (2 : Int32) = _ from fBkng_in (A := A) (j := kb) (k := 2) (by omega) hn24 rfl (by omega)] at eq131 hCq131
                            refine g_topL (y := (nI (bk (sB (aS A)) kb 2)).toInt64) (eq131.trans (gCd_a rfl)) ?_
                            refine g_ladd E dL_kept_709 ?_
                            refine g_topL (y := Int64.ofNat (32 * bk (sB (aS A)) kb 0 + 4 * bk (sB (aS A)) kb 1 + bk (sB (aS A)) kb 2)) (gTime64 (by omega) (by omega) (by omega)) ?_
                            refine g_lcmp E dL_kept_710 ?_
                            refine g_if_ge (tgt := 751) E dL_kept_711 (by decide) (fun c => absurd c (gCmp_nge ((ofNat_lt64 (by omega) (by omega)).mpr (gTime_lt (hso ki kb (by omega) (by omega)) (by omega) (by omega))))) (fun _ => ?_)
                            refine g_iload E dL_kept_714 0 rfl ?_
                            refine g_if_eq (tgt := 747) E dL_kept_716 (by decide) (fun _ => ?_) (fun c => absurd c (by decide))
                            refine g_iconst (v := 1) E dL_kept_747 (by decide) ?_
                            refine g_goto (tgt := 752) E dL_kept_748 (by decide) ?_
                            refine g_istore (lv' := [(5, .int 1), (26, .int 0), (24, .long (Int64.ofNat (32 * bk (sB (aS A)) ki 0 + 4 * bk (sB (aS A)) ki 1 + bk (sB (aS A)) ki 2))), (0, .ref (x.1 0)), (1, .int (nI (sN (aS A) 1))), (2, .int (nI ((sB (aS A)).length))), (3, .long ((nI (sN (aS A) 0)).toInt64)), (6, .long (Int64.ofNat (gSum nf (sN (aS A) 1)))), (8, .long (Int64.ofNat (gSum (fun p => gCnt (fun k => bk (sB (aS A)) k 3 == p) (sB (aS A)).length) (sN (aS A) 1)))), (10, .long (Int64.ofNat (gSum (fun p => gCnt (fun i => wq (sW (aS A)) i / 10 == p) (sW (aS A)).length) (sN (aS A) 1)))), (12, .long (Int64.ofNat (gCnt (fun j => decide (nI (sN (aS A) 0) < sI (aS A) 2 j)) (sN (aS A) 1)))), (14, .long (Int64.ofNat (gSum (fun v => gCnt (fun k => bk (sB (aS A)) k 4 == v) (sB (aS A)).length) 10))), (16, .long (Int64.ofNat (gCnt (fun j => decide (nI (sN (aS A) 0) < sI (aS A) 7 j)) 10))), (18, .int (nI kb)), (19, .long ((nI (bk (sB (aS A)) kb 0)).toInt64)), (21, .int (nI (bk (sB (aS A)) kb 3))), (22, .int (nI (bk (sB (aS A)) kb 4))), (23, .int (nI ki))]) E dL_kept_752 (by decide) rfl ?_
                            refine g_iinc (lv' := [(23, .int (nI (ki + 1))), (5, .int 1), (26, .int 0), (24, .long (Int64.ofNat (32 * bk (sB (aS A)) ki 0 + 4 * bk (sB (aS A)) ki 1 + bk (sB (aS A)) ki 2))), (0, .ref (x.1 0)), (1, .int (nI (sN (aS A) 1))), (2, .int (nI ((sB (aS A)).length))), (3, .long ((nI (sN (aS A) 0)).toInt64)), (6, .long (Int64.ofNat (gSum nf (sN (aS A) 1)))), (8, .long (Int64.ofNat (gSum (fun p => gCnt (fun k => bk (sB (aS A)) k 3 == p) (sB (aS A)).length) (sN (aS A) 1)))), (10, .long (Int64.ofNat (gSum (fun p => gCnt (fun i => wq (sW (aS A)) i / 10 == p) (sW (aS A)).length) (sN (aS A) 1)))), (12, .long (Int64.ofNat (gCnt (fun j => decide (nI (sN (aS A) 0) < sI (aS A) 2 j)) (sN (aS A) 1)))), (14, .long (Int64.ofNat (gSum (fun v => gCnt (fun k => bk (sB (aS A)) k 4 == v) (sB (aS A)).length) 10))), (16, .long (Int64.ofNat (gCnt (fun j => decide (nI (sN (aS A) 0) < sI (aS A) 7 j)) 10))), (18, .int (nI kb)), (19, .long ((nI (bk (sB (aS A)) kb 0)).toInt64)), (21, .int (nI (bk (sB (aS A)) kb 3))), (22, .int (nI (bk (sB (aS A)) kb 4)))]) E dL_kept_754 17 rfl (g_inc _ 1 (by decide)) (by decide) rfl ?_
                            refine g_goto (tgt := 599) E dL_kept_757 (by decide) ?_
                            refine g_lv [4, 5, 6, 7, 1, 8, 9, 10, 11, 12, 13, 14, 15, 16, 17, 0] rfl ?_
                            exact ih53  (ki + 1) uq131 (csi + 6) (ssi + 36) (by omega) hCq131 (by omega) (by omega) (by omega)
                          · skip
                            refine g_aload_n E dL_kept_657 rfl 1 rfl ?_
                            refine g_iload E dL_kept_658 16 rfl ?_
                            refine g_iconst (v := 1) E dL_kept_660 (by decide) ?_
                            refine g_callSWL (As := [.ref (x.1 0), .int (nI ki), .int 1]) (F := []) E (wL_booking (x := x) hST hA hb5 hCq128 (nI ki) (1 : Int32)) gL_kept_L_booking rfl hdL_booking ⟨Nat.le_of_ble_eq_true rfl, Nat.le_of_ble_eq_true rfl⟩ gPerm_n rfl rfl ?_ dL_kept_661 ⟨by show (csi + 4) + 1 ≤ 25000; omega, by show (ssi + 24) + 6 ≤ 400000; omega⟩ (fun rq132 uq132 hq132 => ?_)
                            · exact Nat.le_of_ble_eq_true rfl
                            refine g_perm (ws1 := wV G x uq132) gPerm_n' ?_
                            obtain ⟨eq132, hCq132⟩ := hq132
                            rw [show fBkng A (nI ki) (1 : Int32) = _ from fBkng_in (A := A) (j := ki) (k := 1) (by omega) hn24 rfl (by omega)] at eq132 hCq132
                            refine g_topL (y := (nI (bk (sB (aS A)) ki 1)).toInt64) (eq132.trans (gCd_a rfl)) ?_
                            refine g_aload_n E dL_kept_664 rfl 1 rfl ?_
                            refine g_iload E dL_kept_665 12 rfl ?_
                            refine g_iconst (v := 1) E dL_kept_667 (by decide) ?_
                            refine g_callSWL (As := [.ref (x.1 0), .int (nI kb), .int 1]) (F := []) E (wL_booking (x := x) hST hA hb5 hCq132 (nI kb) (1 : Int32)) gL_kept_L_booking rfl hdL_booking ⟨Nat.le_of_ble_eq_true rfl, Nat.le_of_ble_eq_true rfl⟩ gPerm_n rfl rfl ?_ dL_kept_668 ⟨by show (csi + 5) + 1 ≤ 25000; omega, by show (ssi + 30) + 6 ≤ 400000; omega⟩ (fun rq133 uq133 hq133 => ?_)
                            · exact Nat.le_of_ble_eq_true rfl
                            refine g_perm (ws1 := wV G x uq133) gPerm_n' ?_
                            obtain ⟨eq133, hCq133⟩ := hq133
                            rw [show fBkng A (nI kb) (1 : Int32) = _ from fBkng_in (A := A) (j := kb) (k := 1) (by omega) hn24 rfl (by omega)] at eq133 hCq133
                            refine g_topL (y := (nI (bk (sB (aS A)) kb 1)).toInt64) (eq133.trans (gCd_a rfl)) ?_
                            refine g_lcmp E dL_kept_671 ?_
                            refine g_if_ne (tgt := 679) E dL_kept_672 (by decide) (fun c134 => ?_) (fun c134 => ?_)
                            · skip
                              refine g_iconst (v := 0) E dL_kept_679 (by decide) ?_
                              refine g_istore (lv' := [(26, .int 0), (24, .long (Int64.ofNat (32 * bk (sB (aS A)) ki 0 + 4 * bk (sB (aS A)) ki 1 + bk (sB (aS A)) ki 2))), (0, .ref (x.1 0)), (1, .int (nI (sN (aS A) 1))), (2, .int (nI ((sB (aS A)).length))), (3, .long ((nI (sN (aS A) 0)).toInt64)), (5, .int 1), (6, .long (Int64.ofNat (gSum nf (sN (aS A) 1)))), (8, .long (Int64.ofNat (gSum (fun p => gCnt (fun k => bk (sB (aS A)) k 3 == p) (sB (aS A)).length) (sN (aS A) 1)))), (10, .long (Int64.ofNat (gSum (fun p => gCnt (fun i => wq (sW (aS A)) i / 10 == p) (sW (aS A)).length) (sN (aS A) 1)))), (12, .long (Int64.ofNat (gCnt (fun j => decide (nI (sN (aS A) 0) < sI (aS A) 2 j)) (sN (aS A) 1)))), (14, .long (Int64.ofNat (gSum (fun v => gCnt (fun k => bk (sB (aS A)) k 4 == v) (sB (aS A)).length) 10))), (16, .long (Int64.ofNat (gCnt (fun j => decide (nI (sN (aS A) 0) < sI (aS A) 7 j)) 10))), (18, .int (nI kb)), (19, .long ((nI (bk (sB (aS A)) kb 0)).toInt64)), (21, .int (nI (bk (sB (aS A)) kb 3))), (22, .int (nI (bk (sB (aS A)) kb 4))), (23, .int (nI ki))]) E dL_kept_680 (by decide) rfl ?_
                              refine g_lload E dL_kept_682 1 rfl ?_
                              refine g_ldc2 (v := 32) E kL_kept_220 dL_kept_684 ?_
                              refine g_lload E dL_kept_687 14 rfl ?_
                              refine g_lmul E dL_kept_689 ?_
                              refine g_ldc2 (v := 4) E kL_kept_222 dL_kept_690 ?_
                              refine g_aload_n E dL_kept_693 rfl 2 rfl ?_
                              refine g_iload E dL_kept_694 13 rfl ?_
                              refine g_iconst (v := 1) E dL_kept_696 (by decide) ?_
                              refine g_callSWL (As := [.ref (x.1 0), .int (nI kb), .int 1]) (F := []) E (wL_booking (x := x) hST hA hb5 hCq133 (nI kb) (1 : Int32)) gL_kept_L_booking rfl hdL_booking ⟨Nat.le_of_ble_eq_true rfl, Nat.le_of_ble_eq_true rfl⟩ gPerm_n rfl rfl ?_ dL_kept_697 ⟨by show (csi + 6) + 1 ≤ 25000; omega, by show (ssi + 36) + 6 ≤ 400000; omega⟩ (fun rq135 uq135 hq135 => ?_)
                              · exact Nat.le_of_ble_eq_true rfl
                              refine g_perm (ws1 := wV G x uq135) gPerm_n' ?_
                              obtain ⟨eq135, hCq135⟩ := hq135
                              rw [show fBkng A (nI kb) (1 : Int32) = _ from fBkng_in (A := A) (j := kb) (k := 1) (by omega) hn24 rfl (by omega)] at eq135 hCq135
                              refine g_topL (y := (nI (bk (sB (aS A)) kb 1)).toInt64) (eq135.trans (gCd_a rfl)) ?_
                              refine g_lmul E dL_kept_700 ?_
                              refine g_ladd E dL_kept_701 ?_
                              refine g_aload_n E dL_kept_702 rfl 2 rfl ?_
                              refine g_iload E dL_kept_703 13 rfl ?_
                              refine g_iconst (v := 2) E dL_kept_705 (by decide) ?_
                              refine g_callSWL (As := [.ref (x.1 0), .int (nI kb), .int 2]) (F := []) E (wL_booking (x := x) hST hA hb5 hCq135 (nI kb) (2 : Int32)) gL_kept_L_booking rfl hdL_booking ⟨Nat.le_of_ble_eq_true rfl, Nat.le_of_ble_eq_true rfl⟩ gPerm_n rfl rfl ?_ dL_kept_706 ⟨by show (csi + 7) + 1 ≤ 25000; omega, by show (ssi + 42) + 6 ≤ 400000; omega⟩ (fun rq136 uq136 hq136 => ?_)
                              · exact Nat.le_of_ble_eq_true rfl
                              refine g_perm (ws1 := wV G x uq136) gPerm_n' ?_
                              obtain ⟨eq136, hCq136⟩ := hq136
                              rw [show fBkng A (nI kb) (2 : Int32) = _ from fBkng_in (A := A) (j := kb) (k := 2) (by omega) hn24 rfl (by omega)] at eq136 hCq136
                              refine g_topL (y := (nI (bk (sB (aS A)) kb 2)).toInt64) (eq136.trans (gCd_a rfl)) ?_
                              refine g_ladd E dL_kept_709 ?_
                              refine g_topL (y := Int64.ofNat (32 * bk (sB (aS A)) kb 0 + 4 * bk (sB (aS A)) kb 1 + bk (sB (aS A)) kb 2)) (gTime64 (by omega) (by omega) (by omega)) ?_
                              refine g_lcmp E dL_kept_710 ?_
                              refine g_if_ge (tgt := 751) E dL_kept_711 (by decide) (fun c => absurd c (gCmp_nge ((ofNat_lt64 (by omega) (by omega)).mpr (gTime_lt (hso ki kb (by omega) (by omega)) (by omega) (by omega))))) (fun _ => ?_)
                              refine g_iload E dL_kept_714 0 rfl ?_
                              refine g_if_eq (tgt := 747) E dL_kept_716 (by decide) (fun _ => ?_) (fun c => absurd c (by decide))
                              refine g_iconst (v := 1) E dL_kept_747 (by decide) ?_
                              refine g_goto (tgt := 752) E dL_kept_748 (by decide) ?_
                              refine g_istore (lv' := [(5, .int 1), (26, .int 0), (24, .long (Int64.ofNat (32 * bk (sB (aS A)) ki 0 + 4 * bk (sB (aS A)) ki 1 + bk (sB (aS A)) ki 2))), (0, .ref (x.1 0)), (1, .int (nI (sN (aS A) 1))), (2, .int (nI ((sB (aS A)).length))), (3, .long ((nI (sN (aS A) 0)).toInt64)), (6, .long (Int64.ofNat (gSum nf (sN (aS A) 1)))), (8, .long (Int64.ofNat (gSum (fun p => gCnt (fun k => bk (sB (aS A)) k 3 == p) (sB (aS A)).length) (sN (aS A) 1)))), (10, .long (Int64.ofNat (gSum (fun p => gCnt (fun i => wq (sW (aS A)) i / 10 == p) (sW (aS A)).length) (sN (aS A) 1)))), (12, .long (Int64.ofNat (gCnt (fun j => decide (nI (sN (aS A) 0) < sI (aS A) 2 j)) (sN (aS A) 1)))), (14, .long (Int64.ofNat (gSum (fun v => gCnt (fun k => bk (sB (aS A)) k 4 == v) (sB (aS A)).length) 10))), (16, .long (Int64.ofNat (gCnt (fun j => decide (nI (sN (aS A) 0) < sI (aS A) 7 j)) 10))), (18, .int (nI kb)), (19, .long ((nI (bk (sB (aS A)) kb 0)).toInt64)), (21, .int (nI (bk (sB (aS A)) kb 3))), (22, .int (nI (bk (sB (aS A)) kb 4))), (23, .int (nI ki))]) E dL_kept_752 (by decide) rfl ?_
                              refine g_iinc (lv' := [(23, .int (nI (ki + 1))), (5, .int 1), (26, .int 0), (24, .long (Int64.ofNat (32 * bk (sB (aS A)) ki 0 + 4 * bk (sB (aS A)) ki 1 + bk (sB (aS A)) ki 2))), (0, .ref (x.1 0)), (1, .int (nI (sN (aS A) 1))), (2, .int (nI ((sB (aS A)).length))), (3, .long ((nI (sN (aS A) 0)).toInt64)), (6, .long (Int64.ofNat (gSum nf (sN (aS A) 1)))), (8, .long (Int64.ofNat (gSum (fun p => gCnt (fun k => bk (sB (aS A)) k 3 == p) (sB (aS A)).length) (sN (aS A) 1)))), (10, .long (Int64.ofNat (gSum (fun p => gCnt (fun i => wq (sW (aS A)) i / 10 == p) (sW (aS A)).length) (sN (aS A) 1)))), (12, .long (Int64.ofNat (gCnt (fun j => decide (nI (sN (aS A) 0) < sI (aS A) 2 j)) (sN (aS A) 1)))), (14, .long (Int64.ofNat (gSum (fun v => gCnt (fun k => bk (sB (aS A)) k 4 == v) (sB (aS A)).length) 10))), (16, .long (Int64.ofNat (gCnt (fun j => decide (nI (sN (aS A) 0) < sI (aS A) 7 j)) 10))), (18, .int (nI kb)), (19, .long ((nI (bk (sB (aS A)) kb 0)).toInt64)), (21, .int (nI (bk (sB (aS A)) kb 3))), (22, .int (nI (bk (sB (aS A)) kb 4)))]) E dL_kept_754 17 rfl (g_inc _ 1 (by decide)) (by decide) rfl ?_
                              refine g_goto (tgt := 599) E dL_kept_757 (by decide) ?_
                              refine g_lv [4, 5, 6, 7, 1, 8, 9, 10, 11, 12, 13, 14, 15, 16, 17, 0] rfl ?_
                              exact ih53  (ki + 1) uq136 (csi + 8) (ssi + 48) (by omega) hCq136 (by omega) (by omega) (by omega)
                            · skip
                              have hsm := hhr ki kb (by omega) (by omega) ((gNeq64 (by omega) (by omega)).mp (gCmp_eq.mp c129)) ((gNeq64 (by omega) (by omega)).mp (gCmp_eq.mp c134))
                              refine g_iconst (v := 1) E dL_kept_675 (by decide) ?_
                              refine g_goto (tgt := 680) E dL_kept_676 (by decide) ?_
                              refine g_istore (lv' := [(26, .int 1), (24, .long (Int64.ofNat (32 * bk (sB (aS A)) ki 0 + 4 * bk (sB (aS A)) ki 1 + bk (sB (aS A)) ki 2))), (0, .ref (x.1 0)), (1, .int (nI (sN (aS A) 1))), (2, .int (nI ((sB (aS A)).length))), (3, .long ((nI (sN (aS A) 0)).toInt64)), (5, .int 1), (6, .long (Int64.ofNat (gSum nf (sN (aS A) 1)))), (8, .long (Int64.ofNat (gSum (fun p => gCnt (fun k => bk (sB (aS A)) k 3 == p) (sB (aS A)).length) (sN (aS A) 1)))), (10, .long (Int64.ofNat (gSum (fun p => gCnt (fun i => wq (sW (aS A)) i / 10 == p) (sW (aS A)).length) (sN (aS A) 1)))), (12, .long (Int64.ofNat (gCnt (fun j => decide (nI (sN (aS A) 0) < sI (aS A) 2 j)) (sN (aS A) 1)))), (14, .long (Int64.ofNat (gSum (fun v => gCnt (fun k => bk (sB (aS A)) k 4 == v) (sB (aS A)).length) 10))), (16, .long (Int64.ofNat (gCnt (fun j => decide (nI (sN (aS A) 0) < sI (aS A) 7 j)) 10))), (18, .int (nI kb)), (19, .long ((nI (bk (sB (aS A)) kb 0)).toInt64)), (21, .int (nI (bk (sB (aS A)) kb 3))), (22, .int (nI (bk (sB (aS A)) kb 4))), (23, .int (nI ki))]) E dL_kept_680 (by decide) rfl ?_
                              refine g_lload E dL_kept_682 1 rfl ?_
                              refine g_ldc2 (v := 32) E kL_kept_220 dL_kept_684 ?_
                              refine g_lload E dL_kept_687 14 rfl ?_
                              refine g_lmul E dL_kept_689 ?_
                              refine g_ldc2 (v := 4) E kL_kept_222 dL_kept_690 ?_
                              refine g_aload_n E dL_kept_693 rfl 2 rfl ?_
                              refine g_iload E dL_kept_694 13 rfl ?_
                              refine g_iconst (v := 1) E dL_kept_696 (by decide) ?_
                              refine g_callSWL (As := [.ref (x.1 0), .int (nI kb), .int 1]) (F := []) E (wL_booking (x := x) hST hA hb5 hCq133 (nI kb) (1 : Int32)) gL_kept_L_booking rfl hdL_booking ⟨Nat.le_of_ble_eq_true rfl, Nat.le_of_ble_eq_true rfl⟩ gPerm_n rfl rfl ?_ dL_kept_697 ⟨by show (csi + 6) + 1 ≤ 25000; omega, by show (ssi + 36) + 6 ≤ 400000; omega⟩ (fun rq137 uq137 hq137 => ?_)
                              · exact Nat.le_of_ble_eq_true rfl
                              refine g_perm (ws1 := wV G x uq137) gPerm_n' ?_
                              obtain ⟨eq137, hCq137⟩ := hq137
                              rw [show fBkng A (nI kb) (1 : Int32) = _ from fBkng_in (A := A) (j := kb) (k := 1) (by omega) hn24 rfl (by omega)] at eq137 hCq137
                              refine g_topL (y := (nI (bk (sB (aS A)) kb 1)).toInt64) (eq137.trans (gCd_a rfl)) ?_
                              refine g_lmul E dL_kept_700 ?_
                              refine g_ladd E dL_kept_701 ?_
                              refine g_aload_n E dL_kept_702 rfl 2 rfl ?_
                              refine g_iload E dL_kept_703 13 rfl ?_
                              refine g_iconst (v := 2) E dL_kept_705 (by decide) ?_
                              refine g_callSWL (As := [.ref (x.1 0), .int (nI kb), .int 2]) (F := []) E (wL_booking (x := x) hST hA hb5 hCq137 (nI kb) (2 : Int32)) gL_kept_L_booking rfl hdL_booking ⟨Nat.le_of_ble_eq_true rfl, Nat.le_of_ble_eq_true rfl⟩ gPerm_n rfl rfl ?_ dL_kept_706 ⟨by show (csi + 7) + 1 ≤ 25000; omega, by show (ssi + 42) + 6 ≤ 400000; omega⟩ (fun rq138 uq138 hq138 => ?_)
                              · exact Nat.le_of_ble_eq_true rfl
                              refine g_perm (ws1 := wV G x uq138) gPerm_n' ?_
                              obtain ⟨eq138, hCq138⟩ := hq138
                              rw [show fBkng A (nI kb) (2 : Int32) = _ from fBkng_in (A := A) (j := kb) (k := 2) (by omega) hn24 rfl (by omega)] at eq138 hCq138
                              refine g_topL (y := (nI (bk (sB (aS A)) kb 2)).toInt64) (eq138.trans (gCd_a rfl)) ?_
                              refine g_ladd E dL_kept_709 ?_
                              refine g_topL (y := Int64.ofNat (32 * bk (sB (aS A)) kb 0 + 4 * bk (sB (aS A)) kb 1 + bk (sB (aS A)) kb 2)) (gTime64 (by omega) (by omega) (by omega)) ?_
                              refine g_lcmp E dL_kept_710 ?_
                              refine g_if_ge (tgt := 751) E dL_kept_711 (by decide) (fun c => absurd c (gCmp_nge ((ofNat_lt64 (by omega) (by omega)).mpr (gTime_lt (hso ki kb (by omega) (by omega)) (by omega) (by omega))))) (fun _ => ?_)
                              refine g_iload E dL_kept_714 0 rfl ?_
                              refine g_if_eq (tgt := 747) E dL_kept_716 (by decide) (fun c => absurd c (by decide)) (fun _ => ?_)
                              refine g_aload_n E dL_kept_719 rfl 2 rfl ?_
                              refine g_iload E dL_kept_720 17 rfl ?_
                              refine g_iconst (v := 3) E dL_kept_722 (by decide) ?_
                              refine g_callSWL (As := [.ref (x.1 0), .int (nI ki), .int 3]) (F := []) E (wL_booking (x := x) hST hA hb5 hCq138 (nI ki) (3 : Int32)) gL_kept_L_booking rfl hdL_booking ⟨Nat.le_of_ble_eq_true rfl, Nat.le_of_ble_eq_true rfl⟩ gPerm_n rfl rfl ?_ dL_kept_723 ⟨by show (csi + 8) + 1 ≤ 25000; omega, by show (ssi + 48) + 6 ≤ 400000; omega⟩ (fun rq139 uq139 hq139 => ?_)
                              · exact Nat.le_of_ble_eq_true rfl
                              refine g_perm (ws1 := wV G x uq139) gPerm_n' ?_
                              obtain ⟨eq139, hCq139⟩ := hq139
                              rw [show fBkng A (nI ki) (3 : Int32) = _ from fBkng_in (A := A) (j := ki) (k := 3) (by omega) hn24 rfl (by omega)] at eq139 hCq139
                              refine g_topL (y := (nI (bk (sB (aS A)) ki 3)).toInt64) (eq139.trans (gCd_a rfl)) ?_
                              refine g_iload E dL_kept_726 15 rfl ?_
                              refine g_i2l (v := (nI (bk (sB (aS A)) kb 3)).toInt64) E dL_kept_728 rfl ?_
                              refine g_lcmp E dL_kept_729 ?_
                              refine g_if_eq (tgt := 751) E dL_kept_730 (by decide) (fun c => absurd c (fun q => hsm.1 ((gNeq64 (by omega) (by omega)).mp (gCmp_eq.mp q)))) (fun _ => ?_)
                              refine g_aload_n E dL_kept_733 rfl 2 rfl ?_
                              refine g_iload E dL_kept_734 17 rfl ?_
                              refine g_iconst (v := 4) E dL_kept_736 (by decide) ?_
                              refine g_callSWL (As := [.ref (x.1 0), .int (nI ki), .int 4]) (F := []) E (wL_booking (x := x) hST hA hb5 hCq139 (nI ki) (4 : Int32)) gL_kept_L_booking rfl hdL_booking ⟨Nat.le_of_ble_eq_true rfl, Nat.le_of_ble_eq_true rfl⟩ gPerm_n rfl rfl ?_ dL_kept_737 ⟨by show (csi + 9) + 1 ≤ 25000; omega, by show (ssi + 54) + 6 ≤ 400000; omega⟩ (fun rq140 uq140 hq140 => ?_)
                              · exact Nat.le_of_ble_eq_true rfl
                              refine g_perm (ws1 := wV G x uq140) gPerm_n' ?_
                              obtain ⟨eq140, hCq140⟩ := hq140
                              rw [show fBkng A (nI ki) (4 : Int32) = _ from fBkng_in (A := A) (j := ki) (k := 4) (by omega) hn24 rfl (by omega)] at eq140 hCq140
                              refine g_topL (y := (nI (bk (sB (aS A)) ki 4)).toInt64) (eq140.trans (gCd_a rfl)) ?_
                              refine g_iload E dL_kept_740 16 rfl ?_
                              refine g_i2l (v := (nI (bk (sB (aS A)) kb 4)).toInt64) E dL_kept_742 rfl ?_
                              refine g_lcmp E dL_kept_743 ?_
                              refine g_if_eq (tgt := 751) E dL_kept_744 (by decide) (fun c => absurd c (fun q => hsm.2 ((gNeq64 (by omega) (by omega)).mp (gCmp_eq.mp q)))) (fun _ => ?_)
                              refine g_iconst (v := 1) E dL_kept_747 (by decide) ?_
                              refine g_goto (tgt := 752) E dL_kept_748 (by decide) ?_
                              refine g_istore (lv' := [(5, .int 1), (26, .int 1), (24, .long (Int64.ofNat (32 * bk (sB (aS A)) ki 0 + 4 * bk (sB (aS A)) ki 1 + bk (sB (aS A)) ki 2))), (0, .ref (x.1 0)), (1, .int (nI (sN (aS A) 1))), (2, .int (nI ((sB (aS A)).length))), (3, .long ((nI (sN (aS A) 0)).toInt64)), (6, .long (Int64.ofNat (gSum nf (sN (aS A) 1)))), (8, .long (Int64.ofNat (gSum (fun p => gCnt (fun k => bk (sB (aS A)) k 3 == p) (sB (aS A)).length) (sN (aS A) 1)))), (10, .long (Int64.ofNat (gSum (fun p => gCnt (fun i => wq (sW (aS A)) i / 10 == p) (sW (aS A)).length) (sN (aS A) 1)))), (12, .long (Int64.ofNat (gCnt (fun j => decide (nI (sN (aS A) 0) < sI (aS A) 2 j)) (sN (aS A) 1)))), (14, .long (Int64.ofNat (gSum (fun v => gCnt (fun k => bk (sB (aS A)) k 4 == v) (sB (aS A)).length) 10))), (16, .long (Int64.ofNat (gCnt (fun j => decide (nI (sN (aS A) 0) < sI (aS A) 7 j)) 10))), (18, .int (nI kb)), (19, .long ((nI (bk (sB (aS A)) kb 0)).toInt64)), (21, .int (nI (bk (sB (aS A)) kb 3))), (22, .int (nI (bk (sB (aS A)) kb 4))), (23, .int (nI ki))]) E dL_kept_752 (by decide) rfl ?_
                              refine g_iinc (lv' := [(23, .int (nI (ki + 1))), (5, .int 1), (26, .int 1), (24, .long (Int64.ofNat (32 * bk (sB (aS A)) ki 0 + 4 * bk (sB (aS A)) ki 1 + bk (sB (aS A)) ki 2))), (0, .ref (x.1 0)), (1, .int (nI (sN (aS A) 1))), (2, .int (nI ((sB (aS A)).length))), (3, .long ((nI (sN (aS A) 0)).toInt64)), (6, .long (Int64.ofNat (gSum nf (sN (aS A) 1)))), (8, .long (Int64.ofNat (gSum (fun p => gCnt (fun k => bk (sB (aS A)) k 3 == p) (sB (aS A)).length) (sN (aS A) 1)))), (10, .long (Int64.ofNat (gSum (fun p => gCnt (fun i => wq (sW (aS A)) i / 10 == p) (sW (aS A)).length) (sN (aS A) 1)))), (12, .long (Int64.ofNat (gCnt (fun j => decide (nI (sN (aS A) 0) < sI (aS A) 2 j)) (sN (aS A) 1)))), (14, .long (Int64.ofNat (gSum (fun v => gCnt (fun k => bk (sB (aS A)) k 4 == v) (sB (aS A)).length) 10))), (16, .long (Int64.ofNat (gCnt (fun j => decide (nI (sN (aS A) 0) < sI (aS A) 7 j)) 10))), (18, .int (nI kb)), (19, .long ((nI (bk (sB (aS A)) kb 0)).toInt64)), (21, .int (nI (bk (sB (aS A)) kb 3))), (22, .int (nI (bk (sB (aS A)) kb 4)))]) E dL_kept_754 17 rfl (g_inc _ 1 (by decide)) (by decide) rfl ?_
                              refine g_goto (tgt := 599) E dL_kept_757 (by decide) ?_
                              refine g_lv [4, 5, 6, 7, 1, 8, 9, 10, 11, 12, 13, 14, 15, 16, 17, 0] rfl ?_
                              exact ih53  (ki + 1) uq140 (csi + 10) (ssi + 60) (by omega) hCq140 (by omega) (by omega) (by omega)
                    refine g_lv [5, 6, 7, 8, 1, 9, 10, 11, 12, 13, 14, 15, 4, 3, 2, 0] rfl ?_
                    exact loop51 _ 0 uq49 (csb + 6) (ssb + 36) (Nat.zero_le _) hCq49 (by omega) (by omega) (Nat.lt_succ_self _)
              refine g_lv [1, 2, 3, 4, 5, 6, 7, 8, 9, 10, 11, 0] rfl ?_
              exact loop21 _ 0 uv csv ssv (Nat.zero_le _) hCv (by omega) (by omega) (Nat.lt_succ_self _)
            · skip
              refine g_iload E dL_kept_377 4 rfl ?_
              refine g_if_eq (tgt := 461) E dL_kept_379 (by decide) (fun c => absurd c (by decide)) (fun _ => ?_)
              refine g_lload E dL_kept_382 9 rfl ?_
              refine g_aload_n E dL_kept_384 rfl 0 rfl ?_
              refine g_iload E dL_kept_385 11 rfl ?_
              refine g_iconst (v := 3) E dL_kept_387 (by decide) ?_
              refine g_callSWL (As := [.ref (x.1 0), .int (nI kv), .int 3]) (F := []) E (wL_visitor (x := x) hST hA hb5 hCv (nI kv) (3 : Int32)) gL_kept_L_visitor rfl hdL_visitor ⟨Nat.le_of_ble_eq_true rfl, Nat.le_of_ble_eq_true rfl⟩ gPerm_n rfl rfl ?_ dL_kept_388 ⟨by show csv + 1 ≤ 25000; omega, by show ssv + 6 ≤ 400000; omega⟩ (fun rq141 uq141 hq141 => ?_)
              · exact Nat.le_of_ble_eq_true rfl
              refine g_perm (ws1 := wV G x uq141) gPerm_n' ?_
              obtain ⟨eq141, hCq141⟩ := hq141
              rw [show fVisr A (nI kv) (3 : Int32) = _ from fVi_3 (A := A) (v := kv) (by omega)] at eq141 hCq141
              refine g_topL (y := (nI (gCnt (fun k => bk (sB (aS A)) k 4 == kv) (sB (aS A)).length)).toInt64) (eq141.trans (gCd_a rfl)) ?_
              refine g_ladd E dL_kept_391 ?_
              refine g_topL (y := Int64.ofNat (gSum (fun v => gCnt (fun k => bk (sB (aS A)) k 4 == v) (sB (aS A)).length) kv + gCnt (fun k => bk (sB (aS A)) k 4 == kv) (sB (aS A)).length)) (gAcc _ (by have := gCnt_le (fun k => bk (sB (aS A)) k 4 == kv) (sB (aS A)).length; omega)) ?_
              refine g_lstore (lv' := [(14, .long (Int64.ofNat (gSum (fun v => gCnt (fun k => bk (sB (aS A)) k 4 == v) (sB (aS A)).length) kv + gCnt (fun k => bk (sB (aS A)) k 4 == kv) (sB (aS A)).length))), (0, .ref (x.1 0)), (1, .int (nI (sN (aS A) 1))), (2, .int (nI ((sB (aS A)).length))), (3, .long ((nI (sN (aS A) 0)).toInt64)), (5, .int 1), (6, .long (Int64.ofNat (gSum nf (sN (aS A) 1)))), (8, .long (Int64.ofNat (gSum (fun p => gCnt (fun k => bk (sB (aS A)) k 3 == p) (sB (aS A)).length) (sN (aS A) 1)))), (10, .long (Int64.ofNat (gSum (fun p => gCnt (fun i => wq (sW (aS A)) i / 10 == p) (sW (aS A)).length) (sN (aS A) 1)))), (12, .long (Int64.ofNat (gCnt (fun j => decide (nI (sN (aS A) 0) < sI (aS A) 2 j)) (sN (aS A) 1)))), (16, .long (Int64.ofNat (gCnt (fun j => decide (nI (sN (aS A) 0) < sI (aS A) 7 j)) kv))), (18, .int (nI kv))]) E dL_kept_392 (by decide) rfl ?_
              have cut142 : ∀ (ug : gVu) (csg : Nat) (ssg : Nat), (gClsI A ug) → (csg ≤ (csv + 1) + 1) → (ssg ≤ (ssv + 6) + 6) → gW V 28 csg ssg (wV G x ug) [(0, .ref (x.1 0)), (1, .int (nI (sN (aS A) 1))), (2, .int (nI ((sB (aS A)).length))), (3, .long ((nI (sN (aS A) 0)).toInt64)), (5, .int 1), (6, .long (Int64.ofNat (gSum nf (sN (aS A) 1)))), (8, .long (Int64.ofNat (gSum (fun p => gCnt (fun k => bk (sB (aS A)) k 3 == p) (sB (aS A)).length) (sN (aS A) 1)))), (10, .long (Int64.ofNat (gSum (fun p => gCnt (fun i => wq (sW (aS A)) i / 10 == p) (sW (aS A)).length) (sN (aS A) 1)))), (12, .long (Int64.ofNat (gCnt (fun j => decide (nI (sN (aS A) 0) < sI (aS A) 2 j)) (sN (aS A) 1)))), (14, .long (Int64.ofNat (gSum (fun v => gCnt (fun k => bk (sB (aS A)) k 4 == v) (sB (aS A)).length) kv + gCnt (fun k => bk (sB (aS A)) k 4 == kv) (sB (aS A)).length))), (16, .long (Int64.ofNat (gCnt (fun j => decide (nI (sN (aS A) 0) < sI (aS A) 7 j)) kv))), (18, .int (nI kv))] 413 [.long (if decide (nI (sN (aS A) 0) < sI (aS A) 7 kv) = true then 1 else 0), .long (Int64.ofNat (gCnt (fun j => decide (nI (sN (aS A) 0) < sI (aS A) 7 j)) kv))] := by
                intro ug csg ssg hCg hcg hsg
                refine g_ladd E dL_kept_413 ?_
                refine g_topL (y := Int64.ofNat (gCnt (fun j => decide (nI (sN (aS A) 0) < sI (aS A) 7 j)) kv + if decide (nI (sN (aS A) 0) < sI (aS A) 7 kv) = true then 1 else 0)) (gAcc01 _ _) ?_
                refine g_lstore (lv' := [(16, .long (Int64.ofNat (gCnt (fun j => decide (nI (sN (aS A) 0) < sI (aS A) 7 j)) kv + if decide (nI (sN (aS A) 0) < sI (aS A) 7 kv) = true then 1 else 0))), (0, .ref (x.1 0)), (1, .int (nI (sN (aS A) 1))), (2, .int (nI ((sB (aS A)).length))), (3, .long ((nI (sN (aS A) 0)).toInt64)), (5, .int 1), (6, .long (Int64.ofNat (gSum nf (sN (aS A) 1)))), (8, .long (Int64.ofNat (gSum (fun p => gCnt (fun k => bk (sB (aS A)) k 3 == p) (sB (aS A)).length) (sN (aS A) 1)))), (10, .long (Int64.ofNat (gSum (fun p => gCnt (fun i => wq (sW (aS A)) i / 10 == p) (sW (aS A)).length) (sN (aS A) 1)))), (12, .long (Int64.ofNat (gCnt (fun j => decide (nI (sN (aS A) 0) < sI (aS A) 2 j)) (sN (aS A) 1)))), (14, .long (Int64.ofNat (gSum (fun v => gCnt (fun k => bk (sB (aS A)) k 4 == v) (sB (aS A)).length) kv + gCnt (fun k => bk (sB (aS A)) k 4 == kv) (sB (aS A)).length))), (18, .int (nI kv))]) E dL_kept_414 (by decide) rfl ?_
                refine g_aload_n E dL_kept_416 rfl 1 rfl ?_
                refine g_iload E dL_kept_417 11 rfl ?_
                refine g_iconst (v := 0) E dL_kept_419 (by decide) ?_
                refine g_callSWL (As := [.ref (x.1 0), .int (nI kv), .int 0]) (F := []) E (wL_visitor (x := x) hST hA hb5 hCg (nI kv) (0 : Int32)) gL_kept_L_visitor rfl hdL_visitor ⟨Nat.le_of_ble_eq_true rfl, Nat.le_of_ble_eq_true rfl⟩ gPerm_n rfl rfl ?_ dL_kept_420 ⟨by show csg + 1 ≤ 25000; omega, by show ssg + 6 ≤ 400000; omega⟩ (fun rq143 uq143 hq143 => ?_)
                · exact Nat.le_of_ble_eq_true rfl
                refine g_perm (ws1 := wV G x uq143) gPerm_n' ?_
                obtain ⟨eq143, hCq143⟩ := hq143
                rw [show fVisr A (nI kv) (0 : Int32) = _ from fVi_0 (A := A) (v := kv) (by omega)] at eq143 hCq143
                refine g_topL (y := (sI (aS A) 6 kv).toInt64) (eq143.trans (gCd_a rfl)) ?_
                refine g_lconst (v := 0) E dL_kept_423 (by decide) ?_
                refine g_ldc2 (v := 2) E kL_kept_214 dL_kept_424 ?_
                refine g_callSI (As := [.long ((sI (aS A) 6 kv).toInt64), .long 0, .long 2]) (F := wV G x uq143) E (mL_in ((sI (aS A) 6 kv).toInt64) (0 : Int64) (2 : Int64)) gL_kept_L_in rfl hdL_in ⟨Nat.le_of_ble_eq_true rfl, Nat.le_of_ble_eq_true rfl⟩ (gPerm_rfl _) rfl rfl ?_ dL_kept_427 ⟨by show (csg + 1) + 0 ≤ 25000; omega, by show (ssg + 6) + 0 ≤ 400000; omega⟩ (fun rq144 uq144 hq144 => ?_)
                · exact Nat.le_of_ble_eq_true rfl
                refine g_ws (ws' := wV G x uq143) rfl ?_
                refine g_top (y := 1) (hq144.trans (if_pos (by rcases hsk kv (by omega) with e | e | e <;> rw [e] <;> decide))) ?_
                refine g_if_eq (tgt := 452) E dL_kept_430 (by decide) (fun c => absurd c (by decide)) (fun _ => ?_)
                refine g_aload_n E dL_kept_433 rfl 1 rfl ?_
                refine g_iload E dL_kept_434 11 rfl ?_
                refine g_iconst (v := 2) E dL_kept_436 (by decide) ?_
                refine g_callSWL (As := [.ref (x.1 0), .int (nI kv), .int 2]) (F := []) E (wL_visitor (x := x) hST hA hb5 hCq143 (nI kv) (2 : Int32)) gL_kept_L_visitor rfl hdL_visitor ⟨Nat.le_of_ble_eq_true rfl, Nat.le_of_ble_eq_true rfl⟩ gPerm_n rfl rfl ?_ dL_kept_437 ⟨by show (csg + 1) + 1 ≤ 25000; omega, by show (ssg + 6) + 6 ≤ 400000; omega⟩ (fun rq145 uq145 hq145 => ?_)
                · exact Nat.le_of_ble_eq_true rfl
                refine g_perm (ws1 := wV G x uq145) gPerm_n' ?_
                obtain ⟨eq145, hCq145⟩ := hq145
                rw [show fVisr A (nI kv) (2 : Int32) = _ from fVi_2 (A := A) (v := kv) (by omega)] at eq145 hCq145
                refine g_topL (y := (if gHb (sI (aS A) 9 0) (nI kv) = true then 1 else 0 : Int32).toInt64) (eq145.trans (gCd_a rfl)) ?_
                refine g_lconst (v := 0) E dL_kept_440 (by decide) ?_
                refine g_lconst (v := 1) E dL_kept_441 (by decide) ?_
                refine g_callSI (As := [.long ((if gHb (sI (aS A) 9 0) (nI kv) = true then 1 else 0 : Int32).toInt64), .long 0, .long 1]) (F := wV G x uq145) E (mL_in ((if gHb (sI (aS A) 9 0) (nI kv) = true then 1 else 0 : Int32).toInt64) (0 : Int64) (1 : Int64)) gL_kept_L_in rfl hdL_in ⟨Nat.le_of_ble_eq_true rfl, Nat.le_of_ble_eq_true rfl⟩ (gPerm_rfl _) rfl rfl ?_ dL_kept_442 ⟨by show (csg + 2) + 0 ≤ 25000; omega, by show (ssg + 12) + 0 ≤ 400000; omega⟩ (fun rq146 uq146 hq146 => ?_)
                · exact Nat.le_of_ble_eq_true rfl
                refine g_ws (ws' := wV G x uq145) rfl ?_
                refine g_top (y := 1) (hq146.trans (if_pos (by split <;> decide))) ?_
                refine g_if_eq (tgt := 452) E dL_kept_445 (by decide) (fun c => absurd c (by decide)) (fun _ => ?_)
                refine g_iconst (v := 1) E dL_kept_448 (by decide) ?_
                refine g_goto (tgt := 453) E dL_kept_449 (by decide) ?_
                refine g_istore (lv' := [(5, .int 1), (16, .long (Int64.ofNat (gCnt (fun j => decide (nI (sN (aS A) 0) < sI (aS A) 7 j)) kv + if decide (nI (sN (aS A) 0) < sI (aS A) 7 kv) = true then 1 else 0))), (0, .ref (x.1 0)), (1, .int (nI (sN (aS A) 1))), (2, .int (nI ((sB (aS A)).length))), (3, .long ((nI (sN (aS A) 0)).toInt64)), (6, .long (Int64.ofNat (gSum nf (sN (aS A) 1)))), (8, .long (Int64.ofNat (gSum (fun p => gCnt (fun k => bk (sB (aS A)) k 3 == p) (sB (aS A)).length) (sN (aS A) 1)))), (10, .long (Int64.ofNat (gSum (fun p => gCnt (fun i => wq (sW (aS A)) i / 10 == p) (sW (aS A)).length) (sN (aS A) 1)))), (12, .long (Int64.ofNat (gCnt (fun j => decide (nI (sN (aS A) 0) < sI (aS A) 2 j)) (sN (aS A) 1)))), (14, .long (Int64.ofNat (gSum (fun v => gCnt (fun k => bk (sB (aS A)) k 4 == v) (sB (aS A)).length) kv + gCnt (fun k => bk (sB (aS A)) k 4 == kv) (sB (aS A)).length))), (18, .int (nI kv))]) E dL_kept_453 (by decide) rfl ?_
                refine g_iinc (lv' := [(18, .int (nI (kv + 1))), (5, .int 1), (16, .long (Int64.ofNat (gCnt (fun j => decide (nI (sN (aS A) 0) < sI (aS A) 7 j)) kv + if decide (nI (sN (aS A) 0) < sI (aS A) 7 kv) = true then 1 else 0))), (0, .ref (x.1 0)), (1, .int (nI (sN (aS A) 1))), (2, .int (nI ((sB (aS A)).length))), (3, .long ((nI (sN (aS A) 0)).toInt64)), (6, .long (Int64.ofNat (gSum nf (sN (aS A) 1)))), (8, .long (Int64.ofNat (gSum (fun p => gCnt (fun k => bk (sB (aS A)) k 3 == p) (sB (aS A)).length) (sN (aS A) 1)))), (10, .long (Int64.ofNat (gSum (fun p => gCnt (fun i => wq (sW (aS A)) i / 10 == p) (sW (aS A)).length) (sN (aS A) 1)))), (12, .long (Int64.ofNat (gCnt (fun j => decide (nI (sN (aS A) 0) < sI (aS A) 2 j)) (sN (aS A) 1)))), (14, .long (Int64.ofNat (gSum (fun v => gCnt (fun k => bk (sB (aS A)) k 4 == v) (sB (aS A)).length) kv + gCnt (fun k => bk (sB (aS A)) k 4 == kv) (sB (aS A)).length)))]) E dL_kept_455 11 rfl (g_inc _ 1 (by decide)) (by decide) rfl ?_
                refine g_goto (tgt := 370) E dL_kept_458 (by decide) ?_
                refine g_lv [3, 4, 5, 6, 1, 7, 8, 9, 10, 11, 2, 0] rfl ?_
                exact ih18  (kv + 1) uq145 (csg + 2) (ssg + 12) (by omega) hCq145 (by omega) (by omega) (by omega)
              refine g_lload E dL_kept_394 10 rfl ?_
              refine g_lload_n E dL_kept_396 rfl 4 rfl ?_
              refine g_aload_n E dL_kept_397 rfl 1 rfl ?_
              refine g_iload E dL_kept_398 11 rfl ?_
              refine g_iconst (v := 1) E dL_kept_400 (by decide) ?_
              refine g_callSWL (As := [.ref (x.1 0), .int (nI kv), .int 1]) (F := []) E (wL_visitor (x := x) hST hA hb5 hCq141 (nI kv) (1 : Int32)) gL_kept_L_visitor rfl hdL_visitor ⟨Nat.le_of_ble_eq_true rfl, Nat.le_of_ble_eq_true rfl⟩ gPerm_n rfl rfl ?_ dL_kept_401 ⟨by show (csv + 1) + 1 ≤ 25000; omega, by show (ssv + 6) + 6 ≤ 400000; omega⟩ (fun rq147 uq147 hq147 => ?_)
              · exact Nat.le_of_ble_eq_true rfl
              refine g_perm (ws1 := wV G x uq147) gPerm_n' ?_
              obtain ⟨eq147, hCq147⟩ := hq147
              rw [show fVisr A (nI kv) (1 : Int32) = _ from fVi_1 (A := A) (v := kv) (by omega)] at eq147 hCq147
              refine g_topL (y := (sI (aS A) 7 kv).toInt64) (eq147.trans (gCd_a rfl)) ?_
              refine g_lcmp E dL_kept_404 ?_
              refine g_if_ge (tgt := 412) E dL_kept_405 (by decide) (fun c148 => ?_) (fun c148 => ?_)
              · skip
                refine g_lconst (v := 0) E dL_kept_412 (by decide) ?_
                refine g_topL (y := if decide (nI (sN (aS A) 0) < sI (aS A) 7 kv) = true then 1 else 0) ((if_neg (fun q => gCmp_ge c148 (gLt64.mpr (of_decide_eq_true q)))).symm) ?_
                refine g_lv [1, 2, 3, 4, 5, 6, 7, 8, 9, 0, 10, 11] rfl ?_
                exact cut142 uq147 (csv + 2) (ssv + 12) hCq147 (by omega) (by omega)
              · skip
                refine g_lconst (v := 1) E dL_kept_408 (by decide) ?_
                refine g_goto (tgt := 413) E dL_kept_409 (by decide) ?_
                refine g_topL (y := if decide (nI (sN (aS A) 0) < sI (aS A) 7 kv) = true then 1 else 0) ((if_pos (decide_eq_true (gLt64.mp (gCmp_lt.mp (Int32.not_le.mp c148))))).symm) ?_
                refine g_lv [1, 2, 3, 4, 5, 6, 7, 8, 9, 0, 10, 11] rfl ?_
                exact cut142 uq147 (csv + 2) (ssv + 12) hCq147 (by omega) (by omega)
        refine g_lv [3, 4, 5, 6, 7, 8, 9, 10, 11, 2, 1, 0] rfl ?_
        exact loop16 _ 0 up csp ssp (Nat.zero_le _) hCp (by omega) (by omega) (Nat.lt_succ_self _)
      · skip
        refine g_iload E dL_kept_107 4 rfl ?_
        refine g_if_eq (tgt := 361) E dL_kept_109 (by decide) (fun c => absurd c (by decide)) (fun _ => ?_)
        refine g_lload E dL_kept_112 5 rfl ?_
        refine g_aload_n E dL_kept_114 rfl 0 rfl ?_
        refine g_iload E dL_kept_115 9 rfl ?_
        refine g_iconst (v := 3) E dL_kept_117 (by decide) ?_
        refine g_callSWL (As := [.ref (x.1 0), .int (nI kp), .int 3]) (F := []) E (wL_prisoner (x := x) hST hA hb5 hCp (nI kp) (3 : Int32)) gL_kept_L_prisoner rfl hdL_prisoner ⟨Nat.le_of_ble_eq_true rfl, Nat.le_of_ble_eq_true rfl⟩ gPerm_n rfl rfl ?_ dL_kept_118 ⟨by show csp + 1 ≤ 25000; omega, by show ssp + 6 ≤ 400000; omega⟩ (fun rq149 uq149 hq149 => ?_)
        · exact Nat.le_of_ble_eq_true rfl
        refine g_perm (ws1 := wV G x uq149) gPerm_n' ?_
        obtain ⟨eq149, hCq149⟩ := hq149
        rw [show fPris A (nI kp) (3 : Int32) = _ from fPr_3 (A := A) (p := kp) (by omega) h8 (hn3 kp (by omega))] at eq149 hCq149
        refine g_topL (y := (nI (nf kp)).toInt64) (eq149.trans (gCd_a rfl)) ?_
        refine g_ladd E dL_kept_121 ?_
        refine g_topL (y := Int64.ofNat (gSum nf kp + nf kp)) (gAcc _ (by have := hnf kp (by omega); omega)) ?_
        refine g_lstore (lv' := [(6, .long (Int64.ofNat (gSum nf kp + nf kp))), (0, .ref (x.1 0)), (1, .int (nI (sN (aS A) 1))), (2, .int (nI ((sB (aS A)).length))), (3, .long ((nI (sN (aS A) 0)).toInt64)), (5, .int 1), (8, .long (Int64.ofNat (gSum (fun p => gCnt (fun k => bk (sB (aS A)) k 3 == p) (sB (aS A)).length) kp))), (10, .long (Int64.ofNat (gSum (fun p => gCnt (fun i => wq (sW (aS A)) i / 10 == p) (sW (aS A)).length) kp))), (12, .long (Int64.ofNat (gCnt (fun j => decide (nI (sN (aS A) 0) < sI (aS A) 2 j)) kp))), (14, .int (nI kp))]) E dL_kept_122 (by decide) rfl ?_
        refine g_lload E dL_kept_124 6 rfl ?_
        refine g_aload_n E dL_kept_126 rfl 1 rfl ?_
        refine g_iload E dL_kept_127 9 rfl ?_
        refine g_iconst (v := 5) E dL_kept_129 (by decide) ?_
        refine g_callSWL (As := [.ref (x.1 0), .int (nI kp), .int 5]) (F := []) E (wL_prisoner (x := x) hST hA hb5 hCq149 (nI kp) (5 : Int32)) gL_kept_L_prisoner rfl hdL_prisoner ⟨Nat.le_of_ble_eq_true rfl, Nat.le_of_ble_eq_true rfl⟩ gPerm_n rfl rfl ?_ dL_kept_130 ⟨by show (csp + 1) + 1 ≤ 25000; omega, by show (ssp + 6) + 6 ≤ 400000; omega⟩ (fun rq150 uq150 hq150 => ?_)
        · exact Nat.le_of_ble_eq_true rfl
        refine g_perm (ws1 := wV G x uq150) gPerm_n' ?_
        obtain ⟨eq150, hCq150⟩ := hq150
        rw [show fPris A (nI kp) (5 : Int32) = _ from fPr_5 (A := A) (p := kp) (by omega) h8] at eq150 hCq150
        refine g_topL (y := (nI (gCnt (fun k => bk (sB (aS A)) k 3 == kp) (sB (aS A)).length)).toInt64) (eq150.trans (gCd_a rfl)) ?_
        refine g_ladd E dL_kept_133 ?_
        refine g_topL (y := Int64.ofNat (gSum (fun p => gCnt (fun k => bk (sB (aS A)) k 3 == p) (sB (aS A)).length) kp + gCnt (fun k => bk (sB (aS A)) k 3 == kp) (sB (aS A)).length)) (gAcc _ (by have := gCnt_le (fun k => bk (sB (aS A)) k 3 == kp) (sB (aS A)).length; omega)) ?_
        refine g_lstore (lv' := [(8, .long (Int64.ofNat (gSum (fun p => gCnt (fun k => bk (sB (aS A)) k 3 == p) (sB (aS A)).length) kp + gCnt (fun k => bk (sB (aS A)) k 3 == kp) (sB (aS A)).length))), (6, .long (Int64.ofNat (gSum nf kp + nf kp))), (0, .ref (x.1 0)), (1, .int (nI (sN (aS A) 1))), (2, .int (nI ((sB (aS A)).length))), (3, .long ((nI (sN (aS A) 0)).toInt64)), (5, .int 1), (10, .long (Int64.ofNat (gSum (fun p => gCnt (fun i => wq (sW (aS A)) i / 10 == p) (sW (aS A)).length) kp))), (12, .long (Int64.ofNat (gCnt (fun j => decide (nI (sN (aS A) 0) < sI (aS A) 2 j)) kp))), (14, .int (nI kp))]) E dL_kept_134 (by decide) rfl ?_
        refine g_lload E dL_kept_136 7 rfl ?_
        refine g_aload_n E dL_kept_138 rfl 2 rfl ?_
        refine g_iload E dL_kept_139 9 rfl ?_
        refine g_bipush (v := 6) E dL_kept_141 (by decide) ?_
        refine g_callSWL (As := [.ref (x.1 0), .int (nI kp), .int 6]) (F := []) E (wL_prisoner (x := x) hST hA hb5 hCq150 (nI kp) (6 : Int32)) gL_kept_L_prisoner rfl hdL_prisoner ⟨Nat.le_of_ble_eq_true rfl, Nat.le_of_ble_eq_true rfl⟩ gPerm_n rfl rfl ?_ dL_kept_143 ⟨by show (csp + 2) + 1 ≤ 25000; omega, by show (ssp + 12) + 6 ≤ 400000; omega⟩ (fun rq151 uq151 hq151 => ?_)
        · exact Nat.le_of_ble_eq_true rfl
        refine g_perm (ws1 := wV G x uq151) gPerm_n' ?_
        obtain ⟨eq151, hCq151⟩ := hq151
        rw [show fPris A (nI kp) (6 : Int32) = _ from fPr_6 (A := A) (p := kp) (by omega) h8] at eq151 hCq151
        refine g_topL (y := (nI (gCnt (fun i => wq (sW (aS A)) i / 10 == kp) (sW (aS A)).length)).toInt64) (eq151.trans (gCd_a rfl)) ?_
        refine g_ladd E dL_kept_146 ?_
        refine g_topL (y := Int64.ofNat (gSum (fun p => gCnt (fun i => wq (sW (aS A)) i / 10 == p) (sW (aS A)).length) kp + gCnt (fun i => wq (sW (aS A)) i / 10 == kp) (sW (aS A)).length)) (gAcc _ (by have := gCnt_le (fun i => wq (sW (aS A)) i / 10 == kp) (sW (aS A)).length; omega)) ?_
        refine g_lstore (lv' := [(10, .long (Int64.ofNat (gSum (fun p => gCnt (fun i => wq (sW (aS A)) i / 10 == p) (sW (aS A)).length) kp + gCnt (fun i => wq (sW (aS A)) i / 10 == kp) (sW (aS A)).length))), (8, .long (Int64.ofNat (gSum (fun p => gCnt (fun k => bk (sB (aS A)) k 3 == p) (sB (aS A)).length) kp + gCnt (fun k => bk (sB (aS A)) k 3 == kp) (sB (aS A)).length))), (6, .long (Int64.ofNat (gSum nf kp + nf kp))), (0, .ref (x.1 0)), (1, .int (nI (sN (aS A) 1))), (2, .int (nI ((sB (aS A)).length))), (3, .long ((nI (sN (aS A) 0)).toInt64)), (5, .int 1), (12, .long (Int64.ofNat (gCnt (fun j => decide (nI (sN (aS A) 0) < sI (aS A) 2 j)) kp))), (14, .int (nI kp))]) E dL_kept_147 (by decide) rfl ?_
        have cut152 : ∀ (uh : gVu) (csh : Nat) (ssh : Nat), (gClsI A uh) → (csh ≤ (csp + 3) + 1) → (ssh ≤ (ssp + 18) + 6) → gW V 28 csh ssh (wV G x uh) [(0, .ref (x.1 0)), (1, .int (nI (sN (aS A) 1))), (2, .int (nI ((sB (aS A)).length))), (3, .long ((nI (sN (aS A) 0)).toInt64)), (5, .int 1), (6, .long (Int64.ofNat (gSum nf kp + nf kp))), (8, .long (Int64.ofNat (gSum (fun p => gCnt (fun k => bk (sB (aS A)) k 3 == p) (sB (aS A)).length) kp + gCnt (fun k => bk (sB (aS A)) k 3 == kp) (sB (aS A)).length))), (10, .long (Int64.ofNat (gSum (fun p => gCnt (fun i => wq (sW (aS A)) i / 10 == p) (sW (aS A)).length) kp + gCnt (fun i => wq (sW (aS A)) i / 10 == kp) (sW (aS A)).length))), (12, .long (Int64.ofNat (gCnt (fun j => decide (nI (sN (aS A) 0) < sI (aS A) 2 j)) kp))), (14, .int (nI kp))] 168 [.long (if decide (nI (sN (aS A) 0) < sI (aS A) 2 kp) = true then 1 else 0), .long (Int64.ofNat (gCnt (fun j => decide (nI (sN (aS A) 0) < sI (aS A) 2 j)) kp))] := by
          intro uh csh ssh hCh hch hsh
          refine g_ladd E dL_kept_168 ?_
          refine g_topL (y := Int64.ofNat (gCnt (fun j => decide (nI (sN (aS A) 0) < sI (aS A) 2 j)) kp + if decide (nI (sN (aS A) 0) < sI (aS A) 2 kp) = true then 1 else 0)) (gAcc01 _ _) ?_
          refine g_lstore (lv' := [(12, .long (Int64.ofNat (gCnt (fun j => decide (nI (sN (aS A) 0) < sI (aS A) 2 j)) kp + if decide (nI (sN (aS A) 0) < sI (aS A) 2 kp) = true then 1 else 0))), (0, .ref (x.1 0)), (1, .int (nI (sN (aS A) 1))), (2, .int (nI ((sB (aS A)).length))), (3, .long ((nI (sN (aS A) 0)).toInt64)), (5, .int 1), (6, .long (Int64.ofNat (gSum nf kp + nf kp))), (8, .long (Int64.ofNat (gSum (fun p => gCnt (fun k => bk (sB (aS A)) k 3 == p) (sB (aS A)).length) kp + gCnt (fun k => bk (sB (aS A)) k 3 == kp) (sB (aS A)).length))), (10, .long (Int64.ofNat (gSum (fun p => gCnt (fun i => wq (sW (aS A)) i / 10 == p) (sW (aS A)).length) kp + gCnt (fun i => wq (sW (aS A)) i / 10 == kp) (sW (aS A)).length))), (14, .int (nI kp))]) E dL_kept_169 (by decide) rfl ?_
          refine g_aload_n E dL_kept_171 rfl 1 rfl ?_
          refine g_iload E dL_kept_172 9 rfl ?_
          refine g_iconst (v := 0) E dL_kept_174 (by decide) ?_
          refine g_callSWL (As := [.ref (x.1 0), .int (nI kp), .int 0]) (F := []) E (wL_prisoner (x := x) hST hA hb5 hCh (nI kp) (0 : Int32)) gL_kept_L_prisoner rfl hdL_prisoner ⟨Nat.le_of_ble_eq_true rfl, Nat.le_of_ble_eq_true rfl⟩ gPerm_n rfl rfl ?_ dL_kept_175 ⟨by show csh + 1 ≤ 25000; omega, by show ssh + 6 ≤ 400000; omega⟩ (fun rq153 uq153 hq153 => ?_)
          · exact Nat.le_of_ble_eq_true rfl
          refine g_perm (ws1 := wV G x uq153) gPerm_n' ?_
          obtain ⟨eq153, hCq153⟩ := hq153
          rw [show fPris A (nI kp) (0 : Int32) = _ from fPr_0 (A := A) (p := kp) (by omega) h8] at eq153 hCq153
          refine g_topL (y := (sI (aS A) 0 kp).toInt64) (eq153.trans (gCd_a rfl)) ?_
          refine g_lconst (v := 0) E dL_kept_178 (by decide) ?_
          refine g_ldc2 (v := 3) E kL_kept_210 dL_kept_179 ?_
          refine g_callSI (As := [.long ((sI (aS A) 0 kp).toInt64), .long 0, .long 3]) (F := wV G x uq153) E (mL_in ((sI (aS A) 0 kp).toInt64) (0 : Int64) (3 : Int64)) gL_kept_L_in rfl hdL_in ⟨Nat.le_of_ble_eq_true rfl, Nat.le_of_ble_eq_true rfl⟩ (gPerm_rfl _) rfl rfl ?_ dL_kept_182 ⟨by show (csh + 1) + 0 ≤ 25000; omega, by show (ssh + 6) + 0 ≤ 400000; omega⟩ (fun rq154 uq154 hq154 => ?_)
          · exact Nat.le_of_ble_eq_true rfl
          refine g_ws (ws' := wV G x uq153) rfl ?_
          refine g_top (y := 1) (hq154.trans (if_pos (in64i (lo := 0) (hi := 3) rfl rfl (hng kp (by omega)).2.2.1 (hrk kp (by omega))))) ?_
          refine g_if_eq (tgt := 239) E dL_kept_185 (by decide) (fun c => absurd c (by decide)) (fun _ => ?_)
          refine g_aload_n E dL_kept_188 rfl 1 rfl ?_
          refine g_iload E dL_kept_189 9 rfl ?_
          refine g_iconst (v := 1) E dL_kept_191 (by decide) ?_
          refine g_callSWL (As := [.ref (x.1 0), .int (nI kp), .int 1]) (F := []) E (wL_prisoner (x := x) hST hA hb5 hCq153 (nI kp) (1 : Int32)) gL_kept_L_prisoner rfl hdL_prisoner ⟨Nat.le_of_ble_eq_true rfl, Nat.le_of_ble_eq_true rfl⟩ gPerm_n rfl rfl ?_ dL_kept_192 ⟨by show (csh + 1) + 1 ≤ 25000; omega, by show (ssh + 6) + 6 ≤ 400000; omega⟩ (fun rq155 uq155 hq155 => ?_)
          · exact Nat.le_of_ble_eq_true rfl
          refine g_perm (ws1 := wV G x uq155) gPerm_n' ?_
          obtain ⟨eq155, hCq155⟩ := hq155
          rw [show fPris A (nI kp) (1 : Int32) = _ from fPris_1 (A := A) (p := kp) (by omega) h8] at eq155 hCq155
          refine g_topL (y := (sI (aS A) 1 kp).toInt64) (eq155.trans (gCd_a rfl)) ?_
          refine g_lconst (v := 0) E dL_kept_195 (by decide) ?_
          refine g_ldc2 (v := 1023) E kL_kept_212 dL_kept_196 ?_
          refine g_callSI (As := [.long ((sI (aS A) 1 kp).toInt64), .long 0, .long 1023]) (F := wV G x uq155) E (mL_in ((sI (aS A) 1 kp).toInt64) (0 : Int64) (1023 : Int64)) gL_kept_L_in rfl hdL_in ⟨Nat.le_of_ble_eq_true rfl, Nat.le_of_ble_eq_true rfl⟩ (gPerm_rfl _) rfl rfl ?_ dL_kept_199 ⟨by show (csh + 2) + 0 ≤ 25000; omega, by show (ssh + 12) + 0 ≤ 400000; omega⟩ (fun rq156 uq156 hq156 => ?_)
          · exact Nat.le_of_ble_eq_true rfl
          refine g_ws (ws' := wV G x uq155) rfl ?_
          refine g_top (y := 1) (hq156.trans (if_pos (in64i (lo := 0) (hi := 1023) rfl rfl (gNg_list hng (by omega)) (gTop1023 (hng kp (by omega)).1)))) ?_
          refine g_if_eq (tgt := 239) E dL_kept_202 (by decide) (fun c => absurd c (by decide)) (fun _ => ?_)
          refine g_aload_n E dL_kept_205 rfl 1 rfl ?_
          refine g_iload E dL_kept_206 9 rfl ?_
          refine g_bipush (v := 7) E dL_kept_208 (by decide) ?_
          refine g_callSWL (As := [.ref (x.1 0), .int (nI kp), .int 7]) (F := []) E (wL_prisoner (x := x) hST hA hb5 hCq155 (nI kp) (7 : Int32)) gL_kept_L_prisoner rfl hdL_prisoner ⟨Nat.le_of_ble_eq_true rfl, Nat.le_of_ble_eq_true rfl⟩ gPerm_n rfl rfl ?_ dL_kept_210 ⟨by show (csh + 2) + 1 ≤ 25000; omega, by show (ssh + 12) + 6 ≤ 400000; omega⟩ (fun rq157 uq157 hq157 => ?_)
          · exact Nat.le_of_ble_eq_true rfl
          refine g_perm (ws1 := wV G x uq157) gPerm_n' ?_
          obtain ⟨eq157, hCq157⟩ := hq157
          rw [show fPris A (nI kp) (7 : Int32) = _ from fPr_7 (A := A) (p := kp) (by omega) h8] at eq157 hCq157
          refine g_topL (y := (sI (aS A) 5 kp).toInt64) (eq157.trans (gCd_a rfl)) ?_
          refine g_iload E dL_kept_213 9 rfl ?_
          refine g_lshr (v := ((sI (aS A) 5 kp).toInt64) >>> ((nI kp).toInt64 &&& 63)) E dL_kept_215 rfl ?_
          refine g_lconst (v := 1) E dL_kept_216 (by decide) ?_
          refine g_land E dL_kept_217 ?_
          refine g_topL (y := if gHb (sI (aS A) 5 kp) (nI kp) = true then 1 else 0) (gBitV _ (by omega)) ?_
          refine g_lconst (v := 0) E dL_kept_218 (by decide) ?_
          refine g_lcmp E dL_kept_219 ?_
          refine g_if_ne (tgt := 239) E dL_kept_220 (by decide) (fun c => absurd (gCmp_eq.mpr (if_neg (by rw [(hap kp (by omega) kp (by omega)).2]; decide))) c) (fun _ => ?_)
          refine g_aload_n E dL_kept_223 rfl 1 rfl ?_
          refine g_iload E dL_kept_224 9 rfl ?_
          refine g_iconst (v := 4) E dL_kept_226 (by decide) ?_
          refine g_callSWL (As := [.ref (x.1 0), .int (nI kp), .int 4]) (F := []) E (wL_prisoner (x := x) hST hA hb5 hCq157 (nI kp) (4 : Int32)) gL_kept_L_prisoner rfl hdL_prisoner ⟨Nat.le_of_ble_eq_true rfl, Nat.le_of_ble_eq_true rfl⟩ gPerm_n rfl rfl ?_ dL_kept_227 ⟨by show (csh + 3) + 1 ≤ 25000; omega, by show (ssh + 18) + 6 ≤ 400000; omega⟩ (fun rq158 uq158 hq158 => ?_)
          · exact Nat.le_of_ble_eq_true rfl
          refine g_perm (ws1 := wV G x uq158) gPerm_n' ?_
          obtain ⟨eq158, hCq158⟩ := hq158
          rw [show fPris A (nI kp) (4 : Int32) = _ from fPr_4 (A := A) (p := kp) (by omega) h8 (hn4 kp (by omega))] at eq158 hCq158
          refine g_topL (y := (nI (gCW (sB (aS A)) kp (sN (aS A) 0 / 7) + nw kp)).toInt64) (eq158.trans (gCd_a rfl)) ?_
          refine g_lconst (v := 0) E dL_kept_230 (by decide) ?_
          refine g_lcmp E dL_kept_231 ?_
          refine g_if_lt (tgt := 239) E dL_kept_232 (by decide) (fun c => absurd c (gNn0 (by have : gCW (sB (aS A)) kp (sN (aS A) 0 / 7) ≤ (sB (aS A)).length := gCnt_le _ _; have := hnf kp (by omega); have := hnw kp (by omega); omega))) (fun _ => ?_)
          refine g_iconst (v := 1) E dL_kept_235 (by decide) ?_
          refine g_goto (tgt := 240) E dL_kept_236 (by decide) ?_
          refine g_istore (lv' := [(5, .int 1), (12, .long (Int64.ofNat (gCnt (fun j => decide (nI (sN (aS A) 0) < sI (aS A) 2 j)) kp + if decide (nI (sN (aS A) 0) < sI (aS A) 2 kp) = true then 1 else 0))), (0, .ref (x.1 0)), (1, .int (nI (sN (aS A) 1))), (2, .int (nI ((sB (aS A)).length))), (3, .long ((nI (sN (aS A) 0)).toInt64)), (6, .long (Int64.ofNat (gSum nf kp + nf kp))), (8, .long (Int64.ofNat (gSum (fun p => gCnt (fun k => bk (sB (aS A)) k 3 == p) (sB (aS A)).length) kp + gCnt (fun k => bk (sB (aS A)) k 3 == kp) (sB (aS A)).length))), (10, .long (Int64.ofNat (gSum (fun p => gCnt (fun i => wq (sW (aS A)) i / 10 == p) (sW (aS A)).length) kp + gCnt (fun i => wq (sW (aS A)) i / 10 == kp) (sW (aS A)).length))), (14, .int (nI kp))]) E dL_kept_240 (by decide) rfl ?_
          refine g_iconst (v := 0) E dL_kept_242 (by decide) ?_
          refine g_istore (lv' := [(15, .int 0), (5, .int 1), (12, .long (Int64.ofNat (gCnt (fun j => decide (nI (sN (aS A) 0) < sI (aS A) 2 j)) kp + if decide (nI (sN (aS A) 0) < sI (aS A) 2 kp) = true then 1 else 0))), (0, .ref (x.1 0)), (1, .int (nI (sN (aS A) 1))), (2, .int (nI ((sB (aS A)).length))), (3, .long ((nI (sN (aS A) 0)).toInt64)), (6, .long (Int64.ofNat (gSum nf kp + nf kp))), (8, .long (Int64.ofNat (gSum (fun p => gCnt (fun k => bk (sB (aS A)) k 3 == p) (sB (aS A)).length) kp + gCnt (fun k => bk (sB (aS A)) k 3 == kp) (sB (aS A)).length))), (10, .long (Int64.ofNat (gSum (fun p => gCnt (fun i => wq (sW (aS A)) i / 10 == p) (sW (aS A)).length) kp + gCnt (fun i => wq (sW (aS A)) i / 10 == kp) (sW (aS A)).length))), (14, .int (nI kp))]) E dL_kept_243 (by decide) rfl ?_
          have loop159 : ∀ (n160 : Nat) (kq : Nat) (uq : gVu) (csq : Nat) (ssq : Nat), (kq ≤ sN (aS A) 1) → (gClsI A uq) → (csq ≤ (csh + 4) + 2 * kq) → (ssq ≤ (ssh + 24) + 12 * kq) → sN (aS A) 1 - kq < n160 → gW V 28 csq ssq (wV G x uq) [(0, .ref (x.1 0)), (1, .int (nI (sN (aS A) 1))), (2, .int (nI ((sB (aS A)).length))), (3, .long ((nI (sN (aS A) 0)).toInt64)), (5, .int 1), (6, .long (Int64.ofNat (gSum nf kp + nf kp))), (8, .long (Int64.ofNat (gSum (fun p => gCnt (fun k => bk (sB (aS A)) k 3 == p) (sB (aS A)).length) kp + gCnt (fun k => bk (sB (aS A)) k 3 == kp) (sB (aS A)).length))), (10, .long (Int64.ofNat (gSum (fun p => gCnt (fun i => wq (sW (aS A)) i / 10 == p) (sW (aS A)).length) kp + gCnt (fun i => wq (sW (aS A)) i / 10 == kp) (sW (aS A)).length))), (12, .long (Int64.ofNat (gCnt (fun j => decide (nI (sN (aS A) 0) < sI (aS A) 2 j)) kp + if decide (nI (sN (aS A) 0) < sI (aS A) 2 kp) = true then 1 else 0))), (14, .int (nI kp)), (15, .int (nI kq))] 245 [] := by
            intro n160
            induction n160 with
            | zero => intro kq uq csq ssq hkq hCq hcq hsq hm162; exact absurd hm162 (Nat.not_lt_zero _)
            | succ n160 ih161 =>
              intro kq uq csq ssq hkq hCq hcq hsq hm162
              refine g_iload E dL_kept_245 10 rfl ?_
              refine g_iload_n E dL_kept_247 rfl 1 rfl ?_
              refine g_icmp_geN (tgt := 299) (a := kq) (b := sN (aS A) 1) E dL_kept_248 (by decide) (by omega) (by omega) (fun c163 => ?_) (fun c163 => ?_)
              · skip
                obtain rfl : kq = sN (aS A) 1 := by omega
                refine g_iconst (v := 0) E dL_kept_299 (by decide) ?_
                refine g_istore (lv' := [(15, .int 0), (0, .ref (x.1 0)), (1, .int (nI (sN (aS A) 1))), (2, .int (nI ((sB (aS A)).length))), (3, .long ((nI (sN (aS A) 0)).toInt64)), (5, .int 1), (6, .long (Int64.ofNat (gSum nf kp + nf kp))), (8, .long (Int64.ofNat (gSum (fun p => gCnt (fun k => bk (sB (aS A)) k 3 == p) (sB (aS A)).length) kp + gCnt (fun k => bk (sB (aS A)) k 3 == kp) (sB (aS A)).length))), (10, .long (Int64.ofNat (gSum (fun p => gCnt (fun i => wq (sW (aS A)) i / 10 == p) (sW (aS A)).length) kp + gCnt (fun i => wq (sW (aS A)) i / 10 == kp) (sW (aS A)).length))), (12, .long (Int64.ofNat (gCnt (fun j => decide (nI (sN (aS A) 0) < sI (aS A) 2 j)) kp + if decide (nI (sN (aS A) 0) < sI (aS A) 2 kp) = true then 1 else 0))), (14, .int (nI kp))]) E dL_kept_300 (by decide) rfl ?_
                have loop164 : ∀ (n165 : Nat) (kw : Nat) (uw : gVu) (csw : Nat) (ssw : Nat), (kw ≤ 10) → (gClsI A uw) → (csw ≤ csq + 2 * kw) → (ssw ≤ ssq + 12 * kw) → 10 - kw < n165 → gW V 28 csw ssw (wV G x uw) [(0, .ref (x.1 0)), (1, .int (nI (sN (aS A) 1))), (2, .int (nI ((sB (aS A)).length))), (3, .long ((nI (sN (aS A) 0)).toInt64)), (5, .int 1), (6, .long (Int64.ofNat (gSum nf kp + nf kp))), (8, .long (Int64.ofNat (gSum (fun p => gCnt (fun k => bk (sB (aS A)) k 3 == p) (sB (aS A)).length) kp + gCnt (fun k => bk (sB (aS A)) k 3 == kp) (sB (aS A)).length))), (10, .long (Int64.ofNat (gSum (fun p => gCnt (fun i => wq (sW (aS A)) i / 10 == p) (sW (aS A)).length) kp + gCnt (fun i => wq (sW (aS A)) i / 10 == kp) (sW (aS A)).length))), (12, .long (Int64.ofNat (gCnt (fun j => decide (nI (sN (aS A) 0) < sI (aS A) 2 j)) kp + if decide (nI (sN (aS A) 0) < sI (aS A) 2 kp) = true then 1 else 0))), (14, .int (nI kp)), (15, .int (nI kw))] 302 [] := by
                  intro n165
                  induction n165 with
                  | zero => intro kw uw csw ssw hkw hCw hcw hsw hm167; exact absurd hm167 (Nat.not_lt_zero _)
                  | succ n165 ih166 =>
                    intro kw uw csw ssw hkw hCw hcw hsw hm167
                    refine g_iload E dL_kept_302 10 rfl ?_
                    refine g_bipush (v := 10) E dL_kept_304 (by decide) ?_
                    refine g_icmp_geN (tgt := 355) (a := kw) (b := 10) E dL_kept_306 (by decide) (by omega) (by omega) (fun c168 => ?_) (fun c168 => ?_)
                    · skip
                      obtain rfl : kw = 10 := by omega
                      refine g_iinc (lv' := [(14, .int (nI (kp + 1))), (0, .ref (x.1 0)), (1, .int (nI (sN (aS A) 1))), (2, .int (nI ((sB (aS A)).length))), (3, .long ((nI (sN (aS A) 0)).toInt64)), (5, .int 1), (6, .long (Int64.ofNat (gSum nf kp + nf kp))), (8, .long (Int64.ofNat (gSum (fun p => gCnt (fun k => bk (sB (aS A)) k 3 == p) (sB (aS A)).length) kp + gCnt (fun k => bk (sB (aS A)) k 3 == kp) (sB (aS A)).length))), (10, .long (Int64.ofNat (gSum (fun p => gCnt (fun i => wq (sW (aS A)) i / 10 == p) (sW (aS A)).length) kp + gCnt (fun i => wq (sW (aS A)) i / 10 == kp) (sW (aS A)).length))), (12, .long (Int64.ofNat (gCnt (fun j => decide (nI (sN (aS A) 0) < sI (aS A) 2 j)) kp + if decide (nI (sN (aS A) 0) < sI (aS A) 2 kp) = true then 1 else 0))), (15, .int (nI 10))]) E dL_kept_355 9 rfl (g_inc _ 1 (by decide)) (by decide) rfl ?_
                      refine g_goto (tgt := 101) E dL_kept_358 (by decide) ?_
                      refine g_lv [1, 2, 3, 4, 5, 6, 7, 8, 9, 0] rfl ?_
                      exact ih13  (kp + 1) uw csw ssw (by omega) hCw (by omega) (by omega) (by omega)
                    · skip
                      refine g_iload E dL_kept_309 4 rfl ?_
                      refine g_if_eq (tgt := 355) E dL_kept_311 (by decide) (fun c => absurd c (by decide)) (fun _ => ?_)
                      refine g_aload_n E dL_kept_314 rfl 0 rfl ?_
                      refine g_iload E dL_kept_315 9 rfl ?_
                      refine g_iconst (v := 1) E dL_kept_317 (by decide) ?_
                      refine g_callSWL (As := [.ref (x.1 0), .int (nI kp), .int 1]) (F := []) E (wL_prisoner (x := x) hST hA hb5 hCw (nI kp) (1 : Int32)) gL_kept_L_prisoner rfl hdL_prisoner ⟨Nat.le_of_ble_eq_true rfl, Nat.le_of_ble_eq_true rfl⟩ gPerm_n rfl rfl ?_ dL_kept_318 ⟨by show csw + 1 ≤ 25000; omega, by show ssw + 6 ≤ 400000; omega⟩ (fun rq169 uq169 hq169 => ?_)
                      · exact Nat.le_of_ble_eq_true rfl
                      refine g_perm (ws1 := wV G x uq169) gPerm_n' ?_
                      obtain ⟨eq169, hCq169⟩ := hq169
                      rw [show fPris A (nI kp) (1 : Int32) = _ from fPris_1 (A := A) (p := kp) (by omega) h8] at eq169 hCq169
                      refine g_topL (y := (sI (aS A) 1 kp).toInt64) (eq169.trans (gCd_a rfl)) ?_
                      refine g_iload E dL_kept_321 10 rfl ?_
                      refine g_lshr (v := ((sI (aS A) 1 kp).toInt64) >>> ((nI kw).toInt64 &&& 63)) E dL_kept_323 rfl ?_
                      refine g_lconst (v := 1) E dL_kept_324 (by decide) ?_
                      refine g_land E dL_kept_325 ?_
                      refine g_topL (y := if gHb (sI (aS A) 1 kp) (nI kw) = true then 1 else 0) (gBitV _ (by omega)) ?_
                      refine g_aload_n E dL_kept_326 rfl 0 rfl ?_
                      refine g_iload E dL_kept_327 10 rfl ?_
                      refine g_iconst (v := 4) E dL_kept_329 (by decide) ?_
                      refine g_callSWL (As := [.ref (x.1 0), .int (nI kw), .int 4]) (F := []) E (wL_visitor (x := x) hST hA hb5 hCq169 (nI kw) (4 : Int32)) gL_kept_L_visitor rfl hdL_visitor ⟨Nat.le_of_ble_eq_true rfl, Nat.le_of_ble_eq_true rfl⟩ gPerm_n rfl rfl ?_ dL_kept_330 ⟨by show (csw + 1) + 1 ≤ 25000; omega, by show (ssw + 6) + 6 ≤ 400000; omega⟩ (fun rq170 uq170 hq170 => ?_)
                      · exact Nat.le_of_ble_eq_true rfl
                      refine g_perm (ws1 := wV G x uq170) gPerm_n' ?_
                      obtain ⟨eq170, hCq170⟩ := hq170
                      rw [show fVisr A (nI kw) (4 : Int32) = _ from fVi_4 (A := A) (v := kw) (by omega)] at eq170 hCq170
                      refine g_topL (y := (gPWL (aS A) kw 8).toInt64) (eq170.trans (gCd_a rfl)) ?_
                      refine g_iload E dL_kept_333 9 rfl ?_
                      refine g_lshr (v := ((gPWL (aS A) kw 8).toInt64) >>> ((nI kp).toInt64 &&& 63)) E dL_kept_335 rfl ?_
                      refine g_lconst (v := 1) E dL_kept_336 (by decide) ?_
                      refine g_land E dL_kept_337 ?_
                      refine g_topL (y := if gHb (gPWL (aS A) kw 8) (nI kp) = true then 1 else 0) (gBitV _ (by omega)) ?_
                      refine g_lcmp E dL_kept_338 ?_
                      refine g_if_ne (tgt := 346) E dL_kept_339 (by decide) (fun c => absurd (gCmp_eq.mpr (by rw [gPWL_bit (by omega) (Nat.le_refl 8), decide_eq_true (show kp < 8 by omega), Bool.true_and])) c) (fun _ => ?_)
                      refine g_iconst (v := 1) E dL_kept_342 (by decide) ?_
                      refine g_goto (tgt := 347) E dL_kept_343 (by decide) ?_
                      refine g_istore (lv' := [(5, .int 1), (0, .ref (x.1 0)), (1, .int (nI (sN (aS A) 1))), (2, .int (nI ((sB (aS A)).length))), (3, .long ((nI (sN (aS A) 0)).toInt64)), (6, .long (Int64.ofNat (gSum nf kp + nf kp))), (8, .long (Int64.ofNat (gSum (fun p => gCnt (fun k => bk (sB (aS A)) k 3 == p) (sB (aS A)).length) kp + gCnt (fun k => bk (sB (aS A)) k 3 == kp) (sB (aS A)).length))), (10, .long (Int64.ofNat (gSum (fun p => gCnt (fun i => wq (sW (aS A)) i / 10 == p) (sW (aS A)).length) kp + gCnt (fun i => wq (sW (aS A)) i / 10 == kp) (sW (aS A)).length))), (12, .long (Int64.ofNat (gCnt (fun j => decide (nI (sN (aS A) 0) < sI (aS A) 2 j)) kp + if decide (nI (sN (aS A) 0) < sI (aS A) 2 kp) = true then 1 else 0))), (14, .int (nI kp)), (15, .int (nI kw))]) E dL_kept_347 (by decide) rfl ?_
                      refine g_iinc (lv' := [(15, .int (nI (kw + 1))), (5, .int 1), (0, .ref (x.1 0)), (1, .int (nI (sN (aS A) 1))), (2, .int (nI ((sB (aS A)).length))), (3, .long ((nI (sN (aS A) 0)).toInt64)), (6, .long (Int64.ofNat (gSum nf kp + nf kp))), (8, .long (Int64.ofNat (gSum (fun p => gCnt (fun k => bk (sB (aS A)) k 3 == p) (sB (aS A)).length) kp + gCnt (fun k => bk (sB (aS A)) k 3 == kp) (sB (aS A)).length))), (10, .long (Int64.ofNat (gSum (fun p => gCnt (fun i => wq (sW (aS A)) i / 10 == p) (sW (aS A)).length) kp + gCnt (fun i => wq (sW (aS A)) i / 10 == kp) (sW (aS A)).length))), (12, .long (Int64.ofNat (gCnt (fun j => decide (nI (sN (aS A) 0) < sI (aS A) 2 j)) kp + if decide (nI (sN (aS A) 0) < sI (aS A) 2 kp) = true then 1 else 0))), (14, .int (nI kp))]) E dL_kept_349 10 rfl (g_inc _ 1 (by decide)) (by decide) rfl ?_
                      refine g_goto (tgt := 302) E dL_kept_352 (by decide) ?_
                      refine g_lv [2, 3, 4, 5, 1, 6, 7, 8, 9, 10, 0] rfl ?_
                      exact ih166  (kw + 1) uq170 (csw + 2) (ssw + 12) (by omega) hCq170 (by omega) (by omega) (by omega)
                refine g_lv [1, 2, 3, 4, 5, 6, 7, 8, 9, 10, 0] rfl ?_
                exact loop164 _ 0 uq csq ssq (Nat.zero_le _) hCq (by omega) (by omega) (Nat.lt_succ_self _)
              · skip
                refine g_iload E dL_kept_251 4 rfl ?_
                refine g_if_eq (tgt := 299) E dL_kept_253 (by decide) (fun c => absurd c (by decide)) (fun _ => ?_)
                refine g_aload_n E dL_kept_256 rfl 0 rfl ?_
                refine g_iload E dL_kept_257 9 rfl ?_
                refine g_bipush (v := 7) E dL_kept_259 (by decide) ?_
                refine g_callSWL (As := [.ref (x.1 0), .int (nI kp), .int 7]) (F := []) E (wL_prisoner (x := x) hST hA hb5 hCq (nI kp) (7 : Int32)) gL_kept_L_prisoner rfl hdL_prisoner ⟨Nat.le_of_ble_eq_true rfl, Nat.le_of_ble_eq_true rfl⟩ gPerm_n rfl rfl ?_ dL_kept_261 ⟨by show csq + 1 ≤ 25000; omega, by show ssq + 6 ≤ 400000; omega⟩ (fun rq171 uq171 hq171 => ?_)
                · exact Nat.le_of_ble_eq_true rfl
                refine g_perm (ws1 := wV G x uq171) gPerm_n' ?_
                obtain ⟨eq171, hCq171⟩ := hq171
                rw [show fPris A (nI kp) (7 : Int32) = _ from fPr_7 (A := A) (p := kp) (by omega) h8] at eq171 hCq171
                refine g_topL (y := (sI (aS A) 5 kp).toInt64) (eq171.trans (gCd_a rfl)) ?_
                refine g_iload E dL_kept_264 10 rfl ?_
                refine g_lshr (v := ((sI (aS A) 5 kp).toInt64) >>> ((nI kq).toInt64 &&& 63)) E dL_kept_266 rfl ?_
                refine g_lconst (v := 1) E dL_kept_267 (by decide) ?_
                refine g_land E dL_kept_268 ?_
                refine g_topL (y := if gHb (sI (aS A) 5 kp) (nI kq) = true then 1 else 0) (gBitV _ (by omega)) ?_
                refine g_aload_n E dL_kept_269 rfl 0 rfl ?_
                refine g_iload E dL_kept_270 10 rfl ?_
                refine g_bipush (v := 7) E dL_kept_272 (by decide) ?_
                refine g_callSWL (As := [.ref (x.1 0), .int (nI kq), .int 7]) (F := []) E (wL_prisoner (x := x) hST hA hb5 hCq171 (nI kq) (7 : Int32)) gL_kept_L_prisoner rfl hdL_prisoner ⟨Nat.le_of_ble_eq_true rfl, Nat.le_of_ble_eq_true rfl⟩ gPerm_n rfl rfl ?_ dL_kept_274 ⟨by show (csq + 1) + 1 ≤ 25000; omega, by show (ssq + 6) + 6 ≤ 400000; omega⟩ (fun rq172 uq172 hq172 => ?_)
                · exact Nat.le_of_ble_eq_true rfl
                refine g_perm (ws1 := wV G x uq172) gPerm_n' ?_
                obtain ⟨eq172, hCq172⟩ := hq172
                rw [show fPris A (nI kq) (7 : Int32) = _ from fPr_7 (A := A) (p := kq) (by omega) h8] at eq172 hCq172
                refine g_topL (y := (sI (aS A) 5 kq).toInt64) (eq172.trans (gCd_a rfl)) ?_
                refine g_iload E dL_kept_277 9 rfl ?_
                refine g_lshr (v := ((sI (aS A) 5 kq).toInt64) >>> ((nI kp).toInt64 &&& 63)) E dL_kept_279 rfl ?_
                refine g_lconst (v := 1) E dL_kept_280 (by decide) ?_
                refine g_land E dL_kept_281 ?_
                refine g_topL (y := if gHb (sI (aS A) 5 kq) (nI kp) = true then 1 else 0) (gBitV _ (by omega)) ?_
                refine g_lcmp E dL_kept_282 ?_
                refine g_if_ne (tgt := 290) E dL_kept_283 (by decide) (fun c => absurd (gCmp_eq.mpr (by rw [(hap kp (by omega) kq (by omega)).1])) c) (fun _ => ?_)
                refine g_iconst (v := 1) E dL_kept_286 (by decide) ?_
                refine g_goto (tgt := 291) E dL_kept_287 (by decide) ?_
                refine g_istore (lv' := [(5, .int 1), (0, .ref (x.1 0)), (1, .int (nI (sN (aS A) 1))), (2, .int (nI ((sB (aS A)).length))), (3, .long ((nI (sN (aS A) 0)).toInt64)), (6, .long (Int64.ofNat (gSum nf kp + nf kp))), (8, .long (Int64.ofNat (gSum (fun p => gCnt (fun k => bk (sB (aS A)) k 3 == p) (sB (aS A)).length) kp + gCnt (fun k => bk (sB (aS A)) k 3 == kp) (sB (aS A)).length))), (10, .long (Int64.ofNat (gSum (fun p => gCnt (fun i => wq (sW (aS A)) i / 10 == p) (sW (aS A)).length) kp + gCnt (fun i => wq (sW (aS A)) i / 10 == kp) (sW (aS A)).length))), (12, .long (Int64.ofNat (gCnt (fun j => decide (nI (sN (aS A) 0) < sI (aS A) 2 j)) kp + if decide (nI (sN (aS A) 0) < sI (aS A) 2 kp) = true then 1 else 0))), (14, .int (nI kp)), (15, .int (nI kq))]) E dL_kept_291 (by decide) rfl ?_
                refine g_iinc (lv' := [(15, .int (nI (kq + 1))), (5, .int 1), (0, .ref (x.1 0)), (1, .int (nI (sN (aS A) 1))), (2, .int (nI ((sB (aS A)).length))), (3, .long ((nI (sN (aS A) 0)).toInt64)), (6, .long (Int64.ofNat (gSum nf kp + nf kp))), (8, .long (Int64.ofNat (gSum (fun p => gCnt (fun k => bk (sB (aS A)) k 3 == p) (sB (aS A)).length) kp + gCnt (fun k => bk (sB (aS A)) k 3 == kp) (sB (aS A)).length))), (10, .long (Int64.ofNat (gSum (fun p => gCnt (fun i => wq (sW (aS A)) i / 10 == p) (sW (aS A)).length) kp + gCnt (fun i => wq (sW (aS A)) i / 10 == kp) (sW (aS A)).length))), (12, .long (Int64.ofNat (gCnt (fun j => decide (nI (sN (aS A) 0) < sI (aS A) 2 j)) kp + if decide (nI (sN (aS A) 0) < sI (aS A) 2 kp) = true then 1 else 0))), (14, .int (nI kp))]) E dL_kept_293 10 rfl (g_inc _ 1 (by decide)) (by decide) rfl ?_
                refine g_goto (tgt := 245) E dL_kept_296 (by decide) ?_
                refine g_lv [2, 3, 4, 5, 1, 6, 7, 8, 9, 10, 0] rfl ?_
                exact ih161  (kq + 1) uq172 (csq + 2) (ssq + 12) (by omega) hCq172 (by omega) (by omega) (by omega)
          refine g_lv [3, 4, 5, 6, 1, 7, 8, 9, 2, 10, 0] rfl ?_
          exact loop159 _ 0 uq158 (csh + 4) (ssh + 24) (Nat.zero_le _) hCq158 (by omega) (by omega) (Nat.lt_succ_self _)
        refine g_lload E dL_kept_149 8 rfl ?_
        refine g_lload_n E dL_kept_151 rfl 6 rfl ?_
        refine g_aload_n E dL_kept_152 rfl 3 rfl ?_
        refine g_iload E dL_kept_153 9 rfl ?_
        refine g_iconst (v := 2) E dL_kept_155 (by decide) ?_
        refine g_callSWL (As := [.ref (x.1 0), .int (nI kp), .int 2]) (F := []) E (wL_prisoner (x := x) hST hA hb5 hCq151 (nI kp) (2 : Int32)) gL_kept_L_prisoner rfl hdL_prisoner ⟨Nat.le_of_ble_eq_true rfl, Nat.le_of_ble_eq_true rfl⟩ gPerm_n rfl rfl ?_ dL_kept_156 ⟨by show (csp + 3) + 1 ≤ 25000; omega, by show (ssp + 18) + 6 ≤ 400000; omega⟩ (fun rq173 uq173 hq173 => ?_)
        · exact Nat.le_of_ble_eq_true rfl
        refine g_perm (ws1 := wV G x uq173) gPerm_n' ?_
        obtain ⟨eq173, hCq173⟩ := hq173
        rw [show fPris A (nI kp) (2 : Int32) = _ from fPr_2 (A := A) (p := kp) (by omega) h8] at eq173 hCq173
        refine g_topL (y := (sI (aS A) 2 kp).toInt64) (eq173.trans (gCd_a rfl)) ?_
        refine g_lcmp E dL_kept_159 ?_
        refine g_if_ge (tgt := 167) E dL_kept_160 (by decide) (fun c174 => ?_) (fun c174 => ?_)
        · skip
          refine g_lconst (v := 0) E dL_kept_167 (by decide) ?_
          refine g_topL (y := if decide (nI (sN (aS A) 0) < sI (aS A) 2 kp) = true then 1 else 0) ((if_neg (fun q => gCmp_ge c174 (gLt64.mpr (of_decide_eq_true q)))).symm) ?_
          refine g_lv [3, 4, 5, 6, 7, 2, 1, 0, 8, 9] rfl ?_
          exact cut152 uq173 (csp + 4) (ssp + 24) hCq173 (by omega) (by omega)
        · skip
          refine g_lconst (v := 1) E dL_kept_163 (by decide) ?_
          refine g_goto (tgt := 168) E dL_kept_164 (by decide) ?_
          refine g_topL (y := if decide (nI (sN (aS A) 0) < sI (aS A) 2 kp) = true then 1 else 0) ((if_pos (decide_eq_true (gLt64.mp (gCmp_lt.mp (Int32.not_le.mp c174))))).symm) ?_
          refine g_lv [3, 4, 5, 6, 7, 2, 1, 0, 8, 9] rfl ?_
          exact cut152 uq173 (csp + 4) (ssp + 24) hCq173 (by omega) (by omega)
  refine g_lv [9, 8, 7, 6, 5, 4, 3, 2, 1, 0] rfl ?_
  exact loop11 _ 0 uq10 8 48 (Nat.zero_le _) hCq10 (by omega) (by omega) (Nat.lt_succ_self _)
