set_option maxHeartbeats 4000000 in
set_option maxRecDepth 100000 in
theorem mL_follows {G : gG} {b : Nat} (hST : (gl G).stackTraces = false) (hb : b ≤ 9000) {x : gVa} {u : gVu} {A : gA} (hA : gAok b A) (hX : gX5 A) (hC : gClsI A u) (z : Nat) (hz : z < 2147483648) : CI G yL_follows wsL_follows 9 236 [.ref (x.1 0), .int (nI z)] (wV G x u) (fun (r : Int32) (w : gVu) => r = 1 ∧ gClsI (gFol A) w) (fun w : gVu => wV G x w) 20000 120000 := by
  refine g_enterI (ty := .boolean) RL rfl (by decide) rfl (Nat.le_of_ble_eq_true rfl) ?_
  intro V E RET
  have hb5 : b ≤ 50000 := by omega
  have h8 : sN (aS A) 1 ≤ 8 := hA.2.1.1.1.1.1
  have hn24 : (sB (aS A)).length ≤ 24 := hA.2.1.1.1.1.2.1
  have hT : sN (aS A) 0 ≤ b := hA.2.1.2.2
  have hD9 : sN (aS A) 0 ≤ 9000 := by omega
  have hng : gNg (aS A) := hA.2.1.1.2.1
  have hI2 : gI2 (aS A) := hA.2.1.1.1
  have hfi : ∀ k, k < (sB (aS A)).length → bk (sB (aS A)) k 1 < 8 ∧ bk (sB (aS A)) k 2 < 4 ∧ sN (aS A) 0 ≤ bk (sB (aS A)) k 0 ∧ (bk (sB (aS A)) k 0 ≤ 9999 ∨ bk (sB (aS A)) k 0 ≤ sN (aS A) 0 + 6) ∧ bk (sB (aS A)) k 5 < 60 ∧ bk (sB (aS A)) k 6 < 2 := hI2.2.2.1
  have hW10 : (sW (aS A)).length ≤ 10 := hI2.1.2.2.1
  obtain ⟨hap, hrk, hhr, nc, nf, nw, hn8, hn9, hnb, hnp, hns⟩ := hX.1
  obtain ⟨nd, hnd, hle⟩ := gCtr_days (1 + z % 20) hI2.1 (show gCtr (aS A) nc from hn8)
  have hcb : ∀ i, i < 4 → nc i ≤ 24 * b := fun i hi => by rcases (show i = 0 ∨ i = 1 ∨ i = 2 ∨ i = 3 by omega) with rfl | rfl | rfl | rfl <;> omega
  refine g_aload_n E dL_follows_0 rfl 0 rfl ?_
  refine g_callSL (As := [.ref (x.1 0)]) (F := []) E (mL_now (x := x) hST hb5 hA hX hC) gL_follows_L_now rfl hdL_now ⟨Nat.le_of_ble_eq_true rfl, Nat.le_of_ble_eq_true rfl⟩ gPerm_n rfl rfl ?_ dL_follows_1 ⟨by show 0 + 300 ≤ 20000; omega, by show 0 + 1800 ≤ 120000; omega⟩ (fun rq1 uq1 hq1 => ?_)
  · exact Nat.le_of_ble_eq_true rfl
  refine g_perm (ws1 := wV G x uq1) gPerm_n' ?_
  obtain ⟨eq1, hCq1⟩ := hq1
  refine g_topL (y := gNow (aS A)) (eq1) ?_
  refine g_lstore_n (lv' := [(2, .long (gNow (aS A))), (0, .ref (x.1 0)), (1, .int (nI z))]) E dL_follows_4 rfl (by decide) rfl ?_
  refine g_aload_n E dL_follows_5 rfl 1 rfl ?_
  refine g_iconst (v := 1) E dL_follows_6 (by decide) ?_
  refine g_callSWL (As := [.ref (x.1 0), .int 1]) (F := []) E (wL_about (x := x) hST hA hb5 hCq1 (1 : Int32)) gL_follows_L_about rfl hdL_about ⟨Nat.le_of_ble_eq_true rfl, Nat.le_of_ble_eq_true rfl⟩ gPerm_n rfl rfl ?_ dL_follows_7 ⟨by show 300 + 1 ≤ 20000; omega, by show 1800 + 6 ≤ 120000; omega⟩ (fun rq2 uq2 hq2 => ?_)
  · exact Nat.le_of_ble_eq_true rfl
  refine g_perm (ws1 := wV G x uq2) gPerm_n' ?_
  obtain ⟨eq2, hCq2⟩ := hq2
  rw [show fAbout A (1 : Int32) = _ from fAbout_1 (A := A)] at eq2 hCq2
  refine g_topL (y := (nI (sN (aS A) 0)).toInt64) (eq2.trans (gCd_a rfl)) ?_
  refine g_lstore (lv' := [(4, .long ((nI (sN (aS A) 0)).toInt64)), (2, .long (gNow (aS A))), (0, .ref (x.1 0)), (1, .int (nI z))]) E dL_follows_10 (by decide) rfl ?_
  refine g_aload_n E dL_follows_12 rfl 2 rfl ?_
  refine g_iconst (v := 0) E dL_follows_13 (by decide) ?_
  refine g_callSWL (As := [.ref (x.1 0), .int 0]) (F := []) E (wL_about (x := x) hST hA hb5 hCq2 (0 : Int32)) gL_follows_L_about rfl hdL_about ⟨Nat.le_of_ble_eq_true rfl, Nat.le_of_ble_eq_true rfl⟩ gPerm_n rfl rfl ?_ dL_follows_14 ⟨by show 301 + 1 ≤ 20000; omega, by show 1806 + 6 ≤ 120000; omega⟩ (fun rq3 uq3 hq3 => ?_)
  · exact Nat.le_of_ble_eq_true rfl
  refine g_perm (ws1 := wV G x uq3) gPerm_n' ?_
  obtain ⟨eq3, hCq3⟩ := hq3
  rw [show fAbout A (0 : Int32) = _ from fAbout_0 (A := A)] at eq3 hCq3
  refine g_topL (y := (nI (sN (aS A) 1)).toInt64) (eq3.trans (gCd_a rfl)) ?_
  refine g_l2i (v := nI (sN (aS A) 1)) E dL_follows_17 (gL2I _) ?_
  refine g_istore (lv' := [(6, .int (nI (sN (aS A) 1))), (4, .long ((nI (sN (aS A) 0)).toInt64)), (2, .long (gNow (aS A))), (0, .ref (x.1 0)), (1, .int (nI z))]) E dL_follows_18 (by decide) rfl ?_
  refine g_aload_n E dL_follows_20 rfl 3 rfl ?_
  refine g_iconst (v := 2) E dL_follows_21 (by decide) ?_
  refine g_callSWL (As := [.ref (x.1 0), .int 2]) (F := []) E (wL_about (x := x) hST hA hb5 hCq3 (2 : Int32)) gL_follows_L_about rfl hdL_about ⟨Nat.le_of_ble_eq_true rfl, Nat.le_of_ble_eq_true rfl⟩ gPerm_n rfl rfl ?_ dL_follows_22 ⟨by show 302 + 1 ≤ 20000; omega, by show 1812 + 6 ≤ 120000; omega⟩ (fun rq4 uq4 hq4 => ?_)
  · exact Nat.le_of_ble_eq_true rfl
  refine g_perm (ws1 := wV G x uq4) gPerm_n' ?_
  obtain ⟨eq4, hCq4⟩ := hq4
  rw [show fAbout A (2 : Int32) = _ from fAbout_2 (A := A)] at eq4 hCq4
  refine g_topL (y := (nI (sB (aS A)).length).toInt64) (eq4.trans (gCd_a rfl)) ?_
  refine g_l2i (v := nI ((sB (aS A)).length)) E dL_follows_25 (gL2I _) ?_
  refine g_istore (lv' := [(7, .int (nI ((sB (aS A)).length))), (6, .int (nI (sN (aS A) 1))), (4, .long ((nI (sN (aS A) 0)).toInt64)), (2, .long (gNow (aS A))), (0, .ref (x.1 0)), (1, .int (nI z))]) E dL_follows_26 (by decide) rfl ?_
  refine g_iconst (v := 1) E dL_follows_28 (by decide) ?_
  refine g_iload_n E dL_follows_29 rfl 5 rfl ?_
  refine g_bipush (v := 20) E dL_follows_30 (by decide) ?_
  refine g_iremN (a := z) (b := 20) E dL_follows_32 (by omega) (by omega) (by omega) ?_
  refine g_iaddN (a := 1) (b := z % 20) E dL_follows_33 ?_
  refine g_istore (lv' := [(8, .int (nI (1 + (z % 20)))), (7, .int (nI ((sB (aS A)).length))), (6, .int (nI (sN (aS A) 1))), (4, .long ((nI (sN (aS A) 0)).toInt64)), (2, .long (gNow (aS A))), (0, .ref (x.1 0)), (1, .int (nI z))]) E dL_follows_34 (by decide) rfl ?_
  refine g_aload_n E dL_follows_36 rfl 5 rfl ?_
  refine g_iconst (v := 4) E dL_follows_37 (by decide) ?_
  refine g_callSWL (As := [.ref (x.1 0), .int 4]) (F := []) E (wL_about (x := x) hST hA hb5 hCq4 (4 : Int32)) gL_follows_L_about rfl hdL_about ⟨Nat.le_of_ble_eq_true rfl, Nat.le_of_ble_eq_true rfl⟩ gPerm_n rfl rfl ?_ dL_follows_38 ⟨by show 303 + 1 ≤ 20000; omega, by show 1818 + 6 ≤ 120000; omega⟩ (fun rq5 uq5 hq5 => ?_)
  · exact Nat.le_of_ble_eq_true rfl
  refine g_perm (ws1 := wV G x uq5) gPerm_n' ?_
  obtain ⟨eq5, hCq5⟩ := hq5
  rw [show fAbout A (4 : Int32) = _ from fAb_4 (A := A) (by exact hn8 0 (by decide))] at eq5 hCq5
  refine g_topL (y := (nI (nc 0)).toInt64) (eq5.trans (gCd_a rfl)) ?_
  refine g_lstore (lv' := [(9, .long ((nI (nc 0)).toInt64)), (8, .int (nI (1 + (z % 20)))), (7, .int (nI ((sB (aS A)).length))), (6, .int (nI (sN (aS A) 1))), (4, .long ((nI (sN (aS A) 0)).toInt64)), (2, .long (gNow (aS A))), (0, .ref (x.1 0)), (1, .int (nI z))]) E dL_follows_41 (by decide) rfl ?_
  refine g_aload_n E dL_follows_43 rfl 6 rfl ?_
  refine g_iconst (v := 5) E dL_follows_44 (by decide) ?_
  refine g_callSWL (As := [.ref (x.1 0), .int 5]) (F := []) E (wL_about (x := x) hST hA hb5 hCq5 (5 : Int32)) gL_follows_L_about rfl hdL_about ⟨Nat.le_of_ble_eq_true rfl, Nat.le_of_ble_eq_true rfl⟩ gPerm_n rfl rfl ?_ dL_follows_45 ⟨by show 304 + 1 ≤ 20000; omega, by show 1824 + 6 ≤ 120000; omega⟩ (fun rq6 uq6 hq6 => ?_)
  · exact Nat.le_of_ble_eq_true rfl
  refine g_perm (ws1 := wV G x uq6) gPerm_n' ?_
  obtain ⟨eq6, hCq6⟩ := hq6
  rw [show fAbout A (5 : Int32) = _ from fAb_5 (A := A) (by exact hn8 1 (by decide))] at eq6 hCq6
  refine g_topL (y := (nI (nc 1)).toInt64) (eq6.trans (gCd_a rfl)) ?_
  refine g_lstore (lv' := [(11, .long ((nI (nc 1)).toInt64)), (9, .long ((nI (nc 0)).toInt64)), (8, .int (nI (1 + (z % 20)))), (7, .int (nI ((sB (aS A)).length))), (6, .int (nI (sN (aS A) 1))), (4, .long ((nI (sN (aS A) 0)).toInt64)), (2, .long (gNow (aS A))), (0, .ref (x.1 0)), (1, .int (nI z))]) E dL_follows_48 (by decide) rfl ?_
  refine g_aload_n E dL_follows_50 rfl 7 rfl ?_
  refine g_bipush (v := 6) E dL_follows_51 (by decide) ?_
  refine g_callSWL (As := [.ref (x.1 0), .int 6]) (F := []) E (wL_about (x := x) hST hA hb5 hCq6 (6 : Int32)) gL_follows_L_about rfl hdL_about ⟨Nat.le_of_ble_eq_true rfl, Nat.le_of_ble_eq_true rfl⟩ gPerm_n rfl rfl ?_ dL_follows_53 ⟨by show 305 + 1 ≤ 20000; omega, by show 1830 + 6 ≤ 120000; omega⟩ (fun rq7 uq7 hq7 => ?_)
  · exact Nat.le_of_ble_eq_true rfl
  refine g_perm (ws1 := wV G x uq7) gPerm_n' ?_
  obtain ⟨eq7, hCq7⟩ := hq7
  rw [show fAbout A (6 : Int32) = _ from fAb_6 (A := A) (by exact hn8 2 (by decide))] at eq7 hCq7
  refine g_topL (y := (nI (nc 2)).toInt64) (eq7.trans (gCd_a rfl)) ?_
  refine g_lstore (lv' := [(13, .long ((nI (nc 2)).toInt64)), (11, .long ((nI (nc 1)).toInt64)), (9, .long ((nI (nc 0)).toInt64)), (8, .int (nI (1 + (z % 20)))), (7, .int (nI ((sB (aS A)).length))), (6, .int (nI (sN (aS A) 1))), (4, .long ((nI (sN (aS A) 0)).toInt64)), (2, .long (gNow (aS A))), (0, .ref (x.1 0)), (1, .int (nI z))]) E dL_follows_56 (by decide) rfl ?_
  refine g_aload_n E dL_follows_58 rfl 8 rfl ?_
  refine g_bipush (v := 7) E dL_follows_59 (by decide) ?_
  refine g_callSWL (As := [.ref (x.1 0), .int 7]) (F := []) E (wL_about (x := x) hST hA hb5 hCq7 (7 : Int32)) gL_follows_L_about rfl hdL_about ⟨Nat.le_of_ble_eq_true rfl, Nat.le_of_ble_eq_true rfl⟩ gPerm_n rfl rfl ?_ dL_follows_61 ⟨by show 306 + 1 ≤ 20000; omega, by show 1836 + 6 ≤ 120000; omega⟩ (fun rq8 uq8 hq8 => ?_)
  · exact Nat.le_of_ble_eq_true rfl
  refine g_perm (ws1 := wV G x uq8) gPerm_n' ?_
  obtain ⟨eq8, hCq8⟩ := hq8
  rw [show fAbout A (7 : Int32) = _ from fAb_7 (A := A) (by exact hn8 3 (by decide))] at eq8 hCq8
  refine g_topL (y := (nI (nc 3)).toInt64) (eq8.trans (gCd_a rfl)) ?_
  refine g_lstore (lv' := [(15, .long ((nI (nc 3)).toInt64)), (13, .long ((nI (nc 2)).toInt64)), (11, .long ((nI (nc 1)).toInt64)), (9, .long ((nI (nc 0)).toInt64)), (8, .int (nI (1 + (z % 20)))), (7, .int (nI ((sB (aS A)).length))), (6, .int (nI (sN (aS A) 1))), (4, .long ((nI (sN (aS A) 0)).toInt64)), (2, .long (gNow (aS A))), (0, .ref (x.1 0)), (1, .int (nI z))]) E dL_follows_64 (by decide) rfl ?_
  refine g_aload_n E dL_follows_66 rfl 9 rfl ?_
  refine g_iconst (v := 1) E dL_follows_67 (by decide) ?_
  refine g_callSWL (As := [.ref (x.1 0), .int 1]) (F := []) E (wL_save (x := x) hST hA hb5 hCq8 (1 : Int32)) gL_follows_L_save rfl hdL_save ⟨Nat.le_of_ble_eq_true rfl, Nat.le_of_ble_eq_true rfl⟩ gPerm_n rfl rfl ?_ dL_follows_68 ⟨by show 307 + 1 ≤ 20000; omega, by show 1842 + 6 ≤ 120000; omega⟩ (fun rq9 uq9 hq9 => ?_)
  · exact Nat.le_of_ble_eq_true rfl
  refine g_perm (ws1 := wV G x uq9) gPerm_n' ?_
  obtain ⟨eq9, hCq9⟩ := hq9
  rw [show fSave A (1 : Int32) = _ from fSave_1 (A := A)] at eq9 hCq9
  refine g_topL (y := (nI (sN (aS A) 0)).toInt64) (eq9.trans (gCd_a rfl)) ?_
  refine g_lload E dL_follows_71 7 rfl ?_
  refine g_lcmp E dL_follows_73 ?_
  refine g_if_ne (tgt := 108) E dL_follows_74 (by decide) (fun c => absurd (gCmp_eq.mpr rfl) c) (fun _ => ?_)
  refine g_aload_n E dL_follows_77 rfl 9 rfl ?_
  refine g_iload_n E dL_follows_78 rfl 10 rfl ?_
  refine g_i2l (v := (nI z).toInt64) E dL_follows_79 rfl ?_
  refine g_iconst (v := 5) E dL_follows_80 (by decide) ?_
  refine g_callSWL (As := [.ref (x.1 0), .long ((nI z).toInt64), .int 5]) (F := []) E (wL_simulate (x := x) hST (gFw_0 hA hX).2.2.2.1 hb5 hCq9 ((nI z).toInt64) (5 : Int32)) gL_follows_L_simulate rfl hdL_simulate ⟨Nat.le_of_ble_eq_true rfl, Nat.le_of_ble_eq_true rfl⟩ gPerm_n rfl rfl ?_ dL_follows_81 ⟨by show 308 + 1 ≤ 20000; omega, by show 1848 + 6 ≤ 120000; omega⟩ (fun rq10 uq10 hq10 => ?_)
  · exact Nat.le_of_ble_eq_true rfl
  refine g_perm (ws1 := wV G x uq10) gPerm_n' ?_
  obtain ⟨eq10, hCq10⟩ := hq10
  rw [fSim_A] at hCq10
  refine g_aload_n E dL_follows_84 rfl 9 rfl ?_
  refine g_iload_n E dL_follows_85 rfl 10 rfl ?_
  refine g_i2l (v := (nI z).toInt64) E dL_follows_86 rfl ?_
  refine g_iconst (v := 5) E dL_follows_87 (by decide) ?_
  refine g_callSWL (As := [.ref (x.1 0), .long ((nI z).toInt64), .int 5]) (F := []) E (wL_simulate (x := x) hST (gFw_0 hA hX).2.2.2.1 hb5 hCq10 ((nI z).toInt64) (5 : Int32)) gL_follows_L_simulate rfl hdL_simulate ⟨Nat.le_of_ble_eq_true rfl, Nat.le_of_ble_eq_true rfl⟩ gPerm_n rfl rfl ?_ dL_follows_88 ⟨by show 309 + 1 ≤ 20000; omega, by show 1854 + 6 ≤ 120000; omega⟩ (fun rq11 uq11 hq11 => ?_)
  · exact Nat.le_of_ble_eq_true rfl
  refine g_perm (ws1 := wV G x uq11) gPerm_n' ?_
  obtain ⟨eq11, hCq11⟩ := hq11
  rw [fSim_A] at hCq11
  refine g_lcmp E dL_follows_91 ?_
  refine g_if_ne (tgt := 108) E dL_follows_92 (by decide) (fun c => absurd (gCmp_eq.mpr (eq10.trans eq11.symm)) c) (fun _ => ?_)
  refine g_aload_n E dL_follows_95 rfl 9 rfl ?_
  refine g_callSL (As := [.ref (x.1 0)]) (F := []) E (mL_now (x := x) hST hb5 (gFw_0 hA hX).2.2.2.1 (gFw_0 hA hX).2.2.2.2 hCq11) gL_follows_L_now rfl hdL_now ⟨Nat.le_of_ble_eq_true rfl, Nat.le_of_ble_eq_true rfl⟩ gPerm_n rfl rfl ?_ dL_follows_96 ⟨by show 310 + 300 ≤ 20000; omega, by show 1860 + 1800 ≤ 120000; omega⟩ (fun rq12 uq12 hq12 => ?_)
  · exact Nat.le_of_ble_eq_true rfl
  refine g_perm (ws1 := wV G x uq12) gPerm_n' ?_
  obtain ⟨eq12, hCq12⟩ := hq12
  refine g_topL (y := gNow (aS A)) (eq12.trans (congrArg gNow (gFw_0 hA hX).2.1)) ?_
  refine g_lload_n E dL_follows_99 rfl 8 rfl ?_
  refine g_lcmp E dL_follows_100 ?_
  refine g_if_ne (tgt := 108) E dL_follows_101 (by decide) (fun c => absurd (gCmp_eq.mpr rfl) c) (fun _ => ?_)
  refine g_iconst (v := 1) E dL_follows_104 (by decide) ?_
  refine g_goto (tgt := 109) E dL_follows_105 (by decide) ?_
  refine g_istore (lv' := [(17, .int 1), (15, .long ((nI (nc 3)).toInt64)), (13, .long ((nI (nc 2)).toInt64)), (11, .long ((nI (nc 1)).toInt64)), (9, .long ((nI (nc 0)).toInt64)), (8, .int (nI (1 + (z % 20)))), (7, .int (nI ((sB (aS A)).length))), (6, .int (nI (sN (aS A) 1))), (4, .long ((nI (sN (aS A) 0)).toInt64)), (2, .long (gNow (aS A))), (0, .ref (x.1 0)), (1, .int (nI z))]) E dL_follows_109 (by decide) rfl ?_
  refine g_aload_n E dL_follows_111 rfl 10 rfl ?_
  refine g_iload E dL_follows_112 5 rfl ?_
  refine g_iconst (v := 0) E dL_follows_114 (by decide) ?_
  refine g_callSWL (As := [.ref (x.1 0), .int (nI (1 + (z % 20))), .int 0]) (F := []) E (wL_coming (x := x) hST (gFw_0 hA hX).2.2.2.1 hb5 hCq12 (nI (1 + (z % 20))) (0 : Int32)) gL_follows_L_coming rfl hdL_coming ⟨Nat.le_of_ble_eq_true rfl, Nat.le_of_ble_eq_true rfl⟩ gPerm_n rfl rfl ?_ dL_follows_115 ⟨by show 610 + 1 ≤ 20000; omega, by show 3660 + 6 ≤ 120000; omega⟩ (fun rq13 uq13 hq13 => ?_)
  · exact Nat.le_of_ble_eq_true rfl
  refine g_perm (ws1 := wV G x uq13) gPerm_n' ?_
  obtain ⟨eq13, hCq13⟩ := hq13
  rw [show fComing (gSav A) (nI (1 + (z % 20))) (0 : Int32) = _ from fCom_in (A := gSav A) (n := (1 + z % 20)) (k := 0) (c := nc) (d := nd) (by omega) (by omega) (by decide) (by rw [(gFw_0 hA hX).2.1]; exact hn8) (by rw [(gFw_0 hA hX).2.1]; exact hnd) (hle 0 (by decide)).1] at eq13 hCq13
  refine g_topL (y := (nI (nd 0 - nc 0)).toInt64) (eq13.trans (gCd_a rfl)) ?_
  refine g_lstore (lv' := [(18, .long ((nI (nd 0 - nc 0)).toInt64)), (17, .int 1), (15, .long ((nI (nc 3)).toInt64)), (13, .long ((nI (nc 2)).toInt64)), (11, .long ((nI (nc 1)).toInt64)), (9, .long ((nI (nc 0)).toInt64)), (8, .int (nI (1 + (z % 20)))), (7, .int (nI ((sB (aS A)).length))), (6, .int (nI (sN (aS A) 1))), (4, .long ((nI (sN (aS A) 0)).toInt64)), (2, .long (gNow (aS A))), (0, .ref (x.1 0)), (1, .int (nI z))]) E dL_follows_118 (by decide) rfl ?_
  refine g_aload_n E dL_follows_120 rfl 11 rfl ?_
  refine g_iload E dL_follows_121 6 rfl ?_
  refine g_iconst (v := 1) E dL_follows_123 (by decide) ?_
  refine g_callSWL (As := [.ref (x.1 0), .int (nI (1 + (z % 20))), .int 1]) (F := []) E (wL_coming (x := x) hST (gFw_0 hA hX).2.2.2.1 hb5 hCq13 (nI (1 + (z % 20))) (1 : Int32)) gL_follows_L_coming rfl hdL_coming ⟨Nat.le_of_ble_eq_true rfl, Nat.le_of_ble_eq_true rfl⟩ gPerm_n rfl rfl ?_ dL_follows_124 ⟨by show 611 + 1 ≤ 20000; omega, by show 3666 + 6 ≤ 120000; omega⟩ (fun rq14 uq14 hq14 => ?_)
  · exact Nat.le_of_ble_eq_true rfl
  refine g_perm (ws1 := wV G x uq14) gPerm_n' ?_
  obtain ⟨eq14, hCq14⟩ := hq14
  rw [show fComing (gSav A) (nI (1 + (z % 20))) (1 : Int32) = _ from fCom_in (A := gSav A) (n := (1 + z % 20)) (k := 1) (c := nc) (d := nd) (by omega) (by omega) (by decide) (by rw [(gFw_0 hA hX).2.1]; exact hn8) (by rw [(gFw_0 hA hX).2.1]; exact hnd) (hle 1 (by decide)).1] at eq14 hCq14
  refine g_topL (y := (nI (nd 1 - nc 1)).toInt64) (eq14.trans (gCd_a rfl)) ?_
  refine g_lstore (lv' := [(20, .long ((nI (nd 1 - nc 1)).toInt64)), (18, .long ((nI (nd 0 - nc 0)).toInt64)), (17, .int 1), (15, .long ((nI (nc 3)).toInt64)), (13, .long ((nI (nc 2)).toInt64)), (11, .long ((nI (nc 1)).toInt64)), (9, .long ((nI (nc 0)).toInt64)), (8, .int (nI (1 + (z % 20)))), (7, .int (nI ((sB (aS A)).length))), (6, .int (nI (sN (aS A) 1))), (4, .long ((nI (sN (aS A) 0)).toInt64)), (2, .long (gNow (aS A))), (0, .ref (x.1 0)), (1, .int (nI z))]) E dL_follows_127 (by decide) rfl ?_
  refine g_aload_n E dL_follows_129 rfl 12 rfl ?_
  refine g_iload E dL_follows_130 7 rfl ?_
  refine g_iconst (v := 2) E dL_follows_132 (by decide) ?_
  refine g_callSWL (As := [.ref (x.1 0), .int (nI (1 + (z % 20))), .int 2]) (F := []) E (wL_coming (x := x) hST (gFw_0 hA hX).2.2.2.1 hb5 hCq14 (nI (1 + (z % 20))) (2 : Int32)) gL_follows_L_coming rfl hdL_coming ⟨Nat.le_of_ble_eq_true rfl, Nat.le_of_ble_eq_true rfl⟩ gPerm_n rfl rfl ?_ dL_follows_133 ⟨by show 612 + 1 ≤ 20000; omega, by show 3672 + 6 ≤ 120000; omega⟩ (fun rq15 uq15 hq15 => ?_)
  · exact Nat.le_of_ble_eq_true rfl
  refine g_perm (ws1 := wV G x uq15) gPerm_n' ?_
  obtain ⟨eq15, hCq15⟩ := hq15
  rw [show fComing (gSav A) (nI (1 + (z % 20))) (2 : Int32) = _ from fCom_in (A := gSav A) (n := (1 + z % 20)) (k := 2) (c := nc) (d := nd) (by omega) (by omega) (by decide) (by rw [(gFw_0 hA hX).2.1]; exact hn8) (by rw [(gFw_0 hA hX).2.1]; exact hnd) (hle 2 (by decide)).1] at eq15 hCq15
  refine g_topL (y := (nI (nd 2 - nc 2)).toInt64) (eq15.trans (gCd_a rfl)) ?_
  refine g_lstore (lv' := [(22, .long ((nI (nd 2 - nc 2)).toInt64)), (20, .long ((nI (nd 1 - nc 1)).toInt64)), (18, .long ((nI (nd 0 - nc 0)).toInt64)), (17, .int 1), (15, .long ((nI (nc 3)).toInt64)), (13, .long ((nI (nc 2)).toInt64)), (11, .long ((nI (nc 1)).toInt64)), (9, .long ((nI (nc 0)).toInt64)), (8, .int (nI (1 + (z % 20)))), (7, .int (nI ((sB (aS A)).length))), (6, .int (nI (sN (aS A) 1))), (4, .long ((nI (sN (aS A) 0)).toInt64)), (2, .long (gNow (aS A))), (0, .ref (x.1 0)), (1, .int (nI z))]) E dL_follows_136 (by decide) rfl ?_
  refine g_aload_n E dL_follows_138 rfl 13 rfl ?_
  refine g_iload E dL_follows_139 8 rfl ?_
  refine g_iconst (v := 3) E dL_follows_141 (by decide) ?_
  refine g_callSWL (As := [.ref (x.1 0), .int (nI (1 + (z % 20))), .int 3]) (F := []) E (wL_coming (x := x) hST (gFw_0 hA hX).2.2.2.1 hb5 hCq15 (nI (1 + (z % 20))) (3 : Int32)) gL_follows_L_coming rfl hdL_coming ⟨Nat.le_of_ble_eq_true rfl, Nat.le_of_ble_eq_true rfl⟩ gPerm_n rfl rfl ?_ dL_follows_142 ⟨by show 613 + 1 ≤ 20000; omega, by show 3678 + 6 ≤ 120000; omega⟩ (fun rq16 uq16 hq16 => ?_)
  · exact Nat.le_of_ble_eq_true rfl
  refine g_perm (ws1 := wV G x uq16) gPerm_n' ?_
  obtain ⟨eq16, hCq16⟩ := hq16
  rw [show fComing (gSav A) (nI (1 + (z % 20))) (3 : Int32) = _ from fCom_in (A := gSav A) (n := (1 + z % 20)) (k := 3) (c := nc) (d := nd) (by omega) (by omega) (by decide) (by rw [(gFw_0 hA hX).2.1]; exact hn8) (by rw [(gFw_0 hA hX).2.1]; exact hnd) (hle 3 (by decide)).1] at eq16 hCq16
  refine g_topL (y := (nI (nd 3 - nc 3)).toInt64) (eq16.trans (gCd_a rfl)) ?_
  refine g_lstore (lv' := [(24, .long ((nI (nd 3 - nc 3)).toInt64)), (22, .long ((nI (nd 2 - nc 2)).toInt64)), (20, .long ((nI (nd 1 - nc 1)).toInt64)), (18, .long ((nI (nd 0 - nc 0)).toInt64)), (17, .int 1), (15, .long ((nI (nc 3)).toInt64)), (13, .long ((nI (nc 2)).toInt64)), (11, .long ((nI (nc 1)).toInt64)), (9, .long ((nI (nc 0)).toInt64)), (8, .int (nI (1 + (z % 20)))), (7, .int (nI ((sB (aS A)).length))), (6, .int (nI (sN (aS A) 1))), (4, .long ((nI (sN (aS A) 0)).toInt64)), (2, .long (gNow (aS A))), (0, .ref (x.1 0)), (1, .int (nI z))]) E dL_follows_145 (by decide) rfl ?_
  refine g_aload_n E dL_follows_147 rfl 14 rfl ?_
  refine g_iload E dL_follows_148 9 rfl ?_
  refine g_iconst (v := 4) E dL_follows_150 (by decide) ?_
  refine g_callSWL (As := [.ref (x.1 0), .int (nI (1 + (z % 20))), .int 4]) (F := []) E (wL_coming (x := x) hST (gFw_0 hA hX).2.2.2.1 hb5 hCq16 (nI (1 + (z % 20))) (4 : Int32)) gL_follows_L_coming rfl hdL_coming ⟨Nat.le_of_ble_eq_true rfl, Nat.le_of_ble_eq_true rfl⟩ gPerm_n rfl rfl ?_ dL_follows_151 ⟨by show 614 + 1 ≤ 20000; omega, by show 3684 + 6 ≤ 120000; omega⟩ (fun rq17 uq17 hq17 => ?_)
  · exact Nat.le_of_ble_eq_true rfl
  refine g_perm (ws1 := wV G x uq17) gPerm_n' ?_
  obtain ⟨eq17, hCq17⟩ := hq17
  rw [show fComing (gSav A) (nI (1 + (z % 20))) (4 : Int32) = _ from (fCom_4 (A := gSav A) (n := (1 + z % 20)) (by omega) (by omega)).trans (by rw [(gFw_0 hA hX).2.1])] at eq17 hCq17
  refine g_topL (y := (nI (sW (gDays (1 + z % 20) (aS A))).length).toInt64) (eq17.trans (gCd_a rfl)) ?_
  refine g_lstore (lv' := [(26, .long ((nI (sW (gDays (1 + z % 20) (aS A))).length).toInt64)), (24, .long ((nI (nd 3 - nc 3)).toInt64)), (22, .long ((nI (nd 2 - nc 2)).toInt64)), (20, .long ((nI (nd 1 - nc 1)).toInt64)), (18, .long ((nI (nd 0 - nc 0)).toInt64)), (17, .int 1), (15, .long ((nI (nc 3)).toInt64)), (13, .long ((nI (nc 2)).toInt64)), (11, .long ((nI (nc 1)).toInt64)), (9, .long ((nI (nc 0)).toInt64)), (8, .int (nI (1 + (z % 20)))), (7, .int (nI ((sB (aS A)).length))), (6, .int (nI (sN (aS A) 1))), (4, .long ((nI (sN (aS A) 0)).toInt64)), (2, .long (gNow (aS A))), (0, .ref (x.1 0)), (1, .int (nI z))]) E dL_follows_154 (by decide) rfl ?_
  refine g_iload E dL_follows_156 5 rfl ?_
  refine g_if_eq (tgt := 279) E dL_follows_158 (by decide) (fun c => absurd c (by decide)) (fun _ => ?_)
  refine g_aload_n E dL_follows_161 rfl 15 rfl ?_
  refine g_iload E dL_follows_162 10 rfl ?_
  refine g_callSWL (As := [.ref (x.1 0), .int (nI (1 + (z % 20)))]) (F := []) E (wL_run (x := x) hST (gFw_0 hA hX).2.2.2.1 hb5 hCq17 (nI (1 + (z % 20)))) gL_follows_L_run rfl hdL_run ⟨Nat.le_of_ble_eq_true rfl, Nat.le_of_ble_eq_true rfl⟩ gPerm_n rfl rfl ?_ dL_follows_164 ⟨by show 615 + 1 ≤ 20000; omega, by show 3690 + 6 ≤ 120000; omega⟩ (fun rq18 uq18 hq18 => ?_)
  · exact Nat.le_of_ble_eq_true rfl
  refine g_perm (ws1 := wV G x uq18) gPerm_n' ?_
  obtain ⟨eq18, hCq18⟩ := hq18
  rw [show fRun (gSav A) (nI (1 + (z % 20))) = _ from fRun_in (A := gSav A) (n := (1 + z % 20)) (c := nc) (d := nd) (by omega) (by omega) (by rw [(gFw_0 hA hX).2.1]; exact hn8) (by rw [(gFw_0 hA hX).2.1]; exact hnd) (hle 0 (by decide)).1 (by have := (hle 0 (by decide)).2; omega)] at eq18 hCq18
  refine g_topL (y := (nI (nd 0 - nc 0)).toInt64) (eq18.trans (gCd_a rfl)) ?_
  have hDq19 : aS (aRem (gSav A) (gDays (1 + z % 20) (aS (gSav A)))) = gDays (1 + z % 20) (aS A) := (by show gDays (1 + z % 20) (aS (gSav A)) = _; rw [(gFw_0 hA hX).2.1])
  refine g_lload E dL_follows_167 4 rfl ?_
  refine g_lcmp E dL_follows_169 ?_
  refine g_if_ne (tgt := 279) E dL_follows_170 (by decide) (fun c => absurd (gCmp_eq.mpr rfl) c) (fun _ => ?_)
  refine g_aload_n E dL_follows_173 rfl 15 rfl ?_
  refine g_iconst (v := 1) E dL_follows_174 (by decide) ?_
  refine g_callSWL (As := [.ref (x.1 0), .int 1]) (F := []) E (wL_about (x := x) hST (gAok_dy (gFw_0 hA hX).2.2.2.1 (n := (1 + z % 20)) (by omega) hb) (show b + 30 ≤ 50000 by omega) hCq18 (1 : Int32)) gL_follows_L_about rfl hdL_about ⟨Nat.le_of_ble_eq_true rfl, Nat.le_of_ble_eq_true rfl⟩ gPerm_n rfl rfl ?_ dL_follows_175 ⟨by show 616 + 1 ≤ 20000; omega, by show 3696 + 6 ≤ 120000; omega⟩ (fun rq20 uq20 hq20 => ?_)
  · exact Nat.le_of_ble_eq_true rfl
  refine g_perm (ws1 := wV G x uq20) gPerm_n' ?_
  obtain ⟨eq20, hCq20⟩ := hq20
  rw [show fAbout (aRem (gSav A) (gDays (1 + z % 20) (aS (gSav A)))) (1 : Int32) = _ from qd_1 hDq19] at eq20 hCq20
  refine g_topL (y := (nI (sN (aS A) 0 + (1 + z % 20))).toInt64) (eq20.trans (gCd_a rfl)) ?_
  refine g_lload E dL_follows_178 13 rfl ?_
  refine g_iload E dL_follows_180 10 rfl ?_
  refine g_i2l (v := (nI (1 + (z % 20))).toInt64) E dL_follows_182 rfl ?_
  refine g_ladd E dL_follows_183 ?_
  refine g_lcmp E dL_follows_184 ?_
  refine g_if_ne (tgt := 279) E dL_follows_185 (by decide) (fun c => absurd (gCmp_eq.mpr (add64 rfl (by omega))) c) (fun _ => ?_)
  refine g_aload_n E dL_follows_188 rfl 15 rfl ?_
  refine g_iconst (v := 4) E dL_follows_189 (by decide) ?_
  refine g_callSWL (As := [.ref (x.1 0), .int 4]) (F := []) E (wL_about (x := x) hST (gAok_dy (gFw_0 hA hX).2.2.2.1 (n := (1 + z % 20)) (by omega) hb) (show b + 30 ≤ 50000 by omega) hCq20 (4 : Int32)) gL_follows_L_about rfl hdL_about ⟨Nat.le_of_ble_eq_true rfl, Nat.le_of_ble_eq_true rfl⟩ gPerm_n rfl rfl ?_ dL_follows_190 ⟨by show 617 + 1 ≤ 20000; omega, by show 3702 + 6 ≤ 120000; omega⟩ (fun rq21 uq21 hq21 => ?_)
  · exact Nat.le_of_ble_eq_true rfl
  refine g_perm (ws1 := wV G x uq21) gPerm_n' ?_
  obtain ⟨eq21, hCq21⟩ := hq21
  rw [show fAbout (aRem (gSav A) (gDays (1 + z % 20) (aS (gSav A)))) (4 : Int32) = _ from fAb_4 (A := aRem (gSav A) (gDays (1 + z % 20) (aS (gSav A)))) (by rw [hDq19]; exact hnd 0 (by decide))] at eq21 hCq21
  refine g_topL (y := (nI (nd 0)).toInt64) (eq21.trans (gCd_a rfl)) ?_
  refine g_lload E dL_follows_193 9 rfl ?_
  refine g_lload E dL_follows_195 4 rfl ?_
  refine g_ladd E dL_follows_197 ?_
  refine g_lcmp E dL_follows_198 ?_
  refine g_if_ne (tgt := 279) E dL_follows_199 (by decide) (fun c => absurd (gCmp_eq.mpr (add64 (by have := (hle 0 (by decide)).1; omega) (by have := (hle 0 (by decide)).2; have := hcb 0 (by decide); omega))) c) (fun _ => ?_)
  refine g_aload_n E dL_follows_202 rfl 15 rfl ?_
  refine g_iconst (v := 5) E dL_follows_203 (by decide) ?_
  refine g_callSWL (As := [.ref (x.1 0), .int 5]) (F := []) E (wL_about (x := x) hST (gAok_dy (gFw_0 hA hX).2.2.2.1 (n := (1 + z % 20)) (by omega) hb) (show b + 30 ≤ 50000 by omega) hCq21 (5 : Int32)) gL_follows_L_about rfl hdL_about ⟨Nat.le_of_ble_eq_true rfl, Nat.le_of_ble_eq_true rfl⟩ gPerm_n rfl rfl ?_ dL_follows_204 ⟨by show 618 + 1 ≤ 20000; omega, by show 3708 + 6 ≤ 120000; omega⟩ (fun rq22 uq22 hq22 => ?_)
  · exact Nat.le_of_ble_eq_true rfl
  refine g_perm (ws1 := wV G x uq22) gPerm_n' ?_
  obtain ⟨eq22, hCq22⟩ := hq22
  rw [show fAbout (aRem (gSav A) (gDays (1 + z % 20) (aS (gSav A)))) (5 : Int32) = _ from fAb_5 (A := aRem (gSav A) (gDays (1 + z % 20) (aS (gSav A)))) (by rw [hDq19]; exact hnd 1 (by decide))] at eq22 hCq22
  refine g_topL (y := (nI (nd 1)).toInt64) (eq22.trans (gCd_a rfl)) ?_
  refine g_lload E dL_follows_207 8 rfl ?_
  refine g_lload E dL_follows_209 3 rfl ?_
  refine g_ladd E dL_follows_211 ?_
  refine g_lcmp E dL_follows_212 ?_
  refine g_if_ne (tgt := 279) E dL_follows_213 (by decide) (fun c => absurd (gCmp_eq.mpr (add64 (by have := (hle 1 (by decide)).1; omega) (by have := (hle 1 (by decide)).2; have := hcb 1 (by decide); omega))) c) (fun _ => ?_)
  refine g_aload_n E dL_follows_216 rfl 15 rfl ?_
  refine g_bipush (v := 6) E dL_follows_217 (by decide) ?_
  refine g_callSWL (As := [.ref (x.1 0), .int 6]) (F := []) E (wL_about (x := x) hST (gAok_dy (gFw_0 hA hX).2.2.2.1 (n := (1 + z % 20)) (by omega) hb) (show b + 30 ≤ 50000 by omega) hCq22 (6 : Int32)) gL_follows_L_about rfl hdL_about ⟨Nat.le_of_ble_eq_true rfl, Nat.le_of_ble_eq_true rfl⟩ gPerm_n rfl rfl ?_ dL_follows_219 ⟨by show 619 + 1 ≤ 20000; omega, by show 3714 + 6 ≤ 120000; omega⟩ (fun rq23 uq23 hq23 => ?_)
  · exact Nat.le_of_ble_eq_true rfl
  refine g_perm (ws1 := wV G x uq23) gPerm_n' ?_
  obtain ⟨eq23, hCq23⟩ := hq23
  rw [show fAbout (aRem (gSav A) (gDays (1 + z % 20) (aS (gSav A)))) (6 : Int32) = _ from fAb_6 (A := aRem (gSav A) (gDays (1 + z % 20) (aS (gSav A)))) (by rw [hDq19]; exact hnd 2 (by decide))] at eq23 hCq23
  refine g_topL (y := (nI (nd 2)).toInt64) (eq23.trans (gCd_a rfl)) ?_
  refine g_lload E dL_follows_222 7 rfl ?_
  refine g_lload E dL_follows_224 2 rfl ?_
  refine g_ladd E dL_follows_226 ?_
  refine g_lcmp E dL_follows_227 ?_
  refine g_if_ne (tgt := 279) E dL_follows_228 (by decide) (fun c => absurd (gCmp_eq.mpr (add64 (by have := (hle 2 (by decide)).1; omega) (by have := (hle 2 (by decide)).2; have := hcb 2 (by decide); omega))) c) (fun _ => ?_)
  refine g_aload_n E dL_follows_231 rfl 15 rfl ?_
  refine g_bipush (v := 7) E dL_follows_232 (by decide) ?_
  refine g_callSWL (As := [.ref (x.1 0), .int 7]) (F := []) E (wL_about (x := x) hST (gAok_dy (gFw_0 hA hX).2.2.2.1 (n := (1 + z % 20)) (by omega) hb) (show b + 30 ≤ 50000 by omega) hCq23 (7 : Int32)) gL_follows_L_about rfl hdL_about ⟨Nat.le_of_ble_eq_true rfl, Nat.le_of_ble_eq_true rfl⟩ gPerm_n rfl rfl ?_ dL_follows_234 ⟨by show 620 + 1 ≤ 20000; omega, by show 3720 + 6 ≤ 120000; omega⟩ (fun rq24 uq24 hq24 => ?_)
  · exact Nat.le_of_ble_eq_true rfl
  refine g_perm (ws1 := wV G x uq24) gPerm_n' ?_
  obtain ⟨eq24, hCq24⟩ := hq24
  rw [show fAbout (aRem (gSav A) (gDays (1 + z % 20) (aS (gSav A)))) (7 : Int32) = _ from fAb_7 (A := aRem (gSav A) (gDays (1 + z % 20) (aS (gSav A)))) (by rw [hDq19]; exact hnd 3 (by decide))] at eq24 hCq24
  refine g_topL (y := (nI (nd 3)).toInt64) (eq24.trans (gCd_a rfl)) ?_
  refine g_lload E dL_follows_237 6 rfl ?_
  refine g_lload E dL_follows_239 1 rfl ?_
  refine g_ladd E dL_follows_241 ?_
  refine g_lcmp E dL_follows_242 ?_
  refine g_if_ne (tgt := 279) E dL_follows_243 (by decide) (fun c => absurd (gCmp_eq.mpr (add64 (by have := (hle 3 (by decide)).1; omega) (by have := (hle 3 (by decide)).2; have := hcb 3 (by decide); omega))) c) (fun _ => ?_)
  refine g_aload_n E dL_follows_246 rfl 15 rfl ?_
  refine g_iconst (v := 3) E dL_follows_247 (by decide) ?_
  refine g_callSWL (As := [.ref (x.1 0), .int 3]) (F := []) E (wL_about (x := x) hST (gAok_dy (gFw_0 hA hX).2.2.2.1 (n := (1 + z % 20)) (by omega) hb) (show b + 30 ≤ 50000 by omega) hCq24 (3 : Int32)) gL_follows_L_about rfl hdL_about ⟨Nat.le_of_ble_eq_true rfl, Nat.le_of_ble_eq_true rfl⟩ gPerm_n rfl rfl ?_ dL_follows_248 ⟨by show 621 + 1 ≤ 20000; omega, by show 3726 + 6 ≤ 120000; omega⟩ (fun rq25 uq25 hq25 => ?_)
  · exact Nat.le_of_ble_eq_true rfl
  refine g_perm (ws1 := wV G x uq25) gPerm_n' ?_
  obtain ⟨eq25, hCq25⟩ := hq25
  rw [show fAbout (aRem (gSav A) (gDays (1 + z % 20) (aS (gSav A)))) (3 : Int32) = _ from qd_3 hDq19] at eq25 hCq25
  refine g_topL (y := (nI (sW (gDays (1 + z % 20) (aS A))).length).toInt64) (eq25.trans (gCd_a rfl)) ?_
  refine g_lload E dL_follows_251 0 rfl ?_
  refine g_lcmp E dL_follows_253 ?_
  refine g_if_ne (tgt := 279) E dL_follows_254 (by decide) (fun c => absurd (gCmp_eq.mpr rfl) c) (fun _ => ?_)
  refine g_aload_n E dL_follows_257 rfl 15 rfl ?_
  refine g_callSWL (As := [.ref (x.1 0)]) (F := []) E (wL_undo (x := x) hST (gAok_dy (gFw_0 hA hX).2.2.2.1 (n := (1 + z % 20)) (by omega) hb) (show b + 30 ≤ 50000 by omega) hCq25 ) gL_follows_L_undo rfl hdL_undo ⟨Nat.le_of_ble_eq_true rfl, Nat.le_of_ble_eq_true rfl⟩ gPerm_n rfl rfl ?_ dL_follows_258 ⟨by show 622 + 1 ≤ 20000; omega, by show 3732 + 6 ≤ 120000; omega⟩ (fun rq26 uq26 hq26 => ?_)
  · exact Nat.le_of_ble_eq_true rfl
  refine g_perm (ws1 := wV G x uq26) gPerm_n' ?_
  obtain ⟨eq26, hCq26⟩ := hq26
  rw [show fUndo (aRem (gSav A) (gDays (1 + z % 20) (aS (gSav A)))) = _ from fUndo_rem (A := gSav A)] at eq26 hCq26
  refine g_topL (y := (nI (gHc (aC (gSav A)) - 1)).toInt64) (eq26.trans (gCd_a rfl)) ?_
  have hFq27 : gFw b A (gUnd (gSav A)) := gFw_und (gFw_0 hA hX)
  refine g_lconst (v := 0) E dL_follows_261 (by decide) ?_
  refine g_lcmp E dL_follows_262 ?_
  refine g_if_lt (tgt := 279) E dL_follows_263 (by decide) (fun c => absurd c (gNn0 (gAok_hc (gFw_0 hA hX).2.2.2.1))) (fun _ => ?_)
  refine g_aload_n E dL_follows_266 rfl 15 rfl ?_
  refine g_callSL (As := [.ref (x.1 0)]) (F := []) E (mL_now (x := x) hST hb5 hFq27.2.2.2.1 hFq27.2.2.2.2 hCq26) gL_follows_L_now rfl hdL_now ⟨Nat.le_of_ble_eq_true rfl, Nat.le_of_ble_eq_true rfl⟩ gPerm_n rfl rfl ?_ dL_follows_267 ⟨by show 623 + 300 ≤ 20000; omega, by show 3738 + 1800 ≤ 120000; omega⟩ (fun rq28 uq28 hq28 => ?_)
  · exact Nat.le_of_ble_eq_true rfl
  refine g_perm (ws1 := wV G x uq28) gPerm_n' ?_
  obtain ⟨eq28, hCq28⟩ := hq28
  refine g_topL (y := gNow (aS A)) (eq28.trans (congrArg gNow hFq27.2.1)) ?_
  refine g_lload_n E dL_follows_270 rfl 14 rfl ?_
  refine g_lcmp E dL_follows_271 ?_
  refine g_if_ne (tgt := 279) E dL_follows_272 (by decide) (fun c => absurd (gCmp_eq.mpr rfl) c) (fun _ => ?_)
  refine g_iconst (v := 1) E dL_follows_275 (by decide) ?_
  refine g_goto (tgt := 280) E dL_follows_276 (by decide) ?_
  refine g_istore (lv' := [(17, .int 1), (26, .long ((nI (sW (gDays (1 + z % 20) (aS A))).length).toInt64)), (24, .long ((nI (nd 3 - nc 3)).toInt64)), (22, .long ((nI (nd 2 - nc 2)).toInt64)), (20, .long ((nI (nd 1 - nc 1)).toInt64)), (18, .long ((nI (nd 0 - nc 0)).toInt64)), (15, .long ((nI (nc 3)).toInt64)), (13, .long ((nI (nc 2)).toInt64)), (11, .long ((nI (nc 1)).toInt64)), (9, .long ((nI (nc 0)).toInt64)), (8, .int (nI (1 + (z % 20)))), (7, .int (nI ((sB (aS A)).length))), (6, .int (nI (sN (aS A) 1))), (4, .long ((nI (sN (aS A) 0)).toInt64)), (2, .long (gNow (aS A))), (0, .ref (x.1 0)), (1, .int (nI z))]) E dL_follows_280 (by decide) rfl ?_
  refine g_iload E dL_follows_282 0 rfl ?_
  refine g_if_eq (tgt := 389) E dL_follows_284 (by decide) (fun c => absurd c (by decide)) (fun _ => ?_)
  have cut29 : ∀ (uj : gVu) (csj : Nat) (ssj : Nat), (gClsI (gUnd (gSav A)) uj) → (csj ≤ 923 + 70) → (ssj ≤ 5538 + 400) → gW V 38 csj ssj (wV G x uj) [(0, .ref (x.1 0)), (1, .int (nI z)), (2, .long (gNow (aS A))), (4, .long ((nI (sN (aS A) 0)).toInt64)), (6, .int (nI (sN (aS A) 1))), (7, .int (nI ((sB (aS A)).length))), (8, .int (nI (1 + (z % 20)))), (9, .long ((nI (nc 0)).toInt64)), (11, .long ((nI (nc 1)).toInt64)), (13, .long ((nI (nc 2)).toInt64)), (15, .long ((nI (nc 3)).toInt64)), (17, .int 1), (18, .long ((nI (nd 0 - nc 0)).toInt64)), (20, .long ((nI (nd 1 - nc 1)).toInt64)), (22, .long ((nI (nd 2 - nc 2)).toInt64)), (24, .long ((nI (nd 3 - nc 3)).toInt64)), (26, .long ((nI (sW (gDays (1 + z % 20) (aS A))).length).toInt64))] 389 [] := by
    intro uj csj ssj hCj hcj hsj
    refine g_iconst (v := 0) E dL_follows_389 (by decide) ?_
    refine g_istore (lv' := [(28, .int 0), (0, .ref (x.1 0)), (1, .int (nI z)), (2, .long (gNow (aS A))), (4, .long ((nI (sN (aS A) 0)).toInt64)), (6, .int (nI (sN (aS A) 1))), (7, .int (nI ((sB (aS A)).length))), (8, .int (nI (1 + (z % 20)))), (9, .long ((nI (nc 0)).toInt64)), (11, .long ((nI (nc 1)).toInt64)), (13, .long ((nI (nc 2)).toInt64)), (15, .long ((nI (nc 3)).toInt64)), (17, .int 1), (18, .long ((nI (nd 0 - nc 0)).toInt64)), (20, .long ((nI (nd 1 - nc 1)).toInt64)), (22, .long ((nI (nd 2 - nc 2)).toInt64)), (24, .long ((nI (nd 3 - nc 3)).toInt64)), (26, .long ((nI (sW (gDays (1 + z % 20) (aS A))).length).toInt64))]) E dL_follows_390 (by decide) rfl ?_
    have loop30 : ∀ (n31 : Nat) (kp : Nat) (Bp : gA) (up : gVu) (csp : Nat) (ssp : Nat), (kp ≤ sN (aS A) 1) → (gFw b A Bp) → (gClsI Bp up) → (csp ≤ csj + 650 * kp) → (ssp ≤ ssj + 3900 * kp) → sN (aS A) 1 - kp < n31 → gW V 38 csp ssp (wV G x up) [(0, .ref (x.1 0)), (1, .int (nI z)), (2, .long (gNow (aS A))), (4, .long ((nI (sN (aS A) 0)).toInt64)), (6, .int (nI (sN (aS A) 1))), (7, .int (nI ((sB (aS A)).length))), (8, .int (nI (1 + (z % 20)))), (9, .long ((nI (nc 0)).toInt64)), (11, .long ((nI (nc 1)).toInt64)), (13, .long ((nI (nc 2)).toInt64)), (15, .long ((nI (nc 3)).toInt64)), (17, .int 1), (18, .long ((nI (nd 0 - nc 0)).toInt64)), (20, .long ((nI (nd 1 - nc 1)).toInt64)), (22, .long ((nI (nd 2 - nc 2)).toInt64)), (24, .long ((nI (nd 3 - nc 3)).toInt64)), (26, .long ((nI (sW (gDays (1 + z % 20) (aS A))).length).toInt64)), (28, .int (nI kp))] 392 [] := by
      intro n31
      induction n31 with
      | zero => intro kp Bp up csp ssp hkp hFp hCp hcp hsp hm33; exact absurd hm33 (Nat.not_lt_zero _)
      | succ n31 ih32 =>
        intro kp Bp up csp ssp hkp hFp hCp hcp hsp hm33
        refine g_iload E dL_follows_392 17 rfl ?_
        refine g_iload E dL_follows_394 4 rfl ?_
        refine g_icmp_geN (tgt := 856) (a := kp) (b := sN (aS A) 1) E dL_follows_396 (by decide) (by omega) (by omega) (fun c34 => ?_) (fun c34 => ?_)
        · skip
          obtain rfl : kp = sN (aS A) 1 := by omega
          have cut35 : ∀ (Be : gA) (ue : gVu) (cse : Nat) (sse : Nat), (gFw b A Be) → (gClsI Be ue) → (cse ≤ csp + 650) → (sse ≤ ssp + 3900) → gW V 38 cse sse (wV G x ue) [(0, .ref (x.1 0)), (1, .int (nI z)), (2, .long (gNow (aS A))), (4, .long ((nI (sN (aS A) 0)).toInt64)), (6, .int (nI (sN (aS A) 1))), (7, .int (nI ((sB (aS A)).length))), (8, .int (nI (1 + (z % 20)))), (9, .long ((nI (nc 0)).toInt64)), (11, .long ((nI (nc 1)).toInt64)), (13, .long ((nI (nc 2)).toInt64)), (15, .long ((nI (nc 3)).toInt64)), (17, .int 1), (18, .long ((nI (nd 0 - nc 0)).toInt64)), (20, .long ((nI (nd 1 - nc 1)).toInt64)), (22, .long ((nI (nd 2 - nc 2)).toInt64)), (24, .long ((nI (nd 3 - nc 3)).toInt64)), (26, .long ((nI (sW (gDays (1 + z % 20) (aS A))).length).toInt64))] 970 [] := by
            intro Be ue cse sse hFe hCe hce hse
            refine g_iload E dL_follows_970 11 rfl ?_
            refine g_if_eq (tgt := 1010) E dL_follows_972 (by decide) (fun c => absurd c (by decide)) (fun _ => ?_)
            refine g_aload_n E dL_follows_975 rfl 0 rfl ?_
            refine g_iconst (v := 1) E dL_follows_976 (by decide) ?_
            refine g_callSWL (As := [.ref (x.1 0), .int 1]) (F := []) E (wL_restore (x := x) hST hFe.2.2.2.1 hb5 hCe (1 : Int32)) gL_follows_L_restore rfl hdL_restore ⟨Nat.le_of_ble_eq_true rfl, Nat.le_of_ble_eq_true rfl⟩ gPerm_n rfl rfl ?_ dL_follows_977 ⟨by show cse + 1 ≤ 20000; omega, by show sse + 6 ≤ 120000; omega⟩ (fun rq36 uq36 hq36 => ?_)
            · exact Nat.le_of_ble_eq_true rfl
            refine g_perm (ws1 := wV G x uq36) gPerm_n' ?_
            obtain ⟨eq36, hCq36⟩ := hq36
            rw [show fRest Be (1 : Int32) = _ from fRest_w hFe] at eq36 hCq36
            refine g_topL (y := (nI (sN (aS A) 0)).toInt64) (eq36.trans (gCd_a rfl)) ?_
            have hAq37 : gAok b ((A.1, aS A, (0, aH Be), aL (gSav A)) : gA) := (by have q := gAok_rest hFe.2.2.2.1 (1 : Int32); rw [fRest_w hFe] at q; exact q)
            have hXq37 : gX5 ((A.1, aS A, (0, aH Be), aL (gSav A)) : gA) := (by have q := gX5_rest hFe.2.2.2.2 (1 : Int32); rw [fRest_w hFe] at q; exact q)
            refine g_lload E dL_follows_980 3 rfl ?_
            refine g_lcmp E dL_follows_982 ?_
            refine g_if_ne (tgt := 1010) E dL_follows_983 (by decide) (fun c => absurd (gCmp_eq.mpr rfl) c) (fun _ => ?_)
            refine g_aload_n E dL_follows_986 rfl 0 rfl ?_
            refine g_callSL (As := [.ref (x.1 0)]) (F := []) E (mL_now (x := x) hST hb5 hAq37 hXq37 hCq36) gL_follows_L_now rfl hdL_now ⟨Nat.le_of_ble_eq_true rfl, Nat.le_of_ble_eq_true rfl⟩ gPerm_n rfl rfl ?_ dL_follows_987 ⟨by show (cse + 1) + 300 ≤ 20000; omega, by show (sse + 6) + 1800 ≤ 120000; omega⟩ (fun rq38 uq38 hq38 => ?_)
            · exact Nat.le_of_ble_eq_true rfl
            refine g_perm (ws1 := wV G x uq38) gPerm_n' ?_
            obtain ⟨eq38, hCq38⟩ := hq38
            refine g_topL (y := gNow (aS A)) (eq38.trans (congrArg gNow (show aS ((A.1, aS A, (0, aH Be), aL (gSav A)) : gA) = aS A from rfl))) ?_
            refine g_lload_n E dL_follows_990 rfl 2 rfl ?_
            refine g_lcmp E dL_follows_991 ?_
            refine g_if_ne (tgt := 1010) E dL_follows_992 (by decide) (fun c => absurd (gCmp_eq.mpr rfl) c) (fun _ => ?_)
            refine g_aload_n E dL_follows_995 rfl 0 rfl ?_
            refine g_callSWL (As := [.ref (x.1 0)]) (F := []) E (wL_undo (x := x) hST hAq37 hb5 hCq38 ) gL_follows_L_undo rfl hdL_undo ⟨Nat.le_of_ble_eq_true rfl, Nat.le_of_ble_eq_true rfl⟩ gPerm_n rfl rfl ?_ dL_follows_996 ⟨by show (cse + 301) + 1 ≤ 20000; omega, by show (sse + 1806) + 6 ≤ 120000; omega⟩ (fun rq39 uq39 hq39 => ?_)
            · exact Nat.le_of_ble_eq_true rfl
            refine g_perm (ws1 := wV G x uq39) gPerm_n' ?_
            obtain ⟨eq39, hCq39⟩ := hq39
            rw [show fUndo ((A.1, aS A, (0, aH Be), aL (gSav A)) : gA) = _ from fUndo_0 rfl] at eq39 hCq39
            refine g_topL (y := (-9000000000000000003)) (eq39.trans (gCd_k rfl rfl)) ?_
            refine g_ldc2 (v := -9000000000000000003) E kL_follows_21 dL_follows_999 ?_
            refine g_lcmp E dL_follows_1002 ?_
            refine g_if_ne (tgt := 1010) E dL_follows_1003 (by decide) (fun c => absurd (gCmp_eq.mpr rfl) c) (fun _ => ?_)
            refine g_iconst (v := 1) E dL_follows_1006 (by decide) ?_
            refine g_goto (tgt := 1011) E dL_follows_1007 (by decide) ?_
            refine g_widen (k := 20000) (n := 120000) (by omega) (by omega) ?_
            exact RET _ _ _ uq39 (⟨rfl, gFol_w hCq39⟩) rfl dL_follows_1011
          refine g_iload E dL_follows_856 5 rfl ?_
          refine g_if_leN (tgt := 970) (a := (sB (aS A)).length) E dL_follows_858 (by decide) (by omega) (fun c40 => ?_) (fun c40 => ?_)
          · skip
            refine g_lv [0, 1, 2, 3, 4, 5, 6, 7, 8, 9, 10, 11, 12, 13, 14, 15, 16] rfl ?_
            exact cut35 Bp up csp ssp hFp hCp (by omega) (by omega)
          · skip
            have hn0 : 0 < (sB (aS A)).length := c40
            refine g_iload E dL_follows_861 11 rfl ?_
            refine g_if_eq (tgt := 970) E dL_follows_863 (by decide) (fun c => absurd c (by decide)) (fun _ => ?_)
            refine g_iload_n E dL_follows_866 rfl 1 rfl ?_
            refine g_bipush (v := 7) E dL_follows_867 (by decide) ?_
            refine g_idivN (a := z) (b := 7) E dL_follows_869 (by omega) (by omega) (by omega) ?_
            refine g_iload E dL_follows_870 5 rfl ?_
            refine g_iremN (a := z / 7) (b := (sB (aS A)).length) E dL_follows_872 (by omega) (by omega) (by omega) ?_
            obtain ⟨kk, ekk⟩ : ∃ n9, n9 = z / 7 % (sB (aS A)).length := ⟨_, rfl⟩
            have hkk : kk < (sB (aS A)).length := by rw [ekk]; exact Nat.mod_lt _ hn0
            have hqk := hfi kk hkk
            refine g_top (y := nI kk) (congrArg nI ekk.symm) ?_
            refine g_istore (lv' := [(28, .int (nI kk)), (0, .ref (x.1 0)), (1, .int (nI z)), (2, .long (gNow (aS A))), (4, .long ((nI (sN (aS A) 0)).toInt64)), (6, .int (nI (sN (aS A) 1))), (7, .int (nI ((sB (aS A)).length))), (8, .int (nI (1 + (z % 20)))), (9, .long ((nI (nc 0)).toInt64)), (11, .long ((nI (nc 1)).toInt64)), (13, .long ((nI (nc 2)).toInt64)), (15, .long ((nI (nc 3)).toInt64)), (17, .int 1), (18, .long ((nI (nd 0 - nc 0)).toInt64)), (20, .long ((nI (nd 1 - nc 1)).toInt64)), (22, .long ((nI (nd 2 - nc 2)).toInt64)), (24, .long ((nI (nd 3 - nc 3)).toInt64)), (26, .long ((nI (sW (gDays (1 + z % 20) (aS A))).length).toInt64))]) E dL_follows_873 (by decide) rfl ?_
            refine g_aload_n E dL_follows_875 rfl 1 rfl ?_
            refine g_iload E dL_follows_876 0 rfl ?_
            refine g_iconst (v := 5) E dL_follows_878 (by decide) ?_
            refine g_callSWL (As := [.ref (x.1 0), .int (nI kk), .int 5]) (F := []) E (wL_booking (x := x) hST hFp.2.2.2.1 hb5 hCp (nI kk) (5 : Int32)) gL_follows_L_booking rfl hdL_booking ⟨Nat.le_of_ble_eq_true rfl, Nat.le_of_ble_eq_true rfl⟩ gPerm_n rfl rfl ?_ dL_follows_879 ⟨by show csp + 1 ≤ 20000; omega, by show ssp + 6 ≤ 120000; omega⟩ (fun rq41 uq41 hq41 => ?_)
            · exact Nat.le_of_ble_eq_true rfl
            refine g_perm (ws1 := wV G x uq41) gPerm_n' ?_
            obtain ⟨eq41, hCq41⟩ := hq41
            rw [show fBkng Bp (nI kk) (5 : Int32) = _ from (fBkng_in (A := Bp) (j := kk) (k := 5) (by rw [hFp.2.1]; exact hkk) (by rw [hFp.2.1]; exact hn24) rfl (by omega)).trans (by rw [hFp.2.1])] at eq41 hCq41
            refine g_topL (y := (nI (bk (sB (aS A)) kk 5)).toInt64) (eq41.trans (gCd_a rfl)) ?_
            refine g_lstore (lv' := [(29, .long ((nI (bk (sB (aS A)) kk 5)).toInt64)), (28, .int (nI kk)), (0, .ref (x.1 0)), (1, .int (nI z)), (2, .long (gNow (aS A))), (4, .long ((nI (sN (aS A) 0)).toInt64)), (6, .int (nI (sN (aS A) 1))), (7, .int (nI ((sB (aS A)).length))), (8, .int (nI (1 + (z % 20)))), (9, .long ((nI (nc 0)).toInt64)), (11, .long ((nI (nc 1)).toInt64)), (13, .long ((nI (nc 2)).toInt64)), (15, .long ((nI (nc 3)).toInt64)), (17, .int 1), (18, .long ((nI (nd 0 - nc 0)).toInt64)), (20, .long ((nI (nd 1 - nc 1)).toInt64)), (22, .long ((nI (nd 2 - nc 2)).toInt64)), (24, .long ((nI (nd 3 - nc 3)).toInt64)), (26, .long ((nI (sW (gDays (1 + z % 20) (aS A))).length).toInt64))]) E dL_follows_882 (by decide) rfl ?_
            refine g_aload_n E dL_follows_884 rfl 2 rfl ?_
            refine g_iload E dL_follows_885 1 rfl ?_
            refine g_callSWL (As := [.ref (x.1 0), .int (nI kk)]) (F := []) E (wL_cancel (x := x) hST hFp.2.2.2.1 hb5 hCq41 (nI kk)) gL_follows_L_cancel rfl hdL_cancel ⟨Nat.le_of_ble_eq_true rfl, Nat.le_of_ble_eq_true rfl⟩ gPerm_n rfl rfl ?_ dL_follows_887 ⟨by show (csp + 1) + 1 ≤ 20000; omega, by show (ssp + 6) + 6 ≤ 120000; omega⟩ (fun rq42 uq42 hq42 => ?_)
            · exact Nat.le_of_ble_eq_true rfl
            refine g_perm (ws1 := wV G x uq42) gPerm_n' ?_
            obtain ⟨eq42, hCq42⟩ := hq42
            rw [show aAct 1 0 0 Bp (gTryCancel (aS Bp) (nI kk)) = _ from fCancel_in (A := Bp) (k := kk) (by rw [hFp.2.1]; exact hkk) (by rw [hFp.2.1]; exact hn24)] at eq42 hCq42
            refine g_topL (y := (nI ((sB (aS (Bp))).length - 1)).toInt64) (eq42.trans (gCd_a rfl)) ?_
            refine g_iload E dL_follows_890 7 rfl ?_
            refine g_i2l (v := (nI ((sB (aS A)).length)).toInt64) E dL_follows_892 rfl ?_
            refine g_lconst (v := 1) E dL_follows_893 (by decide) ?_
            refine g_lsub E dL_follows_894 ?_
            refine g_lcmp E dL_follows_895 ?_
            refine g_if_ne (tgt := 967) E dL_follows_896 (by decide) (fun c => absurd (gCmp_eq.mpr (by rw [hFp.2.1]; exact sub64 hn0 (by omega))) c) (fun _ => ?_)
            refine g_aload_n E dL_follows_899 rfl 2 rfl ?_
            refine g_callSWL (As := [.ref (x.1 0)]) (F := []) E (wL_undo (x := x) hST (gAok_cn hFp.2.2.2.1 (by rw [hFp.2.1]; exact hkk)) hb5 hCq42 ) gL_follows_L_undo rfl hdL_undo ⟨Nat.le_of_ble_eq_true rfl, Nat.le_of_ble_eq_true rfl⟩ gPerm_n rfl rfl ?_ dL_follows_900 ⟨by show (csp + 2) + 1 ≤ 20000; omega, by show (ssp + 12) + 6 ≤ 120000; omega⟩ (fun rq43 uq43 hq43 => ?_)
            · exact Nat.le_of_ble_eq_true rfl
            refine g_perm (ws1 := wV G x uq43) gPerm_n' ?_
            obtain ⟨eq43, hCq43⟩ := hq43
            rw [show fUndo (aRem (Bp) (uB (aS (Bp)) ((sB (aS (Bp))).eraseIdx kk))) = _ from fUndo_rem (A := Bp)] at eq43 hCq43
            refine g_topL (y := (nI (gHc (aC (Bp)) - 1)).toInt64) (eq43.trans (gCd_a rfl)) ?_
            have hFq44 : gFw b A (gUnd (Bp)) := gFw_und hFp
            refine g_lconst (v := 0) E dL_follows_903 (by decide) ?_
            refine g_lcmp E dL_follows_904 ?_
            refine g_if_lt (tgt := 967) E dL_follows_905 (by decide) (fun c => absurd c (gNn0 (gAok_hc hFp.2.2.2.1))) (fun _ => ?_)
            refine g_aload_n E dL_follows_908 rfl 2 rfl ?_
            refine g_callSL (As := [.ref (x.1 0)]) (F := []) E (mL_now (x := x) hST hb5 hFq44.2.2.2.1 hFq44.2.2.2.2 hCq43) gL_follows_L_now rfl hdL_now ⟨Nat.le_of_ble_eq_true rfl, Nat.le_of_ble_eq_true rfl⟩ gPerm_n rfl rfl ?_ dL_follows_909 ⟨by show (csp + 3) + 300 ≤ 20000; omega, by show (ssp + 18) + 1800 ≤ 120000; omega⟩ (fun rq45 uq45 hq45 => ?_)
            · exact Nat.le_of_ble_eq_true rfl
            refine g_perm (ws1 := wV G x uq45) gPerm_n' ?_
            obtain ⟨eq45, hCq45⟩ := hq45
            refine g_topL (y := gNow (aS A)) (eq45.trans (congrArg gNow hFq44.2.1)) ?_
            refine g_lload_n E dL_follows_912 rfl 4 rfl ?_
            refine g_lcmp E dL_follows_913 ?_
            refine g_if_ne (tgt := 967) E dL_follows_914 (by decide) (fun c => absurd (gCmp_eq.mpr rfl) c) (fun _ => ?_)
            refine g_aload_n E dL_follows_917 rfl 2 rfl ?_
            refine g_iload E dL_follows_918 1 rfl ?_
            refine g_bipush (v := 59) E dL_follows_920 (by decide) ?_
            refine g_callSWL (As := [.ref (x.1 0), .int (nI kk), .int 59]) (F := []) E (wL_late (x := x) hST hFq44.2.2.2.1 hb5 hCq45 (nI kk) (59 : Int32)) gL_follows_L_late rfl hdL_late ⟨Nat.le_of_ble_eq_true rfl, Nat.le_of_ble_eq_true rfl⟩ gPerm_n rfl rfl ?_ dL_follows_922 ⟨by show (csp + 303) + 1 ≤ 20000; omega, by show (ssp + 1818) + 6 ≤ 120000; omega⟩ (fun rq46 uq46 hq46 => ?_)
            · exact Nat.le_of_ble_eq_true rfl
            refine g_perm (ws1 := wV G x uq46) gPerm_n' ?_
            obtain ⟨eq46, hCq46⟩ := hq46
            rw [show aAct 1 2 0 (gUnd (Bp)) (gTryLate (aS (gUnd (Bp))) (nI kk) (59 : Int32)) = _ from fLate_in (A := gUnd (Bp)) (k := kk) (m := 59) (by rw [hFq44.2.1]; exact hkk) (by rw [hFq44.2.1]; exact hn24) (by decide) (by rw [hFq44.2.1]; exact (show bk (sB (aS A)) kk 5 < 1000 by omega))] at eq46 hCq46
            refine g_topL (y := (nI (bk (sB (aS (gUnd (Bp)))) kk 5)).toInt64) (eq46.trans (gCd_a rfl)) ?_
            refine g_lload E dL_follows_925 0 rfl ?_
            refine g_lcmp E dL_follows_927 ?_
            refine g_if_ne (tgt := 967) E dL_follows_928 (by decide) (fun c => absurd (gCmp_eq.mpr (by rw [hFq44.2.1])) c) (fun _ => ?_)
            refine g_aload_n E dL_follows_931 rfl 2 rfl ?_
            refine g_iload E dL_follows_932 1 rfl ?_
            refine g_iconst (v := 5) E dL_follows_934 (by decide) ?_
            refine g_callSWL (As := [.ref (x.1 0), .int (nI kk), .int 5]) (F := []) E (wL_booking (x := x) hST (gAok_lt (k := kk) (m := 59) hFq44.2.2.2.1 (by rw [hFq44.2.1]; exact hkk) (by decide)) hb5 hCq46 (nI kk) (5 : Int32)) gL_follows_L_booking rfl hdL_booking ⟨Nat.le_of_ble_eq_true rfl, Nat.le_of_ble_eq_true rfl⟩ gPerm_n rfl rfl ?_ dL_follows_935 ⟨by show (csp + 304) + 1 ≤ 20000; omega, by show (ssp + 1824) + 6 ≤ 120000; omega⟩ (fun rq47 uq47 hq47 => ?_)
            · exact Nat.le_of_ble_eq_true rfl
            refine g_perm (ws1 := wV G x uq47) gPerm_n' ?_
            obtain ⟨eq47, hCq47⟩ := hq47
            rw [show fBkng (aRem (gUnd (Bp)) (gLate (aS (gUnd (Bp))) kk 59)) (nI kk) (5 : Int32) = _ from (fBkng_in (A := aRem (gUnd (Bp)) (gLate (aS (gUnd (Bp))) kk 59)) (j := kk) (k := 5) (by rw [(show (sB (aS (aRem (gUnd (Bp)) (gLate (aS (gUnd (Bp))) kk 59)))).length = (sB (aS A)).length from ((List.length_set).trans (by rw [hFq44.2.1])))]; exact hkk) (by rw [(show (sB (aS (aRem (gUnd (Bp)) (gLate (aS (gUnd (Bp))) kk 59)))).length = (sB (aS A)).length from ((List.length_set).trans (by rw [hFq44.2.1])))]; exact hn24) rfl (by omega)).trans (by rw [show bk (sB (aS (aRem (gUnd (Bp)) (gLate (aS (gUnd (Bp))) kk 59)))) kk 5 = 59 from gLate_5 (by rw [hFq44.2.1]; exact hkk)])] at eq47 hCq47
            refine g_topL (y := (nI 59).toInt64) (eq47.trans (gCd_a rfl)) ?_
            refine g_ldc2 (v := 59) E kL_follows_185 dL_follows_938 ?_
            refine g_lcmp E dL_follows_941 ?_
            refine g_if_ne (tgt := 967) E dL_follows_942 (by decide) (fun c => absurd (gCmp_eq.mpr (by decide)) c) (fun _ => ?_)
            refine g_aload_n E dL_follows_945 rfl 2 rfl ?_
            refine g_callSWL (As := [.ref (x.1 0)]) (F := []) E (wL_undo (x := x) hST (gAok_lt (k := kk) (m := 59) hFq44.2.2.2.1 (by rw [hFq44.2.1]; exact hkk) (by decide)) hb5 hCq47 ) gL_follows_L_undo rfl hdL_undo ⟨Nat.le_of_ble_eq_true rfl, Nat.le_of_ble_eq_true rfl⟩ gPerm_n rfl rfl ?_ dL_follows_946 ⟨by show (csp + 305) + 1 ≤ 20000; omega, by show (ssp + 1830) + 6 ≤ 120000; omega⟩ (fun rq48 uq48 hq48 => ?_)
            · exact Nat.le_of_ble_eq_true rfl
            refine g_perm (ws1 := wV G x uq48) gPerm_n' ?_
            obtain ⟨eq48, hCq48⟩ := hq48
            rw [show fUndo (aRem (gUnd (Bp)) (gLate (aS (gUnd (Bp))) kk 59)) = _ from fUndo_rem (A := gUnd (Bp))] at eq48 hCq48
            refine g_topL (y := (nI (gHc (aC (gUnd (Bp))) - 1)).toInt64) (eq48.trans (gCd_a rfl)) ?_
            have hFq49 : gFw b A (gUnd (gUnd (Bp))) := gFw_und hFq44
            refine g_lconst (v := 0) E dL_follows_949 (by decide) ?_
            refine g_lcmp E dL_follows_950 ?_
            refine g_if_lt (tgt := 967) E dL_follows_951 (by decide) (fun c => absurd c (gNn0 (gAok_hc hFq44.2.2.2.1))) (fun _ => ?_)
            refine g_aload_n E dL_follows_954 rfl 2 rfl ?_
            refine g_callSL (As := [.ref (x.1 0)]) (F := []) E (mL_now (x := x) hST hb5 hFq49.2.2.2.1 hFq49.2.2.2.2 hCq48) gL_follows_L_now rfl hdL_now ⟨Nat.le_of_ble_eq_true rfl, Nat.le_of_ble_eq_true rfl⟩ gPerm_n rfl rfl ?_ dL_follows_955 ⟨by show (csp + 306) + 300 ≤ 20000; omega, by show (ssp + 1836) + 1800 ≤ 120000; omega⟩ (fun rq50 uq50 hq50 => ?_)
            · exact Nat.le_of_ble_eq_true rfl
            refine g_perm (ws1 := wV G x uq50) gPerm_n' ?_
            obtain ⟨eq50, hCq50⟩ := hq50
            refine g_topL (y := gNow (aS A)) (eq50.trans (congrArg gNow hFq49.2.1)) ?_
            refine g_lload_n E dL_follows_958 rfl 4 rfl ?_
            refine g_lcmp E dL_follows_959 ?_
            refine g_if_ne (tgt := 967) E dL_follows_960 (by decide) (fun c => absurd (gCmp_eq.mpr rfl) c) (fun _ => ?_)
            refine g_iconst (v := 1) E dL_follows_963 (by decide) ?_
            refine g_goto (tgt := 968) E dL_follows_964 (by decide) ?_
            refine g_istore (lv' := [(17, .int 1), (29, .long ((nI (bk (sB (aS A)) kk 5)).toInt64)), (28, .int (nI kk)), (0, .ref (x.1 0)), (1, .int (nI z)), (2, .long (gNow (aS A))), (4, .long ((nI (sN (aS A) 0)).toInt64)), (6, .int (nI (sN (aS A) 1))), (7, .int (nI ((sB (aS A)).length))), (8, .int (nI (1 + (z % 20)))), (9, .long ((nI (nc 0)).toInt64)), (11, .long ((nI (nc 1)).toInt64)), (13, .long ((nI (nc 2)).toInt64)), (15, .long ((nI (nc 3)).toInt64)), (18, .long ((nI (nd 0 - nc 0)).toInt64)), (20, .long ((nI (nd 1 - nc 1)).toInt64)), (22, .long ((nI (nd 2 - nc 2)).toInt64)), (24, .long ((nI (nd 3 - nc 3)).toInt64)), (26, .long ((nI (sW (gDays (1 + z % 20) (aS A))).length).toInt64))]) E dL_follows_968 (by decide) rfl ?_
            refine g_lv [3, 4, 5, 6, 7, 8, 9, 10, 11, 12, 13, 0, 14, 15, 16, 17, 18] rfl ?_
            exact cut35 (gUnd (gUnd (Bp))) uq50 (csp + 606) (ssp + 3636) hFq49 hCq50 (by omega) (by omega)
        · skip
          have hkl : kp < sN (aS A) 1 := by omega
          refine g_iload E dL_follows_399 11 rfl ?_
          refine g_if_eq (tgt := 856) E dL_follows_401 (by decide) (fun c => absurd c (by decide)) (fun _ => ?_)
          refine g_iload_n E dL_follows_404 rfl 1 rfl ?_
          refine g_sipush (v := 1000) E dL_follows_405 (by decide) ?_
          refine g_iremN (a := z) (b := 1000) E dL_follows_408 (by omega) (by omega) (by omega) ?_
          refine g_iload E dL_follows_409 17 rfl ?_
          refine g_iaddN (a := z % 1000) (b := kp) E dL_follows_411 ?_
          refine g_bipush (v := 10) E dL_follows_412 (by decide) ?_
          refine g_iremN (a := z % 1000 + kp) (b := 10) E dL_follows_414 (by omega) (by omega) (by omega) ?_
          obtain ⟨vv, evv⟩ : ∃ n9, n9 = (z % 1000 + kp) % 10 := ⟨_, rfl⟩
          have hv10 : vv < 10 := by omega
          refine g_top (y := nI vv) (congrArg nI evv.symm) ?_
          refine g_istore (lv' := [(29, .int (nI vv)), (0, .ref (x.1 0)), (1, .int (nI z)), (2, .long (gNow (aS A))), (4, .long ((nI (sN (aS A) 0)).toInt64)), (6, .int (nI (sN (aS A) 1))), (7, .int (nI ((sB (aS A)).length))), (8, .int (nI (1 + (z % 20)))), (9, .long ((nI (nc 0)).toInt64)), (11, .long ((nI (nc 1)).toInt64)), (13, .long ((nI (nc 2)).toInt64)), (15, .long ((nI (nc 3)).toInt64)), (17, .int 1), (18, .long ((nI (nd 0 - nc 0)).toInt64)), (20, .long ((nI (nd 1 - nc 1)).toInt64)), (22, .long ((nI (nd 2 - nc 2)).toInt64)), (24, .long ((nI (nd 3 - nc 3)).toInt64)), (26, .long ((nI (sW (gDays (1 + z % 20) (aS A))).length).toInt64)), (28, .int (nI kp))]) E dL_follows_415 (by decide) rfl ?_
          cases he : gEar (aS A) kp vv 60 with
          | none =>
            refine g_aload_n E dL_follows_417 rfl 1 rfl ?_
            refine g_iload E dL_follows_418 18 rfl ?_
            refine g_iload E dL_follows_420 0 rfl ?_
            refine g_callSWL (As := [.ref (x.1 0), .int (nI kp), .int (nI vv)]) (F := []) E (wL_firstTime (x := x) hST hFp.2.2.2.1 hb5 hCp (nI kp) (nI vv)) gL_follows_L_firstTime rfl hdL_firstTime ⟨Nat.le_of_ble_eq_true rfl, Nat.le_of_ble_eq_true rfl⟩ gPerm_n rfl rfl ?_ dL_follows_422 ⟨by show csp + 1 ≤ 20000; omega, by show ssp + 6 ≤ 120000; omega⟩ (fun rq51 uq51 hq51 => ?_)
            · exact Nat.le_of_ble_eq_true rfl
            refine g_perm (ws1 := wV G x uq51) gPerm_n' ?_
            obtain ⟨eq51, hCq51⟩ := hq51
            rw [show fFirst Bp (nI kp) (nI vv) = _ from (fFirst_in (A := Bp) (p := kp) (v := vv) (by rw [hFp.2.1]; exact hkl) (by rw [hFp.2.1]; exact h8) hv10).trans (by rw [hFp.2.1, he])] at eq51 hCq51
            refine g_topL (y := (-1 : Int32).toInt64) (eq51.trans (gCd_a rfl)) ?_
            refine g_lstore (lv' := [(30, .long ((-1 : Int32).toInt64)), (29, .int (nI vv)), (0, .ref (x.1 0)), (1, .int (nI z)), (2, .long (gNow (aS A))), (4, .long ((nI (sN (aS A) 0)).toInt64)), (6, .int (nI (sN (aS A) 1))), (7, .int (nI ((sB (aS A)).length))), (8, .int (nI (1 + (z % 20)))), (9, .long ((nI (nc 0)).toInt64)), (11, .long ((nI (nc 1)).toInt64)), (13, .long ((nI (nc 2)).toInt64)), (15, .long ((nI (nc 3)).toInt64)), (17, .int 1), (18, .long ((nI (nd 0 - nc 0)).toInt64)), (20, .long ((nI (nd 1 - nc 1)).toInt64)), (22, .long ((nI (nd 2 - nc 2)).toInt64)), (24, .long ((nI (nd 3 - nc 3)).toInt64)), (26, .long ((nI (sW (gDays (1 + z % 20) (aS A))).length).toInt64)), (28, .int (nI kp))]) E dL_follows_425 (by decide) rfl ?_
            refine g_iload_n E dL_follows_427 rfl 3 rfl ?_
            refine g_sipush (v := 1000) E dL_follows_428 (by decide) ?_
            refine g_iremN (a := z) (b := 1000) E dL_follows_431 (by omega) (by omega) (by omega) ?_
            refine g_iconst (v := 3) E dL_follows_432 (by decide) ?_
            refine g_iload E dL_follows_433 19 rfl ?_
            refine g_imulN (a := 3) (b := kp) E dL_follows_435 ?_
            refine g_iaddN (a := z % 1000) (b := 3 * kp) E dL_follows_436 ?_
            refine g_bipush (v := 8) E dL_follows_437 (by decide) ?_
            refine g_iremN (a := z % 1000 + (3 * kp)) (b := 8) E dL_follows_439 (by omega) (by omega) (by omega) ?_
            obtain ⟨yy, eyy⟩ : ∃ n9, n9 = (z % 1000 + 3 * kp) % 8 := ⟨_, rfl⟩
            have hy8 : yy < 8 := by omega
            refine g_top (y := nI yy) (congrArg nI eyy.symm) ?_
            refine g_istore (lv' := [(32, .int (nI yy)), (30, .long ((-1 : Int32).toInt64)), (29, .int (nI vv)), (0, .ref (x.1 0)), (1, .int (nI z)), (2, .long (gNow (aS A))), (4, .long ((nI (sN (aS A) 0)).toInt64)), (6, .int (nI (sN (aS A) 1))), (7, .int (nI ((sB (aS A)).length))), (8, .int (nI (1 + (z % 20)))), (9, .long ((nI (nc 0)).toInt64)), (11, .long ((nI (nc 1)).toInt64)), (13, .long ((nI (nc 2)).toInt64)), (15, .long ((nI (nc 3)).toInt64)), (17, .int 1), (18, .long ((nI (nd 0 - nc 0)).toInt64)), (20, .long ((nI (nd 1 - nc 1)).toInt64)), (22, .long ((nI (nd 2 - nc 2)).toInt64)), (24, .long ((nI (nd 3 - nc 3)).toInt64)), (26, .long ((nI (sW (gDays (1 + z % 20) (aS A))).length).toInt64)), (28, .int (nI kp))]) E dL_follows_440 (by decide) rfl ?_
            refine g_lload E dL_follows_442 6 rfl ?_
            refine g_l2i (v := nI (sN (aS A) 0)) E dL_follows_444 (gL2I _) ?_
            refine g_iload_n E dL_follows_445 rfl 4 rfl ?_
            refine g_sipush (v := 1000) E dL_follows_446 (by decide) ?_
            refine g_iremN (a := z) (b := 1000) E dL_follows_449 (by omega) (by omega) (by omega) ?_
            refine g_iload E dL_follows_450 20 rfl ?_
            refine g_iaddN (a := z % 1000) (b := kp) E dL_follows_452 ?_
            refine g_bipush (v := 6) E dL_follows_453 (by decide) ?_
            refine g_iremN (a := z % 1000 + kp) (b := 6) E dL_follows_455 (by omega) (by omega) (by omega) ?_
            refine g_iaddN (a := sN (aS A) 0) (b := (z % 1000 + kp) % 6) E dL_follows_456 ?_
            obtain ⟨dd, edd⟩ : ∃ n9, n9 = sN (aS A) 0 + (z % 1000 + kp) % 6 := ⟨_, rfl⟩
            have hd1 : sN (aS A) 0 ≤ dd := by omega
            have hd2 : dd < sN (aS A) 0 + 20 := by omega
            have hRl := gRA_le (aS A) kp vv dd yy
            refine g_top (y := nI dd) (congrArg nI edd.symm) ?_
            refine g_istore (lv' := [(33, .int (nI dd)), (32, .int (nI yy)), (30, .long ((-1 : Int32).toInt64)), (29, .int (nI vv)), (0, .ref (x.1 0)), (1, .int (nI z)), (2, .long (gNow (aS A))), (4, .long ((nI (sN (aS A) 0)).toInt64)), (6, .int (nI (sN (aS A) 1))), (7, .int (nI ((sB (aS A)).length))), (8, .int (nI (1 + (z % 20)))), (9, .long ((nI (nc 0)).toInt64)), (11, .long ((nI (nc 1)).toInt64)), (13, .long ((nI (nc 2)).toInt64)), (15, .long ((nI (nc 3)).toInt64)), (17, .int 1), (18, .long ((nI (nd 0 - nc 0)).toInt64)), (20, .long ((nI (nd 1 - nc 1)).toInt64)), (22, .long ((nI (nd 2 - nc 2)).toInt64)), (24, .long ((nI (nd 3 - nc 3)).toInt64)), (26, .long ((nI (sW (gDays (1 + z % 20) (aS A))).length).toInt64)), (28, .int (nI kp))]) E dL_follows_457 (by decide) rfl ?_
            refine g_iload E dL_follows_459 0 rfl ?_
            refine g_sipush (v := 9999) E dL_follows_461 (by decide) ?_
            refine g_icmp_leN (tgt := 473) (a := dd) (b := 9999) E dL_follows_464 (by decide) (by omega) (by omega) (fun c52 => ?_) (fun c52 => ?_)
            · skip
              have hd9 : dd ≤ 9999 := c52
              refine g_aload_n E dL_follows_473 rfl 4 rfl ?_
              refine g_iload E dL_follows_474 21 rfl ?_
              refine g_iload E dL_follows_476 3 rfl ?_
              refine g_iload E dL_follows_478 0 rfl ?_
              refine g_iload E dL_follows_480 1 rfl ?_
              refine g_callSWL (As := [.ref (x.1 0), .int (nI kp), .int (nI vv), .int (nI dd), .int (nI yy)]) (F := []) E (wL_whyNot (x := x) hST hFp.2.2.2.1 hb5 hCq51 (nI kp) (nI vv) (nI dd) (nI yy)) gL_follows_L_whyNot rfl hdL_whyNot ⟨Nat.le_of_ble_eq_true rfl, Nat.le_of_ble_eq_true rfl⟩ gPerm_n rfl rfl ?_ dL_follows_482 ⟨by show (csp + 1) + 1 ≤ 20000; omega, by show (ssp + 6) + 6 ≤ 120000; omega⟩ (fun rq53 uq53 hq53 => ?_)
              · exact Nat.le_of_ble_eq_true rfl
              refine g_perm (ws1 := wV G x uq53) gPerm_n' ?_
              obtain ⟨eq53, hCq53⟩ := hq53
              rw [show fWhy Bp (nI kp) (nI vv) (nI dd) (nI yy) = _ from (fWhy_in (A := Bp) (p := kp) (v := vv) (d := dd) (y := yy) (by rw [hFp.2.1]; exact hkl) (by rw [hFp.2.1]; exact h8) hv10 (by rw [hFp.2.1]; exact hd1) hd9 hy8).trans (by rw [hFp.2.1])] at eq53 hCq53
              refine g_topL (y := (nI (gRA (aS A) kp vv dd yy)).toInt64) (eq53.trans (gCd_a rfl)) ?_
              refine g_lstore (lv' := [(34, .long ((nI (gRA (aS A) kp vv dd yy)).toInt64)), (33, .int (nI dd)), (32, .int (nI yy)), (30, .long ((-1 : Int32).toInt64)), (29, .int (nI vv)), (0, .ref (x.1 0)), (1, .int (nI z)), (2, .long (gNow (aS A))), (4, .long ((nI (sN (aS A) 0)).toInt64)), (6, .int (nI (sN (aS A) 1))), (7, .int (nI ((sB (aS A)).length))), (8, .int (nI (1 + (z % 20)))), (9, .long ((nI (nc 0)).toInt64)), (11, .long ((nI (nc 1)).toInt64)), (13, .long ((nI (nc 2)).toInt64)), (15, .long ((nI (nc 3)).toInt64)), (17, .int 1), (18, .long ((nI (nd 0 - nc 0)).toInt64)), (20, .long ((nI (nd 1 - nc 1)).toInt64)), (22, .long ((nI (nd 2 - nc 2)).toInt64)), (24, .long ((nI (nd 3 - nc 3)).toInt64)), (26, .long ((nI (sW (gDays (1 + z % 20) (aS A))).length).toInt64)), (28, .int (nI kp))]) E dL_follows_485 (by decide) rfl ?_
              refine g_lload E dL_follows_487 0 rfl ?_
              refine g_lconst (v := 0) E dL_follows_489 (by decide) ?_
              refine g_lcmp E dL_follows_490 ?_
              refine g_if_ne (tgt := 598) E dL_follows_491 (by decide) (fun c54 => ?_) (fun c54 => ?_)
              · skip
                have hR0 : ¬ gRA (aS A) kp vv dd yy = 0 := fun q => c54 ((gEq0_64 (by omega)).mpr q)
                refine g_lload E dL_follows_598 0 rfl ?_
                refine g_ldc2 (v := -9000000000000000002) E kL_follows_17 dL_follows_600 ?_
                refine g_lcmp E dL_follows_603 ?_
                refine g_if_eq (tgt := 662) E dL_follows_604 (by decide) (fun c => absurd c (gNeg_64 (by omega) (by decide))) (fun _ => ?_)
                refine g_lload E dL_follows_607 0 rfl ?_
                refine g_lconst (v := 1) E dL_follows_609 (by decide) ?_
                refine g_ldc2 (v := 8) E kL_follows_202 dL_follows_610 ?_
                refine g_callSI (As := [.long ((nI (gRA (aS A) kp vv dd yy)).toInt64), .long 1, .long 8]) (F := wV G x uq53) E (mL_in ((nI (gRA (aS A) kp vv dd yy)).toInt64) (1 : Int64) (8 : Int64)) gL_follows_L_in rfl hdL_in ⟨Nat.le_of_ble_eq_true rfl, Nat.le_of_ble_eq_true rfl⟩ (gPerm_rfl _) rfl rfl ?_ dL_follows_613 ⟨by show (csp + 2) + 0 ≤ 20000; omega, by show (ssp + 12) + 0 ≤ 120000; omega⟩ (fun rq55 uq55 hq55 => ?_)
                · exact Nat.le_of_ble_eq_true rfl
                refine g_ws (ws' := wV G x uq53) rfl ?_
                refine g_top (y := 1) (hq55.trans (if_pos (in64 (l := 1) (h := 8) rfl rfl (by omega) (by omega) (by decide)))) ?_
                refine g_if_eq (tgt := 659) E dL_follows_616 (by decide) (fun c => absurd c (by decide)) (fun _ => ?_)
                refine g_aload_n E dL_follows_619 rfl 5 rfl ?_
                refine g_iload E dL_follows_620 22 rfl ?_
                refine g_iload E dL_follows_622 4 rfl ?_
                refine g_iload E dL_follows_624 1 rfl ?_
                refine g_iload E dL_follows_626 2 rfl ?_
                refine g_callSWL (As := [.ref (x.1 0), .int (nI kp), .int (nI vv), .int (nI dd), .int (nI yy)]) (F := []) E (wL_book (x := x) hST hFp.2.2.2.1 hb5 hCq53 (nI kp) (nI vv) (nI dd) (nI yy)) gL_follows_L_book rfl hdL_book ⟨Nat.le_of_ble_eq_true rfl, Nat.le_of_ble_eq_true rfl⟩ gPerm_n rfl rfl ?_ dL_follows_628 ⟨by show (csp + 2) + 1 ≤ 20000; omega, by show (ssp + 12) + 6 ≤ 120000; omega⟩ (fun rq56 uq56 hq56 => ?_)
                · exact Nat.le_of_ble_eq_true rfl
                refine g_perm (ws1 := wV G x uq56) gPerm_n' ?_
                obtain ⟨eq56, hCq56⟩ := hq56
                rw [show aAct 1 2 3 Bp (gTryBook (aS Bp) (nI kp) (nI vv) (nI dd) (nI yy)) = _ from er_bookN (A := Bp) (p := kp) (v := vv) (d := dd) (y := yy) (by rw [hFp.2.1]; exact hkl) (by rw [hFp.2.1]; exact h8) hv10 (by rw [hFp.2.1]; exact hd1) hd9 hy8 (by rw [hFp.2.1]; exact hR0)] at eq56 hCq56
                refine g_topL (y := (-9000000000000000003)) (eq56.trans (gCd_k rfl rfl)) ?_
                refine g_ldc2 (v := -9000000000000000003) E kL_follows_21 dL_follows_631 ?_
                refine g_lcmp E dL_follows_634 ?_
                refine g_if_ne (tgt := 659) E dL_follows_635 (by decide) (fun c => absurd (gCmp_eq.mpr rfl) c) (fun _ => ?_)
                refine g_lload E dL_follows_638 3 rfl ?_
                refine g_ldc2 (v := 8) E kL_follows_202 dL_follows_640 ?_
                refine g_iload E dL_follows_643 1 rfl ?_
                refine g_i2l (v := (nI dd).toInt64) E dL_follows_645 rfl ?_
                refine g_lmul E dL_follows_646 ?_
                refine g_iload E dL_follows_647 2 rfl ?_
                refine g_i2l (v := (nI yy).toInt64) E dL_follows_649 rfl ?_
                refine g_ladd E dL_follows_650 ?_
                refine g_topL (y := (nI (8 * dd + yy)).toInt64) ((tim64 (by omega) (by omega)).trans (gI64 _ (by omega)).symm) ?_
                refine g_lcmp E dL_follows_651 ?_
                refine g_if_eq (tgt := 659) E dL_follows_652 (by decide) (fun c => absurd c (gNegR64 (by omega))) (fun _ => ?_)
                refine g_iconst (v := 1) E dL_follows_655 (by decide) ?_
                refine g_goto (tgt := 660) E dL_follows_656 (by decide) ?_
                refine g_istore (lv' := [(17, .int 1), (34, .long ((nI (gRA (aS A) kp vv dd yy)).toInt64)), (33, .int (nI dd)), (32, .int (nI yy)), (30, .long ((-1 : Int32).toInt64)), (29, .int (nI vv)), (0, .ref (x.1 0)), (1, .int (nI z)), (2, .long (gNow (aS A))), (4, .long ((nI (sN (aS A) 0)).toInt64)), (6, .int (nI (sN (aS A) 1))), (7, .int (nI ((sB (aS A)).length))), (8, .int (nI (1 + (z % 20)))), (9, .long ((nI (nc 0)).toInt64)), (11, .long ((nI (nc 1)).toInt64)), (13, .long ((nI (nc 2)).toInt64)), (15, .long ((nI (nc 3)).toInt64)), (18, .long ((nI (nd 0 - nc 0)).toInt64)), (20, .long ((nI (nd 1 - nc 1)).toInt64)), (22, .long ((nI (nd 2 - nc 2)).toInt64)), (24, .long ((nI (nd 3 - nc 3)).toInt64)), (26, .long ((nI (sW (gDays (1 + z % 20) (aS A))).length).toInt64)), (28, .int (nI kp))]) E dL_follows_660 (by decide) rfl ?_
                have cut57 : ∀ (uq : gVu) (csq : Nat) (ssq : Nat), (gClsI Bp uq) → (csq ≤ (csp + 3) + 2) → (ssq ≤ (ssp + 18) + 12) → gW V 38 csq ssq (wV G x uq) [(0, .ref (x.1 0)), (1, .int (nI z)), (2, .long (gNow (aS A))), (4, .long ((nI (sN (aS A) 0)).toInt64)), (6, .int (nI (sN (aS A) 1))), (7, .int (nI ((sB (aS A)).length))), (8, .int (nI (1 + (z % 20)))), (9, .long ((nI (nc 0)).toInt64)), (11, .long ((nI (nc 1)).toInt64)), (13, .long ((nI (nc 2)).toInt64)), (15, .long ((nI (nc 3)).toInt64)), (17, .int 1), (18, .long ((nI (nd 0 - nc 0)).toInt64)), (20, .long ((nI (nd 1 - nc 1)).toInt64)), (22, .long ((nI (nd 2 - nc 2)).toInt64)), (24, .long ((nI (nd 3 - nc 3)).toInt64)), (26, .long ((nI (sW (gDays (1 + z % 20) (aS A))).length).toInt64)), (28, .int (nI kp)), (29, .int (nI vv)), (30, .long ((-1 : Int32).toInt64)), (32, .int (nI yy)), (33, .int (nI dd)), (34, .long ((nI (gRA (aS A) kp vv dd yy)).toInt64))] 763 [] := by
                  intro uq csq ssq hCq hcq hsq
                  refine g_iload E dL_follows_763 11 rfl ?_
                  refine g_if_eq (tgt := 850) E dL_follows_765 (by decide) (fun c => absurd c (by decide)) (fun _ => ?_)
                  refine g_iload E dL_follows_768 21 rfl ?_
                  refine g_sipush (v := 9999) E dL_follows_770 (by decide) ?_
                  refine g_icmp_gtN (tgt := 850) (a := dd) (b := 9999) E dL_follows_773 (by decide) (by omega) (by omega) (fun c58 => ?_) (fun c58 => ?_)
                  · exfalso
                    omega
                  · skip
                    refine g_lload E dL_follows_776 22 rfl ?_
                    refine g_lconst (v := 1) E dL_follows_778 (by decide) ?_
                    refine g_lcmp E dL_follows_779 ?_
                    refine g_if_le (tgt := 850) E dL_follows_780 (by decide) (fun c59 => ?_) (fun c59 => ?_)
                    · skip
                      refine g_iinc (lv' := [(28, .int (nI (kp + 1))), (0, .ref (x.1 0)), (1, .int (nI z)), (2, .long (gNow (aS A))), (4, .long ((nI (sN (aS A) 0)).toInt64)), (6, .int (nI (sN (aS A) 1))), (7, .int (nI ((sB (aS A)).length))), (8, .int (nI (1 + (z % 20)))), (9, .long ((nI (nc 0)).toInt64)), (11, .long ((nI (nc 1)).toInt64)), (13, .long ((nI (nc 2)).toInt64)), (15, .long ((nI (nc 3)).toInt64)), (17, .int 1), (18, .long ((nI (nd 0 - nc 0)).toInt64)), (20, .long ((nI (nd 1 - nc 1)).toInt64)), (22, .long ((nI (nd 2 - nc 2)).toInt64)), (24, .long ((nI (nd 3 - nc 3)).toInt64)), (26, .long ((nI (sW (gDays (1 + z % 20) (aS A))).length).toInt64)), (29, .int (nI vv)), (30, .long ((-1 : Int32).toInt64)), (32, .int (nI yy)), (33, .int (nI dd)), (34, .long ((nI (gRA (aS A) kp vv dd yy)).toInt64))]) E dL_follows_850 17 rfl (g_inc _ 1 (by decide)) (by decide) rfl ?_
                      refine g_goto (tgt := 392) E dL_follows_853 (by decide) ?_
                      refine g_lv [1, 2, 3, 4, 5, 6, 7, 8, 9, 10, 11, 12, 13, 14, 15, 16, 17, 0] rfl ?_
                      exact ih32  (kp + 1) Bp uq csq ssq (by omega) hFp hCq (by omega) (by omega) (by omega)
                    · skip
                      have hR1 : 1 < gRA (aS A) kp vv dd yy := by
                        rcases Nat.lt_or_ge 1 (gRA (aS A) kp vv dd yy) with q | q
                        · exact q
                        · exact absurd ((gLe64 (k := 1) (by decide) (by omega) (by decide)).mpr q) c59
                      refine g_aload_n E dL_follows_783 rfl 0 rfl ?_
                      refine g_iload E dL_follows_784 17 rfl ?_
                      refine g_iconst (v := 2) E dL_follows_786 (by decide) ?_
                      refine g_callSWL (As := [.ref (x.1 0), .int (nI kp), .int 2]) (F := []) E (wL_prisoner (x := x) hST hFp.2.2.2.1 hb5 hCq (nI kp) (2 : Int32)) gL_follows_L_prisoner rfl hdL_prisoner ⟨Nat.le_of_ble_eq_true rfl, Nat.le_of_ble_eq_true rfl⟩ gPerm_n rfl rfl ?_ dL_follows_787 ⟨by show csq + 1 ≤ 20000; omega, by show ssq + 6 ≤ 120000; omega⟩ (fun rq60 uq60 hq60 => ?_)
                      · exact Nat.le_of_ble_eq_true rfl
                      refine g_perm (ws1 := wV G x uq60) gPerm_n' ?_
                      obtain ⟨eq60, hCq60⟩ := hq60
                      rw [show fPris Bp (nI kp) (2 : Int32) = _ from (fPr_2 (A := Bp) (p := kp) (by rw [hFp.2.1]; exact hkl) (by rw [hFp.2.1]; exact h8)).trans (by rw [hFp.2.1])] at eq60 hCq60
                      refine g_topL (y := (sI (aS A) 2 kp).toInt64) (eq60.trans (gCd_a rfl)) ?_
                      refine g_lstore (lv' := [(36, .long ((sI (aS A) 2 kp).toInt64)), (0, .ref (x.1 0)), (1, .int (nI z)), (2, .long (gNow (aS A))), (4, .long ((nI (sN (aS A) 0)).toInt64)), (6, .int (nI (sN (aS A) 1))), (7, .int (nI ((sB (aS A)).length))), (8, .int (nI (1 + (z % 20)))), (9, .long ((nI (nc 0)).toInt64)), (11, .long ((nI (nc 1)).toInt64)), (13, .long ((nI (nc 2)).toInt64)), (15, .long ((nI (nc 3)).toInt64)), (17, .int 1), (18, .long ((nI (nd 0 - nc 0)).toInt64)), (20, .long ((nI (nd 1 - nc 1)).toInt64)), (22, .long ((nI (nd 2 - nc 2)).toInt64)), (24, .long ((nI (nd 3 - nc 3)).toInt64)), (26, .long ((nI (sW (gDays (1 + z % 20) (aS A))).length).toInt64)), (28, .int (nI kp)), (29, .int (nI vv)), (30, .long ((-1 : Int32).toInt64)), (32, .int (nI yy)), (33, .int (nI dd)), (34, .long ((nI (gRA (aS A) kp vv dd yy)).toInt64))]) E dL_follows_790 (by decide) rfl ?_
                      refine g_aload_n E dL_follows_792 rfl 1 rfl ?_
                      refine g_iload E dL_follows_793 18 rfl ?_
                      refine g_bipush (v := 20) E dL_follows_795 (by decide) ?_
                      refine g_callSWL (As := [.ref (x.1 0), .int (nI kp), .int 20]) (F := []) E (wL_punish (x := x) hST hFp.2.2.2.1 hb5 hCq60 (nI kp) (20 : Int32)) gL_follows_L_punish rfl hdL_punish ⟨Nat.le_of_ble_eq_true rfl, Nat.le_of_ble_eq_true rfl⟩ gPerm_n rfl rfl ?_ dL_follows_797 ⟨by show (csq + 1) + 1 ≤ 20000; omega, by show (ssq + 6) + 6 ≤ 120000; omega⟩ (fun rq61 uq61 hq61 => ?_)
                      · exact Nat.le_of_ble_eq_true rfl
                      refine g_perm (ws1 := wV G x uq61) gPerm_n' ?_
                      obtain ⟨eq61, hCq61⟩ := hq61
                      rw [show aAct 1 2 0 Bp (gTryPunish (aS Bp) (nI kp) (20 : Int32)) = _ from fPunish_in (A := Bp) (p := kp) (n := 20) (by rw [hFp.2.1]; exact hkl) (by rw [hFp.2.1]; exact h8) (by decide) (by rw [hFp.2.1]; exact (hng kp (by omega)).2.2.2)] at eq61 hCq61
                      refine g_topL (y := (sI (aS (Bp)) 2 kp).toInt64) (eq61.trans (gCd_a rfl)) ?_
                      refine g_lload E dL_follows_800 0 rfl ?_
                      refine g_lcmp E dL_follows_802 ?_
                      refine g_if_ne (tgt := 847) E dL_follows_803 (by decide) (fun c => absurd (gCmp_eq.mpr (by rw [hFp.2.1])) c) (fun _ => ?_)
                      refine g_aload_n E dL_follows_806 rfl 1 rfl ?_
                      refine g_iload E dL_follows_807 18 rfl ?_
                      refine g_iload E dL_follows_809 19 rfl ?_
                      refine g_iload E dL_follows_811 22 rfl ?_
                      refine g_iload E dL_follows_813 21 rfl ?_
                      refine g_callSWL (As := [.ref (x.1 0), .int (nI kp), .int (nI vv), .int (nI dd), .int (nI yy)]) (F := []) E (wL_whyNot (x := x) hST (gAok_pn (p := kp) (m := 20) hFp.2.2.2.1 hb (by rw [hFp.2.1]; exact hkl) (by decide)) hb5 hCq61 (nI kp) (nI vv) (nI dd) (nI yy)) gL_follows_L_whyNot rfl hdL_whyNot ⟨Nat.le_of_ble_eq_true rfl, Nat.le_of_ble_eq_true rfl⟩ gPerm_n rfl rfl ?_ dL_follows_815 ⟨by show (csq + 2) + 1 ≤ 20000; omega, by show (ssq + 12) + 6 ≤ 120000; omega⟩ (fun rq62 uq62 hq62 => ?_)
                      · exact Nat.le_of_ble_eq_true rfl
                      refine g_perm (ws1 := wV G x uq62) gPerm_n' ?_
                      obtain ⟨eq62, hCq62⟩ := hq62
                      rw [show fWhy (aRem (Bp) (gPun (aS (Bp)) kp 20)) (nI kp) (nI vv) (nI dd) (nI yy) = _ from (fWhy_in (A := aRem (Bp) (gPun (aS (Bp)) kp 20)) (p := kp) (v := vv) (d := dd) (y := yy) (show kp < sN (aS (Bp)) 1 from (by rw [hFp.2.1]; exact hkl)) (show sN (aS (Bp)) 1 ≤ 8 from (by rw [hFp.2.1]; exact h8)) hv10 (show sN (aS (Bp)) 0 ≤ dd from (by rw [hFp.2.1]; exact hd1)) hd9 hy8).trans (by rw [show gRA (aS (aRem (Bp) (gPun (aS (Bp)) kp 20))) kp vv dd yy = 2 from gRA_pun (S := aS (Bp)) (by rw [hFp.2.1]; exact gRA_list hR1) (by rw [hFp.2.1]; exact hd2) (by rw [hFp.2.1]; exact (by omega))])] at eq62 hCq62
                      refine g_topL (y := (2 : Int32).toInt64) (eq62.trans (gCd_a rfl)) ?_
                      refine g_ldc2 (v := 2) E kL_follows_214 dL_follows_818 ?_
                      refine g_lcmp E dL_follows_821 ?_
                      refine g_if_ne (tgt := 847) E dL_follows_822 (by decide) (fun c => absurd (gCmp_eq.mpr (by decide)) c) (fun _ => ?_)
                      refine g_aload_n E dL_follows_825 rfl 1 rfl ?_
                      refine g_callSWL (As := [.ref (x.1 0)]) (F := []) E (wL_undo (x := x) hST (gAok_pn (p := kp) (m := 20) hFp.2.2.2.1 hb (by rw [hFp.2.1]; exact hkl) (by decide)) hb5 hCq62 ) gL_follows_L_undo rfl hdL_undo ⟨Nat.le_of_ble_eq_true rfl, Nat.le_of_ble_eq_true rfl⟩ gPerm_n rfl rfl ?_ dL_follows_826 ⟨by show (csq + 3) + 1 ≤ 20000; omega, by show (ssq + 18) + 6 ≤ 120000; omega⟩ (fun rq63 uq63 hq63 => ?_)
                      · exact Nat.le_of_ble_eq_true rfl
                      refine g_perm (ws1 := wV G x uq63) gPerm_n' ?_
                      obtain ⟨eq63, hCq63⟩ := hq63
                      rw [show fUndo (aRem (Bp) (gPun (aS (Bp)) kp 20)) = _ from fUndo_rem (A := Bp)] at eq63 hCq63
                      refine g_topL (y := (nI (gHc (aC (Bp)) - 1)).toInt64) (eq63.trans (gCd_a rfl)) ?_
                      have hFq64 : gFw b A (gUnd (Bp)) := gFw_und hFp
                      refine g_lconst (v := 0) E dL_follows_829 (by decide) ?_
                      refine g_lcmp E dL_follows_830 ?_
                      refine g_if_lt (tgt := 847) E dL_follows_831 (by decide) (fun c => absurd c (gNn0 (gAok_hc hFp.2.2.2.1))) (fun _ => ?_)
                      refine g_aload_n E dL_follows_834 rfl 1 rfl ?_
                      refine g_callSL (As := [.ref (x.1 0)]) (F := []) E (mL_now (x := x) hST hb5 hFq64.2.2.2.1 hFq64.2.2.2.2 hCq63) gL_follows_L_now rfl hdL_now ⟨Nat.le_of_ble_eq_true rfl, Nat.le_of_ble_eq_true rfl⟩ gPerm_n rfl rfl ?_ dL_follows_835 ⟨by show (csq + 4) + 300 ≤ 20000; omega, by show (ssq + 24) + 1800 ≤ 120000; omega⟩ (fun rq65 uq65 hq65 => ?_)
                      · exact Nat.le_of_ble_eq_true rfl
                      refine g_perm (ws1 := wV G x uq65) gPerm_n' ?_
                      obtain ⟨eq65, hCq65⟩ := hq65
                      refine g_topL (y := gNow (aS A)) (eq65.trans (congrArg gNow hFq64.2.1)) ?_
                      refine g_lload_n E dL_follows_838 rfl 3 rfl ?_
                      refine g_lcmp E dL_follows_839 ?_
                      refine g_if_ne (tgt := 847) E dL_follows_840 (by decide) (fun c => absurd (gCmp_eq.mpr rfl) c) (fun _ => ?_)
                      refine g_iconst (v := 1) E dL_follows_843 (by decide) ?_
                      refine g_goto (tgt := 848) E dL_follows_844 (by decide) ?_
                      refine g_istore (lv' := [(17, .int 1), (36, .long ((sI (aS A) 2 kp).toInt64)), (0, .ref (x.1 0)), (1, .int (nI z)), (2, .long (gNow (aS A))), (4, .long ((nI (sN (aS A) 0)).toInt64)), (6, .int (nI (sN (aS A) 1))), (7, .int (nI ((sB (aS A)).length))), (8, .int (nI (1 + (z % 20)))), (9, .long ((nI (nc 0)).toInt64)), (11, .long ((nI (nc 1)).toInt64)), (13, .long ((nI (nc 2)).toInt64)), (15, .long ((nI (nc 3)).toInt64)), (18, .long ((nI (nd 0 - nc 0)).toInt64)), (20, .long ((nI (nd 1 - nc 1)).toInt64)), (22, .long ((nI (nd 2 - nc 2)).toInt64)), (24, .long ((nI (nd 3 - nc 3)).toInt64)), (26, .long ((nI (sW (gDays (1 + z % 20) (aS A))).length).toInt64)), (28, .int (nI kp)), (29, .int (nI vv)), (30, .long ((-1 : Int32).toInt64)), (32, .int (nI yy)), (33, .int (nI dd)), (34, .long ((nI (gRA (aS A) kp vv dd yy)).toInt64))]) E dL_follows_848 (by decide) rfl ?_
                      refine g_iinc (lv' := [(28, .int (nI (kp + 1))), (17, .int 1), (36, .long ((sI (aS A) 2 kp).toInt64)), (0, .ref (x.1 0)), (1, .int (nI z)), (2, .long (gNow (aS A))), (4, .long ((nI (sN (aS A) 0)).toInt64)), (6, .int (nI (sN (aS A) 1))), (7, .int (nI ((sB (aS A)).length))), (8, .int (nI (1 + (z % 20)))), (9, .long ((nI (nc 0)).toInt64)), (11, .long ((nI (nc 1)).toInt64)), (13, .long ((nI (nc 2)).toInt64)), (15, .long ((nI (nc 3)).toInt64)), (18, .long ((nI (nd 0 - nc 0)).toInt64)), (20, .long ((nI (nd 1 - nc 1)).toInt64)), (22, .long ((nI (nd 2 - nc 2)).toInt64)), (24, .long ((nI (nd 3 - nc 3)).toInt64)), (26, .long ((nI (sW (gDays (1 + z % 20) (aS A))).length).toInt64)), (29, .int (nI vv)), (30, .long ((-1 : Int32).toInt64)), (32, .int (nI yy)), (33, .int (nI dd)), (34, .long ((nI (gRA (aS A) kp vv dd yy)).toInt64))]) E dL_follows_850 18 rfl (g_inc _ 1 (by decide)) (by decide) rfl ?_
                      refine g_goto (tgt := 392) E dL_follows_853 (by decide) ?_
                      refine g_lv [3, 4, 5, 6, 7, 8, 9, 10, 11, 12, 13, 1, 14, 15, 16, 17, 18, 0] rfl ?_
                      exact ih32  (kp + 1) (gUnd (Bp)) uq65 (csq + 304) (ssq + 1824) (by omega) hFq64 hCq65 (by omega) (by omega) (by omega)
                refine g_iload E dL_follows_662 0 rfl ?_
                refine g_if_eq (tgt := 763) E dL_follows_664 (by decide) (fun c => absurd c (by decide)) (fun _ => ?_)
                refine g_lload E dL_follows_667 4 rfl ?_
                refine g_ldc2 (v := -1) E kL_follows_183 dL_follows_669 ?_
                refine g_lcmp E dL_follows_672 ?_
                refine g_if_eq (tgt := 763) E dL_follows_673 (by decide) (fun _ => ?_) (fun c => absurd (gCmp_eq.mpr (by decide)) c)
                refine g_lv [6, 7, 8, 9, 10, 11, 12, 13, 14, 15, 16, 0, 17, 18, 19, 20, 21, 22, 5, 4, 3, 2, 1] rfl ?_
                exact cut57 uq56 (csp + 3) (ssp + 18) hCq56 (by omega) (by omega)
              · exfalso
                have hR0 : gRA (aS A) kp vv dd yy = 0 := (gEq0_64 (by omega)).mp c54; obtain ⟨t9, ha9, hb9⟩ := gEar_ex (S := aS A) (p := kp) (v := vv) (n := 60) (d := dd) (y := yy) hy8 (by omega) (by omega) hR0; rw [he] at ha9; cases ha9
            · skip
              have hd9 : ¬ dd ≤ 9999 := c52
              refine g_ldc2 (v := -9000000000000000002) E kL_follows_17 dL_follows_467 ?_
              refine g_goto (tgt := 485) E dL_follows_470 (by decide) ?_
              refine g_lstore (lv' := [(34, .long (-9000000000000000002)), (33, .int (nI dd)), (32, .int (nI yy)), (30, .long ((-1 : Int32).toInt64)), (29, .int (nI vv)), (0, .ref (x.1 0)), (1, .int (nI z)), (2, .long (gNow (aS A))), (4, .long ((nI (sN (aS A) 0)).toInt64)), (6, .int (nI (sN (aS A) 1))), (7, .int (nI ((sB (aS A)).length))), (8, .int (nI (1 + (z % 20)))), (9, .long ((nI (nc 0)).toInt64)), (11, .long ((nI (nc 1)).toInt64)), (13, .long ((nI (nc 2)).toInt64)), (15, .long ((nI (nc 3)).toInt64)), (17, .int 1), (18, .long ((nI (nd 0 - nc 0)).toInt64)), (20, .long ((nI (nd 1 - nc 1)).toInt64)), (22, .long ((nI (nd 2 - nc 2)).toInt64)), (24, .long ((nI (nd 3 - nc 3)).toInt64)), (26, .long ((nI (sW (gDays (1 + z % 20) (aS A))).length).toInt64)), (28, .int (nI kp))]) E dL_follows_485 (by decide) rfl ?_
              refine g_lload E dL_follows_487 0 rfl ?_
              refine g_lconst (v := 0) E dL_follows_489 (by decide) ?_
              refine g_lcmp E dL_follows_490 ?_
              refine g_if_ne (tgt := 598) E dL_follows_491 (by decide) (fun _ => ?_) (fun c => absurd c (by decide))
              refine g_lload E dL_follows_598 0 rfl ?_
              refine g_ldc2 (v := -9000000000000000002) E kL_follows_17 dL_follows_600 ?_
              refine g_lcmp E dL_follows_603 ?_
              refine g_if_eq (tgt := 662) E dL_follows_604 (by decide) (fun _ => ?_) (fun c => absurd (gCmp_eq.mpr rfl) c)
              have cut66 : ∀ (uq : gVu) (csq : Nat) (ssq : Nat), (gClsI Bp uq) → (csq ≤ (csp + 1) + 2) → (ssq ≤ (ssp + 6) + 12) → gW V 38 csq ssq (wV G x uq) [(0, .ref (x.1 0)), (1, .int (nI z)), (2, .long (gNow (aS A))), (4, .long ((nI (sN (aS A) 0)).toInt64)), (6, .int (nI (sN (aS A) 1))), (7, .int (nI ((sB (aS A)).length))), (8, .int (nI (1 + (z % 20)))), (9, .long ((nI (nc 0)).toInt64)), (11, .long ((nI (nc 1)).toInt64)), (13, .long ((nI (nc 2)).toInt64)), (15, .long ((nI (nc 3)).toInt64)), (17, .int 1), (18, .long ((nI (nd 0 - nc 0)).toInt64)), (20, .long ((nI (nd 1 - nc 1)).toInt64)), (22, .long ((nI (nd 2 - nc 2)).toInt64)), (24, .long ((nI (nd 3 - nc 3)).toInt64)), (26, .long ((nI (sW (gDays (1 + z % 20) (aS A))).length).toInt64)), (28, .int (nI kp)), (29, .int (nI vv)), (30, .long ((-1 : Int32).toInt64)), (32, .int (nI yy)), (33, .int (nI dd)), (34, .long (-9000000000000000002))] 763 [] := by
                intro uq csq ssq hCq hcq hsq
                refine g_iload E dL_follows_763 11 rfl ?_
                refine g_if_eq (tgt := 850) E dL_follows_765 (by decide) (fun c => absurd c (by decide)) (fun _ => ?_)
                refine g_iload E dL_follows_768 21 rfl ?_
                refine g_sipush (v := 9999) E dL_follows_770 (by decide) ?_
                refine g_icmp_gtN (tgt := 850) (a := dd) (b := 9999) E dL_follows_773 (by decide) (by omega) (by omega) (fun c67 => ?_) (fun c67 => ?_)
                · skip
                  refine g_iinc (lv' := [(28, .int (nI (kp + 1))), (0, .ref (x.1 0)), (1, .int (nI z)), (2, .long (gNow (aS A))), (4, .long ((nI (sN (aS A) 0)).toInt64)), (6, .int (nI (sN (aS A) 1))), (7, .int (nI ((sB (aS A)).length))), (8, .int (nI (1 + (z % 20)))), (9, .long ((nI (nc 0)).toInt64)), (11, .long ((nI (nc 1)).toInt64)), (13, .long ((nI (nc 2)).toInt64)), (15, .long ((nI (nc 3)).toInt64)), (17, .int 1), (18, .long ((nI (nd 0 - nc 0)).toInt64)), (20, .long ((nI (nd 1 - nc 1)).toInt64)), (22, .long ((nI (nd 2 - nc 2)).toInt64)), (24, .long ((nI (nd 3 - nc 3)).toInt64)), (26, .long ((nI (sW (gDays (1 + z % 20) (aS A))).length).toInt64)), (29, .int (nI vv)), (30, .long ((-1 : Int32).toInt64)), (32, .int (nI yy)), (33, .int (nI dd)), (34, .long (-9000000000000000002))]) E dL_follows_850 17 rfl (g_inc _ 1 (by decide)) (by decide) rfl ?_
                  refine g_goto (tgt := 392) E dL_follows_853 (by decide) ?_
                  refine g_lv [1, 2, 3, 4, 5, 6, 7, 8, 9, 10, 11, 12, 13, 14, 15, 16, 17, 0] rfl ?_
                  exact ih32  (kp + 1) Bp uq csq ssq (by omega) hFp hCq (by omega) (by omega) (by omega)
                · exfalso
                  omega
              refine g_iload E dL_follows_662 16 rfl ?_
              refine g_if_eq (tgt := 763) E dL_follows_664 (by decide) (fun c => absurd c (by decide)) (fun _ => ?_)
              refine g_lload E dL_follows_667 3 rfl ?_
              refine g_ldc2 (v := -1) E kL_follows_183 dL_follows_669 ?_
              refine g_lcmp E dL_follows_672 ?_
              refine g_if_eq (tgt := 763) E dL_follows_673 (by decide) (fun _ => ?_) (fun c => absurd (gCmp_eq.mpr (by decide)) c)
              refine g_lv [5, 6, 7, 8, 9, 10, 11, 12, 13, 14, 15, 16, 17, 18, 19, 20, 21, 22, 4, 3, 2, 1, 0] rfl ?_
              exact cut66 uq51 (csp + 1) (ssp + 6) hCq51 (by omega) (by omega)
          | some t =>
            obtain ⟨⟨ht1, ht2⟩, ht3⟩ := gEar_spec he
            refine g_aload_n E dL_follows_417 rfl 1 rfl ?_
            refine g_iload E dL_follows_418 18 rfl ?_
            refine g_iload E dL_follows_420 0 rfl ?_
            refine g_callSWL (As := [.ref (x.1 0), .int (nI kp), .int (nI vv)]) (F := []) E (wL_firstTime (x := x) hST hFp.2.2.2.1 hb5 hCp (nI kp) (nI vv)) gL_follows_L_firstTime rfl hdL_firstTime ⟨Nat.le_of_ble_eq_true rfl, Nat.le_of_ble_eq_true rfl⟩ gPerm_n rfl rfl ?_ dL_follows_422 ⟨by show csp + 1 ≤ 20000; omega, by show ssp + 6 ≤ 120000; omega⟩ (fun rq68 uq68 hq68 => ?_)
            · exact Nat.le_of_ble_eq_true rfl
            refine g_perm (ws1 := wV G x uq68) gPerm_n' ?_
            obtain ⟨eq68, hCq68⟩ := hq68
            rw [show fFirst Bp (nI kp) (nI vv) = _ from (fFirst_in (A := Bp) (p := kp) (v := vv) (by rw [hFp.2.1]; exact hkl) (by rw [hFp.2.1]; exact h8) hv10).trans (by rw [hFp.2.1, he])] at eq68 hCq68
            refine g_topL (y := (nI t).toInt64) (eq68.trans (gCd_a rfl)) ?_
            refine g_lstore (lv' := [(30, .long ((nI t).toInt64)), (29, .int (nI vv)), (0, .ref (x.1 0)), (1, .int (nI z)), (2, .long (gNow (aS A))), (4, .long ((nI (sN (aS A) 0)).toInt64)), (6, .int (nI (sN (aS A) 1))), (7, .int (nI ((sB (aS A)).length))), (8, .int (nI (1 + (z % 20)))), (9, .long ((nI (nc 0)).toInt64)), (11, .long ((nI (nc 1)).toInt64)), (13, .long ((nI (nc 2)).toInt64)), (15, .long ((nI (nc 3)).toInt64)), (17, .int 1), (18, .long ((nI (nd 0 - nc 0)).toInt64)), (20, .long ((nI (nd 1 - nc 1)).toInt64)), (22, .long ((nI (nd 2 - nc 2)).toInt64)), (24, .long ((nI (nd 3 - nc 3)).toInt64)), (26, .long ((nI (sW (gDays (1 + z % 20) (aS A))).length).toInt64)), (28, .int (nI kp))]) E dL_follows_425 (by decide) rfl ?_
            refine g_iload_n E dL_follows_427 rfl 3 rfl ?_
            refine g_sipush (v := 1000) E dL_follows_428 (by decide) ?_
            refine g_iremN (a := z) (b := 1000) E dL_follows_431 (by omega) (by omega) (by omega) ?_
            refine g_iconst (v := 3) E dL_follows_432 (by decide) ?_
            refine g_iload E dL_follows_433 19 rfl ?_
            refine g_imulN (a := 3) (b := kp) E dL_follows_435 ?_
            refine g_iaddN (a := z % 1000) (b := 3 * kp) E dL_follows_436 ?_
            refine g_bipush (v := 8) E dL_follows_437 (by decide) ?_
            refine g_iremN (a := z % 1000 + (3 * kp)) (b := 8) E dL_follows_439 (by omega) (by omega) (by omega) ?_
            obtain ⟨yy, eyy⟩ : ∃ n9, n9 = (z % 1000 + 3 * kp) % 8 := ⟨_, rfl⟩
            have hy8 : yy < 8 := by omega
            refine g_top (y := nI yy) (congrArg nI eyy.symm) ?_
            refine g_istore (lv' := [(32, .int (nI yy)), (30, .long ((nI t).toInt64)), (29, .int (nI vv)), (0, .ref (x.1 0)), (1, .int (nI z)), (2, .long (gNow (aS A))), (4, .long ((nI (sN (aS A) 0)).toInt64)), (6, .int (nI (sN (aS A) 1))), (7, .int (nI ((sB (aS A)).length))), (8, .int (nI (1 + (z % 20)))), (9, .long ((nI (nc 0)).toInt64)), (11, .long ((nI (nc 1)).toInt64)), (13, .long ((nI (nc 2)).toInt64)), (15, .long ((nI (nc 3)).toInt64)), (17, .int 1), (18, .long ((nI (nd 0 - nc 0)).toInt64)), (20, .long ((nI (nd 1 - nc 1)).toInt64)), (22, .long ((nI (nd 2 - nc 2)).toInt64)), (24, .long ((nI (nd 3 - nc 3)).toInt64)), (26, .long ((nI (sW (gDays (1 + z % 20) (aS A))).length).toInt64)), (28, .int (nI kp))]) E dL_follows_440 (by decide) rfl ?_
            refine g_lload E dL_follows_442 6 rfl ?_
            refine g_l2i (v := nI (sN (aS A) 0)) E dL_follows_444 (gL2I _) ?_
            refine g_iload_n E dL_follows_445 rfl 4 rfl ?_
            refine g_sipush (v := 1000) E dL_follows_446 (by decide) ?_
            refine g_iremN (a := z) (b := 1000) E dL_follows_449 (by omega) (by omega) (by omega) ?_
            refine g_iload E dL_follows_450 20 rfl ?_
            refine g_iaddN (a := z % 1000) (b := kp) E dL_follows_452 ?_
            refine g_bipush (v := 6) E dL_follows_453 (by decide) ?_
            refine g_iremN (a := z % 1000 + kp) (b := 6) E dL_follows_455 (by omega) (by omega) (by omega) ?_
            refine g_iaddN (a := sN (aS A) 0) (b := (z % 1000 + kp) % 6) E dL_follows_456 ?_
            obtain ⟨dd, edd⟩ : ∃ n9, n9 = sN (aS A) 0 + (z % 1000 + kp) % 6 := ⟨_, rfl⟩
            have hd1 : sN (aS A) 0 ≤ dd := by omega
            have hd2 : dd < sN (aS A) 0 + 20 := by omega
            have hRl := gRA_le (aS A) kp vv dd yy
            refine g_top (y := nI dd) (congrArg nI edd.symm) ?_
            refine g_istore (lv' := [(33, .int (nI dd)), (32, .int (nI yy)), (30, .long ((nI t).toInt64)), (29, .int (nI vv)), (0, .ref (x.1 0)), (1, .int (nI z)), (2, .long (gNow (aS A))), (4, .long ((nI (sN (aS A) 0)).toInt64)), (6, .int (nI (sN (aS A) 1))), (7, .int (nI ((sB (aS A)).length))), (8, .int (nI (1 + (z % 20)))), (9, .long ((nI (nc 0)).toInt64)), (11, .long ((nI (nc 1)).toInt64)), (13, .long ((nI (nc 2)).toInt64)), (15, .long ((nI (nc 3)).toInt64)), (17, .int 1), (18, .long ((nI (nd 0 - nc 0)).toInt64)), (20, .long ((nI (nd 1 - nc 1)).toInt64)), (22, .long ((nI (nd 2 - nc 2)).toInt64)), (24, .long ((nI (nd 3 - nc 3)).toInt64)), (26, .long ((nI (sW (gDays (1 + z % 20) (aS A))).length).toInt64)), (28, .int (nI kp))]) E dL_follows_457 (by decide) rfl ?_
            refine g_iload E dL_follows_459 0 rfl ?_
            refine g_sipush (v := 9999) E dL_follows_461 (by decide) ?_
            refine g_icmp_leN (tgt := 473) (a := dd) (b := 9999) E dL_follows_464 (by decide) (by omega) (by omega) (fun c69 => ?_) (fun c69 => ?_)
            · skip
              have hd9 : dd ≤ 9999 := c69
              refine g_aload_n E dL_follows_473 rfl 4 rfl ?_
              refine g_iload E dL_follows_474 21 rfl ?_
              refine g_iload E dL_follows_476 3 rfl ?_
              refine g_iload E dL_follows_478 0 rfl ?_
              refine g_iload E dL_follows_480 1 rfl ?_
              refine g_callSWL (As := [.ref (x.1 0), .int (nI kp), .int (nI vv), .int (nI dd), .int (nI yy)]) (F := []) E (wL_whyNot (x := x) hST hFp.2.2.2.1 hb5 hCq68 (nI kp) (nI vv) (nI dd) (nI yy)) gL_follows_L_whyNot rfl hdL_whyNot ⟨Nat.le_of_ble_eq_true rfl, Nat.le_of_ble_eq_true rfl⟩ gPerm_n rfl rfl ?_ dL_follows_482 ⟨by show (csp + 1) + 1 ≤ 20000; omega, by show (ssp + 6) + 6 ≤ 120000; omega⟩ (fun rq70 uq70 hq70 => ?_)
              · exact Nat.le_of_ble_eq_true rfl
              refine g_perm (ws1 := wV G x uq70) gPerm_n' ?_
              obtain ⟨eq70, hCq70⟩ := hq70
              rw [show fWhy Bp (nI kp) (nI vv) (nI dd) (nI yy) = _ from (fWhy_in (A := Bp) (p := kp) (v := vv) (d := dd) (y := yy) (by rw [hFp.2.1]; exact hkl) (by rw [hFp.2.1]; exact h8) hv10 (by rw [hFp.2.1]; exact hd1) hd9 hy8).trans (by rw [hFp.2.1])] at eq70 hCq70
              refine g_topL (y := (nI (gRA (aS A) kp vv dd yy)).toInt64) (eq70.trans (gCd_a rfl)) ?_
              refine g_lstore (lv' := [(34, .long ((nI (gRA (aS A) kp vv dd yy)).toInt64)), (33, .int (nI dd)), (32, .int (nI yy)), (30, .long ((nI t).toInt64)), (29, .int (nI vv)), (0, .ref (x.1 0)), (1, .int (nI z)), (2, .long (gNow (aS A))), (4, .long ((nI (sN (aS A) 0)).toInt64)), (6, .int (nI (sN (aS A) 1))), (7, .int (nI ((sB (aS A)).length))), (8, .int (nI (1 + (z % 20)))), (9, .long ((nI (nc 0)).toInt64)), (11, .long ((nI (nc 1)).toInt64)), (13, .long ((nI (nc 2)).toInt64)), (15, .long ((nI (nc 3)).toInt64)), (17, .int 1), (18, .long ((nI (nd 0 - nc 0)).toInt64)), (20, .long ((nI (nd 1 - nc 1)).toInt64)), (22, .long ((nI (nd 2 - nc 2)).toInt64)), (24, .long ((nI (nd 3 - nc 3)).toInt64)), (26, .long ((nI (sW (gDays (1 + z % 20) (aS A))).length).toInt64)), (28, .int (nI kp))]) E dL_follows_485 (by decide) rfl ?_
              refine g_lload E dL_follows_487 0 rfl ?_
              refine g_lconst (v := 0) E dL_follows_489 (by decide) ?_
              refine g_lcmp E dL_follows_490 ?_
              refine g_if_ne (tgt := 598) E dL_follows_491 (by decide) (fun c71 => ?_) (fun c71 => ?_)
              · skip
                have hR0 : ¬ gRA (aS A) kp vv dd yy = 0 := fun q => c71 ((gEq0_64 (by omega)).mpr q)
                refine g_lload E dL_follows_598 0 rfl ?_
                refine g_ldc2 (v := -9000000000000000002) E kL_follows_17 dL_follows_600 ?_
                refine g_lcmp E dL_follows_603 ?_
                refine g_if_eq (tgt := 662) E dL_follows_604 (by decide) (fun c => absurd c (gNeg_64 (by omega) (by decide))) (fun _ => ?_)
                refine g_lload E dL_follows_607 0 rfl ?_
                refine g_lconst (v := 1) E dL_follows_609 (by decide) ?_
                refine g_ldc2 (v := 8) E kL_follows_202 dL_follows_610 ?_
                refine g_callSI (As := [.long ((nI (gRA (aS A) kp vv dd yy)).toInt64), .long 1, .long 8]) (F := wV G x uq70) E (mL_in ((nI (gRA (aS A) kp vv dd yy)).toInt64) (1 : Int64) (8 : Int64)) gL_follows_L_in rfl hdL_in ⟨Nat.le_of_ble_eq_true rfl, Nat.le_of_ble_eq_true rfl⟩ (gPerm_rfl _) rfl rfl ?_ dL_follows_613 ⟨by show (csp + 2) + 0 ≤ 20000; omega, by show (ssp + 12) + 0 ≤ 120000; omega⟩ (fun rq72 uq72 hq72 => ?_)
                · exact Nat.le_of_ble_eq_true rfl
                refine g_ws (ws' := wV G x uq70) rfl ?_
                refine g_top (y := 1) (hq72.trans (if_pos (in64 (l := 1) (h := 8) rfl rfl (by omega) (by omega) (by decide)))) ?_
                refine g_if_eq (tgt := 659) E dL_follows_616 (by decide) (fun c => absurd c (by decide)) (fun _ => ?_)
                refine g_aload_n E dL_follows_619 rfl 5 rfl ?_
                refine g_iload E dL_follows_620 22 rfl ?_
                refine g_iload E dL_follows_622 4 rfl ?_
                refine g_iload E dL_follows_624 1 rfl ?_
                refine g_iload E dL_follows_626 2 rfl ?_
                refine g_callSWL (As := [.ref (x.1 0), .int (nI kp), .int (nI vv), .int (nI dd), .int (nI yy)]) (F := []) E (wL_book (x := x) hST hFp.2.2.2.1 hb5 hCq70 (nI kp) (nI vv) (nI dd) (nI yy)) gL_follows_L_book rfl hdL_book ⟨Nat.le_of_ble_eq_true rfl, Nat.le_of_ble_eq_true rfl⟩ gPerm_n rfl rfl ?_ dL_follows_628 ⟨by show (csp + 2) + 1 ≤ 20000; omega, by show (ssp + 12) + 6 ≤ 120000; omega⟩ (fun rq73 uq73 hq73 => ?_)
                · exact Nat.le_of_ble_eq_true rfl
                refine g_perm (ws1 := wV G x uq73) gPerm_n' ?_
                obtain ⟨eq73, hCq73⟩ := hq73
                rw [show aAct 1 2 3 Bp (gTryBook (aS Bp) (nI kp) (nI vv) (nI dd) (nI yy)) = _ from er_bookN (A := Bp) (p := kp) (v := vv) (d := dd) (y := yy) (by rw [hFp.2.1]; exact hkl) (by rw [hFp.2.1]; exact h8) hv10 (by rw [hFp.2.1]; exact hd1) hd9 hy8 (by rw [hFp.2.1]; exact hR0)] at eq73 hCq73
                refine g_topL (y := (-9000000000000000003)) (eq73.trans (gCd_k rfl rfl)) ?_
                refine g_ldc2 (v := -9000000000000000003) E kL_follows_21 dL_follows_631 ?_
                refine g_lcmp E dL_follows_634 ?_
                refine g_if_ne (tgt := 659) E dL_follows_635 (by decide) (fun c => absurd (gCmp_eq.mpr rfl) c) (fun _ => ?_)
                have htn : ¬ t = 8 * dd + yy := fun q => hR0 (by have h9 := ht3; rw [q, show (8 * dd + yy) / 8 = dd by omega, show (8 * dd + yy) % 8 = yy by omega] at h9; exact h9)
                refine g_lload E dL_follows_638 3 rfl ?_
                refine g_ldc2 (v := 8) E kL_follows_202 dL_follows_640 ?_
                refine g_iload E dL_follows_643 1 rfl ?_
                refine g_i2l (v := (nI dd).toInt64) E dL_follows_645 rfl ?_
                refine g_lmul E dL_follows_646 ?_
                refine g_iload E dL_follows_647 2 rfl ?_
                refine g_i2l (v := (nI yy).toInt64) E dL_follows_649 rfl ?_
                refine g_ladd E dL_follows_650 ?_
                refine g_topL (y := (nI (8 * dd + yy)).toInt64) ((tim64 (by omega) (by omega)).trans (gI64 _ (by omega)).symm) ?_
                refine g_lcmp E dL_follows_651 ?_
                refine g_if_eq (tgt := 659) E dL_follows_652 (by decide) (fun c => absurd c (fun q => htn ((gNeq64 (by omega) (by omega)).mp (gCmp_eq.mp q)))) (fun _ => ?_)
                refine g_iconst (v := 1) E dL_follows_655 (by decide) ?_
                refine g_goto (tgt := 660) E dL_follows_656 (by decide) ?_
                refine g_istore (lv' := [(17, .int 1), (34, .long ((nI (gRA (aS A) kp vv dd yy)).toInt64)), (33, .int (nI dd)), (32, .int (nI yy)), (30, .long ((nI t).toInt64)), (29, .int (nI vv)), (0, .ref (x.1 0)), (1, .int (nI z)), (2, .long (gNow (aS A))), (4, .long ((nI (sN (aS A) 0)).toInt64)), (6, .int (nI (sN (aS A) 1))), (7, .int (nI ((sB (aS A)).length))), (8, .int (nI (1 + (z % 20)))), (9, .long ((nI (nc 0)).toInt64)), (11, .long ((nI (nc 1)).toInt64)), (13, .long ((nI (nc 2)).toInt64)), (15, .long ((nI (nc 3)).toInt64)), (18, .long ((nI (nd 0 - nc 0)).toInt64)), (20, .long ((nI (nd 1 - nc 1)).toInt64)), (22, .long ((nI (nd 2 - nc 2)).toInt64)), (24, .long ((nI (nd 3 - nc 3)).toInt64)), (26, .long ((nI (sW (gDays (1 + z % 20) (aS A))).length).toInt64)), (28, .int (nI kp))]) E dL_follows_660 (by decide) rfl ?_
                have cut74 : ∀ (uq : gVu) (csq : Nat) (ssq : Nat), (gClsI Bp uq) → (csq ≤ (csp + 3) + 2) → (ssq ≤ (ssp + 18) + 12) → gW V 38 csq ssq (wV G x uq) [(0, .ref (x.1 0)), (1, .int (nI z)), (2, .long (gNow (aS A))), (4, .long ((nI (sN (aS A) 0)).toInt64)), (6, .int (nI (sN (aS A) 1))), (7, .int (nI ((sB (aS A)).length))), (8, .int (nI (1 + (z % 20)))), (9, .long ((nI (nc 0)).toInt64)), (11, .long ((nI (nc 1)).toInt64)), (13, .long ((nI (nc 2)).toInt64)), (15, .long ((nI (nc 3)).toInt64)), (17, .int 1), (18, .long ((nI (nd 0 - nc 0)).toInt64)), (20, .long ((nI (nd 1 - nc 1)).toInt64)), (22, .long ((nI (nd 2 - nc 2)).toInt64)), (24, .long ((nI (nd 3 - nc 3)).toInt64)), (26, .long ((nI (sW (gDays (1 + z % 20) (aS A))).length).toInt64)), (28, .int (nI kp)), (29, .int (nI vv)), (30, .long ((nI t).toInt64)), (32, .int (nI yy)), (33, .int (nI dd)), (34, .long ((nI (gRA (aS A) kp vv dd yy)).toInt64))] 763 [] := by
                  intro uq csq ssq hCq hcq hsq
                  refine g_iload E dL_follows_763 11 rfl ?_
                  refine g_if_eq (tgt := 850) E dL_follows_765 (by decide) (fun c => absurd c (by decide)) (fun _ => ?_)
                  refine g_iload E dL_follows_768 21 rfl ?_
                  refine g_sipush (v := 9999) E dL_follows_770 (by decide) ?_
                  refine g_icmp_gtN (tgt := 850) (a := dd) (b := 9999) E dL_follows_773 (by decide) (by omega) (by omega) (fun c75 => ?_) (fun c75 => ?_)
                  · exfalso
                    omega
                  · skip
                    refine g_lload E dL_follows_776 22 rfl ?_
                    refine g_lconst (v := 1) E dL_follows_778 (by decide) ?_
                    refine g_lcmp E dL_follows_779 ?_
                    refine g_if_le (tgt := 850) E dL_follows_780 (by decide) (fun c76 => ?_) (fun c76 => ?_)
                    · skip
                      refine g_iinc (lv' := [(28, .int (nI (kp + 1))), (0, .ref (x.1 0)), (1, .int (nI z)), (2, .long (gNow (aS A))), (4, .long ((nI (sN (aS A) 0)).toInt64)), (6, .int (nI (sN (aS A) 1))), (7, .int (nI ((sB (aS A)).length))), (8, .int (nI (1 + (z % 20)))), (9, .long ((nI (nc 0)).toInt64)), (11, .long ((nI (nc 1)).toInt64)), (13, .long ((nI (nc 2)).toInt64)), (15, .long ((nI (nc 3)).toInt64)), (17, .int 1), (18, .long ((nI (nd 0 - nc 0)).toInt64)), (20, .long ((nI (nd 1 - nc 1)).toInt64)), (22, .long ((nI (nd 2 - nc 2)).toInt64)), (24, .long ((nI (nd 3 - nc 3)).toInt64)), (26, .long ((nI (sW (gDays (1 + z % 20) (aS A))).length).toInt64)), (29, .int (nI vv)), (30, .long ((nI t).toInt64)), (32, .int (nI yy)), (33, .int (nI dd)), (34, .long ((nI (gRA (aS A) kp vv dd yy)).toInt64))]) E dL_follows_850 17 rfl (g_inc _ 1 (by decide)) (by decide) rfl ?_
                      refine g_goto (tgt := 392) E dL_follows_853 (by decide) ?_
                      refine g_lv [1, 2, 3, 4, 5, 6, 7, 8, 9, 10, 11, 12, 13, 14, 15, 16, 17, 0] rfl ?_
                      exact ih32  (kp + 1) Bp uq csq ssq (by omega) hFp hCq (by omega) (by omega) (by omega)
                    · skip
                      have hR1 : 1 < gRA (aS A) kp vv dd yy := by
                        rcases Nat.lt_or_ge 1 (gRA (aS A) kp vv dd yy) with q | q
                        · exact q
                        · exact absurd ((gLe64 (k := 1) (by decide) (by omega) (by decide)).mpr q) c76
                      refine g_aload_n E dL_follows_783 rfl 0 rfl ?_
                      refine g_iload E dL_follows_784 17 rfl ?_
                      refine g_iconst (v := 2) E dL_follows_786 (by decide) ?_
                      refine g_callSWL (As := [.ref (x.1 0), .int (nI kp), .int 2]) (F := []) E (wL_prisoner (x := x) hST hFp.2.2.2.1 hb5 hCq (nI kp) (2 : Int32)) gL_follows_L_prisoner rfl hdL_prisoner ⟨Nat.le_of_ble_eq_true rfl, Nat.le_of_ble_eq_true rfl⟩ gPerm_n rfl rfl ?_ dL_follows_787 ⟨by show csq + 1 ≤ 20000; omega, by show ssq + 6 ≤ 120000; omega⟩ (fun rq77 uq77 hq77 => ?_)
                      · exact Nat.le_of_ble_eq_true rfl
                      refine g_perm (ws1 := wV G x uq77) gPerm_n' ?_
                      obtain ⟨eq77, hCq77⟩ := hq77
                      rw [show fPris Bp (nI kp) (2 : Int32) = _ from (fPr_2 (A := Bp) (p := kp) (by rw [hFp.2.1]; exact hkl) (by rw [hFp.2.1]; exact h8)).trans (by rw [hFp.2.1])] at eq77 hCq77
                      refine g_topL (y := (sI (aS A) 2 kp).toInt64) (eq77.trans (gCd_a rfl)) ?_
                      refine g_lstore (lv' := [(36, .long ((sI (aS A) 2 kp).toInt64)), (0, .ref (x.1 0)), (1, .int (nI z)), (2, .long (gNow (aS A))), (4, .long ((nI (sN (aS A) 0)).toInt64)), (6, .int (nI (sN (aS A) 1))), (7, .int (nI ((sB (aS A)).length))), (8, .int (nI (1 + (z % 20)))), (9, .long ((nI (nc 0)).toInt64)), (11, .long ((nI (nc 1)).toInt64)), (13, .long ((nI (nc 2)).toInt64)), (15, .long ((nI (nc 3)).toInt64)), (17, .int 1), (18, .long ((nI (nd 0 - nc 0)).toInt64)), (20, .long ((nI (nd 1 - nc 1)).toInt64)), (22, .long ((nI (nd 2 - nc 2)).toInt64)), (24, .long ((nI (nd 3 - nc 3)).toInt64)), (26, .long ((nI (sW (gDays (1 + z % 20) (aS A))).length).toInt64)), (28, .int (nI kp)), (29, .int (nI vv)), (30, .long ((nI t).toInt64)), (32, .int (nI yy)), (33, .int (nI dd)), (34, .long ((nI (gRA (aS A) kp vv dd yy)).toInt64))]) E dL_follows_790 (by decide) rfl ?_
                      refine g_aload_n E dL_follows_792 rfl 1 rfl ?_
                      refine g_iload E dL_follows_793 18 rfl ?_
                      refine g_bipush (v := 20) E dL_follows_795 (by decide) ?_
                      refine g_callSWL (As := [.ref (x.1 0), .int (nI kp), .int 20]) (F := []) E (wL_punish (x := x) hST hFp.2.2.2.1 hb5 hCq77 (nI kp) (20 : Int32)) gL_follows_L_punish rfl hdL_punish ⟨Nat.le_of_ble_eq_true rfl, Nat.le_of_ble_eq_true rfl⟩ gPerm_n rfl rfl ?_ dL_follows_797 ⟨by show (csq + 1) + 1 ≤ 20000; omega, by show (ssq + 6) + 6 ≤ 120000; omega⟩ (fun rq78 uq78 hq78 => ?_)
                      · exact Nat.le_of_ble_eq_true rfl
                      refine g_perm (ws1 := wV G x uq78) gPerm_n' ?_
                      obtain ⟨eq78, hCq78⟩ := hq78
                      rw [show aAct 1 2 0 Bp (gTryPunish (aS Bp) (nI kp) (20 : Int32)) = _ from fPunish_in (A := Bp) (p := kp) (n := 20) (by rw [hFp.2.1]; exact hkl) (by rw [hFp.2.1]; exact h8) (by decide) (by rw [hFp.2.1]; exact (hng kp (by omega)).2.2.2)] at eq78 hCq78
                      refine g_topL (y := (sI (aS (Bp)) 2 kp).toInt64) (eq78.trans (gCd_a rfl)) ?_
                      refine g_lload E dL_follows_800 0 rfl ?_
                      refine g_lcmp E dL_follows_802 ?_
                      refine g_if_ne (tgt := 847) E dL_follows_803 (by decide) (fun c => absurd (gCmp_eq.mpr (by rw [hFp.2.1])) c) (fun _ => ?_)
                      refine g_aload_n E dL_follows_806 rfl 1 rfl ?_
                      refine g_iload E dL_follows_807 18 rfl ?_
                      refine g_iload E dL_follows_809 19 rfl ?_
                      refine g_iload E dL_follows_811 22 rfl ?_
                      refine g_iload E dL_follows_813 21 rfl ?_
                      refine g_callSWL (As := [.ref (x.1 0), .int (nI kp), .int (nI vv), .int (nI dd), .int (nI yy)]) (F := []) E (wL_whyNot (x := x) hST (gAok_pn (p := kp) (m := 20) hFp.2.2.2.1 hb (by rw [hFp.2.1]; exact hkl) (by decide)) hb5 hCq78 (nI kp) (nI vv) (nI dd) (nI yy)) gL_follows_L_whyNot rfl hdL_whyNot ⟨Nat.le_of_ble_eq_true rfl, Nat.le_of_ble_eq_true rfl⟩ gPerm_n rfl rfl ?_ dL_follows_815 ⟨by show (csq + 2) + 1 ≤ 20000; omega, by show (ssq + 12) + 6 ≤ 120000; omega⟩ (fun rq79 uq79 hq79 => ?_)
                      · exact Nat.le_of_ble_eq_true rfl
                      refine g_perm (ws1 := wV G x uq79) gPerm_n' ?_
                      obtain ⟨eq79, hCq79⟩ := hq79
                      rw [show fWhy (aRem (Bp) (gPun (aS (Bp)) kp 20)) (nI kp) (nI vv) (nI dd) (nI yy) = _ from (fWhy_in (A := aRem (Bp) (gPun (aS (Bp)) kp 20)) (p := kp) (v := vv) (d := dd) (y := yy) (show kp < sN (aS (Bp)) 1 from (by rw [hFp.2.1]; exact hkl)) (show sN (aS (Bp)) 1 ≤ 8 from (by rw [hFp.2.1]; exact h8)) hv10 (show sN (aS (Bp)) 0 ≤ dd from (by rw [hFp.2.1]; exact hd1)) hd9 hy8).trans (by rw [show gRA (aS (aRem (Bp) (gPun (aS (Bp)) kp 20))) kp vv dd yy = 2 from gRA_pun (S := aS (Bp)) (by rw [hFp.2.1]; exact gRA_list hR1) (by rw [hFp.2.1]; exact hd2) (by rw [hFp.2.1]; exact (by omega))])] at eq79 hCq79
                      refine g_topL (y := (2 : Int32).toInt64) (eq79.trans (gCd_a rfl)) ?_
                      refine g_ldc2 (v := 2) E kL_follows_214 dL_follows_818 ?_
                      refine g_lcmp E dL_follows_821 ?_
                      refine g_if_ne (tgt := 847) E dL_follows_822 (by decide) (fun c => absurd (gCmp_eq.mpr (by decide)) c) (fun _ => ?_)
                      refine g_aload_n E dL_follows_825 rfl 1 rfl ?_
                      refine g_callSWL (As := [.ref (x.1 0)]) (F := []) E (wL_undo (x := x) hST (gAok_pn (p := kp) (m := 20) hFp.2.2.2.1 hb (by rw [hFp.2.1]; exact hkl) (by decide)) hb5 hCq79 ) gL_follows_L_undo rfl hdL_undo ⟨Nat.le_of_ble_eq_true rfl, Nat.le_of_ble_eq_true rfl⟩ gPerm_n rfl rfl ?_ dL_follows_826 ⟨by show (csq + 3) + 1 ≤ 20000; omega, by show (ssq + 18) + 6 ≤ 120000; omega⟩ (fun rq80 uq80 hq80 => ?_)
                      · exact Nat.le_of_ble_eq_true rfl
                      refine g_perm (ws1 := wV G x uq80) gPerm_n' ?_
                      obtain ⟨eq80, hCq80⟩ := hq80
                      rw [show fUndo (aRem (Bp) (gPun (aS (Bp)) kp 20)) = _ from fUndo_rem (A := Bp)] at eq80 hCq80
                      refine g_topL (y := (nI (gHc (aC (Bp)) - 1)).toInt64) (eq80.trans (gCd_a rfl)) ?_
                      have hFq81 : gFw b A (gUnd (Bp)) := gFw_und hFp
                      refine g_lconst (v := 0) E dL_follows_829 (by decide) ?_
                      refine g_lcmp E dL_follows_830 ?_
                      refine g_if_lt (tgt := 847) E dL_follows_831 (by decide) (fun c => absurd c (gNn0 (gAok_hc hFp.2.2.2.1))) (fun _ => ?_)
                      refine g_aload_n E dL_follows_834 rfl 1 rfl ?_
                      refine g_callSL (As := [.ref (x.1 0)]) (F := []) E (mL_now (x := x) hST hb5 hFq81.2.2.2.1 hFq81.2.2.2.2 hCq80) gL_follows_L_now rfl hdL_now ⟨Nat.le_of_ble_eq_true rfl, Nat.le_of_ble_eq_true rfl⟩ gPerm_n rfl rfl ?_ dL_follows_835 ⟨by show (csq + 4) + 300 ≤ 20000; omega, by show (ssq + 24) + 1800 ≤ 120000; omega⟩ (fun rq82 uq82 hq82 => ?_)
                      · exact Nat.le_of_ble_eq_true rfl
                      refine g_perm (ws1 := wV G x uq82) gPerm_n' ?_
                      obtain ⟨eq82, hCq82⟩ := hq82
                      refine g_topL (y := gNow (aS A)) (eq82.trans (congrArg gNow hFq81.2.1)) ?_
                      refine g_lload_n E dL_follows_838 rfl 3 rfl ?_
                      refine g_lcmp E dL_follows_839 ?_
                      refine g_if_ne (tgt := 847) E dL_follows_840 (by decide) (fun c => absurd (gCmp_eq.mpr rfl) c) (fun _ => ?_)
                      refine g_iconst (v := 1) E dL_follows_843 (by decide) ?_
                      refine g_goto (tgt := 848) E dL_follows_844 (by decide) ?_
                      refine g_istore (lv' := [(17, .int 1), (36, .long ((sI (aS A) 2 kp).toInt64)), (0, .ref (x.1 0)), (1, .int (nI z)), (2, .long (gNow (aS A))), (4, .long ((nI (sN (aS A) 0)).toInt64)), (6, .int (nI (sN (aS A) 1))), (7, .int (nI ((sB (aS A)).length))), (8, .int (nI (1 + (z % 20)))), (9, .long ((nI (nc 0)).toInt64)), (11, .long ((nI (nc 1)).toInt64)), (13, .long ((nI (nc 2)).toInt64)), (15, .long ((nI (nc 3)).toInt64)), (18, .long ((nI (nd 0 - nc 0)).toInt64)), (20, .long ((nI (nd 1 - nc 1)).toInt64)), (22, .long ((nI (nd 2 - nc 2)).toInt64)), (24, .long ((nI (nd 3 - nc 3)).toInt64)), (26, .long ((nI (sW (gDays (1 + z % 20) (aS A))).length).toInt64)), (28, .int (nI kp)), (29, .int (nI vv)), (30, .long ((nI t).toInt64)), (32, .int (nI yy)), (33, .int (nI dd)), (34, .long ((nI (gRA (aS A) kp vv dd yy)).toInt64))]) E dL_follows_848 (by decide) rfl ?_
                      refine g_iinc (lv' := [(28, .int (nI (kp + 1))), (17, .int 1), (36, .long ((sI (aS A) 2 kp).toInt64)), (0, .ref (x.1 0)), (1, .int (nI z)), (2, .long (gNow (aS A))), (4, .long ((nI (sN (aS A) 0)).toInt64)), (6, .int (nI (sN (aS A) 1))), (7, .int (nI ((sB (aS A)).length))), (8, .int (nI (1 + (z % 20)))), (9, .long ((nI (nc 0)).toInt64)), (11, .long ((nI (nc 1)).toInt64)), (13, .long ((nI (nc 2)).toInt64)), (15, .long ((nI (nc 3)).toInt64)), (18, .long ((nI (nd 0 - nc 0)).toInt64)), (20, .long ((nI (nd 1 - nc 1)).toInt64)), (22, .long ((nI (nd 2 - nc 2)).toInt64)), (24, .long ((nI (nd 3 - nc 3)).toInt64)), (26, .long ((nI (sW (gDays (1 + z % 20) (aS A))).length).toInt64)), (29, .int (nI vv)), (30, .long ((nI t).toInt64)), (32, .int (nI yy)), (33, .int (nI dd)), (34, .long ((nI (gRA (aS A) kp vv dd yy)).toInt64))]) E dL_follows_850 18 rfl (g_inc _ 1 (by decide)) (by decide) rfl ?_
                      refine g_goto (tgt := 392) E dL_follows_853 (by decide) ?_
                      refine g_lv [3, 4, 5, 6, 7, 8, 9, 10, 11, 12, 13, 1, 14, 15, 16, 17, 18, 0] rfl ?_
                      exact ih32  (kp + 1) (gUnd (Bp)) uq82 (csq + 304) (ssq + 1824) (by omega) hFq81 hCq82 (by omega) (by omega) (by omega)
                refine g_iload E dL_follows_662 0 rfl ?_
                refine g_if_eq (tgt := 763) E dL_follows_664 (by decide) (fun c => absurd c (by decide)) (fun _ => ?_)
                refine g_lload E dL_follows_667 4 rfl ?_
                refine g_ldc2 (v := -1) E kL_follows_183 dL_follows_669 ?_
                refine g_lcmp E dL_follows_672 ?_
                refine g_if_eq (tgt := 763) E dL_follows_673 (by decide) (fun c => absurd c (gNeg_64 (by omega) (by decide))) (fun _ => ?_)
                refine g_lload E dL_follows_676 4 rfl ?_
                refine g_ldc2 (v := 8) E kL_follows_202 dL_follows_678 ?_
                refine g_ldiv E dL_follows_681 (by decide) ?_
                refine g_topL (y := (nI (t / 8)).toInt64) (div64 (d := 8) (by omega) (by decide)) ?_
                refine g_ldc2 (v := 9999) E kL_follows_242 dL_follows_682 ?_
                refine g_lcmp E dL_follows_685 ?_
                refine g_if_gt (tgt := 763) E dL_follows_686 (by decide) (fun c83 => ?_) (fun c83 => ?_)
                · skip
                  refine g_lv [6, 7, 8, 9, 10, 11, 12, 13, 14, 15, 16, 0, 17, 18, 19, 20, 21, 22, 5, 4, 3, 2, 1] rfl ?_
                  exact cut74 uq73 (csp + 3) (ssp + 18) hCq73 (by omega) (by omega)
                · skip
                  have ht9 : t / 8 ≤ 9999 := by
                    rcases Nat.lt_or_ge 9999 (t / 8) with q | q
                    · exact absurd ((gGt64 (k := 9999) (by decide) (by omega) (by decide)).mpr q) c83
                    · exact q
                  refine g_aload_n E dL_follows_689 rfl 6 rfl ?_
                  refine g_iload E dL_follows_690 22 rfl ?_
                  refine g_iload E dL_follows_692 5 rfl ?_
                  refine g_lload E dL_follows_694 4 rfl ?_
                  refine g_ldc2 (v := 8) E kL_follows_202 dL_follows_696 ?_
                  refine g_ldiv E dL_follows_699 (by decide) ?_
                  refine g_topL (y := (nI (t / 8)).toInt64) (div64 (d := 8) (by omega) (by decide)) ?_
                  refine g_l2i (v := nI (t / 8)) E dL_follows_700 (gL2I _) ?_
                  refine g_lload E dL_follows_701 4 rfl ?_
                  refine g_ldc2 (v := 8) E kL_follows_202 dL_follows_703 ?_
                  refine g_lrem E dL_follows_706 (by decide) ?_
                  refine g_topL (y := (nI (t % 8)).toInt64) (rem64 (d := 8) (by omega) (by decide)) ?_
                  refine g_l2i (v := nI (t % 8)) E dL_follows_707 (gL2I _) ?_
                  refine g_callSWL (As := [.ref (x.1 0), .int (nI kp), .int (nI vv), .int (nI (t / 8)), .int (nI (t % 8))]) (F := []) E (wL_whyNot (x := x) hST hFp.2.2.2.1 hb5 hCq73 (nI kp) (nI vv) (nI (t / 8)) (nI (t % 8))) gL_follows_L_whyNot rfl hdL_whyNot ⟨Nat.le_of_ble_eq_true rfl, Nat.le_of_ble_eq_true rfl⟩ gPerm_n rfl rfl ?_ dL_follows_708 ⟨by show (csp + 3) + 1 ≤ 20000; omega, by show (ssp + 18) + 6 ≤ 120000; omega⟩ (fun rq84 uq84 hq84 => ?_)
                  · exact Nat.le_of_ble_eq_true rfl
                  refine g_perm (ws1 := wV G x uq84) gPerm_n' ?_
                  obtain ⟨eq84, hCq84⟩ := hq84
                  rw [show fWhy Bp (nI kp) (nI vv) (nI (t / 8)) (nI (t % 8)) = _ from (fWhy_in (A := Bp) (p := kp) (v := vv) (d := t / 8) (y := t % 8) (by rw [hFp.2.1]; exact hkl) (by rw [hFp.2.1]; exact h8) hv10 (by rw [hFp.2.1]; exact (by omega)) ht9 (by omega)).trans (by rw [hFp.2.1, ht3, show nI 0 = (0 : Int32) from rfl])] at eq84 hCq84
                  refine g_topL (y := (0 : Int32).toInt64) (eq84.trans (gCd_a rfl)) ?_
                  refine g_lconst (v := 0) E dL_follows_711 (by decide) ?_
                  refine g_lcmp E dL_follows_712 ?_
                  refine g_if_ne (tgt := 760) E dL_follows_713 (by decide) (fun c => absurd (gCmp_eq.mpr (by decide)) c) (fun _ => ?_)
                  refine g_lload E dL_follows_716 4 rfl ?_
                  refine g_ldc2 (v := 8) E kL_follows_202 dL_follows_718 ?_
                  refine g_lrem E dL_follows_721 (by decide) ?_
                  refine g_topL (y := (nI (t % 8)).toInt64) (rem64 (d := 8) (by omega) (by decide)) ?_
                  refine g_lconst (v := 0) E dL_follows_722 (by decide) ?_
                  refine g_lcmp E dL_follows_723 ?_
                  refine g_if_eq (tgt := 756) E dL_follows_724 (by decide) (fun c85 => ?_) (fun c85 => ?_)
                  · skip
                    refine g_iconst (v := 1) E dL_follows_756 (by decide) ?_
                    refine g_goto (tgt := 761) E dL_follows_757 (by decide) ?_
                    refine g_istore (lv' := [(17, .int 1), (34, .long ((nI (gRA (aS A) kp vv dd yy)).toInt64)), (33, .int (nI dd)), (32, .int (nI yy)), (30, .long ((nI t).toInt64)), (29, .int (nI vv)), (0, .ref (x.1 0)), (1, .int (nI z)), (2, .long (gNow (aS A))), (4, .long ((nI (sN (aS A) 0)).toInt64)), (6, .int (nI (sN (aS A) 1))), (7, .int (nI ((sB (aS A)).length))), (8, .int (nI (1 + (z % 20)))), (9, .long ((nI (nc 0)).toInt64)), (11, .long ((nI (nc 1)).toInt64)), (13, .long ((nI (nc 2)).toInt64)), (15, .long ((nI (nc 3)).toInt64)), (18, .long ((nI (nd 0 - nc 0)).toInt64)), (20, .long ((nI (nd 1 - nc 1)).toInt64)), (22, .long ((nI (nd 2 - nc 2)).toInt64)), (24, .long ((nI (nd 3 - nc 3)).toInt64)), (26, .long ((nI (sW (gDays (1 + z % 20) (aS A))).length).toInt64)), (28, .int (nI kp))]) E dL_follows_761 (by decide) rfl ?_
                    refine g_lv [6, 7, 8, 9, 10, 11, 12, 13, 14, 15, 16, 0, 17, 18, 19, 20, 21, 22, 5, 4, 3, 2, 1] rfl ?_
                    exact cut74 uq84 (csp + 4) (ssp + 24) hCq84 (by omega) (by omega)
                  · skip
                    have hy0 : ¬ t % 8 = 0 := fun q => c85 ((gEq0_64 (by omega)).mpr q)
                    have hmn := gEar_min he (j := t - 1) (by omega) (by omega)
                    rw [show (t - 1) / 8 = t / 8 by omega, show (t - 1) % 8 = t % 8 - 1 by omega] at hmn
                    refine g_aload_n E dL_follows_727 rfl 6 rfl ?_
                    refine g_iload E dL_follows_728 22 rfl ?_
                    refine g_iload E dL_follows_730 5 rfl ?_
                    refine g_lload E dL_follows_732 4 rfl ?_
                    refine g_ldc2 (v := 8) E kL_follows_202 dL_follows_734 ?_
                    refine g_ldiv E dL_follows_737 (by decide) ?_
                    refine g_topL (y := (nI (t / 8)).toInt64) (div64 (d := 8) (by omega) (by decide)) ?_
                    refine g_l2i (v := nI (t / 8)) E dL_follows_738 (gL2I _) ?_
                    refine g_lload E dL_follows_739 4 rfl ?_
                    refine g_ldc2 (v := 8) E kL_follows_202 dL_follows_741 ?_
                    refine g_lrem E dL_follows_744 (by decide) ?_
                    refine g_topL (y := (nI (t % 8)).toInt64) (rem64 (d := 8) (by omega) (by decide)) ?_
                    refine g_l2i (v := nI (t % 8)) E dL_follows_745 (gL2I _) ?_
                    refine g_iconst (v := 1) E dL_follows_746 (by decide) ?_
                    refine g_isubN (a := t % 8) (b := 1) E dL_follows_747 (by omega) ?_
                    refine g_callSWL (As := [.ref (x.1 0), .int (nI kp), .int (nI vv), .int (nI (t / 8)), .int (nI (t % 8 - 1))]) (F := []) E (wL_whyNot (x := x) hST hFp.2.2.2.1 hb5 hCq84 (nI kp) (nI vv) (nI (t / 8)) (nI (t % 8 - 1))) gL_follows_L_whyNot rfl hdL_whyNot ⟨Nat.le_of_ble_eq_true rfl, Nat.le_of_ble_eq_true rfl⟩ gPerm_n rfl rfl ?_ dL_follows_748 ⟨by show (csp + 4) + 1 ≤ 20000; omega, by show (ssp + 24) + 6 ≤ 120000; omega⟩ (fun rq86 uq86 hq86 => ?_)
                    · exact Nat.le_of_ble_eq_true rfl
                    refine g_perm (ws1 := wV G x uq86) gPerm_n' ?_
                    obtain ⟨eq86, hCq86⟩ := hq86
                    rw [show fWhy Bp (nI kp) (nI vv) (nI (t / 8)) (nI (t % 8 - 1)) = _ from (fWhy_in (A := Bp) (p := kp) (v := vv) (d := t / 8) (y := t % 8 - 1) (by rw [hFp.2.1]; exact hkl) (by rw [hFp.2.1]; exact h8) hv10 (by rw [hFp.2.1]; exact (by omega)) ht9 (by omega)).trans (by rw [hFp.2.1])] at eq86 hCq86
                    refine g_topL (y := (nI (gRA (aS A) kp vv (t / 8) (t % 8 - 1))).toInt64) (eq86.trans (gCd_a rfl)) ?_
                    refine g_lconst (v := 0) E dL_follows_751 (by decide) ?_
                    refine g_lcmp E dL_follows_752 ?_
                    refine g_if_le (tgt := 760) E dL_follows_753 (by decide) (fun c => absurd c (gPos64 (by omega) (by have := gRA_le (aS A) kp vv (t / 8) (t % 8 - 1); omega))) (fun _ => ?_)
                    refine g_iconst (v := 1) E dL_follows_756 (by decide) ?_
                    refine g_goto (tgt := 761) E dL_follows_757 (by decide) ?_
                    refine g_istore (lv' := [(17, .int 1), (34, .long ((nI (gRA (aS A) kp vv dd yy)).toInt64)), (33, .int (nI dd)), (32, .int (nI yy)), (30, .long ((nI t).toInt64)), (29, .int (nI vv)), (0, .ref (x.1 0)), (1, .int (nI z)), (2, .long (gNow (aS A))), (4, .long ((nI (sN (aS A) 0)).toInt64)), (6, .int (nI (sN (aS A) 1))), (7, .int (nI ((sB (aS A)).length))), (8, .int (nI (1 + (z % 20)))), (9, .long ((nI (nc 0)).toInt64)), (11, .long ((nI (nc 1)).toInt64)), (13, .long ((nI (nc 2)).toInt64)), (15, .long ((nI (nc 3)).toInt64)), (18, .long ((nI (nd 0 - nc 0)).toInt64)), (20, .long ((nI (nd 1 - nc 1)).toInt64)), (22, .long ((nI (nd 2 - nc 2)).toInt64)), (24, .long ((nI (nd 3 - nc 3)).toInt64)), (26, .long ((nI (sW (gDays (1 + z % 20) (aS A))).length).toInt64)), (28, .int (nI kp))]) E dL_follows_761 (by decide) rfl ?_
                    refine g_lv [6, 7, 8, 9, 10, 11, 12, 13, 14, 15, 16, 0, 17, 18, 19, 20, 21, 22, 5, 4, 3, 2, 1] rfl ?_
                    exact cut74 uq86 (csp + 5) (ssp + 30) hCq86 (by omega) (by omega)
              · skip
                have hR0 : gRA (aS A) kp vv dd yy = 0 := (gEq0_64 (by omega)).mp c71
                obtain ⟨t9, ha9, hb9⟩ := gEar_ex (S := aS A) (p := kp) (v := vv) (n := 60) (d := dd) (y := yy) hy8 (by omega) (by omega) hR0
                obtain rfl : t = t9 := Option.some.inj (he.symm.trans ha9)
                refine g_lload E dL_follows_494 3 rfl ?_
                refine g_ldc2 (v := -1) E kL_follows_183 dL_follows_496 ?_
                refine g_lcmp E dL_follows_499 ?_
                refine g_if_eq (tgt := 592) E dL_follows_500 (by decide) (fun c => absurd c (gNeg_64 (by omega) (by decide))) (fun _ => ?_)
                refine g_lload E dL_follows_503 3 rfl ?_
                refine g_ldc2 (v := 8) E kL_follows_202 dL_follows_505 ?_
                refine g_iload E dL_follows_508 1 rfl ?_
                refine g_i2l (v := (nI dd).toInt64) E dL_follows_510 rfl ?_
                refine g_lmul E dL_follows_511 ?_
                refine g_iload E dL_follows_512 2 rfl ?_
                refine g_i2l (v := (nI yy).toInt64) E dL_follows_514 rfl ?_
                refine g_ladd E dL_follows_515 ?_
                refine g_topL (y := (nI (8 * dd + yy)).toInt64) ((tim64 (by omega) (by omega)).trans (gI64 _ (by omega)).symm) ?_
                refine g_lcmp E dL_follows_516 ?_
                refine g_if_gt (tgt := 592) E dL_follows_517 (by decide) (fun c => absurd c (fun q => absurd ((gGt64 (k := 8 * dd + yy) rfl (by omega) (by omega)).mp q) (by omega))) (fun _ => ?_)
                refine g_aload_n E dL_follows_520 rfl 5 rfl ?_
                refine g_iload E dL_follows_521 22 rfl ?_
                refine g_iload E dL_follows_523 4 rfl ?_
                refine g_iload E dL_follows_525 1 rfl ?_
                refine g_iload E dL_follows_527 2 rfl ?_
                refine g_callSWL (As := [.ref (x.1 0), .int (nI kp), .int (nI vv), .int (nI dd), .int (nI yy)]) (F := []) E (wL_book (x := x) hST hFp.2.2.2.1 hb5 hCq70 (nI kp) (nI vv) (nI dd) (nI yy)) gL_follows_L_book rfl hdL_book ⟨Nat.le_of_ble_eq_true rfl, Nat.le_of_ble_eq_true rfl⟩ gPerm_n rfl rfl ?_ dL_follows_529 ⟨by show (csp + 2) + 1 ≤ 20000; omega, by show (ssp + 12) + 6 ≤ 120000; omega⟩ (fun rq87 uq87 hq87 => ?_)
                · exact Nat.le_of_ble_eq_true rfl
                refine g_perm (ws1 := wV G x uq87) gPerm_n' ?_
                obtain ⟨eq87, hCq87⟩ := hq87
                rw [show aAct 1 2 3 Bp (gTryBook (aS Bp) (nI kp) (nI vv) (nI dd) (nI yy)) = _ from fBook_in (A := Bp) (p := kp) (v := vv) (d := dd) (y := yy) (by rw [hFp.2.1]; exact hkl) (by rw [hFp.2.1]; exact h8) hv10 (by rw [hFp.2.1]; exact hd1) hd9 hy8 (by rw [hFp.2.1]; exact hR0)] at eq87 hCq87
                refine g_topL (y := (nI (gFr (gVih (sB (aS (Bp))) 2 dd yy (sB (aS (Bp))).length))).toInt64) (eq87.trans (gCd_a rfl)) ?_
                refine g_lconst (v := 0) E dL_follows_532 (by decide) ?_
                refine g_lcmp E dL_follows_533 ?_
                refine g_if_lt (tgt := 592) E dL_follows_534 (by decide) (fun c => absurd c (gNn0 (by have := gFr_le (gVih (sB (aS (Bp))) 2 dd yy (sB (aS (Bp))).length); omega))) (fun _ => ?_)
                refine g_aload_n E dL_follows_537 rfl 5 rfl ?_
                refine g_iconst (v := 2) E dL_follows_538 (by decide) ?_
                refine g_callSWL (As := [.ref (x.1 0), .int 2]) (F := []) E (wL_about (x := x) hST (gAok_bk hFp.2.2.2.1 hb (by rw [hFp.2.1]; exact hkl) hv10 (by rw [hFp.2.1]; exact hd1) hd9 hy8 (by rw [hFp.2.1]; exact hR0)) hb5 hCq87 (2 : Int32)) gL_follows_L_about rfl hdL_about ⟨Nat.le_of_ble_eq_true rfl, Nat.le_of_ble_eq_true rfl⟩ gPerm_n rfl rfl ?_ dL_follows_539 ⟨by show (csp + 3) + 1 ≤ 20000; omega, by show (ssp + 18) + 6 ≤ 120000; omega⟩ (fun rq88 uq88 hq88 => ?_)
                · exact Nat.le_of_ble_eq_true rfl
                refine g_perm (ws1 := wV G x uq88) gPerm_n' ?_
                obtain ⟨eq88, hCq88⟩ := hq88
                rw [show fAbout (aRem (Bp) (gBook (aS (Bp)) kp vv dd yy)) (2 : Int32) = _ from (fAbout_2 (A := aRem (Bp) (gBook (aS (Bp)) kp vv dd yy))).trans (by rw [show (sB (aS (aRem (Bp) (gBook (aS (Bp)) kp vv dd yy)))).length = (sB (aS A)).length + 1 from (gBook_len (S := aS (Bp))).trans (by rw [hFp.2.1])])] at eq88 hCq88
                refine g_topL (y := (nI ((sB (aS A)).length + 1)).toInt64) (eq88.trans (gCd_a rfl)) ?_
                refine g_iload E dL_follows_542 10 rfl ?_
                refine g_i2l (v := (nI ((sB (aS A)).length)).toInt64) E dL_follows_544 rfl ?_
                refine g_lconst (v := 1) E dL_follows_545 (by decide) ?_
                refine g_ladd E dL_follows_546 ?_
                refine g_lcmp E dL_follows_547 ?_
                refine g_if_ne (tgt := 592) E dL_follows_548 (by decide) (fun c => absurd (gCmp_eq.mpr (one64 (by omega))) c) (fun _ => ?_)
                refine g_aload_n E dL_follows_551 rfl 5 rfl ?_
                refine g_iload E dL_follows_552 22 rfl ?_
                refine g_iload E dL_follows_554 4 rfl ?_
                refine g_iload E dL_follows_556 1 rfl ?_
                refine g_iload E dL_follows_558 2 rfl ?_
                refine g_callSWL (As := [.ref (x.1 0), .int (nI kp), .int (nI vv), .int (nI dd), .int (nI yy)]) (F := []) E (wL_whyNot (x := x) hST (gAok_bk hFp.2.2.2.1 hb (by rw [hFp.2.1]; exact hkl) hv10 (by rw [hFp.2.1]; exact hd1) hd9 hy8 (by rw [hFp.2.1]; exact hR0)) hb5 hCq88 (nI kp) (nI vv) (nI dd) (nI yy)) gL_follows_L_whyNot rfl hdL_whyNot ⟨Nat.le_of_ble_eq_true rfl, Nat.le_of_ble_eq_true rfl⟩ gPerm_n rfl rfl ?_ dL_follows_560 ⟨by show (csp + 4) + 1 ≤ 20000; omega, by show (ssp + 24) + 6 ≤ 120000; omega⟩ (fun rq89 uq89 hq89 => ?_)
                · exact Nat.le_of_ble_eq_true rfl
                refine g_perm (ws1 := wV G x uq89) gPerm_n' ?_
                obtain ⟨eq89, hCq89⟩ := hq89
                rw [show fWhy (aRem (Bp) (gBook (aS (Bp)) kp vv dd yy)) (nI kp) (nI vv) (nI dd) (nI yy) = _ from fWhy_in (A := aRem (Bp) (gBook (aS (Bp)) kp vv dd yy)) (p := kp) (v := vv) (d := dd) (y := yy) (show kp < sN (aS (Bp)) 1 from (by rw [hFp.2.1]; exact hkl)) (show sN (aS (Bp)) 1 ≤ 8 from (by rw [hFp.2.1]; exact h8)) hv10 (show sN (aS (Bp)) 0 ≤ dd from (by rw [hFp.2.1]; exact hd1)) hd9 hy8] at eq89 hCq89
                refine g_topL (y := (nI (gRA (gBook (aS (Bp)) kp vv dd yy) kp vv dd yy)).toInt64) (eq89.trans (gCd_a rfl)) ?_
                refine g_ldc2 (v := 4) E kL_follows_222 dL_follows_563 ?_
                refine g_lcmp E dL_follows_566 ?_
                refine g_if_lt (tgt := 592) E dL_follows_567 (by decide) (fun c => absurd c (gGe64 (k := 4) (by decide) (gRA_book (S := aS (Bp)) hFp.2.2.2.1.2.1.1.1.1 (by rw [hFp.2.1]; exact hR0) (by omega)) (by have := gRA_le (gBook (aS (Bp)) kp vv dd yy) kp vv dd yy; omega))) (fun _ => ?_)
                refine g_aload_n E dL_follows_570 rfl 5 rfl ?_
                refine g_callSWL (As := [.ref (x.1 0)]) (F := []) E (wL_undo (x := x) hST (gAok_bk hFp.2.2.2.1 hb (by rw [hFp.2.1]; exact hkl) hv10 (by rw [hFp.2.1]; exact hd1) hd9 hy8 (by rw [hFp.2.1]; exact hR0)) hb5 hCq89 ) gL_follows_L_undo rfl hdL_undo ⟨Nat.le_of_ble_eq_true rfl, Nat.le_of_ble_eq_true rfl⟩ gPerm_n rfl rfl ?_ dL_follows_571 ⟨by show (csp + 5) + 1 ≤ 20000; omega, by show (ssp + 30) + 6 ≤ 120000; omega⟩ (fun rq90 uq90 hq90 => ?_)
                · exact Nat.le_of_ble_eq_true rfl
                refine g_perm (ws1 := wV G x uq90) gPerm_n' ?_
                obtain ⟨eq90, hCq90⟩ := hq90
                rw [show fUndo (aRem (Bp) (gBook (aS (Bp)) kp vv dd yy)) = _ from fUndo_rem (A := Bp)] at eq90 hCq90
                refine g_topL (y := (nI (gHc (aC (Bp)) - 1)).toInt64) (eq90.trans (gCd_a rfl)) ?_
                have hFq91 : gFw b A (gUnd (Bp)) := gFw_und hFp
                refine g_lconst (v := 0) E dL_follows_574 (by decide) ?_
                refine g_lcmp E dL_follows_575 ?_
                refine g_if_lt (tgt := 592) E dL_follows_576 (by decide) (fun c => absurd c (gNn0 (gAok_hc hFp.2.2.2.1))) (fun _ => ?_)
                refine g_aload_n E dL_follows_579 rfl 5 rfl ?_
                refine g_callSL (As := [.ref (x.1 0)]) (F := []) E (mL_now (x := x) hST hb5 hFq91.2.2.2.1 hFq91.2.2.2.2 hCq90) gL_follows_L_now rfl hdL_now ⟨Nat.le_of_ble_eq_true rfl, Nat.le_of_ble_eq_true rfl⟩ gPerm_n rfl rfl ?_ dL_follows_580 ⟨by show (csp + 6) + 300 ≤ 20000; omega, by show (ssp + 36) + 1800 ≤ 120000; omega⟩ (fun rq92 uq92 hq92 => ?_)
                · exact Nat.le_of_ble_eq_true rfl
                refine g_perm (ws1 := wV G x uq92) gPerm_n' ?_
                obtain ⟨eq92, hCq92⟩ := hq92
                refine g_topL (y := gNow (aS A)) (eq92.trans (congrArg gNow hFq91.2.1)) ?_
                refine g_lload_n E dL_follows_583 rfl 7 rfl ?_
                refine g_lcmp E dL_follows_584 ?_
                refine g_if_ne (tgt := 592) E dL_follows_585 (by decide) (fun c => absurd (gCmp_eq.mpr rfl) c) (fun _ => ?_)
                refine g_iconst (v := 1) E dL_follows_588 (by decide) ?_
                refine g_goto (tgt := 593) E dL_follows_589 (by decide) ?_
                refine g_istore (lv' := [(17, .int 1), (34, .long ((nI (gRA (aS A) kp vv dd yy)).toInt64)), (33, .int (nI dd)), (32, .int (nI yy)), (30, .long ((nI t).toInt64)), (29, .int (nI vv)), (0, .ref (x.1 0)), (1, .int (nI z)), (2, .long (gNow (aS A))), (4, .long ((nI (sN (aS A) 0)).toInt64)), (6, .int (nI (sN (aS A) 1))), (7, .int (nI ((sB (aS A)).length))), (8, .int (nI (1 + (z % 20)))), (9, .long ((nI (nc 0)).toInt64)), (11, .long ((nI (nc 1)).toInt64)), (13, .long ((nI (nc 2)).toInt64)), (15, .long ((nI (nc 3)).toInt64)), (18, .long ((nI (nd 0 - nc 0)).toInt64)), (20, .long ((nI (nd 1 - nc 1)).toInt64)), (22, .long ((nI (nd 2 - nc 2)).toInt64)), (24, .long ((nI (nd 3 - nc 3)).toInt64)), (26, .long ((nI (sW (gDays (1 + z % 20) (aS A))).length).toInt64)), (28, .int (nI kp))]) E dL_follows_593 (by decide) rfl ?_
                refine g_goto (tgt := 662) E dL_follows_595 (by decide) ?_
                have cut93 : ∀ (uq : gVu) (csq : Nat) (ssq : Nat), (gClsI (gUnd (Bp)) uq) → (csq ≤ (csp + 306) + 2) → (ssq ≤ (ssp + 1836) + 12) → gW V 38 csq ssq (wV G x uq) [(0, .ref (x.1 0)), (1, .int (nI z)), (2, .long (gNow (aS A))), (4, .long ((nI (sN (aS A) 0)).toInt64)), (6, .int (nI (sN (aS A) 1))), (7, .int (nI ((sB (aS A)).length))), (8, .int (nI (1 + (z % 20)))), (9, .long ((nI (nc 0)).toInt64)), (11, .long ((nI (nc 1)).toInt64)), (13, .long ((nI (nc 2)).toInt64)), (15, .long ((nI (nc 3)).toInt64)), (17, .int 1), (18, .long ((nI (nd 0 - nc 0)).toInt64)), (20, .long ((nI (nd 1 - nc 1)).toInt64)), (22, .long ((nI (nd 2 - nc 2)).toInt64)), (24, .long ((nI (nd 3 - nc 3)).toInt64)), (26, .long ((nI (sW (gDays (1 + z % 20) (aS A))).length).toInt64)), (28, .int (nI kp)), (29, .int (nI vv)), (30, .long ((nI t).toInt64)), (32, .int (nI yy)), (33, .int (nI dd)), (34, .long ((nI (gRA (aS A) kp vv dd yy)).toInt64))] 763 [] := by
                  intro uq csq ssq hCq hcq hsq
                  refine g_iload E dL_follows_763 11 rfl ?_
                  refine g_if_eq (tgt := 850) E dL_follows_765 (by decide) (fun c => absurd c (by decide)) (fun _ => ?_)
                  refine g_iload E dL_follows_768 21 rfl ?_
                  refine g_sipush (v := 9999) E dL_follows_770 (by decide) ?_
                  refine g_icmp_gtN (tgt := 850) (a := dd) (b := 9999) E dL_follows_773 (by decide) (by omega) (by omega) (fun c94 => ?_) (fun c94 => ?_)
                  · exfalso
                    omega
                  · skip
                    refine g_lload E dL_follows_776 22 rfl ?_
                    refine g_lconst (v := 1) E dL_follows_778 (by decide) ?_
                    refine g_lcmp E dL_follows_779 ?_
                    refine g_if_le (tgt := 850) E dL_follows_780 (by decide) (fun _ => ?_) (fun c => absurd ((gLe64 (k := 1) (by decide) (by omega) (by decide)).mpr (by omega)) c)
                    refine g_iinc (lv' := [(28, .int (nI (kp + 1))), (0, .ref (x.1 0)), (1, .int (nI z)), (2, .long (gNow (aS A))), (4, .long ((nI (sN (aS A) 0)).toInt64)), (6, .int (nI (sN (aS A) 1))), (7, .int (nI ((sB (aS A)).length))), (8, .int (nI (1 + (z % 20)))), (9, .long ((nI (nc 0)).toInt64)), (11, .long ((nI (nc 1)).toInt64)), (13, .long ((nI (nc 2)).toInt64)), (15, .long ((nI (nc 3)).toInt64)), (17, .int 1), (18, .long ((nI (nd 0 - nc 0)).toInt64)), (20, .long ((nI (nd 1 - nc 1)).toInt64)), (22, .long ((nI (nd 2 - nc 2)).toInt64)), (24, .long ((nI (nd 3 - nc 3)).toInt64)), (26, .long ((nI (sW (gDays (1 + z % 20) (aS A))).length).toInt64)), (29, .int (nI vv)), (30, .long ((nI t).toInt64)), (32, .int (nI yy)), (33, .int (nI dd)), (34, .long ((nI (gRA (aS A) kp vv dd yy)).toInt64))]) E dL_follows_850 17 rfl (g_inc _ 1 (by decide)) (by decide) rfl ?_
                    refine g_goto (tgt := 392) E dL_follows_853 (by decide) ?_
                    refine g_lv [1, 2, 3, 4, 5, 6, 7, 8, 9, 10, 11, 12, 13, 14, 15, 16, 17, 0] rfl ?_
                    exact ih32  (kp + 1) (gUnd (Bp)) uq csq ssq (by omega) hFq91 hCq (by omega) (by omega) (by omega)
                refine g_iload E dL_follows_662 0 rfl ?_
                refine g_if_eq (tgt := 763) E dL_follows_664 (by decide) (fun c => absurd c (by decide)) (fun _ => ?_)
                refine g_lload E dL_follows_667 4 rfl ?_
                refine g_ldc2 (v := -1) E kL_follows_183 dL_follows_669 ?_
                refine g_lcmp E dL_follows_672 ?_
                refine g_if_eq (tgt := 763) E dL_follows_673 (by decide) (fun c => absurd c (gNeg_64 (by omega) (by decide))) (fun _ => ?_)
                refine g_lload E dL_follows_676 4 rfl ?_
                refine g_ldc2 (v := 8) E kL_follows_202 dL_follows_678 ?_
                refine g_ldiv E dL_follows_681 (by decide) ?_
                refine g_topL (y := (nI (t / 8)).toInt64) (div64 (d := 8) (by omega) (by decide)) ?_
                refine g_ldc2 (v := 9999) E kL_follows_242 dL_follows_682 ?_
                refine g_lcmp E dL_follows_685 ?_
                refine g_if_gt (tgt := 763) E dL_follows_686 (by decide) (fun c95 => ?_) (fun c95 => ?_)
                · skip
                  refine g_lv [6, 7, 8, 9, 10, 11, 12, 13, 14, 15, 16, 0, 17, 18, 19, 20, 21, 22, 5, 4, 3, 2, 1] rfl ?_
                  exact cut93 uq92 (csp + 306) (ssp + 1836) hCq92 (by omega) (by omega)
                · skip
                  have ht9 : t / 8 ≤ 9999 := by
                    rcases Nat.lt_or_ge 9999 (t / 8) with q | q
                    · exact absurd ((gGt64 (k := 9999) (by decide) (by omega) (by decide)).mpr q) c95
                    · exact q
                  refine g_aload_n E dL_follows_689 rfl 6 rfl ?_
                  refine g_iload E dL_follows_690 22 rfl ?_
                  refine g_iload E dL_follows_692 5 rfl ?_
                  refine g_lload E dL_follows_694 4 rfl ?_
                  refine g_ldc2 (v := 8) E kL_follows_202 dL_follows_696 ?_
                  refine g_ldiv E dL_follows_699 (by decide) ?_
                  refine g_topL (y := (nI (t / 8)).toInt64) (div64 (d := 8) (by omega) (by decide)) ?_
                  refine g_l2i (v := nI (t / 8)) E dL_follows_700 (gL2I _) ?_
                  refine g_lload E dL_follows_701 4 rfl ?_
                  refine g_ldc2 (v := 8) E kL_follows_202 dL_follows_703 ?_
                  refine g_lrem E dL_follows_706 (by decide) ?_
                  refine g_topL (y := (nI (t % 8)).toInt64) (rem64 (d := 8) (by omega) (by decide)) ?_
                  refine g_l2i (v := nI (t % 8)) E dL_follows_707 (gL2I _) ?_
                  refine g_callSWL (As := [.ref (x.1 0), .int (nI kp), .int (nI vv), .int (nI (t / 8)), .int (nI (t % 8))]) (F := []) E (wL_whyNot (x := x) hST hFq91.2.2.2.1 hb5 hCq92 (nI kp) (nI vv) (nI (t / 8)) (nI (t % 8))) gL_follows_L_whyNot rfl hdL_whyNot ⟨Nat.le_of_ble_eq_true rfl, Nat.le_of_ble_eq_true rfl⟩ gPerm_n rfl rfl ?_ dL_follows_708 ⟨by show (csp + 306) + 1 ≤ 20000; omega, by show (ssp + 1836) + 6 ≤ 120000; omega⟩ (fun rq96 uq96 hq96 => ?_)
                  · exact Nat.le_of_ble_eq_true rfl
                  refine g_perm (ws1 := wV G x uq96) gPerm_n' ?_
                  obtain ⟨eq96, hCq96⟩ := hq96
                  rw [show fWhy (gUnd (Bp)) (nI kp) (nI vv) (nI (t / 8)) (nI (t % 8)) = _ from (fWhy_in (A := gUnd (Bp)) (p := kp) (v := vv) (d := t / 8) (y := t % 8) (by rw [hFq91.2.1]; exact hkl) (by rw [hFq91.2.1]; exact h8) hv10 (by rw [hFq91.2.1]; exact (by omega)) ht9 (by omega)).trans (by rw [hFq91.2.1, ht3, show nI 0 = (0 : Int32) from rfl])] at eq96 hCq96
                  refine g_topL (y := (0 : Int32).toInt64) (eq96.trans (gCd_a rfl)) ?_
                  refine g_lconst (v := 0) E dL_follows_711 (by decide) ?_
                  refine g_lcmp E dL_follows_712 ?_
                  refine g_if_ne (tgt := 760) E dL_follows_713 (by decide) (fun c => absurd (gCmp_eq.mpr (by decide)) c) (fun _ => ?_)
                  refine g_lload E dL_follows_716 4 rfl ?_
                  refine g_ldc2 (v := 8) E kL_follows_202 dL_follows_718 ?_
                  refine g_lrem E dL_follows_721 (by decide) ?_
                  refine g_topL (y := (nI (t % 8)).toInt64) (rem64 (d := 8) (by omega) (by decide)) ?_
                  refine g_lconst (v := 0) E dL_follows_722 (by decide) ?_
                  refine g_lcmp E dL_follows_723 ?_
                  refine g_if_eq (tgt := 756) E dL_follows_724 (by decide) (fun c97 => ?_) (fun c97 => ?_)
                  · skip
                    refine g_iconst (v := 1) E dL_follows_756 (by decide) ?_
                    refine g_goto (tgt := 761) E dL_follows_757 (by decide) ?_
                    refine g_istore (lv' := [(17, .int 1), (34, .long ((nI (gRA (aS A) kp vv dd yy)).toInt64)), (33, .int (nI dd)), (32, .int (nI yy)), (30, .long ((nI t).toInt64)), (29, .int (nI vv)), (0, .ref (x.1 0)), (1, .int (nI z)), (2, .long (gNow (aS A))), (4, .long ((nI (sN (aS A) 0)).toInt64)), (6, .int (nI (sN (aS A) 1))), (7, .int (nI ((sB (aS A)).length))), (8, .int (nI (1 + (z % 20)))), (9, .long ((nI (nc 0)).toInt64)), (11, .long ((nI (nc 1)).toInt64)), (13, .long ((nI (nc 2)).toInt64)), (15, .long ((nI (nc 3)).toInt64)), (18, .long ((nI (nd 0 - nc 0)).toInt64)), (20, .long ((nI (nd 1 - nc 1)).toInt64)), (22, .long ((nI (nd 2 - nc 2)).toInt64)), (24, .long ((nI (nd 3 - nc 3)).toInt64)), (26, .long ((nI (sW (gDays (1 + z % 20) (aS A))).length).toInt64)), (28, .int (nI kp))]) E dL_follows_761 (by decide) rfl ?_
                    refine g_lv [6, 7, 8, 9, 10, 11, 12, 13, 14, 15, 16, 0, 17, 18, 19, 20, 21, 22, 5, 4, 3, 2, 1] rfl ?_
                    exact cut93 uq96 (csp + 307) (ssp + 1842) hCq96 (by omega) (by omega)
                  · skip
                    have hy0 : ¬ t % 8 = 0 := fun q => c97 ((gEq0_64 (by omega)).mpr q)
                    have hmn := gEar_min he (j := t - 1) (by omega) (by omega)
                    rw [show (t - 1) / 8 = t / 8 by omega, show (t - 1) % 8 = t % 8 - 1 by omega] at hmn
                    refine g_aload_n E dL_follows_727 rfl 6 rfl ?_
                    refine g_iload E dL_follows_728 22 rfl ?_
                    refine g_iload E dL_follows_730 5 rfl ?_
                    refine g_lload E dL_follows_732 4 rfl ?_
                    refine g_ldc2 (v := 8) E kL_follows_202 dL_follows_734 ?_
                    refine g_ldiv E dL_follows_737 (by decide) ?_
                    refine g_topL (y := (nI (t / 8)).toInt64) (div64 (d := 8) (by omega) (by decide)) ?_
                    refine g_l2i (v := nI (t / 8)) E dL_follows_738 (gL2I _) ?_
                    refine g_lload E dL_follows_739 4 rfl ?_
                    refine g_ldc2 (v := 8) E kL_follows_202 dL_follows_741 ?_
                    refine g_lrem E dL_follows_744 (by decide) ?_
                    refine g_topL (y := (nI (t % 8)).toInt64) (rem64 (d := 8) (by omega) (by decide)) ?_
                    refine g_l2i (v := nI (t % 8)) E dL_follows_745 (gL2I _) ?_
                    refine g_iconst (v := 1) E dL_follows_746 (by decide) ?_
                    refine g_isubN (a := t % 8) (b := 1) E dL_follows_747 (by omega) ?_
                    refine g_callSWL (As := [.ref (x.1 0), .int (nI kp), .int (nI vv), .int (nI (t / 8)), .int (nI (t % 8 - 1))]) (F := []) E (wL_whyNot (x := x) hST hFq91.2.2.2.1 hb5 hCq96 (nI kp) (nI vv) (nI (t / 8)) (nI (t % 8 - 1))) gL_follows_L_whyNot rfl hdL_whyNot ⟨Nat.le_of_ble_eq_true rfl, Nat.le_of_ble_eq_true rfl⟩ gPerm_n rfl rfl ?_ dL_follows_748 ⟨by show (csp + 307) + 1 ≤ 20000; omega, by show (ssp + 1842) + 6 ≤ 120000; omega⟩ (fun rq98 uq98 hq98 => ?_)
                    · exact Nat.le_of_ble_eq_true rfl
                    refine g_perm (ws1 := wV G x uq98) gPerm_n' ?_
                    obtain ⟨eq98, hCq98⟩ := hq98
                    rw [show fWhy (gUnd (Bp)) (nI kp) (nI vv) (nI (t / 8)) (nI (t % 8 - 1)) = _ from (fWhy_in (A := gUnd (Bp)) (p := kp) (v := vv) (d := t / 8) (y := t % 8 - 1) (by rw [hFq91.2.1]; exact hkl) (by rw [hFq91.2.1]; exact h8) hv10 (by rw [hFq91.2.1]; exact (by omega)) ht9 (by omega)).trans (by rw [hFq91.2.1])] at eq98 hCq98
                    refine g_topL (y := (nI (gRA (aS A) kp vv (t / 8) (t % 8 - 1))).toInt64) (eq98.trans (gCd_a rfl)) ?_
                    refine g_lconst (v := 0) E dL_follows_751 (by decide) ?_
                    refine g_lcmp E dL_follows_752 ?_
                    refine g_if_le (tgt := 760) E dL_follows_753 (by decide) (fun c => absurd c (gPos64 (by omega) (by have := gRA_le (aS A) kp vv (t / 8) (t % 8 - 1); omega))) (fun _ => ?_)
                    refine g_iconst (v := 1) E dL_follows_756 (by decide) ?_
                    refine g_goto (tgt := 761) E dL_follows_757 (by decide) ?_
                    refine g_istore (lv' := [(17, .int 1), (34, .long ((nI (gRA (aS A) kp vv dd yy)).toInt64)), (33, .int (nI dd)), (32, .int (nI yy)), (30, .long ((nI t).toInt64)), (29, .int (nI vv)), (0, .ref (x.1 0)), (1, .int (nI z)), (2, .long (gNow (aS A))), (4, .long ((nI (sN (aS A) 0)).toInt64)), (6, .int (nI (sN (aS A) 1))), (7, .int (nI ((sB (aS A)).length))), (8, .int (nI (1 + (z % 20)))), (9, .long ((nI (nc 0)).toInt64)), (11, .long ((nI (nc 1)).toInt64)), (13, .long ((nI (nc 2)).toInt64)), (15, .long ((nI (nc 3)).toInt64)), (18, .long ((nI (nd 0 - nc 0)).toInt64)), (20, .long ((nI (nd 1 - nc 1)).toInt64)), (22, .long ((nI (nd 2 - nc 2)).toInt64)), (24, .long ((nI (nd 3 - nc 3)).toInt64)), (26, .long ((nI (sW (gDays (1 + z % 20) (aS A))).length).toInt64)), (28, .int (nI kp))]) E dL_follows_761 (by decide) rfl ?_
                    refine g_lv [6, 7, 8, 9, 10, 11, 12, 13, 14, 15, 16, 0, 17, 18, 19, 20, 21, 22, 5, 4, 3, 2, 1] rfl ?_
                    exact cut93 uq98 (csp + 308) (ssp + 1848) hCq98 (by omega) (by omega)
            · skip
              have hd9 : ¬ dd ≤ 9999 := c69
              refine g_ldc2 (v := -9000000000000000002) E kL_follows_17 dL_follows_467 ?_
              refine g_goto (tgt := 485) E dL_follows_470 (by decide) ?_
              refine g_lstore (lv' := [(34, .long (-9000000000000000002)), (33, .int (nI dd)), (32, .int (nI yy)), (30, .long ((nI t).toInt64)), (29, .int (nI vv)), (0, .ref (x.1 0)), (1, .int (nI z)), (2, .long (gNow (aS A))), (4, .long ((nI (sN (aS A) 0)).toInt64)), (6, .int (nI (sN (aS A) 1))), (7, .int (nI ((sB (aS A)).length))), (8, .int (nI (1 + (z % 20)))), (9, .long ((nI (nc 0)).toInt64)), (11, .long ((nI (nc 1)).toInt64)), (13, .long ((nI (nc 2)).toInt64)), (15, .long ((nI (nc 3)).toInt64)), (17, .int 1), (18, .long ((nI (nd 0 - nc 0)).toInt64)), (20, .long ((nI (nd 1 - nc 1)).toInt64)), (22, .long ((nI (nd 2 - nc 2)).toInt64)), (24, .long ((nI (nd 3 - nc 3)).toInt64)), (26, .long ((nI (sW (gDays (1 + z % 20) (aS A))).length).toInt64)), (28, .int (nI kp))]) E dL_follows_485 (by decide) rfl ?_
              refine g_lload E dL_follows_487 0 rfl ?_
              refine g_lconst (v := 0) E dL_follows_489 (by decide) ?_
              refine g_lcmp E dL_follows_490 ?_
              refine g_if_ne (tgt := 598) E dL_follows_491 (by decide) (fun _ => ?_) (fun c => absurd c (by decide))
              refine g_lload E dL_follows_598 0 rfl ?_
              refine g_ldc2 (v := -9000000000000000002) E kL_follows_17 dL_follows_600 ?_
              refine g_lcmp E dL_follows_603 ?_
              refine g_if_eq (tgt := 662) E dL_follows_604 (by decide) (fun _ => ?_) (fun c => absurd (gCmp_eq.mpr rfl) c)
              have cut99 : ∀ (uq : gVu) (csq : Nat) (ssq : Nat), (gClsI Bp uq) → (csq ≤ (csp + 1) + 2) → (ssq ≤ (ssp + 6) + 12) → gW V 38 csq ssq (wV G x uq) [(0, .ref (x.1 0)), (1, .int (nI z)), (2, .long (gNow (aS A))), (4, .long ((nI (sN (aS A) 0)).toInt64)), (6, .int (nI (sN (aS A) 1))), (7, .int (nI ((sB (aS A)).length))), (8, .int (nI (1 + (z % 20)))), (9, .long ((nI (nc 0)).toInt64)), (11, .long ((nI (nc 1)).toInt64)), (13, .long ((nI (nc 2)).toInt64)), (15, .long ((nI (nc 3)).toInt64)), (17, .int 1), (18, .long ((nI (nd 0 - nc 0)).toInt64)), (20, .long ((nI (nd 1 - nc 1)).toInt64)), (22, .long ((nI (nd 2 - nc 2)).toInt64)), (24, .long ((nI (nd 3 - nc 3)).toInt64)), (26, .long ((nI (sW (gDays (1 + z % 20) (aS A))).length).toInt64)), (28, .int (nI kp)), (29, .int (nI vv)), (30, .long ((nI t).toInt64)), (32, .int (nI yy)), (33, .int (nI dd)), (34, .long (-9000000000000000002))] 763 [] := by
                intro uq csq ssq hCq hcq hsq
                refine g_iload E dL_follows_763 11 rfl ?_
                refine g_if_eq (tgt := 850) E dL_follows_765 (by decide) (fun c => absurd c (by decide)) (fun _ => ?_)
                refine g_iload E dL_follows_768 21 rfl ?_
                refine g_sipush (v := 9999) E dL_follows_770 (by decide) ?_
                refine g_icmp_gtN (tgt := 850) (a := dd) (b := 9999) E dL_follows_773 (by decide) (by omega) (by omega) (fun c100 => ?_) (fun c100 => ?_)
                · skip
                  refine g_iinc (lv' := [(28, .int (nI (kp + 1))), (0, .ref (x.1 0)), (1, .int (nI z)), (2, .long (gNow (aS A))), (4, .long ((nI (sN (aS A) 0)).toInt64)), (6, .int (nI (sN (aS A) 1))), (7, .int (nI ((sB (aS A)).length))), (8, .int (nI (1 + (z % 20)))), (9, .long ((nI (nc 0)).toInt64)), (11, .long ((nI (nc 1)).toInt64)), (13, .long ((nI (nc 2)).toInt64)), (15, .long ((nI (nc 3)).toInt64)), (17, .int 1), (18, .long ((nI (nd 0 - nc 0)).toInt64)), (20, .long ((nI (nd 1 - nc 1)).toInt64)), (22, .long ((nI (nd 2 - nc 2)).toInt64)), (24, .long ((nI (nd 3 - nc 3)).toInt64)), (26, .long ((nI (sW (gDays (1 + z % 20) (aS A))).length).toInt64)), (29, .int (nI vv)), (30, .long ((nI t).toInt64)), (32, .int (nI yy)), (33, .int (nI dd)), (34, .long (-9000000000000000002))]) E dL_follows_850 17 rfl (g_inc _ 1 (by decide)) (by decide) rfl ?_
                  refine g_goto (tgt := 392) E dL_follows_853 (by decide) ?_
                  refine g_lv [1, 2, 3, 4, 5, 6, 7, 8, 9, 10, 11, 12, 13, 14, 15, 16, 17, 0] rfl ?_
                  exact ih32  (kp + 1) Bp uq csq ssq (by omega) hFp hCq (by omega) (by omega) (by omega)
                · exfalso
                  omega
              refine g_iload E dL_follows_662 16 rfl ?_
              refine g_if_eq (tgt := 763) E dL_follows_664 (by decide) (fun c => absurd c (by decide)) (fun _ => ?_)
              refine g_lload E dL_follows_667 3 rfl ?_
              refine g_ldc2 (v := -1) E kL_follows_183 dL_follows_669 ?_
              refine g_lcmp E dL_follows_672 ?_
              refine g_if_eq (tgt := 763) E dL_follows_673 (by decide) (fun c => absurd c (gNeg_64 (by omega) (by decide))) (fun _ => ?_)
              refine g_lload E dL_follows_676 3 rfl ?_
              refine g_ldc2 (v := 8) E kL_follows_202 dL_follows_678 ?_
              refine g_ldiv E dL_follows_681 (by decide) ?_
              refine g_topL (y := (nI (t / 8)).toInt64) (div64 (d := 8) (by omega) (by decide)) ?_
              refine g_ldc2 (v := 9999) E kL_follows_242 dL_follows_682 ?_
              refine g_lcmp E dL_follows_685 ?_
              refine g_if_gt (tgt := 763) E dL_follows_686 (by decide) (fun c101 => ?_) (fun c101 => ?_)
              · skip
                refine g_lv [5, 6, 7, 8, 9, 10, 11, 12, 13, 14, 15, 16, 17, 18, 19, 20, 21, 22, 4, 3, 2, 1, 0] rfl ?_
                exact cut99 uq68 (csp + 1) (ssp + 6) hCq68 (by omega) (by omega)
              · skip
                have ht9 : t / 8 ≤ 9999 := by
                  rcases Nat.lt_or_ge 9999 (t / 8) with q | q
                  · exact absurd ((gGt64 (k := 9999) (by decide) (by omega) (by decide)).mpr q) c101
                  · exact q
                refine g_aload_n E dL_follows_689 rfl 5 rfl ?_
                refine g_iload E dL_follows_690 22 rfl ?_
                refine g_iload E dL_follows_692 4 rfl ?_
                refine g_lload E dL_follows_694 3 rfl ?_
                refine g_ldc2 (v := 8) E kL_follows_202 dL_follows_696 ?_
                refine g_ldiv E dL_follows_699 (by decide) ?_
                refine g_topL (y := (nI (t / 8)).toInt64) (div64 (d := 8) (by omega) (by decide)) ?_
                refine g_l2i (v := nI (t / 8)) E dL_follows_700 (gL2I _) ?_
                refine g_lload E dL_follows_701 3 rfl ?_
                refine g_ldc2 (v := 8) E kL_follows_202 dL_follows_703 ?_
                refine g_lrem E dL_follows_706 (by decide) ?_
                refine g_topL (y := (nI (t % 8)).toInt64) (rem64 (d := 8) (by omega) (by decide)) ?_
                refine g_l2i (v := nI (t % 8)) E dL_follows_707 (gL2I _) ?_
                refine g_callSWL (As := [.ref (x.1 0), .int (nI kp), .int (nI vv), .int (nI (t / 8)), .int (nI (t % 8))]) (F := []) E (wL_whyNot (x := x) hST hFp.2.2.2.1 hb5 hCq68 (nI kp) (nI vv) (nI (t / 8)) (nI (t % 8))) gL_follows_L_whyNot rfl hdL_whyNot ⟨Nat.le_of_ble_eq_true rfl, Nat.le_of_ble_eq_true rfl⟩ gPerm_n rfl rfl ?_ dL_follows_708 ⟨by show (csp + 1) + 1 ≤ 20000; omega, by show (ssp + 6) + 6 ≤ 120000; omega⟩ (fun rq102 uq102 hq102 => ?_)
                · exact Nat.le_of_ble_eq_true rfl
                refine g_perm (ws1 := wV G x uq102) gPerm_n' ?_
                obtain ⟨eq102, hCq102⟩ := hq102
                rw [show fWhy Bp (nI kp) (nI vv) (nI (t / 8)) (nI (t % 8)) = _ from (fWhy_in (A := Bp) (p := kp) (v := vv) (d := t / 8) (y := t % 8) (by rw [hFp.2.1]; exact hkl) (by rw [hFp.2.1]; exact h8) hv10 (by rw [hFp.2.1]; exact (by omega)) ht9 (by omega)).trans (by rw [hFp.2.1, ht3, show nI 0 = (0 : Int32) from rfl])] at eq102 hCq102
                refine g_topL (y := (0 : Int32).toInt64) (eq102.trans (gCd_a rfl)) ?_
                refine g_lconst (v := 0) E dL_follows_711 (by decide) ?_
                refine g_lcmp E dL_follows_712 ?_
                refine g_if_ne (tgt := 760) E dL_follows_713 (by decide) (fun c => absurd (gCmp_eq.mpr (by decide)) c) (fun _ => ?_)
                refine g_lload E dL_follows_716 3 rfl ?_
                refine g_ldc2 (v := 8) E kL_follows_202 dL_follows_718 ?_
                refine g_lrem E dL_follows_721 (by decide) ?_
                refine g_topL (y := (nI (t % 8)).toInt64) (rem64 (d := 8) (by omega) (by decide)) ?_
                refine g_lconst (v := 0) E dL_follows_722 (by decide) ?_
                refine g_lcmp E dL_follows_723 ?_
                refine g_if_eq (tgt := 756) E dL_follows_724 (by decide) (fun c103 => ?_) (fun c103 => ?_)
                · skip
                  refine g_iconst (v := 1) E dL_follows_756 (by decide) ?_
                  refine g_goto (tgt := 761) E dL_follows_757 (by decide) ?_
                  refine g_istore (lv' := [(17, .int 1), (34, .long (-9000000000000000002)), (33, .int (nI dd)), (32, .int (nI yy)), (30, .long ((nI t).toInt64)), (29, .int (nI vv)), (0, .ref (x.1 0)), (1, .int (nI z)), (2, .long (gNow (aS A))), (4, .long ((nI (sN (aS A) 0)).toInt64)), (6, .int (nI (sN (aS A) 1))), (7, .int (nI ((sB (aS A)).length))), (8, .int (nI (1 + (z % 20)))), (9, .long ((nI (nc 0)).toInt64)), (11, .long ((nI (nc 1)).toInt64)), (13, .long ((nI (nc 2)).toInt64)), (15, .long ((nI (nc 3)).toInt64)), (18, .long ((nI (nd 0 - nc 0)).toInt64)), (20, .long ((nI (nd 1 - nc 1)).toInt64)), (22, .long ((nI (nd 2 - nc 2)).toInt64)), (24, .long ((nI (nd 3 - nc 3)).toInt64)), (26, .long ((nI (sW (gDays (1 + z % 20) (aS A))).length).toInt64)), (28, .int (nI kp))]) E dL_follows_761 (by decide) rfl ?_
                  refine g_lv [6, 7, 8, 9, 10, 11, 12, 13, 14, 15, 16, 0, 17, 18, 19, 20, 21, 22, 5, 4, 3, 2, 1] rfl ?_
                  exact cut99 uq102 (csp + 2) (ssp + 12) hCq102 (by omega) (by omega)
                · skip
                  have hy0 : ¬ t % 8 = 0 := fun q => c103 ((gEq0_64 (by omega)).mpr q)
                  have hmn := gEar_min he (j := t - 1) (by omega) (by omega)
                  rw [show (t - 1) / 8 = t / 8 by omega, show (t - 1) % 8 = t % 8 - 1 by omega] at hmn
                  refine g_aload_n E dL_follows_727 rfl 5 rfl ?_
                  refine g_iload E dL_follows_728 22 rfl ?_
                  refine g_iload E dL_follows_730 4 rfl ?_
                  refine g_lload E dL_follows_732 3 rfl ?_
                  refine g_ldc2 (v := 8) E kL_follows_202 dL_follows_734 ?_
                  refine g_ldiv E dL_follows_737 (by decide) ?_
                  refine g_topL (y := (nI (t / 8)).toInt64) (div64 (d := 8) (by omega) (by decide)) ?_
                  refine g_l2i (v := nI (t / 8)) E dL_follows_738 (gL2I _) ?_
                  refine g_lload E dL_follows_739 3 rfl ?_
                  refine g_ldc2 (v := 8) E kL_follows_202 dL_follows_741 ?_
                  refine g_lrem E dL_follows_744 (by decide) ?_
                  refine g_topL (y := (nI (t % 8)).toInt64) (rem64 (d := 8) (by omega) (by decide)) ?_
                  refine g_l2i (v := nI (t % 8)) E dL_follows_745 (gL2I _) ?_
                  refine g_iconst (v := 1) E dL_follows_746 (by decide) ?_
                  refine g_isubN (a := t % 8) (b := 1) E dL_follows_747 (by omega) ?_
                  refine g_callSWL (As := [.ref (x.1 0), .int (nI kp), .int (nI vv), .int (nI (t / 8)), .int (nI (t % 8 - 1))]) (F := []) E (wL_whyNot (x := x) hST hFp.2.2.2.1 hb5 hCq102 (nI kp) (nI vv) (nI (t / 8)) (nI (t % 8 - 1))) gL_follows_L_whyNot rfl hdL_whyNot ⟨Nat.le_of_ble_eq_true rfl, Nat.le_of_ble_eq_true rfl⟩ gPerm_n rfl rfl ?_ dL_follows_748 ⟨by show (csp + 2) + 1 ≤ 20000; omega, by show (ssp + 12) + 6 ≤ 120000; omega⟩ (fun rq104 uq104 hq104 => ?_)
                  · exact Nat.le_of_ble_eq_true rfl
                  refine g_perm (ws1 := wV G x uq104) gPerm_n' ?_
                  obtain ⟨eq104, hCq104⟩ := hq104
                  rw [show fWhy Bp (nI kp) (nI vv) (nI (t / 8)) (nI (t % 8 - 1)) = _ from (fWhy_in (A := Bp) (p := kp) (v := vv) (d := t / 8) (y := t % 8 - 1) (by rw [hFp.2.1]; exact hkl) (by rw [hFp.2.1]; exact h8) hv10 (by rw [hFp.2.1]; exact (by omega)) ht9 (by omega)).trans (by rw [hFp.2.1])] at eq104 hCq104
                  refine g_topL (y := (nI (gRA (aS A) kp vv (t / 8) (t % 8 - 1))).toInt64) (eq104.trans (gCd_a rfl)) ?_
                  refine g_lconst (v := 0) E dL_follows_751 (by decide) ?_
                  refine g_lcmp E dL_follows_752 ?_
                  refine g_if_le (tgt := 760) E dL_follows_753 (by decide) (fun c => absurd c (gPos64 (by omega) (by have := gRA_le (aS A) kp vv (t / 8) (t % 8 - 1); omega))) (fun _ => ?_)
                  refine g_iconst (v := 1) E dL_follows_756 (by decide) ?_
                  refine g_goto (tgt := 761) E dL_follows_757 (by decide) ?_
                  refine g_istore (lv' := [(17, .int 1), (34, .long (-9000000000000000002)), (33, .int (nI dd)), (32, .int (nI yy)), (30, .long ((nI t).toInt64)), (29, .int (nI vv)), (0, .ref (x.1 0)), (1, .int (nI z)), (2, .long (gNow (aS A))), (4, .long ((nI (sN (aS A) 0)).toInt64)), (6, .int (nI (sN (aS A) 1))), (7, .int (nI ((sB (aS A)).length))), (8, .int (nI (1 + (z % 20)))), (9, .long ((nI (nc 0)).toInt64)), (11, .long ((nI (nc 1)).toInt64)), (13, .long ((nI (nc 2)).toInt64)), (15, .long ((nI (nc 3)).toInt64)), (18, .long ((nI (nd 0 - nc 0)).toInt64)), (20, .long ((nI (nd 1 - nc 1)).toInt64)), (22, .long ((nI (nd 2 - nc 2)).toInt64)), (24, .long ((nI (nd 3 - nc 3)).toInt64)), (26, .long ((nI (sW (gDays (1 + z % 20) (aS A))).length).toInt64)), (28, .int (nI kp))]) E dL_follows_761 (by decide) rfl ?_
                  refine g_lv [6, 7, 8, 9, 10, 11, 12, 13, 14, 15, 16, 0, 17, 18, 19, 20, 21, 22, 5, 4, 3, 2, 1] rfl ?_
                  exact cut99 uq104 (csp + 3) (ssp + 18) hCq104 (by omega) (by omega)
    refine g_lv [1, 2, 3, 4, 5, 6, 7, 8, 9, 10, 11, 12, 13, 14, 15, 16, 17, 0] rfl ?_
    exact loop30 _ 0 (gUnd (gSav A)) uj csj ssj (Nat.zero_le _) hFq27 hCj (by omega) (by omega) (Nat.lt_succ_self _)
  refine g_aload_n E dL_follows_287 rfl 15 rfl ?_
  refine g_iconst (v := 3) E dL_follows_288 (by decide) ?_
  refine g_callSWL (As := [.ref (x.1 0), .int 3]) (F := []) E (wL_about (x := x) hST hFq27.2.2.2.1 hb5 hCq28 (3 : Int32)) gL_follows_L_about rfl hdL_about ⟨Nat.le_of_ble_eq_true rfl, Nat.le_of_ble_eq_true rfl⟩ gPerm_n rfl rfl ?_ dL_follows_289 ⟨by show 923 + 1 ≤ 20000; omega, by show 5538 + 6 ≤ 120000; omega⟩ (fun rq105 uq105 hq105 => ?_)
  · exact Nat.le_of_ble_eq_true rfl
  refine g_perm (ws1 := wV G x uq105) gPerm_n' ?_
  obtain ⟨eq105, hCq105⟩ := hq105
  rw [show fAbout (gUnd (gSav A)) (3 : Int32) = _ from (fAbout_3 (A := gUnd (gSav A))).trans (by rw [hFq27.2.1])] at eq105 hCq105
  refine g_topL (y := (nI (sW (aS A)).length).toInt64) (eq105.trans (gCd_a rfl)) ?_
  refine g_lconst (v := 0) E dL_follows_292 (by decide) ?_
  refine g_lcmp E dL_follows_293 ?_
  refine g_if_ne (tgt := 389) E dL_follows_294 (by decide) (fun c106 => ?_) (fun c106 => ?_)
  · skip
    refine g_lv [15, 16, 14, 13, 12, 11, 10, 9, 8, 7, 6, 0, 5, 4, 3, 2, 1] rfl ?_
    exact cut29 uq105 924 5544 hCq105 (by omega) (by omega)
  · skip
    have hw0 : sW (aS A) = [] := List.eq_nil_of_length_eq_zero ((gEq0_64 (by omega)).mp c106)
    refine g_iconst (v := 4) E dL_follows_297 (by decide) ?_
    refine g_newa (atype := .int) (ty := .int) (a0 := (4, .inl (fun _ => 0))) (N := 4) E 0 rfl rfl (by decide +kernel) (fun _ => rfl) (by decide) (by decide) (by decide) (by show 924 + 1 ≤ 20000; omega) (by show 5544 + 4 ≤ 120000; omega) dL_follows_298 (fun m107 => ?_)
    refine g_perm (ws1 := ((m107, .inl (gy G 0, 4, .inl (fun _ => 0))) :: wV G x uq105)) gPerm_rot2 ?_
    refine g_astore (lv' := [(28, .ref m107), (17, .int 1), (26, .long ((nI (sW (gDays (1 + z % 20) (aS A))).length).toInt64)), (24, .long ((nI (nd 3 - nc 3)).toInt64)), (22, .long ((nI (nd 2 - nc 2)).toInt64)), (20, .long ((nI (nd 1 - nc 1)).toInt64)), (18, .long ((nI (nd 0 - nc 0)).toInt64)), (15, .long ((nI (nc 3)).toInt64)), (13, .long ((nI (nc 2)).toInt64)), (11, .long ((nI (nc 1)).toInt64)), (9, .long ((nI (nc 0)).toInt64)), (8, .int (nI (1 + (z % 20)))), (7, .int (nI ((sB (aS A)).length))), (6, .int (nI (sN (aS A) 1))), (4, .long ((nI (sN (aS A) 0)).toInt64)), (2, .long (gNow (aS A))), (0, .ref (x.1 0)), (1, .int (nI z))]) E dL_follows_300 (by decide) rfl ?_
    refine g_iconst (v := 0) E dL_follows_302 (by decide) ?_
    refine g_istore (lv' := [(29, .int 0), (28, .ref m107), (17, .int 1), (26, .long ((nI (sW (gDays (1 + z % 20) (aS A))).length).toInt64)), (24, .long ((nI (nd 3 - nc 3)).toInt64)), (22, .long ((nI (nd 2 - nc 2)).toInt64)), (20, .long ((nI (nd 1 - nc 1)).toInt64)), (18, .long ((nI (nd 0 - nc 0)).toInt64)), (15, .long ((nI (nc 3)).toInt64)), (13, .long ((nI (nc 2)).toInt64)), (11, .long ((nI (nc 1)).toInt64)), (9, .long ((nI (nc 0)).toInt64)), (8, .int (nI (1 + (z % 20)))), (7, .int (nI ((sB (aS A)).length))), (6, .int (nI (sN (aS A) 1))), (4, .long ((nI (sN (aS A) 0)).toInt64)), (2, .long (gNow (aS A))), (0, .ref (x.1 0)), (1, .int (nI z))]) E dL_follows_303 (by decide) rfl ?_
    have loop108 : ∀ (n109 : Nat) (kf : Nat) (uf : gVu) (csf : Nat) (ssf : Nat) (ff : Nat → Int32), (kf ≤ (sB (aS A)).length) → (gClsI (gUnd (gSav A)) uf) → (csf ≤ 925 + 2 * kf) → (ssf ≤ 5548 + 12 * kf) → (∀ j, j < 4 → ff j = nI (gCnt (gFt (aS A) j) kf)) → (sB (aS A)).length - kf < n109 → gW V 38 csf ssf (((m107, .inl (gy G 0, 4, .inl ff)) :: wV G x uf)) [(0, .ref (x.1 0)), (1, .int (nI z)), (2, .long (gNow (aS A))), (4, .long ((nI (sN (aS A) 0)).toInt64)), (6, .int (nI (sN (aS A) 1))), (7, .int (nI ((sB (aS A)).length))), (8, .int (nI (1 + (z % 20)))), (9, .long ((nI (nc 0)).toInt64)), (11, .long ((nI (nc 1)).toInt64)), (13, .long ((nI (nc 2)).toInt64)), (15, .long ((nI (nc 3)).toInt64)), (17, .int 1), (18, .long ((nI (nd 0 - nc 0)).toInt64)), (20, .long ((nI (nd 1 - nc 1)).toInt64)), (22, .long ((nI (nd 2 - nc 2)).toInt64)), (24, .long ((nI (nd 3 - nc 3)).toInt64)), (26, .long ((nI (sW (gDays (1 + z % 20) (aS A))).length).toInt64)), (28, .ref m107), (29, .int (nI kf))] 305 [] := by
      intro n109
      induction n109 with
      | zero => intro kf uf csf ssf ff hkf hCf hcf hsf hff hm111; exact absurd hm111 (Nat.not_lt_zero _)
      | succ n109 ih110 =>
        intro kf uf csf ssf ff hkf hCf hcf hsf hff hm111
        refine g_iload E dL_follows_305 18 rfl ?_
        refine g_iload E dL_follows_307 5 rfl ?_
        refine g_icmp_geN (tgt := 345) (a := kf) (b := (sB (aS A)).length) E dL_follows_309 (by decide) (by omega) (by omega) (fun c112 => ?_) (fun c112 => ?_)
        · skip
          obtain rfl : kf = (sB (aS A)).length := by omega
          obtain ⟨d1, hd1, he1⟩ := gFt_days hA.2.1.1.1 hw0 (show gCtr (aS A) nc from hn8)
          refine g_iconst (v := 0) E dL_follows_345 (by decide) ?_
          refine g_istore (lv' := [(29, .int 0), (0, .ref (x.1 0)), (1, .int (nI z)), (2, .long (gNow (aS A))), (4, .long ((nI (sN (aS A) 0)).toInt64)), (6, .int (nI (sN (aS A) 1))), (7, .int (nI ((sB (aS A)).length))), (8, .int (nI (1 + (z % 20)))), (9, .long ((nI (nc 0)).toInt64)), (11, .long ((nI (nc 1)).toInt64)), (13, .long ((nI (nc 2)).toInt64)), (15, .long ((nI (nc 3)).toInt64)), (17, .int 1), (18, .long ((nI (nd 0 - nc 0)).toInt64)), (20, .long ((nI (nd 1 - nc 1)).toInt64)), (22, .long ((nI (nd 2 - nc 2)).toInt64)), (24, .long ((nI (nd 3 - nc 3)).toInt64)), (26, .long ((nI (sW (gDays (1 + z % 20) (aS A))).length).toInt64)), (28, .ref m107)]) E dL_follows_346 (by decide) rfl ?_
          have loop113 : ∀ (n114 : Nat) (kc : Nat) (uc : gVu) (csc : Nat) (ssc : Nat), (kc ≤ 4) → (gClsI (gUnd (gSav A)) uc) → (csc ≤ csf + 1 * kc) → (ssc ≤ ssf + 6 * kc) → 4 - kc < n114 → gW V 38 csc ssc (((m107, .inl (gy G 0, 4, .inl ff)) :: wV G x uc)) [(0, .ref (x.1 0)), (1, .int (nI z)), (2, .long (gNow (aS A))), (4, .long ((nI (sN (aS A) 0)).toInt64)), (6, .int (nI (sN (aS A) 1))), (7, .int (nI ((sB (aS A)).length))), (8, .int (nI (1 + (z % 20)))), (9, .long ((nI (nc 0)).toInt64)), (11, .long ((nI (nc 1)).toInt64)), (13, .long ((nI (nc 2)).toInt64)), (15, .long ((nI (nc 3)).toInt64)), (17, .int 1), (18, .long ((nI (nd 0 - nc 0)).toInt64)), (20, .long ((nI (nd 1 - nc 1)).toInt64)), (22, .long ((nI (nd 2 - nc 2)).toInt64)), (24, .long ((nI (nd 3 - nc 3)).toInt64)), (26, .long ((nI (sW (gDays (1 + z % 20) (aS A))).length).toInt64)), (28, .ref m107), (29, .int (nI kc))] 348 [] := by
            intro n114
            induction n114 with
            | zero => intro kc uc csc ssc hkc hCc hcc hsc hm116; exact absurd hm116 (Nat.not_lt_zero _)
            | succ n114 ih115 =>
              intro kc uc csc ssc hkc hCc hcc hsc hm116
              refine g_iload E dL_follows_348 18 rfl ?_
              refine g_iconst (v := 4) E dL_follows_350 (by decide) ?_
              refine g_icmp_geN (tgt := 389) (a := kc) (b := 4) E dL_follows_351 (by decide) (by omega) (by omega) (fun c117 => ?_) (fun c117 => ?_)
              · skip
                refine g_drop ?_
                refine g_lv [0, 1, 2, 3, 4, 5, 6, 7, 8, 9, 10, 11, 12, 13, 14, 15, 16] rfl ?_
                exact cut29 uc csc ssc hCc (by omega) (by omega)
              · skip
                refine g_iload E dL_follows_354 11 rfl ?_
                refine g_if_eq (tgt := 389) E dL_follows_356 (by decide) (fun c => absurd c (by decide)) (fun _ => ?_)
                refine g_aload_n E dL_follows_359 rfl 0 rfl ?_
                refine g_iconst (v := 1) E dL_follows_360 (by decide) ?_
                refine g_iload E dL_follows_361 18 rfl ?_
                refine g_callSWL (As := [.ref (x.1 0), .int 1, .int (nI kc)]) (F := [(m107, .inl (gy G 0, 4, .inl ff))]) E (wL_coming (x := x) hST hFq27.2.2.2.1 hb5 hCc (1 : Int32) (nI kc)) gL_follows_L_coming rfl hdL_coming ⟨Nat.le_of_ble_eq_true rfl, Nat.le_of_ble_eq_true rfl⟩ gPerm_rot rfl rfl ?_ dL_follows_363 ⟨by show csc + 1 ≤ 20000; omega, by show ssc + 6 ≤ 120000; omega⟩ (fun rq118 uq118 hq118 => ?_)
                · exact Nat.le_of_ble_eq_true rfl
                refine g_perm (ws1 := ((m107, .inl (gy G 0, 4, .inl ff)) :: wV G x uq118)) gPerm_rot2 ?_
                obtain ⟨eq118, hCq118⟩ := hq118
                rw [show fComing (gUnd (gSav A)) (1 : Int32) (nI kc) = _ from (fCom_in (A := gUnd (gSav A)) (n := 1) (k := kc) (c := nc) (d := d1) (by omega) (by omega) (by omega) (by rw [hFq27.2.1]; exact hn8) (by rw [hFq27.2.1]; exact hd1) (by have := he1 kc (by omega); omega)).trans (by rw [show d1 kc - nc kc = gCnt (gFt (aS A) kc) (sB (aS A)).length by have := he1 kc (by omega); omega])] at eq118 hCq118
                refine g_topL (y := (nI (gCnt (gFt (aS A) kc) (sB (aS A)).length)).toInt64) (eq118.trans (gCd_a rfl)) ?_
                refine g_aload E dL_follows_366 17 rfl ?_
                refine g_iload E dL_follows_368 18 rfl ?_
                refine g_ialdN (e := kc) E 0 rfl (by omega) rfl (v := nI (gCnt (gFt (aS A) kc) (sB (aS A)).length)) (hff kc (by omega)) dL_follows_370 ?_
                refine g_i2l (v := (nI (gCnt (gFt (aS A) kc) (sB (aS A)).length)).toInt64) E dL_follows_371 rfl ?_
                refine g_lcmp E dL_follows_372 ?_
                refine g_if_ne (tgt := 380) E dL_follows_373 (by decide) (fun c => absurd (gCmp_eq.mpr rfl) c) (fun _ => ?_)
                refine g_iconst (v := 1) E dL_follows_376 (by decide) ?_
                refine g_goto (tgt := 381) E dL_follows_377 (by decide) ?_
                refine g_istore (lv' := [(17, .int 1), (0, .ref (x.1 0)), (1, .int (nI z)), (2, .long (gNow (aS A))), (4, .long ((nI (sN (aS A) 0)).toInt64)), (6, .int (nI (sN (aS A) 1))), (7, .int (nI ((sB (aS A)).length))), (8, .int (nI (1 + (z % 20)))), (9, .long ((nI (nc 0)).toInt64)), (11, .long ((nI (nc 1)).toInt64)), (13, .long ((nI (nc 2)).toInt64)), (15, .long ((nI (nc 3)).toInt64)), (18, .long ((nI (nd 0 - nc 0)).toInt64)), (20, .long ((nI (nd 1 - nc 1)).toInt64)), (22, .long ((nI (nd 2 - nc 2)).toInt64)), (24, .long ((nI (nd 3 - nc 3)).toInt64)), (26, .long ((nI (sW (gDays (1 + z % 20) (aS A))).length).toInt64)), (28, .ref m107), (29, .int (nI kc))]) E dL_follows_381 (by decide) rfl ?_
                refine g_iinc (lv' := [(29, .int (nI (kc + 1))), (17, .int 1), (0, .ref (x.1 0)), (1, .int (nI z)), (2, .long (gNow (aS A))), (4, .long ((nI (sN (aS A) 0)).toInt64)), (6, .int (nI (sN (aS A) 1))), (7, .int (nI ((sB (aS A)).length))), (8, .int (nI (1 + (z % 20)))), (9, .long ((nI (nc 0)).toInt64)), (11, .long ((nI (nc 1)).toInt64)), (13, .long ((nI (nc 2)).toInt64)), (15, .long ((nI (nc 3)).toInt64)), (18, .long ((nI (nd 0 - nc 0)).toInt64)), (20, .long ((nI (nd 1 - nc 1)).toInt64)), (22, .long ((nI (nd 2 - nc 2)).toInt64)), (24, .long ((nI (nd 3 - nc 3)).toInt64)), (26, .long ((nI (sW (gDays (1 + z % 20) (aS A))).length).toInt64)), (28, .ref m107)]) E dL_follows_383 18 rfl (g_inc _ 1 (by decide)) (by decide) rfl ?_
                refine g_goto (tgt := 348) E dL_follows_386 (by decide) ?_
                refine g_lv [2, 3, 4, 5, 6, 7, 8, 9, 10, 11, 12, 1, 13, 14, 15, 16, 17, 18, 0] rfl ?_
                exact ih115  (kc + 1) uq118 (csc + 1) (ssc + 6) (by omega) hCq118 (by omega) (by omega) (by omega)
          refine g_lv [1, 2, 3, 4, 5, 6, 7, 8, 9, 10, 11, 12, 13, 14, 15, 16, 17, 18, 0] rfl ?_
          exact loop113 _ 0 uf csf ssf (Nat.zero_le _) hCf (by omega) (by omega) (Nat.lt_succ_self _)
        · skip
          have hqf := hfi kf (by omega)
          refine g_aload_n E dL_follows_312 rfl 0 rfl ?_
          refine g_iload E dL_follows_313 18 rfl ?_
          refine g_iconst (v := 0) E dL_follows_315 (by decide) ?_
          refine g_callSWL (As := [.ref (x.1 0), .int (nI kf), .int 0]) (F := [(m107, .inl (gy G 0, 4, .inl ff))]) E (wL_booking (x := x) hST hFq27.2.2.2.1 hb5 hCf (nI kf) (0 : Int32)) gL_follows_L_booking rfl hdL_booking ⟨Nat.le_of_ble_eq_true rfl, Nat.le_of_ble_eq_true rfl⟩ gPerm_rot rfl rfl ?_ dL_follows_316 ⟨by show csf + 1 ≤ 20000; omega, by show ssf + 6 ≤ 120000; omega⟩ (fun rq119 uq119 hq119 => ?_)
          · exact Nat.le_of_ble_eq_true rfl
          refine g_perm (ws1 := ((m107, .inl (gy G 0, 4, .inl ff)) :: wV G x uq119)) gPerm_rot2 ?_
          obtain ⟨eq119, hCq119⟩ := hq119
          rw [show fBkng (gUnd (gSav A)) (nI kf) (0 : Int32) = _ from (fBkng_in (A := gUnd (gSav A)) (j := kf) (k := 0) (by rw [hFq27.2.1]; exact (by omega)) (by rw [hFq27.2.1]; exact hn24) rfl (by omega)).trans (by rw [hFq27.2.1])] at eq119 hCq119
          refine g_topL (y := (nI (bk (sB (aS A)) kf 0)).toInt64) (eq119.trans (gCd_a rfl)) ?_
          refine g_lload E dL_follows_319 3 rfl ?_
          refine g_lcmp E dL_follows_321 ?_
          refine g_if_ne (tgt := 339) E dL_follows_322 (by decide) (fun c120 => ?_) (fun c120 => ?_)
          · skip
            have hdn : ¬ bk (sB (aS A)) kf 0 = sN (aS A) 0 := fun q => c120 (gCmp_eq.mpr (by rw [q]))
            refine g_iinc (lv' := [(29, .int (nI (kf + 1))), (0, .ref (x.1 0)), (1, .int (nI z)), (2, .long (gNow (aS A))), (4, .long ((nI (sN (aS A) 0)).toInt64)), (6, .int (nI (sN (aS A) 1))), (7, .int (nI ((sB (aS A)).length))), (8, .int (nI (1 + (z % 20)))), (9, .long ((nI (nc 0)).toInt64)), (11, .long ((nI (nc 1)).toInt64)), (13, .long ((nI (nc 2)).toInt64)), (15, .long ((nI (nc 3)).toInt64)), (17, .int 1), (18, .long ((nI (nd 0 - nc 0)).toInt64)), (20, .long ((nI (nd 1 - nc 1)).toInt64)), (22, .long ((nI (nd 2 - nc 2)).toInt64)), (24, .long ((nI (nd 3 - nc 3)).toInt64)), (26, .long ((nI (sW (gDays (1 + z % 20) (aS A))).length).toInt64)), (28, .ref m107)]) E dL_follows_339 18 rfl (g_inc _ 1 (by decide)) (by decide) rfl ?_
            refine g_goto (tgt := 305) E dL_follows_342 (by decide) ?_
            refine g_lv [1, 2, 3, 4, 5, 6, 7, 8, 9, 10, 11, 12, 13, 14, 15, 16, 17, 18, 0] rfl ?_
            exact ih110  (kf + 1) uq119 (csf + 1) (ssf + 6) ff (by omega) hCq119 (by omega) (by omega) (fun j hj => (hff j hj).trans (congrArg nI (gFt_no hdn).symm)) (by omega)
          · skip
            have hdy : bk (sB (aS A)) kf 0 = sN (aS A) 0 := (gNeq64 (by omega) (by omega)).mp (gCmp_eq.mp c120)
            have hlk := gLook_le4 (gIter kf (aS A))
            refine g_aload E dL_follows_325 17 rfl ?_
            refine g_aload_n E dL_follows_327 rfl 0 rfl ?_
            refine g_iload E dL_follows_328 18 rfl ?_
            refine g_callSWL (As := [.ref (x.1 0), .int (nI kf)]) (F := [(m107, .inl (gy G 0, 4, .inl ff))]) E (wL_becomes (x := x) hST hFq27.2.2.2.1 hb5 hCq119 (nI kf)) gL_follows_L_becomes rfl hdL_becomes ⟨Nat.le_of_ble_eq_true rfl, Nat.le_of_ble_eq_true rfl⟩ gPerm_rot rfl rfl ?_ dL_follows_330 ⟨by show (csf + 1) + 1 ≤ 20000; omega, by show (ssf + 6) + 6 ≤ 120000; omega⟩ (fun rq121 uq121 hq121 => ?_)
            · exact Nat.le_of_ble_eq_true rfl
            refine g_perm (ws1 := ((m107, .inl (gy G 0, 4, .inl ff)) :: wV G x uq121)) gPerm_rot2 ?_
            obtain ⟨eq121, hCq121⟩ := hq121
            rw [show fBecomes (gUnd (gSav A)) (nI kf) = _ from (fBec_in (A := gUnd (gSav A)) (k := kf) (by rw [hFq27.2.1]; exact hA.2.1.1.1) (by rw [hFq27.2.1]; exact hw0) (by rw [hFq27.2.1]; exact (by omega)) (by rw [hFq27.2.1]; exact hdy)).trans (by rw [hFq27.2.1])] at eq121 hCq121
            refine g_topL (y := (nI (gLook (gIter kf (aS A))).1).toInt64) (eq121.trans (gCd_a rfl)) ?_
            refine g_l2i (v := nI ((gLook (gIter kf (aS A))).1)) E dL_follows_333 (gL2I _) ?_
            refine g_dup2 E dL_follows_334 rfl rfl ?_
            refine g_ialdN (e := (gLook (gIter kf (aS A))).1) E 0 rfl (by omega) rfl (v := ff ((gLook (gIter kf (aS A))).1)) rfl dL_follows_335 ?_
            refine g_iconst (v := 1) E dL_follows_336 (by decide) ?_
            refine g_iadd E dL_follows_337 ?_
            refine g_iast (ws' := ((m107, .inl (gy G 0, 4, .inl (upd ff ((gLook (gIter kf (aS A))).1) ((ff ((gLook (gIter kf (aS A))).1)) + 1)))) :: wV G x uq121)) (j := (gLook (gIter kf (aS A))).1) (y := (ff ((gLook (gIter kf (aS A))).1)) + 1) E 0 rfl (g_in (e := (gLook (gIter kf (aS A))).1) (by omega) rfl) (nI_clamp (n := (gLook (gIter kf (aS A))).1) (by omega)) rfl rfl dL_follows_338 ?_
            refine g_iinc (lv' := [(29, .int (nI (kf + 1))), (0, .ref (x.1 0)), (1, .int (nI z)), (2, .long (gNow (aS A))), (4, .long ((nI (sN (aS A) 0)).toInt64)), (6, .int (nI (sN (aS A) 1))), (7, .int (nI ((sB (aS A)).length))), (8, .int (nI (1 + (z % 20)))), (9, .long ((nI (nc 0)).toInt64)), (11, .long ((nI (nc 1)).toInt64)), (13, .long ((nI (nc 2)).toInt64)), (15, .long ((nI (nc 3)).toInt64)), (17, .int 1), (18, .long ((nI (nd 0 - nc 0)).toInt64)), (20, .long ((nI (nd 1 - nc 1)).toInt64)), (22, .long ((nI (nd 2 - nc 2)).toInt64)), (24, .long ((nI (nd 3 - nc 3)).toInt64)), (26, .long ((nI (sW (gDays (1 + z % 20) (aS A))).length).toInt64)), (28, .ref m107)]) E dL_follows_339 18 rfl (g_inc _ 1 (by decide)) (by decide) rfl ?_
            refine g_goto (tgt := 305) E dL_follows_342 (by decide) ?_
            refine g_lv [1, 2, 3, 4, 5, 6, 7, 8, 9, 10, 11, 12, 13, 14, 15, 16, 17, 18, 0] rfl ?_
            exact ih110  (kf + 1) uq121 (csf + 2) (ssf + 12) (upd ff ((gLook (gIter kf (aS A))).1) ((ff ((gLook (gIter kf (aS A))).1)) + 1)) (by omega) hCq121 (by omega) (by omega) (gFt_up hdy hff) (by omega)
    refine g_lv [17, 18, 16, 15, 14, 13, 12, 11, 10, 9, 8, 2, 7, 6, 5, 4, 3, 1, 0] rfl ?_
    exact loop108 _ 0 uq105 925 5548 (fun _ => 0) (Nat.zero_le _) hCq105 (by omega) (by omega) (fun j hj => rfl) (Nat.lt_succ_self _)
