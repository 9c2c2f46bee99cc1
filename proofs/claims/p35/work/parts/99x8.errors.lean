set_option maxHeartbeats 4000000 in
set_option maxRecDepth 100000 in
theorem mL_errors {G : gG} {b : Nat} (hST : (gl G).stackTraces = false) (hb : b ≤ 9000) {x : gVa} {u : gVu} {A : gA} (hA : gAok b A) (hX : gX5 A) (hC : gClsI A u)   : CI G yL_errors wsL_errors 14 355 [.ref (x.1 0)] (wV G x u) (fun (r : Int32) (w : gVu) => r = 1 ∧ gClsI A w) (fun w : gVu => wV G x w) 2000 20000 := by
  refine g_enterI (ty := .boolean) RL rfl (by decide) rfl (Nat.le_of_ble_eq_true rfl) ?_
  intro V E RET
  have hb5 : b ≤ 50000 := by omega
  have h8 : sN (aS A) 1 ≤ 8 := hA.2.1.1.1.1.1
  have hn24 : (sB (aS A)).length ≤ 24 := hA.2.1.1.1.1.2.1
  have hT : sN (aS A) 0 ≤ b := hA.2.1.2.2
  have hfi : ∀ k, k < (sB (aS A)).length → bk (sB (aS A)) k 0 ≤ 9999 ∨ bk (sB (aS A)) k 0 ≤ sN (aS A) 0 + 6 := fun k hk => (hA.2.1.1.1.2.2.1 k hk).2.2.2.1
  refine g_aload_n E dL_errors_0 rfl 0 rfl ?_
  refine g_callSL (As := [.ref (x.1 0)]) (F := []) E (mL_now (x := x) hST hb5 hA hX hC) gL_errors_L_now rfl hdL_now ⟨Nat.le_of_ble_eq_true rfl, Nat.le_of_ble_eq_true rfl⟩ gPerm_n rfl rfl ?_ dL_errors_1 ⟨by show 0 + 300 ≤ 2000; omega, by show 0 + 1800 ≤ 20000; omega⟩ (fun rq1 uq1 hq1 => ?_)
  · exact Nat.le_of_ble_eq_true rfl
  refine g_perm (ws1 := wV G x uq1) gPerm_n' ?_
  obtain ⟨eq1, hCq1⟩ := hq1
  refine g_topL (y := gNow (aS A)) eq1 ?_
  refine g_lstore_n (lv' := [(1, .long (gNow (aS A))), (0, .ref (x.1 0))]) E dL_errors_4 rfl (by decide) rfl ?_
  refine g_aload_n E dL_errors_5 rfl 1 rfl ?_
  refine g_iconst (v := 0) E dL_errors_6 (by decide) ?_
  refine g_callSWL (As := [.ref (x.1 0), .int 0]) (F := []) E (wL_about (x := x) hST hA hb5 hCq1 (0 : Int32)) gL_errors_L_about rfl hdL_about ⟨Nat.le_of_ble_eq_true rfl, Nat.le_of_ble_eq_true rfl⟩ gPerm_n rfl rfl ?_ dL_errors_7 ⟨by show 300 + 1 ≤ 2000; omega, by show 1800 + 6 ≤ 20000; omega⟩ (fun rq2 uq2 hq2 => ?_)
  · exact Nat.le_of_ble_eq_true rfl
  refine g_perm (ws1 := wV G x uq2) gPerm_n' ?_
  obtain ⟨eq2, hCq2⟩ := hq2
  rw [show fAbout A (0 : Int32) = _ from fAbout_0 (A := A)] at eq2 hCq2
  refine g_topL (y := (nI (sN (aS A) 1)).toInt64) (eq2.trans (gCd_a rfl)) ?_
  refine g_l2i (v := nI (sN (aS A) 1)) E dL_errors_10 (gL2I _) ?_
  refine g_istore_n (lv' := [(3, .int (nI (sN (aS A) 1))), (1, .long (gNow (aS A))), (0, .ref (x.1 0))]) E dL_errors_11 rfl (by decide) rfl ?_
  refine g_aload_n E dL_errors_12 rfl 2 rfl ?_
  refine g_iconst (v := 2) E dL_errors_13 (by decide) ?_
  refine g_callSWL (As := [.ref (x.1 0), .int 2]) (F := []) E (wL_about (x := x) hST hA hb5 hCq2 (2 : Int32)) gL_errors_L_about rfl hdL_about ⟨Nat.le_of_ble_eq_true rfl, Nat.le_of_ble_eq_true rfl⟩ gPerm_n rfl rfl ?_ dL_errors_14 ⟨by show 301 + 1 ≤ 2000; omega, by show 1806 + 6 ≤ 20000; omega⟩ (fun rq3 uq3 hq3 => ?_)
  · exact Nat.le_of_ble_eq_true rfl
  refine g_perm (ws1 := wV G x uq3) gPerm_n' ?_
  obtain ⟨eq3, hCq3⟩ := hq3
  rw [show fAbout A (2 : Int32) = _ from fAbout_2 (A := A)] at eq3 hCq3
  refine g_topL (y := (nI (sB (aS A)).length).toInt64) (eq3.trans (gCd_a rfl)) ?_
  refine g_l2i (v := nI ((sB (aS A)).length)) E dL_errors_17 (gL2I _) ?_
  refine g_istore (lv' := [(4, .int (nI ((sB (aS A)).length))), (3, .int (nI (sN (aS A) 1))), (1, .long (gNow (aS A))), (0, .ref (x.1 0))]) E dL_errors_18 (by decide) rfl ?_
  refine g_aload_n E dL_errors_20 rfl 3 rfl ?_
  refine g_iconst (v := 1) E dL_errors_21 (by decide) ?_
  refine g_callSWL (As := [.ref (x.1 0), .int 1]) (F := []) E (wL_about (x := x) hST hA hb5 hCq3 (1 : Int32)) gL_errors_L_about rfl hdL_about ⟨Nat.le_of_ble_eq_true rfl, Nat.le_of_ble_eq_true rfl⟩ gPerm_n rfl rfl ?_ dL_errors_22 ⟨by show 302 + 1 ≤ 2000; omega, by show 1812 + 6 ≤ 20000; omega⟩ (fun rq4 uq4 hq4 => ?_)
  · exact Nat.le_of_ble_eq_true rfl
  refine g_perm (ws1 := wV G x uq4) gPerm_n' ?_
  obtain ⟨eq4, hCq4⟩ := hq4
  rw [show fAbout A (1 : Int32) = _ from fAbout_1 (A := A)] at eq4 hCq4
  refine g_topL (y := (nI (sN (aS A) 0)).toInt64) (eq4.trans (gCd_a rfl)) ?_
  refine g_l2i (v := nI (sN (aS A) 0)) E dL_errors_25 (gL2I _) ?_
  refine g_istore (lv' := [(5, .int (nI (sN (aS A) 0))), (4, .int (nI ((sB (aS A)).length))), (3, .int (nI (sN (aS A) 1))), (1, .long (gNow (aS A))), (0, .ref (x.1 0))]) E dL_errors_26 (by decide) rfl ?_
  refine g_aload_n E dL_errors_28 rfl 4 rfl ?_
  refine g_iconst (v := (-1)) E dL_errors_29 (by decide) ?_
  refine g_callSWL (As := [.ref (x.1 0), .int (-1)]) (F := []) E (wL_about (x := x) hST hA hb5 hCq4 ((-1) : Int32)) gL_errors_L_about rfl hdL_about ⟨Nat.le_of_ble_eq_true rfl, Nat.le_of_ble_eq_true rfl⟩ gPerm_n rfl rfl ?_ dL_errors_30 ⟨by show 303 + 1 ≤ 2000; omega, by show 1818 + 6 ≤ 20000; omega⟩ (fun rq5 uq5 hq5 => ?_)
  · exact Nat.le_of_ble_eq_true rfl
  refine g_perm (ws1 := wV G x uq5) gPerm_n' ?_
  obtain ⟨eq5, hCq5⟩ := hq5
  rw [show fAbout A ((-1) : Int32) = _ from er_about (A := A) (-1) (by decide)] at eq5 hCq5
  refine g_topL (y := (-9000000000000000002)) (eq5.trans (gCd_k rfl rfl)) ?_
  refine g_ldc2 (v := -9000000000000000002) E kL_errors_17 dL_errors_33 ?_
  refine g_lcmp E dL_errors_36 ?_
  refine g_if_ne (tgt := 542) E dL_errors_37 (by decide) (fun c => absurd (gCmp_eq.mpr rfl) c) (fun _ => ?_)
  refine g_aload_n E dL_errors_40 rfl 4 rfl ?_
  refine g_bipush (v := 11) E dL_errors_41 (by decide) ?_
  refine g_callSWL (As := [.ref (x.1 0), .int 11]) (F := []) E (wL_about (x := x) hST hA hb5 hCq5 (11 : Int32)) gL_errors_L_about rfl hdL_about ⟨Nat.le_of_ble_eq_true rfl, Nat.le_of_ble_eq_true rfl⟩ gPerm_n rfl rfl ?_ dL_errors_43 ⟨by show 304 + 1 ≤ 2000; omega, by show 1824 + 6 ≤ 20000; omega⟩ (fun rq6 uq6 hq6 => ?_)
  · exact Nat.le_of_ble_eq_true rfl
  refine g_perm (ws1 := wV G x uq6) gPerm_n' ?_
  obtain ⟨eq6, hCq6⟩ := hq6
  rw [show fAbout A (11 : Int32) = _ from er_about (A := A) 11 (by decide)] at eq6 hCq6
  refine g_topL (y := (-9000000000000000002)) (eq6.trans (gCd_k rfl rfl)) ?_
  refine g_ldc2 (v := -9000000000000000002) E kL_errors_17 dL_errors_46 ?_
  refine g_lcmp E dL_errors_49 ?_
  refine g_if_ne (tgt := 542) E dL_errors_50 (by decide) (fun c => absurd (gCmp_eq.mpr rfl) c) (fun _ => ?_)
  refine g_aload_n E dL_errors_53 rfl 4 rfl ?_
  refine g_iload_n E dL_errors_54 rfl 2 rfl ?_
  refine g_bipush (v := 9) E dL_errors_55 (by decide) ?_
  refine g_callSWL (As := [.ref (x.1 0), .int (nI (sN (aS A) 1)), .int 9]) (F := []) E (wL_prisoner (x := x) hST hA hb5 hCq6 (nI (sN (aS A) 1)) (9 : Int32)) gL_errors_L_prisoner rfl hdL_prisoner ⟨Nat.le_of_ble_eq_true rfl, Nat.le_of_ble_eq_true rfl⟩ gPerm_n rfl rfl ?_ dL_errors_57 ⟨by show 305 + 1 ≤ 2000; omega, by show 1830 + 6 ≤ 20000; omega⟩ (fun rq7 uq7 hq7 => ?_)
  · exact Nat.le_of_ble_eq_true rfl
  refine g_perm (ws1 := wV G x uq7) gPerm_n' ?_
  obtain ⟨eq7, hCq7⟩ := hq7
  rw [show fPris A (nI (sN (aS A) 1)) (9 : Int32) = _ from er_pris (A := A) 9] at eq7 hCq7
  refine g_topL (y := (-9000000000000000001)) (eq7.trans (gCd_k rfl rfl)) ?_
  refine g_ldc2 (v := -9000000000000000001) E kL_errors_36 dL_errors_60 ?_
  refine g_lcmp E dL_errors_63 ?_
  refine g_if_ne (tgt := 542) E dL_errors_64 (by decide) (fun c => absurd (gCmp_eq.mpr rfl) c) (fun _ => ?_)
  refine g_aload_n E dL_errors_67 rfl 4 rfl ?_
  refine g_bipush (v := 10) E dL_errors_68 (by decide) ?_
  refine g_bipush (v := 9) E dL_errors_70 (by decide) ?_
  refine g_callSWL (As := [.ref (x.1 0), .int 10, .int 9]) (F := []) E (wL_visitor (x := x) hST hA hb5 hCq7 (10 : Int32) (9 : Int32)) gL_errors_L_visitor rfl hdL_visitor ⟨Nat.le_of_ble_eq_true rfl, Nat.le_of_ble_eq_true rfl⟩ gPerm_n rfl rfl ?_ dL_errors_72 ⟨by show 306 + 1 ≤ 2000; omega, by show 1836 + 6 ≤ 20000; omega⟩ (fun rq8 uq8 hq8 => ?_)
  · exact Nat.le_of_ble_eq_true rfl
  refine g_perm (ws1 := wV G x uq8) gPerm_n' ?_
  obtain ⟨eq8, hCq8⟩ := hq8
  rw [show fVisr A (10 : Int32) (9 : Int32) = _ from er_vis (A := A) 10 9 (by decide)] at eq8 hCq8
  refine g_topL (y := (-9000000000000000001)) (eq8.trans (gCd_k rfl rfl)) ?_
  refine g_ldc2 (v := -9000000000000000001) E kL_errors_36 dL_errors_75 ?_
  refine g_lcmp E dL_errors_78 ?_
  refine g_if_ne (tgt := 542) E dL_errors_79 (by decide) (fun c => absurd (gCmp_eq.mpr rfl) c) (fun _ => ?_)
  refine g_aload_n E dL_errors_82 rfl 4 rfl ?_
  refine g_iconst (v := 0) E dL_errors_83 (by decide) ?_
  refine g_iconst (v := 5) E dL_errors_84 (by decide) ?_
  refine g_callSWL (As := [.ref (x.1 0), .int 0, .int 5]) (F := []) E (wL_visitor (x := x) hST hA hb5 hCq8 (0 : Int32) (5 : Int32)) gL_errors_L_visitor rfl hdL_visitor ⟨Nat.le_of_ble_eq_true rfl, Nat.le_of_ble_eq_true rfl⟩ gPerm_n rfl rfl ?_ dL_errors_85 ⟨by show 307 + 1 ≤ 2000; omega, by show 1842 + 6 ≤ 20000; omega⟩ (fun rq9 uq9 hq9 => ?_)
  · exact Nat.le_of_ble_eq_true rfl
  refine g_perm (ws1 := wV G x uq9) gPerm_n' ?_
  obtain ⟨eq9, hCq9⟩ := hq9
  rw [show fVisr A (0 : Int32) (5 : Int32) = _ from er_vis5 (A := A)] at eq9 hCq9
  refine g_topL (y := (-9000000000000000002)) (eq9.trans (gCd_k rfl rfl)) ?_
  refine g_ldc2 (v := -9000000000000000002) E kL_errors_17 dL_errors_88 ?_
  refine g_lcmp E dL_errors_91 ?_
  refine g_if_ne (tgt := 542) E dL_errors_92 (by decide) (fun c => absurd (gCmp_eq.mpr rfl) c) (fun _ => ?_)
  refine g_aload_n E dL_errors_95 rfl 4 rfl ?_
  refine g_iload E dL_errors_96 1 rfl ?_
  refine g_bipush (v := 9) E dL_errors_98 (by decide) ?_
  refine g_callSWL (As := [.ref (x.1 0), .int (nI ((sB (aS A)).length)), .int 9]) (F := []) E (wL_booking (x := x) hST hA hb5 hCq9 (nI ((sB (aS A)).length)) (9 : Int32)) gL_errors_L_booking rfl hdL_booking ⟨Nat.le_of_ble_eq_true rfl, Nat.le_of_ble_eq_true rfl⟩ gPerm_n rfl rfl ?_ dL_errors_100 ⟨by show 308 + 1 ≤ 2000; omega, by show 1848 + 6 ≤ 20000; omega⟩ (fun rq10 uq10 hq10 => ?_)
  · exact Nat.le_of_ble_eq_true rfl
  refine g_perm (ws1 := wV G x uq10) gPerm_n' ?_
  obtain ⟨eq10, hCq10⟩ := hq10
  rw [show fBkng A (nI ((sB (aS A)).length)) (9 : Int32) = _ from er_bkng (A := A) 9] at eq10 hCq10
  refine g_topL (y := (-9000000000000000001)) (eq10.trans (gCd_k rfl rfl)) ?_
  refine g_ldc2 (v := -9000000000000000001) E kL_errors_36 dL_errors_103 ?_
  refine g_lcmp E dL_errors_106 ?_
  refine g_if_ne (tgt := 542) E dL_errors_107 (by decide) (fun c => absurd (gCmp_eq.mpr rfl) c) (fun _ => ?_)
  refine g_aload_n E dL_errors_110 rfl 4 rfl ?_
  refine g_iload E dL_errors_111 1 rfl ?_
  refine g_iconst (v := (-1)) E dL_errors_113 (by decide) ?_
  refine g_callSWL (As := [.ref (x.1 0), .int (nI ((sB (aS A)).length)), .int (-1)]) (F := []) E (wL_line (x := x) hST hA hb5 hCq10 (nI ((sB (aS A)).length)) ((-1) : Int32)) gL_errors_L_line rfl hdL_line ⟨Nat.le_of_ble_eq_true rfl, Nat.le_of_ble_eq_true rfl⟩ gPerm_n rfl rfl ?_ dL_errors_114 ⟨by show 309 + 14 ≤ 2000; omega, by show 1854 + 428 ≤ 20000; omega⟩ (fun rq11 uq11 hq11 => ?_)
  · exact Nat.le_of_ble_eq_true rfl
  refine g_perm (ws1 := wV G x uq11) gPerm_n' ?_
  obtain ⟨eq11, hCq11⟩ := hq11
  rw [show fLine A (nI ((sB (aS A)).length)) ((-1) : Int32) = _ from er_line (A := A) (-1)] at eq11 hCq11
  refine g_topL (y := (-9000000000000000001)) (eq11.trans (gCd_k rfl rfl)) ?_
  refine g_ldc2 (v := -9000000000000000001) E kL_errors_36 dL_errors_117 ?_
  refine g_lcmp E dL_errors_120 ?_
  refine g_if_ne (tgt := 542) E dL_errors_121 (by decide) (fun c => absurd (gCmp_eq.mpr rfl) c) (fun _ => ?_)
  refine g_aload_n E dL_errors_124 rfl 4 rfl ?_
  refine g_iconst (v := (-1)) E dL_errors_125 (by decide) ?_
  refine g_callSWL (As := [.ref (x.1 0), .int (-1)]) (F := []) E (wL_wishAt (x := x) hST hA hb5 hCq11 ((-1) : Int32)) gL_errors_L_wishAt rfl hdL_wishAt ⟨Nat.le_of_ble_eq_true rfl, Nat.le_of_ble_eq_true rfl⟩ gPerm_n rfl rfl ?_ dL_errors_126 ⟨by show 323 + 1 ≤ 2000; omega, by show 2282 + 6 ≤ 20000; omega⟩ (fun rq12 uq12 hq12 => ?_)
  · exact Nat.le_of_ble_eq_true rfl
  refine g_perm (ws1 := wV G x uq12) gPerm_n' ?_
  obtain ⟨eq12, hCq12⟩ := hq12
  rw [show fWish A ((-1) : Int32) = _ from er_wishAt (A := A)] at eq12 hCq12
  refine g_topL (y := (-9000000000000000002)) (eq12.trans (gCd_k rfl rfl)) ?_
  refine g_ldc2 (v := -9000000000000000002) E kL_errors_17 dL_errors_129 ?_
  refine g_lcmp E dL_errors_132 ?_
  refine g_if_ne (tgt := 542) E dL_errors_133 (by decide) (fun c => absurd (gCmp_eq.mpr rfl) c) (fun _ => ?_)
  refine g_aload_n E dL_errors_136 rfl 4 rfl ?_
  refine g_bipush (v := 6) E dL_errors_137 (by decide) ?_
  refine g_callSWL (As := [.ref (x.1 0), .int 6]) (F := []) E (wL_setting (x := x) hST hA hb5 hCq12 (6 : Int32)) gL_errors_L_setting rfl hdL_setting ⟨Nat.le_of_ble_eq_true rfl, Nat.le_of_ble_eq_true rfl⟩ gPerm_n rfl rfl ?_ dL_errors_139 ⟨by show 324 + 1 ≤ 2000; omega, by show 2288 + 6 ≤ 20000; omega⟩ (fun rq13 uq13 hq13 => ?_)
  · exact Nat.le_of_ble_eq_true rfl
  refine g_perm (ws1 := wV G x uq13) gPerm_n' ?_
  obtain ⟨eq13, hCq13⟩ := hq13
  rw [show fSett A (6 : Int32) = _ from er_sett (A := A)] at eq13 hCq13
  refine g_topL (y := (-9000000000000000002)) (eq13.trans (gCd_k rfl rfl)) ?_
  refine g_ldc2 (v := -9000000000000000002) E kL_errors_17 dL_errors_142 ?_
  refine g_lcmp E dL_errors_145 ?_
  refine g_if_ne (tgt := 542) E dL_errors_146 (by decide) (fun c => absurd (gCmp_eq.mpr rfl) c) (fun _ => ?_)
  refine g_aload_n E dL_errors_149 rfl 4 rfl ?_
  refine g_iconst (v := 4) E dL_errors_150 (by decide) ?_
  refine g_callSWL (As := [.ref (x.1 0), .int 4]) (F := []) E (wL_addPrisoner (x := x) hST hA hb5 hCq13 (4 : Int32)) gL_errors_L_addPrisoner rfl hdL_addPrisoner ⟨Nat.le_of_ble_eq_true rfl, Nat.le_of_ble_eq_true rfl⟩ gPerm_n rfl rfl ?_ dL_errors_151 ⟨by show 325 + 1 ≤ 2000; omega, by show 2294 + 6 ≤ 20000; omega⟩ (fun rq14 uq14 hq14 => ?_)
  · exact Nat.le_of_ble_eq_true rfl
  refine g_perm (ws1 := wV G x uq14) gPerm_n' ?_
  obtain ⟨eq14, hCq14⟩ := hq14
  rw [show aAct 0 1 2 A (gTryAdd (aS A) (4 : Int32)) = _ from er_add (A := A) 4 (by decide)] at eq14 hCq14
  refine g_topL (y := (-9000000000000000002)) (eq14.trans (gCd_k rfl rfl)) ?_
  refine g_ldc2 (v := -9000000000000000002) E kL_errors_17 dL_errors_154 ?_
  refine g_lcmp E dL_errors_157 ?_
  refine g_if_ne (tgt := 542) E dL_errors_158 (by decide) (fun c => absurd (gCmp_eq.mpr rfl) c) (fun _ => ?_)
  refine g_aload_n E dL_errors_161 rfl 4 rfl ?_
  refine g_iconst (v := (-1)) E dL_errors_162 (by decide) ?_
  refine g_callSWL (As := [.ref (x.1 0), .int (-1)]) (F := []) E (wL_addPrisoner (x := x) hST hA hb5 hCq14 ((-1) : Int32)) gL_errors_L_addPrisoner rfl hdL_addPrisoner ⟨Nat.le_of_ble_eq_true rfl, Nat.le_of_ble_eq_true rfl⟩ gPerm_n rfl rfl ?_ dL_errors_163 ⟨by show 326 + 1 ≤ 2000; omega, by show 2300 + 6 ≤ 20000; omega⟩ (fun rq15 uq15 hq15 => ?_)
  · exact Nat.le_of_ble_eq_true rfl
  refine g_perm (ws1 := wV G x uq15) gPerm_n' ?_
  obtain ⟨eq15, hCq15⟩ := hq15
  rw [show aAct 0 1 2 A (gTryAdd (aS A) ((-1) : Int32)) = _ from er_add (A := A) (-1) (by decide)] at eq15 hCq15
  refine g_topL (y := (-9000000000000000002)) (eq15.trans (gCd_k rfl rfl)) ?_
  refine g_ldc2 (v := -9000000000000000002) E kL_errors_17 dL_errors_166 ?_
  refine g_lcmp E dL_errors_169 ?_
  refine g_if_ne (tgt := 542) E dL_errors_170 (by decide) (fun c => absurd (gCmp_eq.mpr rfl) c) (fun _ => ?_)
  have cut16 : ∀ (uc : gVu) (csc : Nat) (ssc : Nat), (gClsI A uc) → (csc ≤ 327 + 1) → (ssc ≤ 2306 + 6) → gW V 10 csc ssc (wV G x uc) [(0, .ref (x.1 0)), (1, .long (gNow (aS A))), (3, .int (nI (sN (aS A) 1))), (4, .int (nI ((sB (aS A)).length))), (5, .int (nI (sN (aS A) 0)))] 191 [] := by
    intro uc csc ssc hCc hcc hsc
    refine g_aload_n E dL_errors_191 rfl 0 rfl ?_
    refine g_iload_n E dL_errors_192 rfl 2 rfl ?_
    refine g_bipush (v := 9) E dL_errors_193 (by decide) ?_
    refine g_callSWL (As := [.ref (x.1 0), .int (nI (sN (aS A) 1)), .int 9]) (F := []) E (wL_promote (x := x) hST hA hb5 hCc (nI (sN (aS A) 1)) (9 : Int32)) gL_errors_L_promote rfl hdL_promote ⟨Nat.le_of_ble_eq_true rfl, Nat.le_of_ble_eq_true rfl⟩ gPerm_n rfl rfl ?_ dL_errors_195 ⟨by show csc + 1 ≤ 2000; omega, by show ssc + 6 ≤ 20000; omega⟩ (fun rq17 uq17 hq17 => ?_)
    · exact Nat.le_of_ble_eq_true rfl
    refine g_perm (ws1 := wV G x uq17) gPerm_n' ?_
    obtain ⟨eq17, hCq17⟩ := hq17
    rw [show aAct 1 2 0 A (gTryPromote (aS A) (nI (sN (aS A) 1)) (9 : Int32)) = _ from er_promote (A := A) 9] at eq17 hCq17
    refine g_topL (y := (-9000000000000000001)) (eq17.trans (gCd_k rfl rfl)) ?_
    refine g_ldc2 (v := -9000000000000000001) E kL_errors_36 dL_errors_198 ?_
    refine g_lcmp E dL_errors_201 ?_
    refine g_if_ne (tgt := 542) E dL_errors_202 (by decide) (fun c => absurd (gCmp_eq.mpr rfl) c) (fun _ => ?_)
    refine g_aload_n E dL_errors_205 rfl 0 rfl ?_
    refine g_iload_n E dL_errors_206 rfl 2 rfl ?_
    refine g_iconst (v := 0) E dL_errors_207 (by decide) ?_
    refine g_iconst (v := 1) E dL_errors_208 (by decide) ?_
    refine g_callSWL (As := [.ref (x.1 0), .int (nI (sN (aS A) 1)), .int 0, .int 1]) (F := []) E (wL_list (x := x) hST hA hb5 hCq17 (nI (sN (aS A) 1)) (0 : Int32) (1 : Int32)) gL_errors_L_list rfl hdL_list ⟨Nat.le_of_ble_eq_true rfl, Nat.le_of_ble_eq_true rfl⟩ gPerm_n rfl rfl ?_ dL_errors_209 ⟨by show (csc + 1) + 1 ≤ 2000; omega, by show (ssc + 6) + 6 ≤ 20000; omega⟩ (fun rq18 uq18 hq18 => ?_)
    · exact Nat.le_of_ble_eq_true rfl
    refine g_perm (ws1 := wV G x uq18) gPerm_n' ?_
    obtain ⟨eq18, hCq18⟩ := hq18
    rw [show aAct 1 0 0 A (gTryList (aS A) (nI (sN (aS A) 1)) (0 : Int32) (1 : Int32)) = _ from er_list (A := A) 0 1] at eq18 hCq18
    refine g_topL (y := (-9000000000000000001)) (eq18.trans (gCd_k rfl rfl)) ?_
    refine g_ldc2 (v := -9000000000000000001) E kL_errors_36 dL_errors_212 ?_
    refine g_lcmp E dL_errors_215 ?_
    refine g_if_ne (tgt := 542) E dL_errors_216 (by decide) (fun c => absurd (gCmp_eq.mpr rfl) c) (fun _ => ?_)
    refine g_aload_n E dL_errors_219 rfl 0 rfl ?_
    refine g_iconst (v := 0) E dL_errors_220 (by decide) ?_
    refine g_bipush (v := 10) E dL_errors_221 (by decide) ?_
    refine g_iconst (v := 1) E dL_errors_223 (by decide) ?_
    refine g_callSWL (As := [.ref (x.1 0), .int 0, .int 10, .int 1]) (F := []) E (wL_list (x := x) hST hA hb5 hCq18 (0 : Int32) (10 : Int32) (1 : Int32)) gL_errors_L_list rfl hdL_list ⟨Nat.le_of_ble_eq_true rfl, Nat.le_of_ble_eq_true rfl⟩ gPerm_n rfl rfl ?_ dL_errors_224 ⟨by show (csc + 2) + 1 ≤ 2000; omega, by show (ssc + 12) + 6 ≤ 20000; omega⟩ (fun rq19 uq19 hq19 => ?_)
    · exact Nat.le_of_ble_eq_true rfl
    refine g_perm (ws1 := wV G x uq19) gPerm_n' ?_
    obtain ⟨eq19, hCq19⟩ := hq19
    rw [show aAct 1 0 0 A (gTryList (aS A) (0 : Int32) (10 : Int32) (1 : Int32)) = _ from er_list10 (A := A) 0 1] at eq19 hCq19
    refine g_topL (y := (-9000000000000000001)) (eq19.trans (gCd_k rfl rfl)) ?_
    refine g_ldc2 (v := -9000000000000000001) E kL_errors_36 dL_errors_227 ?_
    refine g_lcmp E dL_errors_230 ?_
    refine g_if_ne (tgt := 542) E dL_errors_231 (by decide) (fun c => absurd (gCmp_eq.mpr rfl) c) (fun _ => ?_)
    refine g_aload_n E dL_errors_234 rfl 0 rfl ?_
    refine g_iload_n E dL_errors_235 rfl 2 rfl ?_
    refine g_iconst (v := 0) E dL_errors_236 (by decide) ?_
    refine g_iconst (v := 1) E dL_errors_237 (by decide) ?_
    refine g_callSWL (As := [.ref (x.1 0), .int (nI (sN (aS A) 1)), .int 0, .int 1]) (F := []) E (wL_keepApart (x := x) hST hA hb5 hCq19 (nI (sN (aS A) 1)) (0 : Int32) (1 : Int32)) gL_errors_L_keepApart rfl hdL_keepApart ⟨Nat.le_of_ble_eq_true rfl, Nat.le_of_ble_eq_true rfl⟩ gPerm_n rfl rfl ?_ dL_errors_238 ⟨by show (csc + 3) + 1 ≤ 2000; omega, by show (ssc + 18) + 6 ≤ 20000; omega⟩ (fun rq20 uq20 hq20 => ?_)
    · exact Nat.le_of_ble_eq_true rfl
    refine g_perm (ws1 := wV G x uq20) gPerm_n' ?_
    obtain ⟨eq20, hCq20⟩ := hq20
    rw [show aAct 1 0 2 A (gTryApart (aS A) (nI (sN (aS A) 1)) (0 : Int32) (1 : Int32)) = _ from er_apart (A := A) 0 1] at eq20 hCq20
    refine g_topL (y := (-9000000000000000001)) (eq20.trans (gCd_k rfl rfl)) ?_
    refine g_ldc2 (v := -9000000000000000001) E kL_errors_36 dL_errors_241 ?_
    refine g_lcmp E dL_errors_244 ?_
    refine g_if_ne (tgt := 542) E dL_errors_245 (by decide) (fun c => absurd (gCmp_eq.mpr rfl) c) (fun _ => ?_)
    refine g_aload_n E dL_errors_248 rfl 0 rfl ?_
    refine g_iconst (v := 0) E dL_errors_249 (by decide) ?_
    refine g_iload_n E dL_errors_250 rfl 2 rfl ?_
    refine g_iconst (v := 0) E dL_errors_251 (by decide) ?_
    refine g_callSWL (As := [.ref (x.1 0), .int 0, .int (nI (sN (aS A) 1)), .int 0]) (F := []) E (wL_keepApart (x := x) hST hA hb5 hCq20 (0 : Int32) (nI (sN (aS A) 1)) (0 : Int32)) gL_errors_L_keepApart rfl hdL_keepApart ⟨Nat.le_of_ble_eq_true rfl, Nat.le_of_ble_eq_true rfl⟩ gPerm_n rfl rfl ?_ dL_errors_252 ⟨by show (csc + 4) + 1 ≤ 2000; omega, by show (ssc + 24) + 6 ≤ 20000; omega⟩ (fun rq21 uq21 hq21 => ?_)
    · exact Nat.le_of_ble_eq_true rfl
    refine g_perm (ws1 := wV G x uq21) gPerm_n' ?_
    obtain ⟨eq21, hCq21⟩ := hq21
    rw [show aAct 1 0 2 A (gTryApart (aS A) (0 : Int32) (nI (sN (aS A) 1)) (0 : Int32)) = _ from er_apart2 (A := A) 0 0] at eq21 hCq21
    refine g_topL (y := (-9000000000000000001)) (eq21.trans (gCd_k rfl rfl)) ?_
    refine g_ldc2 (v := -9000000000000000001) E kL_errors_36 dL_errors_255 ?_
    refine g_lcmp E dL_errors_258 ?_
    refine g_if_ne (tgt := 542) E dL_errors_259 (by decide) (fun c => absurd (gCmp_eq.mpr rfl) c) (fun _ => ?_)
    refine g_aload_n E dL_errors_262 rfl 0 rfl ?_
    refine g_iload_n E dL_errors_263 rfl 2 rfl ?_
    refine g_iconst (v := 0) E dL_errors_264 (by decide) ?_
    refine g_iconst (v := 0) E dL_errors_265 (by decide) ?_
    refine g_bipush (v := 9) E dL_errors_266 (by decide) ?_
    refine g_callSWL (As := [.ref (x.1 0), .int (nI (sN (aS A) 1)), .int 0, .int 0, .int 9]) (F := []) E (wL_book (x := x) hST hA hb5 hCq21 (nI (sN (aS A) 1)) (0 : Int32) (0 : Int32) (9 : Int32)) gL_errors_L_book rfl hdL_book ⟨Nat.le_of_ble_eq_true rfl, Nat.le_of_ble_eq_true rfl⟩ gPerm_n rfl rfl ?_ dL_errors_268 ⟨by show (csc + 5) + 1 ≤ 2000; omega, by show (ssc + 30) + 6 ≤ 20000; omega⟩ (fun rq22 uq22 hq22 => ?_)
    · exact Nat.le_of_ble_eq_true rfl
    refine g_perm (ws1 := wV G x uq22) gPerm_n' ?_
    obtain ⟨eq22, hCq22⟩ := hq22
    rw [show aAct 1 2 3 A (gTryBook (aS A) (nI (sN (aS A) 1)) (0 : Int32) (0 : Int32) (9 : Int32)) = _ from er_book (A := A) 0 0 9] at eq22 hCq22
    refine g_topL (y := (-9000000000000000001)) (eq22.trans (gCd_k rfl rfl)) ?_
    refine g_ldc2 (v := -9000000000000000001) E kL_errors_36 dL_errors_271 ?_
    refine g_lcmp E dL_errors_274 ?_
    refine g_if_ne (tgt := 542) E dL_errors_275 (by decide) (fun c => absurd (gCmp_eq.mpr rfl) c) (fun _ => ?_)
    refine g_aload_n E dL_errors_278 rfl 0 rfl ?_
    refine g_iconst (v := 0) E dL_errors_279 (by decide) ?_
    refine g_bipush (v := 10) E dL_errors_280 (by decide) ?_
    refine g_iconst (v := 0) E dL_errors_282 (by decide) ?_
    refine g_bipush (v := 9) E dL_errors_283 (by decide) ?_
    refine g_callSWL (As := [.ref (x.1 0), .int 0, .int 10, .int 0, .int 9]) (F := []) E (wL_book (x := x) hST hA hb5 hCq22 (0 : Int32) (10 : Int32) (0 : Int32) (9 : Int32)) gL_errors_L_book rfl hdL_book ⟨Nat.le_of_ble_eq_true rfl, Nat.le_of_ble_eq_true rfl⟩ gPerm_n rfl rfl ?_ dL_errors_285 ⟨by show (csc + 6) + 1 ≤ 2000; omega, by show (ssc + 36) + 6 ≤ 20000; omega⟩ (fun rq23 uq23 hq23 => ?_)
    · exact Nat.le_of_ble_eq_true rfl
    refine g_perm (ws1 := wV G x uq23) gPerm_n' ?_
    obtain ⟨eq23, hCq23⟩ := hq23
    rw [show aAct 1 2 3 A (gTryBook (aS A) (0 : Int32) (10 : Int32) (0 : Int32) (9 : Int32)) = _ from er_book10 (A := A) 0 0 9] at eq23 hCq23
    refine g_topL (y := (-9000000000000000001)) (eq23.trans (gCd_k rfl rfl)) ?_
    refine g_ldc2 (v := -9000000000000000001) E kL_errors_36 dL_errors_288 ?_
    refine g_lcmp E dL_errors_291 ?_
    refine g_if_ne (tgt := 542) E dL_errors_292 (by decide) (fun c => absurd (gCmp_eq.mpr rfl) c) (fun _ => ?_)
    refine g_aload_n E dL_errors_295 rfl 0 rfl ?_
    refine g_iload E dL_errors_296 3 rfl ?_
    refine g_callSWL (As := [.ref (x.1 0), .int (nI ((sB (aS A)).length))]) (F := []) E (wL_cancel (x := x) hST hA hb5 hCq23 (nI ((sB (aS A)).length))) gL_errors_L_cancel rfl hdL_cancel ⟨Nat.le_of_ble_eq_true rfl, Nat.le_of_ble_eq_true rfl⟩ gPerm_n rfl rfl ?_ dL_errors_298 ⟨by show (csc + 7) + 1 ≤ 2000; omega, by show (ssc + 42) + 6 ≤ 20000; omega⟩ (fun rq24 uq24 hq24 => ?_)
    · exact Nat.le_of_ble_eq_true rfl
    refine g_perm (ws1 := wV G x uq24) gPerm_n' ?_
    obtain ⟨eq24, hCq24⟩ := hq24
    rw [show aAct 1 0 0 A (gTryCancel (aS A) (nI ((sB (aS A)).length))) = _ from er_cancel (A := A)] at eq24 hCq24
    refine g_topL (y := (-9000000000000000001)) (eq24.trans (gCd_k rfl rfl)) ?_
    refine g_ldc2 (v := -9000000000000000001) E kL_errors_36 dL_errors_301 ?_
    refine g_lcmp E dL_errors_304 ?_
    refine g_if_ne (tgt := 542) E dL_errors_305 (by decide) (fun c => absurd (gCmp_eq.mpr rfl) c) (fun _ => ?_)
    refine g_aload_n E dL_errors_308 rfl 0 rfl ?_
    refine g_iconst (v := (-1)) E dL_errors_309 (by decide) ?_
    refine g_callSWL (As := [.ref (x.1 0), .int (-1)]) (F := []) E (wL_cancel (x := x) hST hA hb5 hCq24 ((-1) : Int32)) gL_errors_L_cancel rfl hdL_cancel ⟨Nat.le_of_ble_eq_true rfl, Nat.le_of_ble_eq_true rfl⟩ gPerm_n rfl rfl ?_ dL_errors_310 ⟨by show (csc + 8) + 1 ≤ 2000; omega, by show (ssc + 48) + 6 ≤ 20000; omega⟩ (fun rq25 uq25 hq25 => ?_)
    · exact Nat.le_of_ble_eq_true rfl
    refine g_perm (ws1 := wV G x uq25) gPerm_n' ?_
    obtain ⟨eq25, hCq25⟩ := hq25
    rw [show aAct 1 0 0 A (gTryCancel (aS A) ((-1) : Int32)) = _ from er_cancel1 (A := A)] at eq25 hCq25
    refine g_topL (y := (-9000000000000000001)) (eq25.trans (gCd_k rfl rfl)) ?_
    refine g_ldc2 (v := -9000000000000000001) E kL_errors_36 dL_errors_313 ?_
    refine g_lcmp E dL_errors_316 ?_
    refine g_if_ne (tgt := 542) E dL_errors_317 (by decide) (fun c => absurd (gCmp_eq.mpr rfl) c) (fun _ => ?_)
    refine g_aload_n E dL_errors_320 rfl 0 rfl ?_
    refine g_iload E dL_errors_321 3 rfl ?_
    refine g_bipush (v := 60) E dL_errors_323 (by decide) ?_
    refine g_callSWL (As := [.ref (x.1 0), .int (nI ((sB (aS A)).length)), .int 60]) (F := []) E (wL_late (x := x) hST hA hb5 hCq25 (nI ((sB (aS A)).length)) (60 : Int32)) gL_errors_L_late rfl hdL_late ⟨Nat.le_of_ble_eq_true rfl, Nat.le_of_ble_eq_true rfl⟩ gPerm_n rfl rfl ?_ dL_errors_325 ⟨by show (csc + 9) + 1 ≤ 2000; omega, by show (ssc + 54) + 6 ≤ 20000; omega⟩ (fun rq26 uq26 hq26 => ?_)
    · exact Nat.le_of_ble_eq_true rfl
    refine g_perm (ws1 := wV G x uq26) gPerm_n' ?_
    obtain ⟨eq26, hCq26⟩ := hq26
    rw [show aAct 1 2 0 A (gTryLate (aS A) (nI ((sB (aS A)).length)) (60 : Int32)) = _ from er_late (A := A) 60] at eq26 hCq26
    refine g_topL (y := (-9000000000000000001)) (eq26.trans (gCd_k rfl rfl)) ?_
    refine g_ldc2 (v := -9000000000000000001) E kL_errors_36 dL_errors_328 ?_
    refine g_lcmp E dL_errors_331 ?_
    refine g_if_ne (tgt := 542) E dL_errors_332 (by decide) (fun c => absurd (gCmp_eq.mpr rfl) c) (fun _ => ?_)
    refine g_aload_n E dL_errors_335 rfl 0 rfl ?_
    refine g_bipush (v := 10) E dL_errors_336 (by decide) ?_
    refine g_iconst (v := 1) E dL_errors_338 (by decide) ?_
    refine g_callSWL (As := [.ref (x.1 0), .int 10, .int 1]) (F := []) E (wL_carries (x := x) hST hA hb5 hCq26 (10 : Int32) (1 : Int32)) gL_errors_L_carries rfl hdL_carries ⟨Nat.le_of_ble_eq_true rfl, Nat.le_of_ble_eq_true rfl⟩ gPerm_n rfl rfl ?_ dL_errors_339 ⟨by show (csc + 10) + 1 ≤ 2000; omega, by show (ssc + 60) + 6 ≤ 20000; omega⟩ (fun rq27 uq27 hq27 => ?_)
    · exact Nat.le_of_ble_eq_true rfl
    refine g_perm (ws1 := wV G x uq27) gPerm_n' ?_
    obtain ⟨eq27, hCq27⟩ := hq27
    rw [show aAct 1 0 0 A (gTryCarry (aS A) (10 : Int32) (1 : Int32)) = _ from er_carry (A := A) 1] at eq27 hCq27
    refine g_topL (y := (-9000000000000000001)) (eq27.trans (gCd_k rfl rfl)) ?_
    refine g_ldc2 (v := -9000000000000000001) E kL_errors_36 dL_errors_342 ?_
    refine g_lcmp E dL_errors_345 ?_
    refine g_if_ne (tgt := 542) E dL_errors_346 (by decide) (fun c => absurd (gCmp_eq.mpr rfl) c) (fun _ => ?_)
    refine g_aload_n E dL_errors_349 rfl 0 rfl ?_
    refine g_iload_n E dL_errors_350 rfl 2 rfl ?_
    refine g_bipush (v := 100) E dL_errors_351 (by decide) ?_
    refine g_callSWL (As := [.ref (x.1 0), .int (nI (sN (aS A) 1)), .int 100]) (F := []) E (wL_punish (x := x) hST hA hb5 hCq27 (nI (sN (aS A) 1)) (100 : Int32)) gL_errors_L_punish rfl hdL_punish ⟨Nat.le_of_ble_eq_true rfl, Nat.le_of_ble_eq_true rfl⟩ gPerm_n rfl rfl ?_ dL_errors_353 ⟨by show (csc + 11) + 1 ≤ 2000; omega, by show (ssc + 66) + 6 ≤ 20000; omega⟩ (fun rq28 uq28 hq28 => ?_)
    · exact Nat.le_of_ble_eq_true rfl
    refine g_perm (ws1 := wV G x uq28) gPerm_n' ?_
    obtain ⟨eq28, hCq28⟩ := hq28
    rw [show aAct 1 2 0 A (gTryPunish (aS A) (nI (sN (aS A) 1)) (100 : Int32)) = _ from er_punish (A := A) 100] at eq28 hCq28
    refine g_topL (y := (-9000000000000000001)) (eq28.trans (gCd_k rfl rfl)) ?_
    refine g_ldc2 (v := -9000000000000000001) E kL_errors_36 dL_errors_356 ?_
    refine g_lcmp E dL_errors_359 ?_
    refine g_if_ne (tgt := 542) E dL_errors_360 (by decide) (fun c => absurd (gCmp_eq.mpr rfl) c) (fun _ => ?_)
    refine g_aload_n E dL_errors_363 rfl 0 rfl ?_
    refine g_iload_n E dL_errors_364 rfl 2 rfl ?_
    refine g_iconst (v := 0) E dL_errors_365 (by decide) ?_
    refine g_callSWL (As := [.ref (x.1 0), .int (nI (sN (aS A) 1)), .int 0]) (F := []) E (wL_wish (x := x) hST hA hb5 hCq28 (nI (sN (aS A) 1)) (0 : Int32)) gL_errors_L_wish rfl hdL_wish ⟨Nat.le_of_ble_eq_true rfl, Nat.le_of_ble_eq_true rfl⟩ gPerm_n rfl rfl ?_ dL_errors_366 ⟨by show (csc + 12) + 1 ≤ 2000; omega, by show (ssc + 72) + 6 ≤ 20000; omega⟩ (fun rq29 uq29 hq29 => ?_)
    · exact Nat.le_of_ble_eq_true rfl
    refine g_perm (ws1 := wV G x uq29) gPerm_n' ?_
    obtain ⟨eq29, hCq29⟩ := hq29
    rw [show aAct 1 0 2 A (gTryWish (aS A) (nI (sN (aS A) 1)) (0 : Int32)) = _ from er_wish (A := A) 0] at eq29 hCq29
    refine g_topL (y := (-9000000000000000001)) (eq29.trans (gCd_k rfl rfl)) ?_
    refine g_ldc2 (v := -9000000000000000001) E kL_errors_36 dL_errors_369 ?_
    refine g_lcmp E dL_errors_372 ?_
    refine g_if_ne (tgt := 542) E dL_errors_373 (by decide) (fun c => absurd (gCmp_eq.mpr rfl) c) (fun _ => ?_)
    refine g_aload_n E dL_errors_376 rfl 0 rfl ?_
    refine g_iconst (v := 0) E dL_errors_377 (by decide) ?_
    refine g_callSWL (As := [.ref (x.1 0), .int 0]) (F := []) E (wL_run (x := x) hST hA hb5 hCq29 (0 : Int32)) gL_errors_L_run rfl hdL_run ⟨Nat.le_of_ble_eq_true rfl, Nat.le_of_ble_eq_true rfl⟩ gPerm_n rfl rfl ?_ dL_errors_378 ⟨by show (csc + 13) + 1 ≤ 2000; omega, by show (ssc + 78) + 6 ≤ 20000; omega⟩ (fun rq30 uq30 hq30 => ?_)
    · exact Nat.le_of_ble_eq_true rfl
    refine g_perm (ws1 := wV G x uq30) gPerm_n' ?_
    obtain ⟨eq30, hCq30⟩ := hq30
    rw [show fRun A (0 : Int32) = _ from er_run (A := A) 0 (by decide)] at eq30 hCq30
    refine g_topL (y := (-9000000000000000002)) (eq30.trans (gCd_k rfl rfl)) ?_
    refine g_ldc2 (v := -9000000000000000002) E kL_errors_17 dL_errors_381 ?_
    refine g_lcmp E dL_errors_384 ?_
    refine g_if_ne (tgt := 542) E dL_errors_385 (by decide) (fun c => absurd (gCmp_eq.mpr rfl) c) (fun _ => ?_)
    refine g_aload_n E dL_errors_388 rfl 0 rfl ?_
    refine g_bipush (v := 31) E dL_errors_389 (by decide) ?_
    refine g_callSWL (As := [.ref (x.1 0), .int 31]) (F := []) E (wL_run (x := x) hST hA hb5 hCq30 (31 : Int32)) gL_errors_L_run rfl hdL_run ⟨Nat.le_of_ble_eq_true rfl, Nat.le_of_ble_eq_true rfl⟩ gPerm_n rfl rfl ?_ dL_errors_391 ⟨by show (csc + 14) + 1 ≤ 2000; omega, by show (ssc + 84) + 6 ≤ 20000; omega⟩ (fun rq31 uq31 hq31 => ?_)
    · exact Nat.le_of_ble_eq_true rfl
    refine g_perm (ws1 := wV G x uq31) gPerm_n' ?_
    obtain ⟨eq31, hCq31⟩ := hq31
    rw [show fRun A (31 : Int32) = _ from er_run (A := A) 31 (by decide)] at eq31 hCq31
    refine g_topL (y := (-9000000000000000002)) (eq31.trans (gCd_k rfl rfl)) ?_
    refine g_ldc2 (v := -9000000000000000002) E kL_errors_17 dL_errors_394 ?_
    refine g_lcmp E dL_errors_397 ?_
    refine g_if_ne (tgt := 542) E dL_errors_398 (by decide) (fun c => absurd (gCmp_eq.mpr rfl) c) (fun _ => ?_)
    refine g_aload_n E dL_errors_401 rfl 0 rfl ?_
    refine g_iconst (v := 0) E dL_errors_402 (by decide) ?_
    refine g_iconst (v := 0) E dL_errors_403 (by decide) ?_
    refine g_callSWL (As := [.ref (x.1 0), .int 0, .int 0]) (F := []) E (wL_set (x := x) hST hA hb5 hCq31 (0 : Int32) (0 : Int32)) gL_errors_L_set rfl hdL_set ⟨Nat.le_of_ble_eq_true rfl, Nat.le_of_ble_eq_true rfl⟩ gPerm_n rfl rfl ?_ dL_errors_404 ⟨by show (csc + 15) + 1 ≤ 2000; omega, by show (ssc + 90) + 6 ≤ 20000; omega⟩ (fun rq32 uq32 hq32 => ?_)
    · exact Nat.le_of_ble_eq_true rfl
    refine g_perm (ws1 := wV G x uq32) gPerm_n' ?_
    obtain ⟨eq32, hCq32⟩ := hq32
    rw [show aAct 0 1 0 A (gTrySet (aS A) (0 : Int32) (0 : Int32)) = _ from er_set (A := A) 0 0 (by decide) (by decide)] at eq32 hCq32
    refine g_topL (y := (-9000000000000000002)) (eq32.trans (gCd_k rfl rfl)) ?_
    refine g_ldc2 (v := -9000000000000000002) E kL_errors_17 dL_errors_407 ?_
    refine g_lcmp E dL_errors_410 ?_
    refine g_if_ne (tgt := 542) E dL_errors_411 (by decide) (fun c => absurd (gCmp_eq.mpr rfl) c) (fun _ => ?_)
    refine g_aload_n E dL_errors_414 rfl 0 rfl ?_
    refine g_iconst (v := 1) E dL_errors_415 (by decide) ?_
    refine g_bipush (v := 10) E dL_errors_416 (by decide) ?_
    refine g_callSWL (As := [.ref (x.1 0), .int 1, .int 10]) (F := []) E (wL_set (x := x) hST hA hb5 hCq32 (1 : Int32) (10 : Int32)) gL_errors_L_set rfl hdL_set ⟨Nat.le_of_ble_eq_true rfl, Nat.le_of_ble_eq_true rfl⟩ gPerm_n rfl rfl ?_ dL_errors_418 ⟨by show (csc + 16) + 1 ≤ 2000; omega, by show (ssc + 96) + 6 ≤ 20000; omega⟩ (fun rq33 uq33 hq33 => ?_)
    · exact Nat.le_of_ble_eq_true rfl
    refine g_perm (ws1 := wV G x uq33) gPerm_n' ?_
    obtain ⟨eq33, hCq33⟩ := hq33
    rw [show aAct 0 1 0 A (gTrySet (aS A) (1 : Int32) (10 : Int32)) = _ from er_set (A := A) 1 10 (by decide) (by decide)] at eq33 hCq33
    refine g_topL (y := (-9000000000000000002)) (eq33.trans (gCd_k rfl rfl)) ?_
    refine g_ldc2 (v := -9000000000000000002) E kL_errors_17 dL_errors_421 ?_
    refine g_lcmp E dL_errors_424 ?_
    refine g_if_ne (tgt := 542) E dL_errors_425 (by decide) (fun c => absurd (gCmp_eq.mpr rfl) c) (fun _ => ?_)
    refine g_aload_n E dL_errors_428 rfl 0 rfl ?_
    refine g_iconst (v := 4) E dL_errors_429 (by decide) ?_
    refine g_bipush (v := 60) E dL_errors_430 (by decide) ?_
    refine g_callSWL (As := [.ref (x.1 0), .int 4, .int 60]) (F := []) E (wL_set (x := x) hST hA hb5 hCq33 (4 : Int32) (60 : Int32)) gL_errors_L_set rfl hdL_set ⟨Nat.le_of_ble_eq_true rfl, Nat.le_of_ble_eq_true rfl⟩ gPerm_n rfl rfl ?_ dL_errors_432 ⟨by show (csc + 17) + 1 ≤ 2000; omega, by show (ssc + 102) + 6 ≤ 20000; omega⟩ (fun rq34 uq34 hq34 => ?_)
    · exact Nat.le_of_ble_eq_true rfl
    refine g_perm (ws1 := wV G x uq34) gPerm_n' ?_
    obtain ⟨eq34, hCq34⟩ := hq34
    rw [show aAct 0 1 0 A (gTrySet (aS A) (4 : Int32) (60 : Int32)) = _ from er_set (A := A) 4 60 (by decide) (by decide)] at eq34 hCq34
    refine g_topL (y := (-9000000000000000002)) (eq34.trans (gCd_k rfl rfl)) ?_
    refine g_ldc2 (v := -9000000000000000002) E kL_errors_17 dL_errors_435 ?_
    refine g_lcmp E dL_errors_438 ?_
    refine g_if_ne (tgt := 542) E dL_errors_439 (by decide) (fun c => absurd (gCmp_eq.mpr rfl) c) (fun _ => ?_)
    refine g_aload_n E dL_errors_442 rfl 0 rfl ?_
    refine g_iconst (v := 5) E dL_errors_443 (by decide) ?_
    refine g_bipush (v := 100) E dL_errors_444 (by decide) ?_
    refine g_callSWL (As := [.ref (x.1 0), .int 5, .int 100]) (F := []) E (wL_set (x := x) hST hA hb5 hCq34 (5 : Int32) (100 : Int32)) gL_errors_L_set rfl hdL_set ⟨Nat.le_of_ble_eq_true rfl, Nat.le_of_ble_eq_true rfl⟩ gPerm_n rfl rfl ?_ dL_errors_446 ⟨by show (csc + 18) + 1 ≤ 2000; omega, by show (ssc + 108) + 6 ≤ 20000; omega⟩ (fun rq35 uq35 hq35 => ?_)
    · exact Nat.le_of_ble_eq_true rfl
    refine g_perm (ws1 := wV G x uq35) gPerm_n' ?_
    obtain ⟨eq35, hCq35⟩ := hq35
    rw [show aAct 0 1 0 A (gTrySet (aS A) (5 : Int32) (100 : Int32)) = _ from er_set (A := A) 5 100 (by decide) (by decide)] at eq35 hCq35
    refine g_topL (y := (-9000000000000000002)) (eq35.trans (gCd_k rfl rfl)) ?_
    refine g_ldc2 (v := -9000000000000000002) E kL_errors_17 dL_errors_449 ?_
    refine g_lcmp E dL_errors_452 ?_
    refine g_if_ne (tgt := 542) E dL_errors_453 (by decide) (fun c => absurd (gCmp_eq.mpr rfl) c) (fun _ => ?_)
    refine g_aload_n E dL_errors_456 rfl 0 rfl ?_
    refine g_bipush (v := 6) E dL_errors_457 (by decide) ?_
    refine g_iconst (v := 1) E dL_errors_459 (by decide) ?_
    refine g_callSWL (As := [.ref (x.1 0), .int 6, .int 1]) (F := []) E (wL_set (x := x) hST hA hb5 hCq35 (6 : Int32) (1 : Int32)) gL_errors_L_set rfl hdL_set ⟨Nat.le_of_ble_eq_true rfl, Nat.le_of_ble_eq_true rfl⟩ gPerm_n rfl rfl ?_ dL_errors_460 ⟨by show (csc + 19) + 1 ≤ 2000; omega, by show (ssc + 114) + 6 ≤ 20000; omega⟩ (fun rq36 uq36 hq36 => ?_)
    · exact Nat.le_of_ble_eq_true rfl
    refine g_perm (ws1 := wV G x uq36) gPerm_n' ?_
    obtain ⟨eq36, hCq36⟩ := hq36
    rw [show aAct 0 1 0 A (gTrySet (aS A) (6 : Int32) (1 : Int32)) = _ from er_set6 (A := A) 1] at eq36 hCq36
    refine g_topL (y := (-9000000000000000002)) (eq36.trans (gCd_k rfl rfl)) ?_
    refine g_ldc2 (v := -9000000000000000002) E kL_errors_17 dL_errors_463 ?_
    refine g_lcmp E dL_errors_466 ?_
    refine g_if_ne (tgt := 542) E dL_errors_467 (by decide) (fun c => absurd (gCmp_eq.mpr rfl) c) (fun _ => ?_)
    refine g_aload_n E dL_errors_470 rfl 0 rfl ?_
    refine g_iload_n E dL_errors_471 rfl 2 rfl ?_
    refine g_iconst (v := 0) E dL_errors_472 (by decide) ?_
    refine g_iconst (v := 0) E dL_errors_473 (by decide) ?_
    refine g_bipush (v := 9) E dL_errors_474 (by decide) ?_
    refine g_callSWL (As := [.ref (x.1 0), .int (nI (sN (aS A) 1)), .int 0, .int 0, .int 9]) (F := []) E (wL_whyNot (x := x) hST hA hb5 hCq36 (nI (sN (aS A) 1)) (0 : Int32) (0 : Int32) (9 : Int32)) gL_errors_L_whyNot rfl hdL_whyNot ⟨Nat.le_of_ble_eq_true rfl, Nat.le_of_ble_eq_true rfl⟩ gPerm_n rfl rfl ?_ dL_errors_476 ⟨by show (csc + 20) + 1 ≤ 2000; omega, by show (ssc + 120) + 6 ≤ 20000; omega⟩ (fun rq37 uq37 hq37 => ?_)
    · exact Nat.le_of_ble_eq_true rfl
    refine g_perm (ws1 := wV G x uq37) gPerm_n' ?_
    obtain ⟨eq37, hCq37⟩ := hq37
    rw [show fWhy A (nI (sN (aS A) 1)) (0 : Int32) (0 : Int32) (9 : Int32) = _ from er_why (A := A) 0 0 9] at eq37 hCq37
    refine g_topL (y := (-9000000000000000001)) (eq37.trans (gCd_k rfl rfl)) ?_
    refine g_ldc2 (v := -9000000000000000001) E kL_errors_36 dL_errors_479 ?_
    refine g_lcmp E dL_errors_482 ?_
    refine g_if_ne (tgt := 542) E dL_errors_483 (by decide) (fun c => absurd (gCmp_eq.mpr rfl) c) (fun _ => ?_)
    refine g_aload_n E dL_errors_486 rfl 0 rfl ?_
    refine g_iload_n E dL_errors_487 rfl 2 rfl ?_
    refine g_iconst (v := 0) E dL_errors_488 (by decide) ?_
    refine g_callSWL (As := [.ref (x.1 0), .int (nI (sN (aS A) 1)), .int 0]) (F := []) E (wL_firstTime (x := x) hST hA hb5 hCq37 (nI (sN (aS A) 1)) (0 : Int32)) gL_errors_L_firstTime rfl hdL_firstTime ⟨Nat.le_of_ble_eq_true rfl, Nat.le_of_ble_eq_true rfl⟩ gPerm_n rfl rfl ?_ dL_errors_489 ⟨by show (csc + 21) + 1 ≤ 2000; omega, by show (ssc + 126) + 6 ≤ 20000; omega⟩ (fun rq38 uq38 hq38 => ?_)
    · exact Nat.le_of_ble_eq_true rfl
    refine g_perm (ws1 := wV G x uq38) gPerm_n' ?_
    obtain ⟨eq38, hCq38⟩ := hq38
    rw [show fFirst A (nI (sN (aS A) 1)) (0 : Int32) = _ from er_first (A := A) 0] at eq38 hCq38
    refine g_topL (y := (-9000000000000000001)) (eq38.trans (gCd_k rfl rfl)) ?_
    refine g_ldc2 (v := -9000000000000000001) E kL_errors_36 dL_errors_492 ?_
    refine g_lcmp E dL_errors_495 ?_
    refine g_if_ne (tgt := 542) E dL_errors_496 (by decide) (fun c => absurd (gCmp_eq.mpr rfl) c) (fun _ => ?_)
    refine g_aload_n E dL_errors_499 rfl 0 rfl ?_
    refine g_iconst (v := 0) E dL_errors_500 (by decide) ?_
    refine g_iconst (v := 0) E dL_errors_501 (by decide) ?_
    refine g_callSWL (As := [.ref (x.1 0), .int 0, .int 0]) (F := []) E (wL_coming (x := x) hST hA hb5 hCq38 (0 : Int32) (0 : Int32)) gL_errors_L_coming rfl hdL_coming ⟨Nat.le_of_ble_eq_true rfl, Nat.le_of_ble_eq_true rfl⟩ gPerm_n rfl rfl ?_ dL_errors_502 ⟨by show (csc + 22) + 1 ≤ 2000; omega, by show (ssc + 132) + 6 ≤ 20000; omega⟩ (fun rq39 uq39 hq39 => ?_)
    · exact Nat.le_of_ble_eq_true rfl
    refine g_perm (ws1 := wV G x uq39) gPerm_n' ?_
    obtain ⟨eq39, hCq39⟩ := hq39
    rw [show fComing A (0 : Int32) (0 : Int32) = _ from er_coming (A := A) 0] at eq39 hCq39
    refine g_topL (y := (-9000000000000000002)) (eq39.trans (gCd_k rfl rfl)) ?_
    refine g_ldc2 (v := -9000000000000000002) E kL_errors_17 dL_errors_505 ?_
    refine g_lcmp E dL_errors_508 ?_
    refine g_if_ne (tgt := 542) E dL_errors_509 (by decide) (fun c => absurd (gCmp_eq.mpr rfl) c) (fun _ => ?_)
    refine g_aload_n E dL_errors_512 rfl 0 rfl ?_
    refine g_iconst (v := 5) E dL_errors_513 (by decide) ?_
    refine g_iconst (v := 5) E dL_errors_514 (by decide) ?_
    refine g_callSWL (As := [.ref (x.1 0), .int 5, .int 5]) (F := []) E (wL_coming (x := x) hST hA hb5 hCq39 (5 : Int32) (5 : Int32)) gL_errors_L_coming rfl hdL_coming ⟨Nat.le_of_ble_eq_true rfl, Nat.le_of_ble_eq_true rfl⟩ gPerm_n rfl rfl ?_ dL_errors_515 ⟨by show (csc + 23) + 1 ≤ 2000; omega, by show (ssc + 138) + 6 ≤ 20000; omega⟩ (fun rq40 uq40 hq40 => ?_)
    · exact Nat.le_of_ble_eq_true rfl
    refine g_perm (ws1 := wV G x uq40) gPerm_n' ?_
    obtain ⟨eq40, hCq40⟩ := hq40
    rw [show fComing A (5 : Int32) (5 : Int32) = _ from er_coming5 (A := A)] at eq40 hCq40
    refine g_topL (y := (-9000000000000000002)) (eq40.trans (gCd_k rfl rfl)) ?_
    refine g_ldc2 (v := -9000000000000000002) E kL_errors_17 dL_errors_518 ?_
    refine g_lcmp E dL_errors_521 ?_
    refine g_if_ne (tgt := 542) E dL_errors_522 (by decide) (fun c => absurd (gCmp_eq.mpr rfl) c) (fun _ => ?_)
    refine g_aload_n E dL_errors_525 rfl 0 rfl ?_
    refine g_iload E dL_errors_526 3 rfl ?_
    refine g_callSWL (As := [.ref (x.1 0), .int (nI ((sB (aS A)).length))]) (F := []) E (wL_becomes (x := x) hST hA hb5 hCq40 (nI ((sB (aS A)).length))) gL_errors_L_becomes rfl hdL_becomes ⟨Nat.le_of_ble_eq_true rfl, Nat.le_of_ble_eq_true rfl⟩ gPerm_n rfl rfl ?_ dL_errors_528 ⟨by show (csc + 24) + 1 ≤ 2000; omega, by show (ssc + 144) + 6 ≤ 20000; omega⟩ (fun rq41 uq41 hq41 => ?_)
    · exact Nat.le_of_ble_eq_true rfl
    refine g_perm (ws1 := wV G x uq41) gPerm_n' ?_
    obtain ⟨eq41, hCq41⟩ := hq41
    rw [show fBecomes A (nI ((sB (aS A)).length)) = _ from er_becomes (A := A)] at eq41 hCq41
    refine g_topL (y := (-9000000000000000001)) (eq41.trans (gCd_k rfl rfl)) ?_
    refine g_ldc2 (v := -9000000000000000001) E kL_errors_36 dL_errors_531 ?_
    refine g_lcmp E dL_errors_534 ?_
    refine g_if_ne (tgt := 542) E dL_errors_535 (by decide) (fun c => absurd (gCmp_eq.mpr rfl) c) (fun _ => ?_)
    refine g_iconst (v := 1) E dL_errors_538 (by decide) ?_
    refine g_goto (tgt := 543) E dL_errors_539 (by decide) ?_
    refine g_istore (lv' := [(6, .int 1), (0, .ref (x.1 0)), (1, .long (gNow (aS A))), (3, .int (nI (sN (aS A) 1))), (4, .int (nI ((sB (aS A)).length))), (5, .int (nI (sN (aS A) 0)))]) E dL_errors_543 (by decide) rfl ?_
    refine g_iconst (v := 0) E dL_errors_545 (by decide) ?_
    refine g_istore (lv' := [(7, .int 0), (6, .int 1), (0, .ref (x.1 0)), (1, .long (gNow (aS A))), (3, .int (nI (sN (aS A) 1))), (4, .int (nI ((sB (aS A)).length))), (5, .int (nI (sN (aS A) 0)))]) E dL_errors_546 (by decide) rfl ?_
    have loop42 : ∀ (n43 : Nat) (kp : Nat) (up : gVu) (csp : Nat) (ssp : Nat), (kp ≤ sN (aS A) 1) → (gClsI A up) → (csp ≤ (csc + 25) + 57 * kp) → (ssp ≤ (ssc + 150) + 342 * kp) → sN (aS A) 1 - kp < n43 → gW V 10 csp ssp (wV G x up) [(0, .ref (x.1 0)), (1, .long (gNow (aS A))), (3, .int (nI (sN (aS A) 1))), (4, .int (nI ((sB (aS A)).length))), (5, .int (nI (sN (aS A) 0))), (6, .int 1), (7, .int (nI kp))] 548 [] := by
      intro n43
      induction n43 with
      | zero => intro kp up csp ssp hkp hCp hcp hsp hm45; exact absurd hm45 (Nat.not_lt_zero _)
      | succ n43 ih44 =>
        intro kp up csp ssp hkp hCp hcp hsp hm45
        refine g_iload E dL_errors_548 6 rfl ?_
        refine g_iload_n E dL_errors_550 rfl 2 rfl ?_
        refine g_icmp_geN (tgt := 815) (a := kp) (b := sN (aS A) 1) E dL_errors_551 (by decide) (by omega) (by omega) (fun c46 => ?_) (fun c46 => ?_)
        · skip
          obtain rfl : kp = sN (aS A) 1 := by omega
          refine g_iconst (v := 0) E dL_errors_815 (by decide) ?_
          refine g_istore (lv' := [(7, .int 0), (0, .ref (x.1 0)), (1, .long (gNow (aS A))), (3, .int (nI (sN (aS A) 1))), (4, .int (nI ((sB (aS A)).length))), (5, .int (nI (sN (aS A) 0))), (6, .int 1)]) E dL_errors_816 (by decide) rfl ?_
          have loop47 : ∀ (n48 : Nat) (kb : Nat) (ub : gVu) (csb : Nat) (ssb : Nat), (kb ≤ (sB (aS A)).length) → (gClsI A ub) → (csb ≤ csp + 18 * kb) → (ssb ≤ ssp + 452 * kb) → (sB (aS A)).length - kb < n48 → gW V 10 csb ssb (wV G x ub) [(0, .ref (x.1 0)), (1, .long (gNow (aS A))), (3, .int (nI (sN (aS A) 1))), (4, .int (nI ((sB (aS A)).length))), (5, .int (nI (sN (aS A) 0))), (6, .int 1), (7, .int (nI kb))] 818 [] := by
            intro n48
            induction n48 with
            | zero => intro kb ub csb ssb hkb hCb hcb hsb hm50; exact absurd hm50 (Nat.not_lt_zero _)
            | succ n48 ih49 =>
              intro kb ub csb ssb hkb hCb hcb hsb hm50
              refine g_iload E dL_errors_818 6 rfl ?_
              refine g_iload E dL_errors_820 3 rfl ?_
              refine g_icmp_geN (tgt := 918) (a := kb) (b := (sB (aS A)).length) E dL_errors_822 (by decide) (by omega) (by omega) (fun c51 => ?_) (fun c51 => ?_)
              · skip
                obtain rfl : kb = (sB (aS A)).length := by omega
                refine g_iload E dL_errors_918 5 rfl ?_
                refine g_if_eq (tgt := 1013) E dL_errors_920 (by decide) (fun c => absurd c (by decide)) (fun _ => ?_)
                refine g_aload_n E dL_errors_923 rfl 0 rfl ?_
                refine g_iconst (v := 0) E dL_errors_924 (by decide) ?_
                refine g_lconst (v := 0) E dL_errors_925 (by decide) ?_
                refine g_callSWL (As := [.ref (x.1 0), .int 0, .long 0]) (F := []) E (wL_script (x := x) hST hA hb5 hCb (0 : Int32) (0 : Int64)) gL_errors_L_script rfl hdL_script ⟨Nat.le_of_ble_eq_true rfl, Nat.le_of_ble_eq_true rfl⟩ gPerm_n rfl rfl ?_ dL_errors_926 ⟨by show csb + 1 ≤ 2000; omega, by show ssb + 6 ≤ 20000; omega⟩ (fun rq52 uq52 hq52 => ?_)
                · exact Nat.le_of_ble_eq_true rfl
                refine g_perm (ws1 := wV G x uq52) gPerm_n' ?_
                obtain ⟨eq52, hCq52⟩ := hq52
                rw [show fScript A (0 : Int32) (0 : Int64) = _ from er_script0 (A := A) 0] at eq52 hCq52
                refine g_topL (y := (-9000000000000000002)) (eq52.trans (gCd_k rfl rfl)) ?_
                refine g_ldc2 (v := -9000000000000000002) E kL_errors_17 dL_errors_929 ?_
                refine g_lcmp E dL_errors_932 ?_
                refine g_if_ne (tgt := 1013) E dL_errors_933 (by decide) (fun c => absurd (gCmp_eq.mpr rfl) c) (fun _ => ?_)
                refine g_aload_n E dL_errors_936 rfl 0 rfl ?_
                refine g_iconst (v := 3) E dL_errors_937 (by decide) ?_
                refine g_ldc2 (v := 1000000000000000) E kL_errors_191 dL_errors_938 ?_
                refine g_callSWL (As := [.ref (x.1 0), .int 3, .long 1000000000000000]) (F := []) E (wL_script (x := x) hST hA hb5 hCq52 (3 : Int32) (1000000000000000 : Int64)) gL_errors_L_script rfl hdL_script ⟨Nat.le_of_ble_eq_true rfl, Nat.le_of_ble_eq_true rfl⟩ gPerm_n rfl rfl ?_ dL_errors_941 ⟨by show (csb + 1) + 1 ≤ 2000; omega, by show (ssb + 6) + 6 ≤ 20000; omega⟩ (fun rq53 uq53 hq53 => ?_)
                · exact Nat.le_of_ble_eq_true rfl
                refine g_perm (ws1 := wV G x uq53) gPerm_n' ?_
                obtain ⟨eq53, hCq53⟩ := hq53
                rw [show fScript A (3 : Int32) (1000000000000000 : Int64) = _ from er_script3 (A := A)] at eq53 hCq53
                refine g_topL (y := (-9000000000000000002)) (eq53.trans (gCd_k rfl rfl)) ?_
                refine g_ldc2 (v := -9000000000000000002) E kL_errors_17 dL_errors_944 ?_
                refine g_lcmp E dL_errors_947 ?_
                refine g_if_ne (tgt := 1013) E dL_errors_948 (by decide) (fun c => absurd (gCmp_eq.mpr rfl) c) (fun _ => ?_)
                refine g_aload_n E dL_errors_951 rfl 0 rfl ?_
                refine g_lconst (v := 1) E dL_errors_952 (by decide) ?_
                refine g_iconst (v := 0) E dL_errors_953 (by decide) ?_
                refine g_callSWL (As := [.ref (x.1 0), .long 1, .int 0]) (F := []) E (wL_simulate (x := x) hST hA hb5 hCq53 (1 : Int64) (0 : Int32)) gL_errors_L_simulate rfl hdL_simulate ⟨Nat.le_of_ble_eq_true rfl, Nat.le_of_ble_eq_true rfl⟩ gPerm_n rfl rfl ?_ dL_errors_954 ⟨by show (csb + 2) + 1 ≤ 2000; omega, by show (ssb + 12) + 6 ≤ 20000; omega⟩ (fun rq54 uq54 hq54 => ?_)
                · exact Nat.le_of_ble_eq_true rfl
                refine g_perm (ws1 := wV G x uq54) gPerm_n' ?_
                obtain ⟨eq54, hCq54⟩ := hq54
                rw [show fSim A (1 : Int64) (0 : Int32) = _ from er_sim (A := A) 1] at eq54 hCq54
                refine g_topL (y := (-9000000000000000002)) (eq54.trans (gCd_k rfl rfl)) ?_
                refine g_ldc2 (v := -9000000000000000002) E kL_errors_17 dL_errors_957 ?_
                refine g_lcmp E dL_errors_960 ?_
                refine g_if_ne (tgt := 1013) E dL_errors_961 (by decide) (fun c => absurd (gCmp_eq.mpr rfl) c) (fun _ => ?_)
                refine g_aload_n E dL_errors_964 rfl 0 rfl ?_
                refine g_iconst (v := 2) E dL_errors_965 (by decide) ?_
                refine g_callSWL (As := [.ref (x.1 0), .int 2]) (F := []) E (wL_save (x := x) hST hA hb5 hCq54 (2 : Int32)) gL_errors_L_save rfl hdL_save ⟨Nat.le_of_ble_eq_true rfl, Nat.le_of_ble_eq_true rfl⟩ gPerm_n rfl rfl ?_ dL_errors_966 ⟨by show (csb + 3) + 1 ≤ 2000; omega, by show (ssb + 18) + 6 ≤ 20000; omega⟩ (fun rq55 uq55 hq55 => ?_)
                · exact Nat.le_of_ble_eq_true rfl
                refine g_perm (ws1 := wV G x uq55) gPerm_n' ?_
                obtain ⟨eq55, hCq55⟩ := hq55
                rw [show fSave A (2 : Int32) = _ from er_save (A := A)] at eq55 hCq55
                refine g_topL (y := (-9000000000000000001)) (eq55.trans (gCd_k rfl rfl)) ?_
                refine g_ldc2 (v := -9000000000000000001) E kL_errors_36 dL_errors_969 ?_
                refine g_lcmp E dL_errors_972 ?_
                refine g_if_ne (tgt := 1013) E dL_errors_973 (by decide) (fun c => absurd (gCmp_eq.mpr rfl) c) (fun _ => ?_)
                refine g_aload_n E dL_errors_976 rfl 0 rfl ?_
                refine g_iconst (v := 2) E dL_errors_977 (by decide) ?_
                refine g_callSWL (As := [.ref (x.1 0), .int 2]) (F := []) E (wL_restore (x := x) hST hA hb5 hCq55 (2 : Int32)) gL_errors_L_restore rfl hdL_restore ⟨Nat.le_of_ble_eq_true rfl, Nat.le_of_ble_eq_true rfl⟩ gPerm_n rfl rfl ?_ dL_errors_978 ⟨by show (csb + 4) + 1 ≤ 2000; omega, by show (ssb + 24) + 6 ≤ 20000; omega⟩ (fun rq56 uq56 hq56 => ?_)
                · exact Nat.le_of_ble_eq_true rfl
                refine g_perm (ws1 := wV G x uq56) gPerm_n' ?_
                obtain ⟨eq56, hCq56⟩ := hq56
                rw [show fRest A (2 : Int32) = _ from er_rest (A := A)] at eq56 hCq56
                refine g_topL (y := (-9000000000000000001)) (eq56.trans (gCd_k rfl rfl)) ?_
                refine g_ldc2 (v := -9000000000000000001) E kL_errors_36 dL_errors_981 ?_
                refine g_lcmp E dL_errors_984 ?_
                refine g_if_ne (tgt := 1013) E dL_errors_985 (by decide) (fun c => absurd (gCmp_eq.mpr rfl) c) (fun _ => ?_)
                refine g_aload_n E dL_errors_988 rfl 0 rfl ?_
                refine g_iconst (v := (-1)) E dL_errors_989 (by decide) ?_
                refine g_callSWL (As := [.ref (x.1 0), .int (-1)]) (F := []) E (wL_append (x := x) hST hA hb5 hCq56 ((-1) : Int32)) gL_errors_L_append rfl hdL_append ⟨Nat.le_of_ble_eq_true rfl, Nat.le_of_ble_eq_true rfl⟩ gPerm_n rfl rfl ?_ dL_errors_990 ⟨by show (csb + 5) + 1 ≤ 2000; omega, by show (ssb + 30) + 6 ≤ 20000; omega⟩ (fun rq57 uq57 hq57 => ?_)
                · exact Nat.le_of_ble_eq_true rfl
                refine g_perm (ws1 := wV G x uq57) gPerm_n' ?_
                obtain ⟨eq57, hCq57⟩ := hq57
                rw [show fAppend A ((-1) : Int32) = _ from er_append (A := A)] at eq57 hCq57
                refine g_topL (y := (-9000000000000000002)) (eq57.trans (gCd_k rfl rfl)) ?_
                refine g_ldc2 (v := -9000000000000000002) E kL_errors_17 dL_errors_993 ?_
                refine g_lcmp E dL_errors_996 ?_
                refine g_if_ne (tgt := 1013) E dL_errors_997 (by decide) (fun c => absurd (gCmp_eq.mpr rfl) c) (fun _ => ?_)
                refine g_aload_n E dL_errors_1000 rfl 0 rfl ?_
                refine g_callSL (As := [.ref (x.1 0)]) (F := []) E (mL_now (x := x) hST hb5 hA hX hCq57) gL_errors_L_now rfl hdL_now ⟨Nat.le_of_ble_eq_true rfl, Nat.le_of_ble_eq_true rfl⟩ gPerm_n rfl rfl ?_ dL_errors_1001 ⟨by show (csb + 6) + 300 ≤ 2000; omega, by show (ssb + 36) + 1800 ≤ 20000; omega⟩ (fun rq58 uq58 hq58 => ?_)
                · exact Nat.le_of_ble_eq_true rfl
                refine g_perm (ws1 := wV G x uq58) gPerm_n' ?_
                obtain ⟨eq58, hCq58⟩ := hq58
                refine g_topL (y := gNow (aS A)) eq58 ?_
                refine g_lload_n E dL_errors_1004 rfl 1 rfl ?_
                refine g_lcmp E dL_errors_1005 ?_
                refine g_if_ne (tgt := 1013) E dL_errors_1006 (by decide) (fun c => absurd (gCmp_eq.mpr rfl) c) (fun _ => ?_)
                refine g_iconst (v := 1) E dL_errors_1009 (by decide) ?_
                refine g_goto (tgt := 1014) E dL_errors_1010 (by decide) ?_
                refine g_widen (k := 2000) (n := 20000) (by omega) (by omega) ?_
                exact RET _ _ _ uq58 (⟨rfl, hCq58⟩) rfl dL_errors_1014
              · skip
                refine g_iload E dL_errors_825 5 rfl ?_
                refine g_if_eq (tgt := 918) E dL_errors_827 (by decide) (fun c => absurd c (by decide)) (fun _ => ?_)
                refine g_aload_n E dL_errors_830 rfl 0 rfl ?_
                refine g_iload E dL_errors_831 6 rfl ?_
                refine g_bipush (v := 6) E dL_errors_833 (by decide) ?_
                refine g_callSWL (As := [.ref (x.1 0), .int (nI kb), .int 6]) (F := []) E (wL_booking (x := x) hST hA hb5 hCb (nI kb) (6 : Int32)) gL_errors_L_booking rfl hdL_booking ⟨Nat.le_of_ble_eq_true rfl, Nat.le_of_ble_eq_true rfl⟩ gPerm_n rfl rfl ?_ dL_errors_835 ⟨by show csb + 1 ≤ 2000; omega, by show ssb + 6 ≤ 20000; omega⟩ (fun rq59 uq59 hq59 => ?_)
                · exact Nat.le_of_ble_eq_true rfl
                refine g_perm (ws1 := wV G x uq59) gPerm_n' ?_
                obtain ⟨eq59, hCq59⟩ := hq59
                rw [show fBkng A (nI kb) (6 : Int32) = _ from er_bkng6 (A := A) (k := kb) (by omega) hn24] at eq59 hCq59
                refine g_topL (y := (-9000000000000000002)) (eq59.trans (gCd_k rfl rfl)) ?_
                refine g_ldc2 (v := -9000000000000000002) E kL_errors_17 dL_errors_838 ?_
                refine g_lcmp E dL_errors_841 ?_
                refine g_if_ne (tgt := 909) E dL_errors_842 (by decide) (fun c => absurd (gCmp_eq.mpr rfl) c) (fun _ => ?_)
                refine g_aload_n E dL_errors_845 rfl 0 rfl ?_
                refine g_iload E dL_errors_846 6 rfl ?_
                refine g_bipush (v := 60) E dL_errors_848 (by decide) ?_
                refine g_callSWL (As := [.ref (x.1 0), .int (nI kb), .int 60]) (F := []) E (wL_late (x := x) hST hA hb5 hCq59 (nI kb) (60 : Int32)) gL_errors_L_late rfl hdL_late ⟨Nat.le_of_ble_eq_true rfl, Nat.le_of_ble_eq_true rfl⟩ gPerm_n rfl rfl ?_ dL_errors_850 ⟨by show (csb + 1) + 1 ≤ 2000; omega, by show (ssb + 6) + 6 ≤ 20000; omega⟩ (fun rq60 uq60 hq60 => ?_)
                · exact Nat.le_of_ble_eq_true rfl
                refine g_perm (ws1 := wV G x uq60) gPerm_n' ?_
                obtain ⟨eq60, hCq60⟩ := hq60
                rw [show aAct 1 2 0 A (gTryLate (aS A) (nI kb) (60 : Int32)) = _ from er_late60 (A := A) (k := kb) (by omega) hn24] at eq60 hCq60
                refine g_topL (y := (-9000000000000000002)) (eq60.trans (gCd_k rfl rfl)) ?_
                refine g_ldc2 (v := -9000000000000000002) E kL_errors_17 dL_errors_853 ?_
                refine g_lcmp E dL_errors_856 ?_
                refine g_if_ne (tgt := 909) E dL_errors_857 (by decide) (fun c => absurd (gCmp_eq.mpr rfl) c) (fun _ => ?_)
                refine g_aload_n E dL_errors_860 rfl 0 rfl ?_
                refine g_iload E dL_errors_861 6 rfl ?_
                refine g_iconst (v := (-1)) E dL_errors_863 (by decide) ?_
                refine g_callSWL (As := [.ref (x.1 0), .int (nI kb), .int (-1)]) (F := []) E (wL_line (x := x) hST hA hb5 hCq60 (nI kb) ((-1) : Int32)) gL_errors_L_line rfl hdL_line ⟨Nat.le_of_ble_eq_true rfl, Nat.le_of_ble_eq_true rfl⟩ gPerm_n rfl rfl ?_ dL_errors_864 ⟨by show (csb + 2) + 14 ≤ 2000; omega, by show (ssb + 12) + 428 ≤ 20000; omega⟩ (fun rq61 uq61 hq61 => ?_)
                · exact Nat.le_of_ble_eq_true rfl
                refine g_perm (ws1 := wV G x uq61) gPerm_n' ?_
                obtain ⟨eq61, hCq61⟩ := hq61
                rw [show fLine A (nI kb) ((-1) : Int32) = _ from er_line1 (A := A) (k := kb) (by omega) hn24] at eq61 hCq61
                refine g_topL (y := (-9000000000000000002)) (eq61.trans (gCd_k rfl rfl)) ?_
                refine g_ldc2 (v := -9000000000000000002) E kL_errors_17 dL_errors_867 ?_
                refine g_lcmp E dL_errors_870 ?_
                refine g_if_ne (tgt := 909) E dL_errors_871 (by decide) (fun c => absurd (gCmp_eq.mpr rfl) c) (fun _ => ?_)
                refine g_aload_n E dL_errors_874 rfl 0 rfl ?_
                refine g_iload E dL_errors_875 6 rfl ?_
                refine g_iconst (v := 0) E dL_errors_877 (by decide) ?_
                refine g_callSWL (As := [.ref (x.1 0), .int (nI kb), .int 0]) (F := []) E (wL_booking (x := x) hST hA hb5 hCq61 (nI kb) (0 : Int32)) gL_errors_L_booking rfl hdL_booking ⟨Nat.le_of_ble_eq_true rfl, Nat.le_of_ble_eq_true rfl⟩ gPerm_n rfl rfl ?_ dL_errors_878 ⟨by show (csb + 16) + 1 ≤ 2000; omega, by show (ssb + 440) + 6 ≤ 20000; omega⟩ (fun rq62 uq62 hq62 => ?_)
                · exact Nat.le_of_ble_eq_true rfl
                refine g_perm (ws1 := wV G x uq62) gPerm_n' ?_
                obtain ⟨eq62, hCq62⟩ := hq62
                rw [show fBkng A (nI kb) (0 : Int32) = _ from fBkng_in (A := A) (j := kb) (k := 0) (by omega) hn24 rfl (by omega)] at eq62 hCq62
                refine g_topL (y := (nI (bk (sB (aS A)) kb 0)).toInt64) (eq62.trans (gCd_a rfl)) ?_
                refine g_iload E dL_errors_881 4 rfl ?_
                refine g_i2l (v := (nI (sN (aS A) 0)).toInt64) E dL_errors_883 rfl ?_
                refine g_ldc2 (v := 59) E kL_errors_185 dL_errors_884 ?_
                refine g_ladd E dL_errors_887 ?_
                refine g_lcmp E dL_errors_888 ?_
                refine g_if_le (tgt := 905) E dL_errors_889 (by decide) (fun c63 => ?_) (fun c63 => ?_)
                · skip
                  refine g_iconst (v := 1) E dL_errors_905 (by decide) ?_
                  refine g_goto (tgt := 910) E dL_errors_906 (by decide) ?_
                  refine g_istore (lv' := [(6, .int 1), (0, .ref (x.1 0)), (1, .long (gNow (aS A))), (3, .int (nI (sN (aS A) 1))), (4, .int (nI ((sB (aS A)).length))), (5, .int (nI (sN (aS A) 0))), (7, .int (nI kb))]) E dL_errors_910 (by decide) rfl ?_
                  refine g_iinc (lv' := [(7, .int (nI (kb + 1))), (6, .int 1), (0, .ref (x.1 0)), (1, .long (gNow (aS A))), (3, .int (nI (sN (aS A) 1))), (4, .int (nI ((sB (aS A)).length))), (5, .int (nI (sN (aS A) 0)))]) E dL_errors_912 6 rfl (g_inc _ 1 (by decide)) (by decide) rfl ?_
                  refine g_goto (tgt := 818) E dL_errors_915 (by decide) ?_
                  refine g_lv [2, 3, 4, 5, 6, 1, 0] rfl ?_
                  exact ih49  (kb + 1) uq62 (csb + 17) (ssb + 446) (by omega) hCq62 (by omega) (by omega) (by omega)
                · skip
                  have hf : 60 ≤ bk (sB (aS A)) kb 0 - sN (aS A) 0 := gDay_far (by have := hfi kb (by omega); omega) (by omega) c63
                  refine g_aload_n E dL_errors_892 rfl 0 rfl ?_
                  refine g_iload E dL_errors_893 6 rfl ?_
                  refine g_callSWL (As := [.ref (x.1 0), .int (nI kb)]) (F := []) E (wL_becomes (x := x) hST hA hb5 hCq62 (nI kb)) gL_errors_L_becomes rfl hdL_becomes ⟨Nat.le_of_ble_eq_true rfl, Nat.le_of_ble_eq_true rfl⟩ gPerm_n rfl rfl ?_ dL_errors_895 ⟨by show (csb + 17) + 1 ≤ 2000; omega, by show (ssb + 446) + 6 ≤ 20000; omega⟩ (fun rq64 uq64 hq64 => ?_)
                  · exact Nat.le_of_ble_eq_true rfl
                  refine g_perm (ws1 := wV G x uq64) gPerm_n' ?_
                  obtain ⟨eq64, hCq64⟩ := hq64
                  rw [show fBecomes A (nI kb) = _ from er_becomesF (A := A) (k := kb) (by omega) hn24 hf] at eq64 hCq64
                  refine g_topL (y := (-9000000000000000003)) (eq64.trans (gCd_k rfl rfl)) ?_
                  refine g_ldc2 (v := -9000000000000000003) E kL_errors_21 dL_errors_898 ?_
                  refine g_lcmp E dL_errors_901 ?_
                  refine g_if_ne (tgt := 909) E dL_errors_902 (by decide) (fun c => absurd (gCmp_eq.mpr rfl) c) (fun _ => ?_)
                  refine g_iconst (v := 1) E dL_errors_905 (by decide) ?_
                  refine g_goto (tgt := 910) E dL_errors_906 (by decide) ?_
                  refine g_istore (lv' := [(6, .int 1), (0, .ref (x.1 0)), (1, .long (gNow (aS A))), (3, .int (nI (sN (aS A) 1))), (4, .int (nI ((sB (aS A)).length))), (5, .int (nI (sN (aS A) 0))), (7, .int (nI kb))]) E dL_errors_910 (by decide) rfl ?_
                  refine g_iinc (lv' := [(7, .int (nI (kb + 1))), (6, .int 1), (0, .ref (x.1 0)), (1, .long (gNow (aS A))), (3, .int (nI (sN (aS A) 1))), (4, .int (nI ((sB (aS A)).length))), (5, .int (nI (sN (aS A) 0)))]) E dL_errors_912 6 rfl (g_inc _ 1 (by decide)) (by decide) rfl ?_
                  refine g_goto (tgt := 818) E dL_errors_915 (by decide) ?_
                  refine g_lv [2, 3, 4, 5, 6, 1, 0] rfl ?_
                  exact ih49  (kb + 1) uq64 (csb + 18) (ssb + 452) (by omega) hCq64 (by omega) (by omega) (by omega)
          refine g_lv [1, 2, 3, 4, 5, 6, 0] rfl ?_
          exact loop47 _ 0 up csp ssp (Nat.zero_le _) hCp (by omega) (by omega) (Nat.lt_succ_self _)
        · skip
          refine g_iload E dL_errors_554 5 rfl ?_
          refine g_if_eq (tgt := 815) E dL_errors_556 (by decide) (fun c => absurd c (by decide)) (fun _ => ?_)
          refine g_aload_n E dL_errors_559 rfl 0 rfl ?_
          refine g_iload E dL_errors_560 6 rfl ?_
          refine g_bipush (v := 8) E dL_errors_562 (by decide) ?_
          refine g_callSWL (As := [.ref (x.1 0), .int (nI kp), .int 8]) (F := []) E (wL_prisoner (x := x) hST hA hb5 hCp (nI kp) (8 : Int32)) gL_errors_L_prisoner rfl hdL_prisoner ⟨Nat.le_of_ble_eq_true rfl, Nat.le_of_ble_eq_true rfl⟩ gPerm_n rfl rfl ?_ dL_errors_564 ⟨by show csp + 1 ≤ 2000; omega, by show ssp + 6 ≤ 20000; omega⟩ (fun rq65 uq65 hq65 => ?_)
          · exact Nat.le_of_ble_eq_true rfl
          refine g_perm (ws1 := wV G x uq65) gPerm_n' ?_
          obtain ⟨eq65, hCq65⟩ := hq65
          rw [show fPris A (nI kp) (8 : Int32) = _ from er_pris8 (A := A) (p := kp) (by omega) h8] at eq65 hCq65
          refine g_topL (y := (-9000000000000000002)) (eq65.trans (gCd_k rfl rfl)) ?_
          refine g_ldc2 (v := -9000000000000000002) E kL_errors_17 dL_errors_567 ?_
          refine g_lcmp E dL_errors_570 ?_
          refine g_if_ne (tgt := 677) E dL_errors_571 (by decide) (fun c => absurd (gCmp_eq.mpr rfl) c) (fun _ => ?_)
          refine g_aload_n E dL_errors_574 rfl 0 rfl ?_
          refine g_iload E dL_errors_575 6 rfl ?_
          refine g_iconst (v := 4) E dL_errors_577 (by decide) ?_
          refine g_callSWL (As := [.ref (x.1 0), .int (nI kp), .int 4]) (F := []) E (wL_promote (x := x) hST hA hb5 hCq65 (nI kp) (4 : Int32)) gL_errors_L_promote rfl hdL_promote ⟨Nat.le_of_ble_eq_true rfl, Nat.le_of_ble_eq_true rfl⟩ gPerm_n rfl rfl ?_ dL_errors_578 ⟨by show (csp + 1) + 1 ≤ 2000; omega, by show (ssp + 6) + 6 ≤ 20000; omega⟩ (fun rq66 uq66 hq66 => ?_)
          · exact Nat.le_of_ble_eq_true rfl
          refine g_perm (ws1 := wV G x uq66) gPerm_n' ?_
          obtain ⟨eq66, hCq66⟩ := hq66
          rw [show aAct 1 2 0 A (gTryPromote (aS A) (nI kp) (4 : Int32)) = _ from er_promote4 (A := A) (p := kp) (by omega) h8] at eq66 hCq66
          refine g_topL (y := (-9000000000000000002)) (eq66.trans (gCd_k rfl rfl)) ?_
          refine g_ldc2 (v := -9000000000000000002) E kL_errors_17 dL_errors_581 ?_
          refine g_lcmp E dL_errors_584 ?_
          refine g_if_ne (tgt := 677) E dL_errors_585 (by decide) (fun c => absurd (gCmp_eq.mpr rfl) c) (fun _ => ?_)
          refine g_aload_n E dL_errors_588 rfl 0 rfl ?_
          refine g_iload E dL_errors_589 6 rfl ?_
          refine g_iload E dL_errors_591 6 rfl ?_
          refine g_iconst (v := 1) E dL_errors_593 (by decide) ?_
          refine g_callSWL (As := [.ref (x.1 0), .int (nI kp), .int (nI kp), .int 1]) (F := []) E (wL_keepApart (x := x) hST hA hb5 hCq66 (nI kp) (nI kp) (1 : Int32)) gL_errors_L_keepApart rfl hdL_keepApart ⟨Nat.le_of_ble_eq_true rfl, Nat.le_of_ble_eq_true rfl⟩ gPerm_n rfl rfl ?_ dL_errors_594 ⟨by show (csp + 2) + 1 ≤ 2000; omega, by show (ssp + 12) + 6 ≤ 20000; omega⟩ (fun rq67 uq67 hq67 => ?_)
          · exact Nat.le_of_ble_eq_true rfl
          refine g_perm (ws1 := wV G x uq67) gPerm_n' ?_
          obtain ⟨eq67, hCq67⟩ := hq67
          rw [show aAct 1 0 2 A (gTryApart (aS A) (nI kp) (nI kp) (1 : Int32)) = _ from er_apartS (A := A) (p := kp) 1 (by omega) h8] at eq67 hCq67
          refine g_topL (y := (-9000000000000000003)) (eq67.trans (gCd_k rfl rfl)) ?_
          refine g_ldc2 (v := -9000000000000000003) E kL_errors_21 dL_errors_597 ?_
          refine g_lcmp E dL_errors_600 ?_
          refine g_if_ne (tgt := 677) E dL_errors_601 (by decide) (fun c => absurd (gCmp_eq.mpr rfl) c) (fun _ => ?_)
          refine g_aload_n E dL_errors_604 rfl 0 rfl ?_
          refine g_iload E dL_errors_605 6 rfl ?_
          refine g_iconst (v := 0) E dL_errors_607 (by decide) ?_
          refine g_iload E dL_errors_608 4 rfl ?_
          refine g_iconst (v := 1) E dL_errors_610 (by decide) ?_
          refine g_isub E dL_errors_611 ?_
          refine g_iconst (v := 0) E dL_errors_612 (by decide) ?_
          refine g_callSWL (As := [.ref (x.1 0), .int (nI kp), .int 0, .int ((nI (sN (aS A) 0)) - 1), .int 0]) (F := []) E (wL_book (x := x) hST hA hb5 hCq67 (nI kp) (0 : Int32) ((nI (sN (aS A) 0)) - 1) (0 : Int32)) gL_errors_L_book rfl hdL_book ⟨Nat.le_of_ble_eq_true rfl, Nat.le_of_ble_eq_true rfl⟩ gPerm_n rfl rfl ?_ dL_errors_613 ⟨by show (csp + 3) + 1 ≤ 2000; omega, by show (ssp + 18) + 6 ≤ 20000; omega⟩ (fun rq68 uq68 hq68 => ?_)
          · exact Nat.le_of_ble_eq_true rfl
          refine g_perm (ws1 := wV G x uq68) gPerm_n' ?_
          obtain ⟨eq68, hCq68⟩ := hq68
          rw [show aAct 1 2 3 A (gTryBook (aS A) (nI kp) (0 : Int32) ((nI (sN (aS A) 0)) - 1) (0 : Int32)) = _ from er_bookD (A := A) (p := kp) (by omega) h8 (by omega)] at eq68 hCq68
          refine g_topL (y := (-9000000000000000002)) (eq68.trans (gCd_k rfl rfl)) ?_
          refine g_ldc2 (v := -9000000000000000002) E kL_errors_17 dL_errors_616 ?_
          refine g_lcmp E dL_errors_619 ?_
          refine g_if_ne (tgt := 677) E dL_errors_620 (by decide) (fun c => absurd (gCmp_eq.mpr rfl) c) (fun _ => ?_)
          refine g_aload_n E dL_errors_623 rfl 0 rfl ?_
          refine g_iload E dL_errors_624 6 rfl ?_
          refine g_iconst (v := 0) E dL_errors_626 (by decide) ?_
          refine g_iload E dL_errors_627 4 rfl ?_
          refine g_bipush (v := 8) E dL_errors_629 (by decide) ?_
          refine g_callSWL (As := [.ref (x.1 0), .int (nI kp), .int 0, .int (nI (sN (aS A) 0)), .int 8]) (F := []) E (wL_book (x := x) hST hA hb5 hCq68 (nI kp) (0 : Int32) (nI (sN (aS A) 0)) (8 : Int32)) gL_errors_L_book rfl hdL_book ⟨Nat.le_of_ble_eq_true rfl, Nat.le_of_ble_eq_true rfl⟩ gPerm_n rfl rfl ?_ dL_errors_631 ⟨by show (csp + 4) + 1 ≤ 2000; omega, by show (ssp + 24) + 6 ≤ 20000; omega⟩ (fun rq69 uq69 hq69 => ?_)
          · exact Nat.le_of_ble_eq_true rfl
          refine g_perm (ws1 := wV G x uq69) gPerm_n' ?_
          obtain ⟨eq69, hCq69⟩ := hq69
          rw [show aAct 1 2 3 A (gTryBook (aS A) (nI kp) (0 : Int32) (nI (sN (aS A) 0)) (8 : Int32)) = _ from er_bookH (A := A) (p := kp) _ (by omega) h8] at eq69 hCq69
          refine g_topL (y := (-9000000000000000002)) (eq69.trans (gCd_k rfl rfl)) ?_
          refine g_ldc2 (v := -9000000000000000002) E kL_errors_17 dL_errors_634 ?_
          refine g_lcmp E dL_errors_637 ?_
          refine g_if_ne (tgt := 677) E dL_errors_638 (by decide) (fun c => absurd (gCmp_eq.mpr rfl) c) (fun _ => ?_)
          refine g_aload_n E dL_errors_641 rfl 0 rfl ?_
          refine g_iload E dL_errors_642 6 rfl ?_
          refine g_iconst (v := 0) E dL_errors_644 (by decide) ?_
          refine g_sipush (v := 10000) E dL_errors_645 (by decide) ?_
          refine g_iconst (v := 0) E dL_errors_648 (by decide) ?_
          refine g_callSWL (As := [.ref (x.1 0), .int (nI kp), .int 0, .int 10000, .int 0]) (F := []) E (wL_whyNot (x := x) hST hA hb5 hCq69 (nI kp) (0 : Int32) (10000 : Int32) (0 : Int32)) gL_errors_L_whyNot rfl hdL_whyNot ⟨Nat.le_of_ble_eq_true rfl, Nat.le_of_ble_eq_true rfl⟩ gPerm_n rfl rfl ?_ dL_errors_649 ⟨by show (csp + 5) + 1 ≤ 2000; omega, by show (ssp + 30) + 6 ≤ 20000; omega⟩ (fun rq70 uq70 hq70 => ?_)
          · exact Nat.le_of_ble_eq_true rfl
          refine g_perm (ws1 := wV G x uq70) gPerm_n' ?_
          obtain ⟨eq70, hCq70⟩ := hq70
          rw [show fWhy A (nI kp) (0 : Int32) (10000 : Int32) (0 : Int32) = _ from er_why4 (A := A) (p := kp) (by omega) h8] at eq70 hCq70
          refine g_topL (y := (-9000000000000000002)) (eq70.trans (gCd_k rfl rfl)) ?_
          refine g_ldc2 (v := -9000000000000000002) E kL_errors_17 dL_errors_652 ?_
          refine g_lcmp E dL_errors_655 ?_
          refine g_if_ne (tgt := 677) E dL_errors_656 (by decide) (fun c => absurd (gCmp_eq.mpr rfl) c) (fun _ => ?_)
          refine g_aload_n E dL_errors_659 rfl 0 rfl ?_
          refine g_iload E dL_errors_660 6 rfl ?_
          refine g_iconst (v := (-1)) E dL_errors_662 (by decide) ?_
          refine g_callSWL (As := [.ref (x.1 0), .int (nI kp), .int (-1)]) (F := []) E (wL_punish (x := x) hST hA hb5 hCq70 (nI kp) ((-1) : Int32)) gL_errors_L_punish rfl hdL_punish ⟨Nat.le_of_ble_eq_true rfl, Nat.le_of_ble_eq_true rfl⟩ gPerm_n rfl rfl ?_ dL_errors_663 ⟨by show (csp + 6) + 1 ≤ 2000; omega, by show (ssp + 36) + 6 ≤ 20000; omega⟩ (fun rq71 uq71 hq71 => ?_)
          · exact Nat.le_of_ble_eq_true rfl
          refine g_perm (ws1 := wV G x uq71) gPerm_n' ?_
          obtain ⟨eq71, hCq71⟩ := hq71
          rw [show aAct 1 2 0 A (gTryPunish (aS A) (nI kp) ((-1) : Int32)) = _ from er_punishN (A := A) (p := kp) (by omega) h8] at eq71 hCq71
          refine g_topL (y := (-9000000000000000002)) (eq71.trans (gCd_k rfl rfl)) ?_
          refine g_ldc2 (v := -9000000000000000002) E kL_errors_17 dL_errors_666 ?_
          refine g_lcmp E dL_errors_669 ?_
          refine g_if_ne (tgt := 677) E dL_errors_670 (by decide) (fun c => absurd (gCmp_eq.mpr rfl) c) (fun _ => ?_)
          refine g_iconst (v := 1) E dL_errors_673 (by decide) ?_
          refine g_goto (tgt := 678) E dL_errors_674 (by decide) ?_
          refine g_istore (lv' := [(6, .int 1), (0, .ref (x.1 0)), (1, .long (gNow (aS A))), (3, .int (nI (sN (aS A) 1))), (4, .int (nI ((sB (aS A)).length))), (5, .int (nI (sN (aS A) 0))), (7, .int (nI kp))]) E dL_errors_678 (by decide) rfl ?_
          refine g_iconst (v := 0) E dL_errors_680 (by decide) ?_
          refine g_istore (lv' := [(8, .int 0), (6, .int 1), (0, .ref (x.1 0)), (1, .long (gNow (aS A))), (3, .int (nI (sN (aS A) 1))), (4, .int (nI ((sB (aS A)).length))), (5, .int (nI (sN (aS A) 0))), (7, .int (nI kp))]) E dL_errors_681 (by decide) rfl ?_
          have loop72 : ∀ (n73 : Nat) (kv : Nat) (uv : gVu) (csv : Nat) (ssv : Nat), (kv ≤ 10) → (gClsI A uv) → (csv ≤ (csp + 7) + 5 * kv) → (ssv ≤ (ssp + 42) + 30 * kv) → 10 - kv < n73 → gW V 10 csv ssv (wV G x uv) [(0, .ref (x.1 0)), (1, .long (gNow (aS A))), (3, .int (nI (sN (aS A) 1))), (4, .int (nI ((sB (aS A)).length))), (5, .int (nI (sN (aS A) 0))), (6, .int 1), (7, .int (nI kp)), (8, .int (nI kv))] 683 [] := by
            intro n73
            induction n73 with
            | zero => intro kv uv csv ssv hkv hCv hcv hsv hm75; exact absurd hm75 (Nat.not_lt_zero _)
            | succ n73 ih74 =>
              intro kv uv csv ssv hkv hCv hcv hsv hm75
              refine g_iload E dL_errors_683 7 rfl ?_
              refine g_bipush (v := 10) E dL_errors_685 (by decide) ?_
              refine g_icmp_geN (tgt := 809) (a := kv) (b := 10) E dL_errors_687 (by decide) (by omega) (by omega) (fun c76 => ?_) (fun c76 => ?_)
              · skip
                obtain rfl : kv = 10 := by omega
                refine g_iinc (lv' := [(7, .int (nI (kp + 1))), (0, .ref (x.1 0)), (1, .long (gNow (aS A))), (3, .int (nI (sN (aS A) 1))), (4, .int (nI ((sB (aS A)).length))), (5, .int (nI (sN (aS A) 0))), (6, .int 1), (8, .int (nI 10))]) E dL_errors_809 6 rfl (g_inc _ 1 (by decide)) (by decide) rfl ?_
                refine g_goto (tgt := 548) E dL_errors_812 (by decide) ?_
                refine g_lv [1, 2, 3, 4, 5, 6, 0] rfl ?_
                exact ih44  (kp + 1) uv csv ssv (by omega) hCv (by omega) (by omega) (by omega)
              · skip
                refine g_iload E dL_errors_690 5 rfl ?_
                refine g_if_eq (tgt := 809) E dL_errors_692 (by decide) (fun c => absurd c (by decide)) (fun _ => ?_)
                refine g_aload_n E dL_errors_695 rfl 0 rfl ?_
                refine g_iload E dL_errors_696 6 rfl ?_
                refine g_iconst (v := 1) E dL_errors_698 (by decide) ?_
                refine g_callSWL (As := [.ref (x.1 0), .int (nI kp), .int 1]) (F := []) E (wL_prisoner (x := x) hST hA hb5 hCv (nI kp) (1 : Int32)) gL_errors_L_prisoner rfl hdL_prisoner ⟨Nat.le_of_ble_eq_true rfl, Nat.le_of_ble_eq_true rfl⟩ gPerm_n rfl rfl ?_ dL_errors_699 ⟨by show csv + 1 ≤ 2000; omega, by show ssv + 6 ≤ 20000; omega⟩ (fun rq77 uq77 hq77 => ?_)
                · exact Nat.le_of_ble_eq_true rfl
                refine g_perm (ws1 := wV G x uq77) gPerm_n' ?_
                obtain ⟨eq77, hCq77⟩ := hq77
                rw [show fPris A (nI kp) (1 : Int32) = _ from fPris_1 (A := A) (p := kp) (by omega) h8] at eq77 hCq77
                refine g_topL (y := (sI (aS A) 1 kp).toInt64) (eq77.trans (gCd_a rfl)) ?_
                refine g_iload E dL_errors_702 7 rfl ?_
                refine g_lshr (v := ((sI (aS A) 1 kp).toInt64) >>> ((nI kv).toInt64 &&& 63)) E dL_errors_704 rfl ?_
                refine g_lconst (v := 1) E dL_errors_705 (by decide) ?_
                refine g_land E dL_errors_706 ?_
                refine g_lconst (v := 1) E dL_errors_707 (by decide) ?_
                refine g_lcmp E dL_errors_708 ?_
                refine g_if_ne (tgt := 716) E dL_errors_709 (by decide) (fun c78 => ?_) (fun c78 => ?_)
                · skip
                  have hL : ¬ gHb (sI (aS A) 1 kp) (nI kv) = true := fun q => c78 (gCmp_eq.mpr ((gLsh (by omega)).mpr q))
                  refine g_iconst (v := 0) E dL_errors_716 (by decide) ?_
                  refine g_istore (lv' := [(9, .int 0), (0, .ref (x.1 0)), (1, .long (gNow (aS A))), (3, .int (nI (sN (aS A) 1))), (4, .int (nI ((sB (aS A)).length))), (5, .int (nI (sN (aS A) 0))), (6, .int 1), (7, .int (nI kp)), (8, .int (nI kv))]) E dL_errors_717 (by decide) rfl ?_
                  refine g_iload E dL_errors_719 0 rfl ?_
                  refine g_if_ne (tgt := 796) E dL_errors_721 (by decide) (fun c => absurd c (by decide)) (fun _ => ?_)
                  refine g_aload_n E dL_errors_724 rfl 1 rfl ?_
                  refine g_iload E dL_errors_725 7 rfl ?_
                  refine g_iload E dL_errors_727 8 rfl ?_
                  refine g_callSWL (As := [.ref (x.1 0), .int (nI kp), .int (nI kv)]) (F := []) E (wL_wish (x := x) hST hA hb5 hCq77 (nI kp) (nI kv)) gL_errors_L_wish rfl hdL_wish ⟨Nat.le_of_ble_eq_true rfl, Nat.le_of_ble_eq_true rfl⟩ gPerm_n rfl rfl ?_ dL_errors_729 ⟨by show (csv + 1) + 1 ≤ 2000; omega, by show (ssv + 6) + 6 ≤ 20000; omega⟩ (fun rq79 uq79 hq79 => ?_)
                  · exact Nat.le_of_ble_eq_true rfl
                  refine g_perm (ws1 := wV G x uq79) gPerm_n' ?_
                  obtain ⟨eq79, hCq79⟩ := hq79
                  rw [show aAct 1 0 2 A (gTryWish (aS A) (nI kp) (nI kv)) = _ from er_wishL (A := A) (p := kp) (v := kv) (by omega) h8 (by omega) hL] at eq79 hCq79
                  refine g_topL (y := (-9000000000000000003)) (eq79.trans (gCd_k rfl rfl)) ?_
                  refine g_ldc2 (v := -9000000000000000003) E kL_errors_21 dL_errors_732 ?_
                  refine g_lcmp E dL_errors_735 ?_
                  refine g_if_ne (tgt := 800) E dL_errors_736 (by decide) (fun c => absurd (gCmp_eq.mpr rfl) c) (fun _ => ?_)
                  refine g_aload_n E dL_errors_739 rfl 1 rfl ?_
                  refine g_iload E dL_errors_740 7 rfl ?_
                  refine g_iload E dL_errors_742 8 rfl ?_
                  refine g_iload E dL_errors_744 5 rfl ?_
                  refine g_iload E dL_errors_746 8 rfl ?_
                  refine g_bipush (v := 8) E dL_errors_748 (by decide) ?_
                  refine g_iremN (a := kv) (b := 8) E dL_errors_750 (by omega) (by omega) (by omega) ?_
                  refine g_callSWL (As := [.ref (x.1 0), .int (nI kp), .int (nI kv), .int (nI (sN (aS A) 0)), .int (nI (kv % 8))]) (F := []) E (wL_whyNot (x := x) hST hA hb5 hCq79 (nI kp) (nI kv) (nI (sN (aS A) 0)) (nI (kv % 8))) gL_errors_L_whyNot rfl hdL_whyNot ⟨Nat.le_of_ble_eq_true rfl, Nat.le_of_ble_eq_true rfl⟩ gPerm_n rfl rfl ?_ dL_errors_751 ⟨by show (csv + 2) + 1 ≤ 2000; omega, by show (ssv + 12) + 6 ≤ 20000; omega⟩ (fun rq80 uq80 hq80 => ?_)
                  · exact Nat.le_of_ble_eq_true rfl
                  refine g_perm (ws1 := wV G x uq80) gPerm_n' ?_
                  obtain ⟨eq80, hCq80⟩ := hq80
                  rw [show fWhy A (nI kp) (nI kv) (nI (sN (aS A) 0)) (nI (kv % 8)) = _ from fWhy_1 (A := A) (p := kp) (v := kv) (d := sN (aS A) 0) (y := kv % 8) (by omega) h8 (by omega) (Nat.le_refl _) (by omega) (by omega) hL] at eq80 hCq80
                  refine g_topL (y := (1 : Int32).toInt64) (eq80.trans (gCd_a rfl)) ?_
                  refine g_lconst (v := 1) E dL_errors_754 (by decide) ?_
                  refine g_lcmp E dL_errors_755 ?_
                  refine g_if_ne (tgt := 800) E dL_errors_756 (by decide) (fun c => absurd (gCmp_eq.mpr rfl) c) (fun _ => ?_)
                  refine g_aload_n E dL_errors_759 rfl 1 rfl ?_
                  refine g_iload E dL_errors_760 7 rfl ?_
                  refine g_iload E dL_errors_762 8 rfl ?_
                  refine g_iload E dL_errors_764 5 rfl ?_
                  refine g_iload E dL_errors_766 8 rfl ?_
                  refine g_bipush (v := 8) E dL_errors_768 (by decide) ?_
                  refine g_iremN (a := kv) (b := 8) E dL_errors_770 (by omega) (by omega) (by omega) ?_
                  refine g_callSWL (As := [.ref (x.1 0), .int (nI kp), .int (nI kv), .int (nI (sN (aS A) 0)), .int (nI (kv % 8))]) (F := []) E (wL_book (x := x) hST hA hb5 hCq80 (nI kp) (nI kv) (nI (sN (aS A) 0)) (nI (kv % 8))) gL_errors_L_book rfl hdL_book ⟨Nat.le_of_ble_eq_true rfl, Nat.le_of_ble_eq_true rfl⟩ gPerm_n rfl rfl ?_ dL_errors_771 ⟨by show (csv + 3) + 1 ≤ 2000; omega, by show (ssv + 18) + 6 ≤ 20000; omega⟩ (fun rq81 uq81 hq81 => ?_)
                  · exact Nat.le_of_ble_eq_true rfl
                  refine g_perm (ws1 := wV G x uq81) gPerm_n' ?_
                  obtain ⟨eq81, hCq81⟩ := hq81
                  rw [show aAct 1 2 3 A (gTryBook (aS A) (nI kp) (nI kv) (nI (sN (aS A) 0)) (nI (kv % 8))) = _ from er_bookN (A := A) (p := kp) (v := kv) (d := sN (aS A) 0) (y := kv % 8) (by omega) h8 (by omega) (Nat.le_refl _) (by omega) (by omega) (by rw [gRA_1 hL]; decide)] at eq81 hCq81
                  refine g_topL (y := (-9000000000000000003)) (eq81.trans (gCd_k rfl rfl)) ?_
                  refine g_ldc2 (v := -9000000000000000003) E kL_errors_21 dL_errors_774 ?_
                  refine g_lcmp E dL_errors_777 ?_
                  refine g_if_ne (tgt := 800) E dL_errors_778 (by decide) (fun c => absurd (gCmp_eq.mpr rfl) c) (fun _ => ?_)
                  refine g_aload_n E dL_errors_781 rfl 1 rfl ?_
                  refine g_iload E dL_errors_782 7 rfl ?_
                  refine g_iload E dL_errors_784 8 rfl ?_
                  refine g_callSWL (As := [.ref (x.1 0), .int (nI kp), .int (nI kv)]) (F := []) E (wL_firstTime (x := x) hST hA hb5 hCq81 (nI kp) (nI kv)) gL_errors_L_firstTime rfl hdL_firstTime ⟨Nat.le_of_ble_eq_true rfl, Nat.le_of_ble_eq_true rfl⟩ gPerm_n rfl rfl ?_ dL_errors_786 ⟨by show (csv + 4) + 1 ≤ 2000; omega, by show (ssv + 24) + 6 ≤ 20000; omega⟩ (fun rq82 uq82 hq82 => ?_)
                  · exact Nat.le_of_ble_eq_true rfl
                  refine g_perm (ws1 := wV G x uq82) gPerm_n' ?_
                  obtain ⟨eq82, hCq82⟩ := hq82
                  rw [show fFirst A (nI kp) (nI kv) = _ from fFirst_1 (A := A) (p := kp) (v := kv) (by omega) h8 (by omega) hL] at eq82 hCq82
                  refine g_topL (y := (-1 : Int32).toInt64) (eq82.trans (gCd_a rfl)) ?_
                  refine g_ldc2 (v := -1) E kL_errors_183 dL_errors_789 ?_
                  refine g_lcmp E dL_errors_792 ?_
                  refine g_if_ne (tgt := 800) E dL_errors_793 (by decide) (fun c => absurd (gCmp_eq.mpr rfl) c) (fun _ => ?_)
                  refine g_iconst (v := 1) E dL_errors_796 (by decide) ?_
                  refine g_goto (tgt := 801) E dL_errors_797 (by decide) ?_
                  refine g_istore (lv' := [(6, .int 1), (9, .int 0), (0, .ref (x.1 0)), (1, .long (gNow (aS A))), (3, .int (nI (sN (aS A) 1))), (4, .int (nI ((sB (aS A)).length))), (5, .int (nI (sN (aS A) 0))), (7, .int (nI kp)), (8, .int (nI kv))]) E dL_errors_801 (by decide) rfl ?_
                  refine g_iinc (lv' := [(8, .int (nI (kv + 1))), (6, .int 1), (9, .int 0), (0, .ref (x.1 0)), (1, .long (gNow (aS A))), (3, .int (nI (sN (aS A) 1))), (4, .int (nI ((sB (aS A)).length))), (5, .int (nI (sN (aS A) 0))), (7, .int (nI kp))]) E dL_errors_803 8 rfl (g_inc _ 1 (by decide)) (by decide) rfl ?_
                  refine g_goto (tgt := 683) E dL_errors_806 (by decide) ?_
                  refine g_lv [3, 4, 5, 6, 7, 1, 8, 0] rfl ?_
                  exact ih74  (kv + 1) uq82 (csv + 5) (ssv + 30) (by omega) hCq82 (by omega) (by omega) (by omega)
                · skip
                  refine g_iconst (v := 1) E dL_errors_712 (by decide) ?_
                  refine g_goto (tgt := 717) E dL_errors_713 (by decide) ?_
                  refine g_istore (lv' := [(9, .int 1), (0, .ref (x.1 0)), (1, .long (gNow (aS A))), (3, .int (nI (sN (aS A) 1))), (4, .int (nI ((sB (aS A)).length))), (5, .int (nI (sN (aS A) 0))), (6, .int 1), (7, .int (nI kp)), (8, .int (nI kv))]) E dL_errors_717 (by decide) rfl ?_
                  refine g_iload E dL_errors_719 0 rfl ?_
                  refine g_if_ne (tgt := 796) E dL_errors_721 (by decide) (fun _ => ?_) (fun c => absurd c (by decide))
                  refine g_iconst (v := 1) E dL_errors_796 (by decide) ?_
                  refine g_goto (tgt := 801) E dL_errors_797 (by decide) ?_
                  refine g_istore (lv' := [(6, .int 1), (9, .int 1), (0, .ref (x.1 0)), (1, .long (gNow (aS A))), (3, .int (nI (sN (aS A) 1))), (4, .int (nI ((sB (aS A)).length))), (5, .int (nI (sN (aS A) 0))), (7, .int (nI kp)), (8, .int (nI kv))]) E dL_errors_801 (by decide) rfl ?_
                  refine g_iinc (lv' := [(8, .int (nI (kv + 1))), (6, .int 1), (9, .int 1), (0, .ref (x.1 0)), (1, .long (gNow (aS A))), (3, .int (nI (sN (aS A) 1))), (4, .int (nI ((sB (aS A)).length))), (5, .int (nI (sN (aS A) 0))), (7, .int (nI kp))]) E dL_errors_803 8 rfl (g_inc _ 1 (by decide)) (by decide) rfl ?_
                  refine g_goto (tgt := 683) E dL_errors_806 (by decide) ?_
                  refine g_lv [3, 4, 5, 6, 7, 1, 8, 0] rfl ?_
                  exact ih74  (kv + 1) uq77 (csv + 1) (ssv + 6) (by omega) hCq77 (by omega) (by omega) (by omega)
          refine g_lv [2, 3, 4, 5, 6, 1, 7, 0] rfl ?_
          exact loop72 _ 0 uq71 (csp + 7) (ssp + 42) (Nat.zero_le _) hCq71 (by omega) (by omega) (Nat.lt_succ_self _)
    refine g_lv [2, 3, 4, 5, 6, 1, 0] rfl ?_
    exact loop42 _ 0 uq41 (csc + 25) (ssc + 150) (Nat.zero_le _) hCq41 (by omega) (by omega) (Nat.lt_succ_self _)
  refine g_iload_n E dL_errors_173 rfl 2 rfl ?_
  refine g_bipush (v := 8) E dL_errors_174 (by decide) ?_
  refine g_icmp_ltN (tgt := 191) (a := sN (aS A) 1) (b := 8) E dL_errors_176 (by decide) (by omega) (by omega) (fun c83 => ?_) (fun c83 => ?_)
  · skip
    refine g_lv [4, 3, 2, 1, 0] rfl ?_
    exact cut16 uq15 327 2306 hCq15 (by omega) (by omega)
  · skip
    refine g_aload_n E dL_errors_179 rfl 4 rfl ?_
    refine g_iconst (v := 0) E dL_errors_180 (by decide) ?_
    refine g_callSWL (As := [.ref (x.1 0), .int 0]) (F := []) E (wL_addPrisoner (x := x) hST hA hb5 hCq15 (0 : Int32)) gL_errors_L_addPrisoner rfl hdL_addPrisoner ⟨Nat.le_of_ble_eq_true rfl, Nat.le_of_ble_eq_true rfl⟩ gPerm_n rfl rfl ?_ dL_errors_181 ⟨by show 327 + 1 ≤ 2000; omega, by show 2306 + 6 ≤ 20000; omega⟩ (fun rq84 uq84 hq84 => ?_)
    · exact Nat.le_of_ble_eq_true rfl
    refine g_perm (ws1 := wV G x uq84) gPerm_n' ?_
    obtain ⟨eq84, hCq84⟩ := hq84
    rw [show aAct 0 1 2 A (gTryAdd (aS A) (0 : Int32)) = _ from er_add8 (A := A) (by omega)] at eq84 hCq84
    refine g_topL (y := (-9000000000000000003)) (eq84.trans (gCd_k rfl rfl)) ?_
    refine g_ldc2 (v := -9000000000000000003) E kL_errors_21 dL_errors_184 ?_
    refine g_lcmp E dL_errors_187 ?_
    refine g_if_ne (tgt := 542) E dL_errors_188 (by decide) (fun c => absurd (gCmp_eq.mpr rfl) c) (fun _ => ?_)
    refine g_lv [4, 3, 2, 1, 0] rfl ?_
    exact cut16 uq84 328 2312 hCq84 (by omega) (by omega)
