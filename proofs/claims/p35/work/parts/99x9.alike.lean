set_option maxHeartbeats 4000000 in
set_option maxRecDepth 100000 in
theorem mL_alike {G : gG} {b : Nat} (hST : (gl G).stackTraces = false) (hb : b ≤ 9000) {x : gVa} {u : gVu} {A : gA} (hA : gAok b A) (hX : gX5 A) (hC : gClsI A u) {y : gVa} {v : gVu} (hCy : gClsI A v) (z : Nat) (hz : z < 2147483648) : CI G yL_alike wsL_alike 14 355 [.ref (x.1 0), .ref (y.1 0), .int (nI z)] ((wV G x u ++ wV G y v)) (fun (r : Int32) (w : gVu × gVu) => r = 1 ∧ gClsI A w.1 ∧ gClsI A w.2) (fun w : gVu × gVu => wV G x w.1 ++ wV G y w.2) 700 5000 := by
  refine g_enterI (ty := .boolean) RL rfl (by decide) rfl (Nat.le_of_ble_eq_true rfl) ?_
  intro V E RET
  have hb5 : b ≤ 50000 := by omega
  have h8 : sN (aS A) 1 ≤ 8 := hA.2.1.1.1.1.1
  have hn24 : (sB (aS A)).length ≤ 24 := hA.2.1.1.1.1.2.1
  have hT : sN (aS A) 0 ≤ b := hA.2.1.2.2
  refine g_aload_n E dL_alike_0 rfl 0 rfl ?_
  refine g_callSL (As := [.ref (x.1 0)]) (F := wV G y v) E (mL_now (x := x) hST hb5 hA hX hC) gL_alike_L_now rfl hdL_now ⟨Nat.le_of_ble_eq_true rfl, Nat.le_of_ble_eq_true rfl⟩ (gPerm_rfl _) rfl rfl ?_ dL_alike_1 ⟨by show 0 + 300 ≤ 700; omega, by show 0 + 1800 ≤ 5000; omega⟩ (fun rq1 uq1 hq1 => ?_)
  · exact Nat.le_of_ble_eq_true rfl
  obtain ⟨eq1, hCq1⟩ := hq1
  refine g_topL (y := gNow (aS A)) eq1 ?_
  refine g_aload_n E dL_alike_4 rfl 1 rfl ?_
  refine g_callSL (As := [.ref (y.1 0)]) (F := wV G x uq1) E (mL_now (x := y) hST hb5 hA hX hCy) gL_alike_L_now rfl hdL_now ⟨Nat.le_of_ble_eq_true rfl, Nat.le_of_ble_eq_true rfl⟩ gPerm_cm rfl rfl ?_ dL_alike_5 ⟨by show 300 + 300 ≤ 700; omega, by show 1800 + 1800 ≤ 5000; omega⟩ (fun rq2 uq2 hq2 => ?_)
  · exact Nat.le_of_ble_eq_true rfl
  refine g_perm (ws1 := (wV G x uq1 ++ wV G y uq2)) gPerm_cm ?_
  obtain ⟨eq2, hCq2⟩ := hq2
  refine g_topL (y := gNow (aS A)) eq2 ?_
  refine g_lcmp E dL_alike_8 ?_
  refine g_if_ne (tgt := 173) E dL_alike_9 (by decide) (fun c => absurd (gCmp_eq.mpr rfl) c) (fun _ => ?_)
  refine g_aload_n E dL_alike_12 rfl 0 rfl ?_
  refine g_callVI (As := []) (F := wV G y uq2) E (lX7_errorPosition (G := G) (x := x) hA hCq1) gL_alike_X7_errorPosition rfl hdX7_errorPosition ⟨Nat.le_of_ble_eq_true rfl, Nat.le_of_ble_eq_true rfl⟩ 7 0 rfl rfl rfl (gPerm_rfl _) rfl rfl ?_ dL_alike_13 ⟨by show 600 + 0 ≤ 700; omega, by show 3600 + 0 ≤ 5000; omega⟩ (fun rq3 uq3 hq3 => ?_)
  · exact Nat.le_of_ble_eq_true rfl
  obtain ⟨e0q3, eq3, hCq3⟩ := hq3
  refine g_aload_n E dL_alike_16 rfl 1 rfl ?_
  refine g_callVI (As := []) (F := wV G x uq3) E (lX7_errorPosition (G := G) (x := y) hA hCq2) gL_alike_X7_errorPosition rfl hdX7_errorPosition ⟨Nat.le_of_ble_eq_true rfl, Nat.le_of_ble_eq_true rfl⟩ 7 0 rfl rfl rfl gPerm_cm rfl rfl ?_ dL_alike_17 ⟨by show 600 + 0 ≤ 700; omega, by show 3600 + 0 ≤ 5000; omega⟩ (fun rq4 uq4 hq4 => ?_)
  · exact Nat.le_of_ble_eq_true rfl
  refine g_perm (ws1 := (wV G x uq3 ++ wV G y uq4)) gPerm_cm ?_
  obtain ⟨e0q4, eq4, hCq4⟩ := hq4
  refine g_icmp_ne (tgt := 173) E dL_alike_20 (by decide) (fun c => absurd (eq3.trans eq4.symm) c) (fun _ => ?_)
  refine g_aload_n E dL_alike_23 rfl 0 rfl ?_
  refine g_iconst (v := 1) E dL_alike_24 (by decide) ?_
  refine g_iload_n E dL_alike_25 rfl 2 rfl ?_
  refine g_bipush (v := 50) E dL_alike_26 (by decide) ?_
  refine g_iremN (a := z) (b := 50) E dL_alike_28 (by omega) (by omega) (by omega) ?_
  refine g_iaddN (a := 1) (b := z % 50) E dL_alike_29 ?_
  refine g_iload_n E dL_alike_30 rfl 2 rfl ?_
  refine g_iconst (v := 5) E dL_alike_31 (by decide) ?_
  refine g_iremN (a := z) (b := 5) E dL_alike_32 (by omega) (by omega) (by omega) ?_
  refine g_callSWL (As := [.ref (x.1 0), .int (nI (1 + (z % 50))), .int (nI (z % 5))]) (F := wV G y uq4) E (wL_coming (x := x) hST hA hb5 hCq3 (nI (1 + (z % 50))) (nI (z % 5))) gL_alike_L_coming rfl hdL_coming ⟨Nat.le_of_ble_eq_true rfl, Nat.le_of_ble_eq_true rfl⟩ (gPerm_rfl _) rfl rfl ?_ dL_alike_33 ⟨by show 600 + 1 ≤ 700; omega, by show 3600 + 6 ≤ 5000; omega⟩ (fun rq5 uq5 hq5 => ?_)
  · exact Nat.le_of_ble_eq_true rfl
  obtain ⟨eq5, hCq5⟩ := hq5
  rw [fComing_A] at hCq5
  refine g_aload_n E dL_alike_36 rfl 1 rfl ?_
  refine g_iconst (v := 1) E dL_alike_37 (by decide) ?_
  refine g_iload_n E dL_alike_38 rfl 2 rfl ?_
  refine g_bipush (v := 50) E dL_alike_39 (by decide) ?_
  refine g_iremN (a := z) (b := 50) E dL_alike_41 (by omega) (by omega) (by omega) ?_
  refine g_iaddN (a := 1) (b := z % 50) E dL_alike_42 ?_
  refine g_iload_n E dL_alike_43 rfl 2 rfl ?_
  refine g_iconst (v := 5) E dL_alike_44 (by decide) ?_
  refine g_iremN (a := z) (b := 5) E dL_alike_45 (by omega) (by omega) (by omega) ?_
  refine g_callSWL (As := [.ref (y.1 0), .int (nI (1 + (z % 50))), .int (nI (z % 5))]) (F := wV G x uq5) E (wL_coming (x := y) hST hA hb5 hCq4 (nI (1 + (z % 50))) (nI (z % 5))) gL_alike_L_coming rfl hdL_coming ⟨Nat.le_of_ble_eq_true rfl, Nat.le_of_ble_eq_true rfl⟩ gPerm_cm rfl rfl ?_ dL_alike_46 ⟨by show 601 + 1 ≤ 700; omega, by show 3606 + 6 ≤ 5000; omega⟩ (fun rq6 uq6 hq6 => ?_)
  · exact Nat.le_of_ble_eq_true rfl
  refine g_perm (ws1 := (wV G x uq5 ++ wV G y uq6)) gPerm_cm ?_
  obtain ⟨eq6, hCq6⟩ := hq6
  rw [fComing_A] at hCq6
  refine g_lcmp E dL_alike_49 ?_
  refine g_if_ne (tgt := 173) E dL_alike_50 (by decide) (fun c => absurd (gCmp_eq.mpr (eq5.trans eq6.symm)) c) (fun _ => ?_)
  refine g_aload_n E dL_alike_53 rfl 0 rfl ?_
  refine g_iload_n E dL_alike_54 rfl 2 rfl ?_
  refine g_bipush (v := 24) E dL_alike_55 (by decide) ?_
  refine g_iremN (a := z) (b := 24) E dL_alike_57 (by omega) (by omega) (by omega) ?_
  refine g_callSWL (As := [.ref (x.1 0), .int (nI (z % 24))]) (F := wV G y uq6) E (wL_becomes (x := x) hST hA hb5 hCq5 (nI (z % 24))) gL_alike_L_becomes rfl hdL_becomes ⟨Nat.le_of_ble_eq_true rfl, Nat.le_of_ble_eq_true rfl⟩ (gPerm_rfl _) rfl rfl ?_ dL_alike_58 ⟨by show 602 + 1 ≤ 700; omega, by show 3612 + 6 ≤ 5000; omega⟩ (fun rq7 uq7 hq7 => ?_)
  · exact Nat.le_of_ble_eq_true rfl
  obtain ⟨eq7, hCq7⟩ := hq7
  rw [fBecomes_A] at hCq7
  refine g_aload_n E dL_alike_61 rfl 1 rfl ?_
  refine g_iload_n E dL_alike_62 rfl 2 rfl ?_
  refine g_bipush (v := 24) E dL_alike_63 (by decide) ?_
  refine g_iremN (a := z) (b := 24) E dL_alike_65 (by omega) (by omega) (by omega) ?_
  refine g_callSWL (As := [.ref (y.1 0), .int (nI (z % 24))]) (F := wV G x uq7) E (wL_becomes (x := y) hST hA hb5 hCq6 (nI (z % 24))) gL_alike_L_becomes rfl hdL_becomes ⟨Nat.le_of_ble_eq_true rfl, Nat.le_of_ble_eq_true rfl⟩ gPerm_cm rfl rfl ?_ dL_alike_66 ⟨by show 603 + 1 ≤ 700; omega, by show 3618 + 6 ≤ 5000; omega⟩ (fun rq8 uq8 hq8 => ?_)
  · exact Nat.le_of_ble_eq_true rfl
  refine g_perm (ws1 := (wV G x uq7 ++ wV G y uq8)) gPerm_cm ?_
  obtain ⟨eq8, hCq8⟩ := hq8
  rw [fBecomes_A] at hCq8
  refine g_lcmp E dL_alike_69 ?_
  refine g_if_ne (tgt := 173) E dL_alike_70 (by decide) (fun c => absurd (gCmp_eq.mpr (eq7.trans eq8.symm)) c) (fun _ => ?_)
  refine g_aload_n E dL_alike_73 rfl 0 rfl ?_
  refine g_iload_n E dL_alike_74 rfl 2 rfl ?_
  refine g_bipush (v := 8) E dL_alike_75 (by decide) ?_
  refine g_iremN (a := z) (b := 8) E dL_alike_77 (by omega) (by omega) (by omega) ?_
  refine g_iload_n E dL_alike_78 rfl 2 rfl ?_
  refine g_bipush (v := 10) E dL_alike_79 (by decide) ?_
  refine g_iremN (a := z) (b := 10) E dL_alike_81 (by omega) (by omega) (by omega) ?_
  refine g_callSWL (As := [.ref (x.1 0), .int (nI (z % 8)), .int (nI (z % 10))]) (F := wV G y uq8) E (wL_firstTime (x := x) hST hA hb5 hCq7 (nI (z % 8)) (nI (z % 10))) gL_alike_L_firstTime rfl hdL_firstTime ⟨Nat.le_of_ble_eq_true rfl, Nat.le_of_ble_eq_true rfl⟩ (gPerm_rfl _) rfl rfl ?_ dL_alike_82 ⟨by show 604 + 1 ≤ 700; omega, by show 3624 + 6 ≤ 5000; omega⟩ (fun rq9 uq9 hq9 => ?_)
  · exact Nat.le_of_ble_eq_true rfl
  obtain ⟨eq9, hCq9⟩ := hq9
  rw [fFirst_A] at hCq9
  refine g_aload_n E dL_alike_85 rfl 1 rfl ?_
  refine g_iload_n E dL_alike_86 rfl 2 rfl ?_
  refine g_bipush (v := 8) E dL_alike_87 (by decide) ?_
  refine g_iremN (a := z) (b := 8) E dL_alike_89 (by omega) (by omega) (by omega) ?_
  refine g_iload_n E dL_alike_90 rfl 2 rfl ?_
  refine g_bipush (v := 10) E dL_alike_91 (by decide) ?_
  refine g_iremN (a := z) (b := 10) E dL_alike_93 (by omega) (by omega) (by omega) ?_
  refine g_callSWL (As := [.ref (y.1 0), .int (nI (z % 8)), .int (nI (z % 10))]) (F := wV G x uq9) E (wL_firstTime (x := y) hST hA hb5 hCq8 (nI (z % 8)) (nI (z % 10))) gL_alike_L_firstTime rfl hdL_firstTime ⟨Nat.le_of_ble_eq_true rfl, Nat.le_of_ble_eq_true rfl⟩ gPerm_cm rfl rfl ?_ dL_alike_94 ⟨by show 605 + 1 ≤ 700; omega, by show 3630 + 6 ≤ 5000; omega⟩ (fun rq10 uq10 hq10 => ?_)
  · exact Nat.le_of_ble_eq_true rfl
  refine g_perm (ws1 := (wV G x uq9 ++ wV G y uq10)) gPerm_cm ?_
  obtain ⟨eq10, hCq10⟩ := hq10
  rw [fFirst_A] at hCq10
  refine g_lcmp E dL_alike_97 ?_
  refine g_if_ne (tgt := 173) E dL_alike_98 (by decide) (fun c => absurd (gCmp_eq.mpr (eq9.trans eq10.symm)) c) (fun _ => ?_)
  refine g_aload_n E dL_alike_101 rfl 0 rfl ?_
  refine g_iload_n E dL_alike_102 rfl 2 rfl ?_
  refine g_bipush (v := 24) E dL_alike_103 (by decide) ?_
  refine g_iremN (a := z) (b := 24) E dL_alike_105 (by omega) (by omega) (by omega) ?_
  refine g_iload_n E dL_alike_106 rfl 2 rfl ?_
  refine g_bipush (v := 17) E dL_alike_107 (by decide) ?_
  refine g_iremN (a := z) (b := 17) E dL_alike_109 (by omega) (by omega) (by omega) ?_
  refine g_callSWL (As := [.ref (x.1 0), .int (nI (z % 24)), .int (nI (z % 17))]) (F := wV G y uq10) E (wL_line (x := x) hST hA hb5 hCq9 (nI (z % 24)) (nI (z % 17))) gL_alike_L_line rfl hdL_line ⟨Nat.le_of_ble_eq_true rfl, Nat.le_of_ble_eq_true rfl⟩ (gPerm_rfl _) rfl rfl ?_ dL_alike_110 ⟨by show 606 + 14 ≤ 700; omega, by show 3636 + 428 ≤ 5000; omega⟩ (fun rq11 uq11 hq11 => ?_)
  · exact Nat.le_of_ble_eq_true rfl
  obtain ⟨eq11, hCq11⟩ := hq11
  rw [fLine_A] at hCq11
  refine g_aload_n E dL_alike_113 rfl 1 rfl ?_
  refine g_iload_n E dL_alike_114 rfl 2 rfl ?_
  refine g_bipush (v := 24) E dL_alike_115 (by decide) ?_
  refine g_iremN (a := z) (b := 24) E dL_alike_117 (by omega) (by omega) (by omega) ?_
  refine g_iload_n E dL_alike_118 rfl 2 rfl ?_
  refine g_bipush (v := 17) E dL_alike_119 (by decide) ?_
  refine g_iremN (a := z) (b := 17) E dL_alike_121 (by omega) (by omega) (by omega) ?_
  refine g_callSWL (As := [.ref (y.1 0), .int (nI (z % 24)), .int (nI (z % 17))]) (F := wV G x uq11) E (wL_line (x := y) hST hA hb5 hCq10 (nI (z % 24)) (nI (z % 17))) gL_alike_L_line rfl hdL_line ⟨Nat.le_of_ble_eq_true rfl, Nat.le_of_ble_eq_true rfl⟩ gPerm_cm rfl rfl ?_ dL_alike_122 ⟨by show 620 + 14 ≤ 700; omega, by show 4064 + 428 ≤ 5000; omega⟩ (fun rq12 uq12 hq12 => ?_)
  · exact Nat.le_of_ble_eq_true rfl
  refine g_perm (ws1 := (wV G x uq11 ++ wV G y uq12)) gPerm_cm ?_
  obtain ⟨eq12, hCq12⟩ := hq12
  rw [fLine_A] at hCq12
  refine g_lcmp E dL_alike_125 ?_
  refine g_if_ne (tgt := 173) E dL_alike_126 (by decide) (fun c => absurd (gCmp_eq.mpr (eq11.trans eq12.symm)) c) (fun _ => ?_)
  refine g_aload_n E dL_alike_129 rfl 0 rfl ?_
  refine g_iload_n E dL_alike_130 rfl 2 rfl ?_
  refine g_i2l (v := (nI z).toInt64) E dL_alike_131 rfl ?_
  refine g_bipush (v := 15) E dL_alike_132 (by decide) ?_
  refine g_callSWL (As := [.ref (x.1 0), .long ((nI z).toInt64), .int 15]) (F := wV G y uq12) E (wL_simulate (x := x) hST hA hb5 hCq11 ((nI z).toInt64) (15 : Int32)) gL_alike_L_simulate rfl hdL_simulate ⟨Nat.le_of_ble_eq_true rfl, Nat.le_of_ble_eq_true rfl⟩ (gPerm_rfl _) rfl rfl ?_ dL_alike_134 ⟨by show 634 + 1 ≤ 700; omega, by show 4492 + 6 ≤ 5000; omega⟩ (fun rq13 uq13 hq13 => ?_)
  · exact Nat.le_of_ble_eq_true rfl
  obtain ⟨eq13, hCq13⟩ := hq13
  rw [fSim_A] at hCq13
  refine g_aload_n E dL_alike_137 rfl 1 rfl ?_
  refine g_iload_n E dL_alike_138 rfl 2 rfl ?_
  refine g_i2l (v := (nI z).toInt64) E dL_alike_139 rfl ?_
  refine g_bipush (v := 15) E dL_alike_140 (by decide) ?_
  refine g_callSWL (As := [.ref (y.1 0), .long ((nI z).toInt64), .int 15]) (F := wV G x uq13) E (wL_simulate (x := y) hST hA hb5 hCq12 ((nI z).toInt64) (15 : Int32)) gL_alike_L_simulate rfl hdL_simulate ⟨Nat.le_of_ble_eq_true rfl, Nat.le_of_ble_eq_true rfl⟩ gPerm_cm rfl rfl ?_ dL_alike_142 ⟨by show 635 + 1 ≤ 700; omega, by show 4498 + 6 ≤ 5000; omega⟩ (fun rq14 uq14 hq14 => ?_)
  · exact Nat.le_of_ble_eq_true rfl
  refine g_perm (ws1 := (wV G x uq13 ++ wV G y uq14)) gPerm_cm ?_
  obtain ⟨eq14, hCq14⟩ := hq14
  rw [fSim_A] at hCq14
  refine g_lcmp E dL_alike_145 ?_
  refine g_if_ne (tgt := 173) E dL_alike_146 (by decide) (fun c => absurd (gCmp_eq.mpr (eq13.trans eq14.symm)) c) (fun _ => ?_)
  refine g_aload_n E dL_alike_149 rfl 0 rfl ?_
  refine g_iconst (v := 3) E dL_alike_150 (by decide) ?_
  refine g_ldc2 (v := 110030600270001) E kL_alike_247 dL_alike_151 ?_
  refine g_callSWL (As := [.ref (x.1 0), .int 3, .long 110030600270001]) (F := wV G y uq14) E (wL_script (x := x) hST hA hb5 hCq13 (3 : Int32) (110030600270001 : Int64)) gL_alike_L_script rfl hdL_script ⟨Nat.le_of_ble_eq_true rfl, Nat.le_of_ble_eq_true rfl⟩ (gPerm_rfl _) rfl rfl ?_ dL_alike_154 ⟨by show 636 + 1 ≤ 700; omega, by show 4504 + 6 ≤ 5000; omega⟩ (fun rq15 uq15 hq15 => ?_)
  · exact Nat.le_of_ble_eq_true rfl
  obtain ⟨eq15, hCq15⟩ := hq15
  rw [fScript_A] at hCq15
  refine g_aload_n E dL_alike_157 rfl 1 rfl ?_
  refine g_iconst (v := 3) E dL_alike_158 (by decide) ?_
  refine g_ldc2 (v := 110030600270001) E kL_alike_247 dL_alike_159 ?_
  refine g_callSWL (As := [.ref (y.1 0), .int 3, .long 110030600270001]) (F := wV G x uq15) E (wL_script (x := y) hST hA hb5 hCq14 (3 : Int32) (110030600270001 : Int64)) gL_alike_L_script rfl hdL_script ⟨Nat.le_of_ble_eq_true rfl, Nat.le_of_ble_eq_true rfl⟩ gPerm_cm rfl rfl ?_ dL_alike_162 ⟨by show 637 + 1 ≤ 700; omega, by show 4510 + 6 ≤ 5000; omega⟩ (fun rq16 uq16 hq16 => ?_)
  · exact Nat.le_of_ble_eq_true rfl
  refine g_perm (ws1 := (wV G x uq15 ++ wV G y uq16)) gPerm_cm ?_
  obtain ⟨eq16, hCq16⟩ := hq16
  rw [fScript_A] at hCq16
  refine g_lcmp E dL_alike_165 ?_
  refine g_if_ne (tgt := 173) E dL_alike_166 (by decide) (fun c => absurd (gCmp_eq.mpr (eq15.trans eq16.symm)) c) (fun _ => ?_)
  refine g_iconst (v := 1) E dL_alike_169 (by decide) ?_
  refine g_goto (tgt := 174) E dL_alike_170 (by decide) ?_
  refine g_widen (k := 700) (n := 5000) (by omega) (by omega) ?_
  exact RET _ _ _ (uq15, uq16) (⟨rfl, hCq15, hCq16⟩) rfl dL_alike_174

set_option maxHeartbeats 4000000 in
set_option maxRecDepth 100000 in
theorem mL_act {G : gG} {b : Nat} (hST : (gl G).stackTraces = false) (hb : b ≤ 9000) {x : gVa} {u : gVu} {A : gA} (hA : gAok b A) (hX : gX5 A) (hC : gClsI A u) (m n : Nat) (hm : m < 2147483648) (hn : n < 2147483648) : CL G yL_act wsL_act 9 206 [.ref (x.1 0), .int (nI m), .int (nI n)] (wV G x u) (fun (r : Int64) (w : gVu) => r = gActR A m n ∧ gClsI (gActA A m n) w) (fun w : gVu => wV G x w) 10 60 := by
  refine g_enterL RL rfl (by decide) rfl (Nat.le_of_ble_eq_true rfl) ?_
  intro V E RET
  have hb5 : b ≤ 50000 := by omega
  have h8 : sN (aS A) 1 ≤ 8 := hA.2.1.1.1.1.1
  have hn24 : (sB (aS A)).length ≤ 24 := hA.2.1.1.1.1.2.1
  have hT : sN (aS A) 0 ≤ b := hA.2.1.2.2
  refine g_iload_n E dL_act_0 rfl 2 rfl ?_
  refine g_iconst (v := 4) E dL_act_1 (by decide) ?_
  refine g_idivN (a := n) (b := 4) E dL_act_2 (by omega) (by omega) (by omega) ?_
  refine g_istore_n (lv' := [(3, .int (nI (n / 4))), (0, .ref (x.1 0)), (1, .int (nI m)), (2, .int (nI n))]) E dL_act_3 rfl (by decide) rfl ?_
  refine g_aload_n E dL_act_4 rfl 1 rfl ?_
  refine g_iconst (v := 0) E dL_act_5 (by decide) ?_
  refine g_callSWL (As := [.ref (x.1 0), .int 0]) (F := []) E (wL_about (x := x) hST hA hb5 hC (0 : Int32)) gL_act_L_about rfl hdL_about ⟨Nat.le_of_ble_eq_true rfl, Nat.le_of_ble_eq_true rfl⟩ gPerm_n rfl rfl ?_ dL_act_6 ⟨by show 0 + 1 ≤ 10; omega, by show 0 + 6 ≤ 60; omega⟩ (fun rq1 uq1 hq1 => ?_)
  · exact Nat.le_of_ble_eq_true rfl
  refine g_perm (ws1 := wV G x uq1) gPerm_n' ?_
  obtain ⟨eq1, hCq1⟩ := hq1
  rw [show fAbout A (0 : Int32) = _ from fAbout_0 (A := A)] at eq1 hCq1
  refine g_topL (y := (nI (sN (aS A) 1)).toInt64) (eq1.trans (gCd_a rfl)) ?_
  refine g_l2i (v := nI (sN (aS A) 1)) E dL_act_9 (gL2I _) ?_
  refine g_istore (lv' := [(4, .int (nI (sN (aS A) 1))), (3, .int (nI (n / 4))), (0, .ref (x.1 0)), (1, .int (nI m)), (2, .int (nI n))]) E dL_act_10 (by decide) rfl ?_
  refine g_aload_n E dL_act_12 rfl 2 rfl ?_
  refine g_iconst (v := 2) E dL_act_13 (by decide) ?_
  refine g_callSWL (As := [.ref (x.1 0), .int 2]) (F := []) E (wL_about (x := x) hST hA hb5 hCq1 (2 : Int32)) gL_act_L_about rfl hdL_about ⟨Nat.le_of_ble_eq_true rfl, Nat.le_of_ble_eq_true rfl⟩ gPerm_n rfl rfl ?_ dL_act_14 ⟨by show 1 + 1 ≤ 10; omega, by show 6 + 6 ≤ 60; omega⟩ (fun rq2 uq2 hq2 => ?_)
  · exact Nat.le_of_ble_eq_true rfl
  refine g_perm (ws1 := wV G x uq2) gPerm_n' ?_
  obtain ⟨eq2, hCq2⟩ := hq2
  rw [show fAbout A (2 : Int32) = _ from fAbout_2 (A := A)] at eq2 hCq2
  refine g_topL (y := (nI (sB (aS A)).length).toInt64) (eq2.trans (gCd_a rfl)) ?_
  refine g_l2i (v := nI ((sB (aS A)).length)) E dL_act_17 (gL2I _) ?_
  refine g_istore (lv' := [(5, .int (nI ((sB (aS A)).length))), (4, .int (nI (sN (aS A) 1))), (3, .int (nI (n / 4))), (0, .ref (x.1 0)), (1, .int (nI m)), (2, .int (nI n))]) E dL_act_18 (by decide) rfl ?_
  have cut3 : ∀ (uc : gVu) (csc : Nat) (ssc : Nat), (gClsI A uc) → (csc ≤ 2 + 0) → (ssc ≤ 12 + 0) → gW V 9 csc ssc (wV G x uc) [(0, .ref (x.1 0)), (1, .int (nI m)), (2, .int (nI n)), (3, .int (nI (n / 4))), (4, .int (nI (sN (aS A) 1))), (5, .int (nI ((sB (aS A)).length)))] 43 [.int (nI (gActP A (n / 4)))] := by
    intro uc csc ssc hCc hcc hsc
    refine g_istore (lv' := [(6, .int (nI (gActP A (n / 4)))), (0, .ref (x.1 0)), (1, .int (nI m)), (2, .int (nI n)), (3, .int (nI (n / 4))), (4, .int (nI (sN (aS A) 1))), (5, .int (nI ((sB (aS A)).length)))]) E dL_act_43 (by decide) rfl ?_
    refine g_iload_n E dL_act_45 rfl 4 rfl ?_
    refine g_bipush (v := 8) E dL_act_46 (by decide) ?_
    refine g_idivN (a := n / 4) (b := 8) E dL_act_48 (by omega) (by omega) (by omega) ?_
    refine g_bipush (v := 10) E dL_act_49 (by decide) ?_
    refine g_iremN (a := (n / 4) / 8) (b := 10) E dL_act_51 (by omega) (by omega) (by omega) ?_
    refine g_istore (lv' := [(7, .int (nI (((n / 4) / 8) % 10))), (6, .int (nI (gActP A (n / 4)))), (0, .ref (x.1 0)), (1, .int (nI m)), (2, .int (nI n)), (3, .int (nI (n / 4))), (4, .int (nI (sN (aS A) 1))), (5, .int (nI ((sB (aS A)).length)))]) E dL_act_52 (by decide) rfl ?_
    refine g_iload_n E dL_act_54 rfl 3 rfl ?_
    refine g_bipush (v := 24) E dL_act_55 (by decide) ?_
    refine g_iremN (a := m) (b := 24) E dL_act_57 (by omega) (by omega) (by omega) ?_
    rcases (show m % 24 = 0 ∨ m % 24 = 1 ∨ m % 24 = 2 ∨ m % 24 = 3 ∨ m % 24 = 4 ∨ m % 24 = 5 ∨ m % 24 = 6 ∨ m % 24 = 7 ∨ m % 24 = 8 ∨ m % 24 = 9 ∨ m % 24 = 10 ∨ m % 24 = 11 ∨ m % 24 = 12 ∨ m % 24 = 13 ∨ m % 24 = 14 ∨ m % 24 = 15 ∨ m % 24 = 16 ∨ m % 24 = 17 ∨ m % 24 = 18 ∨ (m % 24 ≠ 0 ∧ m % 24 ≠ 1 ∧ m % 24 ≠ 2 ∧ m % 24 ≠ 3 ∧ m % 24 ≠ 4 ∧ m % 24 ≠ 5 ∧ m % 24 ≠ 6 ∧ m % 24 ≠ 7 ∧ m % 24 ≠ 8 ∧ m % 24 ≠ 9 ∧ m % 24 ≠ 10 ∧ m % 24 ≠ 11 ∧ m % 24 ≠ 12 ∧ m % 24 ≠ 13 ∧ m % 24 ≠ 14 ∧ m % 24 ≠ 15 ∧ m % 24 ≠ 16 ∧ m % 24 ≠ 17 ∧ m % 24 ≠ 18) by omega) with k4 | k4 | k4 | k4 | k4 | k4 | k4 | k4 | k4 | k4 | k4 | k4 | k4 | k4 | k4 | k4 | k4 | k4 | k4 | k4
    · skip
      refine g_top (y := 0) (by rw [k4]; rfl) ?_
      refine g_tableIn (tgt := 148) E dL_act_58 (by decide) (by decide) rfl (by decide) ?_
      refine g_aload_n E dL_act_148 rfl 2 rfl ?_
      refine g_iload_n E dL_act_149 rfl 5 rfl ?_
      refine g_iconst (v := 4) E dL_act_150 (by decide) ?_
      refine g_iremN (a := n / 4) (b := 4) E dL_act_151 (by omega) (by omega) (by omega) ?_
      refine g_callSWL (As := [.ref (x.1 0), .int (nI ((n / 4) % 4))]) (F := []) E (wL_addPrisoner (x := x) hST hA hb5 hCc (nI ((n / 4) % 4))) gL_act_L_addPrisoner rfl hdL_addPrisoner ⟨Nat.le_of_ble_eq_true rfl, Nat.le_of_ble_eq_true rfl⟩ gPerm_n rfl rfl ?_ dL_act_152 ⟨by show csc + 1 ≤ 10; omega, by show ssc + 6 ≤ 60; omega⟩ (fun rq5 uq5 hq5 => ?_)
      · exact Nat.le_of_ble_eq_true rfl
      refine g_perm (ws1 := wV G x uq5) gPerm_n' ?_
      obtain ⟨eq5, hCq5⟩ := hq5
      refine g_widen (k := 10) (n := 60) (by omega) (by omega) ?_
      have ek : gActK A (n / 4) (m % 24) = ([(-9000000000000000002), (-9000000000000000003)], aAct 0 1 2 A (gTryAdd (aS A) (nI ((n / 4) % 4)))) := by rw [k4]; rfl
      exact RET _ _ _ uq5 (⟨by unfold gActR; rw [ek]; exact eq5, by unfold gActA; rw [ek]; exact hCq5⟩) dL_act_155
    · skip
      refine g_top (y := 1) (by rw [k4]; rfl) ?_
      refine g_tableIn (tgt := 156) E dL_act_58 (by decide) (by decide) rfl (by decide) ?_
      refine g_aload_n E dL_act_156 rfl 2 rfl ?_
      refine g_iload E dL_act_157 1 rfl ?_
      refine g_iload_n E dL_act_159 rfl 5 rfl ?_
      refine g_bipush (v := 8) E dL_act_160 (by decide) ?_
      refine g_idivN (a := n / 4) (b := 8) E dL_act_162 (by omega) (by omega) (by omega) ?_
      refine g_iconst (v := 4) E dL_act_163 (by decide) ?_
      refine g_iremN (a := (n / 4) / 8) (b := 4) E dL_act_164 (by omega) (by omega) (by omega) ?_
      refine g_callSWL (As := [.ref (x.1 0), .int (nI (gActP A (n / 4))), .int (nI (((n / 4) / 8) % 4))]) (F := []) E (wL_promote (x := x) hST hA hb5 hCc (nI (gActP A (n / 4))) (nI (((n / 4) / 8) % 4))) gL_act_L_promote rfl hdL_promote ⟨Nat.le_of_ble_eq_true rfl, Nat.le_of_ble_eq_true rfl⟩ gPerm_n rfl rfl ?_ dL_act_165 ⟨by show csc + 1 ≤ 10; omega, by show ssc + 6 ≤ 60; omega⟩ (fun rq6 uq6 hq6 => ?_)
      · exact Nat.le_of_ble_eq_true rfl
      refine g_perm (ws1 := wV G x uq6) gPerm_n' ?_
      obtain ⟨eq6, hCq6⟩ := hq6
      refine g_widen (k := 10) (n := 60) (by omega) (by omega) ?_
      have ek : gActK A (n / 4) (m % 24) = ([(-9000000000000000001), (-9000000000000000002)], aAct 1 2 0 A (gTryPromote (aS A) (nI (gActP A (n / 4))) (nI (((n / 4) / 8) % 4)))) := by rw [k4]; rfl
      exact RET _ _ _ uq6 (⟨by unfold gActR; rw [ek]; exact eq6, by unfold gActA; rw [ek]; exact hCq6⟩) dL_act_168
    · skip
      refine g_top (y := 2) (by rw [k4]; rfl) ?_
      refine g_tableIn (tgt := 169) E dL_act_58 (by decide) (by decide) rfl (by decide) ?_
      refine g_aload_n E dL_act_169 rfl 2 rfl ?_
      refine g_iload E dL_act_170 1 rfl ?_
      refine g_iload E dL_act_172 0 rfl ?_
      refine g_iload_n E dL_act_174 rfl 5 rfl ?_
      refine g_bipush (v := 80) E dL_act_175 (by decide) ?_
      refine g_idivN (a := n / 4) (b := 80) E dL_act_177 (by omega) (by omega) (by omega) ?_
      refine g_iconst (v := 4) E dL_act_178 (by decide) ?_
      refine g_iremN (a := (n / 4) / 80) (b := 4) E dL_act_179 (by omega) (by omega) (by omega) ?_
      refine g_if_leN (tgt := 187) (a := ((n / 4) / 80) % 4) E dL_act_180 (by decide) (by omega) (fun c7 => ?_) (fun c7 => ?_)
      · skip
        refine g_iconst (v := 0) E dL_act_187 (by decide) ?_
        refine g_top (y := gB01 (n / 4 / 80 % 4)) ((if_neg c7).symm) ?_
        refine g_callSWL (As := [.ref (x.1 0), .int (nI (gActP A (n / 4))), .int (nI (((n / 4) / 8) % 10)), .int (gB01 (n / 4 / 80 % 4))]) (F := []) E (wL_list (x := x) hST hA hb5 hCc (nI (gActP A (n / 4))) (nI (((n / 4) / 8) % 10)) (gB01 (n / 4 / 80 % 4))) gL_act_L_list rfl hdL_list ⟨Nat.le_of_ble_eq_true rfl, Nat.le_of_ble_eq_true rfl⟩ gPerm_n rfl rfl ?_ dL_act_188 ⟨by show csc + 1 ≤ 10; omega, by show ssc + 6 ≤ 60; omega⟩ (fun rq8 uq8 hq8 => ?_)
        · exact Nat.le_of_ble_eq_true rfl
        refine g_perm (ws1 := wV G x uq8) gPerm_n' ?_
        obtain ⟨eq8, hCq8⟩ := hq8
        refine g_widen (k := 10) (n := 60) (by omega) (by omega) ?_
        have ek : gActK A (n / 4) (m % 24) = ([(-9000000000000000001)], aAct 1 0 0 A (gTryList (aS A) (nI (gActP A (n / 4))) (nI (((n / 4) / 8) % 10)) (gB01 (n / 4 / 80 % 4)))) := by rw [k4]; rfl
        exact RET _ _ _ uq8 (⟨by unfold gActR; rw [ek]; exact eq8, by unfold gActA; rw [ek]; exact hCq8⟩) dL_act_191
      · skip
        refine g_iconst (v := 1) E dL_act_183 (by decide) ?_
        refine g_goto (tgt := 188) E dL_act_184 (by decide) ?_
        refine g_top (y := gB01 (n / 4 / 80 % 4)) ((if_pos c7).symm) ?_
        refine g_callSWL (As := [.ref (x.1 0), .int (nI (gActP A (n / 4))), .int (nI (((n / 4) / 8) % 10)), .int (gB01 (n / 4 / 80 % 4))]) (F := []) E (wL_list (x := x) hST hA hb5 hCc (nI (gActP A (n / 4))) (nI (((n / 4) / 8) % 10)) (gB01 (n / 4 / 80 % 4))) gL_act_L_list rfl hdL_list ⟨Nat.le_of_ble_eq_true rfl, Nat.le_of_ble_eq_true rfl⟩ gPerm_n rfl rfl ?_ dL_act_188 ⟨by show csc + 1 ≤ 10; omega, by show ssc + 6 ≤ 60; omega⟩ (fun rq9 uq9 hq9 => ?_)
        · exact Nat.le_of_ble_eq_true rfl
        refine g_perm (ws1 := wV G x uq9) gPerm_n' ?_
        obtain ⟨eq9, hCq9⟩ := hq9
        refine g_widen (k := 10) (n := 60) (by omega) (by omega) ?_
        have ek : gActK A (n / 4) (m % 24) = ([(-9000000000000000001)], aAct 1 0 0 A (gTryList (aS A) (nI (gActP A (n / 4))) (nI (((n / 4) / 8) % 10)) (gB01 (n / 4 / 80 % 4)))) := by rw [k4]; rfl
        exact RET _ _ _ uq9 (⟨by unfold gActR; rw [ek]; exact eq9, by unfold gActA; rw [ek]; exact hCq9⟩) dL_act_191
    · skip
      refine g_top (y := 3) (by rw [k4]; rfl) ?_
      refine g_tableIn (tgt := 169) E dL_act_58 (by decide) (by decide) rfl (by decide) ?_
      refine g_aload_n E dL_act_169 rfl 2 rfl ?_
      refine g_iload E dL_act_170 1 rfl ?_
      refine g_iload E dL_act_172 0 rfl ?_
      refine g_iload_n E dL_act_174 rfl 5 rfl ?_
      refine g_bipush (v := 80) E dL_act_175 (by decide) ?_
      refine g_idivN (a := n / 4) (b := 80) E dL_act_177 (by omega) (by omega) (by omega) ?_
      refine g_iconst (v := 4) E dL_act_178 (by decide) ?_
      refine g_iremN (a := (n / 4) / 80) (b := 4) E dL_act_179 (by omega) (by omega) (by omega) ?_
      refine g_if_leN (tgt := 187) (a := ((n / 4) / 80) % 4) E dL_act_180 (by decide) (by omega) (fun c10 => ?_) (fun c10 => ?_)
      · skip
        refine g_iconst (v := 0) E dL_act_187 (by decide) ?_
        refine g_top (y := gB01 (n / 4 / 80 % 4)) ((if_neg c10).symm) ?_
        refine g_callSWL (As := [.ref (x.1 0), .int (nI (gActP A (n / 4))), .int (nI (((n / 4) / 8) % 10)), .int (gB01 (n / 4 / 80 % 4))]) (F := []) E (wL_list (x := x) hST hA hb5 hCc (nI (gActP A (n / 4))) (nI (((n / 4) / 8) % 10)) (gB01 (n / 4 / 80 % 4))) gL_act_L_list rfl hdL_list ⟨Nat.le_of_ble_eq_true rfl, Nat.le_of_ble_eq_true rfl⟩ gPerm_n rfl rfl ?_ dL_act_188 ⟨by show csc + 1 ≤ 10; omega, by show ssc + 6 ≤ 60; omega⟩ (fun rq11 uq11 hq11 => ?_)
        · exact Nat.le_of_ble_eq_true rfl
        refine g_perm (ws1 := wV G x uq11) gPerm_n' ?_
        obtain ⟨eq11, hCq11⟩ := hq11
        refine g_widen (k := 10) (n := 60) (by omega) (by omega) ?_
        have ek : gActK A (n / 4) (m % 24) = ([(-9000000000000000001)], aAct 1 0 0 A (gTryList (aS A) (nI (gActP A (n / 4))) (nI (((n / 4) / 8) % 10)) (gB01 (n / 4 / 80 % 4)))) := by rw [k4]; rfl
        exact RET _ _ _ uq11 (⟨by unfold gActR; rw [ek]; exact eq11, by unfold gActA; rw [ek]; exact hCq11⟩) dL_act_191
      · skip
        refine g_iconst (v := 1) E dL_act_183 (by decide) ?_
        refine g_goto (tgt := 188) E dL_act_184 (by decide) ?_
        refine g_top (y := gB01 (n / 4 / 80 % 4)) ((if_pos c10).symm) ?_
        refine g_callSWL (As := [.ref (x.1 0), .int (nI (gActP A (n / 4))), .int (nI (((n / 4) / 8) % 10)), .int (gB01 (n / 4 / 80 % 4))]) (F := []) E (wL_list (x := x) hST hA hb5 hCc (nI (gActP A (n / 4))) (nI (((n / 4) / 8) % 10)) (gB01 (n / 4 / 80 % 4))) gL_act_L_list rfl hdL_list ⟨Nat.le_of_ble_eq_true rfl, Nat.le_of_ble_eq_true rfl⟩ gPerm_n rfl rfl ?_ dL_act_188 ⟨by show csc + 1 ≤ 10; omega, by show ssc + 6 ≤ 60; omega⟩ (fun rq12 uq12 hq12 => ?_)
        · exact Nat.le_of_ble_eq_true rfl
        refine g_perm (ws1 := wV G x uq12) gPerm_n' ?_
        obtain ⟨eq12, hCq12⟩ := hq12
        refine g_widen (k := 10) (n := 60) (by omega) (by omega) ?_
        have ek : gActK A (n / 4) (m % 24) = ([(-9000000000000000001)], aAct 1 0 0 A (gTryList (aS A) (nI (gActP A (n / 4))) (nI (((n / 4) / 8) % 10)) (gB01 (n / 4 / 80 % 4)))) := by rw [k4]; rfl
        exact RET _ _ _ uq12 (⟨by unfold gActR; rw [ek]; exact eq12, by unfold gActA; rw [ek]; exact hCq12⟩) dL_act_191
    · skip
      refine g_top (y := 4) (by rw [k4]; rfl) ?_
      refine g_tableIn (tgt := 169) E dL_act_58 (by decide) (by decide) rfl (by decide) ?_
      refine g_aload_n E dL_act_169 rfl 2 rfl ?_
      refine g_iload E dL_act_170 1 rfl ?_
      refine g_iload E dL_act_172 0 rfl ?_
      refine g_iload_n E dL_act_174 rfl 5 rfl ?_
      refine g_bipush (v := 80) E dL_act_175 (by decide) ?_
      refine g_idivN (a := n / 4) (b := 80) E dL_act_177 (by omega) (by omega) (by omega) ?_
      refine g_iconst (v := 4) E dL_act_178 (by decide) ?_
      refine g_iremN (a := (n / 4) / 80) (b := 4) E dL_act_179 (by omega) (by omega) (by omega) ?_
      refine g_if_leN (tgt := 187) (a := ((n / 4) / 80) % 4) E dL_act_180 (by decide) (by omega) (fun c13 => ?_) (fun c13 => ?_)
      · skip
        refine g_iconst (v := 0) E dL_act_187 (by decide) ?_
        refine g_top (y := gB01 (n / 4 / 80 % 4)) ((if_neg c13).symm) ?_
        refine g_callSWL (As := [.ref (x.1 0), .int (nI (gActP A (n / 4))), .int (nI (((n / 4) / 8) % 10)), .int (gB01 (n / 4 / 80 % 4))]) (F := []) E (wL_list (x := x) hST hA hb5 hCc (nI (gActP A (n / 4))) (nI (((n / 4) / 8) % 10)) (gB01 (n / 4 / 80 % 4))) gL_act_L_list rfl hdL_list ⟨Nat.le_of_ble_eq_true rfl, Nat.le_of_ble_eq_true rfl⟩ gPerm_n rfl rfl ?_ dL_act_188 ⟨by show csc + 1 ≤ 10; omega, by show ssc + 6 ≤ 60; omega⟩ (fun rq14 uq14 hq14 => ?_)
        · exact Nat.le_of_ble_eq_true rfl
        refine g_perm (ws1 := wV G x uq14) gPerm_n' ?_
        obtain ⟨eq14, hCq14⟩ := hq14
        refine g_widen (k := 10) (n := 60) (by omega) (by omega) ?_
        have ek : gActK A (n / 4) (m % 24) = ([(-9000000000000000001)], aAct 1 0 0 A (gTryList (aS A) (nI (gActP A (n / 4))) (nI (((n / 4) / 8) % 10)) (gB01 (n / 4 / 80 % 4)))) := by rw [k4]; rfl
        exact RET _ _ _ uq14 (⟨by unfold gActR; rw [ek]; exact eq14, by unfold gActA; rw [ek]; exact hCq14⟩) dL_act_191
      · skip
        refine g_iconst (v := 1) E dL_act_183 (by decide) ?_
        refine g_goto (tgt := 188) E dL_act_184 (by decide) ?_
        refine g_top (y := gB01 (n / 4 / 80 % 4)) ((if_pos c13).symm) ?_
        refine g_callSWL (As := [.ref (x.1 0), .int (nI (gActP A (n / 4))), .int (nI (((n / 4) / 8) % 10)), .int (gB01 (n / 4 / 80 % 4))]) (F := []) E (wL_list (x := x) hST hA hb5 hCc (nI (gActP A (n / 4))) (nI (((n / 4) / 8) % 10)) (gB01 (n / 4 / 80 % 4))) gL_act_L_list rfl hdL_list ⟨Nat.le_of_ble_eq_true rfl, Nat.le_of_ble_eq_true rfl⟩ gPerm_n rfl rfl ?_ dL_act_188 ⟨by show csc + 1 ≤ 10; omega, by show ssc + 6 ≤ 60; omega⟩ (fun rq15 uq15 hq15 => ?_)
        · exact Nat.le_of_ble_eq_true rfl
        refine g_perm (ws1 := wV G x uq15) gPerm_n' ?_
        obtain ⟨eq15, hCq15⟩ := hq15
        refine g_widen (k := 10) (n := 60) (by omega) (by omega) ?_
        have ek : gActK A (n / 4) (m % 24) = ([(-9000000000000000001)], aAct 1 0 0 A (gTryList (aS A) (nI (gActP A (n / 4))) (nI (((n / 4) / 8) % 10)) (gB01 (n / 4 / 80 % 4)))) := by rw [k4]; rfl
        exact RET _ _ _ uq15 (⟨by unfold gActR; rw [ek]; exact eq15, by unfold gActA; rw [ek]; exact hCq15⟩) dL_act_191
    · skip
      refine g_top (y := 5) (by rw [k4]; rfl) ?_
      refine g_tableIn (tgt := 192) E dL_act_58 (by decide) (by decide) rfl (by decide) ?_
      refine g_aload_n E dL_act_192 rfl 2 rfl ?_
      refine g_iload E dL_act_193 1 rfl ?_
      refine g_iload_n E dL_act_195 rfl 5 rfl ?_
      refine g_bipush (v := 8) E dL_act_196 (by decide) ?_
      refine g_idivN (a := n / 4) (b := 8) E dL_act_198 (by omega) (by omega) (by omega) ?_
      refine g_bipush (v := 8) E dL_act_199 (by decide) ?_
      refine g_iremN (a := (n / 4) / 8) (b := 8) E dL_act_201 (by omega) (by omega) (by omega) ?_
      refine g_iload_n E dL_act_202 rfl 5 rfl ?_
      refine g_bipush (v := 64) E dL_act_203 (by decide) ?_
      refine g_idivN (a := n / 4) (b := 64) E dL_act_205 (by omega) (by omega) (by omega) ?_
      refine g_iconst (v := 3) E dL_act_206 (by decide) ?_
      refine g_iremN (a := (n / 4) / 64) (b := 3) E dL_act_207 (by omega) (by omega) (by omega) ?_
      refine g_if_leN (tgt := 215) (a := ((n / 4) / 64) % 3) E dL_act_208 (by decide) (by omega) (fun c16 => ?_) (fun c16 => ?_)
      · skip
        refine g_iconst (v := 0) E dL_act_215 (by decide) ?_
        refine g_top (y := gB01 (n / 4 / 64 % 3)) ((if_neg c16).symm) ?_
        refine g_callSWL (As := [.ref (x.1 0), .int (nI (gActP A (n / 4))), .int (nI (((n / 4) / 8) % 8)), .int (gB01 (n / 4 / 64 % 3))]) (F := []) E (wL_keepApart (x := x) hST hA hb5 hCc (nI (gActP A (n / 4))) (nI (((n / 4) / 8) % 8)) (gB01 (n / 4 / 64 % 3))) gL_act_L_keepApart rfl hdL_keepApart ⟨Nat.le_of_ble_eq_true rfl, Nat.le_of_ble_eq_true rfl⟩ gPerm_n rfl rfl ?_ dL_act_216 ⟨by show csc + 1 ≤ 10; omega, by show ssc + 6 ≤ 60; omega⟩ (fun rq17 uq17 hq17 => ?_)
        · exact Nat.le_of_ble_eq_true rfl
        refine g_perm (ws1 := wV G x uq17) gPerm_n' ?_
        obtain ⟨eq17, hCq17⟩ := hq17
        refine g_widen (k := 10) (n := 60) (by omega) (by omega) ?_
        have ek : gActK A (n / 4) (m % 24) = ([(-9000000000000000001), (-9000000000000000003)], aAct 1 0 2 A (gTryApart (aS A) (nI (gActP A (n / 4))) (nI (((n / 4) / 8) % 8)) (gB01 (n / 4 / 64 % 3)))) := by rw [k4]; rfl
        exact RET _ _ _ uq17 (⟨by unfold gActR; rw [ek]; exact eq17, by unfold gActA; rw [ek]; exact hCq17⟩) dL_act_219
      · skip
        refine g_iconst (v := 1) E dL_act_211 (by decide) ?_
        refine g_goto (tgt := 216) E dL_act_212 (by decide) ?_
        refine g_top (y := gB01 (n / 4 / 64 % 3)) ((if_pos c16).symm) ?_
        refine g_callSWL (As := [.ref (x.1 0), .int (nI (gActP A (n / 4))), .int (nI (((n / 4) / 8) % 8)), .int (gB01 (n / 4 / 64 % 3))]) (F := []) E (wL_keepApart (x := x) hST hA hb5 hCc (nI (gActP A (n / 4))) (nI (((n / 4) / 8) % 8)) (gB01 (n / 4 / 64 % 3))) gL_act_L_keepApart rfl hdL_keepApart ⟨Nat.le_of_ble_eq_true rfl, Nat.le_of_ble_eq_true rfl⟩ gPerm_n rfl rfl ?_ dL_act_216 ⟨by show csc + 1 ≤ 10; omega, by show ssc + 6 ≤ 60; omega⟩ (fun rq18 uq18 hq18 => ?_)
        · exact Nat.le_of_ble_eq_true rfl
        refine g_perm (ws1 := wV G x uq18) gPerm_n' ?_
        obtain ⟨eq18, hCq18⟩ := hq18
        refine g_widen (k := 10) (n := 60) (by omega) (by omega) ?_
        have ek : gActK A (n / 4) (m % 24) = ([(-9000000000000000001), (-9000000000000000003)], aAct 1 0 2 A (gTryApart (aS A) (nI (gActP A (n / 4))) (nI (((n / 4) / 8) % 8)) (gB01 (n / 4 / 64 % 3)))) := by rw [k4]; rfl
        exact RET _ _ _ uq18 (⟨by unfold gActR; rw [ek]; exact eq18, by unfold gActA; rw [ek]; exact hCq18⟩) dL_act_219
    · skip
      refine g_top (y := 6) (by rw [k4]; rfl) ?_
      refine g_tableIn (tgt := 220) E dL_act_58 (by decide) (by decide) rfl (by decide) ?_
      refine g_aload_n E dL_act_220 rfl 2 rfl ?_
      refine g_iload E dL_act_221 1 rfl ?_
      refine g_iload E dL_act_223 0 rfl ?_
      refine g_aload_n E dL_act_225 rfl 2 rfl ?_
      refine g_iconst (v := 1) E dL_act_226 (by decide) ?_
      refine g_callSWL (As := [.ref (x.1 0), .int 1]) (F := []) E (wL_about (x := x) hST hA hb5 hCc (1 : Int32)) gL_act_L_about rfl hdL_about ⟨Nat.le_of_ble_eq_true rfl, Nat.le_of_ble_eq_true rfl⟩ gPerm_n rfl rfl ?_ dL_act_227 ⟨by show csc + 1 ≤ 10; omega, by show ssc + 6 ≤ 60; omega⟩ (fun rq19 uq19 hq19 => ?_)
      · exact Nat.le_of_ble_eq_true rfl
      refine g_perm (ws1 := wV G x uq19) gPerm_n' ?_
      obtain ⟨eq19, hCq19⟩ := hq19
      rw [show fAbout A (1 : Int32) = _ from fAbout_1 (A := A)] at eq19 hCq19
      refine g_topL (y := (nI (sN (aS A) 0)).toInt64) (eq19.trans (gCd_a rfl)) ?_
      refine g_l2i (v := nI (sN (aS A) 0)) E dL_act_230 (gL2I _) ?_
      refine g_iload_n E dL_act_231 rfl 5 rfl ?_
      refine g_bipush (v := 80) E dL_act_232 (by decide) ?_
      refine g_idivN (a := n / 4) (b := 80) E dL_act_234 (by omega) (by omega) (by omega) ?_
      refine g_bipush (v := 10) E dL_act_235 (by decide) ?_
      refine g_iremN (a := (n / 4) / 80) (b := 10) E dL_act_237 (by omega) (by omega) (by omega) ?_
      refine g_iaddN (a := sN (aS A) 0) (b := ((n / 4) / 80) % 10) E dL_act_238 ?_
      refine g_iload_n E dL_act_239 rfl 5 rfl ?_
      refine g_sipush (v := 800) E dL_act_240 (by decide) ?_
      refine g_idivN (a := n / 4) (b := 800) E dL_act_243 (by omega) (by omega) (by omega) ?_
      refine g_bipush (v := 8) E dL_act_244 (by decide) ?_
      refine g_iremN (a := (n / 4) / 800) (b := 8) E dL_act_246 (by omega) (by omega) (by omega) ?_
      refine g_callSWL (As := [.ref (x.1 0), .int (nI (gActP A (n / 4))), .int (nI (((n / 4) / 8) % 10)), .int (nI (sN (aS A) 0 + (((n / 4) / 80) % 10))), .int (nI (((n / 4) / 800) % 8))]) (F := []) E (wL_book (x := x) hST hA hb5 hCq19 (nI (gActP A (n / 4))) (nI (((n / 4) / 8) % 10)) (nI (sN (aS A) 0 + (((n / 4) / 80) % 10))) (nI (((n / 4) / 800) % 8))) gL_act_L_book rfl hdL_book ⟨Nat.le_of_ble_eq_true rfl, Nat.le_of_ble_eq_true rfl⟩ gPerm_n rfl rfl ?_ dL_act_247 ⟨by show (csc + 1) + 1 ≤ 10; omega, by show (ssc + 6) + 6 ≤ 60; omega⟩ (fun rq20 uq20 hq20 => ?_)
      · exact Nat.le_of_ble_eq_true rfl
      refine g_perm (ws1 := wV G x uq20) gPerm_n' ?_
      obtain ⟨eq20, hCq20⟩ := hq20
      refine g_widen (k := 10) (n := 60) (by omega) (by omega) ?_
      have ek : gActK A (n / 4) (m % 24) = ([(-9000000000000000001), (-9000000000000000002), (-9000000000000000003)], aAct 1 2 3 A (gTryBook (aS A) (nI (gActP A (n / 4))) (nI (((n / 4) / 8) % 10)) (nI (sN (aS A) 0 + (((n / 4) / 80) % 10))) (nI (((n / 4) / 800) % 8)))) := by rw [k4]; rfl
      exact RET _ _ _ uq20 (⟨by unfold gActR; rw [ek]; exact eq20, by unfold gActA; rw [ek]; exact hCq20⟩) dL_act_250
    · skip
      refine g_top (y := 7) (by rw [k4]; rfl) ?_
      refine g_tableIn (tgt := 220) E dL_act_58 (by decide) (by decide) rfl (by decide) ?_
      refine g_aload_n E dL_act_220 rfl 2 rfl ?_
      refine g_iload E dL_act_221 1 rfl ?_
      refine g_iload E dL_act_223 0 rfl ?_
      refine g_aload_n E dL_act_225 rfl 2 rfl ?_
      refine g_iconst (v := 1) E dL_act_226 (by decide) ?_
      refine g_callSWL (As := [.ref (x.1 0), .int 1]) (F := []) E (wL_about (x := x) hST hA hb5 hCc (1 : Int32)) gL_act_L_about rfl hdL_about ⟨Nat.le_of_ble_eq_true rfl, Nat.le_of_ble_eq_true rfl⟩ gPerm_n rfl rfl ?_ dL_act_227 ⟨by show csc + 1 ≤ 10; omega, by show ssc + 6 ≤ 60; omega⟩ (fun rq21 uq21 hq21 => ?_)
      · exact Nat.le_of_ble_eq_true rfl
      refine g_perm (ws1 := wV G x uq21) gPerm_n' ?_
      obtain ⟨eq21, hCq21⟩ := hq21
      rw [show fAbout A (1 : Int32) = _ from fAbout_1 (A := A)] at eq21 hCq21
      refine g_topL (y := (nI (sN (aS A) 0)).toInt64) (eq21.trans (gCd_a rfl)) ?_
      refine g_l2i (v := nI (sN (aS A) 0)) E dL_act_230 (gL2I _) ?_
      refine g_iload_n E dL_act_231 rfl 5 rfl ?_
      refine g_bipush (v := 80) E dL_act_232 (by decide) ?_
      refine g_idivN (a := n / 4) (b := 80) E dL_act_234 (by omega) (by omega) (by omega) ?_
      refine g_bipush (v := 10) E dL_act_235 (by decide) ?_
      refine g_iremN (a := (n / 4) / 80) (b := 10) E dL_act_237 (by omega) (by omega) (by omega) ?_
      refine g_iaddN (a := sN (aS A) 0) (b := ((n / 4) / 80) % 10) E dL_act_238 ?_
      refine g_iload_n E dL_act_239 rfl 5 rfl ?_
      refine g_sipush (v := 800) E dL_act_240 (by decide) ?_
      refine g_idivN (a := n / 4) (b := 800) E dL_act_243 (by omega) (by omega) (by omega) ?_
      refine g_bipush (v := 8) E dL_act_244 (by decide) ?_
      refine g_iremN (a := (n / 4) / 800) (b := 8) E dL_act_246 (by omega) (by omega) (by omega) ?_
      refine g_callSWL (As := [.ref (x.1 0), .int (nI (gActP A (n / 4))), .int (nI (((n / 4) / 8) % 10)), .int (nI (sN (aS A) 0 + (((n / 4) / 80) % 10))), .int (nI (((n / 4) / 800) % 8))]) (F := []) E (wL_book (x := x) hST hA hb5 hCq21 (nI (gActP A (n / 4))) (nI (((n / 4) / 8) % 10)) (nI (sN (aS A) 0 + (((n / 4) / 80) % 10))) (nI (((n / 4) / 800) % 8))) gL_act_L_book rfl hdL_book ⟨Nat.le_of_ble_eq_true rfl, Nat.le_of_ble_eq_true rfl⟩ gPerm_n rfl rfl ?_ dL_act_247 ⟨by show (csc + 1) + 1 ≤ 10; omega, by show (ssc + 6) + 6 ≤ 60; omega⟩ (fun rq22 uq22 hq22 => ?_)
      · exact Nat.le_of_ble_eq_true rfl
      refine g_perm (ws1 := wV G x uq22) gPerm_n' ?_
      obtain ⟨eq22, hCq22⟩ := hq22
      refine g_widen (k := 10) (n := 60) (by omega) (by omega) ?_
      have ek : gActK A (n / 4) (m % 24) = ([(-9000000000000000001), (-9000000000000000002), (-9000000000000000003)], aAct 1 2 3 A (gTryBook (aS A) (nI (gActP A (n / 4))) (nI (((n / 4) / 8) % 10)) (nI (sN (aS A) 0 + (((n / 4) / 80) % 10))) (nI (((n / 4) / 800) % 8)))) := by rw [k4]; rfl
      exact RET _ _ _ uq22 (⟨by unfold gActR; rw [ek]; exact eq22, by unfold gActA; rw [ek]; exact hCq22⟩) dL_act_250
    · skip
      refine g_top (y := 8) (by rw [k4]; rfl) ?_
      refine g_tableIn (tgt := 220) E dL_act_58 (by decide) (by decide) rfl (by decide) ?_
      refine g_aload_n E dL_act_220 rfl 2 rfl ?_
      refine g_iload E dL_act_221 1 rfl ?_
      refine g_iload E dL_act_223 0 rfl ?_
      refine g_aload_n E dL_act_225 rfl 2 rfl ?_
      refine g_iconst (v := 1) E dL_act_226 (by decide) ?_
      refine g_callSWL (As := [.ref (x.1 0), .int 1]) (F := []) E (wL_about (x := x) hST hA hb5 hCc (1 : Int32)) gL_act_L_about rfl hdL_about ⟨Nat.le_of_ble_eq_true rfl, Nat.le_of_ble_eq_true rfl⟩ gPerm_n rfl rfl ?_ dL_act_227 ⟨by show csc + 1 ≤ 10; omega, by show ssc + 6 ≤ 60; omega⟩ (fun rq23 uq23 hq23 => ?_)
      · exact Nat.le_of_ble_eq_true rfl
      refine g_perm (ws1 := wV G x uq23) gPerm_n' ?_
      obtain ⟨eq23, hCq23⟩ := hq23
      rw [show fAbout A (1 : Int32) = _ from fAbout_1 (A := A)] at eq23 hCq23
      refine g_topL (y := (nI (sN (aS A) 0)).toInt64) (eq23.trans (gCd_a rfl)) ?_
      refine g_l2i (v := nI (sN (aS A) 0)) E dL_act_230 (gL2I _) ?_
      refine g_iload_n E dL_act_231 rfl 5 rfl ?_
      refine g_bipush (v := 80) E dL_act_232 (by decide) ?_
      refine g_idivN (a := n / 4) (b := 80) E dL_act_234 (by omega) (by omega) (by omega) ?_
      refine g_bipush (v := 10) E dL_act_235 (by decide) ?_
      refine g_iremN (a := (n / 4) / 80) (b := 10) E dL_act_237 (by omega) (by omega) (by omega) ?_
      refine g_iaddN (a := sN (aS A) 0) (b := ((n / 4) / 80) % 10) E dL_act_238 ?_
      refine g_iload_n E dL_act_239 rfl 5 rfl ?_
      refine g_sipush (v := 800) E dL_act_240 (by decide) ?_
      refine g_idivN (a := n / 4) (b := 800) E dL_act_243 (by omega) (by omega) (by omega) ?_
      refine g_bipush (v := 8) E dL_act_244 (by decide) ?_
      refine g_iremN (a := (n / 4) / 800) (b := 8) E dL_act_246 (by omega) (by omega) (by omega) ?_
      refine g_callSWL (As := [.ref (x.1 0), .int (nI (gActP A (n / 4))), .int (nI (((n / 4) / 8) % 10)), .int (nI (sN (aS A) 0 + (((n / 4) / 80) % 10))), .int (nI (((n / 4) / 800) % 8))]) (F := []) E (wL_book (x := x) hST hA hb5 hCq23 (nI (gActP A (n / 4))) (nI (((n / 4) / 8) % 10)) (nI (sN (aS A) 0 + (((n / 4) / 80) % 10))) (nI (((n / 4) / 800) % 8))) gL_act_L_book rfl hdL_book ⟨Nat.le_of_ble_eq_true rfl, Nat.le_of_ble_eq_true rfl⟩ gPerm_n rfl rfl ?_ dL_act_247 ⟨by show (csc + 1) + 1 ≤ 10; omega, by show (ssc + 6) + 6 ≤ 60; omega⟩ (fun rq24 uq24 hq24 => ?_)
      · exact Nat.le_of_ble_eq_true rfl
      refine g_perm (ws1 := wV G x uq24) gPerm_n' ?_
      obtain ⟨eq24, hCq24⟩ := hq24
      refine g_widen (k := 10) (n := 60) (by omega) (by omega) ?_
      have ek : gActK A (n / 4) (m % 24) = ([(-9000000000000000001), (-9000000000000000002), (-9000000000000000003)], aAct 1 2 3 A (gTryBook (aS A) (nI (gActP A (n / 4))) (nI (((n / 4) / 8) % 10)) (nI (sN (aS A) 0 + (((n / 4) / 80) % 10))) (nI (((n / 4) / 800) % 8)))) := by rw [k4]; rfl
      exact RET _ _ _ uq24 (⟨by unfold gActR; rw [ek]; exact eq24, by unfold gActA; rw [ek]; exact hCq24⟩) dL_act_250
    · skip
      refine g_top (y := 9) (by rw [k4]; rfl) ?_
      refine g_tableIn (tgt := 220) E dL_act_58 (by decide) (by decide) rfl (by decide) ?_
      refine g_aload_n E dL_act_220 rfl 2 rfl ?_
      refine g_iload E dL_act_221 1 rfl ?_
      refine g_iload E dL_act_223 0 rfl ?_
      refine g_aload_n E dL_act_225 rfl 2 rfl ?_
      refine g_iconst (v := 1) E dL_act_226 (by decide) ?_
      refine g_callSWL (As := [.ref (x.1 0), .int 1]) (F := []) E (wL_about (x := x) hST hA hb5 hCc (1 : Int32)) gL_act_L_about rfl hdL_about ⟨Nat.le_of_ble_eq_true rfl, Nat.le_of_ble_eq_true rfl⟩ gPerm_n rfl rfl ?_ dL_act_227 ⟨by show csc + 1 ≤ 10; omega, by show ssc + 6 ≤ 60; omega⟩ (fun rq25 uq25 hq25 => ?_)
      · exact Nat.le_of_ble_eq_true rfl
      refine g_perm (ws1 := wV G x uq25) gPerm_n' ?_
      obtain ⟨eq25, hCq25⟩ := hq25
      rw [show fAbout A (1 : Int32) = _ from fAbout_1 (A := A)] at eq25 hCq25
      refine g_topL (y := (nI (sN (aS A) 0)).toInt64) (eq25.trans (gCd_a rfl)) ?_
      refine g_l2i (v := nI (sN (aS A) 0)) E dL_act_230 (gL2I _) ?_
      refine g_iload_n E dL_act_231 rfl 5 rfl ?_
      refine g_bipush (v := 80) E dL_act_232 (by decide) ?_
      refine g_idivN (a := n / 4) (b := 80) E dL_act_234 (by omega) (by omega) (by omega) ?_
      refine g_bipush (v := 10) E dL_act_235 (by decide) ?_
      refine g_iremN (a := (n / 4) / 80) (b := 10) E dL_act_237 (by omega) (by omega) (by omega) ?_
      refine g_iaddN (a := sN (aS A) 0) (b := ((n / 4) / 80) % 10) E dL_act_238 ?_
      refine g_iload_n E dL_act_239 rfl 5 rfl ?_
      refine g_sipush (v := 800) E dL_act_240 (by decide) ?_
      refine g_idivN (a := n / 4) (b := 800) E dL_act_243 (by omega) (by omega) (by omega) ?_
      refine g_bipush (v := 8) E dL_act_244 (by decide) ?_
      refine g_iremN (a := (n / 4) / 800) (b := 8) E dL_act_246 (by omega) (by omega) (by omega) ?_
      refine g_callSWL (As := [.ref (x.1 0), .int (nI (gActP A (n / 4))), .int (nI (((n / 4) / 8) % 10)), .int (nI (sN (aS A) 0 + (((n / 4) / 80) % 10))), .int (nI (((n / 4) / 800) % 8))]) (F := []) E (wL_book (x := x) hST hA hb5 hCq25 (nI (gActP A (n / 4))) (nI (((n / 4) / 8) % 10)) (nI (sN (aS A) 0 + (((n / 4) / 80) % 10))) (nI (((n / 4) / 800) % 8))) gL_act_L_book rfl hdL_book ⟨Nat.le_of_ble_eq_true rfl, Nat.le_of_ble_eq_true rfl⟩ gPerm_n rfl rfl ?_ dL_act_247 ⟨by show (csc + 1) + 1 ≤ 10; omega, by show (ssc + 6) + 6 ≤ 60; omega⟩ (fun rq26 uq26 hq26 => ?_)
      · exact Nat.le_of_ble_eq_true rfl
      refine g_perm (ws1 := wV G x uq26) gPerm_n' ?_
      obtain ⟨eq26, hCq26⟩ := hq26
      refine g_widen (k := 10) (n := 60) (by omega) (by omega) ?_
      have ek : gActK A (n / 4) (m % 24) = ([(-9000000000000000001), (-9000000000000000002), (-9000000000000000003)], aAct 1 2 3 A (gTryBook (aS A) (nI (gActP A (n / 4))) (nI (((n / 4) / 8) % 10)) (nI (sN (aS A) 0 + (((n / 4) / 80) % 10))) (nI (((n / 4) / 800) % 8)))) := by rw [k4]; rfl
      exact RET _ _ _ uq26 (⟨by unfold gActR; rw [ek]; exact eq26, by unfold gActA; rw [ek]; exact hCq26⟩) dL_act_250
    · skip
      refine g_top (y := 10) (by rw [k4]; rfl) ?_
      refine g_tableIn (tgt := 251) E dL_act_58 (by decide) (by decide) rfl (by decide) ?_
      refine g_aload_n E dL_act_251 rfl 2 rfl ?_
      refine g_iload E dL_act_252 7 rfl ?_
      refine g_if_neN (tgt := 261) (a := (sB (aS A)).length) E dL_act_254 (by decide) (by omega) (fun c27 => ?_) (fun c27 => ?_)
      · skip
        refine g_iload_n E dL_act_261 rfl 5 rfl ?_
        refine g_iload E dL_act_262 7 rfl ?_
        refine g_iremN (a := n / 4) (b := (sB (aS A)).length) E dL_act_264 (by omega) (by omega) (by omega) ?_
        refine g_top (y := nI (gActB A (n / 4))) (by unfold gActB; rw [if_neg (by omega)]) ?_
        refine g_callSWL (As := [.ref (x.1 0), .int (nI (gActB A (n / 4)))]) (F := []) E (wL_cancel (x := x) hST hA hb5 hCc (nI (gActB A (n / 4)))) gL_act_L_cancel rfl hdL_cancel ⟨Nat.le_of_ble_eq_true rfl, Nat.le_of_ble_eq_true rfl⟩ gPerm_n rfl rfl ?_ dL_act_265 ⟨by show csc + 1 ≤ 10; omega, by show ssc + 6 ≤ 60; omega⟩ (fun rq28 uq28 hq28 => ?_)
        · exact Nat.le_of_ble_eq_true rfl
        refine g_perm (ws1 := wV G x uq28) gPerm_n' ?_
        obtain ⟨eq28, hCq28⟩ := hq28
        refine g_widen (k := 10) (n := 60) (by omega) (by omega) ?_
        have ek : gActK A (n / 4) (m % 24) = ([(-9000000000000000001)], aAct 1 0 0 A (gTryCancel (aS A) (nI (gActB A (n / 4))))) := by rw [k4]; rfl
        exact RET _ _ _ uq28 (⟨by unfold gActR; rw [ek]; exact eq28, by unfold gActA; rw [ek]; exact hCq28⟩) dL_act_268
      · skip
        refine g_iconst (v := 0) E dL_act_257 (by decide) ?_
        refine g_goto (tgt := 265) E dL_act_258 (by decide) ?_
        refine g_top (y := nI (gActB A (n / 4))) (by unfold gActB; rw [if_pos (by omega)]; rfl) ?_
        refine g_callSWL (As := [.ref (x.1 0), .int (nI (gActB A (n / 4)))]) (F := []) E (wL_cancel (x := x) hST hA hb5 hCc (nI (gActB A (n / 4)))) gL_act_L_cancel rfl hdL_cancel ⟨Nat.le_of_ble_eq_true rfl, Nat.le_of_ble_eq_true rfl⟩ gPerm_n rfl rfl ?_ dL_act_265 ⟨by show csc + 1 ≤ 10; omega, by show ssc + 6 ≤ 60; omega⟩ (fun rq29 uq29 hq29 => ?_)
        · exact Nat.le_of_ble_eq_true rfl
        refine g_perm (ws1 := wV G x uq29) gPerm_n' ?_
        obtain ⟨eq29, hCq29⟩ := hq29
        refine g_widen (k := 10) (n := 60) (by omega) (by omega) ?_
        have ek : gActK A (n / 4) (m % 24) = ([(-9000000000000000001)], aAct 1 0 0 A (gTryCancel (aS A) (nI (gActB A (n / 4))))) := by rw [k4]; rfl
        exact RET _ _ _ uq29 (⟨by unfold gActR; rw [ek]; exact eq29, by unfold gActA; rw [ek]; exact hCq29⟩) dL_act_268
    · skip
      refine g_top (y := 11) (by rw [k4]; rfl) ?_
      refine g_tableIn (tgt := 269) E dL_act_58 (by decide) (by decide) rfl (by decide) ?_
      refine g_aload_n E dL_act_269 rfl 2 rfl ?_
      refine g_iload E dL_act_270 7 rfl ?_
      refine g_if_neN (tgt := 279) (a := (sB (aS A)).length) E dL_act_272 (by decide) (by omega) (fun c30 => ?_) (fun c30 => ?_)
      · skip
        refine g_iload_n E dL_act_279 rfl 5 rfl ?_
        refine g_iload E dL_act_280 7 rfl ?_
        refine g_iremN (a := n / 4) (b := (sB (aS A)).length) E dL_act_282 (by omega) (by omega) (by omega) ?_
        refine g_top (y := nI (gActB A (n / 4))) (by unfold gActB; rw [if_neg (by omega)]) ?_
        refine g_iload_n E dL_act_283 rfl 5 rfl ?_
        refine g_bipush (v := 24) E dL_act_284 (by decide) ?_
        refine g_idivN (a := n / 4) (b := 24) E dL_act_286 (by omega) (by omega) (by omega) ?_
        refine g_bipush (v := 60) E dL_act_287 (by decide) ?_
        refine g_iremN (a := (n / 4) / 24) (b := 60) E dL_act_289 (by omega) (by omega) (by omega) ?_
        refine g_callSWL (As := [.ref (x.1 0), .int (nI (gActB A (n / 4))), .int (nI (((n / 4) / 24) % 60))]) (F := []) E (wL_late (x := x) hST hA hb5 hCc (nI (gActB A (n / 4))) (nI (((n / 4) / 24) % 60))) gL_act_L_late rfl hdL_late ⟨Nat.le_of_ble_eq_true rfl, Nat.le_of_ble_eq_true rfl⟩ gPerm_n rfl rfl ?_ dL_act_290 ⟨by show csc + 1 ≤ 10; omega, by show ssc + 6 ≤ 60; omega⟩ (fun rq31 uq31 hq31 => ?_)
        · exact Nat.le_of_ble_eq_true rfl
        refine g_perm (ws1 := wV G x uq31) gPerm_n' ?_
        obtain ⟨eq31, hCq31⟩ := hq31
        refine g_widen (k := 10) (n := 60) (by omega) (by omega) ?_
        have ek : gActK A (n / 4) (m % 24) = ([(-9000000000000000001), (-9000000000000000002)], aAct 1 2 0 A (gTryLate (aS A) (nI (gActB A (n / 4))) (nI (((n / 4) / 24) % 60)))) := by rw [k4]; rfl
        exact RET _ _ _ uq31 (⟨by unfold gActR; rw [ek]; exact eq31, by unfold gActA; rw [ek]; exact hCq31⟩) dL_act_293
      · skip
        refine g_iconst (v := 0) E dL_act_275 (by decide) ?_
        refine g_goto (tgt := 283) E dL_act_276 (by decide) ?_
        refine g_top (y := nI (gActB A (n / 4))) (by unfold gActB; rw [if_pos (by omega)]; rfl) ?_
        refine g_iload_n E dL_act_283 rfl 5 rfl ?_
        refine g_bipush (v := 24) E dL_act_284 (by decide) ?_
        refine g_idivN (a := n / 4) (b := 24) E dL_act_286 (by omega) (by omega) (by omega) ?_
        refine g_bipush (v := 60) E dL_act_287 (by decide) ?_
        refine g_iremN (a := (n / 4) / 24) (b := 60) E dL_act_289 (by omega) (by omega) (by omega) ?_
        refine g_callSWL (As := [.ref (x.1 0), .int (nI (gActB A (n / 4))), .int (nI (((n / 4) / 24) % 60))]) (F := []) E (wL_late (x := x) hST hA hb5 hCc (nI (gActB A (n / 4))) (nI (((n / 4) / 24) % 60))) gL_act_L_late rfl hdL_late ⟨Nat.le_of_ble_eq_true rfl, Nat.le_of_ble_eq_true rfl⟩ gPerm_n rfl rfl ?_ dL_act_290 ⟨by show csc + 1 ≤ 10; omega, by show ssc + 6 ≤ 60; omega⟩ (fun rq32 uq32 hq32 => ?_)
        · exact Nat.le_of_ble_eq_true rfl
        refine g_perm (ws1 := wV G x uq32) gPerm_n' ?_
        obtain ⟨eq32, hCq32⟩ := hq32
        refine g_widen (k := 10) (n := 60) (by omega) (by omega) ?_
        have ek : gActK A (n / 4) (m % 24) = ([(-9000000000000000001), (-9000000000000000002)], aAct 1 2 0 A (gTryLate (aS A) (nI (gActB A (n / 4))) (nI (((n / 4) / 24) % 60)))) := by rw [k4]; rfl
        exact RET _ _ _ uq32 (⟨by unfold gActR; rw [ek]; exact eq32, by unfold gActA; rw [ek]; exact hCq32⟩) dL_act_293
    · skip
      refine g_top (y := 12) (by rw [k4]; rfl) ?_
      refine g_tableIn (tgt := 294) E dL_act_58 (by decide) (by decide) rfl (by decide) ?_
      refine g_aload_n E dL_act_294 rfl 2 rfl ?_
      refine g_iload E dL_act_295 0 rfl ?_
      refine g_iload_n E dL_act_297 rfl 5 rfl ?_
      refine g_iconst (v := 3) E dL_act_298 (by decide) ?_
      refine g_iremN (a := n / 4) (b := 3) E dL_act_299 (by omega) (by omega) (by omega) ?_
      refine g_if_leN (tgt := 307) (a := (n / 4) % 3) E dL_act_300 (by decide) (by omega) (fun c33 => ?_) (fun c33 => ?_)
      · skip
        refine g_iconst (v := 0) E dL_act_307 (by decide) ?_
        refine g_top (y := gB01 (n / 4 % 3)) ((if_neg c33).symm) ?_
        refine g_callSWL (As := [.ref (x.1 0), .int (nI (((n / 4) / 8) % 10)), .int (gB01 (n / 4 % 3))]) (F := []) E (wL_carries (x := x) hST hA hb5 hCc (nI (((n / 4) / 8) % 10)) (gB01 (n / 4 % 3))) gL_act_L_carries rfl hdL_carries ⟨Nat.le_of_ble_eq_true rfl, Nat.le_of_ble_eq_true rfl⟩ gPerm_n rfl rfl ?_ dL_act_308 ⟨by show csc + 1 ≤ 10; omega, by show ssc + 6 ≤ 60; omega⟩ (fun rq34 uq34 hq34 => ?_)
        · exact Nat.le_of_ble_eq_true rfl
        refine g_perm (ws1 := wV G x uq34) gPerm_n' ?_
        obtain ⟨eq34, hCq34⟩ := hq34
        refine g_widen (k := 10) (n := 60) (by omega) (by omega) ?_
        have ek : gActK A (n / 4) (m % 24) = ([(-9000000000000000001)], aAct 1 0 0 A (gTryCarry (aS A) (nI (((n / 4) / 8) % 10)) (gB01 (n / 4 % 3)))) := by rw [k4]; rfl
        exact RET _ _ _ uq34 (⟨by unfold gActR; rw [ek]; exact eq34, by unfold gActA; rw [ek]; exact hCq34⟩) dL_act_311
      · skip
        refine g_iconst (v := 1) E dL_act_303 (by decide) ?_
        refine g_goto (tgt := 308) E dL_act_304 (by decide) ?_
        refine g_top (y := gB01 (n / 4 % 3)) ((if_pos c33).symm) ?_
        refine g_callSWL (As := [.ref (x.1 0), .int (nI (((n / 4) / 8) % 10)), .int (gB01 (n / 4 % 3))]) (F := []) E (wL_carries (x := x) hST hA hb5 hCc (nI (((n / 4) / 8) % 10)) (gB01 (n / 4 % 3))) gL_act_L_carries rfl hdL_carries ⟨Nat.le_of_ble_eq_true rfl, Nat.le_of_ble_eq_true rfl⟩ gPerm_n rfl rfl ?_ dL_act_308 ⟨by show csc + 1 ≤ 10; omega, by show ssc + 6 ≤ 60; omega⟩ (fun rq35 uq35 hq35 => ?_)
        · exact Nat.le_of_ble_eq_true rfl
        refine g_perm (ws1 := wV G x uq35) gPerm_n' ?_
        obtain ⟨eq35, hCq35⟩ := hq35
        refine g_widen (k := 10) (n := 60) (by omega) (by omega) ?_
        have ek : gActK A (n / 4) (m % 24) = ([(-9000000000000000001)], aAct 1 0 0 A (gTryCarry (aS A) (nI (((n / 4) / 8) % 10)) (gB01 (n / 4 % 3)))) := by rw [k4]; rfl
        exact RET _ _ _ uq35 (⟨by unfold gActR; rw [ek]; exact eq35, by unfold gActA; rw [ek]; exact hCq35⟩) dL_act_311
    · skip
      refine g_top (y := 13) (by rw [k4]; rfl) ?_
      refine g_tableIn (tgt := 312) E dL_act_58 (by decide) (by decide) rfl (by decide) ?_
      refine g_aload_n E dL_act_312 rfl 2 rfl ?_
      refine g_iload E dL_act_313 1 rfl ?_
      refine g_iload_n E dL_act_315 rfl 5 rfl ?_
      refine g_bipush (v := 8) E dL_act_316 (by decide) ?_
      refine g_idivN (a := n / 4) (b := 8) E dL_act_318 (by omega) (by omega) (by omega) ?_
      refine g_bipush (v := 12) E dL_act_319 (by decide) ?_
      refine g_iremN (a := (n / 4) / 8) (b := 12) E dL_act_321 (by omega) (by omega) (by omega) ?_
      refine g_callSWL (As := [.ref (x.1 0), .int (nI (gActP A (n / 4))), .int (nI (((n / 4) / 8) % 12))]) (F := []) E (wL_punish (x := x) hST hA hb5 hCc (nI (gActP A (n / 4))) (nI (((n / 4) / 8) % 12))) gL_act_L_punish rfl hdL_punish ⟨Nat.le_of_ble_eq_true rfl, Nat.le_of_ble_eq_true rfl⟩ gPerm_n rfl rfl ?_ dL_act_322 ⟨by show csc + 1 ≤ 10; omega, by show ssc + 6 ≤ 60; omega⟩ (fun rq36 uq36 hq36 => ?_)
      · exact Nat.le_of_ble_eq_true rfl
      refine g_perm (ws1 := wV G x uq36) gPerm_n' ?_
      obtain ⟨eq36, hCq36⟩ := hq36
      refine g_widen (k := 10) (n := 60) (by omega) (by omega) ?_
      have ek : gActK A (n / 4) (m % 24) = ([(-9000000000000000001), (-9000000000000000002)], aAct 1 2 0 A (gTryPunish (aS A) (nI (gActP A (n / 4))) (nI (((n / 4) / 8) % 12)))) := by rw [k4]; rfl
      exact RET _ _ _ uq36 (⟨by unfold gActR; rw [ek]; exact eq36, by unfold gActA; rw [ek]; exact hCq36⟩) dL_act_325
    · skip
      refine g_top (y := 14) (by rw [k4]; rfl) ?_
      refine g_tableIn (tgt := 326) E dL_act_58 (by decide) (by decide) rfl (by decide) ?_
      refine g_aload_n E dL_act_326 rfl 2 rfl ?_
      refine g_iload E dL_act_327 1 rfl ?_
      refine g_iload E dL_act_329 0 rfl ?_
      refine g_callSWL (As := [.ref (x.1 0), .int (nI (gActP A (n / 4))), .int (nI (((n / 4) / 8) % 10))]) (F := []) E (wL_wish (x := x) hST hA hb5 hCc (nI (gActP A (n / 4))) (nI (((n / 4) / 8) % 10))) gL_act_L_wish rfl hdL_wish ⟨Nat.le_of_ble_eq_true rfl, Nat.le_of_ble_eq_true rfl⟩ gPerm_n rfl rfl ?_ dL_act_331 ⟨by show csc + 1 ≤ 10; omega, by show ssc + 6 ≤ 60; omega⟩ (fun rq37 uq37 hq37 => ?_)
      · exact Nat.le_of_ble_eq_true rfl
      refine g_perm (ws1 := wV G x uq37) gPerm_n' ?_
      obtain ⟨eq37, hCq37⟩ := hq37
      refine g_widen (k := 10) (n := 60) (by omega) (by omega) ?_
      have ek : gActK A (n / 4) (m % 24) = ([(-9000000000000000001), (-9000000000000000003)], aAct 1 0 2 A (gTryWish (aS A) (nI (gActP A (n / 4))) (nI (((n / 4) / 8) % 10)))) := by rw [k4]; rfl
      exact RET _ _ _ uq37 (⟨by unfold gActR; rw [ek]; exact eq37, by unfold gActA; rw [ek]; exact hCq37⟩) dL_act_334
    · skip
      refine g_top (y := 15) (by rw [k4]; rfl) ?_
      refine g_tableIn (tgt := 326) E dL_act_58 (by decide) (by decide) rfl (by decide) ?_
      refine g_aload_n E dL_act_326 rfl 2 rfl ?_
      refine g_iload E dL_act_327 1 rfl ?_
      refine g_iload E dL_act_329 0 rfl ?_
      refine g_callSWL (As := [.ref (x.1 0), .int (nI (gActP A (n / 4))), .int (nI (((n / 4) / 8) % 10))]) (F := []) E (wL_wish (x := x) hST hA hb5 hCc (nI (gActP A (n / 4))) (nI (((n / 4) / 8) % 10))) gL_act_L_wish rfl hdL_wish ⟨Nat.le_of_ble_eq_true rfl, Nat.le_of_ble_eq_true rfl⟩ gPerm_n rfl rfl ?_ dL_act_331 ⟨by show csc + 1 ≤ 10; omega, by show ssc + 6 ≤ 60; omega⟩ (fun rq38 uq38 hq38 => ?_)
      · exact Nat.le_of_ble_eq_true rfl
      refine g_perm (ws1 := wV G x uq38) gPerm_n' ?_
      obtain ⟨eq38, hCq38⟩ := hq38
      refine g_widen (k := 10) (n := 60) (by omega) (by omega) ?_
      have ek : gActK A (n / 4) (m % 24) = ([(-9000000000000000001), (-9000000000000000003)], aAct 1 0 2 A (gTryWish (aS A) (nI (gActP A (n / 4))) (nI (((n / 4) / 8) % 10)))) := by rw [k4]; rfl
      exact RET _ _ _ uq38 (⟨by unfold gActR; rw [ek]; exact eq38, by unfold gActA; rw [ek]; exact hCq38⟩) dL_act_334
    · skip
      refine g_top (y := 16) (by rw [k4]; rfl) ?_
      refine g_tableIn (tgt := 335) E dL_act_58 (by decide) (by decide) rfl (by decide) ?_
      refine g_iload_n E dL_act_335 rfl 5 rfl ?_
      refine g_bipush (v := 6) E dL_act_336 (by decide) ?_
      refine g_iremN (a := n / 4) (b := 6) E dL_act_338 (by omega) (by omega) (by omega) ?_
      refine g_istore (lv' := [(8, .int (nI ((n / 4) % 6))), (7, .int (nI (((n / 4) / 8) % 10))), (6, .int (nI (gActP A (n / 4)))), (0, .ref (x.1 0)), (1, .int (nI m)), (2, .int (nI n)), (3, .int (nI (n / 4))), (4, .int (nI (sN (aS A) 1))), (5, .int (nI ((sB (aS A)).length)))]) E dL_act_339 (by decide) rfl ?_
      refine g_aload_n E dL_act_341 rfl 3 rfl ?_
      refine g_iload E dL_act_342 0 rfl ?_
      refine g_iload E dL_act_344 0 rfl ?_
      refine g_if_neN (tgt := 360) (a := (n / 4) % 6) E dL_act_346 (by decide) (by omega) (fun c39 => ?_) (fun c39 => ?_)
      · skip
        refine g_iload E dL_act_360 0 rfl ?_
        refine g_iconst (v := 1) E dL_act_362 (by decide) ?_
        refine g_icmp_neN (tgt := 378) (a := (n / 4) % 6) (b := 1) E dL_act_363 (by decide) (by omega) (by omega) (fun c40 => ?_) (fun c40 => ?_)
        · skip
          refine g_iconst (v := 1) E dL_act_378 (by decide) ?_
          refine g_iload_n E dL_act_379 rfl 6 rfl ?_
          refine g_bipush (v := 6) E dL_act_380 (by decide) ?_
          refine g_idivN (a := n / 4) (b := 6) E dL_act_382 (by omega) (by omega) (by omega) ?_
          refine g_bipush (v := 30) E dL_act_383 (by decide) ?_
          refine g_iremN (a := (n / 4) / 6) (b := 30) E dL_act_385 (by omega) (by omega) (by omega) ?_
          refine g_iaddN (a := 1) (b := ((n / 4) / 6) % 30) E dL_act_386 ?_
          refine g_top (y := nI (gActS (n / 4))) (by unfold gActS; rw [if_neg (by omega), if_neg (by omega)]) ?_
          refine g_callSWL (As := [.ref (x.1 0), .int (nI ((n / 4) % 6)), .int (nI (gActS (n / 4)))]) (F := []) E (wL_set (x := x) hST hA hb5 hCc (nI ((n / 4) % 6)) (nI (gActS (n / 4)))) gL_act_L_set rfl hdL_set ⟨Nat.le_of_ble_eq_true rfl, Nat.le_of_ble_eq_true rfl⟩ gPerm_n rfl rfl ?_ dL_act_387 ⟨by show csc + 1 ≤ 10; omega, by show ssc + 6 ≤ 60; omega⟩ (fun rq41 uq41 hq41 => ?_)
          · exact Nat.le_of_ble_eq_true rfl
          refine g_perm (ws1 := wV G x uq41) gPerm_n' ?_
          obtain ⟨eq41, hCq41⟩ := hq41
          refine g_widen (k := 10) (n := 60) (by omega) (by omega) ?_
          have ek : gActK A (n / 4) (m % 24) = ([(-9000000000000000002)], aAct 0 1 0 A (gTrySet (aS A) (nI ((n / 4) % 6)) (nI (gActS (n / 4))))) := by rw [k4]; rfl
          exact RET _ _ _ uq41 (⟨by unfold gActR; rw [ek]; exact eq41, by unfold gActA; rw [ek]; exact hCq41⟩) dL_act_390
        · skip
          refine g_iconst (v := 1) E dL_act_366 (by decide) ?_
          refine g_iload_n E dL_act_367 rfl 6 rfl ?_
          refine g_bipush (v := 6) E dL_act_368 (by decide) ?_
          refine g_idivN (a := n / 4) (b := 6) E dL_act_370 (by omega) (by omega) (by omega) ?_
          refine g_bipush (v := 9) E dL_act_371 (by decide) ?_
          refine g_iremN (a := (n / 4) / 6) (b := 9) E dL_act_373 (by omega) (by omega) (by omega) ?_
          refine g_iaddN (a := 1) (b := ((n / 4) / 6) % 9) E dL_act_374 ?_
          refine g_goto (tgt := 387) E dL_act_375 (by decide) ?_
          refine g_top (y := nI (gActS (n / 4))) (by unfold gActS; rw [if_neg (by omega), if_pos (by omega)]) ?_
          refine g_callSWL (As := [.ref (x.1 0), .int (nI ((n / 4) % 6)), .int (nI (gActS (n / 4)))]) (F := []) E (wL_set (x := x) hST hA hb5 hCc (nI ((n / 4) % 6)) (nI (gActS (n / 4)))) gL_act_L_set rfl hdL_set ⟨Nat.le_of_ble_eq_true rfl, Nat.le_of_ble_eq_true rfl⟩ gPerm_n rfl rfl ?_ dL_act_387 ⟨by show csc + 1 ≤ 10; omega, by show ssc + 6 ≤ 60; omega⟩ (fun rq42 uq42 hq42 => ?_)
          · exact Nat.le_of_ble_eq_true rfl
          refine g_perm (ws1 := wV G x uq42) gPerm_n' ?_
          obtain ⟨eq42, hCq42⟩ := hq42
          refine g_widen (k := 10) (n := 60) (by omega) (by omega) ?_
          have ek : gActK A (n / 4) (m % 24) = ([(-9000000000000000002)], aAct 0 1 0 A (gTrySet (aS A) (nI ((n / 4) % 6)) (nI (gActS (n / 4))))) := by rw [k4]; rfl
          exact RET _ _ _ uq42 (⟨by unfold gActR; rw [ek]; exact eq42, by unfold gActA; rw [ek]; exact hCq42⟩) dL_act_390
      · skip
        refine g_iconst (v := 1) E dL_act_349 (by decide) ?_
        refine g_iload_n E dL_act_350 rfl 6 rfl ?_
        refine g_bipush (v := 6) E dL_act_351 (by decide) ?_
        refine g_idivN (a := n / 4) (b := 6) E dL_act_353 (by omega) (by omega) (by omega) ?_
        refine g_iconst (v := 4) E dL_act_354 (by decide) ?_
        refine g_iremN (a := (n / 4) / 6) (b := 4) E dL_act_355 (by omega) (by omega) (by omega) ?_
        refine g_iaddN (a := 1) (b := ((n / 4) / 6) % 4) E dL_act_356 ?_
        refine g_goto (tgt := 387) E dL_act_357 (by decide) ?_
        refine g_top (y := nI (gActS (n / 4))) (by unfold gActS; rw [if_pos (by omega)]) ?_
        refine g_callSWL (As := [.ref (x.1 0), .int (nI ((n / 4) % 6)), .int (nI (gActS (n / 4)))]) (F := []) E (wL_set (x := x) hST hA hb5 hCc (nI ((n / 4) % 6)) (nI (gActS (n / 4)))) gL_act_L_set rfl hdL_set ⟨Nat.le_of_ble_eq_true rfl, Nat.le_of_ble_eq_true rfl⟩ gPerm_n rfl rfl ?_ dL_act_387 ⟨by show csc + 1 ≤ 10; omega, by show ssc + 6 ≤ 60; omega⟩ (fun rq43 uq43 hq43 => ?_)
        · exact Nat.le_of_ble_eq_true rfl
        refine g_perm (ws1 := wV G x uq43) gPerm_n' ?_
        obtain ⟨eq43, hCq43⟩ := hq43
        refine g_widen (k := 10) (n := 60) (by omega) (by omega) ?_
        have ek : gActK A (n / 4) (m % 24) = ([(-9000000000000000002)], aAct 0 1 0 A (gTrySet (aS A) (nI ((n / 4) % 6)) (nI (gActS (n / 4))))) := by rw [k4]; rfl
        exact RET _ _ _ uq43 (⟨by unfold gActR; rw [ek]; exact eq43, by unfold gActA; rw [ek]; exact hCq43⟩) dL_act_390
    · skip
      refine g_top (y := 17) (by rw [k4]; rfl) ?_
      refine g_tableIn (tgt := 391) E dL_act_58 (by decide) (by decide) rfl (by decide) ?_
      refine g_aload_n E dL_act_391 rfl 2 rfl ?_
      refine g_callSWL (As := [.ref (x.1 0)]) (F := []) E (wL_undo (x := x) hST hA hb5 hCc ) gL_act_L_undo rfl hdL_undo ⟨Nat.le_of_ble_eq_true rfl, Nat.le_of_ble_eq_true rfl⟩ gPerm_n rfl rfl ?_ dL_act_392 ⟨by show csc + 1 ≤ 10; omega, by show ssc + 6 ≤ 60; omega⟩ (fun rq44 uq44 hq44 => ?_)
      · exact Nat.le_of_ble_eq_true rfl
      refine g_perm (ws1 := wV G x uq44) gPerm_n' ?_
      obtain ⟨eq44, hCq44⟩ := hq44
      refine g_widen (k := 10) (n := 60) (by omega) (by omega) ?_
      have ek : gActK A (n / 4) (m % 24) = ([(-9000000000000000003)], fUndo A) := by rw [k4]; rfl
      exact RET _ _ _ uq44 (⟨by unfold gActR; rw [ek]; exact eq44, by unfold gActA; rw [ek]; exact hCq44⟩) dL_act_395
    · skip
      refine g_top (y := 18) (by rw [k4]; rfl) ?_
      refine g_tableIn (tgt := 396) E dL_act_58 (by decide) (by decide) rfl (by decide) ?_
      refine g_iload_n E dL_act_396 rfl 5 rfl ?_
      refine g_iconst (v := 2) E dL_act_397 (by decide) ?_
      refine g_iremN (a := n / 4) (b := 2) E dL_act_398 (by omega) (by omega) (by omega) ?_
      refine g_if_neN (tgt := 414) (a := (n / 4) % 2) E dL_act_399 (by decide) (by omega) (fun c45 => ?_) (fun c45 => ?_)
      · skip
        refine g_aload_n E dL_act_414 rfl 2 rfl ?_
        refine g_iload_n E dL_act_415 rfl 5 rfl ?_
        refine g_iconst (v := 2) E dL_act_416 (by decide) ?_
        refine g_idivN (a := n / 4) (b := 2) E dL_act_417 (by omega) (by omega) (by omega) ?_
        refine g_iconst (v := 1) E dL_act_418 (by decide) ?_
        refine g_iand E dL_act_419 ?_
        refine g_callSWL (As := [.ref (x.1 0), .int ((nI ((n / 4) / 2)) &&& 1)]) (F := []) E (wL_restore (x := x) hST hA hb5 hCc ((nI ((n / 4) / 2)) &&& 1)) gL_act_L_restore rfl hdL_restore ⟨Nat.le_of_ble_eq_true rfl, Nat.le_of_ble_eq_true rfl⟩ gPerm_n rfl rfl ?_ dL_act_420 ⟨by show csc + 1 ≤ 10; omega, by show ssc + 6 ≤ 60; omega⟩ (fun rq46 uq46 hq46 => ?_)
        · exact Nat.le_of_ble_eq_true rfl
        refine g_perm (ws1 := wV G x uq46) gPerm_n' ?_
        obtain ⟨eq46, hCq46⟩ := hq46
        refine g_widen (k := 10) (n := 60) (by omega) (by omega) ?_
        have ek : gActK A (n / 4) (m % 24) = ([(-9000000000000000001), (-9000000000000000003)], fRest A ((nI ((n / 4) / 2)) &&& 1)) := by rw [k4]; exact if_neg c45
        exact RET _ _ _ uq46 (⟨by unfold gActR; rw [ek]; exact eq46, by unfold gActA; rw [ek]; exact hCq46⟩) dL_act_423
      · skip
        refine g_aload_n E dL_act_402 rfl 2 rfl ?_
        refine g_iload_n E dL_act_403 rfl 5 rfl ?_
        refine g_iconst (v := 2) E dL_act_404 (by decide) ?_
        refine g_idivN (a := n / 4) (b := 2) E dL_act_405 (by omega) (by omega) (by omega) ?_
        refine g_iconst (v := 1) E dL_act_406 (by decide) ?_
        refine g_iand E dL_act_407 ?_
        refine g_callSWL (As := [.ref (x.1 0), .int ((nI ((n / 4) / 2)) &&& 1)]) (F := []) E (wL_save (x := x) hST hA hb5 hCc ((nI ((n / 4) / 2)) &&& 1)) gL_act_L_save rfl hdL_save ⟨Nat.le_of_ble_eq_true rfl, Nat.le_of_ble_eq_true rfl⟩ gPerm_n rfl rfl ?_ dL_act_408 ⟨by show csc + 1 ≤ 10; omega, by show ssc + 6 ≤ 60; omega⟩ (fun rq47 uq47 hq47 => ?_)
        · exact Nat.le_of_ble_eq_true rfl
        refine g_perm (ws1 := wV G x uq47) gPerm_n' ?_
        obtain ⟨eq47, hCq47⟩ := hq47
        refine g_goto (tgt := 423) E dL_act_411 (by decide) ?_
        refine g_widen (k := 10) (n := 60) (by omega) (by omega) ?_
        have ek : gActK A (n / 4) (m % 24) = ([(-9000000000000000001)], fSave A ((nI ((n / 4) / 2)) &&& 1)) := by rw [k4]; exact if_pos c45
        exact RET _ _ _ uq47 (⟨by unfold gActR; rw [ek]; exact eq47, by unfold gActA; rw [ek]; exact hCq47⟩) dL_act_423
    · skip
      refine g_tableOutN (tgt := 424) (a := m % 24) E dL_act_58 (by omega) (by omega) (by decide) ?_
      refine g_aload_n E dL_act_424 rfl 2 rfl ?_
      refine g_iconst (v := 1) E dL_act_425 (by decide) ?_
      refine g_iload_n E dL_act_426 rfl 5 rfl ?_
      refine g_iload_n E dL_act_427 rfl 5 rfl ?_
      refine g_iconst (v := 5) E dL_act_428 (by decide) ?_
      refine g_iremN (a := n / 4) (b := 5) E dL_act_429 (by omega) (by omega) (by omega) ?_
      refine g_if_neN (tgt := 438) (a := (n / 4) % 5) E dL_act_430 (by decide) (by omega) (fun c48 => ?_) (fun c48 => ?_)
      · skip
        refine g_iconst (v := 3) E dL_act_438 (by decide) ?_
        refine g_iremN (a := n / 4) (b := 3) E dL_act_439 (by omega) (by omega) (by omega) ?_
        refine g_iaddN (a := 1) (b := (n / 4) % 3) E dL_act_440 ?_
        refine g_top (y := nI (1 + n / 4 % (if n / 4 % 5 = 0 then 30 else 3))) (by rw [if_neg (by omega)]) ?_
        refine g_callSWL (As := [.ref (x.1 0), .int (nI (1 + n / 4 % (if n / 4 % 5 = 0 then 30 else 3)))]) (F := []) E (wL_run (x := x) hST hA hb5 hCc (nI (1 + n / 4 % (if n / 4 % 5 = 0 then 30 else 3)))) gL_act_L_run rfl hdL_run ⟨Nat.le_of_ble_eq_true rfl, Nat.le_of_ble_eq_true rfl⟩ gPerm_n rfl rfl ?_ dL_act_441 ⟨by show csc + 1 ≤ 10; omega, by show ssc + 6 ≤ 60; omega⟩ (fun rq49 uq49 hq49 => ?_)
        · exact Nat.le_of_ble_eq_true rfl
        refine g_perm (ws1 := wV G x uq49) gPerm_n' ?_
        obtain ⟨eq49, hCq49⟩ := hq49
        refine g_widen (k := 10) (n := 60) (by omega) (by omega) ?_
        have ek : gActK A (n / 4) (m % 24) = ([(-9000000000000000002)], fRun A (nI (1 + n / 4 % (if n / 4 % 5 = 0 then 30 else 3)))) := gActK_run _ (by omega)
        exact RET _ _ _ uq49 (⟨by unfold gActR; rw [ek]; exact eq49, by unfold gActA; rw [ek]; exact hCq49⟩) dL_act_444
      · skip
        refine g_bipush (v := 30) E dL_act_433 (by decide) ?_
        refine g_goto (tgt := 439) E dL_act_435 (by decide) ?_
        refine g_iremN (a := n / 4) (b := 30) E dL_act_439 (by omega) (by omega) (by omega) ?_
        refine g_iaddN (a := 1) (b := (n / 4) % 30) E dL_act_440 ?_
        refine g_top (y := nI (1 + n / 4 % (if n / 4 % 5 = 0 then 30 else 3))) (by rw [if_pos (by omega)]) ?_
        refine g_callSWL (As := [.ref (x.1 0), .int (nI (1 + n / 4 % (if n / 4 % 5 = 0 then 30 else 3)))]) (F := []) E (wL_run (x := x) hST hA hb5 hCc (nI (1 + n / 4 % (if n / 4 % 5 = 0 then 30 else 3)))) gL_act_L_run rfl hdL_run ⟨Nat.le_of_ble_eq_true rfl, Nat.le_of_ble_eq_true rfl⟩ gPerm_n rfl rfl ?_ dL_act_441 ⟨by show csc + 1 ≤ 10; omega, by show ssc + 6 ≤ 60; omega⟩ (fun rq50 uq50 hq50 => ?_)
        · exact Nat.le_of_ble_eq_true rfl
        refine g_perm (ws1 := wV G x uq50) gPerm_n' ?_
        obtain ⟨eq50, hCq50⟩ := hq50
        refine g_widen (k := 10) (n := 60) (by omega) (by omega) ?_
        have ek : gActK A (n / 4) (m % 24) = ([(-9000000000000000002)], fRun A (nI (1 + n / 4 % (if n / 4 % 5 = 0 then 30 else 3)))) := gActK_run _ (by omega)
        exact RET _ _ _ uq50 (⟨by unfold gActR; rw [ek]; exact eq50, by unfold gActA; rw [ek]; exact hCq50⟩) dL_act_444
  refine g_iload E dL_act_20 1 rfl ?_
  refine g_if_eqN (tgt := 32) (a := sN (aS A) 1) E dL_act_22 (by decide) (by omega) (fun c51 => ?_) (fun c51 => ?_)
  · skip
    refine g_iload_n E dL_act_32 rfl 2 rfl ?_
    refine g_bipush (v := 8) E dL_act_33 (by decide) ?_
    refine g_iremN (a := n / 4) (b := 8) E dL_act_35 (by omega) (by omega) (by omega) ?_
    refine g_goto (tgt := 43) E dL_act_36 (by decide) ?_
    refine g_top (y := nI (gActP A (n / 4))) (by unfold gActP; rw [if_pos (by omega)]) ?_
    refine g_lv [3, 4, 5, 2, 1, 0] rfl ?_
    exact cut3 uq2 2 12 hCq2 (by omega) (by omega)
  · skip
    refine g_iload_n E dL_act_25 rfl 2 rfl ?_
    refine g_bipush (v := 19) E dL_act_26 (by decide) ?_
    refine g_iremN (a := n / 4) (b := 19) E dL_act_28 (by omega) (by omega) (by omega) ?_
    refine g_if_neN (tgt := 39) (a := (n / 4) % 19) E dL_act_29 (by decide) (by omega) (fun c52 => ?_) (fun c52 => ?_)
    · skip
      refine g_iload_n E dL_act_39 rfl 2 rfl ?_
      refine g_iload E dL_act_40 1 rfl ?_
      refine g_iremN (a := n / 4) (b := sN (aS A) 1) E dL_act_42 (by omega) (by omega) (by omega) ?_
      refine g_top (y := nI (gActP A (n / 4))) (by unfold gActP; rw [if_neg (by omega)]) ?_
      refine g_lv [3, 4, 5, 2, 1, 0] rfl ?_
      exact cut3 uq2 2 12 hCq2 (by omega) (by omega)
    · skip
      refine g_iload_n E dL_act_32 rfl 2 rfl ?_
      refine g_bipush (v := 8) E dL_act_33 (by decide) ?_
      refine g_iremN (a := n / 4) (b := 8) E dL_act_35 (by omega) (by omega) (by omega) ?_
      refine g_goto (tgt := 43) E dL_act_36 (by decide) ?_
      refine g_top (y := nI (gActP A (n / 4))) (by unfold gActP; rw [if_pos (by omega)]) ?_
      refine g_lv [3, 4, 5, 2, 1, 0] rfl ?_
      exact cut3 uq2 2 12 hCq2 (by omega) (by omega)
