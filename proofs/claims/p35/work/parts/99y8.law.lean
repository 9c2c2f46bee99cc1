/-! ===== the room ===== -/
theorem gRoomC : 400000 ≤ room_1.cells := Nat.le_of_ble_eq_true rfl
theorem gRoomS : 5000000 ≤ room_1.slots := Nat.le_of_ble_eq_true rfl
set_option maxHeartbeats 4000000 in
set_option maxRecDepth 100000 in
theorem mL_draw {G : gG} {b0 L : Nat} {xs : Nat → Int32} (k : Nat) (hk : k ≤ 95) (hL : L ≤ 260) : CIX G yL_draw wsL_draw 0 0 [.ref b0, .int (nI k)] b0 L xs (fun r => ∃ d, d < 2147483648 ∧ r = nI d) 0 0 := by
  refine g_enterIX (ty := .int) RL rfl (by decide) rfl (Nat.le_of_ble_eq_true rfl) ?_
  intro V E hX hbl hbA RET
  refine g_iload_n E dL_draw_0 rfl 1 rfl ?_
  refine g_aload_n E dL_draw_1 rfl 0 rfl ?_
  refine g_slen E hX hbl hbA dL_draw_2 ?_
  refine g_icmp_geN (tgt := 12) (a := k) (b := L) E dL_draw_3 (by decide) (by omega) (by omega) (fun c1 => ?_) (fun c1 => ?_)
  · skip
    refine g_ldc (v := 15593989) E kL_draw_7 dL_draw_12 ?_
    refine g_iload_n E dL_draw_14 rfl 1 rfl ?_
    refine g_imul E dL_draw_15 ?_
    refine g_sipush (v := 10651) E dL_draw_16 (by decide) ?_
    refine g_iadd E dL_draw_19 ?_
    refine g_ldc (v := 2147483647) E kL_draw_8 dL_draw_20 ?_
    refine g_iand E dL_draw_22 ?_
    exact RET _ _ _ (gAnd31 _) rfl dL_draw_23
  · skip
    refine g_aload_n E dL_draw_6 rfl 0 rfl ?_
    refine g_iload_n E dL_draw_7 rfl 1 rfl ?_
    refine g_sldN E hX hbl hbA (a := k) (by omega) (by omega) dL_draw_8 ?_
    refine g_goto (tgt := 20) E dL_draw_9 (by decide) ?_
    refine g_ldc (v := 2147483647) E kL_draw_8 dL_draw_20 ?_
    refine g_iand E dL_draw_22 ?_
    exact RET _ _ _ (gAnd31 _) rfl dL_draw_23

set_option maxHeartbeats 40000000 in
set_option maxRecDepth 100000 in
theorem law_main {V : gV} {G : gG} {b0 L : Nat} {xs : Nat → Int32} (E : gE V G cL_law 7 RL wsL_law room_1) (hSc : va_X b0 L xs (gvS V) (gvH V)) (hbl : b0 < (gvH V).size) (hbA : ¬ gvO V b0) (hST : (gl G).stackTraces = false) (hL : L ≤ 260) (RET : ∀ (ws : va_W) (lv : List (Nat × Value)) (cells slots : Nat), cells ≤ 400000 → slots ≤ 5000000 → gW V 7 cells slots ws lv 298 [.int 1]) {x y : gVa} {cells slots : Nat} (hce : cells ≤ 1000) (hsl : slots ≤ 20000) : gW V 7 cells slots (wV G x gV0 ++ wV G y gV0) [(0, .ref b0), (1, .ref (x.1 0)), (2, .ref (y.1 0))] 16 [] := by
  refine g_aload_n E dL_law_16 rfl 1 rfl ?_
  refine g_aload_n E dL_law_17 rfl 2 rfl ?_
  refine g_aload_n E dL_law_18 rfl 0 rfl ?_
  refine g_iconst (v := 0) E dL_law_19 (by decide) ?_
  refine g_callSIX E hSc hbl hbA (As := [.ref b0, .int (0)]) (mL_draw (0) (by omega) hL) gL_law_L_draw rfl hdL_draw ⟨Nat.le_of_ble_eq_true rfl, Nat.le_of_ble_eq_true rfl⟩ rfl rfl ?_ dL_law_20 ⟨Nat.le_trans (show cells + 0 ≤ 400000 by omega) gRoomC, Nat.le_trans (show slots + 0 ≤ 5000000 by omega) gRoomS⟩ (fun rq1 hq1 => ?_)
  · exact Nat.le_of_ble_eq_true rfl
  obtain ⟨dq1, hdq1, edq1⟩ := hq1
  refine g_top (y := nI dq1) edq1 ?_
  refine g_callSI (As := [.ref (x.1 0), .ref (y.1 0), .int (nI dq1)]) (F := []) E (mL_alike (x := x) (y := y) hST (by omega) gAok_0 gX5_0 gClsI_0 gClsI_0 dq1 hdq1) gL_law_L_alike rfl hdL_alike ⟨Nat.le_of_ble_eq_true rfl, Nat.le_of_ble_eq_true rfl⟩ gPerm_n rfl rfl ?_ dL_law_23 ⟨Nat.le_trans (show cells + 700 ≤ 400000 by omega) gRoomC, Nat.le_trans (show slots + 5000 ≤ 5000000 by omega) gRoomS⟩ (fun rq2 uq2 hq2 => ?_)
  · exact Nat.le_of_ble_eq_true rfl
  refine g_perm (ws1 := (wV G x uq2.1 ++ wV G y uq2.2)) gPerm_n' ?_
  obtain ⟨eq2, hCq2x, hCq2y⟩ := hq2
  refine g_top (y := 1) eq2 ?_
  refine g_if_eq (tgt := 47) E dL_law_26 (by decide) (fun c => absurd c (by decide)) (fun _ => ?_)
  refine g_aload_n E dL_law_29 rfl 1 rfl ?_
  refine g_callSI (As := [.ref (x.1 0)]) (F := wV G y uq2.2) E (mL_errors (x := x) hST (by omega) gAok_0 gX5_0 hCq2x) gL_law_L_errors rfl hdL_errors ⟨Nat.le_of_ble_eq_true rfl, Nat.le_of_ble_eq_true rfl⟩ (gPerm_rfl _) rfl rfl ?_ dL_law_30 ⟨Nat.le_trans (show (cells + 700) + 2000 ≤ 400000 by omega) gRoomC, Nat.le_trans (show (slots + 5000) + 20000 ≤ 5000000 by omega) gRoomS⟩ (fun rq3 uq3 hq3 => ?_)
  · exact Nat.le_of_ble_eq_true rfl
  obtain ⟨eq3, hCq3⟩ := hq3
  refine g_top (y := 1) eq3 ?_
  refine g_if_eq (tgt := 47) E dL_law_33 (by decide) (fun c => absurd c (by decide)) (fun _ => ?_)
  refine g_aload_n E dL_law_36 rfl 1 rfl ?_
  refine g_callSI (As := [.ref (x.1 0)]) (F := wV G y uq2.2) E (mL_kept (x := x) hST (by omega) gAok_0 gX5_0 hCq3) gL_law_L_kept rfl hdL_kept ⟨Nat.le_of_ble_eq_true rfl, Nat.le_of_ble_eq_true rfl⟩ (gPerm_rfl _) rfl rfl ?_ dL_law_37 ⟨Nat.le_trans (show (cells + 2700) + 25000 ≤ 400000 by omega) gRoomC, Nat.le_trans (show (slots + 25000) + 400000 ≤ 5000000 by omega) gRoomS⟩ (fun rq4 uq4 hq4 => ?_)
  · exact Nat.le_of_ble_eq_true rfl
  obtain ⟨eq4, hCq4⟩ := hq4
  refine g_top (y := 1) eq4 ?_
  refine g_if_eq (tgt := 47) E dL_law_40 (by decide) (fun c => absurd c (by decide)) (fun _ => ?_)
  refine g_iconst (v := 1) E dL_law_43 (by decide) ?_
  refine g_goto (tgt := 48) E dL_law_44 (by decide) ?_
  refine g_istore_n (lv' := [(3, .int 1), (0, .ref b0), (1, .ref (x.1 0)), (2, .ref (y.1 0))]) E dL_law_48 rfl (by decide) rfl ?_
  refine g_iconst (v := 0) E dL_law_49 (by decide) ?_
  refine g_istore (lv' := [(4, .int 0), (3, .int 1), (0, .ref b0), (1, .ref (x.1 0)), (2, .ref (y.1 0))]) E dL_law_50 (by decide) rfl ?_
  have loop5 : ∀ (n6 : Nat) (kk : Nat) (A : gA) (uk : gVu) (vk : gVu) (csk : Nat) (ssk : Nat), (kk ≤ 48) → (gAok (3600 + 31 * kk) A) → (gX5 A) → (gClsI A uk) → (gClsI A vk) → (csk ≤ cells + 27800 + 900 * kk + 27000 * ((kk + 7) / 9) + 20010 * ((kk + 2) / 16)) → (ssk ≤ slots + 425100 + 8000 * kk + 420000 * ((kk + 7) / 9) + 120060 * ((kk + 2) / 16)) → 48 - kk < n6 → gW V 7 csk ssk ((wV G x uk ++ wV G y vk)) [(0, .ref b0), (1, .ref (x.1 0)), (2, .ref (y.1 0)), (3, .int 1), (4, .int (nI kk))] 52 [] := by
    intro n6
    induction n6 with
    | zero => intro kk A uk vk csk ssk hkk hAk hXk hCkx hCky hck hsk hm8; exact absurd hm8 (Nat.not_lt_zero _)
    | succ n6 ih7 =>
      intro kk A uk vk csk ssk hkk hAk hXk hCkx hCky hck hsk hm8
      have hTk := hAk.2.1.2.2
      have hm9 : (kk + 7) / 9 ≤ (kk + 1 + 7) / 9 := Nat.div_le_div_right (by omega)
      have hm16 : (kk + 2) / 16 ≤ (kk + 1 + 2) / 16 := Nat.div_le_div_right (by omega)
      refine g_iload E dL_law_52 4 rfl ?_
      refine g_bipush (v := 48) E dL_law_54 (by decide) ?_
      refine g_icmp_geN (tgt := 278) (a := kk) (b := 48) E dL_law_56 (by decide) (by omega) (by omega) (fun c9 => ?_) (fun c9 => ?_)
      · skip
        refine g_iload_n E dL_law_278 rfl 3 rfl ?_
        refine g_if_eq (tgt := 297) E dL_law_279 (by decide) (fun c => absurd c (by decide)) (fun _ => ?_)
        refine g_aload_n E dL_law_282 rfl 1 rfl ?_
        refine g_aload_n E dL_law_283 rfl 2 rfl ?_
        refine g_ldc_w (v := 83267) E kL_law_288 dL_law_284 ?_
        refine g_callSI (As := [.ref (x.1 0), .ref (y.1 0), .int 83267]) (F := []) E (mL_alike (x := x) (y := y) hST (by omega) hAk hXk hCkx hCky 83267 (by decide)) gL_law_L_alike rfl hdL_alike ⟨Nat.le_of_ble_eq_true rfl, Nat.le_of_ble_eq_true rfl⟩ gPerm_n rfl rfl ?_ dL_law_287 ⟨Nat.le_trans (show csk + 700 ≤ 400000 by omega) gRoomC, Nat.le_trans (show ssk + 5000 ≤ 5000000 by omega) gRoomS⟩ (fun rq10 uq10 hq10 => ?_)
        · exact Nat.le_of_ble_eq_true rfl
        refine g_perm (ws1 := (wV G x uq10.1 ++ wV G y uq10.2)) gPerm_n' ?_
        obtain ⟨eq10, hCq10x, hCq10y⟩ := hq10
        refine g_top (y := 1) eq10 ?_
        refine g_if_eq (tgt := 297) E dL_law_290 (by decide) (fun c => absurd c (by decide)) (fun _ => ?_)
        refine g_iconst (v := 1) E dL_law_293 (by decide) ?_
        refine g_goto (tgt := 298) E dL_law_294 (by decide) ?_
        exact RET _ _ _ _ (by omega) (by omega)
      · skip
        refine g_iload_n E dL_law_59 rfl 3 rfl ?_
        refine g_if_eq (tgt := 278) E dL_law_60 (by decide) (fun c => absurd c (by decide)) (fun _ => ?_)
        refine g_aload_n E dL_law_63 rfl 0 rfl ?_
        refine g_iconst (v := 2) E dL_law_64 (by decide) ?_
        refine g_iload E dL_law_65 4 rfl ?_
        refine g_imulN (a := 2) (b := kk) E dL_law_67 ?_
        refine g_callSIX E hSc hbl hbA (As := [.ref b0, .int (nI (2 * kk))]) (mL_draw (2 * kk) (by omega) hL) gL_law_L_draw rfl hdL_draw ⟨Nat.le_of_ble_eq_true rfl, Nat.le_of_ble_eq_true rfl⟩ rfl rfl ?_ dL_law_68 ⟨Nat.le_trans (show csk + 0 ≤ 400000 by omega) gRoomC, Nat.le_trans (show ssk + 0 ≤ 5000000 by omega) gRoomS⟩ (fun rq11 hq11 => ?_)
        · exact Nat.le_of_ble_eq_true rfl
        obtain ⟨dq11, hdq11, edq11⟩ := hq11
        refine g_top (y := nI dq11) edq11 ?_
        refine g_istore (lv' := [(5, .int (nI dq11)), (0, .ref b0), (1, .ref (x.1 0)), (2, .ref (y.1 0)), (3, .int 1), (4, .int (nI kk))]) E dL_law_71 (by decide) rfl ?_
        refine g_aload_n E dL_law_73 rfl 1 rfl ?_
        refine g_iconst (v := 2) E dL_law_74 (by decide) ?_
        refine g_iload E dL_law_75 5 rfl ?_
        refine g_imulN (a := 2) (b := kk) E dL_law_77 ?_
        refine g_iconst (v := 1) E dL_law_78 (by decide) ?_
        refine g_iaddN (a := 2 * kk) (b := 1) E dL_law_79 ?_
        refine g_callSIX E hSc hbl hbA (As := [.ref b0, .int (nI (2 * kk + 1))]) (mL_draw (2 * kk + 1) (by omega) hL) gL_law_L_draw rfl hdL_draw ⟨Nat.le_of_ble_eq_true rfl, Nat.le_of_ble_eq_true rfl⟩ rfl rfl ?_ dL_law_80 ⟨Nat.le_trans (show csk + 0 ≤ 400000 by omega) gRoomC, Nat.le_trans (show ssk + 0 ≤ 5000000 by omega) gRoomS⟩ (fun rq12 hq12 => ?_)
        · exact Nat.le_of_ble_eq_true rfl
        obtain ⟨dq12, hdq12, edq12⟩ := hq12
        refine g_top (y := nI dq12) edq12 ?_
        refine g_istore (lv' := [(6, .int (nI dq12)), (5, .int (nI dq11)), (0, .ref b0), (1, .ref (x.1 0)), (2, .ref (y.1 0)), (3, .int 1), (4, .int (nI kk))]) E dL_law_83 (by decide) rfl ?_
        refine g_iload E dL_law_85 6 rfl ?_
        refine g_bipush (v := 24) E dL_law_87 (by decide) ?_
        refine g_iremN (a := kk) (b := 24) E dL_law_89 (by omega) (by omega) (by omega) ?_
        refine g_if_neN (tgt := 136) (a := kk % 24) E dL_law_90 (by decide) (by omega) (fun c13 => ?_) (fun c13 => ?_)
        · skip
          refine g_aload_n E dL_law_136 rfl 3 rfl ?_
          refine g_iload E dL_law_137 1 rfl ?_
          refine g_iload E dL_law_139 0 rfl ?_
          refine g_callSL (As := [.ref (x.1 0), .int (nI dq11), .int (nI dq12)]) (F := wV G y vk) E (mL_act (x := x) hST (by omega) hAk hXk hCkx dq11 dq12 hdq11 hdq12) gL_law_L_act rfl hdL_act ⟨Nat.le_of_ble_eq_true rfl, Nat.le_of_ble_eq_true rfl⟩ (gPerm_rfl _) rfl rfl ?_ dL_law_141 ⟨Nat.le_trans (show csk + 10 ≤ 400000 by omega) gRoomC, Nat.le_trans (show ssk + 60 ≤ 5000000 by omega) gRoomS⟩ (fun rq14 uq14 hq14 => ?_)
          · exact Nat.le_of_ble_eq_true rfl
          obtain ⟨eq14, hCq14⟩ := hq14
          have hYq14 := gAct_ok hAk hXk (by omega) (dq12 / 4) (dq11 % 24)
          have hAq14 : gAok (3600 + 31 * kk + 30) (gActA A dq11 dq12) := hYq14.1
          have hXq14 : gX5 (gActA A dq11 dq12) := hYq14.2
          refine g_aload_n E dL_law_144 rfl 4 rfl ?_
          refine g_iload E dL_law_145 1 rfl ?_
          refine g_iload E dL_law_147 0 rfl ?_
          refine g_callSL (As := [.ref (y.1 0), .int (nI dq11), .int (nI dq12)]) (F := wV G x uq14) E (mL_act (x := y) hST (by omega) hAk hXk hCky dq11 dq12 hdq11 hdq12) gL_law_L_act rfl hdL_act ⟨Nat.le_of_ble_eq_true rfl, Nat.le_of_ble_eq_true rfl⟩ gPerm_cm rfl rfl ?_ dL_law_149 ⟨Nat.le_trans (show (csk + 10) + 10 ≤ 400000 by omega) gRoomC, Nat.le_trans (show (ssk + 60) + 60 ≤ 5000000 by omega) gRoomS⟩ (fun rq15 uq15 hq15 => ?_)
          · exact Nat.le_of_ble_eq_true rfl
          refine g_perm (ws1 := (wV G x uq14 ++ wV G y uq15)) gPerm_cm ?_
          obtain ⟨eq15, hCq15⟩ := hq15
          have hYq15 := gAct_ok hAk hXk (by omega) (dq12 / 4) (dq11 % 24)
          have hAq15 : gAok (3600 + 31 * kk + 30) (gActA A dq11 dq12) := hYq15.1
          have hXq15 : gX5 (gActA A dq11 dq12) := hYq15.2
          refine g_lcmp E dL_law_152 ?_
          refine g_if_ne (tgt := 160) E dL_law_153 (by decide) (fun c => absurd (gCmp_eq.mpr (eq14.trans eq15.symm)) c) (fun _ => ?_)
          refine g_iconst (v := 1) E dL_law_156 (by decide) ?_
          refine g_goto (tgt := 161) E dL_law_157 (by decide) ?_
          refine g_istore_n (lv' := [(3, .int 1), (6, .int (nI dq12)), (5, .int (nI dq11)), (0, .ref b0), (1, .ref (x.1 0)), (2, .ref (y.1 0)), (4, .int (nI kk))]) E dL_law_161 rfl (by decide) rfl ?_
          have cut16 : ∀ (um : gVu) (vm : gVu) (csm : Nat) (ssm : Nat), (gClsI (gActA A dq11 dq12) um) → (gClsI (gActA A dq11 dq12) vm) → (csm ≤ (csk + 20) + (27000 * ((kk + 8) / 9 - (kk + 7) / 9))) → (ssm ≤ (ssk + 120) + (420000 * ((kk + 8) / 9 - (kk + 7) / 9))) → gW V 7 csm ssm ((wV G x um ++ wV G y vm)) [(0, .ref b0), (1, .ref (x.1 0)), (2, .ref (y.1 0)), (3, .int 1), (4, .int (nI kk)), (5, .int (nI dq11)), (6, .int (nI dq12))] 195 [] := by
            intro um vm csm ssm hCmx hCmy hcm hsm
            have cut17 : ∀ (Bn : gA) (un : gVu) (vn : gVu) (csn : Nat) (ssn : Nat), (gAok (3600 + 31 * kk + 30) Bn) → (gX5 Bn) → (gClsI Bn un) → (gClsI Bn vn) → (csn ≤ csm + (20010 * ((kk + 3) / 16 - (kk + 2) / 16))) → (ssn ≤ ssm + (120060 * ((kk + 3) / 16 - (kk + 2) / 16))) → gW V 7 csn ssn ((wV G x un ++ wV G y vn)) [(0, .ref b0), (1, .ref (x.1 0)), (2, .ref (y.1 0)), (3, .int 1), (4, .int (nI kk)), (5, .int (nI dq11)), (6, .int (nI dq12))] 244 [] := by
              intro Bn un vn csn ssn hAn hXn hCnx hCny hcn hsn
              refine g_iload_n E dL_law_244 rfl 3 rfl ?_
              refine g_if_eq (tgt := 270) E dL_law_245 (by decide) (fun c => absurd c (by decide)) (fun _ => ?_)
              refine g_iload E dL_law_248 4 rfl ?_
              refine g_bipush (v := 16) E dL_law_250 (by decide) ?_
              refine g_iremN (a := kk) (b := 16) E dL_law_252 (by omega) (by omega) (by omega) ?_
              refine g_if_gtN (tgt := 266) (a := kk % 16) E dL_law_253 (by decide) (by omega) (fun c18 => ?_) (fun c18 => ?_)
              · skip
                refine g_iconst (v := 1) E dL_law_266 (by decide) ?_
                refine g_goto (tgt := 271) E dL_law_267 (by decide) ?_
                refine g_istore_n (lv' := [(3, .int 1), (0, .ref b0), (1, .ref (x.1 0)), (2, .ref (y.1 0)), (4, .int (nI kk)), (5, .int (nI dq11)), (6, .int (nI dq12))]) E dL_law_271 rfl (by decide) rfl ?_
                refine g_iinc (lv' := [(4, .int (nI (kk + 1))), (3, .int 1), (0, .ref b0), (1, .ref (x.1 0)), (2, .ref (y.1 0)), (5, .int (nI dq11)), (6, .int (nI dq12))]) E dL_law_272 4 rfl (g_inc _ 1 (by decide)) (by decide) rfl ?_
                refine g_goto (tgt := 52) E dL_law_275 (by decide) ?_
                refine g_lv [2, 3, 4, 1, 0] rfl ?_
                exact ih7  (kk + 1) Bn un vn csn ssn (by omega) (gAok_mono hAn (by omega)) hXn hCnx hCny (by omega) (by omega) (by omega)
              · skip
                refine g_aload_n E dL_law_256 rfl 1 rfl ?_
                refine g_aload_n E dL_law_257 rfl 2 rfl ?_
                refine g_iload E dL_law_258 6 rfl ?_
                refine g_callSI (As := [.ref (x.1 0), .ref (y.1 0), .int (nI dq12)]) (F := []) E (mL_alike (x := x) (y := y) hST (by omega) hAn hXn hCnx hCny dq12 hdq12) gL_law_L_alike rfl hdL_alike ⟨Nat.le_of_ble_eq_true rfl, Nat.le_of_ble_eq_true rfl⟩ gPerm_n rfl rfl ?_ dL_law_260 ⟨Nat.le_trans (show csn + 700 ≤ 400000 by omega) gRoomC, Nat.le_trans (show ssn + 5000 ≤ 5000000 by omega) gRoomS⟩ (fun rq19 uq19 hq19 => ?_)
                · exact Nat.le_of_ble_eq_true rfl
                refine g_perm (ws1 := (wV G x uq19.1 ++ wV G y uq19.2)) gPerm_n' ?_
                obtain ⟨eq19, hCq19x, hCq19y⟩ := hq19
                refine g_top (y := 1) eq19 ?_
                refine g_if_eq (tgt := 270) E dL_law_263 (by decide) (fun c => absurd c (by decide)) (fun _ => ?_)
                refine g_iconst (v := 1) E dL_law_266 (by decide) ?_
                refine g_goto (tgt := 271) E dL_law_267 (by decide) ?_
                refine g_istore_n (lv' := [(3, .int 1), (0, .ref b0), (1, .ref (x.1 0)), (2, .ref (y.1 0)), (4, .int (nI kk)), (5, .int (nI dq11)), (6, .int (nI dq12))]) E dL_law_271 rfl (by decide) rfl ?_
                refine g_iinc (lv' := [(4, .int (nI (kk + 1))), (3, .int 1), (0, .ref b0), (1, .ref (x.1 0)), (2, .ref (y.1 0)), (5, .int (nI dq11)), (6, .int (nI dq12))]) E dL_law_272 4 rfl (g_inc _ 1 (by decide)) (by decide) rfl ?_
                refine g_goto (tgt := 52) E dL_law_275 (by decide) ?_
                refine g_lv [2, 3, 4, 1, 0] rfl ?_
                exact ih7  (kk + 1) Bn uq19.1 uq19.2 (csn + 700) (ssn + 5000) (by omega) (gAok_mono hAn (by omega)) hXn hCq19x hCq19y (by omega) (by omega) (by omega)
            refine g_iload E dL_law_195 4 rfl ?_
            refine g_bipush (v := 16) E dL_law_197 (by decide) ?_
            refine g_iremN (a := kk) (b := 16) E dL_law_199 (by omega) (by omega) (by omega) ?_
            refine g_bipush (v := 13) E dL_law_200 (by decide) ?_
            refine g_icmp_neN (tgt := 244) (a := kk % 16) (b := 13) E dL_law_202 (by decide) (by omega) (by omega) (fun c20 => ?_) (fun c20 => ?_)
            · skip
              refine g_lv [0, 1, 2, 3, 4, 5, 6] rfl ?_
              exact cut17 (gActA A dq11 dq12) um vm csm ssm hAq14 hXq14 hCmx hCmy (by omega) (by omega)
            · skip
              refine g_iload_n E dL_law_205 rfl 3 rfl ?_
              refine g_if_eq (tgt := 242) E dL_law_206 (by decide) (fun c => absurd c (by decide)) (fun _ => ?_)
              refine g_aload_n E dL_law_209 rfl 2 rfl ?_
              refine g_iload E dL_law_210 6 rfl ?_
              refine g_callSI (As := [.ref (y.1 0), .int (nI dq12)]) (F := wV G x um) E (mL_follows (x := y) hST (by omega) hAq15 hXq15 hCmy dq12 hdq12) gL_law_L_follows rfl hdL_follows ⟨Nat.le_of_ble_eq_true rfl, Nat.le_of_ble_eq_true rfl⟩ gPerm_cm rfl rfl ?_ dL_law_212 ⟨Nat.le_trans (show csm + 20000 ≤ 400000 by omega) gRoomC, Nat.le_trans (show ssm + 120000 ≤ 5000000 by omega) gRoomS⟩ (fun rq21 uq21 hq21 => ?_)
              · exact Nat.le_of_ble_eq_true rfl
              refine g_perm (ws1 := (wV G x um ++ wV G y uq21)) gPerm_cm ?_
              obtain ⟨eq21, hCq21⟩ := hq21
              have hAq21 := gAok_fol hAq15
              have hXq21 := gX5_fol hXq15
              refine g_top (y := 1) eq21 ?_
              refine g_if_eq (tgt := 242) E dL_law_215 (by decide) (fun c => absurd c (by decide)) (fun _ => ?_)
              refine g_aload_n E dL_law_218 rfl 1 rfl ?_
              refine g_iconst (v := 1) E dL_law_219 (by decide) ?_
              refine g_callSWL (As := [.ref (x.1 0), .int 1]) (F := wV G y uq21) E (wL_save (x := x) hST hAq14 (show 3600 + 31 * kk + 30 ≤ 50000 by omega) hCmx (1 : Int32)) gL_law_L_save rfl hdL_save ⟨Nat.le_of_ble_eq_true rfl, Nat.le_of_ble_eq_true rfl⟩ (gPerm_rfl _) rfl rfl ?_ dL_law_220 ⟨Nat.le_trans (show (csm + 20000) + 1 ≤ 400000 by omega) gRoomC, Nat.le_trans (show (ssm + 120000) + 6 ≤ 5000000 by omega) gRoomS⟩ (fun rq22 uq22 hq22 => ?_)
              · exact Nat.le_of_ble_eq_true rfl
              obtain ⟨eq22, hCq22⟩ := hq22
              rw [show fSave (gActA A dq11 dq12) (1 : Int32) = _ from fSave_1 (A := gActA A dq11 dq12)] at eq22 hCq22
              refine g_topL (y := (nI (sN (aS (gActA A dq11 dq12)) 0)).toInt64) (eq22.trans (gCd_a rfl)) ?_
              refine g_lconst (v := 0) E dL_law_223 (by decide) ?_
              refine g_lcmp E dL_law_224 ?_
              refine g_if_lt (tgt := 242) E dL_law_225 (by decide) (fun c => absurd c (gNn0 (by have := hAq14.2.1.2.2; omega))) (fun _ => ?_)
              refine g_aload_n E dL_law_228 rfl 1 rfl ?_
              refine g_iconst (v := 1) E dL_law_229 (by decide) ?_
              refine g_callSWL (As := [.ref (x.1 0), .int 1]) (F := wV G y uq21) E (wL_restore (x := x) hST (gAok_sav hAq14) (show 3600 + 31 * kk + 30 ≤ 50000 by omega) hCq22 (1 : Int32)) gL_law_L_restore rfl hdL_restore ⟨Nat.le_of_ble_eq_true rfl, Nat.le_of_ble_eq_true rfl⟩ (gPerm_rfl _) rfl rfl ?_ dL_law_230 ⟨Nat.le_trans (show (csm + 20001) + 1 ≤ 400000 by omega) gRoomC, Nat.le_trans (show (ssm + 120006) + 6 ≤ 5000000 by omega) gRoomS⟩ (fun rq23 uq23 hq23 => ?_)
              · exact Nat.le_of_ble_eq_true rfl
              obtain ⟨eq23, hCq23⟩ := hq23
              rw [show fRest (gSav (gActA A dq11 dq12)) (1 : Int32) = _ from fRest_s (A := gActA A dq11 dq12)] at eq23 hCq23
              refine g_topL (y := (nI (sN (aS (gActA A dq11 dq12)) 0)).toInt64) (eq23.trans (gCd_a rfl)) ?_
              refine g_lconst (v := 0) E dL_law_233 (by decide) ?_
              refine g_lcmp E dL_law_234 ?_
              refine g_if_lt (tgt := 242) E dL_law_235 (by decide) (fun c => absurd c (gNn0 (by have := hAq14.2.1.2.2; omega))) (fun _ => ?_)
              refine g_iconst (v := 1) E dL_law_238 (by decide) ?_
              refine g_goto (tgt := 243) E dL_law_239 (by decide) ?_
              refine g_istore_n (lv' := [(3, .int 1), (0, .ref b0), (1, .ref (x.1 0)), (2, .ref (y.1 0)), (4, .int (nI kk)), (5, .int (nI dq11)), (6, .int (nI dq12))]) E dL_law_243 rfl (by decide) rfl ?_
              refine g_lv [1, 2, 3, 0, 4, 5, 6] rfl ?_
              exact cut17 (gFol (gActA A dq11 dq12)) uq23 uq21 (csm + 20002) (ssm + 120012) (gAok_fol hAq14) (gX5_fol hXq14) hCq23 hCq21 (by omega) (by omega)
          refine g_iload E dL_law_162 6 rfl ?_
          refine g_bipush (v := 9) E dL_law_164 (by decide) ?_
          refine g_iremN (a := kk) (b := 9) E dL_law_166 (by omega) (by omega) (by omega) ?_
          refine g_iconst (v := 1) E dL_law_167 (by decide) ?_
          refine g_icmp_neN (tgt := 195) (a := kk % 9) (b := 1) E dL_law_168 (by decide) (by omega) (by omega) (fun c24 => ?_) (fun c24 => ?_)
          · skip
            refine g_lv [3, 4, 5, 0, 6, 2, 1] rfl ?_
            exact cut16 uq14 uq15 (csk + 20) (ssk + 120) hCq14 hCq15 (by omega) (by omega)
          · skip
            refine g_iload_n E dL_law_171 rfl 0 rfl ?_
            refine g_if_eq (tgt := 193) E dL_law_172 (by decide) (fun c => absurd c (by decide)) (fun _ => ?_)
            refine g_aload_n E dL_law_175 rfl 5 rfl ?_
            refine g_callSI (As := [.ref (y.1 0)]) (F := wV G x uq14) E (mL_errors (x := y) hST (by omega) hAq15 hXq15 hCq15) gL_law_L_errors rfl hdL_errors ⟨Nat.le_of_ble_eq_true rfl, Nat.le_of_ble_eq_true rfl⟩ gPerm_cm rfl rfl ?_ dL_law_176 ⟨Nat.le_trans (show (csk + 20) + 2000 ≤ 400000 by omega) gRoomC, Nat.le_trans (show (ssk + 120) + 20000 ≤ 5000000 by omega) gRoomS⟩ (fun rq25 uq25 hq25 => ?_)
            · exact Nat.le_of_ble_eq_true rfl
            refine g_perm (ws1 := (wV G x uq14 ++ wV G y uq25)) gPerm_cm ?_
            obtain ⟨eq25, hCq25⟩ := hq25
            refine g_top (y := 1) eq25 ?_
            refine g_if_eq (tgt := 193) E dL_law_179 (by decide) (fun c => absurd c (by decide)) (fun _ => ?_)
            refine g_aload_n E dL_law_182 rfl 5 rfl ?_
            refine g_callSI (As := [.ref (y.1 0)]) (F := wV G x uq14) E (mL_kept (x := y) hST (by omega) hAq15 hXq15 hCq25) gL_law_L_kept rfl hdL_kept ⟨Nat.le_of_ble_eq_true rfl, Nat.le_of_ble_eq_true rfl⟩ gPerm_cm rfl rfl ?_ dL_law_183 ⟨Nat.le_trans (show (csk + 2020) + 25000 ≤ 400000 by omega) gRoomC, Nat.le_trans (show (ssk + 20120) + 400000 ≤ 5000000 by omega) gRoomS⟩ (fun rq26 uq26 hq26 => ?_)
            · exact Nat.le_of_ble_eq_true rfl
            refine g_perm (ws1 := (wV G x uq14 ++ wV G y uq26)) gPerm_cm ?_
            obtain ⟨eq26, hCq26⟩ := hq26
            refine g_top (y := 1) eq26 ?_
            refine g_if_eq (tgt := 193) E dL_law_186 (by decide) (fun c => absurd c (by decide)) (fun _ => ?_)
            refine g_iconst (v := 1) E dL_law_189 (by decide) ?_
            refine g_goto (tgt := 194) E dL_law_190 (by decide) ?_
            refine g_istore_n (lv' := [(3, .int 1), (6, .int (nI dq12)), (5, .int (nI dq11)), (0, .ref b0), (1, .ref (x.1 0)), (2, .ref (y.1 0)), (4, .int (nI kk))]) E dL_law_194 rfl (by decide) rfl ?_
            refine g_lv [3, 4, 5, 0, 6, 2, 1] rfl ?_
            exact cut16 uq14 uq26 (csk + 27020) (ssk + 420120) hCq14 hCq26 (by omega) (by omega)
        · skip
          refine g_aload_n E dL_law_93 rfl 3 rfl ?_
          refine g_iload E dL_law_94 1 rfl ?_
          refine g_iload E dL_law_96 0 rfl ?_
          refine g_callSI (As := [.ref (x.1 0), .int (nI dq11), .int (nI dq12)]) (F := wV G y vk) E (mL_tells (x := x) hST (by omega) hAk hXk hCkx dq11 dq12 hdq11 hdq12) gL_law_L_tells rfl hdL_tells ⟨Nat.le_of_ble_eq_true rfl, Nat.le_of_ble_eq_true rfl⟩ (gPerm_rfl _) rfl rfl ?_ dL_law_98 ⟨Nat.le_trans (show csk + 200 ≤ 400000 by omega) gRoomC, Nat.le_trans (show ssk + 1200 ≤ 5000000 by omega) gRoomS⟩ (fun rq27 uq27 hq27 => ?_)
          · exact Nat.le_of_ble_eq_true rfl
          obtain ⟨eq27, hCq27⟩ := hq27
          have hAq27 : gAok (3600 + 31 * kk) (aPuts (fClear A).2.2 (tlT dq11 dq12)) := gAok_puts (gAok_clear hAk) _ (by rw [tlT_len, show aN (fClear A).2.2 = 0 from rfl]; decide)
          have hXq27 : gX5 (aPuts (fClear A).2.2 (tlT dq11 dq12)) := gX5_puts (gX5_clear hXk) _
          refine g_top (y := 1) eq27 ?_
          refine g_if_eq (tgt := 131) E dL_law_101 (by decide) (fun c => absurd c (by decide)) (fun _ => ?_)
          refine g_aload_n E dL_law_104 rfl 4 rfl ?_
          refine g_iload E dL_law_105 1 rfl ?_
          refine g_iload E dL_law_107 0 rfl ?_
          refine g_callSI (As := [.ref (y.1 0), .int (nI dq11), .int (nI dq12)]) (F := wV G x uq27) E (mL_tells (x := y) hST (by omega) hAk hXk hCky dq11 dq12 hdq11 hdq12) gL_law_L_tells rfl hdL_tells ⟨Nat.le_of_ble_eq_true rfl, Nat.le_of_ble_eq_true rfl⟩ gPerm_cm rfl rfl ?_ dL_law_109 ⟨Nat.le_trans (show (csk + 200) + 200 ≤ 400000 by omega) gRoomC, Nat.le_trans (show (ssk + 1200) + 1200 ≤ 5000000 by omega) gRoomS⟩ (fun rq28 uq28 hq28 => ?_)
          · exact Nat.le_of_ble_eq_true rfl
          refine g_perm (ws1 := (wV G x uq27 ++ wV G y uq28)) gPerm_cm ?_
          obtain ⟨eq28, hCq28⟩ := hq28
          have hAq28 : gAok (3600 + 31 * kk) (aPuts (fClear A).2.2 (tlT dq11 dq12)) := gAok_puts (gAok_clear hAk) _ (by rw [tlT_len, show aN (fClear A).2.2 = 0 from rfl]; decide)
          have hXq28 : gX5 (aPuts (fClear A).2.2 (tlT dq11 dq12)) := gX5_puts (gX5_clear hXk) _
          refine g_top (y := 1) eq28 ?_
          refine g_if_eq (tgt := 131) E dL_law_112 (by decide) (fun c => absurd c (by decide)) (fun _ => ?_)
          refine g_aload_n E dL_law_115 rfl 3 rfl ?_
          refine g_callSWL (As := [.ref (x.1 0)]) (F := wV G y uq28) E (wL_load (x := x) hST hAq27 (show 3600 + 31 * kk ≤ 50000 by omega) hCq27 ) gL_law_L_load rfl hdL_load ⟨Nat.le_of_ble_eq_true rfl, Nat.le_of_ble_eq_true rfl⟩ (gPerm_rfl _) rfl rfl ?_ dL_law_116 ⟨Nat.le_trans (show (csk + 400) + 1 ≤ 400000 by omega) gRoomC, Nat.le_trans (show (ssk + 2400) + 6 ≤ 5000000 by omega) gRoomS⟩ (fun rq29 uq29 hq29 => ?_)
          · exact Nat.le_of_ble_eq_true rfl
          obtain ⟨eq29, hCq29⟩ := hq29
          refine g_aload_n E dL_law_119 rfl 4 rfl ?_
          refine g_callSWL (As := [.ref (y.1 0)]) (F := wV G x uq29) E (wL_load (x := y) hST hAq28 (show 3600 + 31 * kk ≤ 50000 by omega) hCq28 ) gL_law_L_load rfl hdL_load ⟨Nat.le_of_ble_eq_true rfl, Nat.le_of_ble_eq_true rfl⟩ gPerm_cm rfl rfl ?_ dL_law_120 ⟨Nat.le_trans (show (csk + 401) + 1 ≤ 400000 by omega) gRoomC, Nat.le_trans (show (ssk + 2406) + 6 ≤ 5000000 by omega) gRoomS⟩ (fun rq30 uq30 hq30 => ?_)
          · exact Nat.le_of_ble_eq_true rfl
          refine g_perm (ws1 := (wV G x uq29 ++ wV G y uq30)) gPerm_cm ?_
          obtain ⟨eq30, hCq30⟩ := hq30
          refine g_lcmp E dL_law_123 ?_
          refine g_if_ne (tgt := 131) E dL_law_124 (by decide) (fun c => absurd (gCmp_eq.mpr (eq29.trans eq30.symm)) c) (fun _ => ?_)
          refine g_iconst (v := 1) E dL_law_127 (by decide) ?_
          refine g_goto (tgt := 132) E dL_law_128 (by decide) ?_
          refine g_istore_n (lv' := [(3, .int 1), (6, .int (nI dq12)), (5, .int (nI dq11)), (0, .ref b0), (1, .ref (x.1 0)), (2, .ref (y.1 0)), (4, .int (nI kk))]) E dL_law_132 rfl (by decide) rfl ?_
          refine g_goto (tgt := 272) E dL_law_133 (by decide) ?_
          refine g_iinc (lv' := [(4, .int (nI (kk + 1))), (3, .int 1), (6, .int (nI dq12)), (5, .int (nI dq11)), (0, .ref b0), (1, .ref (x.1 0)), (2, .ref (y.1 0))]) E dL_law_272 6 rfl (g_inc _ 1 (by decide)) (by decide) rfl ?_
          refine g_goto (tgt := 52) E dL_law_275 (by decide) ?_
          refine g_lv [4, 5, 6, 1, 0] rfl ?_
          exact ih7  (kk + 1) ((fLoad (aPuts (fClear A).2.2 (tlT dq11 dq12))).2.2) uq29 uq30 (csk + 402) (ssk + 2412) (by omega) (gAok_mono (gAok_load hAq27 (by omega)) (by omega)) (gX5_load hXq27) hCq29 hCq30 (by omega) (by omega) (by omega)
  refine g_lv [2, 3, 4, 1, 0] rfl ?_
  exact loop5 _ 0 gA0 uq4 uq2.2 (cells + 27700) (slots + 425000) (Nat.zero_le _) gAok_0 gX5_0 hCq4 hCq2y (by omega) (by omega) (Nat.lt_succ_self _)
