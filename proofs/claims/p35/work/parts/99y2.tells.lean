set_option maxHeartbeats 4000000 in
set_option maxRecDepth 100000 in
theorem mL_tells {G : gG} {b : Nat} (hST : (gl G).stackTraces = false) (hb : b ≤ 9000) {x : gVa} {u : gVu} {A : gA} (hA : gAok b A) (hX : gX5 A) (hC : gClsI A u) (m n : Nat) (hm : m < 2147483648) (hn : n < 2147483648) : CI G yL_tells wsL_tells 11 275 [.ref (x.1 0), .int (nI m), .int (nI n)] (wV G x u) (fun (r : Int32) (w : gVu) => r = 1 ∧ gClsI (aPuts (fClear A).2.2 (tlT m n)) w) (fun w : gVu => wV G x w) 200 1200 := by
  refine g_enterI (ty := .boolean) RL rfl (by decide) rfl (Nat.le_of_ble_eq_true rfl) ?_
  intro V E RET
  have hb5 : b ≤ 50000 := by omega
  have hA0 : gAok b (fClear A).2.2 := gAok_clear hA
  have hX0 : gX5 (fClear A).2.2 := gX5_clear hX
  have hN0 : aN (fClear A).2.2 = 0 := rfl
  refine g_aload_n E dL_tells_0 rfl 0 rfl ?_
  refine g_callVI (As := []) (F := []) E (lX7_clearText (G := G) (x := x) hA hC) gL_tells_X7_clearText rfl hdX7_clearText ⟨Nat.le_of_ble_eq_true rfl, Nat.le_of_ble_eq_true rfl⟩ 7 0 rfl rfl rfl gPerm_n rfl rfl ?_ dL_tells_1 ⟨by show 0 + 0 ≤ 200; omega, by show 0 + 0 ≤ 1200; omega⟩ (fun rq1 uq1 hq1 => ?_)
  · exact Nat.le_of_ble_eq_true rfl
  refine g_perm (ws1 := wV G x uq1) gPerm_n' ?_
  obtain ⟨e0q1, eq1, hCq1⟩ := hq1
  have hC0 : gClsI (aPuts (fClear A).2.2 []) uq1 := hCq1
  refine g_top (y := nI (aN A)) (eq1) ?_
  refine g_if_ltN (tgt := 11) (a := aN A) E dL_tells_4 (by decide) (by (have := hA.1; omega)) ?_
  refine g_iconst (v := 1) E dL_tells_7 (by decide) ?_
  refine g_goto (tgt := 12) E dL_tells_8 (by decide) ?_
  refine g_istore_n (lv' := [(3, .int 1), (0, .ref (x.1 0)), (1, .int (nI m)), (2, .int (nI n))]) E dL_tells_12 rfl (by decide) rfl ?_
  refine g_iconst (v := 0) E dL_tells_13 (by decide) ?_
  refine g_istore (lv' := [(4, .int 0), (3, .int 1), (0, .ref (x.1 0)), (1, .int (nI m)), (2, .int (nI n))]) E dL_tells_14 (by decide) rfl ?_
  have loop2 : ∀ (n3 : Nat) (kt : Nat) (ut : gVu) (cst : Nat) (sst : Nat), (kt ≤ 4) → (gClsI (aPuts (fClear A).2.2 (tlA m n kt)) ut) → (cst ≤ 0 + 30 * kt) → (sst ≤ 0 + 180 * kt) → 4 - kt < n3 → gW V 7 cst sst (wV G x ut) [(0, .ref (x.1 0)), (1, .int (nI m)), (2, .int (nI n)), (3, .int 1), (4, .int (nI kt))] 16 [] := by
    intro n3
    induction n3 with
    | zero => intro kt ut cst sst hkt hCt hct hst hm5; exact absurd hm5 (Nat.not_lt_zero _)
    | succ n3 ih4 =>
      intro kt ut cst sst hkt hCt hct hst hm5
      have hlt := tlA_len m n kt hkt
      refine g_iload E dL_tells_16 4 rfl ?_
      refine g_iconst (v := 4) E dL_tells_18 (by decide) ?_
      refine g_icmp_geN (tgt := 279) (a := kt) (b := 4) E dL_tells_19 (by decide) (by omega) (by omega) (fun c6 => ?_) (fun c6 => ?_)
      · skip
        obtain rfl : kt = 4 := by omega
        have hl4 := tlA_4 m n
        refine g_iload_n E dL_tells_279 rfl 3 rfl ?_
        refine g_if_eq (tgt := 447) E dL_tells_280 (by decide) (fun c => absurd c (by decide)) (fun _ => ?_)
        refine g_aload_n E dL_tells_283 rfl 0 rfl ?_
        refine g_bipush (v := 104) E dL_tells_284 (by decide) ?_
        refine g_callSI (As := [.ref (x.1 0), .int 104]) (F := []) E (mL_says (x := x) hST hb5 (gAok_puts hA0 (tlA m n 4) (by rw [hN0]; omega)) (gX5_puts hX0 (tlA m n 4)) hCt 104 (by omega) (by rw [aPuts_N, hN0]; omega)) gL_tells_L_says rfl hdL_says ⟨Nat.le_of_ble_eq_true rfl, Nat.le_of_ble_eq_true rfl⟩ gPerm_n rfl rfl ?_ dL_tells_286 ⟨by show cst + 1 ≤ 200; omega, by show sst + 6 ≤ 1200; omega⟩ (fun rq7 uq7 hq7 => ?_)
        · exact Nat.le_of_ble_eq_true rfl
        refine g_perm (ws1 := wV G x uq7) gPerm_n' ?_
        obtain ⟨eq7, hCq7⟩ := hq7
        rw [aPuts_snoc] at hCq7
        obtain ⟨Lq7, eLq7, lLq7⟩ : ∃ l : List Nat, l = ((tlA m n 4) ++ [104]) ∧ l.length = (tlA m n 4).length + 1 := ⟨_, rfl, by rw [List.length_append]; rfl⟩
        rw [← eLq7] at hCq7
        refine g_top (y := 1) eq7 ?_
        refine g_if_eq (tgt := 447) E dL_tells_289 (by decide) (fun c => absurd c (by decide)) (fun _ => ?_)
        refine g_aload_n E dL_tells_292 rfl 0 rfl ?_
        refine g_bipush (v := 97) E dL_tells_293 (by decide) ?_
        refine g_callSI (As := [.ref (x.1 0), .int 97]) (F := []) E (mL_says (x := x) hST hb5 (gAok_puts hA0 Lq7 (by rw [hN0]; omega)) (gX5_puts hX0 Lq7) hCq7 97 (by omega) (by rw [aPuts_N, hN0]; omega)) gL_tells_L_says rfl hdL_says ⟨Nat.le_of_ble_eq_true rfl, Nat.le_of_ble_eq_true rfl⟩ gPerm_n rfl rfl ?_ dL_tells_295 ⟨by show (cst + 1) + 1 ≤ 200; omega, by show (sst + 6) + 6 ≤ 1200; omega⟩ (fun rq8 uq8 hq8 => ?_)
        · exact Nat.le_of_ble_eq_true rfl
        refine g_perm (ws1 := wV G x uq8) gPerm_n' ?_
        obtain ⟨eq8, hCq8⟩ := hq8
        rw [aPuts_snoc] at hCq8
        obtain ⟨Lq8, eLq8, lLq8⟩ : ∃ l : List Nat, l = (Lq7 ++ [97]) ∧ l.length = (tlA m n 4).length + 2 := ⟨_, rfl, by rw [List.length_append, lLq7]; rfl⟩
        rw [← eLq8] at hCq8
        clear lLq7
        refine g_top (y := 1) eq8 ?_
        refine g_if_eq (tgt := 447) E dL_tells_298 (by decide) (fun c => absurd c (by decide)) (fun _ => ?_)
        refine g_aload_n E dL_tells_301 rfl 0 rfl ?_
        refine g_bipush (v := 115) E dL_tells_302 (by decide) ?_
        refine g_callSI (As := [.ref (x.1 0), .int 115]) (F := []) E (mL_says (x := x) hST hb5 (gAok_puts hA0 Lq8 (by rw [hN0]; omega)) (gX5_puts hX0 Lq8) hCq8 115 (by omega) (by rw [aPuts_N, hN0]; omega)) gL_tells_L_says rfl hdL_says ⟨Nat.le_of_ble_eq_true rfl, Nat.le_of_ble_eq_true rfl⟩ gPerm_n rfl rfl ?_ dL_tells_304 ⟨by show (cst + 2) + 1 ≤ 200; omega, by show (sst + 12) + 6 ≤ 1200; omega⟩ (fun rq9 uq9 hq9 => ?_)
        · exact Nat.le_of_ble_eq_true rfl
        refine g_perm (ws1 := wV G x uq9) gPerm_n' ?_
        obtain ⟨eq9, hCq9⟩ := hq9
        rw [aPuts_snoc] at hCq9
        obtain ⟨Lq9, eLq9, lLq9⟩ : ∃ l : List Nat, l = (Lq8 ++ [115]) ∧ l.length = (tlA m n 4).length + 3 := ⟨_, rfl, by rw [List.length_append, lLq8]; rfl⟩
        rw [← eLq9] at hCq9
        clear lLq8
        refine g_top (y := 1) eq9 ?_
        refine g_if_eq (tgt := 447) E dL_tells_307 (by decide) (fun c => absurd c (by decide)) (fun _ => ?_)
        refine g_aload_n E dL_tells_310 rfl 0 rfl ?_
        refine g_iload_n E dL_tells_311 rfl 1 rfl ?_
        refine g_bipush (v := 10) E dL_tells_312 (by decide) ?_
        refine g_iremN (a := m) (b := 10) E dL_tells_314 (by omega) (by omega) (by omega) ?_
        refine g_callSI (As := [.ref (x.1 0), .int (nI (m % 10))]) (F := []) E (mL_digit (x := x) hST hb (gAok_puts hA0 Lq9 (by rw [hN0]; omega)) (gX5_puts hX0 Lq9) hCq9 (m % 10) (by omega) (by rw [aPuts_N, hN0]; omega)) gL_tells_L_digit rfl hdL_digit ⟨Nat.le_of_ble_eq_true rfl, Nat.le_of_ble_eq_true rfl⟩ gPerm_n rfl rfl ?_ dL_tells_315 ⟨by show (cst + 3) + 2 ≤ 200; omega, by show (sst + 18) + 12 ≤ 1200; omega⟩ (fun rq10 uq10 hq10 => ?_)
        · exact Nat.le_of_ble_eq_true rfl
        refine g_perm (ws1 := wV G x uq10) gPerm_n' ?_
        obtain ⟨eq10, hCq10⟩ := hq10
        rw [aPuts_snoc] at hCq10
        rw [aPuts_snoc] at hCq10
        obtain ⟨Lq10, eLq10, lLq10⟩ : ∃ l : List Nat, l = ((Lq9 ++ [44]) ++ [48 + (m % 10)]) ∧ l.length = (tlA m n 4).length + 5 := ⟨_, rfl, by rw [List.length_append, List.length_append, lLq9]; rfl⟩
        rw [← eLq10] at hCq10
        clear lLq9
        refine g_top (y := 1) eq10 ?_
        refine g_if_eq (tgt := 447) E dL_tells_318 (by decide) (fun c => absurd c (by decide)) (fun _ => ?_)
        refine g_aload_n E dL_tells_321 rfl 0 rfl ?_
        refine g_bipush (v := 59) E dL_tells_322 (by decide) ?_
        refine g_callSI (As := [.ref (x.1 0), .int 59]) (F := []) E (mL_says (x := x) hST hb5 (gAok_puts hA0 Lq10 (by rw [hN0]; omega)) (gX5_puts hX0 Lq10) hCq10 59 (by omega) (by rw [aPuts_N, hN0]; omega)) gL_tells_L_says rfl hdL_says ⟨Nat.le_of_ble_eq_true rfl, Nat.le_of_ble_eq_true rfl⟩ gPerm_n rfl rfl ?_ dL_tells_324 ⟨by show (cst + 5) + 1 ≤ 200; omega, by show (sst + 30) + 6 ≤ 1200; omega⟩ (fun rq11 uq11 hq11 => ?_)
        · exact Nat.le_of_ble_eq_true rfl
        refine g_perm (ws1 := wV G x uq11) gPerm_n' ?_
        obtain ⟨eq11, hCq11⟩ := hq11
        rw [aPuts_snoc] at hCq11
        obtain ⟨Lq11, eLq11, lLq11⟩ : ∃ l : List Nat, l = (Lq10 ++ [59]) ∧ l.length = (tlA m n 4).length + 6 := ⟨_, rfl, by rw [List.length_append, lLq10]; rfl⟩
        rw [← eLq11] at hCq11
        clear lLq10
        refine g_top (y := 1) eq11 ?_
        refine g_if_eq (tgt := 447) E dL_tells_327 (by decide) (fun c => absurd c (by decide)) (fun _ => ?_)
        refine g_aload_n E dL_tells_330 rfl 0 rfl ?_
        refine g_bipush (v := 119) E dL_tells_331 (by decide) ?_
        refine g_callSI (As := [.ref (x.1 0), .int 119]) (F := []) E (mL_says (x := x) hST hb5 (gAok_puts hA0 Lq11 (by rw [hN0]; omega)) (gX5_puts hX0 Lq11) hCq11 119 (by omega) (by rw [aPuts_N, hN0]; omega)) gL_tells_L_says rfl hdL_says ⟨Nat.le_of_ble_eq_true rfl, Nat.le_of_ble_eq_true rfl⟩ gPerm_n rfl rfl ?_ dL_tells_333 ⟨by show (cst + 6) + 1 ≤ 200; omega, by show (sst + 36) + 6 ≤ 1200; omega⟩ (fun rq12 uq12 hq12 => ?_)
        · exact Nat.le_of_ble_eq_true rfl
        refine g_perm (ws1 := wV G x uq12) gPerm_n' ?_
        obtain ⟨eq12, hCq12⟩ := hq12
        rw [aPuts_snoc] at hCq12
        obtain ⟨Lq12, eLq12, lLq12⟩ : ∃ l : List Nat, l = (Lq11 ++ [119]) ∧ l.length = (tlA m n 4).length + 7 := ⟨_, rfl, by rw [List.length_append, lLq11]; rfl⟩
        rw [← eLq12] at hCq12
        clear lLq11
        refine g_top (y := 1) eq12 ?_
        refine g_if_eq (tgt := 447) E dL_tells_336 (by decide) (fun c => absurd c (by decide)) (fun _ => ?_)
        refine g_aload_n E dL_tells_339 rfl 0 rfl ?_
        refine g_bipush (v := 105) E dL_tells_340 (by decide) ?_
        refine g_callSI (As := [.ref (x.1 0), .int 105]) (F := []) E (mL_says (x := x) hST hb5 (gAok_puts hA0 Lq12 (by rw [hN0]; omega)) (gX5_puts hX0 Lq12) hCq12 105 (by omega) (by rw [aPuts_N, hN0]; omega)) gL_tells_L_says rfl hdL_says ⟨Nat.le_of_ble_eq_true rfl, Nat.le_of_ble_eq_true rfl⟩ gPerm_n rfl rfl ?_ dL_tells_342 ⟨by show (cst + 7) + 1 ≤ 200; omega, by show (sst + 42) + 6 ≤ 1200; omega⟩ (fun rq13 uq13 hq13 => ?_)
        · exact Nat.le_of_ble_eq_true rfl
        refine g_perm (ws1 := wV G x uq13) gPerm_n' ?_
        obtain ⟨eq13, hCq13⟩ := hq13
        rw [aPuts_snoc] at hCq13
        obtain ⟨Lq13, eLq13, lLq13⟩ : ∃ l : List Nat, l = (Lq12 ++ [105]) ∧ l.length = (tlA m n 4).length + 8 := ⟨_, rfl, by rw [List.length_append, lLq12]; rfl⟩
        rw [← eLq13] at hCq13
        clear lLq12
        refine g_top (y := 1) eq13 ?_
        refine g_if_eq (tgt := 447) E dL_tells_345 (by decide) (fun c => absurd c (by decide)) (fun _ => ?_)
        refine g_aload_n E dL_tells_348 rfl 0 rfl ?_
        refine g_bipush (v := 115) E dL_tells_349 (by decide) ?_
        refine g_callSI (As := [.ref (x.1 0), .int 115]) (F := []) E (mL_says (x := x) hST hb5 (gAok_puts hA0 Lq13 (by rw [hN0]; omega)) (gX5_puts hX0 Lq13) hCq13 115 (by omega) (by rw [aPuts_N, hN0]; omega)) gL_tells_L_says rfl hdL_says ⟨Nat.le_of_ble_eq_true rfl, Nat.le_of_ble_eq_true rfl⟩ gPerm_n rfl rfl ?_ dL_tells_351 ⟨by show (cst + 8) + 1 ≤ 200; omega, by show (sst + 48) + 6 ≤ 1200; omega⟩ (fun rq14 uq14 hq14 => ?_)
        · exact Nat.le_of_ble_eq_true rfl
        refine g_perm (ws1 := wV G x uq14) gPerm_n' ?_
        obtain ⟨eq14, hCq14⟩ := hq14
        rw [aPuts_snoc] at hCq14
        obtain ⟨Lq14, eLq14, lLq14⟩ : ∃ l : List Nat, l = (Lq13 ++ [115]) ∧ l.length = (tlA m n 4).length + 9 := ⟨_, rfl, by rw [List.length_append, lLq13]; rfl⟩
        rw [← eLq14] at hCq14
        clear lLq13
        refine g_top (y := 1) eq14 ?_
        refine g_if_eq (tgt := 447) E dL_tells_354 (by decide) (fun c => absurd c (by decide)) (fun _ => ?_)
        refine g_aload_n E dL_tells_357 rfl 0 rfl ?_
        refine g_bipush (v := 104) E dL_tells_358 (by decide) ?_
        refine g_callSI (As := [.ref (x.1 0), .int 104]) (F := []) E (mL_says (x := x) hST hb5 (gAok_puts hA0 Lq14 (by rw [hN0]; omega)) (gX5_puts hX0 Lq14) hCq14 104 (by omega) (by rw [aPuts_N, hN0]; omega)) gL_tells_L_says rfl hdL_says ⟨Nat.le_of_ble_eq_true rfl, Nat.le_of_ble_eq_true rfl⟩ gPerm_n rfl rfl ?_ dL_tells_360 ⟨by show (cst + 9) + 1 ≤ 200; omega, by show (sst + 54) + 6 ≤ 1200; omega⟩ (fun rq15 uq15 hq15 => ?_)
        · exact Nat.le_of_ble_eq_true rfl
        refine g_perm (ws1 := wV G x uq15) gPerm_n' ?_
        obtain ⟨eq15, hCq15⟩ := hq15
        rw [aPuts_snoc] at hCq15
        obtain ⟨Lq15, eLq15, lLq15⟩ : ∃ l : List Nat, l = (Lq14 ++ [104]) ∧ l.length = (tlA m n 4).length + 10 := ⟨_, rfl, by rw [List.length_append, lLq14]; rfl⟩
        rw [← eLq15] at hCq15
        clear lLq14
        refine g_top (y := 1) eq15 ?_
        refine g_if_eq (tgt := 447) E dL_tells_363 (by decide) (fun c => absurd c (by decide)) (fun _ => ?_)
        refine g_aload_n E dL_tells_366 rfl 0 rfl ?_
        refine g_iload_n E dL_tells_367 rfl 1 rfl ?_
        refine g_iconst (v := 4) E dL_tells_368 (by decide) ?_
        refine g_iremN (a := m) (b := 4) E dL_tells_369 (by omega) (by omega) (by omega) ?_
        refine g_callSI (As := [.ref (x.1 0), .int (nI (m % 4))]) (F := []) E (mL_digit (x := x) hST hb (gAok_puts hA0 Lq15 (by rw [hN0]; omega)) (gX5_puts hX0 Lq15) hCq15 (m % 4) (by omega) (by rw [aPuts_N, hN0]; omega)) gL_tells_L_digit rfl hdL_digit ⟨Nat.le_of_ble_eq_true rfl, Nat.le_of_ble_eq_true rfl⟩ gPerm_n rfl rfl ?_ dL_tells_370 ⟨by show (cst + 10) + 2 ≤ 200; omega, by show (sst + 60) + 12 ≤ 1200; omega⟩ (fun rq16 uq16 hq16 => ?_)
        · exact Nat.le_of_ble_eq_true rfl
        refine g_perm (ws1 := wV G x uq16) gPerm_n' ?_
        obtain ⟨eq16, hCq16⟩ := hq16
        rw [aPuts_snoc] at hCq16
        rw [aPuts_snoc] at hCq16
        obtain ⟨Lq16, eLq16, lLq16⟩ : ∃ l : List Nat, l = ((Lq15 ++ [44]) ++ [48 + (m % 4)]) ∧ l.length = (tlA m n 4).length + 12 := ⟨_, rfl, by rw [List.length_append, List.length_append, lLq15]; rfl⟩
        rw [← eLq16] at hCq16
        clear lLq15
        refine g_top (y := 1) eq16 ?_
        refine g_if_eq (tgt := 447) E dL_tells_373 (by decide) (fun c => absurd c (by decide)) (fun _ => ?_)
        refine g_aload_n E dL_tells_376 rfl 0 rfl ?_
        refine g_iload_n E dL_tells_377 rfl 2 rfl ?_
        refine g_bipush (v := 10) E dL_tells_378 (by decide) ?_
        refine g_iremN (a := n) (b := 10) E dL_tells_380 (by omega) (by omega) (by omega) ?_
        refine g_callSI (As := [.ref (x.1 0), .int (nI (n % 10))]) (F := []) E (mL_digit (x := x) hST hb (gAok_puts hA0 Lq16 (by rw [hN0]; omega)) (gX5_puts hX0 Lq16) hCq16 (n % 10) (by omega) (by rw [aPuts_N, hN0]; omega)) gL_tells_L_digit rfl hdL_digit ⟨Nat.le_of_ble_eq_true rfl, Nat.le_of_ble_eq_true rfl⟩ gPerm_n rfl rfl ?_ dL_tells_381 ⟨by show (cst + 12) + 2 ≤ 200; omega, by show (sst + 72) + 12 ≤ 1200; omega⟩ (fun rq17 uq17 hq17 => ?_)
        · exact Nat.le_of_ble_eq_true rfl
        refine g_perm (ws1 := wV G x uq17) gPerm_n' ?_
        obtain ⟨eq17, hCq17⟩ := hq17
        rw [aPuts_snoc] at hCq17
        rw [aPuts_snoc] at hCq17
        obtain ⟨Lq17, eLq17, lLq17⟩ : ∃ l : List Nat, l = ((Lq16 ++ [44]) ++ [48 + (n % 10)]) ∧ l.length = (tlA m n 4).length + 14 := ⟨_, rfl, by rw [List.length_append, List.length_append, lLq16]; rfl⟩
        rw [← eLq17] at hCq17
        clear lLq16
        refine g_top (y := 1) eq17 ?_
        refine g_if_eq (tgt := 447) E dL_tells_384 (by decide) (fun c => absurd c (by decide)) (fun _ => ?_)
        refine g_aload_n E dL_tells_387 rfl 0 rfl ?_
        refine g_bipush (v := 59) E dL_tells_388 (by decide) ?_
        refine g_callSI (As := [.ref (x.1 0), .int 59]) (F := []) E (mL_says (x := x) hST hb5 (gAok_puts hA0 Lq17 (by rw [hN0]; omega)) (gX5_puts hX0 Lq17) hCq17 59 (by omega) (by rw [aPuts_N, hN0]; omega)) gL_tells_L_says rfl hdL_says ⟨Nat.le_of_ble_eq_true rfl, Nat.le_of_ble_eq_true rfl⟩ gPerm_n rfl rfl ?_ dL_tells_390 ⟨by show (cst + 14) + 1 ≤ 200; omega, by show (sst + 84) + 6 ≤ 1200; omega⟩ (fun rq18 uq18 hq18 => ?_)
        · exact Nat.le_of_ble_eq_true rfl
        refine g_perm (ws1 := wV G x uq18) gPerm_n' ?_
        obtain ⟨eq18, hCq18⟩ := hq18
        rw [aPuts_snoc] at hCq18
        obtain ⟨Lq18, eLq18, lLq18⟩ : ∃ l : List Nat, l = (Lq17 ++ [59]) ∧ l.length = (tlA m n 4).length + 15 := ⟨_, rfl, by rw [List.length_append, lLq17]; rfl⟩
        rw [← eLq18] at hCq18
        clear lLq17
        refine g_top (y := 1) eq18 ?_
        refine g_if_eq (tgt := 447) E dL_tells_393 (by decide) (fun c => absurd c (by decide)) (fun _ => ?_)
        refine g_aload_n E dL_tells_396 rfl 0 rfl ?_
        refine g_bipush (v := 114) E dL_tells_397 (by decide) ?_
        refine g_callSI (As := [.ref (x.1 0), .int 114]) (F := []) E (mL_says (x := x) hST hb5 (gAok_puts hA0 Lq18 (by rw [hN0]; omega)) (gX5_puts hX0 Lq18) hCq18 114 (by omega) (by rw [aPuts_N, hN0]; omega)) gL_tells_L_says rfl hdL_says ⟨Nat.le_of_ble_eq_true rfl, Nat.le_of_ble_eq_true rfl⟩ gPerm_n rfl rfl ?_ dL_tells_399 ⟨by show (cst + 15) + 1 ≤ 200; omega, by show (sst + 90) + 6 ≤ 1200; omega⟩ (fun rq19 uq19 hq19 => ?_)
        · exact Nat.le_of_ble_eq_true rfl
        refine g_perm (ws1 := wV G x uq19) gPerm_n' ?_
        obtain ⟨eq19, hCq19⟩ := hq19
        rw [aPuts_snoc] at hCq19
        obtain ⟨Lq19, eLq19, lLq19⟩ : ∃ l : List Nat, l = (Lq18 ++ [114]) ∧ l.length = (tlA m n 4).length + 16 := ⟨_, rfl, by rw [List.length_append, lLq18]; rfl⟩
        rw [← eLq19] at hCq19
        clear lLq18
        refine g_top (y := 1) eq19 ?_
        refine g_if_eq (tgt := 447) E dL_tells_402 (by decide) (fun c => absurd c (by decide)) (fun _ => ?_)
        refine g_aload_n E dL_tells_405 rfl 0 rfl ?_
        refine g_bipush (v := 117) E dL_tells_406 (by decide) ?_
        refine g_callSI (As := [.ref (x.1 0), .int 117]) (F := []) E (mL_says (x := x) hST hb5 (gAok_puts hA0 Lq19 (by rw [hN0]; omega)) (gX5_puts hX0 Lq19) hCq19 117 (by omega) (by rw [aPuts_N, hN0]; omega)) gL_tells_L_says rfl hdL_says ⟨Nat.le_of_ble_eq_true rfl, Nat.le_of_ble_eq_true rfl⟩ gPerm_n rfl rfl ?_ dL_tells_408 ⟨by show (cst + 16) + 1 ≤ 200; omega, by show (sst + 96) + 6 ≤ 1200; omega⟩ (fun rq20 uq20 hq20 => ?_)
        · exact Nat.le_of_ble_eq_true rfl
        refine g_perm (ws1 := wV G x uq20) gPerm_n' ?_
        obtain ⟨eq20, hCq20⟩ := hq20
        rw [aPuts_snoc] at hCq20
        obtain ⟨Lq20, eLq20, lLq20⟩ : ∃ l : List Nat, l = (Lq19 ++ [117]) ∧ l.length = (tlA m n 4).length + 17 := ⟨_, rfl, by rw [List.length_append, lLq19]; rfl⟩
        rw [← eLq20] at hCq20
        clear lLq19
        refine g_top (y := 1) eq20 ?_
        refine g_if_eq (tgt := 447) E dL_tells_411 (by decide) (fun c => absurd c (by decide)) (fun _ => ?_)
        refine g_aload_n E dL_tells_414 rfl 0 rfl ?_
        refine g_bipush (v := 110) E dL_tells_415 (by decide) ?_
        refine g_callSI (As := [.ref (x.1 0), .int 110]) (F := []) E (mL_says (x := x) hST hb5 (gAok_puts hA0 Lq20 (by rw [hN0]; omega)) (gX5_puts hX0 Lq20) hCq20 110 (by omega) (by rw [aPuts_N, hN0]; omega)) gL_tells_L_says rfl hdL_says ⟨Nat.le_of_ble_eq_true rfl, Nat.le_of_ble_eq_true rfl⟩ gPerm_n rfl rfl ?_ dL_tells_417 ⟨by show (cst + 17) + 1 ≤ 200; omega, by show (sst + 102) + 6 ≤ 1200; omega⟩ (fun rq21 uq21 hq21 => ?_)
        · exact Nat.le_of_ble_eq_true rfl
        refine g_perm (ws1 := wV G x uq21) gPerm_n' ?_
        obtain ⟨eq21, hCq21⟩ := hq21
        rw [aPuts_snoc] at hCq21
        obtain ⟨Lq21, eLq21, lLq21⟩ : ∃ l : List Nat, l = (Lq20 ++ [110]) ∧ l.length = (tlA m n 4).length + 18 := ⟨_, rfl, by rw [List.length_append, lLq20]; rfl⟩
        rw [← eLq21] at hCq21
        clear lLq20
        refine g_top (y := 1) eq21 ?_
        refine g_if_eq (tgt := 447) E dL_tells_420 (by decide) (fun c => absurd c (by decide)) (fun _ => ?_)
        refine g_aload_n E dL_tells_423 rfl 0 rfl ?_
        refine g_iconst (v := 1) E dL_tells_424 (by decide) ?_
        refine g_iload_n E dL_tells_425 rfl 2 rfl ?_
        refine g_iconst (v := 4) E dL_tells_426 (by decide) ?_
        refine g_iremN (a := n) (b := 4) E dL_tells_427 (by omega) (by omega) (by omega) ?_
        refine g_iaddN (a := 1) (b := n % 4) E dL_tells_428 ?_
        refine g_callSI (As := [.ref (x.1 0), .int (nI (1 + (n % 4)))]) (F := []) E (mL_digit (x := x) hST hb (gAok_puts hA0 Lq21 (by rw [hN0]; omega)) (gX5_puts hX0 Lq21) hCq21 (1 + (n % 4)) (by omega) (by rw [aPuts_N, hN0]; omega)) gL_tells_L_digit rfl hdL_digit ⟨Nat.le_of_ble_eq_true rfl, Nat.le_of_ble_eq_true rfl⟩ gPerm_n rfl rfl ?_ dL_tells_429 ⟨by show (cst + 18) + 2 ≤ 200; omega, by show (sst + 108) + 12 ≤ 1200; omega⟩ (fun rq22 uq22 hq22 => ?_)
        · exact Nat.le_of_ble_eq_true rfl
        refine g_perm (ws1 := wV G x uq22) gPerm_n' ?_
        obtain ⟨eq22, hCq22⟩ := hq22
        rw [aPuts_snoc] at hCq22
        rw [aPuts_snoc] at hCq22
        obtain ⟨Lq22, eLq22, lLq22⟩ : ∃ l : List Nat, l = ((Lq21 ++ [44]) ++ [48 + (1 + (n % 4))]) ∧ l.length = (tlA m n 4).length + 20 := ⟨_, rfl, by rw [List.length_append, List.length_append, lLq21]; rfl⟩
        rw [← eLq22] at hCq22
        clear lLq21
        refine g_top (y := 1) eq22 ?_
        refine g_if_eq (tgt := 447) E dL_tells_432 (by decide) (fun c => absurd c (by decide)) (fun _ => ?_)
        refine g_aload_n E dL_tells_435 rfl 0 rfl ?_
        refine g_callVI (As := []) (F := []) E (lX7_errorPosition (G := G) (x := x) (gAok_puts hA0 Lq22 (by rw [hN0]; omega)) hCq22) gL_tells_X7_errorPosition rfl hdX7_errorPosition ⟨Nat.le_of_ble_eq_true rfl, Nat.le_of_ble_eq_true rfl⟩ 7 0 rfl rfl rfl gPerm_n rfl rfl ?_ dL_tells_436 ⟨by show (cst + 20) + 0 ≤ 200; omega, by show (sst + 120) + 0 ≤ 1200; omega⟩ (fun rq23 uq23 hq23 => ?_)
        · exact Nat.le_of_ble_eq_true rfl
        refine g_perm (ws1 := wV G x uq23) gPerm_n' ?_
        obtain ⟨e0q23, eq23, hCq23⟩ := hq23
        have eT : Lq22 = tlT m n := (by rw [eLq22, eLq21, eLq20, eLq19, eLq18, eLq17, eLq16, eLq15, eLq14, eLq13, eLq12, eLq11, eLq10, eLq9, eLq8, eLq7]; unfold tlT tlE; simp only [List.append_assoc, List.cons_append, List.nil_append])
        have e9 : rq23 = -1 := by rw [eq23]; show aEI (aN (aPuts (fClear A).2.2 Lq22)) (aG (aPuts (fClear A).2.2 Lq22)) = -1; rw [eT]; exact gTel_ok rfl
        rw [eT] at hCq23
        refine g_top (y := -1) (e9) ?_
        refine g_iconst (v := (-1)) E dL_tells_439 (by decide) ?_
        refine g_icmp_ne (tgt := 447) E dL_tells_440 (by decide) (fun c => absurd c (by decide)) (fun _ => ?_)
        refine g_iconst (v := 1) E dL_tells_443 (by decide) ?_
        refine g_goto (tgt := 448) E dL_tells_444 (by decide) ?_
        refine g_widen (k := 200) (n := 1200) (by omega) (by omega) ?_
        exact RET _ _ _ uq23 (⟨rfl, hCq23⟩) rfl dL_tells_448
      · skip
        have hmk : m / 2 ^ kt ≤ m := Nat.div_le_self _ _
        have hnk : n / 2 ^ kt ≤ n := Nat.div_le_self _ _
        refine g_iload_n E dL_tells_22 rfl 3 rfl ?_
        refine g_if_eq (tgt := 279) E dL_tells_23 (by decide) (fun c => absurd c (by decide)) (fun _ => ?_)
        refine g_iload_n E dL_tells_26 rfl 1 rfl ?_
        refine g_iload E dL_tells_27 4 rfl ?_
        refine g_ishr E dL_tells_29 ?_
        refine g_top (y := nI (m / 2 ^ kt)) (gShr hm (by omega)) ?_
        refine g_ldc_w (v := 100000) E kL_tells_256 dL_tells_30 ?_
        refine g_iremN (a := m / 2 ^ kt) (b := 100000) E dL_tells_33 (by omega) (by omega) (by omega) ?_
        refine g_sipush (v := 131) E dL_tells_34 (by decide) ?_
        refine g_iload E dL_tells_37 4 rfl ?_
        refine g_imulN (a := 131) (b := kt) E dL_tells_39 ?_
        refine g_iaddN (a := (m / 2 ^ kt) % 100000) (b := 131 * kt) E dL_tells_40 ?_
        obtain ⟨va, eva⟩ : ∃ n9, n9 = m / 2 ^ kt % 100000 + 131 * kt := ⟨_, rfl⟩
        have hva : va < 101000 := by omega
        refine g_top (y := nI va) (congrArg nI eva.symm) ?_
        refine g_istore (lv' := [(5, .int (nI va)), (0, .ref (x.1 0)), (1, .int (nI m)), (2, .int (nI n)), (3, .int 1), (4, .int (nI kt))]) E dL_tells_41 (by decide) rfl ?_
        refine g_iload_n E dL_tells_43 rfl 3 rfl ?_
        refine g_iload E dL_tells_44 5 rfl ?_
        refine g_ishr E dL_tells_46 ?_
        refine g_top (y := nI (n / 2 ^ kt)) (gShr hn (by omega)) ?_
        refine g_ldc_w (v := 100000) E kL_tells_256 dL_tells_47 ?_
        refine g_iremN (a := n / 2 ^ kt) (b := 100000) E dL_tells_50 (by omega) (by omega) (by omega) ?_
        refine g_sipush (v := 137) E dL_tells_51 (by decide) ?_
        refine g_iload E dL_tells_54 5 rfl ?_
        refine g_imulN (a := 137) (b := kt) E dL_tells_56 ?_
        refine g_iaddN (a := (n / 2 ^ kt) % 100000) (b := 137 * kt) E dL_tells_57 ?_
        obtain ⟨vb, evb⟩ : ∃ n9, n9 = n / 2 ^ kt % 100000 + 137 * kt := ⟨_, rfl⟩
        have hvb : vb < 101000 := by omega
        clear hmk hnk
        refine g_top (y := nI vb) (congrArg nI evb.symm) ?_
        refine g_istore (lv' := [(6, .int (nI vb)), (5, .int (nI va)), (0, .ref (x.1 0)), (1, .int (nI m)), (2, .int (nI n)), (3, .int 1), (4, .int (nI kt))]) E dL_tells_58 (by decide) rfl ?_
        refine g_aload_n E dL_tells_60 rfl 2 rfl ?_
        refine g_bipush (v := 109) E dL_tells_61 (by decide) ?_
        refine g_callSI (As := [.ref (x.1 0), .int 109]) (F := []) E (mL_says (x := x) hST hb5 (gAok_puts hA0 (tlA m n kt) (by rw [hN0]; omega)) (gX5_puts hX0 (tlA m n kt)) hCt 109 (by omega) (by rw [aPuts_N, hN0]; omega)) gL_tells_L_says rfl hdL_says ⟨Nat.le_of_ble_eq_true rfl, Nat.le_of_ble_eq_true rfl⟩ gPerm_n rfl rfl ?_ dL_tells_63 ⟨by show cst + 1 ≤ 200; omega, by show sst + 6 ≤ 1200; omega⟩ (fun rq24 uq24 hq24 => ?_)
        · exact Nat.le_of_ble_eq_true rfl
        refine g_perm (ws1 := wV G x uq24) gPerm_n' ?_
        obtain ⟨eq24, hCq24⟩ := hq24
        rw [aPuts_snoc] at hCq24
        obtain ⟨Lq24, eLq24, lLq24⟩ : ∃ l : List Nat, l = ((tlA m n kt) ++ [109]) ∧ l.length = (tlA m n kt).length + 1 := ⟨_, rfl, by rw [List.length_append]; rfl⟩
        rw [← eLq24] at hCq24
        refine g_top (y := 1) eq24 ?_
        refine g_if_eq (tgt := 271) E dL_tells_66 (by decide) (fun c => absurd c (by decide)) (fun _ => ?_)
        refine g_aload_n E dL_tells_69 rfl 2 rfl ?_
        refine g_bipush (v := 97) E dL_tells_70 (by decide) ?_
        refine g_callSI (As := [.ref (x.1 0), .int 97]) (F := []) E (mL_says (x := x) hST hb5 (gAok_puts hA0 Lq24 (by rw [hN0]; omega)) (gX5_puts hX0 Lq24) hCq24 97 (by omega) (by rw [aPuts_N, hN0]; omega)) gL_tells_L_says rfl hdL_says ⟨Nat.le_of_ble_eq_true rfl, Nat.le_of_ble_eq_true rfl⟩ gPerm_n rfl rfl ?_ dL_tells_72 ⟨by show (cst + 1) + 1 ≤ 200; omega, by show (sst + 6) + 6 ≤ 1200; omega⟩ (fun rq25 uq25 hq25 => ?_)
        · exact Nat.le_of_ble_eq_true rfl
        refine g_perm (ws1 := wV G x uq25) gPerm_n' ?_
        obtain ⟨eq25, hCq25⟩ := hq25
        rw [aPuts_snoc] at hCq25
        obtain ⟨Lq25, eLq25, lLq25⟩ : ∃ l : List Nat, l = (Lq24 ++ [97]) ∧ l.length = (tlA m n kt).length + 2 := ⟨_, rfl, by rw [List.length_append, lLq24]; rfl⟩
        rw [← eLq25] at hCq25
        clear lLq24
        refine g_top (y := 1) eq25 ?_
        refine g_if_eq (tgt := 271) E dL_tells_75 (by decide) (fun c => absurd c (by decide)) (fun _ => ?_)
        refine g_aload_n E dL_tells_78 rfl 2 rfl ?_
        refine g_bipush (v := 110) E dL_tells_79 (by decide) ?_
        refine g_callSI (As := [.ref (x.1 0), .int 110]) (F := []) E (mL_says (x := x) hST hb5 (gAok_puts hA0 Lq25 (by rw [hN0]; omega)) (gX5_puts hX0 Lq25) hCq25 110 (by omega) (by rw [aPuts_N, hN0]; omega)) gL_tells_L_says rfl hdL_says ⟨Nat.le_of_ble_eq_true rfl, Nat.le_of_ble_eq_true rfl⟩ gPerm_n rfl rfl ?_ dL_tells_81 ⟨by show (cst + 2) + 1 ≤ 200; omega, by show (sst + 12) + 6 ≤ 1200; omega⟩ (fun rq26 uq26 hq26 => ?_)
        · exact Nat.le_of_ble_eq_true rfl
        refine g_perm (ws1 := wV G x uq26) gPerm_n' ?_
        obtain ⟨eq26, hCq26⟩ := hq26
        rw [aPuts_snoc] at hCq26
        obtain ⟨Lq26, eLq26, lLq26⟩ : ∃ l : List Nat, l = (Lq25 ++ [110]) ∧ l.length = (tlA m n kt).length + 3 := ⟨_, rfl, by rw [List.length_append, lLq25]; rfl⟩
        rw [← eLq26] at hCq26
        clear lLq25
        refine g_top (y := 1) eq26 ?_
        refine g_if_eq (tgt := 271) E dL_tells_84 (by decide) (fun c => absurd c (by decide)) (fun _ => ?_)
        refine g_aload_n E dL_tells_87 rfl 2 rfl ?_
        refine g_iload E dL_tells_88 1 rfl ?_
        refine g_iconst (v := 4) E dL_tells_90 (by decide) ?_
        refine g_iremN (a := va) (b := 4) E dL_tells_91 (by omega) (by omega) (by omega) ?_
        refine g_callSI (As := [.ref (x.1 0), .int (nI (va % 4))]) (F := []) E (mL_digit (x := x) hST hb (gAok_puts hA0 Lq26 (by rw [hN0]; omega)) (gX5_puts hX0 Lq26) hCq26 (va % 4) (by omega) (by rw [aPuts_N, hN0]; omega)) gL_tells_L_digit rfl hdL_digit ⟨Nat.le_of_ble_eq_true rfl, Nat.le_of_ble_eq_true rfl⟩ gPerm_n rfl rfl ?_ dL_tells_92 ⟨by show (cst + 3) + 2 ≤ 200; omega, by show (sst + 18) + 12 ≤ 1200; omega⟩ (fun rq27 uq27 hq27 => ?_)
        · exact Nat.le_of_ble_eq_true rfl
        refine g_perm (ws1 := wV G x uq27) gPerm_n' ?_
        obtain ⟨eq27, hCq27⟩ := hq27
        rw [aPuts_snoc] at hCq27
        rw [aPuts_snoc] at hCq27
        obtain ⟨Lq27, eLq27, lLq27⟩ : ∃ l : List Nat, l = ((Lq26 ++ [44]) ++ [48 + (va % 4)]) ∧ l.length = (tlA m n kt).length + 5 := ⟨_, rfl, by rw [List.length_append, List.length_append, lLq26]; rfl⟩
        rw [← eLq27] at hCq27
        clear lLq26
        refine g_top (y := 1) eq27 ?_
        refine g_if_eq (tgt := 271) E dL_tells_95 (by decide) (fun c => absurd c (by decide)) (fun _ => ?_)
        refine g_aload_n E dL_tells_98 rfl 2 rfl ?_
        refine g_bipush (v := 59) E dL_tells_99 (by decide) ?_
        refine g_callSI (As := [.ref (x.1 0), .int 59]) (F := []) E (mL_says (x := x) hST hb5 (gAok_puts hA0 Lq27 (by rw [hN0]; omega)) (gX5_puts hX0 Lq27) hCq27 59 (by omega) (by rw [aPuts_N, hN0]; omega)) gL_tells_L_says rfl hdL_says ⟨Nat.le_of_ble_eq_true rfl, Nat.le_of_ble_eq_true rfl⟩ gPerm_n rfl rfl ?_ dL_tells_101 ⟨by show (cst + 5) + 1 ≤ 200; omega, by show (sst + 30) + 6 ≤ 1200; omega⟩ (fun rq28 uq28 hq28 => ?_)
        · exact Nat.le_of_ble_eq_true rfl
        refine g_perm (ws1 := wV G x uq28) gPerm_n' ?_
        obtain ⟨eq28, hCq28⟩ := hq28
        rw [aPuts_snoc] at hCq28
        obtain ⟨Lq28, eLq28, lLq28⟩ : ∃ l : List Nat, l = (Lq27 ++ [59]) ∧ l.length = (tlA m n kt).length + 6 := ⟨_, rfl, by rw [List.length_append, lLq27]; rfl⟩
        rw [← eLq28] at hCq28
        clear lLq27
        refine g_top (y := 1) eq28 ?_
        refine g_if_eq (tgt := 271) E dL_tells_104 (by decide) (fun c => absurd c (by decide)) (fun _ => ?_)
        refine g_aload_n E dL_tells_107 rfl 2 rfl ?_
        refine g_bipush (v := 109) E dL_tells_108 (by decide) ?_
        refine g_callSI (As := [.ref (x.1 0), .int 109]) (F := []) E (mL_says (x := x) hST hb5 (gAok_puts hA0 Lq28 (by rw [hN0]; omega)) (gX5_puts hX0 Lq28) hCq28 109 (by omega) (by rw [aPuts_N, hN0]; omega)) gL_tells_L_says rfl hdL_says ⟨Nat.le_of_ble_eq_true rfl, Nat.le_of_ble_eq_true rfl⟩ gPerm_n rfl rfl ?_ dL_tells_110 ⟨by show (cst + 6) + 1 ≤ 200; omega, by show (sst + 36) + 6 ≤ 1200; omega⟩ (fun rq29 uq29 hq29 => ?_)
        · exact Nat.le_of_ble_eq_true rfl
        refine g_perm (ws1 := wV G x uq29) gPerm_n' ?_
        obtain ⟨eq29, hCq29⟩ := hq29
        rw [aPuts_snoc] at hCq29
        obtain ⟨Lq29, eLq29, lLq29⟩ : ∃ l : List Nat, l = (Lq28 ++ [109]) ∧ l.length = (tlA m n kt).length + 7 := ⟨_, rfl, by rw [List.length_append, lLq28]; rfl⟩
        rw [← eLq29] at hCq29
        clear lLq28
        refine g_top (y := 1) eq29 ?_
        refine g_if_eq (tgt := 271) E dL_tells_113 (by decide) (fun c => absurd c (by decide)) (fun _ => ?_)
        refine g_aload_n E dL_tells_116 rfl 2 rfl ?_
        refine g_bipush (v := 97) E dL_tells_117 (by decide) ?_
        refine g_callSI (As := [.ref (x.1 0), .int 97]) (F := []) E (mL_says (x := x) hST hb5 (gAok_puts hA0 Lq29 (by rw [hN0]; omega)) (gX5_puts hX0 Lq29) hCq29 97 (by omega) (by rw [aPuts_N, hN0]; omega)) gL_tells_L_says rfl hdL_says ⟨Nat.le_of_ble_eq_true rfl, Nat.le_of_ble_eq_true rfl⟩ gPerm_n rfl rfl ?_ dL_tells_119 ⟨by show (cst + 7) + 1 ≤ 200; omega, by show (sst + 42) + 6 ≤ 1200; omega⟩ (fun rq30 uq30 hq30 => ?_)
        · exact Nat.le_of_ble_eq_true rfl
        refine g_perm (ws1 := wV G x uq30) gPerm_n' ?_
        obtain ⟨eq30, hCq30⟩ := hq30
        rw [aPuts_snoc] at hCq30
        obtain ⟨Lq30, eLq30, lLq30⟩ : ∃ l : List Nat, l = (Lq29 ++ [97]) ∧ l.length = (tlA m n kt).length + 8 := ⟨_, rfl, by rw [List.length_append, lLq29]; rfl⟩
        rw [← eLq30] at hCq30
        clear lLq29
        refine g_top (y := 1) eq30 ?_
        refine g_if_eq (tgt := 271) E dL_tells_122 (by decide) (fun c => absurd c (by decide)) (fun _ => ?_)
        refine g_aload_n E dL_tells_125 rfl 2 rfl ?_
        refine g_bipush (v := 121) E dL_tells_126 (by decide) ?_
        refine g_callSI (As := [.ref (x.1 0), .int 121]) (F := []) E (mL_says (x := x) hST hb5 (gAok_puts hA0 Lq30 (by rw [hN0]; omega)) (gX5_puts hX0 Lq30) hCq30 121 (by omega) (by rw [aPuts_N, hN0]; omega)) gL_tells_L_says rfl hdL_says ⟨Nat.le_of_ble_eq_true rfl, Nat.le_of_ble_eq_true rfl⟩ gPerm_n rfl rfl ?_ dL_tells_128 ⟨by show (cst + 8) + 1 ≤ 200; omega, by show (sst + 48) + 6 ≤ 1200; omega⟩ (fun rq31 uq31 hq31 => ?_)
        · exact Nat.le_of_ble_eq_true rfl
        refine g_perm (ws1 := wV G x uq31) gPerm_n' ?_
        obtain ⟨eq31, hCq31⟩ := hq31
        rw [aPuts_snoc] at hCq31
        obtain ⟨Lq31, eLq31, lLq31⟩ : ∃ l : List Nat, l = (Lq30 ++ [121]) ∧ l.length = (tlA m n kt).length + 9 := ⟨_, rfl, by rw [List.length_append, lLq30]; rfl⟩
        rw [← eLq31] at hCq31
        clear lLq30
        refine g_top (y := 1) eq31 ?_
        refine g_if_eq (tgt := 271) E dL_tells_131 (by decide) (fun c => absurd c (by decide)) (fun _ => ?_)
        refine g_aload_n E dL_tells_134 rfl 2 rfl ?_
        refine g_iload E dL_tells_135 6 rfl ?_
        refine g_callSI (As := [.ref (x.1 0), .int (nI kt)]) (F := []) E (mL_digit (x := x) hST hb (gAok_puts hA0 Lq31 (by rw [hN0]; omega)) (gX5_puts hX0 Lq31) hCq31 kt (by omega) (by rw [aPuts_N, hN0]; omega)) gL_tells_L_digit rfl hdL_digit ⟨Nat.le_of_ble_eq_true rfl, Nat.le_of_ble_eq_true rfl⟩ gPerm_n rfl rfl ?_ dL_tells_137 ⟨by show (cst + 9) + 2 ≤ 200; omega, by show (sst + 54) + 12 ≤ 1200; omega⟩ (fun rq32 uq32 hq32 => ?_)
        · exact Nat.le_of_ble_eq_true rfl
        refine g_perm (ws1 := wV G x uq32) gPerm_n' ?_
        obtain ⟨eq32, hCq32⟩ := hq32
        rw [aPuts_snoc] at hCq32
        rw [aPuts_snoc] at hCq32
        obtain ⟨Lq32, eLq32, lLq32⟩ : ∃ l : List Nat, l = ((Lq31 ++ [44]) ++ [48 + kt]) ∧ l.length = (tlA m n kt).length + 11 := ⟨_, rfl, by rw [List.length_append, List.length_append, lLq31]; rfl⟩
        rw [← eLq32] at hCq32
        clear lLq31
        refine g_top (y := 1) eq32 ?_
        refine g_if_eq (tgt := 271) E dL_tells_140 (by decide) (fun c => absurd c (by decide)) (fun _ => ?_)
        refine g_aload_n E dL_tells_143 rfl 2 rfl ?_
        refine g_iload E dL_tells_144 0 rfl ?_
        refine g_bipush (v := 10) E dL_tells_146 (by decide) ?_
        refine g_iremN (a := vb) (b := 10) E dL_tells_148 (by omega) (by omega) (by omega) ?_
        refine g_callSI (As := [.ref (x.1 0), .int (nI (vb % 10))]) (F := []) E (mL_digit (x := x) hST hb (gAok_puts hA0 Lq32 (by rw [hN0]; omega)) (gX5_puts hX0 Lq32) hCq32 (vb % 10) (by omega) (by rw [aPuts_N, hN0]; omega)) gL_tells_L_digit rfl hdL_digit ⟨Nat.le_of_ble_eq_true rfl, Nat.le_of_ble_eq_true rfl⟩ gPerm_n rfl rfl ?_ dL_tells_149 ⟨by show (cst + 11) + 2 ≤ 200; omega, by show (sst + 66) + 12 ≤ 1200; omega⟩ (fun rq33 uq33 hq33 => ?_)
        · exact Nat.le_of_ble_eq_true rfl
        refine g_perm (ws1 := wV G x uq33) gPerm_n' ?_
        obtain ⟨eq33, hCq33⟩ := hq33
        rw [aPuts_snoc] at hCq33
        rw [aPuts_snoc] at hCq33
        obtain ⟨Lq33, eLq33, lLq33⟩ : ∃ l : List Nat, l = ((Lq32 ++ [44]) ++ [48 + (vb % 10)]) ∧ l.length = (tlA m n kt).length + 13 := ⟨_, rfl, by rw [List.length_append, List.length_append, lLq32]; rfl⟩
        rw [← eLq33] at hCq33
        clear lLq32
        refine g_top (y := 1) eq33 ?_
        refine g_if_eq (tgt := 271) E dL_tells_152 (by decide) (fun c => absurd c (by decide)) (fun _ => ?_)
        refine g_aload_n E dL_tells_155 rfl 2 rfl ?_
        refine g_bipush (v := 59) E dL_tells_156 (by decide) ?_
        refine g_callSI (As := [.ref (x.1 0), .int 59]) (F := []) E (mL_says (x := x) hST hb5 (gAok_puts hA0 Lq33 (by rw [hN0]; omega)) (gX5_puts hX0 Lq33) hCq33 59 (by omega) (by rw [aPuts_N, hN0]; omega)) gL_tells_L_says rfl hdL_says ⟨Nat.le_of_ble_eq_true rfl, Nat.le_of_ble_eq_true rfl⟩ gPerm_n rfl rfl ?_ dL_tells_158 ⟨by show (cst + 13) + 1 ≤ 200; omega, by show (sst + 78) + 6 ≤ 1200; omega⟩ (fun rq34 uq34 hq34 => ?_)
        · exact Nat.le_of_ble_eq_true rfl
        refine g_perm (ws1 := wV G x uq34) gPerm_n' ?_
        obtain ⟨eq34, hCq34⟩ := hq34
        rw [aPuts_snoc] at hCq34
        obtain ⟨Lq34, eLq34, lLq34⟩ : ∃ l : List Nat, l = (Lq33 ++ [59]) ∧ l.length = (tlA m n kt).length + 14 := ⟨_, rfl, by rw [List.length_append, lLq33]; rfl⟩
        rw [← eLq34] at hCq34
        clear lLq33
        refine g_top (y := 1) eq34 ?_
        refine g_if_eq (tgt := 271) E dL_tells_161 (by decide) (fun c => absurd c (by decide)) (fun _ => ?_)
        refine g_iload E dL_tells_164 6 rfl ?_
        refine g_iconst (v := 2) E dL_tells_166 (by decide) ?_
        refine g_iremN (a := kt) (b := 2) E dL_tells_167 (by omega) (by omega) (by omega) ?_
        refine g_iconst (v := 1) E dL_tells_168 (by decide) ?_
        refine g_icmp_eqN (tgt := 267) (a := kt % 2) (b := 1) E dL_tells_169 (by decide) (by omega) (by omega) (fun c35 => ?_) (fun c35 => ?_)
        · skip
          refine g_iconst (v := 1) E dL_tells_267 (by decide) ?_
          refine g_goto (tgt := 272) E dL_tells_268 (by decide) ?_
          refine g_istore_n (lv' := [(3, .int 1), (6, .int (nI vb)), (5, .int (nI va)), (0, .ref (x.1 0)), (1, .int (nI m)), (2, .int (nI n)), (4, .int (nI kt))]) E dL_tells_272 rfl (by decide) rfl ?_
          refine g_iinc (lv' := [(4, .int (nI (kt + 1))), (3, .int 1), (6, .int (nI vb)), (5, .int (nI va)), (0, .ref (x.1 0)), (1, .int (nI m)), (2, .int (nI n))]) E dL_tells_273 6 rfl (g_inc _ 1 (by decide)) (by decide) rfl ?_
          refine g_goto (tgt := 16) E dL_tells_276 (by decide) ?_
          refine g_lv [4, 5, 6, 1, 0] rfl ?_
          exact ih4  (kt + 1) uq34 (cst + 14) (sst + 84) (by omega) (by have e : tlA m n (kt + 1) = Lq34 := (by rw [eLq34, eLq33, eLq32, eLq31, eLq30, eLq29, eLq28, eLq27, eLq26, eLq25, eLq24, eva, evb]; show tlA m n kt ++ tlC m n kt = _; unfold tlC tlM; rw [if_pos c35]; simp only [List.append_assoc, List.cons_append, List.nil_append, List.append_nil]); rw [e]; exact hCq34) (by omega) (by omega) (by omega)
        · skip
          refine g_aload_n E dL_tells_172 rfl 2 rfl ?_
          refine g_bipush (v := 98) E dL_tells_173 (by decide) ?_
          refine g_callSI (As := [.ref (x.1 0), .int 98]) (F := []) E (mL_says (x := x) hST hb5 (gAok_puts hA0 Lq34 (by rw [hN0]; omega)) (gX5_puts hX0 Lq34) hCq34 98 (by omega) (by rw [aPuts_N, hN0]; omega)) gL_tells_L_says rfl hdL_says ⟨Nat.le_of_ble_eq_true rfl, Nat.le_of_ble_eq_true rfl⟩ gPerm_n rfl rfl ?_ dL_tells_175 ⟨by show (cst + 14) + 1 ≤ 200; omega, by show (sst + 84) + 6 ≤ 1200; omega⟩ (fun rq36 uq36 hq36 => ?_)
          · exact Nat.le_of_ble_eq_true rfl
          refine g_perm (ws1 := wV G x uq36) gPerm_n' ?_
          obtain ⟨eq36, hCq36⟩ := hq36
          rw [aPuts_snoc] at hCq36
          obtain ⟨Lq36, eLq36, lLq36⟩ : ∃ l : List Nat, l = (Lq34 ++ [98]) ∧ l.length = (tlA m n kt).length + 15 := ⟨_, rfl, by rw [List.length_append, lLq34]; rfl⟩
          rw [← eLq36] at hCq36
          clear lLq34
          refine g_top (y := 1) eq36 ?_
          refine g_if_eq (tgt := 271) E dL_tells_178 (by decide) (fun c => absurd c (by decide)) (fun _ => ?_)
          refine g_aload_n E dL_tells_181 rfl 2 rfl ?_
          refine g_bipush (v := 111) E dL_tells_182 (by decide) ?_
          refine g_callSI (As := [.ref (x.1 0), .int 111]) (F := []) E (mL_says (x := x) hST hb5 (gAok_puts hA0 Lq36 (by rw [hN0]; omega)) (gX5_puts hX0 Lq36) hCq36 111 (by omega) (by rw [aPuts_N, hN0]; omega)) gL_tells_L_says rfl hdL_says ⟨Nat.le_of_ble_eq_true rfl, Nat.le_of_ble_eq_true rfl⟩ gPerm_n rfl rfl ?_ dL_tells_184 ⟨by show (cst + 15) + 1 ≤ 200; omega, by show (sst + 90) + 6 ≤ 1200; omega⟩ (fun rq37 uq37 hq37 => ?_)
          · exact Nat.le_of_ble_eq_true rfl
          refine g_perm (ws1 := wV G x uq37) gPerm_n' ?_
          obtain ⟨eq37, hCq37⟩ := hq37
          rw [aPuts_snoc] at hCq37
          obtain ⟨Lq37, eLq37, lLq37⟩ : ∃ l : List Nat, l = (Lq36 ++ [111]) ∧ l.length = (tlA m n kt).length + 16 := ⟨_, rfl, by rw [List.length_append, lLq36]; rfl⟩
          rw [← eLq37] at hCq37
          clear lLq36
          refine g_top (y := 1) eq37 ?_
          refine g_if_eq (tgt := 271) E dL_tells_187 (by decide) (fun c => absurd c (by decide)) (fun _ => ?_)
          refine g_aload_n E dL_tells_190 rfl 2 rfl ?_
          refine g_bipush (v := 111) E dL_tells_191 (by decide) ?_
          refine g_callSI (As := [.ref (x.1 0), .int 111]) (F := []) E (mL_says (x := x) hST hb5 (gAok_puts hA0 Lq37 (by rw [hN0]; omega)) (gX5_puts hX0 Lq37) hCq37 111 (by omega) (by rw [aPuts_N, hN0]; omega)) gL_tells_L_says rfl hdL_says ⟨Nat.le_of_ble_eq_true rfl, Nat.le_of_ble_eq_true rfl⟩ gPerm_n rfl rfl ?_ dL_tells_193 ⟨by show (cst + 16) + 1 ≤ 200; omega, by show (sst + 96) + 6 ≤ 1200; omega⟩ (fun rq38 uq38 hq38 => ?_)
          · exact Nat.le_of_ble_eq_true rfl
          refine g_perm (ws1 := wV G x uq38) gPerm_n' ?_
          obtain ⟨eq38, hCq38⟩ := hq38
          rw [aPuts_snoc] at hCq38
          obtain ⟨Lq38, eLq38, lLq38⟩ : ∃ l : List Nat, l = (Lq37 ++ [111]) ∧ l.length = (tlA m n kt).length + 17 := ⟨_, rfl, by rw [List.length_append, lLq37]; rfl⟩
          rw [← eLq38] at hCq38
          clear lLq37
          refine g_top (y := 1) eq38 ?_
          refine g_if_eq (tgt := 271) E dL_tells_196 (by decide) (fun c => absurd c (by decide)) (fun _ => ?_)
          refine g_aload_n E dL_tells_199 rfl 2 rfl ?_
          refine g_bipush (v := 107) E dL_tells_200 (by decide) ?_
          refine g_callSI (As := [.ref (x.1 0), .int 107]) (F := []) E (mL_says (x := x) hST hb5 (gAok_puts hA0 Lq38 (by rw [hN0]; omega)) (gX5_puts hX0 Lq38) hCq38 107 (by omega) (by rw [aPuts_N, hN0]; omega)) gL_tells_L_says rfl hdL_says ⟨Nat.le_of_ble_eq_true rfl, Nat.le_of_ble_eq_true rfl⟩ gPerm_n rfl rfl ?_ dL_tells_202 ⟨by show (cst + 17) + 1 ≤ 200; omega, by show (sst + 102) + 6 ≤ 1200; omega⟩ (fun rq39 uq39 hq39 => ?_)
          · exact Nat.le_of_ble_eq_true rfl
          refine g_perm (ws1 := wV G x uq39) gPerm_n' ?_
          obtain ⟨eq39, hCq39⟩ := hq39
          rw [aPuts_snoc] at hCq39
          obtain ⟨Lq39, eLq39, lLq39⟩ : ∃ l : List Nat, l = (Lq38 ++ [107]) ∧ l.length = (tlA m n kt).length + 18 := ⟨_, rfl, by rw [List.length_append, lLq38]; rfl⟩
          rw [← eLq39] at hCq39
          clear lLq38
          refine g_top (y := 1) eq39 ?_
          refine g_if_eq (tgt := 271) E dL_tells_205 (by decide) (fun c => absurd c (by decide)) (fun _ => ?_)
          refine g_aload_n E dL_tells_208 rfl 2 rfl ?_
          refine g_iload E dL_tells_209 6 rfl ?_
          refine g_callSI (As := [.ref (x.1 0), .int (nI kt)]) (F := []) E (mL_digit (x := x) hST hb (gAok_puts hA0 Lq39 (by rw [hN0]; omega)) (gX5_puts hX0 Lq39) hCq39 kt (by omega) (by rw [aPuts_N, hN0]; omega)) gL_tells_L_digit rfl hdL_digit ⟨Nat.le_of_ble_eq_true rfl, Nat.le_of_ble_eq_true rfl⟩ gPerm_n rfl rfl ?_ dL_tells_211 ⟨by show (cst + 18) + 2 ≤ 200; omega, by show (sst + 108) + 12 ≤ 1200; omega⟩ (fun rq40 uq40 hq40 => ?_)
          · exact Nat.le_of_ble_eq_true rfl
          refine g_perm (ws1 := wV G x uq40) gPerm_n' ?_
          obtain ⟨eq40, hCq40⟩ := hq40
          rw [aPuts_snoc] at hCq40
          rw [aPuts_snoc] at hCq40
          obtain ⟨Lq40, eLq40, lLq40⟩ : ∃ l : List Nat, l = ((Lq39 ++ [44]) ++ [48 + kt]) ∧ l.length = (tlA m n kt).length + 20 := ⟨_, rfl, by rw [List.length_append, List.length_append, lLq39]; rfl⟩
          rw [← eLq40] at hCq40
          clear lLq39
          refine g_top (y := 1) eq40 ?_
          refine g_if_eq (tgt := 271) E dL_tells_214 (by decide) (fun c => absurd c (by decide)) (fun _ => ?_)
          refine g_aload_n E dL_tells_217 rfl 2 rfl ?_
          refine g_iload E dL_tells_218 0 rfl ?_
          refine g_bipush (v := 10) E dL_tells_220 (by decide) ?_
          refine g_iremN (a := vb) (b := 10) E dL_tells_222 (by omega) (by omega) (by omega) ?_
          refine g_callSI (As := [.ref (x.1 0), .int (nI (vb % 10))]) (F := []) E (mL_digit (x := x) hST hb (gAok_puts hA0 Lq40 (by rw [hN0]; omega)) (gX5_puts hX0 Lq40) hCq40 (vb % 10) (by omega) (by rw [aPuts_N, hN0]; omega)) gL_tells_L_digit rfl hdL_digit ⟨Nat.le_of_ble_eq_true rfl, Nat.le_of_ble_eq_true rfl⟩ gPerm_n rfl rfl ?_ dL_tells_223 ⟨by show (cst + 20) + 2 ≤ 200; omega, by show (sst + 120) + 12 ≤ 1200; omega⟩ (fun rq41 uq41 hq41 => ?_)
          · exact Nat.le_of_ble_eq_true rfl
          refine g_perm (ws1 := wV G x uq41) gPerm_n' ?_
          obtain ⟨eq41, hCq41⟩ := hq41
          rw [aPuts_snoc] at hCq41
          rw [aPuts_snoc] at hCq41
          obtain ⟨Lq41, eLq41, lLq41⟩ : ∃ l : List Nat, l = ((Lq40 ++ [44]) ++ [48 + (vb % 10)]) ∧ l.length = (tlA m n kt).length + 22 := ⟨_, rfl, by rw [List.length_append, List.length_append, lLq40]; rfl⟩
          rw [← eLq41] at hCq41
          clear lLq40
          refine g_top (y := 1) eq41 ?_
          refine g_if_eq (tgt := 271) E dL_tells_226 (by decide) (fun c => absurd c (by decide)) (fun _ => ?_)
          refine g_aload_n E dL_tells_229 rfl 2 rfl ?_
          refine g_iload E dL_tells_230 1 rfl ?_
          refine g_iconst (v := 4) E dL_tells_232 (by decide) ?_
          refine g_idivN (a := va) (b := 4) E dL_tells_233 (by omega) (by omega) (by omega) ?_
          refine g_bipush (v := 9) E dL_tells_234 (by decide) ?_
          refine g_iremN (a := va / 4) (b := 9) E dL_tells_236 (by omega) (by omega) (by omega) ?_
          refine g_callSI (As := [.ref (x.1 0), .int (nI ((va / 4) % 9))]) (F := []) E (mL_digit (x := x) hST hb (gAok_puts hA0 Lq41 (by rw [hN0]; omega)) (gX5_puts hX0 Lq41) hCq41 ((va / 4) % 9) (by omega) (by rw [aPuts_N, hN0]; omega)) gL_tells_L_digit rfl hdL_digit ⟨Nat.le_of_ble_eq_true rfl, Nat.le_of_ble_eq_true rfl⟩ gPerm_n rfl rfl ?_ dL_tells_237 ⟨by show (cst + 22) + 2 ≤ 200; omega, by show (sst + 132) + 12 ≤ 1200; omega⟩ (fun rq42 uq42 hq42 => ?_)
          · exact Nat.le_of_ble_eq_true rfl
          refine g_perm (ws1 := wV G x uq42) gPerm_n' ?_
          obtain ⟨eq42, hCq42⟩ := hq42
          rw [aPuts_snoc] at hCq42
          rw [aPuts_snoc] at hCq42
          obtain ⟨Lq42, eLq42, lLq42⟩ : ∃ l : List Nat, l = ((Lq41 ++ [44]) ++ [48 + ((va / 4) % 9)]) ∧ l.length = (tlA m n kt).length + 24 := ⟨_, rfl, by rw [List.length_append, List.length_append, lLq41]; rfl⟩
          rw [← eLq42] at hCq42
          clear lLq41
          refine g_top (y := 1) eq42 ?_
          refine g_if_eq (tgt := 271) E dL_tells_240 (by decide) (fun c => absurd c (by decide)) (fun _ => ?_)
          refine g_aload_n E dL_tells_243 rfl 2 rfl ?_
          refine g_iload E dL_tells_244 0 rfl ?_
          refine g_bipush (v := 10) E dL_tells_246 (by decide) ?_
          refine g_idivN (a := vb) (b := 10) E dL_tells_248 (by omega) (by omega) (by omega) ?_
          refine g_bipush (v := 8) E dL_tells_249 (by decide) ?_
          refine g_iremN (a := vb / 10) (b := 8) E dL_tells_251 (by omega) (by omega) (by omega) ?_
          refine g_callSI (As := [.ref (x.1 0), .int (nI ((vb / 10) % 8))]) (F := []) E (mL_digit (x := x) hST hb (gAok_puts hA0 Lq42 (by rw [hN0]; omega)) (gX5_puts hX0 Lq42) hCq42 ((vb / 10) % 8) (by omega) (by rw [aPuts_N, hN0]; omega)) gL_tells_L_digit rfl hdL_digit ⟨Nat.le_of_ble_eq_true rfl, Nat.le_of_ble_eq_true rfl⟩ gPerm_n rfl rfl ?_ dL_tells_252 ⟨by show (cst + 24) + 2 ≤ 200; omega, by show (sst + 144) + 12 ≤ 1200; omega⟩ (fun rq43 uq43 hq43 => ?_)
          · exact Nat.le_of_ble_eq_true rfl
          refine g_perm (ws1 := wV G x uq43) gPerm_n' ?_
          obtain ⟨eq43, hCq43⟩ := hq43
          rw [aPuts_snoc] at hCq43
          rw [aPuts_snoc] at hCq43
          obtain ⟨Lq43, eLq43, lLq43⟩ : ∃ l : List Nat, l = ((Lq42 ++ [44]) ++ [48 + ((vb / 10) % 8)]) ∧ l.length = (tlA m n kt).length + 26 := ⟨_, rfl, by rw [List.length_append, List.length_append, lLq42]; rfl⟩
          rw [← eLq43] at hCq43
          clear lLq42
          refine g_top (y := 1) eq43 ?_
          refine g_if_eq (tgt := 271) E dL_tells_255 (by decide) (fun c => absurd c (by decide)) (fun _ => ?_)
          refine g_aload_n E dL_tells_258 rfl 2 rfl ?_
          refine g_bipush (v := 59) E dL_tells_259 (by decide) ?_
          refine g_callSI (As := [.ref (x.1 0), .int 59]) (F := []) E (mL_says (x := x) hST hb5 (gAok_puts hA0 Lq43 (by rw [hN0]; omega)) (gX5_puts hX0 Lq43) hCq43 59 (by omega) (by rw [aPuts_N, hN0]; omega)) gL_tells_L_says rfl hdL_says ⟨Nat.le_of_ble_eq_true rfl, Nat.le_of_ble_eq_true rfl⟩ gPerm_n rfl rfl ?_ dL_tells_261 ⟨by show (cst + 26) + 1 ≤ 200; omega, by show (sst + 156) + 6 ≤ 1200; omega⟩ (fun rq44 uq44 hq44 => ?_)
          · exact Nat.le_of_ble_eq_true rfl
          refine g_perm (ws1 := wV G x uq44) gPerm_n' ?_
          obtain ⟨eq44, hCq44⟩ := hq44
          rw [aPuts_snoc] at hCq44
          obtain ⟨Lq44, eLq44, lLq44⟩ : ∃ l : List Nat, l = (Lq43 ++ [59]) ∧ l.length = (tlA m n kt).length + 27 := ⟨_, rfl, by rw [List.length_append, lLq43]; rfl⟩
          rw [← eLq44] at hCq44
          clear lLq43
          refine g_top (y := 1) eq44 ?_
          refine g_if_eq (tgt := 271) E dL_tells_264 (by decide) (fun c => absurd c (by decide)) (fun _ => ?_)
          refine g_iconst (v := 1) E dL_tells_267 (by decide) ?_
          refine g_goto (tgt := 272) E dL_tells_268 (by decide) ?_
          refine g_istore_n (lv' := [(3, .int 1), (6, .int (nI vb)), (5, .int (nI va)), (0, .ref (x.1 0)), (1, .int (nI m)), (2, .int (nI n)), (4, .int (nI kt))]) E dL_tells_272 rfl (by decide) rfl ?_
          refine g_iinc (lv' := [(4, .int (nI (kt + 1))), (3, .int 1), (6, .int (nI vb)), (5, .int (nI va)), (0, .ref (x.1 0)), (1, .int (nI m)), (2, .int (nI n))]) E dL_tells_273 6 rfl (g_inc _ 1 (by decide)) (by decide) rfl ?_
          refine g_goto (tgt := 16) E dL_tells_276 (by decide) ?_
          refine g_lv [4, 5, 6, 1, 0] rfl ?_
          exact ih4  (kt + 1) uq44 (cst + 27) (sst + 162) (by omega) (by have e : tlA m n (kt + 1) = Lq44 := (by rw [eLq44, eLq43, eLq42, eLq41, eLq40, eLq39, eLq38, eLq37, eLq36, eLq34, eLq33, eLq32, eLq31, eLq30, eLq29, eLq28, eLq27, eLq26, eLq25, eLq24, eva, evb]; show tlA m n kt ++ tlC m n kt = _; unfold tlC tlM tlB; rw [if_neg c35]; simp only [List.append_assoc, List.cons_append, List.nil_append, List.append_nil]); rw [e]; exact hCq44) (by omega) (by omega) (by omega)
  refine g_lv [2, 3, 4, 1, 0] rfl ?_
  exact loop2 _ 0 uq1 0 0 (Nat.zero_le _) hC0 (by omega) (by omega) (Nat.lt_succ_self _)
