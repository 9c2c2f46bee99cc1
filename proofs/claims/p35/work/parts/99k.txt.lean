set_option maxHeartbeats 4000000 in
set_option maxRecDepth 100000 in
theorem mX7_append (G : gG) (hST : (gl G).stackTraces = false) (m0 x1 x2 x3 x4 x5 x6 : Nat) (t0 t1 t2 : Nat) (n a wd : Nat) (sg nm : Nat → Int32) (R0 : gSt × (Nat × (Nat → gSt)) × (Nat → Option gSt)) (z : Int32) (hn : n ≤ 120) : CX G yX7_append wsX7_append 6 110 [.ref m0, .int z] [(m0, .inr (7, [.ref t0, .ref x1, .ref x2, .ref x3, .ref x4, .ref x5, .ref x6])), (t0, .inr (5, [.int (nI n), .ref t1, .int (nI a), .int (nI wd), .ref t2])), (t1, .inl (gy G 1, 120, .inl sg)), (t2, .inl (gy G 0, 4, .inl nm))] (fun (r : Int32) (u : Nat × (Nat → Int32)) => (fAppend ((n, sg), R0) z).1 = 0 ∧ r = (fAppend ((n, sg), R0) z).2.1 ∧ u = (fAppend ((n, sg), R0) z).2.2.1) (fun (cls : String) (u : Nat × (Nat → Int32)) => ∃ z0, (fAppend ((n, sg), R0) z).1 = z0 + 1 ∧ (["java/lang/IllegalArgumentException", "java/lang/IllegalStateException"] : List String)[z0]? = some cls ∧ u = (fAppend ((n, sg), R0) z).2.2.1) (fun u : Nat × (Nat → Int32) => [(m0, .inr (7, [.ref t0, .ref x1, .ref x2, .ref x3, .ref x4, .ref x5, .ref x6])), (t0, .inr (5, [.int (nI u.1), .ref t1, .int (nI a), .int (nI wd), .ref t2])), (t1, .inl (gy G 1, 120, .inl u.2)), (t2, .inl (gy G 0, 4, .inl nm))]) 1 6 := by
  refine g_enterCX (ty := .int) hST RX7 rfl (by decide) rfl (Nat.le_of_ble_eq_true rfl) ?_
  intro V E RET THR THW OUT
  refine g_iload_n E dX7_append_0 rfl 1 rfl ?_
  refine g_iconst (v := 0) E dX7_append_1 (by decide) ?_
  refine g_sipush (v := 255) E dX7_append_2 (by decide) ?_
  refine g_callSIe (F := [(m0, .inr (7, [.ref t0, .ref x1, .ref x2, .ref x3, .ref x4, .ref x5, .ref x6])), (t0, .inr (5, [.int (nI n), .ref t1, .int (nI a), .int (nI wd), .ref t2])), (t1, .inl (gy G 1, 120, .inl sg)), (t2, .inl (gy G 0, 4, .inl nm))]) (ws2 := [(m0, .inr (7, [.ref t0, .ref x1, .ref x2, .ref x3, .ref x4, .ref x5, .ref x6])), (t0, .inr (5, [.int (nI n), .ref t1, .int (nI a), .int (nI wd), .ref t2])), (t1, .inl (gy G 1, 120, .inl sg)), (t2, .inl (gy G 0, 4, .inl nm))]) E (mX7_isBetween G z 0 255) gX7_append_X7_isBetween rfl hnX7_isBetween ⟨Nat.le_of_ble_eq_true rfl, Nat.le_of_ble_eq_true rfl⟩ (gPerm_ix [0, 1, 2, 3] rfl rfl) rfl rfl (Nat.le_of_ble_eq_true rfl) dX7_append_5 ⟨Nat.le_of_ble_eq_true rfl, Nat.le_of_ble_eq_true rfl⟩ (gPerm_ix [0, 1, 2, 3] rfl rfl) ?_
  refine g_if_neB (tgt := 21) (P := (¬ z < 0 ∧ ¬ 255 < z)) E dX7_append_8 (by decide) (fun c1 => ?_) (fun c1 => ?_)
  · skip
    obtain ⟨j, hj, rfl⟩ := gNat_ofl (m := 255) c1 rfl rfl (by decide)
    refine g_aload_n E dX7_append_21 rfl 0 rfl ?_
    refine g_get E uX7_append_RX7 0 rfl rfl 0 (by decide) kX7_append_10 rfl rfl dX7_append_22 ?_
    refine g_callVIe (F := [(m0, .inr (7, [.ref t0, .ref x1, .ref x2, .ref x3, .ref x4, .ref x5, .ref x6]))]) (ws2 := [(m0, .inr (7, [.ref t0, .ref x1, .ref x2, .ref x3, .ref x4, .ref x5, .ref x6])), (t0, .inr (5, [.int (nI n), .ref t1, .int (nI a), .int (nI wd), .ref t2])), (t1, .inl (gy G 1, 120, .inl sg)), (t2, .inl (gy G 0, 4, .inl nm))]) E (mX5_isFull G t0 t1 t2 n a wd sg nm (by omega)) gX7_append_X5_isFull rfl hdX5_isFull ⟨Nat.le_of_ble_eq_true rfl, Nat.le_of_ble_eq_true rfl⟩ 5 0 rfl rfl rfl (gPerm_ix [1, 2, 3, 0] rfl rfl) rfl rfl (Nat.le_of_ble_eq_true rfl) dX7_append_25 ⟨Nat.le_of_ble_eq_true rfl, Nat.le_of_ble_eq_true rfl⟩ (gPerm_ix [3, 0, 1, 2] rfl rfl) ?_
    refine g_if_eqB (tgt := 41) (P := 120 ≤ n) E dX7_append_28 (by decide) (fun c2 => ?_) (fun c2 => ?_)
    · skip
      refine g_aload_n E dX7_append_41 rfl 0 rfl ?_
      refine g_get E uX7_append_RX7 0 rfl rfl 0 (by decide) kX7_append_10 rfl rfl dX7_append_42 ?_
      refine g_iload_n E dX7_append_45 rfl 1 rfl ?_
      refine g_callVIe (F := [(m0, .inr (7, [.ref t0, .ref x1, .ref x2, .ref x3, .ref x4, .ref x5, .ref x6]))]) (ws2 := [(m0, .inr (7, [.ref t0, .ref x1, .ref x2, .ref x3, .ref x4, .ref x5, .ref x6])), (t0, .inr (5, [.int (nI (n + 1)), .ref t1, .int (nI a), .int (nI wd), .ref t2])), (t1, .inl (gy G 1, 120, .inl (upd sg n (nI j)))), (t2, .inl (gy G 0, 4, .inl nm))]) E (mX5_add G t0 t1 t2 n a wd sg nm j (by omega) (by omega)) gX7_append_X5_add rfl hdX5_add ⟨Nat.le_of_ble_eq_true rfl, Nat.le_of_ble_eq_true rfl⟩ 5 0 rfl rfl rfl (gPerm_ix [1, 2, 3, 0] rfl rfl) rfl rfl (Nat.le_of_ble_eq_true rfl) dX7_append_46 ⟨Nat.le_of_ble_eq_true rfl, Nat.le_of_ble_eq_true rfl⟩ (gPerm_ix [3, 0, 1, 2] rfl rfl) ?_
      refine g_widen (k := 1) (n := 6) (by decide) (by decide) ?_
      exact RET _ _ _ (n + 1, upd sg n (nI j)) (⟨by rw [fAppend, if_pos c1, if_neg (show ¬ n = 120 by omega)], by rw [fAppend, if_pos c1, if_neg (show ¬ n = 120 by omega)], by rw [fAppend, if_pos c1, if_neg (show ¬ n = 120 by omega)]⟩) rfl dX7_append_49
    · skip
      exact THR _ 31 0 0 (n, sg) "java/lang/IllegalStateException" "the text is full" _ 61 63 65 12 (⟨1, by rw [fAppend, if_pos c1, if_pos (show n = 120 by omega)], rfl, by rw [fAppend, if_pos c1, if_pos (show n = 120 by omega)]⟩) tX7_append_61_65 rfl (by decide) (by decide) (by decide) (by decide) dX7_append_31 dX7_append_34 dX7_append_35 dX7_append_37 dX7_append_40
  · skip
    exact THR _ 11 0 0 (n, sg) "java/lang/IllegalArgumentException" "a character is 0 to 255" _ 50 52 54 11 (⟨0, by rw [fAppend, if_neg c1], rfl, by rw [fAppend, if_neg c1]⟩) tX7_append_50_54 rfl (by decide) (by decide) (by decide) (by decide) dX7_append_11 dX7_append_14 dX7_append_15 dX7_append_17 dX7_append_20
set_option maxHeartbeats 4000000 in
set_option maxRecDepth 100000 in
theorem mX7_clearText (G : gG) (m0 x1 x2 x3 x4 x5 x6 : Nat) (t0 t1 t2 : Nat) (n a wd : Nat) (sg nm : Nat → Int32) (hn : n ≤ 120) : CIe G yX7_clearText wsX7_clearText 1 21 [.ref m0] [(m0, .inr (7, [.ref t0, .ref x1, .ref x2, .ref x3, .ref x4, .ref x5, .ref x6])), (t0, .inr (5, [.int (nI n), .ref t1, .int (nI a), .int (nI wd), .ref t2])), (t1, .inl (gy G 1, 120, .inl sg)), (t2, .inl (gy G 0, 4, .inl nm))] (nI n) [(m0, .inr (7, [.ref t0, .ref x1, .ref x2, .ref x3, .ref x4, .ref x5, .ref x6])), (t0, .inr (5, [.int (nI 0), .ref t1, .int (nI a), .int (nI wd), .ref t2])), (t1, .inl (gy G 1, 120, .inl sg)), (t2, .inl (gy G 0, 4, .inl nm))] 0 0 := by
  refine g_enterIe (ty := .int) RX7 rfl (by decide) rfl (Nat.le_of_ble_eq_true rfl) ?_
  intro V E RET
  refine g_aload_n E dX7_clearText_0 rfl 0 rfl ?_
  refine g_get E uX7_clearText_RX7 0 rfl rfl 0 (by decide) kX7_clearText_10 rfl rfl dX7_clearText_1 ?_
  refine g_callVIe (F := [(m0, .inr (7, [.ref t0, .ref x1, .ref x2, .ref x3, .ref x4, .ref x5, .ref x6]))]) (ws2 := [(m0, .inr (7, [.ref t0, .ref x1, .ref x2, .ref x3, .ref x4, .ref x5, .ref x6])), (t0, .inr (5, [.int 0, .ref t1, .int (nI a), .int (nI wd), .ref t2])), (t1, .inl (gy G 1, 120, .inl sg)), (t2, .inl (gy G 0, 4, .inl nm))]) E (mX5_drop G t0 t1 t2 n a wd sg nm (by omega)) gX7_clearText_X5_drop rfl hdX5_drop ⟨Nat.le_of_ble_eq_true rfl, Nat.le_of_ble_eq_true rfl⟩ 5 0 rfl rfl rfl (gPerm_ix [1, 2, 3, 0] rfl rfl) rfl rfl (Nat.le_of_ble_eq_true rfl) dX7_clearText_4 ⟨Nat.le_of_ble_eq_true rfl, Nat.le_of_ble_eq_true rfl⟩ (gPerm_ix [3, 0, 1, 2] rfl rfl) ?_
  exact RET _ _ _ () (rfl) rfl dX7_clearText_7
set_option maxHeartbeats 4000000 in
set_option maxRecDepth 100000 in
theorem mX7_errorPosition (G : gG) (m0 x1 x2 x3 x4 x5 x6 : Nat) (t0 t1 t2 : Nat) (n a wd : Nat) (sg nm : Nat → Int32) (hn : n ≤ 120) : CIu G yX7_errorPosition wsX7_errorPosition 10 255 [.ref m0] [(m0, .inr (7, [.ref t0, .ref x1, .ref x2, .ref x3, .ref x4, .ref x5, .ref x6])), (t0, .inr (5, [.int (nI n), .ref t1, .int (nI a), .int (nI wd), .ref t2])), (t1, .inl (gy G 1, 120, .inl sg)), (t2, .inl (gy G 0, 4, .inl nm))] (aEI n sg) (fun _ : Nat × Nat × (Nat → Int32) => True) (fun (u : Nat × Nat × (Nat → Int32)) => [(m0, .inr (7, [.ref t0, .ref x1, .ref x2, .ref x3, .ref x4, .ref x5, .ref x6])), (t0, .inr (5, [.int (nI n), .ref t1, .int (nI u.1), .int (nI u.2.1), .ref t2])), (t1, .inl (gy G 1, 120, .inl sg)), (t2, .inl (gy G 0, 4, .inl u.2.2))]) 0 0 := by
  refine g_enterIu (ty := .int) RX7 rfl (by decide) rfl (Nat.le_of_ble_eq_true rfl) ?_
  intro V E RET
  refine g_aload_n E dX7_errorPosition_0 rfl 0 rfl ?_
  refine g_get E uX7_errorPosition_RX7 0 rfl rfl 0 (by decide) kX7_errorPosition_10 rfl rfl dX7_errorPosition_1 ?_
  refine g_callVIu (F := [(m0, .inr (7, [.ref t0, .ref x1, .ref x2, .ref x3, .ref x4, .ref x5, .ref x6]))]) E (mX5_errorIndex G t0 t1 t2 n a wd sg nm (by omega)) gX7_errorPosition_X5_errorIndex rfl hdX5_errorIndex ⟨Nat.le_of_ble_eq_true rfl, Nat.le_of_ble_eq_true rfl⟩ 5 0 rfl rfl rfl (gPerm_ix [1, 2, 3, 0] rfl rfl) rfl rfl (Nat.le_of_ble_eq_true rfl) dX7_errorPosition_4 ⟨Nat.le_of_ble_eq_true rfl, Nat.le_of_ble_eq_true rfl⟩ (fun u1 xA1 => ?_)
  obtain ⟨a1, w1, m1⟩ := u1
  refine g_perm (ws1 := [(m0, .inr (7, [.ref t0, .ref x1, .ref x2, .ref x3, .ref x4, .ref x5, .ref x6])), (t0, .inr (5, [.int (nI n), .ref t1, .int (nI a1), .int (nI w1), .ref t2])), (t1, .inl (gy G 1, 120, .inl sg)), (t2, .inl (gy G 0, 4, .inl m1))]) (gPerm_ix [3, 0, 1, 2] rfl rfl) ?_
  exact RET _ _ _ (a1, w1, m1) (⟨gEI_ind n sg 120 0 wd 0 nm (fun _ => 0), trivial⟩) rfl dX7_errorPosition_7
