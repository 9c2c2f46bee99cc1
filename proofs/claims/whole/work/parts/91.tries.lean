set_option maxHeartbeats 4000000 in
set_option maxRecDepth 100000 in
theorem mX8_isThere (G : gG) (m : Nat → Nat) (q : Nat → Int32) (S : gSt) (f : Nat → Int32) (p v : Nat) (hI : gI1 S) (hT : sN S 0 < 1000000000) (hRR : RR S f) (hp : p < 1000) (hv : v < 1000) : CIe G yX8_isThere wsX8_isThere 2 45 [.ref (m 0), .int (nI p), .int (nI v)] [(m 0, .inr (8, [.int (q 0), .ref (m 1), .int (q 1), .int (q 2), .int (q 3), .int (q 4), .ref (m 2), .ref (m 3), .ref (m 4), .ref (m 5), .int (q 5), .ref (m 6), .ref (m 7), .ref (m 8), .int (q 6), .int (q 7), .int (q 8)])), (m 4, .inl (gy G 0, 271, .inl f))] (if (p < sN S 1 ∧ v < 10) then 1 else 0) [(m 0, .inr (8, [.int (q 0), .ref (m 1), .int (q 1), .int (q 2), .int (q 3), .int (q 4), .ref (m 2), .ref (m 3), .ref (m 4), .ref (m 5), .int (q 5), .ref (m 6), .ref (m 7), .ref (m 8), .int (q 6), .int (q 7), .int (q 8)])), (m 4, .inl (gy G 0, 271, .inl f))] 0 0 := by
  refine g_enterIe (ty := .boolean) RX8 rfl (by decide) rfl (Nat.le_of_ble_eq_true rfl) ?_
  intro V E RET
  have hX := hI
  obtain ⟨hP8, hn, hw, hW8, hs3, hs4, hs5, hs6, hs7, hs8, hb34⟩ := hX
  refine g_iload_n E dX8_isThere_0 rfl 1 rfl ?_
  refine g_aload_n E dX8_isThere_1 rfl 0 rfl ?_
  refine g_get E uX8_isThere_RX8 0 rfl rfl 8 (by decide) kX8_isThere_19 rfl rfl dX8_isThere_2 ?_
  refine g_iconst (v := 1) E dX8_isThere_5 (by decide) ?_
  refine g_ialdN (e := 1) E 1 rfl (by omega) rfl (v := nI (sN S 1)) (RR_1 hRR) dX8_isThere_6 ?_
  refine g_icmp_geN (tgt := 21) (a := p) (b := sN S 1) E dX8_isThere_7 (by decide) (by omega) (by omega) (fun c1 => ?_) (fun c1 => ?_)
  · skip
    refine g_iconst (v := 0) E dX8_isThere_21 (by decide) ?_
    exact RET _ _ _ () (by rw [if_neg (fun q => by omega)]) rfl dX8_isThere_22
  · skip
    refine g_iload_n E dX8_isThere_10 rfl 2 rfl ?_
    refine g_callSIe (F := [(m 0, .inr (8, [.int (q 0), .ref (m 1), .int (q 1), .int (q 2), .int (q 3), .int (q 4), .ref (m 2), .ref (m 3), .ref (m 4), .ref (m 5), .int (q 5), .ref (m 6), .ref (m 7), .ref (m 8), .int (q 6), .int (q 7), .int (q 8)])), (m 4, .inl (gy G 0, 271, .inl f))]) (ws2 := [(m 0, .inr (8, [.int (q 0), .ref (m 1), .int (q 1), .int (q 2), .int (q 3), .int (q 4), .ref (m 2), .ref (m 3), .ref (m 4), .ref (m 5), .int (q 5), .ref (m 6), .ref (m 7), .ref (m 8), .int (q 6), .int (q 7), .int (q 8)])), (m 4, .inl (gy G 0, 271, .inl f))]) E (mX8_isVisitor G (nI v)) gX8_isThere_X8_isVisitor rfl hnX8_isVisitor ⟨Nat.le_of_ble_eq_true rfl, Nat.le_of_ble_eq_true rfl⟩ (gPerm_ix [0, 1] rfl rfl) rfl rfl (Nat.le_of_ble_eq_true rfl) dX8_isThere_11 ⟨Nat.le_of_ble_eq_true rfl, Nat.le_of_ble_eq_true rfl⟩ (gPerm_ix [0, 1] rfl rfl) ?_
    refine g_if_eqB (tgt := 21) (P := (¬ (nI v) < 0 ∧ ¬ 9 < (nI v))) E dX8_isThere_14 (by decide) (fun c2 => ?_) (fun c2 => ?_)
    · skip
      refine g_iconst (v := 0) E dX8_isThere_21 (by decide) ?_
      exact RET _ _ _ () (by rw [if_neg (fun q => c2 ((gV9N hv).mpr q.2))]) rfl dX8_isThere_22
    · skip
      refine g_iconst (v := 1) E dX8_isThere_17 (by decide) ?_
      refine g_goto (tgt := 22) E dX8_isThere_18 (by decide) ?_
      exact RET _ _ _ () (by rw [if_pos ⟨by omega, (gV9N hv).mp c2⟩]) rfl dX8_isThere_22

set_option maxHeartbeats 4000000 in
set_option maxRecDepth 100000 in
theorem mX8_books (G : gG) (m : Nat → Nat) (q : Nat → Int32) (S : gSt) (f : Nat → Int32) (p v d h : Nat) (hK : gI3 S) (hT100 : sN S 0 + 100 < 200000000) (hRR : RR S f) (hp : p < 1000) (hv : v < 1000) (hd : d < 1073741824) (hh : h < 1073741824) : CIu G yX8_books wsX8_books 4 95 [.ref (m 0), .int (nI p), .int (nI v), .int (nI d), .int (nI h)] [(m 0, .inr (8, [.int (q 0), .ref (m 1), .int (q 1), .int (q 2), .int (q 3), .int (q 4), .ref (m 2), .ref (m 3), .ref (m 4), .ref (m 5), .int (q 5), .ref (m 6), .ref (m 7), .ref (m 8), .int (q 6), .int (q 7), .int (q 8)])), (m 4, .inl (gy G 0, 271, .inl f))] ((gOkR (gTryBook S (nI p) (nI v) (nI d) (nI h))).1) (fun u : Nat → Int32 => RR (gOkR (gTryBook S (nI p) (nI v) (nI d) (nI h))).2 u) (fun (u : Nat → Int32) => [(m 0, .inr (8, [.int (q 0), .ref (m 1), .int (q 1), .int (q 2), .int (q 3), .int (q 4), .ref (m 2), .ref (m 3), .ref (m 4), .ref (m 5), .int (q 5), .ref (m 6), .ref (m 7), .ref (m 8), .int (q 6), .int (q 7), .int (q 8)])), (m 4, .inl (gy G 0, 271, .inl u))]) 0 0 := by
  refine g_enterIu (ty := .boolean) RX8 rfl (by decide) rfl (Nat.le_of_ble_eq_true rfl) ?_
  intro V E RET
  have hJ := hK.1
  have hI := hJ.1
  have hT2 : sN S 0 < 200000000 := by omega
  have hT : sN S 0 < 1000000000 := by omega
  have hb2 := gI2_b2 hJ
  have hX := hI
  obtain ⟨hP8, hn, hw, hW8, hs3, hs4, hs5, hs6, hs7, hs8, hb34⟩ := hX
  refine g_aload_n E dX8_books_0 rfl 0 rfl ?_
  refine g_iload_n E dX8_books_1 rfl 1 rfl ?_
  refine g_iload_n E dX8_books_2 rfl 2 rfl ?_
  refine g_callVIe (F := []) (ws2 := [(m 0, .inr (8, [.int (q 0), .ref (m 1), .int (q 1), .int (q 2), .int (q 3), .int (q 4), .ref (m 2), .ref (m 3), .ref (m 4), .ref (m 5), .int (q 5), .ref (m 6), .ref (m 7), .ref (m 8), .int (q 6), .int (q 7), .int (q 8)])), (m 4, .inl (gy G 0, 271, .inl f))]) E (mX8_isThere G m q S f p v hI hT hRR (by omega) (by omega)) gX8_books_X8_isThere rfl hdX8_isThere ⟨Nat.le_of_ble_eq_true rfl, Nat.le_of_ble_eq_true rfl⟩ 8 0 rfl rfl rfl (gPerm_ix [0, 1] rfl rfl) rfl rfl (Nat.le_of_ble_eq_true rfl) dX8_books_3 ⟨Nat.le_of_ble_eq_true rfl, Nat.le_of_ble_eq_true rfl⟩ (gPerm_ix [0, 1] rfl rfl) ?_
  refine g_if_eqB (tgt := 41) (P := (p < sN S 1 ∧ v < 10)) E dX8_books_6 (by decide) (fun c1 => ?_) (fun c1 => ?_)
  · skip
    refine g_iconst (v := 0) E dX8_books_41 (by decide) ?_
    refine g_istore (lv' := [(5, .int 0), (0, .ref (m 0)), (1, .int (nI p)), (2, .int (nI v)), (3, .int (nI d)), (4, .int (nI h))]) E dX8_books_42 (by decide) rfl ?_
    refine g_iload E dX8_books_44 0 rfl ?_
    refine g_if_eq (tgt := 62) E dX8_books_46 (by decide) (fun _ => ?_) (fun c => absurd c (by decide))
    refine g_iload E dX8_books_62 0 rfl ?_
    exact RET _ _ _ f (⟨by rw [gOkR_n (gTB_no hP8 hT hp hv hd hh (fun q => c1 q.1))], by rw [gOkR_n (gTB_no hP8 hT hp hv hd hh (fun q => c1 q.1))]; exact hRR⟩) rfl dX8_books_64
  · skip
    refine g_aload_n E dX8_books_9 rfl 0 rfl ?_
    refine g_get E uX8_books_RX8 0 rfl rfl 8 (by decide) kX8_books_19 rfl rfl dX8_books_10 ?_
    refine g_iload_n E dX8_books_13 rfl 3 rfl ?_
    refine g_iload E dX8_books_14 4 rfl ?_
    refine g_callSIe (F := [(m 0, .inr (8, [.int (q 0), .ref (m 1), .int (q 1), .int (q 2), .int (q 3), .int (q 4), .ref (m 2), .ref (m 3), .ref (m 4), .ref (m 5), .int (q 5), .ref (m 6), .ref (m 7), .ref (m 8), .int (q 6), .int (q 7), .int (q 8)]))]) (ws2 := [(m 0, .inr (8, [.int (q 0), .ref (m 1), .int (q 1), .int (q 2), .int (q 3), .int (q 4), .ref (m 2), .ref (m 3), .ref (m 4), .ref (m 5), .int (q 5), .ref (m 6), .ref (m 7), .ref (m 8), .int (q 6), .int (q 7), .int (q 8)])), (m 4, .inl (gy G 0, 271, .inl f))]) E (mX8_isTime G (m 4) S f (nI d) (nI h) (gI1_r hI) hT hRR ) gX8_books_X8_isTime rfl hnX8_isTime ⟨Nat.le_of_ble_eq_true rfl, Nat.le_of_ble_eq_true rfl⟩ (gPerm_ix [1, 0] rfl rfl) rfl rfl (Nat.le_of_ble_eq_true rfl) dX8_books_16 ⟨Nat.le_of_ble_eq_true rfl, Nat.le_of_ble_eq_true rfl⟩ (gPerm_ix [1, 0] rfl rfl) ?_
    refine g_if_eqB (tgt := 41) (P := ((¬ (nI d) < nI (sN S 0) ∧ ¬ 9999 < (nI d)) ∧ (¬ (nI h) < 0 ∧ ¬ 7 < (nI h)))) E dX8_books_19 (by decide) (fun c2 => ?_) (fun c2 => ?_)
    · skip
      refine g_iconst (v := 0) E dX8_books_41 (by decide) ?_
      refine g_istore (lv' := [(5, .int 0), (0, .ref (m 0)), (1, .int (nI p)), (2, .int (nI v)), (3, .int (nI d)), (4, .int (nI h))]) E dX8_books_42 (by decide) rfl ?_
      refine g_iload E dX8_books_44 0 rfl ?_
      refine g_if_eq (tgt := 62) E dX8_books_46 (by decide) (fun _ => ?_) (fun c => absurd c (by decide))
      refine g_iload E dX8_books_62 0 rfl ?_
      exact RET _ _ _ f (⟨by rw [gOkR_n (gTB_no hP8 hT hp hv hd hh (fun q => c2 q.2.1))], by rw [gOkR_n (gTB_no hP8 hT hp hv hd hh (fun q => c2 q.2.1))]; exact hRR⟩) rfl dX8_books_64
    · skip
      refine g_aload_n E dX8_books_22 rfl 0 rfl ?_
      refine g_get E uX8_books_RX8 0 rfl rfl 8 (by decide) kX8_books_19 rfl rfl dX8_books_23 ?_
      refine g_iload_n E dX8_books_26 rfl 1 rfl ?_
      refine g_iload_n E dX8_books_27 rfl 2 rfl ?_
      refine g_iload_n E dX8_books_28 rfl 3 rfl ?_
      refine g_iload E dX8_books_29 4 rfl ?_
      refine g_callSIe (F := [(m 0, .inr (8, [.int (q 0), .ref (m 1), .int (q 1), .int (q 2), .int (q 3), .int (q 4), .ref (m 2), .ref (m 3), .ref (m 4), .ref (m 5), .int (q 5), .ref (m 6), .ref (m 7), .ref (m 8), .int (q 6), .int (q 7), .int (q 8)]))]) (ws2 := [(m 0, .inr (8, [.int (q 0), .ref (m 1), .int (q 1), .int (q 2), .int (q 3), .int (q 4), .ref (m 2), .ref (m 3), .ref (m 4), .ref (m 5), .int (q 5), .ref (m 6), .ref (m 7), .ref (m 8), .int (q 6), .int (q 7), .int (q 8)])), (m 4, .inl (gy G 0, 271, .inl f))]) E (g_resI (congrArg nI (gWhyR_eq (d := d) (h := h) (gI1_r hI) hb2 (p := p) (v := v) (by (first | omega | (have q4 := gRA_le S p v d h; omega))) (by (first | omega | (have q4 := gRA_le S p v d h; omega))))) (mX8_why G (m 4) S f p v d h (gI1_r hI) hT hRR (by (first | omega | (have q4 := gRA_le S p v d h; omega))) (by (first | omega | (have q4 := gRA_le S p v d h; omega))) (by (first | omega | (have q4 := gRA_le S p v d h; omega))) (by (first | omega | (have q4 := gRA_le S p v d h; omega))))) gX8_books_X8_why rfl hnX8_why ⟨Nat.le_of_ble_eq_true rfl, Nat.le_of_ble_eq_true rfl⟩ (gPerm_ix [1, 0] rfl rfl) rfl rfl (Nat.le_of_ble_eq_true rfl) dX8_books_31 ⟨Nat.le_of_ble_eq_true rfl, Nat.le_of_ble_eq_true rfl⟩ (gPerm_ix [1, 0] rfl rfl) ?_
      refine g_if_neN (tgt := 41) (a := gRA S p v d h) E dX8_books_34 (by decide) (by (first | omega | (have q4 := gRA_le S p v d h; omega))) (fun c3 => ?_) (fun c3 => ?_)
      · skip
        refine g_iconst (v := 0) E dX8_books_41 (by decide) ?_
        refine g_istore (lv' := [(5, .int 0), (0, .ref (m 0)), (1, .int (nI p)), (2, .int (nI v)), (3, .int (nI d)), (4, .int (nI h))]) E dX8_books_42 (by decide) rfl ?_
        refine g_iload E dX8_books_44 0 rfl ?_
        refine g_if_eq (tgt := 62) E dX8_books_46 (by decide) (fun _ => ?_) (fun c => absurd c (by decide))
        refine g_iload E dX8_books_62 0 rfl ?_
        exact RET _ _ _ f (⟨by rw [gOkR_n (gTB_no hP8 hT hp hv hd hh (fun q => c3 q.2.2))], by rw [gOkR_n (gTB_no hP8 hT hp hv hd hh (fun q => c3 q.2.2))]; exact hRR⟩) rfl dX8_books_64
      · skip
        refine g_iconst (v := 1) E dX8_books_37 (by decide) ?_
        refine g_goto (tgt := 42) E dX8_books_38 (by decide) ?_
        refine g_istore (lv' := [(5, .int 1), (0, .ref (m 0)), (1, .int (nI p)), (2, .int (nI v)), (3, .int (nI d)), (4, .int (nI h))]) E dX8_books_42 (by decide) rfl ?_
        refine g_iload E dX8_books_44 0 rfl ?_
        refine g_if_eq (tgt := 62) E dX8_books_46 (by decide) (fun c => absurd c (by decide)) (fun _ => ?_)
        refine g_aload_n E dX8_books_49 rfl 1 rfl ?_
        refine g_get E uX8_books_RX8 0 rfl rfl 8 (by decide) kX8_books_19 rfl rfl dX8_books_50 ?_
        refine g_iload_n E dX8_books_53 rfl 2 rfl ?_
        refine g_iload_n E dX8_books_54 rfl 3 rfl ?_
        refine g_iload_n E dX8_books_55 rfl 4 rfl ?_
        refine g_iload E dX8_books_56 5 rfl ?_
        refine g_callSIu (F := [(m 0, .inr (8, [.int (q 0), .ref (m 1), .int (q 1), .int (q 2), .int (q 3), .int (q 4), .ref (m 2), .ref (m 3), .ref (m 4), .ref (m 5), .int (q 5), .ref (m 6), .ref (m 7), .ref (m 8), .int (q 6), .int (q 7), .int (q 8)]))]) E (mX8_bookIn G (m 4) S f p v d h (gFr (gVih (sB S) 2 d h (sB S).length)) (gI1_r hI) hT hRR (by omega) (by omega) (by omega) (by omega) (gBook_ok (gI1_r hI) hb2 c3).2.2.1 (gBook_ok (gI1_r hI) hb2 c3).1 (by have := (gBook_ok (gI1_r hI) hb2 c3).2.1; omega) (gI2_so hJ) (gBook_ok (gI1_r hI) hb2 c3).2.2.2) gX8_books_X8_bookIn rfl hnX8_bookIn ⟨Nat.le_of_ble_eq_true rfl, Nat.le_of_ble_eq_true rfl⟩ (gPerm_ix [1, 0] rfl rfl) rfl rfl (Nat.le_of_ble_eq_true rfl) dX8_books_58 ⟨Nat.le_of_ble_eq_true rfl, Nat.le_of_ble_eq_true rfl⟩ (fun u4 hU4 => ?_)
        have hU4 : RR (gBook S p v d h) u4 := hU4
        refine g_perm (ws1 := [(m 0, .inr (8, [.int (q 0), .ref (m 1), .int (q 1), .int (q 2), .int (q 3), .int (q 4), .ref (m 2), .ref (m 3), .ref (m 4), .ref (m 5), .int (q 5), .ref (m 6), .ref (m 7), .ref (m 8), .int (q 6), .int (q 7), .int (q 8)])), (m 4, .inl (gy G 0, 271, .inl u4))]) (gPerm_ix [1, 0] rfl rfl) ?_
        refine g_pop E dX8_books_61 rfl ?_
        refine g_iload E dX8_books_62 0 rfl ?_
        exact RET _ _ _ u4 (⟨by rw [gOkR_y (gTB_yes hP8 hT c1.1 c1.2 hd hh c2 c3) (nI_nneg (by have := gFr_le (gVih (sB S) 2 d h (sB S).length); omega))], by rw [gOkR_y (gTB_yes hP8 hT c1.1 c1.2 hd hh c2 c3) (nI_nneg (by have := gFr_le (gVih (sB S) 2 d h (sB S).length); omega))]; exact hU4⟩) rfl dX8_books_64

set_option maxHeartbeats 4000000 in
set_option maxRecDepth 100000 in
theorem mX8_wishes (G : gG) (m : Nat → Nat) (q : Nat → Int32) (S : gSt) (f : Nat → Int32) (p v : Nat) (hK : gI3 S) (hT100 : sN S 0 + 100 < 200000000) (hRR : RR S f) (hp : p < 1000) (hv : v < 1000) : CIu G yX8_wishes wsX8_wishes 3 67 [.ref (m 0), .int (nI p), .int (nI v)] [(m 0, .inr (8, [.int (q 0), .ref (m 1), .int (q 1), .int (q 2), .int (q 3), .int (q 4), .ref (m 2), .ref (m 3), .ref (m 4), .ref (m 5), .int (q 5), .ref (m 6), .ref (m 7), .ref (m 8), .int (q 6), .int (q 7), .int (q 8)])), (m 4, .inl (gy G 0, 271, .inl f))] ((gOkR (gTryWish S (nI p) (nI v))).1) (fun u : Nat → Int32 => RR (gOkR (gTryWish S (nI p) (nI v))).2 u) (fun (u : Nat → Int32) => [(m 0, .inr (8, [.int (q 0), .ref (m 1), .int (q 1), .int (q 2), .int (q 3), .int (q 4), .ref (m 2), .ref (m 3), .ref (m 4), .ref (m 5), .int (q 5), .ref (m 6), .ref (m 7), .ref (m 8), .int (q 6), .int (q 7), .int (q 8)])), (m 4, .inl (gy G 0, 271, .inl u))]) 0 0 := by
  refine g_enterIu (ty := .boolean) RX8 rfl (by decide) rfl (Nat.le_of_ble_eq_true rfl) ?_
  intro V E RET
  have hJ := hK.1
  have hI := hJ.1
  have hT2 : sN S 0 < 200000000 := by omega
  have hT : sN S 0 < 1000000000 := by omega
  have hb2 := gI2_b2 hJ
  have hX := hI
  obtain ⟨hP8, hn, hw, hW8, hs3, hs4, hs5, hs6, hs7, hs8, hb34⟩ := hX
  refine g_aload_n E dX8_wishes_0 rfl 0 rfl ?_
  refine g_iload_n E dX8_wishes_1 rfl 1 rfl ?_
  refine g_iload_n E dX8_wishes_2 rfl 2 rfl ?_
  refine g_callVIe (F := []) (ws2 := [(m 0, .inr (8, [.int (q 0), .ref (m 1), .int (q 1), .int (q 2), .int (q 3), .int (q 4), .ref (m 2), .ref (m 3), .ref (m 4), .ref (m 5), .int (q 5), .ref (m 6), .ref (m 7), .ref (m 8), .int (q 6), .int (q 7), .int (q 8)])), (m 4, .inl (gy G 0, 271, .inl f))]) E (mX8_isThere G m q S f p v hI hT hRR (by omega) (by omega)) gX8_wishes_X8_isThere rfl hdX8_isThere ⟨Nat.le_of_ble_eq_true rfl, Nat.le_of_ble_eq_true rfl⟩ 8 0 rfl rfl rfl (gPerm_ix [0, 1] rfl rfl) rfl rfl (Nat.le_of_ble_eq_true rfl) dX8_wishes_3 ⟨Nat.le_of_ble_eq_true rfl, Nat.le_of_ble_eq_true rfl⟩ (gPerm_ix [0, 1] rfl rfl) ?_
  refine g_if_eqB (tgt := 25) (P := (p < sN S 1 ∧ v < 10)) E dX8_wishes_6 (by decide) (fun c1 => ?_) (fun c1 => ?_)
  · skip
    refine g_iconst (v := 0) E dX8_wishes_25 (by decide) ?_
    refine g_istore_n (lv' := [(3, .int 0), (0, .ref (m 0)), (1, .int (nI p)), (2, .int (nI v))]) E dX8_wishes_26 rfl (by decide) rfl ?_
    refine g_iload_n E dX8_wishes_27 rfl 0 rfl ?_
    refine g_if_eq (tgt := 41) E dX8_wishes_28 (by decide) (fun _ => ?_) (fun c => absurd c (by decide))
    refine g_iload_n E dX8_wishes_41 rfl 0 rfl ?_
    exact RET _ _ _ f (⟨by rw [gOkR_n (gTW_no hP8 hp hv (fun q => c1 q.1))], by rw [gOkR_n (gTW_no hP8 hp hv (fun q => c1 q.1))]; exact hRR⟩) rfl dX8_wishes_42
  · skip
    refine g_aload_n E dX8_wishes_9 rfl 0 rfl ?_
    refine g_get E uX8_wishes_RX8 0 rfl rfl 8 (by decide) kX8_wishes_19 rfl rfl dX8_wishes_10 ?_
    refine g_iload_n E dX8_wishes_13 rfl 1 rfl ?_
    refine g_iload_n E dX8_wishes_14 rfl 2 rfl ?_
    refine g_callSIe (F := [(m 0, .inr (8, [.int (q 0), .ref (m 1), .int (q 1), .int (q 2), .int (q 3), .int (q 4), .ref (m 2), .ref (m 3), .ref (m 4), .ref (m 5), .int (q 5), .ref (m 6), .ref (m 7), .ref (m 8), .int (q 6), .int (q 7), .int (q 8)]))]) (ws2 := [(m 0, .inr (8, [.int (q 0), .ref (m 1), .int (q 1), .int (q 2), .int (q 3), .int (q 4), .ref (m 2), .ref (m 3), .ref (m 4), .ref (m 5), .int (q 5), .ref (m 6), .ref (m 7), .ref (m 8), .int (q 6), .int (q 7), .int (q 8)])), (m 4, .inl (gy G 0, 271, .inl f))]) E (mX8_canWish G (m 4) S f p v hI hT hRR (by omega) (by omega)) gX8_wishes_X8_canWish rfl hnX8_canWish ⟨Nat.le_of_ble_eq_true rfl, Nat.le_of_ble_eq_true rfl⟩ (gPerm_ix [1, 0] rfl rfl) rfl rfl (Nat.le_of_ble_eq_true rfl) dX8_wishes_15 ⟨Nat.le_of_ble_eq_true rfl, Nat.le_of_ble_eq_true rfl⟩ (gPerm_ix [1, 0] rfl rfl) ?_
    refine g_if_eqB (tgt := 25) (P := (gHb (sI S 1 p) (nI v) = true ∧ (sW S).length < 10)) E dX8_wishes_18 (by decide) (fun c2 => ?_) (fun c2 => ?_)
    · skip
      refine g_iconst (v := 0) E dX8_wishes_25 (by decide) ?_
      refine g_istore_n (lv' := [(3, .int 0), (0, .ref (m 0)), (1, .int (nI p)), (2, .int (nI v))]) E dX8_wishes_26 rfl (by decide) rfl ?_
      refine g_iload_n E dX8_wishes_27 rfl 0 rfl ?_
      refine g_if_eq (tgt := 41) E dX8_wishes_28 (by decide) (fun _ => ?_) (fun c => absurd c (by decide))
      refine g_iload_n E dX8_wishes_41 rfl 0 rfl ?_
      exact RET _ _ _ f (⟨by rw [gOkR_n (gTW_no hP8 hp hv (fun q => c2 q.2))], by rw [gOkR_n (gTW_no hP8 hp hv (fun q => c2 q.2))]; exact hRR⟩) rfl dX8_wishes_42
    · skip
      have hcw2 := c2.2
      refine g_iconst (v := 1) E dX8_wishes_21 (by decide) ?_
      refine g_goto (tgt := 26) E dX8_wishes_22 (by decide) ?_
      refine g_istore_n (lv' := [(3, .int 1), (0, .ref (m 0)), (1, .int (nI p)), (2, .int (nI v))]) E dX8_wishes_26 rfl (by decide) rfl ?_
      refine g_iload_n E dX8_wishes_27 rfl 0 rfl ?_
      refine g_if_eq (tgt := 41) E dX8_wishes_28 (by decide) (fun c => absurd c (by decide)) (fun _ => ?_)
      refine g_aload_n E dX8_wishes_31 rfl 1 rfl ?_
      refine g_get E uX8_wishes_RX8 0 rfl rfl 8 (by decide) kX8_wishes_19 rfl rfl dX8_wishes_32 ?_
      refine g_iload_n E dX8_wishes_35 rfl 2 rfl ?_
      refine g_iload_n E dX8_wishes_36 rfl 3 rfl ?_
      refine g_callSIu (F := [(m 0, .inr (8, [.int (q 0), .ref (m 1), .int (q 1), .int (q 2), .int (q 3), .int (q 4), .ref (m 2), .ref (m 3), .ref (m 4), .ref (m 5), .int (q 5), .ref (m 6), .ref (m 7), .ref (m 8), .int (q 6), .int (q 7), .int (q 8)]))]) E (mX8_wishIn G (m 4) S f p v hI hT hRR (by omega) (by omega) (by omega)) gX8_wishes_X8_wishIn rfl hnX8_wishIn ⟨Nat.le_of_ble_eq_true rfl, Nat.le_of_ble_eq_true rfl⟩ (gPerm_ix [1, 0] rfl rfl) rfl rfl (Nat.le_of_ble_eq_true rfl) dX8_wishes_37 ⟨Nat.le_of_ble_eq_true rfl, Nat.le_of_ble_eq_true rfl⟩ (fun u3 hU3 => ?_)
      obtain ⟨S3, xE3⟩ : ∃ x, x = uW S (sW S ++ [10 * p + v]) := ⟨_, rfl⟩
      have hRR3 : RR S3 u3 := by rw [xE3]; exact hU3
      have hI3 : gI1 S3 := by rw [xE3]; exact gI1_wish hI (by omega) (by omega) (by omega)
      have hT3 : sN S3 0 < 1000000000 := by rw [xE3]; exact hT
      refine g_perm (ws1 := [(m 0, .inr (8, [.int (q 0), .ref (m 1), .int (q 1), .int (q 2), .int (q 3), .int (q 4), .ref (m 2), .ref (m 3), .ref (m 4), .ref (m 5), .int (q 5), .ref (m 6), .ref (m 7), .ref (m 8), .int (q 6), .int (q 7), .int (q 8)])), (m 4, .inl (gy G 0, 271, .inl u3))]) (gPerm_ix [1, 0] rfl rfl) ?_
      refine g_pop E dX8_wishes_40 rfl ?_
      refine g_iload_n E dX8_wishes_41 rfl 0 rfl ?_
      exact RET _ _ _ u3 (⟨by rw [gOkR_y (gTW_yes hP8 c1.1 c1.2 c2) (nI_nneg (by omega))], by rw [gOkR_y (gTW_yes hP8 c1.1 c1.2 c2) (nI_nneg (by omega))]; exact (xE3 ▸ hRR3)⟩) rfl dX8_wishes_42

set_option maxHeartbeats 4000000 in
set_option maxRecDepth 100000 in
theorem mX8_lists (G : gG) (m : Nat → Nat) (q : Nat → Int32) (S : gSt) (f : Nat → Int32) (p v b : Nat) (hK : gI3 S) (hT100 : sN S 0 + 100 < 200000000) (hRR : RR S f) (hp : p < 1000) (hv : v < 1000) (hb : b < 1000) : CIu G yX8_lists wsX8_lists 3 67 [.ref (m 0), .int (nI p), .int (nI v), .int (nI b)] [(m 0, .inr (8, [.int (q 0), .ref (m 1), .int (q 1), .int (q 2), .int (q 3), .int (q 4), .ref (m 2), .ref (m 3), .ref (m 4), .ref (m 5), .int (q 5), .ref (m 6), .ref (m 7), .ref (m 8), .int (q 6), .int (q 7), .int (q 8)])), (m 4, .inl (gy G 0, 271, .inl f))] ((if 1 < b then (0, S) else gOkR (gTryList S (nI p) (nI v) (if b = 1 then 1 else 0))).1) (fun u : Nat → Int32 => RR (if 1 < b then (0, S) else gOkR (gTryList S (nI p) (nI v) (if b = 1 then 1 else 0))).2 u) (fun (u : Nat → Int32) => [(m 0, .inr (8, [.int (q 0), .ref (m 1), .int (q 1), .int (q 2), .int (q 3), .int (q 4), .ref (m 2), .ref (m 3), .ref (m 4), .ref (m 5), .int (q 5), .ref (m 6), .ref (m 7), .ref (m 8), .int (q 6), .int (q 7), .int (q 8)])), (m 4, .inl (gy G 0, 271, .inl u))]) 0 0 := by
  refine g_enterIu (ty := .boolean) RX8 rfl (by decide) rfl (Nat.le_of_ble_eq_true rfl) ?_
  intro V E RET
  have hJ := hK.1
  have hI := hJ.1
  have hT2 : sN S 0 < 200000000 := by omega
  have hT : sN S 0 < 1000000000 := by omega
  have hb2 := gI2_b2 hJ
  have hX := hI
  obtain ⟨hP8, hn, hw, hW8, hs3, hs4, hs5, hs6, hs7, hs8, hb34⟩ := hX
  refine g_aload_n E dX8_lists_0 rfl 0 rfl ?_
  refine g_iload_n E dX8_lists_1 rfl 1 rfl ?_
  refine g_iload_n E dX8_lists_2 rfl 2 rfl ?_
  refine g_callVIe (F := []) (ws2 := [(m 0, .inr (8, [.int (q 0), .ref (m 1), .int (q 1), .int (q 2), .int (q 3), .int (q 4), .ref (m 2), .ref (m 3), .ref (m 4), .ref (m 5), .int (q 5), .ref (m 6), .ref (m 7), .ref (m 8), .int (q 6), .int (q 7), .int (q 8)])), (m 4, .inl (gy G 0, 271, .inl f))]) E (mX8_isThere G m q S f p v hI hT hRR (by omega) (by omega)) gX8_lists_X8_isThere rfl hdX8_isThere ⟨Nat.le_of_ble_eq_true rfl, Nat.le_of_ble_eq_true rfl⟩ 8 0 rfl rfl rfl (gPerm_ix [0, 1] rfl rfl) rfl rfl (Nat.le_of_ble_eq_true rfl) dX8_lists_3 ⟨Nat.le_of_ble_eq_true rfl, Nat.le_of_ble_eq_true rfl⟩ (gPerm_ix [0, 1] rfl rfl) ?_
  refine g_if_eqB (tgt := 18) (P := (p < sN S 1 ∧ v < 10)) E dX8_lists_6 (by decide) (fun c1 => ?_) (fun c1 => ?_)
  · skip
    refine g_iconst (v := 0) E dX8_lists_18 (by decide) ?_
    refine g_istore (lv' := [(4, .int 0), (0, .ref (m 0)), (1, .int (nI p)), (2, .int (nI v)), (3, .int (nI b))]) E dX8_lists_19 (by decide) rfl ?_
    refine g_iload E dX8_lists_21 0 rfl ?_
    refine g_if_eq (tgt := 46) E dX8_lists_23 (by decide) (fun _ => ?_) (fun c => absurd c (by decide))
    refine g_iload E dX8_lists_46 0 rfl ?_
    exact RET _ _ _ f (⟨by rw [show (if 1 < b then (0, S) else gOkR (gTryList S (nI p) (nI v) (if b = 1 then 1 else 0))) = (0, S) from by split; rfl; exact gOkR_n ⟨_, gTL_no hP8 hp hv c1, by decide⟩], by rw [show (if 1 < b then (0, S) else gOkR (gTryList S (nI p) (nI v) (if b = 1 then 1 else 0))) = (0, S) from by split; rfl; exact gOkR_n ⟨_, gTL_no hP8 hp hv c1, by decide⟩]; exact hRR⟩) rfl dX8_lists_48
  · skip
    refine g_iload_n E dX8_lists_9 rfl 3 rfl ?_
    refine g_iconst (v := 2) E dX8_lists_10 (by decide) ?_
    refine g_icmp_geN (tgt := 18) (a := b) (b := 2) E dX8_lists_11 (by decide) (by omega) (by omega) (fun c2 => ?_) (fun c2 => ?_)
    · skip
      refine g_iconst (v := 0) E dX8_lists_18 (by decide) ?_
      refine g_istore (lv' := [(4, .int 0), (0, .ref (m 0)), (1, .int (nI p)), (2, .int (nI v)), (3, .int (nI b))]) E dX8_lists_19 (by decide) rfl ?_
      refine g_iload E dX8_lists_21 0 rfl ?_
      refine g_if_eq (tgt := 46) E dX8_lists_23 (by decide) (fun _ => ?_) (fun c => absurd c (by decide))
      refine g_iload E dX8_lists_46 0 rfl ?_
      exact RET _ _ _ f (⟨by rw [show (if 1 < b then (0, S) else gOkR (gTryList S (nI p) (nI v) (if b = 1 then 1 else 0))) = (0, S) from if_pos (by omega)], by rw [show (if 1 < b then (0, S) else gOkR (gTryList S (nI p) (nI v) (if b = 1 then 1 else 0))) = (0, S) from if_pos (by omega)]; exact hRR⟩) rfl dX8_lists_48
    · skip
      refine g_iconst (v := 1) E dX8_lists_14 (by decide) ?_
      refine g_goto (tgt := 19) E dX8_lists_15 (by decide) ?_
      refine g_istore (lv' := [(4, .int 1), (0, .ref (m 0)), (1, .int (nI p)), (2, .int (nI v)), (3, .int (nI b))]) E dX8_lists_19 (by decide) rfl ?_
      refine g_iload E dX8_lists_21 0 rfl ?_
      refine g_if_eq (tgt := 46) E dX8_lists_23 (by decide) (fun c => absurd c (by decide)) (fun _ => ?_)
      refine g_aload_n E dX8_lists_26 rfl 1 rfl ?_
      refine g_get E uX8_lists_RX8 0 rfl rfl 8 (by decide) kX8_lists_19 rfl rfl dX8_lists_27 ?_
      refine g_iload_n E dX8_lists_30 rfl 2 rfl ?_
      refine g_iload_n E dX8_lists_31 rfl 3 rfl ?_
      refine g_iload_n E dX8_lists_32 rfl 4 rfl ?_
      refine g_iconst (v := 1) E dX8_lists_33 (by decide) ?_
      refine g_icmp_neN (tgt := 41) (a := b) (b := 1) E dX8_lists_34 (by decide) (by omega) (by omega) (fun c3 => ?_) (fun c3 => ?_)
      · skip
        refine g_iconst (v := 0) E dX8_lists_41 (by decide) ?_
        refine g_callSIu (F := [(m 0, .inr (8, [.int (q 0), .ref (m 1), .int (q 1), .int (q 2), .int (q 3), .int (q 4), .ref (m 2), .ref (m 3), .ref (m 4), .ref (m 5), .int (q 5), .ref (m 6), .ref (m 7), .ref (m 8), .int (q 6), .int (q 7), .int (q 8)]))]) E (mX8_listIn G (m 4) S f p v 0 hI hT hRR (by omega) (by omega)) gX8_lists_X8_listIn rfl hnX8_listIn ⟨Nat.le_of_ble_eq_true rfl, Nat.le_of_ble_eq_true rfl⟩ (gPerm_ix [1, 0] rfl rfl) rfl rfl (Nat.le_of_ble_eq_true rfl) dX8_lists_42 ⟨Nat.le_of_ble_eq_true rfl, Nat.le_of_ble_eq_true rfl⟩ (fun u4 hU4 => ?_)
        obtain ⟨S4, xE4⟩ : ∃ x, x = uI S 1 (upd (sI S 1) p (gWb (sI S 1 p) (nI v) 0)) := ⟨_, rfl⟩
        have hRR4 : RR S4 u4 := by rw [xE4]; exact hU4
        have hI4 : gI1 S4 := by rw [xE4]; exact gI1_uI hI
        have hT4 : sN S4 0 < 1000000000 := by rw [xE4]; exact gT_uI hT
        refine g_perm (ws1 := [(m 0, .inr (8, [.int (q 0), .ref (m 1), .int (q 1), .int (q 2), .int (q 3), .int (q 4), .ref (m 2), .ref (m 3), .ref (m 4), .ref (m 5), .int (q 5), .ref (m 6), .ref (m 7), .ref (m 8), .int (q 6), .int (q 7), .int (q 8)])), (m 4, .inl (gy G 0, 271, .inl u4))]) (gPerm_ix [1, 0] rfl rfl) ?_
        refine g_pop E dX8_lists_45 rfl ?_
        refine g_iload E dX8_lists_46 0 rfl ?_
        exact RET _ _ _ u4 (⟨by rw [show (if 1 < b then (0, S) else gOkR (gTryList S (nI p) (nI v) (if b = 1 then 1 else 0))) = (1, S4) from by rw [if_neg (by omega), xE4, if_neg c3]; exact gOkR_y (gTL_yes hP8 c1.1 c1.2) (gTL_nn hK (by omega) c1.2)], by rw [show (if 1 < b then (0, S) else gOkR (gTryList S (nI p) (nI v) (if b = 1 then 1 else 0))) = (1, S4) from by rw [if_neg (by omega), xE4, if_neg c3]; exact gOkR_y (gTL_yes hP8 c1.1 c1.2) (gTL_nn hK (by omega) c1.2)]; exact hRR4⟩) rfl dX8_lists_48
      · skip
        refine g_iconst (v := 1) E dX8_lists_37 (by decide) ?_
        refine g_goto (tgt := 42) E dX8_lists_38 (by decide) ?_
        refine g_callSIu (F := [(m 0, .inr (8, [.int (q 0), .ref (m 1), .int (q 1), .int (q 2), .int (q 3), .int (q 4), .ref (m 2), .ref (m 3), .ref (m 4), .ref (m 5), .int (q 5), .ref (m 6), .ref (m 7), .ref (m 8), .int (q 6), .int (q 7), .int (q 8)]))]) E (mX8_listIn G (m 4) S f p v 1 hI hT hRR (by omega) (by omega)) gX8_lists_X8_listIn rfl hnX8_listIn ⟨Nat.le_of_ble_eq_true rfl, Nat.le_of_ble_eq_true rfl⟩ (gPerm_ix [1, 0] rfl rfl) rfl rfl (Nat.le_of_ble_eq_true rfl) dX8_lists_42 ⟨Nat.le_of_ble_eq_true rfl, Nat.le_of_ble_eq_true rfl⟩ (fun u6 hU6 => ?_)
        obtain ⟨S6, xE6⟩ : ∃ x, x = uI S 1 (upd (sI S 1) p (gWb (sI S 1 p) (nI v) 1)) := ⟨_, rfl⟩
        have hRR6 : RR S6 u6 := by rw [xE6]; exact hU6
        have hI6 : gI1 S6 := by rw [xE6]; exact gI1_uI hI
        have hT6 : sN S6 0 < 1000000000 := by rw [xE6]; exact gT_uI hT
        refine g_perm (ws1 := [(m 0, .inr (8, [.int (q 0), .ref (m 1), .int (q 1), .int (q 2), .int (q 3), .int (q 4), .ref (m 2), .ref (m 3), .ref (m 4), .ref (m 5), .int (q 5), .ref (m 6), .ref (m 7), .ref (m 8), .int (q 6), .int (q 7), .int (q 8)])), (m 4, .inl (gy G 0, 271, .inl u6))]) (gPerm_ix [1, 0] rfl rfl) ?_
        refine g_pop E dX8_lists_45 rfl ?_
        refine g_iload E dX8_lists_46 0 rfl ?_
        exact RET _ _ _ u6 (⟨by rw [show (if 1 < b then (0, S) else gOkR (gTryList S (nI p) (nI v) (if b = 1 then 1 else 0))) = (1, S6) from by rw [if_neg (by omega), xE6, if_pos c3]; exact gOkR_y (gTL_yes hP8 c1.1 c1.2) (gTL_nn hK (by omega) c1.2)], by rw [show (if 1 < b then (0, S) else gOkR (gTryList S (nI p) (nI v) (if b = 1 then 1 else 0))) = (1, S6) from by rw [if_neg (by omega), xE6, if_pos c3]; exact gOkR_y (gTL_yes hP8 c1.1 c1.2) (gTL_nn hK (by omega) c1.2)]; exact hRR6⟩) rfl dX8_lists_48

set_option maxHeartbeats 4000000 in
set_option maxRecDepth 100000 in
theorem mX8_carries (G : gG) (m : Nat → Nat) (q : Nat → Int32) (S : gSt) (f : Nat → Int32) (v b : Nat) (hK : gI3 S) (hT100 : sN S 0 + 100 < 200000000) (hRR : RR S f) (hv : v < 1000) (hb : b < 1000) : CIu G yX8_carries wsX8_carries 2 45 [.ref (m 0), .int (nI v), .int (nI b)] [(m 0, .inr (8, [.int (q 0), .ref (m 1), .int (q 1), .int (q 2), .int (q 3), .int (q 4), .ref (m 2), .ref (m 3), .ref (m 4), .ref (m 5), .int (q 5), .ref (m 6), .ref (m 7), .ref (m 8), .int (q 6), .int (q 7), .int (q 8)])), (m 4, .inl (gy G 0, 271, .inl f))] ((if 1 < b then (0, S) else gOkR (gTryCarry S (nI v) (if b = 1 then 1 else 0))).1) (fun u : Nat → Int32 => RR (if 1 < b then (0, S) else gOkR (gTryCarry S (nI v) (if b = 1 then 1 else 0))).2 u) (fun (u : Nat → Int32) => [(m 0, .inr (8, [.int (q 0), .ref (m 1), .int (q 1), .int (q 2), .int (q 3), .int (q 4), .ref (m 2), .ref (m 3), .ref (m 4), .ref (m 5), .int (q 5), .ref (m 6), .ref (m 7), .ref (m 8), .int (q 6), .int (q 7), .int (q 8)])), (m 4, .inl (gy G 0, 271, .inl u))]) 0 0 := by
  refine g_enterIu (ty := .boolean) RX8 rfl (by decide) rfl (Nat.le_of_ble_eq_true rfl) ?_
  intro V E RET
  have hJ := hK.1
  have hI := hJ.1
  have hT2 : sN S 0 < 200000000 := by omega
  have hT : sN S 0 < 1000000000 := by omega
  have hb2 := gI2_b2 hJ
  have hX := hI
  obtain ⟨hP8, hn, hw, hW8, hs3, hs4, hs5, hs6, hs7, hs8, hb34⟩ := hX
  refine g_iload_n E dX8_carries_0 rfl 1 rfl ?_
  refine g_callSIe (F := [(m 0, .inr (8, [.int (q 0), .ref (m 1), .int (q 1), .int (q 2), .int (q 3), .int (q 4), .ref (m 2), .ref (m 3), .ref (m 4), .ref (m 5), .int (q 5), .ref (m 6), .ref (m 7), .ref (m 8), .int (q 6), .int (q 7), .int (q 8)])), (m 4, .inl (gy G 0, 271, .inl f))]) (ws2 := [(m 0, .inr (8, [.int (q 0), .ref (m 1), .int (q 1), .int (q 2), .int (q 3), .int (q 4), .ref (m 2), .ref (m 3), .ref (m 4), .ref (m 5), .int (q 5), .ref (m 6), .ref (m 7), .ref (m 8), .int (q 6), .int (q 7), .int (q 8)])), (m 4, .inl (gy G 0, 271, .inl f))]) E (mX8_isVisitor G (nI v)) gX8_carries_X8_isVisitor rfl hnX8_isVisitor ⟨Nat.le_of_ble_eq_true rfl, Nat.le_of_ble_eq_true rfl⟩ (gPerm_ix [0, 1] rfl rfl) rfl rfl (Nat.le_of_ble_eq_true rfl) dX8_carries_1 ⟨Nat.le_of_ble_eq_true rfl, Nat.le_of_ble_eq_true rfl⟩ (gPerm_ix [0, 1] rfl rfl) ?_
  refine g_if_eqB (tgt := 16) (P := (¬ (nI v) < 0 ∧ ¬ 9 < (nI v))) E dX8_carries_4 (by decide) (fun c1 => ?_) (fun c1 => ?_)
  · skip
    refine g_iconst (v := 0) E dX8_carries_16 (by decide) ?_
    refine g_istore_n (lv' := [(3, .int 0), (0, .ref (m 0)), (1, .int (nI v)), (2, .int (nI b))]) E dX8_carries_17 rfl (by decide) rfl ?_
    refine g_iload_n E dX8_carries_18 rfl 0 rfl ?_
    refine g_if_eq (tgt := 33) E dX8_carries_19 (by decide) (fun _ => ?_) (fun c => absurd c (by decide))
    refine g_iload_n E dX8_carries_33 rfl 0 rfl ?_
    exact RET _ _ _ f (⟨by rw [show (if 1 < b then (0, S) else gOkR (gTryCarry S (nI v) (if b = 1 then 1 else 0))) = (0, S) from by split; rfl; exact gOkR_n ⟨-1, by unfold gTryCarry; rw [if_neg (fun q => c1 ((gV9N hv).mpr ((gV9N hv).mp (gV910.mpr q))))], by decide⟩], by rw [show (if 1 < b then (0, S) else gOkR (gTryCarry S (nI v) (if b = 1 then 1 else 0))) = (0, S) from by split; rfl; exact gOkR_n ⟨-1, by unfold gTryCarry; rw [if_neg (fun q => c1 ((gV9N hv).mpr ((gV9N hv).mp (gV910.mpr q))))], by decide⟩]; exact hRR⟩) rfl dX8_carries_34
  · skip
    have hv10 := (gV9N hv).mp c1
    refine g_iload_n E dX8_carries_7 rfl 2 rfl ?_
    refine g_iconst (v := 2) E dX8_carries_8 (by decide) ?_
    refine g_icmp_geN (tgt := 16) (a := b) (b := 2) E dX8_carries_9 (by decide) (by omega) (by omega) (fun c2 => ?_) (fun c2 => ?_)
    · skip
      refine g_iconst (v := 0) E dX8_carries_16 (by decide) ?_
      refine g_istore_n (lv' := [(3, .int 0), (0, .ref (m 0)), (1, .int (nI v)), (2, .int (nI b))]) E dX8_carries_17 rfl (by decide) rfl ?_
      refine g_iload_n E dX8_carries_18 rfl 0 rfl ?_
      refine g_if_eq (tgt := 33) E dX8_carries_19 (by decide) (fun _ => ?_) (fun c => absurd c (by decide))
      refine g_iload_n E dX8_carries_33 rfl 0 rfl ?_
      exact RET _ _ _ f (⟨by rw [show (if 1 < b then (0, S) else gOkR (gTryCarry S (nI v) (if b = 1 then 1 else 0))) = (0, S) from if_pos (by omega)], by rw [show (if 1 < b then (0, S) else gOkR (gTryCarry S (nI v) (if b = 1 then 1 else 0))) = (0, S) from if_pos (by omega)]; exact hRR⟩) rfl dX8_carries_34
    · skip
      refine g_iconst (v := 1) E dX8_carries_12 (by decide) ?_
      refine g_goto (tgt := 17) E dX8_carries_13 (by decide) ?_
      refine g_istore_n (lv' := [(3, .int 1), (0, .ref (m 0)), (1, .int (nI v)), (2, .int (nI b))]) E dX8_carries_17 rfl (by decide) rfl ?_
      refine g_iload_n E dX8_carries_18 rfl 0 rfl ?_
      refine g_if_eq (tgt := 33) E dX8_carries_19 (by decide) (fun c => absurd c (by decide)) (fun _ => ?_)
      rcases (show b = 0 ∨ b = 1 by omega) with rfl | rfl
      · skip
        refine g_aload_n E dX8_carries_22 rfl 1 rfl ?_
        refine g_get E uX8_carries_RX8 0 rfl rfl 8 (by decide) kX8_carries_19 rfl rfl dX8_carries_23 ?_
        refine g_iload_n E dX8_carries_26 rfl 2 rfl ?_
        refine g_iconst (v := 2) E dX8_carries_27 (by decide) ?_
        refine g_callSIe (F := [(m 0, .inr (8, [.int (q 0), .ref (m 1), .int (q 1), .int (q 2), .int (q 3), .int (q 4), .ref (m 2), .ref (m 3), .ref (m 4), .ref (m 5), .int (q 5), .ref (m 6), .ref (m 7), .ref (m 8), .int (q 6), .int (q 7), .int (q 8)])), (m 4, .inl (gy G 0, 271, .inl f))]) (ws2 := [(m 0, .inr (8, [.int (q 0), .ref (m 1), .int (q 1), .int (q 2), .int (q 3), .int (q 4), .ref (m 2), .ref (m 3), .ref (m 4), .ref (m 5), .int (q 5), .ref (m 6), .ref (m 7), .ref (m 8), .int (q 6), .int (q 7), .int (q 8)])), (m 4, .inl (gy G 0, 271, .inl f))]) E (mX8_visitorAt G v 2 (by omega) (by omega)) gX8_carries_X8_visitorAt rfl hnX8_visitorAt ⟨Nat.le_of_ble_eq_true rfl, Nat.le_of_ble_eq_true rfl⟩ (gPerm_ix [0, 1] rfl rfl) rfl rfl (Nat.le_of_ble_eq_true rfl) dX8_carries_28 ⟨Nat.le_of_ble_eq_true rfl, Nat.le_of_ble_eq_true rfl⟩ (gPerm_ix [0, 1] rfl rfl) ?_
        refine g_iload_n E dX8_carries_31 rfl 3 rfl ?_
        refine g_iast (ws' := [(m 0, .inr (8, [.int (q 0), .ref (m 1), .int (q 1), .int (q 2), .int (q 3), .int (q 4), .ref (m 2), .ref (m 3), .ref (m 4), .ref (m 5), .int (q 5), .ref (m 6), .ref (m 7), .ref (m 8), .int (q 6), .int (q 7), .int (q 8)])), (m 4, .inl (gy G 0, 271, .inl (upd f (63 + 3 * v + 2) 0)))]) (j := 63 + 3 * v + 2) (y := 0) E 1 rfl (g_in (e := 63 + 3 * v + 2) (by omega) rfl) (nI_clamp (n := 63 + 3 * v + 2) (by omega)) rfl rfl dX8_carries_32 ?_
        have hRR3 : RR (uI S 9 (fun _ => gWb (sI S 9 0) (nI v) 0)) (upd f (63 + 3 * v + 2) 0) := (by have q := RR_uV2 (v := v) (b := 0) hRR (by omega); rw [if_pos rfl] at q; exact q)
        refine g_iload_n E dX8_carries_33 rfl 0 rfl ?_
        exact RET _ _ _ (upd f (63 + 3 * v + 2) 0) (⟨by rw [show (if 1 < 0 then (0, S) else gOkR (gTryCarry S (nI v) (if 0 = 1 then 1 else 0))) = (1, uI S 9 (fun _ => gWb (sI S 9 0) (nI v) 0)) from by rw [if_neg (by decide), if_neg (by decide)]; exact gOkR_y (gTC_yes ((gV9N hv).mp c1)) (gTC_nn hK ((gV9N hv).mp c1))], by rw [show (if 1 < 0 then (0, S) else gOkR (gTryCarry S (nI v) (if 0 = 1 then 1 else 0))) = (1, uI S 9 (fun _ => gWb (sI S 9 0) (nI v) 0)) from by rw [if_neg (by decide), if_neg (by decide)]; exact gOkR_y (gTC_yes ((gV9N hv).mp c1)) (gTC_nn hK ((gV9N hv).mp c1))]; exact hRR3⟩) rfl dX8_carries_34
      · skip
        refine g_aload_n E dX8_carries_22 rfl 1 rfl ?_
        refine g_get E uX8_carries_RX8 0 rfl rfl 8 (by decide) kX8_carries_19 rfl rfl dX8_carries_23 ?_
        refine g_iload_n E dX8_carries_26 rfl 2 rfl ?_
        refine g_iconst (v := 2) E dX8_carries_27 (by decide) ?_
        refine g_callSIe (F := [(m 0, .inr (8, [.int (q 0), .ref (m 1), .int (q 1), .int (q 2), .int (q 3), .int (q 4), .ref (m 2), .ref (m 3), .ref (m 4), .ref (m 5), .int (q 5), .ref (m 6), .ref (m 7), .ref (m 8), .int (q 6), .int (q 7), .int (q 8)])), (m 4, .inl (gy G 0, 271, .inl f))]) (ws2 := [(m 0, .inr (8, [.int (q 0), .ref (m 1), .int (q 1), .int (q 2), .int (q 3), .int (q 4), .ref (m 2), .ref (m 3), .ref (m 4), .ref (m 5), .int (q 5), .ref (m 6), .ref (m 7), .ref (m 8), .int (q 6), .int (q 7), .int (q 8)])), (m 4, .inl (gy G 0, 271, .inl f))]) E (mX8_visitorAt G v 2 (by omega) (by omega)) gX8_carries_X8_visitorAt rfl hnX8_visitorAt ⟨Nat.le_of_ble_eq_true rfl, Nat.le_of_ble_eq_true rfl⟩ (gPerm_ix [0, 1] rfl rfl) rfl rfl (Nat.le_of_ble_eq_true rfl) dX8_carries_28 ⟨Nat.le_of_ble_eq_true rfl, Nat.le_of_ble_eq_true rfl⟩ (gPerm_ix [0, 1] rfl rfl) ?_
        refine g_iload_n E dX8_carries_31 rfl 3 rfl ?_
        refine g_iast (ws' := [(m 0, .inr (8, [.int (q 0), .ref (m 1), .int (q 1), .int (q 2), .int (q 3), .int (q 4), .ref (m 2), .ref (m 3), .ref (m 4), .ref (m 5), .int (q 5), .ref (m 6), .ref (m 7), .ref (m 8), .int (q 6), .int (q 7), .int (q 8)])), (m 4, .inl (gy G 0, 271, .inl (upd f (63 + 3 * v + 2) 1)))]) (j := 63 + 3 * v + 2) (y := 1) E 1 rfl (g_in (e := 63 + 3 * v + 2) (by omega) rfl) (nI_clamp (n := 63 + 3 * v + 2) (by omega)) rfl rfl dX8_carries_32 ?_
        have hRR4 : RR (uI S 9 (fun _ => gWb (sI S 9 0) (nI v) 1)) (upd f (63 + 3 * v + 2) 1) := (by have q := RR_uV2 (v := v) (b := 1) hRR (by omega); rw [if_neg (by decide)] at q; exact q)
        refine g_iload_n E dX8_carries_33 rfl 0 rfl ?_
        exact RET _ _ _ (upd f (63 + 3 * v + 2) 1) (⟨by rw [show (if 1 < 1 then (0, S) else gOkR (gTryCarry S (nI v) (if 1 = 1 then 1 else 0))) = (1, uI S 9 (fun _ => gWb (sI S 9 0) (nI v) 1)) from by rw [if_neg (by decide), if_pos rfl]; exact gOkR_y (gTC_yes ((gV9N hv).mp c1)) (gTC_nn hK ((gV9N hv).mp c1))], by rw [show (if 1 < 1 then (0, S) else gOkR (gTryCarry S (nI v) (if 1 = 1 then 1 else 0))) = (1, uI S 9 (fun _ => gWb (sI S 9 0) (nI v) 1)) from by rw [if_neg (by decide), if_pos rfl]; exact gOkR_y (gTC_yes ((gV9N hv).mp c1)) (gTC_nn hK ((gV9N hv).mp c1))]; exact hRR4⟩) rfl dX8_carries_34

set_option maxHeartbeats 4000000 in
set_option maxRecDepth 100000 in
theorem mX8_punishes (G : gG) (m : Nat → Nat) (q : Nat → Int32) (S : gSt) (f : Nat → Int32) (p e : Nat) (hK : gI3 S) (hT100 : sN S 0 + 100 < 200000000) (hRR : RR S f) (hp : p < 1000) (he : e ≤ 99) : CIu G yX8_punishes wsX8_punishes 3 67 [.ref (m 0), .int (nI p), .int (nI e)] [(m 0, .inr (8, [.int (q 0), .ref (m 1), .int (q 1), .int (q 2), .int (q 3), .int (q 4), .ref (m 2), .ref (m 3), .ref (m 4), .ref (m 5), .int (q 5), .ref (m 6), .ref (m 7), .ref (m 8), .int (q 6), .int (q 7), .int (q 8)])), (m 4, .inl (gy G 0, 271, .inl f))] ((gOkR (gTryPunish S (nI p) (nI e))).1) (fun u : Nat → Int32 => RR (gOkR (gTryPunish S (nI p) (nI e))).2 u) (fun (u : Nat → Int32) => [(m 0, .inr (8, [.int (q 0), .ref (m 1), .int (q 1), .int (q 2), .int (q 3), .int (q 4), .ref (m 2), .ref (m 3), .ref (m 4), .ref (m 5), .int (q 5), .ref (m 6), .ref (m 7), .ref (m 8), .int (q 6), .int (q 7), .int (q 8)])), (m 4, .inl (gy G 0, 271, .inl u))]) 0 0 := by
  refine g_enterIu (ty := .boolean) RX8 rfl (by decide) rfl (Nat.le_of_ble_eq_true rfl) ?_
  intro V E RET
  have hJ := hK.1
  have hI := hJ.1
  have hT2 : sN S 0 < 200000000 := by omega
  have hT : sN S 0 < 1000000000 := by omega
  have hb2 := gI2_b2 hJ
  have hX := hI
  obtain ⟨hP8, hn, hw, hW8, hs3, hs4, hs5, hs6, hs7, hs8, hb34⟩ := hX
  refine g_aload_n E dX8_punishes_0 rfl 0 rfl ?_
  refine g_iload_n E dX8_punishes_1 rfl 1 rfl ?_
  refine g_iconst (v := 0) E dX8_punishes_2 (by decide) ?_
  refine g_callVIe (F := []) (ws2 := [(m 0, .inr (8, [.int (q 0), .ref (m 1), .int (q 1), .int (q 2), .int (q 3), .int (q 4), .ref (m 2), .ref (m 3), .ref (m 4), .ref (m 5), .int (q 5), .ref (m 6), .ref (m 7), .ref (m 8), .int (q 6), .int (q 7), .int (q 8)])), (m 4, .inl (gy G 0, 271, .inl f))]) E (mX8_isThere G m q S f p 0 hI hT hRR (by omega) (by omega)) gX8_punishes_X8_isThere rfl hdX8_isThere ⟨Nat.le_of_ble_eq_true rfl, Nat.le_of_ble_eq_true rfl⟩ 8 0 rfl rfl rfl (gPerm_ix [0, 1] rfl rfl) rfl rfl (Nat.le_of_ble_eq_true rfl) dX8_punishes_3 ⟨Nat.le_of_ble_eq_true rfl, Nat.le_of_ble_eq_true rfl⟩ (gPerm_ix [0, 1] rfl rfl) ?_
  refine g_istore_n (lv' := [(3, .int (if (p < sN S 1 ∧ 0 < 10) then 1 else 0)), (0, .ref (m 0)), (1, .int (nI p)), (2, .int (nI e))]) E dX8_punishes_6 rfl (by decide) rfl ?_
  refine g_iload_n E dX8_punishes_7 rfl 0 rfl ?_
  refine g_if_eqB (tgt := 21) (P := (p < sN S 1 ∧ 0 < 10)) E dX8_punishes_8 (by decide) (fun c1 => ?_) (fun c1 => ?_)
  · skip
    refine g_iload_n E dX8_punishes_21 rfl 0 rfl ?_
    refine g_top (y := 0) (if_neg c1) ?_
    exact RET _ _ _ f (⟨by rw [gOkR_n (gTP_no hP8 hp (fun q => c1 ⟨q, by decide⟩))], by rw [gOkR_n (gTP_no hP8 hp (fun q => c1 ⟨q, by decide⟩))]; exact hRR⟩) rfl dX8_punishes_22
  · skip
    refine g_aload_n E dX8_punishes_11 rfl 1 rfl ?_
    refine g_get E uX8_punishes_RX8 0 rfl rfl 8 (by decide) kX8_punishes_19 rfl rfl dX8_punishes_12 ?_
    refine g_iload_n E dX8_punishes_15 rfl 2 rfl ?_
    refine g_iload_n E dX8_punishes_16 rfl 3 rfl ?_
    refine g_callSIu (F := [(m 0, .inr (8, [.int (q 0), .ref (m 1), .int (q 1), .int (q 2), .int (q 3), .int (q 4), .ref (m 2), .ref (m 3), .ref (m 4), .ref (m 5), .int (q 5), .ref (m 6), .ref (m 7), .ref (m 8), .int (q 6), .int (q 7), .int (q 8)]))]) E (mX8_punishIn G (m 4) S f p (nI e) hI hT hRR (by omega)) gX8_punishes_X8_punishIn rfl hnX8_punishIn ⟨Nat.le_of_ble_eq_true rfl, Nat.le_of_ble_eq_true rfl⟩ (gPerm_ix [1, 0] rfl rfl) rfl rfl (Nat.le_of_ble_eq_true rfl) dX8_punishes_17 ⟨Nat.le_of_ble_eq_true rfl, Nat.le_of_ble_eq_true rfl⟩ (fun u2 hU2 => ?_)
    obtain ⟨S2, xE2⟩ : ∃ x, x = uI S 2 (upd (sI S 2) p (nI (sN S 0) + (nI e))) := ⟨_, rfl⟩
    have hRR2 : RR S2 u2 := by rw [xE2]; exact hU2
    have hI2 : gI1 S2 := by rw [xE2]; exact gI1_uI hI
    have hT2 : sN S2 0 < 1000000000 := by rw [xE2]; exact gT_uI hT
    refine g_perm (ws1 := [(m 0, .inr (8, [.int (q 0), .ref (m 1), .int (q 1), .int (q 2), .int (q 3), .int (q 4), .ref (m 2), .ref (m 3), .ref (m 4), .ref (m 5), .int (q 5), .ref (m 6), .ref (m 7), .ref (m 8), .int (q 6), .int (q 7), .int (q 8)])), (m 4, .inl (gy G 0, 271, .inl u2))]) (gPerm_ix [1, 0] rfl rfl) ?_
    refine g_pop E dX8_punishes_20 rfl ?_
    refine g_iload_n E dX8_punishes_21 rfl 0 rfl ?_
    refine g_top (y := 1) (if_pos c1) ?_
    exact RET _ _ _ u2 (⟨by rw [show gOkR (gTryPunish S (nI p) (nI e)) = (1, S2) from by rw [xE2]; exact gOkR_y (gTP_yes hP8 c1.1 he) (hK.2.1 p (by omega)).2.2.2], by rw [show gOkR (gTryPunish S (nI p) (nI e)) = (1, S2) from by rw [xE2]; exact gOkR_y (gTP_yes hP8 c1.1 he) (hK.2.1 p (by omega)).2.2.2]; exact hRR2⟩) rfl dX8_punishes_22

set_option maxHeartbeats 4000000 in
set_option maxRecDepth 100000 in
theorem mX8_runs (G : gG) (m : Nat → Nat) (q : Nat → Int32) (S : gSt) (f : Nat → Int32) (e : Nat) (tn : Nat → Int32) (hK : gI3 S) (hT100 : sN S 0 + 100 < 200000000) (hRR : RR S f) (he : e ≤ 99) : CIu G yX8_runs wsX8_runs 8 190 [.ref (m 0), .int (nI e)] [(m 0, .inr (8, [.int (q 0), .ref (m 1), .int (q 1), .int (q 2), .int (q 3), .int (q 4), .ref (m 2), .ref (m 3), .ref (m 4), .ref (m 5), .int (q 5), .ref (m 6), .ref (m 7), .ref (m 8), .int (q 6), .int (q 7), .int (q 8)])), (m 4, .inl (gy G 0, 271, .inl f)), (m 8, .inl (gy G 0, 10, .inl tn))] ((if (¬ nI e < 1 ∧ ¬ 30 < nI e) then gOkR (sI (gDays e S) 8 0 - sI S 8 0, gDays e S) else (0, S)).1) (fun u : Int32 × (Nat → Int32) × (Nat → Int32) => RR (if (¬ nI e < 1 ∧ ¬ 30 < nI e) then gOkR (sI (gDays e S) 8 0 - sI S 8 0, gDays e S) else (0, S)).2 u.2.2) (fun (u : Int32 × (Nat → Int32) × (Nat → Int32)) => [(m 0, .inr (8, [.int (q 0), .ref (m 1), .int (q 1), .int (q 2), .int (q 3), .int (q 4), .ref (m 2), .ref (m 3), .ref (m 4), .ref (m 5), .int (q 5), .ref (m 6), .ref (m 7), .ref (m 8), .int u.1, .int (q 7), .int (q 8)])), (m 4, .inl (gy G 0, 271, .inl u.2.2)), (m 8, .inl (gy G 0, 10, .inl u.2.1))]) 0 0 := by
  refine g_enterIu (ty := .boolean) RX8 rfl (by decide) rfl (Nat.le_of_ble_eq_true rfl) ?_
  intro V E RET
  have hJ := hK.1
  have hI := hJ.1
  have hT2 : sN S 0 < 200000000 := by omega
  have hT : sN S 0 < 1000000000 := by omega
  have hb2 := gI2_b2 hJ
  have hX := hI
  obtain ⟨hP8, hn, hw, hW8, hs3, hs4, hs5, hs6, hs7, hs8, hb34⟩ := hX
  refine g_iload_n E dX8_runs_0 rfl 1 rfl ?_
  refine g_callSIe (F := [(m 0, .inr (8, [.int (q 0), .ref (m 1), .int (q 1), .int (q 2), .int (q 3), .int (q 4), .ref (m 2), .ref (m 3), .ref (m 4), .ref (m 5), .int (q 5), .ref (m 6), .ref (m 7), .ref (m 8), .int (q 6), .int (q 7), .int (q 8)])), (m 4, .inl (gy G 0, 271, .inl f)), (m 8, .inl (gy G 0, 10, .inl tn))]) (ws2 := [(m 0, .inr (8, [.int (q 0), .ref (m 1), .int (q 1), .int (q 2), .int (q 3), .int (q 4), .ref (m 2), .ref (m 3), .ref (m 4), .ref (m 5), .int (q 5), .ref (m 6), .ref (m 7), .ref (m 8), .int (q 6), .int (q 7), .int (q 8)])), (m 4, .inl (gy G 0, 271, .inl f)), (m 8, .inl (gy G 0, 10, .inl tn))]) E (mX8_isRun G (nI e)) gX8_runs_X8_isRun rfl hnX8_isRun ⟨Nat.le_of_ble_eq_true rfl, Nat.le_of_ble_eq_true rfl⟩ (gPerm_ix [0, 1, 2] rfl rfl) rfl rfl (Nat.le_of_ble_eq_true rfl) dX8_runs_1 ⟨Nat.le_of_ble_eq_true rfl, Nat.le_of_ble_eq_true rfl⟩ (gPerm_ix [0, 1, 2] rfl rfl) ?_
  refine g_if_eqB (tgt := 17) (P := (¬ (nI e) < 1 ∧ ¬ 30 < (nI e))) E dX8_runs_4 (by decide) (fun c1 => ?_) (fun c1 => ?_)
  · skip
    refine g_iload_n E dX8_runs_17 rfl 1 rfl ?_
    refine g_callSIe (F := [(m 0, .inr (8, [.int (q 0), .ref (m 1), .int (q 1), .int (q 2), .int (q 3), .int (q 4), .ref (m 2), .ref (m 3), .ref (m 4), .ref (m 5), .int (q 5), .ref (m 6), .ref (m 7), .ref (m 8), .int (q 6), .int (q 7), .int (q 8)])), (m 4, .inl (gy G 0, 271, .inl f)), (m 8, .inl (gy G 0, 10, .inl tn))]) (ws2 := [(m 0, .inr (8, [.int (q 0), .ref (m 1), .int (q 1), .int (q 2), .int (q 3), .int (q 4), .ref (m 2), .ref (m 3), .ref (m 4), .ref (m 5), .int (q 5), .ref (m 6), .ref (m 7), .ref (m 8), .int (q 6), .int (q 7), .int (q 8)])), (m 4, .inl (gy G 0, 271, .inl f)), (m 8, .inl (gy G 0, 10, .inl tn))]) E (mX8_isRun G (nI e)) gX8_runs_X8_isRun rfl hnX8_isRun ⟨Nat.le_of_ble_eq_true rfl, Nat.le_of_ble_eq_true rfl⟩ (gPerm_ix [0, 1, 2] rfl rfl) rfl rfl (Nat.le_of_ble_eq_true rfl) dX8_runs_18 ⟨Nat.le_of_ble_eq_true rfl, Nat.le_of_ble_eq_true rfl⟩ (gPerm_ix [0, 1, 2] rfl rfl) ?_
    refine g_top (y := 0) (if_neg c1) ?_
    exact RET _ _ _ (q 6, tn, f) (⟨by rw [show (if (¬ nI e < 1 ∧ ¬ 30 < nI e) then gOkR (sI (gDays e S) 8 0 - sI S 8 0, gDays e S) else (0, S)) = (0, S) from if_neg c1], by rw [show (if (¬ nI e < 1 ∧ ¬ 30 < nI e) then gOkR (sI (gDays e S) 8 0 - sI S 8 0, gDays e S) else (0, S)) = (0, S) from if_neg c1]; exact hRR⟩) rfl dX8_runs_21
  · skip
    refine g_aload_n E dX8_runs_7 rfl 0 rfl ?_
    refine g_aload_n E dX8_runs_8 rfl 0 rfl ?_
    refine g_get E uX8_runs_RX8 0 rfl rfl 8 (by decide) kX8_runs_19 rfl rfl dX8_runs_9 ?_
    refine g_iload_n E dX8_runs_12 rfl 1 rfl ?_
    refine g_callVIu (F := []) E (mX8_runIn G m q (m 4) S f tn e hJ (by omega) hRR) gX8_runs_X8_runIn rfl hdX8_runIn ⟨Nat.le_of_ble_eq_true rfl, Nat.le_of_ble_eq_true rfl⟩ 8 0 rfl rfl rfl (gPerm_ix [0, 2, 1] rfl rfl) rfl rfl (Nat.le_of_ble_eq_true rfl) dX8_runs_13 ⟨Nat.le_of_ble_eq_true rfl, Nat.le_of_ble_eq_true rfl⟩ (fun u2 hU2 => ?_)
    obtain ⟨S2, xE2⟩ : ∃ x, x = gDays e S := ⟨_, rfl⟩
    have hRR2 : RR S2 u2.2.2 := by rw [xE2]; exact hU2
    refine g_perm (ws1 := [(m 0, .inr (8, [.int (q 0), .ref (m 1), .int (q 1), .int (q 2), .int (q 3), .int (q 4), .ref (m 2), .ref (m 3), .ref (m 4), .ref (m 5), .int (q 5), .ref (m 6), .ref (m 7), .ref (m 8), .int u2.1, .int (q 7), .int (q 8)])), (m 4, .inl (gy G 0, 271, .inl u2.2.2)), (m 8, .inl (gy G 0, 10, .inl u2.2.1))]) (gPerm_ix [0, 2, 1] rfl rfl) ?_
    refine g_pop E dX8_runs_16 rfl ?_
    refine g_iload_n E dX8_runs_17 rfl 1 rfl ?_
    refine g_callSIe (F := [(m 0, .inr (8, [.int (q 0), .ref (m 1), .int (q 1), .int (q 2), .int (q 3), .int (q 4), .ref (m 2), .ref (m 3), .ref (m 4), .ref (m 5), .int (q 5), .ref (m 6), .ref (m 7), .ref (m 8), .int u2.1, .int (q 7), .int (q 8)])), (m 4, .inl (gy G 0, 271, .inl u2.2.2)), (m 8, .inl (gy G 0, 10, .inl u2.2.1))]) (ws2 := [(m 0, .inr (8, [.int (q 0), .ref (m 1), .int (q 1), .int (q 2), .int (q 3), .int (q 4), .ref (m 2), .ref (m 3), .ref (m 4), .ref (m 5), .int (q 5), .ref (m 6), .ref (m 7), .ref (m 8), .int u2.1, .int (q 7), .int (q 8)])), (m 4, .inl (gy G 0, 271, .inl u2.2.2)), (m 8, .inl (gy G 0, 10, .inl u2.2.1))]) E (mX8_isRun G (nI e)) gX8_runs_X8_isRun rfl hnX8_isRun ⟨Nat.le_of_ble_eq_true rfl, Nat.le_of_ble_eq_true rfl⟩ (gPerm_ix [0, 1, 2] rfl rfl) rfl rfl (Nat.le_of_ble_eq_true rfl) dX8_runs_18 ⟨Nat.le_of_ble_eq_true rfl, Nat.le_of_ble_eq_true rfl⟩ (gPerm_ix [0, 1, 2] rfl rfl) ?_
    refine g_top (y := 1) (if_pos c1) ?_
    exact RET _ _ _ (u2.1, u2.2.1, u2.2.2) (⟨by rw [show (if (¬ nI e < 1 ∧ ¬ 30 < nI e) then gOkR (sI (gDays e S) 8 0 - sI S 8 0, gDays e S) else (0, S)) = (1, S2) from by rw [if_pos c1, xE2]; obtain ⟨xa, xb, xc⟩ := gDays_ans (n := e) hK (by omega); exact gOkR_y rfl (by rw [xc]; exact nI_nneg (by omega))], by rw [show (if (¬ nI e < 1 ∧ ¬ 30 < nI e) then gOkR (sI (gDays e S) 8 0 - sI S 8 0, gDays e S) else (0, S)) = (1, S2) from by rw [if_pos c1, xE2]; obtain ⟨xa, xb, xc⟩ := gDays_ans (n := e) hK (by omega); exact gOkR_y rfl (by rw [xc]; exact nI_nneg (by omega))]; exact hRR2⟩) rfl dX8_runs_21
