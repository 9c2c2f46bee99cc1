set_option maxHeartbeats 4000000 in
set_option maxRecDepth 100000 in
theorem mX8_grant (G : gG) (m : Nat → Nat) (q : Nat → Int32) (r : Nat) (S : gSt) (f : Nat → Int32) (tn : Nat → Int32) (hJ : gI2 S) (hT2 : sN S 0 < 200000000) (hRR : RR S f) : CV G yX8_grant wsX8_grant 5 119 [.ref (m 0), .ref r] [(m 0, .inr (8, [.int (q 0), .ref (m 1), .int (q 1), .int (q 2), .int (q 3), .int (q 4), .ref (m 2), .ref (m 3), .ref (m 4), .ref (m 5), .int (q 5), .ref (m 6), .ref (m 7), .ref (m 8), .int (q 6), .int (q 7), .int (q 8)])), (m 8, .inl (gy G 0, 10, .inl tn)), (r, .inl (gy G 0, 271, .inl f))] (fun u : (Nat → Int32) × (Nat → Int32) => RR (gGrant S) u.2) (fun (u : (Nat → Int32) × (Nat → Int32)) => [(m 0, .inr (8, [.int (q 0), .ref (m 1), .int (q 1), .int (q 2), .int (q 3), .int (q 4), .ref (m 2), .ref (m 3), .ref (m 4), .ref (m 5), .int (q 5), .ref (m 6), .ref (m 7), .ref (m 8), .int (q 6), .int (q 7), .int (q 8)])), (m 8, .inl (gy G 0, 10, .inl u.1)), (r, .inl (gy G 0, 271, .inl u.2))]) 0 0 := by
  refine g_enterV RX8 rfl (by decide) rfl (Nat.le_of_ble_eq_true rfl) ?_
  intro V E RET
  have hI := hJ.1
  have hT : sN S 0 < 1000000000 := by omega
  have hX := hI
  obtain ⟨hP8, hn, hw, hW8, hs3, hs4, hs5, hs6, hs7, hs8, hb34⟩ := hX
  refine g_aload_n E dX8_grant_0 rfl 0 rfl ?_
  refine g_aload_n E dX8_grant_1 rfl 1 rfl ?_
  refine g_callVV (F := []) E (mX8_layTurns G m q r S f tn hI hT hRR) gX8_grant_X8_layTurns rfl hdX8_layTurns ⟨Nat.le_of_ble_eq_true rfl, Nat.le_of_ble_eq_true rfl⟩ 8 0 rfl rfl rfl (gPerm_ix [0, 1, 2] rfl rfl) rfl rfl (Nat.le_of_ble_eq_true rfl) dX8_grant_2 ⟨Nat.le_of_ble_eq_true rfl, Nat.le_of_ble_eq_true rfl⟩ (fun tu hU => ?_)
  refine g_perm (ws1 := [(m 0, .inr (8, [.int (q 0), .ref (m 1), .int (q 1), .int (q 2), .int (q 3), .int (q 4), .ref (m 2), .ref (m 3), .ref (m 4), .ref (m 5), .int (q 5), .ref (m 6), .ref (m 7), .ref (m 8), .int (q 6), .int (q 7), .int (q 8)])), (m 8, .inl (gy G 0, 10, .inl tu)), (r, .inl (gy G 0, 271, .inl f))]) (gPerm_ix [0, 1, 2] rfl rfl) ?_
  refine g_aload_n E dX8_grant_5 rfl 1 rfl ?_
  refine g_iconst (v := 3) E dX8_grant_6 (by decide) ?_
  refine g_ialdN (e := 3) E 2 rfl (by omega) rfl (v := nI ((sW S).length)) (RR_3 hRR) dX8_grant_7 ?_
  refine g_istore_n (lv' := [(2, .int (nI ((sW S).length))), (0, .ref (m 0)), (1, .ref r)]) E dX8_grant_8 rfl (by decide) rfl ?_
  refine g_iconst (v := 0) E dX8_grant_9 (by decide) ?_
  refine g_istore_n (lv' := [(3, .int 0), (2, .int (nI ((sW S).length))), (0, .ref (m 0)), (1, .ref r)]) E dX8_grant_10 rfl (by decide) rfl ?_
  have loop2 : ∀ (n3 : Nat) (k T : Nat) (C : gSt) (Z : List Nat) (g : Nat → Int32), (k ≤ (sW S).length) → (gGi S k T C Z) → (RR (uW C Z) g) → (sW S).length - k < n3 → gW V 6 0 0 [(m 0, .inr (8, [.int (q 0), .ref (m 1), .int (q 1), .int (q 2), .int (q 3), .int (q 4), .ref (m 2), .ref (m 3), .ref (m 4), .ref (m 5), .int (q 5), .ref (m 6), .ref (m 7), .ref (m 8), .int (q 6), .int (q 7), .int (q 8)])), (m 8, .inl (gy G 0, 10, .inl tu)), (r, .inl (gy G 0, 271, .inl g))] [(0, .ref (m 0)), (1, .ref r), (2, .int (nI ((sW S).length))), (3, .int (nI k))] 11 [] := by
    intro n3
    induction n3 with
    | zero => intro k T C Z g hk hGi hRg hm5; exact absurd hm5 (Nat.not_lt_zero _)
    | succ n3 ih4 =>
      intro k T C Z g hk hGi hRg hm5
      have hZl : Z.length = (sW S).length := hGi.2.2.2.2.1
      have hC0 : sN C 0 = sN S 0 := hGi.2.1
      have hlB : (sB C).length ≤ 24 := hGi.1.1.2.1
      have hIz : gI1r (uW C Z) := ⟨hGi.1.1.1, hGi.1.1.2.1, show Z.length ≤ 10 by omega, trivial, hGi.1.1.2.2.2.2⟩
      have hTz : sN (uW C Z) 0 < 1000000000 := show sN C 0 < 1000000000 by omega
      have hTy : sN (uW C Z) 0 < 200000000 := show sN C 0 < 200000000 by omega
      have hb2 : ∀ j, j < (sB (uW C Z)).length → bk (sB (uW C Z)) j 2 < 32 := gI2_b2 (S := C) hGi.1
      refine g_iload_n E dX8_grant_11 rfl 3 rfl ?_
      refine g_iload_n E dX8_grant_12 rfl 2 rfl ?_
      refine g_icmp_geN (tgt := 98) (a := k) (b := (sW S).length) E dX8_grant_13 (by decide) (by omega) (by omega) (fun c6 => ?_) (fun c6 => ?_)
      · skip
        obtain rfl : k = (sW S).length := by omega
        refine g_aload_n E dX8_grant_98 rfl 1 rfl ?_
        refine g_iconst (v := 3) E dX8_grant_99 (by decide) ?_
        refine g_iconst (v := 0) E dX8_grant_100 (by decide) ?_
        refine g_iast (ws' := [(m 0, .inr (8, [.int (q 0), .ref (m 1), .int (q 1), .int (q 2), .int (q 3), .int (q 4), .ref (m 2), .ref (m 3), .ref (m 4), .ref (m 5), .int (q 5), .ref (m 6), .ref (m 7), .ref (m 8), .int (q 6), .int (q 7), .int (q 8)])), (m 8, .inl (gy G 0, 10, .inl tu)), (r, .inl (gy G 0, 271, .inl (upd g 3 0)))]) (j := 3) (y := 0) E 2 rfl (g_in (e := 3) (by omega) rfl) (nI_clamp (n := 3) (by omega)) rfl rfl dX8_grant_101 ?_
        refine g_iconst (v := 0) E dX8_grant_102 (by decide) ?_
        refine g_istore_n (lv' := [(3, .int 0), (0, .ref (m 0)), (1, .ref r), (2, .int (nI ((sW S).length)))]) E dX8_grant_103 rfl (by decide) rfl ?_
        have loop7 : ∀ (n8 : Nat) (k : Nat) (g2 : Nat → Int32), (k ≤ (sW S).length) → (RR (uW C (gFlN Z k)) g2) → (∀ j, k ≤ j → j < (sW S).length → g2 (261 + j) = nI (wq Z j)) → (sW S).length - k < n8 → gW V 6 0 0 [(m 0, .inr (8, [.int (q 0), .ref (m 1), .int (q 1), .int (q 2), .int (q 3), .int (q 4), .ref (m 2), .ref (m 3), .ref (m 4), .ref (m 5), .int (q 5), .ref (m 6), .ref (m 7), .ref (m 8), .int (q 6), .int (q 7), .int (q 8)])), (m 8, .inl (gy G 0, 10, .inl tu)), (r, .inl (gy G 0, 271, .inl g2))] [(0, .ref (m 0)), (1, .ref r), (2, .int (nI ((sW S).length))), (3, .int (nI k))] 104 [] := by
          intro n8
          induction n8 with
          | zero => intro k g2 hk hR2 hz hm10; exact absurd hm10 (Nat.not_lt_zero _)
          | succ n8 ih9 =>
            intro k g2 hk hR2 hz hm10
            have hlF := gFlN_le Z k
            refine g_iload_n E dX8_grant_104 rfl 3 rfl ?_
            refine g_iload_n E dX8_grant_105 rfl 2 rfl ?_
            refine g_icmp_geN (tgt := 149) (a := k) (b := (sW S).length) E dX8_grant_106 (by decide) (by omega) (by omega) (fun c11 => ?_) (fun c11 => ?_)
            · skip
              obtain rfl : k = (sW S).length := by omega
              exact RET _ _ (tu, g2) (by rw [← gGi_end hGi]; exact hR2) dX8_grant_149
            · skip
              have hkn : k < (sW S).length := by omega
              refine g_aload_n E dX8_grant_109 rfl 1 rfl ?_
              refine g_sipush (v := 261) E dX8_grant_110 (by decide) ?_
              refine g_iload_n E dX8_grant_113 rfl 3 rfl ?_
              refine g_iaddN (a := 261) (b := k) E dX8_grant_114 ?_
              refine g_ialdN (e := 261 + k) E 2 rfl (by omega) rfl (v := nI (wq Z k)) (hz k (Nat.le_refl _) hkn) dX8_grant_115 ?_
              refine g_iconst (v := (-1)) E dX8_grant_116 (by decide) ?_
              refine g_icmp_eq (tgt := 143) E dX8_grant_117 (by decide) (fun c12 => ?_) (fun c12 => ?_)
              · skip
                have hM := (gGi_m hGi hI hkn).mp c12
                refine g_iinc (lv' := [(3, .int (nI (k + 1))), (0, .ref (m 0)), (1, .ref r), (2, .int (nI ((sW S).length)))]) E dX8_grant_143 3 rfl (g_inc _ 1 (by decide)) (by decide) rfl ?_
                refine g_goto (tgt := 104) E dX8_grant_146 (by decide) ?_
                refine g_lv [1, 2, 3, 0] rfl ?_
                exact ih9  (k + 1) _ (by omega) (by rw [gFlN, if_pos hM]; exact hR2) (fun j a b => hz j (by omega) b) (by omega)
              · skip
                have hM : ¬ wq Z k = 4294967295 := fun c => c12 ((gGi_m hGi hI hkn).mpr c)
                refine g_aload_n E dX8_grant_120 rfl 1 rfl ?_
                refine g_sipush (v := 261) E dX8_grant_121 (by decide) ?_
                refine g_aload_n E dX8_grant_124 rfl 1 rfl ?_
                refine g_iconst (v := 3) E dX8_grant_125 (by decide) ?_
                refine g_ialdN (e := 3) E 2 rfl (by omega) rfl (v := nI (gFlN Z k).length) (RR_3 hR2) dX8_grant_126 ?_
                refine g_iaddN (a := 261) (b := (gFlN Z k).length) E dX8_grant_127 ?_
                refine g_aload_n E dX8_grant_128 rfl 1 rfl ?_
                refine g_sipush (v := 261) E dX8_grant_129 (by decide) ?_
                refine g_iload_n E dX8_grant_132 rfl 3 rfl ?_
                refine g_iaddN (a := 261) (b := k) E dX8_grant_133 ?_
                refine g_ialdN (e := 261 + k) E 2 rfl (by omega) rfl (v := nI (wq Z k)) (hz k (Nat.le_refl _) hkn) dX8_grant_134 ?_
                refine g_iast (ws' := [(m 0, .inr (8, [.int (q 0), .ref (m 1), .int (q 1), .int (q 2), .int (q 3), .int (q 4), .ref (m 2), .ref (m 3), .ref (m 4), .ref (m 5), .int (q 5), .ref (m 6), .ref (m 7), .ref (m 8), .int (q 6), .int (q 7), .int (q 8)])), (m 8, .inl (gy G 0, 10, .inl tu)), (r, .inl (gy G 0, 271, .inl (upd g2 (261 + ((gFlN Z k).length)) (nI (wq Z k)))))]) (j := 261 + ((gFlN Z k).length)) (y := nI (wq Z k)) E 2 rfl (g_in (e := 261 + ((gFlN Z k).length)) (by omega) rfl) (nI_clamp (n := 261 + ((gFlN Z k).length)) (by omega)) rfl rfl dX8_grant_135 ?_
                refine g_aload_n E dX8_grant_136 rfl 1 rfl ?_
                refine g_iconst (v := 3) E dX8_grant_137 (by decide) ?_
                refine g_dup2 E dX8_grant_138 rfl rfl ?_
                refine g_ialdN (e := 3) E 2 rfl (by omega) rfl (v := nI (gFlN Z k).length) ((upd_ne (by omega)).trans (RR_3 hR2)) dX8_grant_139 ?_
                refine g_iconst (v := 1) E dX8_grant_140 (by decide) ?_
                refine g_iaddN (a := (gFlN Z k).length) (b := 1) E dX8_grant_141 ?_
                refine g_iast (ws' := [(m 0, .inr (8, [.int (q 0), .ref (m 1), .int (q 1), .int (q 2), .int (q 3), .int (q 4), .ref (m 2), .ref (m 3), .ref (m 4), .ref (m 5), .int (q 5), .ref (m 6), .ref (m 7), .ref (m 8), .int (q 6), .int (q 7), .int (q 8)])), (m 8, .inl (gy G 0, 10, .inl tu)), (r, .inl (gy G 0, 271, .inl (upd (upd g2 (261 + ((gFlN Z k).length)) (nI (wq Z k))) 3 (nI ((gFlN Z k).length + 1)))))]) (j := 3) (y := nI ((gFlN Z k).length + 1)) E 2 rfl (g_in (e := 3) (by omega) rfl) (nI_clamp (n := 3) (by omega)) rfl rfl dX8_grant_142 ?_
                refine g_iinc (lv' := [(3, .int (nI (k + 1))), (0, .ref (m 0)), (1, .ref r), (2, .int (nI ((sW S).length)))]) E dX8_grant_143 3 rfl (g_inc _ 1 (by decide)) (by decide) rfl ?_
                refine g_goto (tgt := 104) E dX8_grant_146 (by decide) ?_
                refine g_lv [1, 2, 3, 0] rfl ?_
                exact ih9  (k + 1) _ (by omega) (by rw [gFlN, if_neg hM]; exact RR_wish hR2 hlB (show (gFlN Z k).length < 10 by omega)) (fun j a b => (upd_ne (by omega)).trans ((upd_ne (by omega)).trans (hz j (by omega) b))) (by omega)
        refine g_lv [1, 2, 3, 0] rfl ?_
        exact loop7 _ 0 _ (Nat.zero_le _) (RR_uW0 (S := uW C Z) hRg) (fun j a b => (upd_ne (by omega)).trans (RR_W hRg (show j < Z.length by omega))) (Nat.lt_succ_self _)
      · skip
        have hkn : k < (sW S).length := by omega
        obtain ⟨i, hi1, hi2⟩ := hU k hkn
        obtain ⟨hin, hZe, hei, hwc, hZM⟩ := gGi_at hGi hkn hi1
        obtain ⟨w0, hw0⟩ : ∃ x, x = wq (sW S) i := ⟨_, rfl⟩
        have hwi := hW8 i hin
        rw [← hw0] at hwi
        have hi10 : i < 10 := by omega
        refine g_aload_n E dX8_grant_16 rfl 1 rfl ?_
        refine g_sipush (v := 261) E dX8_grant_17 (by decide) ?_
        refine g_aload_n E dX8_grant_20 rfl 0 rfl ?_
        refine g_get E uX8_grant_RX8 0 rfl rfl 13 (by decide) kX8_grant_32 rfl rfl dX8_grant_21 ?_
        refine g_iload_n E dX8_grant_24 rfl 3 rfl ?_
        refine g_ialdN (e := k) E 1 rfl (by omega) rfl (v := nI i) (hi2) dX8_grant_25 ?_
        refine g_iaddN (a := 261) (b := i) E dX8_grant_26 ?_
        refine g_ialdN (e := 261 + i) E 2 rfl (by omega) rfl (v := nI w0) (by rw [hw0, ← hZe]; exact RR_W hRg (show i < Z.length by omega)) dX8_grant_27 ?_
        refine g_istore (lv' := [(4, .int (nI w0)), (0, .ref (m 0)), (1, .ref r), (2, .int (nI ((sW S).length))), (3, .int (nI k))]) E dX8_grant_28 (by decide) rfl ?_
        refine g_aload_n E dX8_grant_30 rfl 2 rfl ?_
        refine g_iload E dX8_grant_31 0 rfl ?_
        refine g_bipush (v := 10) E dX8_grant_33 (by decide) ?_
        refine g_idivN (a := w0) (b := 10) E dX8_grant_35 (by omega) (by omega) (by omega) ?_
        refine g_iload E dX8_grant_36 0 rfl ?_
        refine g_bipush (v := 10) E dX8_grant_38 (by decide) ?_
        refine g_iremN (a := w0) (b := 10) E dX8_grant_40 (by omega) (by omega) (by omega) ?_
        refine g_bipush (v := 7) E dX8_grant_41 (by decide) ?_
        refine g_callSIe (F := [(m 0, .inr (8, [.int (q 0), .ref (m 1), .int (q 1), .int (q 2), .int (q 3), .int (q 4), .ref (m 2), .ref (m 3), .ref (m 4), .ref (m 5), .int (q 5), .ref (m 6), .ref (m 7), .ref (m 8), .int (q 6), .int (q 7), .int (q 8)])), (m 8, .inl (gy G 0, 10, .inl tu))]) (ws2 := [(m 0, .inr (8, [.int (q 0), .ref (m 1), .int (q 1), .int (q 2), .int (q 3), .int (q 4), .ref (m 2), .ref (m 3), .ref (m 4), .ref (m 5), .int (q 5), .ref (m 6), .ref (m 7), .ref (m 8), .int (q 6), .int (q 7), .int (q 8)])), (m 8, .inl (gy G 0, 10, .inl tu)), (r, .inl (gy G 0, 271, .inl g))]) E (mX8_firstIn G r (uW C Z) g (w0 / 10) (w0 % 10) 7 hIz hTz hRg (by omega) (by omega) (by omega) hb2) gX8_grant_X8_firstIn rfl hnX8_firstIn ⟨Nat.le_of_ble_eq_true rfl, Nat.le_of_ble_eq_true rfl⟩ (gPerm_ix [2, 0, 1] rfl rfl) rfl rfl (Nat.le_of_ble_eq_true rfl) dX8_grant_43 ⟨Nat.le_of_ble_eq_true rfl, Nat.le_of_ble_eq_true rfl⟩ (gPerm_ix [1, 2, 0] rfl rfl) ?_
        rcases hE : gEar (uW C Z) (w0 / 10) (w0 % 10) 7 with _ | t
        · skip
          refine g_istore (lv' := [(5, .int (-1)), (4, .int (nI w0)), (0, .ref (m 0)), (1, .ref r), (2, .int (nI ((sW S).length))), (3, .int (nI k))]) E dX8_grant_46 (by decide) rfl ?_
          refine g_iload E dX8_grant_48 0 rfl ?_
          refine g_iconst (v := (-1)) E dX8_grant_50 (by decide) ?_
          refine g_icmp_eq (tgt := 92) E dX8_grant_51 (by decide) (fun _ => ?_) (fun c => absurd c (by decide))
          refine g_iinc (lv' := [(3, .int (nI (k + 1))), (5, .int (-1)), (4, .int (nI w0)), (0, .ref (m 0)), (1, .ref r), (2, .int (nI ((sW S).length)))]) E dX8_grant_92 5 rfl (g_inc _ 1 (by decide)) (by decide) rfl ?_
          refine g_goto (tgt := 11) E dX8_grant_95 (by decide) ?_
          refine g_lv [3, 4, 5, 0] rfl ?_
          exact ih4  (k + 1) (T + 1) C Z _ (by omega) (gGi_no hGi hkn hi1 (by rw [← hw0]; exact hE)) hRg (by omega)
        · skip
          have he := gEar_spec hE
          have ht31 : t < 1700000000 := by omega
          obtain ⟨q1, q2, q3, q4⟩ := gBook_ok hIz hb2 he.2
          have q5 := hIz.2.2.2.2.1.2
          refine g_istore (lv' := [(5, .int (nI t)), (4, .int (nI w0)), (0, .ref (m 0)), (1, .ref r), (2, .int (nI ((sW S).length))), (3, .int (nI k))]) E dX8_grant_46 (by decide) rfl ?_
          refine g_iload E dX8_grant_48 0 rfl ?_
          refine g_iconst (v := (-1)) E dX8_grant_50 (by decide) ?_
          refine g_icmp_eq (tgt := 92) E dX8_grant_51 (by decide) (fun c13 => ?_) (fun c13 => ?_)
          · exfalso
            exact gNe_m1 (by omega) c13
          · skip
            refine g_aload_n E dX8_grant_54 rfl 3 rfl ?_
            refine g_iload E dX8_grant_55 1 rfl ?_
            refine g_bipush (v := 10) E dX8_grant_57 (by decide) ?_
            refine g_idivN (a := w0) (b := 10) E dX8_grant_59 (by omega) (by omega) (by omega) ?_
            refine g_iload E dX8_grant_60 1 rfl ?_
            refine g_bipush (v := 10) E dX8_grant_62 (by decide) ?_
            refine g_iremN (a := w0) (b := 10) E dX8_grant_64 (by omega) (by omega) (by omega) ?_
            refine g_iload E dX8_grant_65 0 rfl ?_
            refine g_bipush (v := 8) E dX8_grant_67 (by decide) ?_
            refine g_idivN (a := t) (b := 8) E dX8_grant_69 (by omega) (by omega) (by omega) ?_
            refine g_iload E dX8_grant_70 0 rfl ?_
            refine g_bipush (v := 8) E dX8_grant_72 (by decide) ?_
            refine g_iremN (a := t) (b := 8) E dX8_grant_74 (by omega) (by omega) (by omega) ?_
            refine g_callSIu (F := [(m 0, .inr (8, [.int (q 0), .ref (m 1), .int (q 1), .int (q 2), .int (q 3), .int (q 4), .ref (m 2), .ref (m 3), .ref (m 4), .ref (m 5), .int (q 5), .ref (m 6), .ref (m 7), .ref (m 8), .int (q 6), .int (q 7), .int (q 8)])), (m 8, .inl (gy G 0, 10, .inl tu))]) E (mX8_bookIn G r (uW C Z) g (w0 / 10) (w0 % 10) (t / 8) (t % 8) (gFr (gVih (sB (uW C Z)) 2 (t / 8) (t % 8) (sB (uW C Z)).length)) hIz hTz hRg (by omega) (by omega) (by omega) (by omega) q3 q1 (by omega) (gI2_so (S := C) hGi.1) q4) gX8_grant_X8_bookIn rfl hnX8_bookIn ⟨Nat.le_of_ble_eq_true rfl, Nat.le_of_ble_eq_true rfl⟩ (gPerm_ix [2, 0, 1] rfl rfl) rfl rfl (Nat.le_of_ble_eq_true rfl) dX8_grant_75 ⟨Nat.le_of_ble_eq_true rfl, Nat.le_of_ble_eq_true rfl⟩ (fun u2 hU2 => ?_)
            have hRu : RR (uW (gBook C (w0 / 10) (w0 % 10) (t / 8) (t % 8)) Z) u2 := hU2
            refine g_perm (ws1 := [(m 0, .inr (8, [.int (q 0), .ref (m 1), .int (q 1), .int (q 2), .int (q 3), .int (q 4), .ref (m 2), .ref (m 3), .ref (m 4), .ref (m 5), .int (q 5), .ref (m 6), .ref (m 7), .ref (m 8), .int (q 6), .int (q 7), .int (q 8)])), (m 8, .inl (gy G 0, 10, .inl tu)), (r, .inl (gy G 0, 271, .inl u2))]) (gPerm_ix [1, 2, 0] rfl rfl) ?_
            refine g_pop E dX8_grant_78 rfl ?_
            refine g_aload_n E dX8_grant_79 rfl 3 rfl ?_
            refine g_sipush (v := 261) E dX8_grant_80 (by decide) ?_
            refine g_aload_n E dX8_grant_83 rfl 2 rfl ?_
            refine g_get E uX8_grant_RX8 0 rfl rfl 13 (by decide) kX8_grant_32 rfl rfl dX8_grant_84 ?_
            refine g_iload_n E dX8_grant_87 rfl 5 rfl ?_
            refine g_ialdN (e := k) E 1 rfl (by omega) rfl (v := nI i) (hi2) dX8_grant_88 ?_
            refine g_iaddN (a := 261) (b := i) E dX8_grant_89 ?_
            refine g_iconst (v := (-1)) E dX8_grant_90 (by decide) ?_
            refine g_iast (ws' := [(m 0, .inr (8, [.int (q 0), .ref (m 1), .int (q 1), .int (q 2), .int (q 3), .int (q 4), .ref (m 2), .ref (m 3), .ref (m 4), .ref (m 5), .int (q 5), .ref (m 6), .ref (m 7), .ref (m 8), .int (q 6), .int (q 7), .int (q 8)])), (m 8, .inl (gy G 0, 10, .inl tu)), (r, .inl (gy G 0, 271, .inl (upd u2 (261 + i) (-1))))]) (j := 261 + i) (y := (-1)) E 2 rfl (g_in (e := 261 + i) (by omega) rfl) (nI_clamp (n := 261 + i) (by omega)) rfl rfl dX8_grant_91 ?_
            have hRR15 : RR (uW (gBook C (w0 / 10) (w0 % 10) (t / 8) (t % 8)) (Z.set i 4294967295)) (upd u2 (261 + i) (-1)) := RR_uWm hRu (by rw [hw0]; exact (gI2_1 (gGi_yes hGi hkn hi1 (by rw [← hw0]; exact hE)).1).2.1) (by omega)
            refine g_iinc (lv' := [(3, .int (nI (k + 1))), (5, .int (nI t)), (4, .int (nI w0)), (0, .ref (m 0)), (1, .ref r), (2, .int (nI ((sW S).length)))]) E dX8_grant_92 5 rfl (g_inc _ 1 (by decide)) (by decide) rfl ?_
            refine g_goto (tgt := 11) E dX8_grant_95 (by decide) ?_
            refine g_lv [3, 4, 5, 0] rfl ?_
            exact ih4  (k + 1) T _ _ _ (by omega) (gGi_yes hGi hkn hi1 (by rw [← hw0]; exact hE)) (by rw [← hw0]; exact hRR15) (by omega)
  refine g_lv [2, 3, 1, 0] rfl ?_
  exact loop2 _ 0 0 S (sW S) _ (Nat.zero_le _) (gGi_0 hJ) hRR (Nat.lt_succ_self _)

set_option maxHeartbeats 4000000 in
set_option maxRecDepth 100000 in
theorem mX8_dayIn (G : gG) (m : Nat → Nat) (q : Nat → Int32) (r : Nat) (S : gSt) (f : Nat → Int32) (tn : Nat → Int32) (hJ : gI2 S) (hT2 : sN S 0 < 200000000) (hRR : RR S f) : CV G yX8_dayIn wsX8_dayIn 6 144 [.ref (m 0), .ref r] [(m 0, .inr (8, [.int (q 0), .ref (m 1), .int (q 1), .int (q 2), .int (q 3), .int (q 4), .ref (m 2), .ref (m 3), .ref (m 4), .ref (m 5), .int (q 5), .ref (m 6), .ref (m 7), .ref (m 8), .int (q 6), .int (q 7), .int (q 8)])), (m 8, .inl (gy G 0, 10, .inl tn)), (r, .inl (gy G 0, 271, .inl f))] (fun u : Int32 × (Nat → Int32) × (Nat → Int32) => u.1 = gDf S (q 6) ∧ RR (gDay S) u.2.2) (fun (u : Int32 × (Nat → Int32) × (Nat → Int32)) => [(m 0, .inr (8, [.int (q 0), .ref (m 1), .int (q 1), .int (q 2), .int (q 3), .int (q 4), .ref (m 2), .ref (m 3), .ref (m 4), .ref (m 5), .int (q 5), .ref (m 6), .ref (m 7), .ref (m 8), .int u.1, .int (q 7), .int (q 8)])), (m 8, .inl (gy G 0, 10, .inl u.2.1)), (r, .inl (gy G 0, 271, .inl u.2.2))]) 0 0 := by
  refine g_enterV RX8 rfl (by decide) rfl (Nat.le_of_ble_eq_true rfl) ?_
  intro V E RET
  have hI := hJ.1
  have hT : sN S 0 < 1000000000 := by omega
  have hX := hI
  obtain ⟨hP8, hn, hw, hW8, hs3, hs4, hs5, hs6, hs7, hs8, hb34⟩ := hX
  have hT9 : sN (gDayT S) 0 = sN S 0 := by unfold gDayT; rw [gDayL_0, gGrant_0]
  refine g_aload_n E dX8_dayIn_0 rfl 0 rfl ?_
  refine g_aload_n E dX8_dayIn_1 rfl 1 rfl ?_
  refine g_callVV (F := []) E (mX8_grant G m q r S f tn hJ hT2 hRR) gX8_dayIn_X8_grant rfl hdX8_grant ⟨Nat.le_of_ble_eq_true rfl, Nat.le_of_ble_eq_true rfl⟩ 8 0 rfl rfl rfl (gPerm_ix [0, 1, 2] rfl rfl) rfl rfl (Nat.le_of_ble_eq_true rfl) dX8_dayIn_2 ⟨Nat.le_of_ble_eq_true rfl, Nat.le_of_ble_eq_true rfl⟩ (fun u1 hU1 => ?_)
  obtain ⟨S1, xE1⟩ : ∃ x, x = gGrant S := ⟨_, rfl⟩
  have hRR1 : RR S1 u1.2 := by rw [xE1]; exact hU1
  refine g_perm (ws1 := [(m 0, .inr (8, [.int (q 0), .ref (m 1), .int (q 1), .int (q 2), .int (q 3), .int (q 4), .ref (m 2), .ref (m 3), .ref (m 4), .ref (m 5), .int (q 5), .ref (m 6), .ref (m 7), .ref (m 8), .int (q 6), .int (q 7), .int (q 8)])), (m 8, .inl (gy G 0, 10, .inl u1.1)), (r, .inl (gy G 0, 271, .inl u1.2))]) (gPerm_ix [0, 1, 2] rfl rfl) ?_
  have loop3 : ∀ (n4 : Nat) (C : gSt) (ft : Int32) (g : Nat → Int32), (gI2 C) → (sN C 0 = sN S 0) → (gDayL (sB C).length C = gDayT S) → (gDLf (sB C).length C ft = gDf S (q 6)) → (RR C g) → (sB C).length < n4 → gW V 3 0 0 [(m 0, .inr (8, [.int (q 0), .ref (m 1), .int (q 1), .int (q 2), .int (q 3), .int (q 4), .ref (m 2), .ref (m 3), .ref (m 4), .ref (m 5), .int (q 5), .ref (m 6), .ref (m 7), .ref (m 8), .int ft, .int (q 7), .int (q 8)])), (m 8, .inl (gy G 0, 10, .inl u1.1)), (r, .inl (gy G 0, 271, .inl g))] [(0, .ref (m 0)), (1, .ref r)] 5 [] := by
    intro n4
    induction n4 with
    | zero => intro C ft g hJc hC0 hD hF hRg hm6; exact absurd hm6 (Nat.not_lt_zero _)
    | succ n4 ih5 =>
      intro C ft g hJc hC0 hD hF hRg hm6
      have hIc := hJc.1
      have hTc : sN C 0 < 1000000000 := by omega
      have hlB : (sB C).length ≤ 24 := hIc.2.1
      refine g_aload_n E dX8_dayIn_5 rfl 1 rfl ?_
      refine g_iconst (v := 2) E dX8_dayIn_6 (by decide) ?_
      refine g_ialdN (e := 2) E 2 rfl (by omega) rfl (v := nI ((sB C).length)) (RR_2 hRg) dX8_dayIn_7 ?_
      refine g_if_leN (tgt := 71) (a := (sB C).length) E dX8_dayIn_8 (by decide) (by omega) (fun c7 => ?_) (fun c7 => ?_)
      · skip
        have hRT : RR (gDayT S) g := by rw [← hD, gDayL_no' (Or.inl (by omega))]; exact hRg
        have hFT : ft = gDf S (q 6) := by rw [← hF, gDLf_no (Or.inl (by omega))]
        refine g_aload_n E dX8_dayIn_71 rfl 1 rfl ?_
        refine g_iconst (v := 0) E dX8_dayIn_72 (by decide) ?_
        refine g_dup2 E dX8_dayIn_73 rfl rfl ?_
        refine g_ialdN (e := 0) E 2 rfl (by omega) rfl (v := nI (sN (gDayT S) 0)) (RR_0 hRT) dX8_dayIn_74 ?_
        refine g_iconst (v := 1) E dX8_dayIn_75 (by decide) ?_
        refine g_iaddN (a := sN (gDayT S) 0) (b := 1) E dX8_dayIn_76 ?_
        refine g_iast (ws' := [(m 0, .inr (8, [.int (q 0), .ref (m 1), .int (q 1), .int (q 2), .int (q 3), .int (q 4), .ref (m 2), .ref (m 3), .ref (m 4), .ref (m 5), .int (q 5), .ref (m 6), .ref (m 7), .ref (m 8), .int ft, .int (q 7), .int (q 8)])), (m 8, .inl (gy G 0, 10, .inl u1.1)), (r, .inl (gy G 0, 271, .inl (upd g 0 (nI (sN (gDayT S) 0 + 1)))))]) (j := 0) (y := nI (sN (gDayT S) 0 + 1)) E 2 rfl (g_in (e := 0) (by omega) rfl) (nI_clamp (n := 0) (by omega)) rfl rfl dX8_dayIn_77 ?_
        have hRR8 : RR (uN (gDayT S) 0 (sN (gDayT S) 0 + 1)) (upd g 0 (nI (sN (gDayT S) 0 + 1))) := RR_uT hRT
        refine g_iconst (v := 0) E dX8_dayIn_78 (by decide) ?_
        refine g_istore_n (lv' := [(2, .int 0), (0, .ref (m 0)), (1, .ref r)]) E dX8_dayIn_79 rfl (by decide) rfl ?_
        have loop9 : ∀ (n10 : Nat) (p : Nat) (g3 : Nat → Int32), (p ≤ 8) → (p = 0 ∨ (sN (gDayT S) 0 + 1) % 7 = 0) → (RR (uI (uN (gDayT S) 0 (sN (gDayT S) 0 + 1)) 4 (gZk (uN (gDayT S) 0 (sN (gDayT S) 0 + 1)) p)) g3) → 8 - p < n10 → gW V 3 0 0 [(m 0, .inr (8, [.int (q 0), .ref (m 1), .int (q 1), .int (q 2), .int (q 3), .int (q 4), .ref (m 2), .ref (m 3), .ref (m 4), .ref (m 5), .int (q 5), .ref (m 6), .ref (m 7), .ref (m 8), .int ft, .int (q 7), .int (q 8)])), (m 8, .inl (gy G 0, 10, .inl u1.1)), (r, .inl (gy G 0, 271, .inl g3))] [(0, .ref (m 0)), (1, .ref r), (2, .int (nI p))] 80 [] := by
          intro n10
          induction n10 with
          | zero => intro p g3 hp hp2 hR3 hm12; exact absurd hm12 (Nat.not_lt_zero _)
          | succ n10 ih11 =>
            intro p g3 hp hp2 hR3 hm12
            refine g_iload_n E dX8_dayIn_80 rfl 2 rfl ?_
            refine g_bipush (v := 8) E dX8_dayIn_81 (by decide) ?_
            refine g_icmp_geN (tgt := 109) (a := p) (b := 8) E dX8_dayIn_83 (by decide) (by omega) (by omega) (fun c13 => ?_) (fun c13 => ?_)
            · skip
              obtain rfl : p = 8 := by omega
              have hRN := gNext_b hR3 (by omega)
              exact RET _ _ (ft, u1.1, g3) (⟨hFT, hRN⟩) dX8_dayIn_109
            · skip
              have hp8 : p < 8 := by omega
              refine g_aload_n E dX8_dayIn_86 rfl 1 rfl ?_
              refine g_iconst (v := 0) E dX8_dayIn_87 (by decide) ?_
              refine g_ialdN (e := 0) E 2 rfl (by omega) rfl (v := nI (sN (gDayT S) 0 + 1)) (RR_0 hR3) dX8_dayIn_88 ?_
              refine g_bipush (v := 7) E dX8_dayIn_89 (by decide) ?_
              refine g_iremN (a := sN (gDayT S) 0 + 1) (b := 7) E dX8_dayIn_91 (by omega) (by omega) (by omega) ?_
              refine g_if_neN (tgt := 109) (a := (sN (gDayT S) 0 + 1) % 7) E dX8_dayIn_92 (by decide) (by omega) (fun c14 => ?_) (fun c14 => ?_)
              · skip
                obtain rfl : p = 0 := by omega
                have hRN := gNext_a hR3 c14
                exact RET _ _ (ft, u1.1, g3) (⟨hFT, hRN⟩) dX8_dayIn_109
              · skip
                refine g_aload_n E dX8_dayIn_95 rfl 1 rfl ?_
                refine g_iload_n E dX8_dayIn_96 rfl 2 rfl ?_
                refine g_iconst (v := 4) E dX8_dayIn_97 (by decide) ?_
                refine g_callSIe (F := [(m 0, .inr (8, [.int (q 0), .ref (m 1), .int (q 1), .int (q 2), .int (q 3), .int (q 4), .ref (m 2), .ref (m 3), .ref (m 4), .ref (m 5), .int (q 5), .ref (m 6), .ref (m 7), .ref (m 8), .int ft, .int (q 7), .int (q 8)])), (m 8, .inl (gy G 0, 10, .inl u1.1)), (r, .inl (gy G 0, 271, .inl g3))]) (ws2 := [(m 0, .inr (8, [.int (q 0), .ref (m 1), .int (q 1), .int (q 2), .int (q 3), .int (q 4), .ref (m 2), .ref (m 3), .ref (m 4), .ref (m 5), .int (q 5), .ref (m 6), .ref (m 7), .ref (m 8), .int ft, .int (q 7), .int (q 8)])), (m 8, .inl (gy G 0, 10, .inl u1.1)), (r, .inl (gy G 0, 271, .inl g3))]) E (mX8_prisonerAt G p 4 (by omega) (by omega)) gX8_dayIn_X8_prisonerAt rfl hnX8_prisonerAt ⟨Nat.le_of_ble_eq_true rfl, Nat.le_of_ble_eq_true rfl⟩ (gPerm_ix [0, 1, 2] rfl rfl) rfl rfl (Nat.le_of_ble_eq_true rfl) dX8_dayIn_98 ⟨Nat.le_of_ble_eq_true rfl, Nat.le_of_ble_eq_true rfl⟩ (gPerm_ix [0, 1, 2] rfl rfl) ?_
                refine g_iconst (v := 0) E dX8_dayIn_101 (by decide) ?_
                refine g_iast (ws' := [(m 0, .inr (8, [.int (q 0), .ref (m 1), .int (q 1), .int (q 2), .int (q 3), .int (q 4), .ref (m 2), .ref (m 3), .ref (m 4), .ref (m 5), .int (q 5), .ref (m 6), .ref (m 7), .ref (m 8), .int ft, .int (q 7), .int (q 8)])), (m 8, .inl (gy G 0, 10, .inl u1.1)), (r, .inl (gy G 0, 271, .inl (upd g3 (15 + 6 * p + 4) 0)))]) (j := 15 + 6 * p + 4) (y := 0) E 2 rfl (g_in (e := 15 + 6 * p + 4) (by omega) rfl) (nI_clamp (n := 15 + 6 * p + 4) (by omega)) rfl rfl dX8_dayIn_102 ?_
                have hR4 := RR_wk hR3 hp8
                refine g_iinc (lv' := [(2, .int (nI (p + 1))), (0, .ref (m 0)), (1, .ref r)]) E dX8_dayIn_103 2 rfl (g_inc _ 1 (by decide)) (by decide) rfl ?_
                refine g_goto (tgt := 80) E dX8_dayIn_106 (by decide) ?_
                refine g_lv [1, 2, 0] rfl ?_
                exact ih11  (p + 1) _ (by omega) (Or.inr c14) hR4 (by omega)
        refine g_lv [1, 2, 0] rfl ?_
        exact loop9 _ 0 _ (Nat.zero_le _) (Or.inl rfl) (by have e : gZk (uN (gDayT S) 0 (sN (gDayT S) 0 + 1)) 0 = sI (uN (gDayT S) 0 (sN (gDayT S) 0 + 1)) 4 := (funext fun j => if_neg (Nat.not_lt_zero j)); rw [e, uI_self]; exact hRR8) (Nat.lt_succ_self _)
      · skip
        have h0l : 0 < (sB C).length := by omega
        have hq0 := (hRg.2.2.2.2.2.2.2.2.1 0 h0l 0 (by decide)).2
        have hq6 := (gI2_fi hJc 0 h0l).2.2.2.2.2
        refine g_aload_n E dX8_dayIn_11 rfl 1 rfl ?_
        refine g_iconst (v := 0) E dX8_dayIn_12 (by decide) ?_
        refine g_iconst (v := 0) E dX8_dayIn_13 (by decide) ?_
        refine g_callSIe (F := [(m 0, .inr (8, [.int (q 0), .ref (m 1), .int (q 1), .int (q 2), .int (q 3), .int (q 4), .ref (m 2), .ref (m 3), .ref (m 4), .ref (m 5), .int (q 5), .ref (m 6), .ref (m 7), .ref (m 8), .int ft, .int (q 7), .int (q 8)])), (m 8, .inl (gy G 0, 10, .inl u1.1)), (r, .inl (gy G 0, 271, .inl g))]) (ws2 := [(m 0, .inr (8, [.int (q 0), .ref (m 1), .int (q 1), .int (q 2), .int (q 3), .int (q 4), .ref (m 2), .ref (m 3), .ref (m 4), .ref (m 5), .int (q 5), .ref (m 6), .ref (m 7), .ref (m 8), .int ft, .int (q 7), .int (q 8)])), (m 8, .inl (gy G 0, 10, .inl u1.1)), (r, .inl (gy G 0, 271, .inl g))]) E (mX8_bookingAt G 0 0 (by omega) (by omega)) gX8_dayIn_X8_bookingAt rfl hnX8_bookingAt ⟨Nat.le_of_ble_eq_true rfl, Nat.le_of_ble_eq_true rfl⟩ (gPerm_ix [0, 1, 2] rfl rfl) rfl rfl (Nat.le_of_ble_eq_true rfl) dX8_dayIn_14 ⟨Nat.le_of_ble_eq_true rfl, Nat.le_of_ble_eq_true rfl⟩ (gPerm_ix [0, 1, 2] rfl rfl) ?_
        refine g_ialdN (e := 93 + 7 * 0 + 0) E 2 rfl (by omega) rfl (v := nI (bk (sB C) 0 0)) (RR_B hRg (k := 0) (w := 0) (by omega) (by omega)) dX8_dayIn_17 ?_
        refine g_aload_n E dX8_dayIn_18 rfl 1 rfl ?_
        refine g_iconst (v := 0) E dX8_dayIn_19 (by decide) ?_
        refine g_ialdN (e := 0) E 2 rfl (by omega) rfl (v := nI (sN C 0)) (RR_0 hRg) dX8_dayIn_20 ?_
        refine g_icmp_neN (tgt := 71) (a := bk (sB C) 0 0) (b := sN C 0) E dX8_dayIn_21 (by decide) (by omega) (by omega) (fun c15 => ?_) (fun c15 => ?_)
        · skip
          have hRT : RR (gDayT S) g := by rw [← hD, gDayL_no' (Or.inr c15)]; exact hRg
          have hFT : ft = gDf S (q 6) := by rw [← hF, gDLf_no (Or.inr c15)]
          refine g_aload_n E dX8_dayIn_71 rfl 1 rfl ?_
          refine g_iconst (v := 0) E dX8_dayIn_72 (by decide) ?_
          refine g_dup2 E dX8_dayIn_73 rfl rfl ?_
          refine g_ialdN (e := 0) E 2 rfl (by omega) rfl (v := nI (sN (gDayT S) 0)) (RR_0 hRT) dX8_dayIn_74 ?_
          refine g_iconst (v := 1) E dX8_dayIn_75 (by decide) ?_
          refine g_iaddN (a := sN (gDayT S) 0) (b := 1) E dX8_dayIn_76 ?_
          refine g_iast (ws' := [(m 0, .inr (8, [.int (q 0), .ref (m 1), .int (q 1), .int (q 2), .int (q 3), .int (q 4), .ref (m 2), .ref (m 3), .ref (m 4), .ref (m 5), .int (q 5), .ref (m 6), .ref (m 7), .ref (m 8), .int ft, .int (q 7), .int (q 8)])), (m 8, .inl (gy G 0, 10, .inl u1.1)), (r, .inl (gy G 0, 271, .inl (upd g 0 (nI (sN (gDayT S) 0 + 1)))))]) (j := 0) (y := nI (sN (gDayT S) 0 + 1)) E 2 rfl (g_in (e := 0) (by omega) rfl) (nI_clamp (n := 0) (by omega)) rfl rfl dX8_dayIn_77 ?_
          have hRR16 : RR (uN (gDayT S) 0 (sN (gDayT S) 0 + 1)) (upd g 0 (nI (sN (gDayT S) 0 + 1))) := RR_uT hRT
          refine g_iconst (v := 0) E dX8_dayIn_78 (by decide) ?_
          refine g_istore_n (lv' := [(2, .int 0), (0, .ref (m 0)), (1, .ref r)]) E dX8_dayIn_79 rfl (by decide) rfl ?_
          have loop17 : ∀ (n18 : Nat) (p : Nat) (g3 : Nat → Int32), (p ≤ 8) → (p = 0 ∨ (sN (gDayT S) 0 + 1) % 7 = 0) → (RR (uI (uN (gDayT S) 0 (sN (gDayT S) 0 + 1)) 4 (gZk (uN (gDayT S) 0 (sN (gDayT S) 0 + 1)) p)) g3) → 8 - p < n18 → gW V 3 0 0 [(m 0, .inr (8, [.int (q 0), .ref (m 1), .int (q 1), .int (q 2), .int (q 3), .int (q 4), .ref (m 2), .ref (m 3), .ref (m 4), .ref (m 5), .int (q 5), .ref (m 6), .ref (m 7), .ref (m 8), .int ft, .int (q 7), .int (q 8)])), (m 8, .inl (gy G 0, 10, .inl u1.1)), (r, .inl (gy G 0, 271, .inl g3))] [(0, .ref (m 0)), (1, .ref r), (2, .int (nI p))] 80 [] := by
            intro n18
            induction n18 with
            | zero => intro p g3 hp hp2 hR3 hm20; exact absurd hm20 (Nat.not_lt_zero _)
            | succ n18 ih19 =>
              intro p g3 hp hp2 hR3 hm20
              refine g_iload_n E dX8_dayIn_80 rfl 2 rfl ?_
              refine g_bipush (v := 8) E dX8_dayIn_81 (by decide) ?_
              refine g_icmp_geN (tgt := 109) (a := p) (b := 8) E dX8_dayIn_83 (by decide) (by omega) (by omega) (fun c21 => ?_) (fun c21 => ?_)
              · skip
                obtain rfl : p = 8 := by omega
                have hRN := gNext_b hR3 (by omega)
                exact RET _ _ (ft, u1.1, g3) (⟨hFT, hRN⟩) dX8_dayIn_109
              · skip
                have hp8 : p < 8 := by omega
                refine g_aload_n E dX8_dayIn_86 rfl 1 rfl ?_
                refine g_iconst (v := 0) E dX8_dayIn_87 (by decide) ?_
                refine g_ialdN (e := 0) E 2 rfl (by omega) rfl (v := nI (sN (gDayT S) 0 + 1)) (RR_0 hR3) dX8_dayIn_88 ?_
                refine g_bipush (v := 7) E dX8_dayIn_89 (by decide) ?_
                refine g_iremN (a := sN (gDayT S) 0 + 1) (b := 7) E dX8_dayIn_91 (by omega) (by omega) (by omega) ?_
                refine g_if_neN (tgt := 109) (a := (sN (gDayT S) 0 + 1) % 7) E dX8_dayIn_92 (by decide) (by omega) (fun c22 => ?_) (fun c22 => ?_)
                · skip
                  obtain rfl : p = 0 := by omega
                  have hRN := gNext_a hR3 c22
                  exact RET _ _ (ft, u1.1, g3) (⟨hFT, hRN⟩) dX8_dayIn_109
                · skip
                  refine g_aload_n E dX8_dayIn_95 rfl 1 rfl ?_
                  refine g_iload_n E dX8_dayIn_96 rfl 2 rfl ?_
                  refine g_iconst (v := 4) E dX8_dayIn_97 (by decide) ?_
                  refine g_callSIe (F := [(m 0, .inr (8, [.int (q 0), .ref (m 1), .int (q 1), .int (q 2), .int (q 3), .int (q 4), .ref (m 2), .ref (m 3), .ref (m 4), .ref (m 5), .int (q 5), .ref (m 6), .ref (m 7), .ref (m 8), .int ft, .int (q 7), .int (q 8)])), (m 8, .inl (gy G 0, 10, .inl u1.1)), (r, .inl (gy G 0, 271, .inl g3))]) (ws2 := [(m 0, .inr (8, [.int (q 0), .ref (m 1), .int (q 1), .int (q 2), .int (q 3), .int (q 4), .ref (m 2), .ref (m 3), .ref (m 4), .ref (m 5), .int (q 5), .ref (m 6), .ref (m 7), .ref (m 8), .int ft, .int (q 7), .int (q 8)])), (m 8, .inl (gy G 0, 10, .inl u1.1)), (r, .inl (gy G 0, 271, .inl g3))]) E (mX8_prisonerAt G p 4 (by omega) (by omega)) gX8_dayIn_X8_prisonerAt rfl hnX8_prisonerAt ⟨Nat.le_of_ble_eq_true rfl, Nat.le_of_ble_eq_true rfl⟩ (gPerm_ix [0, 1, 2] rfl rfl) rfl rfl (Nat.le_of_ble_eq_true rfl) dX8_dayIn_98 ⟨Nat.le_of_ble_eq_true rfl, Nat.le_of_ble_eq_true rfl⟩ (gPerm_ix [0, 1, 2] rfl rfl) ?_
                  refine g_iconst (v := 0) E dX8_dayIn_101 (by decide) ?_
                  refine g_iast (ws' := [(m 0, .inr (8, [.int (q 0), .ref (m 1), .int (q 1), .int (q 2), .int (q 3), .int (q 4), .ref (m 2), .ref (m 3), .ref (m 4), .ref (m 5), .int (q 5), .ref (m 6), .ref (m 7), .ref (m 8), .int ft, .int (q 7), .int (q 8)])), (m 8, .inl (gy G 0, 10, .inl u1.1)), (r, .inl (gy G 0, 271, .inl (upd g3 (15 + 6 * p + 4) 0)))]) (j := 15 + 6 * p + 4) (y := 0) E 2 rfl (g_in (e := 15 + 6 * p + 4) (by omega) rfl) (nI_clamp (n := 15 + 6 * p + 4) (by omega)) rfl rfl dX8_dayIn_102 ?_
                  have hR4 := RR_wk hR3 hp8
                  refine g_iinc (lv' := [(2, .int (nI (p + 1))), (0, .ref (m 0)), (1, .ref r)]) E dX8_dayIn_103 2 rfl (g_inc _ 1 (by decide)) (by decide) rfl ?_
                  refine g_goto (tgt := 80) E dX8_dayIn_106 (by decide) ?_
                  refine g_lv [1, 2, 0] rfl ?_
                  exact ih19  (p + 1) _ (by omega) (Or.inr c22) hR4 (by omega)
          refine g_lv [1, 2, 0] rfl ?_
          exact loop17 _ 0 _ (Nat.zero_le _) (Or.inl rfl) (by have e : gZk (uN (gDayT S) 0 (sN (gDayT S) 0 + 1)) 0 = sI (uN (gDayT S) 0 (sN (gDayT S) 0 + 1)) 4 := (funext fun j => if_neg (Nat.not_lt_zero j)); rw [e, uI_self]; exact hRR16) (Nat.lt_succ_self _)
        · skip
          refine g_aload_n E dX8_dayIn_24 rfl 1 rfl ?_
          refine g_callSIu (F := [(m 0, .inr (8, [.int (q 0), .ref (m 1), .int (q 1), .int (q 2), .int (q 3), .int (q 4), .ref (m 2), .ref (m 3), .ref (m 4), .ref (m 5), .int (q 5), .ref (m 6), .ref (m 7), .ref (m 8), .int ft, .int (q 7), .int (q 8)])), (m 8, .inl (gy G 0, 10, .inl u1.1))]) E (mX8_look G r C g hIc hTc hRg (by omega) (gI2_sk hJc _ (hIc.2.2.2.2.2.2.2.2.2.2 0 (by omega)).2)) gX8_dayIn_X8_look rfl hnX8_look ⟨Nat.le_of_ble_eq_true rfl, Nat.le_of_ble_eq_true rfl⟩ (gPerm_ix [2, 0, 1] rfl rfl) rfl rfl (Nat.le_of_ble_eq_true rfl) dX8_dayIn_25 ⟨Nat.le_of_ble_eq_true rfl, Nat.le_of_ble_eq_true rfl⟩ (fun ul hRL => ?_)
          have hlr := gLookR_le C
          refine g_perm (ws1 := [(m 0, .inr (8, [.int (q 0), .ref (m 1), .int (q 1), .int (q 2), .int (q 3), .int (q 4), .ref (m 2), .ref (m 3), .ref (m 4), .ref (m 5), .int (q 5), .ref (m 6), .ref (m 7), .ref (m 8), .int ft, .int (q 7), .int (q 8)])), (m 8, .inl (gy G 0, 10, .inl u1.1)), (r, .inl (gy G 0, 271, .inl ul))]) (gPerm_ix [1, 2, 0] rfl rfl) ?_
          refine g_istore_n (lv' := [(2, .int (nI ((gLookR C).1))), (0, .ref (m 0)), (1, .ref r)]) E dX8_dayIn_28 rfl (by decide) rfl ?_
          refine g_aload_n E dX8_dayIn_29 rfl 1 rfl ?_
          refine g_aload_n E dX8_dayIn_30 rfl 2 rfl ?_
          refine g_iconst (v := 0) E dX8_dayIn_31 (by decide) ?_
          refine g_bipush (v := 6) E dX8_dayIn_32 (by decide) ?_
          refine g_callSIe (F := [(m 0, .inr (8, [.int (q 0), .ref (m 1), .int (q 1), .int (q 2), .int (q 3), .int (q 4), .ref (m 2), .ref (m 3), .ref (m 4), .ref (m 5), .int (q 5), .ref (m 6), .ref (m 7), .ref (m 8), .int ft, .int (q 7), .int (q 8)])), (m 8, .inl (gy G 0, 10, .inl u1.1)), (r, .inl (gy G 0, 271, .inl ul))]) (ws2 := [(m 0, .inr (8, [.int (q 0), .ref (m 1), .int (q 1), .int (q 2), .int (q 3), .int (q 4), .ref (m 2), .ref (m 3), .ref (m 4), .ref (m 5), .int (q 5), .ref (m 6), .ref (m 7), .ref (m 8), .int ft, .int (q 7), .int (q 8)])), (m 8, .inl (gy G 0, 10, .inl u1.1)), (r, .inl (gy G 0, 271, .inl ul))]) E (mX8_bookingAt G 0 6 (by omega) (by omega)) gX8_dayIn_X8_bookingAt rfl hnX8_bookingAt ⟨Nat.le_of_ble_eq_true rfl, Nat.le_of_ble_eq_true rfl⟩ (gPerm_ix [0, 1, 2] rfl rfl) rfl rfl (Nat.le_of_ble_eq_true rfl) dX8_dayIn_34 ⟨Nat.le_of_ble_eq_true rfl, Nat.le_of_ble_eq_true rfl⟩ (gPerm_ix [0, 1, 2] rfl rfl) ?_
          refine g_ialdN (e := 93 + 7 * 0 + 6) E 2 rfl (by omega) rfl (v := nI (bk (sB C) 0 6)) ((RR_B hRL (k := 0) (w := 6) (by rw [gLookR_B]; omega) (by decide)).trans (by rw [gLookR_B])) dX8_dayIn_37 ?_
          refine g_iconst (v := 1) E dX8_dayIn_38 (by decide) ?_
          refine g_icmp_neN (tgt := 46) (a := bk (sB C) 0 6) (b := 1) E dX8_dayIn_39 (by decide) (by omega) (by omega) (fun c24 => ?_) (fun c24 => ?_)
          · skip
            refine g_aload_n E dX8_dayIn_46 rfl 1 rfl ?_
            refine g_get E uX8_dayIn_RX8 0 rfl rfl 14 (by decide) kX8_dayIn_52 rfl rfl dX8_dayIn_47 ?_
            refine g_put (ws' := [(m 0, .inr (8, [.int (q 0), .ref (m 1), .int (q 1), .int (q 2), .int (q 3), .int (q 4), .ref (m 2), .ref (m 3), .ref (m 4), .ref (m 5), .int (q 5), .ref (m 6), .ref (m 7), .ref (m 8), .int ft, .int (q 7), .int (q 8)])), (m 8, .inl (gy G 0, 10, .inl u1.1)), (r, .inl (gy G 0, 271, .inl ul))]) E uX8_dayIn_RX8 tyX8 tyX8_ok nmX8 0 rfl rfl 14 (by decide) kX8_dayIn_52 rfl rfl rfl rfl (Nat.le_of_ble_eq_true rfl) rfl dX8_dayIn_50 ?_
            refine g_aload_n E dX8_dayIn_53 rfl 2 rfl ?_
            refine g_iconst (v := 4) E dX8_dayIn_54 (by decide) ?_
            refine g_iload_n E dX8_dayIn_55 rfl 0 rfl ?_
            refine g_iaddN (a := 4) (b := (gLookR C).1) E dX8_dayIn_56 ?_
            refine g_dup2 E dX8_dayIn_57 rfl rfl ?_
            refine g_ialdN (e := 4 + ((gLookR C).1)) E 2 rfl (by omega) rfl (v := sI ((gLookR C).2) 8 ((gLookR C).1)) (RR_C hRL (j := ((gLookR C).1)) (by omega)) dX8_dayIn_58 ?_
            refine g_iconst (v := 1) E dX8_dayIn_59 (by decide) ?_
            refine g_iadd E dX8_dayIn_60 ?_
            refine g_iast (ws' := [(m 0, .inr (8, [.int (q 0), .ref (m 1), .int (q 1), .int (q 2), .int (q 3), .int (q 4), .ref (m 2), .ref (m 3), .ref (m 4), .ref (m 5), .int (q 5), .ref (m 6), .ref (m 7), .ref (m 8), .int ft, .int (q 7), .int (q 8)])), (m 8, .inl (gy G 0, 10, .inl u1.1)), (r, .inl (gy G 0, 271, .inl (upd ul (4 + ((gLookR C).1)) ((sI ((gLookR C).2) 8 ((gLookR C).1)) + 1))))]) (j := 4 + ((gLookR C).1)) (y := (sI ((gLookR C).2) 8 ((gLookR C).1)) + 1) E 2 rfl (g_in (e := 4 + ((gLookR C).1)) (by omega) rfl) (nI_clamp (n := 4 + ((gLookR C).1)) (by omega)) rfl rfl dX8_dayIn_61 ?_
            have hRR25 : RR (gLX C) (upd ul (4 + ((gLookR C).1)) ((sI ((gLookR C).2) 8 ((gLookR C).1)) + 1)) := RR_uC hRL (by omega)
            have gLXB : sB (gLX C) = sB C := gLookR_B C
            have hIx : gI1 (gLX C) := gI1_uI (gI1_lookR hIc)
            have hTx : sN (gLX C) 0 < 1000000000 := by rw [show sN (gLX C) 0 = sN C 0 from gLookR_0t C]; exact hTc
            refine g_aload_n E dX8_dayIn_62 rfl 2 rfl ?_
            refine g_iconst (v := 0) E dX8_dayIn_63 (by decide) ?_
            refine g_callSIu (F := [(m 0, .inr (8, [.int (q 0), .ref (m 1), .int (q 1), .int (q 2), .int (q 3), .int (q 4), .ref (m 2), .ref (m 3), .ref (m 4), .ref (m 5), .int (q 5), .ref (m 6), .ref (m 7), .ref (m 8), .int ft, .int (q 7), .int (q 8)])), (m 8, .inl (gy G 0, 10, .inl u1.1))]) E (mX8_cancelIn G r (gLX C) (upd ul (4 + ((gLookR C).1)) ((sI ((gLookR C).2) 8 ((gLookR C).1)) + 1)) 0 hIx hTx hRR25 (by rw [gLXB]; omega)) gX8_dayIn_X8_cancelIn rfl hnX8_cancelIn ⟨Nat.le_of_ble_eq_true rfl, Nat.le_of_ble_eq_true rfl⟩ (gPerm_ix [2, 0, 1] rfl rfl) rfl rfl (Nat.le_of_ble_eq_true rfl) dX8_dayIn_64 ⟨Nat.le_of_ble_eq_true rfl, Nat.le_of_ble_eq_true rfl⟩ (fun u64 hU64 => ?_)
            refine g_perm (ws1 := [(m 0, .inr (8, [.int (q 0), .ref (m 1), .int (q 1), .int (q 2), .int (q 3), .int (q 4), .ref (m 2), .ref (m 3), .ref (m 4), .ref (m 5), .int (q 5), .ref (m 6), .ref (m 7), .ref (m 8), .int ft, .int (q 7), .int (q 8)])), (m 8, .inl (gy G 0, 10, .inl u1.1)), (r, .inl (gy G 0, 271, .inl u64))]) (gPerm_ix [1, 2, 0] rfl rfl) ?_
            refine g_pop E dX8_dayIn_67 rfl ?_
            refine g_goto (tgt := 5) E dX8_dayIn_68 (by decide) ?_
            refine g_lv [1, 2] rfl ?_
            exact ih5  (gLook C).2 _ _ (gI2_look hJc (by omega)) (by rw [gLook_0]; exact hC0) (by rw [gLook_len (lf := 1) (by decide), ← gDayL_st (by omega) rfl c15]; exact hD) (by rw [gLook_len (lf := 1) (by decide), ← hF, gDLf_st (ft := ft) (by omega) c15, gLook_1R]; simp [c24]) (by rw [gLook_X]; exact hU64) (by rw [gLook_len (lf := 1) (by decide)]; omega)
          · skip
            refine g_iload_n E dX8_dayIn_42 rfl 0 rfl ?_
            refine g_goto (tgt := 50) E dX8_dayIn_43 (by decide) ?_
            refine g_put (ws' := [(m 0, .inr (8, [.int (q 0), .ref (m 1), .int (q 1), .int (q 2), .int (q 3), .int (q 4), .ref (m 2), .ref (m 3), .ref (m 4), .ref (m 5), .int (q 5), .ref (m 6), .ref (m 7), .ref (m 8), .int (nI ((gLookR C).1)), .int (q 7), .int (q 8)])), (m 8, .inl (gy G 0, 10, .inl u1.1)), (r, .inl (gy G 0, 271, .inl ul))]) E uX8_dayIn_RX8 tyX8 tyX8_ok nmX8 0 rfl rfl 14 (by decide) kX8_dayIn_52 rfl rfl rfl rfl (Nat.le_of_ble_eq_true rfl) rfl dX8_dayIn_50 ?_
            refine g_aload_n E dX8_dayIn_53 rfl 2 rfl ?_
            refine g_iconst (v := 4) E dX8_dayIn_54 (by decide) ?_
            refine g_iload_n E dX8_dayIn_55 rfl 0 rfl ?_
            refine g_iaddN (a := 4) (b := (gLookR C).1) E dX8_dayIn_56 ?_
            refine g_dup2 E dX8_dayIn_57 rfl rfl ?_
            refine g_ialdN (e := 4 + ((gLookR C).1)) E 2 rfl (by omega) rfl (v := sI ((gLookR C).2) 8 ((gLookR C).1)) (RR_C hRL (j := ((gLookR C).1)) (by omega)) dX8_dayIn_58 ?_
            refine g_iconst (v := 1) E dX8_dayIn_59 (by decide) ?_
            refine g_iadd E dX8_dayIn_60 ?_
            refine g_iast (ws' := [(m 0, .inr (8, [.int (q 0), .ref (m 1), .int (q 1), .int (q 2), .int (q 3), .int (q 4), .ref (m 2), .ref (m 3), .ref (m 4), .ref (m 5), .int (q 5), .ref (m 6), .ref (m 7), .ref (m 8), .int (nI ((gLookR C).1)), .int (q 7), .int (q 8)])), (m 8, .inl (gy G 0, 10, .inl u1.1)), (r, .inl (gy G 0, 271, .inl (upd ul (4 + ((gLookR C).1)) ((sI ((gLookR C).2) 8 ((gLookR C).1)) + 1))))]) (j := 4 + ((gLookR C).1)) (y := (sI ((gLookR C).2) 8 ((gLookR C).1)) + 1) E 2 rfl (g_in (e := 4 + ((gLookR C).1)) (by omega) rfl) (nI_clamp (n := 4 + ((gLookR C).1)) (by omega)) rfl rfl dX8_dayIn_61 ?_
            have hRR27 : RR (gLX C) (upd ul (4 + ((gLookR C).1)) ((sI ((gLookR C).2) 8 ((gLookR C).1)) + 1)) := RR_uC hRL (by omega)
            have gLXB : sB (gLX C) = sB C := gLookR_B C
            have hIx : gI1 (gLX C) := gI1_uI (gI1_lookR hIc)
            have hTx : sN (gLX C) 0 < 1000000000 := by rw [show sN (gLX C) 0 = sN C 0 from gLookR_0t C]; exact hTc
            refine g_aload_n E dX8_dayIn_62 rfl 2 rfl ?_
            refine g_iconst (v := 0) E dX8_dayIn_63 (by decide) ?_
            refine g_callSIu (F := [(m 0, .inr (8, [.int (q 0), .ref (m 1), .int (q 1), .int (q 2), .int (q 3), .int (q 4), .ref (m 2), .ref (m 3), .ref (m 4), .ref (m 5), .int (q 5), .ref (m 6), .ref (m 7), .ref (m 8), .int (nI ((gLookR C).1)), .int (q 7), .int (q 8)])), (m 8, .inl (gy G 0, 10, .inl u1.1))]) E (mX8_cancelIn G r (gLX C) (upd ul (4 + ((gLookR C).1)) ((sI ((gLookR C).2) 8 ((gLookR C).1)) + 1)) 0 hIx hTx hRR27 (by rw [gLXB]; omega)) gX8_dayIn_X8_cancelIn rfl hnX8_cancelIn ⟨Nat.le_of_ble_eq_true rfl, Nat.le_of_ble_eq_true rfl⟩ (gPerm_ix [2, 0, 1] rfl rfl) rfl rfl (Nat.le_of_ble_eq_true rfl) dX8_dayIn_64 ⟨Nat.le_of_ble_eq_true rfl, Nat.le_of_ble_eq_true rfl⟩ (fun u64 hU64 => ?_)
            refine g_perm (ws1 := [(m 0, .inr (8, [.int (q 0), .ref (m 1), .int (q 1), .int (q 2), .int (q 3), .int (q 4), .ref (m 2), .ref (m 3), .ref (m 4), .ref (m 5), .int (q 5), .ref (m 6), .ref (m 7), .ref (m 8), .int (nI ((gLookR C).1)), .int (q 7), .int (q 8)])), (m 8, .inl (gy G 0, 10, .inl u1.1)), (r, .inl (gy G 0, 271, .inl u64))]) (gPerm_ix [1, 2, 0] rfl rfl) ?_
            refine g_pop E dX8_dayIn_67 rfl ?_
            refine g_goto (tgt := 5) E dX8_dayIn_68 (by decide) ?_
            refine g_lv [1, 2] rfl ?_
            exact ih5  (gLook C).2 _ _ (gI2_look hJc (by omega)) (by rw [gLook_0]; exact hC0) (by rw [gLook_len (lf := 1) (by decide), ← gDayL_st (by omega) rfl c15]; exact hD) (by rw [gLook_len (lf := 1) (by decide), ← hF, gDLf_st (ft := ft) (by omega) c15, gLook_1R]; simp [c24]) (by rw [gLook_X]; exact hU64) (by rw [gLook_len (lf := 1) (by decide)]; omega)
  refine g_lv [0, 1] rfl ?_
  exact loop3 _ _ _ _ (xE1 ▸ gI2_grant hJ) (by rw [xE1]; exact gGrant_0 S) (by rw [xE1]; rfl) (by rw [xE1]; rfl) hRR1 (Nat.lt_succ_self _)

set_option maxHeartbeats 4000000 in
set_option maxRecDepth 100000 in
theorem mX8_runIn (G : gG) (m : Nat → Nat) (q : Nat → Int32) (r : Nat) (S : gSt) (f : Nat → Int32) (tn : Nat → Int32) (n : Nat) (hJ : gI2 S) (hT3 : sN S 0 + n < 200000000) (hRR : RR S f) : CIu G yX8_runIn wsX8_runIn 7 166 [.ref (m 0), .ref r, .int (nI n)] [(m 0, .inr (8, [.int (q 0), .ref (m 1), .int (q 1), .int (q 2), .int (q 3), .int (q 4), .ref (m 2), .ref (m 3), .ref (m 4), .ref (m 5), .int (q 5), .ref (m 6), .ref (m 7), .ref (m 8), .int (q 6), .int (q 7), .int (q 8)])), (m 8, .inl (gy G 0, 10, .inl tn)), (r, .inl (gy G 0, 271, .inl f))] (sI (gDays n S) 8 0 - sI S 8 0) (fun u : Int32 × (Nat → Int32) × (Nat → Int32) => RR (gDays n S) u.2.2) (fun (u : Int32 × (Nat → Int32) × (Nat → Int32)) => [(m 0, .inr (8, [.int (q 0), .ref (m 1), .int (q 1), .int (q 2), .int (q 3), .int (q 4), .ref (m 2), .ref (m 3), .ref (m 4), .ref (m 5), .int (q 5), .ref (m 6), .ref (m 7), .ref (m 8), .int u.1, .int (q 7), .int (q 8)])), (m 8, .inl (gy G 0, 10, .inl u.2.1)), (r, .inl (gy G 0, 271, .inl u.2.2))]) 0 0 := by
  refine g_enterIu (ty := .int) RX8 rfl (by decide) rfl (Nat.le_of_ble_eq_true rfl) ?_
  intro V E RET
  have hT2 : sN S 0 < 200000000 := by omega
  have hI := hJ.1
  have hT : sN S 0 < 1000000000 := by omega
  have hX := hI
  obtain ⟨hP8, hn, hw, hW8, hs3, hs4, hs5, hs6, hs7, hs8, hb34⟩ := hX
  refine g_aload_n E dX8_runIn_0 rfl 1 rfl ?_
  refine g_iconst (v := 4) E dX8_runIn_1 (by decide) ?_
  refine g_ialdN (e := 4) E 2 rfl (by omega) rfl (v := sI S 8 0) (RR_C hRR (j := 0) (by decide)) dX8_runIn_2 ?_
  refine g_istore_n (lv' := [(3, .int (sI S 8 0)), (0, .ref (m 0)), (1, .ref r), (2, .int (nI n))]) E dX8_runIn_3 rfl (by decide) rfl ?_
  refine g_iconst (v := 0) E dX8_runIn_4 (by decide) ?_
  refine g_istore (lv' := [(4, .int 0), (3, .int (sI S 8 0)), (0, .ref (m 0)), (1, .ref r), (2, .int (nI n))]) E dX8_runIn_5 (by decide) rfl ?_
  have loop1 : ∀ (n2 : Nat) (k : Nat) (C : gSt) (ft : Int32) (tk g : Nat → Int32), (k ≤ n) → (gI2 C) → (sN C 0 = sN S 0 + k) → (gDays (n - k) C = gDays n S) → (RR C g) → n - k < n2 → gW V 5 0 0 [(m 0, .inr (8, [.int (q 0), .ref (m 1), .int (q 1), .int (q 2), .int (q 3), .int (q 4), .ref (m 2), .ref (m 3), .ref (m 4), .ref (m 5), .int (q 5), .ref (m 6), .ref (m 7), .ref (m 8), .int ft, .int (q 7), .int (q 8)])), (m 8, .inl (gy G 0, 10, .inl tk)), (r, .inl (gy G 0, 271, .inl g))] [(0, .ref (m 0)), (1, .ref r), (2, .int (nI n)), (3, .int (sI S 8 0)), (4, .int (nI k))] 7 [] := by
    intro n2
    induction n2 with
    | zero => intro k C ft tk g hk hJc hC0 hD hRg hm4; exact absurd hm4 (Nat.not_lt_zero _)
    | succ n2 ih3 =>
      intro k C ft tk g hk hJc hC0 hD hRg hm4
      refine g_iload E dX8_runIn_7 4 rfl ?_
      refine g_iload_n E dX8_runIn_9 rfl 2 rfl ?_
      refine g_icmp_geN (tgt := 24) (a := k) (b := n) E dX8_runIn_10 (by decide) (by omega) (by omega) (fun c5 => ?_) (fun c5 => ?_)
      · skip
        have ekn : k = n := by omega
        rw [ekn, Nat.sub_self] at hD
        have hRE : RR (gDays n S) g := hD ▸ hRg
        refine g_aload_n E dX8_runIn_24 rfl 1 rfl ?_
        refine g_iconst (v := 4) E dX8_runIn_25 (by decide) ?_
        refine g_ialdN (e := 4) E 2 rfl (by omega) rfl (v := sI (gDays n S) 8 0) (RR_C hRE (j := 0) (by decide)) dX8_runIn_26 ?_
        refine g_iload_n E dX8_runIn_27 rfl 3 rfl ?_
        refine g_isub E dX8_runIn_28 ?_
        exact RET _ _ _ (ft, tk, g) (⟨rfl, hRE⟩) rfl dX8_runIn_29
      · skip
        have hkn : k < n := by omega
        refine g_aload_n E dX8_runIn_13 rfl 0 rfl ?_
        refine g_aload_n E dX8_runIn_14 rfl 1 rfl ?_
        refine g_callVV (F := []) E (mX8_dayIn G m (qU q 6 ft) r C g tk hJc (by omega) hRg) gX8_runIn_X8_dayIn rfl hdX8_dayIn ⟨Nat.le_of_ble_eq_true rfl, Nat.le_of_ble_eq_true rfl⟩ 8 0 rfl rfl rfl (gPerm_ix [0, 1, 2] rfl rfl) rfl rfl (Nat.le_of_ble_eq_true rfl) dX8_runIn_15 ⟨Nat.le_of_ble_eq_true rfl, Nat.le_of_ble_eq_true rfl⟩ (fun u6 hU6 => ?_)
        obtain ⟨S6, xE6⟩ : ∃ x, x = gDay C := ⟨_, rfl⟩
        obtain ⟨hF6, hU6b⟩ := hU6
        have hRR6 : RR S6 u6.2.2 := by rw [xE6]; exact hU6b
        refine g_perm (ws1 := [(m 0, .inr (8, [.int (q 0), .ref (m 1), .int (q 1), .int (q 2), .int (q 3), .int (q 4), .ref (m 2), .ref (m 3), .ref (m 4), .ref (m 5), .int (q 5), .ref (m 6), .ref (m 7), .ref (m 8), .int u6.1, .int (q 7), .int (q 8)])), (m 8, .inl (gy G 0, 10, .inl u6.2.1)), (r, .inl (gy G 0, 271, .inl u6.2.2))]) (gPerm_ix [0, 1, 2] rfl rfl) ?_
        refine g_iinc (lv' := [(4, .int (nI (k + 1))), (0, .ref (m 0)), (1, .ref r), (2, .int (nI n)), (3, .int (sI S 8 0))]) E dX8_runIn_18 4 rfl (g_inc _ 1 (by decide)) (by decide) rfl ?_
        refine g_goto (tgt := 7) E dX8_runIn_21 (by decide) ?_
        refine g_lv [1, 2, 3, 4, 0] rfl ?_
        exact ih3  (k + 1) _ _ _ _ (by omega) (xE6 ▸ gI2_day hJc) (by rw [xE6, gDay_0]; omega) (by rw [xE6, ← hD]; exact (gDays_st (by omega)).symm) hRR6 (by omega)
  refine g_lv [2, 3, 4, 1, 0] rfl ?_
  exact loop1 _ 0 S _ _ _ (Nat.zero_le _) hJ rfl rfl hRR (Nat.lt_succ_self _)
