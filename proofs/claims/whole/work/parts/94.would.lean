set_option maxHeartbeats 4000000 in
set_option maxRecDepth 100000 in
theorem mX8_does (G : gG) (m : Nat → Nat) (q : Nat → Int32) (S : gSt) (f : Nat → Int32) (g : Nat) (tn : Nat → Int32) (hK : gI3 S) (hT100 : sN S 0 + 100 < 200000000) (hRR : RR S f) (hg : g < 100000) : CIu G yX8_does wsX8_does 9 211 [.ref (m 0), .int (nI g)] [(m 0, .inr (8, [.int (q 0), .ref (m 1), .int (q 1), .int (q 2), .int (q 3), .int (q 4), .ref (m 2), .ref (m 3), .ref (m 4), .ref (m 5), .int (q 5), .ref (m 6), .ref (m 7), .ref (m 8), .int (q 6), .int (q 7), .int (q 8)])), (m 4, .inl (gy G 0, 271, .inl f)), (m 8, .inl (gy G 0, 10, .inl tn))] ((gSucc S g).1) (fun u : Int32 × (Nat → Int32) × (Nat → Int32) => RR (gSucc S g).2 u.2.2) (fun (u : Int32 × (Nat → Int32) × (Nat → Int32)) => [(m 0, .inr (8, [.int (q 0), .ref (m 1), .int (q 1), .int (q 2), .int (q 3), .int (q 4), .ref (m 2), .ref (m 3), .ref (m 4), .ref (m 5), .int (q 5), .ref (m 6), .ref (m 7), .ref (m 8), .int u.1, .int (q 7), .int (q 8)])), (m 4, .inl (gy G 0, 271, .inl u.2.2)), (m 8, .inl (gy G 0, 10, .inl u.2.1))]) 0 0 := by
  refine g_enterIu (ty := .boolean) RX8 rfl (by decide) rfl (Nat.le_of_ble_eq_true rfl) ?_
  intro V E RET
  have hJ := hK.1
  have hI := hJ.1
  have hT2 : sN S 0 < 200000000 := by omega
  have hT : sN S 0 < 1000000000 := by omega
  have hb2 := gI2_b2 hJ
  have hX := hI
  obtain ⟨hP8, hn, hw, hW8, hs3, hs4, hs5, hs6, hs7, hs8, hb34⟩ := hX
  refine g_iload_n E dX8_does_0 rfl 1 rfl ?_
  refine g_sipush (v := 10000) E dX8_does_1 (by decide) ?_
  refine g_idivN (a := g) (b := 10000) E dX8_does_4 (by omega) (by omega) (by omega) ?_
  refine g_istore_n (lv' := [(2, .int (nI (g / 10000))), (0, .ref (m 0)), (1, .int (nI g))]) E dX8_does_5 rfl (by decide) rfl ?_
  refine g_iload_n E dX8_does_6 rfl 2 rfl ?_
  refine g_sipush (v := 1000) E dX8_does_7 (by decide) ?_
  refine g_idivN (a := g) (b := 1000) E dX8_does_10 (by omega) (by omega) (by omega) ?_
  refine g_bipush (v := 10) E dX8_does_11 (by decide) ?_
  refine g_iremN (a := g / 1000) (b := 10) E dX8_does_13 (by omega) (by omega) (by omega) ?_
  refine g_istore_n (lv' := [(3, .int (nI ((g / 1000) % 10))), (2, .int (nI (g / 10000))), (0, .ref (m 0)), (1, .int (nI g))]) E dX8_does_14 rfl (by decide) rfl ?_
  refine g_iload_n E dX8_does_15 rfl 3 rfl ?_
  refine g_bipush (v := 100) E dX8_does_16 (by decide) ?_
  refine g_idivN (a := g) (b := 100) E dX8_does_18 (by omega) (by omega) (by omega) ?_
  refine g_bipush (v := 10) E dX8_does_19 (by decide) ?_
  refine g_iremN (a := g / 100) (b := 10) E dX8_does_21 (by omega) (by omega) (by omega) ?_
  refine g_istore (lv' := [(4, .int (nI ((g / 100) % 10))), (3, .int (nI ((g / 1000) % 10))), (2, .int (nI (g / 10000))), (0, .ref (m 0)), (1, .int (nI g))]) E dX8_does_22 (by decide) rfl ?_
  refine g_iload_n E dX8_does_24 rfl 4 rfl ?_
  refine g_bipush (v := 10) E dX8_does_25 (by decide) ?_
  refine g_idivN (a := g) (b := 10) E dX8_does_27 (by omega) (by omega) (by omega) ?_
  refine g_bipush (v := 10) E dX8_does_28 (by decide) ?_
  refine g_iremN (a := g / 10) (b := 10) E dX8_does_30 (by omega) (by omega) (by omega) ?_
  refine g_istore (lv' := [(5, .int (nI ((g / 10) % 10))), (4, .int (nI ((g / 100) % 10))), (3, .int (nI ((g / 1000) % 10))), (2, .int (nI (g / 10000))), (0, .ref (m 0)), (1, .int (nI g))]) E dX8_does_31 (by decide) rfl ?_
  refine g_iload_n E dX8_does_33 rfl 5 rfl ?_
  refine g_bipush (v := 10) E dX8_does_34 (by decide) ?_
  refine g_iremN (a := g) (b := 10) E dX8_does_36 (by omega) (by omega) (by omega) ?_
  refine g_istore (lv' := [(6, .int (nI (g % 10))), (5, .int (nI ((g / 10) % 10))), (4, .int (nI ((g / 100) % 10))), (3, .int (nI ((g / 1000) % 10))), (2, .int (nI (g / 10000))), (0, .ref (m 0)), (1, .int (nI g))]) E dX8_does_37 (by decide) rfl ?_
  refine g_iload_n E dX8_does_39 rfl 6 rfl ?_
  refine g_bipush (v := 100) E dX8_does_40 (by decide) ?_
  refine g_iremN (a := g) (b := 100) E dX8_does_42 (by omega) (by omega) (by omega) ?_
  refine g_istore (lv' := [(7, .int (nI (g % 100))), (6, .int (nI (g % 10))), (5, .int (nI ((g / 10) % 10))), (4, .int (nI ((g / 100) % 10))), (3, .int (nI ((g / 1000) % 10))), (2, .int (nI (g / 10000))), (0, .ref (m 0)), (1, .int (nI g))]) E dX8_does_43 (by decide) rfl ?_
  refine g_iload_n E dX8_does_45 rfl 7 rfl ?_
  refine g_sipush (v := 10000) E dX8_does_46 (by decide) ?_
  refine g_iremN (a := g) (b := 10000) E dX8_does_49 (by omega) (by omega) (by omega) ?_
  refine g_bipush (v := 100) E dX8_does_50 (by decide) ?_
  refine g_icmp_geN (tgt := 59) (a := g % 10000) (b := 100) E dX8_does_52 (by decide) (by omega) (by omega) (fun c1 => ?_) (fun c1 => ?_)
  · skip
    refine g_iconst (v := 0) E dX8_does_59 (by decide) ?_
    refine g_istore (lv' := [(8, .int 0), (7, .int (nI (g % 100))), (6, .int (nI (g % 10))), (5, .int (nI ((g / 10) % 10))), (4, .int (nI ((g / 100) % 10))), (3, .int (nI ((g / 1000) % 10))), (2, .int (nI (g / 10000))), (0, .ref (m 0)), (1, .int (nI g))]) E dX8_does_60 (by decide) rfl ?_
    refine g_iload_n E dX8_does_62 rfl 6 rfl ?_
    rcases (show g / 10000 = 0 ∨ g / 10000 = 1 ∨ g / 10000 = 2 ∨ g / 10000 = 3 ∨ g / 10000 = 4 ∨ g / 10000 = 5 ∨ g / 10000 = 6 ∨ g / 10000 = 7 ∨ g / 10000 = 8 ∨ g / 10000 = 9 by omega) with k2 | k2 | k2 | k2 | k2 | k2 | k2 | k2 | k2 | k2
    · skip
      refine g_top (y := 0) (by rw [k2]; rfl) ?_
      refine g_tableOut (tgt := 337) E dX8_does_63 (by decide) (by decide) ?_
      refine g_iconst (v := 0) E dX8_does_337 (by decide) ?_
      exact RET _ _ _ (q 6, tn, f) (⟨by rw [gSucc_0 k2], by rw [gSucc_0 k2]; exact hRR⟩) rfl dX8_does_338
    · skip
      refine g_top (y := 1) (by rw [k2]; rfl) ?_
      refine g_tableIn (tgt := 112) E dX8_does_63 (by decide) (by decide) rfl (by decide) ?_
      refine g_aload_n E dX8_does_112 rfl 7 rfl ?_
      refine g_iload_n E dX8_does_113 rfl 5 rfl ?_
      refine g_iload E dX8_does_114 4 rfl ?_
      refine g_aload_n E dX8_does_116 rfl 7 rfl ?_
      refine g_get E uX8_does_RX8 0 rfl rfl 8 (by decide) kX8_does_19 rfl rfl dX8_does_117 ?_
      refine g_iconst (v := 0) E dX8_does_120 (by decide) ?_
      refine g_ialdN (e := 0) E 1 rfl (by omega) rfl (v := nI (sN S 0)) (RR_0 hRR) dX8_does_121 ?_
      refine g_iload E dX8_does_122 3 rfl ?_
      refine g_iaddN (a := sN S 0) (b := (g / 10) % 10) E dX8_does_124 ?_
      refine g_iload E dX8_does_125 2 rfl ?_
      refine g_callVIu (F := [(m 8, .inl (gy G 0, 10, .inl tn))]) E (mX8_books G m q S f ((g / 1000) % 10) ((g / 100) % 10) (sN S 0 + ((g / 10) % 10)) (g % 10) hK hT100 hRR (by omega) (by omega) (by omega) (by omega)) gX8_does_X8_books rfl hdX8_books ⟨Nat.le_of_ble_eq_true rfl, Nat.le_of_ble_eq_true rfl⟩ 8 0 rfl rfl rfl (gPerm_ix [0, 1, 2] rfl rfl) rfl rfl (Nat.le_of_ble_eq_true rfl) dX8_does_127 ⟨Nat.le_of_ble_eq_true rfl, Nat.le_of_ble_eq_true rfl⟩ (fun u3 hU3 => ?_)
      obtain ⟨S3, xE3⟩ : ∃ xx, xx = (gOkR (gTryBook S (nI ((g / 1000) % 10)) (nI ((g / 100) % 10)) (nI (sN S 0 + ((g / 10) % 10))) (nI (g % 10)))).2 := ⟨_, rfl⟩
      have hRR3 : RR S3 u3 := by rw [xE3]; exact hU3
      refine g_perm (ws1 := [(m 0, .inr (8, [.int (q 0), .ref (m 1), .int (q 1), .int (q 2), .int (q 3), .int (q 4), .ref (m 2), .ref (m 3), .ref (m 4), .ref (m 5), .int (q 5), .ref (m 6), .ref (m 7), .ref (m 8), .int (q 6), .int (q 7), .int (q 8)])), (m 4, .inl (gy G 0, 271, .inl u3)), (m 8, .inl (gy G 0, 10, .inl tn))]) (gPerm_ix [0, 1, 2] rfl rfl) ?_
      exact RET _ _ _ (q 6, tn, u3) (⟨by rw [gSucc_1 k2], by rw [gSucc_1 k2]; exact (xE3 ▸ hRR3)⟩) rfl dX8_does_130
    · skip
      refine g_top (y := 2) (by rw [k2]; rfl) ?_
      refine g_tableIn (tgt := 131) E dX8_does_63 (by decide) (by decide) rfl (by decide) ?_
      refine g_iload E dX8_does_131 1 rfl ?_
      refine g_if_neN (tgt := 150) (a := g % 100) E dX8_does_133 (by decide) (by omega) (fun c5 => ?_) (fun c5 => ?_)
      · skip
        refine g_iconst (v := 0) E dX8_does_150 (by decide) ?_
        exact RET _ _ _ (q 6, tn, f) (⟨by rw [gSucc_2 k2, if_neg c5], by rw [gSucc_2 k2, if_neg c5]; exact hRR⟩) rfl dX8_does_151
      · skip
        refine g_aload_n E dX8_does_136 rfl 7 rfl ?_
        refine g_iload_n E dX8_does_137 rfl 5 rfl ?_
        refine g_iload E dX8_does_138 4 rfl ?_
        refine g_callVIu (F := [(m 8, .inl (gy G 0, 10, .inl tn))]) E (mX8_wishes G m q S f ((g / 1000) % 10) ((g / 100) % 10) hK hT100 hRR (by omega) (by omega)) gX8_does_X8_wishes rfl hdX8_wishes ⟨Nat.le_of_ble_eq_true rfl, Nat.le_of_ble_eq_true rfl⟩ 8 0 rfl rfl rfl (gPerm_ix [0, 1, 2] rfl rfl) rfl rfl (Nat.le_of_ble_eq_true rfl) dX8_does_140 ⟨Nat.le_of_ble_eq_true rfl, Nat.le_of_ble_eq_true rfl⟩ (fun u6 hU6 => ?_)
        obtain ⟨S6, xE6⟩ : ∃ xx, xx = (gOkR (gTryWish S (nI ((g / 1000) % 10)) (nI ((g / 100) % 10)))).2 := ⟨_, rfl⟩
        have hRR6 : RR S6 u6 := by rw [xE6]; exact hU6
        refine g_perm (ws1 := [(m 0, .inr (8, [.int (q 0), .ref (m 1), .int (q 1), .int (q 2), .int (q 3), .int (q 4), .ref (m 2), .ref (m 3), .ref (m 4), .ref (m 5), .int (q 5), .ref (m 6), .ref (m 7), .ref (m 8), .int (q 6), .int (q 7), .int (q 8)])), (m 4, .inl (gy G 0, 271, .inl u6)), (m 8, .inl (gy G 0, 10, .inl tn))]) (gPerm_ix [0, 1, 2] rfl rfl) ?_
        refine g_if_eq (tgt := 150) E dX8_does_143 (by decide) (fun c8 => ?_) (fun c8 => ?_)
        · skip
          refine g_iconst (v := 0) E dX8_does_150 (by decide) ?_
          exact RET _ _ _ (q 6, tn, u6) (⟨by rw [gSucc_2 k2, if_pos c5]; exact (c8).symm, by rw [gSucc_2 k2, if_pos c5]; exact (xE6 ▸ hRR6)⟩) rfl dX8_does_151
        · skip
          refine g_iconst (v := 1) E dX8_does_146 (by decide) ?_
          refine g_goto (tgt := 151) E dX8_does_147 (by decide) ?_
          exact RET _ _ _ (q 6, tn, u6) (⟨by have q := gSucc_01 S g; rw [gSucc_2 k2, if_pos c5] at q ⊢; exact (q.resolve_left c8).symm, by rw [gSucc_2 k2, if_pos c5]; exact (xE6 ▸ hRR6)⟩) rfl dX8_does_151
    · skip
      refine g_top (y := 3) (by rw [k2]; rfl) ?_
      refine g_tableIn (tgt := 152) E dX8_does_63 (by decide) (by decide) rfl (by decide) ?_
      refine g_iload E dX8_does_152 3 rfl ?_
      refine g_if_neN (tgt := 173) (a := (g / 10) % 10) E dX8_does_154 (by decide) (by omega) (fun c9 => ?_) (fun c9 => ?_)
      · skip
        refine g_iconst (v := 0) E dX8_does_173 (by decide) ?_
        exact RET _ _ _ (q 6, tn, f) (⟨by rw [gSucc_3 k2, if_neg c9], by rw [gSucc_3 k2, if_neg c9]; exact hRR⟩) rfl dX8_does_174
      · skip
        refine g_aload_n E dX8_does_157 rfl 7 rfl ?_
        refine g_iload_n E dX8_does_158 rfl 5 rfl ?_
        refine g_iload E dX8_does_159 4 rfl ?_
        refine g_iload E dX8_does_161 2 rfl ?_
        refine g_callVIu (F := [(m 8, .inl (gy G 0, 10, .inl tn))]) E (mX8_lists G m q S f ((g / 1000) % 10) ((g / 100) % 10) (g % 10) hK hT100 hRR (by omega) (by omega) (by omega)) gX8_does_X8_lists rfl hdX8_lists ⟨Nat.le_of_ble_eq_true rfl, Nat.le_of_ble_eq_true rfl⟩ 8 0 rfl rfl rfl (gPerm_ix [0, 1, 2] rfl rfl) rfl rfl (Nat.le_of_ble_eq_true rfl) dX8_does_163 ⟨Nat.le_of_ble_eq_true rfl, Nat.le_of_ble_eq_true rfl⟩ (fun u10 hU10 => ?_)
        obtain ⟨S10, xE10⟩ : ∃ xx, xx = (if 1 < (g % 10) then (0, S) else gOkR (gTryList S (nI ((g / 1000) % 10)) (nI ((g / 100) % 10)) (if (g % 10) = 1 then 1 else 0))).2 := ⟨_, rfl⟩
        have hRR10 : RR S10 u10 := by rw [xE10]; exact hU10
        refine g_perm (ws1 := [(m 0, .inr (8, [.int (q 0), .ref (m 1), .int (q 1), .int (q 2), .int (q 3), .int (q 4), .ref (m 2), .ref (m 3), .ref (m 4), .ref (m 5), .int (q 5), .ref (m 6), .ref (m 7), .ref (m 8), .int (q 6), .int (q 7), .int (q 8)])), (m 4, .inl (gy G 0, 271, .inl u10)), (m 8, .inl (gy G 0, 10, .inl tn))]) (gPerm_ix [0, 1, 2] rfl rfl) ?_
        refine g_if_eq (tgt := 173) E dX8_does_166 (by decide) (fun c12 => ?_) (fun c12 => ?_)
        · skip
          refine g_iconst (v := 0) E dX8_does_173 (by decide) ?_
          exact RET _ _ _ (q 6, tn, u10) (⟨by rw [gSucc_3 k2, if_pos c9]; exact (c12).symm, by rw [gSucc_3 k2, if_pos c9]; exact (xE10 ▸ hRR10)⟩) rfl dX8_does_174
        · skip
          refine g_iconst (v := 1) E dX8_does_169 (by decide) ?_
          refine g_goto (tgt := 174) E dX8_does_170 (by decide) ?_
          exact RET _ _ _ (q 6, tn, u10) (⟨by have q := gSucc_01 S g; rw [gSucc_3 k2, if_pos c9] at q ⊢; exact (q.resolve_left c12).symm, by rw [gSucc_3 k2, if_pos c9]; exact (xE10 ▸ hRR10)⟩) rfl dX8_does_174
    · skip
      refine g_top (y := 4) (by rw [k2]; rfl) ?_
      refine g_tableIn (tgt := 175) E dX8_does_63 (by decide) (by decide) rfl (by decide) ?_
      refine g_iload E dX8_does_175 4 rfl ?_
      refine g_if_neN (tgt := 199) (a := (g / 100) % 10) E dX8_does_177 (by decide) (by omega) (fun c13 => ?_) (fun c13 => ?_)
      · skip
        refine g_iconst (v := 0) E dX8_does_199 (by decide) ?_
        exact RET _ _ _ (q 6, tn, f) (⟨by rw [gSucc_4 k2, if_neg c13], by rw [gSucc_4 k2, if_neg c13]; exact hRR⟩) rfl dX8_does_200
      · skip
        refine g_iload E dX8_does_180 3 rfl ?_
        refine g_if_neN (tgt := 199) (a := (g / 10) % 10) E dX8_does_182 (by decide) (by omega) (fun c14 => ?_) (fun c14 => ?_)
        · skip
          refine g_iconst (v := 0) E dX8_does_199 (by decide) ?_
          exact RET _ _ _ (q 6, tn, f) (⟨by rw [gSucc_4 k2, if_pos c13, if_neg c14], by rw [gSucc_4 k2, if_pos c13, if_neg c14]; exact hRR⟩) rfl dX8_does_200
        · skip
          refine g_aload_n E dX8_does_185 rfl 7 rfl ?_
          refine g_iload_n E dX8_does_186 rfl 5 rfl ?_
          refine g_iload E dX8_does_187 2 rfl ?_
          refine g_callVIu (F := [(m 8, .inl (gy G 0, 10, .inl tn))]) E (mX8_carries G m q S f ((g / 1000) % 10) (g % 10) hK hT100 hRR (by omega) (by omega)) gX8_does_X8_carries rfl hdX8_carries ⟨Nat.le_of_ble_eq_true rfl, Nat.le_of_ble_eq_true rfl⟩ 8 0 rfl rfl rfl (gPerm_ix [0, 1, 2] rfl rfl) rfl rfl (Nat.le_of_ble_eq_true rfl) dX8_does_189 ⟨Nat.le_of_ble_eq_true rfl, Nat.le_of_ble_eq_true rfl⟩ (fun u15 hU15 => ?_)
          obtain ⟨S15, xE15⟩ : ∃ xx, xx = (if 1 < (g % 10) then (0, S) else gOkR (gTryCarry S (nI ((g / 1000) % 10)) (if (g % 10) = 1 then 1 else 0))).2 := ⟨_, rfl⟩
          have hRR15 : RR S15 u15 := by rw [xE15]; exact hU15
          refine g_perm (ws1 := [(m 0, .inr (8, [.int (q 0), .ref (m 1), .int (q 1), .int (q 2), .int (q 3), .int (q 4), .ref (m 2), .ref (m 3), .ref (m 4), .ref (m 5), .int (q 5), .ref (m 6), .ref (m 7), .ref (m 8), .int (q 6), .int (q 7), .int (q 8)])), (m 4, .inl (gy G 0, 271, .inl u15)), (m 8, .inl (gy G 0, 10, .inl tn))]) (gPerm_ix [0, 1, 2] rfl rfl) ?_
          refine g_if_eq (tgt := 199) E dX8_does_192 (by decide) (fun c17 => ?_) (fun c17 => ?_)
          · skip
            refine g_iconst (v := 0) E dX8_does_199 (by decide) ?_
            exact RET _ _ _ (q 6, tn, u15) (⟨by rw [gSucc_4 k2, if_pos c13, if_pos c14]; exact (c17).symm, by rw [gSucc_4 k2, if_pos c13, if_pos c14]; exact (xE15 ▸ hRR15)⟩) rfl dX8_does_200
          · skip
            refine g_iconst (v := 1) E dX8_does_195 (by decide) ?_
            refine g_goto (tgt := 200) E dX8_does_196 (by decide) ?_
            exact RET _ _ _ (q 6, tn, u15) (⟨by have q := gSucc_01 S g; rw [gSucc_4 k2, if_pos c13, if_pos c14] at q ⊢; exact (q.resolve_left c17).symm, by rw [gSucc_4 k2, if_pos c13, if_pos c14]; exact (xE15 ▸ hRR15)⟩) rfl dX8_does_200
    · skip
      refine g_top (y := 5) (by rw [k2]; rfl) ?_
      refine g_tableIn (tgt := 201) E dX8_does_63 (by decide) (by decide) rfl (by decide) ?_
      refine g_iload E dX8_does_201 4 rfl ?_
      refine g_if_neN (tgt := 220) (a := (g / 100) % 10) E dX8_does_203 (by decide) (by omega) (fun c18 => ?_) (fun c18 => ?_)
      · skip
        refine g_iconst (v := 0) E dX8_does_220 (by decide) ?_
        exact RET _ _ _ (q 6, tn, f) (⟨by rw [gSucc_5 k2, if_neg c18], by rw [gSucc_5 k2, if_neg c18]; exact hRR⟩) rfl dX8_does_221
      · skip
        refine g_aload_n E dX8_does_206 rfl 7 rfl ?_
        refine g_iload_n E dX8_does_207 rfl 5 rfl ?_
        refine g_iload E dX8_does_208 1 rfl ?_
        refine g_callVIu (F := [(m 8, .inl (gy G 0, 10, .inl tn))]) E (mX8_punishes G m q S f ((g / 1000) % 10) (g % 100) hK hT100 hRR (by omega) (by omega)) gX8_does_X8_punishes rfl hdX8_punishes ⟨Nat.le_of_ble_eq_true rfl, Nat.le_of_ble_eq_true rfl⟩ 8 0 rfl rfl rfl (gPerm_ix [0, 1, 2] rfl rfl) rfl rfl (Nat.le_of_ble_eq_true rfl) dX8_does_210 ⟨Nat.le_of_ble_eq_true rfl, Nat.le_of_ble_eq_true rfl⟩ (fun u19 hU19 => ?_)
        obtain ⟨S19, xE19⟩ : ∃ xx, xx = (gOkR (gTryPunish S (nI ((g / 1000) % 10)) (nI (g % 100)))).2 := ⟨_, rfl⟩
        have hRR19 : RR S19 u19 := by rw [xE19]; exact hU19
        refine g_perm (ws1 := [(m 0, .inr (8, [.int (q 0), .ref (m 1), .int (q 1), .int (q 2), .int (q 3), .int (q 4), .ref (m 2), .ref (m 3), .ref (m 4), .ref (m 5), .int (q 5), .ref (m 6), .ref (m 7), .ref (m 8), .int (q 6), .int (q 7), .int (q 8)])), (m 4, .inl (gy G 0, 271, .inl u19)), (m 8, .inl (gy G 0, 10, .inl tn))]) (gPerm_ix [0, 1, 2] rfl rfl) ?_
        refine g_if_eq (tgt := 220) E dX8_does_213 (by decide) (fun c21 => ?_) (fun c21 => ?_)
        · skip
          refine g_iconst (v := 0) E dX8_does_220 (by decide) ?_
          exact RET _ _ _ (q 6, tn, u19) (⟨by rw [gSucc_5 k2, if_pos c18]; exact (c21).symm, by rw [gSucc_5 k2, if_pos c18]; exact (xE19 ▸ hRR19)⟩) rfl dX8_does_221
        · skip
          refine g_iconst (v := 1) E dX8_does_216 (by decide) ?_
          refine g_goto (tgt := 221) E dX8_does_217 (by decide) ?_
          exact RET _ _ _ (q 6, tn, u19) (⟨by have q := gSucc_01 S g; rw [gSucc_5 k2, if_pos c18] at q ⊢; exact (q.resolve_left c21).symm, by rw [gSucc_5 k2, if_pos c18]; exact (xE19 ▸ hRR19)⟩) rfl dX8_does_221
    · skip
      refine g_top (y := 6) (by rw [k2]; rfl) ?_
      refine g_tableIn (tgt := 222) E dX8_does_63 (by decide) (by decide) rfl (by decide) ?_
      refine g_iload E dX8_does_222 0 rfl ?_
      refine g_if_eq (tgt := 240) E dX8_does_224 (by decide) (fun _ => ?_) (fun c => absurd c (by decide))
      refine g_iconst (v := 0) E dX8_does_240 (by decide) ?_
      exact RET _ _ _ (q 6, tn, f) (⟨by rw [gSucc_6 k2, if_neg (by omega)], by rw [gSucc_6 k2, if_neg (by omega)]; exact hRR⟩) rfl dX8_does_241
    · skip
      refine g_top (y := 7) (by rw [k2]; rfl) ?_
      refine g_tableIn (tgt := 242) E dX8_does_63 (by decide) (by decide) rfl (by decide) ?_
      refine g_iload E dX8_does_242 4 rfl ?_
      refine g_if_neN (tgt := 275) (a := (g / 100) % 10) E dX8_does_244 (by decide) (by omega) (fun c22 => ?_) (fun c22 => ?_)
      · skip
        refine g_iconst (v := 0) E dX8_does_275 (by decide) ?_
        exact RET _ _ _ (q 6, tn, f) (⟨by rw [gSucc_7 k2 hP8, if_neg c22], by rw [gSucc_7 k2 hP8, if_neg c22]; exact hRR⟩) rfl dX8_does_276
      · skip
        refine g_aload_n E dX8_does_247 rfl 7 rfl ?_
        refine g_iload_n E dX8_does_248 rfl 5 rfl ?_
        refine g_iconst (v := 0) E dX8_does_249 (by decide) ?_
        refine g_callVIe (F := [(m 8, .inl (gy G 0, 10, .inl tn))]) (ws2 := [(m 0, .inr (8, [.int (q 0), .ref (m 1), .int (q 1), .int (q 2), .int (q 3), .int (q 4), .ref (m 2), .ref (m 3), .ref (m 4), .ref (m 5), .int (q 5), .ref (m 6), .ref (m 7), .ref (m 8), .int (q 6), .int (q 7), .int (q 8)])), (m 4, .inl (gy G 0, 271, .inl f)), (m 8, .inl (gy G 0, 10, .inl tn))]) E (mX8_isThere G m q S f ((g / 1000) % 10) 0 hI hT hRR (by omega) (by omega)) gX8_does_X8_isThere rfl hdX8_isThere ⟨Nat.le_of_ble_eq_true rfl, Nat.le_of_ble_eq_true rfl⟩ 8 0 rfl rfl rfl (gPerm_ix [0, 1, 2] rfl rfl) rfl rfl (Nat.le_of_ble_eq_true rfl) dX8_does_250 ⟨Nat.le_of_ble_eq_true rfl, Nat.le_of_ble_eq_true rfl⟩ (gPerm_ix [0, 1, 2] rfl rfl) ?_
        refine g_if_eqB (tgt := 275) (P := ((g / 1000) % 10 < sN S 1 ∧ 0 < 10)) E dX8_does_253 (by decide) (fun c23 => ?_) (fun c23 => ?_)
        · skip
          refine g_iconst (v := 0) E dX8_does_275 (by decide) ?_
          exact RET _ _ _ (q 6, tn, f) (⟨by rw [gSucc_7 k2 hP8, if_pos c22, if_neg c23], by rw [gSucc_7 k2 hP8, if_pos c22, if_neg c23]; exact hRR⟩) rfl dX8_does_276
        · skip
          refine g_aload_n E dX8_does_256 rfl 7 rfl ?_
          refine g_get E uX8_does_RX8 0 rfl rfl 8 (by decide) kX8_does_19 rfl rfl dX8_does_257 ?_
          refine g_iload_n E dX8_does_260 rfl 5 rfl ?_
          refine g_iconst (v := 3) E dX8_does_261 (by decide) ?_
          refine g_callSIe (F := [(m 0, .inr (8, [.int (q 0), .ref (m 1), .int (q 1), .int (q 2), .int (q 3), .int (q 4), .ref (m 2), .ref (m 3), .ref (m 4), .ref (m 5), .int (q 5), .ref (m 6), .ref (m 7), .ref (m 8), .int (q 6), .int (q 7), .int (q 8)])), (m 4, .inl (gy G 0, 271, .inl f)), (m 8, .inl (gy G 0, 10, .inl tn))]) (ws2 := [(m 0, .inr (8, [.int (q 0), .ref (m 1), .int (q 1), .int (q 2), .int (q 3), .int (q 4), .ref (m 2), .ref (m 3), .ref (m 4), .ref (m 5), .int (q 5), .ref (m 6), .ref (m 7), .ref (m 8), .int (q 6), .int (q 7), .int (q 8)])), (m 4, .inl (gy G 0, 271, .inl f)), (m 8, .inl (gy G 0, 10, .inl tn))]) E (mX8_prisonerAt G ((g / 1000) % 10) 3 (by omega) (by omega)) gX8_does_X8_prisonerAt rfl hnX8_prisonerAt ⟨Nat.le_of_ble_eq_true rfl, Nat.le_of_ble_eq_true rfl⟩ (gPerm_ix [0, 1, 2] rfl rfl) rfl rfl (Nat.le_of_ble_eq_true rfl) dX8_does_262 ⟨Nat.le_of_ble_eq_true rfl, Nat.le_of_ble_eq_true rfl⟩ (gPerm_ix [0, 1, 2] rfl rfl) ?_
          refine g_ialdN (e := 15 + 6 * ((g / 1000) % 10) + 3) E 1 rfl (by omega) rfl (v := sI S 3 ((g / 1000) % 10)) (RR_P hRR (p := (g / 1000) % 10) (w := 3) (by omega) (by omega)) dX8_does_265 ?_
          refine g_iload E dX8_does_266 1 rfl ?_
          refine g_icmp_lt (tgt := 275) E dX8_does_268 (by decide) (fun c24 => ?_) (fun c24 => ?_)
          · skip
            refine g_iconst (v := 0) E dX8_does_275 (by decide) ?_
            exact RET _ _ _ (q 6, tn, f) (⟨by rw [gSucc_7 k2 hP8, if_pos c22, if_pos c23, if_pos c24], by rw [gSucc_7 k2 hP8, if_pos c22, if_pos c23, if_pos c24]; exact hRR⟩) rfl dX8_does_276
          · skip
            refine g_iconst (v := 1) E dX8_does_271 (by decide) ?_
            refine g_goto (tgt := 276) E dX8_does_272 (by decide) ?_
            exact RET _ _ _ (q 6, tn, f) (⟨by rw [gSucc_7 k2 hP8, if_pos c22, if_pos c23, if_neg c24], by rw [gSucc_7 k2 hP8, if_pos c22, if_pos c23, if_neg c24]; exact hRR⟩) rfl dX8_does_276
    · skip
      refine g_top (y := 8) (by rw [k2]; rfl) ?_
      refine g_tableIn (tgt := 277) E dX8_does_63 (by decide) (by decide) rfl (by decide) ?_
      refine g_iload_n E dX8_does_277 rfl 8 rfl ?_
      refine g_sipush (v := 1000) E dX8_does_278 (by decide) ?_
      refine g_iremN (a := g) (b := 1000) E dX8_does_281 (by omega) (by omega) (by omega) ?_
      refine g_if_neN (tgt := 313) (a := g % 1000) E dX8_does_282 (by decide) (by omega) (fun c25 => ?_) (fun c25 => ?_)
      · skip
        refine g_iconst (v := 0) E dX8_does_313 (by decide) ?_
        exact RET _ _ _ (q 6, tn, f) (⟨by rw [gSucc_8 k2, if_neg c25], by rw [gSucc_8 k2, if_neg c25]; exact hRR⟩) rfl dX8_does_314
      · skip
        refine g_iload_n E dX8_does_285 rfl 5 rfl ?_
        refine g_callSIe (F := [(m 0, .inr (8, [.int (q 0), .ref (m 1), .int (q 1), .int (q 2), .int (q 3), .int (q 4), .ref (m 2), .ref (m 3), .ref (m 4), .ref (m 5), .int (q 5), .ref (m 6), .ref (m 7), .ref (m 8), .int (q 6), .int (q 7), .int (q 8)])), (m 4, .inl (gy G 0, 271, .inl f)), (m 8, .inl (gy G 0, 10, .inl tn))]) (ws2 := [(m 0, .inr (8, [.int (q 0), .ref (m 1), .int (q 1), .int (q 2), .int (q 3), .int (q 4), .ref (m 2), .ref (m 3), .ref (m 4), .ref (m 5), .int (q 5), .ref (m 6), .ref (m 7), .ref (m 8), .int (q 6), .int (q 7), .int (q 8)])), (m 4, .inl (gy G 0, 271, .inl f)), (m 8, .inl (gy G 0, 10, .inl tn))]) E (mX8_isVisitor G (nI ((g / 1000) % 10))) gX8_does_X8_isVisitor rfl hnX8_isVisitor ⟨Nat.le_of_ble_eq_true rfl, Nat.le_of_ble_eq_true rfl⟩ (gPerm_ix [0, 1, 2] rfl rfl) rfl rfl (Nat.le_of_ble_eq_true rfl) dX8_does_286 ⟨Nat.le_of_ble_eq_true rfl, Nat.le_of_ble_eq_true rfl⟩ (gPerm_ix [0, 1, 2] rfl rfl) ?_
        refine g_if_eqB (tgt := 313) (P := (¬ (nI ((g / 1000) % 10)) < 0 ∧ ¬ 9 < (nI ((g / 1000) % 10)))) E dX8_does_289 (by decide) (fun c26 => ?_) (fun c26 => ?_)
        · exfalso
          exact c26 ((gV9N (by omega)).mpr (by omega))
        · skip
          refine g_aload_n E dX8_does_292 rfl 7 rfl ?_
          refine g_get E uX8_does_RX8 0 rfl rfl 8 (by decide) kX8_does_19 rfl rfl dX8_does_293 ?_
          refine g_iload_n E dX8_does_296 rfl 5 rfl ?_
          refine g_aload_n E dX8_does_297 rfl 7 rfl ?_
          refine g_get E uX8_does_RX8 0 rfl rfl 8 (by decide) kX8_does_19 rfl rfl dX8_does_298 ?_
          refine g_iconst (v := 0) E dX8_does_301 (by decide) ?_
          refine g_ialdN (e := 0) E 1 rfl (by omega) rfl (v := nI (sN S 0)) (RR_0 hRR) dX8_does_302 ?_
          refine g_callSIe (F := [(m 0, .inr (8, [.int (q 0), .ref (m 1), .int (q 1), .int (q 2), .int (q 3), .int (q 4), .ref (m 2), .ref (m 3), .ref (m 4), .ref (m 5), .int (q 5), .ref (m 6), .ref (m 7), .ref (m 8), .int (q 6), .int (q 7), .int (q 8)])), (m 8, .inl (gy G 0, 10, .inl tn))]) (ws2 := [(m 0, .inr (8, [.int (q 0), .ref (m 1), .int (q 1), .int (q 2), .int (q 3), .int (q 4), .ref (m 2), .ref (m 3), .ref (m 4), .ref (m 5), .int (q 5), .ref (m 6), .ref (m 7), .ref (m 8), .int (q 6), .int (q 7), .int (q 8)])), (m 4, .inl (gy G 0, 271, .inl f)), (m 8, .inl (gy G 0, 10, .inl tn))]) E (mX8_isBanned G (m 4) S f ((g / 1000) % 10) (sN S 0) (gI1_r hI) hT hRR (by omega)) gX8_does_X8_isBanned rfl hnX8_isBanned ⟨Nat.le_of_ble_eq_true rfl, Nat.le_of_ble_eq_true rfl⟩ (gPerm_ix [1, 0, 2] rfl rfl) rfl rfl (Nat.le_of_ble_eq_true rfl) dX8_does_303 ⟨Nat.le_of_ble_eq_true rfl, Nat.le_of_ble_eq_true rfl⟩ (gPerm_ix [1, 0, 2] rfl rfl) ?_
          refine g_if_neB (tgt := 313) (P := nI (sN S 0) < sI S 7 ((g / 1000) % 10)) E dX8_does_306 (by decide) (fun c27 => ?_) (fun c27 => ?_)
          · skip
            refine g_iconst (v := 0) E dX8_does_313 (by decide) ?_
            exact RET _ _ _ (q 6, tn, f) (⟨by rw [gSucc_8 k2, if_pos c25, if_pos c27], by rw [gSucc_8 k2, if_pos c25, if_pos c27]; exact hRR⟩) rfl dX8_does_314
          · skip
            refine g_iconst (v := 1) E dX8_does_309 (by decide) ?_
            refine g_goto (tgt := 314) E dX8_does_310 (by decide) ?_
            exact RET _ _ _ (q 6, tn, f) (⟨by rw [gSucc_8 k2, if_pos c25, if_neg c27], by rw [gSucc_8 k2, if_pos c25, if_neg c27]; exact hRR⟩) rfl dX8_does_314
    · skip
      refine g_top (y := 9) (by rw [k2]; rfl) ?_
      refine g_tableIn (tgt := 315) E dX8_does_63 (by decide) (by decide) rfl (by decide) ?_
      refine g_iload E dX8_does_315 0 rfl ?_
      refine g_if_eq (tgt := 335) E dX8_does_317 (by decide) (fun _ => ?_) (fun c => absurd c (by decide))
      refine g_iconst (v := 0) E dX8_does_335 (by decide) ?_
      exact RET _ _ _ (q 6, tn, f) (⟨by rw [gSucc_9 k2, if_neg (by omega)], by rw [gSucc_9 k2, if_neg (by omega)]; exact hRR⟩) rfl dX8_does_336
  · skip
    refine g_iconst (v := 1) E dX8_does_55 (by decide) ?_
    refine g_goto (tgt := 60) E dX8_does_56 (by decide) ?_
    refine g_istore (lv' := [(8, .int 1), (7, .int (nI (g % 100))), (6, .int (nI (g % 10))), (5, .int (nI ((g / 10) % 10))), (4, .int (nI ((g / 100) % 10))), (3, .int (nI ((g / 1000) % 10))), (2, .int (nI (g / 10000))), (0, .ref (m 0)), (1, .int (nI g))]) E dX8_does_60 (by decide) rfl ?_
    refine g_iload_n E dX8_does_62 rfl 6 rfl ?_
    rcases (show g / 10000 = 0 ∨ g / 10000 = 1 ∨ g / 10000 = 2 ∨ g / 10000 = 3 ∨ g / 10000 = 4 ∨ g / 10000 = 5 ∨ g / 10000 = 6 ∨ g / 10000 = 7 ∨ g / 10000 = 8 ∨ g / 10000 = 9 by omega) with k28 | k28 | k28 | k28 | k28 | k28 | k28 | k28 | k28 | k28
    · skip
      refine g_top (y := 0) (by rw [k28]; rfl) ?_
      refine g_tableOut (tgt := 337) E dX8_does_63 (by decide) (by decide) ?_
      refine g_iconst (v := 0) E dX8_does_337 (by decide) ?_
      exact RET _ _ _ (q 6, tn, f) (⟨by rw [gSucc_0 k28], by rw [gSucc_0 k28]; exact hRR⟩) rfl dX8_does_338
    · skip
      refine g_top (y := 1) (by rw [k28]; rfl) ?_
      refine g_tableIn (tgt := 112) E dX8_does_63 (by decide) (by decide) rfl (by decide) ?_
      refine g_aload_n E dX8_does_112 rfl 7 rfl ?_
      refine g_iload_n E dX8_does_113 rfl 5 rfl ?_
      refine g_iload E dX8_does_114 4 rfl ?_
      refine g_aload_n E dX8_does_116 rfl 7 rfl ?_
      refine g_get E uX8_does_RX8 0 rfl rfl 8 (by decide) kX8_does_19 rfl rfl dX8_does_117 ?_
      refine g_iconst (v := 0) E dX8_does_120 (by decide) ?_
      refine g_ialdN (e := 0) E 1 rfl (by omega) rfl (v := nI (sN S 0)) (RR_0 hRR) dX8_does_121 ?_
      refine g_iload E dX8_does_122 3 rfl ?_
      refine g_iaddN (a := sN S 0) (b := (g / 10) % 10) E dX8_does_124 ?_
      refine g_iload E dX8_does_125 2 rfl ?_
      refine g_callVIu (F := [(m 8, .inl (gy G 0, 10, .inl tn))]) E (mX8_books G m q S f ((g / 1000) % 10) ((g / 100) % 10) (sN S 0 + ((g / 10) % 10)) (g % 10) hK hT100 hRR (by omega) (by omega) (by omega) (by omega)) gX8_does_X8_books rfl hdX8_books ⟨Nat.le_of_ble_eq_true rfl, Nat.le_of_ble_eq_true rfl⟩ 8 0 rfl rfl rfl (gPerm_ix [0, 1, 2] rfl rfl) rfl rfl (Nat.le_of_ble_eq_true rfl) dX8_does_127 ⟨Nat.le_of_ble_eq_true rfl, Nat.le_of_ble_eq_true rfl⟩ (fun u29 hU29 => ?_)
      obtain ⟨S29, xE29⟩ : ∃ xx, xx = (gOkR (gTryBook S (nI ((g / 1000) % 10)) (nI ((g / 100) % 10)) (nI (sN S 0 + ((g / 10) % 10))) (nI (g % 10)))).2 := ⟨_, rfl⟩
      have hRR29 : RR S29 u29 := by rw [xE29]; exact hU29
      refine g_perm (ws1 := [(m 0, .inr (8, [.int (q 0), .ref (m 1), .int (q 1), .int (q 2), .int (q 3), .int (q 4), .ref (m 2), .ref (m 3), .ref (m 4), .ref (m 5), .int (q 5), .ref (m 6), .ref (m 7), .ref (m 8), .int (q 6), .int (q 7), .int (q 8)])), (m 4, .inl (gy G 0, 271, .inl u29)), (m 8, .inl (gy G 0, 10, .inl tn))]) (gPerm_ix [0, 1, 2] rfl rfl) ?_
      exact RET _ _ _ (q 6, tn, u29) (⟨by rw [gSucc_1 k28], by rw [gSucc_1 k28]; exact (xE29 ▸ hRR29)⟩) rfl dX8_does_130
    · skip
      refine g_top (y := 2) (by rw [k28]; rfl) ?_
      refine g_tableIn (tgt := 131) E dX8_does_63 (by decide) (by decide) rfl (by decide) ?_
      refine g_iload E dX8_does_131 1 rfl ?_
      refine g_if_neN (tgt := 150) (a := g % 100) E dX8_does_133 (by decide) (by omega) (fun c31 => ?_) (fun c31 => ?_)
      · skip
        refine g_iconst (v := 0) E dX8_does_150 (by decide) ?_
        exact RET _ _ _ (q 6, tn, f) (⟨by rw [gSucc_2 k28, if_neg c31], by rw [gSucc_2 k28, if_neg c31]; exact hRR⟩) rfl dX8_does_151
      · skip
        refine g_aload_n E dX8_does_136 rfl 7 rfl ?_
        refine g_iload_n E dX8_does_137 rfl 5 rfl ?_
        refine g_iload E dX8_does_138 4 rfl ?_
        refine g_callVIu (F := [(m 8, .inl (gy G 0, 10, .inl tn))]) E (mX8_wishes G m q S f ((g / 1000) % 10) ((g / 100) % 10) hK hT100 hRR (by omega) (by omega)) gX8_does_X8_wishes rfl hdX8_wishes ⟨Nat.le_of_ble_eq_true rfl, Nat.le_of_ble_eq_true rfl⟩ 8 0 rfl rfl rfl (gPerm_ix [0, 1, 2] rfl rfl) rfl rfl (Nat.le_of_ble_eq_true rfl) dX8_does_140 ⟨Nat.le_of_ble_eq_true rfl, Nat.le_of_ble_eq_true rfl⟩ (fun u32 hU32 => ?_)
        obtain ⟨S32, xE32⟩ : ∃ xx, xx = (gOkR (gTryWish S (nI ((g / 1000) % 10)) (nI ((g / 100) % 10)))).2 := ⟨_, rfl⟩
        have hRR32 : RR S32 u32 := by rw [xE32]; exact hU32
        refine g_perm (ws1 := [(m 0, .inr (8, [.int (q 0), .ref (m 1), .int (q 1), .int (q 2), .int (q 3), .int (q 4), .ref (m 2), .ref (m 3), .ref (m 4), .ref (m 5), .int (q 5), .ref (m 6), .ref (m 7), .ref (m 8), .int (q 6), .int (q 7), .int (q 8)])), (m 4, .inl (gy G 0, 271, .inl u32)), (m 8, .inl (gy G 0, 10, .inl tn))]) (gPerm_ix [0, 1, 2] rfl rfl) ?_
        refine g_if_eq (tgt := 150) E dX8_does_143 (by decide) (fun c34 => ?_) (fun c34 => ?_)
        · skip
          refine g_iconst (v := 0) E dX8_does_150 (by decide) ?_
          exact RET _ _ _ (q 6, tn, u32) (⟨by rw [gSucc_2 k28, if_pos c31]; exact (c34).symm, by rw [gSucc_2 k28, if_pos c31]; exact (xE32 ▸ hRR32)⟩) rfl dX8_does_151
        · skip
          refine g_iconst (v := 1) E dX8_does_146 (by decide) ?_
          refine g_goto (tgt := 151) E dX8_does_147 (by decide) ?_
          exact RET _ _ _ (q 6, tn, u32) (⟨by have q := gSucc_01 S g; rw [gSucc_2 k28, if_pos c31] at q ⊢; exact (q.resolve_left c34).symm, by rw [gSucc_2 k28, if_pos c31]; exact (xE32 ▸ hRR32)⟩) rfl dX8_does_151
    · skip
      refine g_top (y := 3) (by rw [k28]; rfl) ?_
      refine g_tableIn (tgt := 152) E dX8_does_63 (by decide) (by decide) rfl (by decide) ?_
      refine g_iload E dX8_does_152 3 rfl ?_
      refine g_if_neN (tgt := 173) (a := (g / 10) % 10) E dX8_does_154 (by decide) (by omega) (fun c35 => ?_) (fun c35 => ?_)
      · skip
        refine g_iconst (v := 0) E dX8_does_173 (by decide) ?_
        exact RET _ _ _ (q 6, tn, f) (⟨by rw [gSucc_3 k28, if_neg c35], by rw [gSucc_3 k28, if_neg c35]; exact hRR⟩) rfl dX8_does_174
      · skip
        refine g_aload_n E dX8_does_157 rfl 7 rfl ?_
        refine g_iload_n E dX8_does_158 rfl 5 rfl ?_
        refine g_iload E dX8_does_159 4 rfl ?_
        refine g_iload E dX8_does_161 2 rfl ?_
        refine g_callVIu (F := [(m 8, .inl (gy G 0, 10, .inl tn))]) E (mX8_lists G m q S f ((g / 1000) % 10) ((g / 100) % 10) (g % 10) hK hT100 hRR (by omega) (by omega) (by omega)) gX8_does_X8_lists rfl hdX8_lists ⟨Nat.le_of_ble_eq_true rfl, Nat.le_of_ble_eq_true rfl⟩ 8 0 rfl rfl rfl (gPerm_ix [0, 1, 2] rfl rfl) rfl rfl (Nat.le_of_ble_eq_true rfl) dX8_does_163 ⟨Nat.le_of_ble_eq_true rfl, Nat.le_of_ble_eq_true rfl⟩ (fun u36 hU36 => ?_)
        obtain ⟨S36, xE36⟩ : ∃ xx, xx = (if 1 < (g % 10) then (0, S) else gOkR (gTryList S (nI ((g / 1000) % 10)) (nI ((g / 100) % 10)) (if (g % 10) = 1 then 1 else 0))).2 := ⟨_, rfl⟩
        have hRR36 : RR S36 u36 := by rw [xE36]; exact hU36
        refine g_perm (ws1 := [(m 0, .inr (8, [.int (q 0), .ref (m 1), .int (q 1), .int (q 2), .int (q 3), .int (q 4), .ref (m 2), .ref (m 3), .ref (m 4), .ref (m 5), .int (q 5), .ref (m 6), .ref (m 7), .ref (m 8), .int (q 6), .int (q 7), .int (q 8)])), (m 4, .inl (gy G 0, 271, .inl u36)), (m 8, .inl (gy G 0, 10, .inl tn))]) (gPerm_ix [0, 1, 2] rfl rfl) ?_
        refine g_if_eq (tgt := 173) E dX8_does_166 (by decide) (fun c38 => ?_) (fun c38 => ?_)
        · skip
          refine g_iconst (v := 0) E dX8_does_173 (by decide) ?_
          exact RET _ _ _ (q 6, tn, u36) (⟨by rw [gSucc_3 k28, if_pos c35]; exact (c38).symm, by rw [gSucc_3 k28, if_pos c35]; exact (xE36 ▸ hRR36)⟩) rfl dX8_does_174
        · skip
          refine g_iconst (v := 1) E dX8_does_169 (by decide) ?_
          refine g_goto (tgt := 174) E dX8_does_170 (by decide) ?_
          exact RET _ _ _ (q 6, tn, u36) (⟨by have q := gSucc_01 S g; rw [gSucc_3 k28, if_pos c35] at q ⊢; exact (q.resolve_left c38).symm, by rw [gSucc_3 k28, if_pos c35]; exact (xE36 ▸ hRR36)⟩) rfl dX8_does_174
    · skip
      refine g_top (y := 4) (by rw [k28]; rfl) ?_
      refine g_tableIn (tgt := 175) E dX8_does_63 (by decide) (by decide) rfl (by decide) ?_
      refine g_iload E dX8_does_175 4 rfl ?_
      refine g_if_neN (tgt := 199) (a := (g / 100) % 10) E dX8_does_177 (by decide) (by omega) (fun c39 => ?_) (fun c39 => ?_)
      · skip
        refine g_iconst (v := 0) E dX8_does_199 (by decide) ?_
        exact RET _ _ _ (q 6, tn, f) (⟨by rw [gSucc_4 k28, if_neg c39], by rw [gSucc_4 k28, if_neg c39]; exact hRR⟩) rfl dX8_does_200
      · skip
        refine g_iload E dX8_does_180 3 rfl ?_
        refine g_if_neN (tgt := 199) (a := (g / 10) % 10) E dX8_does_182 (by decide) (by omega) (fun c40 => ?_) (fun c40 => ?_)
        · skip
          refine g_iconst (v := 0) E dX8_does_199 (by decide) ?_
          exact RET _ _ _ (q 6, tn, f) (⟨by rw [gSucc_4 k28, if_pos c39, if_neg c40], by rw [gSucc_4 k28, if_pos c39, if_neg c40]; exact hRR⟩) rfl dX8_does_200
        · skip
          refine g_aload_n E dX8_does_185 rfl 7 rfl ?_
          refine g_iload_n E dX8_does_186 rfl 5 rfl ?_
          refine g_iload E dX8_does_187 2 rfl ?_
          refine g_callVIu (F := [(m 8, .inl (gy G 0, 10, .inl tn))]) E (mX8_carries G m q S f ((g / 1000) % 10) (g % 10) hK hT100 hRR (by omega) (by omega)) gX8_does_X8_carries rfl hdX8_carries ⟨Nat.le_of_ble_eq_true rfl, Nat.le_of_ble_eq_true rfl⟩ 8 0 rfl rfl rfl (gPerm_ix [0, 1, 2] rfl rfl) rfl rfl (Nat.le_of_ble_eq_true rfl) dX8_does_189 ⟨Nat.le_of_ble_eq_true rfl, Nat.le_of_ble_eq_true rfl⟩ (fun u41 hU41 => ?_)
          obtain ⟨S41, xE41⟩ : ∃ xx, xx = (if 1 < (g % 10) then (0, S) else gOkR (gTryCarry S (nI ((g / 1000) % 10)) (if (g % 10) = 1 then 1 else 0))).2 := ⟨_, rfl⟩
          have hRR41 : RR S41 u41 := by rw [xE41]; exact hU41
          refine g_perm (ws1 := [(m 0, .inr (8, [.int (q 0), .ref (m 1), .int (q 1), .int (q 2), .int (q 3), .int (q 4), .ref (m 2), .ref (m 3), .ref (m 4), .ref (m 5), .int (q 5), .ref (m 6), .ref (m 7), .ref (m 8), .int (q 6), .int (q 7), .int (q 8)])), (m 4, .inl (gy G 0, 271, .inl u41)), (m 8, .inl (gy G 0, 10, .inl tn))]) (gPerm_ix [0, 1, 2] rfl rfl) ?_
          refine g_if_eq (tgt := 199) E dX8_does_192 (by decide) (fun c43 => ?_) (fun c43 => ?_)
          · skip
            refine g_iconst (v := 0) E dX8_does_199 (by decide) ?_
            exact RET _ _ _ (q 6, tn, u41) (⟨by rw [gSucc_4 k28, if_pos c39, if_pos c40]; exact (c43).symm, by rw [gSucc_4 k28, if_pos c39, if_pos c40]; exact (xE41 ▸ hRR41)⟩) rfl dX8_does_200
          · skip
            refine g_iconst (v := 1) E dX8_does_195 (by decide) ?_
            refine g_goto (tgt := 200) E dX8_does_196 (by decide) ?_
            exact RET _ _ _ (q 6, tn, u41) (⟨by have q := gSucc_01 S g; rw [gSucc_4 k28, if_pos c39, if_pos c40] at q ⊢; exact (q.resolve_left c43).symm, by rw [gSucc_4 k28, if_pos c39, if_pos c40]; exact (xE41 ▸ hRR41)⟩) rfl dX8_does_200
    · skip
      refine g_top (y := 5) (by rw [k28]; rfl) ?_
      refine g_tableIn (tgt := 201) E dX8_does_63 (by decide) (by decide) rfl (by decide) ?_
      refine g_iload E dX8_does_201 4 rfl ?_
      refine g_if_neN (tgt := 220) (a := (g / 100) % 10) E dX8_does_203 (by decide) (by omega) (fun c44 => ?_) (fun c44 => ?_)
      · skip
        refine g_iconst (v := 0) E dX8_does_220 (by decide) ?_
        exact RET _ _ _ (q 6, tn, f) (⟨by rw [gSucc_5 k28, if_neg c44], by rw [gSucc_5 k28, if_neg c44]; exact hRR⟩) rfl dX8_does_221
      · skip
        refine g_aload_n E dX8_does_206 rfl 7 rfl ?_
        refine g_iload_n E dX8_does_207 rfl 5 rfl ?_
        refine g_iload E dX8_does_208 1 rfl ?_
        refine g_callVIu (F := [(m 8, .inl (gy G 0, 10, .inl tn))]) E (mX8_punishes G m q S f ((g / 1000) % 10) (g % 100) hK hT100 hRR (by omega) (by omega)) gX8_does_X8_punishes rfl hdX8_punishes ⟨Nat.le_of_ble_eq_true rfl, Nat.le_of_ble_eq_true rfl⟩ 8 0 rfl rfl rfl (gPerm_ix [0, 1, 2] rfl rfl) rfl rfl (Nat.le_of_ble_eq_true rfl) dX8_does_210 ⟨Nat.le_of_ble_eq_true rfl, Nat.le_of_ble_eq_true rfl⟩ (fun u45 hU45 => ?_)
        obtain ⟨S45, xE45⟩ : ∃ xx, xx = (gOkR (gTryPunish S (nI ((g / 1000) % 10)) (nI (g % 100)))).2 := ⟨_, rfl⟩
        have hRR45 : RR S45 u45 := by rw [xE45]; exact hU45
        refine g_perm (ws1 := [(m 0, .inr (8, [.int (q 0), .ref (m 1), .int (q 1), .int (q 2), .int (q 3), .int (q 4), .ref (m 2), .ref (m 3), .ref (m 4), .ref (m 5), .int (q 5), .ref (m 6), .ref (m 7), .ref (m 8), .int (q 6), .int (q 7), .int (q 8)])), (m 4, .inl (gy G 0, 271, .inl u45)), (m 8, .inl (gy G 0, 10, .inl tn))]) (gPerm_ix [0, 1, 2] rfl rfl) ?_
        refine g_if_eq (tgt := 220) E dX8_does_213 (by decide) (fun c47 => ?_) (fun c47 => ?_)
        · skip
          refine g_iconst (v := 0) E dX8_does_220 (by decide) ?_
          exact RET _ _ _ (q 6, tn, u45) (⟨by rw [gSucc_5 k28, if_pos c44]; exact (c47).symm, by rw [gSucc_5 k28, if_pos c44]; exact (xE45 ▸ hRR45)⟩) rfl dX8_does_221
        · skip
          refine g_iconst (v := 1) E dX8_does_216 (by decide) ?_
          refine g_goto (tgt := 221) E dX8_does_217 (by decide) ?_
          exact RET _ _ _ (q 6, tn, u45) (⟨by have q := gSucc_01 S g; rw [gSucc_5 k28, if_pos c44] at q ⊢; exact (q.resolve_left c47).symm, by rw [gSucc_5 k28, if_pos c44]; exact (xE45 ▸ hRR45)⟩) rfl dX8_does_221
    · skip
      refine g_top (y := 6) (by rw [k28]; rfl) ?_
      refine g_tableIn (tgt := 222) E dX8_does_63 (by decide) (by decide) rfl (by decide) ?_
      refine g_iload E dX8_does_222 0 rfl ?_
      refine g_if_eq (tgt := 240) E dX8_does_224 (by decide) (fun c => absurd c (by decide)) (fun _ => ?_)
      refine g_aload_n E dX8_does_227 rfl 7 rfl ?_
      refine g_iload E dX8_does_228 1 rfl ?_
      refine g_callVIu (F := []) E (mX8_runs G m q S f (g % 100) tn hK hT100 hRR (by omega)) gX8_does_X8_runs rfl hdX8_runs ⟨Nat.le_of_ble_eq_true rfl, Nat.le_of_ble_eq_true rfl⟩ 8 0 rfl rfl rfl (gPerm_ix [0, 1, 2] rfl rfl) rfl rfl (Nat.le_of_ble_eq_true rfl) dX8_does_230 ⟨Nat.le_of_ble_eq_true rfl, Nat.le_of_ble_eq_true rfl⟩ (fun u48 hU48 => ?_)
      obtain ⟨S48, xE48⟩ : ∃ xx, xx = (if (¬ nI (g % 100) < 1 ∧ ¬ 30 < nI (g % 100)) then gOkR (sI (gDays (g % 100) S) 8 0 - sI S 8 0, gDays (g % 100) S) else (0, S)).2 := ⟨_, rfl⟩
      have hRR48 : RR S48 u48.2.2 := by rw [xE48]; exact hU48
      refine g_perm (ws1 := [(m 0, .inr (8, [.int (q 0), .ref (m 1), .int (q 1), .int (q 2), .int (q 3), .int (q 4), .ref (m 2), .ref (m 3), .ref (m 4), .ref (m 5), .int (q 5), .ref (m 6), .ref (m 7), .ref (m 8), .int u48.1, .int (q 7), .int (q 8)])), (m 4, .inl (gy G 0, 271, .inl u48.2.2)), (m 8, .inl (gy G 0, 10, .inl u48.2.1))]) (gPerm_ix [0, 1, 2] rfl rfl) ?_
      refine g_if_eq (tgt := 240) E dX8_does_233 (by decide) (fun c50 => ?_) (fun c50 => ?_)
      · skip
        refine g_iconst (v := 0) E dX8_does_240 (by decide) ?_
        exact RET _ _ _ (u48.1, u48.2.1, u48.2.2) (⟨by rw [gSucc_6 k28, if_pos (show g %% 10000 < 100 by omega)]; exact (c50).symm, by rw [gSucc_6 k28, if_pos (show g %% 10000 < 100 by omega)]; exact (xE48 ▸ hRR48)⟩) rfl dX8_does_241
      · skip
        refine g_iconst (v := 1) E dX8_does_236 (by decide) ?_
        refine g_goto (tgt := 241) E dX8_does_237 (by decide) ?_
        exact RET _ _ _ (u48.1, u48.2.1, u48.2.2) (⟨by have q := gSucc_01 S g; rw [gSucc_6 k28, if_pos (show g %% 10000 < 100 by omega)] at q ⊢; exact (q.resolve_left c50).symm, by rw [gSucc_6 k28, if_pos (show g %% 10000 < 100 by omega)]; exact (xE48 ▸ hRR48)⟩) rfl dX8_does_241
    · skip
      refine g_top (y := 7) (by rw [k28]; rfl) ?_
      refine g_tableIn (tgt := 242) E dX8_does_63 (by decide) (by decide) rfl (by decide) ?_
      refine g_iload E dX8_does_242 4 rfl ?_
      refine g_if_neN (tgt := 275) (a := (g / 100) % 10) E dX8_does_244 (by decide) (by omega) (fun c51 => ?_) (fun c51 => ?_)
      · skip
        refine g_iconst (v := 0) E dX8_does_275 (by decide) ?_
        exact RET _ _ _ (q 6, tn, f) (⟨by rw [gSucc_7 k28 hP8, if_neg c51], by rw [gSucc_7 k28 hP8, if_neg c51]; exact hRR⟩) rfl dX8_does_276
      · skip
        refine g_aload_n E dX8_does_247 rfl 7 rfl ?_
        refine g_iload_n E dX8_does_248 rfl 5 rfl ?_
        refine g_iconst (v := 0) E dX8_does_249 (by decide) ?_
        refine g_callVIe (F := [(m 8, .inl (gy G 0, 10, .inl tn))]) (ws2 := [(m 0, .inr (8, [.int (q 0), .ref (m 1), .int (q 1), .int (q 2), .int (q 3), .int (q 4), .ref (m 2), .ref (m 3), .ref (m 4), .ref (m 5), .int (q 5), .ref (m 6), .ref (m 7), .ref (m 8), .int (q 6), .int (q 7), .int (q 8)])), (m 4, .inl (gy G 0, 271, .inl f)), (m 8, .inl (gy G 0, 10, .inl tn))]) E (mX8_isThere G m q S f ((g / 1000) % 10) 0 hI hT hRR (by omega) (by omega)) gX8_does_X8_isThere rfl hdX8_isThere ⟨Nat.le_of_ble_eq_true rfl, Nat.le_of_ble_eq_true rfl⟩ 8 0 rfl rfl rfl (gPerm_ix [0, 1, 2] rfl rfl) rfl rfl (Nat.le_of_ble_eq_true rfl) dX8_does_250 ⟨Nat.le_of_ble_eq_true rfl, Nat.le_of_ble_eq_true rfl⟩ (gPerm_ix [0, 1, 2] rfl rfl) ?_
        refine g_if_eqB (tgt := 275) (P := ((g / 1000) % 10 < sN S 1 ∧ 0 < 10)) E dX8_does_253 (by decide) (fun c52 => ?_) (fun c52 => ?_)
        · skip
          refine g_iconst (v := 0) E dX8_does_275 (by decide) ?_
          exact RET _ _ _ (q 6, tn, f) (⟨by rw [gSucc_7 k28 hP8, if_pos c51, if_neg c52], by rw [gSucc_7 k28 hP8, if_pos c51, if_neg c52]; exact hRR⟩) rfl dX8_does_276
        · skip
          refine g_aload_n E dX8_does_256 rfl 7 rfl ?_
          refine g_get E uX8_does_RX8 0 rfl rfl 8 (by decide) kX8_does_19 rfl rfl dX8_does_257 ?_
          refine g_iload_n E dX8_does_260 rfl 5 rfl ?_
          refine g_iconst (v := 3) E dX8_does_261 (by decide) ?_
          refine g_callSIe (F := [(m 0, .inr (8, [.int (q 0), .ref (m 1), .int (q 1), .int (q 2), .int (q 3), .int (q 4), .ref (m 2), .ref (m 3), .ref (m 4), .ref (m 5), .int (q 5), .ref (m 6), .ref (m 7), .ref (m 8), .int (q 6), .int (q 7), .int (q 8)])), (m 4, .inl (gy G 0, 271, .inl f)), (m 8, .inl (gy G 0, 10, .inl tn))]) (ws2 := [(m 0, .inr (8, [.int (q 0), .ref (m 1), .int (q 1), .int (q 2), .int (q 3), .int (q 4), .ref (m 2), .ref (m 3), .ref (m 4), .ref (m 5), .int (q 5), .ref (m 6), .ref (m 7), .ref (m 8), .int (q 6), .int (q 7), .int (q 8)])), (m 4, .inl (gy G 0, 271, .inl f)), (m 8, .inl (gy G 0, 10, .inl tn))]) E (mX8_prisonerAt G ((g / 1000) % 10) 3 (by omega) (by omega)) gX8_does_X8_prisonerAt rfl hnX8_prisonerAt ⟨Nat.le_of_ble_eq_true rfl, Nat.le_of_ble_eq_true rfl⟩ (gPerm_ix [0, 1, 2] rfl rfl) rfl rfl (Nat.le_of_ble_eq_true rfl) dX8_does_262 ⟨Nat.le_of_ble_eq_true rfl, Nat.le_of_ble_eq_true rfl⟩ (gPerm_ix [0, 1, 2] rfl rfl) ?_
          refine g_ialdN (e := 15 + 6 * ((g / 1000) % 10) + 3) E 1 rfl (by omega) rfl (v := sI S 3 ((g / 1000) % 10)) (RR_P hRR (p := (g / 1000) % 10) (w := 3) (by omega) (by omega)) dX8_does_265 ?_
          refine g_iload E dX8_does_266 1 rfl ?_
          refine g_icmp_lt (tgt := 275) E dX8_does_268 (by decide) (fun c53 => ?_) (fun c53 => ?_)
          · skip
            refine g_iconst (v := 0) E dX8_does_275 (by decide) ?_
            exact RET _ _ _ (q 6, tn, f) (⟨by rw [gSucc_7 k28 hP8, if_pos c51, if_pos c52, if_pos c53], by rw [gSucc_7 k28 hP8, if_pos c51, if_pos c52, if_pos c53]; exact hRR⟩) rfl dX8_does_276
          · skip
            refine g_iconst (v := 1) E dX8_does_271 (by decide) ?_
            refine g_goto (tgt := 276) E dX8_does_272 (by decide) ?_
            exact RET _ _ _ (q 6, tn, f) (⟨by rw [gSucc_7 k28 hP8, if_pos c51, if_pos c52, if_neg c53], by rw [gSucc_7 k28 hP8, if_pos c51, if_pos c52, if_neg c53]; exact hRR⟩) rfl dX8_does_276
    · skip
      refine g_top (y := 8) (by rw [k28]; rfl) ?_
      refine g_tableIn (tgt := 277) E dX8_does_63 (by decide) (by decide) rfl (by decide) ?_
      refine g_iload_n E dX8_does_277 rfl 8 rfl ?_
      refine g_sipush (v := 1000) E dX8_does_278 (by decide) ?_
      refine g_iremN (a := g) (b := 1000) E dX8_does_281 (by omega) (by omega) (by omega) ?_
      refine g_if_neN (tgt := 313) (a := g % 1000) E dX8_does_282 (by decide) (by omega) (fun c54 => ?_) (fun c54 => ?_)
      · skip
        refine g_iconst (v := 0) E dX8_does_313 (by decide) ?_
        exact RET _ _ _ (q 6, tn, f) (⟨by rw [gSucc_8 k28, if_neg c54], by rw [gSucc_8 k28, if_neg c54]; exact hRR⟩) rfl dX8_does_314
      · skip
        refine g_iload_n E dX8_does_285 rfl 5 rfl ?_
        refine g_callSIe (F := [(m 0, .inr (8, [.int (q 0), .ref (m 1), .int (q 1), .int (q 2), .int (q 3), .int (q 4), .ref (m 2), .ref (m 3), .ref (m 4), .ref (m 5), .int (q 5), .ref (m 6), .ref (m 7), .ref (m 8), .int (q 6), .int (q 7), .int (q 8)])), (m 4, .inl (gy G 0, 271, .inl f)), (m 8, .inl (gy G 0, 10, .inl tn))]) (ws2 := [(m 0, .inr (8, [.int (q 0), .ref (m 1), .int (q 1), .int (q 2), .int (q 3), .int (q 4), .ref (m 2), .ref (m 3), .ref (m 4), .ref (m 5), .int (q 5), .ref (m 6), .ref (m 7), .ref (m 8), .int (q 6), .int (q 7), .int (q 8)])), (m 4, .inl (gy G 0, 271, .inl f)), (m 8, .inl (gy G 0, 10, .inl tn))]) E (mX8_isVisitor G (nI ((g / 1000) % 10))) gX8_does_X8_isVisitor rfl hnX8_isVisitor ⟨Nat.le_of_ble_eq_true rfl, Nat.le_of_ble_eq_true rfl⟩ (gPerm_ix [0, 1, 2] rfl rfl) rfl rfl (Nat.le_of_ble_eq_true rfl) dX8_does_286 ⟨Nat.le_of_ble_eq_true rfl, Nat.le_of_ble_eq_true rfl⟩ (gPerm_ix [0, 1, 2] rfl rfl) ?_
        refine g_if_eqB (tgt := 313) (P := (¬ (nI ((g / 1000) % 10)) < 0 ∧ ¬ 9 < (nI ((g / 1000) % 10)))) E dX8_does_289 (by decide) (fun c55 => ?_) (fun c55 => ?_)
        · exfalso
          exact c55 ((gV9N (by omega)).mpr (by omega))
        · skip
          refine g_aload_n E dX8_does_292 rfl 7 rfl ?_
          refine g_get E uX8_does_RX8 0 rfl rfl 8 (by decide) kX8_does_19 rfl rfl dX8_does_293 ?_
          refine g_iload_n E dX8_does_296 rfl 5 rfl ?_
          refine g_aload_n E dX8_does_297 rfl 7 rfl ?_
          refine g_get E uX8_does_RX8 0 rfl rfl 8 (by decide) kX8_does_19 rfl rfl dX8_does_298 ?_
          refine g_iconst (v := 0) E dX8_does_301 (by decide) ?_
          refine g_ialdN (e := 0) E 1 rfl (by omega) rfl (v := nI (sN S 0)) (RR_0 hRR) dX8_does_302 ?_
          refine g_callSIe (F := [(m 0, .inr (8, [.int (q 0), .ref (m 1), .int (q 1), .int (q 2), .int (q 3), .int (q 4), .ref (m 2), .ref (m 3), .ref (m 4), .ref (m 5), .int (q 5), .ref (m 6), .ref (m 7), .ref (m 8), .int (q 6), .int (q 7), .int (q 8)])), (m 8, .inl (gy G 0, 10, .inl tn))]) (ws2 := [(m 0, .inr (8, [.int (q 0), .ref (m 1), .int (q 1), .int (q 2), .int (q 3), .int (q 4), .ref (m 2), .ref (m 3), .ref (m 4), .ref (m 5), .int (q 5), .ref (m 6), .ref (m 7), .ref (m 8), .int (q 6), .int (q 7), .int (q 8)])), (m 4, .inl (gy G 0, 271, .inl f)), (m 8, .inl (gy G 0, 10, .inl tn))]) E (mX8_isBanned G (m 4) S f ((g / 1000) % 10) (sN S 0) (gI1_r hI) hT hRR (by omega)) gX8_does_X8_isBanned rfl hnX8_isBanned ⟨Nat.le_of_ble_eq_true rfl, Nat.le_of_ble_eq_true rfl⟩ (gPerm_ix [1, 0, 2] rfl rfl) rfl rfl (Nat.le_of_ble_eq_true rfl) dX8_does_303 ⟨Nat.le_of_ble_eq_true rfl, Nat.le_of_ble_eq_true rfl⟩ (gPerm_ix [1, 0, 2] rfl rfl) ?_
          refine g_if_neB (tgt := 313) (P := nI (sN S 0) < sI S 7 ((g / 1000) % 10)) E dX8_does_306 (by decide) (fun c56 => ?_) (fun c56 => ?_)
          · skip
            refine g_iconst (v := 0) E dX8_does_313 (by decide) ?_
            exact RET _ _ _ (q 6, tn, f) (⟨by rw [gSucc_8 k28, if_pos c54, if_pos c56], by rw [gSucc_8 k28, if_pos c54, if_pos c56]; exact hRR⟩) rfl dX8_does_314
          · skip
            refine g_iconst (v := 1) E dX8_does_309 (by decide) ?_
            refine g_goto (tgt := 314) E dX8_does_310 (by decide) ?_
            exact RET _ _ _ (q 6, tn, f) (⟨by rw [gSucc_8 k28, if_pos c54, if_neg c56], by rw [gSucc_8 k28, if_pos c54, if_neg c56]; exact hRR⟩) rfl dX8_does_314
    · skip
      refine g_top (y := 9) (by rw [k28]; rfl) ?_
      refine g_tableIn (tgt := 315) E dX8_does_63 (by decide) (by decide) rfl (by decide) ?_
      refine g_iload E dX8_does_315 0 rfl ?_
      refine g_if_eq (tgt := 335) E dX8_does_317 (by decide) (fun c => absurd c (by decide)) (fun _ => ?_)
      refine g_aload_n E dX8_does_320 rfl 7 rfl ?_
      refine g_get E uX8_does_RX8 0 rfl rfl 8 (by decide) kX8_does_19 rfl rfl dX8_does_321 ?_
      refine g_iconst (v := 2) E dX8_does_324 (by decide) ?_
      refine g_ialdN (e := 2) E 1 rfl (by omega) rfl (v := nI ((sB S).length)) (RR_2 hRR) dX8_does_325 ?_
      refine g_iload E dX8_does_326 1 rfl ?_
      refine g_icmp_gtN (tgt := 335) (a := (sB S).length) (b := g % 100) E dX8_does_328 (by decide) (by omega) (by omega) (fun c57 => ?_) (fun c57 => ?_)
      · skip
        refine g_iconst (v := 0) E dX8_does_335 (by decide) ?_
        exact RET _ _ _ (q 6, tn, f) (⟨by rw [gSucc_9 k28, if_pos (show g %% 10000 < 100 by omega), if_pos (by omega)], by rw [gSucc_9 k28, if_pos (show g %% 10000 < 100 by omega), if_pos (by omega)]; exact hRR⟩) rfl dX8_does_336
      · skip
        refine g_iconst (v := 1) E dX8_does_331 (by decide) ?_
        refine g_goto (tgt := 336) E dX8_does_332 (by decide) ?_
        exact RET _ _ _ (q 6, tn, f) (⟨by rw [gSucc_9 k28, if_pos (show g %% 10000 < 100 by omega), if_neg (by omega)], by rw [gSucc_9 k28, if_pos (show g %% 10000 < 100 by omega), if_neg (by omega)]; exact hRR⟩) rfl dX8_does_336

set_option maxHeartbeats 4000000 in
set_option maxRecDepth 100000 in
theorem mX8_stir (G : gG) (m : Nat → Nat) (q : Nat → Int32) (S : gSt) (f : Nat → Int32) (r : Nat) (tn : Nat → Int32) (hK : gI3 S) (hT100 : sN S 0 + 100 < 200000000) (hRR : RR S f) (hr : r < 2147483648) : CV G yX8_stir wsX8_stir 8 190 [.ref (m 0), .int (nI r)] [(m 0, .inr (8, [.int (q 0), .ref (m 1), .int (q 1), .int (q 2), .int (q 3), .int (q 4), .ref (m 2), .ref (m 3), .ref (m 4), .ref (m 5), .int (q 5), .ref (m 6), .ref (m 7), .ref (m 8), .int (q 6), .int (q 7), .int (q 8)])), (m 4, .inl (gy G 0, 271, .inl f)), (m 8, .inl (gy G 0, 10, .inl tn))] (fun u : Int32 × (Nat → Int32) × (Nat → Int32) => RR (gTurn1 S r) u.2.2) (fun (u : Int32 × (Nat → Int32) × (Nat → Int32)) => [(m 0, .inr (8, [.int (q 0), .ref (m 1), .int (q 1), .int (q 2), .int (q 3), .int (q 4), .ref (m 2), .ref (m 3), .ref (m 4), .ref (m 5), .int (q 5), .ref (m 6), .ref (m 7), .ref (m 8), .int u.1, .int (q 7), .int (q 8)])), (m 4, .inl (gy G 0, 271, .inl u.2.2)), (m 8, .inl (gy G 0, 10, .inl u.2.1))]) 0 0 := by
  refine g_enterV RX8 rfl (by decide) rfl (Nat.le_of_ble_eq_true rfl) ?_
  intro V E RET
  have hJ := hK.1
  have hI := hJ.1
  have hT2 : sN S 0 < 200000000 := by omega
  have hT : sN S 0 < 1000000000 := by omega
  have hb2 := gI2_b2 hJ
  have hX := hI
  obtain ⟨hP8, hn, hw, hW8, hs3, hs4, hs5, hs6, hs7, hs8, hb34⟩ := hX
  refine g_iload_n E dX8_stir_0 rfl 1 rfl ?_
  refine g_bipush (v := 8) E dX8_stir_1 (by decide) ?_
  refine g_idivN (a := r) (b := 8) E dX8_stir_3 (by omega) (by omega) (by omega) ?_
  refine g_bipush (v := 8) E dX8_stir_4 (by decide) ?_
  refine g_iremN (a := r / 8) (b := 8) E dX8_stir_6 (by omega) (by omega) (by omega) ?_
  refine g_istore_n (lv' := [(2, .int (nI ((r / 8) % 8))), (0, .ref (m 0)), (1, .int (nI r))]) E dX8_stir_7 rfl (by decide) rfl ?_
  refine g_iload_n E dX8_stir_8 rfl 2 rfl ?_
  refine g_bipush (v := 64) E dX8_stir_9 (by decide) ?_
  refine g_idivN (a := r) (b := 64) E dX8_stir_11 (by omega) (by omega) (by omega) ?_
  refine g_bipush (v := 10) E dX8_stir_12 (by decide) ?_
  refine g_iremN (a := r / 64) (b := 10) E dX8_stir_14 (by omega) (by omega) (by omega) ?_
  refine g_istore_n (lv' := [(3, .int (nI ((r / 64) % 10))), (2, .int (nI ((r / 8) % 8))), (0, .ref (m 0)), (1, .int (nI r))]) E dX8_stir_15 rfl (by decide) rfl ?_
  refine g_iload_n E dX8_stir_16 rfl 3 rfl ?_
  refine g_bipush (v := 8) E dX8_stir_17 (by decide) ?_
  refine g_iremN (a := r) (b := 8) E dX8_stir_19 (by omega) (by omega) (by omega) ?_
  refine g_istore (lv' := [(4, .int (nI (r % 8))), (3, .int (nI ((r / 64) % 10))), (2, .int (nI ((r / 8) % 8))), (0, .ref (m 0)), (1, .int (nI r))]) E dX8_stir_20 (by decide) rfl ?_
  refine g_iload E dX8_stir_22 0 rfl ?_
  refine g_iconst (v := 2) E dX8_stir_24 (by decide) ?_
  refine g_icmp_geN (tgt := 60) (a := r % 8) (b := 2) E dX8_stir_25 (by decide) (by omega) (by omega) (fun c1 => ?_) (fun c1 => ?_)
  · skip
    refine g_iload E dX8_stir_60 0 rfl ?_
    refine g_iconst (v := 2) E dX8_stir_62 (by decide) ?_
    refine g_icmp_neN (tgt := 76) (a := r % 8) (b := 2) E dX8_stir_63 (by decide) (by omega) (by omega) (fun c2 => ?_) (fun c2 => ?_)
    · skip
      refine g_iload E dX8_stir_76 0 rfl ?_
      refine g_iconst (v := 3) E dX8_stir_78 (by decide) ?_
      refine g_icmp_neN (tgt := 93) (a := r % 8) (b := 3) E dX8_stir_79 (by decide) (by omega) (by omega) (fun c3 => ?_) (fun c3 => ?_)
      · skip
        refine g_iload E dX8_stir_93 0 rfl ?_
        refine g_iconst (v := 4) E dX8_stir_95 (by decide) ?_
        refine g_icmp_neN (tgt := 109) (a := r % 8) (b := 4) E dX8_stir_96 (by decide) (by omega) (by omega) (fun c4 => ?_) (fun c4 => ?_)
        · skip
          refine g_iload E dX8_stir_109 0 rfl ?_
          refine g_iconst (v := 5) E dX8_stir_111 (by decide) ?_
          refine g_icmp_neN (tgt := 157) (a := r % 8) (b := 5) E dX8_stir_112 (by decide) (by omega) (by omega) (fun c5 => ?_) (fun c5 => ?_)
          · skip
            refine g_aload_n E dX8_stir_157 rfl 3 rfl ?_
            refine g_aload_n E dX8_stir_158 rfl 3 rfl ?_
            refine g_get E uX8_stir_RX8 0 rfl rfl 8 (by decide) kX8_stir_19 rfl rfl dX8_stir_159 ?_
            refine g_iconst (v := 1) E dX8_stir_162 (by decide) ?_
            refine g_callVIu (F := []) E (mX8_runIn G m q (m 4) S f tn 1 hJ (by omega) hRR) gX8_stir_X8_runIn rfl hdX8_runIn ⟨Nat.le_of_ble_eq_true rfl, Nat.le_of_ble_eq_true rfl⟩ 8 0 rfl rfl rfl (gPerm_ix [0, 2, 1] rfl rfl) rfl rfl (Nat.le_of_ble_eq_true rfl) dX8_stir_163 ⟨Nat.le_of_ble_eq_true rfl, Nat.le_of_ble_eq_true rfl⟩ (fun u6 hU6 => ?_)
            obtain ⟨S6, xE6⟩ : ∃ x, x = gDays 1 S := ⟨_, rfl⟩
            have hRR6 : RR S6 u6.2.2 := by rw [xE6]; exact hU6
            refine g_perm (ws1 := [(m 0, .inr (8, [.int (q 0), .ref (m 1), .int (q 1), .int (q 2), .int (q 3), .int (q 4), .ref (m 2), .ref (m 3), .ref (m 4), .ref (m 5), .int (q 5), .ref (m 6), .ref (m 7), .ref (m 8), .int u6.1, .int (q 7), .int (q 8)])), (m 4, .inl (gy G 0, 271, .inl u6.2.2)), (m 8, .inl (gy G 0, 10, .inl u6.2.1))]) (gPerm_ix [0, 2, 1] rfl rfl) ?_
            refine g_pop E dX8_stir_166 rfl ?_
            exact RET _ _ (u6.1, u6.2.1, u6.2.2) (by unfold gTurn1; rw [if_neg (by omega), if_neg (by omega), if_neg (by omega), if_neg (by omega), if_neg (by omega)]; exact (xE6 ▸ hRR6)) dX8_stir_167
          · skip
            refine g_iload_n E dX8_stir_115 rfl 4 rfl ?_
            refine g_bipush (v := 8) E dX8_stir_116 (by decide) ?_
            refine g_idivN (a := r) (b := 8) E dX8_stir_118 (by omega) (by omega) (by omega) ?_
            refine g_bipush (v := 24) E dX8_stir_119 (by decide) ?_
            refine g_iremN (a := r / 8) (b := 24) E dX8_stir_121 (by omega) (by omega) (by omega) ?_
            refine g_istore (lv' := [(5, .int (nI ((r / 8) % 24))), (4, .int (nI (r % 8))), (3, .int (nI ((r / 64) % 10))), (2, .int (nI ((r / 8) % 8))), (0, .ref (m 0)), (1, .int (nI r))]) E dX8_stir_122 (by decide) rfl ?_
            refine g_iload E dX8_stir_124 0 rfl ?_
            refine g_aload_n E dX8_stir_126 rfl 4 rfl ?_
            refine g_get E uX8_stir_RX8 0 rfl rfl 8 (by decide) kX8_stir_19 rfl rfl dX8_stir_127 ?_
            refine g_iconst (v := 2) E dX8_stir_130 (by decide) ?_
            refine g_ialdN (e := 2) E 1 rfl (by omega) rfl (v := nI ((sB S).length)) (RR_2 hRR) dX8_stir_131 ?_
            refine g_icmp_geN (tgt := 154) (a := (r / 8) % 24) (b := (sB S).length) E dX8_stir_132 (by decide) (by omega) (by omega) (fun c8 => ?_) (fun c8 => ?_)
            · skip
              refine g_goto (tgt := 167) E dX8_stir_154 (by decide) ?_
              exact RET _ _ (q 6, tn, f) (by unfold gTurn1; rw [if_neg (by omega), if_neg (by omega), if_neg (by omega), if_neg (by omega), if_pos (by omega)]; exact (by rw [gTLt_no hn (by omega) (by omega)]; exact hRR)) dX8_stir_167
            · skip
              refine g_aload_n E dX8_stir_135 rfl 4 rfl ?_
              refine g_get E uX8_stir_RX8 0 rfl rfl 8 (by decide) kX8_stir_19 rfl rfl dX8_stir_136 ?_
              refine g_iload E dX8_stir_139 0 rfl ?_
              refine g_iconst (v := 5) E dX8_stir_141 (by decide) ?_
              refine g_callSIe (F := [(m 0, .inr (8, [.int (q 0), .ref (m 1), .int (q 1), .int (q 2), .int (q 3), .int (q 4), .ref (m 2), .ref (m 3), .ref (m 4), .ref (m 5), .int (q 5), .ref (m 6), .ref (m 7), .ref (m 8), .int (q 6), .int (q 7), .int (q 8)])), (m 4, .inl (gy G 0, 271, .inl f)), (m 8, .inl (gy G 0, 10, .inl tn))]) (ws2 := [(m 0, .inr (8, [.int (q 0), .ref (m 1), .int (q 1), .int (q 2), .int (q 3), .int (q 4), .ref (m 2), .ref (m 3), .ref (m 4), .ref (m 5), .int (q 5), .ref (m 6), .ref (m 7), .ref (m 8), .int (q 6), .int (q 7), .int (q 8)])), (m 4, .inl (gy G 0, 271, .inl f)), (m 8, .inl (gy G 0, 10, .inl tn))]) E (mX8_bookingAt G ((r / 8) % 24) 5 (by omega) (by omega)) gX8_stir_X8_bookingAt rfl hnX8_bookingAt ⟨Nat.le_of_ble_eq_true rfl, Nat.le_of_ble_eq_true rfl⟩ (gPerm_ix [0, 1, 2] rfl rfl) rfl rfl (Nat.le_of_ble_eq_true rfl) dX8_stir_142 ⟨Nat.le_of_ble_eq_true rfl, Nat.le_of_ble_eq_true rfl⟩ (gPerm_ix [0, 1, 2] rfl rfl) ?_
              refine g_iload_n E dX8_stir_145 rfl 5 rfl ?_
              refine g_sipush (v := 1024) E dX8_stir_146 (by decide) ?_
              refine g_idivN (a := r) (b := 1024) E dX8_stir_149 (by omega) (by omega) (by omega) ?_
              refine g_bipush (v := 40) E dX8_stir_150 (by decide) ?_
              refine g_iremN (a := r / 1024) (b := 40) E dX8_stir_152 (by omega) (by omega) (by omega) ?_
              refine g_iast (ws' := [(m 0, .inr (8, [.int (q 0), .ref (m 1), .int (q 1), .int (q 2), .int (q 3), .int (q 4), .ref (m 2), .ref (m 3), .ref (m 4), .ref (m 5), .int (q 5), .ref (m 6), .ref (m 7), .ref (m 8), .int (q 6), .int (q 7), .int (q 8)])), (m 4, .inl (gy G 0, 271, .inl (upd f (93 + 7 * ((r / 8) % 24) + 5) (nI ((r / 1024) % 40))))), (m 8, .inl (gy G 0, 10, .inl tn))]) (j := 93 + 7 * ((r / 8) % 24) + 5) (y := nI ((r / 1024) % 40)) E 1 rfl (g_in (e := 93 + 7 * ((r / 8) % 24) + 5) (by omega) rfl) (nI_clamp (n := 93 + 7 * ((r / 8) % 24) + 5) (by omega)) rfl rfl dX8_stir_153 ?_
              have hRR9 : RR (gLate S (r / 8 % 24) (r / 1024 % 40)) (upd f (93 + 7 * ((r / 8) % 24) + 5) (nI ((r / 1024) % 40))) := RR_late hRR hn (by omega) (by omega)
              refine g_goto (tgt := 167) E dX8_stir_154 (by decide) ?_
              exact RET _ _ (q 6, tn, upd f (93 + 7 * ((r / 8) % 24) + 5) (nI ((r / 1024) % 40))) (by unfold gTurn1; rw [if_neg (by omega), if_neg (by omega), if_neg (by omega), if_neg (by omega), if_pos (by omega)]; exact (by rw [gTLt_yes hn (by omega) (by omega)]; exact hRR9)) dX8_stir_167
        · skip
          refine g_aload_n E dX8_stir_99 rfl 3 rfl ?_
          refine g_iload_n E dX8_stir_100 rfl 1 rfl ?_
          refine g_iconst (v := 1) E dX8_stir_101 (by decide) ?_
          refine g_callVIu (F := [(m 8, .inl (gy G 0, 10, .inl tn))]) E (mX8_carries G m q S f ((r / 64) % 10) 1 hK hT100 hRR (by omega) (by omega)) gX8_stir_X8_carries rfl hdX8_carries ⟨Nat.le_of_ble_eq_true rfl, Nat.le_of_ble_eq_true rfl⟩ 8 0 rfl rfl rfl (gPerm_ix [0, 1, 2] rfl rfl) rfl rfl (Nat.le_of_ble_eq_true rfl) dX8_stir_102 ⟨Nat.le_of_ble_eq_true rfl, Nat.le_of_ble_eq_true rfl⟩ (fun u10 hU10 => ?_)
          obtain ⟨S10, xE10⟩ : ∃ xx, xx = (if 1 < 1 then (0, S) else gOkR (gTryCarry S (nI ((r / 64) % 10)) (if 1 = 1 then 1 else 0))).2 := ⟨_, rfl⟩
          have hRR10 : RR S10 u10 := by rw [xE10]; exact hU10
          refine g_perm (ws1 := [(m 0, .inr (8, [.int (q 0), .ref (m 1), .int (q 1), .int (q 2), .int (q 3), .int (q 4), .ref (m 2), .ref (m 3), .ref (m 4), .ref (m 5), .int (q 5), .ref (m 6), .ref (m 7), .ref (m 8), .int (q 6), .int (q 7), .int (q 8)])), (m 4, .inl (gy G 0, 271, .inl u10)), (m 8, .inl (gy G 0, 10, .inl tn))]) (gPerm_ix [0, 1, 2] rfl rfl) ?_
          refine g_pop E dX8_stir_105 rfl ?_
          refine g_goto (tgt := 167) E dX8_stir_106 (by decide) ?_
          exact RET _ _ (q 6, tn, u10) (by unfold gTurn1; rw [if_neg (by omega), if_neg (by omega), if_neg (by omega), if_pos (by omega)]; exact (by have q := hRR10; rw [xE10] at q; rw [if_neg (by decide), if_pos rfl] at q; exact q)) dX8_stir_167
      · skip
        refine g_aload_n E dX8_stir_82 rfl 3 rfl ?_
        refine g_iload_n E dX8_stir_83 rfl 2 rfl ?_
        refine g_iload_n E dX8_stir_84 rfl 1 rfl ?_
        refine g_iconst (v := 1) E dX8_stir_85 (by decide) ?_
        refine g_callVIu (F := [(m 8, .inl (gy G 0, 10, .inl tn))]) E (mX8_lists G m q S f ((r / 8) % 8) ((r / 64) % 10) 1 hK hT100 hRR (by omega) (by omega) (by omega)) gX8_stir_X8_lists rfl hdX8_lists ⟨Nat.le_of_ble_eq_true rfl, Nat.le_of_ble_eq_true rfl⟩ 8 0 rfl rfl rfl (gPerm_ix [0, 1, 2] rfl rfl) rfl rfl (Nat.le_of_ble_eq_true rfl) dX8_stir_86 ⟨Nat.le_of_ble_eq_true rfl, Nat.le_of_ble_eq_true rfl⟩ (fun u12 hU12 => ?_)
        obtain ⟨S12, xE12⟩ : ∃ xx, xx = (if 1 < 1 then (0, S) else gOkR (gTryList S (nI ((r / 8) % 8)) (nI ((r / 64) % 10)) (if 1 = 1 then 1 else 0))).2 := ⟨_, rfl⟩
        have hRR12 : RR S12 u12 := by rw [xE12]; exact hU12
        refine g_perm (ws1 := [(m 0, .inr (8, [.int (q 0), .ref (m 1), .int (q 1), .int (q 2), .int (q 3), .int (q 4), .ref (m 2), .ref (m 3), .ref (m 4), .ref (m 5), .int (q 5), .ref (m 6), .ref (m 7), .ref (m 8), .int (q 6), .int (q 7), .int (q 8)])), (m 4, .inl (gy G 0, 271, .inl u12)), (m 8, .inl (gy G 0, 10, .inl tn))]) (gPerm_ix [0, 1, 2] rfl rfl) ?_
        refine g_pop E dX8_stir_89 rfl ?_
        refine g_goto (tgt := 167) E dX8_stir_90 (by decide) ?_
        exact RET _ _ (q 6, tn, u12) (by unfold gTurn1; rw [if_neg (by omega), if_neg (by omega), if_pos (by omega)]; exact (by have q := hRR12; rw [xE12] at q; rw [if_neg (by decide), if_pos rfl] at q; exact q)) dX8_stir_167
    · skip
      refine g_aload_n E dX8_stir_66 rfl 3 rfl ?_
      refine g_iload_n E dX8_stir_67 rfl 2 rfl ?_
      refine g_iload_n E dX8_stir_68 rfl 1 rfl ?_
      refine g_callVIu (F := [(m 8, .inl (gy G 0, 10, .inl tn))]) E (mX8_wishes G m q S f ((r / 8) % 8) ((r / 64) % 10) hK hT100 hRR (by omega) (by omega)) gX8_stir_X8_wishes rfl hdX8_wishes ⟨Nat.le_of_ble_eq_true rfl, Nat.le_of_ble_eq_true rfl⟩ 8 0 rfl rfl rfl (gPerm_ix [0, 1, 2] rfl rfl) rfl rfl (Nat.le_of_ble_eq_true rfl) dX8_stir_69 ⟨Nat.le_of_ble_eq_true rfl, Nat.le_of_ble_eq_true rfl⟩ (fun u14 hU14 => ?_)
      obtain ⟨S14, xE14⟩ : ∃ xx, xx = (gOkR (gTryWish S (nI ((r / 8) % 8)) (nI ((r / 64) % 10)))).2 := ⟨_, rfl⟩
      have hRR14 : RR S14 u14 := by rw [xE14]; exact hU14
      refine g_perm (ws1 := [(m 0, .inr (8, [.int (q 0), .ref (m 1), .int (q 1), .int (q 2), .int (q 3), .int (q 4), .ref (m 2), .ref (m 3), .ref (m 4), .ref (m 5), .int (q 5), .ref (m 6), .ref (m 7), .ref (m 8), .int (q 6), .int (q 7), .int (q 8)])), (m 4, .inl (gy G 0, 271, .inl u14)), (m 8, .inl (gy G 0, 10, .inl tn))]) (gPerm_ix [0, 1, 2] rfl rfl) ?_
      refine g_pop E dX8_stir_72 rfl ?_
      refine g_goto (tgt := 167) E dX8_stir_73 (by decide) ?_
      exact RET _ _ (q 6, tn, u14) (by unfold gTurn1; rw [if_neg (by omega), if_pos (by omega)]; exact (xE14 ▸ hRR14)) dX8_stir_167
  · skip
    refine g_aload_n E dX8_stir_28 rfl 3 rfl ?_
    refine g_iload_n E dX8_stir_29 rfl 2 rfl ?_
    refine g_iload_n E dX8_stir_30 rfl 1 rfl ?_
    refine g_aload_n E dX8_stir_31 rfl 3 rfl ?_
    refine g_get E uX8_stir_RX8 0 rfl rfl 8 (by decide) kX8_stir_19 rfl rfl dX8_stir_32 ?_
    refine g_iconst (v := 0) E dX8_stir_35 (by decide) ?_
    refine g_ialdN (e := 0) E 1 rfl (by omega) rfl (v := nI (sN S 0)) (RR_0 hRR) dX8_stir_36 ?_
    refine g_iload_n E dX8_stir_37 rfl 4 rfl ?_
    refine g_sipush (v := 1024) E dX8_stir_38 (by decide) ?_
    refine g_idivN (a := r) (b := 1024) E dX8_stir_41 (by omega) (by omega) (by omega) ?_
    refine g_iconst (v := 5) E dX8_stir_42 (by decide) ?_
    refine g_iremN (a := r / 1024) (b := 5) E dX8_stir_43 (by omega) (by omega) (by omega) ?_
    refine g_iaddN (a := sN S 0) (b := (r / 1024) % 5) E dX8_stir_44 ?_
    refine g_iload_n E dX8_stir_45 rfl 4 rfl ?_
    refine g_sipush (v := 8192) E dX8_stir_46 (by decide) ?_
    refine g_idivN (a := r) (b := 8192) E dX8_stir_49 (by omega) (by omega) (by omega) ?_
    refine g_bipush (v := 8) E dX8_stir_50 (by decide) ?_
    refine g_iremN (a := r / 8192) (b := 8) E dX8_stir_52 (by omega) (by omega) (by omega) ?_
    refine g_callVIu (F := [(m 8, .inl (gy G 0, 10, .inl tn))]) E (mX8_books G m q S f ((r / 8) % 8) ((r / 64) % 10) (sN S 0 + ((r / 1024) % 5)) ((r / 8192) % 8) hK hT100 hRR (by omega) (by omega) (by omega) (by omega)) gX8_stir_X8_books rfl hdX8_books ⟨Nat.le_of_ble_eq_true rfl, Nat.le_of_ble_eq_true rfl⟩ 8 0 rfl rfl rfl (gPerm_ix [0, 1, 2] rfl rfl) rfl rfl (Nat.le_of_ble_eq_true rfl) dX8_stir_53 ⟨Nat.le_of_ble_eq_true rfl, Nat.le_of_ble_eq_true rfl⟩ (fun u16 hU16 => ?_)
    obtain ⟨S16, xE16⟩ : ∃ xx, xx = (gOkR (gTryBook S (nI ((r / 8) % 8)) (nI ((r / 64) % 10)) (nI (sN S 0 + ((r / 1024) % 5))) (nI ((r / 8192) % 8)))).2 := ⟨_, rfl⟩
    have hRR16 : RR S16 u16 := by rw [xE16]; exact hU16
    refine g_perm (ws1 := [(m 0, .inr (8, [.int (q 0), .ref (m 1), .int (q 1), .int (q 2), .int (q 3), .int (q 4), .ref (m 2), .ref (m 3), .ref (m 4), .ref (m 5), .int (q 5), .ref (m 6), .ref (m 7), .ref (m 8), .int (q 6), .int (q 7), .int (q 8)])), (m 4, .inl (gy G 0, 271, .inl u16)), (m 8, .inl (gy G 0, 10, .inl tn))]) (gPerm_ix [0, 1, 2] rfl rfl) ?_
    refine g_pop E dX8_stir_56 rfl ?_
    refine g_goto (tgt := 167) E dX8_stir_57 (by decide) ?_
    exact RET _ _ (q 6, tn, u16) (by unfold gTurn1; rw [if_pos (by omega)]; exact (xE16 ▸ hRR16)) dX8_stir_167

set_option maxHeartbeats 4000000 in
set_option maxRecDepth 100000 in
theorem mX8_whyNot (G : gG) (m : Nat → Nat) (q : Nat → Int32) (n c : Nat) (sg : Nat → Int32) (S : gSt) (H : Nat → gSt) (sl : Nat → Option gSt) (rd f tr dy kp ik tn : Nat → Int32) (p v d h : Int32) (hn12 : n ≤ 120) (hO : gOk 50000 S) (hc14 : c ≤ 14) (hHo : gHok 50000 c H) (hRR : RR S f) (hD : gDry c H dy) (hKp : gKpt sl kp ik) : CI G yX8_whyNot wsX8_whyNot 4 94 [.ref (m 0), .int p, .int v, .int d, .int h] [(m 0, .inr (8, [.int (q 0), .ref (m 1), .int (nI n), .int (q 2), .int (q 3), .int (q 4), .ref (m 2), .ref (m 3), .ref (m 4), .ref (m 5), .int (nI c), .ref (m 6), .ref (m 7), .ref (m 8), .int (q 6), .int (q 7), .int (q 8)])), (m 1, .inl (gy G 0, 120, .inl sg)), (m 2, .inl (gy G 0, 271, .inl rd)), (m 3, .inl (gy G 0, 271, .inl f)), (m 4, .inl (gy G 0, 271, .inl tr)), (m 5, .inl (gy G 0, 3794, .inl dy)), (m 6, .inl (gy G 0, 542, .inl kp)), (m 7, .inl (gy G 2, 2, .inl ik)), (m 8, .inl (gy G 0, 10, .inl tn))] (gRefP (fWhy ((n, sg), S, (c, H), sl) p v d h)) (fun (u : gRu) => (wR G m u)) 0 0 := by
  refine g_enterI (ty := .int) RX8 rfl (by decide) rfl (Nat.le_of_ble_eq_true rfl) ?_
  intro V E RET
  have hK := hO.1
  have hJ := hK.1
  have hI := hJ.1
  have hT1 := hO.2.2
  have hT2 : sN S 0 < 200000000 := by omega
  have hT : sN S 0 < 1000000000 := by omega
  have hb2 := gI2_b2 hJ
  have hX := hI
  obtain ⟨hP8, hn, hw, hW8, hs3, hs4, hs5, hs6, hs7, hs8, hb34⟩ := hX
  refine g_aload_n E dX8_whyNot_0 rfl 0 rfl ?_
  refine g_aload_n E dX8_whyNot_1 rfl 0 rfl ?_
  refine g_iload_n E dX8_whyNot_2 rfl 1 rfl ?_
  refine g_callVIe (F := [(m 1, .inl (gy G 0, 120, .inl sg)), (m 2, .inl (gy G 0, 271, .inl rd)), (m 4, .inl (gy G 0, 271, .inl tr)), (m 5, .inl (gy G 0, 3794, .inl dy)), (m 6, .inl (gy G 0, 542, .inl kp)), (m 7, .inl (gy G 2, 2, .inl ik)), (m 8, .inl (gy G 0, 10, .inl tn))]) (ws2 := [(m 0, .inr (8, [.int (q 0), .ref (m 1), .int (nI n), .int (q 2), .int (q 3), .int (q 4), .ref (m 2), .ref (m 3), .ref (m 4), .ref (m 5), .int (nI c), .ref (m 6), .ref (m 7), .ref (m 8), .int (q 6), .int (q 7), .int (q 8)])), (m 1, .inl (gy G 0, 120, .inl sg)), (m 2, .inl (gy G 0, 271, .inl rd)), (m 3, .inl (gy G 0, 271, .inl f)), (m 4, .inl (gy G 0, 271, .inl tr)), (m 5, .inl (gy G 0, 3794, .inl dy)), (m 6, .inl (gy G 0, 542, .inl kp)), (m 7, .inl (gy G 2, 2, .inl ik)), (m 8, .inl (gy G 0, 10, .inl tn))]) E (mX8_isPrisoner G m (qU (qU q 1 (nI n)) 5 (nI c)) S f p hI hT hRR) gX8_whyNot_X8_isPrisoner rfl hdX8_isPrisoner ⟨Nat.le_of_ble_eq_true rfl, Nat.le_of_ble_eq_true rfl⟩ 8 0 rfl rfl rfl (gPerm_ix [0, 3, 1, 2, 4, 5, 6, 7, 8] rfl rfl) rfl rfl (Nat.le_of_ble_eq_true rfl) dX8_whyNot_3 ⟨Nat.le_of_ble_eq_true rfl, Nat.le_of_ble_eq_true rfl⟩ (gPerm_ix [0, 2, 3, 1, 4, 5, 6, 7, 8] rfl rfl) ?_
  refine g_if_eqB (tgt := 16) (P := (¬ p < 0 ∧ ¬ nI (sN S 1) ≤ p)) E dX8_whyNot_6 (by decide) (fun c1 => ?_) (fun c1 => ?_)
  · skip
    refine g_iconst (v := 1) E dX8_whyNot_16 (by decide) ?_
    refine g_goto (tgt := 38) E dX8_whyNot_17 (by decide) ?_
    refine g_callVIe (F := [(m 1, .inl (gy G 0, 120, .inl sg)), (m 2, .inl (gy G 0, 271, .inl rd)), (m 3, .inl (gy G 0, 271, .inl f)), (m 4, .inl (gy G 0, 271, .inl tr)), (m 5, .inl (gy G 0, 3794, .inl dy)), (m 6, .inl (gy G 0, 542, .inl kp)), (m 7, .inl (gy G 2, 2, .inl ik)), (m 8, .inl (gy G 0, 10, .inl tn))]) (ws2 := [(m 0, .inr (8, [.int 1, .ref (m 1), .int (nI n), .int (q 2), .int (q 3), .int (q 4), .ref (m 2), .ref (m 3), .ref (m 4), .ref (m 5), .int (nI c), .ref (m 6), .ref (m 7), .ref (m 8), .int (q 6), .int (q 7), .int (q 8)])), (m 1, .inl (gy G 0, 120, .inl sg)), (m 2, .inl (gy G 0, 271, .inl rd)), (m 3, .inl (gy G 0, 271, .inl f)), (m 4, .inl (gy G 0, 271, .inl tr)), (m 5, .inl (gy G 0, 3794, .inl dy)), (m 6, .inl (gy G 0, 542, .inl kp)), (m 7, .inl (gy G 2, 2, .inl ik)), (m 8, .inl (gy G 0, 10, .inl tn))]) E (mX8_refused G m (qU (qU q 1 (nI n)) 5 (nI c)) 1) gX8_whyNot_X8_refused rfl hdX8_refused ⟨Nat.le_of_ble_eq_true rfl, Nat.le_of_ble_eq_true rfl⟩ 8 0 rfl rfl rfl (gPerm_ix [0, 1, 2, 3, 4, 5, 6, 7, 8] rfl rfl) rfl rfl (Nat.le_of_ble_eq_true rfl) dX8_whyNot_38 ⟨Nat.le_of_ble_eq_true rfl, Nat.le_of_ble_eq_true rfl⟩ (gPerm_ix [0, 1, 2, 3, 4, 5, 6, 7, 8] rfl rfl) ?_
    refine g_if_eq (tgt := 46) E dX8_whyNot_41 (by decide) (fun c => absurd c (by decide)) (fun _ => ?_)
    refine g_iconst (v := 0) E dX8_whyNot_44 (by decide) ?_
    exact RET _ _ _ (qU (qU (qU q 0 1) 1 (nI n)) 5 (nI c), sg, rd, f, tr, dy, kp, ik, tn) (gRefP_mk (k := 1) (A := ((n, sg), S, (c, H), sl)) (by rw [fWhy, if_neg (fun q => c1 q.1)]) rfl (fun e => absurd e (by decide)) ⟨rfl, rfl, hRR, rfl, hD, hKp⟩) rfl dX8_whyNot_45
  · skip
    obtain ⟨j, hj, rfl⟩ := gNat_of c1 (by omega)
    refine g_iload_n E dX8_whyNot_9 rfl 2 rfl ?_
    refine g_callSIe (F := [(m 0, .inr (8, [.int (q 0), .ref (m 1), .int (nI n), .int (q 2), .int (q 3), .int (q 4), .ref (m 2), .ref (m 3), .ref (m 4), .ref (m 5), .int (nI c), .ref (m 6), .ref (m 7), .ref (m 8), .int (q 6), .int (q 7), .int (q 8)])), (m 1, .inl (gy G 0, 120, .inl sg)), (m 2, .inl (gy G 0, 271, .inl rd)), (m 3, .inl (gy G 0, 271, .inl f)), (m 4, .inl (gy G 0, 271, .inl tr)), (m 5, .inl (gy G 0, 3794, .inl dy)), (m 6, .inl (gy G 0, 542, .inl kp)), (m 7, .inl (gy G 2, 2, .inl ik)), (m 8, .inl (gy G 0, 10, .inl tn))]) (ws2 := [(m 0, .inr (8, [.int (q 0), .ref (m 1), .int (nI n), .int (q 2), .int (q 3), .int (q 4), .ref (m 2), .ref (m 3), .ref (m 4), .ref (m 5), .int (nI c), .ref (m 6), .ref (m 7), .ref (m 8), .int (q 6), .int (q 7), .int (q 8)])), (m 1, .inl (gy G 0, 120, .inl sg)), (m 2, .inl (gy G 0, 271, .inl rd)), (m 3, .inl (gy G 0, 271, .inl f)), (m 4, .inl (gy G 0, 271, .inl tr)), (m 5, .inl (gy G 0, 3794, .inl dy)), (m 6, .inl (gy G 0, 542, .inl kp)), (m 7, .inl (gy G 2, 2, .inl ik)), (m 8, .inl (gy G 0, 10, .inl tn))]) E (mX8_isVisitor G v) gX8_whyNot_X8_isVisitor rfl hnX8_isVisitor ⟨Nat.le_of_ble_eq_true rfl, Nat.le_of_ble_eq_true rfl⟩ (gPerm_ix [0, 1, 2, 3, 4, 5, 6, 7, 8] rfl rfl) rfl rfl (Nat.le_of_ble_eq_true rfl) dX8_whyNot_10 ⟨Nat.le_of_ble_eq_true rfl, Nat.le_of_ble_eq_true rfl⟩ (gPerm_ix [0, 1, 2, 3, 4, 5, 6, 7, 8] rfl rfl) ?_
    refine g_if_neB (tgt := 20) (P := (¬ v < 0 ∧ ¬ 9 < v)) E dX8_whyNot_13 (by decide) (fun c2 => ?_) (fun c2 => ?_)
    · skip
      obtain ⟨e, he, rfl⟩ := gNat_ofl (m := 9) c2 rfl rfl (by decide)
      refine g_aload_n E dX8_whyNot_20 rfl 0 rfl ?_
      refine g_get E uX8_whyNot_RX8 0 rfl rfl 7 (by decide) kX8_whyNot_16 rfl rfl dX8_whyNot_21 ?_
      refine g_iload_n E dX8_whyNot_24 rfl 3 rfl ?_
      refine g_iload E dX8_whyNot_25 4 rfl ?_
      refine g_callSIe (F := [(m 0, .inr (8, [.int (q 0), .ref (m 1), .int (nI n), .int (q 2), .int (q 3), .int (q 4), .ref (m 2), .ref (m 3), .ref (m 4), .ref (m 5), .int (nI c), .ref (m 6), .ref (m 7), .ref (m 8), .int (q 6), .int (q 7), .int (q 8)])), (m 1, .inl (gy G 0, 120, .inl sg)), (m 2, .inl (gy G 0, 271, .inl rd)), (m 4, .inl (gy G 0, 271, .inl tr)), (m 5, .inl (gy G 0, 3794, .inl dy)), (m 6, .inl (gy G 0, 542, .inl kp)), (m 7, .inl (gy G 2, 2, .inl ik)), (m 8, .inl (gy G 0, 10, .inl tn))]) (ws2 := [(m 0, .inr (8, [.int (q 0), .ref (m 1), .int (nI n), .int (q 2), .int (q 3), .int (q 4), .ref (m 2), .ref (m 3), .ref (m 4), .ref (m 5), .int (nI c), .ref (m 6), .ref (m 7), .ref (m 8), .int (q 6), .int (q 7), .int (q 8)])), (m 1, .inl (gy G 0, 120, .inl sg)), (m 2, .inl (gy G 0, 271, .inl rd)), (m 3, .inl (gy G 0, 271, .inl f)), (m 4, .inl (gy G 0, 271, .inl tr)), (m 5, .inl (gy G 0, 3794, .inl dy)), (m 6, .inl (gy G 0, 542, .inl kp)), (m 7, .inl (gy G 2, 2, .inl ik)), (m 8, .inl (gy G 0, 10, .inl tn))]) E (mX8_isTime G (m 3) S f d h (gI1_r hI) hT hRR ) gX8_whyNot_X8_isTime rfl hnX8_isTime ⟨Nat.le_of_ble_eq_true rfl, Nat.le_of_ble_eq_true rfl⟩ (gPerm_ix [3, 0, 1, 2, 4, 5, 6, 7, 8] rfl rfl) rfl rfl (Nat.le_of_ble_eq_true rfl) dX8_whyNot_27 ⟨Nat.le_of_ble_eq_true rfl, Nat.le_of_ble_eq_true rfl⟩ (gPerm_ix [1, 2, 3, 0, 4, 5, 6, 7, 8] rfl rfl) ?_
      refine g_if_eqB (tgt := 37) (P := ((¬ d < nI (sN S 0) ∧ ¬ 9999 < d) ∧ (¬ h < 0 ∧ ¬ 7 < h))) E dX8_whyNot_30 (by decide) (fun c3 => ?_) (fun c3 => ?_)
      · skip
        refine g_iconst (v := 2) E dX8_whyNot_37 (by decide) ?_
        refine g_callVIe (F := [(m 1, .inl (gy G 0, 120, .inl sg)), (m 2, .inl (gy G 0, 271, .inl rd)), (m 3, .inl (gy G 0, 271, .inl f)), (m 4, .inl (gy G 0, 271, .inl tr)), (m 5, .inl (gy G 0, 3794, .inl dy)), (m 6, .inl (gy G 0, 542, .inl kp)), (m 7, .inl (gy G 2, 2, .inl ik)), (m 8, .inl (gy G 0, 10, .inl tn))]) (ws2 := [(m 0, .inr (8, [.int 2, .ref (m 1), .int (nI n), .int (q 2), .int (q 3), .int (q 4), .ref (m 2), .ref (m 3), .ref (m 4), .ref (m 5), .int (nI c), .ref (m 6), .ref (m 7), .ref (m 8), .int (q 6), .int (q 7), .int (q 8)])), (m 1, .inl (gy G 0, 120, .inl sg)), (m 2, .inl (gy G 0, 271, .inl rd)), (m 3, .inl (gy G 0, 271, .inl f)), (m 4, .inl (gy G 0, 271, .inl tr)), (m 5, .inl (gy G 0, 3794, .inl dy)), (m 6, .inl (gy G 0, 542, .inl kp)), (m 7, .inl (gy G 2, 2, .inl ik)), (m 8, .inl (gy G 0, 10, .inl tn))]) E (mX8_refused G m (qU (qU q 1 (nI n)) 5 (nI c)) 2) gX8_whyNot_X8_refused rfl hdX8_refused ⟨Nat.le_of_ble_eq_true rfl, Nat.le_of_ble_eq_true rfl⟩ 8 0 rfl rfl rfl (gPerm_ix [0, 1, 2, 3, 4, 5, 6, 7, 8] rfl rfl) rfl rfl (Nat.le_of_ble_eq_true rfl) dX8_whyNot_38 ⟨Nat.le_of_ble_eq_true rfl, Nat.le_of_ble_eq_true rfl⟩ (gPerm_ix [0, 1, 2, 3, 4, 5, 6, 7, 8] rfl rfl) ?_
        refine g_if_eq (tgt := 46) E dX8_whyNot_41 (by decide) (fun c => absurd c (by decide)) (fun _ => ?_)
        refine g_iconst (v := 0) E dX8_whyNot_44 (by decide) ?_
        exact RET _ _ _ (qU (qU (qU q 0 2) 1 (nI n)) 5 (nI c), sg, rd, f, tr, dy, kp, ik, tn) (gRefP_mk (k := 2) (A := ((n, sg), S, (c, H), sl)) (by rw [fWhy, if_pos (show _ ∧ _ from ⟨c1, gV910.mp c2⟩), if_neg (fun q => c3 (gTm78.mpr q))]) rfl (fun e => absurd e (by decide)) ⟨rfl, rfl, hRR, rfl, hD, hKp⟩) rfl dX8_whyNot_45
      · skip
        obtain ⟨x, hx, rfl⟩ := nI_of (gDnn c3.1.1 hT)
        have hx9 := gD9 hx c3.1.2
        obtain ⟨y, hy, rfl⟩ := gNat_ofl (m := 7) c3.2 rfl rfl (by decide)
        have q4 := gRA_le S j e x y
        refine g_iconst (v := 0) E dX8_whyNot_33 (by decide) ?_
        refine g_goto (tgt := 38) E dX8_whyNot_34 (by decide) ?_
        refine g_callVIe (F := [(m 1, .inl (gy G 0, 120, .inl sg)), (m 2, .inl (gy G 0, 271, .inl rd)), (m 3, .inl (gy G 0, 271, .inl f)), (m 4, .inl (gy G 0, 271, .inl tr)), (m 5, .inl (gy G 0, 3794, .inl dy)), (m 6, .inl (gy G 0, 542, .inl kp)), (m 7, .inl (gy G 2, 2, .inl ik)), (m 8, .inl (gy G 0, 10, .inl tn))]) (ws2 := [(m 0, .inr (8, [.int 0, .ref (m 1), .int (nI n), .int (q 2), .int (q 3), .int (q 4), .ref (m 2), .ref (m 3), .ref (m 4), .ref (m 5), .int (nI c), .ref (m 6), .ref (m 7), .ref (m 8), .int (q 6), .int (q 7), .int (q 8)])), (m 1, .inl (gy G 0, 120, .inl sg)), (m 2, .inl (gy G 0, 271, .inl rd)), (m 3, .inl (gy G 0, 271, .inl f)), (m 4, .inl (gy G 0, 271, .inl tr)), (m 5, .inl (gy G 0, 3794, .inl dy)), (m 6, .inl (gy G 0, 542, .inl kp)), (m 7, .inl (gy G 2, 2, .inl ik)), (m 8, .inl (gy G 0, 10, .inl tn))]) E (mX8_refused G m (qU (qU q 1 (nI n)) 5 (nI c)) 0) gX8_whyNot_X8_refused rfl hdX8_refused ⟨Nat.le_of_ble_eq_true rfl, Nat.le_of_ble_eq_true rfl⟩ 8 0 rfl rfl rfl (gPerm_ix [0, 1, 2, 3, 4, 5, 6, 7, 8] rfl rfl) rfl rfl (Nat.le_of_ble_eq_true rfl) dX8_whyNot_38 ⟨Nat.le_of_ble_eq_true rfl, Nat.le_of_ble_eq_true rfl⟩ (gPerm_ix [0, 1, 2, 3, 4, 5, 6, 7, 8] rfl rfl) ?_
        refine g_if_eq (tgt := 46) E dX8_whyNot_41 (by decide) (fun _ => ?_) (fun c => absurd c (by decide))
        refine g_aload_n E dX8_whyNot_46 rfl 0 rfl ?_
        refine g_get E uX8_whyNot_RX8 0 rfl rfl 7 (by decide) kX8_whyNot_16 rfl rfl dX8_whyNot_47 ?_
        refine g_iload_n E dX8_whyNot_50 rfl 1 rfl ?_
        refine g_iload_n E dX8_whyNot_51 rfl 2 rfl ?_
        refine g_iload_n E dX8_whyNot_52 rfl 3 rfl ?_
        refine g_iload E dX8_whyNot_53 4 rfl ?_
        refine g_callSIe (F := [(m 0, .inr (8, [.int 0, .ref (m 1), .int (nI n), .int (q 2), .int (q 3), .int (q 4), .ref (m 2), .ref (m 3), .ref (m 4), .ref (m 5), .int (nI c), .ref (m 6), .ref (m 7), .ref (m 8), .int (q 6), .int (q 7), .int (q 8)])), (m 1, .inl (gy G 0, 120, .inl sg)), (m 2, .inl (gy G 0, 271, .inl rd)), (m 4, .inl (gy G 0, 271, .inl tr)), (m 5, .inl (gy G 0, 3794, .inl dy)), (m 6, .inl (gy G 0, 542, .inl kp)), (m 7, .inl (gy G 2, 2, .inl ik)), (m 8, .inl (gy G 0, 10, .inl tn))]) (ws2 := [(m 0, .inr (8, [.int 0, .ref (m 1), .int (nI n), .int (q 2), .int (q 3), .int (q 4), .ref (m 2), .ref (m 3), .ref (m 4), .ref (m 5), .int (nI c), .ref (m 6), .ref (m 7), .ref (m 8), .int (q 6), .int (q 7), .int (q 8)])), (m 1, .inl (gy G 0, 120, .inl sg)), (m 2, .inl (gy G 0, 271, .inl rd)), (m 3, .inl (gy G 0, 271, .inl f)), (m 4, .inl (gy G 0, 271, .inl tr)), (m 5, .inl (gy G 0, 3794, .inl dy)), (m 6, .inl (gy G 0, 542, .inl kp)), (m 7, .inl (gy G 2, 2, .inl ik)), (m 8, .inl (gy G 0, 10, .inl tn))]) E (g_resI (congrArg nI (gWhyR_eq (d := x) (h := y) (gI1_r hI) hb2 (p := j) (v := e) (by omega) (by omega))) (mX8_why G (m 3) S f j e x y (gI1_r hI) hT hRR (by omega) (by omega) (by omega) (by omega))) gX8_whyNot_X8_why rfl hnX8_why ⟨Nat.le_of_ble_eq_true rfl, Nat.le_of_ble_eq_true rfl⟩ (gPerm_ix [3, 0, 1, 2, 4, 5, 6, 7, 8] rfl rfl) rfl rfl (Nat.le_of_ble_eq_true rfl) dX8_whyNot_55 ⟨Nat.le_of_ble_eq_true rfl, Nat.le_of_ble_eq_true rfl⟩ (gPerm_ix [1, 2, 3, 0, 4, 5, 6, 7, 8] rfl rfl) ?_
        exact RET _ _ _ (qU (qU (qU q 0 0) 1 (nI n)) 5 (nI c), sg, rd, f, tr, dy, kp, ik, tn) (gRefP_mk (k := 0) (A := ((n, sg), S, (c, H), sl)) (by rw [fWhy, if_pos (show _ ∧ _ from ⟨c1, gV910.mp c2⟩), if_pos (gTm78.mp c3), nI_clamp (by omega), nI_clamp (by omega), nI_clamp (by omega), nI_clamp (by omega)]) rfl (fun _ => rfl) ⟨rfl, rfl, hRR, rfl, hD, hKp⟩) rfl dX8_whyNot_58
    · skip
      refine g_iconst (v := 1) E dX8_whyNot_16 (by decide) ?_
      refine g_goto (tgt := 38) E dX8_whyNot_17 (by decide) ?_
      refine g_callVIe (F := [(m 1, .inl (gy G 0, 120, .inl sg)), (m 2, .inl (gy G 0, 271, .inl rd)), (m 3, .inl (gy G 0, 271, .inl f)), (m 4, .inl (gy G 0, 271, .inl tr)), (m 5, .inl (gy G 0, 3794, .inl dy)), (m 6, .inl (gy G 0, 542, .inl kp)), (m 7, .inl (gy G 2, 2, .inl ik)), (m 8, .inl (gy G 0, 10, .inl tn))]) (ws2 := [(m 0, .inr (8, [.int 1, .ref (m 1), .int (nI n), .int (q 2), .int (q 3), .int (q 4), .ref (m 2), .ref (m 3), .ref (m 4), .ref (m 5), .int (nI c), .ref (m 6), .ref (m 7), .ref (m 8), .int (q 6), .int (q 7), .int (q 8)])), (m 1, .inl (gy G 0, 120, .inl sg)), (m 2, .inl (gy G 0, 271, .inl rd)), (m 3, .inl (gy G 0, 271, .inl f)), (m 4, .inl (gy G 0, 271, .inl tr)), (m 5, .inl (gy G 0, 3794, .inl dy)), (m 6, .inl (gy G 0, 542, .inl kp)), (m 7, .inl (gy G 2, 2, .inl ik)), (m 8, .inl (gy G 0, 10, .inl tn))]) E (mX8_refused G m (qU (qU q 1 (nI n)) 5 (nI c)) 1) gX8_whyNot_X8_refused rfl hdX8_refused ⟨Nat.le_of_ble_eq_true rfl, Nat.le_of_ble_eq_true rfl⟩ 8 0 rfl rfl rfl (gPerm_ix [0, 1, 2, 3, 4, 5, 6, 7, 8] rfl rfl) rfl rfl (Nat.le_of_ble_eq_true rfl) dX8_whyNot_38 ⟨Nat.le_of_ble_eq_true rfl, Nat.le_of_ble_eq_true rfl⟩ (gPerm_ix [0, 1, 2, 3, 4, 5, 6, 7, 8] rfl rfl) ?_
      refine g_if_eq (tgt := 46) E dX8_whyNot_41 (by decide) (fun c => absurd c (by decide)) (fun _ => ?_)
      refine g_iconst (v := 0) E dX8_whyNot_44 (by decide) ?_
      exact RET _ _ _ (qU (qU (qU q 0 1) 1 (nI n)) 5 (nI c), sg, rd, f, tr, dy, kp, ik, tn) (gRefP_mk (k := 1) (A := ((n, sg), S, (c, H), sl)) (by rw [fWhy, if_neg (fun q => c2 (gV910.mpr q.2))]) rfl (fun e => absurd e (by decide)) ⟨rfl, rfl, hRR, rfl, hD, hKp⟩) rfl dX8_whyNot_45

set_option maxHeartbeats 4000000 in
set_option maxRecDepth 100000 in
theorem mX8_firstTime (G : gG) (m : Nat → Nat) (q : Nat → Int32) (n c : Nat) (sg : Nat → Int32) (S : gSt) (H : Nat → gSt) (sl : Nat → Option gSt) (rd f tr dy kp ik tn : Nat → Int32) (p v : Int32) (hn12 : n ≤ 120) (hO : gOk 50000 S) (hc14 : c ≤ 14) (hHo : gHok 50000 c H) (hRR : RR S f) (hD : gDry c H dy) (hKp : gKpt sl kp ik) : CI G yX8_firstTime wsX8_firstTime 5 119 [.ref (m 0), .int p, .int v] [(m 0, .inr (8, [.int (q 0), .ref (m 1), .int (nI n), .int (q 2), .int (q 3), .int (q 4), .ref (m 2), .ref (m 3), .ref (m 4), .ref (m 5), .int (nI c), .ref (m 6), .ref (m 7), .ref (m 8), .int (q 6), .int (q 7), .int (q 8)])), (m 1, .inl (gy G 0, 120, .inl sg)), (m 2, .inl (gy G 0, 271, .inl rd)), (m 3, .inl (gy G 0, 271, .inl f)), (m 4, .inl (gy G 0, 271, .inl tr)), (m 5, .inl (gy G 0, 3794, .inl dy)), (m 6, .inl (gy G 0, 542, .inl kp)), (m 7, .inl (gy G 2, 2, .inl ik)), (m 8, .inl (gy G 0, 10, .inl tn))] (gRefP (fFirst ((n, sg), S, (c, H), sl) p v)) (fun (u : gRu) => (wR G m u)) 0 0 := by
  refine g_enterI (ty := .int) RX8 rfl (by decide) rfl (Nat.le_of_ble_eq_true rfl) ?_
  intro V E RET
  have hK := hO.1
  have hJ := hK.1
  have hI := hJ.1
  have hT1 := hO.2.2
  have hT2 : sN S 0 < 200000000 := by omega
  have hT : sN S 0 < 1000000000 := by omega
  have hb2 := gI2_b2 hJ
  have hX := hI
  obtain ⟨hP8, hn, hw, hW8, hs3, hs4, hs5, hs6, hs7, hs8, hb34⟩ := hX
  refine g_aload_n E dX8_firstTime_0 rfl 0 rfl ?_
  refine g_aload_n E dX8_firstTime_1 rfl 0 rfl ?_
  refine g_iload_n E dX8_firstTime_2 rfl 1 rfl ?_
  refine g_callVIe (F := [(m 1, .inl (gy G 0, 120, .inl sg)), (m 2, .inl (gy G 0, 271, .inl rd)), (m 4, .inl (gy G 0, 271, .inl tr)), (m 5, .inl (gy G 0, 3794, .inl dy)), (m 6, .inl (gy G 0, 542, .inl kp)), (m 7, .inl (gy G 2, 2, .inl ik)), (m 8, .inl (gy G 0, 10, .inl tn))]) (ws2 := [(m 0, .inr (8, [.int (q 0), .ref (m 1), .int (nI n), .int (q 2), .int (q 3), .int (q 4), .ref (m 2), .ref (m 3), .ref (m 4), .ref (m 5), .int (nI c), .ref (m 6), .ref (m 7), .ref (m 8), .int (q 6), .int (q 7), .int (q 8)])), (m 1, .inl (gy G 0, 120, .inl sg)), (m 2, .inl (gy G 0, 271, .inl rd)), (m 3, .inl (gy G 0, 271, .inl f)), (m 4, .inl (gy G 0, 271, .inl tr)), (m 5, .inl (gy G 0, 3794, .inl dy)), (m 6, .inl (gy G 0, 542, .inl kp)), (m 7, .inl (gy G 2, 2, .inl ik)), (m 8, .inl (gy G 0, 10, .inl tn))]) E (mX8_isPrisoner G m (qU (qU q 1 (nI n)) 5 (nI c)) S f p hI hT hRR) gX8_firstTime_X8_isPrisoner rfl hdX8_isPrisoner ⟨Nat.le_of_ble_eq_true rfl, Nat.le_of_ble_eq_true rfl⟩ 8 0 rfl rfl rfl (gPerm_ix [0, 3, 1, 2, 4, 5, 6, 7, 8] rfl rfl) rfl rfl (Nat.le_of_ble_eq_true rfl) dX8_firstTime_3 ⟨Nat.le_of_ble_eq_true rfl, Nat.le_of_ble_eq_true rfl⟩ (gPerm_ix [0, 2, 3, 1, 4, 5, 6, 7, 8] rfl rfl) ?_
  refine g_if_eqB (tgt := 20) (P := (¬ p < 0 ∧ ¬ nI (sN S 1) ≤ p)) E dX8_firstTime_6 (by decide) (fun c1 => ?_) (fun c1 => ?_)
  · skip
    refine g_iconst (v := 1) E dX8_firstTime_20 (by decide) ?_
    refine g_callVIe (F := [(m 1, .inl (gy G 0, 120, .inl sg)), (m 2, .inl (gy G 0, 271, .inl rd)), (m 3, .inl (gy G 0, 271, .inl f)), (m 4, .inl (gy G 0, 271, .inl tr)), (m 5, .inl (gy G 0, 3794, .inl dy)), (m 6, .inl (gy G 0, 542, .inl kp)), (m 7, .inl (gy G 2, 2, .inl ik)), (m 8, .inl (gy G 0, 10, .inl tn))]) (ws2 := [(m 0, .inr (8, [.int 1, .ref (m 1), .int (nI n), .int (q 2), .int (q 3), .int (q 4), .ref (m 2), .ref (m 3), .ref (m 4), .ref (m 5), .int (nI c), .ref (m 6), .ref (m 7), .ref (m 8), .int (q 6), .int (q 7), .int (q 8)])), (m 1, .inl (gy G 0, 120, .inl sg)), (m 2, .inl (gy G 0, 271, .inl rd)), (m 3, .inl (gy G 0, 271, .inl f)), (m 4, .inl (gy G 0, 271, .inl tr)), (m 5, .inl (gy G 0, 3794, .inl dy)), (m 6, .inl (gy G 0, 542, .inl kp)), (m 7, .inl (gy G 2, 2, .inl ik)), (m 8, .inl (gy G 0, 10, .inl tn))]) E (mX8_refused G m (qU (qU q 1 (nI n)) 5 (nI c)) 1) gX8_firstTime_X8_refused rfl hdX8_refused ⟨Nat.le_of_ble_eq_true rfl, Nat.le_of_ble_eq_true rfl⟩ 8 0 rfl rfl rfl (gPerm_ix [0, 1, 2, 3, 4, 5, 6, 7, 8] rfl rfl) rfl rfl (Nat.le_of_ble_eq_true rfl) dX8_firstTime_21 ⟨Nat.le_of_ble_eq_true rfl, Nat.le_of_ble_eq_true rfl⟩ (gPerm_ix [0, 1, 2, 3, 4, 5, 6, 7, 8] rfl rfl) ?_
    refine g_if_eq (tgt := 29) E dX8_firstTime_24 (by decide) (fun c => absurd c (by decide)) (fun _ => ?_)
    refine g_iconst (v := 0) E dX8_firstTime_27 (by decide) ?_
    exact RET _ _ _ (qU (qU (qU q 0 1) 1 (nI n)) 5 (nI c), sg, rd, f, tr, dy, kp, ik, tn) (gRefP_mk (k := 1) (A := ((n, sg), S, (c, H), sl)) (by rw [fFirst, if_neg (fun q => c1 q.1)]) rfl (fun e => absurd e (by decide)) ⟨rfl, rfl, hRR, rfl, hD, hKp⟩) rfl dX8_firstTime_28
  · skip
    obtain ⟨j, hj, rfl⟩ := gNat_of c1 (by omega)
    refine g_iload_n E dX8_firstTime_9 rfl 2 rfl ?_
    refine g_callSIe (F := [(m 0, .inr (8, [.int (q 0), .ref (m 1), .int (nI n), .int (q 2), .int (q 3), .int (q 4), .ref (m 2), .ref (m 3), .ref (m 4), .ref (m 5), .int (nI c), .ref (m 6), .ref (m 7), .ref (m 8), .int (q 6), .int (q 7), .int (q 8)])), (m 1, .inl (gy G 0, 120, .inl sg)), (m 2, .inl (gy G 0, 271, .inl rd)), (m 3, .inl (gy G 0, 271, .inl f)), (m 4, .inl (gy G 0, 271, .inl tr)), (m 5, .inl (gy G 0, 3794, .inl dy)), (m 6, .inl (gy G 0, 542, .inl kp)), (m 7, .inl (gy G 2, 2, .inl ik)), (m 8, .inl (gy G 0, 10, .inl tn))]) (ws2 := [(m 0, .inr (8, [.int (q 0), .ref (m 1), .int (nI n), .int (q 2), .int (q 3), .int (q 4), .ref (m 2), .ref (m 3), .ref (m 4), .ref (m 5), .int (nI c), .ref (m 6), .ref (m 7), .ref (m 8), .int (q 6), .int (q 7), .int (q 8)])), (m 1, .inl (gy G 0, 120, .inl sg)), (m 2, .inl (gy G 0, 271, .inl rd)), (m 3, .inl (gy G 0, 271, .inl f)), (m 4, .inl (gy G 0, 271, .inl tr)), (m 5, .inl (gy G 0, 3794, .inl dy)), (m 6, .inl (gy G 0, 542, .inl kp)), (m 7, .inl (gy G 2, 2, .inl ik)), (m 8, .inl (gy G 0, 10, .inl tn))]) E (mX8_isVisitor G v) gX8_firstTime_X8_isVisitor rfl hnX8_isVisitor ⟨Nat.le_of_ble_eq_true rfl, Nat.le_of_ble_eq_true rfl⟩ (gPerm_ix [0, 1, 2, 3, 4, 5, 6, 7, 8] rfl rfl) rfl rfl (Nat.le_of_ble_eq_true rfl) dX8_firstTime_10 ⟨Nat.le_of_ble_eq_true rfl, Nat.le_of_ble_eq_true rfl⟩ (gPerm_ix [0, 1, 2, 3, 4, 5, 6, 7, 8] rfl rfl) ?_
    refine g_if_eqB (tgt := 20) (P := (¬ v < 0 ∧ ¬ 9 < v)) E dX8_firstTime_13 (by decide) (fun c2 => ?_) (fun c2 => ?_)
    · skip
      refine g_iconst (v := 1) E dX8_firstTime_20 (by decide) ?_
      refine g_callVIe (F := [(m 1, .inl (gy G 0, 120, .inl sg)), (m 2, .inl (gy G 0, 271, .inl rd)), (m 3, .inl (gy G 0, 271, .inl f)), (m 4, .inl (gy G 0, 271, .inl tr)), (m 5, .inl (gy G 0, 3794, .inl dy)), (m 6, .inl (gy G 0, 542, .inl kp)), (m 7, .inl (gy G 2, 2, .inl ik)), (m 8, .inl (gy G 0, 10, .inl tn))]) (ws2 := [(m 0, .inr (8, [.int 1, .ref (m 1), .int (nI n), .int (q 2), .int (q 3), .int (q 4), .ref (m 2), .ref (m 3), .ref (m 4), .ref (m 5), .int (nI c), .ref (m 6), .ref (m 7), .ref (m 8), .int (q 6), .int (q 7), .int (q 8)])), (m 1, .inl (gy G 0, 120, .inl sg)), (m 2, .inl (gy G 0, 271, .inl rd)), (m 3, .inl (gy G 0, 271, .inl f)), (m 4, .inl (gy G 0, 271, .inl tr)), (m 5, .inl (gy G 0, 3794, .inl dy)), (m 6, .inl (gy G 0, 542, .inl kp)), (m 7, .inl (gy G 2, 2, .inl ik)), (m 8, .inl (gy G 0, 10, .inl tn))]) E (mX8_refused G m (qU (qU q 1 (nI n)) 5 (nI c)) 1) gX8_firstTime_X8_refused rfl hdX8_refused ⟨Nat.le_of_ble_eq_true rfl, Nat.le_of_ble_eq_true rfl⟩ 8 0 rfl rfl rfl (gPerm_ix [0, 1, 2, 3, 4, 5, 6, 7, 8] rfl rfl) rfl rfl (Nat.le_of_ble_eq_true rfl) dX8_firstTime_21 ⟨Nat.le_of_ble_eq_true rfl, Nat.le_of_ble_eq_true rfl⟩ (gPerm_ix [0, 1, 2, 3, 4, 5, 6, 7, 8] rfl rfl) ?_
      refine g_if_eq (tgt := 29) E dX8_firstTime_24 (by decide) (fun c => absurd c (by decide)) (fun _ => ?_)
      refine g_iconst (v := 0) E dX8_firstTime_27 (by decide) ?_
      exact RET _ _ _ (qU (qU (qU q 0 1) 1 (nI n)) 5 (nI c), sg, rd, f, tr, dy, kp, ik, tn) (gRefP_mk (k := 1) (A := ((n, sg), S, (c, H), sl)) (by rw [fFirst, if_neg (fun q => c2 (gV910.mpr q.2))]) rfl (fun e => absurd e (by decide)) ⟨rfl, rfl, hRR, rfl, hD, hKp⟩) rfl dX8_firstTime_28
    · skip
      obtain ⟨e, he, rfl⟩ := gNat_ofl (m := 9) c2 rfl rfl (by decide)
      refine g_iconst (v := 0) E dX8_firstTime_16 (by decide) ?_
      refine g_goto (tgt := 21) E dX8_firstTime_17 (by decide) ?_
      refine g_callVIe (F := [(m 1, .inl (gy G 0, 120, .inl sg)), (m 2, .inl (gy G 0, 271, .inl rd)), (m 3, .inl (gy G 0, 271, .inl f)), (m 4, .inl (gy G 0, 271, .inl tr)), (m 5, .inl (gy G 0, 3794, .inl dy)), (m 6, .inl (gy G 0, 542, .inl kp)), (m 7, .inl (gy G 2, 2, .inl ik)), (m 8, .inl (gy G 0, 10, .inl tn))]) (ws2 := [(m 0, .inr (8, [.int 0, .ref (m 1), .int (nI n), .int (q 2), .int (q 3), .int (q 4), .ref (m 2), .ref (m 3), .ref (m 4), .ref (m 5), .int (nI c), .ref (m 6), .ref (m 7), .ref (m 8), .int (q 6), .int (q 7), .int (q 8)])), (m 1, .inl (gy G 0, 120, .inl sg)), (m 2, .inl (gy G 0, 271, .inl rd)), (m 3, .inl (gy G 0, 271, .inl f)), (m 4, .inl (gy G 0, 271, .inl tr)), (m 5, .inl (gy G 0, 3794, .inl dy)), (m 6, .inl (gy G 0, 542, .inl kp)), (m 7, .inl (gy G 2, 2, .inl ik)), (m 8, .inl (gy G 0, 10, .inl tn))]) E (mX8_refused G m (qU (qU q 1 (nI n)) 5 (nI c)) 0) gX8_firstTime_X8_refused rfl hdX8_refused ⟨Nat.le_of_ble_eq_true rfl, Nat.le_of_ble_eq_true rfl⟩ 8 0 rfl rfl rfl (gPerm_ix [0, 1, 2, 3, 4, 5, 6, 7, 8] rfl rfl) rfl rfl (Nat.le_of_ble_eq_true rfl) dX8_firstTime_21 ⟨Nat.le_of_ble_eq_true rfl, Nat.le_of_ble_eq_true rfl⟩ (gPerm_ix [0, 1, 2, 3, 4, 5, 6, 7, 8] rfl rfl) ?_
      refine g_if_eq (tgt := 29) E dX8_firstTime_24 (by decide) (fun _ => ?_) (fun c => absurd c (by decide))
      refine g_aload_n E dX8_firstTime_29 rfl 0 rfl ?_
      refine g_get E uX8_firstTime_RX8 0 rfl rfl 7 (by decide) kX8_firstTime_16 rfl rfl dX8_firstTime_30 ?_
      refine g_iload_n E dX8_firstTime_33 rfl 1 rfl ?_
      refine g_iload_n E dX8_firstTime_34 rfl 2 rfl ?_
      refine g_bipush (v := 60) E dX8_firstTime_35 (by decide) ?_
      refine g_callSIe (F := [(m 0, .inr (8, [.int 0, .ref (m 1), .int (nI n), .int (q 2), .int (q 3), .int (q 4), .ref (m 2), .ref (m 3), .ref (m 4), .ref (m 5), .int (nI c), .ref (m 6), .ref (m 7), .ref (m 8), .int (q 6), .int (q 7), .int (q 8)])), (m 1, .inl (gy G 0, 120, .inl sg)), (m 2, .inl (gy G 0, 271, .inl rd)), (m 4, .inl (gy G 0, 271, .inl tr)), (m 5, .inl (gy G 0, 3794, .inl dy)), (m 6, .inl (gy G 0, 542, .inl kp)), (m 7, .inl (gy G 2, 2, .inl ik)), (m 8, .inl (gy G 0, 10, .inl tn))]) (ws2 := [(m 0, .inr (8, [.int 0, .ref (m 1), .int (nI n), .int (q 2), .int (q 3), .int (q 4), .ref (m 2), .ref (m 3), .ref (m 4), .ref (m 5), .int (nI c), .ref (m 6), .ref (m 7), .ref (m 8), .int (q 6), .int (q 7), .int (q 8)])), (m 1, .inl (gy G 0, 120, .inl sg)), (m 2, .inl (gy G 0, 271, .inl rd)), (m 3, .inl (gy G 0, 271, .inl f)), (m 4, .inl (gy G 0, 271, .inl tr)), (m 5, .inl (gy G 0, 3794, .inl dy)), (m 6, .inl (gy G 0, 542, .inl kp)), (m 7, .inl (gy G 2, 2, .inl ik)), (m 8, .inl (gy G 0, 10, .inl tn))]) E (mX8_firstIn G (m 3) S f j e 60 (gI1_r hI) hT hRR (by omega) (by omega) (by omega) hb2) gX8_firstTime_X8_firstIn rfl hnX8_firstIn ⟨Nat.le_of_ble_eq_true rfl, Nat.le_of_ble_eq_true rfl⟩ (gPerm_ix [3, 0, 1, 2, 4, 5, 6, 7, 8] rfl rfl) rfl rfl (Nat.le_of_ble_eq_true rfl) dX8_firstTime_37 ⟨Nat.le_of_ble_eq_true rfl, Nat.le_of_ble_eq_true rfl⟩ (gPerm_ix [1, 2, 3, 0, 4, 5, 6, 7, 8] rfl rfl) ?_
      exact RET _ _ _ (qU (qU (qU q 0 0) 1 (nI n)) 5 (nI c), sg, rd, f, tr, dy, kp, ik, tn) (gRefP_mk (k := 0) (A := ((n, sg), S, (c, H), sl)) (by rw [fFirst, if_pos (show _ ∧ _ from ⟨c1, gV910.mp c2⟩), nI_clamp (by omega), nI_clamp (by omega)]) rfl (fun _ => rfl) ⟨rfl, rfl, hRR, rfl, hD, hKp⟩) rfl dX8_firstTime_40

set_option maxHeartbeats 4000000 in
set_option maxRecDepth 100000 in
theorem mX8_coming (G : gG) (m : Nat → Nat) (q : Nat → Int32) (n c : Nat) (sg : Nat → Int32) (S : gSt) (H : Nat → gSt) (sl : Nat → Option gSt) (rd f tr dy kp ik tn : Nat → Int32) (z y : Int32) (hn12 : n ≤ 120) (hO : gOk 50000 S) (hc14 : c ≤ 14) (hHo : gHok 50000 c H) (hRR : RR S f) (hD : gDry c H dy) (hKp : gKpt sl kp ik) : CI G yX8_coming wsX8_coming 8 190 [.ref (m 0), .int z, .int y] [(m 0, .inr (8, [.int (q 0), .ref (m 1), .int (nI n), .int (q 2), .int (q 3), .int (q 4), .ref (m 2), .ref (m 3), .ref (m 4), .ref (m 5), .int (nI c), .ref (m 6), .ref (m 7), .ref (m 8), .int (q 6), .int (q 7), .int (q 8)])), (m 1, .inl (gy G 0, 120, .inl sg)), (m 2, .inl (gy G 0, 271, .inl rd)), (m 3, .inl (gy G 0, 271, .inl f)), (m 4, .inl (gy G 0, 271, .inl tr)), (m 5, .inl (gy G 0, 3794, .inl dy)), (m 6, .inl (gy G 0, 542, .inl kp)), (m 7, .inl (gy G 2, 2, .inl ik)), (m 8, .inl (gy G 0, 10, .inl tn))] (gRefP (fComing ((n, sg), S, (c, H), sl) z y)) (fun (u : gRu) => (wR G m u)) 0 0 := by
  refine g_enterI (ty := .int) RX8 rfl (by decide) rfl (Nat.le_of_ble_eq_true rfl) ?_
  intro V E RET
  have hK := hO.1
  have hJ := hK.1
  have hI := hJ.1
  have hT1 := hO.2.2
  have hT2 : sN S 0 < 200000000 := by omega
  have hT : sN S 0 < 1000000000 := by omega
  have hb2 := gI2_b2 hJ
  have hX := hI
  obtain ⟨hP8, hn, hw, hW8, hs3, hs4, hs5, hs6, hs7, hs8, hb34⟩ := hX
  refine g_aload_n E dX8_coming_0 rfl 0 rfl ?_
  refine g_iload_n E dX8_coming_1 rfl 1 rfl ?_
  refine g_callSIe (F := [(m 0, .inr (8, [.int (q 0), .ref (m 1), .int (nI n), .int (q 2), .int (q 3), .int (q 4), .ref (m 2), .ref (m 3), .ref (m 4), .ref (m 5), .int (nI c), .ref (m 6), .ref (m 7), .ref (m 8), .int (q 6), .int (q 7), .int (q 8)])), (m 1, .inl (gy G 0, 120, .inl sg)), (m 2, .inl (gy G 0, 271, .inl rd)), (m 3, .inl (gy G 0, 271, .inl f)), (m 4, .inl (gy G 0, 271, .inl tr)), (m 5, .inl (gy G 0, 3794, .inl dy)), (m 6, .inl (gy G 0, 542, .inl kp)), (m 7, .inl (gy G 2, 2, .inl ik)), (m 8, .inl (gy G 0, 10, .inl tn))]) (ws2 := [(m 0, .inr (8, [.int (q 0), .ref (m 1), .int (nI n), .int (q 2), .int (q 3), .int (q 4), .ref (m 2), .ref (m 3), .ref (m 4), .ref (m 5), .int (nI c), .ref (m 6), .ref (m 7), .ref (m 8), .int (q 6), .int (q 7), .int (q 8)])), (m 1, .inl (gy G 0, 120, .inl sg)), (m 2, .inl (gy G 0, 271, .inl rd)), (m 3, .inl (gy G 0, 271, .inl f)), (m 4, .inl (gy G 0, 271, .inl tr)), (m 5, .inl (gy G 0, 3794, .inl dy)), (m 6, .inl (gy G 0, 542, .inl kp)), (m 7, .inl (gy G 2, 2, .inl ik)), (m 8, .inl (gy G 0, 10, .inl tn))]) E (mX8_isFar G z) gX8_coming_X8_isFar rfl hnX8_isFar ⟨Nat.le_of_ble_eq_true rfl, Nat.le_of_ble_eq_true rfl⟩ (gPerm_ix [0, 1, 2, 3, 4, 5, 6, 7, 8] rfl rfl) rfl rfl (Nat.le_of_ble_eq_true rfl) dX8_coming_2 ⟨Nat.le_of_ble_eq_true rfl, Nat.le_of_ble_eq_true rfl⟩ (gPerm_ix [0, 1, 2, 3, 4, 5, 6, 7, 8] rfl rfl) ?_
  refine g_if_eqB (tgt := 24) (P := (¬ z < 1 ∧ ¬ 60 < z)) E dX8_coming_5 (by decide) (fun c1 => ?_) (fun c1 => ?_)
  · skip
    refine g_iconst (v := 1) E dX8_coming_24 (by decide) ?_
    refine g_callVIe (F := [(m 1, .inl (gy G 0, 120, .inl sg)), (m 2, .inl (gy G 0, 271, .inl rd)), (m 3, .inl (gy G 0, 271, .inl f)), (m 4, .inl (gy G 0, 271, .inl tr)), (m 5, .inl (gy G 0, 3794, .inl dy)), (m 6, .inl (gy G 0, 542, .inl kp)), (m 7, .inl (gy G 2, 2, .inl ik)), (m 8, .inl (gy G 0, 10, .inl tn))]) (ws2 := [(m 0, .inr (8, [.int 1, .ref (m 1), .int (nI n), .int (q 2), .int (q 3), .int (q 4), .ref (m 2), .ref (m 3), .ref (m 4), .ref (m 5), .int (nI c), .ref (m 6), .ref (m 7), .ref (m 8), .int (q 6), .int (q 7), .int (q 8)])), (m 1, .inl (gy G 0, 120, .inl sg)), (m 2, .inl (gy G 0, 271, .inl rd)), (m 3, .inl (gy G 0, 271, .inl f)), (m 4, .inl (gy G 0, 271, .inl tr)), (m 5, .inl (gy G 0, 3794, .inl dy)), (m 6, .inl (gy G 0, 542, .inl kp)), (m 7, .inl (gy G 2, 2, .inl ik)), (m 8, .inl (gy G 0, 10, .inl tn))]) E (mX8_refused G m (qU (qU q 1 (nI n)) 5 (nI c)) 1) gX8_coming_X8_refused rfl hdX8_refused ⟨Nat.le_of_ble_eq_true rfl, Nat.le_of_ble_eq_true rfl⟩ 8 0 rfl rfl rfl (gPerm_ix [0, 1, 2, 3, 4, 5, 6, 7, 8] rfl rfl) rfl rfl (Nat.le_of_ble_eq_true rfl) dX8_coming_25 ⟨Nat.le_of_ble_eq_true rfl, Nat.le_of_ble_eq_true rfl⟩ (gPerm_ix [0, 1, 2, 3, 4, 5, 6, 7, 8] rfl rfl) ?_
    refine g_if_eq (tgt := 33) E dX8_coming_28 (by decide) (fun c => absurd c (by decide)) (fun _ => ?_)
    refine g_iconst (v := 0) E dX8_coming_31 (by decide) ?_
    exact RET _ _ _ (qU (qU (qU q 0 1) 1 (nI n)) 5 (nI c), sg, rd, f, tr, dy, kp, ik, tn) (gRefP_mk (k := 1) (A := ((n, sg), S, (c, H), sl)) (by rw [fComing, if_neg c1]) rfl (fun e => absurd e (by decide)) ⟨rfl, rfl, hRR, rfl, hD, hKp⟩) rfl dX8_coming_32
  · skip
    obtain ⟨j, hj0, hj, rfl⟩ := nI_ofl1 (m := 60) c1 rfl rfl (by decide)
    refine g_iload_n E dX8_coming_8 rfl 2 rfl ?_
    refine g_i2l (v := y.toInt64) E dX8_coming_9 rfl ?_
    refine g_lconst (v := 0) E dX8_coming_10 (by decide) ?_
    refine g_ldc2 (v := 4) E kX8_coming_246 dX8_coming_11 ?_
    refine g_callSIe (F := [(m 0, .inr (8, [.int (q 0), .ref (m 1), .int (nI n), .int (q 2), .int (q 3), .int (q 4), .ref (m 2), .ref (m 3), .ref (m 4), .ref (m 5), .int (nI c), .ref (m 6), .ref (m 7), .ref (m 8), .int (q 6), .int (q 7), .int (q 8)])), (m 1, .inl (gy G 0, 120, .inl sg)), (m 2, .inl (gy G 0, 271, .inl rd)), (m 3, .inl (gy G 0, 271, .inl f)), (m 4, .inl (gy G 0, 271, .inl tr)), (m 5, .inl (gy G 0, 3794, .inl dy)), (m 6, .inl (gy G 0, 542, .inl kp)), (m 7, .inl (gy G 2, 2, .inl ik)), (m 8, .inl (gy G 0, 10, .inl tn))]) (ws2 := [(m 0, .inr (8, [.int (q 0), .ref (m 1), .int (nI n), .int (q 2), .int (q 3), .int (q 4), .ref (m 2), .ref (m 3), .ref (m 4), .ref (m 5), .int (nI c), .ref (m 6), .ref (m 7), .ref (m 8), .int (q 6), .int (q 7), .int (q 8)])), (m 1, .inl (gy G 0, 120, .inl sg)), (m 2, .inl (gy G 0, 271, .inl rd)), (m 3, .inl (gy G 0, 271, .inl f)), (m 4, .inl (gy G 0, 271, .inl tr)), (m 5, .inl (gy G 0, 3794, .inl dy)), (m 6, .inl (gy G 0, 542, .inl kp)), (m 7, .inl (gy G 2, 2, .inl ik)), (m 8, .inl (gy G 0, 10, .inl tn))]) E (g_resI (gIn64 (lo := 0) (hi := 4) rfl rfl) (mX8_in G y.toInt64 0 4)) gX8_coming_X8_in rfl hnX8_in ⟨Nat.le_of_ble_eq_true rfl, Nat.le_of_ble_eq_true rfl⟩ (gPerm_ix [0, 1, 2, 3, 4, 5, 6, 7, 8] rfl rfl) rfl rfl (Nat.le_of_ble_eq_true rfl) dX8_coming_14 ⟨Nat.le_of_ble_eq_true rfl, Nat.le_of_ble_eq_true rfl⟩ (gPerm_ix [0, 1, 2, 3, 4, 5, 6, 7, 8] rfl rfl) ?_
    refine g_if_eqB (tgt := 24) (P := (¬ y < 0 ∧ ¬ 4 < y)) E dX8_coming_17 (by decide) (fun c2 => ?_) (fun c2 => ?_)
    · skip
      refine g_iconst (v := 1) E dX8_coming_24 (by decide) ?_
      refine g_callVIe (F := [(m 1, .inl (gy G 0, 120, .inl sg)), (m 2, .inl (gy G 0, 271, .inl rd)), (m 3, .inl (gy G 0, 271, .inl f)), (m 4, .inl (gy G 0, 271, .inl tr)), (m 5, .inl (gy G 0, 3794, .inl dy)), (m 6, .inl (gy G 0, 542, .inl kp)), (m 7, .inl (gy G 2, 2, .inl ik)), (m 8, .inl (gy G 0, 10, .inl tn))]) (ws2 := [(m 0, .inr (8, [.int 1, .ref (m 1), .int (nI n), .int (q 2), .int (q 3), .int (q 4), .ref (m 2), .ref (m 3), .ref (m 4), .ref (m 5), .int (nI c), .ref (m 6), .ref (m 7), .ref (m 8), .int (q 6), .int (q 7), .int (q 8)])), (m 1, .inl (gy G 0, 120, .inl sg)), (m 2, .inl (gy G 0, 271, .inl rd)), (m 3, .inl (gy G 0, 271, .inl f)), (m 4, .inl (gy G 0, 271, .inl tr)), (m 5, .inl (gy G 0, 3794, .inl dy)), (m 6, .inl (gy G 0, 542, .inl kp)), (m 7, .inl (gy G 2, 2, .inl ik)), (m 8, .inl (gy G 0, 10, .inl tn))]) E (mX8_refused G m (qU (qU q 1 (nI n)) 5 (nI c)) 1) gX8_coming_X8_refused rfl hdX8_refused ⟨Nat.le_of_ble_eq_true rfl, Nat.le_of_ble_eq_true rfl⟩ 8 0 rfl rfl rfl (gPerm_ix [0, 1, 2, 3, 4, 5, 6, 7, 8] rfl rfl) rfl rfl (Nat.le_of_ble_eq_true rfl) dX8_coming_25 ⟨Nat.le_of_ble_eq_true rfl, Nat.le_of_ble_eq_true rfl⟩ (gPerm_ix [0, 1, 2, 3, 4, 5, 6, 7, 8] rfl rfl) ?_
      refine g_if_eq (tgt := 33) E dX8_coming_28 (by decide) (fun c => absurd c (by decide)) (fun _ => ?_)
      refine g_iconst (v := 0) E dX8_coming_31 (by decide) ?_
      exact RET _ _ _ (qU (qU (qU q 0 1) 1 (nI n)) 5 (nI c), sg, rd, f, tr, dy, kp, ik, tn) (gRefP_mk (k := 1) (A := ((n, sg), S, (c, H), sl)) (by rw [fComing, if_pos c1, if_neg c2]) rfl (fun e => absurd e (by decide)) ⟨rfl, rfl, hRR, rfl, hD, hKp⟩) rfl dX8_coming_32
    · skip
      obtain ⟨e, he, rfl⟩ := gNat_ofl (m := 4) c2 rfl rfl (by decide)
      refine g_iconst (v := 0) E dX8_coming_20 (by decide) ?_
      refine g_goto (tgt := 25) E dX8_coming_21 (by decide) ?_
      refine g_callVIe (F := [(m 1, .inl (gy G 0, 120, .inl sg)), (m 2, .inl (gy G 0, 271, .inl rd)), (m 3, .inl (gy G 0, 271, .inl f)), (m 4, .inl (gy G 0, 271, .inl tr)), (m 5, .inl (gy G 0, 3794, .inl dy)), (m 6, .inl (gy G 0, 542, .inl kp)), (m 7, .inl (gy G 2, 2, .inl ik)), (m 8, .inl (gy G 0, 10, .inl tn))]) (ws2 := [(m 0, .inr (8, [.int 0, .ref (m 1), .int (nI n), .int (q 2), .int (q 3), .int (q 4), .ref (m 2), .ref (m 3), .ref (m 4), .ref (m 5), .int (nI c), .ref (m 6), .ref (m 7), .ref (m 8), .int (q 6), .int (q 7), .int (q 8)])), (m 1, .inl (gy G 0, 120, .inl sg)), (m 2, .inl (gy G 0, 271, .inl rd)), (m 3, .inl (gy G 0, 271, .inl f)), (m 4, .inl (gy G 0, 271, .inl tr)), (m 5, .inl (gy G 0, 3794, .inl dy)), (m 6, .inl (gy G 0, 542, .inl kp)), (m 7, .inl (gy G 2, 2, .inl ik)), (m 8, .inl (gy G 0, 10, .inl tn))]) E (mX8_refused G m (qU (qU q 1 (nI n)) 5 (nI c)) 0) gX8_coming_X8_refused rfl hdX8_refused ⟨Nat.le_of_ble_eq_true rfl, Nat.le_of_ble_eq_true rfl⟩ 8 0 rfl rfl rfl (gPerm_ix [0, 1, 2, 3, 4, 5, 6, 7, 8] rfl rfl) rfl rfl (Nat.le_of_ble_eq_true rfl) dX8_coming_25 ⟨Nat.le_of_ble_eq_true rfl, Nat.le_of_ble_eq_true rfl⟩ (gPerm_ix [0, 1, 2, 3, 4, 5, 6, 7, 8] rfl rfl) ?_
      refine g_if_eq (tgt := 33) E dX8_coming_28 (by decide) (fun _ => ?_) (fun c => absurd c (by decide))
      refine g_aload_n E dX8_coming_33 rfl 0 rfl ?_
      refine g_callVVe (F := [(m 1, .inl (gy G 0, 120, .inl sg)), (m 2, .inl (gy G 0, 271, .inl rd)), (m 5, .inl (gy G 0, 3794, .inl dy)), (m 6, .inl (gy G 0, 542, .inl kp)), (m 7, .inl (gy G 2, 2, .inl ik)), (m 8, .inl (gy G 0, 10, .inl tn))]) (ws2 := [(m 0, .inr (8, [.int 0, .ref (m 1), .int (nI n), .int (q 2), .int (q 3), .int (q 4), .ref (m 2), .ref (m 3), .ref (m 4), .ref (m 5), .int (nI c), .ref (m 6), .ref (m 7), .ref (m 8), .int (-1), .int (q 7), .int (q 8)])), (m 1, .inl (gy G 0, 120, .inl sg)), (m 2, .inl (gy G 0, 271, .inl rd)), (m 3, .inl (gy G 0, 271, .inl f)), (m 4, .inl (gy G 0, 271, .inl (va_cpy f tr 0 0 271))), (m 5, .inl (gy G 0, 3794, .inl dy)), (m 6, .inl (gy G 0, 542, .inl kp)), (m 7, .inl (gy G 2, 2, .inl ik)), (m 8, .inl (gy G 0, 10, .inl tn))]) E (mX8_tryIt G m (qU (qU (qU q 0 0) 1 (nI n)) 5 (nI c)) f tr) gX8_coming_X8_tryIt rfl hdX8_tryIt ⟨Nat.le_of_ble_eq_true rfl, Nat.le_of_ble_eq_true rfl⟩ 8 0 rfl rfl rfl (gPerm_ix [0, 3, 4, 1, 2, 5, 6, 7, 8] rfl rfl) rfl rfl (Nat.le_of_ble_eq_true rfl) dX8_coming_34 ⟨Nat.le_of_ble_eq_true rfl, Nat.le_of_ble_eq_true rfl⟩ (gPerm_ix [0, 3, 4, 1, 2, 5, 6, 7, 8] rfl rfl) ?_
      have hRt : RR S (va_cpy f tr 0 0 271) := RR_cg hRR hI (fun i hi => gCpyA hi)
      refine g_aload_n E dX8_coming_37 rfl 0 rfl ?_
      refine g_aload_n E dX8_coming_38 rfl 0 rfl ?_
      refine g_get E uX8_coming_RX8 0 rfl rfl 8 (by decide) kX8_coming_19 rfl rfl dX8_coming_39 ?_
      refine g_iload_n E dX8_coming_42 rfl 1 rfl ?_
      refine g_callVIu (F := [(m 1, .inl (gy G 0, 120, .inl sg)), (m 2, .inl (gy G 0, 271, .inl rd)), (m 3, .inl (gy G 0, 271, .inl f)), (m 5, .inl (gy G 0, 3794, .inl dy)), (m 6, .inl (gy G 0, 542, .inl kp)), (m 7, .inl (gy G 2, 2, .inl ik))]) E (mX8_runIn G m (qU (qU (qU (qU q 0 0) 1 (nI n)) 5 (nI c)) 6 (-1)) (m 4) S (va_cpy f tr 0 0 271) tn j hJ (by omega) hRt) gX8_coming_X8_runIn rfl hdX8_runIn ⟨Nat.le_of_ble_eq_true rfl, Nat.le_of_ble_eq_true rfl⟩ 8 0 rfl rfl rfl (gPerm_ix [0, 8, 4, 1, 2, 3, 5, 6, 7] rfl rfl) rfl rfl (Nat.le_of_ble_eq_true rfl) dX8_coming_43 ⟨Nat.le_of_ble_eq_true rfl, Nat.le_of_ble_eq_true rfl⟩ (fun u3 hU3 => ?_)
      obtain ⟨S3, xE3⟩ : ∃ x, x = gDays j S := ⟨_, rfl⟩
      have hRR3 : RR S3 u3.2.2 := by rw [xE3]; exact hU3
      refine g_perm (ws1 := [(m 0, .inr (8, [.int 0, .ref (m 1), .int (nI n), .int (q 2), .int (q 3), .int (q 4), .ref (m 2), .ref (m 3), .ref (m 4), .ref (m 5), .int (nI c), .ref (m 6), .ref (m 7), .ref (m 8), .int u3.1, .int (q 7), .int (q 8)])), (m 1, .inl (gy G 0, 120, .inl sg)), (m 2, .inl (gy G 0, 271, .inl rd)), (m 3, .inl (gy G 0, 271, .inl f)), (m 4, .inl (gy G 0, 271, .inl u3.2.2)), (m 5, .inl (gy G 0, 3794, .inl dy)), (m 6, .inl (gy G 0, 542, .inl kp)), (m 7, .inl (gy G 2, 2, .inl ik)), (m 8, .inl (gy G 0, 10, .inl u3.2.1))]) (gPerm_ix [0, 3, 4, 5, 2, 6, 7, 8, 1] rfl rfl) ?_
      refine g_pop E dX8_coming_46 rfl ?_
      refine g_iload_n E dX8_coming_47 rfl 2 rfl ?_
      refine g_iconst (v := 4) E dX8_coming_48 (by decide) ?_
      refine g_icmp_neN (tgt := 61) (a := e) (b := 4) E dX8_coming_49 (by decide) (by omega) (by omega) (fun c5 => ?_) (fun c5 => ?_)
      · skip
        refine g_aload_n E dX8_coming_61 rfl 0 rfl ?_
        refine g_get E uX8_coming_RX8 0 rfl rfl 8 (by decide) kX8_coming_19 rfl rfl dX8_coming_62 ?_
        refine g_iconst (v := 4) E dX8_coming_65 (by decide) ?_
        refine g_iload_n E dX8_coming_66 rfl 2 rfl ?_
        refine g_iaddN (a := 4) (b := e) E dX8_coming_67 ?_
        refine g_ialdN (e := 4 + e) E 4 rfl (by omega) rfl (v := sI S3 8 e) (RR_C hRR3 (j := e) (by omega)) dX8_coming_68 ?_
        refine g_aload_n E dX8_coming_69 rfl 0 rfl ?_
        refine g_get E uX8_coming_RX8 0 rfl rfl 7 (by decide) kX8_coming_16 rfl rfl dX8_coming_70 ?_
        refine g_iconst (v := 4) E dX8_coming_73 (by decide) ?_
        refine g_iload_n E dX8_coming_74 rfl 2 rfl ?_
        refine g_iaddN (a := 4) (b := e) E dX8_coming_75 ?_
        refine g_ialdN (e := 4 + e) E 3 rfl (by omega) rfl (v := sI S 8 e) (RR_C hRR (j := e) (by omega)) dX8_coming_76 ?_
        refine g_isub E dX8_coming_77 ?_
        exact RET _ _ _ (qU (qU (qU (qU q 0 0) 1 (nI n)) 5 (nI c)) 6 u3.1, sg, rd, f, u3.2.2, dy, kp, ik, u3.2.1) (gRefP_mk (k := 0) (A := ((n, sg), S, (c, H), sl)) (by rw [fComing, if_pos c1, if_pos c2, nI_clamp (by omega), nI_clamp (by omega)]; show (0, (if nI e = 4 then nI (sW (gDays j S)).length else sI (gDays j S) 8 e - sI S 8 e), _) = _; rw [if_neg (fun q => c5 (nI_inj' (by omega) (by decide) (q.trans (show (4 : Int32) = nI 4 from rfl)))), xE3]) rfl (fun _ => rfl) ⟨rfl, rfl, hRR, rfl, hD, hKp⟩) rfl dX8_coming_78
      · skip
        obtain rfl : e = 4 := c5
        refine g_aload_n E dX8_coming_52 rfl 0 rfl ?_
        refine g_get E uX8_coming_RX8 0 rfl rfl 8 (by decide) kX8_coming_19 rfl rfl dX8_coming_53 ?_
        refine g_iconst (v := 3) E dX8_coming_56 (by decide) ?_
        refine g_ialdN (e := 3) E 4 rfl (by omega) rfl (v := nI ((sW S3).length)) (RR_3 hRR3) dX8_coming_57 ?_
        refine g_goto (tgt := 78) E dX8_coming_58 (by decide) ?_
        exact RET _ _ _ (qU (qU (qU (qU q 0 0) 1 (nI n)) 5 (nI c)) 6 u3.1, sg, rd, f, u3.2.2, dy, kp, ik, u3.2.1) (gRefP_mk (k := 0) (A := ((n, sg), S, (c, H), sl)) (by rw [fComing, if_pos c1, if_pos c2, nI_clamp (by omega), nI_clamp (by omega)]; show (0, (if nI 4 = 4 then nI (sW (gDays j S)).length else sI (gDays j S) 8 4 - sI S 8 4), _) = _; rw [if_pos (show nI 4 = 4 from rfl), xE3]) rfl (fun _ => rfl) ⟨rfl, rfl, hRR, rfl, hD, hKp⟩) rfl dX8_coming_78

set_option maxHeartbeats 4000000 in
set_option maxRecDepth 100000 in
theorem mX8_becomes (G : gG) (m : Nat → Nat) (q : Nat → Int32) (n c : Nat) (sg : Nat → Int32) (S : gSt) (H : Nat → gSt) (sl : Nat → Option gSt) (rd f tr dy kp ik tn : Nat → Int32) (k0 : Int32) (hn12 : n ≤ 120) (hO : gOk 50000 S) (hc14 : c ≤ 14) (hHo : gHok 50000 c H) (hRR : RR S f) (hD : gDry c H dy) (hKp : gKpt sl kp ik) : CI G yX8_becomes wsX8_becomes 7 166 [.ref (m 0), .int k0] [(m 0, .inr (8, [.int (q 0), .ref (m 1), .int (nI n), .int (q 2), .int (q 3), .int (q 4), .ref (m 2), .ref (m 3), .ref (m 4), .ref (m 5), .int (nI c), .ref (m 6), .ref (m 7), .ref (m 8), .int (q 6), .int (q 7), .int (q 8)])), (m 1, .inl (gy G 0, 120, .inl sg)), (m 2, .inl (gy G 0, 271, .inl rd)), (m 3, .inl (gy G 0, 271, .inl f)), (m 4, .inl (gy G 0, 271, .inl tr)), (m 5, .inl (gy G 0, 3794, .inl dy)), (m 6, .inl (gy G 0, 542, .inl kp)), (m 7, .inl (gy G 2, 2, .inl ik)), (m 8, .inl (gy G 0, 10, .inl tn))] (gRefP (fBecomes ((n, sg), S, (c, H), sl) k0)) (fun (u : gRu) => (wR G m u)) 0 0 := by
  refine g_enterI (ty := .int) RX8 rfl (by decide) rfl (Nat.le_of_ble_eq_true rfl) ?_
  intro V E RET
  have hK := hO.1
  have hJ := hK.1
  have hI := hJ.1
  have hT1 := hO.2.2
  have hT2 : sN S 0 < 200000000 := by omega
  have hT : sN S 0 < 1000000000 := by omega
  have hb2 := gI2_b2 hJ
  have hX := hI
  obtain ⟨hP8, hn, hw, hW8, hs3, hs4, hs5, hs6, hs7, hs8, hb34⟩ := hX
  refine g_aload_n E dX8_becomes_0 rfl 0 rfl ?_
  refine g_aload_n E dX8_becomes_1 rfl 0 rfl ?_
  refine g_iload_n E dX8_becomes_2 rfl 1 rfl ?_
  refine g_callVIe (F := [(m 1, .inl (gy G 0, 120, .inl sg)), (m 2, .inl (gy G 0, 271, .inl rd)), (m 4, .inl (gy G 0, 271, .inl tr)), (m 5, .inl (gy G 0, 3794, .inl dy)), (m 6, .inl (gy G 0, 542, .inl kp)), (m 7, .inl (gy G 2, 2, .inl ik)), (m 8, .inl (gy G 0, 10, .inl tn))]) (ws2 := [(m 0, .inr (8, [.int (q 0), .ref (m 1), .int (nI n), .int (q 2), .int (q 3), .int (q 4), .ref (m 2), .ref (m 3), .ref (m 4), .ref (m 5), .int (nI c), .ref (m 6), .ref (m 7), .ref (m 8), .int (q 6), .int (q 7), .int (q 8)])), (m 1, .inl (gy G 0, 120, .inl sg)), (m 2, .inl (gy G 0, 271, .inl rd)), (m 3, .inl (gy G 0, 271, .inl f)), (m 4, .inl (gy G 0, 271, .inl tr)), (m 5, .inl (gy G 0, 3794, .inl dy)), (m 6, .inl (gy G 0, 542, .inl kp)), (m 7, .inl (gy G 2, 2, .inl ik)), (m 8, .inl (gy G 0, 10, .inl tn))]) E (mX8_isBooking G m (qU (qU q 1 (nI n)) 5 (nI c)) S f k0 hI hT hRR) gX8_becomes_X8_isBooking rfl hdX8_isBooking ⟨Nat.le_of_ble_eq_true rfl, Nat.le_of_ble_eq_true rfl⟩ 8 0 rfl rfl rfl (gPerm_ix [0, 3, 1, 2, 4, 5, 6, 7, 8] rfl rfl) rfl rfl (Nat.le_of_ble_eq_true rfl) dX8_becomes_3 ⟨Nat.le_of_ble_eq_true rfl, Nat.le_of_ble_eq_true rfl⟩ (gPerm_ix [0, 2, 3, 1, 4, 5, 6, 7, 8] rfl rfl) ?_
  refine g_if_neB (tgt := 13) (P := (¬ k0 < 0 ∧ ¬ nI ((sB S).length) ≤ k0)) E dX8_becomes_6 (by decide) (fun c1 => ?_) (fun c1 => ?_)
  · skip
    obtain ⟨j, hj, rfl⟩ := gNat_of c1 (by omega)
    have hf0 := hJ.2.2.1 j hj
    refine g_aload_n E dX8_becomes_13 rfl 0 rfl ?_
    refine g_get E uX8_becomes_RX8 0 rfl rfl 7 (by decide) kX8_becomes_16 rfl rfl dX8_becomes_14 ?_
    refine g_iload_n E dX8_becomes_17 rfl 1 rfl ?_
    refine g_iconst (v := 0) E dX8_becomes_18 (by decide) ?_
    refine g_callSIe (F := [(m 0, .inr (8, [.int (q 0), .ref (m 1), .int (nI n), .int (q 2), .int (q 3), .int (q 4), .ref (m 2), .ref (m 3), .ref (m 4), .ref (m 5), .int (nI c), .ref (m 6), .ref (m 7), .ref (m 8), .int (q 6), .int (q 7), .int (q 8)])), (m 1, .inl (gy G 0, 120, .inl sg)), (m 2, .inl (gy G 0, 271, .inl rd)), (m 3, .inl (gy G 0, 271, .inl f)), (m 4, .inl (gy G 0, 271, .inl tr)), (m 5, .inl (gy G 0, 3794, .inl dy)), (m 6, .inl (gy G 0, 542, .inl kp)), (m 7, .inl (gy G 2, 2, .inl ik)), (m 8, .inl (gy G 0, 10, .inl tn))]) (ws2 := [(m 0, .inr (8, [.int (q 0), .ref (m 1), .int (nI n), .int (q 2), .int (q 3), .int (q 4), .ref (m 2), .ref (m 3), .ref (m 4), .ref (m 5), .int (nI c), .ref (m 6), .ref (m 7), .ref (m 8), .int (q 6), .int (q 7), .int (q 8)])), (m 1, .inl (gy G 0, 120, .inl sg)), (m 2, .inl (gy G 0, 271, .inl rd)), (m 3, .inl (gy G 0, 271, .inl f)), (m 4, .inl (gy G 0, 271, .inl tr)), (m 5, .inl (gy G 0, 3794, .inl dy)), (m 6, .inl (gy G 0, 542, .inl kp)), (m 7, .inl (gy G 2, 2, .inl ik)), (m 8, .inl (gy G 0, 10, .inl tn))]) E (mX8_bookingAt G j 0 (by omega) (by omega)) gX8_becomes_X8_bookingAt rfl hnX8_bookingAt ⟨Nat.le_of_ble_eq_true rfl, Nat.le_of_ble_eq_true rfl⟩ (gPerm_ix [0, 1, 2, 3, 4, 5, 6, 7, 8] rfl rfl) rfl rfl (Nat.le_of_ble_eq_true rfl) dX8_becomes_19 ⟨Nat.le_of_ble_eq_true rfl, Nat.le_of_ble_eq_true rfl⟩ (gPerm_ix [0, 1, 2, 3, 4, 5, 6, 7, 8] rfl rfl) ?_
    refine g_ialdN (e := 93 + 7 * j + 0) E 3 rfl (by omega) rfl (v := nI (bk (sB S) j 0)) (RR_B hRR (k := j) (w := 0) (by omega) (by omega)) dX8_becomes_22 ?_
    refine g_aload_n E dX8_becomes_23 rfl 0 rfl ?_
    refine g_get E uX8_becomes_RX8 0 rfl rfl 7 (by decide) kX8_becomes_16 rfl rfl dX8_becomes_24 ?_
    refine g_iconst (v := 0) E dX8_becomes_27 (by decide) ?_
    refine g_ialdN (e := 0) E 3 rfl (by omega) rfl (v := nI (sN S 0)) (RR_0 hRR) dX8_becomes_28 ?_
    refine g_bipush (v := 60) E dX8_becomes_29 (by decide) ?_
    refine g_iaddN (a := sN S 0) (b := 60) E dX8_becomes_31 ?_
    refine g_iconst (v := 1) E dX8_becomes_32 (by decide) ?_
    refine g_isubN (a := sN S 0 + 60) (b := 1) E dX8_becomes_33 (by omega) ?_
    refine g_icmp_leN (tgt := 41) (a := bk (sB S) j 0) (b := sN S 0 + 60 - 1) E dX8_becomes_34 (by decide) (by omega) (by omega) (fun c2 => ?_) (fun c2 => ?_)
    · skip
      refine g_iconst (v := 0) E dX8_becomes_41 (by decide) ?_
      refine g_callVIe (F := [(m 1, .inl (gy G 0, 120, .inl sg)), (m 2, .inl (gy G 0, 271, .inl rd)), (m 3, .inl (gy G 0, 271, .inl f)), (m 4, .inl (gy G 0, 271, .inl tr)), (m 5, .inl (gy G 0, 3794, .inl dy)), (m 6, .inl (gy G 0, 542, .inl kp)), (m 7, .inl (gy G 2, 2, .inl ik)), (m 8, .inl (gy G 0, 10, .inl tn))]) (ws2 := [(m 0, .inr (8, [.int 0, .ref (m 1), .int (nI n), .int (q 2), .int (q 3), .int (q 4), .ref (m 2), .ref (m 3), .ref (m 4), .ref (m 5), .int (nI c), .ref (m 6), .ref (m 7), .ref (m 8), .int (q 6), .int (q 7), .int (q 8)])), (m 1, .inl (gy G 0, 120, .inl sg)), (m 2, .inl (gy G 0, 271, .inl rd)), (m 3, .inl (gy G 0, 271, .inl f)), (m 4, .inl (gy G 0, 271, .inl tr)), (m 5, .inl (gy G 0, 3794, .inl dy)), (m 6, .inl (gy G 0, 542, .inl kp)), (m 7, .inl (gy G 2, 2, .inl ik)), (m 8, .inl (gy G 0, 10, .inl tn))]) E (mX8_refused G m (qU (qU q 1 (nI n)) 5 (nI c)) 0) gX8_becomes_X8_refused rfl hdX8_refused ⟨Nat.le_of_ble_eq_true rfl, Nat.le_of_ble_eq_true rfl⟩ 8 0 rfl rfl rfl (gPerm_ix [0, 1, 2, 3, 4, 5, 6, 7, 8] rfl rfl) rfl rfl (Nat.le_of_ble_eq_true rfl) dX8_becomes_42 ⟨Nat.le_of_ble_eq_true rfl, Nat.le_of_ble_eq_true rfl⟩ (gPerm_ix [0, 1, 2, 3, 4, 5, 6, 7, 8] rfl rfl) ?_
      refine g_if_eq (tgt := 50) E dX8_becomes_45 (by decide) (fun _ => ?_) (fun c => absurd c (by decide))
      refine g_aload_n E dX8_becomes_50 rfl 0 rfl ?_
      refine g_callVVe (F := [(m 1, .inl (gy G 0, 120, .inl sg)), (m 2, .inl (gy G 0, 271, .inl rd)), (m 5, .inl (gy G 0, 3794, .inl dy)), (m 6, .inl (gy G 0, 542, .inl kp)), (m 7, .inl (gy G 2, 2, .inl ik)), (m 8, .inl (gy G 0, 10, .inl tn))]) (ws2 := [(m 0, .inr (8, [.int 0, .ref (m 1), .int (nI n), .int (q 2), .int (q 3), .int (q 4), .ref (m 2), .ref (m 3), .ref (m 4), .ref (m 5), .int (nI c), .ref (m 6), .ref (m 7), .ref (m 8), .int (-1), .int (q 7), .int (q 8)])), (m 1, .inl (gy G 0, 120, .inl sg)), (m 2, .inl (gy G 0, 271, .inl rd)), (m 3, .inl (gy G 0, 271, .inl f)), (m 4, .inl (gy G 0, 271, .inl (va_cpy f tr 0 0 271))), (m 5, .inl (gy G 0, 3794, .inl dy)), (m 6, .inl (gy G 0, 542, .inl kp)), (m 7, .inl (gy G 2, 2, .inl ik)), (m 8, .inl (gy G 0, 10, .inl tn))]) E (mX8_tryIt G m (qU (qU (qU q 0 0) 1 (nI n)) 5 (nI c)) f tr) gX8_becomes_X8_tryIt rfl hdX8_tryIt ⟨Nat.le_of_ble_eq_true rfl, Nat.le_of_ble_eq_true rfl⟩ 8 0 rfl rfl rfl (gPerm_ix [0, 3, 4, 1, 2, 5, 6, 7, 8] rfl rfl) rfl rfl (Nat.le_of_ble_eq_true rfl) dX8_becomes_51 ⟨Nat.le_of_ble_eq_true rfl, Nat.le_of_ble_eq_true rfl⟩ (gPerm_ix [0, 3, 4, 1, 2, 5, 6, 7, 8] rfl rfl) ?_
      have hRt : RR S (va_cpy f tr 0 0 271) := RR_cg hRR hI (fun i hi => gCpyA hi)
      refine g_aload_n E dX8_becomes_54 rfl 0 rfl ?_
      refine g_get E uX8_becomes_RX8 0 rfl rfl 8 (by decide) kX8_becomes_19 rfl rfl dX8_becomes_55 ?_
      refine g_iload_n E dX8_becomes_58 rfl 1 rfl ?_
      refine g_bipush (v := 6) E dX8_becomes_59 (by decide) ?_
      refine g_callSIe (F := [(m 0, .inr (8, [.int 0, .ref (m 1), .int (nI n), .int (q 2), .int (q 3), .int (q 4), .ref (m 2), .ref (m 3), .ref (m 4), .ref (m 5), .int (nI c), .ref (m 6), .ref (m 7), .ref (m 8), .int (-1), .int (q 7), .int (q 8)])), (m 1, .inl (gy G 0, 120, .inl sg)), (m 2, .inl (gy G 0, 271, .inl rd)), (m 3, .inl (gy G 0, 271, .inl f)), (m 4, .inl (gy G 0, 271, .inl (va_cpy f tr 0 0 271))), (m 5, .inl (gy G 0, 3794, .inl dy)), (m 6, .inl (gy G 0, 542, .inl kp)), (m 7, .inl (gy G 2, 2, .inl ik)), (m 8, .inl (gy G 0, 10, .inl tn))]) (ws2 := [(m 0, .inr (8, [.int 0, .ref (m 1), .int (nI n), .int (q 2), .int (q 3), .int (q 4), .ref (m 2), .ref (m 3), .ref (m 4), .ref (m 5), .int (nI c), .ref (m 6), .ref (m 7), .ref (m 8), .int (-1), .int (q 7), .int (q 8)])), (m 1, .inl (gy G 0, 120, .inl sg)), (m 2, .inl (gy G 0, 271, .inl rd)), (m 3, .inl (gy G 0, 271, .inl f)), (m 4, .inl (gy G 0, 271, .inl (va_cpy f tr 0 0 271))), (m 5, .inl (gy G 0, 3794, .inl dy)), (m 6, .inl (gy G 0, 542, .inl kp)), (m 7, .inl (gy G 2, 2, .inl ik)), (m 8, .inl (gy G 0, 10, .inl tn))]) E (mX8_bookingAt G j 6 (by omega) (by omega)) gX8_becomes_X8_bookingAt rfl hnX8_bookingAt ⟨Nat.le_of_ble_eq_true rfl, Nat.le_of_ble_eq_true rfl⟩ (gPerm_ix [0, 1, 2, 3, 4, 5, 6, 7, 8] rfl rfl) rfl rfl (Nat.le_of_ble_eq_true rfl) dX8_becomes_61 ⟨Nat.le_of_ble_eq_true rfl, Nat.le_of_ble_eq_true rfl⟩ (gPerm_ix [0, 1, 2, 3, 4, 5, 6, 7, 8] rfl rfl) ?_
      refine g_iconst (v := 1) E dX8_becomes_64 (by decide) ?_
      refine g_iast (ws' := [(m 0, .inr (8, [.int 0, .ref (m 1), .int (nI n), .int (q 2), .int (q 3), .int (q 4), .ref (m 2), .ref (m 3), .ref (m 4), .ref (m 5), .int (nI c), .ref (m 6), .ref (m 7), .ref (m 8), .int (-1), .int (q 7), .int (q 8)])), (m 1, .inl (gy G 0, 120, .inl sg)), (m 2, .inl (gy G 0, 271, .inl rd)), (m 3, .inl (gy G 0, 271, .inl f)), (m 4, .inl (gy G 0, 271, .inl (upd (va_cpy f tr 0 0 271) (93 + 7 * j + 6) 1))), (m 5, .inl (gy G 0, 3794, .inl dy)), (m 6, .inl (gy G 0, 542, .inl kp)), (m 7, .inl (gy G 2, 2, .inl ik)), (m 8, .inl (gy G 0, 10, .inl tn))]) (j := 93 + 7 * j + 6) (y := 1) E 4 rfl (g_in (e := 93 + 7 * j + 6) (by omega) rfl) (nI_clamp (n := 93 + 7 * j + 6) (by omega)) rfl rfl dX8_becomes_65 ?_
      obtain ⟨M, xM⟩ : ∃ xx, xx = gMark S j := ⟨_, rfl⟩
      have hRM : RR M (upd (va_cpy f tr 0 0 271) (93 + 7 * j + 6) 1) := by rw [xM]; exact RR_mark hRt hn hj
      have hB0 : gBcI M j 0 M (-1) := by rw [xM]; exact gBc_0 hK hO.2.1 hj
      have hMt : sN M 0 = sN S 0 := by rw [xM]; rfl
      have hMd : bk (sB M) j 0 = bk (sB S) j 0 := by rw [xM]; exact gMark_bk hj j 0 (by decide)
      refine g_iconst (v := 0) E dX8_becomes_66 (by decide) ?_
      refine g_istore_n (lv' := [(2, .int 0), (0, .ref (m 0)), (1, .int (nI j))]) E dX8_becomes_67 rfl (by decide) rfl ?_
      have loop3 : ∀ (n4 : Nat) (k : Nat) (C : gSt) (ft : Int32) (tk g : Nat → Int32), (k ≤ 60) → (gBcI M j k C ft) → (RR C g) → 60 - k < n4 → gW V 3 0 0 [(m 0, .inr (8, [.int 0, .ref (m 1), .int (nI n), .int (q 2), .int (q 3), .int (q 4), .ref (m 2), .ref (m 3), .ref (m 4), .ref (m 5), .int (nI c), .ref (m 6), .ref (m 7), .ref (m 8), .int ft, .int (q 7), .int (q 8)])), (m 1, .inl (gy G 0, 120, .inl sg)), (m 2, .inl (gy G 0, 271, .inl rd)), (m 3, .inl (gy G 0, 271, .inl f)), (m 4, .inl (gy G 0, 271, .inl g)), (m 5, .inl (gy G 0, 3794, .inl dy)), (m 6, .inl (gy G 0, 542, .inl kp)), (m 7, .inl (gy G 2, 2, .inl ik)), (m 8, .inl (gy G 0, 10, .inl tk))] [(0, .ref (m 0)), (1, .int (nI j)), (2, .int (nI k))] 68 [] := by
        intro n4
        induction n4 with
        | zero => intro k C ft tk g hk hB hRg hm6; exact absurd hm6 (Nat.not_lt_zero _)
        | succ n4 ih5 =>
          intro k C ft tk g hk hB hRg hm6
          refine g_iload_n E dX8_becomes_68 rfl 2 rfl ?_
          refine g_bipush (v := 60) E dX8_becomes_69 (by decide) ?_
          refine g_icmp_geN (tgt := 96) (a := k) (b := 60) E dX8_becomes_71 (by decide) (by omega) (by omega) (fun c7 => ?_) (fun c7 => ?_)
          · skip
            refine g_aload_n E dX8_becomes_96 rfl 0 rfl ?_
            refine g_get E uX8_becomes_RX8 0 rfl rfl 14 (by decide) kX8_becomes_52 rfl rfl dX8_becomes_97 ?_
            exact RET _ _ _ (qU (qU (qU (qU q 0 0) 1 (nI n)) 5 (nI c)) 6 ft, sg, rd, f, g, dy, kp, ik, tk) (gRefP_mk (k := 0) (A := ((n, sg), S, (c, H), sl)) (by rw [fBecomes, if_pos c1, nI_clamp (by omega)]; exact (if_neg (show ¬ 60 ≤ bk (sB S) j 0 - sN S 0 by omega)).trans (by rw [gBc_e hB (by omega) (Or.inr (by omega)), xM])) rfl (fun _ => rfl) ⟨rfl, rfl, hRR, rfl, hD, hKp⟩) rfl dX8_becomes_100
          · skip
            have hk60 : k < 60 := by omega
            refine g_aload_n E dX8_becomes_74 rfl 0 rfl ?_
            refine g_get E uX8_becomes_RX8 0 rfl rfl 14 (by decide) kX8_becomes_52 rfl rfl dX8_becomes_75 ?_
            refine g_iconst (v := (-1)) E dX8_becomes_78 (by decide) ?_
            refine g_icmp_ne (tgt := 96) E dX8_becomes_79 (by decide) (fun c8 => ?_) (fun c8 => ?_)
            · skip
              refine g_aload_n E dX8_becomes_96 rfl 0 rfl ?_
              refine g_get E uX8_becomes_RX8 0 rfl rfl 14 (by decide) kX8_becomes_52 rfl rfl dX8_becomes_97 ?_
              exact RET _ _ _ (qU (qU (qU (qU q 0 0) 1 (nI n)) 5 (nI c)) 6 ft, sg, rd, f, g, dy, kp, ik, tk) (gRefP_mk (k := 0) (A := ((n, sg), S, (c, H), sl)) (by rw [fBecomes, if_pos c1, nI_clamp (by omega)]; exact (if_neg (show ¬ 60 ≤ bk (sB S) j 0 - sN S 0 by omega)).trans (by rw [gBc_e hB (by omega) (Or.inl c8), xM])) rfl (fun _ => rfl) ⟨rfl, rfl, hRR, rfl, hD, hKp⟩) rfl dX8_becomes_100
            · skip
              have hft : ft = -1 := c8
              refine g_aload_n E dX8_becomes_82 rfl 0 rfl ?_
              refine g_aload_n E dX8_becomes_83 rfl 0 rfl ?_
              refine g_get E uX8_becomes_RX8 0 rfl rfl 8 (by decide) kX8_becomes_19 rfl rfl dX8_becomes_84 ?_
              refine g_callVV (F := [(m 1, .inl (gy G 0, 120, .inl sg)), (m 2, .inl (gy G 0, 271, .inl rd)), (m 3, .inl (gy G 0, 271, .inl f)), (m 5, .inl (gy G 0, 3794, .inl dy)), (m 6, .inl (gy G 0, 542, .inl kp)), (m 7, .inl (gy G 2, 2, .inl ik))]) E (mX8_dayIn G m (qU (qU (qU (qU q 0 0) 1 (nI n)) 5 (nI c)) 6 ft) (m 4) C g tk hB.1.1 (by have := hB.2.1; omega) hRg) gX8_becomes_X8_dayIn rfl hdX8_dayIn ⟨Nat.le_of_ble_eq_true rfl, Nat.le_of_ble_eq_true rfl⟩ 8 0 rfl rfl rfl (gPerm_ix [0, 8, 4, 1, 2, 3, 5, 6, 7] rfl rfl) rfl rfl (Nat.le_of_ble_eq_true rfl) dX8_becomes_87 ⟨Nat.le_of_ble_eq_true rfl, Nat.le_of_ble_eq_true rfl⟩ (fun u9 hU9 => ?_)
              obtain ⟨S9, xE9⟩ : ∃ x, x = gDay C := ⟨_, rfl⟩
              obtain ⟨hF9, hU9b⟩ := hU9
              have hRR9 : RR S9 u9.2.2 := by rw [xE9]; exact hU9b
              refine g_perm (ws1 := [(m 0, .inr (8, [.int 0, .ref (m 1), .int (nI n), .int (q 2), .int (q 3), .int (q 4), .ref (m 2), .ref (m 3), .ref (m 4), .ref (m 5), .int (nI c), .ref (m 6), .ref (m 7), .ref (m 8), .int u9.1, .int (q 7), .int (q 8)])), (m 1, .inl (gy G 0, 120, .inl sg)), (m 2, .inl (gy G 0, 271, .inl rd)), (m 3, .inl (gy G 0, 271, .inl f)), (m 4, .inl (gy G 0, 271, .inl u9.2.2)), (m 5, .inl (gy G 0, 3794, .inl dy)), (m 6, .inl (gy G 0, 542, .inl kp)), (m 7, .inl (gy G 2, 2, .inl ik)), (m 8, .inl (gy G 0, 10, .inl u9.2.1))]) (gPerm_ix [0, 3, 4, 5, 2, 6, 7, 8, 1] rfl rfl) ?_
              refine g_iinc (lv' := [(2, .int (nI (k + 1))), (0, .ref (m 0)), (1, .int (nI j))]) E dX8_becomes_90 2 rfl (g_inc _ 1 (by decide)) (by decide) rfl ?_
              refine g_goto (tgt := 68) E dX8_becomes_93 (by decide) ?_
              refine g_lv [1, 2, 0] rfl ?_
              exact ih5  (k + 1) (gDay C) _ _ _ (by omega) (by rw [hF9]; show gBcI M j (k + 1) (gDay C) (gDf C ft); rw [hft] at hB ⊢; exact gBc_st hB (by omega) (by omega)) (xE9 ▸ hRR9) (by omega)
      refine g_lv [1, 2, 0] rfl ?_
      exact loop3 _ 0 M (-1) _ _ (Nat.zero_le _) hB0 hRM (Nat.lt_succ_self _)
    · skip
      refine g_iconst (v := 2) E dX8_becomes_37 (by decide) ?_
      refine g_goto (tgt := 42) E dX8_becomes_38 (by decide) ?_
      refine g_callVIe (F := [(m 1, .inl (gy G 0, 120, .inl sg)), (m 2, .inl (gy G 0, 271, .inl rd)), (m 3, .inl (gy G 0, 271, .inl f)), (m 4, .inl (gy G 0, 271, .inl tr)), (m 5, .inl (gy G 0, 3794, .inl dy)), (m 6, .inl (gy G 0, 542, .inl kp)), (m 7, .inl (gy G 2, 2, .inl ik)), (m 8, .inl (gy G 0, 10, .inl tn))]) (ws2 := [(m 0, .inr (8, [.int 2, .ref (m 1), .int (nI n), .int (q 2), .int (q 3), .int (q 4), .ref (m 2), .ref (m 3), .ref (m 4), .ref (m 5), .int (nI c), .ref (m 6), .ref (m 7), .ref (m 8), .int (q 6), .int (q 7), .int (q 8)])), (m 1, .inl (gy G 0, 120, .inl sg)), (m 2, .inl (gy G 0, 271, .inl rd)), (m 3, .inl (gy G 0, 271, .inl f)), (m 4, .inl (gy G 0, 271, .inl tr)), (m 5, .inl (gy G 0, 3794, .inl dy)), (m 6, .inl (gy G 0, 542, .inl kp)), (m 7, .inl (gy G 2, 2, .inl ik)), (m 8, .inl (gy G 0, 10, .inl tn))]) E (mX8_refused G m (qU (qU q 1 (nI n)) 5 (nI c)) 2) gX8_becomes_X8_refused rfl hdX8_refused ⟨Nat.le_of_ble_eq_true rfl, Nat.le_of_ble_eq_true rfl⟩ 8 0 rfl rfl rfl (gPerm_ix [0, 1, 2, 3, 4, 5, 6, 7, 8] rfl rfl) rfl rfl (Nat.le_of_ble_eq_true rfl) dX8_becomes_42 ⟨Nat.le_of_ble_eq_true rfl, Nat.le_of_ble_eq_true rfl⟩ (gPerm_ix [0, 1, 2, 3, 4, 5, 6, 7, 8] rfl rfl) ?_
      refine g_if_eq (tgt := 50) E dX8_becomes_45 (by decide) (fun c => absurd c (by decide)) (fun _ => ?_)
      refine g_iconst (v := 0) E dX8_becomes_48 (by decide) ?_
      exact RET _ _ _ (qU (qU (qU q 0 2) 1 (nI n)) 5 (nI c), sg, rd, f, tr, dy, kp, ik, tn) (gRefP_mk (k := 2) (A := ((n, sg), S, (c, H), sl)) (by rw [fBecomes, if_pos c1, nI_clamp (by omega)]; exact if_pos (show 60 ≤ bk (sB S) j 0 - sN S 0 by omega)) rfl (fun e => absurd e (by decide)) ⟨rfl, rfl, hRR, rfl, hD, hKp⟩) rfl dX8_becomes_49
  · skip
    refine g_iconst (v := 1) E dX8_becomes_9 (by decide) ?_
    refine g_goto (tgt := 42) E dX8_becomes_10 (by decide) ?_
    refine g_callVIe (F := [(m 1, .inl (gy G 0, 120, .inl sg)), (m 2, .inl (gy G 0, 271, .inl rd)), (m 3, .inl (gy G 0, 271, .inl f)), (m 4, .inl (gy G 0, 271, .inl tr)), (m 5, .inl (gy G 0, 3794, .inl dy)), (m 6, .inl (gy G 0, 542, .inl kp)), (m 7, .inl (gy G 2, 2, .inl ik)), (m 8, .inl (gy G 0, 10, .inl tn))]) (ws2 := [(m 0, .inr (8, [.int 1, .ref (m 1), .int (nI n), .int (q 2), .int (q 3), .int (q 4), .ref (m 2), .ref (m 3), .ref (m 4), .ref (m 5), .int (nI c), .ref (m 6), .ref (m 7), .ref (m 8), .int (q 6), .int (q 7), .int (q 8)])), (m 1, .inl (gy G 0, 120, .inl sg)), (m 2, .inl (gy G 0, 271, .inl rd)), (m 3, .inl (gy G 0, 271, .inl f)), (m 4, .inl (gy G 0, 271, .inl tr)), (m 5, .inl (gy G 0, 3794, .inl dy)), (m 6, .inl (gy G 0, 542, .inl kp)), (m 7, .inl (gy G 2, 2, .inl ik)), (m 8, .inl (gy G 0, 10, .inl tn))]) E (mX8_refused G m (qU (qU q 1 (nI n)) 5 (nI c)) 1) gX8_becomes_X8_refused rfl hdX8_refused ⟨Nat.le_of_ble_eq_true rfl, Nat.le_of_ble_eq_true rfl⟩ 8 0 rfl rfl rfl (gPerm_ix [0, 1, 2, 3, 4, 5, 6, 7, 8] rfl rfl) rfl rfl (Nat.le_of_ble_eq_true rfl) dX8_becomes_42 ⟨Nat.le_of_ble_eq_true rfl, Nat.le_of_ble_eq_true rfl⟩ (gPerm_ix [0, 1, 2, 3, 4, 5, 6, 7, 8] rfl rfl) ?_
    refine g_if_eq (tgt := 50) E dX8_becomes_45 (by decide) (fun c => absurd c (by decide)) (fun _ => ?_)
    refine g_iconst (v := 0) E dX8_becomes_48 (by decide) ?_
    exact RET _ _ _ (qU (qU (qU q 0 1) 1 (nI n)) 5 (nI c), sg, rd, f, tr, dy, kp, ik, tn) (gRefP_mk (k := 1) (A := ((n, sg), S, (c, H), sl)) (by rw [fBecomes, if_neg c1]) rfl (fun e => absurd e (by decide)) ⟨rfl, rfl, hRR, rfl, hD, hKp⟩) rfl dX8_becomes_49

set_option maxHeartbeats 4000000 in
set_option maxRecDepth 100000 in
theorem mX8_save (G : gG) (m : Nat → Nat) (q : Nat → Int32) (n c : Nat) (sg : Nat → Int32) (S : gSt) (H : Nat → gSt) (sl : Nat → Option gSt) (rd f tr dy kp ik tn : Nat → Int32) (z : Int32) (hn12 : n ≤ 120) (hO : gOk 50000 S) (hc14 : c ≤ 14) (hHo : gHok 50000 c H) (hRR : RR S f) (hD : gDry c H dy) (hKp : gKpt sl kp ik) (hSok : gSok 50000 sl) : CI G yX8_save wsX8_save 1 25 [.ref (m 0), .int z] [(m 0, .inr (8, [.int (q 0), .ref (m 1), .int (nI n), .int (q 2), .int (q 3), .int (q 4), .ref (m 2), .ref (m 3), .ref (m 4), .ref (m 5), .int (nI c), .ref (m 6), .ref (m 7), .ref (m 8), .int (q 6), .int (q 7), .int (q 8)])), (m 1, .inl (gy G 0, 120, .inl sg)), (m 2, .inl (gy G 0, 271, .inl rd)), (m 3, .inl (gy G 0, 271, .inl f)), (m 4, .inl (gy G 0, 271, .inl tr)), (m 5, .inl (gy G 0, 3794, .inl dy)), (m 6, .inl (gy G 0, 542, .inl kp)), (m 7, .inl (gy G 2, 2, .inl ik)), (m 8, .inl (gy G 0, 10, .inl tn))] (gRefP (fSave ((n, sg), S, (c, H), sl) z)) (fun (u : gRu) => (wR G m u)) 0 0 := by
  refine g_enterI (ty := .int) RX8 rfl (by decide) rfl (Nat.le_of_ble_eq_true rfl) ?_
  intro V E RET
  have hK := hO.1
  have hJ := hK.1
  have hI := hJ.1
  have hT1 := hO.2.2
  have hT2 : sN S 0 < 200000000 := by omega
  have hT : sN S 0 < 1000000000 := by omega
  have hb2 := gI2_b2 hJ
  have hX := hI
  obtain ⟨hP8, hn, hw, hW8, hs3, hs4, hs5, hs6, hs7, hs8, hb34⟩ := hX
  refine g_aload_n E dX8_save_0 rfl 0 rfl ?_
  refine g_iload_n E dX8_save_1 rfl 1 rfl ?_
  refine g_i2l (v := z.toInt64) E dX8_save_2 rfl ?_
  refine g_lconst (v := 0) E dX8_save_3 (by decide) ?_
  refine g_lconst (v := 1) E dX8_save_4 (by decide) ?_
  refine g_callSIe (F := [(m 0, .inr (8, [.int (q 0), .ref (m 1), .int (nI n), .int (q 2), .int (q 3), .int (q 4), .ref (m 2), .ref (m 3), .ref (m 4), .ref (m 5), .int (nI c), .ref (m 6), .ref (m 7), .ref (m 8), .int (q 6), .int (q 7), .int (q 8)])), (m 1, .inl (gy G 0, 120, .inl sg)), (m 2, .inl (gy G 0, 271, .inl rd)), (m 3, .inl (gy G 0, 271, .inl f)), (m 4, .inl (gy G 0, 271, .inl tr)), (m 5, .inl (gy G 0, 3794, .inl dy)), (m 6, .inl (gy G 0, 542, .inl kp)), (m 7, .inl (gy G 2, 2, .inl ik)), (m 8, .inl (gy G 0, 10, .inl tn))]) (ws2 := [(m 0, .inr (8, [.int (q 0), .ref (m 1), .int (nI n), .int (q 2), .int (q 3), .int (q 4), .ref (m 2), .ref (m 3), .ref (m 4), .ref (m 5), .int (nI c), .ref (m 6), .ref (m 7), .ref (m 8), .int (q 6), .int (q 7), .int (q 8)])), (m 1, .inl (gy G 0, 120, .inl sg)), (m 2, .inl (gy G 0, 271, .inl rd)), (m 3, .inl (gy G 0, 271, .inl f)), (m 4, .inl (gy G 0, 271, .inl tr)), (m 5, .inl (gy G 0, 3794, .inl dy)), (m 6, .inl (gy G 0, 542, .inl kp)), (m 7, .inl (gy G 2, 2, .inl ik)), (m 8, .inl (gy G 0, 10, .inl tn))]) E (g_resI (gIn64 (lo := 0) (hi := 1) rfl rfl) (mX8_in G z.toInt64 0 1)) gX8_save_X8_in rfl hnX8_in ⟨Nat.le_of_ble_eq_true rfl, Nat.le_of_ble_eq_true rfl⟩ (gPerm_ix [0, 1, 2, 3, 4, 5, 6, 7, 8] rfl rfl) rfl rfl (Nat.le_of_ble_eq_true rfl) dX8_save_5 ⟨Nat.le_of_ble_eq_true rfl, Nat.le_of_ble_eq_true rfl⟩ (gPerm_ix [0, 1, 2, 3, 4, 5, 6, 7, 8] rfl rfl) ?_
  refine g_if_eqB (tgt := 15) (P := (¬ z < 0 ∧ ¬ 1 < z)) E dX8_save_8 (by decide) (fun c1 => ?_) (fun c1 => ?_)
  · skip
    refine g_iconst (v := 1) E dX8_save_15 (by decide) ?_
    refine g_callVIe (F := [(m 1, .inl (gy G 0, 120, .inl sg)), (m 2, .inl (gy G 0, 271, .inl rd)), (m 3, .inl (gy G 0, 271, .inl f)), (m 4, .inl (gy G 0, 271, .inl tr)), (m 5, .inl (gy G 0, 3794, .inl dy)), (m 6, .inl (gy G 0, 542, .inl kp)), (m 7, .inl (gy G 2, 2, .inl ik)), (m 8, .inl (gy G 0, 10, .inl tn))]) (ws2 := [(m 0, .inr (8, [.int 1, .ref (m 1), .int (nI n), .int (q 2), .int (q 3), .int (q 4), .ref (m 2), .ref (m 3), .ref (m 4), .ref (m 5), .int (nI c), .ref (m 6), .ref (m 7), .ref (m 8), .int (q 6), .int (q 7), .int (q 8)])), (m 1, .inl (gy G 0, 120, .inl sg)), (m 2, .inl (gy G 0, 271, .inl rd)), (m 3, .inl (gy G 0, 271, .inl f)), (m 4, .inl (gy G 0, 271, .inl tr)), (m 5, .inl (gy G 0, 3794, .inl dy)), (m 6, .inl (gy G 0, 542, .inl kp)), (m 7, .inl (gy G 2, 2, .inl ik)), (m 8, .inl (gy G 0, 10, .inl tn))]) E (mX8_refused G m (qU (qU q 1 (nI n)) 5 (nI c)) 1) gX8_save_X8_refused rfl hdX8_refused ⟨Nat.le_of_ble_eq_true rfl, Nat.le_of_ble_eq_true rfl⟩ 8 0 rfl rfl rfl (gPerm_ix [0, 1, 2, 3, 4, 5, 6, 7, 8] rfl rfl) rfl rfl (Nat.le_of_ble_eq_true rfl) dX8_save_16 ⟨Nat.le_of_ble_eq_true rfl, Nat.le_of_ble_eq_true rfl⟩ (gPerm_ix [0, 1, 2, 3, 4, 5, 6, 7, 8] rfl rfl) ?_
    refine g_if_eq (tgt := 24) E dX8_save_19 (by decide) (fun c => absurd c (by decide)) (fun _ => ?_)
    refine g_iconst (v := 0) E dX8_save_22 (by decide) ?_
    exact RET _ _ _ (qU (qU (qU q 0 1) 1 (nI n)) 5 (nI c), sg, rd, f, tr, dy, kp, ik, tn) (gRefP_mk (k := 1) (A := ((n, sg), S, (c, H), sl)) (by rw [fSave, if_neg c1]) rfl (fun e => absurd e (by decide)) ⟨rfl, rfl, hRR, rfl, hD, hKp⟩) rfl dX8_save_23
  · skip
    obtain ⟨j, hj, rfl⟩ := gNat_ofl (m := 1) c1 rfl rfl (by decide)
    refine g_iconst (v := 0) E dX8_save_11 (by decide) ?_
    refine g_goto (tgt := 16) E dX8_save_12 (by decide) ?_
    refine g_callVIe (F := [(m 1, .inl (gy G 0, 120, .inl sg)), (m 2, .inl (gy G 0, 271, .inl rd)), (m 3, .inl (gy G 0, 271, .inl f)), (m 4, .inl (gy G 0, 271, .inl tr)), (m 5, .inl (gy G 0, 3794, .inl dy)), (m 6, .inl (gy G 0, 542, .inl kp)), (m 7, .inl (gy G 2, 2, .inl ik)), (m 8, .inl (gy G 0, 10, .inl tn))]) (ws2 := [(m 0, .inr (8, [.int 0, .ref (m 1), .int (nI n), .int (q 2), .int (q 3), .int (q 4), .ref (m 2), .ref (m 3), .ref (m 4), .ref (m 5), .int (nI c), .ref (m 6), .ref (m 7), .ref (m 8), .int (q 6), .int (q 7), .int (q 8)])), (m 1, .inl (gy G 0, 120, .inl sg)), (m 2, .inl (gy G 0, 271, .inl rd)), (m 3, .inl (gy G 0, 271, .inl f)), (m 4, .inl (gy G 0, 271, .inl tr)), (m 5, .inl (gy G 0, 3794, .inl dy)), (m 6, .inl (gy G 0, 542, .inl kp)), (m 7, .inl (gy G 2, 2, .inl ik)), (m 8, .inl (gy G 0, 10, .inl tn))]) E (mX8_refused G m (qU (qU q 1 (nI n)) 5 (nI c)) 0) gX8_save_X8_refused rfl hdX8_refused ⟨Nat.le_of_ble_eq_true rfl, Nat.le_of_ble_eq_true rfl⟩ 8 0 rfl rfl rfl (gPerm_ix [0, 1, 2, 3, 4, 5, 6, 7, 8] rfl rfl) rfl rfl (Nat.le_of_ble_eq_true rfl) dX8_save_16 ⟨Nat.le_of_ble_eq_true rfl, Nat.le_of_ble_eq_true rfl⟩ (gPerm_ix [0, 1, 2, 3, 4, 5, 6, 7, 8] rfl rfl) ?_
    refine g_if_eq (tgt := 24) E dX8_save_19 (by decide) (fun _ => ?_) (fun c => absurd c (by decide))
    refine g_aload_n E dX8_save_24 rfl 0 rfl ?_
    refine g_get E uX8_save_RX8 0 rfl rfl 7 (by decide) kX8_save_16 rfl rfl dX8_save_25 ?_
    refine g_iconst (v := 0) E dX8_save_28 (by decide) ?_
    refine g_aload_n E dX8_save_29 rfl 0 rfl ?_
    refine g_get E uX8_save_RX8 0 rfl rfl 11 (by decide) kX8_save_25 rfl rfl dX8_save_30 ?_
    refine g_sipush (v := 271) E dX8_save_33 (by decide) ?_
    refine g_iload_n E dX8_save_36 rfl 1 rfl ?_
    refine g_imulN (a := 271) (b := j) E dX8_save_37 ?_
    refine g_sipush (v := 271) E dX8_save_38 (by decide) ?_
    refine g_callSVe (F := [(m 0, .inr (8, [.int 0, .ref (m 1), .int (nI n), .int (q 2), .int (q 3), .int (q 4), .ref (m 2), .ref (m 3), .ref (m 4), .ref (m 5), .int (nI c), .ref (m 6), .ref (m 7), .ref (m 8), .int (q 6), .int (q 7), .int (q 8)])), (m 1, .inl (gy G 0, 120, .inl sg)), (m 2, .inl (gy G 0, 271, .inl rd)), (m 4, .inl (gy G 0, 271, .inl tr)), (m 5, .inl (gy G 0, 3794, .inl dy)), (m 7, .inl (gy G 2, 2, .inl ik)), (m 8, .inl (gy G 0, 10, .inl tn))]) (ws2 := [(m 0, .inr (8, [.int 0, .ref (m 1), .int (nI n), .int (q 2), .int (q 3), .int (q 4), .ref (m 2), .ref (m 3), .ref (m 4), .ref (m 5), .int (nI c), .ref (m 6), .ref (m 7), .ref (m 8), .int (q 6), .int (q 7), .int (q 8)])), (m 1, .inl (gy G 0, 120, .inl sg)), (m 2, .inl (gy G 0, 271, .inl rd)), (m 3, .inl (gy G 0, 271, .inl f)), (m 4, .inl (gy G 0, 271, .inl tr)), (m 5, .inl (gy G 0, 3794, .inl dy)), (m 6, .inl (gy G 0, 542, .inl (va_cpy f kp 0 (271 * j) 271))), (m 7, .inl (gy G 2, 2, .inl ik)), (m 8, .inl (gy G 0, 10, .inl tn))]) E (mX8_copyF G (m 3) (m 6) f kp 0 (271 * j) 271 (by omega) (by omega)) gX8_save_X8_copy rfl hnX8_copy ⟨Nat.le_of_ble_eq_true rfl, Nat.le_of_ble_eq_true rfl⟩ (gPerm_ix [3, 6, 0, 1, 2, 4, 5, 7, 8] rfl rfl) rfl rfl (Nat.le_of_ble_eq_true rfl) dX8_save_41 ⟨Nat.le_of_ble_eq_true rfl, Nat.le_of_ble_eq_true rfl⟩ (gPerm_ix [2, 3, 4, 0, 5, 6, 1, 7, 8] rfl rfl) ?_
    refine g_aload_n E dX8_save_44 rfl 0 rfl ?_
    refine g_get E uX8_save_RX8 0 rfl rfl 12 (by decide) kX8_save_28 rfl rfl dX8_save_45 ?_
    refine g_iload_n E dX8_save_48 rfl 1 rfl ?_
    refine g_iconst (v := 1) E dX8_save_49 (by decide) ?_
    refine g_zast (ws' := [(m 0, .inr (8, [.int 0, .ref (m 1), .int (nI n), .int (q 2), .int (q 3), .int (q 4), .ref (m 2), .ref (m 3), .ref (m 4), .ref (m 5), .int (nI c), .ref (m 6), .ref (m 7), .ref (m 8), .int (q 6), .int (q 7), .int (q 8)])), (m 1, .inl (gy G 0, 120, .inl sg)), (m 2, .inl (gy G 0, 271, .inl rd)), (m 3, .inl (gy G 0, 271, .inl f)), (m 4, .inl (gy G 0, 271, .inl tr)), (m 5, .inl (gy G 0, 3794, .inl dy)), (m 6, .inl (gy G 0, 542, .inl (va_cpy f kp 0 (271 * j) 271))), (m 7, .inl (gy G 2, 2, .inl (upd ik j 1))), (m 8, .inl (gy G 0, 10, .inl tn))]) (j := j) (y := 1) E 7 rfl (g_in (e := j) (by omega) rfl) (nI_clamp (n := j) (by omega)) rfl rfl dX8_save_50 ?_
    refine g_aload_n E dX8_save_51 rfl 0 rfl ?_
    refine g_get E uX8_save_RX8 0 rfl rfl 7 (by decide) kX8_save_16 rfl rfl dX8_save_52 ?_
    refine g_iconst (v := 0) E dX8_save_55 (by decide) ?_
    refine g_ialdN (e := 0) E 3 rfl (by omega) rfl (v := nI (sN S 0)) (RR_0 hRR) dX8_save_56 ?_
    exact RET _ _ _ (qU (qU (qU q 0 0) 1 (nI n)) 5 (nI c), sg, rd, f, tr, dy, va_cpy f kp 0 (271 * j) 271, upd ik j 1, tn) (gRefP_mk (k := 0) (A := ((n, sg), S, (c, H), fun i => if i = j then some S else sl i)) (by rw [fSave, if_pos c1, nI_clamp (by omega)]) rfl (fun _ => rfl) ⟨rfl, rfl, hRR, rfl, hD, (gKpt_save hKp hRR hI hSok hj)⟩) rfl dX8_save_57

set_option maxHeartbeats 4000000 in
set_option maxRecDepth 100000 in
theorem mX8_restore (G : gG) (m : Nat → Nat) (q : Nat → Int32) (n c : Nat) (sg : Nat → Int32) (S : gSt) (H : Nat → gSt) (sl : Nat → Option gSt) (rd f tr dy kp ik tn : Nat → Int32) (z : Int32) (hn12 : n ≤ 120) (hO : gOk 50000 S) (hc14 : c ≤ 14) (hHo : gHok 50000 c H) (hRR : RR S f) (hD : gDry c H dy) (hKp : gKpt sl kp ik) (hSok : gSok 50000 sl) : CI G yX8_restore wsX8_restore 1 25 [.ref (m 0), .int z] [(m 0, .inr (8, [.int (q 0), .ref (m 1), .int (nI n), .int (q 2), .int (q 3), .int (q 4), .ref (m 2), .ref (m 3), .ref (m 4), .ref (m 5), .int (nI c), .ref (m 6), .ref (m 7), .ref (m 8), .int (q 6), .int (q 7), .int (q 8)])), (m 1, .inl (gy G 0, 120, .inl sg)), (m 2, .inl (gy G 0, 271, .inl rd)), (m 3, .inl (gy G 0, 271, .inl f)), (m 4, .inl (gy G 0, 271, .inl tr)), (m 5, .inl (gy G 0, 3794, .inl dy)), (m 6, .inl (gy G 0, 542, .inl kp)), (m 7, .inl (gy G 2, 2, .inl ik)), (m 8, .inl (gy G 0, 10, .inl tn))] (gRefP (fRest ((n, sg), S, (c, H), sl) z)) (fun (u : gRu) => (wR G m u)) 0 0 := by
  refine g_enterI (ty := .int) RX8 rfl (by decide) rfl (Nat.le_of_ble_eq_true rfl) ?_
  intro V E RET
  have hK := hO.1
  have hJ := hK.1
  have hI := hJ.1
  have hT1 := hO.2.2
  have hT2 : sN S 0 < 200000000 := by omega
  have hT : sN S 0 < 1000000000 := by omega
  have hb2 := gI2_b2 hJ
  have hX := hI
  obtain ⟨hP8, hn, hw, hW8, hs3, hs4, hs5, hs6, hs7, hs8, hb34⟩ := hX
  refine g_aload_n E dX8_restore_0 rfl 0 rfl ?_
  refine g_iload_n E dX8_restore_1 rfl 1 rfl ?_
  refine g_i2l (v := z.toInt64) E dX8_restore_2 rfl ?_
  refine g_lconst (v := 0) E dX8_restore_3 (by decide) ?_
  refine g_lconst (v := 1) E dX8_restore_4 (by decide) ?_
  refine g_callSIe (F := [(m 0, .inr (8, [.int (q 0), .ref (m 1), .int (nI n), .int (q 2), .int (q 3), .int (q 4), .ref (m 2), .ref (m 3), .ref (m 4), .ref (m 5), .int (nI c), .ref (m 6), .ref (m 7), .ref (m 8), .int (q 6), .int (q 7), .int (q 8)])), (m 1, .inl (gy G 0, 120, .inl sg)), (m 2, .inl (gy G 0, 271, .inl rd)), (m 3, .inl (gy G 0, 271, .inl f)), (m 4, .inl (gy G 0, 271, .inl tr)), (m 5, .inl (gy G 0, 3794, .inl dy)), (m 6, .inl (gy G 0, 542, .inl kp)), (m 7, .inl (gy G 2, 2, .inl ik)), (m 8, .inl (gy G 0, 10, .inl tn))]) (ws2 := [(m 0, .inr (8, [.int (q 0), .ref (m 1), .int (nI n), .int (q 2), .int (q 3), .int (q 4), .ref (m 2), .ref (m 3), .ref (m 4), .ref (m 5), .int (nI c), .ref (m 6), .ref (m 7), .ref (m 8), .int (q 6), .int (q 7), .int (q 8)])), (m 1, .inl (gy G 0, 120, .inl sg)), (m 2, .inl (gy G 0, 271, .inl rd)), (m 3, .inl (gy G 0, 271, .inl f)), (m 4, .inl (gy G 0, 271, .inl tr)), (m 5, .inl (gy G 0, 3794, .inl dy)), (m 6, .inl (gy G 0, 542, .inl kp)), (m 7, .inl (gy G 2, 2, .inl ik)), (m 8, .inl (gy G 0, 10, .inl tn))]) E (g_resI (gIn64 (lo := 0) (hi := 1) rfl rfl) (mX8_in G z.toInt64 0 1)) gX8_restore_X8_in rfl hnX8_in ⟨Nat.le_of_ble_eq_true rfl, Nat.le_of_ble_eq_true rfl⟩ (gPerm_ix [0, 1, 2, 3, 4, 5, 6, 7, 8] rfl rfl) rfl rfl (Nat.le_of_ble_eq_true rfl) dX8_restore_5 ⟨Nat.le_of_ble_eq_true rfl, Nat.le_of_ble_eq_true rfl⟩ (gPerm_ix [0, 1, 2, 3, 4, 5, 6, 7, 8] rfl rfl) ?_
  refine g_if_neB (tgt := 15) (P := (¬ z < 0 ∧ ¬ 1 < z)) E dX8_restore_8 (by decide) (fun c1 => ?_) (fun c1 => ?_)
  · skip
    obtain ⟨j, hj, rfl⟩ := gNat_ofl (m := 1) c1 rfl rfl (by decide)
    refine g_aload_n E dX8_restore_15 rfl 0 rfl ?_
    refine g_get E uX8_restore_RX8 0 rfl rfl 12 (by decide) kX8_restore_28 rfl rfl dX8_restore_16 ?_
    refine g_iload_n E dX8_restore_19 rfl 1 rfl ?_
    refine g_zaldN (e := j) E 7 rfl (by omega) rfl (v := ik j) rfl dX8_restore_20 ?_
    rcases hsl : sl j with _ | T
    · skip
      refine g_top (y := 0) ((hKp j hj).1 hsl) ?_
      refine g_if_eq (tgt := 28) E dX8_restore_21 (by decide) (fun _ => ?_) (fun c => absurd c (by decide))
      refine g_iconst (v := 2) E dX8_restore_28 (by decide) ?_
      refine g_callVIe (F := [(m 1, .inl (gy G 0, 120, .inl sg)), (m 2, .inl (gy G 0, 271, .inl rd)), (m 3, .inl (gy G 0, 271, .inl f)), (m 4, .inl (gy G 0, 271, .inl tr)), (m 5, .inl (gy G 0, 3794, .inl dy)), (m 6, .inl (gy G 0, 542, .inl kp)), (m 7, .inl (gy G 2, 2, .inl ik)), (m 8, .inl (gy G 0, 10, .inl tn))]) (ws2 := [(m 0, .inr (8, [.int 2, .ref (m 1), .int (nI n), .int (q 2), .int (q 3), .int (q 4), .ref (m 2), .ref (m 3), .ref (m 4), .ref (m 5), .int (nI c), .ref (m 6), .ref (m 7), .ref (m 8), .int (q 6), .int (q 7), .int (q 8)])), (m 1, .inl (gy G 0, 120, .inl sg)), (m 2, .inl (gy G 0, 271, .inl rd)), (m 3, .inl (gy G 0, 271, .inl f)), (m 4, .inl (gy G 0, 271, .inl tr)), (m 5, .inl (gy G 0, 3794, .inl dy)), (m 6, .inl (gy G 0, 542, .inl kp)), (m 7, .inl (gy G 2, 2, .inl ik)), (m 8, .inl (gy G 0, 10, .inl tn))]) E (mX8_refused G m (qU (qU q 1 (nI n)) 5 (nI c)) 2) gX8_restore_X8_refused rfl hdX8_refused ⟨Nat.le_of_ble_eq_true rfl, Nat.le_of_ble_eq_true rfl⟩ 8 0 rfl rfl rfl (gPerm_ix [0, 1, 2, 3, 4, 5, 6, 7, 8] rfl rfl) rfl rfl (Nat.le_of_ble_eq_true rfl) dX8_restore_29 ⟨Nat.le_of_ble_eq_true rfl, Nat.le_of_ble_eq_true rfl⟩ (gPerm_ix [0, 1, 2, 3, 4, 5, 6, 7, 8] rfl rfl) ?_
      refine g_if_eq (tgt := 37) E dX8_restore_32 (by decide) (fun c => absurd c (by decide)) (fun _ => ?_)
      refine g_iconst (v := 0) E dX8_restore_35 (by decide) ?_
      exact RET _ _ _ (qU (qU (qU q 0 2) 1 (nI n)) 5 (nI c), sg, rd, f, tr, dy, kp, ik, tn) (gRefP_mk (k := 2) (A := ((n, sg), S, (c, H), sl)) (by rw [fRest, if_pos c1, nI_clamp (by omega)]; show (match sl j with | none => _ | some T => _) = _; rw [hsl]) rfl (fun e => absurd e (by decide)) ⟨rfl, rfl, hRR, rfl, hD, hKp⟩) rfl dX8_restore_36
    · skip
      refine g_top (y := 1) ((hKp j hj).2 T hsl).1 ?_
      have hRk := ((hKp j hj).2 T hsl).2
      have hOk := hSok j hj T hsl
      refine g_if_eq (tgt := 28) E dX8_restore_21 (by decide) (fun c => absurd c (by decide)) (fun _ => ?_)
      refine g_iconst (v := 0) E dX8_restore_24 (by decide) ?_
      refine g_goto (tgt := 29) E dX8_restore_25 (by decide) ?_
      refine g_callVIe (F := [(m 1, .inl (gy G 0, 120, .inl sg)), (m 2, .inl (gy G 0, 271, .inl rd)), (m 3, .inl (gy G 0, 271, .inl f)), (m 4, .inl (gy G 0, 271, .inl tr)), (m 5, .inl (gy G 0, 3794, .inl dy)), (m 6, .inl (gy G 0, 542, .inl kp)), (m 7, .inl (gy G 2, 2, .inl ik)), (m 8, .inl (gy G 0, 10, .inl tn))]) (ws2 := [(m 0, .inr (8, [.int 0, .ref (m 1), .int (nI n), .int (q 2), .int (q 3), .int (q 4), .ref (m 2), .ref (m 3), .ref (m 4), .ref (m 5), .int (nI c), .ref (m 6), .ref (m 7), .ref (m 8), .int (q 6), .int (q 7), .int (q 8)])), (m 1, .inl (gy G 0, 120, .inl sg)), (m 2, .inl (gy G 0, 271, .inl rd)), (m 3, .inl (gy G 0, 271, .inl f)), (m 4, .inl (gy G 0, 271, .inl tr)), (m 5, .inl (gy G 0, 3794, .inl dy)), (m 6, .inl (gy G 0, 542, .inl kp)), (m 7, .inl (gy G 2, 2, .inl ik)), (m 8, .inl (gy G 0, 10, .inl tn))]) E (mX8_refused G m (qU (qU q 1 (nI n)) 5 (nI c)) 0) gX8_restore_X8_refused rfl hdX8_refused ⟨Nat.le_of_ble_eq_true rfl, Nat.le_of_ble_eq_true rfl⟩ 8 0 rfl rfl rfl (gPerm_ix [0, 1, 2, 3, 4, 5, 6, 7, 8] rfl rfl) rfl rfl (Nat.le_of_ble_eq_true rfl) dX8_restore_29 ⟨Nat.le_of_ble_eq_true rfl, Nat.le_of_ble_eq_true rfl⟩ (gPerm_ix [0, 1, 2, 3, 4, 5, 6, 7, 8] rfl rfl) ?_
      refine g_if_eq (tgt := 37) E dX8_restore_32 (by decide) (fun _ => ?_) (fun c => absurd c (by decide))
      refine g_aload_n E dX8_restore_37 rfl 0 rfl ?_
      refine g_get E uX8_restore_RX8 0 rfl rfl 11 (by decide) kX8_restore_25 rfl rfl dX8_restore_38 ?_
      refine g_sipush (v := 271) E dX8_restore_41 (by decide) ?_
      refine g_iload_n E dX8_restore_44 rfl 1 rfl ?_
      refine g_imulN (a := 271) (b := j) E dX8_restore_45 ?_
      refine g_aload_n E dX8_restore_46 rfl 0 rfl ?_
      refine g_get E uX8_restore_RX8 0 rfl rfl 7 (by decide) kX8_restore_16 rfl rfl dX8_restore_47 ?_
      refine g_iconst (v := 0) E dX8_restore_50 (by decide) ?_
      refine g_sipush (v := 271) E dX8_restore_51 (by decide) ?_
      refine g_callSVe (F := [(m 0, .inr (8, [.int 0, .ref (m 1), .int (nI n), .int (q 2), .int (q 3), .int (q 4), .ref (m 2), .ref (m 3), .ref (m 4), .ref (m 5), .int (nI c), .ref (m 6), .ref (m 7), .ref (m 8), .int (q 6), .int (q 7), .int (q 8)])), (m 1, .inl (gy G 0, 120, .inl sg)), (m 2, .inl (gy G 0, 271, .inl rd)), (m 4, .inl (gy G 0, 271, .inl tr)), (m 5, .inl (gy G 0, 3794, .inl dy)), (m 7, .inl (gy G 2, 2, .inl ik)), (m 8, .inl (gy G 0, 10, .inl tn))]) (ws2 := [(m 0, .inr (8, [.int 0, .ref (m 1), .int (nI n), .int (q 2), .int (q 3), .int (q 4), .ref (m 2), .ref (m 3), .ref (m 4), .ref (m 5), .int (nI c), .ref (m 6), .ref (m 7), .ref (m 8), .int (q 6), .int (q 7), .int (q 8)])), (m 1, .inl (gy G 0, 120, .inl sg)), (m 2, .inl (gy G 0, 271, .inl rd)), (m 3, .inl (gy G 0, 271, .inl (va_cpy kp f (271 * j) 0 271))), (m 4, .inl (gy G 0, 271, .inl tr)), (m 5, .inl (gy G 0, 3794, .inl dy)), (m 6, .inl (gy G 0, 542, .inl kp)), (m 7, .inl (gy G 2, 2, .inl ik)), (m 8, .inl (gy G 0, 10, .inl tn))]) E (mX8_copyG G (m 6) (m 3) kp f (271 * j) 0 271 (by omega) (by omega)) gX8_restore_X8_copy rfl hnX8_copy ⟨Nat.le_of_ble_eq_true rfl, Nat.le_of_ble_eq_true rfl⟩ (gPerm_ix [6, 3, 0, 1, 2, 4, 5, 7, 8] rfl rfl) rfl rfl (Nat.le_of_ble_eq_true rfl) dX8_restore_54 ⟨Nat.le_of_ble_eq_true rfl, Nat.le_of_ble_eq_true rfl⟩ (gPerm_ix [2, 3, 4, 1, 5, 6, 0, 7, 8] rfl rfl) ?_
      have hRT : RR T (va_cpy kp f (271 * j) 0 271) := RR_cg hRk hOk.1.1.1 (fun i hi => by show va_cpy kp f (271 * j) 0 271 i = kp (271 * j + i); unfold va_cpy; rw [if_pos (by omega), Nat.sub_zero])
      refine g_aload_n E dX8_restore_57 rfl 0 rfl ?_
      refine g_iconst (v := 0) E dX8_restore_58 (by decide) ?_
      refine g_put (ws' := [(m 0, .inr (8, [.int 0, .ref (m 1), .int (nI n), .int (q 2), .int (q 3), .int (q 4), .ref (m 2), .ref (m 3), .ref (m 4), .ref (m 5), .int 0, .ref (m 6), .ref (m 7), .ref (m 8), .int (q 6), .int (q 7), .int (q 8)])), (m 1, .inl (gy G 0, 120, .inl sg)), (m 2, .inl (gy G 0, 271, .inl rd)), (m 3, .inl (gy G 0, 271, .inl (va_cpy kp f (271 * j) 0 271))), (m 4, .inl (gy G 0, 271, .inl tr)), (m 5, .inl (gy G 0, 3794, .inl dy)), (m 6, .inl (gy G 0, 542, .inl kp)), (m 7, .inl (gy G 2, 2, .inl ik)), (m 8, .inl (gy G 0, 10, .inl tn))]) E uX8_restore_RX8 tyX8 tyX8_ok nmX8 0 rfl rfl 10 (by decide) kX8_restore_45 rfl rfl rfl rfl (Nat.le_of_ble_eq_true rfl) rfl dX8_restore_59 ?_
      refine g_aload_n E dX8_restore_62 rfl 0 rfl ?_
      refine g_get E uX8_restore_RX8 0 rfl rfl 7 (by decide) kX8_restore_16 rfl rfl dX8_restore_63 ?_
      refine g_iconst (v := 0) E dX8_restore_66 (by decide) ?_
      refine g_ialdN (e := 0) E 3 rfl (by omega) rfl (v := nI (sN T 0)) (RR_0 hRT) dX8_restore_67 ?_
      exact RET _ _ _ (qU (qU (qU q 0 0) 1 (nI n)) 5 0, sg, rd, va_cpy kp f (271 * j) 0 271, tr, dy, kp, ik, tn) (gRefP_mk (k := 0) (A := ((n, sg), T, (0, H), sl)) (by rw [fRest, if_pos c1, nI_clamp (by omega)]; show (match sl j with | none => _ | some T => _) = _; rw [hsl]) rfl (fun _ => rfl) ⟨rfl, rfl, hRT, rfl, (fun i hi => absurd hi (Nat.not_lt_zero i)), hKp⟩) rfl dX8_restore_68
  · skip
    refine g_iconst (v := 1) E dX8_restore_11 (by decide) ?_
    refine g_goto (tgt := 29) E dX8_restore_12 (by decide) ?_
    refine g_callVIe (F := [(m 1, .inl (gy G 0, 120, .inl sg)), (m 2, .inl (gy G 0, 271, .inl rd)), (m 3, .inl (gy G 0, 271, .inl f)), (m 4, .inl (gy G 0, 271, .inl tr)), (m 5, .inl (gy G 0, 3794, .inl dy)), (m 6, .inl (gy G 0, 542, .inl kp)), (m 7, .inl (gy G 2, 2, .inl ik)), (m 8, .inl (gy G 0, 10, .inl tn))]) (ws2 := [(m 0, .inr (8, [.int 1, .ref (m 1), .int (nI n), .int (q 2), .int (q 3), .int (q 4), .ref (m 2), .ref (m 3), .ref (m 4), .ref (m 5), .int (nI c), .ref (m 6), .ref (m 7), .ref (m 8), .int (q 6), .int (q 7), .int (q 8)])), (m 1, .inl (gy G 0, 120, .inl sg)), (m 2, .inl (gy G 0, 271, .inl rd)), (m 3, .inl (gy G 0, 271, .inl f)), (m 4, .inl (gy G 0, 271, .inl tr)), (m 5, .inl (gy G 0, 3794, .inl dy)), (m 6, .inl (gy G 0, 542, .inl kp)), (m 7, .inl (gy G 2, 2, .inl ik)), (m 8, .inl (gy G 0, 10, .inl tn))]) E (mX8_refused G m (qU (qU q 1 (nI n)) 5 (nI c)) 1) gX8_restore_X8_refused rfl hdX8_refused ⟨Nat.le_of_ble_eq_true rfl, Nat.le_of_ble_eq_true rfl⟩ 8 0 rfl rfl rfl (gPerm_ix [0, 1, 2, 3, 4, 5, 6, 7, 8] rfl rfl) rfl rfl (Nat.le_of_ble_eq_true rfl) dX8_restore_29 ⟨Nat.le_of_ble_eq_true rfl, Nat.le_of_ble_eq_true rfl⟩ (gPerm_ix [0, 1, 2, 3, 4, 5, 6, 7, 8] rfl rfl) ?_
    refine g_if_eq (tgt := 37) E dX8_restore_32 (by decide) (fun c => absurd c (by decide)) (fun _ => ?_)
    refine g_iconst (v := 0) E dX8_restore_35 (by decide) ?_
    exact RET _ _ _ (qU (qU (qU q 0 1) 1 (nI n)) 5 (nI c), sg, rd, f, tr, dy, kp, ik, tn) (gRefP_mk (k := 1) (A := ((n, sg), S, (c, H), sl)) (by rw [fRest, if_neg c1]) rfl (fun e => absurd e (by decide)) ⟨rfl, rfl, hRR, rfl, hD, hKp⟩) rfl dX8_restore_36

set_option maxHeartbeats 4000000 in
set_option maxRecDepth 100000 in
theorem mX8_runScript (G : gG) (m : Nat → Nat) (q : Nat → Int32) (n c : Nat) (sg : Nat → Int32) (S : gSt) (H : Nat → gSt) (sl : Nat → Option gSt) (rd f tr dy kp ik tn : Nat → Int32) (n0 : Int32) (x : Int64) (hn12 : n ≤ 120) (hO : gOk 50000 S) (hc14 : c ≤ 14) (hHo : gHok 50000 c H) (hRR : RR S f) (hD : gDry c H dy) (hKp : gKpt sl kp ik) : CI G yX8_runScript wsX8_runScript 10 239 [.ref (m 0), .int n0, .long x] [(m 0, .inr (8, [.int (q 0), .ref (m 1), .int (nI n), .int (q 2), .int (q 3), .int (q 4), .ref (m 2), .ref (m 3), .ref (m 4), .ref (m 5), .int (nI c), .ref (m 6), .ref (m 7), .ref (m 8), .int (q 6), .int (q 7), .int (q 8)])), (m 1, .inl (gy G 0, 120, .inl sg)), (m 2, .inl (gy G 0, 271, .inl rd)), (m 3, .inl (gy G 0, 271, .inl f)), (m 4, .inl (gy G 0, 271, .inl tr)), (m 5, .inl (gy G 0, 3794, .inl dy)), (m 6, .inl (gy G 0, 542, .inl kp)), (m 7, .inl (gy G 2, 2, .inl ik)), (m 8, .inl (gy G 0, 10, .inl tn))] (gRefP (fScript ((n, sg), S, (c, H), sl) n0 x)) (fun (u : gRu) => (wR G m u)) 0 0 := by
  refine g_enterI (ty := .int) RX8 rfl (by decide) rfl (Nat.le_of_ble_eq_true rfl) ?_
  intro V E RET
  have hK := hO.1
  have hJ := hK.1
  have hI := hJ.1
  have hT1 := hO.2.2
  have hT2 : sN S 0 < 200000000 := by omega
  have hT : sN S 0 < 1000000000 := by omega
  have hb2 := gI2_b2 hJ
  have hX := hI
  obtain ⟨hP8, hn, hw, hW8, hs3, hs4, hs5, hs6, hs7, hs8, hb34⟩ := hX
  refine g_iload_n E dX8_runScript_0 rfl 1 rfl ?_
  refine g_i2l (v := n0.toInt64) E dX8_runScript_1 rfl ?_
  refine g_lconst (v := 1) E dX8_runScript_2 (by decide) ?_
  refine g_ldc2 (v := 3) E kX8_runScript_276 dX8_runScript_3 ?_
  refine g_callSIe (F := [(m 0, .inr (8, [.int (q 0), .ref (m 1), .int (nI n), .int (q 2), .int (q 3), .int (q 4), .ref (m 2), .ref (m 3), .ref (m 4), .ref (m 5), .int (nI c), .ref (m 6), .ref (m 7), .ref (m 8), .int (q 6), .int (q 7), .int (q 8)])), (m 1, .inl (gy G 0, 120, .inl sg)), (m 2, .inl (gy G 0, 271, .inl rd)), (m 3, .inl (gy G 0, 271, .inl f)), (m 4, .inl (gy G 0, 271, .inl tr)), (m 5, .inl (gy G 0, 3794, .inl dy)), (m 6, .inl (gy G 0, 542, .inl kp)), (m 7, .inl (gy G 2, 2, .inl ik)), (m 8, .inl (gy G 0, 10, .inl tn))]) (ws2 := [(m 0, .inr (8, [.int (q 0), .ref (m 1), .int (nI n), .int (q 2), .int (q 3), .int (q 4), .ref (m 2), .ref (m 3), .ref (m 4), .ref (m 5), .int (nI c), .ref (m 6), .ref (m 7), .ref (m 8), .int (q 6), .int (q 7), .int (q 8)])), (m 1, .inl (gy G 0, 120, .inl sg)), (m 2, .inl (gy G 0, 271, .inl rd)), (m 3, .inl (gy G 0, 271, .inl f)), (m 4, .inl (gy G 0, 271, .inl tr)), (m 5, .inl (gy G 0, 3794, .inl dy)), (m 6, .inl (gy G 0, 542, .inl kp)), (m 7, .inl (gy G 2, 2, .inl ik)), (m 8, .inl (gy G 0, 10, .inl tn))]) E (g_resI (gIn64 (lo := 1) (hi := 3) rfl rfl) (mX8_in G n0.toInt64 1 3)) gX8_runScript_X8_in rfl hnX8_in ⟨Nat.le_of_ble_eq_true rfl, Nat.le_of_ble_eq_true rfl⟩ (gPerm_ix [0, 1, 2, 3, 4, 5, 6, 7, 8] rfl rfl) rfl rfl (Nat.le_of_ble_eq_true rfl) dX8_runScript_6 ⟨Nat.le_of_ble_eq_true rfl, Nat.le_of_ble_eq_true rfl⟩ (gPerm_ix [0, 1, 2, 3, 4, 5, 6, 7, 8] rfl rfl) ?_
  by_cases c1 : (¬ n0 < 1 ∧ ¬ 3 < n0)
  · skip
    refine g_top (y := 1) (if_pos c1) ?_
    obtain ⟨j, hj0, hj, rfl⟩ := nI_ofl1 (m := 3) c1 rfl rfl (by decide)
    refine g_istore (lv' := [(4, .int 1), (0, .ref (m 0)), (1, .int (nI j)), (2, .long x)]) E dX8_runScript_9 (by decide) rfl ?_
    refine g_aload_n E dX8_runScript_11 rfl 1 rfl ?_
    refine g_iload E dX8_runScript_12 0 rfl ?_
    refine g_if_eq (tgt := 46) E dX8_runScript_14 (by decide) (fun c => absurd c (by decide)) (fun _ => ?_)
    refine g_lload_n E dX8_runScript_17 rfl 3 rfl ?_
    refine g_lconst (v := 0) E dX8_runScript_18 (by decide) ?_
    refine g_iload E dX8_runScript_19 0 rfl ?_
    refine g_if_eq (tgt := 30) E dX8_runScript_21 (by decide) (fun c => absurd c (by decide)) (fun _ => ?_)
    refine g_iconst (v := 5) E dX8_runScript_24 (by decide) ?_
    refine g_iload_n E dX8_runScript_25 rfl 2 rfl ?_
    refine g_imulN (a := 5) (b := j) E dX8_runScript_26 ?_
    refine g_goto (tgt := 31) E dX8_runScript_27 (by decide) ?_
    refine g_callSLe (F := [(m 0, .inr (8, [.int (q 0), .ref (m 1), .int (nI n), .int (q 2), .int (q 3), .int (q 4), .ref (m 2), .ref (m 3), .ref (m 4), .ref (m 5), .int (nI c), .ref (m 6), .ref (m 7), .ref (m 8), .int (q 6), .int (q 7), .int (q 8)])), (m 1, .inl (gy G 0, 120, .inl sg)), (m 2, .inl (gy G 0, 271, .inl rd)), (m 3, .inl (gy G 0, 271, .inl f)), (m 4, .inl (gy G 0, 271, .inl tr)), (m 5, .inl (gy G 0, 3794, .inl dy)), (m 6, .inl (gy G 0, 542, .inl kp)), (m 7, .inl (gy G 2, 2, .inl ik)), (m 8, .inl (gy G 0, 10, .inl tn))]) (ws2 := [(m 0, .inr (8, [.int (q 0), .ref (m 1), .int (nI n), .int (q 2), .int (q 3), .int (q 4), .ref (m 2), .ref (m 3), .ref (m 4), .ref (m 5), .int (nI c), .ref (m 6), .ref (m 7), .ref (m 8), .int (q 6), .int (q 7), .int (q 8)])), (m 1, .inl (gy G 0, 120, .inl sg)), (m 2, .inl (gy G 0, 271, .inl rd)), (m 3, .inl (gy G 0, 271, .inl f)), (m 4, .inl (gy G 0, 271, .inl tr)), (m 5, .inl (gy G 0, 3794, .inl dy)), (m 6, .inl (gy G 0, 542, .inl kp)), (m 7, .inl (gy G 2, 2, .inl ik)), (m 8, .inl (gy G 0, 10, .inl tn))]) E (mX8_tenTo G (5 * j) (by omega)) gX8_runScript_X8_tenTo rfl hnX8_tenTo ⟨Nat.le_of_ble_eq_true rfl, Nat.le_of_ble_eq_true rfl⟩ (gPerm_ix [0, 1, 2, 3, 4, 5, 6, 7, 8] rfl rfl) rfl rfl (Nat.le_of_ble_eq_true rfl) dX8_runScript_31 ⟨Nat.le_of_ble_eq_true rfl, Nat.le_of_ble_eq_true rfl⟩ (gPerm_ix [0, 1, 2, 3, 4, 5, 6, 7, 8] rfl rfl) ?_
    refine g_lconst (v := 1) E dX8_runScript_34 (by decide) ?_
    refine g_lsub E dX8_runScript_35 ?_
    refine g_callSIe (F := [(m 0, .inr (8, [.int (q 0), .ref (m 1), .int (nI n), .int (q 2), .int (q 3), .int (q 4), .ref (m 2), .ref (m 3), .ref (m 4), .ref (m 5), .int (nI c), .ref (m 6), .ref (m 7), .ref (m 8), .int (q 6), .int (q 7), .int (q 8)])), (m 1, .inl (gy G 0, 120, .inl sg)), (m 2, .inl (gy G 0, 271, .inl rd)), (m 3, .inl (gy G 0, 271, .inl f)), (m 4, .inl (gy G 0, 271, .inl tr)), (m 5, .inl (gy G 0, 3794, .inl dy)), (m 6, .inl (gy G 0, 542, .inl kp)), (m 7, .inl (gy G 2, 2, .inl ik)), (m 8, .inl (gy G 0, 10, .inl tn))]) (ws2 := [(m 0, .inr (8, [.int (q 0), .ref (m 1), .int (nI n), .int (q 2), .int (q 3), .int (q 4), .ref (m 2), .ref (m 3), .ref (m 4), .ref (m 5), .int (nI c), .ref (m 6), .ref (m 7), .ref (m 8), .int (q 6), .int (q 7), .int (q 8)])), (m 1, .inl (gy G 0, 120, .inl sg)), (m 2, .inl (gy G 0, 271, .inl rd)), (m 3, .inl (gy G 0, 271, .inl f)), (m 4, .inl (gy G 0, 271, .inl tr)), (m 5, .inl (gy G 0, 3794, .inl dy)), (m 6, .inl (gy G 0, 542, .inl kp)), (m 7, .inl (gy G 2, 2, .inl ik)), (m 8, .inl (gy G 0, 10, .inl tn))]) E (mX8_in G x 0 ((gTen (5 * j)) - 1)) gX8_runScript_X8_in rfl hnX8_in ⟨Nat.le_of_ble_eq_true rfl, Nat.le_of_ble_eq_true rfl⟩ (gPerm_ix [0, 1, 2, 3, 4, 5, 6, 7, 8] rfl rfl) rfl rfl (Nat.le_of_ble_eq_true rfl) dX8_runScript_36 ⟨Nat.le_of_ble_eq_true rfl, Nat.le_of_ble_eq_true rfl⟩ (gPerm_ix [0, 1, 2, 3, 4, 5, 6, 7, 8] rfl rfl) ?_
    refine g_if_eqB (tgt := 46) (P := (¬ x < 0 ∧ ¬ ((gTen (5 * j)) - 1) < x)) E dX8_runScript_39 (by decide) (fun c2 => ?_) (fun c2 => ?_)
    · skip
      refine g_iconst (v := 1) E dX8_runScript_46 (by decide) ?_
      refine g_callVIe (F := [(m 1, .inl (gy G 0, 120, .inl sg)), (m 2, .inl (gy G 0, 271, .inl rd)), (m 3, .inl (gy G 0, 271, .inl f)), (m 4, .inl (gy G 0, 271, .inl tr)), (m 5, .inl (gy G 0, 3794, .inl dy)), (m 6, .inl (gy G 0, 542, .inl kp)), (m 7, .inl (gy G 2, 2, .inl ik)), (m 8, .inl (gy G 0, 10, .inl tn))]) (ws2 := [(m 0, .inr (8, [.int 1, .ref (m 1), .int (nI n), .int (q 2), .int (q 3), .int (q 4), .ref (m 2), .ref (m 3), .ref (m 4), .ref (m 5), .int (nI c), .ref (m 6), .ref (m 7), .ref (m 8), .int (q 6), .int (q 7), .int (q 8)])), (m 1, .inl (gy G 0, 120, .inl sg)), (m 2, .inl (gy G 0, 271, .inl rd)), (m 3, .inl (gy G 0, 271, .inl f)), (m 4, .inl (gy G 0, 271, .inl tr)), (m 5, .inl (gy G 0, 3794, .inl dy)), (m 6, .inl (gy G 0, 542, .inl kp)), (m 7, .inl (gy G 2, 2, .inl ik)), (m 8, .inl (gy G 0, 10, .inl tn))]) E (mX8_refused G m (qU (qU q 1 (nI n)) 5 (nI c)) 1) gX8_runScript_X8_refused rfl hdX8_refused ⟨Nat.le_of_ble_eq_true rfl, Nat.le_of_ble_eq_true rfl⟩ 8 0 rfl rfl rfl (gPerm_ix [0, 1, 2, 3, 4, 5, 6, 7, 8] rfl rfl) rfl rfl (Nat.le_of_ble_eq_true rfl) dX8_runScript_47 ⟨Nat.le_of_ble_eq_true rfl, Nat.le_of_ble_eq_true rfl⟩ (gPerm_ix [0, 1, 2, 3, 4, 5, 6, 7, 8] rfl rfl) ?_
      refine g_if_eq (tgt := 55) E dX8_runScript_50 (by decide) (fun c => absurd c (by decide)) (fun _ => ?_)
      refine g_iconst (v := 0) E dX8_runScript_53 (by decide) ?_
      exact RET _ _ _ (qU (qU (qU q 0 1) 1 (nI n)) 5 (nI c), sg, rd, f, tr, dy, kp, ik, tn) (gRefP_mk (k := 1) (A := ((n, sg), S, (c, H), sl)) (by rw [fScript, if_pos c1, nI_clamp (by omega), if_neg (fun q => c2 ((gScr_in hj0 (by omega)).mpr q))]) rfl (fun e => absurd e (by decide)) ⟨rfl, rfl, hRR, rfl, hD, hKp⟩) rfl dX8_runScript_54
    · skip
      refine g_iconst (v := 0) E dX8_runScript_42 (by decide) ?_
      refine g_goto (tgt := 47) E dX8_runScript_43 (by decide) ?_
      refine g_callVIe (F := [(m 1, .inl (gy G 0, 120, .inl sg)), (m 2, .inl (gy G 0, 271, .inl rd)), (m 3, .inl (gy G 0, 271, .inl f)), (m 4, .inl (gy G 0, 271, .inl tr)), (m 5, .inl (gy G 0, 3794, .inl dy)), (m 6, .inl (gy G 0, 542, .inl kp)), (m 7, .inl (gy G 2, 2, .inl ik)), (m 8, .inl (gy G 0, 10, .inl tn))]) (ws2 := [(m 0, .inr (8, [.int 0, .ref (m 1), .int (nI n), .int (q 2), .int (q 3), .int (q 4), .ref (m 2), .ref (m 3), .ref (m 4), .ref (m 5), .int (nI c), .ref (m 6), .ref (m 7), .ref (m 8), .int (q 6), .int (q 7), .int (q 8)])), (m 1, .inl (gy G 0, 120, .inl sg)), (m 2, .inl (gy G 0, 271, .inl rd)), (m 3, .inl (gy G 0, 271, .inl f)), (m 4, .inl (gy G 0, 271, .inl tr)), (m 5, .inl (gy G 0, 3794, .inl dy)), (m 6, .inl (gy G 0, 542, .inl kp)), (m 7, .inl (gy G 2, 2, .inl ik)), (m 8, .inl (gy G 0, 10, .inl tn))]) E (mX8_refused G m (qU (qU q 1 (nI n)) 5 (nI c)) 0) gX8_runScript_X8_refused rfl hdX8_refused ⟨Nat.le_of_ble_eq_true rfl, Nat.le_of_ble_eq_true rfl⟩ 8 0 rfl rfl rfl (gPerm_ix [0, 1, 2, 3, 4, 5, 6, 7, 8] rfl rfl) rfl rfl (Nat.le_of_ble_eq_true rfl) dX8_runScript_47 ⟨Nat.le_of_ble_eq_true rfl, Nat.le_of_ble_eq_true rfl⟩ (gPerm_ix [0, 1, 2, 3, 4, 5, 6, 7, 8] rfl rfl) ?_
      refine g_if_eq (tgt := 55) E dX8_runScript_50 (by decide) (fun _ => ?_) (fun c => absurd c (by decide))
      refine g_aload_n E dX8_runScript_55 rfl 1 rfl ?_
      refine g_callVVe (F := [(m 1, .inl (gy G 0, 120, .inl sg)), (m 2, .inl (gy G 0, 271, .inl rd)), (m 5, .inl (gy G 0, 3794, .inl dy)), (m 6, .inl (gy G 0, 542, .inl kp)), (m 7, .inl (gy G 2, 2, .inl ik)), (m 8, .inl (gy G 0, 10, .inl tn))]) (ws2 := [(m 0, .inr (8, [.int 0, .ref (m 1), .int (nI n), .int (q 2), .int (q 3), .int (q 4), .ref (m 2), .ref (m 3), .ref (m 4), .ref (m 5), .int (nI c), .ref (m 6), .ref (m 7), .ref (m 8), .int (-1), .int (q 7), .int (q 8)])), (m 1, .inl (gy G 0, 120, .inl sg)), (m 2, .inl (gy G 0, 271, .inl rd)), (m 3, .inl (gy G 0, 271, .inl f)), (m 4, .inl (gy G 0, 271, .inl (va_cpy f tr 0 0 271))), (m 5, .inl (gy G 0, 3794, .inl dy)), (m 6, .inl (gy G 0, 542, .inl kp)), (m 7, .inl (gy G 2, 2, .inl ik)), (m 8, .inl (gy G 0, 10, .inl tn))]) E (mX8_tryIt G m (qU (qU (qU q 0 0) 1 (nI n)) 5 (nI c)) f tr) gX8_runScript_X8_tryIt rfl hdX8_tryIt ⟨Nat.le_of_ble_eq_true rfl, Nat.le_of_ble_eq_true rfl⟩ 8 0 rfl rfl rfl (gPerm_ix [0, 3, 4, 1, 2, 5, 6, 7, 8] rfl rfl) rfl rfl (Nat.le_of_ble_eq_true rfl) dX8_runScript_56 ⟨Nat.le_of_ble_eq_true rfl, Nat.le_of_ble_eq_true rfl⟩ (gPerm_ix [0, 3, 4, 1, 2, 5, 6, 7, 8] rfl rfl) ?_
      have hRt : RR S (va_cpy f tr 0 0 271) := RR_cg hRR hI (fun i hi => gCpyA hi)
      refine g_iconst (v := 0) E dX8_runScript_59 (by decide) ?_
      refine g_istore (lv' := [(5, .int 0), (4, .int 1), (0, .ref (m 0)), (1, .int (nI j)), (2, .long x)]) E dX8_runScript_60 (by decide) rfl ?_
      have loop3 : ∀ (n4 : Nat) (k : Nat) (C : gSt) (ft : Int32) (tk g : Nat → Int32), (k ≤ j) → (gI3 C) → (sN C 0 ≤ 50000 + 100 * k) → (gScr j x (j - k) C = gScr j x j S) → (RR C g) → j - k < n4 → gW V 6 0 0 [(m 0, .inr (8, [.int 0, .ref (m 1), .int (nI n), .int (q 2), .int (q 3), .int (q 4), .ref (m 2), .ref (m 3), .ref (m 4), .ref (m 5), .int (nI c), .ref (m 6), .ref (m 7), .ref (m 8), .int ft, .int (q 7), .int (q 8)])), (m 1, .inl (gy G 0, 120, .inl sg)), (m 2, .inl (gy G 0, 271, .inl rd)), (m 3, .inl (gy G 0, 271, .inl f)), (m 4, .inl (gy G 0, 271, .inl g)), (m 5, .inl (gy G 0, 3794, .inl dy)), (m 6, .inl (gy G 0, 542, .inl kp)), (m 7, .inl (gy G 2, 2, .inl ik)), (m 8, .inl (gy G 0, 10, .inl tk))] [(0, .ref (m 0)), (1, .int (nI j)), (2, .long x), (4, .int 1), (5, .int (nI k))] 62 [] := by
        intro n4
        induction n4 with
        | zero => intro k C ft tk g hk hKC hTC hSc hRg hm6; exact absurd hm6 (Nat.not_lt_zero _)
        | succ n4 ih5 =>
          intro k C ft tk g hk hKC hTC hSc hRg hm6
          refine g_iload E dX8_runScript_62 4 rfl ?_
          refine g_iload_n E dX8_runScript_64 rfl 1 rfl ?_
          refine g_icmp_geN (tgt := 102) (a := k) (b := j) E dX8_runScript_65 (by decide) (by omega) (by omega) (fun c7 => ?_) (fun c7 => ?_)
          · skip
            refine g_iconst (v := (-1)) E dX8_runScript_102 (by decide) ?_
            exact RET _ _ _ (qU (qU (qU (qU q 0 0) 1 (nI n)) 5 (nI c)) 6 ft, sg, rd, f, g, dy, kp, ik, tk) (gRefP_mk (k := 0) (A := ((n, sg), S, (c, H), sl)) (by rw [fScript, if_pos c1, nI_clamp (by omega), if_pos ((gScr_in hj0 (by omega)).mp c2), ← hSc, show j - k = 0 by omega]; rfl) rfl (fun _ => rfl) ⟨rfl, rfl, hRR, rfl, hD, hKp⟩) rfl dX8_runScript_103
          · skip
            have hkj : k < j := by omega
            refine g_aload_n E dX8_runScript_68 rfl 0 rfl ?_
            refine g_lload_n E dX8_runScript_69 rfl 2 rfl ?_
            refine g_iconst (v := 5) E dX8_runScript_70 (by decide) ?_
            refine g_iload_n E dX8_runScript_71 rfl 1 rfl ?_
            refine g_iconst (v := 1) E dX8_runScript_72 (by decide) ?_
            refine g_isubN (a := j) (b := 1) E dX8_runScript_73 (by omega) ?_
            refine g_iload E dX8_runScript_74 4 rfl ?_
            refine g_isubN (a := j - 1) (b := k) E dX8_runScript_76 (by omega) ?_
            refine g_imulN (a := 5) (b := j - 1 - k) E dX8_runScript_77 ?_
            refine g_callSLe (F := [(m 0, .inr (8, [.int 0, .ref (m 1), .int (nI n), .int (q 2), .int (q 3), .int (q 4), .ref (m 2), .ref (m 3), .ref (m 4), .ref (m 5), .int (nI c), .ref (m 6), .ref (m 7), .ref (m 8), .int ft, .int (q 7), .int (q 8)])), (m 1, .inl (gy G 0, 120, .inl sg)), (m 2, .inl (gy G 0, 271, .inl rd)), (m 3, .inl (gy G 0, 271, .inl f)), (m 4, .inl (gy G 0, 271, .inl g)), (m 5, .inl (gy G 0, 3794, .inl dy)), (m 6, .inl (gy G 0, 542, .inl kp)), (m 7, .inl (gy G 2, 2, .inl ik)), (m 8, .inl (gy G 0, 10, .inl tk))]) (ws2 := [(m 0, .inr (8, [.int 0, .ref (m 1), .int (nI n), .int (q 2), .int (q 3), .int (q 4), .ref (m 2), .ref (m 3), .ref (m 4), .ref (m 5), .int (nI c), .ref (m 6), .ref (m 7), .ref (m 8), .int ft, .int (q 7), .int (q 8)])), (m 1, .inl (gy G 0, 120, .inl sg)), (m 2, .inl (gy G 0, 271, .inl rd)), (m 3, .inl (gy G 0, 271, .inl f)), (m 4, .inl (gy G 0, 271, .inl g)), (m 5, .inl (gy G 0, 3794, .inl dy)), (m 6, .inl (gy G 0, 542, .inl kp)), (m 7, .inl (gy G 2, 2, .inl ik)), (m 8, .inl (gy G 0, 10, .inl tk))]) E (mX8_tenTo G (5 * (j - 1 - k)) (by omega)) gX8_runScript_X8_tenTo rfl hnX8_tenTo ⟨Nat.le_of_ble_eq_true rfl, Nat.le_of_ble_eq_true rfl⟩ (gPerm_ix [0, 1, 2, 3, 4, 5, 6, 7, 8] rfl rfl) rfl rfl (Nat.le_of_ble_eq_true rfl) dX8_runScript_78 ⟨Nat.le_of_ble_eq_true rfl, Nat.le_of_ble_eq_true rfl⟩ (gPerm_ix [0, 1, 2, 3, 4, 5, 6, 7, 8] rfl rfl) ?_
            refine g_ldiv E dX8_runScript_81 (gTen_nz (by omega)) ?_
            refine g_ldc2 (v := 100000) E kX8_runScript_338 dX8_runScript_82 ?_
            refine g_lrem E dX8_runScript_85 (by decide) ?_
            refine g_l2i (v := ((x / (gTen (5 * (j - 1 - k)))) - (x / (gTen (5 * (j - 1 - k)))) / 100000 * 100000).toInt32) E dX8_runScript_86 rfl ?_
            obtain ⟨hge, hgl⟩ := gGrp_eq (r := j - 1 - k) c2.1 (by omega)
            refine g_top (y := nI (gGrp x (j - 1 - k))) hge ?_
            refine g_callVIu (F := [(m 1, .inl (gy G 0, 120, .inl sg)), (m 2, .inl (gy G 0, 271, .inl rd)), (m 3, .inl (gy G 0, 271, .inl f)), (m 5, .inl (gy G 0, 3794, .inl dy)), (m 6, .inl (gy G 0, 542, .inl kp)), (m 7, .inl (gy G 2, 2, .inl ik))]) E (mX8_does G m (qU (qU (qU (qU q 0 0) 1 (nI n)) 5 (nI c)) 6 ft) C g (gGrp x (j - 1 - k)) tk hKC (by omega) hRg hgl) gX8_runScript_X8_does rfl hdX8_does ⟨Nat.le_of_ble_eq_true rfl, Nat.le_of_ble_eq_true rfl⟩ 8 0 rfl rfl rfl (gPerm_ix [0, 4, 8, 1, 2, 3, 5, 6, 7] rfl rfl) rfl rfl (Nat.le_of_ble_eq_true rfl) dX8_runScript_87 ⟨Nat.le_of_ble_eq_true rfl, Nat.le_of_ble_eq_true rfl⟩ (fun u8 hU8 => ?_)
            refine g_perm (ws1 := [(m 0, .inr (8, [.int 0, .ref (m 1), .int (nI n), .int (q 2), .int (q 3), .int (q 4), .ref (m 2), .ref (m 3), .ref (m 4), .ref (m 5), .int (nI c), .ref (m 6), .ref (m 7), .ref (m 8), .int u8.1, .int (q 7), .int (q 8)])), (m 1, .inl (gy G 0, 120, .inl sg)), (m 2, .inl (gy G 0, 271, .inl rd)), (m 3, .inl (gy G 0, 271, .inl f)), (m 4, .inl (gy G 0, 271, .inl u8.2.2)), (m 5, .inl (gy G 0, 3794, .inl dy)), (m 6, .inl (gy G 0, 542, .inl kp)), (m 7, .inl (gy G 2, 2, .inl ik)), (m 8, .inl (gy G 0, 10, .inl u8.2.1))]) (gPerm_ix [0, 3, 4, 5, 1, 6, 7, 8, 2] rfl rfl) ?_
            refine g_if_ne (tgt := 96) E dX8_runScript_90 (by decide) (fun c10 => ?_) (fun c10 => ?_)
            · skip
              refine g_iinc (lv' := [(5, .int (nI (k + 1))), (0, .ref (m 0)), (1, .int (nI j)), (2, .long x), (4, .int 1)]) E dX8_runScript_96 4 rfl (g_inc _ 1 (by decide)) (by decide) rfl ?_
              refine g_goto (tgt := 62) E dX8_runScript_99 (by decide) ?_
              refine g_lv [1, 2, 3, 4, 0] rfl ?_
              exact ih5  (k + 1) _ _ _ _ (by omega) (gI3_succ hKC (by omega) _) (by have := gSucc_t (S := C) (gGrp x (j - 1 - k)); omega) (by rw [← hSc, show j - k = (j - 1 - k) + 1 by omega, gScr_st, if_neg c10, show j - (k + 1) = j - 1 - k by omega]) hU8 (by omega)
            · skip
              refine g_iload E dX8_runScript_93 4 rfl ?_
              exact RET _ _ _ (qU (qU (qU (qU q 0 0) 1 (nI n)) 5 (nI c)) 6 u8.1, sg, rd, f, u8.2.2, dy, kp, ik, u8.2.1) (gRefP_mk (k := 0) (A := ((n, sg), S, (c, H), sl)) (by rw [fScript, if_pos c1, nI_clamp (by omega), if_pos ((gScr_in hj0 (by omega)).mp c2), ← hSc, show j - k = (j - 1 - k) + 1 by omega, gScr_st, if_pos c10, show j - 1 - (j - 1 - k) = k by omega]) rfl (fun _ => rfl) ⟨rfl, rfl, hRR, rfl, hD, hKp⟩) rfl dX8_runScript_95
      refine g_lv [2, 3, 4, 1, 0] rfl ?_
      exact loop3 _ 0 S _ _ _ (Nat.zero_le _) hK (by omega) rfl hRt (Nat.lt_succ_self _)
  · skip
    refine g_top (y := 0) (if_neg c1) ?_
    refine g_istore (lv' := [(4, .int 0), (0, .ref (m 0)), (1, .int n0), (2, .long x)]) E dX8_runScript_9 (by decide) rfl ?_
    refine g_aload_n E dX8_runScript_11 rfl 1 rfl ?_
    refine g_iload E dX8_runScript_12 0 rfl ?_
    refine g_if_eq (tgt := 46) E dX8_runScript_14 (by decide) (fun _ => ?_) (fun c => absurd c (by decide))
    refine g_iconst (v := 1) E dX8_runScript_46 (by decide) ?_
    refine g_callVIe (F := [(m 1, .inl (gy G 0, 120, .inl sg)), (m 2, .inl (gy G 0, 271, .inl rd)), (m 3, .inl (gy G 0, 271, .inl f)), (m 4, .inl (gy G 0, 271, .inl tr)), (m 5, .inl (gy G 0, 3794, .inl dy)), (m 6, .inl (gy G 0, 542, .inl kp)), (m 7, .inl (gy G 2, 2, .inl ik)), (m 8, .inl (gy G 0, 10, .inl tn))]) (ws2 := [(m 0, .inr (8, [.int 1, .ref (m 1), .int (nI n), .int (q 2), .int (q 3), .int (q 4), .ref (m 2), .ref (m 3), .ref (m 4), .ref (m 5), .int (nI c), .ref (m 6), .ref (m 7), .ref (m 8), .int (q 6), .int (q 7), .int (q 8)])), (m 1, .inl (gy G 0, 120, .inl sg)), (m 2, .inl (gy G 0, 271, .inl rd)), (m 3, .inl (gy G 0, 271, .inl f)), (m 4, .inl (gy G 0, 271, .inl tr)), (m 5, .inl (gy G 0, 3794, .inl dy)), (m 6, .inl (gy G 0, 542, .inl kp)), (m 7, .inl (gy G 2, 2, .inl ik)), (m 8, .inl (gy G 0, 10, .inl tn))]) E (mX8_refused G m (qU (qU q 1 (nI n)) 5 (nI c)) 1) gX8_runScript_X8_refused rfl hdX8_refused ⟨Nat.le_of_ble_eq_true rfl, Nat.le_of_ble_eq_true rfl⟩ 8 0 rfl rfl rfl (gPerm_ix [0, 1, 2, 3, 4, 5, 6, 7, 8] rfl rfl) rfl rfl (Nat.le_of_ble_eq_true rfl) dX8_runScript_47 ⟨Nat.le_of_ble_eq_true rfl, Nat.le_of_ble_eq_true rfl⟩ (gPerm_ix [0, 1, 2, 3, 4, 5, 6, 7, 8] rfl rfl) ?_
    refine g_if_eq (tgt := 55) E dX8_runScript_50 (by decide) (fun c => absurd c (by decide)) (fun _ => ?_)
    refine g_iconst (v := 0) E dX8_runScript_53 (by decide) ?_
    exact RET _ _ _ (qU (qU (qU q 0 1) 1 (nI n)) 5 (nI c), sg, rd, f, tr, dy, kp, ik, tn) (gRefP_mk (k := 1) (A := ((n, sg), S, (c, H), sl)) (by rw [fScript, if_neg c1]) rfl (fun e => absurd e (by decide)) ⟨rfl, rfl, hRR, rfl, hD, hKp⟩) rfl dX8_runScript_54

set_option maxHeartbeats 4000000 in
set_option maxRecDepth 100000 in
theorem mX8_simulate (G : gG) (m : Nat → Nat) (q : Nat → Int32) (n c : Nat) (sg : Nat → Int32) (S : gSt) (H : Nat → gSt) (sl : Nat → Option gSt) (rd f tr dy kp ik tn : Nat → Int32) (x : Int64) (n0 : Int32) (hn12 : n ≤ 120) (hO : gOk 50000 S) (hc14 : c ≤ 14) (hHo : gHok 50000 c H) (hRR : RR S f) (hD : gDry c H dy) (hKp : gKpt sl kp ik) : CI G yX8_simulate wsX8_simulate 9 215 [.ref (m 0), .long x, .int n0] [(m 0, .inr (8, [.int (q 0), .ref (m 1), .int (nI n), .int (q 2), .int (q 3), .int (q 4), .ref (m 2), .ref (m 3), .ref (m 4), .ref (m 5), .int (nI c), .ref (m 6), .ref (m 7), .ref (m 8), .int (q 6), .int (q 7), .int (q 8)])), (m 1, .inl (gy G 0, 120, .inl sg)), (m 2, .inl (gy G 0, 271, .inl rd)), (m 3, .inl (gy G 0, 271, .inl f)), (m 4, .inl (gy G 0, 271, .inl tr)), (m 5, .inl (gy G 0, 3794, .inl dy)), (m 6, .inl (gy G 0, 542, .inl kp)), (m 7, .inl (gy G 2, 2, .inl ik)), (m 8, .inl (gy G 0, 10, .inl tn))] (gRefP (fSim ((n, sg), S, (c, H), sl) x n0)) (fun (u : gRu) => (wR G m u)) 0 0 := by
  refine g_enterI (ty := .int) RX8 rfl (by decide) rfl (Nat.le_of_ble_eq_true rfl) ?_
  intro V E RET
  have hK := hO.1
  have hJ := hK.1
  have hI := hJ.1
  have hT1 := hO.2.2
  have hT2 : sN S 0 < 200000000 := by omega
  have hT : sN S 0 < 1000000000 := by omega
  have hb2 := gI2_b2 hJ
  have hX := hI
  obtain ⟨hP8, hn, hw, hW8, hs3, hs4, hs5, hs6, hs7, hs8, hb34⟩ := hX
  refine g_aload_n E dX8_simulate_0 rfl 0 rfl ?_
  refine g_iload_n E dX8_simulate_1 rfl 2 rfl ?_
  refine g_i2l (v := n0.toInt64) E dX8_simulate_2 rfl ?_
  refine g_lconst (v := 1) E dX8_simulate_3 (by decide) ?_
  refine g_ldc2 (v := 60) E kX8_simulate_307 dX8_simulate_4 ?_
  refine g_callSIe (F := [(m 0, .inr (8, [.int (q 0), .ref (m 1), .int (nI n), .int (q 2), .int (q 3), .int (q 4), .ref (m 2), .ref (m 3), .ref (m 4), .ref (m 5), .int (nI c), .ref (m 6), .ref (m 7), .ref (m 8), .int (q 6), .int (q 7), .int (q 8)])), (m 1, .inl (gy G 0, 120, .inl sg)), (m 2, .inl (gy G 0, 271, .inl rd)), (m 3, .inl (gy G 0, 271, .inl f)), (m 4, .inl (gy G 0, 271, .inl tr)), (m 5, .inl (gy G 0, 3794, .inl dy)), (m 6, .inl (gy G 0, 542, .inl kp)), (m 7, .inl (gy G 2, 2, .inl ik)), (m 8, .inl (gy G 0, 10, .inl tn))]) (ws2 := [(m 0, .inr (8, [.int (q 0), .ref (m 1), .int (nI n), .int (q 2), .int (q 3), .int (q 4), .ref (m 2), .ref (m 3), .ref (m 4), .ref (m 5), .int (nI c), .ref (m 6), .ref (m 7), .ref (m 8), .int (q 6), .int (q 7), .int (q 8)])), (m 1, .inl (gy G 0, 120, .inl sg)), (m 2, .inl (gy G 0, 271, .inl rd)), (m 3, .inl (gy G 0, 271, .inl f)), (m 4, .inl (gy G 0, 271, .inl tr)), (m 5, .inl (gy G 0, 3794, .inl dy)), (m 6, .inl (gy G 0, 542, .inl kp)), (m 7, .inl (gy G 2, 2, .inl ik)), (m 8, .inl (gy G 0, 10, .inl tn))]) E (g_resI (gIn64 (lo := 1) (hi := 60) rfl rfl) (mX8_in G n0.toInt64 1 60)) gX8_simulate_X8_in rfl hnX8_in ⟨Nat.le_of_ble_eq_true rfl, Nat.le_of_ble_eq_true rfl⟩ (gPerm_ix [0, 1, 2, 3, 4, 5, 6, 7, 8] rfl rfl) rfl rfl (Nat.le_of_ble_eq_true rfl) dX8_simulate_7 ⟨Nat.le_of_ble_eq_true rfl, Nat.le_of_ble_eq_true rfl⟩ (gPerm_ix [0, 1, 2, 3, 4, 5, 6, 7, 8] rfl rfl) ?_
  refine g_if_eqB (tgt := 17) (P := (¬ n0 < 1 ∧ ¬ 60 < n0)) E dX8_simulate_10 (by decide) (fun c1 => ?_) (fun c1 => ?_)
  · skip
    refine g_iconst (v := 1) E dX8_simulate_17 (by decide) ?_
    refine g_callVIe (F := [(m 1, .inl (gy G 0, 120, .inl sg)), (m 2, .inl (gy G 0, 271, .inl rd)), (m 3, .inl (gy G 0, 271, .inl f)), (m 4, .inl (gy G 0, 271, .inl tr)), (m 5, .inl (gy G 0, 3794, .inl dy)), (m 6, .inl (gy G 0, 542, .inl kp)), (m 7, .inl (gy G 2, 2, .inl ik)), (m 8, .inl (gy G 0, 10, .inl tn))]) (ws2 := [(m 0, .inr (8, [.int 1, .ref (m 1), .int (nI n), .int (q 2), .int (q 3), .int (q 4), .ref (m 2), .ref (m 3), .ref (m 4), .ref (m 5), .int (nI c), .ref (m 6), .ref (m 7), .ref (m 8), .int (q 6), .int (q 7), .int (q 8)])), (m 1, .inl (gy G 0, 120, .inl sg)), (m 2, .inl (gy G 0, 271, .inl rd)), (m 3, .inl (gy G 0, 271, .inl f)), (m 4, .inl (gy G 0, 271, .inl tr)), (m 5, .inl (gy G 0, 3794, .inl dy)), (m 6, .inl (gy G 0, 542, .inl kp)), (m 7, .inl (gy G 2, 2, .inl ik)), (m 8, .inl (gy G 0, 10, .inl tn))]) E (mX8_refused G m (qU (qU q 1 (nI n)) 5 (nI c)) 1) gX8_simulate_X8_refused rfl hdX8_refused ⟨Nat.le_of_ble_eq_true rfl, Nat.le_of_ble_eq_true rfl⟩ 8 0 rfl rfl rfl (gPerm_ix [0, 1, 2, 3, 4, 5, 6, 7, 8] rfl rfl) rfl rfl (Nat.le_of_ble_eq_true rfl) dX8_simulate_18 ⟨Nat.le_of_ble_eq_true rfl, Nat.le_of_ble_eq_true rfl⟩ (gPerm_ix [0, 1, 2, 3, 4, 5, 6, 7, 8] rfl rfl) ?_
    refine g_if_eq (tgt := 26) E dX8_simulate_21 (by decide) (fun c => absurd c (by decide)) (fun _ => ?_)
    refine g_iconst (v := 0) E dX8_simulate_24 (by decide) ?_
    exact RET _ _ _ (qU (qU (qU q 0 1) 1 (nI n)) 5 (nI c), sg, rd, f, tr, dy, kp, ik, tn) (gRefP_mk (k := 1) (A := ((n, sg), S, (c, H), sl)) (by rw [fSim, if_neg c1]) rfl (fun e => absurd e (by decide)) ⟨rfl, rfl, hRR, rfl, hD, hKp⟩) rfl dX8_simulate_25
  · skip
    obtain ⟨j, hj0, hj, rfl⟩ := nI_ofl1 (m := 60) c1 rfl rfl (by decide)
    refine g_iconst (v := 0) E dX8_simulate_13 (by decide) ?_
    refine g_goto (tgt := 18) E dX8_simulate_14 (by decide) ?_
    refine g_callVIe (F := [(m 1, .inl (gy G 0, 120, .inl sg)), (m 2, .inl (gy G 0, 271, .inl rd)), (m 3, .inl (gy G 0, 271, .inl f)), (m 4, .inl (gy G 0, 271, .inl tr)), (m 5, .inl (gy G 0, 3794, .inl dy)), (m 6, .inl (gy G 0, 542, .inl kp)), (m 7, .inl (gy G 2, 2, .inl ik)), (m 8, .inl (gy G 0, 10, .inl tn))]) (ws2 := [(m 0, .inr (8, [.int 0, .ref (m 1), .int (nI n), .int (q 2), .int (q 3), .int (q 4), .ref (m 2), .ref (m 3), .ref (m 4), .ref (m 5), .int (nI c), .ref (m 6), .ref (m 7), .ref (m 8), .int (q 6), .int (q 7), .int (q 8)])), (m 1, .inl (gy G 0, 120, .inl sg)), (m 2, .inl (gy G 0, 271, .inl rd)), (m 3, .inl (gy G 0, 271, .inl f)), (m 4, .inl (gy G 0, 271, .inl tr)), (m 5, .inl (gy G 0, 3794, .inl dy)), (m 6, .inl (gy G 0, 542, .inl kp)), (m 7, .inl (gy G 2, 2, .inl ik)), (m 8, .inl (gy G 0, 10, .inl tn))]) E (mX8_refused G m (qU (qU q 1 (nI n)) 5 (nI c)) 0) gX8_simulate_X8_refused rfl hdX8_refused ⟨Nat.le_of_ble_eq_true rfl, Nat.le_of_ble_eq_true rfl⟩ 8 0 rfl rfl rfl (gPerm_ix [0, 1, 2, 3, 4, 5, 6, 7, 8] rfl rfl) rfl rfl (Nat.le_of_ble_eq_true rfl) dX8_simulate_18 ⟨Nat.le_of_ble_eq_true rfl, Nat.le_of_ble_eq_true rfl⟩ (gPerm_ix [0, 1, 2, 3, 4, 5, 6, 7, 8] rfl rfl) ?_
    refine g_if_eq (tgt := 26) E dX8_simulate_21 (by decide) (fun _ => ?_) (fun c => absurd c (by decide))
    refine g_aload_n E dX8_simulate_26 rfl 0 rfl ?_
    refine g_callVVe (F := [(m 1, .inl (gy G 0, 120, .inl sg)), (m 2, .inl (gy G 0, 271, .inl rd)), (m 5, .inl (gy G 0, 3794, .inl dy)), (m 6, .inl (gy G 0, 542, .inl kp)), (m 7, .inl (gy G 2, 2, .inl ik)), (m 8, .inl (gy G 0, 10, .inl tn))]) (ws2 := [(m 0, .inr (8, [.int 0, .ref (m 1), .int (nI n), .int (q 2), .int (q 3), .int (q 4), .ref (m 2), .ref (m 3), .ref (m 4), .ref (m 5), .int (nI c), .ref (m 6), .ref (m 7), .ref (m 8), .int (-1), .int (q 7), .int (q 8)])), (m 1, .inl (gy G 0, 120, .inl sg)), (m 2, .inl (gy G 0, 271, .inl rd)), (m 3, .inl (gy G 0, 271, .inl f)), (m 4, .inl (gy G 0, 271, .inl (va_cpy f tr 0 0 271))), (m 5, .inl (gy G 0, 3794, .inl dy)), (m 6, .inl (gy G 0, 542, .inl kp)), (m 7, .inl (gy G 2, 2, .inl ik)), (m 8, .inl (gy G 0, 10, .inl tn))]) E (mX8_tryIt G m (qU (qU (qU q 0 0) 1 (nI n)) 5 (nI c)) f tr) gX8_simulate_X8_tryIt rfl hdX8_tryIt ⟨Nat.le_of_ble_eq_true rfl, Nat.le_of_ble_eq_true rfl⟩ 8 0 rfl rfl rfl (gPerm_ix [0, 3, 4, 1, 2, 5, 6, 7, 8] rfl rfl) rfl rfl (Nat.le_of_ble_eq_true rfl) dX8_simulate_27 ⟨Nat.le_of_ble_eq_true rfl, Nat.le_of_ble_eq_true rfl⟩ (gPerm_ix [0, 3, 4, 1, 2, 5, 6, 7, 8] rfl rfl) ?_
    have hRt : RR S (va_cpy f tr 0 0 271) := RR_cg hRR hI (fun i hi => gCpyA hi)
    refine g_lload_n E dX8_simulate_30 rfl 1 rfl ?_
    refine g_lstore (lv' := [(4, .long x), (0, .ref (m 0)), (1, .long x), (3, .int (nI j))]) E dX8_simulate_31 (by decide) rfl ?_
    refine g_iconst (v := 0) E dX8_simulate_33 (by decide) ?_
    refine g_istore (lv' := [(6, .int 0), (4, .long x), (0, .ref (m 0)), (1, .long x), (3, .int (nI j))]) E dX8_simulate_34 (by decide) rfl ?_
    have loop2 : ∀ (n3 : Nat) (k : Nat) (y : Int64) (C : gSt) (ft : Int32) (tk g : Nat → Int32), (k ≤ j) → (gI3 C) → (sN C 0 ≤ 50000 + k) → (gSim (j - k) y C = gSim j x S) → (RR C g) → j - k < n3 → gW V 7 0 0 [(m 0, .inr (8, [.int 0, .ref (m 1), .int (nI n), .int (q 2), .int (q 3), .int (q 4), .ref (m 2), .ref (m 3), .ref (m 4), .ref (m 5), .int (nI c), .ref (m 6), .ref (m 7), .ref (m 8), .int ft, .int (q 7), .int (q 8)])), (m 1, .inl (gy G 0, 120, .inl sg)), (m 2, .inl (gy G 0, 271, .inl rd)), (m 3, .inl (gy G 0, 271, .inl f)), (m 4, .inl (gy G 0, 271, .inl g)), (m 5, .inl (gy G 0, 3794, .inl dy)), (m 6, .inl (gy G 0, 542, .inl kp)), (m 7, .inl (gy G 2, 2, .inl ik)), (m 8, .inl (gy G 0, 10, .inl tk))] [(0, .ref (m 0)), (1, .long x), (3, .int (nI j)), (4, .long y), (6, .int (nI k))] 36 [] := by
      intro n3
      induction n3 with
      | zero => intro k y C ft tk g hk hKC hTC hSc hRg hm5; exact absurd hm5 (Nat.not_lt_zero _)
      | succ n3 ih4 =>
        intro k y C ft tk g hk hKC hTC hSc hRg hm5
        refine g_iload E dX8_simulate_36 4 rfl ?_
        refine g_iload_n E dX8_simulate_38 rfl 2 rfl ?_
        refine g_icmp_geN (tgt := 70) (a := k) (b := j) E dX8_simulate_39 (by decide) (by omega) (by omega) (fun c6 => ?_) (fun c6 => ?_)
        · skip
          refine g_bipush (v := 100) E dX8_simulate_70 (by decide) ?_
          refine g_aload_n E dX8_simulate_72 rfl 0 rfl ?_
          refine g_get E uX8_simulate_RX8 0 rfl rfl 8 (by decide) kX8_simulate_19 rfl rfl dX8_simulate_73 ?_
          refine g_iconst (v := 4) E dX8_simulate_76 (by decide) ?_
          refine g_ialdN (e := 4) E 4 rfl (by omega) rfl (v := sI C 8 0) (RR_C hRg (j := 0) (by decide)) dX8_simulate_77 ?_
          refine g_aload_n E dX8_simulate_78 rfl 0 rfl ?_
          refine g_get E uX8_simulate_RX8 0 rfl rfl 7 (by decide) kX8_simulate_16 rfl rfl dX8_simulate_79 ?_
          refine g_iconst (v := 4) E dX8_simulate_82 (by decide) ?_
          refine g_ialdN (e := 4) E 3 rfl (by omega) rfl (v := sI S 8 0) (RR_C hRR (j := 0) (by decide)) dX8_simulate_83 ?_
          refine g_isub E dX8_simulate_84 ?_
          refine g_imul E dX8_simulate_85 ?_
          refine g_aload_n E dX8_simulate_86 rfl 0 rfl ?_
          refine g_get E uX8_simulate_RX8 0 rfl rfl 8 (by decide) kX8_simulate_19 rfl rfl dX8_simulate_87 ?_
          refine g_iconst (v := 2) E dX8_simulate_90 (by decide) ?_
          refine g_ialdN (e := 2) E 4 rfl (by omega) rfl (v := nI ((sB C).length)) (RR_2 hRg) dX8_simulate_91 ?_
          refine g_iadd E dX8_simulate_92 ?_
          exact RET _ _ _ (qU (qU (qU (qU q 0 0) 1 (nI n)) 5 (nI c)) 6 ft, sg, rd, f, g, dy, kp, ik, tk) (gRefP_mk (k := 0) (A := ((n, sg), S, (c, H), sl)) (by rw [fSim, if_pos c1, nI_clamp (by omega), ← hSc, show j - k = 0 by omega]; rfl) rfl (fun _ => rfl) ⟨rfl, rfl, hRR, rfl, hD, hKp⟩) rfl dX8_simulate_93
        · skip
          have hkj : k < j := by omega
          refine g_lload E dX8_simulate_42 3 rfl ?_
          refine g_ldc2 (v := 6364136223846793005) E kX8_simulate_343 dX8_simulate_44 ?_
          refine g_lmul E dX8_simulate_47 ?_
          refine g_ldc2 (v := 1442695040888963407) E kX8_simulate_345 dX8_simulate_48 ?_
          refine g_ladd E dX8_simulate_51 ?_
          refine g_lstore (lv' := [(4, .long ((y * 6364136223846793005) + 1442695040888963407)), (0, .ref (m 0)), (1, .long x), (3, .int (nI j)), (6, .int (nI k))]) E dX8_simulate_52 (by decide) rfl ?_
          refine g_aload_n E dX8_simulate_54 rfl 1 rfl ?_
          refine g_lload E dX8_simulate_55 0 rfl ?_
          refine g_bipush (v := 33) E dX8_simulate_57 (by decide) ?_
          refine g_lushr (v := (((y * 6364136223846793005) + 1442695040888963407).toUInt64 >>> ((33 : Int32).toInt64.toUInt64 &&& Int64.toUInt64 63)).toInt64) E dX8_simulate_59 rfl ?_
          refine g_l2i (v := ((((y * 6364136223846793005) + 1442695040888963407).toUInt64 >>> ((33 : Int32).toInt64.toUInt64 &&& Int64.toUInt64 63)).toInt64).toInt32) E dX8_simulate_60 rfl ?_
          obtain ⟨hgl, hge⟩ := gR31_lt y
          refine g_top (y := nI (gR31 y)) hge ?_
          refine g_callVV (F := [(m 1, .inl (gy G 0, 120, .inl sg)), (m 2, .inl (gy G 0, 271, .inl rd)), (m 3, .inl (gy G 0, 271, .inl f)), (m 5, .inl (gy G 0, 3794, .inl dy)), (m 6, .inl (gy G 0, 542, .inl kp)), (m 7, .inl (gy G 2, 2, .inl ik))]) E (mX8_stir G m (qU (qU (qU (qU q 0 0) 1 (nI n)) 5 (nI c)) 6 ft) C g (gR31 y) tk hKC (by omega) hRg hgl) gX8_simulate_X8_stir rfl hdX8_stir ⟨Nat.le_of_ble_eq_true rfl, Nat.le_of_ble_eq_true rfl⟩ 8 0 rfl rfl rfl (gPerm_ix [0, 4, 8, 1, 2, 3, 5, 6, 7] rfl rfl) rfl rfl (Nat.le_of_ble_eq_true rfl) dX8_simulate_61 ⟨Nat.le_of_ble_eq_true rfl, Nat.le_of_ble_eq_true rfl⟩ (fun u7 hU7 => ?_)
          refine g_perm (ws1 := [(m 0, .inr (8, [.int 0, .ref (m 1), .int (nI n), .int (q 2), .int (q 3), .int (q 4), .ref (m 2), .ref (m 3), .ref (m 4), .ref (m 5), .int (nI c), .ref (m 6), .ref (m 7), .ref (m 8), .int u7.1, .int (q 7), .int (q 8)])), (m 1, .inl (gy G 0, 120, .inl sg)), (m 2, .inl (gy G 0, 271, .inl rd)), (m 3, .inl (gy G 0, 271, .inl f)), (m 4, .inl (gy G 0, 271, .inl u7.2.2)), (m 5, .inl (gy G 0, 3794, .inl dy)), (m 6, .inl (gy G 0, 542, .inl kp)), (m 7, .inl (gy G 2, 2, .inl ik)), (m 8, .inl (gy G 0, 10, .inl u7.2.1))]) (gPerm_ix [0, 3, 4, 5, 1, 6, 7, 8, 2] rfl rfl) ?_
          refine g_iinc (lv' := [(6, .int (nI (k + 1))), (4, .long ((y * 6364136223846793005) + 1442695040888963407)), (0, .ref (m 0)), (1, .long x), (3, .int (nI j))]) E dX8_simulate_64 4 rfl (g_inc _ 1 (by decide)) (by decide) rfl ?_
          refine g_goto (tgt := 36) E dX8_simulate_67 (by decide) ?_
          refine g_lv [2, 3, 4, 1, 0] rfl ?_
          exact ih4  (k + 1) (gRnd y) _ _ _ _ (by omega) (gI3_turn hKC (by omega) _) (by have := gTurn1_t (S := C) (gR31 y); omega) (by rw [← hSc, show j - k = (j - (k + 1)) + 1 by omega]; rfl) hU7 (by omega)
    refine g_lv [2, 3, 4, 1, 0] rfl ?_
    exact loop2 _ 0 x S _ _ _ (Nat.zero_le _) hK (by omega) rfl hRt (Nat.lt_succ_self _)
