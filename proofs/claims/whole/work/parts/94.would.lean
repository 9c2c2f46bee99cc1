set_option maxHeartbeats 4000000 in
set_option maxRecDepth 100000 in
theorem mX8_does (G : gG) (m : Nat → Nat) (q : Nat → Int32) (S : gSt) (f : Nat → Int32) (g : Nat) (tn : Nat → Int32) (hK : gI3 S) (hT100 : sN S 0 + 100 < 200000000) (hRR : RR S f) (hg : g < 100000) : CIu G yX8_does wsX8_does 9 211 [.ref (m 0), .int (nI g)] [(m 0, .inr (8, [.int (q 0), .ref (m 1), .int (q 1), .int (q 2), .int (q 3), .int (q 4), .ref (m 2), .ref (m 3), .ref (m 4), .ref (m 5), .int (q 5), .ref (m 6), .ref (m 7), .ref (m 8), .int (q 6), .int (q 7), .int (q 8)])), (m 4, .inl (gy G 0, 271, .inl f)), (m 8, .inl (gy G 0, 10, .inl tn))] ((gSucc S g).1) (fun u : Int32 × (Nat → Int32) × (Nat → Int32) => RR (gSucc S g).2 u.2.2) (fun (u : Int32 × (Nat → Int32) × (Nat → Int32)) => [(m 0, .inr (8, [.int (q 0), .ref (m 1), .int (q 1), .int (q 2), .int (q 3), .int (q 4), .ref (m 2), .ref (m 3), .ref (m 4), .ref (m 5), .int (q 5), .ref (m 6), .ref (m 7), .ref (m 8), .int u.1, .int (q 7), .int (q 8)])), (m 4, .inl (gy G 0, 271, .inl u.2.2)), (m 8, .inl (gy G 0, 10, .inl u.2.1))]) 0 0 := by
  refine g_enterIu (ty := .boolean) RX8 rfl (by decide) rfl (Nat.le_of_ble_eq_true rfl) ?_
  intro V E RET
  have hJ := hK.1
  have hI := hJ.1
  have hT2 : sN S 0 < 200000000 := by omega
  have hT : sN S 0 < 1000000000 := by omega
  have hb2 := gI2_b2 hJ
  have hX := hI
  obtain ⟨hP8, hn, hw, hW8, hs3, hs4, hs5, hs6, hs7, hs8, hb34⟩ := hX
  refine g_iload_n E dX8_does_0 rfl 1 rfl ?_
  refine g_sipush (v := 10000) E dX8_does_1 (by decide) ?_
  refine g_idivN (a := g) (b := 10000) E dX8_does_4 (by omega) (by omega) (by omega) ?_
  refine g_istore_n (lv' := [(2, .int (nI (g / 10000))), (0, .ref (m 0)), (1, .int (nI g))]) E dX8_does_5 rfl (by decide) rfl ?_
  refine g_iload_n E dX8_does_6 rfl 2 rfl ?_
  refine g_sipush (v := 1000) E dX8_does_7 (by decide) ?_
  refine g_idivN (a := g) (b := 1000) E dX8_does_10 (by omega) (by omega) (by omega) ?_
  refine g_bipush (v := 10) E dX8_does_11 (by decide) ?_
  refine g_iremN (a := g / 1000) (b := 10) E dX8_does_13 (by omega) (by omega) (by omega) ?_
  refine g_istore_n (lv' := [(3, .int (nI ((g / 1000) % 10))), (2, .int (nI (g / 10000))), (0, .ref (m 0)), (1, .int (nI g))]) E dX8_does_14 rfl (by decide) rfl ?_
  refine g_iload_n E dX8_does_15 rfl 3 rfl ?_
  refine g_bipush (v := 100) E dX8_does_16 (by decide) ?_
  refine g_idivN (a := g) (b := 100) E dX8_does_18 (by omega) (by omega) (by omega) ?_
  refine g_bipush (v := 10) E dX8_does_19 (by decide) ?_
  refine g_iremN (a := g / 100) (b := 10) E dX8_does_21 (by omega) (by omega) (by omega) ?_
  refine g_istore (lv' := [(4, .int (nI ((g / 100) % 10))), (3, .int (nI ((g / 1000) % 10))), (2, .int (nI (g / 10000))), (0, .ref (m 0)), (1, .int (nI g))]) E dX8_does_22 (by decide) rfl ?_
  refine g_iload_n E dX8_does_24 rfl 4 rfl ?_
  refine g_bipush (v := 10) E dX8_does_25 (by decide) ?_
  refine g_idivN (a := g) (b := 10) E dX8_does_27 (by omega) (by omega) (by omega) ?_
  refine g_bipush (v := 10) E dX8_does_28 (by decide) ?_
  refine g_iremN (a := g / 10) (b := 10) E dX8_does_30 (by omega) (by omega) (by omega) ?_
  refine g_istore (lv' := [(5, .int (nI ((g / 10) % 10))), (4, .int (nI ((g / 100) % 10))), (3, .int (nI ((g / 1000) % 10))), (2, .int (nI (g / 10000))), (0, .ref (m 0)), (1, .int (nI g))]) E dX8_does_31 (by decide) rfl ?_
  refine g_iload_n E dX8_does_33 rfl 5 rfl ?_
  refine g_bipush (v := 10) E dX8_does_34 (by decide) ?_
  refine g_iremN (a := g) (b := 10) E dX8_does_36 (by omega) (by omega) (by omega) ?_
  refine g_istore (lv' := [(6, .int (nI (g % 10))), (5, .int (nI ((g / 10) % 10))), (4, .int (nI ((g / 100) % 10))), (3, .int (nI ((g / 1000) % 10))), (2, .int (nI (g / 10000))), (0, .ref (m 0)), (1, .int (nI g))]) E dX8_does_37 (by decide) rfl ?_
  refine g_iload_n E dX8_does_39 rfl 6 rfl ?_
  refine g_bipush (v := 100) E dX8_does_40 (by decide) ?_
  refine g_iremN (a := g) (b := 100) E dX8_does_42 (by omega) (by omega) (by omega) ?_
  refine g_istore (lv' := [(7, .int (nI (g % 100))), (6, .int (nI (g % 10))), (5, .int (nI ((g / 10) % 10))), (4, .int (nI ((g / 100) % 10))), (3, .int (nI ((g / 1000) % 10))), (2, .int (nI (g / 10000))), (0, .ref (m 0)), (1, .int (nI g))]) E dX8_does_43 (by decide) rfl ?_
  refine g_iload_n E dX8_does_45 rfl 7 rfl ?_
  refine g_sipush (v := 10000) E dX8_does_46 (by decide) ?_
  refine g_iremN (a := g) (b := 10000) E dX8_does_49 (by omega) (by omega) (by omega) ?_
  refine g_bipush (v := 100) E dX8_does_50 (by decide) ?_
  refine g_icmp_geN (tgt := 59) (a := g % 10000) (b := 100) E dX8_does_52 (by decide) (by omega) (by omega) (fun c1 => ?_) (fun c1 => ?_)
  · skip
    refine g_iconst (v := 0) E dX8_does_59 (by decide) ?_
    refine g_istore (lv' := [(8, .int 0), (7, .int (nI (g % 100))), (6, .int (nI (g % 10))), (5, .int (nI ((g / 10) % 10))), (4, .int (nI ((g / 100) % 10))), (3, .int (nI ((g / 1000) % 10))), (2, .int (nI (g / 10000))), (0, .ref (m 0)), (1, .int (nI g))]) E dX8_does_60 (by decide) rfl ?_
    refine g_iload_n E dX8_does_62 rfl 6 rfl ?_
    rcases (show g / 10000 = 0 ∨ g / 10000 = 1 ∨ g / 10000 = 2 ∨ g / 10000 = 3 ∨ g / 10000 = 4 ∨ g / 10000 = 5 ∨ g / 10000 = 6 ∨ g / 10000 = 7 ∨ g / 10000 = 8 ∨ g / 10000 = 9 by omega) with k2 | k2 | k2 | k2 | k2 | k2 | k2 | k2 | k2 | k2
    · skip
      refine g_top (y := 0) (by rw [k2]; rfl) ?_
      refine g_tableOut (tgt := 337) E dX8_does_63 (by decide) (by decide) ?_
      refine g_iconst (v := 0) E dX8_does_337 (by decide) ?_
      exact RET _ _ _ (q 6, tn, f) (⟨by rw [gSucc_0 k2], by rw [gSucc_0 k2]; exact hRR⟩) rfl dX8_does_338
    · skip
      refine g_top (y := 1) (by rw [k2]; rfl) ?_
      refine g_tableIn (tgt := 112) E dX8_does_63 (by decide) (by decide) rfl (by decide) ?_
      refine g_aload_n E dX8_does_112 rfl 7 rfl ?_
      refine g_iload_n E dX8_does_113 rfl 5 rfl ?_
      refine g_iload E dX8_does_114 4 rfl ?_
      refine g_aload_n E dX8_does_116 rfl 7 rfl ?_
      refine g_get E uX8_does_RX8 0 rfl rfl 8 (by decide) kX8_does_19 rfl rfl dX8_does_117 ?_
      refine g_iconst (v := 0) E dX8_does_120 (by decide) ?_
      refine g_ialdN (e := 0) E 1 rfl (by omega) rfl (v := nI (sN S 0)) (RR_0 hRR) dX8_does_121 ?_
      refine g_iload E dX8_does_122 3 rfl ?_
      refine g_iaddN (a := sN S 0) (b := (g / 10) % 10) E dX8_does_124 ?_
      refine g_iload E dX8_does_125 2 rfl ?_
      refine g_callVIu (F := [(m 8, .inl (gy G 0, 10, .inl tn))]) E (mX8_books G m q S f ((g / 1000) % 10) ((g / 100) % 10) (sN S 0 + ((g / 10) % 10)) (g % 10) hK hT100 hRR (by omega) (by omega) (by omega) (by omega)) gX8_does_X8_books rfl hdX8_books ⟨Nat.le_of_ble_eq_true rfl, Nat.le_of_ble_eq_true rfl⟩ 8 0 rfl rfl rfl (gPerm_ix [0, 1, 2] rfl rfl) rfl rfl (Nat.le_of_ble_eq_true rfl) dX8_does_127 ⟨Nat.le_of_ble_eq_true rfl, Nat.le_of_ble_eq_true rfl⟩ (fun u3 hU3 => ?_)
      obtain ⟨S3, xE3⟩ : ∃ xx, xx = (gOkR (gTryBook S (nI ((g / 1000) % 10)) (nI ((g / 100) % 10)) (nI (sN S 0 + ((g / 10) % 10))) (nI (g % 10)))).2 := ⟨_, rfl⟩
      have hRR3 : RR S3 u3 := by rw [xE3]; exact hU3
      refine g_perm (ws1 := [(m 0, .inr (8, [.int (q 0), .ref (m 1), .int (q 1), .int (q 2), .int (q 3), .int (q 4), .ref (m 2), .ref (m 3), .ref (m 4), .ref (m 5), .int (q 5), .ref (m 6), .ref (m 7), .ref (m 8), .int (q 6), .int (q 7), .int (q 8)])), (m 4, .inl (gy G 0, 271, .inl u3)), (m 8, .inl (gy G 0, 10, .inl tn))]) (gPerm_ix [0, 1, 2] rfl rfl) ?_
      exact RET _ _ _ (q 6, tn, u3) (⟨by rw [gSucc_1 k2], by rw [gSucc_1 k2]; exact (xE3 ▸ hRR3)⟩) (gNar_01 (gOkR_01 _)) dX8_does_130
    · skip
      refine g_top (y := 2) (by rw [k2]; rfl) ?_
      refine g_tableIn (tgt := 131) E dX8_does_63 (by decide) (by decide) rfl (by decide) ?_
      refine g_iload E dX8_does_131 1 rfl ?_
      refine g_if_neN (tgt := 150) (a := g % 100) E dX8_does_133 (by decide) (by omega) (fun c5 => ?_) (fun c5 => ?_)
      · skip
        refine g_iconst (v := 0) E dX8_does_150 (by decide) ?_
        exact RET _ _ _ (q 6, tn, f) (⟨by rw [gSucc_2 k2, if_neg c5], by rw [gSucc_2 k2, if_neg c5]; exact hRR⟩) rfl dX8_does_151
      · skip
        refine g_aload_n E dX8_does_136 rfl 7 rfl ?_
        refine g_iload_n E dX8_does_137 rfl 5 rfl ?_
        refine g_iload E dX8_does_138 4 rfl ?_
        refine g_callVIu (F := [(m 8, .inl (gy G 0, 10, .inl tn))]) E (mX8_wishes G m q S f ((g / 1000) % 10) ((g / 100) % 10) hK hT100 hRR (by omega) (by omega)) gX8_does_X8_wishes rfl hdX8_wishes ⟨Nat.le_of_ble_eq_true rfl, Nat.le_of_ble_eq_true rfl⟩ 8 0 rfl rfl rfl (gPerm_ix [0, 1, 2] rfl rfl) rfl rfl (Nat.le_of_ble_eq_true rfl) dX8_does_140 ⟨Nat.le_of_ble_eq_true rfl, Nat.le_of_ble_eq_true rfl⟩ (fun u6 hU6 => ?_)
        obtain ⟨S6, xE6⟩ : ∃ xx, xx = (gOkR (gTryWish S (nI ((g / 1000) % 10)) (nI ((g / 100) % 10)))).2 := ⟨_, rfl⟩
        have hRR6 : RR S6 u6 := by rw [xE6]; exact hU6
        refine g_perm (ws1 := [(m 0, .inr (8, [.int (q 0), .ref (m 1), .int (q 1), .int (q 2), .int (q 3), .int (q 4), .ref (m 2), .ref (m 3), .ref (m 4), .ref (m 5), .int (q 5), .ref (m 6), .ref (m 7), .ref (m 8), .int (q 6), .int (q 7), .int (q 8)])), (m 4, .inl (gy G 0, 271, .inl u6)), (m 8, .inl (gy G 0, 10, .inl tn))]) (gPerm_ix [0, 1, 2] rfl rfl) ?_
        refine g_if_eq (tgt := 150) E dX8_does_143 (by decide) (fun c8 => ?_) (fun c8 => ?_)
        · skip
          refine g_iconst (v := 0) E dX8_does_150 (by decide) ?_
          exact RET _ _ _ (q 6, tn, u6) (⟨by rw [gSucc_2 k2, if_pos c5]; exact (c8).symm, by rw [gSucc_2 k2, if_pos c5]; exact (xE6 ▸ hRR6)⟩) rfl dX8_does_151
        · skip
          refine g_iconst (v := 1) E dX8_does_146 (by decide) ?_
          refine g_goto (tgt := 151) E dX8_does_147 (by decide) ?_
          exact RET _ _ _ (q 6, tn, u6) (⟨by have q := gSucc_01 S g; rw [gSucc_2 k2, if_pos c5] at q ⊢; exact (q.resolve_left c8).symm, by rw [gSucc_2 k2, if_pos c5]; exact (xE6 ▸ hRR6)⟩) rfl dX8_does_151
    · skip
      refine g_top (y := 3) (by rw [k2]; rfl) ?_
      refine g_tableIn (tgt := 152) E dX8_does_63 (by decide) (by decide) rfl (by decide) ?_
      refine g_iload E dX8_does_152 3 rfl ?_
      refine g_if_neN (tgt := 173) (a := (g / 10) % 10) E dX8_does_154 (by decide) (by omega) (fun c9 => ?_) (fun c9 => ?_)
      · skip
        refine g_iconst (v := 0) E dX8_does_173 (by decide) ?_
        exact RET _ _ _ (q 6, tn, f) (⟨by rw [gSucc_3 k2, if_neg c9], by rw [gSucc_3 k2, if_neg c9]; exact hRR⟩) rfl dX8_does_174
      · skip
        refine g_aload_n E dX8_does_157 rfl 7 rfl ?_
        refine g_iload_n E dX8_does_158 rfl 5 rfl ?_
        refine g_iload E dX8_does_159 4 rfl ?_
        refine g_iload E dX8_does_161 2 rfl ?_
        refine g_callVIu (F := [(m 8, .inl (gy G 0, 10, .inl tn))]) E (mX8_lists G m q S f ((g / 1000) % 10) ((g / 100) % 10) (g % 10) hK hT100 hRR (by omega) (by omega) (by omega)) gX8_does_X8_lists rfl hdX8_lists ⟨Nat.le_of_ble_eq_true rfl, Nat.le_of_ble_eq_true rfl⟩ 8 0 rfl rfl rfl (gPerm_ix [0, 1, 2] rfl rfl) rfl rfl (Nat.le_of_ble_eq_true rfl) dX8_does_163 ⟨Nat.le_of_ble_eq_true rfl, Nat.le_of_ble_eq_true rfl⟩ (fun u10 hU10 => ?_)
        obtain ⟨S10, xE10⟩ : ∃ xx, xx = (if 1 < (g % 10) then (0, S) else gOkR (gTryList S (nI ((g / 1000) % 10)) (nI ((g / 100) % 10)) (if (g % 10) = 1 then 1 else 0))).2 := ⟨_, rfl⟩
        have hRR10 : RR S10 u10 := by rw [xE10]; exact hU10
        refine g_perm (ws1 := [(m 0, .inr (8, [.int (q 0), .ref (m 1), .int (q 1), .int (q 2), .int (q 3), .int (q 4), .ref (m 2), .ref (m 3), .ref (m 4), .ref (m 5), .int (q 5), .ref (m 6), .ref (m 7), .ref (m 8), .int (q 6), .int (q 7), .int (q 8)])), (m 4, .inl (gy G 0, 271, .inl u10)), (m 8, .inl (gy G 0, 10, .inl tn))]) (gPerm_ix [0, 1, 2] rfl rfl) ?_
        refine g_if_eq (tgt := 173) E dX8_does_166 (by decide) (fun c12 => ?_) (fun c12 => ?_)
        · skip
          refine g_iconst (v := 0) E dX8_does_173 (by decide) ?_
          exact RET _ _ _ (q 6, tn, u10) (⟨by rw [gSucc_3 k2, if_pos c9]; exact (c12).symm, by rw [gSucc_3 k2, if_pos c9]; exact (xE10 ▸ hRR10)⟩) rfl dX8_does_174
        · skip
          refine g_iconst (v := 1) E dX8_does_169 (by decide) ?_
          refine g_goto (tgt := 174) E dX8_does_170 (by decide) ?_
          exact RET _ _ _ (q 6, tn, u10) (⟨by have q := gSucc_01 S g; rw [gSucc_3 k2, if_pos c9] at q ⊢; exact (q.resolve_left c12).symm, by rw [gSucc_3 k2, if_pos c9]; exact (xE10 ▸ hRR10)⟩) rfl dX8_does_174
    · skip
      refine g_top (y := 4) (by rw [k2]; rfl) ?_
      refine g_tableIn (tgt := 175) E dX8_does_63 (by decide) (by decide) rfl (by decide) ?_
      refine g_iload E dX8_does_175 4 rfl ?_
      refine g_if_neN (tgt := 199) (a := (g / 100) % 10) E dX8_does_177 (by decide) (by omega) (fun c13 => ?_) (fun c13 => ?_)
      · skip
        refine g_iconst (v := 0) E dX8_does_199 (by decide) ?_
        exact RET _ _ _ (q 6, tn, f) (⟨by rw [gSucc_4 k2, if_neg c13], by rw [gSucc_4 k2, if_neg c13]; exact hRR⟩) rfl dX8_does_200
      · skip
        refine g_iload E dX8_does_180 3 rfl ?_
        refine g_if_neN (tgt := 199) (a := (g / 10) % 10) E dX8_does_182 (by decide) (by omega) (fun c14 => ?_) (fun c14 => ?_)
        · skip
          refine g_iconst (v := 0) E dX8_does_199 (by decide) ?_
          exact RET _ _ _ (q 6, tn, f) (⟨by rw [gSucc_4 k2, if_pos c13, if_neg c14], by rw [gSucc_4 k2, if_pos c13, if_neg c14]; exact hRR⟩) rfl dX8_does_200
        · skip
          refine g_aload_n E dX8_does_185 rfl 7 rfl ?_
          refine g_iload_n E dX8_does_186 rfl 5 rfl ?_
          refine g_iload E dX8_does_187 2 rfl ?_
          refine g_callVIu (F := [(m 8, .inl (gy G 0, 10, .inl tn))]) E (mX8_carries G m q S f ((g / 1000) % 10) (g % 10) hK hT100 hRR (by omega) (by omega)) gX8_does_X8_carries rfl hdX8_carries ⟨Nat.le_of_ble_eq_true rfl, Nat.le_of_ble_eq_true rfl⟩ 8 0 rfl rfl rfl (gPerm_ix [0, 1, 2] rfl rfl) rfl rfl (Nat.le_of_ble_eq_true rfl) dX8_does_189 ⟨Nat.le_of_ble_eq_true rfl, Nat.le_of_ble_eq_true rfl⟩ (fun u15 hU15 => ?_)
          obtain ⟨S15, xE15⟩ : ∃ xx, xx = (if 1 < (g % 10) then (0, S) else gOkR (gTryCarry S (nI ((g / 1000) % 10)) (if (g % 10) = 1 then 1 else 0))).2 := ⟨_, rfl⟩
          have hRR15 : RR S15 u15 := by rw [xE15]; exact hU15
          refine g_perm (ws1 := [(m 0, .inr (8, [.int (q 0), .ref (m 1), .int (q 1), .int (q 2), .int (q 3), .int (q 4), .ref (m 2), .ref (m 3), .ref (m 4), .ref (m 5), .int (q 5), .ref (m 6), .ref (m 7), .ref (m 8), .int (q 6), .int (q 7), .int (q 8)])), (m 4, .inl (gy G 0, 271, .inl u15)), (m 8, .inl (gy G 0, 10, .inl tn))]) (gPerm_ix [0, 1, 2] rfl rfl) ?_
          refine g_if_eq (tgt := 199) E dX8_does_192 (by decide) (fun c17 => ?_) (fun c17 => ?_)
          · skip
            refine g_iconst (v := 0) E dX8_does_199 (by decide) ?_
            exact RET _ _ _ (q 6, tn, u15) (⟨by rw [gSucc_4 k2, if_pos c13, if_pos c14]; exact (c17).symm, by rw [gSucc_4 k2, if_pos c13, if_pos c14]; exact (xE15 ▸ hRR15)⟩) rfl dX8_does_200
          · skip
            refine g_iconst (v := 1) E dX8_does_195 (by decide) ?_
            refine g_goto (tgt := 200) E dX8_does_196 (by decide) ?_
            exact RET _ _ _ (q 6, tn, u15) (⟨by have q := gSucc_01 S g; rw [gSucc_4 k2, if_pos c13, if_pos c14] at q ⊢; exact (q.resolve_left c17).symm, by rw [gSucc_4 k2, if_pos c13, if_pos c14]; exact (xE15 ▸ hRR15)⟩) rfl dX8_does_200
    · skip
      refine g_top (y := 5) (by rw [k2]; rfl) ?_
      refine g_tableIn (tgt := 201) E dX8_does_63 (by decide) (by decide) rfl (by decide) ?_
      refine g_iload E dX8_does_201 4 rfl ?_
      refine g_if_neN (tgt := 220) (a := (g / 100) % 10) E dX8_does_203 (by decide) (by omega) (fun c18 => ?_) (fun c18 => ?_)
      · skip
        refine g_iconst (v := 0) E dX8_does_220 (by decide) ?_
        exact RET _ _ _ (q 6, tn, f) (⟨by rw [gSucc_5 k2, if_neg c18], by rw [gSucc_5 k2, if_neg c18]; exact hRR⟩) rfl dX8_does_221
      · skip
        refine g_aload_n E dX8_does_206 rfl 7 rfl ?_
        refine g_iload_n E dX8_does_207 rfl 5 rfl ?_
        refine g_iload E dX8_does_208 1 rfl ?_
        refine g_callVIu (F := [(m 8, .inl (gy G 0, 10, .inl tn))]) E (mX8_punishes G m q S f ((g / 1000) % 10) (g % 100) hK hT100 hRR (by omega) (by omega)) gX8_does_X8_punishes rfl hdX8_punishes ⟨Nat.le_of_ble_eq_true rfl, Nat.le_of_ble_eq_true rfl⟩ 8 0 rfl rfl rfl (gPerm_ix [0, 1, 2] rfl rfl) rfl rfl (Nat.le_of_ble_eq_true rfl) dX8_does_210 ⟨Nat.le_of_ble_eq_true rfl, Nat.le_of_ble_eq_true rfl⟩ (fun u19 hU19 => ?_)
        obtain ⟨S19, xE19⟩ : ∃ xx, xx = (gOkR (gTryPunish S (nI ((g / 1000) % 10)) (nI (g % 100)))).2 := ⟨_, rfl⟩
        have hRR19 : RR S19 u19 := by rw [xE19]; exact hU19
        refine g_perm (ws1 := [(m 0, .inr (8, [.int (q 0), .ref (m 1), .int (q 1), .int (q 2), .int (q 3), .int (q 4), .ref (m 2), .ref (m 3), .ref (m 4), .ref (m 5), .int (q 5), .ref (m 6), .ref (m 7), .ref (m 8), .int (q 6), .int (q 7), .int (q 8)])), (m 4, .inl (gy G 0, 271, .inl u19)), (m 8, .inl (gy G 0, 10, .inl tn))]) (gPerm_ix [0, 1, 2] rfl rfl) ?_
        refine g_if_eq (tgt := 220) E dX8_does_213 (by decide) (fun c21 => ?_) (fun c21 => ?_)
        · skip
          refine g_iconst (v := 0) E dX8_does_220 (by decide) ?_
          exact RET _ _ _ (q 6, tn, u19) (⟨by rw [gSucc_5 k2, if_pos c18]; exact (c21).symm, by rw [gSucc_5 k2, if_pos c18]; exact (xE19 ▸ hRR19)⟩) rfl dX8_does_221
        · skip
          refine g_iconst (v := 1) E dX8_does_216 (by decide) ?_
          refine g_goto (tgt := 221) E dX8_does_217 (by decide) ?_
          exact RET _ _ _ (q 6, tn, u19) (⟨by have q := gSucc_01 S g; rw [gSucc_5 k2, if_pos c18] at q ⊢; exact (q.resolve_left c21).symm, by rw [gSucc_5 k2, if_pos c18]; exact (xE19 ▸ hRR19)⟩) rfl dX8_does_221
    · skip
      refine g_top (y := 6) (by rw [k2]; rfl) ?_
      refine g_tableIn (tgt := 222) E dX8_does_63 (by decide) (by decide) rfl (by decide) ?_
      refine g_iload E dX8_does_222 0 rfl ?_
      refine g_if_eq (tgt := 240) E dX8_does_224 (by decide) (fun _ => ?_) (fun c => absurd c (by decide))
      refine g_iconst (v := 0) E dX8_does_240 (by decide) ?_
      exact RET _ _ _ (q 6, tn, f) (⟨by rw [gSucc_6 k2, if_neg (by omega)], by rw [gSucc_6 k2, if_neg (by omega)]; exact hRR⟩) rfl dX8_does_241
    · skip
      refine g_top (y := 7) (by rw [k2]; rfl) ?_
      refine g_tableIn (tgt := 242) E dX8_does_63 (by decide) (by decide) rfl (by decide) ?_
      refine g_iload E dX8_does_242 4 rfl ?_
      refine g_if_neN (tgt := 275) (a := (g / 100) % 10) E dX8_does_244 (by decide) (by omega) (fun c22 => ?_) (fun c22 => ?_)
      · skip
        refine g_iconst (v := 0) E dX8_does_275 (by decide) ?_
        exact RET _ _ _ (q 6, tn, f) (⟨by rw [gSucc_7 k2 hP8, if_neg c22], by rw [gSucc_7 k2 hP8, if_neg c22]; exact hRR⟩) rfl dX8_does_276
      · skip
        refine g_aload_n E dX8_does_247 rfl 7 rfl ?_
        refine g_iload_n E dX8_does_248 rfl 5 rfl ?_
        refine g_iconst (v := 0) E dX8_does_249 (by decide) ?_
        refine g_callVIe (F := [(m 8, .inl (gy G 0, 10, .inl tn))]) (ws2 := [(m 0, .inr (8, [.int (q 0), .ref (m 1), .int (q 1), .int (q 2), .int (q 3), .int (q 4), .ref (m 2), .ref (m 3), .ref (m 4), .ref (m 5), .int (q 5), .ref (m 6), .ref (m 7), .ref (m 8), .int (q 6), .int (q 7), .int (q 8)])), (m 4, .inl (gy G 0, 271, .inl f)), (m 8, .inl (gy G 0, 10, .inl tn))]) E (mX8_isThere G m q S f ((g / 1000) % 10) 0 hI hT hRR (by omega) (by omega)) gX8_does_X8_isThere rfl hdX8_isThere ⟨Nat.le_of_ble_eq_true rfl, Nat.le_of_ble_eq_true rfl⟩ 8 0 rfl rfl rfl (gPerm_ix [0, 1, 2] rfl rfl) rfl rfl (Nat.le_of_ble_eq_true rfl) dX8_does_250 ⟨Nat.le_of_ble_eq_true rfl, Nat.le_of_ble_eq_true rfl⟩ (gPerm_ix [0, 1, 2] rfl rfl) ?_
        refine g_if_eqB (tgt := 275) (P := ((g / 1000) % 10 < sN S 1 ∧ 0 < 10)) E dX8_does_253 (by decide) (fun c23 => ?_) (fun c23 => ?_)
        · skip
          refine g_iconst (v := 0) E dX8_does_275 (by decide) ?_
          exact RET _ _ _ (q 6, tn, f) (⟨by rw [gSucc_7 k2 hP8, if_pos c22, if_neg c23], by rw [gSucc_7 k2 hP8, if_pos c22, if_neg c23]; exact hRR⟩) rfl dX8_does_276
        · skip
          refine g_aload_n E dX8_does_256 rfl 7 rfl ?_
          refine g_get E uX8_does_RX8 0 rfl rfl 8 (by decide) kX8_does_19 rfl rfl dX8_does_257 ?_
          refine g_iload_n E dX8_does_260 rfl 5 rfl ?_
          refine g_iconst (v := 3) E dX8_does_261 (by decide) ?_
          refine g_callSIe (F := [(m 0, .inr (8, [.int (q 0), .ref (m 1), .int (q 1), .int (q 2), .int (q 3), .int (q 4), .ref (m 2), .ref (m 3), .ref (m 4), .ref (m 5), .int (q 5), .ref (m 6), .ref (m 7), .ref (m 8), .int (q 6), .int (q 7), .int (q 8)])), (m 4, .inl (gy G 0, 271, .inl f)), (m 8, .inl (gy G 0, 10, .inl tn))]) (ws2 := [(m 0, .inr (8, [.int (q 0), .ref (m 1), .int (q 1), .int (q 2), .int (q 3), .int (q 4), .ref (m 2), .ref (m 3), .ref (m 4), .ref (m 5), .int (q 5), .ref (m 6), .ref (m 7), .ref (m 8), .int (q 6), .int (q 7), .int (q 8)])), (m 4, .inl (gy G 0, 271, .inl f)), (m 8, .inl (gy G 0, 10, .inl tn))]) E (mX8_prisonerAt G ((g / 1000) % 10) 3 (by omega) (by omega)) gX8_does_X8_prisonerAt rfl hnX8_prisonerAt ⟨Nat.le_of_ble_eq_true rfl, Nat.le_of_ble_eq_true rfl⟩ (gPerm_ix [0, 1, 2] rfl rfl) rfl rfl (Nat.le_of_ble_eq_true rfl) dX8_does_262 ⟨Nat.le_of_ble_eq_true rfl, Nat.le_of_ble_eq_true rfl⟩ (gPerm_ix [0, 1, 2] rfl rfl) ?_
          refine g_ialdN (e := 15 + 6 * ((g / 1000) % 10) + 3) E 1 rfl (by omega) rfl (v := sI S 3 ((g / 1000) % 10)) (RR_P hRR (p := (g / 1000) % 10) (w := 3) (by omega) (by omega)) dX8_does_265 ?_
          refine g_iload E dX8_does_266 1 rfl ?_
          refine g_icmp_lt (tgt := 275) E dX8_does_268 (by decide) (fun c24 => ?_) (fun c24 => ?_)
          · skip
            refine g_iconst (v := 0) E dX8_does_275 (by decide) ?_
            exact RET _ _ _ (q 6, tn, f) (⟨by rw [gSucc_7 k2 hP8, if_pos c22, if_pos c23, if_pos c24], by rw [gSucc_7 k2 hP8, if_pos c22, if_pos c23, if_pos c24]; exact hRR⟩) rfl dX8_does_276
          · skip
            refine g_iconst (v := 1) E dX8_does_271 (by decide) ?_
            refine g_goto (tgt := 276) E dX8_does_272 (by decide) ?_
            exact RET _ _ _ (q 6, tn, f) (⟨by rw [gSucc_7 k2 hP8, if_pos c22, if_pos c23, if_neg c24], by rw [gSucc_7 k2 hP8, if_pos c22, if_pos c23, if_neg c24]; exact hRR⟩) rfl dX8_does_276
    · skip
      refine g_top (y := 8) (by rw [k2]; rfl) ?_
      refine g_tableIn (tgt := 277) E dX8_does_63 (by decide) (by decide) rfl (by decide) ?_
      refine g_iload_n E dX8_does_277 rfl 8 rfl ?_
      refine g_sipush (v := 1000) E dX8_does_278 (by decide) ?_
      refine g_iremN (a := g) (b := 1000) E dX8_does_281 (by omega) (by omega) (by omega) ?_
      refine g_if_neN (tgt := 313) (a := g % 1000) E dX8_does_282 (by decide) (by omega) (fun c25 => ?_) (fun c25 => ?_)
      · skip
        refine g_iconst (v := 0) E dX8_does_313 (by decide) ?_
        exact RET _ _ _ (q 6, tn, f) (⟨by rw [gSucc_8 k2, if_neg c25], by rw [gSucc_8 k2, if_neg c25]; exact hRR⟩) rfl dX8_does_314
      · skip
        refine g_iload_n E dX8_does_285 rfl 5 rfl ?_
        refine g_callSIe (F := [(m 0, .inr (8, [.int (q 0), .ref (m 1), .int (q 1), .int (q 2), .int (q 3), .int (q 4), .ref (m 2), .ref (m 3), .ref (m 4), .ref (m 5), .int (q 5), .ref (m 6), .ref (m 7), .ref (m 8), .int (q 6), .int (q 7), .int (q 8)])), (m 4, .inl (gy G 0, 271, .inl f)), (m 8, .inl (gy G 0, 10, .inl tn))]) (ws2 := [(m 0, .inr (8, [.int (q 0), .ref (m 1), .int (q 1), .int (q 2), .int (q 3), .int (q 4), .ref (m 2), .ref (m 3), .ref (m 4), .ref (m 5), .int (q 5), .ref (m 6), .ref (m 7), .ref (m 8), .int (q 6), .int (q 7), .int (q 8)])), (m 4, .inl (gy G 0, 271, .inl f)), (m 8, .inl (gy G 0, 10, .inl tn))]) E (mX8_isVisitor G (nI ((g / 1000) % 10))) gX8_does_X8_isVisitor rfl hnX8_isVisitor ⟨Nat.le_of_ble_eq_true rfl, Nat.le_of_ble_eq_true rfl⟩ (gPerm_ix [0, 1, 2] rfl rfl) rfl rfl (Nat.le_of_ble_eq_true rfl) dX8_does_286 ⟨Nat.le_of_ble_eq_true rfl, Nat.le_of_ble_eq_true rfl⟩ (gPerm_ix [0, 1, 2] rfl rfl) ?_
        refine g_if_eqB (tgt := 313) (P := (¬ (nI ((g / 1000) % 10)) < 0 ∧ ¬ 9 < (nI ((g / 1000) % 10)))) E dX8_does_289 (by decide) (fun c26 => ?_) (fun c26 => ?_)
        · exfalso
          exact c26 ((gV9N (by omega)).mpr (by omega))
        · skip
          refine g_aload_n E dX8_does_292 rfl 7 rfl ?_
          refine g_get E uX8_does_RX8 0 rfl rfl 8 (by decide) kX8_does_19 rfl rfl dX8_does_293 ?_
          refine g_iload_n E dX8_does_296 rfl 5 rfl ?_
          refine g_aload_n E dX8_does_297 rfl 7 rfl ?_
          refine g_get E uX8_does_RX8 0 rfl rfl 8 (by decide) kX8_does_19 rfl rfl dX8_does_298 ?_
          refine g_iconst (v := 0) E dX8_does_301 (by decide) ?_
          refine g_ialdN (e := 0) E 1 rfl (by omega) rfl (v := nI (sN S 0)) (RR_0 hRR) dX8_does_302 ?_
          refine g_callSIe (F := [(m 0, .inr (8, [.int (q 0), .ref (m 1), .int (q 1), .int (q 2), .int (q 3), .int (q 4), .ref (m 2), .ref (m 3), .ref (m 4), .ref (m 5), .int (q 5), .ref (m 6), .ref (m 7), .ref (m 8), .int (q 6), .int (q 7), .int (q 8)])), (m 8, .inl (gy G 0, 10, .inl tn))]) (ws2 := [(m 0, .inr (8, [.int (q 0), .ref (m 1), .int (q 1), .int (q 2), .int (q 3), .int (q 4), .ref (m 2), .ref (m 3), .ref (m 4), .ref (m 5), .int (q 5), .ref (m 6), .ref (m 7), .ref (m 8), .int (q 6), .int (q 7), .int (q 8)])), (m 4, .inl (gy G 0, 271, .inl f)), (m 8, .inl (gy G 0, 10, .inl tn))]) E (mX8_isBanned G (m 4) S f ((g / 1000) % 10) (sN S 0) (gI1_r hI) hT hRR (by omega)) gX8_does_X8_isBanned rfl hnX8_isBanned ⟨Nat.le_of_ble_eq_true rfl, Nat.le_of_ble_eq_true rfl⟩ (gPerm_ix [1, 0, 2] rfl rfl) rfl rfl (Nat.le_of_ble_eq_true rfl) dX8_does_303 ⟨Nat.le_of_ble_eq_true rfl, Nat.le_of_ble_eq_true rfl⟩ (gPerm_ix [1, 0, 2] rfl rfl) ?_
          refine g_if_neB (tgt := 313) (P := nI (sN S 0) < sI S 7 ((g / 1000) % 10)) E dX8_does_306 (by decide) (fun c27 => ?_) (fun c27 => ?_)
          · skip
            refine g_iconst (v := 0) E dX8_does_313 (by decide) ?_
            exact RET _ _ _ (q 6, tn, f) (⟨by rw [gSucc_8 k2, if_pos c25, if_pos c27], by rw [gSucc_8 k2, if_pos c25, if_pos c27]; exact hRR⟩) rfl dX8_does_314
          · skip
            refine g_iconst (v := 1) E dX8_does_309 (by decide) ?_
            refine g_goto (tgt := 314) E dX8_does_310 (by decide) ?_
            exact RET _ _ _ (q 6, tn, f) (⟨by rw [gSucc_8 k2, if_pos c25, if_neg c27], by rw [gSucc_8 k2, if_pos c25, if_neg c27]; exact hRR⟩) rfl dX8_does_314
    · skip
      refine g_top (y := 9) (by rw [k2]; rfl) ?_
      refine g_tableIn (tgt := 315) E dX8_does_63 (by decide) (by decide) rfl (by decide) ?_
      refine g_iload E dX8_does_315 0 rfl ?_
      refine g_if_eq (tgt := 335) E dX8_does_317 (by decide) (fun _ => ?_) (fun c => absurd c (by decide))
      refine g_iconst (v := 0) E dX8_does_335 (by decide) ?_
      exact RET _ _ _ (q 6, tn, f) (⟨by rw [gSucc_9 k2, if_neg (by omega)], by rw [gSucc_9 k2, if_neg (by omega)]; exact hRR⟩) rfl dX8_does_336
  · skip
    refine g_iconst (v := 1) E dX8_does_55 (by decide) ?_
    refine g_goto (tgt := 60) E dX8_does_56 (by decide) ?_
    refine g_istore (lv' := [(8, .int 1), (7, .int (nI (g % 100))), (6, .int (nI (g % 10))), (5, .int (nI ((g / 10) % 10))), (4, .int (nI ((g / 100) % 10))), (3, .int (nI ((g / 1000) % 10))), (2, .int (nI (g / 10000))), (0, .ref (m 0)), (1, .int (nI g))]) E dX8_does_60 (by decide) rfl ?_
    refine g_iload_n E dX8_does_62 rfl 6 rfl ?_
    rcases (show g / 10000 = 0 ∨ g / 10000 = 1 ∨ g / 10000 = 2 ∨ g / 10000 = 3 ∨ g / 10000 = 4 ∨ g / 10000 = 5 ∨ g / 10000 = 6 ∨ g / 10000 = 7 ∨ g / 10000 = 8 ∨ g / 10000 = 9 by omega) with k28 | k28 | k28 | k28 | k28 | k28 | k28 | k28 | k28 | k28
    · skip
      refine g_top (y := 0) (by rw [k28]; rfl) ?_
      refine g_tableOut (tgt := 337) E dX8_does_63 (by decide) (by decide) ?_
      refine g_iconst (v := 0) E dX8_does_337 (by decide) ?_
      exact RET _ _ _ (q 6, tn, f) (⟨by rw [gSucc_0 k28], by rw [gSucc_0 k28]; exact hRR⟩) rfl dX8_does_338
    · skip
      refine g_top (y := 1) (by rw [k28]; rfl) ?_
      refine g_tableIn (tgt := 112) E dX8_does_63 (by decide) (by decide) rfl (by decide) ?_
      refine g_aload_n E dX8_does_112 rfl 7 rfl ?_
      refine g_iload_n E dX8_does_113 rfl 5 rfl ?_
      refine g_iload E dX8_does_114 4 rfl ?_
      refine g_aload_n E dX8_does_116 rfl 7 rfl ?_
      refine g_get E uX8_does_RX8 0 rfl rfl 8 (by decide) kX8_does_19 rfl rfl dX8_does_117 ?_
      refine g_iconst (v := 0) E dX8_does_120 (by decide) ?_
      refine g_ialdN (e := 0) E 1 rfl (by omega) rfl (v := nI (sN S 0)) (RR_0 hRR) dX8_does_121 ?_
      refine g_iload E dX8_does_122 3 rfl ?_
      refine g_iaddN (a := sN S 0) (b := (g / 10) % 10) E dX8_does_124 ?_
      refine g_iload E dX8_does_125 2 rfl ?_
      refine g_callVIu (F := [(m 8, .inl (gy G 0, 10, .inl tn))]) E (mX8_books G m q S f ((g / 1000) % 10) ((g / 100) % 10) (sN S 0 + ((g / 10) % 10)) (g % 10) hK hT100 hRR (by omega) (by omega) (by omega) (by omega)) gX8_does_X8_books rfl hdX8_books ⟨Nat.le_of_ble_eq_true rfl, Nat.le_of_ble_eq_true rfl⟩ 8 0 rfl rfl rfl (gPerm_ix [0, 1, 2] rfl rfl) rfl rfl (Nat.le_of_ble_eq_true rfl) dX8_does_127 ⟨Nat.le_of_ble_eq_true rfl, Nat.le_of_ble_eq_true rfl⟩ (fun u29 hU29 => ?_)
      obtain ⟨S29, xE29⟩ : ∃ xx, xx = (gOkR (gTryBook S (nI ((g / 1000) % 10)) (nI ((g / 100) % 10)) (nI (sN S 0 + ((g / 10) % 10))) (nI (g % 10)))).2 := ⟨_, rfl⟩
      have hRR29 : RR S29 u29 := by rw [xE29]; exact hU29
      refine g_perm (ws1 := [(m 0, .inr (8, [.int (q 0), .ref (m 1), .int (q 1), .int (q 2), .int (q 3), .int (q 4), .ref (m 2), .ref (m 3), .ref (m 4), .ref (m 5), .int (q 5), .ref (m 6), .ref (m 7), .ref (m 8), .int (q 6), .int (q 7), .int (q 8)])), (m 4, .inl (gy G 0, 271, .inl u29)), (m 8, .inl (gy G 0, 10, .inl tn))]) (gPerm_ix [0, 1, 2] rfl rfl) ?_
      exact RET _ _ _ (q 6, tn, u29) (⟨by rw [gSucc_1 k28], by rw [gSucc_1 k28]; exact (xE29 ▸ hRR29)⟩) (gNar_01 (gOkR_01 _)) dX8_does_130
    · skip
      refine g_top (y := 2) (by rw [k28]; rfl) ?_
      refine g_tableIn (tgt := 131) E dX8_does_63 (by decide) (by decide) rfl (by decide) ?_
      refine g_iload E dX8_does_131 1 rfl ?_
      refine g_if_neN (tgt := 150) (a := g % 100) E dX8_does_133 (by decide) (by omega) (fun c31 => ?_) (fun c31 => ?_)
      · skip
        refine g_iconst (v := 0) E dX8_does_150 (by decide) ?_
        exact RET _ _ _ (q 6, tn, f) (⟨by rw [gSucc_2 k28, if_neg c31], by rw [gSucc_2 k28, if_neg c31]; exact hRR⟩) rfl dX8_does_151
      · skip
        refine g_aload_n E dX8_does_136 rfl 7 rfl ?_
        refine g_iload_n E dX8_does_137 rfl 5 rfl ?_
        refine g_iload E dX8_does_138 4 rfl ?_
        refine g_callVIu (F := [(m 8, .inl (gy G 0, 10, .inl tn))]) E (mX8_wishes G m q S f ((g / 1000) % 10) ((g / 100) % 10) hK hT100 hRR (by omega) (by omega)) gX8_does_X8_wishes rfl hdX8_wishes ⟨Nat.le_of_ble_eq_true rfl, Nat.le_of_ble_eq_true rfl⟩ 8 0 rfl rfl rfl (gPerm_ix [0, 1, 2] rfl rfl) rfl rfl (Nat.le_of_ble_eq_true rfl) dX8_does_140 ⟨Nat.le_of_ble_eq_true rfl, Nat.le_of_ble_eq_true rfl⟩ (fun u32 hU32 => ?_)
        obtain ⟨S32, xE32⟩ : ∃ xx, xx = (gOkR (gTryWish S (nI ((g / 1000) % 10)) (nI ((g / 100) % 10)))).2 := ⟨_, rfl⟩
        have hRR32 : RR S32 u32 := by rw [xE32]; exact hU32
        refine g_perm (ws1 := [(m 0, .inr (8, [.int (q 0), .ref (m 1), .int (q 1), .int (q 2), .int (q 3), .int (q 4), .ref (m 2), .ref (m 3), .ref (m 4), .ref (m 5), .int (q 5), .ref (m 6), .ref (m 7), .ref (m 8), .int (q 6), .int (q 7), .int (q 8)])), (m 4, .inl (gy G 0, 271, .inl u32)), (m 8, .inl (gy G 0, 10, .inl tn))]) (gPerm_ix [0, 1, 2] rfl rfl) ?_
        refine g_if_eq (tgt := 150) E dX8_does_143 (by decide) (fun c34 => ?_) (fun c34 => ?_)
        · skip
          refine g_iconst (v := 0) E dX8_does_150 (by decide) ?_
          exact RET _ _ _ (q 6, tn, u32) (⟨by rw [gSucc_2 k28, if_pos c31]; exact (c34).symm, by rw [gSucc_2 k28, if_pos c31]; exact (xE32 ▸ hRR32)⟩) rfl dX8_does_151
        · skip
          refine g_iconst (v := 1) E dX8_does_146 (by decide) ?_
          refine g_goto (tgt := 151) E dX8_does_147 (by decide) ?_
          exact RET _ _ _ (q 6, tn, u32) (⟨by have q := gSucc_01 S g; rw [gSucc_2 k28, if_pos c31] at q ⊢; exact (q.resolve_left c34).symm, by rw [gSucc_2 k28, if_pos c31]; exact (xE32 ▸ hRR32)⟩) rfl dX8_does_151
    · skip
      refine g_top (y := 3) (by rw [k28]; rfl) ?_
      refine g_tableIn (tgt := 152) E dX8_does_63 (by decide) (by decide) rfl (by decide) ?_
      refine g_iload E dX8_does_152 3 rfl ?_
      refine g_if_neN (tgt := 173) (a := (g / 10) % 10) E dX8_does_154 (by decide) (by omega) (fun c35 => ?_) (fun c35 => ?_)
      · skip
        refine g_iconst (v := 0) E dX8_does_173 (by decide) ?_
        exact RET _ _ _ (q 6, tn, f) (⟨by rw [gSucc_3 k28, if_neg c35], by rw [gSucc_3 k28, if_neg c35]; exact hRR⟩) rfl dX8_does_174
      · skip
        refine g_aload_n E dX8_does_157 rfl 7 rfl ?_
        refine g_iload_n E dX8_does_158 rfl 5 rfl ?_
        refine g_iload E dX8_does_159 4 rfl ?_
        refine g_iload E dX8_does_161 2 rfl ?_
        refine g_callVIu (F := [(m 8, .inl (gy G 0, 10, .inl tn))]) E (mX8_lists G m q S f ((g / 1000) % 10) ((g / 100) % 10) (g % 10) hK hT100 hRR (by omega) (by omega) (by omega)) gX8_does_X8_lists rfl hdX8_lists ⟨Nat.le_of_ble_eq_true rfl, Nat.le_of_ble_eq_true rfl⟩ 8 0 rfl rfl rfl (gPerm_ix [0, 1, 2] rfl rfl) rfl rfl (Nat.le_of_ble_eq_true rfl) dX8_does_163 ⟨Nat.le_of_ble_eq_true rfl, Nat.le_of_ble_eq_true rfl⟩ (fun u36 hU36 => ?_)
        obtain ⟨S36, xE36⟩ : ∃ xx, xx = (if 1 < (g % 10) then (0, S) else gOkR (gTryList S (nI ((g / 1000) % 10)) (nI ((g / 100) % 10)) (if (g % 10) = 1 then 1 else 0))).2 := ⟨_, rfl⟩
        have hRR36 : RR S36 u36 := by rw [xE36]; exact hU36
        refine g_perm (ws1 := [(m 0, .inr (8, [.int (q 0), .ref (m 1), .int (q 1), .int (q 2), .int (q 3), .int (q 4), .ref (m 2), .ref (m 3), .ref (m 4), .ref (m 5), .int (q 5), .ref (m 6), .ref (m 7), .ref (m 8), .int (q 6), .int (q 7), .int (q 8)])), (m 4, .inl (gy G 0, 271, .inl u36)), (m 8, .inl (gy G 0, 10, .inl tn))]) (gPerm_ix [0, 1, 2] rfl rfl) ?_
        refine g_if_eq (tgt := 173) E dX8_does_166 (by decide) (fun c38 => ?_) (fun c38 => ?_)
        · skip
          refine g_iconst (v := 0) E dX8_does_173 (by decide) ?_
          exact RET _ _ _ (q 6, tn, u36) (⟨by rw [gSucc_3 k28, if_pos c35]; exact (c38).symm, by rw [gSucc_3 k28, if_pos c35]; exact (xE36 ▸ hRR36)⟩) rfl dX8_does_174
        · skip
          refine g_iconst (v := 1) E dX8_does_169 (by decide) ?_
          refine g_goto (tgt := 174) E dX8_does_170 (by decide) ?_
          exact RET _ _ _ (q 6, tn, u36) (⟨by have q := gSucc_01 S g; rw [gSucc_3 k28, if_pos c35] at q ⊢; exact (q.resolve_left c38).symm, by rw [gSucc_3 k28, if_pos c35]; exact (xE36 ▸ hRR36)⟩) rfl dX8_does_174
    · skip
      refine g_top (y := 4) (by rw [k28]; rfl) ?_
      refine g_tableIn (tgt := 175) E dX8_does_63 (by decide) (by decide) rfl (by decide) ?_
      refine g_iload E dX8_does_175 4 rfl ?_
      refine g_if_neN (tgt := 199) (a := (g / 100) % 10) E dX8_does_177 (by decide) (by omega) (fun c39 => ?_) (fun c39 => ?_)
      · skip
        refine g_iconst (v := 0) E dX8_does_199 (by decide) ?_
        exact RET _ _ _ (q 6, tn, f) (⟨by rw [gSucc_4 k28, if_neg c39], by rw [gSucc_4 k28, if_neg c39]; exact hRR⟩) rfl dX8_does_200
      · skip
        refine g_iload E dX8_does_180 3 rfl ?_
        refine g_if_neN (tgt := 199) (a := (g / 10) % 10) E dX8_does_182 (by decide) (by omega) (fun c40 => ?_) (fun c40 => ?_)
        · skip
          refine g_iconst (v := 0) E dX8_does_199 (by decide) ?_
          exact RET _ _ _ (q 6, tn, f) (⟨by rw [gSucc_4 k28, if_pos c39, if_neg c40], by rw [gSucc_4 k28, if_pos c39, if_neg c40]; exact hRR⟩) rfl dX8_does_200
        · skip
          refine g_aload_n E dX8_does_185 rfl 7 rfl ?_
          refine g_iload_n E dX8_does_186 rfl 5 rfl ?_
          refine g_iload E dX8_does_187 2 rfl ?_
          refine g_callVIu (F := [(m 8, .inl (gy G 0, 10, .inl tn))]) E (mX8_carries G m q S f ((g / 1000) % 10) (g % 10) hK hT100 hRR (by omega) (by omega)) gX8_does_X8_carries rfl hdX8_carries ⟨Nat.le_of_ble_eq_true rfl, Nat.le_of_ble_eq_true rfl⟩ 8 0 rfl rfl rfl (gPerm_ix [0, 1, 2] rfl rfl) rfl rfl (Nat.le_of_ble_eq_true rfl) dX8_does_189 ⟨Nat.le_of_ble_eq_true rfl, Nat.le_of_ble_eq_true rfl⟩ (fun u41 hU41 => ?_)
          obtain ⟨S41, xE41⟩ : ∃ xx, xx = (if 1 < (g % 10) then (0, S) else gOkR (gTryCarry S (nI ((g / 1000) % 10)) (if (g % 10) = 1 then 1 else 0))).2 := ⟨_, rfl⟩
          have hRR41 : RR S41 u41 := by rw [xE41]; exact hU41
          refine g_perm (ws1 := [(m 0, .inr (8, [.int (q 0), .ref (m 1), .int (q 1), .int (q 2), .int (q 3), .int (q 4), .ref (m 2), .ref (m 3), .ref (m 4), .ref (m 5), .int (q 5), .ref (m 6), .ref (m 7), .ref (m 8), .int (q 6), .int (q 7), .int (q 8)])), (m 4, .inl (gy G 0, 271, .inl u41)), (m 8, .inl (gy G 0, 10, .inl tn))]) (gPerm_ix [0, 1, 2] rfl rfl) ?_
          refine g_if_eq (tgt := 199) E dX8_does_192 (by decide) (fun c43 => ?_) (fun c43 => ?_)
          · skip
            refine g_iconst (v := 0) E dX8_does_199 (by decide) ?_
            exact RET _ _ _ (q 6, tn, u41) (⟨by rw [gSucc_4 k28, if_pos c39, if_pos c40]; exact (c43).symm, by rw [gSucc_4 k28, if_pos c39, if_pos c40]; exact (xE41 ▸ hRR41)⟩) rfl dX8_does_200
          · skip
            refine g_iconst (v := 1) E dX8_does_195 (by decide) ?_
            refine g_goto (tgt := 200) E dX8_does_196 (by decide) ?_
            exact RET _ _ _ (q 6, tn, u41) (⟨by have q := gSucc_01 S g; rw [gSucc_4 k28, if_pos c39, if_pos c40] at q ⊢; exact (q.resolve_left c43).symm, by rw [gSucc_4 k28, if_pos c39, if_pos c40]; exact (xE41 ▸ hRR41)⟩) rfl dX8_does_200
    · skip
      refine g_top (y := 5) (by rw [k28]; rfl) ?_
      refine g_tableIn (tgt := 201) E dX8_does_63 (by decide) (by decide) rfl (by decide) ?_
      refine g_iload E dX8_does_201 4 rfl ?_
      refine g_if_neN (tgt := 220) (a := (g / 100) % 10) E dX8_does_203 (by decide) (by omega) (fun c44 => ?_) (fun c44 => ?_)
      · skip
        refine g_iconst (v := 0) E dX8_does_220 (by decide) ?_
        exact RET _ _ _ (q 6, tn, f) (⟨by rw [gSucc_5 k28, if_neg c44], by rw [gSucc_5 k28, if_neg c44]; exact hRR⟩) rfl dX8_does_221
      · skip
        refine g_aload_n E dX8_does_206 rfl 7 rfl ?_
        refine g_iload_n E dX8_does_207 rfl 5 rfl ?_
        refine g_iload E dX8_does_208 1 rfl ?_
        refine g_callVIu (F := [(m 8, .inl (gy G 0, 10, .inl tn))]) E (mX8_punishes G m q S f ((g / 1000) % 10) (g % 100) hK hT100 hRR (by omega) (by omega)) gX8_does_X8_punishes rfl hdX8_punishes ⟨Nat.le_of_ble_eq_true rfl, Nat.le_of_ble_eq_true rfl⟩ 8 0 rfl rfl rfl (gPerm_ix [0, 1, 2] rfl rfl) rfl rfl (Nat.le_of_ble_eq_true rfl) dX8_does_210 ⟨Nat.le_of_ble_eq_true rfl, Nat.le_of_ble_eq_true rfl⟩ (fun u45 hU45 => ?_)
        obtain ⟨S45, xE45⟩ : ∃ xx, xx = (gOkR (gTryPunish S (nI ((g / 1000) % 10)) (nI (g % 100)))).2 := ⟨_, rfl⟩
        have hRR45 : RR S45 u45 := by rw [xE45]; exact hU45
        refine g_perm (ws1 := [(m 0, .inr (8, [.int (q 0), .ref (m 1), .int (q 1), .int (q 2), .int (q 3), .int (q 4), .ref (m 2), .ref (m 3), .ref (m 4), .ref (m 5), .int (q 5), .ref (m 6), .ref (m 7), .ref (m 8), .int (q 6), .int (q 7), .int (q 8)])), (m 4, .inl (gy G 0, 271, .inl u45)), (m 8, .inl (gy G 0, 10, .inl tn))]) (gPerm_ix [0, 1, 2] rfl rfl) ?_
        refine g_if_eq (tgt := 220) E dX8_does_213 (by decide) (fun c47 => ?_) (fun c47 => ?_)
        · skip
          refine g_iconst (v := 0) E dX8_does_220 (by decide) ?_
          exact RET _ _ _ (q 6, tn, u45) (⟨by rw [gSucc_5 k28, if_pos c44]; exact (c47).symm, by rw [gSucc_5 k28, if_pos c44]; exact (xE45 ▸ hRR45)⟩) rfl dX8_does_221
        · skip
          refine g_iconst (v := 1) E dX8_does_216 (by decide) ?_
          refine g_goto (tgt := 221) E dX8_does_217 (by decide) ?_
          exact RET _ _ _ (q 6, tn, u45) (⟨by have q := gSucc_01 S g; rw [gSucc_5 k28, if_pos c44] at q ⊢; exact (q.resolve_left c47).symm, by rw [gSucc_5 k28, if_pos c44]; exact (xE45 ▸ hRR45)⟩) rfl dX8_does_221
    · skip
      refine g_top (y := 6) (by rw [k28]; rfl) ?_
      refine g_tableIn (tgt := 222) E dX8_does_63 (by decide) (by decide) rfl (by decide) ?_
      refine g_iload E dX8_does_222 0 rfl ?_
      refine g_if_eq (tgt := 240) E dX8_does_224 (by decide) (fun c => absurd c (by decide)) (fun _ => ?_)
      refine g_aload_n E dX8_does_227 rfl 7 rfl ?_
      refine g_iload E dX8_does_228 1 rfl ?_
      refine g_callVIu (F := []) E (mX8_runs G m q S f (g % 100) tn hK hT100 hRR (by omega)) gX8_does_X8_runs rfl hdX8_runs ⟨Nat.le_of_ble_eq_true rfl, Nat.le_of_ble_eq_true rfl⟩ 8 0 rfl rfl rfl (gPerm_ix [0, 1, 2] rfl rfl) rfl rfl (Nat.le_of_ble_eq_true rfl) dX8_does_230 ⟨Nat.le_of_ble_eq_true rfl, Nat.le_of_ble_eq_true rfl⟩ (fun u48 hU48 => ?_)
      obtain ⟨S48, xE48⟩ : ∃ xx, xx = (if (¬ nI (g % 100) < 1 ∧ ¬ 30 < nI (g % 100)) then gOkR (sI (gDays (g % 100) S) 8 0 - sI S 8 0, gDays (g % 100) S) else (0, S)).2 := ⟨_, rfl⟩
      have hRR48 : RR S48 u48.2.2 := by rw [xE48]; exact hU48
      refine g_perm (ws1 := [(m 0, .inr (8, [.int (q 0), .ref (m 1), .int (q 1), .int (q 2), .int (q 3), .int (q 4), .ref (m 2), .ref (m 3), .ref (m 4), .ref (m 5), .int (q 5), .ref (m 6), .ref (m 7), .ref (m 8), .int u48.1, .int (q 7), .int (q 8)])), (m 4, .inl (gy G 0, 271, .inl u48.2.2)), (m 8, .inl (gy G 0, 10, .inl u48.2.1))]) (gPerm_ix [0, 1, 2] rfl rfl) ?_
      refine g_if_eq (tgt := 240) E dX8_does_233 (by decide) (fun c50 => ?_) (fun c50 => ?_)
      · skip
        refine g_iconst (v := 0) E dX8_does_240 (by decide) ?_
        exact RET _ _ _ (u48.1, u48.2.1, u48.2.2) (⟨by rw [gSucc_6 k28, if_pos (show g % 10000 < 100 by omega)]; exact (c50).symm, by rw [gSucc_6 k28, if_pos (show g % 10000 < 100 by omega)]; exact (xE48 ▸ hRR48)⟩) rfl dX8_does_241
      · skip
        refine g_iconst (v := 1) E dX8_does_236 (by decide) ?_
        refine g_goto (tgt := 241) E dX8_does_237 (by decide) ?_
        exact RET _ _ _ (u48.1, u48.2.1, u48.2.2) (⟨by have q := gSucc_01 S g; rw [gSucc_6 k28, if_pos (show g % 10000 < 100 by omega)] at q ⊢; exact (q.resolve_left c50).symm, by rw [gSucc_6 k28, if_pos (show g % 10000 < 100 by omega)]; exact (xE48 ▸ hRR48)⟩) rfl dX8_does_241
    · skip
      refine g_top (y := 7) (by rw [k28]; rfl) ?_
      refine g_tableIn (tgt := 242) E dX8_does_63 (by decide) (by decide) rfl (by decide) ?_
      refine g_iload E dX8_does_242 4 rfl ?_
      refine g_if_neN (tgt := 275) (a := (g / 100) % 10) E dX8_does_244 (by decide) (by omega) (fun c51 => ?_) (fun c51 => ?_)
      · skip
        refine g_iconst (v := 0) E dX8_does_275 (by decide) ?_
        exact RET _ _ _ (q 6, tn, f) (⟨by rw [gSucc_7 k28 hP8, if_neg c51], by rw [gSucc_7 k28 hP8, if_neg c51]; exact hRR⟩) rfl dX8_does_276
      · skip
        refine g_aload_n E dX8_does_247 rfl 7 rfl ?_
        refine g_iload_n E dX8_does_248 rfl 5 rfl ?_
        refine g_iconst (v := 0) E dX8_does_249 (by decide) ?_
        refine g_callVIe (F := [(m 8, .inl (gy G 0, 10, .inl tn))]) (ws2 := [(m 0, .inr (8, [.int (q 0), .ref (m 1), .int (q 1), .int (q 2), .int (q 3), .int (q 4), .ref (m 2), .ref (m 3), .ref (m 4), .ref (m 5), .int (q 5), .ref (m 6), .ref (m 7), .ref (m 8), .int (q 6), .int (q 7), .int (q 8)])), (m 4, .inl (gy G 0, 271, .inl f)), (m 8, .inl (gy G 0, 10, .inl tn))]) E (mX8_isThere G m q S f ((g / 1000) % 10) 0 hI hT hRR (by omega) (by omega)) gX8_does_X8_isThere rfl hdX8_isThere ⟨Nat.le_of_ble_eq_true rfl, Nat.le_of_ble_eq_true rfl⟩ 8 0 rfl rfl rfl (gPerm_ix [0, 1, 2] rfl rfl) rfl rfl (Nat.le_of_ble_eq_true rfl) dX8_does_250 ⟨Nat.le_of_ble_eq_true rfl, Nat.le_of_ble_eq_true rfl⟩ (gPerm_ix [0, 1, 2] rfl rfl) ?_
        refine g_if_eqB (tgt := 275) (P := ((g / 1000) % 10 < sN S 1 ∧ 0 < 10)) E dX8_does_253 (by decide) (fun c52 => ?_) (fun c52 => ?_)
        · skip
          refine g_iconst (v := 0) E dX8_does_275 (by decide) ?_
          exact RET _ _ _ (q 6, tn, f) (⟨by rw [gSucc_7 k28 hP8, if_pos c51, if_neg c52], by rw [gSucc_7 k28 hP8, if_pos c51, if_neg c52]; exact hRR⟩) rfl dX8_does_276
        · skip
          refine g_aload_n E dX8_does_256 rfl 7 rfl ?_
          refine g_get E uX8_does_RX8 0 rfl rfl 8 (by decide) kX8_does_19 rfl rfl dX8_does_257 ?_
          refine g_iload_n E dX8_does_260 rfl 5 rfl ?_
          refine g_iconst (v := 3) E dX8_does_261 (by decide) ?_
          refine g_callSIe (F := [(m 0, .inr (8, [.int (q 0), .ref (m 1), .int (q 1), .int (q 2), .int (q 3), .int (q 4), .ref (m 2), .ref (m 3), .ref (m 4), .ref (m 5), .int (q 5), .ref (m 6), .ref (m 7), .ref (m 8), .int (q 6), .int (q 7), .int (q 8)])), (m 4, .inl (gy G 0, 271, .inl f)), (m 8, .inl (gy G 0, 10, .inl tn))]) (ws2 := [(m 0, .inr (8, [.int (q 0), .ref (m 1), .int (q 1), .int (q 2), .int (q 3), .int (q 4), .ref (m 2), .ref (m 3), .ref (m 4), .ref (m 5), .int (q 5), .ref (m 6), .ref (m 7), .ref (m 8), .int (q 6), .int (q 7), .int (q 8)])), (m 4, .inl (gy G 0, 271, .inl f)), (m 8, .inl (gy G 0, 10, .inl tn))]) E (mX8_prisonerAt G ((g / 1000) % 10) 3 (by omega) (by omega)) gX8_does_X8_prisonerAt rfl hnX8_prisonerAt ⟨Nat.le_of_ble_eq_true rfl, Nat.le_of_ble_eq_true rfl⟩ (gPerm_ix [0, 1, 2] rfl rfl) rfl rfl (Nat.le_of_ble_eq_true rfl) dX8_does_262 ⟨Nat.le_of_ble_eq_true rfl, Nat.le_of_ble_eq_true rfl⟩ (gPerm_ix [0, 1, 2] rfl rfl) ?_
          refine g_ialdN (e := 15 + 6 * ((g / 1000) % 10) + 3) E 1 rfl (by omega) rfl (v := sI S 3 ((g / 1000) % 10)) (RR_P hRR (p := (g / 1000) % 10) (w := 3) (by omega) (by omega)) dX8_does_265 ?_
          refine g_iload E dX8_does_266 1 rfl ?_
          refine g_icmp_lt (tgt := 275) E dX8_does_268 (by decide) (fun c53 => ?_) (fun c53 => ?_)
          · skip
            refine g_iconst (v := 0) E dX8_does_275 (by decide) ?_
            exact RET _ _ _ (q 6, tn, f) (⟨by rw [gSucc_7 k28 hP8, if_pos c51, if_pos c52, if_pos c53], by rw [gSucc_7 k28 hP8, if_pos c51, if_pos c52, if_pos c53]; exact hRR⟩) rfl dX8_does_276
          · skip
            refine g_iconst (v := 1) E dX8_does_271 (by decide) ?_
            refine g_goto (tgt := 276) E dX8_does_272 (by decide) ?_
            exact RET _ _ _ (q 6, tn, f) (⟨by rw [gSucc_7 k28 hP8, if_pos c51, if_pos c52, if_neg c53], by rw [gSucc_7 k28 hP8, if_pos c51, if_pos c52, if_neg c53]; exact hRR⟩) rfl dX8_does_276
    · skip
      refine g_top (y := 8) (by rw [k28]; rfl) ?_
      refine g_tableIn (tgt := 277) E dX8_does_63 (by decide) (by decide) rfl (by decide) ?_
      refine g_iload_n E dX8_does_277 rfl 8 rfl ?_
      refine g_sipush (v := 1000) E dX8_does_278 (by decide) ?_
      refine g_iremN (a := g) (b := 1000) E dX8_does_281 (by omega) (by omega) (by omega) ?_
      refine g_if_neN (tgt := 313) (a := g % 1000) E dX8_does_282 (by decide) (by omega) (fun c54 => ?_) (fun c54 => ?_)
      · skip
        refine g_iconst (v := 0) E dX8_does_313 (by decide) ?_
        exact RET _ _ _ (q 6, tn, f) (⟨by rw [gSucc_8 k28, if_neg c54], by rw [gSucc_8 k28, if_neg c54]; exact hRR⟩) rfl dX8_does_314
      · skip
        refine g_iload_n E dX8_does_285 rfl 5 rfl ?_
        refine g_callSIe (F := [(m 0, .inr (8, [.int (q 0), .ref (m 1), .int (q 1), .int (q 2), .int (q 3), .int (q 4), .ref (m 2), .ref (m 3), .ref (m 4), .ref (m 5), .int (q 5), .ref (m 6), .ref (m 7), .ref (m 8), .int (q 6), .int (q 7), .int (q 8)])), (m 4, .inl (gy G 0, 271, .inl f)), (m 8, .inl (gy G 0, 10, .inl tn))]) (ws2 := [(m 0, .inr (8, [.int (q 0), .ref (m 1), .int (q 1), .int (q 2), .int (q 3), .int (q 4), .ref (m 2), .ref (m 3), .ref (m 4), .ref (m 5), .int (q 5), .ref (m 6), .ref (m 7), .ref (m 8), .int (q 6), .int (q 7), .int (q 8)])), (m 4, .inl (gy G 0, 271, .inl f)), (m 8, .inl (gy G 0, 10, .inl tn))]) E (mX8_isVisitor G (nI ((g / 1000) % 10))) gX8_does_X8_isVisitor rfl hnX8_isVisitor ⟨Nat.le_of_ble_eq_true rfl, Nat.le_of_ble_eq_true rfl⟩ (gPerm_ix [0, 1, 2] rfl rfl) rfl rfl (Nat.le_of_ble_eq_true rfl) dX8_does_286 ⟨Nat.le_of_ble_eq_true rfl, Nat.le_of_ble_eq_true rfl⟩ (gPerm_ix [0, 1, 2] rfl rfl) ?_
        refine g_if_eqB (tgt := 313) (P := (¬ (nI ((g / 1000) % 10)) < 0 ∧ ¬ 9 < (nI ((g / 1000) % 10)))) E dX8_does_289 (by decide) (fun c55 => ?_) (fun c55 => ?_)
        · exfalso
          exact c55 ((gV9N (by omega)).mpr (by omega))
        · skip
          refine g_aload_n E dX8_does_292 rfl 7 rfl ?_
          refine g_get E uX8_does_RX8 0 rfl rfl 8 (by decide) kX8_does_19 rfl rfl dX8_does_293 ?_
          refine g_iload_n E dX8_does_296 rfl 5 rfl ?_
          refine g_aload_n E dX8_does_297 rfl 7 rfl ?_
          refine g_get E uX8_does_RX8 0 rfl rfl 8 (by decide) kX8_does_19 rfl rfl dX8_does_298 ?_
          refine g_iconst (v := 0) E dX8_does_301 (by decide) ?_
          refine g_ialdN (e := 0) E 1 rfl (by omega) rfl (v := nI (sN S 0)) (RR_0 hRR) dX8_does_302 ?_
          refine g_callSIe (F := [(m 0, .inr (8, [.int (q 0), .ref (m 1), .int (q 1), .int (q 2), .int (q 3), .int (q 4), .ref (m 2), .ref (m 3), .ref (m 4), .ref (m 5), .int (q 5), .ref (m 6), .ref (m 7), .ref (m 8), .int (q 6), .int (q 7), .int (q 8)])), (m 8, .inl (gy G 0, 10, .inl tn))]) (ws2 := [(m 0, .inr (8, [.int (q 0), .ref (m 1), .int (q 1), .int (q 2), .int (q 3), .int (q 4), .ref (m 2), .ref (m 3), .ref (m 4), .ref (m 5), .int (q 5), .ref (m 6), .ref (m 7), .ref (m 8), .int (q 6), .int (q 7), .int (q 8)])), (m 4, .inl (gy G 0, 271, .inl f)), (m 8, .inl (gy G 0, 10, .inl tn))]) E (mX8_isBanned G (m 4) S f ((g / 1000) % 10) (sN S 0) (gI1_r hI) hT hRR (by omega)) gX8_does_X8_isBanned rfl hnX8_isBanned ⟨Nat.le_of_ble_eq_true rfl, Nat.le_of_ble_eq_true rfl⟩ (gPerm_ix [1, 0, 2] rfl rfl) rfl rfl (Nat.le_of_ble_eq_true rfl) dX8_does_303 ⟨Nat.le_of_ble_eq_true rfl, Nat.le_of_ble_eq_true rfl⟩ (gPerm_ix [1, 0, 2] rfl rfl) ?_
          refine g_if_neB (tgt := 313) (P := nI (sN S 0) < sI S 7 ((g / 1000) % 10)) E dX8_does_306 (by decide) (fun c56 => ?_) (fun c56 => ?_)
          · skip
            refine g_iconst (v := 0) E dX8_does_313 (by decide) ?_
            exact RET _ _ _ (q 6, tn, f) (⟨by rw [gSucc_8 k28, if_pos c54, if_pos c56], by rw [gSucc_8 k28, if_pos c54, if_pos c56]; exact hRR⟩) rfl dX8_does_314
          · skip
            refine g_iconst (v := 1) E dX8_does_309 (by decide) ?_
            refine g_goto (tgt := 314) E dX8_does_310 (by decide) ?_
            exact RET _ _ _ (q 6, tn, f) (⟨by rw [gSucc_8 k28, if_pos c54, if_neg c56], by rw [gSucc_8 k28, if_pos c54, if_neg c56]; exact hRR⟩) rfl dX8_does_314
    · skip
      refine g_top (y := 9) (by rw [k28]; rfl) ?_
      refine g_tableIn (tgt := 315) E dX8_does_63 (by decide) (by decide) rfl (by decide) ?_
      refine g_iload E dX8_does_315 0 rfl ?_
      refine g_if_eq (tgt := 335) E dX8_does_317 (by decide) (fun c => absurd c (by decide)) (fun _ => ?_)
      refine g_aload_n E dX8_does_320 rfl 7 rfl ?_
      refine g_get E uX8_does_RX8 0 rfl rfl 8 (by decide) kX8_does_19 rfl rfl dX8_does_321 ?_
      refine g_iconst (v := 2) E dX8_does_324 (by decide) ?_
      refine g_ialdN (e := 2) E 1 rfl (by omega) rfl (v := nI ((sB S).length)) (RR_2 hRR) dX8_does_325 ?_
      refine g_iload E dX8_does_326 1 rfl ?_
      refine g_icmp_gtN (tgt := 335) (a := (sB S).length) (b := g % 100) E dX8_does_328 (by decide) (by omega) (by omega) (fun c57 => ?_) (fun c57 => ?_)
      · skip
        refine g_iconst (v := 0) E dX8_does_335 (by decide) ?_
        exact RET _ _ _ (q 6, tn, f) (⟨by rw [gSucc_9 k28, if_pos (show g % 10000 < 100 by omega), if_pos (by omega)], by rw [gSucc_9 k28, if_pos (show g % 10000 < 100 by omega), if_pos (by omega)]; exact hRR⟩) rfl dX8_does_336
      · skip
        refine g_iconst (v := 1) E dX8_does_331 (by decide) ?_
        refine g_goto (tgt := 336) E dX8_does_332 (by decide) ?_
        exact RET _ _ _ (q 6, tn, f) (⟨by rw [gSucc_9 k28, if_pos (show g % 10000 < 100 by omega), if_neg (by omega)], by rw [gSucc_9 k28, if_pos (show g % 10000 < 100 by omega), if_neg (by omega)]; exact hRR⟩) rfl dX8_does_336

set_option maxHeartbeats 4000000 in
set_option maxRecDepth 100000 in
theorem mX8_stir (G : gG) (m : Nat → Nat) (q : Nat → Int32) (S : gSt) (f : Nat → Int32) (r : Nat) (tn : Nat → Int32) (hK : gI3 S) (hT100 : sN S 0 + 100 < 200000000) (hRR : RR S f) (hr : r < 2147483648) : CV G yX8_stir wsX8_stir 8 190 [.ref (m 0), .int (nI r)] [(m 0, .inr (8, [.int (q 0), .ref (m 1), .int (q 1), .int (q 2), .int (q 3), .int (q 4), .ref (m 2), .ref (m 3), .ref (m 4), .ref (m 5), .int (q 5), .ref (m 6), .ref (m 7), .ref (m 8), .int (q 6), .int (q 7), .int (q 8)])), (m 4, .inl (gy G 0, 271, .inl f)), (m 8, .inl (gy G 0, 10, .inl tn))] (fun u : Int32 × (Nat → Int32) × (Nat → Int32) => RR (gTurn1 S r) u.2.2) (fun (u : Int32 × (Nat → Int32) × (Nat → Int32)) => [(m 0, .inr (8, [.int (q 0), .ref (m 1), .int (q 1), .int (q 2), .int (q 3), .int (q 4), .ref (m 2), .ref (m 3), .ref (m 4), .ref (m 5), .int (q 5), .ref (m 6), .ref (m 7), .ref (m 8), .int u.1, .int (q 7), .int (q 8)])), (m 4, .inl (gy G 0, 271, .inl u.2.2)), (m 8, .inl (gy G 0, 10, .inl u.2.1))]) 0 0 := by
  refine g_enterV RX8 rfl (by decide) rfl (Nat.le_of_ble_eq_true rfl) ?_
  intro V E RET
  have hJ := hK.1
  have hI := hJ.1
  have hT2 : sN S 0 < 200000000 := by omega
  have hT : sN S 0 < 1000000000 := by omega
  have hb2 := gI2_b2 hJ
  have hX := hI
  obtain ⟨hP8, hn, hw, hW8, hs3, hs4, hs5, hs6, hs7, hs8, hb34⟩ := hX
  refine g_iload_n E dX8_stir_0 rfl 1 rfl ?_
  refine g_bipush (v := 8) E dX8_stir_1 (by decide) ?_
  refine g_idivN (a := r) (b := 8) E dX8_stir_3 (by omega) (by omega) (by omega) ?_
  refine g_bipush (v := 8) E dX8_stir_4 (by decide) ?_
  refine g_iremN (a := r / 8) (b := 8) E dX8_stir_6 (by omega) (by omega) (by omega) ?_
  refine g_istore_n (lv' := [(2, .int (nI ((r / 8) % 8))), (0, .ref (m 0)), (1, .int (nI r))]) E dX8_stir_7 rfl (by decide) rfl ?_
  refine g_iload_n E dX8_stir_8 rfl 2 rfl ?_
  refine g_bipush (v := 64) E dX8_stir_9 (by decide) ?_
  refine g_idivN (a := r) (b := 64) E dX8_stir_11 (by omega) (by omega) (by omega) ?_
  refine g_bipush (v := 10) E dX8_stir_12 (by decide) ?_
  refine g_iremN (a := r / 64) (b := 10) E dX8_stir_14 (by omega) (by omega) (by omega) ?_
  refine g_istore_n (lv' := [(3, .int (nI ((r / 64) % 10))), (2, .int (nI ((r / 8) % 8))), (0, .ref (m 0)), (1, .int (nI r))]) E dX8_stir_15 rfl (by decide) rfl ?_
  refine g_iload_n E dX8_stir_16 rfl 3 rfl ?_
  refine g_bipush (v := 8) E dX8_stir_17 (by decide) ?_
  refine g_iremN (a := r) (b := 8) E dX8_stir_19 (by omega) (by omega) (by omega) ?_
  refine g_istore (lv' := [(4, .int (nI (r % 8))), (3, .int (nI ((r / 64) % 10))), (2, .int (nI ((r / 8) % 8))), (0, .ref (m 0)), (1, .int (nI r))]) E dX8_stir_20 (by decide) rfl ?_
  refine g_iload E dX8_stir_22 0 rfl ?_
  refine g_iconst (v := 2) E dX8_stir_24 (by decide) ?_
  refine g_icmp_geN (tgt := 60) (a := r % 8) (b := 2) E dX8_stir_25 (by decide) (by omega) (by omega) (fun c1 => ?_) (fun c1 => ?_)
  · skip
    refine g_iload E dX8_stir_60 0 rfl ?_
    refine g_iconst (v := 2) E dX8_stir_62 (by decide) ?_
    refine g_icmp_neN (tgt := 76) (a := r % 8) (b := 2) E dX8_stir_63 (by decide) (by omega) (by omega) (fun c2 => ?_) (fun c2 => ?_)
    · skip
      refine g_iload E dX8_stir_76 0 rfl ?_
      refine g_iconst (v := 3) E dX8_stir_78 (by decide) ?_
      refine g_icmp_neN (tgt := 93) (a := r % 8) (b := 3) E dX8_stir_79 (by decide) (by omega) (by omega) (fun c3 => ?_) (fun c3 => ?_)
      · skip
        refine g_iload E dX8_stir_93 0 rfl ?_
        refine g_iconst (v := 4) E dX8_stir_95 (by decide) ?_
        refine g_icmp_neN (tgt := 109) (a := r % 8) (b := 4) E dX8_stir_96 (by decide) (by omega) (by omega) (fun c4 => ?_) (fun c4 => ?_)
        · skip
          refine g_iload E dX8_stir_109 0 rfl ?_
          refine g_iconst (v := 5) E dX8_stir_111 (by decide) ?_
          refine g_icmp_neN (tgt := 157) (a := r % 8) (b := 5) E dX8_stir_112 (by decide) (by omega) (by omega) (fun c5 => ?_) (fun c5 => ?_)
          · skip
            refine g_aload_n E dX8_stir_157 rfl 3 rfl ?_
            refine g_aload_n E dX8_stir_158 rfl 3 rfl ?_
            refine g_get E uX8_stir_RX8 0 rfl rfl 8 (by decide) kX8_stir_19 rfl rfl dX8_stir_159 ?_
            refine g_iconst (v := 1) E dX8_stir_162 (by decide) ?_
            refine g_callVIu (F := []) E (mX8_runIn G m q (m 4) S f tn 1 hJ (by omega) hRR) gX8_stir_X8_runIn rfl hdX8_runIn ⟨Nat.le_of_ble_eq_true rfl, Nat.le_of_ble_eq_true rfl⟩ 8 0 rfl rfl rfl (gPerm_ix [0, 2, 1] rfl rfl) rfl rfl (Nat.le_of_ble_eq_true rfl) dX8_stir_163 ⟨Nat.le_of_ble_eq_true rfl, Nat.le_of_ble_eq_true rfl⟩ (fun u6 hU6 => ?_)
            obtain ⟨S6, xE6⟩ : ∃ x, x = gDays 1 S := ⟨_, rfl⟩
            have hRR6 : RR S6 u6.2.2 := by rw [xE6]; exact hU6
            refine g_perm (ws1 := [(m 0, .inr (8, [.int (q 0), .ref (m 1), .int (q 1), .int (q 2), .int (q 3), .int (q 4), .ref (m 2), .ref (m 3), .ref (m 4), .ref (m 5), .int (q 5), .ref (m 6), .ref (m 7), .ref (m 8), .int u6.1, .int (q 7), .int (q 8)])), (m 4, .inl (gy G 0, 271, .inl u6.2.2)), (m 8, .inl (gy G 0, 10, .inl u6.2.1))]) (gPerm_ix [0, 2, 1] rfl rfl) ?_
            refine g_pop E dX8_stir_166 rfl ?_
            exact RET _ _ (u6.1, u6.2.1, u6.2.2) (by unfold gTurn1; rw [if_neg (by omega), if_neg (by omega), if_neg (by omega), if_neg (by omega), if_neg (by omega)]; exact (xE6 ▸ hRR6)) dX8_stir_167
          · skip
            refine g_iload_n E dX8_stir_115 rfl 4 rfl ?_
            refine g_bipush (v := 8) E dX8_stir_116 (by decide) ?_
            refine g_idivN (a := r) (b := 8) E dX8_stir_118 (by omega) (by omega) (by omega) ?_
            refine g_bipush (v := 24) E dX8_stir_119 (by decide) ?_
            refine g_iremN (a := r / 8) (b := 24) E dX8_stir_121 (by omega) (by omega) (by omega) ?_
            refine g_istore (lv' := [(5, .int (nI ((r / 8) % 24))), (4, .int (nI (r % 8))), (3, .int (nI ((r / 64) % 10))), (2, .int (nI ((r / 8) % 8))), (0, .ref (m 0)), (1, .int (nI r))]) E dX8_stir_122 (by decide) rfl ?_
            refine g_iload E dX8_stir_124 0 rfl ?_
            refine g_aload_n E dX8_stir_126 rfl 4 rfl ?_
            refine g_get E uX8_stir_RX8 0 rfl rfl 8 (by decide) kX8_stir_19 rfl rfl dX8_stir_127 ?_
            refine g_iconst (v := 2) E dX8_stir_130 (by decide) ?_
            refine g_ialdN (e := 2) E 1 rfl (by omega) rfl (v := nI ((sB S).length)) (RR_2 hRR) dX8_stir_131 ?_
            refine g_icmp_geN (tgt := 154) (a := (r / 8) % 24) (b := (sB S).length) E dX8_stir_132 (by decide) (by omega) (by omega) (fun c8 => ?_) (fun c8 => ?_)
            · skip
              refine g_goto (tgt := 167) E dX8_stir_154 (by decide) ?_
              exact RET _ _ (q 6, tn, f) (by unfold gTurn1; rw [if_neg (by omega), if_neg (by omega), if_neg (by omega), if_neg (by omega), if_pos (by omega)]; exact (by rw [gTLt_no hn (by omega) (by omega)]; exact hRR)) dX8_stir_167
            · skip
              refine g_aload_n E dX8_stir_135 rfl 4 rfl ?_
              refine g_get E uX8_stir_RX8 0 rfl rfl 8 (by decide) kX8_stir_19 rfl rfl dX8_stir_136 ?_
              refine g_iload E dX8_stir_139 0 rfl ?_
              refine g_iconst (v := 5) E dX8_stir_141 (by decide) ?_
              refine g_callSIe (F := [(m 0, .inr (8, [.int (q 0), .ref (m 1), .int (q 1), .int (q 2), .int (q 3), .int (q 4), .ref (m 2), .ref (m 3), .ref (m 4), .ref (m 5), .int (q 5), .ref (m 6), .ref (m 7), .ref (m 8), .int (q 6), .int (q 7), .int (q 8)])), (m 4, .inl (gy G 0, 271, .inl f)), (m 8, .inl (gy G 0, 10, .inl tn))]) (ws2 := [(m 0, .inr (8, [.int (q 0), .ref (m 1), .int (q 1), .int (q 2), .int (q 3), .int (q 4), .ref (m 2), .ref (m 3), .ref (m 4), .ref (m 5), .int (q 5), .ref (m 6), .ref (m 7), .ref (m 8), .int (q 6), .int (q 7), .int (q 8)])), (m 4, .inl (gy G 0, 271, .inl f)), (m 8, .inl (gy G 0, 10, .inl tn))]) E (mX8_bookingAt G ((r / 8) % 24) 5 (by omega) (by omega)) gX8_stir_X8_bookingAt rfl hnX8_bookingAt ⟨Nat.le_of_ble_eq_true rfl, Nat.le_of_ble_eq_true rfl⟩ (gPerm_ix [0, 1, 2] rfl rfl) rfl rfl (Nat.le_of_ble_eq_true rfl) dX8_stir_142 ⟨Nat.le_of_ble_eq_true rfl, Nat.le_of_ble_eq_true rfl⟩ (gPerm_ix [0, 1, 2] rfl rfl) ?_
              refine g_iload_n E dX8_stir_145 rfl 5 rfl ?_
              refine g_sipush (v := 1024) E dX8_stir_146 (by decide) ?_
              refine g_idivN (a := r) (b := 1024) E dX8_stir_149 (by omega) (by omega) (by omega) ?_
              refine g_bipush (v := 40) E dX8_stir_150 (by decide) ?_
              refine g_iremN (a := r / 1024) (b := 40) E dX8_stir_152 (by omega) (by omega) (by omega) ?_
              refine g_iast (ws' := [(m 0, .inr (8, [.int (q 0), .ref (m 1), .int (q 1), .int (q 2), .int (q 3), .int (q 4), .ref (m 2), .ref (m 3), .ref (m 4), .ref (m 5), .int (q 5), .ref (m 6), .ref (m 7), .ref (m 8), .int (q 6), .int (q 7), .int (q 8)])), (m 4, .inl (gy G 0, 271, .inl (upd f (93 + 7 * ((r / 8) % 24) + 5) (nI ((r / 1024) % 40))))), (m 8, .inl (gy G 0, 10, .inl tn))]) (j := 93 + 7 * ((r / 8) % 24) + 5) (y := nI ((r / 1024) % 40)) E 1 rfl (g_in (e := 93 + 7 * ((r / 8) % 24) + 5) (by omega) rfl) (nI_clamp (n := 93 + 7 * ((r / 8) % 24) + 5) (by omega)) rfl rfl dX8_stir_153 ?_
              have hRR9 : RR (gLate S (r / 8 % 24) (r / 1024 % 40)) (upd f (93 + 7 * ((r / 8) % 24) + 5) (nI ((r / 1024) % 40))) := RR_late hRR hn (by omega) (by omega)
              refine g_goto (tgt := 167) E dX8_stir_154 (by decide) ?_
              exact RET _ _ (q 6, tn, upd f (93 + 7 * ((r / 8) % 24) + 5) (nI ((r / 1024) % 40))) (by unfold gTurn1; rw [if_neg (by omega), if_neg (by omega), if_neg (by omega), if_neg (by omega), if_pos (by omega)]; exact (by rw [gTLt_yes hn (by omega) (by omega)]; exact hRR9)) dX8_stir_167
        · skip
          refine g_aload_n E dX8_stir_99 rfl 3 rfl ?_
          refine g_iload_n E dX8_stir_100 rfl 1 rfl ?_
          refine g_iconst (v := 1) E dX8_stir_101 (by decide) ?_
          refine g_callVIu (F := [(m 8, .inl (gy G 0, 10, .inl tn))]) E (mX8_carries G m q S f ((r / 64) % 10) 1 hK hT100 hRR (by omega) (by omega)) gX8_stir_X8_carries rfl hdX8_carries ⟨Nat.le_of_ble_eq_true rfl, Nat.le_of_ble_eq_true rfl⟩ 8 0 rfl rfl rfl (gPerm_ix [0, 1, 2] rfl rfl) rfl rfl (Nat.le_of_ble_eq_true rfl) dX8_stir_102 ⟨Nat.le_of_ble_eq_true rfl, Nat.le_of_ble_eq_true rfl⟩ (fun u10 hU10 => ?_)
          obtain ⟨S10, xE10⟩ : ∃ xx, xx = (if 1 < 1 then (0, S) else gOkR (gTryCarry S (nI ((r / 64) % 10)) (if 1 = 1 then 1 else 0))).2 := ⟨_, rfl⟩
          have hRR10 : RR S10 u10 := by rw [xE10]; exact hU10
          refine g_perm (ws1 := [(m 0, .inr (8, [.int (q 0), .ref (m 1), .int (q 1), .int (q 2), .int (q 3), .int (q 4), .ref (m 2), .ref (m 3), .ref (m 4), .ref (m 5), .int (q 5), .ref (m 6), .ref (m 7), .ref (m 8), .int (q 6), .int (q 7), .int (q 8)])), (m 4, .inl (gy G 0, 271, .inl u10)), (m 8, .inl (gy G 0, 10, .inl tn))]) (gPerm_ix [0, 1, 2] rfl rfl) ?_
          refine g_pop E dX8_stir_105 rfl ?_
          refine g_goto (tgt := 167) E dX8_stir_106 (by decide) ?_
          exact RET _ _ (q 6, tn, u10) (by unfold gTurn1; rw [if_neg (by omega), if_neg (by omega), if_neg (by omega), if_pos (by omega)]; exact (by have q := hRR10; rw [xE10] at q; rw [if_neg (by decide), if_pos rfl] at q; exact q)) dX8_stir_167
      · skip
        refine g_aload_n E dX8_stir_82 rfl 3 rfl ?_
        refine g_iload_n E dX8_stir_83 rfl 2 rfl ?_
        refine g_iload_n E dX8_stir_84 rfl 1 rfl ?_
        refine g_iconst (v := 1) E dX8_stir_85 (by decide) ?_
        refine g_callVIu (F := [(m 8, .inl (gy G 0, 10, .inl tn))]) E (mX8_lists G m q S f ((r / 8) % 8) ((r / 64) % 10) 1 hK hT100 hRR (by omega) (by omega) (by omega)) gX8_stir_X8_lists rfl hdX8_lists ⟨Nat.le_of_ble_eq_true rfl, Nat.le_of_ble_eq_true rfl⟩ 8 0 rfl rfl rfl (gPerm_ix [0, 1, 2] rfl rfl) rfl rfl (Nat.le_of_ble_eq_true rfl) dX8_stir_86 ⟨Nat.le_of_ble_eq_true rfl, Nat.le_of_ble_eq_true rfl⟩ (fun u12 hU12 => ?_)
        obtain ⟨S12, xE12⟩ : ∃ xx, xx = (if 1 < 1 then (0, S) else gOkR (gTryList S (nI ((r / 8) % 8)) (nI ((r / 64) % 10)) (if 1 = 1 then 1 else 0))).2 := ⟨_, rfl⟩
        have hRR12 : RR S12 u12 := by rw [xE12]; exact hU12
        refine g_perm (ws1 := [(m 0, .inr (8, [.int (q 0), .ref (m 1), .int (q 1), .int (q 2), .int (q 3), .int (q 4), .ref (m 2), .ref (m 3), .ref (m 4), .ref (m 5), .int (q 5), .ref (m 6), .ref (m 7), .ref (m 8), .int (q 6), .int (q 7), .int (q 8)])), (m 4, .inl (gy G 0, 271, .inl u12)), (m 8, .inl (gy G 0, 10, .inl tn))]) (gPerm_ix [0, 1, 2] rfl rfl) ?_
        refine g_pop E dX8_stir_89 rfl ?_
        refine g_goto (tgt := 167) E dX8_stir_90 (by decide) ?_
        exact RET _ _ (q 6, tn, u12) (by unfold gTurn1; rw [if_neg (by omega), if_neg (by omega), if_pos (by omega)]; exact (by have q := hRR12; rw [xE12] at q; rw [if_neg (by decide), if_pos rfl] at q; exact q)) dX8_stir_167
    · skip
      refine g_aload_n E dX8_stir_66 rfl 3 rfl ?_
      refine g_iload_n E dX8_stir_67 rfl 2 rfl ?_
      refine g_iload_n E dX8_stir_68 rfl 1 rfl ?_
      refine g_callVIu (F := [(m 8, .inl (gy G 0, 10, .inl tn))]) E (mX8_wishes G m q S f ((r / 8) % 8) ((r / 64) % 10) hK hT100 hRR (by omega) (by omega)) gX8_stir_X8_wishes rfl hdX8_wishes ⟨Nat.le_of_ble_eq_true rfl, Nat.le_of_ble_eq_true rfl⟩ 8 0 rfl rfl rfl (gPerm_ix [0, 1, 2] rfl rfl) rfl rfl (Nat.le_of_ble_eq_true rfl) dX8_stir_69 ⟨Nat.le_of_ble_eq_true rfl, Nat.le_of_ble_eq_true rfl⟩ (fun u14 hU14 => ?_)
      obtain ⟨S14, xE14⟩ : ∃ xx, xx = (gOkR (gTryWish S (nI ((r / 8) % 8)) (nI ((r / 64) % 10)))).2 := ⟨_, rfl⟩
      have hRR14 : RR S14 u14 := by rw [xE14]; exact hU14
      refine g_perm (ws1 := [(m 0, .inr (8, [.int (q 0), .ref (m 1), .int (q 1), .int (q 2), .int (q 3), .int (q 4), .ref (m 2), .ref (m 3), .ref (m 4), .ref (m 5), .int (q 5), .ref (m 6), .ref (m 7), .ref (m 8), .int (q 6), .int (q 7), .int (q 8)])), (m 4, .inl (gy G 0, 271, .inl u14)), (m 8, .inl (gy G 0, 10, .inl tn))]) (gPerm_ix [0, 1, 2] rfl rfl) ?_
      refine g_pop E dX8_stir_72 rfl ?_
      refine g_goto (tgt := 167) E dX8_stir_73 (by decide) ?_
      exact RET _ _ (q 6, tn, u14) (by unfold gTurn1; rw [if_neg (by omega), if_pos (by omega)]; exact (xE14 ▸ hRR14)) dX8_stir_167
  · skip
    refine g_aload_n E dX8_stir_28 rfl 3 rfl ?_
    refine g_iload_n E dX8_stir_29 rfl 2 rfl ?_
    refine g_iload_n E dX8_stir_30 rfl 1 rfl ?_
    refine g_aload_n E dX8_stir_31 rfl 3 rfl ?_
    refine g_get E uX8_stir_RX8 0 rfl rfl 8 (by decide) kX8_stir_19 rfl rfl dX8_stir_32 ?_
    refine g_iconst (v := 0) E dX8_stir_35 (by decide) ?_
    refine g_ialdN (e := 0) E 1 rfl (by omega) rfl (v := nI (sN S 0)) (RR_0 hRR) dX8_stir_36 ?_
    refine g_iload_n E dX8_stir_37 rfl 4 rfl ?_
    refine g_sipush (v := 1024) E dX8_stir_38 (by decide) ?_
    refine g_idivN (a := r) (b := 1024) E dX8_stir_41 (by omega) (by omega) (by omega) ?_
    refine g_iconst (v := 5) E dX8_stir_42 (by decide) ?_
    refine g_iremN (a := r / 1024) (b := 5) E dX8_stir_43 (by omega) (by omega) (by omega) ?_
    refine g_iaddN (a := sN S 0) (b := (r / 1024) % 5) E dX8_stir_44 ?_
    refine g_iload_n E dX8_stir_45 rfl 4 rfl ?_
    refine g_sipush (v := 8192) E dX8_stir_46 (by decide) ?_
    refine g_idivN (a := r) (b := 8192) E dX8_stir_49 (by omega) (by omega) (by omega) ?_
    refine g_bipush (v := 8) E dX8_stir_50 (by decide) ?_
    refine g_iremN (a := r / 8192) (b := 8) E dX8_stir_52 (by omega) (by omega) (by omega) ?_
    refine g_callVIu (F := [(m 8, .inl (gy G 0, 10, .inl tn))]) E (mX8_books G m q S f ((r / 8) % 8) ((r / 64) % 10) (sN S 0 + ((r / 1024) % 5)) ((r / 8192) % 8) hK hT100 hRR (by omega) (by omega) (by omega) (by omega)) gX8_stir_X8_books rfl hdX8_books ⟨Nat.le_of_ble_eq_true rfl, Nat.le_of_ble_eq_true rfl⟩ 8 0 rfl rfl rfl (gPerm_ix [0, 1, 2] rfl rfl) rfl rfl (Nat.le_of_ble_eq_true rfl) dX8_stir_53 ⟨Nat.le_of_ble_eq_true rfl, Nat.le_of_ble_eq_true rfl⟩ (fun u16 hU16 => ?_)
    obtain ⟨S16, xE16⟩ : ∃ xx, xx = (gOkR (gTryBook S (nI ((r / 8) % 8)) (nI ((r / 64) % 10)) (nI (sN S 0 + ((r / 1024) % 5))) (nI ((r / 8192) % 8)))).2 := ⟨_, rfl⟩
    have hRR16 : RR S16 u16 := by rw [xE16]; exact hU16
    refine g_perm (ws1 := [(m 0, .inr (8, [.int (q 0), .ref (m 1), .int (q 1), .int (q 2), .int (q 3), .int (q 4), .ref (m 2), .ref (m 3), .ref (m 4), .ref (m 5), .int (q 5), .ref (m 6), .ref (m 7), .ref (m 8), .int (q 6), .int (q 7), .int (q 8)])), (m 4, .inl (gy G 0, 271, .inl u16)), (m 8, .inl (gy G 0, 10, .inl tn))]) (gPerm_ix [0, 1, 2] rfl rfl) ?_
    refine g_pop E dX8_stir_56 rfl ?_
    refine g_goto (tgt := 167) E dX8_stir_57 (by decide) ?_
    exact RET _ _ (q 6, tn, u16) (by unfold gTurn1; rw [if_pos (by omega)]; exact (xE16 ▸ hRR16)) dX8_stir_167
