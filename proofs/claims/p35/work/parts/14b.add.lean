set_option maxHeartbeats 4000000 in
set_option maxRecDepth 100000 in
theorem mX0_add (G : gG) (h0 h1 : Nat) (bs : List (Nat → Nat)) (gb : Nat → Int32) (p v d h : Nat) (hn : bs.length < 24) (hR : RB bs gb) (hp : p < 1073741824) (hv : v < 1073741824) (hd : d < 1073741824) (hh : h < 1073741824) : CIu G yX0_add wsX0_add 2 60 [.ref h0, .int (nI p), .int (nI v), .int (nI d), .int (nI h)] [(h0, .inr (1, [.int (nI bs.length), .ref h1])), (h1, .inl (gy G 0, 144, .inl gb))] (nI (gFr (gVih bs 2 d h bs.length))) (fun u : Nat → Int32 => RB (gIns bs (gPlc bs d h (gFr (gVih bs 2 d h bs.length))) (gNb d h (gFr (gVih bs 2 d h bs.length)) p v)) u) (fun (u : Nat → Int32) => [(h0, .inr (1, [.int (nI ((gIns bs (gPlc bs d h (gFr (gVih bs 2 d h bs.length))) (gNb d h (gFr (gVih bs 2 d h bs.length)) p v)).length)), .ref h1])), (h1, .inl (gy G 0, 144, .inl u))]) 0 0 := by
  refine g_enterIu (ty := .int) RX0 rfl (by decide) rfl (Nat.le_of_ble_eq_true rfl) ?_
  intro V E RET
  have hn24 : bs.length ≤ 24 := Nat.le_of_lt hn
  refine g_aload_n E dX0_add_0 rfl 0 rfl ?_
  refine g_get E uX0_add_RX0 0 rfl rfl 0 (by decide) kX0_add_15 rfl rfl dX0_add_1 ?_
  refine g_if_ltN (tgt := 16) (a := bs.length) E dX0_add_4 (by decide) (by omega) ?_
  refine g_aload_n E dX0_add_7 rfl 0 rfl ?_
  refine g_get E uX0_add_RX0 0 rfl rfl 0 (by decide) kX0_add_15 rfl rfl dX0_add_8 ?_
  refine g_bipush (v := 24) E dX0_add_11 (by decide) ?_
  refine g_icmp_ltN (tgt := 19) (a := bs.length) (b := 24) E dX0_add_13 (by decide) (by omega) (by omega) (fun c1 => ?_) (fun c1 => ?_)
  · skip
    refine g_aload_n E dX0_add_19 rfl 0 rfl ?_
    refine g_iconst (v := 2) E dX0_add_20 (by decide) ?_
    refine g_iload_n E dX0_add_21 rfl 3 rfl ?_
    refine g_iload E dX0_add_22 4 rfl ?_
    refine g_callVIe (F := []) (ws2 := [(h0, .inr (1, [.int (nI bs.length), .ref h1])), (h1, .inl (gy G 0, 144, .inl gb))]) E (mX0_valuesInHour G h0 h1 bs gb 2 d h hn24 hR (by omega) (by omega) (by omega)) gX0_add_X0_valuesInHour rfl hdX0_valuesInHour ⟨Nat.le_of_ble_eq_true rfl, Nat.le_of_ble_eq_true rfl⟩ 1 0 rfl rfl rfl (gPerm_ix [0, 1] rfl rfl) rfl rfl (Nat.le_of_ble_eq_true rfl) dX0_add_24 ⟨Nat.le_of_ble_eq_true rfl, Nat.le_of_ble_eq_true rfl⟩ (gPerm_ix [0, 1] rfl rfl) ?_
    refine g_istore (lv' := [(5, .int (gVih bs 2 d h bs.length)), (0, .ref h0), (1, .int (nI p)), (2, .int (nI v)), (3, .int (nI d)), (4, .int (nI h))]) E dX0_add_27 (by decide) rfl ?_
    refine g_iconst (v := 0) E dX0_add_29 (by decide) ?_
    refine g_istore (lv' := [(6, .int 0), (5, .int (gVih bs 2 d h bs.length)), (0, .ref h0), (1, .int (nI p)), (2, .int (nI v)), (3, .int (nI d)), (4, .int (nI h))]) E dX0_add_30 (by decide) rfl ?_
    have cut2 : ∀ (b : Nat), (b ≤ 24) → (b = gFr (gVih bs 2 d h bs.length)) → gW V 8 0 0 [(h0, .inr (1, [.int (nI bs.length), .ref h1])), (h1, .inl (gy G 0, 144, .inl gb))] [(0, .ref h0), (1, .int (nI p)), (2, .int (nI v)), (3, .int (nI d)), (4, .int (nI h)), (5, .int (gVih bs 2 d h bs.length)), (6, .int (nI b))] 55 [] := by
      intro b hb24 hb
      refine g_bipush (v := 6) E dX0_add_55 (by decide) ?_
      refine g_aload_n E dX0_add_57 rfl 0 rfl ?_
      refine g_iload_n E dX0_add_58 rfl 3 rfl ?_
      refine g_iload E dX0_add_59 4 rfl ?_
      refine g_iload E dX0_add_61 6 rfl ?_
      refine g_callVIe (F := []) (ws2 := [(h0, .inr (1, [.int (nI bs.length), .ref h1])), (h1, .inl (gy G 0, 144, .inl gb))]) E (mX0_placeFor G h0 h1 bs gb d h b hn24 hR (by omega) (by omega) (by omega)) gX0_add_X0_placeFor rfl hdX0_placeFor ⟨Nat.le_of_ble_eq_true rfl, Nat.le_of_ble_eq_true rfl⟩ 1 0 rfl rfl rfl (gPerm_ix [0, 1] rfl rfl) rfl rfl (Nat.le_of_ble_eq_true rfl) dX0_add_63 ⟨Nat.le_of_ble_eq_true rfl, Nat.le_of_ble_eq_true rfl⟩ (gPerm_ix [0, 1] rfl rfl) ?_
      have hP := gPlc_le bs d h b
      refine g_imulN (a := 6) (b := gPlc bs d h b) E dX0_add_66 ?_
      refine g_istore (lv' := [(7, .int (nI (6 * (gPlc bs d h b)))), (0, .ref h0), (1, .int (nI p)), (2, .int (nI v)), (3, .int (nI d)), (4, .int (nI h)), (5, .int (gVih bs 2 d h bs.length)), (6, .int (nI b))]) E dX0_add_67 (by decide) rfl ?_
      refine g_aload_n E dX0_add_69 rfl 1 rfl ?_
      refine g_get E uX0_add_RX0 0 rfl rfl 1 (by decide) kX0_add_11 rfl rfl dX0_add_70 ?_
      refine g_iload E dX0_add_73 0 rfl ?_
      refine g_aload_n E dX0_add_75 rfl 1 rfl ?_
      refine g_get E uX0_add_RX0 0 rfl rfl 1 (by decide) kX0_add_11 rfl rfl dX0_add_76 ?_
      refine g_iload E dX0_add_79 0 rfl ?_
      refine g_bipush (v := 6) E dX0_add_81 (by decide) ?_
      refine g_iaddN (a := 6 * (gPlc bs d h b)) (b := 6) E dX0_add_83 ?_
      refine g_bipush (v := 6) E dX0_add_84 (by decide) ?_
      refine g_aload_n E dX0_add_86 rfl 1 rfl ?_
      refine g_get E uX0_add_RX0 0 rfl rfl 0 (by decide) kX0_add_15 rfl rfl dX0_add_87 ?_
      refine g_imulN (a := 6) (b := bs.length) E dX0_add_90 ?_
      refine g_iload E dX0_add_91 0 rfl ?_
      refine g_isubN (a := 6 * bs.length) (b := 6 * (gPlc bs d h b)) E dX0_add_93 (by omega) ?_
      refine g_copyi (ws' := [(h0, .inr (1, [.int (nI bs.length), .ref h1])), (h1, .inl (gy G 0, 144, .inl (va_cpy gb gb (6 * (gPlc bs d h b)) (6 * (gPlc bs d h b) + 6) (6 * bs.length - (6 * (gPlc bs d h b))))))]) (sp := 6 * (gPlc bs d h b)) (dp := 6 * (gPlc bs d h b) + 6) (n := 6 * bs.length - (6 * (gPlc bs d h b))) E (by decide +kernel) (by decide +kernel) (by decide +kernel) (by decide +kernel) 1 1 rfl rfl (by omega) (by omega) (by omega) (by omega) (by omega) (Nat.le_of_ble_eq_true rfl) (Nat.le_of_ble_eq_true rfl) (Nat.le_of_ble_eq_true rfl) rfl dX0_add_94 ?_
      refine g_aload_n E dX0_add_97 rfl 1 rfl ?_
      refine g_dup E dX0_add_98 rfl ?_
      refine g_get E uX0_add_RX0 0 rfl rfl 0 (by decide) kX0_add_15 rfl rfl dX0_add_99 ?_
      refine g_iconst (v := 1) E dX0_add_102 (by decide) ?_
      refine g_iaddN (a := bs.length) (b := 1) E dX0_add_103 ?_
      refine g_put (ws' := [(h0, .inr (1, [.int (nI (bs.length + 1)), .ref h1])), (h1, .inl (gy G 0, 144, .inl (va_cpy gb gb (6 * (gPlc bs d h b)) (6 * (gPlc bs d h b) + 6) (6 * bs.length - (6 * (gPlc bs d h b))))))]) E uX0_add_RX0 tyX0 tyX0_ok nmX0 0 rfl rfl 0 (by decide) kX0_add_15 rfl rfl rfl rfl (Nat.le_of_ble_eq_true rfl) rfl dX0_add_104 ?_
      refine g_aload_n E dX0_add_107 rfl 1 rfl ?_
      refine g_get E uX0_add_RX0 0 rfl rfl 1 (by decide) kX0_add_11 rfl rfl dX0_add_108 ?_
      refine g_iload E dX0_add_111 0 rfl ?_
      refine g_iconst (v := 0) E dX0_add_113 (by decide) ?_
      refine g_iaddN (a := 6 * (gPlc bs d h b)) (b := 0) E dX0_add_114 ?_
      refine g_iload_n E dX0_add_115 rfl 4 rfl ?_
      refine g_iast (ws' := [(h0, .inr (1, [.int (nI (bs.length + 1)), .ref h1])), (h1, .inl (gy G 0, 144, .inl (upd (va_cpy gb gb (6 * (gPlc bs d h b)) (6 * (gPlc bs d h b) + 6) (6 * bs.length - (6 * (gPlc bs d h b)))) (6 * (gPlc bs d h b) + 0) (nI d))))]) (j := 6 * (gPlc bs d h b) + 0) (y := nI d) E 1 rfl (g_in (by omega) rfl) (nI_clamp (by omega)) rfl rfl dX0_add_116 ?_
      refine g_aload_n E dX0_add_117 rfl 1 rfl ?_
      refine g_get E uX0_add_RX0 0 rfl rfl 1 (by decide) kX0_add_11 rfl rfl dX0_add_118 ?_
      refine g_iload E dX0_add_121 0 rfl ?_
      refine g_iconst (v := 1) E dX0_add_123 (by decide) ?_
      refine g_iaddN (a := 6 * (gPlc bs d h b)) (b := 1) E dX0_add_124 ?_
      refine g_iload E dX0_add_125 5 rfl ?_
      refine g_iast (ws' := [(h0, .inr (1, [.int (nI (bs.length + 1)), .ref h1])), (h1, .inl (gy G 0, 144, .inl (upd (upd (va_cpy gb gb (6 * (gPlc bs d h b)) (6 * (gPlc bs d h b) + 6) (6 * bs.length - (6 * (gPlc bs d h b)))) (6 * (gPlc bs d h b) + 0) (nI d)) (6 * (gPlc bs d h b) + 1) (nI h))))]) (j := 6 * (gPlc bs d h b) + 1) (y := nI h) E 1 rfl (g_in (by omega) rfl) (nI_clamp (by omega)) rfl rfl dX0_add_127 ?_
      refine g_aload_n E dX0_add_128 rfl 1 rfl ?_
      refine g_get E uX0_add_RX0 0 rfl rfl 1 (by decide) kX0_add_11 rfl rfl dX0_add_129 ?_
      refine g_iload E dX0_add_132 0 rfl ?_
      refine g_iconst (v := 2) E dX0_add_134 (by decide) ?_
      refine g_iaddN (a := 6 * (gPlc bs d h b)) (b := 2) E dX0_add_135 ?_
      refine g_iload E dX0_add_136 7 rfl ?_
      refine g_iast (ws' := [(h0, .inr (1, [.int (nI (bs.length + 1)), .ref h1])), (h1, .inl (gy G 0, 144, .inl (upd (upd (upd (va_cpy gb gb (6 * (gPlc bs d h b)) (6 * (gPlc bs d h b) + 6) (6 * bs.length - (6 * (gPlc bs d h b)))) (6 * (gPlc bs d h b) + 0) (nI d)) (6 * (gPlc bs d h b) + 1) (nI h)) (6 * (gPlc bs d h b) + 2) (nI b))))]) (j := 6 * (gPlc bs d h b) + 2) (y := nI b) E 1 rfl (g_in (by omega) rfl) (nI_clamp (by omega)) rfl rfl dX0_add_138 ?_
      refine g_aload_n E dX0_add_139 rfl 1 rfl ?_
      refine g_get E uX0_add_RX0 0 rfl rfl 1 (by decide) kX0_add_11 rfl rfl dX0_add_140 ?_
      refine g_iload E dX0_add_143 0 rfl ?_
      refine g_iconst (v := 3) E dX0_add_145 (by decide) ?_
      refine g_iaddN (a := 6 * (gPlc bs d h b)) (b := 3) E dX0_add_146 ?_
      refine g_iload_n E dX0_add_147 rfl 2 rfl ?_
      refine g_iast (ws' := [(h0, .inr (1, [.int (nI (bs.length + 1)), .ref h1])), (h1, .inl (gy G 0, 144, .inl (upd (upd (upd (upd (va_cpy gb gb (6 * (gPlc bs d h b)) (6 * (gPlc bs d h b) + 6) (6 * bs.length - (6 * (gPlc bs d h b)))) (6 * (gPlc bs d h b) + 0) (nI d)) (6 * (gPlc bs d h b) + 1) (nI h)) (6 * (gPlc bs d h b) + 2) (nI b)) (6 * (gPlc bs d h b) + 3) (nI p))))]) (j := 6 * (gPlc bs d h b) + 3) (y := nI p) E 1 rfl (g_in (by omega) rfl) (nI_clamp (by omega)) rfl rfl dX0_add_148 ?_
      refine g_aload_n E dX0_add_149 rfl 1 rfl ?_
      refine g_get E uX0_add_RX0 0 rfl rfl 1 (by decide) kX0_add_11 rfl rfl dX0_add_150 ?_
      refine g_iload E dX0_add_153 0 rfl ?_
      refine g_iconst (v := 4) E dX0_add_155 (by decide) ?_
      refine g_iaddN (a := 6 * (gPlc bs d h b)) (b := 4) E dX0_add_156 ?_
      refine g_iload_n E dX0_add_157 rfl 3 rfl ?_
      refine g_iast (ws' := [(h0, .inr (1, [.int (nI (bs.length + 1)), .ref h1])), (h1, .inl (gy G 0, 144, .inl (upd (upd (upd (upd (upd (va_cpy gb gb (6 * (gPlc bs d h b)) (6 * (gPlc bs d h b) + 6) (6 * bs.length - (6 * (gPlc bs d h b)))) (6 * (gPlc bs d h b) + 0) (nI d)) (6 * (gPlc bs d h b) + 1) (nI h)) (6 * (gPlc bs d h b) + 2) (nI b)) (6 * (gPlc bs d h b) + 3) (nI p)) (6 * (gPlc bs d h b) + 4) (nI v))))]) (j := 6 * (gPlc bs d h b) + 4) (y := nI v) E 1 rfl (g_in (by omega) rfl) (nI_clamp (by omega)) rfl rfl dX0_add_158 ?_
      refine g_aload_n E dX0_add_159 rfl 1 rfl ?_
      refine g_get E uX0_add_RX0 0 rfl rfl 1 (by decide) kX0_add_11 rfl rfl dX0_add_160 ?_
      refine g_iload E dX0_add_163 0 rfl ?_
      refine g_iconst (v := 5) E dX0_add_165 (by decide) ?_
      refine g_iaddN (a := 6 * (gPlc bs d h b)) (b := 5) E dX0_add_166 ?_
      refine g_iconst (v := 0) E dX0_add_167 (by decide) ?_
      refine g_iast (ws' := [(h0, .inr (1, [.int (nI (bs.length + 1)), .ref h1])), (h1, .inl (gy G 0, 144, .inl (upd (upd (upd (upd (upd (upd (va_cpy gb gb (6 * (gPlc bs d h b)) (6 * (gPlc bs d h b) + 6) (6 * bs.length - (6 * (gPlc bs d h b)))) (6 * (gPlc bs d h b) + 0) (nI d)) (6 * (gPlc bs d h b) + 1) (nI h)) (6 * (gPlc bs d h b) + 2) (nI b)) (6 * (gPlc bs d h b) + 3) (nI p)) (6 * (gPlc bs d h b) + 4) (nI v)) (6 * (gPlc bs d h b) + 5) 0)))]) (j := 6 * (gPlc bs d h b) + 5) (y := 0) E 1 rfl (g_in (by omega) rfl) (nI_clamp (by omega)) rfl rfl dX0_add_168 ?_
      refine g_iload E dX0_add_169 7 rfl ?_
      rw [hb] at hP ⊢
      have el : bs.length + 1 = (gIns bs (gPlc bs d h (gFr (gVih bs 2 d h bs.length))) (gNb d h (gFr (gVih bs 2 d h bs.length)) p v)).length := (gIns_length bs _ _ hP).symm
      rw [el]
      exact RET _ _ _ _ (⟨rfl, gAdd_RB hR hP hn hd hh (Nat.lt_of_le_of_lt (gFr_le _) (by decide)) hp hv⟩) rfl dX0_add_171
    have loop3 : ∀ (n4 : Nat) (b : Nat), (b ≤ 24) → (∀ j, j < b → gHb (gVih bs 2 d h bs.length) (nI j) = true) → 24 - b < n4 → gW V 8 0 0 [(h0, .inr (1, [.int (nI bs.length), .ref h1])), (h1, .inl (gy G 0, 144, .inl gb))] [(0, .ref h0), (1, .int (nI p)), (2, .int (nI v)), (3, .int (nI d)), (4, .int (nI h)), (5, .int (gVih bs 2 d h bs.length)), (6, .int (nI b))] 32 [] := by
      intro n4
      induction n4 with
      | zero => intro b hb24 ha hm6; exact absurd hm6 (Nat.not_lt_zero _)
      | succ n4 ih5 =>
        intro b hb24 ha hm6
        refine g_iload E dX0_add_32 6 rfl ?_
        refine g_bipush (v := 24) E dX0_add_34 (by decide) ?_
        refine g_icmp_geN (tgt := 55) (a := b) (b := 24) E dX0_add_36 (by decide) (by omega) (by omega) (fun c7 => ?_) (fun c7 => ?_)
        · skip
          refine g_lv [0, 1, 2, 3, 4, 5, 6] rfl ?_
          exact cut2 b (by omega) (gFr_of ha (by omega) (Or.inl (by omega))).symm
        · skip
          refine g_iload E dX0_add_39 5 rfl ?_
          refine g_iload E dX0_add_41 6 rfl ?_
          refine g_callSNIe (F := [(h0, .inr (1, [.int (nI bs.length), .ref h1])), (h1, .inl (gy G 0, 144, .inl gb))]) (ws2 := [(h0, .inr (1, [.int (nI bs.length), .ref h1])), (h1, .inl (gy G 0, 144, .inl gb))]) E (mX7_hasBit G (gVih bs 2 d h bs.length) (nI b)) gX0_add_X7_hasBit_n33 (by decide +kernel) (g_nest (h := "VisitHours") E (by decide +kernel)) (by decide +kernel) rfl hnX7_hasBit ⟨Nat.le_of_ble_eq_true rfl, Nat.le_of_ble_eq_true rfl⟩ (gPerm_ix [0, 1] rfl rfl) rfl rfl (Nat.le_of_ble_eq_true rfl) dX0_add_43 ⟨Nat.le_of_ble_eq_true rfl, Nat.le_of_ble_eq_true rfl⟩ (gPerm_ix [0, 1] rfl rfl) ?_
          refine g_if_eqB (tgt := 55) (P := gHb (gVih bs 2 d h bs.length) (nI b) = true) E dX0_add_46 (by decide) (fun c8 => ?_) (fun c8 => ?_)
          · skip
            refine g_lv [0, 1, 2, 3, 4, 5, 6] rfl ?_
            exact cut2 b (by omega) (gFr_of ha (by omega) (Or.inr (by simpa using c8))).symm
          · skip
            refine g_iinc (lv' := [(6, .int (nI (b + 1))), (0, .ref h0), (1, .int (nI p)), (2, .int (nI v)), (3, .int (nI d)), (4, .int (nI h)), (5, .int (gVih bs 2 d h bs.length))]) E dX0_add_49 6 rfl (g_inc _ 1 (by decide)) (by decide) rfl ?_
            refine g_goto (tgt := 32) E dX0_add_52 (by decide) ?_
            refine g_lv [1, 2, 3, 4, 5, 6, 0] rfl ?_
            exact ih5  (b + 1) (by omega) (fun j hj => (Nat.lt_succ_iff_lt_or_eq.mp hj).elim (ha j) (fun e => e ▸ c8)) (by omega)
    refine g_lv [2, 3, 4, 5, 6, 1, 0] rfl ?_
    exact loop3 _ 0 (Nat.zero_le _) (fun j hj => absurd hj (Nat.not_lt_zero j)) (Nat.lt_succ_self _)
  · exfalso
    omega
