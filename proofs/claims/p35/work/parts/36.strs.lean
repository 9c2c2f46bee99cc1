theorem gStr_ok2 : ∀ q ∈ gStr, ∀ v ∈ q.2.2.2, (v.toUInt32 % 65536).toInt32 = v := by decide +kernel
theorem gStr_nar {i j : Nat} {q : String × Nat × String × List Int32} (h : gStr[i]? = some q) (hj : j < q.2.2.2.length) : narrow FieldType.char (Value.int (q.2.2.2.getD j 0)) = Value.int (q.2.2.2.getD j 0) := by
  have h1 := gStr_ok2 q (List.mem_of_getElem? h) (q.2.2.2.getD j 0) (by rw [List.getD_eq_getElem?_getD, List.getElem?_eq_getElem hj]; exact List.getElem_mem hj)
  show Value.int (((q.2.2.2.getD j 0).toUInt32 % 65536).toInt32) = _
  rw [h1]
theorem g_shr0 (x : Int32) : x >>> ((0 : Int32) &&& 31) = x := by
  rw [show ((0 : Int32) &&& 31) = 0 by decide]
  simp
set_option maxHeartbeats 4000000 in
set_option maxRecDepth 100000 in
theorem mJ0_coder_7d493 (G : gG) (i : Nat) (z : String × Nat × String × List Int32) (hq : gStr[i]? = some z)  : CIe G yJ0_coder_7d493 wsJ0_coder_7d493 0 0 [.ref (gz G (100 + 2 * i))] [] (0) [] 0 0 := by
  refine g_enterIe (ty := .byte) RJ0 rfl (by decide) rfl (Nat.le_of_ble_eq_true rfl) ?_
  intro V E RET
  refine g_compact E kJ0_coder_7d493_38 dJ0_coder_7d493_0 ?_
  refine g_if_eq (tgt := 13) E dJ0_coder_7d493_3 (by decide) (fun c => absurd c (by decide)) (fun _ => ?_)
  refine g_aload_n E dJ0_coder_7d493_6 rfl 0 rfl ?_
  refine g_strcod (i := i) (q := z) E hq kJ0_coder_7d493_15 dJ0_coder_7d493_7 ?_
  refine g_goto (tgt := 14) E dJ0_coder_7d493_10 (by decide) ?_
  exact RET _ _ _ () (rfl) rfl dJ0_coder_7d493_14
set_option maxHeartbeats 4000000 in
set_option maxRecDepth 100000 in
theorem mJ0_isLatin1_aae02 (G : gG) (i : Nat) (z : String × Nat × String × List Int32) (hq : gStr[i]? = some z)  : CIe G yJ0_isLatin1_aae02 wsJ0_isLatin1_aae02 0 0 [.ref (gz G (100 + 2 * i))] [] (1) [] 0 0 := by
  refine g_enterIe (ty := .boolean) RJ0 rfl (by decide) rfl (Nat.le_of_ble_eq_true rfl) ?_
  intro V E RET
  refine g_compact E kJ0_isLatin1_aae02_38 dJ0_isLatin1_aae02_0 ?_
  refine g_if_eq (tgt := 17) E dJ0_isLatin1_aae02_3 (by decide) (fun c => absurd c (by decide)) (fun _ => ?_)
  refine g_aload_n E dJ0_isLatin1_aae02_6 rfl 0 rfl ?_
  refine g_strcod (i := i) (q := z) E hq kJ0_isLatin1_aae02_15 dJ0_isLatin1_aae02_7 ?_
  refine g_if_ne (tgt := 17) E dJ0_isLatin1_aae02_10 (by decide) (fun c => absurd c (by decide)) (fun _ => ?_)
  refine g_iconst (v := 1) E dJ0_isLatin1_aae02_13 (by decide) ?_
  refine g_goto (tgt := 18) E dJ0_isLatin1_aae02_14 (by decide) ?_
  exact RET _ _ _ () (rfl) rfl dJ0_isLatin1_aae02_18
set_option maxHeartbeats 4000000 in
set_option maxRecDepth 100000 in
theorem mJ0_length_8abf5 (G : gG) (i : Nat) (z : String × Nat × String × List Int32) (hq : gStr[i]? = some z)  : CIe G yJ0_length_8abf5 wsJ0_length_8abf5 1 20 [.ref (gz G (100 + 2 * i))] [] (nI z.2.2.2.length) [] 0 0 := by
  refine g_enterIe (ty := .int) RJ0 rfl (by decide) rfl (Nat.le_of_ble_eq_true rfl) ?_
  intro V E RET
  have hl9 := gStr_len hq
  refine g_aload_n E dJ0_length_8abf5_0 rfl 0 rfl ?_
  refine g_strval (i := i) (q := z) E hq kJ0_length_8abf5_9 dJ0_length_8abf5_1 ?_
  refine g_strlen (i := i) (q := z) E hq dJ0_length_8abf5_4 ?_
  refine g_aload_n E dJ0_length_8abf5_5 rfl 0 rfl ?_
  refine g_callOIe (F := []) (ws2 := []) E (mJ0_coder_7d493 G i z hq) gJ0_length_8abf5_J0_coder_7d493 rfl hdJ0_coder_7d493 ⟨Nat.le_of_ble_eq_true rfl, Nat.le_of_ble_eq_true rfl⟩ hq (gPerm_ix [] rfl rfl) rfl rfl (Nat.le_of_ble_eq_true rfl) dJ0_length_8abf5_6 ⟨Nat.le_of_ble_eq_true rfl, Nat.le_of_ble_eq_true rfl⟩ (gPerm_ix [] rfl rfl) ?_
  refine g_ishr E dJ0_length_8abf5_9 ?_
  refine g_top (y := nI z.2.2.2.length) (g_shr0 _) ?_
  exact RET _ _ _ () (rfl) rfl dJ0_length_8abf5_10
set_option maxHeartbeats 4000000 in
set_option maxRecDepth 100000 in
theorem mJ3_checkIndex_8e157 (G : gG) (i n t : Nat) (hi : i < n) (hn : n < 1000000) : CIe G yJ3_checkIndex_8e157 wsJ3_checkIndex_8e157 1 60 [.int (nI i), .int (nI n), .ref t] [] (nI i) [] 0 0 := by
  refine g_enterIe (ty := .int) RJ3 rfl (by decide) rfl (Nat.le_of_ble_eq_true rfl) ?_
  intro V E RET
  refine g_iload_n E dJ3_checkIndex_8e157_0 rfl 0 rfl ?_
  refine g_if_ltN (tgt := 9) (a := i) E dJ3_checkIndex_8e157_1 (by decide) (by omega) ?_
  refine g_iload_n E dJ3_checkIndex_8e157_4 rfl 0 rfl ?_
  refine g_iload_n E dJ3_checkIndex_8e157_5 rfl 1 rfl ?_
  refine g_icmp_ltN (tgt := 16) (a := i) (b := n) E dJ3_checkIndex_8e157_6 (by decide) (by omega) (by omega) (fun c1 => ?_) (fun c1 => ?_)
  · skip
    refine g_iload_n E dJ3_checkIndex_8e157_16 rfl 0 rfl ?_
    exact RET _ _ _ () (rfl) rfl dJ3_checkIndex_8e157_17
  · exfalso
    omega
set_option maxHeartbeats 4000000 in
set_option maxRecDepth 100000 in
theorem mJ3_checkIndex_8e157N (G : gG) (i n : Nat) (hi : i < n) (hn : n < 1000000) : CIe G yJ3_checkIndex_8e157 wsJ3_checkIndex_8e157 1 60 [.int (nI i), .int (nI n), .null] [] (nI i) [] 0 0 := by
  refine g_enterIe (ty := .int) RJ3 rfl (by decide) rfl (Nat.le_of_ble_eq_true rfl) ?_
  intro V E RET
  refine g_iload_n E dJ3_checkIndex_8e157_0 rfl 0 rfl ?_
  refine g_if_ltN (tgt := 9) (a := i) E dJ3_checkIndex_8e157_1 (by decide) (by omega) ?_
  refine g_iload_n E dJ3_checkIndex_8e157_4 rfl 0 rfl ?_
  refine g_iload_n E dJ3_checkIndex_8e157_5 rfl 1 rfl ?_
  refine g_icmp_ltN (tgt := 16) (a := i) (b := n) E dJ3_checkIndex_8e157_6 (by decide) (by omega) (by omega) (fun c1 => ?_) (fun c1 => ?_)
  · skip
    refine g_iload_n E dJ3_checkIndex_8e157_16 rfl 0 rfl ?_
    exact RET _ _ _ () (rfl) rfl dJ3_checkIndex_8e157_17
  · exfalso
    omega
set_option maxHeartbeats 4000000 in
set_option maxRecDepth 100000 in
theorem mJ0_checkIndex_df160 (G : gG) (i n : Nat) (hi : i < n) (hn : n < 1000000) : CVe G yJ0_checkIndex_df160 wsJ0_checkIndex_df160 2 82 [.int (nI i), .int (nI n)] []  [] 0 0 := by
  refine g_enterVe RJ0 rfl (by decide) rfl (Nat.le_of_ble_eq_true rfl) ?_
  intro V E RET
  refine g_iload_n E dJ0_checkIndex_df160_0 rfl 0 rfl ?_
  refine g_iload_n E dJ0_checkIndex_df160_1 rfl 1 rfl ?_
  refine g_siof E kJ0_checkIndex_df160_1053 dJ0_checkIndex_df160_2 ?_ (fun t => ?_)
  · skip
    refine g_callSIe (F := []) (ws2 := []) E (mJ3_checkIndex_8e157N G i n (by omega) (by omega)) gJ0_checkIndex_df160_J3_checkIndex_8e157 rfl hnJ3_checkIndex_8e157 ⟨Nat.le_of_ble_eq_true rfl, Nat.le_of_ble_eq_true rfl⟩ (gPerm_ix [] rfl rfl) rfl rfl (Nat.le_of_ble_eq_true rfl) dJ0_checkIndex_df160_5 ⟨Nat.le_of_ble_eq_true rfl, Nat.le_of_ble_eq_true rfl⟩ (gPerm_ix [] rfl rfl) ?_
    refine g_pop E dJ0_checkIndex_df160_8 rfl ?_
    exact RET _ _ () (trivial) dJ0_checkIndex_df160_9
  · skip
    refine g_callSIe (F := []) (ws2 := []) E (mJ3_checkIndex_8e157 G i n t (by omega) (by omega)) gJ0_checkIndex_df160_J3_checkIndex_8e157 rfl hnJ3_checkIndex_8e157 ⟨Nat.le_of_ble_eq_true rfl, Nat.le_of_ble_eq_true rfl⟩ (gPerm_ix [] rfl rfl) rfl rfl (Nat.le_of_ble_eq_true rfl) dJ0_checkIndex_df160_5 ⟨Nat.le_of_ble_eq_true rfl, Nat.le_of_ble_eq_true rfl⟩ (gPerm_ix [] rfl rfl) ?_
    refine g_pop E dJ0_checkIndex_df160_8 rfl ?_
    exact RET _ _ () (trivial) dJ0_checkIndex_df160_9
set_option maxHeartbeats 4000000 in
set_option maxRecDepth 100000 in
theorem mJ1_charAt_3b067 (G : gG) (i : Nat) (z : String × Nat × String × List Int32) (hq : gStr[i]? = some z) (j : Nat) (hj : j < z.2.2.2.length) : CIe G yJ1_charAt_3b067 wsJ1_charAt_3b067 3 103 [.ref (gz G (101 + 2 * i)), .int (nI j)] [] (z.2.2.2.getD j 0) [] 0 0 := by
  refine g_enterIe (ty := .char) RJ1 rfl (by decide) rfl (Nat.le_of_ble_eq_true rfl) ?_
  intro V E RET
  have hl9 := gStr_len hq
  refine g_iload_n E dJ1_charAt_3b067_0 rfl 1 rfl ?_
  refine g_aload_n E dJ1_charAt_3b067_1 rfl 0 rfl ?_
  refine g_strlen (i := i) (q := z) E hq dJ1_charAt_3b067_2 ?_
  refine g_callSVe (F := []) (ws2 := []) E (mJ0_checkIndex_df160 G j z.2.2.2.length (by omega) (by omega)) gJ1_charAt_3b067_J0_checkIndex_df160 rfl hnJ0_checkIndex_df160 ⟨Nat.le_of_ble_eq_true rfl, Nat.le_of_ble_eq_true rfl⟩ (gPerm_ix [] rfl rfl) rfl rfl (Nat.le_of_ble_eq_true rfl) dJ1_charAt_3b067_3 ⟨Nat.le_of_ble_eq_true rfl, Nat.le_of_ble_eq_true rfl⟩ (gPerm_ix [] rfl rfl) ?_
  refine g_aload_n E dJ1_charAt_3b067_6 rfl 0 rfl ?_
  refine g_iload_n E dJ1_charAt_3b067_7 rfl 1 rfl ?_
  refine g_strbyte (i := i) (q := z) (j := j) E hq (by omega) (gStr_len hq) dJ1_charAt_3b067_8 ?_
  refine g_sipush (v := 255) E dJ1_charAt_3b067_9 (by decide) ?_
  refine g_iand E dJ1_charAt_3b067_12 ?_
  refine g_i2c (v := (((z.2.2.2.getD j 0) &&& 255).toUInt32 % 65536).toInt32) E dJ1_charAt_3b067_13 rfl ?_
  refine g_top (y := z.2.2.2.getD j 0) (gStr_chr hq hj) ?_
  exact RET _ _ _ () (rfl) (gStr_nar hq hj) dJ1_charAt_3b067_14
set_option maxHeartbeats 4000000 in
set_option maxRecDepth 100000 in
theorem mJ0_charAt_5068e (G : gG) (i : Nat) (z : String × Nat × String × List Int32) (hq : gStr[i]? = some z) (j : Nat) (hj : j < z.2.2.2.length) : CIe G yJ0_charAt_5068e wsJ0_charAt_5068e 5 145 [.ref (gz G (100 + 2 * i)), .int (nI j)] [] (z.2.2.2.getD j 0) [] 0 0 := by
  refine g_enterIe (ty := .char) RJ0 rfl (by decide) rfl (Nat.le_of_ble_eq_true rfl) ?_
  intro V E RET
  refine g_aload_n E dJ0_charAt_5068e_0 rfl 0 rfl ?_
  refine g_callOIe (F := []) (ws2 := []) E (mJ0_isLatin1_aae02 G i z hq) gJ0_charAt_5068e_J0_isLatin1_aae02 rfl hdJ0_isLatin1_aae02 ⟨Nat.le_of_ble_eq_true rfl, Nat.le_of_ble_eq_true rfl⟩ hq (gPerm_ix [] rfl rfl) rfl rfl (Nat.le_of_ble_eq_true rfl) dJ0_charAt_5068e_1 ⟨Nat.le_of_ble_eq_true rfl, Nat.le_of_ble_eq_true rfl⟩ (gPerm_ix [] rfl rfl) ?_
  refine g_if_eq (tgt := 16) E dJ0_charAt_5068e_4 (by decide) (fun c => absurd c (by decide)) (fun _ => ?_)
  refine g_aload_n E dJ0_charAt_5068e_7 rfl 0 rfl ?_
  refine g_strval (i := i) (q := z) E hq kJ0_charAt_5068e_9 dJ0_charAt_5068e_8 ?_
  refine g_iload_n E dJ0_charAt_5068e_11 rfl 1 rfl ?_
  refine g_callSIe (F := []) (ws2 := []) E (mJ1_charAt_3b067 G i z hq j (by omega)) gJ0_charAt_5068e_J1_charAt_3b067 rfl hnJ1_charAt_3b067 ⟨Nat.le_of_ble_eq_true rfl, Nat.le_of_ble_eq_true rfl⟩ (gPerm_ix [] rfl rfl) rfl rfl (Nat.le_of_ble_eq_true rfl) dJ0_charAt_5068e_12 ⟨Nat.le_of_ble_eq_true rfl, Nat.le_of_ble_eq_true rfl⟩ (gPerm_ix [] rfl rfl) ?_
  exact RET _ _ _ () (rfl) (gStr_nar hq hj) dJ0_charAt_5068e_15
