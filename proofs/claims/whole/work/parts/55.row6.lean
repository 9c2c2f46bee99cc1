theorem gShift_st {f : Nat → Int32} {K k : Nat} (h : K ≤ k) : va_cpy (va_cpy f f (93 + 7 * (K + 1)) (93 + 7 * K) (7 * (k - K))) (va_cpy f f (93 + 7 * (K + 1)) (93 + 7 * K) (7 * (k - K))) (93 + 7 * (k + 1) + 0) (93 + 7 * k + 0) 7 = va_cpy f f (93 + 7 * (K + 1)) (93 + 7 * K) (7 * (k + 1 - K)) := by
  funext j
  unfold va_cpy
  by_cases c : 93 + 7 * k + 0 ≤ j ∧ j < 93 + 7 * k + 0 + 7
  · rw [if_pos c, if_neg (by omega), if_pos (by omega)]
    congr 1
    omega
  · rw [if_neg c]
    by_cases c2 : 93 + 7 * K ≤ j ∧ j < 93 + 7 * K + 7 * (k - K)
    · rw [if_pos c2, if_pos (by omega)]
    · rw [if_neg c2, if_neg (by omega)]
theorem bk_er {bs : List (Nat → Nat)} {K j : Nat} : bk (bs.eraseIdx K) j = if j < K then bk bs j else bk bs (j + 1) := by
  unfold bk
  rw [List.getD_eq_getElem?_getD, List.getElem?_eraseIdx]
  split
  · rw [List.getD_eq_getElem?_getD]
  · rw [List.getD_eq_getElem?_getD]
theorem RR_erase {S : gSt} {f : Nat → Int32} {K : Nat} (h : RR S f) (hK : K < (sB S).length) (hn : (sB S).length ≤ 24) : RR (uB S ((sB S).eraseIdx K)) (va_cpy (upd f 2 (nI ((sB S).length - 1))) (upd f 2 (nI ((sB S).length - 1))) (93 + 7 * (K + 1)) (93 + 7 * K) (7 * ((sB S).length - 1 - K))) := by
  obtain ⟨h0, h1, h2, h3, h4, h5, h6, h7, h8, h9⟩ := h
  have el : ((sB S).eraseIdx K).length = (sB S).length - 1 := by rw [List.length_eraseIdx, if_pos hK]
  have out : ∀ j, j ≠ 2 → (j < 93 ∨ 261 ≤ j) → va_cpy (upd f 2 (nI ((sB S).length - 1))) (upd f 2 (nI ((sB S).length - 1))) (93 + 7 * (K + 1)) (93 + 7 * K) (7 * ((sB S).length - 1 - K)) j = f j := by
    intro j hj hj2
    unfold va_cpy
    rw [if_neg (by omega), upd_ne hj]
  refine ⟨by rw [out _ (by omega) (by omega)]; exact h0, by rw [out _ (by omega) (by omega)]; exact h1, ?_, by rw [out _ (by omega) (by omega)]; exact h3, fun j hj => by rw [out _ (by omega) (by omega)]; exact h4 j hj, fun j hj => by rw [out _ (by omega) (by omega)]; exact h5 j hj, fun q hq u hu => by rw [out _ (by omega) (by omega)]; exact h6 q hq u hu, fun v hv => ?_, fun k hk u hu => ?_, fun k hk => by rw [out _ (by omega) (by omega)]; exact h9 k hk⟩
  · unfold va_cpy
    rw [if_neg (by omega), upd_eq rfl]
    show _ = nI ((sB S).eraseIdx K).length
    rw [el]
  · rw [out _ (by omega) (by omega), out _ (by omega) (by omega), out _ (by omega) (by omega)]
    exact h7 v hv
  · have hk' : k < (sB S).length - 1 := by
      have : k < ((sB S).eraseIdx K).length := hk
      omega
    show _ = nI (bk ((sB S).eraseIdx K) k u) ∧ bk ((sB S).eraseIdx K) k u < 1073741824
    rw [bk_er]
    unfold va_cpy
    by_cases c : k < K
    · rw [if_pos c, if_neg (by omega), upd_ne (by omega)]
      exact h8 k (by omega) u hu
    · rw [if_neg c, if_pos (by omega), upd_ne (by omega), show 93 + 7 * (K + 1) + (93 + 7 * k + u - (93 + 7 * K)) = 93 + 7 * (k + 1) + u by omega]
      exact h8 (k + 1) (by omega) u hu
/-- the visitors who carry something, a bit each -/
def gCar (S : gSt) : Nat → Int32
  | 0 => 0
  | k + 1 => gCar S k ||| ((if gHb (sI S 9 0) (nI k) = true then 1 else 0) <<< (nI k &&& 31))
set_option maxHeartbeats 4000000 in
set_option maxRecDepth 100000 in
theorem mX8_cancelIn (G : gG) (r : Nat) (S : gSt) (f : Nat → Int32) (K : Nat) (hI : gI1 S) (hT : sN S 0 < 1000000000) (hRR : RR S f) (hK : K < (sB S).length) : CIu G yX8_cancelIn wsX8_cancelIn 1 25 [.ref r, .int (nI K)] [(r, .inl (gy G 0, 271, .inl f))] (nI ((sB S).length - 1)) (fun u : Nat → Int32 => RR (uB S ((sB S).eraseIdx K)) u) (fun (u : Nat → Int32) => [(r, .inl (gy G 0, 271, .inl u))]) 0 0 := by
  refine g_enterIu (ty := .int) RX8 rfl (by decide) rfl (Nat.le_of_ble_eq_true rfl) ?_
  intro V E RET
  have hX := hI
  obtain ⟨hP8, hn, hw, hW8, hs3, hs4, hs5, hs6, hs7, hs8, hb34⟩ := hX
  refine g_aload_n E dX8_cancelIn_0 rfl 0 rfl ?_
  refine g_iconst (v := 2) E dX8_cancelIn_1 (by decide) ?_
  refine g_dup2 E dX8_cancelIn_2 rfl rfl ?_
  refine g_ialdN (e := 2) E 0 rfl (by omega) rfl (v := nI ((sB S).length)) (RR_2 hRR) dX8_cancelIn_3 ?_
  refine g_iconst (v := 1) E dX8_cancelIn_4 (by decide) ?_
  refine g_isubN (a := (sB S).length) (b := 1) E dX8_cancelIn_5 (by omega) ?_
  refine g_iast (ws' := [(r, .inl (gy G 0, 271, .inl (upd f 2 (nI ((sB S).length - 1)))))]) (j := 2) (y := nI ((sB S).length - 1)) E 0 rfl (g_in (e := 2) (by omega) rfl) (nI_clamp (n := 2) (by omega)) rfl rfl dX8_cancelIn_6 ?_
  refine g_iload_n E dX8_cancelIn_7 rfl 1 rfl ?_
  refine g_istore_n (lv' := [(2, .int (nI K)), (0, .ref r), (1, .int (nI K))]) E dX8_cancelIn_8 rfl (by decide) rfl ?_
  have loop1 : ∀ (n2 : Nat) (k : Nat) (g : Nat → Int32), (K ≤ k ∧ k ≤ (sB S).length - 1) → (g 2 = nI ((sB S).length - 1)) → (g = va_cpy (upd f 2 (nI ((sB S).length - 1))) (upd f 2 (nI ((sB S).length - 1))) (93 + 7 * (K + 1)) (93 + 7 * K) (7 * (k - K))) → (sB S).length - 1 - k < n2 → gW V 3 0 0 [(r, .inl (gy G 0, 271, .inl g))] [(0, .ref r), (1, .int (nI K)), (2, .int (nI k))] 9 [] := by
    intro n2
    induction n2 with
    | zero => intro k g hk hg2 hg hm4; exact absurd hm4 (Nat.not_lt_zero _)
    | succ n2 ih3 =>
      intro k g hk hg2 hg hm4
      refine g_iload_n E dX8_cancelIn_9 rfl 2 rfl ?_
      refine g_aload_n E dX8_cancelIn_10 rfl 0 rfl ?_
      refine g_iconst (v := 2) E dX8_cancelIn_11 (by decide) ?_
      refine g_ialdN (e := 2) E 0 rfl (by omega) rfl (v := nI ((sB S).length - 1)) (hg2) dX8_cancelIn_12 ?_
      refine g_icmp_geN (tgt := 41) (a := k) (b := (sB S).length - 1) E dX8_cancelIn_13 (by decide) (by omega) (by omega) (fun c5 => ?_) (fun c5 => ?_)
      · skip
        obtain rfl : k = (sB S).length - 1 := by omega
        refine g_aload_n E dX8_cancelIn_41 rfl 0 rfl ?_
        refine g_iconst (v := 2) E dX8_cancelIn_42 (by decide) ?_
        refine g_ialdN (e := 2) E 0 rfl (by omega) rfl (v := nI ((sB S).length - 1)) (hg2) dX8_cancelIn_43 ?_
        exact RET _ _ _ _ (⟨rfl, by rw [hg]; exact RR_erase hRR hK hn⟩) rfl dX8_cancelIn_44
      · skip
        have hkl : k < (sB S).length - 1 := by omega
        refine g_aload_n E dX8_cancelIn_16 rfl 0 rfl ?_
        refine g_iload_n E dX8_cancelIn_17 rfl 2 rfl ?_
        refine g_iconst (v := 1) E dX8_cancelIn_18 (by decide) ?_
        refine g_iaddN (a := k) (b := 1) E dX8_cancelIn_19 ?_
        refine g_iconst (v := 0) E dX8_cancelIn_20 (by decide) ?_
        refine g_callSIe (F := [(r, .inl (gy G 0, 271, .inl g))]) (ws2 := [(r, .inl (gy G 0, 271, .inl g))]) E (mX8_bookingAt G (k + 1) 0 (by omega) (by omega)) gX8_cancelIn_X8_bookingAt rfl hnX8_bookingAt ⟨Nat.le_of_ble_eq_true rfl, Nat.le_of_ble_eq_true rfl⟩ (gPerm_ix [0] rfl rfl) rfl rfl (Nat.le_of_ble_eq_true rfl) dX8_cancelIn_21 ⟨Nat.le_of_ble_eq_true rfl, Nat.le_of_ble_eq_true rfl⟩ (gPerm_ix [0] rfl rfl) ?_
        refine g_aload_n E dX8_cancelIn_24 rfl 0 rfl ?_
        refine g_iload_n E dX8_cancelIn_25 rfl 2 rfl ?_
        refine g_iconst (v := 0) E dX8_cancelIn_26 (by decide) ?_
        refine g_callSIe (F := [(r, .inl (gy G 0, 271, .inl g))]) (ws2 := [(r, .inl (gy G 0, 271, .inl g))]) E (mX8_bookingAt G k 0 (by omega) (by omega)) gX8_cancelIn_X8_bookingAt rfl hnX8_bookingAt ⟨Nat.le_of_ble_eq_true rfl, Nat.le_of_ble_eq_true rfl⟩ (gPerm_ix [0] rfl rfl) rfl rfl (Nat.le_of_ble_eq_true rfl) dX8_cancelIn_27 ⟨Nat.le_of_ble_eq_true rfl, Nat.le_of_ble_eq_true rfl⟩ (gPerm_ix [0] rfl rfl) ?_
        refine g_bipush (v := 7) E dX8_cancelIn_30 (by decide) ?_
        refine g_callSVe (F := []) (ws2 := [(r, .inl (gy G 0, 271, .inl (va_cpy g g (93 + 7 * (k + 1) + 0) (93 + 7 * k + 0) 7)))]) E (mX8_copyA G r g (93 + 7 * (k + 1) + 0) (93 + 7 * k + 0) 7 (by omega) (by omega) (by omega)) gX8_cancelIn_X8_copy rfl hnX8_copy ⟨Nat.le_of_ble_eq_true rfl, Nat.le_of_ble_eq_true rfl⟩ (gPerm_ix [0] rfl rfl) rfl rfl (Nat.le_of_ble_eq_true rfl) dX8_cancelIn_32 ⟨Nat.le_of_ble_eq_true rfl, Nat.le_of_ble_eq_true rfl⟩ (gPerm_ix [0] rfl rfl) ?_
        refine g_iinc (lv' := [(2, .int (nI (k + 1))), (0, .ref r), (1, .int (nI K))]) E dX8_cancelIn_35 2 rfl (g_inc _ 1 (by decide)) (by decide) rfl ?_
        refine g_goto (tgt := 9) E dX8_cancelIn_38 (by decide) ?_
        refine g_lv [1, 2, 0] rfl ?_
        exact ih3  (k + 1) _ ⟨by omega, by omega⟩ (by unfold va_cpy; rw [if_neg (by omega)]; exact hg2) (by rw [hg]; exact gShift_st hk.1) (by omega)
  refine g_lv [1, 2, 0] rfl ?_
  exact loop1 _ K _ ⟨Nat.le_refl _, by omega⟩ (upd_eq rfl) (by rw [Nat.sub_self, Nat.mul_zero, gCpy_0]) (Nat.lt_succ_self _)

set_option maxHeartbeats 4000000 in
set_option maxRecDepth 100000 in
theorem mX8_carriers (G : gG) (r : Nat) (S : gSt) (f : Nat → Int32)  (hI : gI1 S) (hT : sN S 0 < 1000000000) (hRR : RR S f) : CIe G yX8_carriers wsX8_carriers 1 21 [.ref r] [(r, .inl (gy G 0, 271, .inl f))] (gCar S 10) [(r, .inl (gy G 0, 271, .inl f))] 0 0 := by
  refine g_enterIe (ty := .int) RX8 rfl (by decide) rfl (Nat.le_of_ble_eq_true rfl) ?_
  intro V E RET
  have hX := hI
  obtain ⟨hP8, hn, hw, hW8, hs3, hs4, hs5, hs6, hs7, hs8, hb34⟩ := hX
  refine g_iconst (v := 0) E dX8_carriers_0 (by decide) ?_
  refine g_istore_n (lv' := [(1, .int 0), (0, .ref r)]) E dX8_carriers_1 rfl (by decide) rfl ?_
  refine g_iconst (v := 0) E dX8_carriers_2 (by decide) ?_
  refine g_istore_n (lv' := [(2, .int 0), (1, .int 0), (0, .ref r)]) E dX8_carriers_3 rfl (by decide) rfl ?_
  have loop1 : ∀ (n2 : Nat) (k : Nat) (x : Int32), (k ≤ 10) → (x = gCar S k) → 10 - k < n2 → gW V 3 0 0 [(r, .inl (gy G 0, 271, .inl f))] [(0, .ref r), (1, .int x), (2, .int (nI k))] 4 [] := by
    intro n2
    induction n2 with
    | zero => intro k x hk hx hm4; exact absurd hm4 (Nat.not_lt_zero _)
    | succ n2 ih3 =>
      intro k x hk hx hm4
      refine g_iload_n E dX8_carriers_4 rfl 2 rfl ?_
      refine g_bipush (v := 10) E dX8_carriers_5 (by decide) ?_
      refine g_icmp_geN (tgt := 28) (a := k) (b := 10) E dX8_carriers_7 (by decide) (by omega) (by omega) (fun c5 => ?_) (fun c5 => ?_)
      · skip
        have e9 : x = gCar S 10 := by rw [hx, show k = 10 by omega]
        refine g_iload_n E dX8_carriers_28 rfl 1 rfl ?_
        exact RET _ _ _ () (e9) rfl dX8_carriers_29
      · skip
        have hk10 : k < 10 := by omega
        refine g_iload_n E dX8_carriers_10 rfl 1 rfl ?_
        refine g_aload_n E dX8_carriers_11 rfl 0 rfl ?_
        refine g_iload_n E dX8_carriers_12 rfl 2 rfl ?_
        refine g_iconst (v := 2) E dX8_carriers_13 (by decide) ?_
        refine g_callSIe (F := [(r, .inl (gy G 0, 271, .inl f))]) (ws2 := [(r, .inl (gy G 0, 271, .inl f))]) E (mX8_visitorAt G k 2 (by omega) (by omega)) gX8_carriers_X8_visitorAt rfl hnX8_visitorAt ⟨Nat.le_of_ble_eq_true rfl, Nat.le_of_ble_eq_true rfl⟩ (gPerm_ix [0] rfl rfl) rfl rfl (Nat.le_of_ble_eq_true rfl) dX8_carriers_14 ⟨Nat.le_of_ble_eq_true rfl, Nat.le_of_ble_eq_true rfl⟩ (gPerm_ix [0] rfl rfl) ?_
        refine g_ialdN (e := 63 + 3 * k + 2) E 0 rfl (by omega) rfl (v := if gHb (sI S 9 0) (nI k) = true then 1 else 0) (RR_V2 hRR (v := k) (by omega)) dX8_carriers_17 ?_
        refine g_iload_n E dX8_carriers_18 rfl 2 rfl ?_
        refine g_ishl E dX8_carriers_19 ?_
        refine g_ior E dX8_carriers_20 ?_
        refine g_istore_n (lv' := [(1, .int (x ||| ((if gHb (sI S 9 0) (nI k) = true then 1 else 0) <<< (nI k &&& 31)))), (0, .ref r), (2, .int (nI k))]) E dX8_carriers_21 rfl (by decide) rfl ?_
        refine g_iinc (lv' := [(2, .int (nI (k + 1))), (1, .int (x ||| ((if gHb (sI S 9 0) (nI k) = true then 1 else 0) <<< (nI k &&& 31)))), (0, .ref r)]) E dX8_carriers_22 2 rfl (g_inc _ 1 (by decide)) (by decide) rfl ?_
        refine g_goto (tgt := 4) E dX8_carriers_25 (by decide) ?_
        refine g_lv [2, 1, 0] rfl ?_
        exact ih3  (k + 1) _ (by omega) (by rw [hx]; rfl) (by omega)
  refine g_lv [2, 1, 0] rfl ?_
  exact loop1 _ 0 _ (Nat.zero_le _) rfl (Nat.lt_succ_self _)
