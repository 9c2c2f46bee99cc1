theorem gEarR_st {S : gSt} {p v k h : Nat} (hb : ∀ j, j < 8 * k + h → gRA S p v (sN S 0 + j / 8) (j % 8) ≠ 0) (h0 : ¬ gRA S p v (sN S 0 + k) h = 0) (hh : h < 8) : ∀ j, j < 8 * k + (h + 1) → gRA S p v (sN S 0 + j / 8) (j % 8) ≠ 0 := by
  intro j hj
  rcases Nat.lt_or_ge j (8 * k + h) with q | q
  · exact hb j q
  · obtain rfl : j = 8 * k + h := by omega
    rw [show (8 * k + h) / 8 = k by omega, show (8 * k + h) % 8 = h by omega]
    exact h0
section
variable {S : gSt} {f : Nat → Int32}
theorem RR_congr {g : Nat → Int32} (h : RR S f) (e : ∀ j, j < 271 → g j = f j) (hn : (sB S).length ≤ 24) (hw : (sW S).length ≤ 10) : RR S g := by
  obtain ⟨h0, h1, h2, h3, h4, h5, h6, h7, h8, h9⟩ := h
  refine ⟨by rw [e _ (by omega)]; exact h0, by rw [e _ (by omega)]; exact h1, by rw [e _ (by omega)]; exact h2, by rw [e _ (by omega)]; exact h3, fun j hj => by rw [e _ (by omega)]; exact h4 j hj, fun j hj => by rw [e _ (by omega)]; exact h5 j hj, fun p hp w hw => by rw [e _ (by omega)]; exact h6 p hp w hw, fun v hv => ?_, fun k hk w hw => ?_, fun k hk => by rw [e _ (by omega)]; exact h9 k hk⟩
  · rw [e _ (by omega), e _ (by omega), e _ (by omega)]
    exact h7 v hv
  · rw [e _ (by omega)]
    exact h8 k hk w hw
theorem upd_ne {g : Nat → Int32} {i j : Nat} {x : Int32} (h : j ≠ i) : upd g i x j = g j := if_neg h
theorem upd_eq {g : Nat → Int32} {i j : Nat} {x : Int32} (h : j = i) : upd g i x j = x := if_pos h
theorem RR_uP {p w : Nat} {x : Int32} (h : RR S f) (hp : p < 8) (hw : w < 6) : RR (uI S w (upd (sI S w) p x)) (upd f (15 + 6 * p + w) x) := by
  obtain ⟨h0, h1, h2, h3, h4, h5, h6, h7, h8, h9⟩ := h
  refine ⟨by rw [upd_ne (by omega)]; exact h0, by rw [upd_ne (by omega)]; exact h1, by rw [upd_ne (by omega)]; exact h2, by rw [upd_ne (by omega)]; exact h3, fun j hj => ?_, fun j hj => by rw [upd_ne (by omega)]; exact h5 j hj, fun q hq u hu => ?_, fun v hv => ?_, fun k hk u hu => by rw [upd_ne (by omega)]; exact h8 k hk u hu, fun k hk => by rw [upd_ne (by omega)]; exact h9 k hk⟩
  · rw [upd_ne (by omega), sI_uI, if_neg (by omega)]
    exact h4 j hj
  · rw [sI_uI]
    by_cases c : u = w
    · rw [if_pos c]
      by_cases c2 : q = p
      · rw [upd_eq (by omega), upd_eq c2]
      · rw [upd_ne (by omega), upd_ne c2, ← c]
        exact h6 q hq u hu
    · rw [if_neg c, upd_ne (by omega)]
      exact h6 q hq u hu
  · rw [upd_ne (by omega), upd_ne (by omega), upd_ne (by omega), sI_uI, sI_uI, sI_uI, if_neg (show ¬ 6 = w by omega), if_neg (show ¬ 7 = w by omega), if_neg (show ¬ 9 = w by omega)]
    exact h7 v hv
theorem RR_uV {v w : Nat} {x : Int32} (h : RR S f) (hv : v < 10) (hw : w < 2) : RR (uI S (6 + w) (upd (sI S (6 + w)) v x)) (upd f (63 + 3 * v + w) x) := by
  obtain ⟨h0, h1, h2, h3, h4, h5, h6, h7, h8, h9⟩ := h
  refine ⟨by rw [upd_ne (by omega)]; exact h0, by rw [upd_ne (by omega)]; exact h1, by rw [upd_ne (by omega)]; exact h2, by rw [upd_ne (by omega)]; exact h3, fun j hj => ?_, fun j hj => by rw [upd_ne (by omega)]; exact h5 j hj, fun q hq u hu => ?_, fun y hy => ⟨?_, ?_, ?_⟩, fun k hk u hu => by rw [upd_ne (by omega)]; exact h8 k hk u hu, fun k hk => by rw [upd_ne (by omega)]; exact h9 k hk⟩
  · rw [upd_ne (by omega), sI_uI, if_neg (by omega)]
    exact h4 j hj
  · rw [upd_ne (by omega), sI_uI, if_neg (by omega)]
    exact h6 q hq u hu
  · rw [sI_uI]
    rcases (show w = 0 ∨ w = 1 by omega) with rfl | rfl
    · rw [if_pos rfl]
      by_cases c : y = v
      · rw [upd_eq (by omega), upd_eq c]
      · rw [upd_ne (by omega), upd_ne c]
        exact (h7 y hy).1
    · rw [if_neg (by omega), upd_ne (by omega)]
      exact (h7 y hy).1
  · rw [sI_uI]
    rcases (show w = 0 ∨ w = 1 by omega) with rfl | rfl
    · rw [if_neg (by omega), upd_ne (by omega)]
      exact (h7 y hy).2.1
    · rw [if_pos rfl]
      by_cases c : y = v
      · rw [upd_eq (by omega), upd_eq c]
      · rw [upd_ne (by omega), upd_ne c]
        exact (h7 y hy).2.1
  · rw [sI_uI, if_neg (show ¬ 9 = 6 + w by omega), upd_ne (by omega)]
    exact (h7 y hy).2.2
theorem RR_uC {w : Nat} {x : Int32} (h : RR S f) (hw : w < 5) : RR (uI S 8 (upd (sI S 8) w x)) (upd f (4 + w) x) := by
  obtain ⟨h0, h1, h2, h3, h4, h5, h6, h7, h8, h9⟩ := h
  refine ⟨by rw [upd_ne (by omega)]; exact h0, by rw [upd_ne (by omega)]; exact h1, by rw [upd_ne (by omega)]; exact h2, by rw [upd_ne (by omega)]; exact h3, fun j hj => ?_, fun j hj => by rw [upd_ne (by omega)]; exact h5 j hj, fun q hq u hu => ?_, fun v hv => ?_, fun k hk u hu => by rw [upd_ne (by omega)]; exact h8 k hk u hu, fun k hk => by rw [upd_ne (by omega)]; exact h9 k hk⟩
  · rw [sI_uI, if_pos rfl]
    by_cases c : j = w
    · rw [upd_eq (by omega), upd_eq c]
    · rw [upd_ne (by omega), upd_ne c]
      exact h4 j hj
  · rw [upd_ne (by omega), sI_uI, if_neg (by omega)]
    exact h6 q hq u hu
  · rw [upd_ne (by omega), upd_ne (by omega), upd_ne (by omega), sI_uI, sI_uI, sI_uI, if_neg (show ¬ 6 = 8 by omega), if_neg (show ¬ 7 = 8 by omega), if_neg (show ¬ 9 = 8 by omega)]
    exact h7 v hv
theorem RR_uS {w x : Nat} (h : RR S f) (hw : w < 6) : RR (uS S w x) (upd f (9 + w) (nI x)) := by
  obtain ⟨h0, h1, h2, h3, h4, h5, h6, h7, h8, h9⟩ := h
  refine ⟨by rw [upd_ne (by omega)]; exact h0, by rw [upd_ne (by omega)]; exact h1, by rw [upd_ne (by omega)]; exact h2, by rw [upd_ne (by omega)]; exact h3, fun j hj => by rw [upd_ne (by omega)]; exact h4 j hj, fun j hj => ?_, fun q hq u hu => by rw [upd_ne (by omega)]; exact h6 q hq u hu, fun v hv => ?_, fun k hk u hu => by rw [upd_ne (by omega)]; exact h8 k hk u hu, fun k hk => by rw [upd_ne (by omega)]; exact h9 k hk⟩
  · show upd f (9 + w) (nI x) (9 + j) = nI (if j = w then x else sS S j)
    by_cases c : j = w
    · rw [upd_eq (by omega), if_pos c]
    · rw [upd_ne (by omega), if_neg c]
      exact h5 j hj
  · rw [upd_ne (by omega), upd_ne (by omega), upd_ne (by omega)]
    exact h7 v hv
theorem RR_uT {x : Nat} (h : RR S f) : RR (uN S 0 x) (upd f 0 (nI x)) := by
  obtain ⟨h0, h1, h2, h3, h4, h5, h6, h7, h8, h9⟩ := h
  refine ⟨rfl, by rw [upd_ne (by omega)]; exact h1, by rw [upd_ne (by omega)]; exact h2, by rw [upd_ne (by omega)]; exact h3, fun j hj => by rw [upd_ne (by omega)]; exact h4 j hj, fun j hj => by rw [upd_ne (by omega)]; exact h5 j hj, fun q hq u hu => by rw [upd_ne (by omega)]; exact h6 q hq u hu, fun v hv => ?_, fun k hk u hu => by rw [upd_ne (by omega)]; exact h8 k hk u hu, fun k hk => by rw [upd_ne (by omega)]; exact h9 k hk⟩
  rw [upd_ne (by omega), upd_ne (by omega), upd_ne (by omega)]
  exact h7 v hv
end
set_option maxHeartbeats 4000000 in
set_option maxRecDepth 100000 in
theorem mX8_firstIn (G : gG) (r : Nat) (S : gSt) (f : Nat → Int32) (p v n : Nat) (hI : gI1r S) (hT : sN S 0 < 1000000000) (hRR : RR S f) (hp : p < 8) (hv : v < 10) (hn60 : n ≤ 60) (hb2 : ∀ k, k < (sB S).length → bk (sB S) k 2 < 32) : CIe G yX8_firstIn wsX8_firstIn 4 94 [.ref r, .int (nI p), .int (nI v), .int (nI n)] [(r, .inl (gy G 0, 271, .inl f))] (gOptI (gEar S p v n)) [(r, .inl (gy G 0, 271, .inl f))] 0 0 := by
  refine g_enterIe (ty := .int) RX8 rfl (by decide) rfl (Nat.le_of_ble_eq_true rfl) ?_
  intro V E RET
  have hX := hI
  obtain ⟨hP8, hn, hw, hW8, hs3, hs4, hs5, hs6, hs7, hs8, hb34⟩ := hX
  refine g_aload_n E dX8_firstIn_0 rfl 0 rfl ?_
  refine g_iconst (v := 0) E dX8_firstIn_1 (by decide) ?_
  refine g_ialdN (e := 0) E 0 rfl (by omega) rfl (v := nI (sN S 0)) (RR_0 hRR) dX8_firstIn_2 ?_
  refine g_istore (lv' := [(4, .int (nI (sN S 0))), (0, .ref r), (1, .int (nI p)), (2, .int (nI v)), (3, .int (nI n))]) E dX8_firstIn_3 (by decide) rfl ?_
  have loop1 : ∀ (n2 : Nat) (k dy : Nat), (k ≤ n) → (dy = sN S 0 + k) → (∀ j, j < 8 * k → gRA S p v (sN S 0 + j / 8) (j % 8) ≠ 0) → n - k < n2 → gW V 6 0 0 [(r, .inl (gy G 0, 271, .inl f))] [(0, .ref r), (1, .int (nI p)), (2, .int (nI v)), (3, .int (nI n)), (4, .int (nI dy))] 5 [] := by
    intro n2
    induction n2 with
    | zero => intro k dy hk hdy ha hm4; exact absurd hm4 (Nat.not_lt_zero _)
    | succ n2 ih3 =>
      intro k dy hk hdy ha hm4
      refine g_iload E dX8_firstIn_5 4 rfl ?_
      refine g_aload_n E dX8_firstIn_7 rfl 0 rfl ?_
      refine g_iconst (v := 0) E dX8_firstIn_8 (by decide) ?_
      refine g_ialdN (e := 0) E 0 rfl (by omega) rfl (v := nI (sN S 0)) (RR_0 hRR) dX8_firstIn_9 ?_
      refine g_iload_n E dX8_firstIn_10 rfl 3 rfl ?_
      refine g_iaddN (a := sN S 0) (b := n) E dX8_firstIn_11 ?_
      refine g_icmp_geN (tgt := 59) (a := dy) (b := sN S 0 + n) E dX8_firstIn_12 (by decide) (by omega) (by omega) (fun c5 => ?_) (fun c5 => ?_)
      · skip
        have e9 : (-1 : Int32) = gOptI (gEar S p v n) := by rw [gEar_none (fun j hj => ha j (by omega))]; rfl
        refine g_iconst (v := (-1)) E dX8_firstIn_59 (by decide) ?_
        exact RET _ _ _ () (e9) rfl dX8_firstIn_60
      · skip
        have hkn : k < n := by omega
        refine g_iconst (v := 0) E dX8_firstIn_15 (by decide) ?_
        refine g_istore (lv' := [(5, .int 0), (0, .ref r), (1, .int (nI p)), (2, .int (nI v)), (3, .int (nI n)), (4, .int (nI dy))]) E dX8_firstIn_16 (by decide) rfl ?_
        have loop6 : ∀ (n7 : Nat) (h : Nat), (h ≤ 8) → (∀ j, j < 8 * k + h → gRA S p v (sN S 0 + j / 8) (j % 8) ≠ 0) → 8 - h < n7 → gW V 6 0 0 [(r, .inl (gy G 0, 271, .inl f))] [(0, .ref r), (1, .int (nI p)), (2, .int (nI v)), (3, .int (nI n)), (4, .int (nI dy)), (5, .int (nI h))] 18 [] := by
          intro n7
          induction n7 with
          | zero => intro h hh hb hm9; exact absurd hm9 (Nat.not_lt_zero _)
          | succ n7 ih8 =>
            intro h hh hb hm9
            refine g_iload E dX8_firstIn_18 5 rfl ?_
            refine g_bipush (v := 8) E dX8_firstIn_20 (by decide) ?_
            refine g_icmp_geN (tgt := 53) (a := h) (b := 8) E dX8_firstIn_22 (by decide) (by omega) (by omega) (fun c10 => ?_) (fun c10 => ?_)
            · skip
              refine g_iinc (lv' := [(4, .int (nI (dy + 1))), (0, .ref r), (1, .int (nI p)), (2, .int (nI v)), (3, .int (nI n)), (5, .int (nI h))]) E dX8_firstIn_53 4 rfl (g_inc _ 1 (by decide)) (by decide) rfl ?_
              refine g_goto (tgt := 5) E dX8_firstIn_56 (by decide) ?_
              refine g_lv [1, 2, 3, 4, 0] rfl ?_
              exact ih3  (k + 1) _ (by omega) (by omega) (fun j hj => hb j (by omega)) (by omega)
            · skip
              have hh8 : h < 8 := by omega
              have q4 := gRA_le S p v dy h
              refine g_aload_n E dX8_firstIn_25 rfl 0 rfl ?_
              refine g_iload_n E dX8_firstIn_26 rfl 1 rfl ?_
              refine g_iload_n E dX8_firstIn_27 rfl 2 rfl ?_
              refine g_iload E dX8_firstIn_28 4 rfl ?_
              refine g_iload E dX8_firstIn_30 5 rfl ?_
              refine g_callSIe (F := []) (ws2 := [(r, .inl (gy G 0, 271, .inl f))]) E (g_resI (congrArg nI (gWhyR_eq (d := dy) (h := h) hI hb2 (p := p) (v := v) (by omega) (by omega))) (mX8_why G r S f p v dy h hI hT hRR (by omega) (by omega) (by omega) (by omega))) gX8_firstIn_X8_why rfl hnX8_why ⟨Nat.le_of_ble_eq_true rfl, Nat.le_of_ble_eq_true rfl⟩ (gPerm_ix [0] rfl rfl) rfl rfl (Nat.le_of_ble_eq_true rfl) dX8_firstIn_32 ⟨Nat.le_of_ble_eq_true rfl, Nat.le_of_ble_eq_true rfl⟩ (gPerm_ix [0] rfl rfl) ?_
              refine g_if_neN (tgt := 47) (a := gRA S p v dy h) E dX8_firstIn_35 (by decide) (by omega) (fun c11 => ?_) (fun c11 => ?_)
              · skip
                refine g_iinc (lv' := [(5, .int (nI (h + 1))), (0, .ref r), (1, .int (nI p)), (2, .int (nI v)), (3, .int (nI n)), (4, .int (nI dy))]) E dX8_firstIn_47 5 rfl (g_inc _ 1 (by decide)) (by decide) rfl ?_
                refine g_goto (tgt := 18) E dX8_firstIn_50 (by decide) ?_
                refine g_lv [1, 2, 3, 4, 5, 0] rfl ?_
                exact ih8  (h + 1) (by omega) (gEarR_st hb (hdy ▸ c11) (by omega)) (by omega)
              · skip
                refine g_bipush (v := 8) E dX8_firstIn_38 (by decide) ?_
                refine g_iload E dX8_firstIn_40 4 rfl ?_
                refine g_imulN (a := 8) (b := dy) E dX8_firstIn_42 ?_
                refine g_iload E dX8_firstIn_43 5 rfl ?_
                refine g_iaddN (a := 8 * dy) (b := h) E dX8_firstIn_45 ?_
                exact RET _ _ _ () (by rw [gEar_some hkn hh8 hb (hdy ▸ c11), ← hdy]; rfl) rfl dX8_firstIn_46
        refine g_lv [1, 2, 3, 4, 5, 0] rfl ?_
        exact loop6 _ 0 (Nat.zero_le _) (fun j hj => ha j (by omega)) (Nat.lt_succ_self _)
  refine g_lv [1, 2, 3, 4, 0] rfl ?_
  exact loop1 _ 0 _ (Nat.zero_le _) rfl (fun j hj => absurd hj (Nat.not_lt_zero j)) (Nat.lt_succ_self _)
