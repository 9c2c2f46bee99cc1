section
variable {S : gSt} {f : Nat → Int32}
theorem RR_uNP {x : Nat} (h : RR S f) : RR (uN S 1 x) (upd f 1 (nI x)) := by
  obtain ⟨h0, h1, h2, h3, h4, h5, h6, h7, h8, h9⟩ := h
  refine ⟨by rw [upd_ne (by omega)]; exact h0, rfl, by rw [upd_ne (by omega)]; exact h2, by rw [upd_ne (by omega)]; exact h3, fun j hj => by rw [upd_ne (by omega)]; exact h4 j hj, fun j hj => by rw [upd_ne (by omega)]; exact h5 j hj, fun q hq u hu => by rw [upd_ne (by omega)]; exact h6 q hq u hu, fun v hv => ?_, fun k hk u hu => by rw [upd_ne (by omega)]; exact h8 k hk u hu, fun k hk => by rw [upd_ne (by omega)]; exact h9 k hk⟩
  rw [upd_ne (by omega), upd_ne (by omega), upd_ne (by omega)]
  exact h7 v hv
theorem wq_app {W : List Nat} {x k : Nat} : wq (W ++ [x]) k = if k = W.length then x else wq W k := by
  unfold wq
  by_cases c : k = W.length
  · rw [if_pos c, c]
    simp
  · rw [if_neg c, List.getD_eq_getElem?_getD, List.getD_eq_getElem?_getD]
    rcases Nat.lt_or_ge k W.length with q | q
    · rw [List.getElem?_append_left q]
    · rw [List.getElem?_eq_none (by simp; omega), List.getElem?_eq_none q]
theorem RR_wish {x : Nat} (h : RR S f) (hn : (sB S).length ≤ 24) (hw : (sW S).length < 10) : RR (uW S (sW S ++ [x])) (upd (upd f (261 + (sW S).length) (nI x)) 3 (nI ((sW S).length + 1))) := by
  obtain ⟨h0, h1, h2, h3, h4, h5, h6, h7, h8, h9⟩ := h
  refine ⟨by rw [upd_ne (by omega), upd_ne (by omega)]; exact h0, by rw [upd_ne (by omega), upd_ne (by omega)]; exact h1, by rw [upd_ne (by omega), upd_ne (by omega)]; exact h2, ?_, fun j hj => by rw [upd_ne (by omega), upd_ne (by omega)]; exact h4 j hj, fun j hj => by rw [upd_ne (by omega), upd_ne (by omega)]; exact h5 j hj, fun q hq u hu => by rw [upd_ne (by omega), upd_ne (by omega)]; exact h6 q hq u hu, fun v hv => ?_, fun k hk u hu => ?_, fun k hk => ?_⟩
  · rw [upd_eq rfl]
    show _ = nI (sW S ++ [x]).length
    rw [List.length_append]
    rfl
  · rw [upd_ne (by omega), upd_ne (by omega), upd_ne (by omega), upd_ne (by omega), upd_ne (by omega), upd_ne (by omega)]
    exact h7 v hv
  · have hk' : k < (sB S).length := hk
    rw [upd_ne (by omega), upd_ne (by omega)]
    exact h8 k hk u hu
  · have hk' : k < (sW S ++ [x]).length := hk
    rw [List.length_append] at hk'
    have hk2 : k < (sW S).length + 1 := hk'
    show _ = nI (wq (sW S ++ [x]) k)
    rw [upd_ne (by omega), wq_app]
    by_cases c : k = (sW S).length
    · rw [upd_eq (by omega), if_pos c]
    · rw [upd_ne (by omega), if_neg c]
      exact h9 k (by omega)
theorem gI1_addR (h : gI1 S) (hn : sN S 1 < 8) {r : Int32} : gI1 (uN (uI S 0 (upd (sI S 0) (sN S 1) r)) 1 (sN S 1 + 1)) := by
  obtain ⟨h1, h2, h3, h4, h5, h6, h7, h8, h9, h10, h11⟩ := h
  refine ⟨?_, h2, h3, ?_, h5, h6, h7, h8, h9, h10, ?_⟩
  · show sN S 1 + 1 ≤ 8
    omega
  · intro j hj
    have := h4 j hj
    exact ⟨this.1, show wq (sW S) j / 10 < sN S 1 + 1 by omega⟩
  · intro k hk
    have := h11 k hk
    exact ⟨show bk (sB S) k 3 < sN S 1 + 1 by omega, this.2⟩
theorem uI_uI (S : gSt) (k : Nat) (g h : Nat → Int32) : uI (uI S k g) k h = uI S k h := by
  show ((fun j => cond (Nat.beq j k) h (cond (Nat.beq j k) g (sI S j)), S.2) : gSt) = (fun j => cond (Nat.beq j k) h (sI S j), S.2)
  congr 1
  funext j
  cases Nat.beq j k <;> rfl
/-- a strike, as the reference has it -/
def gStrike (S : gSt) (v : Nat) : gSt := if (gThird S v).1 = 0 then (gThird S v).2 else gBan (gThird S v).2 v
theorem gThird_2 {v : Nat} (hst : sI S 6 v = 0 ∨ sI S 6 v = 1 ∨ sI S 6 v = 2) (c : sI (uI S 6 (upd (sI S 6) v (sI S 6 v + 1))) 6 v = 3) : uI (uI S 6 (upd (sI S 6) v (sI S 6 v + 1))) 6 (upd (sI (uI S 6 (upd (sI S 6) v (sI S 6 v + 1))) 6) v 0) = (gThird S v).2 := by
  have c' : sI S 6 v + 1 = 3 := by
    rw [sI_uI, if_pos rfl, upd_eq rfl] at c
    exact c
  unfold gThird
  rw [c', if_neg (by decide), uI_uI]
  rw [sI_uI, if_pos rfl]
theorem gStrike_1 {v : Nat} (hst : sI S 6 v = 0 ∨ sI S 6 v = 1 ∨ sI S 6 v = 2) (c : ¬ sI (uI S 6 (upd (sI S 6) v (sI S 6 v + 1))) 6 v = 3) : uI S 6 (upd (sI S 6) v (sI S 6 v + 1)) = gStrike S v := by
  have c' : ¬ sI S 6 v + 1 = 3 := by
    intro q
    apply c
    rw [sI_uI, if_pos rfl, upd_eq rfl]
    exact q
  have h2 : sI S 6 v + 1 < 3 := by
    rcases hst with e | e | e <;> rw [e] at c' ⊢
    · decide
    · decide
    · exact absurd (by decide) c'
  unfold gStrike gThird
  rw [if_pos h2]
  rfl
theorem gStrike_2 {v : Nat} (hst : sI S 6 v = 0 ∨ sI S 6 v = 1 ∨ sI S 6 v = 2) (c : sI (uI S 6 (upd (sI S 6) v (sI S 6 v + 1))) 6 v = 3) : gBan (gThird S v).2 v = gStrike S v := by
  have c' : sI S 6 v + 1 = 3 := by
    rw [sI_uI, if_pos rfl, upd_eq rfl] at c
    exact c
  unfold gStrike
  have : (gThird S v).1 = 1 := by
    unfold gThird
    rw [c', if_neg (by decide)]
  rw [this, if_neg (by decide)]
end
set_option maxHeartbeats 4000000 in
set_option maxRecDepth 100000 in
theorem mX8_wishIn (G : gG) (r : Nat) (S : gSt) (f : Nat → Int32) (p v : Nat) (hI : gI1 S) (hT : sN S 0 < 1000000000) (hRR : RR S f) (hp : p < 8) (hv : v < 10) (hw9 : (sW S).length < 10) : CIu G yX8_wishIn wsX8_wishIn 0 0 [.ref r, .int (nI p), .int (nI v)] [(r, .inl (gy G 0, 271, .inl f))] (nI ((sW S).length + 1)) (fun u : Nat → Int32 => RR (uW S (sW S ++ [10 * p + v])) u) (fun (u : Nat → Int32) => [(r, .inl (gy G 0, 271, .inl u))]) 0 0 := by
  refine g_enterIu (ty := .int) RX8 rfl (by decide) rfl (Nat.le_of_ble_eq_true rfl) ?_
  intro V E RET
  have hX := hI
  obtain ⟨hP8, hn, hw, hW8, hs3, hs4, hs5, hs6, hs7, hs8, hb34⟩ := hX
  refine g_aload_n E dX8_wishIn_0 rfl 0 rfl ?_
  refine g_sipush (v := 261) E dX8_wishIn_1 (by decide) ?_
  refine g_aload_n E dX8_wishIn_4 rfl 0 rfl ?_
  refine g_iconst (v := 3) E dX8_wishIn_5 (by decide) ?_
  refine g_ialdN (e := 3) E 0 rfl (by omega) rfl (v := nI ((sW S).length)) (RR_3 hRR) dX8_wishIn_6 ?_
  refine g_iaddN (a := 261) (b := (sW S).length) E dX8_wishIn_7 ?_
  refine g_bipush (v := 10) E dX8_wishIn_8 (by decide) ?_
  refine g_iload_n E dX8_wishIn_10 rfl 1 rfl ?_
  refine g_imulN (a := 10) (b := p) E dX8_wishIn_11 ?_
  refine g_iload_n E dX8_wishIn_12 rfl 2 rfl ?_
  refine g_iaddN (a := 10 * p) (b := v) E dX8_wishIn_13 ?_
  refine g_iast (ws' := [(r, .inl (gy G 0, 271, .inl (upd f (261 + ((sW S).length)) (nI (10 * p + v)))))]) (j := 261 + ((sW S).length)) (y := nI (10 * p + v)) E 0 rfl (g_in (e := 261 + ((sW S).length)) (by omega) rfl) (nI_clamp (n := 261 + ((sW S).length)) (by omega)) rfl rfl dX8_wishIn_14 ?_
  refine g_aload_n E dX8_wishIn_15 rfl 0 rfl ?_
  refine g_iconst (v := 3) E dX8_wishIn_16 (by decide) ?_
  refine g_dup2 E dX8_wishIn_17 rfl rfl ?_
  refine g_ialdN (e := 3) E 0 rfl (by omega) rfl (v := nI (sW S).length) ((upd_ne (by omega)).trans (RR_3 hRR)) dX8_wishIn_18 ?_
  refine g_iconst (v := 1) E dX8_wishIn_19 (by decide) ?_
  refine g_iaddN (a := (sW S).length) (b := 1) E dX8_wishIn_20 ?_
  refine g_iast (ws' := [(r, .inl (gy G 0, 271, .inl (upd (upd f (261 + ((sW S).length)) (nI (10 * p + v))) 3 (nI ((sW S).length + 1)))))]) (j := 3) (y := nI ((sW S).length + 1)) E 0 rfl (g_in (e := 3) (by omega) rfl) (nI_clamp (n := 3) (by omega)) rfl rfl dX8_wishIn_21 ?_
  refine g_aload_n E dX8_wishIn_22 rfl 0 rfl ?_
  refine g_iconst (v := 3) E dX8_wishIn_23 (by decide) ?_
  refine g_ialdN (e := 3) E 0 rfl (by omega) rfl (v := nI ((sW S).length + 1)) (upd_eq rfl) dX8_wishIn_24 ?_
  exact RET _ _ _ _ (⟨rfl, RR_wish hRR hn hw9⟩) rfl dX8_wishIn_25

set_option maxHeartbeats 4000000 in
set_option maxRecDepth 100000 in
theorem mX8_addIn (G : gG) (r : Nat) (S : gSt) (f : Nat → Int32) (x : Int32) (hI : gI1 S) (hT : sN S 0 < 1000000000) (hRR : RR S f) (hn8 : sN S 1 < 8) (hz : ∀ w, w < 6 → sI S w (sN S 1) = 0) : CIu G yX8_addIn wsX8_addIn 1 21 [.ref r, .int x] [(r, .inl (gy G 0, 271, .inl f))] (nI (sN S 1)) (fun u : Nat → Int32 => RR (uN (uI S 0 (upd (sI S 0) (sN S 1) x)) 1 (sN S 1 + 1)) u) (fun (u : Nat → Int32) => [(r, .inl (gy G 0, 271, .inl u))]) 0 0 := by
  refine g_enterIu (ty := .int) RX8 rfl (by decide) rfl (Nat.le_of_ble_eq_true rfl) ?_
  intro V E RET
  have hX := hI
  obtain ⟨hP8, hn, hw, hW8, hs3, hs4, hs5, hs6, hs7, hs8, hb34⟩ := hX
  refine g_aload_n E dX8_addIn_0 rfl 0 rfl ?_
  refine g_iconst (v := 1) E dX8_addIn_1 (by decide) ?_
  refine g_ialdN (e := 1) E 0 rfl (by omega) rfl (v := nI (sN S 1)) (RR_1 hRR) dX8_addIn_2 ?_
  refine g_istore_n (lv' := [(2, .int (nI (sN S 1))), (0, .ref r), (1, .int x)]) E dX8_addIn_3 rfl (by decide) rfl ?_
  refine g_iconst (v := 0) E dX8_addIn_4 (by decide) ?_
  refine g_istore_n (lv' := [(3, .int 0), (2, .int (nI (sN S 1))), (0, .ref r), (1, .int x)]) E dX8_addIn_5 rfl (by decide) rfl ?_
  have loop1 : ∀ (n2 : Nat) (k : Nat) (g : Nat → Int32), (k ≤ 6) → (RR S g) → 6 - k < n2 → gW V 4 0 0 [(r, .inl (gy G 0, 271, .inl g))] [(0, .ref r), (1, .int x), (2, .int (nI (sN S 1))), (3, .int (nI k))] 6 [] := by
    intro n2
    induction n2 with
    | zero => intro k g hk hg hm4; exact absurd hm4 (Nat.not_lt_zero _)
    | succ n2 ih3 =>
      intro k g hk hg hm4
      refine g_iload_n E dX8_addIn_6 rfl 3 rfl ?_
      refine g_bipush (v := 6) E dX8_addIn_7 (by decide) ?_
      refine g_icmp_geN (tgt := 26) (a := k) (b := 6) E dX8_addIn_9 (by decide) (by omega) (by omega) (fun c5 => ?_) (fun c5 => ?_)
      · skip
        refine g_aload_n E dX8_addIn_26 rfl 0 rfl ?_
        refine g_iload_n E dX8_addIn_27 rfl 2 rfl ?_
        refine g_iconst (v := 0) E dX8_addIn_28 (by decide) ?_
        refine g_callSIe (F := [(r, .inl (gy G 0, 271, .inl g))]) (ws2 := [(r, .inl (gy G 0, 271, .inl g))]) E (mX8_prisonerAt G (sN S 1) 0 (by omega) (by omega)) gX8_addIn_X8_prisonerAt rfl hnX8_prisonerAt ⟨Nat.le_of_ble_eq_true rfl, Nat.le_of_ble_eq_true rfl⟩ (gPerm_ix [0] rfl rfl) rfl rfl (Nat.le_of_ble_eq_true rfl) dX8_addIn_29 ⟨Nat.le_of_ble_eq_true rfl, Nat.le_of_ble_eq_true rfl⟩ (gPerm_ix [0] rfl rfl) ?_
        refine g_iload_n E dX8_addIn_32 rfl 1 rfl ?_
        refine g_iast (ws' := [(r, .inl (gy G 0, 271, .inl (upd g (15 + 6 * (sN S 1) + 0) x)))]) (j := 15 + 6 * (sN S 1) + 0) (y := x) E 0 rfl (g_in (e := 15 + 6 * (sN S 1) + 0) (by omega) rfl) (nI_clamp (n := 15 + 6 * (sN S 1) + 0) (by omega)) rfl rfl dX8_addIn_33 ?_
        have hRR6 : RR (uI S 0 (upd (sI S 0) (sN S 1) x)) (upd g (15 + 6 * (sN S 1) + 0) x) := RR_uP hg (by omega) (by decide)
        refine g_aload_n E dX8_addIn_34 rfl 0 rfl ?_
        refine g_iconst (v := 1) E dX8_addIn_35 (by decide) ?_
        refine g_dup2 E dX8_addIn_36 rfl rfl ?_
        refine g_ialdN (e := 1) E 0 rfl (by omega) rfl (v := nI (sN (uI S 0 (upd (sI S 0) (sN S 1) x)) 1)) (RR_1 hRR6) dX8_addIn_37 ?_
        refine g_iconst (v := 1) E dX8_addIn_38 (by decide) ?_
        refine g_iaddN (a := sN (uI S 0 (upd (sI S 0) (sN S 1) x)) 1) (b := 1) E dX8_addIn_39 ?_
        refine g_iast (ws' := [(r, .inl (gy G 0, 271, .inl (upd (upd g (15 + 6 * (sN S 1) + 0) x) 1 (nI (sN (uI S 0 (upd (sI S 0) (sN S 1) x)) 1 + 1)))))]) (j := 1) (y := nI (sN (uI S 0 (upd (sI S 0) (sN S 1) x)) 1 + 1)) E 0 rfl (g_in (e := 1) (by omega) rfl) (nI_clamp (n := 1) (by omega)) rfl rfl dX8_addIn_40 ?_
        have hRR7 : RR (uN (uI S 0 (upd (sI S 0) (sN S 1) x)) 1 (sN S 1 + 1)) (upd (upd g (15 + 6 * (sN S 1) + 0) x) 1 (nI (sN (uI S 0 (upd (sI S 0) (sN S 1) x)) 1 + 1))) := RR_uNP hRR6
        refine g_iload_n E dX8_addIn_41 rfl 2 rfl ?_
        exact RET _ _ _ _ (⟨rfl, hRR7⟩) rfl dX8_addIn_42
      · skip
        have hk6 : k < 6 := by omega
        refine g_aload_n E dX8_addIn_12 rfl 0 rfl ?_
        refine g_iload_n E dX8_addIn_13 rfl 2 rfl ?_
        refine g_iload_n E dX8_addIn_14 rfl 3 rfl ?_
        refine g_callSIe (F := [(r, .inl (gy G 0, 271, .inl g))]) (ws2 := [(r, .inl (gy G 0, 271, .inl g))]) E (mX8_prisonerAt G (sN S 1) k (by omega) (by omega)) gX8_addIn_X8_prisonerAt rfl hnX8_prisonerAt ⟨Nat.le_of_ble_eq_true rfl, Nat.le_of_ble_eq_true rfl⟩ (gPerm_ix [0] rfl rfl) rfl rfl (Nat.le_of_ble_eq_true rfl) dX8_addIn_15 ⟨Nat.le_of_ble_eq_true rfl, Nat.le_of_ble_eq_true rfl⟩ (gPerm_ix [0] rfl rfl) ?_
        refine g_iconst (v := 0) E dX8_addIn_18 (by decide) ?_
        refine g_iast (ws' := [(r, .inl (gy G 0, 271, .inl (upd g (15 + 6 * (sN S 1) + k) 0)))]) (j := 15 + 6 * (sN S 1) + k) (y := 0) E 0 rfl (g_in (e := 15 + 6 * (sN S 1) + k) (by omega) rfl) (nI_clamp (n := 15 + 6 * (sN S 1) + k) (by omega)) rfl rfl dX8_addIn_19 ?_
        have hRR8 : RR S (upd g (15 + 6 * (sN S 1) + k) 0) := RR_same hg ((RR_P hg (by omega) hk6).trans (hz k hk6))
        refine g_iinc (lv' := [(3, .int (nI (k + 1))), (0, .ref r), (1, .int x), (2, .int (nI (sN S 1)))]) E dX8_addIn_20 3 rfl (g_inc _ 1 (by decide)) (by decide) rfl ?_
        refine g_goto (tgt := 6) E dX8_addIn_23 (by decide) ?_
        refine g_lv [1, 2, 3, 0] rfl ?_
        exact ih3  (k + 1) _ (by omega) hRR8 (by omega)
  refine g_lv [2, 3, 1, 0] rfl ?_
  exact loop1 _ 0 _ (Nat.zero_le _) hRR (Nat.lt_succ_self _)

set_option maxHeartbeats 4000000 in
set_option maxRecDepth 100000 in
theorem mX8_strike (G : gG) (r : Nat) (S : gSt) (f : Nat → Int32) (v : Nat) (hI : gI1 S) (hT : sN S 0 < 1000000000) (hRR : RR S f) (hv : v < 10) (hst : sI S 6 v = 0 ∨ sI S 6 v = 1 ∨ sI S 6 v = 2) : CV G yX8_strike wsX8_strike 2 43 [.ref r, .int (nI v)] [(r, .inl (gy G 0, 271, .inl f))] (fun u : Nat → Int32 => RR (gStrike S v) u) (fun (u : Nat → Int32) => [(r, .inl (gy G 0, 271, .inl u))]) 0 0 := by
  refine g_enterV RX8 rfl (by decide) rfl (Nat.le_of_ble_eq_true rfl) ?_
  intro V E RET
  have hX := hI
  obtain ⟨hP8, hn, hw, hW8, hs3, hs4, hs5, hs6, hs7, hs8, hb34⟩ := hX
  refine g_aload_n E dX8_strike_0 rfl 0 rfl ?_
  refine g_iload_n E dX8_strike_1 rfl 1 rfl ?_
  refine g_iconst (v := 0) E dX8_strike_2 (by decide) ?_
  refine g_callSIe (F := [(r, .inl (gy G 0, 271, .inl f))]) (ws2 := [(r, .inl (gy G 0, 271, .inl f))]) E (mX8_visitorAt G v 0 (by omega) (by omega)) gX8_strike_X8_visitorAt rfl hnX8_visitorAt ⟨Nat.le_of_ble_eq_true rfl, Nat.le_of_ble_eq_true rfl⟩ (gPerm_ix [0] rfl rfl) rfl rfl (Nat.le_of_ble_eq_true rfl) dX8_strike_3 ⟨Nat.le_of_ble_eq_true rfl, Nat.le_of_ble_eq_true rfl⟩ (gPerm_ix [0] rfl rfl) ?_
  refine g_dup2 E dX8_strike_6 rfl rfl ?_
  refine g_ialdN (e := 63 + 3 * v + 0) E 0 rfl (by omega) rfl (v := sI S 6 v) (RR_V0 hRR (v := v) (by omega)) dX8_strike_7 ?_
  refine g_iconst (v := 1) E dX8_strike_8 (by decide) ?_
  refine g_iadd E dX8_strike_9 ?_
  refine g_iast (ws' := [(r, .inl (gy G 0, 271, .inl (upd f (63 + 3 * v + 0) ((sI S 6 v) + 1))))]) (j := 63 + 3 * v + 0) (y := (sI S 6 v) + 1) E 0 rfl (g_in (e := 63 + 3 * v + 0) (by omega) rfl) (nI_clamp (n := 63 + 3 * v + 0) (by omega)) rfl rfl dX8_strike_10 ?_
  have hRR1 : RR (uI S 6 (upd (sI S 6) v (sI S 6 v + 1))) (upd f (63 + 3 * v + 0) ((sI S 6 v) + 1)) := RR_uV (w := 0) hRR hv (by decide)
  refine g_aload_n E dX8_strike_11 rfl 0 rfl ?_
  refine g_iload_n E dX8_strike_12 rfl 1 rfl ?_
  refine g_iconst (v := 0) E dX8_strike_13 (by decide) ?_
  refine g_callSIe (F := [(r, .inl (gy G 0, 271, .inl (upd f (63 + 3 * v + 0) ((sI S 6 v) + 1))))]) (ws2 := [(r, .inl (gy G 0, 271, .inl (upd f (63 + 3 * v + 0) ((sI S 6 v) + 1))))]) E (mX8_visitorAt G v 0 (by omega) (by omega)) gX8_strike_X8_visitorAt rfl hnX8_visitorAt ⟨Nat.le_of_ble_eq_true rfl, Nat.le_of_ble_eq_true rfl⟩ (gPerm_ix [0] rfl rfl) rfl rfl (Nat.le_of_ble_eq_true rfl) dX8_strike_14 ⟨Nat.le_of_ble_eq_true rfl, Nat.le_of_ble_eq_true rfl⟩ (gPerm_ix [0] rfl rfl) ?_
  refine g_ialdN (e := 63 + 3 * v + 0) E 0 rfl (by omega) rfl (v := sI (uI S 6 (upd (sI S 6) v (sI S 6 v + 1))) 6 v) (RR_V0 hRR1 (v := v) (by omega)) dX8_strike_17 ?_
  refine g_iconst (v := 3) E dX8_strike_18 (by decide) ?_
  refine g_icmp_ne (tgt := 35) E dX8_strike_19 (by decide) (fun c2 => ?_) (fun c2 => ?_)
  · skip
    exact RET _ _ _ (by rw [← gStrike_1 hst c2]; exact hRR1) dX8_strike_35
  · skip
    refine g_aload_n E dX8_strike_22 rfl 0 rfl ?_
    refine g_iload_n E dX8_strike_23 rfl 1 rfl ?_
    refine g_iconst (v := 0) E dX8_strike_24 (by decide) ?_
    refine g_callSIe (F := [(r, .inl (gy G 0, 271, .inl (upd f (63 + 3 * v + 0) ((sI S 6 v) + 1))))]) (ws2 := [(r, .inl (gy G 0, 271, .inl (upd f (63 + 3 * v + 0) ((sI S 6 v) + 1))))]) E (mX8_visitorAt G v 0 (by omega) (by omega)) gX8_strike_X8_visitorAt rfl hnX8_visitorAt ⟨Nat.le_of_ble_eq_true rfl, Nat.le_of_ble_eq_true rfl⟩ (gPerm_ix [0] rfl rfl) rfl rfl (Nat.le_of_ble_eq_true rfl) dX8_strike_25 ⟨Nat.le_of_ble_eq_true rfl, Nat.le_of_ble_eq_true rfl⟩ (gPerm_ix [0] rfl rfl) ?_
    refine g_iconst (v := 0) E dX8_strike_28 (by decide) ?_
    refine g_iast (ws' := [(r, .inl (gy G 0, 271, .inl (upd (upd f (63 + 3 * v + 0) ((sI S 6 v) + 1)) (63 + 3 * v + 0) 0)))]) (j := 63 + 3 * v + 0) (y := 0) E 0 rfl (g_in (e := 63 + 3 * v + 0) (by omega) rfl) (nI_clamp (n := 63 + 3 * v + 0) (by omega)) rfl rfl dX8_strike_29 ?_
    have hRR3 : RR ((gThird S v).2) (upd (upd f (63 + 3 * v + 0) ((sI S 6 v) + 1)) (63 + 3 * v + 0) 0) := (by rw [← gThird_2 hst c2]; exact RR_uV (w := 0) (x := 0) hRR1 hv (by decide))
    refine g_aload_n E dX8_strike_30 rfl 0 rfl ?_
    refine g_iload_n E dX8_strike_31 rfl 1 rfl ?_
    refine g_callSV (F := []) E (mX8_ban G r ((gThird S v).2) (upd (upd f (63 + 3 * v + 0) ((sI S 6 v) + 1)) (63 + 3 * v + 0) 0) v (gI1_third hI v) (gT_third hT v) hRR3 (by omega)) gX8_strike_X8_ban rfl hnX8_ban ⟨Nat.le_of_ble_eq_true rfl, Nat.le_of_ble_eq_true rfl⟩ (gPerm_ix [0] rfl rfl) rfl rfl (Nat.le_of_ble_eq_true rfl) dX8_strike_32 ⟨Nat.le_of_ble_eq_true rfl, Nat.le_of_ble_eq_true rfl⟩ (fun u4 hU4 => ?_)
    obtain ⟨S4, xE4⟩ : ∃ x, x = gBan ((gThird S v).2) v := ⟨_, rfl⟩
    have hRR4 : RR S4 u4 := by rw [xE4]; exact hU4
    have hI4 : gI1 S4 := by rw [xE4]; exact gI1_ban (gI1_third hI v) _
    have hT4 : sN S4 0 < 1000000000 := by rw [xE4]; exact gT_ban (gT_third hT v) _
    refine g_perm (ws1 := [(r, .inl (gy G 0, 271, .inl u4))]) (gPerm_ix [0] rfl rfl) ?_
    exact RET _ _ _ (by rw [← gStrike_2 hst c2, ← xE4]; exact hRR4) dX8_strike_35
