theorem gCpy_0 (f g : Nat → Int32) (a b : Nat) : va_cpy f g a b 0 = g := by
  funext j
  unfold va_cpy
  rw [if_neg (by omega)]
theorem gCpyD_st {f g : Nat → Int32} {a b k : Nat} : upd (va_cpy f g a b k) (b + k) (f (a + k)) = va_cpy f g a b (k + 1) := by
  funext j
  by_cases c : j = b + k
  · rw [upd_eq c]
    unfold va_cpy
    rw [if_pos (by omega), show a + (j - b) = a + k by omega]
  · rw [upd_ne c]
    unfold va_cpy
    by_cases c2 : b ≤ j ∧ j < b + k
    · rw [if_pos c2, if_pos (by omega)]
    · rw [if_neg c2, if_neg (by omega)]
theorem gCpyS_st {f : Nat → Int32} {a b k m : Nat} (h : b ≤ a ∨ a + m ≤ b) (hk : k < m) : upd (va_cpy f f a b k) (b + k) (va_cpy f f a b k (a + k)) = va_cpy f f a b (k + 1) := by
  have e : va_cpy f f a b k (a + k) = f (a + k) := by
    unfold va_cpy
    rw [if_neg (by omega)]
  rw [e]
  exact gCpyD_st
theorem RR_same {S : gSt} {f : Nat → Int32} {i : Nat} {x : Int32} (h : RR S f) (e : f i = x) : RR S (upd f i x) := by
  have : upd f i x = f := by
    funext j
    by_cases c : j = i
    · rw [upd_eq c, c, e]
    · rw [upd_ne c]
  rw [this]
  exact h
theorem gWb_r0 {x i b : Int32} (h : b = 0) : x &&& (((1 : Int32) <<< (i &&& 31)) ^^^ (-1)) = gWb x i b := by
  unfold gWb
  rw [if_pos h]
theorem gWb_r1 {x i b : Int32} (h : ¬ b = 0) : (x &&& (((1 : Int32) <<< (i &&& 31)) ^^^ (-1))) ||| ((1 : Int32) <<< (i &&& 31)) = gWb x i b := by
  unfold gWb
  rw [if_neg h]
  generalize (1 : Int32) <<< (i &&& 31) = m
  apply Int32.toBitVec_inj.mp
  show (x.toBitVec &&& (m.toBitVec ^^^ (-1 : Int32).toBitVec)) ||| m.toBitVec = x.toBitVec ||| m.toBitVec
  apply BitVec.eq_of_getLsbD_eq
  intro j hj
  have h1 : (-1 : Int32).toBitVec.getLsbD j = true := by
    have : ∀ j : Nat, j < 32 → (-1 : Int32).toBitVec.getLsbD j = true := by decide +kernel
    exact this j hj
  rw [BitVec.getLsbD_or, BitVec.getLsbD_and, BitVec.getLsbD_xor, h1, BitVec.getLsbD_or]
  cases x.toBitVec.getLsbD j <;> cases m.toBitVec.getLsbD j <;> rfl
set_option maxHeartbeats 4000000 in
set_option maxRecDepth 100000 in
theorem mX8_copyA (G : gG) (r : Nat) (f : Nat → Int32) (a b m : Nat) (h1 : a + m ≤ 271) (h2 : b + m ≤ 271) (h3 : b ≤ a ∨ a + m ≤ b) : CVe G yX8_copy wsX8_copy 0 0 [.ref r, .int (nI a), .ref r, .int (nI b), .int (nI m)] [(r, .inl (gy G 0, 271, .inl f))]  [(r, .inl (gy G 0, 271, .inl (va_cpy f f a b m)))] 0 0 := by
  refine g_enterVe RX8 rfl (by decide) rfl (Nat.le_of_ble_eq_true rfl) ?_
  intro V E RET
  refine g_iconst (v := 0) E dX8_copy_0 (by decide) ?_
  refine g_istore (lv' := [(5, .int 0), (0, .ref r), (1, .int (nI a)), (2, .ref r), (3, .int (nI b)), (4, .int (nI m))]) E dX8_copy_1 (by decide) rfl ?_
  have loop1 : ∀ (n2 : Nat) (k : Nat), (k ≤ m) → m - k < n2 → gW V 6 0 0 [(r, .inl (gy G 0, 271, .inl (va_cpy f f a b k)))] [(0, .ref r), (1, .int (nI a)), (2, .ref r), (3, .int (nI b)), (4, .int (nI m)), (5, .int (nI k))] 3 [] := by
    intro n2
    induction n2 with
    | zero => intro k hk hm4; exact absurd hm4 (Nat.not_lt_zero _)
    | succ n2 ih3 =>
      intro k hk hm4
      refine g_iload E dX8_copy_3 5 rfl ?_
      refine g_iload E dX8_copy_5 4 rfl ?_
      refine g_icmp_geN (tgt := 28) (a := k) (b := m) E dX8_copy_7 (by decide) (by omega) (by omega) (fun c5 => ?_) (fun c5 => ?_)
      · skip
        obtain rfl : k = m := by omega
        exact RET _ _ () (trivial) dX8_copy_28
      · skip
        have hkm : k < m := by omega
        refine g_aload_n E dX8_copy_10 rfl 2 rfl ?_
        refine g_iload_n E dX8_copy_11 rfl 3 rfl ?_
        refine g_iload E dX8_copy_12 5 rfl ?_
        refine g_iaddN (a := b) (b := k) E dX8_copy_14 ?_
        refine g_aload_n E dX8_copy_15 rfl 0 rfl ?_
        refine g_iload_n E dX8_copy_16 rfl 1 rfl ?_
        refine g_iload E dX8_copy_17 5 rfl ?_
        refine g_iaddN (a := a) (b := k) E dX8_copy_19 ?_
        refine g_ialdN (e := a + k) E 0 rfl (by omega) rfl (v := (va_cpy f f a b k) (a + k)) rfl dX8_copy_20 ?_
        refine g_iast (ws' := [(r, .inl (gy G 0, 271, .inl (upd (va_cpy f f a b k) (b + k) ((va_cpy f f a b k) (a + k)))))]) (j := b + k) (y := (va_cpy f f a b k) (a + k)) E 0 rfl (g_in (e := b + k) (by omega) rfl) (nI_clamp (n := b + k) (by omega)) rfl rfl dX8_copy_21 ?_
        refine g_ws (ws' := [(r, .inl (gy G 0, 271, .inl (va_cpy f f a b (k + 1))))]) (by rw [gCpyS_st h3 hkm]) ?_
        refine g_iinc (lv' := [(5, .int (nI (k + 1))), (0, .ref r), (1, .int (nI a)), (2, .ref r), (3, .int (nI b)), (4, .int (nI m))]) E dX8_copy_22 5 rfl (g_inc _ 1 (by decide)) (by decide) rfl ?_
        refine g_goto (tgt := 3) E dX8_copy_25 (by decide) ?_
        refine g_lv [1, 2, 3, 4, 5, 0] rfl ?_
        exact ih3  (k + 1) (by omega) (by omega)
  refine g_ws (ws' := [(r, .inl (gy G 0, 271, .inl (va_cpy f f a b 0)))]) (by rw [gCpy_0]) ?_
  refine g_lv [1, 2, 3, 4, 5, 0] rfl ?_
  exact loop1 _ 0 (Nat.zero_le _) (Nat.lt_succ_self _)

set_option maxHeartbeats 4000000 in
set_option maxRecDepth 100000 in
theorem mX8_copyB (G : gG) (r : Nat) (t : Nat) (f g : Nat → Int32) (a b m : Nat) (h1 : a + m ≤ 271) (h2 : b + m ≤ 271) : CVe G yX8_copy wsX8_copy 0 0 [.ref r, .int (nI a), .ref t, .int (nI b), .int (nI m)] [(r, .inl (gy G 0, 271, .inl f)), (t, .inl (gy G 0, 271, .inl g))]  [(r, .inl (gy G 0, 271, .inl f)), (t, .inl (gy G 0, 271, .inl (va_cpy f g a b m)))] 0 0 := by
  refine g_enterVe RX8 rfl (by decide) rfl (Nat.le_of_ble_eq_true rfl) ?_
  intro V E RET
  refine g_iconst (v := 0) E dX8_copy_0 (by decide) ?_
  refine g_istore (lv' := [(5, .int 0), (0, .ref r), (1, .int (nI a)), (2, .ref t), (3, .int (nI b)), (4, .int (nI m))]) E dX8_copy_1 (by decide) rfl ?_
  have loop1 : ∀ (n2 : Nat) (k : Nat), (k ≤ m) → m - k < n2 → gW V 6 0 0 [(r, .inl (gy G 0, 271, .inl f)), (t, .inl (gy G 0, 271, .inl (va_cpy f g a b k)))] [(0, .ref r), (1, .int (nI a)), (2, .ref t), (3, .int (nI b)), (4, .int (nI m)), (5, .int (nI k))] 3 [] := by
    intro n2
    induction n2 with
    | zero => intro k hk hm4; exact absurd hm4 (Nat.not_lt_zero _)
    | succ n2 ih3 =>
      intro k hk hm4
      refine g_iload E dX8_copy_3 5 rfl ?_
      refine g_iload E dX8_copy_5 4 rfl ?_
      refine g_icmp_geN (tgt := 28) (a := k) (b := m) E dX8_copy_7 (by decide) (by omega) (by omega) (fun c5 => ?_) (fun c5 => ?_)
      · skip
        obtain rfl : k = m := by omega
        exact RET _ _ () (trivial) dX8_copy_28
      · skip
        have hkm : k < m := by omega
        refine g_aload_n E dX8_copy_10 rfl 2 rfl ?_
        refine g_iload_n E dX8_copy_11 rfl 3 rfl ?_
        refine g_iload E dX8_copy_12 5 rfl ?_
        refine g_iaddN (a := b) (b := k) E dX8_copy_14 ?_
        refine g_aload_n E dX8_copy_15 rfl 0 rfl ?_
        refine g_iload_n E dX8_copy_16 rfl 1 rfl ?_
        refine g_iload E dX8_copy_17 5 rfl ?_
        refine g_iaddN (a := a) (b := k) E dX8_copy_19 ?_
        refine g_ialdN (e := a + k) E 0 rfl (by omega) rfl (v := f (a + k)) rfl dX8_copy_20 ?_
        refine g_iast (ws' := [(r, .inl (gy G 0, 271, .inl f)), (t, .inl (gy G 0, 271, .inl (upd (va_cpy f g a b k) (b + k) (f (a + k)))))]) (j := b + k) (y := f (a + k)) E 1 rfl (g_in (e := b + k) (by omega) rfl) (nI_clamp (n := b + k) (by omega)) rfl rfl dX8_copy_21 ?_
        refine g_ws (ws' := [(r, .inl (gy G 0, 271, .inl f)), (t, .inl (gy G 0, 271, .inl (va_cpy f g a b (k + 1))))]) (by rw [gCpyD_st]) ?_
        refine g_iinc (lv' := [(5, .int (nI (k + 1))), (0, .ref r), (1, .int (nI a)), (2, .ref t), (3, .int (nI b)), (4, .int (nI m))]) E dX8_copy_22 5 rfl (g_inc _ 1 (by decide)) (by decide) rfl ?_
        refine g_goto (tgt := 3) E dX8_copy_25 (by decide) ?_
        refine g_lv [1, 2, 3, 4, 5, 0] rfl ?_
        exact ih3  (k + 1) (by omega) (by omega)
  refine g_ws (ws' := [(r, .inl (gy G 0, 271, .inl f)), (t, .inl (gy G 0, 271, .inl (va_cpy f g a b 0)))]) (by rw [gCpy_0]) ?_
  refine g_lv [1, 2, 3, 4, 5, 0] rfl ?_
  exact loop1 _ 0 (Nat.zero_le _) (Nat.lt_succ_self _)

set_option maxHeartbeats 4000000 in
set_option maxRecDepth 100000 in
theorem mX8_copyC (G : gG) (r : Nat) (t : Nat) (f g : Nat → Int32) (a b m : Nat) (h1 : a + m ≤ 271) (h2 : b + m ≤ 3794) : CVe G yX8_copy wsX8_copy 0 0 [.ref r, .int (nI a), .ref t, .int (nI b), .int (nI m)] [(r, .inl (gy G 0, 271, .inl f)), (t, .inl (gy G 0, 3794, .inl g))]  [(r, .inl (gy G 0, 271, .inl f)), (t, .inl (gy G 0, 3794, .inl (va_cpy f g a b m)))] 0 0 := by
  refine g_enterVe RX8 rfl (by decide) rfl (Nat.le_of_ble_eq_true rfl) ?_
  intro V E RET
  refine g_iconst (v := 0) E dX8_copy_0 (by decide) ?_
  refine g_istore (lv' := [(5, .int 0), (0, .ref r), (1, .int (nI a)), (2, .ref t), (3, .int (nI b)), (4, .int (nI m))]) E dX8_copy_1 (by decide) rfl ?_
  have loop1 : ∀ (n2 : Nat) (k : Nat), (k ≤ m) → m - k < n2 → gW V 6 0 0 [(r, .inl (gy G 0, 271, .inl f)), (t, .inl (gy G 0, 3794, .inl (va_cpy f g a b k)))] [(0, .ref r), (1, .int (nI a)), (2, .ref t), (3, .int (nI b)), (4, .int (nI m)), (5, .int (nI k))] 3 [] := by
    intro n2
    induction n2 with
    | zero => intro k hk hm4; exact absurd hm4 (Nat.not_lt_zero _)
    | succ n2 ih3 =>
      intro k hk hm4
      refine g_iload E dX8_copy_3 5 rfl ?_
      refine g_iload E dX8_copy_5 4 rfl ?_
      refine g_icmp_geN (tgt := 28) (a := k) (b := m) E dX8_copy_7 (by decide) (by omega) (by omega) (fun c5 => ?_) (fun c5 => ?_)
      · skip
        obtain rfl : k = m := by omega
        exact RET _ _ () (trivial) dX8_copy_28
      · skip
        have hkm : k < m := by omega
        refine g_aload_n E dX8_copy_10 rfl 2 rfl ?_
        refine g_iload_n E dX8_copy_11 rfl 3 rfl ?_
        refine g_iload E dX8_copy_12 5 rfl ?_
        refine g_iaddN (a := b) (b := k) E dX8_copy_14 ?_
        refine g_aload_n E dX8_copy_15 rfl 0 rfl ?_
        refine g_iload_n E dX8_copy_16 rfl 1 rfl ?_
        refine g_iload E dX8_copy_17 5 rfl ?_
        refine g_iaddN (a := a) (b := k) E dX8_copy_19 ?_
        refine g_ialdN (e := a + k) E 0 rfl (by omega) rfl (v := f (a + k)) rfl dX8_copy_20 ?_
        refine g_iast (ws' := [(r, .inl (gy G 0, 271, .inl f)), (t, .inl (gy G 0, 3794, .inl (upd (va_cpy f g a b k) (b + k) (f (a + k)))))]) (j := b + k) (y := f (a + k)) E 1 rfl (g_in (e := b + k) (by omega) rfl) (nI_clamp (n := b + k) (by omega)) rfl rfl dX8_copy_21 ?_
        refine g_ws (ws' := [(r, .inl (gy G 0, 271, .inl f)), (t, .inl (gy G 0, 3794, .inl (va_cpy f g a b (k + 1))))]) (by rw [gCpyD_st]) ?_
        refine g_iinc (lv' := [(5, .int (nI (k + 1))), (0, .ref r), (1, .int (nI a)), (2, .ref t), (3, .int (nI b)), (4, .int (nI m))]) E dX8_copy_22 5 rfl (g_inc _ 1 (by decide)) (by decide) rfl ?_
        refine g_goto (tgt := 3) E dX8_copy_25 (by decide) ?_
        refine g_lv [1, 2, 3, 4, 5, 0] rfl ?_
        exact ih3  (k + 1) (by omega) (by omega)
  refine g_ws (ws' := [(r, .inl (gy G 0, 271, .inl f)), (t, .inl (gy G 0, 3794, .inl (va_cpy f g a b 0)))]) (by rw [gCpy_0]) ?_
  refine g_lv [1, 2, 3, 4, 5, 0] rfl ?_
  exact loop1 _ 0 (Nat.zero_le _) (Nat.lt_succ_self _)

set_option maxHeartbeats 4000000 in
set_option maxRecDepth 100000 in
theorem mX8_copyD (G : gG) (r : Nat) (f : Nat → Int32) (a b m : Nat) (h1 : a + m ≤ 3794) (h2 : b + m ≤ 3794) (h3 : b ≤ a ∨ a + m ≤ b) : CVe G yX8_copy wsX8_copy 0 0 [.ref r, .int (nI a), .ref r, .int (nI b), .int (nI m)] [(r, .inl (gy G 0, 3794, .inl f))]  [(r, .inl (gy G 0, 3794, .inl (va_cpy f f a b m)))] 0 0 := by
  refine g_enterVe RX8 rfl (by decide) rfl (Nat.le_of_ble_eq_true rfl) ?_
  intro V E RET
  refine g_iconst (v := 0) E dX8_copy_0 (by decide) ?_
  refine g_istore (lv' := [(5, .int 0), (0, .ref r), (1, .int (nI a)), (2, .ref r), (3, .int (nI b)), (4, .int (nI m))]) E dX8_copy_1 (by decide) rfl ?_
  have loop1 : ∀ (n2 : Nat) (k : Nat), (k ≤ m) → m - k < n2 → gW V 6 0 0 [(r, .inl (gy G 0, 3794, .inl (va_cpy f f a b k)))] [(0, .ref r), (1, .int (nI a)), (2, .ref r), (3, .int (nI b)), (4, .int (nI m)), (5, .int (nI k))] 3 [] := by
    intro n2
    induction n2 with
    | zero => intro k hk hm4; exact absurd hm4 (Nat.not_lt_zero _)
    | succ n2 ih3 =>
      intro k hk hm4
      refine g_iload E dX8_copy_3 5 rfl ?_
      refine g_iload E dX8_copy_5 4 rfl ?_
      refine g_icmp_geN (tgt := 28) (a := k) (b := m) E dX8_copy_7 (by decide) (by omega) (by omega) (fun c5 => ?_) (fun c5 => ?_)
      · skip
        obtain rfl : k = m := by omega
        exact RET _ _ () (trivial) dX8_copy_28
      · skip
        have hkm : k < m := by omega
        refine g_aload_n E dX8_copy_10 rfl 2 rfl ?_
        refine g_iload_n E dX8_copy_11 rfl 3 rfl ?_
        refine g_iload E dX8_copy_12 5 rfl ?_
        refine g_iaddN (a := b) (b := k) E dX8_copy_14 ?_
        refine g_aload_n E dX8_copy_15 rfl 0 rfl ?_
        refine g_iload_n E dX8_copy_16 rfl 1 rfl ?_
        refine g_iload E dX8_copy_17 5 rfl ?_
        refine g_iaddN (a := a) (b := k) E dX8_copy_19 ?_
        refine g_ialdN (e := a + k) E 0 rfl (by omega) rfl (v := (va_cpy f f a b k) (a + k)) rfl dX8_copy_20 ?_
        refine g_iast (ws' := [(r, .inl (gy G 0, 3794, .inl (upd (va_cpy f f a b k) (b + k) ((va_cpy f f a b k) (a + k)))))]) (j := b + k) (y := (va_cpy f f a b k) (a + k)) E 0 rfl (g_in (e := b + k) (by omega) rfl) (nI_clamp (n := b + k) (by omega)) rfl rfl dX8_copy_21 ?_
        refine g_ws (ws' := [(r, .inl (gy G 0, 3794, .inl (va_cpy f f a b (k + 1))))]) (by rw [gCpyS_st h3 hkm]) ?_
        refine g_iinc (lv' := [(5, .int (nI (k + 1))), (0, .ref r), (1, .int (nI a)), (2, .ref r), (3, .int (nI b)), (4, .int (nI m))]) E dX8_copy_22 5 rfl (g_inc _ 1 (by decide)) (by decide) rfl ?_
        refine g_goto (tgt := 3) E dX8_copy_25 (by decide) ?_
        refine g_lv [1, 2, 3, 4, 5, 0] rfl ?_
        exact ih3  (k + 1) (by omega) (by omega)
  refine g_ws (ws' := [(r, .inl (gy G 0, 3794, .inl (va_cpy f f a b 0)))]) (by rw [gCpy_0]) ?_
  refine g_lv [1, 2, 3, 4, 5, 0] rfl ?_
  exact loop1 _ 0 (Nat.zero_le _) (Nat.lt_succ_self _)

set_option maxHeartbeats 4000000 in
set_option maxRecDepth 100000 in
theorem mX8_copyE (G : gG) (r : Nat) (t : Nat) (f g : Nat → Int32) (a b m : Nat) (h1 : a + m ≤ 3794) (h2 : b + m ≤ 271) : CVe G yX8_copy wsX8_copy 0 0 [.ref r, .int (nI a), .ref t, .int (nI b), .int (nI m)] [(r, .inl (gy G 0, 3794, .inl f)), (t, .inl (gy G 0, 271, .inl g))]  [(r, .inl (gy G 0, 3794, .inl f)), (t, .inl (gy G 0, 271, .inl (va_cpy f g a b m)))] 0 0 := by
  refine g_enterVe RX8 rfl (by decide) rfl (Nat.le_of_ble_eq_true rfl) ?_
  intro V E RET
  refine g_iconst (v := 0) E dX8_copy_0 (by decide) ?_
  refine g_istore (lv' := [(5, .int 0), (0, .ref r), (1, .int (nI a)), (2, .ref t), (3, .int (nI b)), (4, .int (nI m))]) E dX8_copy_1 (by decide) rfl ?_
  have loop1 : ∀ (n2 : Nat) (k : Nat), (k ≤ m) → m - k < n2 → gW V 6 0 0 [(r, .inl (gy G 0, 3794, .inl f)), (t, .inl (gy G 0, 271, .inl (va_cpy f g a b k)))] [(0, .ref r), (1, .int (nI a)), (2, .ref t), (3, .int (nI b)), (4, .int (nI m)), (5, .int (nI k))] 3 [] := by
    intro n2
    induction n2 with
    | zero => intro k hk hm4; exact absurd hm4 (Nat.not_lt_zero _)
    | succ n2 ih3 =>
      intro k hk hm4
      refine g_iload E dX8_copy_3 5 rfl ?_
      refine g_iload E dX8_copy_5 4 rfl ?_
      refine g_icmp_geN (tgt := 28) (a := k) (b := m) E dX8_copy_7 (by decide) (by omega) (by omega) (fun c5 => ?_) (fun c5 => ?_)
      · skip
        obtain rfl : k = m := by omega
        exact RET _ _ () (trivial) dX8_copy_28
      · skip
        have hkm : k < m := by omega
        refine g_aload_n E dX8_copy_10 rfl 2 rfl ?_
        refine g_iload_n E dX8_copy_11 rfl 3 rfl ?_
        refine g_iload E dX8_copy_12 5 rfl ?_
        refine g_iaddN (a := b) (b := k) E dX8_copy_14 ?_
        refine g_aload_n E dX8_copy_15 rfl 0 rfl ?_
        refine g_iload_n E dX8_copy_16 rfl 1 rfl ?_
        refine g_iload E dX8_copy_17 5 rfl ?_
        refine g_iaddN (a := a) (b := k) E dX8_copy_19 ?_
        refine g_ialdN (e := a + k) E 0 rfl (by omega) rfl (v := f (a + k)) rfl dX8_copy_20 ?_
        refine g_iast (ws' := [(r, .inl (gy G 0, 3794, .inl f)), (t, .inl (gy G 0, 271, .inl (upd (va_cpy f g a b k) (b + k) (f (a + k)))))]) (j := b + k) (y := f (a + k)) E 1 rfl (g_in (e := b + k) (by omega) rfl) (nI_clamp (n := b + k) (by omega)) rfl rfl dX8_copy_21 ?_
        refine g_ws (ws' := [(r, .inl (gy G 0, 3794, .inl f)), (t, .inl (gy G 0, 271, .inl (va_cpy f g a b (k + 1))))]) (by rw [gCpyD_st]) ?_
        refine g_iinc (lv' := [(5, .int (nI (k + 1))), (0, .ref r), (1, .int (nI a)), (2, .ref t), (3, .int (nI b)), (4, .int (nI m))]) E dX8_copy_22 5 rfl (g_inc _ 1 (by decide)) (by decide) rfl ?_
        refine g_goto (tgt := 3) E dX8_copy_25 (by decide) ?_
        refine g_lv [1, 2, 3, 4, 5, 0] rfl ?_
        exact ih3  (k + 1) (by omega) (by omega)
  refine g_ws (ws' := [(r, .inl (gy G 0, 3794, .inl f)), (t, .inl (gy G 0, 271, .inl (va_cpy f g a b 0)))]) (by rw [gCpy_0]) ?_
  refine g_lv [1, 2, 3, 4, 5, 0] rfl ?_
  exact loop1 _ 0 (Nat.zero_le _) (Nat.lt_succ_self _)

set_option maxHeartbeats 4000000 in
set_option maxRecDepth 100000 in
theorem mX8_copyF (G : gG) (r : Nat) (t : Nat) (f g : Nat → Int32) (a b m : Nat) (h1 : a + m ≤ 271) (h2 : b + m ≤ 542) : CVe G yX8_copy wsX8_copy 0 0 [.ref r, .int (nI a), .ref t, .int (nI b), .int (nI m)] [(r, .inl (gy G 0, 271, .inl f)), (t, .inl (gy G 0, 542, .inl g))]  [(r, .inl (gy G 0, 271, .inl f)), (t, .inl (gy G 0, 542, .inl (va_cpy f g a b m)))] 0 0 := by
  refine g_enterVe RX8 rfl (by decide) rfl (Nat.le_of_ble_eq_true rfl) ?_
  intro V E RET
  refine g_iconst (v := 0) E dX8_copy_0 (by decide) ?_
  refine g_istore (lv' := [(5, .int 0), (0, .ref r), (1, .int (nI a)), (2, .ref t), (3, .int (nI b)), (4, .int (nI m))]) E dX8_copy_1 (by decide) rfl ?_
  have loop1 : ∀ (n2 : Nat) (k : Nat), (k ≤ m) → m - k < n2 → gW V 6 0 0 [(r, .inl (gy G 0, 271, .inl f)), (t, .inl (gy G 0, 542, .inl (va_cpy f g a b k)))] [(0, .ref r), (1, .int (nI a)), (2, .ref t), (3, .int (nI b)), (4, .int (nI m)), (5, .int (nI k))] 3 [] := by
    intro n2
    induction n2 with
    | zero => intro k hk hm4; exact absurd hm4 (Nat.not_lt_zero _)
    | succ n2 ih3 =>
      intro k hk hm4
      refine g_iload E dX8_copy_3 5 rfl ?_
      refine g_iload E dX8_copy_5 4 rfl ?_
      refine g_icmp_geN (tgt := 28) (a := k) (b := m) E dX8_copy_7 (by decide) (by omega) (by omega) (fun c5 => ?_) (fun c5 => ?_)
      · skip
        obtain rfl : k = m := by omega
        exact RET _ _ () (trivial) dX8_copy_28
      · skip
        have hkm : k < m := by omega
        refine g_aload_n E dX8_copy_10 rfl 2 rfl ?_
        refine g_iload_n E dX8_copy_11 rfl 3 rfl ?_
        refine g_iload E dX8_copy_12 5 rfl ?_
        refine g_iaddN (a := b) (b := k) E dX8_copy_14 ?_
        refine g_aload_n E dX8_copy_15 rfl 0 rfl ?_
        refine g_iload_n E dX8_copy_16 rfl 1 rfl ?_
        refine g_iload E dX8_copy_17 5 rfl ?_
        refine g_iaddN (a := a) (b := k) E dX8_copy_19 ?_
        refine g_ialdN (e := a + k) E 0 rfl (by omega) rfl (v := f (a + k)) rfl dX8_copy_20 ?_
        refine g_iast (ws' := [(r, .inl (gy G 0, 271, .inl f)), (t, .inl (gy G 0, 542, .inl (upd (va_cpy f g a b k) (b + k) (f (a + k)))))]) (j := b + k) (y := f (a + k)) E 1 rfl (g_in (e := b + k) (by omega) rfl) (nI_clamp (n := b + k) (by omega)) rfl rfl dX8_copy_21 ?_
        refine g_ws (ws' := [(r, .inl (gy G 0, 271, .inl f)), (t, .inl (gy G 0, 542, .inl (va_cpy f g a b (k + 1))))]) (by rw [gCpyD_st]) ?_
        refine g_iinc (lv' := [(5, .int (nI (k + 1))), (0, .ref r), (1, .int (nI a)), (2, .ref t), (3, .int (nI b)), (4, .int (nI m))]) E dX8_copy_22 5 rfl (g_inc _ 1 (by decide)) (by decide) rfl ?_
        refine g_goto (tgt := 3) E dX8_copy_25 (by decide) ?_
        refine g_lv [1, 2, 3, 4, 5, 0] rfl ?_
        exact ih3  (k + 1) (by omega) (by omega)
  refine g_ws (ws' := [(r, .inl (gy G 0, 271, .inl f)), (t, .inl (gy G 0, 542, .inl (va_cpy f g a b 0)))]) (by rw [gCpy_0]) ?_
  refine g_lv [1, 2, 3, 4, 5, 0] rfl ?_
  exact loop1 _ 0 (Nat.zero_le _) (Nat.lt_succ_self _)

set_option maxHeartbeats 4000000 in
set_option maxRecDepth 100000 in
theorem mX8_copyG (G : gG) (r : Nat) (t : Nat) (f g : Nat → Int32) (a b m : Nat) (h1 : a + m ≤ 542) (h2 : b + m ≤ 271) : CVe G yX8_copy wsX8_copy 0 0 [.ref r, .int (nI a), .ref t, .int (nI b), .int (nI m)] [(r, .inl (gy G 0, 542, .inl f)), (t, .inl (gy G 0, 271, .inl g))]  [(r, .inl (gy G 0, 542, .inl f)), (t, .inl (gy G 0, 271, .inl (va_cpy f g a b m)))] 0 0 := by
  refine g_enterVe RX8 rfl (by decide) rfl (Nat.le_of_ble_eq_true rfl) ?_
  intro V E RET
  refine g_iconst (v := 0) E dX8_copy_0 (by decide) ?_
  refine g_istore (lv' := [(5, .int 0), (0, .ref r), (1, .int (nI a)), (2, .ref t), (3, .int (nI b)), (4, .int (nI m))]) E dX8_copy_1 (by decide) rfl ?_
  have loop1 : ∀ (n2 : Nat) (k : Nat), (k ≤ m) → m - k < n2 → gW V 6 0 0 [(r, .inl (gy G 0, 542, .inl f)), (t, .inl (gy G 0, 271, .inl (va_cpy f g a b k)))] [(0, .ref r), (1, .int (nI a)), (2, .ref t), (3, .int (nI b)), (4, .int (nI m)), (5, .int (nI k))] 3 [] := by
    intro n2
    induction n2 with
    | zero => intro k hk hm4; exact absurd hm4 (Nat.not_lt_zero _)
    | succ n2 ih3 =>
      intro k hk hm4
      refine g_iload E dX8_copy_3 5 rfl ?_
      refine g_iload E dX8_copy_5 4 rfl ?_
      refine g_icmp_geN (tgt := 28) (a := k) (b := m) E dX8_copy_7 (by decide) (by omega) (by omega) (fun c5 => ?_) (fun c5 => ?_)
      · skip
        obtain rfl : k = m := by omega
        exact RET _ _ () (trivial) dX8_copy_28
      · skip
        have hkm : k < m := by omega
        refine g_aload_n E dX8_copy_10 rfl 2 rfl ?_
        refine g_iload_n E dX8_copy_11 rfl 3 rfl ?_
        refine g_iload E dX8_copy_12 5 rfl ?_
        refine g_iaddN (a := b) (b := k) E dX8_copy_14 ?_
        refine g_aload_n E dX8_copy_15 rfl 0 rfl ?_
        refine g_iload_n E dX8_copy_16 rfl 1 rfl ?_
        refine g_iload E dX8_copy_17 5 rfl ?_
        refine g_iaddN (a := a) (b := k) E dX8_copy_19 ?_
        refine g_ialdN (e := a + k) E 0 rfl (by omega) rfl (v := f (a + k)) rfl dX8_copy_20 ?_
        refine g_iast (ws' := [(r, .inl (gy G 0, 542, .inl f)), (t, .inl (gy G 0, 271, .inl (upd (va_cpy f g a b k) (b + k) (f (a + k)))))]) (j := b + k) (y := f (a + k)) E 1 rfl (g_in (e := b + k) (by omega) rfl) (nI_clamp (n := b + k) (by omega)) rfl rfl dX8_copy_21 ?_
        refine g_ws (ws' := [(r, .inl (gy G 0, 542, .inl f)), (t, .inl (gy G 0, 271, .inl (va_cpy f g a b (k + 1))))]) (by rw [gCpyD_st]) ?_
        refine g_iinc (lv' := [(5, .int (nI (k + 1))), (0, .ref r), (1, .int (nI a)), (2, .ref t), (3, .int (nI b)), (4, .int (nI m))]) E dX8_copy_22 5 rfl (g_inc _ 1 (by decide)) (by decide) rfl ?_
        refine g_goto (tgt := 3) E dX8_copy_25 (by decide) ?_
        refine g_lv [1, 2, 3, 4, 5, 0] rfl ?_
        exact ih3  (k + 1) (by omega) (by omega)
  refine g_ws (ws' := [(r, .inl (gy G 0, 542, .inl f)), (t, .inl (gy G 0, 271, .inl (va_cpy f g a b 0)))]) (by rw [gCpy_0]) ?_
  refine g_lv [1, 2, 3, 4, 5, 0] rfl ?_
  exact loop1 _ 0 (Nat.zero_le _) (Nat.lt_succ_self _)

set_option maxHeartbeats 4000000 in
set_option maxRecDepth 100000 in
theorem mX8_punishIn (G : gG) (r : Nat) (S : gSt) (f : Nat → Int32) (p : Nat) (n : Int32) (hI : gI1 S) (hT : sN S 0 < 1000000000) (hRR : RR S f) (hp : p < 8) : CIu G yX8_punishIn wsX8_punishIn 1 21 [.ref r, .int (nI p), .int n] [(r, .inl (gy G 0, 271, .inl f))] (sI S 2 p) (fun u : Nat → Int32 => RR (uI S 2 (upd (sI S 2) p (nI (sN S 0) + n))) u) (fun (u : Nat → Int32) => [(r, .inl (gy G 0, 271, .inl u))]) 0 0 := by
  refine g_enterIu (ty := .int) RX8 rfl (by decide) rfl (Nat.le_of_ble_eq_true rfl) ?_
  intro V E RET
  have hX := hI
  obtain ⟨hP8, hn, hw, hW8, hs3, hs4, hs5, hs6, hs7, hs8, hb34⟩ := hX
  refine g_aload_n E dX8_punishIn_0 rfl 0 rfl ?_
  refine g_iload_n E dX8_punishIn_1 rfl 1 rfl ?_
  refine g_iconst (v := 2) E dX8_punishIn_2 (by decide) ?_
  refine g_callSIe (F := [(r, .inl (gy G 0, 271, .inl f))]) (ws2 := [(r, .inl (gy G 0, 271, .inl f))]) E (mX8_prisonerAt G p 2 (by omega) (by omega)) gX8_punishIn_X8_prisonerAt rfl hnX8_prisonerAt ⟨Nat.le_of_ble_eq_true rfl, Nat.le_of_ble_eq_true rfl⟩ (gPerm_ix [0] rfl rfl) rfl rfl (Nat.le_of_ble_eq_true rfl) dX8_punishIn_3 ⟨Nat.le_of_ble_eq_true rfl, Nat.le_of_ble_eq_true rfl⟩ (gPerm_ix [0] rfl rfl) ?_
  refine g_ialdN (e := 15 + 6 * p + 2) E 0 rfl (by omega) rfl (v := sI S 2 p) (RR_P hRR (p := p) (w := 2) (by omega) (by omega)) dX8_punishIn_6 ?_
  refine g_istore_n (lv' := [(3, .int (sI S 2 p)), (0, .ref r), (1, .int (nI p)), (2, .int n)]) E dX8_punishIn_7 rfl (by decide) rfl ?_
  refine g_aload_n E dX8_punishIn_8 rfl 1 rfl ?_
  refine g_iload_n E dX8_punishIn_9 rfl 2 rfl ?_
  refine g_iconst (v := 2) E dX8_punishIn_10 (by decide) ?_
  refine g_callSIe (F := [(r, .inl (gy G 0, 271, .inl f))]) (ws2 := [(r, .inl (gy G 0, 271, .inl f))]) E (mX8_prisonerAt G p 2 (by omega) (by omega)) gX8_punishIn_X8_prisonerAt rfl hnX8_prisonerAt ⟨Nat.le_of_ble_eq_true rfl, Nat.le_of_ble_eq_true rfl⟩ (gPerm_ix [0] rfl rfl) rfl rfl (Nat.le_of_ble_eq_true rfl) dX8_punishIn_11 ⟨Nat.le_of_ble_eq_true rfl, Nat.le_of_ble_eq_true rfl⟩ (gPerm_ix [0] rfl rfl) ?_
  refine g_aload_n E dX8_punishIn_14 rfl 1 rfl ?_
  refine g_iconst (v := 0) E dX8_punishIn_15 (by decide) ?_
  refine g_ialdN (e := 0) E 0 rfl (by omega) rfl (v := nI (sN S 0)) (RR_0 hRR) dX8_punishIn_16 ?_
  refine g_iload_n E dX8_punishIn_17 rfl 3 rfl ?_
  refine g_iadd E dX8_punishIn_18 ?_
  refine g_iast (ws' := [(r, .inl (gy G 0, 271, .inl (upd f (15 + 6 * p + 2) ((nI (sN S 0)) + n))))]) (j := 15 + 6 * p + 2) (y := (nI (sN S 0)) + n) E 0 rfl (g_in (e := 15 + 6 * p + 2) (by omega) rfl) (nI_clamp (n := 15 + 6 * p + 2) (by omega)) rfl rfl dX8_punishIn_19 ?_
  have hRR1 : RR (uI S 2 (upd (sI S 2) p (nI (sN S 0) + n))) (upd f (15 + 6 * p + 2) ((nI (sN S 0)) + n)) := RR_uP hRR hp (by decide)
  refine g_iload_n E dX8_punishIn_20 rfl 0 rfl ?_
  exact RET _ _ _ _ (⟨rfl, hRR1⟩) rfl dX8_punishIn_21

set_option maxHeartbeats 4000000 in
set_option maxRecDepth 100000 in
theorem mX8_listIn (G : gG) (r : Nat) (S : gSt) (f : Nat → Int32) (p v : Nat) (b : Int32) (hI : gI1 S) (hT : sN S 0 < 1000000000) (hRR : RR S f) (hp : p < 8) (hv : v < 10) : CIu G yX8_listIn wsX8_listIn 1 21 [.ref r, .int (nI p), .int (nI v), .int b] [(r, .inl (gy G 0, 271, .inl f))] (gWb (sI S 1 p) (nI v) b) (fun u : Nat → Int32 => RR (uI S 1 (upd (sI S 1) p (gWb (sI S 1 p) (nI v) b))) u) (fun (u : Nat → Int32) => [(r, .inl (gy G 0, 271, .inl u))]) 0 0 := by
  refine g_enterIu (ty := .int) RX8 rfl (by decide) rfl (Nat.le_of_ble_eq_true rfl) ?_
  intro V E RET
  have hX := hI
  obtain ⟨hP8, hn, hw, hW8, hs3, hs4, hs5, hs6, hs7, hs8, hb34⟩ := hX
  refine g_aload_n E dX8_listIn_0 rfl 0 rfl ?_
  refine g_iload_n E dX8_listIn_1 rfl 1 rfl ?_
  refine g_iconst (v := 1) E dX8_listIn_2 (by decide) ?_
  refine g_callSIe (F := [(r, .inl (gy G 0, 271, .inl f))]) (ws2 := [(r, .inl (gy G 0, 271, .inl f))]) E (mX8_prisonerAt G p 1 (by omega) (by omega)) gX8_listIn_X8_prisonerAt rfl hnX8_prisonerAt ⟨Nat.le_of_ble_eq_true rfl, Nat.le_of_ble_eq_true rfl⟩ (gPerm_ix [0] rfl rfl) rfl rfl (Nat.le_of_ble_eq_true rfl) dX8_listIn_3 ⟨Nat.le_of_ble_eq_true rfl, Nat.le_of_ble_eq_true rfl⟩ (gPerm_ix [0] rfl rfl) ?_
  refine g_ialdN (e := 15 + 6 * p + 1) E 0 rfl (by omega) rfl (v := sI S 1 p) (RR_P hRR (p := p) (w := 1) (by omega) (by omega)) dX8_listIn_6 ?_
  refine g_iconst (v := 1) E dX8_listIn_7 (by decide) ?_
  refine g_iload_n E dX8_listIn_8 rfl 2 rfl ?_
  refine g_ishl E dX8_listIn_9 ?_
  refine g_iconst (v := (-1)) E dX8_listIn_10 (by decide) ?_
  refine g_ixor E dX8_listIn_11 ?_
  refine g_iand E dX8_listIn_12 ?_
  refine g_istore (lv' := [(4, .int ((sI S 1 p) &&& ((1 <<< (nI v &&& 31)) ^^^ (-1)))), (0, .ref r), (1, .int (nI p)), (2, .int (nI v)), (3, .int b)]) E dX8_listIn_13 (by decide) rfl ?_
  refine g_aload_n E dX8_listIn_15 rfl 1 rfl ?_
  refine g_iload_n E dX8_listIn_16 rfl 2 rfl ?_
  refine g_iconst (v := 1) E dX8_listIn_17 (by decide) ?_
  refine g_callSIe (F := [(r, .inl (gy G 0, 271, .inl f))]) (ws2 := [(r, .inl (gy G 0, 271, .inl f))]) E (mX8_prisonerAt G p 1 (by omega) (by omega)) gX8_listIn_X8_prisonerAt rfl hnX8_prisonerAt ⟨Nat.le_of_ble_eq_true rfl, Nat.le_of_ble_eq_true rfl⟩ (gPerm_ix [0] rfl rfl) rfl rfl (Nat.le_of_ble_eq_true rfl) dX8_listIn_18 ⟨Nat.le_of_ble_eq_true rfl, Nat.le_of_ble_eq_true rfl⟩ (gPerm_ix [0] rfl rfl) ?_
  refine g_iload_n E dX8_listIn_21 rfl 4 rfl ?_
  refine g_if_eq (tgt := 34) E dX8_listIn_22 (by decide) (fun c1 => ?_) (fun c1 => ?_)
  · skip
    refine g_iload E dX8_listIn_34 0 rfl ?_
    refine g_top (y := gWb (sI S 1 p) (nI v) b) (gWb_r0 c1) ?_
    refine g_iast (ws' := [(r, .inl (gy G 0, 271, .inl (upd f (15 + 6 * p + 1) (gWb (sI S 1 p) (nI v) b))))]) (j := 15 + 6 * p + 1) (y := gWb (sI S 1 p) (nI v) b) E 0 rfl (g_in (e := 15 + 6 * p + 1) (by omega) rfl) (nI_clamp (n := 15 + 6 * p + 1) (by omega)) rfl rfl dX8_listIn_36 ?_
    have hRR2 : RR (uI S 1 (upd (sI S 1) p (gWb (sI S 1 p) (nI v) b))) (upd f (15 + 6 * p + 1) (gWb (sI S 1 p) (nI v) b)) := RR_uP hRR hp (by decide)
    refine g_aload_n E dX8_listIn_37 rfl 1 rfl ?_
    refine g_iload_n E dX8_listIn_38 rfl 2 rfl ?_
    refine g_iconst (v := 1) E dX8_listIn_39 (by decide) ?_
    refine g_callSIe (F := [(r, .inl (gy G 0, 271, .inl (upd f (15 + 6 * p + 1) (gWb (sI S 1 p) (nI v) b))))]) (ws2 := [(r, .inl (gy G 0, 271, .inl (upd f (15 + 6 * p + 1) (gWb (sI S 1 p) (nI v) b))))]) E (mX8_prisonerAt G p 1 (by omega) (by omega)) gX8_listIn_X8_prisonerAt rfl hnX8_prisonerAt ⟨Nat.le_of_ble_eq_true rfl, Nat.le_of_ble_eq_true rfl⟩ (gPerm_ix [0] rfl rfl) rfl rfl (Nat.le_of_ble_eq_true rfl) dX8_listIn_40 ⟨Nat.le_of_ble_eq_true rfl, Nat.le_of_ble_eq_true rfl⟩ (gPerm_ix [0] rfl rfl) ?_
    refine g_ialdN (e := 15 + 6 * p + 1) E 0 rfl (by omega) rfl (v := sI (uI S 1 (upd (sI S 1) p (gWb (sI S 1 p) (nI v) b))) 1 p) (RR_P hRR2 (p := p) (w := 1) (by omega) (by omega)) dX8_listIn_43 ?_
    exact RET _ _ _ _ (⟨by rw [sI_uI, if_pos rfl, upd_eq rfl], hRR2⟩) rfl dX8_listIn_44
  · skip
    refine g_iload E dX8_listIn_25 0 rfl ?_
    refine g_iconst (v := 1) E dX8_listIn_27 (by decide) ?_
    refine g_iload_n E dX8_listIn_28 rfl 3 rfl ?_
    refine g_ishl E dX8_listIn_29 ?_
    refine g_ior E dX8_listIn_30 ?_
    refine g_goto (tgt := 36) E dX8_listIn_31 (by decide) ?_
    refine g_top (y := gWb (sI S 1 p) (nI v) b) (gWb_r1 c1) ?_
    refine g_iast (ws' := [(r, .inl (gy G 0, 271, .inl (upd f (15 + 6 * p + 1) (gWb (sI S 1 p) (nI v) b))))]) (j := 15 + 6 * p + 1) (y := gWb (sI S 1 p) (nI v) b) E 0 rfl (g_in (e := 15 + 6 * p + 1) (by omega) rfl) (nI_clamp (n := 15 + 6 * p + 1) (by omega)) rfl rfl dX8_listIn_36 ?_
    have hRR3 : RR (uI S 1 (upd (sI S 1) p (gWb (sI S 1 p) (nI v) b))) (upd f (15 + 6 * p + 1) (gWb (sI S 1 p) (nI v) b)) := RR_uP hRR hp (by decide)
    refine g_aload_n E dX8_listIn_37 rfl 1 rfl ?_
    refine g_iload_n E dX8_listIn_38 rfl 2 rfl ?_
    refine g_iconst (v := 1) E dX8_listIn_39 (by decide) ?_
    refine g_callSIe (F := [(r, .inl (gy G 0, 271, .inl (upd f (15 + 6 * p + 1) (gWb (sI S 1 p) (nI v) b))))]) (ws2 := [(r, .inl (gy G 0, 271, .inl (upd f (15 + 6 * p + 1) (gWb (sI S 1 p) (nI v) b))))]) E (mX8_prisonerAt G p 1 (by omega) (by omega)) gX8_listIn_X8_prisonerAt rfl hnX8_prisonerAt ⟨Nat.le_of_ble_eq_true rfl, Nat.le_of_ble_eq_true rfl⟩ (gPerm_ix [0] rfl rfl) rfl rfl (Nat.le_of_ble_eq_true rfl) dX8_listIn_40 ⟨Nat.le_of_ble_eq_true rfl, Nat.le_of_ble_eq_true rfl⟩ (gPerm_ix [0] rfl rfl) ?_
    refine g_ialdN (e := 15 + 6 * p + 1) E 0 rfl (by omega) rfl (v := sI (uI S 1 (upd (sI S 1) p (gWb (sI S 1 p) (nI v) b))) 1 p) (RR_P hRR3 (p := p) (w := 1) (by omega) (by omega)) dX8_listIn_43 ?_
    exact RET _ _ _ _ (⟨by rw [sI_uI, if_pos rfl, upd_eq rfl], hRR3⟩) rfl dX8_listIn_44

set_option maxHeartbeats 4000000 in
set_option maxRecDepth 100000 in
theorem mX8_part (G : gG) (r : Nat) (S : gSt) (f : Nat → Int32) (p v : Nat) (b : Int32) (hI : gI1 S) (hT : sN S 0 < 1000000000) (hRR : RR S f) (hp : p < 8) (hv : v < 10) : CV G yX8_part wsX8_part 1 21 [.ref r, .int (nI p), .int (nI v), .int b] [(r, .inl (gy G 0, 271, .inl f))] (fun u : Nat → Int32 => RR (uI S 5 (upd (sI S 5) p (gWb (sI S 5 p) (nI v) b))) u) (fun (u : Nat → Int32) => [(r, .inl (gy G 0, 271, .inl u))]) 0 0 := by
  refine g_enterV RX8 rfl (by decide) rfl (Nat.le_of_ble_eq_true rfl) ?_
  intro V E RET
  have hX := hI
  obtain ⟨hP8, hn, hw, hW8, hs3, hs4, hs5, hs6, hs7, hs8, hb34⟩ := hX
  refine g_aload_n E dX8_part_0 rfl 0 rfl ?_
  refine g_iload_n E dX8_part_1 rfl 1 rfl ?_
  refine g_iconst (v := 5) E dX8_part_2 (by decide) ?_
  refine g_callSIe (F := [(r, .inl (gy G 0, 271, .inl f))]) (ws2 := [(r, .inl (gy G 0, 271, .inl f))]) E (mX8_prisonerAt G p 5 (by omega) (by omega)) gX8_part_X8_prisonerAt rfl hnX8_prisonerAt ⟨Nat.le_of_ble_eq_true rfl, Nat.le_of_ble_eq_true rfl⟩ (gPerm_ix [0] rfl rfl) rfl rfl (Nat.le_of_ble_eq_true rfl) dX8_part_3 ⟨Nat.le_of_ble_eq_true rfl, Nat.le_of_ble_eq_true rfl⟩ (gPerm_ix [0] rfl rfl) ?_
  refine g_ialdN (e := 15 + 6 * p + 5) E 0 rfl (by omega) rfl (v := sI S 5 p) (RR_P hRR (p := p) (w := 5) (by omega) (by omega)) dX8_part_6 ?_
  refine g_iconst (v := 1) E dX8_part_7 (by decide) ?_
  refine g_iload_n E dX8_part_8 rfl 2 rfl ?_
  refine g_ishl E dX8_part_9 ?_
  refine g_iconst (v := (-1)) E dX8_part_10 (by decide) ?_
  refine g_ixor E dX8_part_11 ?_
  refine g_iand E dX8_part_12 ?_
  refine g_istore (lv' := [(4, .int ((sI S 5 p) &&& ((1 <<< (nI v &&& 31)) ^^^ (-1)))), (0, .ref r), (1, .int (nI p)), (2, .int (nI v)), (3, .int b)]) E dX8_part_13 (by decide) rfl ?_
  refine g_aload_n E dX8_part_15 rfl 1 rfl ?_
  refine g_iload_n E dX8_part_16 rfl 2 rfl ?_
  refine g_iconst (v := 5) E dX8_part_17 (by decide) ?_
  refine g_callSIe (F := [(r, .inl (gy G 0, 271, .inl f))]) (ws2 := [(r, .inl (gy G 0, 271, .inl f))]) E (mX8_prisonerAt G p 5 (by omega) (by omega)) gX8_part_X8_prisonerAt rfl hnX8_prisonerAt ⟨Nat.le_of_ble_eq_true rfl, Nat.le_of_ble_eq_true rfl⟩ (gPerm_ix [0] rfl rfl) rfl rfl (Nat.le_of_ble_eq_true rfl) dX8_part_18 ⟨Nat.le_of_ble_eq_true rfl, Nat.le_of_ble_eq_true rfl⟩ (gPerm_ix [0] rfl rfl) ?_
  refine g_iload_n E dX8_part_21 rfl 4 rfl ?_
  refine g_if_eq (tgt := 34) E dX8_part_22 (by decide) (fun c1 => ?_) (fun c1 => ?_)
  · skip
    refine g_iload E dX8_part_34 0 rfl ?_
    refine g_top (y := gWb (sI S 5 p) (nI v) b) (gWb_r0 c1) ?_
    refine g_iast (ws' := [(r, .inl (gy G 0, 271, .inl (upd f (15 + 6 * p + 5) (gWb (sI S 5 p) (nI v) b))))]) (j := 15 + 6 * p + 5) (y := gWb (sI S 5 p) (nI v) b) E 0 rfl (g_in (e := 15 + 6 * p + 5) (by omega) rfl) (nI_clamp (n := 15 + 6 * p + 5) (by omega)) rfl rfl dX8_part_36 ?_
    have hRR2 : RR (uI S 5 (upd (sI S 5) p (gWb (sI S 5 p) (nI v) b))) (upd f (15 + 6 * p + 5) (gWb (sI S 5 p) (nI v) b)) := RR_uP hRR hp (by decide)
    exact RET _ _ _ (hRR2) dX8_part_37
  · skip
    refine g_iload E dX8_part_25 0 rfl ?_
    refine g_iconst (v := 1) E dX8_part_27 (by decide) ?_
    refine g_iload_n E dX8_part_28 rfl 3 rfl ?_
    refine g_ishl E dX8_part_29 ?_
    refine g_ior E dX8_part_30 ?_
    refine g_goto (tgt := 36) E dX8_part_31 (by decide) ?_
    refine g_top (y := gWb (sI S 5 p) (nI v) b) (gWb_r1 c1) ?_
    refine g_iast (ws' := [(r, .inl (gy G 0, 271, .inl (upd f (15 + 6 * p + 5) (gWb (sI S 5 p) (nI v) b))))]) (j := 15 + 6 * p + 5) (y := gWb (sI S 5 p) (nI v) b) E 0 rfl (g_in (e := 15 + 6 * p + 5) (by omega) rfl) (nI_clamp (n := 15 + 6 * p + 5) (by omega)) rfl rfl dX8_part_36 ?_
    have hRR3 : RR (uI S 5 (upd (sI S 5) p (gWb (sI S 5 p) (nI v) b))) (upd f (15 + 6 * p + 5) (gWb (sI S 5 p) (nI v) b)) := RR_uP hRR hp (by decide)
    exact RET _ _ _ (hRR3) dX8_part_37

set_option maxHeartbeats 4000000 in
set_option maxRecDepth 100000 in
theorem mX8_ban (G : gG) (r : Nat) (S : gSt) (f : Nat → Int32) (v : Nat) (hI : gI1 S) (hT : sN S 0 < 1000000000) (hRR : RR S f) (hv : v < 10) : CV G yX8_ban wsX8_ban 1 21 [.ref r, .int (nI v)] [(r, .inl (gy G 0, 271, .inl f))] (fun u : Nat → Int32 => RR (gBan S v) u) (fun (u : Nat → Int32) => [(r, .inl (gy G 0, 271, .inl u))]) 0 0 := by
  refine g_enterV RX8 rfl (by decide) rfl (Nat.le_of_ble_eq_true rfl) ?_
  intro V E RET
  have hX := hI
  obtain ⟨hP8, hn, hw, hW8, hs3, hs4, hs5, hs6, hs7, hs8, hb34⟩ := hX
  refine g_aload_n E dX8_ban_0 rfl 0 rfl ?_
  refine g_iconst (v := 0) E dX8_ban_1 (by decide) ?_
  refine g_ialdN (e := 0) E 0 rfl (by omega) rfl (v := nI (sN S 0)) (RR_0 hRR) dX8_ban_2 ?_
  refine g_iconst (v := 1) E dX8_ban_3 (by decide) ?_
  refine g_iaddN (a := sN S 0) (b := 1) E dX8_ban_4 ?_
  refine g_aload_n E dX8_ban_5 rfl 0 rfl ?_
  refine g_bipush (v := 11) E dX8_ban_6 (by decide) ?_
  refine g_ialdN (e := 11) E 0 rfl (by omega) rfl (v := nI (sS S 2)) (RR_S hRR (j := 2) (by decide)) dX8_ban_8 ?_
  refine g_iaddN (a := sN S 0 + 1) (b := sS S 2) E dX8_ban_9 ?_
  refine g_istore_n (lv' := [(2, .int (nI (sN S 0 + 1 + (sS S 2)))), (0, .ref r), (1, .int (nI v))]) E dX8_ban_10 rfl (by decide) rfl ?_
  refine g_aload_n E dX8_ban_11 rfl 1 rfl ?_
  refine g_iload_n E dX8_ban_12 rfl 2 rfl ?_
  refine g_iconst (v := 1) E dX8_ban_13 (by decide) ?_
  refine g_callSIe (F := [(r, .inl (gy G 0, 271, .inl f))]) (ws2 := [(r, .inl (gy G 0, 271, .inl f))]) E (mX8_visitorAt G v 1 (by omega) (by omega)) gX8_ban_X8_visitorAt rfl hnX8_visitorAt ⟨Nat.le_of_ble_eq_true rfl, Nat.le_of_ble_eq_true rfl⟩ (gPerm_ix [0] rfl rfl) rfl rfl (Nat.le_of_ble_eq_true rfl) dX8_ban_14 ⟨Nat.le_of_ble_eq_true rfl, Nat.le_of_ble_eq_true rfl⟩ (gPerm_ix [0] rfl rfl) ?_
  refine g_iload_n E dX8_ban_17 rfl 0 rfl ?_
  refine g_aload_n E dX8_ban_18 rfl 1 rfl ?_
  refine g_iload_n E dX8_ban_19 rfl 2 rfl ?_
  refine g_iconst (v := 1) E dX8_ban_20 (by decide) ?_
  refine g_callSIe (F := [(r, .inl (gy G 0, 271, .inl f))]) (ws2 := [(r, .inl (gy G 0, 271, .inl f))]) E (mX8_visitorAt G v 1 (by omega) (by omega)) gX8_ban_X8_visitorAt rfl hnX8_visitorAt ⟨Nat.le_of_ble_eq_true rfl, Nat.le_of_ble_eq_true rfl⟩ (gPerm_ix [0] rfl rfl) rfl rfl (Nat.le_of_ble_eq_true rfl) dX8_ban_21 ⟨Nat.le_of_ble_eq_true rfl, Nat.le_of_ble_eq_true rfl⟩ (gPerm_ix [0] rfl rfl) ?_
  refine g_ialdN (e := 63 + 3 * v + 1) E 0 rfl (by omega) rfl (v := sI S 7 v) (RR_V1 hRR (v := v) (by omega)) dX8_ban_24 ?_
  refine g_icmp_le (tgt := 32) E dX8_ban_25 (by decide) (fun c1 => ?_) (fun c1 => ?_)
  · skip
    refine g_aload_n E dX8_ban_32 rfl 1 rfl ?_
    refine g_iload_n E dX8_ban_33 rfl 2 rfl ?_
    refine g_iconst (v := 1) E dX8_ban_34 (by decide) ?_
    refine g_callSIe (F := [(r, .inl (gy G 0, 271, .inl f))]) (ws2 := [(r, .inl (gy G 0, 271, .inl f))]) E (mX8_visitorAt G v 1 (by omega) (by omega)) gX8_ban_X8_visitorAt rfl hnX8_visitorAt ⟨Nat.le_of_ble_eq_true rfl, Nat.le_of_ble_eq_true rfl⟩ (gPerm_ix [0] rfl rfl) rfl rfl (Nat.le_of_ble_eq_true rfl) dX8_ban_35 ⟨Nat.le_of_ble_eq_true rfl, Nat.le_of_ble_eq_true rfl⟩ (gPerm_ix [0] rfl rfl) ?_
    refine g_ialdN (e := 63 + 3 * v + 1) E 0 rfl (by omega) rfl (v := sI S 7 v) (RR_V1 hRR (v := v) (by omega)) dX8_ban_38 ?_
    refine g_iast (ws' := [(r, .inl (gy G 0, 271, .inl (upd f (63 + 3 * v + 1) (sI S 7 v))))]) (j := 63 + 3 * v + 1) (y := sI S 7 v) E 0 rfl (g_in (e := 63 + 3 * v + 1) (by omega) rfl) (nI_clamp (n := 63 + 3 * v + 1) (by omega)) rfl rfl dX8_ban_39 ?_
    have hRR2 : RR (gBan S v) (upd f (63 + 3 * v + 1) (sI S 7 v)) := (by rw [gBan, if_pos c1]; exact RR_same hRR (RR_V1 hRR hv))
    exact RET _ _ _ (hRR2) dX8_ban_40
  · skip
    refine g_iload_n E dX8_ban_28 rfl 0 rfl ?_
    refine g_goto (tgt := 39) E dX8_ban_29 (by decide) ?_
    refine g_iast (ws' := [(r, .inl (gy G 0, 271, .inl (upd f (63 + 3 * v + 1) (nI (sN S 0 + 1 + (sS S 2))))))]) (j := 63 + 3 * v + 1) (y := nI (sN S 0 + 1 + (sS S 2))) E 0 rfl (g_in (e := 63 + 3 * v + 1) (by omega) rfl) (nI_clamp (n := 63 + 3 * v + 1) (by omega)) rfl rfl dX8_ban_39 ?_
    have hRR3 : RR (gBan S v) (upd f (63 + 3 * v + 1) (nI (sN S 0 + 1 + (sS S 2)))) := (by rw [gBan, if_neg c1]; exact RR_uV (w := 1) hRR hv (by decide))
    exact RET _ _ _ (hRR3) dX8_ban_40
