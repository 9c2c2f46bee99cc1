/-! ===== the text ===== -/
def gSg (n : Nat) (sg : Nat → Int32) (i : Nat) : Int32 := if i < n then sg i else -1
def gRS (n : Nat) (sg : Nat → Int32) (a : Nat) (c : Int32) : Nat := if gSg n sg a = c then a + 1 else a
def gSame (n : Nat) (sg : Nat → Int32) : Nat → List Int32 → Nat
  | _, [] => 0
  | a, x :: l => if gSg n sg a = x then gSame n sg (a + 1) l + 1 else 0
theorem gSame_le {n : Nat} {sg : Nat → Int32} : ∀ {a : Nat} {l : List Int32}, gSame n sg a l ≤ l.length
  | _, [] => Nat.le_refl 0
  | a, x :: l => by
    unfold gSame
    have := gSame_le (n := n) (sg := sg) (a := a + 1) (l := l)
    split
    · simp; omega
    · exact Nat.zero_le _
theorem gSame_st {n a k t : Nat} {sg : Nat → Int32} {l : List Int32} (hk : k < l.length) (h : gSg n sg (a + k) = l.getD k 0) (he : k + gSame n sg (a + k) (l.drop k) = t) : k + 1 + gSame n sg (a + (k + 1)) (l.drop (k + 1)) = t := by
  rw [← he, List.drop_eq_getElem_cons hk, gSame, if_pos (by rw [h, List.getD_eq_getElem?_getD, List.getElem?_eq_getElem hk]; rfl), Nat.add_assoc a k 1]
  omega
theorem gSame_no {n a k : Nat} {sg : Nat → Int32} {l : List Int32} (hk : k < l.length) (h : ¬ gSg n sg (a + k) = l.getD k 0) : gSame n sg (a + k) (l.drop k) = 0 := by
  rw [List.drop_eq_getElem_cons hk, gSame, if_neg]
  rw [List.getD_eq_getElem?_getD, List.getElem?_eq_getElem hk] at h
  exact h
def gWi (x : Nat) : Nat := x
def gKi (x : Nat) : Nat := ([6, 7, 8, 7, 9, 10] : List Nat).getD x 0
def gWi_z (x : Nat) : String × Nat × String × List Int32 := gStr.getD (gWi x) ("", 0, "", [])
def gKi_z (x : Nat) : String × Nat × String × List Int32 := gStr.getD (gKi x) ("", 0, "", [])
theorem gWi_ok {x : Nat} (h : x < 6) : gStr[gWi x]? = some (gWi_z x) := by
  rcases (show x = 0 ∨ x = 1 ∨ x = 2 ∨ x = 3 ∨ x = 4 ∨ x = 5 by omega) with rfl | rfl | rfl | rfl | rfl | rfl <;> rfl
theorem gKi_ok {x : Nat} (h : x < 6) : gStr[gKi x]? = some (gKi_z x) := by
  rcases (show x = 0 ∨ x = 1 ∨ x = 2 ∨ x = 3 ∨ x = 4 ∨ x = 5 by omega) with rfl | rfl | rfl | rfl | rfl | rfl <;> rfl
theorem gWi_len {x : Nat} (h : x < 6) : (gWi_z x).2.2.2.length ≤ 4 := by
  rcases (show x = 0 ∨ x = 1 ∨ x = 2 ∨ x = 3 ∨ x = 4 ∨ x = 5 by omega) with rfl | rfl | rfl | rfl | rfl | rfl <;> decide
def gLe (k : Int32) : Int32 := if k = 110 then 1 else 0
def gMo (k : Int32) : Int32 := if k = 114 then 3 else if k = 112 then 7 else if k = 118 then 9 else if k = 100 then 99 else if k = 104 then 7 else 30
def gKd (k : Int32) : Prop := k = 114 ∨ k = 112 ∨ k = 118 ∨ k = 100 ∨ k = 104 ∨ k = 110
def gWD (v s : Int32) : Int32 := if s < 48 then -1 else if 57 < s then -1 else if v = 0 then -1 else (if v = -1 then 0 else 10 * v) + s - 48
def gBi (b : Bool) : Int32 := if b = true then 1 else 0
/-- words are tried from the k-th on, so many; the longest beginning so far is m -/
def gRW : Nat → Nat → Nat → Nat → (Nat → Int32) → Nat → Nat → Bool × Nat × Nat
  | 0, _, m, _, _, a, wd => (false, a + m, wd)
  | f + 1, k, m, n, sg, a, wd => if gSame n sg a (gWi_z k).2.2.2 = (gWi_z k).2.2.2.length then (true, a + gSame n sg a (gWi_z k).2.2.2, k) else gRW f (k + 1) (max m (gSame n sg a (gWi_z k).2.2.2)) n sg a wd
def gRWd (n : Nat) (sg : Nat → Int32) (a wd : Nat) : Bool × Nat × Nat := gRW 6 0 0 n sg a wd
theorem gRW_no {k m n a wd : Nat} {sg : Nat → Int32} {r : Bool × Nat × Nat} (hk : k < 6) (h : ¬ gSame n sg a (gWi_z k).2.2.2 = (gWi_z k).2.2.2.length) (he : gRW (6 - k) k m n sg a wd = r) : gRW (6 - (k + 1)) (k + 1) (max m (gSame n sg a (gWi_z k).2.2.2)) n sg a wd = r := by
  obtain ⟨f, hf⟩ : ∃ f, 6 - k = f + 1 := ⟨5 - k, by omega⟩
  rw [hf, gRW, if_neg h] at he
  rw [show 6 - (k + 1) = f by omega]
  exact he
theorem gRW_yes {k m n a wd : Nat} {sg : Nat → Int32} {r : Bool × Nat × Nat} (hk : k < 6) (h : gSame n sg a (gWi_z k).2.2.2 = (gWi_z k).2.2.2.length) (he : gRW (6 - k) k m n sg a wd = r) : r = (true, a + gSame n sg a (gWi_z k).2.2.2, k) := by
  obtain ⟨f, hf⟩ : ∃ f, 6 - k = f + 1 := ⟨5 - k, by omega⟩
  rw [hf, gRW, if_pos h] at he
  exact he.symm
theorem g_max_N {a b : Nat} (ha : a < 2147483648) (hb : b < 2147483648) : (if nI a < nI b then nI b else nI a) = nI (max a b) := by
  rcases Nat.lt_or_ge a b with q | q
  · rw [if_pos ((nI_ltI ha hb).mpr q), Nat.max_eq_right (Nat.le_of_lt q)]
  · rw [if_neg (fun h => Nat.not_lt.mpr q ((nI_ltI ha hb).mp h)), Nat.max_eq_left q]
theorem g_i2cN {x : Nat} (h : x < 256) : ((nI x).toUInt32 % 65536).toInt32 = nI x := by
  have : ∀ x : Nat, x < 256 → ((nI x).toUInt32 % 65536).toInt32 = nI x := by decide +kernel
  exact this x h
theorem vp_narN {x : Nat} (h : x < 256) : vp_nar .char (nI x) = nI x := by
  have : ∀ x : Nat, x < 256 → vp_nar .char (nI x) = nI x := by decide +kernel
  exact this x h
set_option maxHeartbeats 4000000 in
set_option maxRecDepth 100000 in
theorem mX5_isFull (G : gG) (t0 t1 t2 : Nat) (n a wd : Nat) (sg nm : Nat → Int32) (hn : n ≤ 120) : CIe G yX5_isFull wsX5_isFull 0 0 [.ref t0] [(t0, .inr (5, [.int (nI n), .ref t1, .int (nI a), .int (nI wd), .ref t2])), (t1, .inl (gy G 1, 120, .inl sg)), (t2, .inl (gy G 0, 4, .inl nm))] (if 120 ≤ n then 1 else 0) [(t0, .inr (5, [.int (nI n), .ref t1, .int (nI a), .int (nI wd), .ref t2])), (t1, .inl (gy G 1, 120, .inl sg)), (t2, .inl (gy G 0, 4, .inl nm))] 0 0 := by
  refine g_enterIe (ty := .boolean) RX5 rfl (by decide) rfl (Nat.le_of_ble_eq_true rfl) ?_
  intro V E RET
  refine g_aload_n E dX5_isFull_0 rfl 0 rfl ?_
  refine g_get E uX5_isFull_RX5 0 rfl rfl 0 (by decide) kX5_isFull_19 rfl rfl dX5_isFull_1 ?_
  refine g_bipush (v := 120) E dX5_isFull_4 (by decide) ?_
  refine g_icmp_ltN (tgt := 13) (a := n) (b := 120) E dX5_isFull_6 (by decide) (by omega) (by omega) (fun c1 => ?_) (fun c1 => ?_)
  · skip
    refine g_iconst (v := 0) E dX5_isFull_13 (by decide) ?_
    exact RET _ _ _ () (by simp [c1]) rfl dX5_isFull_14
  · skip
    refine g_iconst (v := 1) E dX5_isFull_9 (by decide) ?_
    refine g_goto (tgt := 14) E dX5_isFull_10 (by decide) ?_
    exact RET _ _ _ () (by simp [c1]) rfl dX5_isFull_14
set_option maxHeartbeats 4000000 in
set_option maxRecDepth 100000 in
theorem mX5_drop (G : gG) (t0 t1 t2 : Nat) (n a wd : Nat) (sg nm : Nat → Int32) (hn : n ≤ 120) : CIe G yX5_drop wsX5_drop 0 0 [.ref t0] [(t0, .inr (5, [.int (nI n), .ref t1, .int (nI a), .int (nI wd), .ref t2])), (t1, .inl (gy G 1, 120, .inl sg)), (t2, .inl (gy G 0, 4, .inl nm))] (nI n) [(t0, .inr (5, [.int (nI 0), .ref t1, .int (nI a), .int (nI wd), .ref t2])), (t1, .inl (gy G 1, 120, .inl sg)), (t2, .inl (gy G 0, 4, .inl nm))] 0 0 := by
  refine g_enterIe (ty := .int) RX5 rfl (by decide) rfl (Nat.le_of_ble_eq_true rfl) ?_
  intro V E RET
  refine g_aload_n E dX5_drop_0 rfl 0 rfl ?_
  refine g_get E uX5_drop_RX5 0 rfl rfl 0 (by decide) kX5_drop_19 rfl rfl dX5_drop_1 ?_
  refine g_istore_n (lv' := [(1, .int (nI n)), (0, .ref t0)]) E dX5_drop_4 rfl (by decide) rfl ?_
  refine g_aload_n E dX5_drop_5 rfl 1 rfl ?_
  refine g_iconst (v := 0) E dX5_drop_6 (by decide) ?_
  refine g_put (ws' := [(t0, .inr (5, [.int 0, .ref t1, .int (nI a), .int (nI wd), .ref t2])), (t1, .inl (gy G 1, 120, .inl sg)), (t2, .inl (gy G 0, 4, .inl nm))]) E uX5_drop_RX5 tyX5 tyX5_ok nmX5 0 rfl rfl 0 (by decide) kX5_drop_19 rfl rfl rfl rfl (Nat.le_of_ble_eq_true rfl) rfl dX5_drop_7 ?_
  refine g_iload_n E dX5_drop_10 rfl 0 rfl ?_
  exact RET _ _ _ () (rfl) rfl dX5_drop_11
set_option maxHeartbeats 4000000 in
set_option maxRecDepth 100000 in
theorem mX5_add (G : gG) (t0 t1 t2 : Nat) (n a wd : Nat) (sg nm : Nat → Int32) (x : Nat) (hn : n < 120) (hx : x < 256) : CIe G yX5_add wsX5_add 0 0 [.ref t0, .int (nI x)] [(t0, .inr (5, [.int (nI n), .ref t1, .int (nI a), .int (nI wd), .ref t2])), (t1, .inl (gy G 1, 120, .inl sg)), (t2, .inl (gy G 0, 4, .inl nm))] (nI (n + 1)) [(t0, .inr (5, [.int (nI (n + 1)), .ref t1, .int (nI a), .int (nI wd), .ref t2])), (t1, .inl (gy G 1, 120, .inl (upd sg n (nI x)))), (t2, .inl (gy G 0, 4, .inl nm))] 0 0 := by
  refine g_enterIe (ty := .int) RX5 rfl (by decide) rfl (Nat.le_of_ble_eq_true rfl) ?_
  intro V E RET
  refine g_aload_n E dX5_add_0 rfl 0 rfl ?_
  refine g_get E uX5_add_RX5 0 rfl rfl 0 (by decide) kX5_add_19 rfl rfl dX5_add_1 ?_
  refine g_if_ltN (tgt := 37) (a := n) E dX5_add_4 (by decide) (by omega) ?_
  refine g_aload_n E dX5_add_7 rfl 0 rfl ?_
  refine g_get E uX5_add_RX5 0 rfl rfl 0 (by decide) kX5_add_19 rfl rfl dX5_add_8 ?_
  refine g_bipush (v := 120) E dX5_add_11 (by decide) ?_
  refine g_icmp_geN (tgt := 37) (a := n) (b := 120) E dX5_add_13 (by decide) (by omega) (by omega) (fun c1 => ?_) (fun c1 => ?_)
  · exfalso
    omega
  · skip
    refine g_aload_n E dX5_add_16 rfl 0 rfl ?_
    refine g_get E uX5_add_RX5 0 rfl rfl 1 (by decide) kX5_add_11 rfl rfl dX5_add_17 ?_
    refine g_aload_n E dX5_add_20 rfl 0 rfl ?_
    refine g_get E uX5_add_RX5 0 rfl rfl 0 (by decide) kX5_add_19 rfl rfl dX5_add_21 ?_
    refine g_iload_n E dX5_add_24 rfl 1 rfl ?_
    refine g_i2c (v := ((nI x).toUInt32 % 65536).toInt32) E dX5_add_25 rfl ?_
    refine g_top (y := nI x) (g_i2cN (by omega)) ?_
    refine g_cast (ws' := [(t0, .inr (5, [.int (nI n), .ref t1, .int (nI a), .int (nI wd), .ref t2])), (t1, .inl (gy G 1, 120, .inl (upd sg n (nI x)))), (t2, .inl (gy G 0, 4, .inl nm))]) (j := n) (y := nI x) E 1 rfl (g_in (e := n) (by omega) rfl) (nI_clamp (n := n) (by omega)) (vp_narN (by omega)) rfl dX5_add_26 ?_
    refine g_aload_n E dX5_add_27 rfl 0 rfl ?_
    refine g_dup E dX5_add_28 rfl ?_
    refine g_get E uX5_add_RX5 0 rfl rfl 0 (by decide) kX5_add_19 rfl rfl dX5_add_29 ?_
    refine g_iconst (v := 1) E dX5_add_32 (by decide) ?_
    refine g_iaddN (a := n) (b := 1) E dX5_add_33 ?_
    refine g_put (ws' := [(t0, .inr (5, [.int (nI (n + 1)), .ref t1, .int (nI a), .int (nI wd), .ref t2])), (t1, .inl (gy G 1, 120, .inl (upd sg n (nI x)))), (t2, .inl (gy G 0, 4, .inl nm))]) E uX5_add_RX5 tyX5 tyX5_ok nmX5 0 rfl rfl 0 (by decide) kX5_add_19 rfl rfl rfl rfl (Nat.le_of_ble_eq_true rfl) rfl dX5_add_34 ?_
    refine g_aload_n E dX5_add_37 rfl 0 rfl ?_
    refine g_get E uX5_add_RX5 0 rfl rfl 0 (by decide) kX5_add_19 rfl rfl dX5_add_38 ?_
    exact RET _ _ _ () (rfl) rfl dX5_add_41
set_option maxHeartbeats 4000000 in
set_option maxRecDepth 100000 in
theorem mX5_startReading (G : gG) (t0 t1 t2 : Nat) (n a wd : Nat) (sg nm : Nat → Int32)  : CVe G yX5_startReading wsX5_startReading 0 0 [.ref t0] [(t0, .inr (5, [.int (nI n), .ref t1, .int (nI a), .int (nI wd), .ref t2])), (t1, .inl (gy G 1, 120, .inl sg)), (t2, .inl (gy G 0, 4, .inl nm))]  [(t0, .inr (5, [.int (nI n), .ref t1, .int (nI 0), .int (nI wd), .ref t2])), (t1, .inl (gy G 1, 120, .inl sg)), (t2, .inl (gy G 0, 4, .inl nm))] 0 0 := by
  refine g_enterVe RX5 rfl (by decide) rfl (Nat.le_of_ble_eq_true rfl) ?_
  intro V E RET
  refine g_aload_n E dX5_startReading_0 rfl 0 rfl ?_
  refine g_iconst (v := 0) E dX5_startReading_1 (by decide) ?_
  refine g_put (ws' := [(t0, .inr (5, [.int (nI n), .ref t1, .int 0, .int (nI wd), .ref t2])), (t1, .inl (gy G 1, 120, .inl sg)), (t2, .inl (gy G 0, 4, .inl nm))]) E uX5_startReading_RX5 tyX5 tyX5_ok nmX5 0 rfl rfl 2 (by decide) kX5_startReading_30 rfl rfl rfl rfl (Nat.le_of_ble_eq_true rfl) rfl dX5_startReading_2 ?_
  exact RET _ _ () (trivial) dX5_startReading_5
set_option maxHeartbeats 4000000 in
set_option maxRecDepth 100000 in
theorem mX5_signAt (G : gG) (t0 t1 t2 : Nat) (n a wd : Nat) (sg nm : Nat → Int32) (i : Nat) (hn : n ≤ 120) (hi : i < 1073741824) : CIe G yX5_signAt wsX5_signAt 0 0 [.ref t0, .int (nI i)] [(t0, .inr (5, [.int (nI n), .ref t1, .int (nI a), .int (nI wd), .ref t2])), (t1, .inl (gy G 1, 120, .inl sg)), (t2, .inl (gy G 0, 4, .inl nm))] (gSg n sg i) [(t0, .inr (5, [.int (nI n), .ref t1, .int (nI a), .int (nI wd), .ref t2])), (t1, .inl (gy G 1, 120, .inl sg)), (t2, .inl (gy G 0, 4, .inl nm))] 0 0 := by
  refine g_enterIe (ty := .int) RX5 rfl (by decide) rfl (Nat.le_of_ble_eq_true rfl) ?_
  intro V E RET
  refine g_iload_n E dX5_signAt_0 rfl 1 rfl ?_
  refine g_if_ltN (tgt := 27) (a := i) E dX5_signAt_1 (by decide) (by omega) ?_
  refine g_iload_n E dX5_signAt_4 rfl 1 rfl ?_
  refine g_aload_n E dX5_signAt_5 rfl 0 rfl ?_
  refine g_get E uX5_signAt_RX5 0 rfl rfl 0 (by decide) kX5_signAt_19 rfl rfl dX5_signAt_6 ?_
  refine g_icmp_geN (tgt := 27) (a := i) (b := n) E dX5_signAt_9 (by decide) (by omega) (by omega) (fun c1 => ?_) (fun c1 => ?_)
  · skip
    have hq : ¬ i < n := by omega
    refine g_iconst (v := (-1)) E dX5_signAt_27 (by decide) ?_
    exact RET _ _ _ () (by first | (simp [gSg, c1]; done) | (rw [gSg, if_neg (by omega)])) rfl dX5_signAt_28
  · skip
    refine g_iload_n E dX5_signAt_12 rfl 1 rfl ?_
    refine g_bipush (v := 120) E dX5_signAt_13 (by decide) ?_
    refine g_icmp_geN (tgt := 27) (a := i) (b := 120) E dX5_signAt_15 (by decide) (by omega) (by omega) (fun c2 => ?_) (fun c2 => ?_)
    · exfalso
      omega
    · skip
      refine g_aload_n E dX5_signAt_18 rfl 0 rfl ?_
      refine g_get E uX5_signAt_RX5 0 rfl rfl 1 (by decide) kX5_signAt_11 rfl rfl dX5_signAt_19 ?_
      refine g_iload_n E dX5_signAt_22 rfl 1 rfl ?_
      refine g_caldN (e := i) E 1 rfl (by omega) rfl (v := sg i) rfl dX5_signAt_23 ?_
      refine g_goto (tgt := 28) E dX5_signAt_24 (by decide) ?_
      exact RET _ _ _ () (by first | (simp [gSg, c1, c2]; done) | (rw [gSg, if_neg (by omega)])) rfl dX5_signAt_28
set_option maxHeartbeats 4000000 in
set_option maxRecDepth 100000 in
theorem mX5_readSign (G : gG) (t0 t1 t2 : Nat) (n a wd : Nat) (sg nm : Nat → Int32) (c : Int32) (hn : n ≤ 120) (ha : a ≤ 120) : CIu G yX5_readSign wsX5_readSign 1 21 [.ref t0, .int c] [(t0, .inr (5, [.int (nI n), .ref t1, .int (nI a), .int (nI wd), .ref t2])), (t1, .inl (gy G 1, 120, .inl sg)), (t2, .inl (gy G 0, 4, .inl nm))] (if gSg n sg a = c then 1 else 0) (fun u : Nat => u = gRS n sg a c) (fun (u : Nat) => [(t0, .inr (5, [.int (nI n), .ref t1, .int (nI u), .int (nI wd), .ref t2])), (t1, .inl (gy G 1, 120, .inl sg)), (t2, .inl (gy G 0, 4, .inl nm))]) 0 0 := by
  refine g_enterIu (ty := .boolean) RX5 rfl (by decide) rfl (Nat.le_of_ble_eq_true rfl) ?_
  intro V E RET
  refine g_aload_n E dX5_readSign_0 rfl 0 rfl ?_
  refine g_aload_n E dX5_readSign_1 rfl 0 rfl ?_
  refine g_get E uX5_readSign_RX5 0 rfl rfl 2 (by decide) kX5_readSign_30 rfl rfl dX5_readSign_2 ?_
  refine g_callVIe (F := []) (ws2 := [(t0, .inr (5, [.int (nI n), .ref t1, .int (nI a), .int (nI wd), .ref t2])), (t1, .inl (gy G 1, 120, .inl sg)), (t2, .inl (gy G 0, 4, .inl nm))]) E (mX5_signAt G t0 t1 t2 n a wd sg nm a (by omega) (by omega)) gX5_readSign_X5_signAt rfl hdX5_signAt ⟨Nat.le_of_ble_eq_true rfl, Nat.le_of_ble_eq_true rfl⟩ 5 0 rfl rfl rfl (gPerm_ix [0, 1, 2] rfl rfl) rfl rfl (Nat.le_of_ble_eq_true rfl) dX5_readSign_5 ⟨Nat.le_of_ble_eq_true rfl, Nat.le_of_ble_eq_true rfl⟩ (gPerm_ix [0, 1, 2] rfl rfl) ?_
  refine g_iload_n E dX5_readSign_8 rfl 1 rfl ?_
  refine g_icmp_eq (tgt := 14) E dX5_readSign_9 (by decide) (fun c1 => ?_) (fun c1 => ?_)
  · skip
    refine g_aload_n E dX5_readSign_14 rfl 0 rfl ?_
    refine g_dup E dX5_readSign_15 rfl ?_
    refine g_get E uX5_readSign_RX5 0 rfl rfl 2 (by decide) kX5_readSign_30 rfl rfl dX5_readSign_16 ?_
    refine g_iconst (v := 1) E dX5_readSign_19 (by decide) ?_
    refine g_iaddN (a := a) (b := 1) E dX5_readSign_20 ?_
    refine g_put (ws' := [(t0, .inr (5, [.int (nI n), .ref t1, .int (nI (a + 1)), .int (nI wd), .ref t2])), (t1, .inl (gy G 1, 120, .inl sg)), (t2, .inl (gy G 0, 4, .inl nm))]) E uX5_readSign_RX5 tyX5 tyX5_ok nmX5 0 rfl rfl 2 (by decide) kX5_readSign_30 rfl rfl rfl rfl (Nat.le_of_ble_eq_true rfl) rfl dX5_readSign_21 ?_
    refine g_iconst (v := 1) E dX5_readSign_24 (by decide) ?_
    exact RET _ _ _ (a + 1) (⟨by simp [c1], by simp [gRS, c1]⟩) rfl dX5_readSign_25
  · skip
    refine g_iconst (v := 0) E dX5_readSign_12 (by decide) ?_
    exact RET _ _ _ a (⟨by simp [c1], by simp [gRS, c1]⟩) rfl dX5_readSign_13
set_option maxHeartbeats 4000000 in
set_option maxRecDepth 100000 in
theorem mX5_sameSigns (G : gG) (t0 t1 t2 : Nat) (n a wd : Nat) (sg nm : Nat → Int32) (i : Nat) (z : String × Nat × String × List Int32) (hq : gStr[i]? = some z) (hn : n ≤ 120) (ha : a ≤ 120) : CIe G yX5_sameSigns wsX5_sameSigns 6 166 [.ref t0, .ref (gz G (100 + 2 * i))] [(t0, .inr (5, [.int (nI n), .ref t1, .int (nI a), .int (nI wd), .ref t2])), (t1, .inl (gy G 1, 120, .inl sg)), (t2, .inl (gy G 0, 4, .inl nm))] (nI (gSame n sg a z.2.2.2)) [(t0, .inr (5, [.int (nI n), .ref t1, .int (nI a), .int (nI wd), .ref t2])), (t1, .inl (gy G 1, 120, .inl sg)), (t2, .inl (gy G 0, 4, .inl nm))] 0 0 := by
  refine g_enterIe (ty := .int) RX5 rfl (by decide) rfl (Nat.le_of_ble_eq_true rfl) ?_
  intro V E RET
  have hl9 := gStr_len hq
  refine g_iconst (v := 0) E dX5_sameSigns_0 (by decide) ?_
  refine g_istore_n (lv' := [(2, .int 0), (0, .ref t0), (1, .ref (gz G (100 + 2 * i)))]) E dX5_sameSigns_1 rfl (by decide) rfl ?_
  have loop1 : ∀ (n2 : Nat) (k : Nat), (k ≤ z.2.2.2.length) → (k + gSame n sg (a + k) (z.2.2.2.drop k) = gSame n sg a z.2.2.2) → z.2.2.2.length - k < n2 → gW V 3 0 0 [(t0, .inr (5, [.int (nI n), .ref t1, .int (nI a), .int (nI wd), .ref t2])), (t1, .inl (gy G 1, 120, .inl sg)), (t2, .inl (gy G 0, 4, .inl nm))] [(0, .ref t0), (1, .ref (gz G (100 + 2 * i))), (2, .int (nI k))] 2 [] := by
    intro n2
    induction n2 with
    | zero => intro k hk he hm4; exact absurd hm4 (Nat.not_lt_zero _)
    | succ n2 ih3 =>
      intro k hk he hm4
      refine g_iload_n E dX5_sameSigns_2 rfl 2 rfl ?_
      refine g_aload_n E dX5_sameSigns_3 rfl 1 rfl ?_
      refine g_callOIe (F := [(t0, .inr (5, [.int (nI n), .ref t1, .int (nI a), .int (nI wd), .ref t2])), (t1, .inl (gy G 1, 120, .inl sg)), (t2, .inl (gy G 0, 4, .inl nm))]) (ws2 := [(t0, .inr (5, [.int (nI n), .ref t1, .int (nI a), .int (nI wd), .ref t2])), (t1, .inl (gy G 1, 120, .inl sg)), (t2, .inl (gy G 0, 4, .inl nm))]) E (mJ0_length_8abf5 G i z hq) gX5_sameSigns_J0_length_8abf5 rfl hdJ0_length_8abf5 ⟨Nat.le_of_ble_eq_true rfl, Nat.le_of_ble_eq_true rfl⟩ hq (gPerm_ix [0, 1, 2] rfl rfl) rfl rfl (Nat.le_of_ble_eq_true rfl) dX5_sameSigns_4 ⟨Nat.le_of_ble_eq_true rfl, Nat.le_of_ble_eq_true rfl⟩ (gPerm_ix [0, 1, 2] rfl rfl) ?_
      refine g_icmp_geN (tgt := 34) (a := k) (b := z.2.2.2.length) E dX5_sameSigns_7 (by decide) (by omega) (by omega) (fun c5 => ?_) (fun c5 => ?_)
      · skip
        have e9 : nI k = nI (gSame n sg a z.2.2.2) := by rw [← he, show k = z.2.2.2.length by omega, List.drop_length]; rfl
        refine g_iload_n E dX5_sameSigns_34 rfl 2 rfl ?_
        exact RET _ _ _ () (e9) rfl dX5_sameSigns_35
      · skip
        have hkl : k < z.2.2.2.length := by omega
        refine g_aload_n E dX5_sameSigns_10 rfl 0 rfl ?_
        refine g_aload_n E dX5_sameSigns_11 rfl 0 rfl ?_
        refine g_get E uX5_sameSigns_RX5 0 rfl rfl 2 (by decide) kX5_sameSigns_30 rfl rfl dX5_sameSigns_12 ?_
        refine g_iload_n E dX5_sameSigns_15 rfl 2 rfl ?_
        refine g_iaddN (a := a) (b := k) E dX5_sameSigns_16 ?_
        refine g_callVIe (F := []) (ws2 := [(t0, .inr (5, [.int (nI n), .ref t1, .int (nI a), .int (nI wd), .ref t2])), (t1, .inl (gy G 1, 120, .inl sg)), (t2, .inl (gy G 0, 4, .inl nm))]) E (mX5_signAt G t0 t1 t2 n a wd sg nm (a + k) (by omega) (by omega)) gX5_sameSigns_X5_signAt rfl hdX5_signAt ⟨Nat.le_of_ble_eq_true rfl, Nat.le_of_ble_eq_true rfl⟩ 5 0 rfl rfl rfl (gPerm_ix [0, 1, 2] rfl rfl) rfl rfl (Nat.le_of_ble_eq_true rfl) dX5_sameSigns_17 ⟨Nat.le_of_ble_eq_true rfl, Nat.le_of_ble_eq_true rfl⟩ (gPerm_ix [0, 1, 2] rfl rfl) ?_
        refine g_aload_n E dX5_sameSigns_20 rfl 1 rfl ?_
        refine g_iload_n E dX5_sameSigns_21 rfl 2 rfl ?_
        refine g_callOIe (F := [(t0, .inr (5, [.int (nI n), .ref t1, .int (nI a), .int (nI wd), .ref t2])), (t1, .inl (gy G 1, 120, .inl sg)), (t2, .inl (gy G 0, 4, .inl nm))]) (ws2 := [(t0, .inr (5, [.int (nI n), .ref t1, .int (nI a), .int (nI wd), .ref t2])), (t1, .inl (gy G 1, 120, .inl sg)), (t2, .inl (gy G 0, 4, .inl nm))]) E (mJ0_charAt_5068e G i z hq k (by omega)) gX5_sameSigns_J0_charAt_5068e rfl hdJ0_charAt_5068e ⟨Nat.le_of_ble_eq_true rfl, Nat.le_of_ble_eq_true rfl⟩ hq (gPerm_ix [0, 1, 2] rfl rfl) rfl rfl (Nat.le_of_ble_eq_true rfl) dX5_sameSigns_22 ⟨Nat.le_of_ble_eq_true rfl, Nat.le_of_ble_eq_true rfl⟩ (gPerm_ix [0, 1, 2] rfl rfl) ?_
        refine g_icmp_ne (tgt := 34) E dX5_sameSigns_25 (by decide) (fun c6 => ?_) (fun c6 => ?_)
        · skip
          have e9 : nI k = nI (gSame n sg a z.2.2.2) := by rw [← he, gSame_no hkl c6]; rfl
          refine g_iload_n E dX5_sameSigns_34 rfl 2 rfl ?_
          exact RET _ _ _ () (e9) rfl dX5_sameSigns_35
        · skip
          refine g_iinc (lv' := [(2, .int (nI (k + 1))), (0, .ref t0), (1, .ref (gz G (100 + 2 * i)))]) E dX5_sameSigns_28 2 rfl (g_inc _ 1 (by decide)) (by decide) rfl ?_
          refine g_goto (tgt := 2) E dX5_sameSigns_31 (by decide) ?_
          refine g_lv [1, 2, 0] rfl ?_
          exact ih3  (k + 1) (by omega) (gSame_st hkl c6 he) (by omega)
  refine g_lv [1, 2, 0] rfl ?_
  exact loop1 _ 0 (Nat.zero_le _) (Nat.zero_add _) (Nat.lt_succ_self _)
set_option maxHeartbeats 4000000 in
set_option maxRecDepth 100000 in
theorem mX5_spellingOf (G : gG) (x : Nat) (hx : x < 6) : CRe G yX5_spellingOf wsX5_spellingOf 0 0 [.int (nI x)] [] (gz G (100 + 2 * gWi x)) [] 0 0 := by
  refine g_enterRe (ty := (.object "java/lang/String")) RX5 rfl (by decide) rfl (Nat.le_of_ble_eq_true rfl) (by first | exact Or.inl ⟨_, rfl⟩ | exact Or.inr ⟨_, rfl⟩) ?_
  intro V E RET
  rcases (show x = 0 ∨ x = 1 ∨ x = 2 ∨ x = 3 ∨ x = 4 ∨ x = 5 by omega) with rfl | rfl | rfl | rfl | rfl | rfl
  · skip
    skip
    refine g_iload_n E dX5_spellingOf_0 rfl 0 rfl ?_
    refine g_tableIn (tgt := 36) E dX5_spellingOf_1 (by decide) (by decide) rfl (by decide) ?_
    refine g_ldcs 0 E rfl dX5_spellingOf_36 ?_
    exact RET _ _ _ () (rfl) dX5_spellingOf_38
  · skip
    skip
    refine g_iload_n E dX5_spellingOf_0 rfl 0 rfl ?_
    refine g_tableIn (tgt := 39) E dX5_spellingOf_1 (by decide) (by decide) rfl (by decide) ?_
    refine g_ldcs 1 E rfl dX5_spellingOf_39 ?_
    exact RET _ _ _ () (rfl) dX5_spellingOf_41
  · skip
    skip
    refine g_iload_n E dX5_spellingOf_0 rfl 0 rfl ?_
    refine g_tableIn (tgt := 42) E dX5_spellingOf_1 (by decide) (by decide) rfl (by decide) ?_
    refine g_ldcs 2 E rfl dX5_spellingOf_42 ?_
    exact RET _ _ _ () (rfl) dX5_spellingOf_44
  · skip
    skip
    refine g_iload_n E dX5_spellingOf_0 rfl 0 rfl ?_
    refine g_tableIn (tgt := 45) E dX5_spellingOf_1 (by decide) (by decide) rfl (by decide) ?_
    refine g_ldcs 3 E rfl dX5_spellingOf_45 ?_
    exact RET _ _ _ () (rfl) dX5_spellingOf_47
  · skip
    skip
    refine g_iload_n E dX5_spellingOf_0 rfl 0 rfl ?_
    refine g_tableIn (tgt := 48) E dX5_spellingOf_1 (by decide) (by decide) rfl (by decide) ?_
    refine g_ldcs 4 E rfl dX5_spellingOf_48 ?_
    exact RET _ _ _ () (rfl) dX5_spellingOf_50
  · skip
    skip
    refine g_iload_n E dX5_spellingOf_0 rfl 0 rfl ?_
    refine g_tableOut (tgt := 51) E dX5_spellingOf_1 (by decide) (by decide) ?_
    refine g_ldcs 5 E rfl dX5_spellingOf_51 ?_
    exact RET _ _ _ () (rfl) dX5_spellingOf_53
set_option maxHeartbeats 4000000 in
set_option maxRecDepth 100000 in
theorem mX5_kindsOf (G : gG) (x : Nat) (hx : x < 6) : CRe G yX5_kindsOf wsX5_kindsOf 0 0 [.int (nI x)] [] (gz G (100 + 2 * gKi x)) [] 0 0 := by
  refine g_enterRe (ty := (.object "java/lang/String")) RX5 rfl (by decide) rfl (Nat.le_of_ble_eq_true rfl) (by first | exact Or.inl ⟨_, rfl⟩ | exact Or.inr ⟨_, rfl⟩) ?_
  intro V E RET
  rcases (show x = 0 ∨ x = 1 ∨ x = 2 ∨ x = 3 ∨ x = 4 ∨ x = 5 by omega) with rfl | rfl | rfl | rfl | rfl | rfl
  · skip
    skip
    refine g_iload_n E dX5_kindsOf_0 rfl 0 rfl ?_
    refine g_tableIn (tgt := 36) E dX5_kindsOf_1 (by decide) (by decide) rfl (by decide) ?_
    refine g_ldcs 6 E rfl dX5_kindsOf_36 ?_
    exact RET _ _ _ () (rfl) dX5_kindsOf_38
  · skip
    skip
    refine g_iload_n E dX5_kindsOf_0 rfl 0 rfl ?_
    refine g_tableIn (tgt := 39) E dX5_kindsOf_1 (by decide) (by decide) rfl (by decide) ?_
    refine g_ldcs 7 E rfl dX5_kindsOf_39 ?_
    exact RET _ _ _ () (rfl) dX5_kindsOf_41
  · skip
    skip
    refine g_iload_n E dX5_kindsOf_0 rfl 0 rfl ?_
    refine g_tableIn (tgt := 42) E dX5_kindsOf_1 (by decide) (by decide) rfl (by decide) ?_
    refine g_ldcs 8 E rfl dX5_kindsOf_42 ?_
    exact RET _ _ _ () (rfl) dX5_kindsOf_44
  · skip
    skip
    refine g_iload_n E dX5_kindsOf_0 rfl 0 rfl ?_
    refine g_tableIn (tgt := 45) E dX5_kindsOf_1 (by decide) (by decide) rfl (by decide) ?_
    refine g_ldcs 7 E rfl dX5_kindsOf_45 ?_
    exact RET _ _ _ () (rfl) dX5_kindsOf_47
  · skip
    skip
    refine g_iload_n E dX5_kindsOf_0 rfl 0 rfl ?_
    refine g_tableIn (tgt := 48) E dX5_kindsOf_1 (by decide) (by decide) rfl (by decide) ?_
    refine g_ldcs 9 E rfl dX5_kindsOf_48 ?_
    exact RET _ _ _ () (rfl) dX5_kindsOf_50
  · skip
    skip
    refine g_iload_n E dX5_kindsOf_0 rfl 0 rfl ?_
    refine g_tableOut (tgt := 51) E dX5_kindsOf_1 (by decide) (by decide) ?_
    refine g_ldcs 10 E rfl dX5_kindsOf_51 ?_
    exact RET _ _ _ () (rfl) dX5_kindsOf_53
set_option maxHeartbeats 4000000 in
set_option maxRecDepth 100000 in
theorem mX5_leastOf (G : gG) (k : Int32)  : CIe G yX5_leastOf wsX5_leastOf 0 0 [.int k] [] (gLe k) [] 0 0 := by
  refine g_enterIe (ty := .int) RX5 rfl (by decide) rfl (Nat.le_of_ble_eq_true rfl) ?_
  intro V E RET
  refine g_iload_n E dX5_leastOf_0 rfl 0 rfl ?_
  refine g_bipush (v := 110) E dX5_leastOf_1 (by decide) ?_
  refine g_icmp_ne (tgt := 10) E dX5_leastOf_3 (by decide) (fun c1 => ?_) (fun c1 => ?_)
  · skip
    refine g_iconst (v := 0) E dX5_leastOf_10 (by decide) ?_
    exact RET _ _ _ () (by simp [gLe, c1]) rfl dX5_leastOf_11
  · skip
    refine g_iconst (v := 1) E dX5_leastOf_6 (by decide) ?_
    refine g_goto (tgt := 11) E dX5_leastOf_7 (by decide) ?_
    exact RET _ _ _ () (by simp [gLe, c1]) rfl dX5_leastOf_11
set_option maxHeartbeats 4000000 in
set_option maxRecDepth 100000 in
theorem mX5_mostOf (G : gG) (k : Int32) (hk : gKd k) : CIe G yX5_mostOf wsX5_mostOf 0 0 [.int k] [] (gMo k) [] 0 0 := by
  refine g_enterIe (ty := .int) RX5 rfl (by decide) rfl (Nat.le_of_ble_eq_true rfl) ?_
  intro V E RET
  rcases hk with rfl | rfl | rfl | rfl | rfl | rfl
  · skip
    refine g_iload_n E dX5_mostOf_0 rfl 0 rfl ?_
    refine g_lookup (tgt := 52) (off := 51) E dX5_mostOf_1 (by decide) (by decide) (by decide) ?_
    refine g_iconst (v := 3) E dX5_mostOf_52 (by decide) ?_
    exact RET _ _ _ () (by decide) rfl dX5_mostOf_53
  · skip
    refine g_iload_n E dX5_mostOf_0 rfl 0 rfl ?_
    refine g_lookup (tgt := 54) (off := 53) E dX5_mostOf_1 (by decide) (by decide) (by decide) ?_
    refine g_bipush (v := 7) E dX5_mostOf_54 (by decide) ?_
    exact RET _ _ _ () (by decide) rfl dX5_mostOf_56
  · skip
    refine g_iload_n E dX5_mostOf_0 rfl 0 rfl ?_
    refine g_lookup (tgt := 57) (off := 56) E dX5_mostOf_1 (by decide) (by decide) (by decide) ?_
    refine g_bipush (v := 9) E dX5_mostOf_57 (by decide) ?_
    exact RET _ _ _ () (by decide) rfl dX5_mostOf_59
  · skip
    refine g_iload_n E dX5_mostOf_0 rfl 0 rfl ?_
    refine g_lookup (tgt := 60) (off := 59) E dX5_mostOf_1 (by decide) (by decide) (by decide) ?_
    refine g_bipush (v := 99) E dX5_mostOf_60 (by decide) ?_
    exact RET _ _ _ () (by decide) rfl dX5_mostOf_62
  · skip
    refine g_iload_n E dX5_mostOf_0 rfl 0 rfl ?_
    refine g_lookup (tgt := 63) (off := 62) E dX5_mostOf_1 (by decide) (by decide) (by decide) ?_
    refine g_bipush (v := 7) E dX5_mostOf_63 (by decide) ?_
    exact RET _ _ _ () (by decide) rfl dX5_mostOf_65
  · skip
    refine g_iload_n E dX5_mostOf_0 rfl 0 rfl ?_
    refine g_lookup (tgt := 66) (off := 65) E dX5_mostOf_1 (by decide) (by decide) (by decide) ?_
    refine g_bipush (v := 30) E dX5_mostOf_66 (by decide) ?_
    exact RET _ _ _ () (by decide) rfl dX5_mostOf_68
set_option maxHeartbeats 4000000 in
set_option maxRecDepth 100000 in
theorem mX5_withDigit (G : gG) (v s : Int32)  : CIe G yX5_withDigit wsX5_withDigit 0 0 [.int v, .int s] [] (gWD v s) [] 0 0 := by
  refine g_enterIe (ty := .int) RX5 rfl (by decide) rfl (Nat.le_of_ble_eq_true rfl) ?_
  intro V E RET
  refine g_iload_n E dX5_withDigit_0 rfl 1 rfl ?_
  refine g_bipush (v := 48) E dX5_withDigit_1 (by decide) ?_
  refine g_icmp_lt (tgt := 16) E dX5_withDigit_3 (by decide) (fun c1 => ?_) (fun c1 => ?_)
  · skip
    refine g_iconst (v := (-1)) E dX5_withDigit_16 (by decide) ?_
    exact RET _ _ _ () (by simp [gWD, c1]) rfl dX5_withDigit_17
  · skip
    refine g_iload_n E dX5_withDigit_6 rfl 1 rfl ?_
    refine g_bipush (v := 57) E dX5_withDigit_7 (by decide) ?_
    refine g_icmp_gt (tgt := 16) E dX5_withDigit_9 (by decide) (fun c2 => ?_) (fun c2 => ?_)
    · skip
      refine g_iconst (v := (-1)) E dX5_withDigit_16 (by decide) ?_
      exact RET _ _ _ () (by simp [gWD, c1, c2]) rfl dX5_withDigit_17
    · skip
      refine g_iload_n E dX5_withDigit_12 rfl 0 rfl ?_
      refine g_if_ne (tgt := 18) E dX5_withDigit_13 (by decide) (fun c3 => ?_) (fun c3 => ?_)
      · skip
        refine g_iload_n E dX5_withDigit_18 rfl 0 rfl ?_
        refine g_iconst (v := (-1)) E dX5_withDigit_19 (by decide) ?_
        refine g_icmp_ne (tgt := 27) E dX5_withDigit_20 (by decide) (fun c4 => ?_) (fun c4 => ?_)
        · skip
          refine g_bipush (v := 10) E dX5_withDigit_27 (by decide) ?_
          refine g_iload_n E dX5_withDigit_29 rfl 0 rfl ?_
          refine g_imul E dX5_withDigit_30 ?_
          refine g_iload_n E dX5_withDigit_31 rfl 1 rfl ?_
          refine g_iadd E dX5_withDigit_32 ?_
          refine g_bipush (v := 48) E dX5_withDigit_33 (by decide) ?_
          refine g_isub E dX5_withDigit_35 ?_
          exact RET _ _ _ () (by simp [gWD, c1, c2, c3, c4]) rfl dX5_withDigit_36
        · skip
          refine g_iconst (v := 0) E dX5_withDigit_23 (by decide) ?_
          refine g_goto (tgt := 31) E dX5_withDigit_24 (by decide) ?_
          refine g_iload_n E dX5_withDigit_31 rfl 1 rfl ?_
          refine g_iadd E dX5_withDigit_32 ?_
          refine g_bipush (v := 48) E dX5_withDigit_33 (by decide) ?_
          refine g_isub E dX5_withDigit_35 ?_
          exact RET _ _ _ () (by simp [gWD, c1, c2, c3, c4]) rfl dX5_withDigit_36
      · skip
        refine g_iconst (v := (-1)) E dX5_withDigit_16 (by decide) ?_
        exact RET _ _ _ () (by simp [gWD, c1, c2, c3]) rfl dX5_withDigit_17
set_option maxHeartbeats 4000000 in
set_option maxRecDepth 100000 in
theorem mX5_readWord (G : gG) (t0 t1 t2 : Nat) (n a wd : Nat) (sg nm : Nat → Int32) (hn : n ≤ 120) (ha : a ≤ 120) : CIu G yX5_readWord wsX5_readWord 7 188 [.ref t0] [(t0, .inr (5, [.int (nI n), .ref t1, .int (nI a), .int (nI wd), .ref t2])), (t1, .inl (gy G 1, 120, .inl sg)), (t2, .inl (gy G 0, 4, .inl nm))] (gBi (gRWd n sg a wd).1) (fun u : Nat × Nat => u = (gRWd n sg a wd).2) (fun (u : Nat × Nat) => [(t0, .inr (5, [.int (nI n), .ref t1, .int (nI u.1), .int (nI u.2), .ref t2])), (t1, .inl (gy G 1, 120, .inl sg)), (t2, .inl (gy G 0, 4, .inl nm))]) 0 0 := by
  refine g_enterIu (ty := .boolean) RX5 rfl (by decide) rfl (Nat.le_of_ble_eq_true rfl) ?_
  intro V E RET
  refine g_iconst (v := 0) E dX5_readWord_0 (by decide) ?_
  refine g_istore_n (lv' := [(1, .int 0), (0, .ref t0)]) E dX5_readWord_1 rfl (by decide) rfl ?_
  refine g_iconst (v := 0) E dX5_readWord_2 (by decide) ?_
  refine g_istore_n (lv' := [(2, .int 0), (1, .int 0), (0, .ref t0)]) E dX5_readWord_3 rfl (by decide) rfl ?_
  have loop1 : ∀ (n2 : Nat) (k m : Nat), (k ≤ 6) → (m ≤ 10) → (gRW (6 - k) k m n sg a wd = gRWd n sg a wd) → 6 - k < n2 → gW V 5 0 0 [(t0, .inr (5, [.int (nI n), .ref t1, .int (nI a), .int (nI wd), .ref t2])), (t1, .inl (gy G 1, 120, .inl sg)), (t2, .inl (gy G 0, 4, .inl nm))] [(0, .ref t0), (1, .int (nI m)), (2, .int (nI k))] 4 [] := by
    intro n2
    induction n2 with
    | zero => intro k m hk hm he hm4; exact absurd hm4 (Nat.not_lt_zero _)
    | succ n2 ih3 =>
      intro k m hk hm he hm4
      refine g_iload_n E dX5_readWord_4 rfl 2 rfl ?_
      refine g_bipush (v := 6) E dX5_readWord_5 (by decide) ?_
      refine g_icmp_geN (tgt := 62) (a := k) (b := 6) E dX5_readWord_7 (by decide) (by omega) (by omega) (fun c5 => ?_) (fun c5 => ?_)
      · skip
        have e9 : gRWd n sg a wd = (false, a + m, wd) := by rw [← he, show 6 - k = 0 by omega]; rfl
        refine g_aload_n E dX5_readWord_62 rfl 0 rfl ?_
        refine g_dup E dX5_readWord_63 rfl ?_
        refine g_get E uX5_readWord_RX5 0 rfl rfl 2 (by decide) kX5_readWord_30 rfl rfl dX5_readWord_64 ?_
        refine g_iload_n E dX5_readWord_67 rfl 1 rfl ?_
        refine g_iaddN (a := a) (b := m) E dX5_readWord_68 ?_
        refine g_put (ws' := [(t0, .inr (5, [.int (nI n), .ref t1, .int (nI (a + m)), .int (nI wd), .ref t2])), (t1, .inl (gy G 1, 120, .inl sg)), (t2, .inl (gy G 0, 4, .inl nm))]) E uX5_readWord_RX5 tyX5 tyX5_ok nmX5 0 rfl rfl 2 (by decide) kX5_readWord_30 rfl rfl rfl rfl (Nat.le_of_ble_eq_true rfl) rfl dX5_readWord_69 ?_
        refine g_iconst (v := 0) E dX5_readWord_72 (by decide) ?_
        exact RET _ _ _ (_, _) (⟨by rw [e9]; rfl, by rw [e9]⟩) rfl dX5_readWord_73
      · skip
        have hk6 : k < 6 := by omega
        have hsl := gSame_le (n := n) (sg := sg) (a := a) (l := (gWi_z k).2.2.2)
        have hzl := gWi_len hk6
        refine g_iload_n E dX5_readWord_10 rfl 2 rfl ?_
        refine g_callSRe (F := [(t0, .inr (5, [.int (nI n), .ref t1, .int (nI a), .int (nI wd), .ref t2])), (t1, .inl (gy G 1, 120, .inl sg)), (t2, .inl (gy G 0, 4, .inl nm))]) (ws2 := [(t0, .inr (5, [.int (nI n), .ref t1, .int (nI a), .int (nI wd), .ref t2])), (t1, .inl (gy G 1, 120, .inl sg)), (t2, .inl (gy G 0, 4, .inl nm))]) E (mX5_spellingOf G k (by omega)) gX5_readWord_X5_spellingOf rfl hnX5_spellingOf ⟨Nat.le_of_ble_eq_true rfl, Nat.le_of_ble_eq_true rfl⟩ (gPerm_ix [0, 1, 2] rfl rfl) rfl rfl (Nat.le_of_ble_eq_true rfl) dX5_readWord_11 ⟨Nat.le_of_ble_eq_true rfl, Nat.le_of_ble_eq_true rfl⟩ (gPerm_ix [0, 1, 2] rfl rfl) ?_
        refine g_astore_n (lv' := [(3, .ref (gz G (100 + 2 * (gWi k)))), (0, .ref t0), (1, .int (nI m)), (2, .int (nI k))]) E dX5_readWord_14 rfl (by decide) rfl ?_
        refine g_aload_n E dX5_readWord_15 rfl 1 rfl ?_
        refine g_aload_n E dX5_readWord_16 rfl 0 rfl ?_
        refine g_callVIe (F := []) (ws2 := [(t0, .inr (5, [.int (nI n), .ref t1, .int (nI a), .int (nI wd), .ref t2])), (t1, .inl (gy G 1, 120, .inl sg)), (t2, .inl (gy G 0, 4, .inl nm))]) E (mX5_sameSigns G t0 t1 t2 n a wd sg nm (gWi k) (gWi_z k) (gWi_ok (by omega)) (by omega) (by omega)) gX5_readWord_X5_sameSigns rfl hdX5_sameSigns ⟨Nat.le_of_ble_eq_true rfl, Nat.le_of_ble_eq_true rfl⟩ 5 0 rfl rfl rfl (gPerm_ix [0, 1, 2] rfl rfl) rfl rfl (Nat.le_of_ble_eq_true rfl) dX5_readWord_17 ⟨Nat.le_of_ble_eq_true rfl, Nat.le_of_ble_eq_true rfl⟩ (gPerm_ix [0, 1, 2] rfl rfl) ?_
        refine g_istore (lv' := [(4, .int (nI (gSame n sg a (gWi_z k).2.2.2))), (3, .ref (gz G (100 + 2 * (gWi k)))), (0, .ref t0), (1, .int (nI m)), (2, .int (nI k))]) E dX5_readWord_20 (by decide) rfl ?_
        refine g_iload E dX5_readWord_22 0 rfl ?_
        refine g_aload_n E dX5_readWord_24 rfl 1 rfl ?_
        refine g_callOIe (F := [(t0, .inr (5, [.int (nI n), .ref t1, .int (nI a), .int (nI wd), .ref t2])), (t1, .inl (gy G 1, 120, .inl sg)), (t2, .inl (gy G 0, 4, .inl nm))]) (ws2 := [(t0, .inr (5, [.int (nI n), .ref t1, .int (nI a), .int (nI wd), .ref t2])), (t1, .inl (gy G 1, 120, .inl sg)), (t2, .inl (gy G 0, 4, .inl nm))]) E (mJ0_length_8abf5 G (gWi k) (gWi_z k) (gWi_ok (by omega))) gX5_readWord_J0_length_8abf5 rfl hdJ0_length_8abf5 ⟨Nat.le_of_ble_eq_true rfl, Nat.le_of_ble_eq_true rfl⟩ (gWi_ok (by omega)) (gPerm_ix [0, 1, 2] rfl rfl) rfl rfl (Nat.le_of_ble_eq_true rfl) dX5_readWord_25 ⟨Nat.le_of_ble_eq_true rfl, Nat.le_of_ble_eq_true rfl⟩ (gPerm_ix [0, 1, 2] rfl rfl) ?_
        refine g_icmp_neN (tgt := 49) (a := gSame n sg a (gWi_z k).2.2.2) (b := (gWi_z k).2.2.2.length) E dX5_readWord_28 (by decide) (by omega) (by omega) (fun c6 => ?_) (fun c6 => ?_)
        · skip
          refine g_iload_n E dX5_readWord_49 rfl 3 rfl ?_
          refine g_iload E dX5_readWord_50 0 rfl ?_
          refine g_mmax E (by decide +kernel) (by decide +kernel) (by decide +kernel) (by decide +kernel) (Nat.le_of_ble_eq_true rfl) (Nat.le_of_ble_eq_true rfl) (Nat.le_of_ble_eq_true rfl) (Nat.le_of_ble_eq_true rfl) (Nat.le_of_ble_eq_true rfl) dX5_readWord_52 ?_
          refine g_top (y := nI (max m (gSame n sg a (gWi_z k).2.2.2))) (g_max_N (a := m) (b := gSame n sg a (gWi_z k).2.2.2) (by omega) (by omega)) ?_
          refine g_istore_n (lv' := [(1, .int (nI (max m (gSame n sg a (gWi_z k).2.2.2)))), (4, .int (nI (gSame n sg a (gWi_z k).2.2.2))), (3, .ref (gz G (100 + 2 * (gWi k)))), (0, .ref t0), (2, .int (nI k))]) E dX5_readWord_55 rfl (by decide) rfl ?_
          refine g_iinc (lv' := [(2, .int (nI (k + 1))), (1, .int (nI (max m (gSame n sg a (gWi_z k).2.2.2)))), (4, .int (nI (gSame n sg a (gWi_z k).2.2.2))), (3, .ref (gz G (100 + 2 * (gWi k)))), (0, .ref t0)]) E dX5_readWord_56 4 rfl (g_inc _ 1 (by decide)) (by decide) rfl ?_
          refine g_goto (tgt := 4) E dX5_readWord_59 (by decide) ?_
          refine g_lv [4, 1, 0] rfl ?_
          exact ih3  (k + 1) _ (by omega) (by omega) (gRW_no hk6 c6 he) (by omega)
        · skip
          have e9 : gRWd n sg a wd = (true, a + gSame n sg a (gWi_z k).2.2.2, k) := gRW_yes hk6 c6 he
          refine g_aload_n E dX5_readWord_31 rfl 2 rfl ?_
          refine g_iload_n E dX5_readWord_32 rfl 4 rfl ?_
          refine g_put (ws' := [(t0, .inr (5, [.int (nI n), .ref t1, .int (nI a), .int (nI k), .ref t2])), (t1, .inl (gy G 1, 120, .inl sg)), (t2, .inl (gy G 0, 4, .inl nm))]) E uX5_readWord_RX5 tyX5 tyX5_ok nmX5 0 rfl rfl 3 (by decide) kX5_readWord_40 rfl rfl rfl rfl (Nat.le_of_ble_eq_true rfl) rfl dX5_readWord_33 ?_
          refine g_aload_n E dX5_readWord_36 rfl 2 rfl ?_
          refine g_dup E dX5_readWord_37 rfl ?_
          refine g_get E uX5_readWord_RX5 0 rfl rfl 2 (by decide) kX5_readWord_30 rfl rfl dX5_readWord_38 ?_
          refine g_iload E dX5_readWord_41 0 rfl ?_
          refine g_iaddN (a := a) (b := gSame n sg a (gWi_z k).2.2.2) E dX5_readWord_43 ?_
          refine g_put (ws' := [(t0, .inr (5, [.int (nI n), .ref t1, .int (nI (a + (gSame n sg a (gWi_z k).2.2.2))), .int (nI k), .ref t2])), (t1, .inl (gy G 1, 120, .inl sg)), (t2, .inl (gy G 0, 4, .inl nm))]) E uX5_readWord_RX5 tyX5 tyX5_ok nmX5 0 rfl rfl 2 (by decide) kX5_readWord_30 rfl rfl rfl rfl (Nat.le_of_ble_eq_true rfl) rfl dX5_readWord_44 ?_
          refine g_iconst (v := 1) E dX5_readWord_47 (by decide) ?_
          exact RET _ _ _ (_, _) (⟨by rw [e9]; rfl, by rw [e9]⟩) rfl dX5_readWord_48
  refine g_lv [2, 1, 0] rfl ?_
  exact loop1 _ 0 0 (Nat.zero_le _) (Nat.zero_le _) rfl (Nat.lt_succ_self _)
