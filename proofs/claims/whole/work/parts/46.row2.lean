theorem gCmp_lt {x y : Int64} : lg_cmp x y < 0 ↔ x < y := by
  unfold lg_cmp
  split
  · rename_i h
    have h1 : y < x := h
    rw [Int64.lt_iff_toInt_lt] at h1
    rw [Int64.lt_iff_toInt_lt]
    exact ⟨fun c => absurd c (by decide), fun c => by omega⟩
  · split
    · rename_i h
      rw [h, Int64.lt_iff_toInt_lt]
      exact ⟨fun c => absurd c (by decide), fun c => by omega⟩
    · rename_i h1 h2
      have h3 : ¬ y < x := h1
      have h4 : x.toInt ≠ y.toInt := fun e => h2 (Int64.toInt_inj.mp e)
      rw [Int64.lt_iff_toInt_lt] at h3
      rw [Int64.lt_iff_toInt_lt]
      exact ⟨fun _ => by omega, fun _ => by decide⟩
theorem gCmp_gt {x y : Int64} : 0 < lg_cmp x y ↔ y < x := by
  unfold lg_cmp
  split
  · rename_i h
    exact ⟨fun _ => h, fun _ => by decide⟩
  · rename_i h
    have h3 : ¬ y < x := h
    split
    · exact ⟨fun c => absurd c (by decide), fun c => absurd c h3⟩
    · exact ⟨fun c => absurd c (by decide), fun c => absurd c h3⟩
theorem gIn64 {x lo hi : Int32} {l h : Int64} (hl : l = lo.toInt64) (hh : h = hi.toInt64) : (if (¬ x.toInt64 < l ∧ ¬ h < x.toInt64) then (1 : Int32) else 0) = (if (¬ x < lo ∧ ¬ hi < x) then 1 else 0) := by
  subst hl hh
  simp only [Int64.lt_iff_toInt_lt, Int32.lt_iff_toInt_lt, Int32.toInt_toInt64]
/-- whether a booking comes behind a time and a booth -/
def gBhd (b : Nat → Nat) (d h : Nat) (t : Int32) : Bool := decide (d < b 0) || (decide (b 0 = d) && (decide (h < b 1) || (decide (b 1 = h) && decide (t < nI (b 2)))))
theorem gSub_gt {a b : Nat} (ha : a < 1073741824) (hb : b < 1073741824) : 0 < nI a - nI b ↔ b < a := by
  rw [Int32.lt_iff_toInt_lt, Int32.toInt_sub, nI_toInt (by omega), nI_toInt (by omega)]
  rw [Int.bmod_eq_of_le (by omega) (by omega)]
  show (0 : Int) < _ ↔ _
  omega
theorem gSub_eq {a b : Nat} (ha : a < 1073741824) (hb : b < 1073741824) : nI a - nI b = 0 ↔ a = b := by
  rw [← Int32.toInt_inj, Int32.toInt_sub, nI_toInt (by omega), nI_toInt (by omega)]
  rw [Int.bmod_eq_of_le (by omega) (by omega)]
  show _ = (0 : Int) ↔ _
  omega
def gPd : Nat → Int32
  | 0 => -1
  | b + 1 => nI b
theorem gPd_dec : ∀ b : Nat, nI b + (-1) = gPd b
  | 0 => rfl
  | b + 1 => by
    show nI (b + 1) + (-1) = nI b
    rw [nI_add1, Int32.add_assoc, show (1 : Int32) + (-1) = 0 by decide, Int32.add_zero]
theorem gPd_pos {b : Nat} (h : 0 < b) : nI (b - 1) = gPd b := by
  obtain ⟨c, rfl⟩ : ∃ c, b = c + 1 := ⟨b - 1, by omega⟩
  rfl
/-- the lowest place below b whose bit is not there; else what was found -/
def gFd : Nat → Int32 → Int32 → Int32
  | 0, fd, _ => fd
  | b + 1, fd, x => gFd b (if gHb x (nI b) = true then fd else nI b) x
def gFb (S : gSt) (d h : Nat) : Int32 := gFd (sS S 0) (-1) (gVih (sB S) 2 d h (sB S).length)
theorem gAnd1 (y : Int32) : y &&& 1 = 0 ∨ y &&& 1 = 1 := by
  have h : (y &&& 1).toBitVec = y.toBitVec &&& 1#32 := rfl
  rw [BitVec.and_one_eq_setWidth_ofBool_getLsbD] at h
  cases e : y.toBitVec.getLsbD 0
  · left
    apply Int32.toBitVec_inj.mp
    rw [h, e]
    rfl
  · right
    apply Int32.toBitVec_inj.mp
    rw [h, e]
    rfl
theorem gFd_no {b : Nat} {fd x r : Int32} (h : ¬ (x >>> (nI b &&& 31)) &&& 1 = 0) (he : gFd (b + 1) fd x = r) : gFd b fd x = r := by
  have h1 : gHb x (nI b) = true := by unfold gHb; exact decide_eq_true ((gAnd1 _).resolve_left h)
  rw [gFd, if_pos h1] at he
  exact he
theorem gFd_yes {b : Nat} {fd x r : Int32} (h : (x >>> (nI b &&& 31)) &&& 1 = 0) (he : gFd (b + 1) fd x = r) : gFd b (nI b) x = r := by
  have h1 : ¬ gHb x (nI b) = true := by unfold gHb; rw [h]; decide
  rw [gFd, if_neg h1] at he
  exact he
def gWhyR (S : gSt) (p v d h : Nat) : Nat :=
  if gHb (sI S 1 p) (nI v) = true then (if nI d < sI S 2 p then 2 else if nI d < sI S 7 v then 3 else if (if d / 7 = sN S 0 / 7 then sI S 4 p else 0) + nI (gCW (sB S) p (d / 7)) ≤ sI S 0 p then
    (if gBz S p v d h (sB S).length = true then 5 else if gMa S p d h (sB S).length = true then 6 else if gFb S d h = -1 then 7 else if (sB S).length = 24 then 8 else 0) else 4) else 1
def gTen : Nat → Int64
  | 0 => 1
  | n + 1 => gTen n * 10
set_option maxHeartbeats 4000000 in
set_option maxRecDepth 100000 in
theorem mX8_in (G : gG) (v lo hi : Int64)  : CIe G yX8_in wsX8_in 0 0 [.long v, .long lo, .long hi] [] (if (¬ v < lo ∧ ¬ hi < v) then 1 else 0) [] 0 0 := by
  refine g_enterIe (ty := .boolean) RX8 rfl (by decide) rfl (Nat.le_of_ble_eq_true rfl) ?_
  intro V E RET
  refine g_lload_n E dX8_in_0 rfl 0 rfl ?_
  refine g_lload_n E dX8_in_1 rfl 1 rfl ?_
  refine g_lcmp E dX8_in_2 ?_
  refine g_if_lt (tgt := 17) E dX8_in_3 (by decide) (fun c1 => ?_) (fun c1 => ?_)
  · skip
    rw [gCmp_lt] at c1
    refine g_iconst (v := 0) E dX8_in_17 (by decide) ?_
    exact RET _ _ _ () (by first | (simp [c1]; done) | (simp [c1, -Int64.not_lt]; done)) rfl dX8_in_18
  · skip
    rw [gCmp_lt] at c1
    refine g_lload_n E dX8_in_6 rfl 0 rfl ?_
    refine g_lload E dX8_in_7 2 rfl ?_
    refine g_lcmp E dX8_in_9 ?_
    refine g_if_gt (tgt := 17) E dX8_in_10 (by decide) (fun c2 => ?_) (fun c2 => ?_)
    · skip
      rw [gCmp_gt] at c2
      refine g_iconst (v := 0) E dX8_in_17 (by decide) ?_
      exact RET _ _ _ () (by first | (simp [c1, c2]; done) | (simp [c1, c2, -Int64.not_lt]; done)) rfl dX8_in_18
    · skip
      rw [gCmp_gt] at c2
      refine g_iconst (v := 1) E dX8_in_13 (by decide) ?_
      refine g_goto (tgt := 18) E dX8_in_14 (by decide) ?_
      exact RET _ _ _ () (by first | (simp [c1, c2]; done) | (simp [c1, c2, -Int64.not_lt]; done)) rfl dX8_in_18

set_option maxHeartbeats 4000000 in
set_option maxRecDepth 100000 in
theorem mX8_isTime (G : gG) (r : Nat) (S : gSt) (f : Nat → Int32) (d h : Int32) (hI : gI1r S) (hT : sN S 0 < 1000000000) (hRR : RR S f) : CIe G yX8_isTime wsX8_isTime 1 25 [.ref r, .int d, .int h] [(r, .inl (gy G 0, 271, .inl f))] (if ((¬ d < nI (sN S 0) ∧ ¬ 9999 < d) ∧ (¬ h < 0 ∧ ¬ 7 < h)) then 1 else 0) [(r, .inl (gy G 0, 271, .inl f))] 0 0 := by
  refine g_enterIe (ty := .boolean) RX8 rfl (by decide) rfl (Nat.le_of_ble_eq_true rfl) ?_
  intro V E RET
  have hX := hI
  obtain ⟨hP8, hn, hw, hW8, hs3, hs4, hs5, hs6, hs7, hs8, hb34⟩ := hX
  refine g_iload_n E dX8_isTime_0 rfl 1 rfl ?_
  refine g_i2l (v := d.toInt64) E dX8_isTime_1 rfl ?_
  refine g_aload_n E dX8_isTime_2 rfl 0 rfl ?_
  refine g_iconst (v := 0) E dX8_isTime_3 (by decide) ?_
  refine g_ialdN (e := 0) E 0 rfl (by omega) rfl (v := nI (sN S 0)) (RR_0 hRR) dX8_isTime_4 ?_
  refine g_i2l (v := (nI (sN S 0)).toInt64) E dX8_isTime_5 rfl ?_
  refine g_ldc2 (v := 9999) E kX8_isTime_138 dX8_isTime_6 ?_
  refine g_callSIe (F := [(r, .inl (gy G 0, 271, .inl f))]) (ws2 := [(r, .inl (gy G 0, 271, .inl f))]) E (g_resI (gIn64 (lo := nI (sN S 0)) (hi := 9999) rfl rfl) (mX8_in G d.toInt64 ((nI (sN S 0)).toInt64) 9999)) gX8_isTime_X8_in rfl hnX8_in ⟨Nat.le_of_ble_eq_true rfl, Nat.le_of_ble_eq_true rfl⟩ (gPerm_ix [0] rfl rfl) rfl rfl (Nat.le_of_ble_eq_true rfl) dX8_isTime_9 ⟨Nat.le_of_ble_eq_true rfl, Nat.le_of_ble_eq_true rfl⟩ (gPerm_ix [0] rfl rfl) ?_
  refine g_if_eqB (tgt := 31) (P := (¬ d < (nI (sN S 0)) ∧ ¬ 9999 < d)) E dX8_isTime_12 (by decide) (fun c1 => ?_) (fun c1 => ?_)
  · skip
    refine g_iconst (v := 0) E dX8_isTime_31 (by decide) ?_
    exact RET _ _ _ () (by first | (simp [c1]; done) | (simp [c1, -Int32.not_lt]; done)) rfl dX8_isTime_32
  · skip
    refine g_iload_n E dX8_isTime_15 rfl 2 rfl ?_
    refine g_i2l (v := h.toInt64) E dX8_isTime_16 rfl ?_
    refine g_lconst (v := 0) E dX8_isTime_17 (by decide) ?_
    refine g_ldc2 (v := 7) E kX8_isTime_144 dX8_isTime_18 ?_
    refine g_callSIe (F := [(r, .inl (gy G 0, 271, .inl f))]) (ws2 := [(r, .inl (gy G 0, 271, .inl f))]) E (g_resI (gIn64 (lo := 0) (hi := 7) rfl rfl) (mX8_in G h.toInt64 0 7)) gX8_isTime_X8_in rfl hnX8_in ⟨Nat.le_of_ble_eq_true rfl, Nat.le_of_ble_eq_true rfl⟩ (gPerm_ix [0] rfl rfl) rfl rfl (Nat.le_of_ble_eq_true rfl) dX8_isTime_21 ⟨Nat.le_of_ble_eq_true rfl, Nat.le_of_ble_eq_true rfl⟩ (gPerm_ix [0] rfl rfl) ?_
    refine g_if_eqB (tgt := 31) (P := (¬ h < 0 ∧ ¬ 7 < h)) E dX8_isTime_24 (by decide) (fun c2 => ?_) (fun c2 => ?_)
    · skip
      refine g_iconst (v := 0) E dX8_isTime_31 (by decide) ?_
      exact RET _ _ _ () (by first | (simp [c1, c2]; done) | (simp [c1, c2, -Int32.not_lt]; done)) rfl dX8_isTime_32
    · skip
      refine g_iconst (v := 1) E dX8_isTime_27 (by decide) ?_
      refine g_goto (tgt := 32) E dX8_isTime_28 (by decide) ?_
      exact RET _ _ _ () (by first | (simp [c1, c2]; done) | (simp [c1, c2, -Int32.not_lt]; done)) rfl dX8_isTime_32

set_option maxHeartbeats 4000000 in
set_option maxRecDepth 100000 in
theorem mX8_canWish (G : gG) (r : Nat) (S : gSt) (f : Nat → Int32) (p v : Nat) (hI : gI1 S) (hT : sN S 0 < 1000000000) (hRR : RR S f) (hp : p < 8) (hv : v < 10) : CIe G yX8_canWish wsX8_canWish 2 43 [.ref r, .int (nI p), .int (nI v)] [(r, .inl (gy G 0, 271, .inl f))] (if (gHb (sI S 1 p) (nI v) = true ∧ (sW S).length < 10) then 1 else 0) [(r, .inl (gy G 0, 271, .inl f))] 0 0 := by
  refine g_enterIe (ty := .boolean) RX8 rfl (by decide) rfl (Nat.le_of_ble_eq_true rfl) ?_
  intro V E RET
  have hX := hI
  obtain ⟨hP8, hn, hw, hW8, hs3, hs4, hs5, hs6, hs7, hs8, hb34⟩ := hX
  refine g_aload_n E dX8_canWish_0 rfl 0 rfl ?_
  refine g_iload_n E dX8_canWish_1 rfl 1 rfl ?_
  refine g_iload_n E dX8_canWish_2 rfl 2 rfl ?_
  refine g_callSIe (F := []) (ws2 := [(r, .inl (gy G 0, 271, .inl f))]) E (mX8_isListed G r S f p v (gI1_r hI) hT hRR (by omega) (by omega)) gX8_canWish_X8_isListed rfl hnX8_isListed ⟨Nat.le_of_ble_eq_true rfl, Nat.le_of_ble_eq_true rfl⟩ (gPerm_ix [0] rfl rfl) rfl rfl (Nat.le_of_ble_eq_true rfl) dX8_canWish_3 ⟨Nat.le_of_ble_eq_true rfl, Nat.le_of_ble_eq_true rfl⟩ (gPerm_ix [0] rfl rfl) ?_
  refine g_if_eqB (tgt := 21) (P := gHb (sI S 1 p) (nI v) = true) E dX8_canWish_6 (by decide) (fun c1 => ?_) (fun c1 => ?_)
  · skip
    refine g_iconst (v := 0) E dX8_canWish_21 (by decide) ?_
    exact RET _ _ _ () (by first | (simp [c1]; done) | (have := c2; simp [c1]; omega)) rfl dX8_canWish_22
  · skip
    refine g_aload_n E dX8_canWish_9 rfl 0 rfl ?_
    refine g_iconst (v := 3) E dX8_canWish_10 (by decide) ?_
    refine g_ialdN (e := 3) E 0 rfl (by omega) rfl (v := nI ((sW S).length)) (RR_3 hRR) dX8_canWish_11 ?_
    refine g_bipush (v := 10) E dX8_canWish_12 (by decide) ?_
    refine g_icmp_geN (tgt := 21) (a := (sW S).length) (b := 10) E dX8_canWish_14 (by decide) (by omega) (by omega) (fun c2 => ?_) (fun c2 => ?_)
    · skip
      refine g_iconst (v := 0) E dX8_canWish_21 (by decide) ?_
      exact RET _ _ _ () (by first | (simp [c1, c2]; done) | (have := c2; simp [c1, c2]; omega)) rfl dX8_canWish_22
    · skip
      refine g_iconst (v := 1) E dX8_canWish_17 (by decide) ?_
      refine g_goto (tgt := 22) E dX8_canWish_18 (by decide) ?_
      exact RET _ _ _ () (by first | (simp [c1, c2]; done) | (have := c2; simp [c1, c2]; omega)) rfl dX8_canWish_22

set_option maxHeartbeats 4000000 in
set_option maxRecDepth 100000 in
theorem mX8_visitsOf (G : gG) (r : Nat) (S : gSt) (f : Nat → Int32) (k : Nat) (hI : gI1 S) (hT : sN S 0 < 1000000000) (hRR : RR S f) (hk : k < (sW S).length) : CIe G yX8_visitsOf wsX8_visitsOf 1 21 [.ref r, .int (nI k)] [(r, .inl (gy G 0, 271, .inl f))] (sI S 3 (wq (sW S) k / 10)) [(r, .inl (gy G 0, 271, .inl f))] 0 0 := by
  refine g_enterIe (ty := .int) RX8 rfl (by decide) rfl (Nat.le_of_ble_eq_true rfl) ?_
  intro V E RET
  have hX := hI
  obtain ⟨hP8, hn, hw, hW8, hs3, hs4, hs5, hs6, hs7, hs8, hb34⟩ := hX
  have q2 := hW8 k hk
  refine g_aload_n E dX8_visitsOf_0 rfl 0 rfl ?_
  refine g_aload_n E dX8_visitsOf_1 rfl 0 rfl ?_
  refine g_sipush (v := 261) E dX8_visitsOf_2 (by decide) ?_
  refine g_iload_n E dX8_visitsOf_5 rfl 1 rfl ?_
  refine g_iaddN (a := 261) (b := k) E dX8_visitsOf_6 ?_
  refine g_ialdN (e := 261 + k) E 0 rfl (by omega) rfl (v := nI (wq (sW S) k)) (RR_W hRR (k := k) (by omega)) dX8_visitsOf_7 ?_
  refine g_bipush (v := 10) E dX8_visitsOf_8 (by decide) ?_
  refine g_idivN (a := wq (sW S) k) (b := 10) E dX8_visitsOf_10 (by omega) (by omega) (by omega) ?_
  refine g_iconst (v := 3) E dX8_visitsOf_11 (by decide) ?_
  refine g_callSIe (F := [(r, .inl (gy G 0, 271, .inl f))]) (ws2 := [(r, .inl (gy G 0, 271, .inl f))]) E (mX8_prisonerAt G ((wq (sW S) k) / 10) 3 (by omega) (by omega)) gX8_visitsOf_X8_prisonerAt rfl hnX8_prisonerAt ⟨Nat.le_of_ble_eq_true rfl, Nat.le_of_ble_eq_true rfl⟩ (gPerm_ix [0] rfl rfl) rfl rfl (Nat.le_of_ble_eq_true rfl) dX8_visitsOf_12 ⟨Nat.le_of_ble_eq_true rfl, Nat.le_of_ble_eq_true rfl⟩ (gPerm_ix [0] rfl rfl) ?_
  refine g_ialdN (e := 15 + 6 * ((wq (sW S) k) / 10) + 3) E 0 rfl (by omega) rfl (v := sI S 3 ((wq (sW S) k) / 10)) (RR_P hRR (p := (wq (sW S) k) / 10) (w := 3) (by omega) (by omega)) dX8_visitsOf_15 ?_
  exact RET _ _ _ () (rfl) rfl dX8_visitsOf_16

set_option maxHeartbeats 4000000 in
set_option maxRecDepth 100000 in
theorem mX8_isBehind (G : gG) (r : Nat) (S : gSt) (f : Nat → Int32) (k d h : Nat) (t : Int32) (hI : gI1r S) (hT : sN S 0 < 1000000000) (hRR : RR S f) (hk : k < (sB S).length) (hd : d < 1073741824) (hh : h < 1073741824) : CIe G yX8_isBehind wsX8_isBehind 1 21 [.ref r, .int (nI k), .int (nI d), .int (nI h), .int t] [(r, .inl (gy G 0, 271, .inl f))] (if gBhd (bk (sB S) k) d h t = true then 1 else 0) [(r, .inl (gy G 0, 271, .inl f))] 0 0 := by
  refine g_enterIe (ty := .boolean) RX8 rfl (by decide) rfl (Nat.le_of_ble_eq_true rfl) ?_
  intro V E RET
  have hX := hI
  obtain ⟨hP8, hn, hw, hW8, hs3, hs4, hs5, hs6, hs7, hs8, hb34⟩ := hX
  have q0 := (hRR.2.2.2.2.2.2.2.2.1 k hk 0 (by decide)).2
  have q1 := (hRR.2.2.2.2.2.2.2.2.1 k hk 1 (by decide)).2
  refine g_aload_n E dX8_isBehind_0 rfl 0 rfl ?_
  refine g_iload_n E dX8_isBehind_1 rfl 1 rfl ?_
  refine g_iconst (v := 0) E dX8_isBehind_2 (by decide) ?_
  refine g_callSIe (F := [(r, .inl (gy G 0, 271, .inl f))]) (ws2 := [(r, .inl (gy G 0, 271, .inl f))]) E (mX8_bookingAt G k 0 (by omega) (by omega)) gX8_isBehind_X8_bookingAt rfl hnX8_bookingAt ⟨Nat.le_of_ble_eq_true rfl, Nat.le_of_ble_eq_true rfl⟩ (gPerm_ix [0] rfl rfl) rfl rfl (Nat.le_of_ble_eq_true rfl) dX8_isBehind_3 ⟨Nat.le_of_ble_eq_true rfl, Nat.le_of_ble_eq_true rfl⟩ (gPerm_ix [0] rfl rfl) ?_
  refine g_ialdN (e := 93 + 7 * k + 0) E 0 rfl (by omega) rfl (v := nI (bk (sB S) k 0)) (RR_B hRR (k := k) (w := 0) (by omega) (by omega)) dX8_isBehind_6 ?_
  refine g_iload_n E dX8_isBehind_7 rfl 2 rfl ?_
  refine g_isub E dX8_isBehind_8 ?_
  refine g_istore (lv' := [(5, .int ((nI (bk (sB S) k 0)) - (nI d))), (0, .ref r), (1, .int (nI k)), (2, .int (nI d)), (3, .int (nI h)), (4, .int t)]) E dX8_isBehind_9 (by decide) rfl ?_
  refine g_aload_n E dX8_isBehind_11 rfl 1 rfl ?_
  refine g_iload_n E dX8_isBehind_12 rfl 2 rfl ?_
  refine g_iconst (v := 1) E dX8_isBehind_13 (by decide) ?_
  refine g_callSIe (F := [(r, .inl (gy G 0, 271, .inl f))]) (ws2 := [(r, .inl (gy G 0, 271, .inl f))]) E (mX8_bookingAt G k 1 (by omega) (by omega)) gX8_isBehind_X8_bookingAt rfl hnX8_bookingAt ⟨Nat.le_of_ble_eq_true rfl, Nat.le_of_ble_eq_true rfl⟩ (gPerm_ix [0] rfl rfl) rfl rfl (Nat.le_of_ble_eq_true rfl) dX8_isBehind_14 ⟨Nat.le_of_ble_eq_true rfl, Nat.le_of_ble_eq_true rfl⟩ (gPerm_ix [0] rfl rfl) ?_
  refine g_ialdN (e := 93 + 7 * k + 1) E 0 rfl (by omega) rfl (v := nI (bk (sB S) k 1)) (RR_B hRR (k := k) (w := 1) (by omega) (by omega)) dX8_isBehind_17 ?_
  refine g_iload_n E dX8_isBehind_18 rfl 4 rfl ?_
  refine g_isub E dX8_isBehind_19 ?_
  refine g_istore (lv' := [(6, .int ((nI (bk (sB S) k 1)) - (nI h))), (5, .int ((nI (bk (sB S) k 0)) - (nI d))), (0, .ref r), (1, .int (nI k)), (2, .int (nI d)), (3, .int (nI h)), (4, .int t)]) E dX8_isBehind_20 (by decide) rfl ?_
  refine g_iload E dX8_isBehind_22 1 rfl ?_
  refine g_if_gt (tgt := 54) E dX8_isBehind_24 (by decide) (fun c1 => ?_) (fun c1 => ?_)
  · skip
    rw [gSub_gt q0 hd] at c1
    refine g_iconst (v := 1) E dX8_isBehind_54 (by decide) ?_
    refine g_goto (tgt := 59) E dX8_isBehind_55 (by decide) ?_
    exact RET _ _ _ () (by first | (simp [gBhd, c1]; done) | (simp [gBhd, c1, -Int32.not_lt]; done)) rfl dX8_isBehind_59
  · skip
    rw [gSub_gt q0 hd] at c1
    refine g_iload E dX8_isBehind_27 1 rfl ?_
    refine g_if_ne (tgt := 58) E dX8_isBehind_29 (by decide) (fun c2 => ?_) (fun c2 => ?_)
    · skip
      rw [gSub_eq q0 hd] at c2
      refine g_iconst (v := 0) E dX8_isBehind_58 (by decide) ?_
      exact RET _ _ _ () (by first | (simp [gBhd, c1, c2]; done) | (simp [gBhd, c1, c2, -Int32.not_lt]; done)) rfl dX8_isBehind_59
    · skip
      rw [gSub_eq q0 hd] at c2
      refine g_iload E dX8_isBehind_32 0 rfl ?_
      refine g_if_gt (tgt := 54) E dX8_isBehind_34 (by decide) (fun c3 => ?_) (fun c3 => ?_)
      · skip
        rw [gSub_gt q1 hh] at c3
        refine g_iconst (v := 1) E dX8_isBehind_54 (by decide) ?_
        refine g_goto (tgt := 59) E dX8_isBehind_55 (by decide) ?_
        exact RET _ _ _ () (by first | (simp [gBhd, c1, c2, c3]; done) | (simp [gBhd, c1, c2, c3, -Int32.not_lt]; done)) rfl dX8_isBehind_59
      · skip
        rw [gSub_gt q1 hh] at c3
        refine g_iload E dX8_isBehind_37 0 rfl ?_
        refine g_if_ne (tgt := 58) E dX8_isBehind_39 (by decide) (fun c4 => ?_) (fun c4 => ?_)
        · skip
          rw [gSub_eq q1 hh] at c4
          refine g_iconst (v := 0) E dX8_isBehind_58 (by decide) ?_
          exact RET _ _ _ () (by first | (simp [gBhd, c1, c2, c3, c4]; done) | (simp [gBhd, c1, c2, c3, c4, -Int32.not_lt]; done)) rfl dX8_isBehind_59
        · skip
          rw [gSub_eq q1 hh] at c4
          refine g_aload_n E dX8_isBehind_42 rfl 2 rfl ?_
          refine g_iload_n E dX8_isBehind_43 rfl 3 rfl ?_
          refine g_iconst (v := 2) E dX8_isBehind_44 (by decide) ?_
          refine g_callSIe (F := [(r, .inl (gy G 0, 271, .inl f))]) (ws2 := [(r, .inl (gy G 0, 271, .inl f))]) E (mX8_bookingAt G k 2 (by omega) (by omega)) gX8_isBehind_X8_bookingAt rfl hnX8_bookingAt ⟨Nat.le_of_ble_eq_true rfl, Nat.le_of_ble_eq_true rfl⟩ (gPerm_ix [0] rfl rfl) rfl rfl (Nat.le_of_ble_eq_true rfl) dX8_isBehind_45 ⟨Nat.le_of_ble_eq_true rfl, Nat.le_of_ble_eq_true rfl⟩ (gPerm_ix [0] rfl rfl) ?_
          refine g_ialdN (e := 93 + 7 * k + 2) E 0 rfl (by omega) rfl (v := nI (bk (sB S) k 2)) (RR_B hRR (k := k) (w := 2) (by omega) (by omega)) dX8_isBehind_48 ?_
          refine g_iload E dX8_isBehind_49 6 rfl ?_
          refine g_icmp_le (tgt := 58) E dX8_isBehind_51 (by decide) (fun c5 => ?_) (fun c5 => ?_)
          · skip
            rw [← Int32.not_lt] at c5
            refine g_iconst (v := 0) E dX8_isBehind_58 (by decide) ?_
            exact RET _ _ _ () (by first | (simp [gBhd, c1, c2, c3, c4, c5]; done) | (simp [gBhd, c1, c2, c3, c4, c5, -Int32.not_lt]; done)) rfl dX8_isBehind_59
          · skip
            rw [Int32.not_le] at c5
            refine g_iconst (v := 1) E dX8_isBehind_54 (by decide) ?_
            refine g_goto (tgt := 59) E dX8_isBehind_55 (by decide) ?_
            exact RET _ _ _ () (by first | (simp [gBhd, c1, c2, c3, c4, c5]; done) | (simp [gBhd, c1, c2, c3, c4, c5, -Int32.not_lt]; done)) rfl dX8_isBehind_59

set_option maxHeartbeats 4000000 in
set_option maxRecDepth 100000 in
theorem mX8_freeBooth (G : gG) (r : Nat) (S : gSt) (f : Nat → Int32) (d h : Nat) (hI : gI1r S) (hT : sN S 0 < 1000000000) (hRR : RR S f) (hd : d < 1073741824) (hh : h < 1073741824) : CIe G yX8_freeBooth wsX8_freeBooth 2 44 [.ref r, .int (nI d), .int (nI h)] [(r, .inl (gy G 0, 271, .inl f))] (gFb S d h) [(r, .inl (gy G 0, 271, .inl f))] 0 0 := by
  refine g_enterIe (ty := .int) RX8 rfl (by decide) rfl (Nat.le_of_ble_eq_true rfl) ?_
  intro V E RET
  have hX := hI
  obtain ⟨hP8, hn, hw, hW8, hs3, hs4, hs5, hs6, hs7, hs8, hb34⟩ := hX
  refine g_iconst (v := 0) E dX8_freeBooth_0 (by decide) ?_
  refine g_istore_n (lv' := [(3, .int 0), (0, .ref r), (1, .int (nI d)), (2, .int (nI h))]) E dX8_freeBooth_1 rfl (by decide) rfl ?_
  refine g_iconst (v := 0) E dX8_freeBooth_2 (by decide) ?_
  refine g_istore (lv' := [(4, .int 0), (3, .int 0), (0, .ref r), (1, .int (nI d)), (2, .int (nI h))]) E dX8_freeBooth_3 (by decide) rfl ?_
  have loop1 : ∀ (n2 : Nat) (k : Nat) (x : Int32), (k ≤ (sB S).length) → (x = gVih (sB S) 2 d h k) → (sB S).length - k < n2 → gW V 6 0 0 [(r, .inl (gy G 0, 271, .inl f))] [(0, .ref r), (1, .int (nI d)), (2, .int (nI h)), (3, .int x), (4, .int (nI k))] 5 [] := by
    intro n2
    induction n2 with
    | zero => intro k x hk hx hm4; exact absurd hm4 (Nat.not_lt_zero _)
    | succ n2 ih3 =>
      intro k x hk hx hm4
      refine g_iload E dX8_freeBooth_5 4 rfl ?_
      refine g_aload_n E dX8_freeBooth_7 rfl 0 rfl ?_
      refine g_iconst (v := 2) E dX8_freeBooth_8 (by decide) ?_
      refine g_ialdN (e := 2) E 0 rfl (by omega) rfl (v := nI ((sB S).length)) (RR_2 hRR) dX8_freeBooth_9 ?_
      refine g_icmp_geN (tgt := 47) (a := k) (b := (sB S).length) E dX8_freeBooth_10 (by decide) (by omega) (by omega) (fun c5 => ?_) (fun c5 => ?_)
      · skip
        have e9 : x = gVih (sB S) 2 d h (sB S).length := by rw [hx, show k = (sB S).length by omega]
        refine g_iconst (v := (-1)) E dX8_freeBooth_47 (by decide) ?_
        refine g_istore (lv' := [(4, .int (-1)), (0, .ref r), (1, .int (nI d)), (2, .int (nI h)), (3, .int x)]) E dX8_freeBooth_48 (by decide) rfl ?_
        refine g_aload_n E dX8_freeBooth_50 rfl 1 rfl ?_
        refine g_bipush (v := 9) E dX8_freeBooth_51 (by decide) ?_
        refine g_ialdN (e := 9) E 0 rfl (by omega) rfl (v := nI (sS S 0)) (RR_S hRR (j := 0) (by decide)) dX8_freeBooth_53 ?_
        refine g_iconst (v := 1) E dX8_freeBooth_54 (by decide) ?_
        refine g_isubN (a := sS S 0) (b := 1) E dX8_freeBooth_55 (by omega) ?_
        refine g_top (y := gPd (sS S 0)) (gPd_pos (by omega)) ?_
        refine g_istore (lv' := [(5, .int (gPd (sS S 0))), (4, .int (-1)), (0, .ref r), (1, .int (nI d)), (2, .int (nI h)), (3, .int x)]) E dX8_freeBooth_56 (by decide) rfl ?_
        have loop6 : ∀ (n7 : Nat) (b : Nat) (fd : Int32), (b ≤ 4) → (gFd b fd x = gFb S d h) → b < n7 → gW V 6 0 0 [(r, .inl (gy G 0, 271, .inl f))] [(0, .ref r), (1, .int (nI d)), (2, .int (nI h)), (3, .int x), (4, .int fd), (5, .int (gPd b))] 58 [] := by
          intro n7
          induction n7 with
          | zero => intro b fd hb5 hfd hm9; exact absurd hm9 (Nat.not_lt_zero _)
          | succ n7 ih8 =>
            intro b fd hb5 hfd hm9
            refine g_iload E dX8_freeBooth_58 5 rfl ?_
            rcases b with _ | b
            · skip
              refine g_if_lt (tgt := 87) E dX8_freeBooth_60 (by decide) (fun _ => ?_) (fun c => absurd c (by decide))
              refine g_iload E dX8_freeBooth_87 4 rfl ?_
              exact RET _ _ _ () (hfd) rfl dX8_freeBooth_89
            · skip
              have hb30 : b < 30 := by omega
              refine g_if_ltN (tgt := 87) (a := b) E dX8_freeBooth_60 (by decide) (by omega) ?_
              refine g_iload_n E dX8_freeBooth_63 rfl 3 rfl ?_
              refine g_iload E dX8_freeBooth_64 5 rfl ?_
              refine g_ishr E dX8_freeBooth_66 ?_
              refine g_iconst (v := 1) E dX8_freeBooth_67 (by decide) ?_
              refine g_iand E dX8_freeBooth_68 ?_
              refine g_if_ne (tgt := 77) E dX8_freeBooth_69 (by decide) (fun c10 => ?_) (fun c10 => ?_)
              · skip
                refine g_iload E dX8_freeBooth_77 4 rfl ?_
                refine g_istore (lv' := [(4, .int fd), (0, .ref r), (1, .int (nI d)), (2, .int (nI h)), (3, .int x), (5, .int (nI b))]) E dX8_freeBooth_79 (by decide) rfl ?_
                refine g_iinc (lv' := [(5, .int (gPd b)), (4, .int fd), (0, .ref r), (1, .int (nI d)), (2, .int (nI h)), (3, .int x)]) E dX8_freeBooth_81 5 rfl (gPd_dec b) (by decide) rfl ?_
                refine g_goto (tgt := 58) E dX8_freeBooth_84 (by decide) ?_
                refine g_lv [2, 3, 4, 5, 1, 0] rfl ?_
                exact ih8  b fd (by omega) (gFd_no c10 hfd) (by omega)
              · skip
                refine g_iload E dX8_freeBooth_72 5 rfl ?_
                refine g_goto (tgt := 79) E dX8_freeBooth_74 (by decide) ?_
                refine g_istore (lv' := [(4, .int (nI b)), (0, .ref r), (1, .int (nI d)), (2, .int (nI h)), (3, .int x), (5, .int (nI b))]) E dX8_freeBooth_79 (by decide) rfl ?_
                refine g_iinc (lv' := [(5, .int (gPd b)), (4, .int (nI b)), (0, .ref r), (1, .int (nI d)), (2, .int (nI h)), (3, .int x)]) E dX8_freeBooth_81 5 rfl (gPd_dec b) (by decide) rfl ?_
                refine g_goto (tgt := 58) E dX8_freeBooth_84 (by decide) ?_
                refine g_lv [2, 3, 4, 5, 1, 0] rfl ?_
                exact ih8  b (nI b) (by omega) (gFd_yes c10 hfd) (by omega)
        refine g_lv [2, 3, 4, 5, 1, 0] rfl ?_
        exact loop6 _ (sS S 0) (-1) (by omega) (by rw [e9]; rfl) (Nat.lt_succ_self _)
      · skip
        have hkl : k < (sB S).length := by omega
        have q2 := (hRR.2.2.2.2.2.2.2.2.1 k hkl 2 (by decide)).2
        refine g_iload_n E dX8_freeBooth_13 rfl 3 rfl ?_
        refine g_aload_n E dX8_freeBooth_14 rfl 0 rfl ?_
        refine g_iload E dX8_freeBooth_15 4 rfl ?_
        refine g_iload_n E dX8_freeBooth_17 rfl 1 rfl ?_
        refine g_iload_n E dX8_freeBooth_18 rfl 2 rfl ?_
        refine g_callSIe (F := []) (ws2 := [(r, .inl (gy G 0, 271, .inl f))]) E (mX8_isAt G r S f k d h hI hT hRR (by omega) (by omega) (by omega)) gX8_freeBooth_X8_isAt rfl hnX8_isAt ⟨Nat.le_of_ble_eq_true rfl, Nat.le_of_ble_eq_true rfl⟩ (gPerm_ix [0] rfl rfl) rfl rfl (Nat.le_of_ble_eq_true rfl) dX8_freeBooth_19 ⟨Nat.le_of_ble_eq_true rfl, Nat.le_of_ble_eq_true rfl⟩ (gPerm_ix [0] rfl rfl) ?_
        refine g_if_eqB (tgt := 38) (P := (bk (sB S) k 0 = d ∧ bk (sB S) k 1 = h)) E dX8_freeBooth_22 (by decide) (fun c11 => ?_) (fun c11 => ?_)
        · skip
          refine g_iconst (v := 0) E dX8_freeBooth_38 (by decide) ?_
          refine g_ior E dX8_freeBooth_39 ?_
          refine g_istore_n (lv' := [(3, .int (x ||| 0)), (0, .ref r), (1, .int (nI d)), (2, .int (nI h)), (4, .int (nI k))]) E dX8_freeBooth_40 rfl (by decide) rfl ?_
          refine g_iinc (lv' := [(4, .int (nI (k + 1))), (3, .int (x ||| 0)), (0, .ref r), (1, .int (nI d)), (2, .int (nI h))]) E dX8_freeBooth_41 4 rfl (g_inc _ 1 (by decide)) (by decide) rfl ?_
          refine g_goto (tgt := 5) E dX8_freeBooth_44 (by decide) ?_
          refine g_lv [2, 3, 4, 1, 0] rfl ?_
          exact ih3  (k + 1) _ (by omega) (by rw [hx]; simp [gVih, c5, c11]) (by omega)
        · skip
          refine g_iconst (v := 1) E dX8_freeBooth_25 (by decide) ?_
          refine g_aload_n E dX8_freeBooth_26 rfl 0 rfl ?_
          refine g_iload E dX8_freeBooth_27 4 rfl ?_
          refine g_iconst (v := 2) E dX8_freeBooth_29 (by decide) ?_
          refine g_callSIe (F := [(r, .inl (gy G 0, 271, .inl f))]) (ws2 := [(r, .inl (gy G 0, 271, .inl f))]) E (mX8_bookingAt G k 2 (by omega) (by omega)) gX8_freeBooth_X8_bookingAt rfl hnX8_bookingAt ⟨Nat.le_of_ble_eq_true rfl, Nat.le_of_ble_eq_true rfl⟩ (gPerm_ix [0] rfl rfl) rfl rfl (Nat.le_of_ble_eq_true rfl) dX8_freeBooth_30 ⟨Nat.le_of_ble_eq_true rfl, Nat.le_of_ble_eq_true rfl⟩ (gPerm_ix [0] rfl rfl) ?_
          refine g_ialdN (e := 93 + 7 * k + 2) E 0 rfl (by omega) rfl (v := nI (bk (sB S) k 2)) (RR_B hRR (k := k) (w := 2) (by omega) (by omega)) dX8_freeBooth_33 ?_
          refine g_ishl E dX8_freeBooth_34 ?_
          refine g_goto (tgt := 39) E dX8_freeBooth_35 (by decide) ?_
          refine g_ior E dX8_freeBooth_39 ?_
          refine g_istore_n (lv' := [(3, .int (x ||| (1 <<< (nI (bk (sB S) k 2) &&& 31)))), (0, .ref r), (1, .int (nI d)), (2, .int (nI h)), (4, .int (nI k))]) E dX8_freeBooth_40 rfl (by decide) rfl ?_
          refine g_iinc (lv' := [(4, .int (nI (k + 1))), (3, .int (x ||| (1 <<< (nI (bk (sB S) k 2) &&& 31)))), (0, .ref r), (1, .int (nI d)), (2, .int (nI h))]) E dX8_freeBooth_41 4 rfl (g_inc _ 1 (by decide)) (by decide) rfl ?_
          refine g_goto (tgt := 5) E dX8_freeBooth_44 (by decide) ?_
          refine g_lv [2, 3, 4, 1, 0] rfl ?_
          exact ih3  (k + 1) _ (by omega) (by rw [hx]; simp [gVih, c5, c11]) (by omega)
  refine g_lv [2, 3, 4, 1, 0] rfl ?_
  exact loop1 _ 0 _ (Nat.zero_le _) rfl (Nat.lt_succ_self _)

set_option maxHeartbeats 4000000 in
set_option maxRecDepth 100000 in
theorem mX8_why (G : gG) (r : Nat) (S : gSt) (f : Nat → Int32) (p v d h : Nat) (hI : gI1r S) (hT : sN S 0 < 1000000000) (hRR : RR S f) (hp : p < 8) (hv : v < 10) (hd : d < 1073741824) (hh : h < 1073741824) : CIe G yX8_why wsX8_why 3 70 [.ref r, .int (nI p), .int (nI v), .int (nI d), .int (nI h)] [(r, .inl (gy G 0, 271, .inl f))] (nI (gWhyR S p v d h)) [(r, .inl (gy G 0, 271, .inl f))] 0 0 := by
  refine g_enterIe (ty := .int) RX8 rfl (by decide) rfl (Nat.le_of_ble_eq_true rfl) ?_
  intro V E RET
  have hX := hI
  obtain ⟨hP8, hn, hw, hW8, hs3, hs4, hs5, hs6, hs7, hs8, hb34⟩ := hX
  refine g_aload_n E dX8_why_0 rfl 0 rfl ?_
  refine g_iload_n E dX8_why_1 rfl 1 rfl ?_
  refine g_iload_n E dX8_why_2 rfl 2 rfl ?_
  refine g_callSIe (F := []) (ws2 := [(r, .inl (gy G 0, 271, .inl f))]) E (mX8_isListed G r S f p v hI hT hRR (by omega) (by omega)) gX8_why_X8_isListed rfl hnX8_isListed ⟨Nat.le_of_ble_eq_true rfl, Nat.le_of_ble_eq_true rfl⟩ (gPerm_ix [0] rfl rfl) rfl rfl (Nat.le_of_ble_eq_true rfl) dX8_why_3 ⟨Nat.le_of_ble_eq_true rfl, Nat.le_of_ble_eq_true rfl⟩ (gPerm_ix [0] rfl rfl) ?_
  refine g_if_neB (tgt := 11) (P := gHb (sI S 1 p) (nI v) = true) E dX8_why_6 (by decide) (fun c1 => ?_) (fun c1 => ?_)
  · skip
    refine g_aload_n E dX8_why_11 rfl 0 rfl ?_
    refine g_iload_n E dX8_why_12 rfl 1 rfl ?_
    refine g_iload_n E dX8_why_13 rfl 3 rfl ?_
    refine g_callSIe (F := []) (ws2 := [(r, .inl (gy G 0, 271, .inl f))]) E (mX8_isLost G r S f p d hI hT hRR (by omega)) gX8_why_X8_isLost rfl hnX8_isLost ⟨Nat.le_of_ble_eq_true rfl, Nat.le_of_ble_eq_true rfl⟩ (gPerm_ix [0] rfl rfl) rfl rfl (Nat.le_of_ble_eq_true rfl) dX8_why_14 ⟨Nat.le_of_ble_eq_true rfl, Nat.le_of_ble_eq_true rfl⟩ (gPerm_ix [0] rfl rfl) ?_
    refine g_if_eqB (tgt := 22) (P := nI d < sI S 2 p) E dX8_why_17 (by decide) (fun c2 => ?_) (fun c2 => ?_)
    · skip
      refine g_aload_n E dX8_why_22 rfl 0 rfl ?_
      refine g_iload_n E dX8_why_23 rfl 2 rfl ?_
      refine g_iload_n E dX8_why_24 rfl 3 rfl ?_
      refine g_callSIe (F := []) (ws2 := [(r, .inl (gy G 0, 271, .inl f))]) E (mX8_isBanned G r S f v d hI hT hRR (by omega)) gX8_why_X8_isBanned rfl hnX8_isBanned ⟨Nat.le_of_ble_eq_true rfl, Nat.le_of_ble_eq_true rfl⟩ (gPerm_ix [0] rfl rfl) rfl rfl (Nat.le_of_ble_eq_true rfl) dX8_why_25 ⟨Nat.le_of_ble_eq_true rfl, Nat.le_of_ble_eq_true rfl⟩ (gPerm_ix [0] rfl rfl) ?_
      refine g_if_eqB (tgt := 33) (P := nI d < sI S 7 v) E dX8_why_28 (by decide) (fun c3 => ?_) (fun c3 => ?_)
      · skip
        refine g_aload_n E dX8_why_33 rfl 0 rfl ?_
        refine g_iload_n E dX8_why_34 rfl 1 rfl ?_
        refine g_iload_n E dX8_why_35 rfl 3 rfl ?_
        refine g_callSIe (F := []) (ws2 := [(r, .inl (gy G 0, 271, .inl f))]) E (mX8_inWeek G r S f p d hI hT hRR (by omega) (by omega)) gX8_why_X8_inWeek rfl hnX8_inWeek ⟨Nat.le_of_ble_eq_true rfl, Nat.le_of_ble_eq_true rfl⟩ (gPerm_ix [0] rfl rfl) rfl rfl (Nat.le_of_ble_eq_true rfl) dX8_why_36 ⟨Nat.le_of_ble_eq_true rfl, Nat.le_of_ble_eq_true rfl⟩ (gPerm_ix [0] rfl rfl) ?_
        refine g_aload_n E dX8_why_39 rfl 0 rfl ?_
        refine g_iload_n E dX8_why_40 rfl 1 rfl ?_
        refine g_iconst (v := 0) E dX8_why_41 (by decide) ?_
        refine g_callSIe (F := [(r, .inl (gy G 0, 271, .inl f))]) (ws2 := [(r, .inl (gy G 0, 271, .inl f))]) E (mX8_prisonerAt G p 0 (by omega) (by omega)) gX8_why_X8_prisonerAt rfl hnX8_prisonerAt ⟨Nat.le_of_ble_eq_true rfl, Nat.le_of_ble_eq_true rfl⟩ (gPerm_ix [0] rfl rfl) rfl rfl (Nat.le_of_ble_eq_true rfl) dX8_why_42 ⟨Nat.le_of_ble_eq_true rfl, Nat.le_of_ble_eq_true rfl⟩ (gPerm_ix [0] rfl rfl) ?_
        refine g_ialdN (e := 15 + 6 * p + 0) E 0 rfl (by omega) rfl (v := sI S 0 p) (RR_P hRR (p := p) (w := 0) (by omega) (by omega)) dX8_why_45 ?_
        refine g_icmp_le (tgt := 51) E dX8_why_46 (by decide) (fun c4 => ?_) (fun c4 => ?_)
        · skip
          refine g_aload_n E dX8_why_51 rfl 0 rfl ?_
          refine g_iload_n E dX8_why_52 rfl 1 rfl ?_
          refine g_iload_n E dX8_why_53 rfl 2 rfl ?_
          refine g_iload_n E dX8_why_54 rfl 3 rfl ?_
          refine g_iload E dX8_why_55 4 rfl ?_
          refine g_callSIe (F := []) (ws2 := [(r, .inl (gy G 0, 271, .inl f))]) E (mX8_isBusy G r S f p v d h hI hT hRR (by omega) (by omega) (by omega) (by omega)) gX8_why_X8_isBusy rfl hnX8_isBusy ⟨Nat.le_of_ble_eq_true rfl, Nat.le_of_ble_eq_true rfl⟩ (gPerm_ix [0] rfl rfl) rfl rfl (Nat.le_of_ble_eq_true rfl) dX8_why_57 ⟨Nat.le_of_ble_eq_true rfl, Nat.le_of_ble_eq_true rfl⟩ (gPerm_ix [0] rfl rfl) ?_
          refine g_if_eqB (tgt := 65) (P := gBz S p v d h (sB S).length = true) E dX8_why_60 (by decide) (fun c5 => ?_) (fun c5 => ?_)
          · skip
            refine g_aload_n E dX8_why_65 rfl 0 rfl ?_
            refine g_iload_n E dX8_why_66 rfl 1 rfl ?_
            refine g_iload_n E dX8_why_67 rfl 3 rfl ?_
            refine g_iload E dX8_why_68 4 rfl ?_
            refine g_callSIe (F := []) (ws2 := [(r, .inl (gy G 0, 271, .inl f))]) E (mX8_meetsApart G r S f p d h hI hT hRR (by omega) (by omega) (by omega)) gX8_why_X8_meetsApart rfl hnX8_meetsApart ⟨Nat.le_of_ble_eq_true rfl, Nat.le_of_ble_eq_true rfl⟩ (gPerm_ix [0] rfl rfl) rfl rfl (Nat.le_of_ble_eq_true rfl) dX8_why_70 ⟨Nat.le_of_ble_eq_true rfl, Nat.le_of_ble_eq_true rfl⟩ (gPerm_ix [0] rfl rfl) ?_
            refine g_if_eqB (tgt := 79) (P := gMa S p d h (sB S).length = true) E dX8_why_73 (by decide) (fun c6 => ?_) (fun c6 => ?_)
            · skip
              refine g_aload_n E dX8_why_79 rfl 0 rfl ?_
              refine g_iload_n E dX8_why_80 rfl 3 rfl ?_
              refine g_iload E dX8_why_81 4 rfl ?_
              refine g_callSIe (F := []) (ws2 := [(r, .inl (gy G 0, 271, .inl f))]) E (mX8_freeBooth G r S f d h hI hT hRR (by omega) (by omega)) gX8_why_X8_freeBooth rfl hnX8_freeBooth ⟨Nat.le_of_ble_eq_true rfl, Nat.le_of_ble_eq_true rfl⟩ (gPerm_ix [0] rfl rfl) rfl rfl (Nat.le_of_ble_eq_true rfl) dX8_why_83 ⟨Nat.le_of_ble_eq_true rfl, Nat.le_of_ble_eq_true rfl⟩ (gPerm_ix [0] rfl rfl) ?_
              refine g_iconst (v := (-1)) E dX8_why_86 (by decide) ?_
              refine g_icmp_ne (tgt := 95) E dX8_why_87 (by decide) (fun c7 => ?_) (fun c7 => ?_)
              · skip
                refine g_aload_n E dX8_why_95 rfl 0 rfl ?_
                refine g_iconst (v := 2) E dX8_why_96 (by decide) ?_
                refine g_ialdN (e := 2) E 0 rfl (by omega) rfl (v := nI ((sB S).length)) (RR_2 hRR) dX8_why_97 ?_
                refine g_bipush (v := 24) E dX8_why_98 (by decide) ?_
                refine g_icmp_neN (tgt := 108) (a := (sB S).length) (b := 24) E dX8_why_100 (by decide) (by omega) (by omega) (fun c8 => ?_) (fun c8 => ?_)
                · skip
                  refine g_iconst (v := 0) E dX8_why_108 (by decide) ?_
                  exact RET _ _ _ () (by first | (simp [gWhyR, c1, c2, c3, c4, c5, c6, c7, c8]; done) | (unfold gWhyR; (first | rw [if_pos c1] | rw [if_neg c1]); (first | rw [if_pos c2] | rw [if_neg c2]); (first | rw [if_pos c3] | rw [if_neg c3]); (first | rw [if_pos c4] | rw [if_neg c4]); (first | rw [if_pos c5] | rw [if_neg c5]); (first | rw [if_pos c6] | rw [if_neg c6]); (first | rw [if_pos c7] | rw [if_neg c7]); (first | rw [if_pos c8] | rw [if_neg c8]); rfl)) rfl dX8_why_109
                · skip
                  refine g_bipush (v := 8) E dX8_why_103 (by decide) ?_
                  refine g_goto (tgt := 109) E dX8_why_105 (by decide) ?_
                  exact RET _ _ _ () (by first | (simp [gWhyR, c1, c2, c3, c4, c5, c6, c7, c8]; done) | (unfold gWhyR; (first | rw [if_pos c1] | rw [if_neg c1]); (first | rw [if_pos c2] | rw [if_neg c2]); (first | rw [if_pos c3] | rw [if_neg c3]); (first | rw [if_pos c4] | rw [if_neg c4]); (first | rw [if_pos c5] | rw [if_neg c5]); (first | rw [if_pos c6] | rw [if_neg c6]); (first | rw [if_pos c7] | rw [if_neg c7]); (first | rw [if_pos c8] | rw [if_neg c8]); rfl)) rfl dX8_why_109
              · skip
                refine g_bipush (v := 7) E dX8_why_90 (by decide) ?_
                refine g_goto (tgt := 109) E dX8_why_92 (by decide) ?_
                exact RET _ _ _ () (by first | (simp [gWhyR, c1, c2, c3, c4, c5, c6, c7]; done) | (unfold gWhyR; (first | rw [if_pos c1] | rw [if_neg c1]); (first | rw [if_pos c2] | rw [if_neg c2]); (first | rw [if_pos c3] | rw [if_neg c3]); (first | rw [if_pos c4] | rw [if_neg c4]); (first | rw [if_pos c5] | rw [if_neg c5]); (first | rw [if_pos c6] | rw [if_neg c6]); (first | rw [if_pos c7] | rw [if_neg c7]); rfl)) rfl dX8_why_109
            · skip
              refine g_bipush (v := 6) E dX8_why_76 (by decide) ?_
              exact RET _ _ _ () (by first | (simp [gWhyR, c1, c2, c3, c4, c5, c6]; done) | (unfold gWhyR; (first | rw [if_pos c1] | rw [if_neg c1]); (first | rw [if_pos c2] | rw [if_neg c2]); (first | rw [if_pos c3] | rw [if_neg c3]); (first | rw [if_pos c4] | rw [if_neg c4]); (first | rw [if_pos c5] | rw [if_neg c5]); (first | rw [if_pos c6] | rw [if_neg c6]); rfl)) rfl dX8_why_78
          · skip
            refine g_iconst (v := 5) E dX8_why_63 (by decide) ?_
            exact RET _ _ _ () (by first | (simp [gWhyR, c1, c2, c3, c4, c5]; done) | (unfold gWhyR; (first | rw [if_pos c1] | rw [if_neg c1]); (first | rw [if_pos c2] | rw [if_neg c2]); (first | rw [if_pos c3] | rw [if_neg c3]); (first | rw [if_pos c4] | rw [if_neg c4]); (first | rw [if_pos c5] | rw [if_neg c5]); rfl)) rfl dX8_why_64
        · skip
          refine g_iconst (v := 4) E dX8_why_49 (by decide) ?_
          exact RET _ _ _ () (by first | (simp [gWhyR, c1, c2, c3, c4]; done) | (unfold gWhyR; (first | rw [if_pos c1] | rw [if_neg c1]); (first | rw [if_pos c2] | rw [if_neg c2]); (first | rw [if_pos c3] | rw [if_neg c3]); (first | rw [if_pos c4] | rw [if_neg c4]); rfl)) rfl dX8_why_50
      · skip
        refine g_iconst (v := 3) E dX8_why_31 (by decide) ?_
        exact RET _ _ _ () (by first | (simp [gWhyR, c1, c2, c3]; done) | (unfold gWhyR; (first | rw [if_pos c1] | rw [if_neg c1]); (first | rw [if_pos c2] | rw [if_neg c2]); (first | rw [if_pos c3] | rw [if_neg c3]); rfl)) rfl dX8_why_32
    · skip
      refine g_iconst (v := 2) E dX8_why_20 (by decide) ?_
      exact RET _ _ _ () (by first | (simp [gWhyR, c1, c2]; done) | (unfold gWhyR; (first | rw [if_pos c1] | rw [if_neg c1]); (first | rw [if_pos c2] | rw [if_neg c2]); rfl)) rfl dX8_why_21
  · skip
    refine g_iconst (v := 1) E dX8_why_9 (by decide) ?_
    exact RET _ _ _ () (by first | (simp [gWhyR, c1]; done) | (unfold gWhyR; (first | rw [if_pos c1] | rw [if_neg c1]); rfl)) rfl dX8_why_10

set_option maxHeartbeats 4000000 in
set_option maxRecDepth 100000 in
theorem mX8_tenTo (G : gG) (n : Nat) (hn : n < 1000) : CLe G yX8_tenTo wsX8_tenTo 0 0 [.int (nI n)] [] (gTen n) [] 0 0 := by
  refine g_enterLe RX8 rfl (by decide) rfl (Nat.le_of_ble_eq_true rfl) ?_
  intro V E RET
  refine g_lconst (v := 1) E dX8_tenTo_0 (by decide) ?_
  refine g_lstore_n (lv' := [(1, .long 1), (0, .int (nI n))]) E dX8_tenTo_1 rfl (by decide) rfl ?_
  refine g_iconst (v := 0) E dX8_tenTo_2 (by decide) ?_
  refine g_istore_n (lv' := [(3, .int 0), (1, .long 1), (0, .int (nI n))]) E dX8_tenTo_3 rfl (by decide) rfl ?_
  have loop1 : ∀ (n2 : Nat) (k : Nat) (x : Int64), (k ≤ n) → (x = gTen k) → n - k < n2 → gW V 4 0 0 [] [(0, .int (nI n)), (1, .long x), (3, .int (nI k))] 4 [] := by
    intro n2
    induction n2 with
    | zero => intro k x hk hx hm4; exact absurd hm4 (Nat.not_lt_zero _)
    | succ n2 ih3 =>
      intro k x hk hx hm4
      refine g_iload_n E dX8_tenTo_4 rfl 2 rfl ?_
      refine g_iload_n E dX8_tenTo_5 rfl 0 rfl ?_
      refine g_icmp_geN (tgt := 21) (a := k) (b := n) E dX8_tenTo_6 (by decide) (by omega) (by omega) (fun c5 => ?_) (fun c5 => ?_)
      · skip
        have e9 : x = gTen n := by rw [hx, show k = n by omega]
        refine g_lload_n E dX8_tenTo_21 rfl 1 rfl ?_
        exact RET _ _ _ () (e9) dX8_tenTo_22
      · skip
        have hkn : k < n := by omega
        refine g_lload_n E dX8_tenTo_9 rfl 1 rfl ?_
        refine g_ldc2 (v := 10) E kX8_tenTo_43 dX8_tenTo_10 ?_
        refine g_lmul E dX8_tenTo_13 ?_
        refine g_lstore_n (lv' := [(1, .long (x * 10)), (0, .int (nI n)), (3, .int (nI k))]) E dX8_tenTo_14 rfl (by decide) rfl ?_
        refine g_iinc (lv' := [(3, .int (nI (k + 1))), (1, .long (x * 10)), (0, .int (nI n))]) E dX8_tenTo_15 2 rfl (g_inc _ 1 (by decide)) (by decide) rfl ?_
        refine g_goto (tgt := 4) E dX8_tenTo_18 (by decide) ?_
        refine g_lv [2, 1, 0] rfl ?_
        exact ih3  (k + 1) _ (by omega) (by rw [hx]; rfl) (by omega)
  refine g_lv [2, 1, 0] rfl ?_
  exact loop1 _ 0 _ (Nat.zero_le _) rfl (Nat.lt_succ_self _)
