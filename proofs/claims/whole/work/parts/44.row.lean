/-! ===== the reference's row ===== -/
/-- as gI1, but nothing is said of the wishes -/
def gI1r (S : gSt) : Prop := sN S 1 ≤ 8 ∧ (sB S).length ≤ 24 ∧ (sW S).length ≤ 10 ∧ True ∧ (1 ≤ sS S 0 ∧ sS S 0 ≤ 4) ∧ (1 ≤ sS S 1 ∧ sS S 1 ≤ 9) ∧ sS S 2 < 100 ∧ sS S 3 < 100 ∧ sS S 4 < 100 ∧ sS S 5 < 100 ∧ ∀ k, k < (sB S).length → bk (sB S) k 3 < sN S 1 ∧ bk (sB S) k 4 < 10
theorem gI1_r {S : gSt} (h : gI1 S) : gI1r S := ⟨h.1, h.2.1, h.2.2.1, trivial, h.2.2.2.2⟩
def RR (S : gSt) (f : Nat → Int32) : Prop :=
  f 0 = nI (sN S 0) ∧ f 1 = nI (sN S 1) ∧ f 2 = nI (sB S).length ∧ f 3 = nI (sW S).length ∧ (∀ j, j < 5 → f (4 + j) = sI S 8 j) ∧ (∀ j, j < 6 → f (9 + j) = nI (sS S j)) ∧
  (∀ p, p < 8 → ∀ w, w < 6 → f (15 + 6 * p + w) = sI S w p) ∧ (∀ v, v < 10 → f (63 + 3 * v + 0) = sI S 6 v ∧ f (63 + 3 * v + 1) = sI S 7 v ∧ f (63 + 3 * v + 2) = (if gHb (sI S 9 0) (nI v) = true then 1 else 0)) ∧
  (∀ k, k < (sB S).length → ∀ w, w < 7 → f (93 + 7 * k + w) = nI (bk (sB S) k w) ∧ bk (sB S) k w < 1073741824) ∧ (∀ k, k < (sW S).length → f (261 + k) = nI (wq (sW S) k))
section
variable {S : gSt} {f : Nat → Int32}
theorem RR_0 (h : RR S f) : f 0 = nI (sN S 0) := h.1
theorem RR_1 (h : RR S f) : f 1 = nI (sN S 1) := h.2.1
theorem RR_2 (h : RR S f) : f 2 = nI (sB S).length := h.2.2.1
theorem RR_3 (h : RR S f) : f 3 = nI (sW S).length := h.2.2.2.1
theorem RR_C (h : RR S f) {j : Nat} (hj : j < 5) : f (4 + j) = sI S 8 j := h.2.2.2.2.1 j hj
theorem RR_S (h : RR S f) {j : Nat} (hj : j < 6) : f (9 + j) = nI (sS S j) := h.2.2.2.2.2.1 j hj
theorem RR_P (h : RR S f) {p w : Nat} (hp : p < 8) (hw : w < 6) : f (15 + 6 * p + w) = sI S w p := h.2.2.2.2.2.2.1 p hp w hw
theorem RR_V0 (h : RR S f) {v : Nat} (hv : v < 10) : f (63 + 3 * v + 0) = sI S 6 v := (h.2.2.2.2.2.2.2.1 v hv).1
theorem RR_V1 (h : RR S f) {v : Nat} (hv : v < 10) : f (63 + 3 * v + 1) = sI S 7 v := (h.2.2.2.2.2.2.2.1 v hv).2.1
theorem RR_V2 (h : RR S f) {v : Nat} (hv : v < 10) : f (63 + 3 * v + 2) = (if gHb (sI S 9 0) (nI v) = true then 1 else 0) := (h.2.2.2.2.2.2.2.1 v hv).2.2
theorem RR_B (h : RR S f) {k w : Nat} (hk : k < (sB S).length) (hw : w < 7) : f (93 + 7 * k + w) = nI (bk (sB S) k w) := (h.2.2.2.2.2.2.2.2.1 k hk w hw).1
theorem RR_W (h : RR S f) {k : Nat} (hk : k < (sW S).length) : f (261 + k) = nI (wq (sW S) k) := h.2.2.2.2.2.2.2.2.2 k hk
end
theorem nI_add1 (n : Nat) : nI (n + 1) = nI n + 1 := by
  show Int32.ofNat (n + 1) = Int32.ofNat n + 1
  rw [Int32.ofNat_add]
  rfl
/-- whether a prisoner or a visitor has a booking in an hour -/
def gBz (S : gSt) (p v d h : Nat) : Nat → Bool
  | 0 => false
  | k + 1 => gBz S p v d h k || (decide (bk (sB S) k 0 = d ∧ bk (sB S) k 1 = h) && (decide (bk (sB S) k 3 = p) || decide (bk (sB S) k 4 = v)))
/-- whether a prisoner meets one from whom he is kept apart -/
def gMa (S : gSt) (p d h : Nat) : Nat → Bool
  | 0 => false
  | k + 1 => gMa S p d h k || (decide (bk (sB S) k 0 = d ∧ bk (sB S) k 1 = h) && gHb (sI S 5 p) (nI (bk (sB S) k 3)))
set_option maxHeartbeats 4000000 in
set_option maxRecDepth 100000 in
theorem mX8_prisonerAt (G : gG) (x w : Nat) (hx : x < 1000) (hw : w < 1000) : CIe G yX8_prisonerAt wsX8_prisonerAt 0 0 [.int (nI x), .int (nI w)] [] (nI (15 + 6 * x + w)) [] 0 0 := by
  refine g_enterIe (ty := .int) RX8 rfl (by decide) rfl (Nat.le_of_ble_eq_true rfl) ?_
  intro V E RET
  refine g_bipush (v := 15) E dX8_prisonerAt_0 (by decide) ?_
  refine g_bipush (v := 6) E dX8_prisonerAt_2 (by decide) ?_
  refine g_iload_n E dX8_prisonerAt_4 rfl 0 rfl ?_
  refine g_imulN (a := 6) (b := x) E dX8_prisonerAt_5 ?_
  refine g_iaddN (a := 15) (b := 6 * x) E dX8_prisonerAt_6 ?_
  refine g_iload_n E dX8_prisonerAt_7 rfl 1 rfl ?_
  refine g_iaddN (a := 15 + (6 * x)) (b := w) E dX8_prisonerAt_8 ?_
  exact RET _ _ _ () (rfl) rfl dX8_prisonerAt_9

set_option maxHeartbeats 4000000 in
set_option maxRecDepth 100000 in
theorem mX8_visitorAt (G : gG) (x w : Nat) (hx : x < 1000) (hw : w < 1000) : CIe G yX8_visitorAt wsX8_visitorAt 0 0 [.int (nI x), .int (nI w)] [] (nI (63 + 3 * x + w)) [] 0 0 := by
  refine g_enterIe (ty := .int) RX8 rfl (by decide) rfl (Nat.le_of_ble_eq_true rfl) ?_
  intro V E RET
  refine g_bipush (v := 63) E dX8_visitorAt_0 (by decide) ?_
  refine g_iconst (v := 3) E dX8_visitorAt_2 (by decide) ?_
  refine g_iload_n E dX8_visitorAt_3 rfl 0 rfl ?_
  refine g_imulN (a := 3) (b := x) E dX8_visitorAt_4 ?_
  refine g_iaddN (a := 63) (b := 3 * x) E dX8_visitorAt_5 ?_
  refine g_iload_n E dX8_visitorAt_6 rfl 1 rfl ?_
  refine g_iaddN (a := 63 + (3 * x)) (b := w) E dX8_visitorAt_7 ?_
  exact RET _ _ _ () (rfl) rfl dX8_visitorAt_8

set_option maxHeartbeats 4000000 in
set_option maxRecDepth 100000 in
theorem mX8_bookingAt (G : gG) (x w : Nat) (hx : x < 1000) (hw : w < 1000) : CIe G yX8_bookingAt wsX8_bookingAt 0 0 [.int (nI x), .int (nI w)] [] (nI (93 + 7 * x + w)) [] 0 0 := by
  refine g_enterIe (ty := .int) RX8 rfl (by decide) rfl (Nat.le_of_ble_eq_true rfl) ?_
  intro V E RET
  refine g_bipush (v := 93) E dX8_bookingAt_0 (by decide) ?_
  refine g_bipush (v := 7) E dX8_bookingAt_2 (by decide) ?_
  refine g_iload_n E dX8_bookingAt_4 rfl 0 rfl ?_
  refine g_imulN (a := 7) (b := x) E dX8_bookingAt_5 ?_
  refine g_iaddN (a := 93) (b := 7 * x) E dX8_bookingAt_6 ?_
  refine g_iload_n E dX8_bookingAt_7 rfl 1 rfl ?_
  refine g_iaddN (a := 93 + (7 * x)) (b := w) E dX8_bookingAt_8 ?_
  exact RET _ _ _ () (rfl) rfl dX8_bookingAt_9

set_option maxHeartbeats 4000000 in
set_option maxRecDepth 100000 in
theorem mX8_isListed (G : gG) (r : Nat) (S : gSt) (f : Nat → Int32) (p v : Nat) (hI : gI1r S) (hT : sN S 0 < 1000000000) (hRR : RR S f) (hp : p < 8) (hv : v < 10) : CIe G yX8_isListed wsX8_isListed 1 21 [.ref r, .int (nI p), .int (nI v)] [(r, .inl (gy G 0, 271, .inl f))] (if gHb (sI S 1 p) (nI v) = true then 1 else 0) [(r, .inl (gy G 0, 271, .inl f))] 0 0 := by
  refine g_enterIe (ty := .boolean) RX8 rfl (by decide) rfl (Nat.le_of_ble_eq_true rfl) ?_
  intro V E RET
  have hX := hI
  obtain ⟨hP8, hn, hw, hW8, hs3, hs4, hs5, hs6, hs7, hs8, hb34⟩ := hX
  refine g_aload_n E dX8_isListed_0 rfl 0 rfl ?_
  refine g_iload_n E dX8_isListed_1 rfl 1 rfl ?_
  refine g_iconst (v := 1) E dX8_isListed_2 (by decide) ?_
  refine g_callSIe (F := [(r, .inl (gy G 0, 271, .inl f))]) (ws2 := [(r, .inl (gy G 0, 271, .inl f))]) E (mX8_prisonerAt G p 1 (by omega) (by omega)) gX8_isListed_X8_prisonerAt rfl hnX8_prisonerAt ⟨Nat.le_of_ble_eq_true rfl, Nat.le_of_ble_eq_true rfl⟩ (gPerm_ix [0] rfl rfl) rfl rfl (Nat.le_of_ble_eq_true rfl) dX8_isListed_3 ⟨Nat.le_of_ble_eq_true rfl, Nat.le_of_ble_eq_true rfl⟩ (gPerm_ix [0] rfl rfl) ?_
  refine g_ialdN (e := 15 + 6 * p + 1) E 0 rfl (by omega) rfl (v := sI S 1 p) (RR_P hRR (p := p) (w := 1) (by omega) (by omega)) dX8_isListed_6 ?_
  refine g_iload_n E dX8_isListed_7 rfl 2 rfl ?_
  refine g_ishr E dX8_isListed_8 ?_
  refine g_iconst (v := 1) E dX8_isListed_9 (by decide) ?_
  refine g_iand E dX8_isListed_10 ?_
  refine g_iconst (v := 1) E dX8_isListed_11 (by decide) ?_
  refine g_icmp_ne (tgt := 19) E dX8_isListed_12 (by decide) (fun c1 => ?_) (fun c1 => ?_)
  · skip
    refine g_iconst (v := 0) E dX8_isListed_19 (by decide) ?_
    exact RET _ _ _ () (by simp [gHb, c1]) rfl dX8_isListed_20
  · skip
    refine g_iconst (v := 1) E dX8_isListed_15 (by decide) ?_
    refine g_goto (tgt := 20) E dX8_isListed_16 (by decide) ?_
    exact RET _ _ _ () (by simp [gHb, c1]) rfl dX8_isListed_20

set_option maxHeartbeats 4000000 in
set_option maxRecDepth 100000 in
theorem mX8_isLost (G : gG) (r : Nat) (S : gSt) (f : Nat → Int32) (p d : Nat) (hI : gI1r S) (hT : sN S 0 < 1000000000) (hRR : RR S f) (hp : p < 8) : CIe G yX8_isLost wsX8_isLost 1 21 [.ref r, .int (nI p), .int (nI d)] [(r, .inl (gy G 0, 271, .inl f))] (if nI d < sI S 2 p then 1 else 0) [(r, .inl (gy G 0, 271, .inl f))] 0 0 := by
  refine g_enterIe (ty := .boolean) RX8 rfl (by decide) rfl (Nat.le_of_ble_eq_true rfl) ?_
  intro V E RET
  have hX := hI
  obtain ⟨hP8, hn, hw, hW8, hs3, hs4, hs5, hs6, hs7, hs8, hb34⟩ := hX
  refine g_iload_n E dX8_isLost_0 rfl 2 rfl ?_
  refine g_aload_n E dX8_isLost_1 rfl 0 rfl ?_
  refine g_iload_n E dX8_isLost_2 rfl 1 rfl ?_
  refine g_iconst (v := 2) E dX8_isLost_3 (by decide) ?_
  refine g_callSIe (F := [(r, .inl (gy G 0, 271, .inl f))]) (ws2 := [(r, .inl (gy G 0, 271, .inl f))]) E (mX8_prisonerAt G p 2 (by omega) (by omega)) gX8_isLost_X8_prisonerAt rfl hnX8_prisonerAt ⟨Nat.le_of_ble_eq_true rfl, Nat.le_of_ble_eq_true rfl⟩ (gPerm_ix [0] rfl rfl) rfl rfl (Nat.le_of_ble_eq_true rfl) dX8_isLost_4 ⟨Nat.le_of_ble_eq_true rfl, Nat.le_of_ble_eq_true rfl⟩ (gPerm_ix [0] rfl rfl) ?_
  refine g_ialdN (e := 15 + 6 * p + 2) E 0 rfl (by omega) rfl (v := sI S 2 p) (RR_P hRR (p := p) (w := 2) (by omega) (by omega)) dX8_isLost_7 ?_
  refine g_icmp_ge (tgt := 15) E dX8_isLost_8 (by decide) (fun c1 => ?_) (fun c1 => ?_)
  · skip
    refine g_iconst (v := 0) E dX8_isLost_15 (by decide) ?_
    exact RET _ _ _ () (by simp [c1]) rfl dX8_isLost_16
  · skip
    refine g_iconst (v := 1) E dX8_isLost_11 (by decide) ?_
    refine g_goto (tgt := 16) E dX8_isLost_12 (by decide) ?_
    exact RET _ _ _ () (by simp [c1]) rfl dX8_isLost_16

set_option maxHeartbeats 4000000 in
set_option maxRecDepth 100000 in
theorem mX8_isBanned (G : gG) (r : Nat) (S : gSt) (f : Nat → Int32) (v d : Nat) (hI : gI1r S) (hT : sN S 0 < 1000000000) (hRR : RR S f) (hv : v < 10) : CIe G yX8_isBanned wsX8_isBanned 1 21 [.ref r, .int (nI v), .int (nI d)] [(r, .inl (gy G 0, 271, .inl f))] (if nI d < sI S 7 v then 1 else 0) [(r, .inl (gy G 0, 271, .inl f))] 0 0 := by
  refine g_enterIe (ty := .boolean) RX8 rfl (by decide) rfl (Nat.le_of_ble_eq_true rfl) ?_
  intro V E RET
  have hX := hI
  obtain ⟨hP8, hn, hw, hW8, hs3, hs4, hs5, hs6, hs7, hs8, hb34⟩ := hX
  refine g_iload_n E dX8_isBanned_0 rfl 2 rfl ?_
  refine g_aload_n E dX8_isBanned_1 rfl 0 rfl ?_
  refine g_iload_n E dX8_isBanned_2 rfl 1 rfl ?_
  refine g_iconst (v := 1) E dX8_isBanned_3 (by decide) ?_
  refine g_callSIe (F := [(r, .inl (gy G 0, 271, .inl f))]) (ws2 := [(r, .inl (gy G 0, 271, .inl f))]) E (mX8_visitorAt G v 1 (by omega) (by omega)) gX8_isBanned_X8_visitorAt rfl hnX8_visitorAt ⟨Nat.le_of_ble_eq_true rfl, Nat.le_of_ble_eq_true rfl⟩ (gPerm_ix [0] rfl rfl) rfl rfl (Nat.le_of_ble_eq_true rfl) dX8_isBanned_4 ⟨Nat.le_of_ble_eq_true rfl, Nat.le_of_ble_eq_true rfl⟩ (gPerm_ix [0] rfl rfl) ?_
  refine g_ialdN (e := 63 + 3 * v + 1) E 0 rfl (by omega) rfl (v := sI S 7 v) (RR_V1 hRR (v := v) (by omega)) dX8_isBanned_7 ?_
  refine g_icmp_ge (tgt := 15) E dX8_isBanned_8 (by decide) (fun c1 => ?_) (fun c1 => ?_)
  · skip
    refine g_iconst (v := 0) E dX8_isBanned_15 (by decide) ?_
    exact RET _ _ _ () (by simp [c1]) rfl dX8_isBanned_16
  · skip
    refine g_iconst (v := 1) E dX8_isBanned_11 (by decide) ?_
    refine g_goto (tgt := 16) E dX8_isBanned_12 (by decide) ?_
    exact RET _ _ _ () (by simp [c1]) rfl dX8_isBanned_16

set_option maxHeartbeats 4000000 in
set_option maxRecDepth 100000 in
theorem mX8_isAt (G : gG) (r : Nat) (S : gSt) (f : Nat → Int32) (k d h : Nat) (hI : gI1r S) (hT : sN S 0 < 1000000000) (hRR : RR S f) (hk : k < (sB S).length) (hd : d < 1073741824) (hh : h < 1073741824) : CIe G yX8_isAt wsX8_isAt 1 21 [.ref r, .int (nI k), .int (nI d), .int (nI h)] [(r, .inl (gy G 0, 271, .inl f))] (if (bk (sB S) k 0 = d ∧ bk (sB S) k 1 = h) then 1 else 0) [(r, .inl (gy G 0, 271, .inl f))] 0 0 := by
  refine g_enterIe (ty := .boolean) RX8 rfl (by decide) rfl (Nat.le_of_ble_eq_true rfl) ?_
  intro V E RET
  have hX := hI
  obtain ⟨hP8, hn, hw, hW8, hs3, hs4, hs5, hs6, hs7, hs8, hb34⟩ := hX
  have q0 := (hRR.2.2.2.2.2.2.2.2.1 k hk 0 (by decide)).2
  have q1 := (hRR.2.2.2.2.2.2.2.2.1 k hk 1 (by decide)).2
  refine g_aload_n E dX8_isAt_0 rfl 0 rfl ?_
  refine g_iload_n E dX8_isAt_1 rfl 1 rfl ?_
  refine g_iconst (v := 0) E dX8_isAt_2 (by decide) ?_
  refine g_callSIe (F := [(r, .inl (gy G 0, 271, .inl f))]) (ws2 := [(r, .inl (gy G 0, 271, .inl f))]) E (mX8_bookingAt G k 0 (by omega) (by omega)) gX8_isAt_X8_bookingAt rfl hnX8_bookingAt ⟨Nat.le_of_ble_eq_true rfl, Nat.le_of_ble_eq_true rfl⟩ (gPerm_ix [0] rfl rfl) rfl rfl (Nat.le_of_ble_eq_true rfl) dX8_isAt_3 ⟨Nat.le_of_ble_eq_true rfl, Nat.le_of_ble_eq_true rfl⟩ (gPerm_ix [0] rfl rfl) ?_
  refine g_ialdN (e := 93 + 7 * k + 0) E 0 rfl (by omega) rfl (v := nI (bk (sB S) k 0)) (RR_B hRR (k := k) (w := 0) (by omega) (by omega)) dX8_isAt_6 ?_
  refine g_iload_n E dX8_isAt_7 rfl 2 rfl ?_
  refine g_icmp_neN (tgt := 26) (a := bk (sB S) k 0) (b := d) E dX8_isAt_8 (by decide) (by omega) (by omega) (fun c1 => ?_) (fun c1 => ?_)
  · skip
    refine g_iconst (v := 0) E dX8_isAt_26 (by decide) ?_
    exact RET _ _ _ () (by simp [c1]) rfl dX8_isAt_27
  · skip
    refine g_aload_n E dX8_isAt_11 rfl 0 rfl ?_
    refine g_iload_n E dX8_isAt_12 rfl 1 rfl ?_
    refine g_iconst (v := 1) E dX8_isAt_13 (by decide) ?_
    refine g_callSIe (F := [(r, .inl (gy G 0, 271, .inl f))]) (ws2 := [(r, .inl (gy G 0, 271, .inl f))]) E (mX8_bookingAt G k 1 (by omega) (by omega)) gX8_isAt_X8_bookingAt rfl hnX8_bookingAt ⟨Nat.le_of_ble_eq_true rfl, Nat.le_of_ble_eq_true rfl⟩ (gPerm_ix [0] rfl rfl) rfl rfl (Nat.le_of_ble_eq_true rfl) dX8_isAt_14 ⟨Nat.le_of_ble_eq_true rfl, Nat.le_of_ble_eq_true rfl⟩ (gPerm_ix [0] rfl rfl) ?_
    refine g_ialdN (e := 93 + 7 * k + 1) E 0 rfl (by omega) rfl (v := nI (bk (sB S) k 1)) (RR_B hRR (k := k) (w := 1) (by omega) (by omega)) dX8_isAt_17 ?_
    refine g_iload_n E dX8_isAt_18 rfl 3 rfl ?_
    refine g_icmp_neN (tgt := 26) (a := bk (sB S) k 1) (b := h) E dX8_isAt_19 (by decide) (by omega) (by omega) (fun c2 => ?_) (fun c2 => ?_)
    · skip
      refine g_iconst (v := 0) E dX8_isAt_26 (by decide) ?_
      exact RET _ _ _ () (by simp [c1, c2]) rfl dX8_isAt_27
    · skip
      refine g_iconst (v := 1) E dX8_isAt_22 (by decide) ?_
      refine g_goto (tgt := 27) E dX8_isAt_23 (by decide) ?_
      exact RET _ _ _ () (by simp [c1, c2]) rfl dX8_isAt_27

set_option maxHeartbeats 4000000 in
set_option maxRecDepth 100000 in
theorem mX8_inWeek (G : gG) (r : Nat) (S : gSt) (f : Nat → Int32) (p d : Nat) (hI : gI1r S) (hT : sN S 0 < 1000000000) (hRR : RR S f) (hp : p < 8) (hd : d < 1073741824) : CIe G yX8_inWeek wsX8_inWeek 1 21 [.ref r, .int (nI p), .int (nI d)] [(r, .inl (gy G 0, 271, .inl f))] ((if d / 7 = sN S 0 / 7 then sI S 4 p else 0) + nI (gCW (sB S) p (d / 7))) [(r, .inl (gy G 0, 271, .inl f))] 0 0 := by
  refine g_enterIe (ty := .int) RX8 rfl (by decide) rfl (Nat.le_of_ble_eq_true rfl) ?_
  intro V E RET
  have hX := hI
  obtain ⟨hP8, hn, hw, hW8, hs3, hs4, hs5, hs6, hs7, hs8, hb34⟩ := hX
  refine g_iload_n E dX8_inWeek_0 rfl 2 rfl ?_
  refine g_bipush (v := 7) E dX8_inWeek_1 (by decide) ?_
  refine g_idivN (a := d) (b := 7) E dX8_inWeek_3 (by omega) (by omega) (by omega) ?_
  refine g_aload_n E dX8_inWeek_4 rfl 0 rfl ?_
  refine g_iconst (v := 0) E dX8_inWeek_5 (by decide) ?_
  refine g_ialdN (e := 0) E 0 rfl (by omega) rfl (v := nI (sN S 0)) (RR_0 hRR) dX8_inWeek_6 ?_
  refine g_bipush (v := 7) E dX8_inWeek_7 (by decide) ?_
  refine g_idivN (a := sN S 0) (b := 7) E dX8_inWeek_9 (by omega) (by omega) (by omega) ?_
  refine g_icmp_neN (tgt := 23) (a := d / 7) (b := (sN S 0) / 7) E dX8_inWeek_10 (by decide) (by omega) (by omega) (fun c1 => ?_) (fun c1 => ?_)
  · skip
    refine g_iconst (v := 0) E dX8_inWeek_23 (by decide) ?_
    refine g_istore_n (lv' := [(3, .int 0), (0, .ref r), (1, .int (nI p)), (2, .int (nI d))]) E dX8_inWeek_24 rfl (by decide) rfl ?_
    refine g_iconst (v := 0) E dX8_inWeek_25 (by decide) ?_
    refine g_istore (lv' := [(4, .int 0), (3, .int 0), (0, .ref r), (1, .int (nI p)), (2, .int (nI d))]) E dX8_inWeek_26 (by decide) rfl ?_
    have loop2 : ∀ (n3 : Nat) (k : Nat) (x : Int32), (k ≤ (sB S).length) → (x = (if d / 7 = sN S 0 / 7 then sI S 4 p else 0) + nI (gCnt (fun k => bk (sB S) k 3 == p && bk (sB S) k 0 / 7 == d / 7) k)) → (sB S).length - k < n3 → gW V 5 0 0 [(r, .inl (gy G 0, 271, .inl f))] [(0, .ref r), (1, .int (nI p)), (2, .int (nI d)), (3, .int x), (4, .int (nI k))] 28 [] := by
      intro n3
      induction n3 with
      | zero => intro k x hk hx hm5; exact absurd hm5 (Nat.not_lt_zero _)
      | succ n3 ih4 =>
        intro k x hk hx hm5
        refine g_iload E dX8_inWeek_28 4 rfl ?_
        refine g_aload_n E dX8_inWeek_30 rfl 0 rfl ?_
        refine g_iconst (v := 2) E dX8_inWeek_31 (by decide) ?_
        refine g_ialdN (e := 2) E 0 rfl (by omega) rfl (v := nI ((sB S).length)) (RR_2 hRR) dX8_inWeek_32 ?_
        refine g_icmp_geN (tgt := 80) (a := k) (b := (sB S).length) E dX8_inWeek_33 (by decide) (by omega) (by omega) (fun c6 => ?_) (fun c6 => ?_)
        · skip
          have e9 : x = (if d / 7 = sN S 0 / 7 then sI S 4 p else 0) + nI (gCW (sB S) p (d / 7)) := by rw [hx, show k = (sB S).length by omega]
          refine g_iload_n E dX8_inWeek_80 rfl 3 rfl ?_
          exact RET _ _ _ () (e9) rfl dX8_inWeek_81
        · skip
          have hkl : k < (sB S).length := by omega
          have q0 := (hRR.2.2.2.2.2.2.2.2.1 k hkl 0 (by decide)).2
          have q3 := (hRR.2.2.2.2.2.2.2.2.1 k hkl 3 (by decide)).2
          refine g_iload_n E dX8_inWeek_36 rfl 3 rfl ?_
          refine g_aload_n E dX8_inWeek_37 rfl 0 rfl ?_
          refine g_iload E dX8_inWeek_38 4 rfl ?_
          refine g_iconst (v := 3) E dX8_inWeek_40 (by decide) ?_
          refine g_callSIe (F := [(r, .inl (gy G 0, 271, .inl f))]) (ws2 := [(r, .inl (gy G 0, 271, .inl f))]) E (mX8_bookingAt G k 3 (by omega) (by omega)) gX8_inWeek_X8_bookingAt rfl hnX8_bookingAt ⟨Nat.le_of_ble_eq_true rfl, Nat.le_of_ble_eq_true rfl⟩ (gPerm_ix [0] rfl rfl) rfl rfl (Nat.le_of_ble_eq_true rfl) dX8_inWeek_41 ⟨Nat.le_of_ble_eq_true rfl, Nat.le_of_ble_eq_true rfl⟩ (gPerm_ix [0] rfl rfl) ?_
          refine g_ialdN (e := 93 + 7 * k + 3) E 0 rfl (by omega) rfl (v := nI (bk (sB S) k 3)) (RR_B hRR (k := k) (w := 3) (by omega) (by omega)) dX8_inWeek_44 ?_
          refine g_iload_n E dX8_inWeek_45 rfl 1 rfl ?_
          refine g_icmp_neN (tgt := 71) (a := bk (sB S) k 3) (b := p) E dX8_inWeek_46 (by decide) (by omega) (by omega) (fun c7 => ?_) (fun c7 => ?_)
          · skip
            refine g_iconst (v := 0) E dX8_inWeek_71 (by decide) ?_
            refine g_iadd E dX8_inWeek_72 ?_
            refine g_istore_n (lv' := [(3, .int (x + 0)), (0, .ref r), (1, .int (nI p)), (2, .int (nI d)), (4, .int (nI k))]) E dX8_inWeek_73 rfl (by decide) rfl ?_
            refine g_iinc (lv' := [(4, .int (nI (k + 1))), (3, .int (x + 0)), (0, .ref r), (1, .int (nI p)), (2, .int (nI d))]) E dX8_inWeek_74 4 rfl (g_inc _ 1 (by decide)) (by decide) rfl ?_
            refine g_goto (tgt := 28) E dX8_inWeek_77 (by decide) ?_
            refine g_lv [2, 3, 4, 1, 0] rfl ?_
            exact ih4  (k + 1) _ (by omega) (by rw [hx]; simp [gCnt, c6, c7, nI_add1, Int32.add_assoc]) (by omega)
          · skip
            refine g_aload_n E dX8_inWeek_49 rfl 0 rfl ?_
            refine g_iload E dX8_inWeek_50 4 rfl ?_
            refine g_iconst (v := 0) E dX8_inWeek_52 (by decide) ?_
            refine g_callSIe (F := [(r, .inl (gy G 0, 271, .inl f))]) (ws2 := [(r, .inl (gy G 0, 271, .inl f))]) E (mX8_bookingAt G k 0 (by omega) (by omega)) gX8_inWeek_X8_bookingAt rfl hnX8_bookingAt ⟨Nat.le_of_ble_eq_true rfl, Nat.le_of_ble_eq_true rfl⟩ (gPerm_ix [0] rfl rfl) rfl rfl (Nat.le_of_ble_eq_true rfl) dX8_inWeek_53 ⟨Nat.le_of_ble_eq_true rfl, Nat.le_of_ble_eq_true rfl⟩ (gPerm_ix [0] rfl rfl) ?_
            refine g_ialdN (e := 93 + 7 * k + 0) E 0 rfl (by omega) rfl (v := nI (bk (sB S) k 0)) (RR_B hRR (k := k) (w := 0) (by omega) (by omega)) dX8_inWeek_56 ?_
            refine g_bipush (v := 7) E dX8_inWeek_57 (by decide) ?_
            refine g_idivN (a := bk (sB S) k 0) (b := 7) E dX8_inWeek_59 (by omega) (by omega) (by omega) ?_
            refine g_iload_n E dX8_inWeek_60 rfl 2 rfl ?_
            refine g_bipush (v := 7) E dX8_inWeek_61 (by decide) ?_
            refine g_idivN (a := d) (b := 7) E dX8_inWeek_63 (by omega) (by omega) (by omega) ?_
            refine g_icmp_neN (tgt := 71) (a := (bk (sB S) k 0) / 7) (b := d / 7) E dX8_inWeek_64 (by decide) (by omega) (by omega) (fun c8 => ?_) (fun c8 => ?_)
            · skip
              refine g_iconst (v := 0) E dX8_inWeek_71 (by decide) ?_
              refine g_iadd E dX8_inWeek_72 ?_
              refine g_istore_n (lv' := [(3, .int (x + 0)), (0, .ref r), (1, .int (nI p)), (2, .int (nI d)), (4, .int (nI k))]) E dX8_inWeek_73 rfl (by decide) rfl ?_
              refine g_iinc (lv' := [(4, .int (nI (k + 1))), (3, .int (x + 0)), (0, .ref r), (1, .int (nI p)), (2, .int (nI d))]) E dX8_inWeek_74 4 rfl (g_inc _ 1 (by decide)) (by decide) rfl ?_
              refine g_goto (tgt := 28) E dX8_inWeek_77 (by decide) ?_
              refine g_lv [2, 3, 4, 1, 0] rfl ?_
              exact ih4  (k + 1) _ (by omega) (by rw [hx]; simp [gCnt, c6, c7, c8, nI_add1, Int32.add_assoc]) (by omega)
            · skip
              refine g_iconst (v := 1) E dX8_inWeek_67 (by decide) ?_
              refine g_goto (tgt := 72) E dX8_inWeek_68 (by decide) ?_
              refine g_iadd E dX8_inWeek_72 ?_
              refine g_istore_n (lv' := [(3, .int (x + 1)), (0, .ref r), (1, .int (nI p)), (2, .int (nI d)), (4, .int (nI k))]) E dX8_inWeek_73 rfl (by decide) rfl ?_
              refine g_iinc (lv' := [(4, .int (nI (k + 1))), (3, .int (x + 1)), (0, .ref r), (1, .int (nI p)), (2, .int (nI d))]) E dX8_inWeek_74 4 rfl (g_inc _ 1 (by decide)) (by decide) rfl ?_
              refine g_goto (tgt := 28) E dX8_inWeek_77 (by decide) ?_
              refine g_lv [2, 3, 4, 1, 0] rfl ?_
              exact ih4  (k + 1) _ (by omega) (by rw [hx]; simp [gCnt, c6, c7, c8, nI_add1, Int32.add_assoc]) (by omega)
    refine g_lv [2, 3, 4, 1, 0] rfl ?_
    exact loop2 _ 0 _ (Nat.zero_le _) (by simp [gCnt, nI, c1]) (Nat.lt_succ_self _)
  · skip
    refine g_aload_n E dX8_inWeek_13 rfl 0 rfl ?_
    refine g_iload_n E dX8_inWeek_14 rfl 1 rfl ?_
    refine g_iconst (v := 4) E dX8_inWeek_15 (by decide) ?_
    refine g_callSIe (F := [(r, .inl (gy G 0, 271, .inl f))]) (ws2 := [(r, .inl (gy G 0, 271, .inl f))]) E (mX8_prisonerAt G p 4 (by omega) (by omega)) gX8_inWeek_X8_prisonerAt rfl hnX8_prisonerAt ⟨Nat.le_of_ble_eq_true rfl, Nat.le_of_ble_eq_true rfl⟩ (gPerm_ix [0] rfl rfl) rfl rfl (Nat.le_of_ble_eq_true rfl) dX8_inWeek_16 ⟨Nat.le_of_ble_eq_true rfl, Nat.le_of_ble_eq_true rfl⟩ (gPerm_ix [0] rfl rfl) ?_
    refine g_ialdN (e := 15 + 6 * p + 4) E 0 rfl (by omega) rfl (v := sI S 4 p) (RR_P hRR (p := p) (w := 4) (by omega) (by omega)) dX8_inWeek_19 ?_
    refine g_goto (tgt := 24) E dX8_inWeek_20 (by decide) ?_
    refine g_istore_n (lv' := [(3, .int (sI S 4 p)), (0, .ref r), (1, .int (nI p)), (2, .int (nI d))]) E dX8_inWeek_24 rfl (by decide) rfl ?_
    refine g_iconst (v := 0) E dX8_inWeek_25 (by decide) ?_
    refine g_istore (lv' := [(4, .int 0), (3, .int (sI S 4 p)), (0, .ref r), (1, .int (nI p)), (2, .int (nI d))]) E dX8_inWeek_26 (by decide) rfl ?_
    have loop9 : ∀ (n10 : Nat) (k : Nat) (x : Int32), (k ≤ (sB S).length) → (x = (if d / 7 = sN S 0 / 7 then sI S 4 p else 0) + nI (gCnt (fun k => bk (sB S) k 3 == p && bk (sB S) k 0 / 7 == d / 7) k)) → (sB S).length - k < n10 → gW V 5 0 0 [(r, .inl (gy G 0, 271, .inl f))] [(0, .ref r), (1, .int (nI p)), (2, .int (nI d)), (3, .int x), (4, .int (nI k))] 28 [] := by
      intro n10
      induction n10 with
      | zero => intro k x hk hx hm12; exact absurd hm12 (Nat.not_lt_zero _)
      | succ n10 ih11 =>
        intro k x hk hx hm12
        refine g_iload E dX8_inWeek_28 4 rfl ?_
        refine g_aload_n E dX8_inWeek_30 rfl 0 rfl ?_
        refine g_iconst (v := 2) E dX8_inWeek_31 (by decide) ?_
        refine g_ialdN (e := 2) E 0 rfl (by omega) rfl (v := nI ((sB S).length)) (RR_2 hRR) dX8_inWeek_32 ?_
        refine g_icmp_geN (tgt := 80) (a := k) (b := (sB S).length) E dX8_inWeek_33 (by decide) (by omega) (by omega) (fun c13 => ?_) (fun c13 => ?_)
        · skip
          have e9 : x = (if d / 7 = sN S 0 / 7 then sI S 4 p else 0) + nI (gCW (sB S) p (d / 7)) := by rw [hx, show k = (sB S).length by omega]
          refine g_iload_n E dX8_inWeek_80 rfl 3 rfl ?_
          exact RET _ _ _ () (e9) rfl dX8_inWeek_81
        · skip
          have hkl : k < (sB S).length := by omega
          have q0 := (hRR.2.2.2.2.2.2.2.2.1 k hkl 0 (by decide)).2
          have q3 := (hRR.2.2.2.2.2.2.2.2.1 k hkl 3 (by decide)).2
          refine g_iload_n E dX8_inWeek_36 rfl 3 rfl ?_
          refine g_aload_n E dX8_inWeek_37 rfl 0 rfl ?_
          refine g_iload E dX8_inWeek_38 4 rfl ?_
          refine g_iconst (v := 3) E dX8_inWeek_40 (by decide) ?_
          refine g_callSIe (F := [(r, .inl (gy G 0, 271, .inl f))]) (ws2 := [(r, .inl (gy G 0, 271, .inl f))]) E (mX8_bookingAt G k 3 (by omega) (by omega)) gX8_inWeek_X8_bookingAt rfl hnX8_bookingAt ⟨Nat.le_of_ble_eq_true rfl, Nat.le_of_ble_eq_true rfl⟩ (gPerm_ix [0] rfl rfl) rfl rfl (Nat.le_of_ble_eq_true rfl) dX8_inWeek_41 ⟨Nat.le_of_ble_eq_true rfl, Nat.le_of_ble_eq_true rfl⟩ (gPerm_ix [0] rfl rfl) ?_
          refine g_ialdN (e := 93 + 7 * k + 3) E 0 rfl (by omega) rfl (v := nI (bk (sB S) k 3)) (RR_B hRR (k := k) (w := 3) (by omega) (by omega)) dX8_inWeek_44 ?_
          refine g_iload_n E dX8_inWeek_45 rfl 1 rfl ?_
          refine g_icmp_neN (tgt := 71) (a := bk (sB S) k 3) (b := p) E dX8_inWeek_46 (by decide) (by omega) (by omega) (fun c14 => ?_) (fun c14 => ?_)
          · skip
            refine g_iconst (v := 0) E dX8_inWeek_71 (by decide) ?_
            refine g_iadd E dX8_inWeek_72 ?_
            refine g_istore_n (lv' := [(3, .int (x + 0)), (0, .ref r), (1, .int (nI p)), (2, .int (nI d)), (4, .int (nI k))]) E dX8_inWeek_73 rfl (by decide) rfl ?_
            refine g_iinc (lv' := [(4, .int (nI (k + 1))), (3, .int (x + 0)), (0, .ref r), (1, .int (nI p)), (2, .int (nI d))]) E dX8_inWeek_74 4 rfl (g_inc _ 1 (by decide)) (by decide) rfl ?_
            refine g_goto (tgt := 28) E dX8_inWeek_77 (by decide) ?_
            refine g_lv [2, 3, 4, 1, 0] rfl ?_
            exact ih11  (k + 1) _ (by omega) (by rw [hx]; simp [gCnt, c13, c14, nI_add1, Int32.add_assoc]) (by omega)
          · skip
            refine g_aload_n E dX8_inWeek_49 rfl 0 rfl ?_
            refine g_iload E dX8_inWeek_50 4 rfl ?_
            refine g_iconst (v := 0) E dX8_inWeek_52 (by decide) ?_
            refine g_callSIe (F := [(r, .inl (gy G 0, 271, .inl f))]) (ws2 := [(r, .inl (gy G 0, 271, .inl f))]) E (mX8_bookingAt G k 0 (by omega) (by omega)) gX8_inWeek_X8_bookingAt rfl hnX8_bookingAt ⟨Nat.le_of_ble_eq_true rfl, Nat.le_of_ble_eq_true rfl⟩ (gPerm_ix [0] rfl rfl) rfl rfl (Nat.le_of_ble_eq_true rfl) dX8_inWeek_53 ⟨Nat.le_of_ble_eq_true rfl, Nat.le_of_ble_eq_true rfl⟩ (gPerm_ix [0] rfl rfl) ?_
            refine g_ialdN (e := 93 + 7 * k + 0) E 0 rfl (by omega) rfl (v := nI (bk (sB S) k 0)) (RR_B hRR (k := k) (w := 0) (by omega) (by omega)) dX8_inWeek_56 ?_
            refine g_bipush (v := 7) E dX8_inWeek_57 (by decide) ?_
            refine g_idivN (a := bk (sB S) k 0) (b := 7) E dX8_inWeek_59 (by omega) (by omega) (by omega) ?_
            refine g_iload_n E dX8_inWeek_60 rfl 2 rfl ?_
            refine g_bipush (v := 7) E dX8_inWeek_61 (by decide) ?_
            refine g_idivN (a := d) (b := 7) E dX8_inWeek_63 (by omega) (by omega) (by omega) ?_
            refine g_icmp_neN (tgt := 71) (a := (bk (sB S) k 0) / 7) (b := d / 7) E dX8_inWeek_64 (by decide) (by omega) (by omega) (fun c15 => ?_) (fun c15 => ?_)
            · skip
              refine g_iconst (v := 0) E dX8_inWeek_71 (by decide) ?_
              refine g_iadd E dX8_inWeek_72 ?_
              refine g_istore_n (lv' := [(3, .int (x + 0)), (0, .ref r), (1, .int (nI p)), (2, .int (nI d)), (4, .int (nI k))]) E dX8_inWeek_73 rfl (by decide) rfl ?_
              refine g_iinc (lv' := [(4, .int (nI (k + 1))), (3, .int (x + 0)), (0, .ref r), (1, .int (nI p)), (2, .int (nI d))]) E dX8_inWeek_74 4 rfl (g_inc _ 1 (by decide)) (by decide) rfl ?_
              refine g_goto (tgt := 28) E dX8_inWeek_77 (by decide) ?_
              refine g_lv [2, 3, 4, 1, 0] rfl ?_
              exact ih11  (k + 1) _ (by omega) (by rw [hx]; simp [gCnt, c13, c14, c15, nI_add1, Int32.add_assoc]) (by omega)
            · skip
              refine g_iconst (v := 1) E dX8_inWeek_67 (by decide) ?_
              refine g_goto (tgt := 72) E dX8_inWeek_68 (by decide) ?_
              refine g_iadd E dX8_inWeek_72 ?_
              refine g_istore_n (lv' := [(3, .int (x + 1)), (0, .ref r), (1, .int (nI p)), (2, .int (nI d)), (4, .int (nI k))]) E dX8_inWeek_73 rfl (by decide) rfl ?_
              refine g_iinc (lv' := [(4, .int (nI (k + 1))), (3, .int (x + 1)), (0, .ref r), (1, .int (nI p)), (2, .int (nI d))]) E dX8_inWeek_74 4 rfl (g_inc _ 1 (by decide)) (by decide) rfl ?_
              refine g_goto (tgt := 28) E dX8_inWeek_77 (by decide) ?_
              refine g_lv [2, 3, 4, 1, 0] rfl ?_
              exact ih11  (k + 1) _ (by omega) (by rw [hx]; simp [gCnt, c13, c14, c15, nI_add1, Int32.add_assoc]) (by omega)
    refine g_lv [2, 3, 4, 1, 0] rfl ?_
    exact loop9 _ 0 _ (Nat.zero_le _) (by simp [gCnt, nI, c1]) (Nat.lt_succ_self _)

set_option maxHeartbeats 4000000 in
set_option maxRecDepth 100000 in
theorem mX8_isBusy (G : gG) (r : Nat) (S : gSt) (f : Nat → Int32) (p v d h : Nat) (hI : gI1r S) (hT : sN S 0 < 1000000000) (hRR : RR S f) (hp : p < 8) (hv : v < 10) (hd : d < 1073741824) (hh : h < 1073741824) : CIe G yX8_isBusy wsX8_isBusy 2 44 [.ref r, .int (nI p), .int (nI v), .int (nI d), .int (nI h)] [(r, .inl (gy G 0, 271, .inl f))] (if gBz S p v d h (sB S).length = true then 1 else 0) [(r, .inl (gy G 0, 271, .inl f))] 0 0 := by
  refine g_enterIe (ty := .boolean) RX8 rfl (by decide) rfl (Nat.le_of_ble_eq_true rfl) ?_
  intro V E RET
  have hX := hI
  obtain ⟨hP8, hn, hw, hW8, hs3, hs4, hs5, hs6, hs7, hs8, hb34⟩ := hX
  refine g_iconst (v := 0) E dX8_isBusy_0 (by decide) ?_
  refine g_istore (lv' := [(5, .int 0), (0, .ref r), (1, .int (nI p)), (2, .int (nI v)), (3, .int (nI d)), (4, .int (nI h))]) E dX8_isBusy_1 (by decide) rfl ?_
  refine g_iconst (v := 0) E dX8_isBusy_3 (by decide) ?_
  refine g_istore (lv' := [(6, .int 0), (5, .int 0), (0, .ref r), (1, .int (nI p)), (2, .int (nI v)), (3, .int (nI d)), (4, .int (nI h))]) E dX8_isBusy_4 (by decide) rfl ?_
  have loop1 : ∀ (n2 : Nat) (k : Nat) (b : Bool), (k ≤ (sB S).length) → (b = gBz S p v d h k) → (sB S).length - k < n2 → gW V 7 0 0 [(r, .inl (gy G 0, 271, .inl f))] [(0, .ref r), (1, .int (nI p)), (2, .int (nI v)), (3, .int (nI d)), (4, .int (nI h)), (5, .int (if b = true then 1 else 0)), (6, .int (nI k))] 6 [] := by
    intro n2
    induction n2 with
    | zero => intro k b hk hb hm4; exact absurd hm4 (Nat.not_lt_zero _)
    | succ n2 ih3 =>
      intro k b hk hb hm4
      refine g_iload E dX8_isBusy_6 6 rfl ?_
      refine g_aload_n E dX8_isBusy_8 rfl 0 rfl ?_
      refine g_iconst (v := 2) E dX8_isBusy_9 (by decide) ?_
      refine g_ialdN (e := 2) E 0 rfl (by omega) rfl (v := nI ((sB S).length)) (RR_2 hRR) dX8_isBusy_10 ?_
      refine g_icmp_geN (tgt := 68) (a := k) (b := (sB S).length) E dX8_isBusy_11 (by decide) (by omega) (by omega) (fun c5 => ?_) (fun c5 => ?_)
      · skip
        have e9 : (if b = true then (1 : Int32) else 0) = (if gBz S p v d h (sB S).length = true then 1 else 0) := by rw [hb, show k = (sB S).length by omega]
        refine g_iload E dX8_isBusy_68 5 rfl ?_
        exact RET _ _ _ () (e9) (by cases b <;> rfl) dX8_isBusy_70
      · skip
        have hkl : k < (sB S).length := by omega
        have q3 := (hRR.2.2.2.2.2.2.2.2.1 k hkl 3 (by decide)).2
        have q4 := (hRR.2.2.2.2.2.2.2.2.1 k hkl 4 (by decide)).2
        refine g_iload E dX8_isBusy_14 5 rfl ?_
        refine g_if_neB (tgt := 55) (P := b = true) E dX8_isBusy_16 (by decide) (fun c6 => ?_) (fun c6 => ?_)
        · skip
          refine g_iconst (v := 1) E dX8_isBusy_55 (by decide) ?_
          refine g_goto (tgt := 60) E dX8_isBusy_56 (by decide) ?_
          refine g_istore (lv' := [(5, .int 1), (0, .ref r), (1, .int (nI p)), (2, .int (nI v)), (3, .int (nI d)), (4, .int (nI h)), (6, .int (nI k))]) E dX8_isBusy_60 (by decide) rfl ?_
          refine g_iinc (lv' := [(6, .int (nI (k + 1))), (5, .int 1), (0, .ref r), (1, .int (nI p)), (2, .int (nI v)), (3, .int (nI d)), (4, .int (nI h))]) E dX8_isBusy_62 6 rfl (g_inc _ 1 (by decide)) (by decide) rfl ?_
          refine g_goto (tgt := 6) E dX8_isBusy_65 (by decide) ?_
          refine g_lv [2, 3, 4, 5, 6, 1, 0] rfl ?_
          exact ih3  (k + 1) true (by omega) (by rw [gBz]; simp [← hb, gHb, c5, c6]) (by omega)
        · skip
          refine g_aload_n E dX8_isBusy_19 rfl 0 rfl ?_
          refine g_iload E dX8_isBusy_20 6 rfl ?_
          refine g_iload_n E dX8_isBusy_22 rfl 3 rfl ?_
          refine g_iload E dX8_isBusy_23 4 rfl ?_
          refine g_callSIe (F := []) (ws2 := [(r, .inl (gy G 0, 271, .inl f))]) E (mX8_isAt G r S f k d h hI hT hRR (by omega) (by omega) (by omega)) gX8_isBusy_X8_isAt rfl hnX8_isAt ⟨Nat.le_of_ble_eq_true rfl, Nat.le_of_ble_eq_true rfl⟩ (gPerm_ix [0] rfl rfl) rfl rfl (Nat.le_of_ble_eq_true rfl) dX8_isBusy_25 ⟨Nat.le_of_ble_eq_true rfl, Nat.le_of_ble_eq_true rfl⟩ (gPerm_ix [0] rfl rfl) ?_
          refine g_if_eqB (tgt := 59) (P := (bk (sB S) k 0 = d ∧ bk (sB S) k 1 = h)) E dX8_isBusy_28 (by decide) (fun c7 => ?_) (fun c7 => ?_)
          · skip
            refine g_iconst (v := 0) E dX8_isBusy_59 (by decide) ?_
            refine g_istore (lv' := [(5, .int 0), (0, .ref r), (1, .int (nI p)), (2, .int (nI v)), (3, .int (nI d)), (4, .int (nI h)), (6, .int (nI k))]) E dX8_isBusy_60 (by decide) rfl ?_
            refine g_iinc (lv' := [(6, .int (nI (k + 1))), (5, .int 0), (0, .ref r), (1, .int (nI p)), (2, .int (nI v)), (3, .int (nI d)), (4, .int (nI h))]) E dX8_isBusy_62 6 rfl (g_inc _ 1 (by decide)) (by decide) rfl ?_
            refine g_goto (tgt := 6) E dX8_isBusy_65 (by decide) ?_
            refine g_lv [2, 3, 4, 5, 6, 1, 0] rfl ?_
            exact ih3  (k + 1) false (by omega) (by rw [gBz]; simp [← hb, gHb, c5, c6, c7]) (by omega)
          · skip
            refine g_aload_n E dX8_isBusy_31 rfl 0 rfl ?_
            refine g_iload E dX8_isBusy_32 6 rfl ?_
            refine g_iconst (v := 3) E dX8_isBusy_34 (by decide) ?_
            refine g_callSIe (F := [(r, .inl (gy G 0, 271, .inl f))]) (ws2 := [(r, .inl (gy G 0, 271, .inl f))]) E (mX8_bookingAt G k 3 (by omega) (by omega)) gX8_isBusy_X8_bookingAt rfl hnX8_bookingAt ⟨Nat.le_of_ble_eq_true rfl, Nat.le_of_ble_eq_true rfl⟩ (gPerm_ix [0] rfl rfl) rfl rfl (Nat.le_of_ble_eq_true rfl) dX8_isBusy_35 ⟨Nat.le_of_ble_eq_true rfl, Nat.le_of_ble_eq_true rfl⟩ (gPerm_ix [0] rfl rfl) ?_
            refine g_ialdN (e := 93 + 7 * k + 3) E 0 rfl (by omega) rfl (v := nI (bk (sB S) k 3)) (RR_B hRR (k := k) (w := 3) (by omega) (by omega)) dX8_isBusy_38 ?_
            refine g_iload_n E dX8_isBusy_39 rfl 1 rfl ?_
            refine g_icmp_eqN (tgt := 55) (a := bk (sB S) k 3) (b := p) E dX8_isBusy_40 (by decide) (by omega) (by omega) (fun c8 => ?_) (fun c8 => ?_)
            · skip
              refine g_iconst (v := 1) E dX8_isBusy_55 (by decide) ?_
              refine g_goto (tgt := 60) E dX8_isBusy_56 (by decide) ?_
              refine g_istore (lv' := [(5, .int 1), (0, .ref r), (1, .int (nI p)), (2, .int (nI v)), (3, .int (nI d)), (4, .int (nI h)), (6, .int (nI k))]) E dX8_isBusy_60 (by decide) rfl ?_
              refine g_iinc (lv' := [(6, .int (nI (k + 1))), (5, .int 1), (0, .ref r), (1, .int (nI p)), (2, .int (nI v)), (3, .int (nI d)), (4, .int (nI h))]) E dX8_isBusy_62 6 rfl (g_inc _ 1 (by decide)) (by decide) rfl ?_
              refine g_goto (tgt := 6) E dX8_isBusy_65 (by decide) ?_
              refine g_lv [2, 3, 4, 5, 6, 1, 0] rfl ?_
              exact ih3  (k + 1) true (by omega) (by rw [gBz]; simp [← hb, gHb, c5, c6, c7, c8]) (by omega)
            · skip
              refine g_aload_n E dX8_isBusy_43 rfl 0 rfl ?_
              refine g_iload E dX8_isBusy_44 6 rfl ?_
              refine g_iconst (v := 4) E dX8_isBusy_46 (by decide) ?_
              refine g_callSIe (F := [(r, .inl (gy G 0, 271, .inl f))]) (ws2 := [(r, .inl (gy G 0, 271, .inl f))]) E (mX8_bookingAt G k 4 (by omega) (by omega)) gX8_isBusy_X8_bookingAt rfl hnX8_bookingAt ⟨Nat.le_of_ble_eq_true rfl, Nat.le_of_ble_eq_true rfl⟩ (gPerm_ix [0] rfl rfl) rfl rfl (Nat.le_of_ble_eq_true rfl) dX8_isBusy_47 ⟨Nat.le_of_ble_eq_true rfl, Nat.le_of_ble_eq_true rfl⟩ (gPerm_ix [0] rfl rfl) ?_
              refine g_ialdN (e := 93 + 7 * k + 4) E 0 rfl (by omega) rfl (v := nI (bk (sB S) k 4)) (RR_B hRR (k := k) (w := 4) (by omega) (by omega)) dX8_isBusy_50 ?_
              refine g_iload_n E dX8_isBusy_51 rfl 2 rfl ?_
              refine g_icmp_neN (tgt := 59) (a := bk (sB S) k 4) (b := v) E dX8_isBusy_52 (by decide) (by omega) (by omega) (fun c9 => ?_) (fun c9 => ?_)
              · skip
                refine g_iconst (v := 0) E dX8_isBusy_59 (by decide) ?_
                refine g_istore (lv' := [(5, .int 0), (0, .ref r), (1, .int (nI p)), (2, .int (nI v)), (3, .int (nI d)), (4, .int (nI h)), (6, .int (nI k))]) E dX8_isBusy_60 (by decide) rfl ?_
                refine g_iinc (lv' := [(6, .int (nI (k + 1))), (5, .int 0), (0, .ref r), (1, .int (nI p)), (2, .int (nI v)), (3, .int (nI d)), (4, .int (nI h))]) E dX8_isBusy_62 6 rfl (g_inc _ 1 (by decide)) (by decide) rfl ?_
                refine g_goto (tgt := 6) E dX8_isBusy_65 (by decide) ?_
                refine g_lv [2, 3, 4, 5, 6, 1, 0] rfl ?_
                exact ih3  (k + 1) false (by omega) (by rw [gBz]; simp [← hb, gHb, c5, c6, c7, c8, c9]) (by omega)
              · skip
                refine g_iconst (v := 1) E dX8_isBusy_55 (by decide) ?_
                refine g_goto (tgt := 60) E dX8_isBusy_56 (by decide) ?_
                refine g_istore (lv' := [(5, .int 1), (0, .ref r), (1, .int (nI p)), (2, .int (nI v)), (3, .int (nI d)), (4, .int (nI h)), (6, .int (nI k))]) E dX8_isBusy_60 (by decide) rfl ?_
                refine g_iinc (lv' := [(6, .int (nI (k + 1))), (5, .int 1), (0, .ref r), (1, .int (nI p)), (2, .int (nI v)), (3, .int (nI d)), (4, .int (nI h))]) E dX8_isBusy_62 6 rfl (g_inc _ 1 (by decide)) (by decide) rfl ?_
                refine g_goto (tgt := 6) E dX8_isBusy_65 (by decide) ?_
                refine g_lv [2, 3, 4, 5, 6, 1, 0] rfl ?_
                exact ih3  (k + 1) true (by omega) (by rw [gBz]; simp [← hb, gHb, c5, c6, c7, c8, c9]) (by omega)
  refine g_lv [2, 3, 4, 5, 6, 1, 0] rfl ?_
  exact loop1 _ 0 false (Nat.zero_le _) rfl (Nat.lt_succ_self _)

set_option maxHeartbeats 4000000 in
set_option maxRecDepth 100000 in
theorem mX8_meetsApart (G : gG) (r : Nat) (S : gSt) (f : Nat → Int32) (p d h : Nat) (hI : gI1r S) (hT : sN S 0 < 1000000000) (hRR : RR S f) (hp : p < 8) (hd : d < 1073741824) (hh : h < 1073741824) : CIe G yX8_meetsApart wsX8_meetsApart 2 44 [.ref r, .int (nI p), .int (nI d), .int (nI h)] [(r, .inl (gy G 0, 271, .inl f))] (if gMa S p d h (sB S).length = true then 1 else 0) [(r, .inl (gy G 0, 271, .inl f))] 0 0 := by
  refine g_enterIe (ty := .boolean) RX8 rfl (by decide) rfl (Nat.le_of_ble_eq_true rfl) ?_
  intro V E RET
  have hX := hI
  obtain ⟨hP8, hn, hw, hW8, hs3, hs4, hs5, hs6, hs7, hs8, hb34⟩ := hX
  refine g_iconst (v := 0) E dX8_meetsApart_0 (by decide) ?_
  refine g_istore (lv' := [(4, .int 0), (0, .ref r), (1, .int (nI p)), (2, .int (nI d)), (3, .int (nI h))]) E dX8_meetsApart_1 (by decide) rfl ?_
  refine g_iconst (v := 0) E dX8_meetsApart_3 (by decide) ?_
  refine g_istore (lv' := [(5, .int 0), (4, .int 0), (0, .ref r), (1, .int (nI p)), (2, .int (nI d)), (3, .int (nI h))]) E dX8_meetsApart_4 (by decide) rfl ?_
  have loop1 : ∀ (n2 : Nat) (k : Nat) (b : Bool), (k ≤ (sB S).length) → (b = gMa S p d h k) → (sB S).length - k < n2 → gW V 6 0 0 [(r, .inl (gy G 0, 271, .inl f))] [(0, .ref r), (1, .int (nI p)), (2, .int (nI d)), (3, .int (nI h)), (4, .int (if b = true then 1 else 0)), (5, .int (nI k))] 6 [] := by
    intro n2
    induction n2 with
    | zero => intro k b hk hb hm4; exact absurd hm4 (Nat.not_lt_zero _)
    | succ n2 ih3 =>
      intro k b hk hb hm4
      refine g_iload E dX8_meetsApart_6 5 rfl ?_
      refine g_aload_n E dX8_meetsApart_8 rfl 0 rfl ?_
      refine g_iconst (v := 2) E dX8_meetsApart_9 (by decide) ?_
      refine g_ialdN (e := 2) E 0 rfl (by omega) rfl (v := nI ((sB S).length)) (RR_2 hRR) dX8_meetsApart_10 ?_
      refine g_icmp_geN (tgt := 65) (a := k) (b := (sB S).length) E dX8_meetsApart_11 (by decide) (by omega) (by omega) (fun c5 => ?_) (fun c5 => ?_)
      · skip
        have e9 : (if b = true then (1 : Int32) else 0) = (if gMa S p d h (sB S).length = true then 1 else 0) := by rw [hb, show k = (sB S).length by omega]
        refine g_iload E dX8_meetsApart_65 4 rfl ?_
        exact RET _ _ _ () (e9) (by cases b <;> rfl) dX8_meetsApart_67
      · skip
        have hkl : k < (sB S).length := by omega
        have q3 := (hRR.2.2.2.2.2.2.2.2.1 k hkl 3 (by decide)).2
        refine g_iload E dX8_meetsApart_14 4 rfl ?_
        refine g_if_neB (tgt := 52) (P := b = true) E dX8_meetsApart_16 (by decide) (fun c6 => ?_) (fun c6 => ?_)
        · skip
          refine g_iconst (v := 1) E dX8_meetsApart_52 (by decide) ?_
          refine g_goto (tgt := 57) E dX8_meetsApart_53 (by decide) ?_
          refine g_istore (lv' := [(4, .int 1), (0, .ref r), (1, .int (nI p)), (2, .int (nI d)), (3, .int (nI h)), (5, .int (nI k))]) E dX8_meetsApart_57 (by decide) rfl ?_
          refine g_iinc (lv' := [(5, .int (nI (k + 1))), (4, .int 1), (0, .ref r), (1, .int (nI p)), (2, .int (nI d)), (3, .int (nI h))]) E dX8_meetsApart_59 5 rfl (g_inc _ 1 (by decide)) (by decide) rfl ?_
          refine g_goto (tgt := 6) E dX8_meetsApart_62 (by decide) ?_
          refine g_lv [2, 3, 4, 5, 1, 0] rfl ?_
          exact ih3  (k + 1) true (by omega) (by rw [gMa]; simp [← hb, gHb, c5, c6]) (by omega)
        · skip
          refine g_aload_n E dX8_meetsApart_19 rfl 0 rfl ?_
          refine g_iload E dX8_meetsApart_20 5 rfl ?_
          refine g_iload_n E dX8_meetsApart_22 rfl 2 rfl ?_
          refine g_iload_n E dX8_meetsApart_23 rfl 3 rfl ?_
          refine g_callSIe (F := []) (ws2 := [(r, .inl (gy G 0, 271, .inl f))]) E (mX8_isAt G r S f k d h hI hT hRR (by omega) (by omega) (by omega)) gX8_meetsApart_X8_isAt rfl hnX8_isAt ⟨Nat.le_of_ble_eq_true rfl, Nat.le_of_ble_eq_true rfl⟩ (gPerm_ix [0] rfl rfl) rfl rfl (Nat.le_of_ble_eq_true rfl) dX8_meetsApart_24 ⟨Nat.le_of_ble_eq_true rfl, Nat.le_of_ble_eq_true rfl⟩ (gPerm_ix [0] rfl rfl) ?_
          refine g_if_eqB (tgt := 56) (P := (bk (sB S) k 0 = d ∧ bk (sB S) k 1 = h)) E dX8_meetsApart_27 (by decide) (fun c7 => ?_) (fun c7 => ?_)
          · skip
            refine g_iconst (v := 0) E dX8_meetsApart_56 (by decide) ?_
            refine g_istore (lv' := [(4, .int 0), (0, .ref r), (1, .int (nI p)), (2, .int (nI d)), (3, .int (nI h)), (5, .int (nI k))]) E dX8_meetsApart_57 (by decide) rfl ?_
            refine g_iinc (lv' := [(5, .int (nI (k + 1))), (4, .int 0), (0, .ref r), (1, .int (nI p)), (2, .int (nI d)), (3, .int (nI h))]) E dX8_meetsApart_59 5 rfl (g_inc _ 1 (by decide)) (by decide) rfl ?_
            refine g_goto (tgt := 6) E dX8_meetsApart_62 (by decide) ?_
            refine g_lv [2, 3, 4, 5, 1, 0] rfl ?_
            exact ih3  (k + 1) false (by omega) (by rw [gMa]; simp [← hb, gHb, c5, c6, c7]) (by omega)
          · skip
            refine g_aload_n E dX8_meetsApart_30 rfl 0 rfl ?_
            refine g_iload_n E dX8_meetsApart_31 rfl 1 rfl ?_
            refine g_iconst (v := 5) E dX8_meetsApart_32 (by decide) ?_
            refine g_callSIe (F := [(r, .inl (gy G 0, 271, .inl f))]) (ws2 := [(r, .inl (gy G 0, 271, .inl f))]) E (mX8_prisonerAt G p 5 (by omega) (by omega)) gX8_meetsApart_X8_prisonerAt rfl hnX8_prisonerAt ⟨Nat.le_of_ble_eq_true rfl, Nat.le_of_ble_eq_true rfl⟩ (gPerm_ix [0] rfl rfl) rfl rfl (Nat.le_of_ble_eq_true rfl) dX8_meetsApart_33 ⟨Nat.le_of_ble_eq_true rfl, Nat.le_of_ble_eq_true rfl⟩ (gPerm_ix [0] rfl rfl) ?_
            refine g_ialdN (e := 15 + 6 * p + 5) E 0 rfl (by omega) rfl (v := sI S 5 p) (RR_P hRR (p := p) (w := 5) (by omega) (by omega)) dX8_meetsApart_36 ?_
            refine g_aload_n E dX8_meetsApart_37 rfl 0 rfl ?_
            refine g_iload E dX8_meetsApart_38 5 rfl ?_
            refine g_iconst (v := 3) E dX8_meetsApart_40 (by decide) ?_
            refine g_callSIe (F := [(r, .inl (gy G 0, 271, .inl f))]) (ws2 := [(r, .inl (gy G 0, 271, .inl f))]) E (mX8_bookingAt G k 3 (by omega) (by omega)) gX8_meetsApart_X8_bookingAt rfl hnX8_bookingAt ⟨Nat.le_of_ble_eq_true rfl, Nat.le_of_ble_eq_true rfl⟩ (gPerm_ix [0] rfl rfl) rfl rfl (Nat.le_of_ble_eq_true rfl) dX8_meetsApart_41 ⟨Nat.le_of_ble_eq_true rfl, Nat.le_of_ble_eq_true rfl⟩ (gPerm_ix [0] rfl rfl) ?_
            refine g_ialdN (e := 93 + 7 * k + 3) E 0 rfl (by omega) rfl (v := nI (bk (sB S) k 3)) (RR_B hRR (k := k) (w := 3) (by omega) (by omega)) dX8_meetsApart_44 ?_
            refine g_ishr E dX8_meetsApart_45 ?_
            refine g_iconst (v := 1) E dX8_meetsApart_46 (by decide) ?_
            refine g_iand E dX8_meetsApart_47 ?_
            refine g_iconst (v := 1) E dX8_meetsApart_48 (by decide) ?_
            refine g_icmp_ne (tgt := 56) E dX8_meetsApart_49 (by decide) (fun c8 => ?_) (fun c8 => ?_)
            · skip
              refine g_iconst (v := 0) E dX8_meetsApart_56 (by decide) ?_
              refine g_istore (lv' := [(4, .int 0), (0, .ref r), (1, .int (nI p)), (2, .int (nI d)), (3, .int (nI h)), (5, .int (nI k))]) E dX8_meetsApart_57 (by decide) rfl ?_
              refine g_iinc (lv' := [(5, .int (nI (k + 1))), (4, .int 0), (0, .ref r), (1, .int (nI p)), (2, .int (nI d)), (3, .int (nI h))]) E dX8_meetsApart_59 5 rfl (g_inc _ 1 (by decide)) (by decide) rfl ?_
              refine g_goto (tgt := 6) E dX8_meetsApart_62 (by decide) ?_
              refine g_lv [2, 3, 4, 5, 1, 0] rfl ?_
              exact ih3  (k + 1) false (by omega) (by rw [gMa]; simp [← hb, gHb, c5, c6, c7, c8]) (by omega)
            · skip
              refine g_iconst (v := 1) E dX8_meetsApart_52 (by decide) ?_
              refine g_goto (tgt := 57) E dX8_meetsApart_53 (by decide) ?_
              refine g_istore (lv' := [(4, .int 1), (0, .ref r), (1, .int (nI p)), (2, .int (nI d)), (3, .int (nI h)), (5, .int (nI k))]) E dX8_meetsApart_57 (by decide) rfl ?_
              refine g_iinc (lv' := [(5, .int (nI (k + 1))), (4, .int 1), (0, .ref r), (1, .int (nI p)), (2, .int (nI d)), (3, .int (nI h))]) E dX8_meetsApart_59 5 rfl (g_inc _ 1 (by decide)) (by decide) rfl ?_
              refine g_goto (tgt := 6) E dX8_meetsApart_62 (by decide) ?_
              refine g_lv [2, 3, 4, 5, 1, 0] rfl ?_
              exact ih3  (k + 1) true (by omega) (by rw [gMa]; simp [← hb, gHb, c5, c6, c7, c8]) (by omega)
  refine g_lv [2, 3, 4, 5, 1, 0] rfl ?_
  exact loop1 _ 0 false (Nat.zero_le _) rfl (Nat.lt_succ_self _)
