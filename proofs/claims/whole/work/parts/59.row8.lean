theorem gHb_xm {m : Int32} {i : Nat} (hi : i < 32) : gHb (m ^^^ (-1)) (nI i) = !gHb m (nI i) := by
  rw [gHb_bit _ hi, gHb_bit _ hi]
  show (m.toBitVec ^^^ (-1 : Int32).toBitVec).getLsbD i = _
  have h1 : (-1 : Int32).toBitVec.getLsbD i = true := by
    have : ∀ j : Nat, j < 32 → (-1 : Int32).toBitVec.getLsbD j = true := by decide +kernel
    exact this i hi
  rw [BitVec.getLsbD_xor, h1]
  cases m.toBitVec.getLsbD i <;> rfl
theorem gHb_wb {x b : Int32} {i v : Nat} (hi : i < 32) (hv : v < 32) : gHb (gWb x (nI v) b) (nI i) = if i = v then decide (¬ b = 0) else gHb x (nI i) := by
  unfold gWb
  by_cases c : b = 0
  · rw [if_pos c, gHb_and hi, gHb_xm hi, gHb_one hi hv]
    by_cases e : i = v
    · rw [if_pos e, decide_eq_true e, decide_eq_false (fun q => q c)]
      simp
    · rw [if_neg e, decide_eq_false e]
      simp
  · rw [if_neg c, gHb_or hi, gHb_one hi hv]
    by_cases e : i = v
    · rw [if_pos e, decide_eq_true e, decide_eq_true c]
      simp
    · rw [if_neg e, decide_eq_false e]
      simp
theorem RR_uV2 {S : gSt} {f : Nat → Int32} {v : Nat} {b : Int32} (h : RR S f) (hv : v < 10) : RR (uI S 9 (fun _ => gWb (sI S 9 0) (nI v) b)) (upd f (63 + 3 * v + 2) (if b = 0 then 0 else 1)) := by
  obtain ⟨h0, h1, h2, h3, h4, h5, h6, h7, h8, h9⟩ := h
  refine ⟨by rw [upd_ne (by omega)]; exact h0, by rw [upd_ne (by omega)]; exact h1, by rw [upd_ne (by omega)]; exact h2, by rw [upd_ne (by omega)]; exact h3, fun j hj => ?_, fun j hj => by rw [upd_ne (by omega)]; exact h5 j hj, fun q hq u hu => ?_, fun y hy => ⟨?_, ?_, ?_⟩, fun k hk u hu => by rw [upd_ne (by omega)]; exact h8 k hk u hu, fun k hk => by rw [upd_ne (by omega)]; exact h9 k hk⟩
  · rw [upd_ne (by omega), sI_uI, if_neg (by omega)]
    exact h4 j hj
  · rw [upd_ne (by omega), sI_uI, if_neg (by omega)]
    exact h6 q hq u hu
  · rw [upd_ne (by omega), sI_uI, if_neg (by omega)]
    exact (h7 y hy).1
  · rw [upd_ne (by omega), sI_uI, if_neg (by omega)]
    exact (h7 y hy).2.1
  · rw [sI_uI, if_pos rfl, gHb_wb (by omega) (by omega)]
    by_cases c : y = v
    · rw [upd_eq (by omega), if_pos c]
      by_cases e : b = 0
      · rw [if_pos e, if_neg (by rw [decide_eq_true_eq]; exact fun q => q e)]
      · rw [if_neg e, if_pos (by rw [decide_eq_true_eq]; exact e)]
    · rw [upd_ne (by omega), if_neg c]
      exact (h7 y hy).2.2
theorem gBan_S (S : gSt) (v : Nat) : sS (gBan S v) = sS S := by unfold gBan; split <;> rfl
theorem uI_comm (S : gSt) {k l : Nat} (h : k ≠ l) (f g : Nat → Int32) : uI (uI S k f) l g = uI (uI S l g) k f := by
  show ((fun j => cond (Nat.beq j l) g (cond (Nat.beq j k) f (sI S j)), S.2) : gSt) = (fun j => cond (Nat.beq j k) f (cond (Nat.beq j l) g (sI S j)), S.2)
  congr 1
  funext j
  cases e1 : Nat.beq j l
  · rfl
  · cases e2 : Nat.beq j k
    · rfl
    · exact absurd ((Nat.eq_of_beq_eq_true e2).symm.trans (Nat.eq_of_beq_eq_true e1)) h
theorem gBan_u9 (S : gSt) (v : Nat) (g : Nat → Int32) : gBan (uI S 9 g) v = uI (gBan S v) 9 g := by
  unfold gBan
  by_cases c : nI (sN S 0 + 1 + sS S 2) ≤ sI S 7 v
  · rw [if_pos c, if_pos (show nI (sN (uI S 9 g) 0 + 1 + sS (uI S 9 g) 2) ≤ sI (uI S 9 g) 7 v from c)]
  · rw [if_neg c, if_neg (show ¬ nI (sN (uI S 9 g) 0 + 1 + sS (uI S 9 g) 2) ≤ sI (uI S 9 g) 7 v from c)]
    exact uI_comm S (by decide) g _
theorem gTake_u9 (S : gSt) (p : Nat) (g : Nat → Int32) : gTake (uI S 9 g) p = uI (gTake S p) 9 g := by
  unfold gTake
  by_cases c : nI (sN S 0 + 1 + sS S 3) ≤ sI S 2 p
  · rw [if_pos c, if_pos (show nI (sN (uI S 9 g) 0 + 1 + sS (uI S 9 g) 3) ≤ sI (uI S 9 g) 2 p from c)]
  · rw [if_neg c, if_neg (show ¬ nI (sN (uI S 9 g) 0 + 1 + sS (uI S 9 g) 3) ≤ sI (uI S 9 g) 2 p from c)]
    exact uI_comm S (by decide) g _
theorem gBan_9 (S : gSt) (v : Nat) : sI (gBan S v) 9 = sI S 9 := by unfold gBan; split <;> rfl
theorem gTake_9 (S : gSt) (p : Nat) : sI (gTake S p) 9 = sI S 9 := by unfold gTake; split <;> rfl
theorem gFind_eq {S : gSt} {p v : Nat} : uI (gTake (gBan S v) p) 9 (fun _ => gWb (sI (gTake (gBan S v) p) 9 0) (nI v) 0) = gTake (gBan (uI S 9 (fun _ => gWb (sI S 9 0) (nI v) 0)) v) p := by
  rw [gBan_u9, gTake_u9, gTake_9, gBan_9]
/-- a new prison -/
def gSt0 : gSt := (fun _ _ => 0, (fun _ => 0, fun j => ([2, 3, 14, 7, 10, 15] : List Nat).getD j 0), [], [])
theorem RR_clean {g : Nat → Int32} (h : ∀ j, j < 271 → g j = 0) : RR gSt0 (upd (upd (upd (upd (upd (upd g 9 2) 10 3) 11 14) 12 7) 13 10) 14 15) := by
  have out : ∀ j, j < 271 → (j < 9 ∨ 15 ≤ j) → upd (upd (upd (upd (upd (upd g 9 2) 10 3) 11 14) 12 7) 13 10) 14 15 j = 0 := by
    intro j hj hj2
    rw [upd_ne (by omega), upd_ne (by omega), upd_ne (by omega), upd_ne (by omega), upd_ne (by omega), upd_ne (by omega)]
    exact h j hj
  refine ⟨out _ (by omega) (by omega), out _ (by omega) (by omega), out _ (by omega) (by omega), out _ (by omega) (by omega), fun j hj => out _ (by omega) (by omega), fun j hj => ?_, fun p hp w hw => out _ (by omega) (by omega), fun v hv => ⟨out _ (by omega) (by omega), out _ (by omega) (by omega), ?_⟩, fun k hk => absurd hk (Nat.not_lt_zero k), fun k hk => absurd hk (Nat.not_lt_zero k)⟩
  · rcases (show j = 0 ∨ j = 1 ∨ j = 2 ∨ j = 3 ∨ j = 4 ∨ j = 5 by omega) with rfl | rfl | rfl | rfl | rfl | rfl <;> rfl
  · rw [out _ (by omega) (by omega)]
    show (0 : Int32) = if gHb 0 (nI v) = true then 1 else 0
    rw [gHb_zero (by omega)]
    rfl
set_option maxHeartbeats 4000000 in
set_option maxRecDepth 100000 in
theorem mX8_find (G : gG) (r : Nat) (S : gSt) (f : Nat → Int32) (p v : Nat) (hI : gI1 S) (hT : sN S 0 < 1000000000) (hRR : RR S f) (hp : p < 8) (hv : v < 10) : CV G yX8_find wsX8_find 2 43 [.ref r, .int (nI p), .int (nI v)] [(r, .inl (gy G 0, 271, .inl f))] (fun u : Nat → Int32 => RR (gTake (gBan (uI S 9 (fun _ => gWb (sI S 9 0) (nI v) 0)) v) p) u) (fun (u : Nat → Int32) => [(r, .inl (gy G 0, 271, .inl u))]) 0 0 := by
  refine g_enterV RX8 rfl (by decide) rfl (Nat.le_of_ble_eq_true rfl) ?_
  intro V E RET
  have hX := hI
  obtain ⟨hP8, hn, hw, hW8, hs3, hs4, hs5, hs6, hs7, hs8, hb34⟩ := hX
  refine g_aload_n E dX8_find_0 rfl 0 rfl ?_
  refine g_iconst (v := 0) E dX8_find_1 (by decide) ?_
  refine g_ialdN (e := 0) E 0 rfl (by omega) rfl (v := nI (sN S 0)) (RR_0 hRR) dX8_find_2 ?_
  refine g_iconst (v := 1) E dX8_find_3 (by decide) ?_
  refine g_iaddN (a := sN S 0) (b := 1) E dX8_find_4 ?_
  refine g_aload_n E dX8_find_5 rfl 0 rfl ?_
  refine g_bipush (v := 12) E dX8_find_6 (by decide) ?_
  refine g_ialdN (e := 12) E 0 rfl (by omega) rfl (v := nI (sS S 3)) (RR_S hRR (j := 3) (by decide)) dX8_find_8 ?_
  refine g_iaddN (a := sN S 0 + 1) (b := sS S 3) E dX8_find_9 ?_
  refine g_istore_n (lv' := [(3, .int (nI (sN S 0 + 1 + (sS S 3)))), (0, .ref r), (1, .int (nI p)), (2, .int (nI v))]) E dX8_find_10 rfl (by decide) rfl ?_
  refine g_aload_n E dX8_find_11 rfl 1 rfl ?_
  refine g_iload_n E dX8_find_12 rfl 3 rfl ?_
  refine g_callSV (F := []) E (mX8_ban G r S f v hI hT hRR (by omega)) gX8_find_X8_ban rfl hnX8_ban ⟨Nat.le_of_ble_eq_true rfl, Nat.le_of_ble_eq_true rfl⟩ (gPerm_ix [0] rfl rfl) rfl rfl (Nat.le_of_ble_eq_true rfl) dX8_find_13 ⟨Nat.le_of_ble_eq_true rfl, Nat.le_of_ble_eq_true rfl⟩ (fun u1 hU1 => ?_)
  obtain ⟨S1, xE1⟩ : ∃ x, x = gBan S v := ⟨_, rfl⟩
  have hRR1 : RR S1 u1 := by rw [xE1]; exact hU1
  have hI1 : gI1 S1 := by rw [xE1]; exact gI1_ban hI _
  have hT1 : sN S1 0 < 1000000000 := by rw [xE1]; exact gT_ban hT _
  refine g_perm (ws1 := [(r, .inl (gy G 0, 271, .inl u1))]) (gPerm_ix [0] rfl rfl) ?_
  refine g_aload_n E dX8_find_16 rfl 1 rfl ?_
  refine g_iload_n E dX8_find_17 rfl 2 rfl ?_
  refine g_iconst (v := 2) E dX8_find_18 (by decide) ?_
  refine g_callSIe (F := [(r, .inl (gy G 0, 271, .inl u1))]) (ws2 := [(r, .inl (gy G 0, 271, .inl u1))]) E (mX8_prisonerAt G p 2 (by omega) (by omega)) gX8_find_X8_prisonerAt rfl hnX8_prisonerAt ⟨Nat.le_of_ble_eq_true rfl, Nat.le_of_ble_eq_true rfl⟩ (gPerm_ix [0] rfl rfl) rfl rfl (Nat.le_of_ble_eq_true rfl) dX8_find_19 ⟨Nat.le_of_ble_eq_true rfl, Nat.le_of_ble_eq_true rfl⟩ (gPerm_ix [0] rfl rfl) ?_
  refine g_iload_n E dX8_find_22 rfl 0 rfl ?_
  refine g_aload_n E dX8_find_23 rfl 1 rfl ?_
  refine g_iload_n E dX8_find_24 rfl 2 rfl ?_
  refine g_iconst (v := 2) E dX8_find_25 (by decide) ?_
  refine g_callSIe (F := [(r, .inl (gy G 0, 271, .inl u1))]) (ws2 := [(r, .inl (gy G 0, 271, .inl u1))]) E (mX8_prisonerAt G p 2 (by omega) (by omega)) gX8_find_X8_prisonerAt rfl hnX8_prisonerAt ⟨Nat.le_of_ble_eq_true rfl, Nat.le_of_ble_eq_true rfl⟩ (gPerm_ix [0] rfl rfl) rfl rfl (Nat.le_of_ble_eq_true rfl) dX8_find_26 ⟨Nat.le_of_ble_eq_true rfl, Nat.le_of_ble_eq_true rfl⟩ (gPerm_ix [0] rfl rfl) ?_
  refine g_ialdN (e := 15 + 6 * p + 2) E 0 rfl (by omega) rfl (v := sI S1 2 p) (RR_P hRR1 (p := p) (w := 2) (by omega) (by omega)) dX8_find_29 ?_
  refine g_icmp_le (tgt := 37) E dX8_find_30 (by decide) (fun c3 => ?_) (fun c3 => ?_)
  · skip
    refine g_aload_n E dX8_find_37 rfl 1 rfl ?_
    refine g_iload_n E dX8_find_38 rfl 2 rfl ?_
    refine g_iconst (v := 2) E dX8_find_39 (by decide) ?_
    refine g_callSIe (F := [(r, .inl (gy G 0, 271, .inl u1))]) (ws2 := [(r, .inl (gy G 0, 271, .inl u1))]) E (mX8_prisonerAt G p 2 (by omega) (by omega)) gX8_find_X8_prisonerAt rfl hnX8_prisonerAt ⟨Nat.le_of_ble_eq_true rfl, Nat.le_of_ble_eq_true rfl⟩ (gPerm_ix [0] rfl rfl) rfl rfl (Nat.le_of_ble_eq_true rfl) dX8_find_40 ⟨Nat.le_of_ble_eq_true rfl, Nat.le_of_ble_eq_true rfl⟩ (gPerm_ix [0] rfl rfl) ?_
    refine g_ialdN (e := 15 + 6 * p + 2) E 0 rfl (by omega) rfl (v := sI S1 2 p) (RR_P hRR1 (p := p) (w := 2) (by omega) (by omega)) dX8_find_43 ?_
    refine g_iast (ws' := [(r, .inl (gy G 0, 271, .inl (upd u1 (15 + 6 * p + 2) (sI S1 2 p))))]) (j := 15 + 6 * p + 2) (y := sI S1 2 p) E 0 rfl (g_in (e := 15 + 6 * p + 2) (by omega) rfl) (nI_clamp (n := 15 + 6 * p + 2) (by omega)) rfl rfl dX8_find_44 ?_
    have hRR4 : RR (gTake S1 p) (upd u1 (15 + 6 * p + 2) (sI S1 2 p)) := (by rw [gTake, if_pos ((show nI (sN S1 0 + 1 + sS S1 3) = nI (sN S 0 + 1 + sS S 3) by rw [xE1, gBan_0, gBan_S]) ▸ c3)]; exact RR_same hRR1 (RR_P hRR1 hp (by decide)))
    refine g_aload_n E dX8_find_45 rfl 1 rfl ?_
    refine g_iload_n E dX8_find_46 rfl 3 rfl ?_
    refine g_iconst (v := 2) E dX8_find_47 (by decide) ?_
    refine g_callSIe (F := [(r, .inl (gy G 0, 271, .inl (upd u1 (15 + 6 * p + 2) (sI S1 2 p))))]) (ws2 := [(r, .inl (gy G 0, 271, .inl (upd u1 (15 + 6 * p + 2) (sI S1 2 p))))]) E (mX8_visitorAt G v 2 (by omega) (by omega)) gX8_find_X8_visitorAt rfl hnX8_visitorAt ⟨Nat.le_of_ble_eq_true rfl, Nat.le_of_ble_eq_true rfl⟩ (gPerm_ix [0] rfl rfl) rfl rfl (Nat.le_of_ble_eq_true rfl) dX8_find_48 ⟨Nat.le_of_ble_eq_true rfl, Nat.le_of_ble_eq_true rfl⟩ (gPerm_ix [0] rfl rfl) ?_
    refine g_iconst (v := 0) E dX8_find_51 (by decide) ?_
    refine g_iast (ws' := [(r, .inl (gy G 0, 271, .inl (upd (upd u1 (15 + 6 * p + 2) (sI S1 2 p)) (63 + 3 * v + 2) 0)))]) (j := 63 + 3 * v + 2) (y := 0) E 0 rfl (g_in (e := 63 + 3 * v + 2) (by omega) rfl) (nI_clamp (n := 63 + 3 * v + 2) (by omega)) rfl rfl dX8_find_52 ?_
    have hRR5 : RR (uI (gTake S1 p) 9 (fun _ => gWb (sI (gTake S1 p) 9 0) (nI v) 0)) (upd (upd u1 (15 + 6 * p + 2) (sI S1 2 p)) (63 + 3 * v + 2) 0) := RR_uV2 (b := 0) hRR4 hv
    exact RET _ _ _ (by rw [← gFind_eq, ← xE1]; exact hRR5) dX8_find_53
  · skip
    refine g_iload_n E dX8_find_33 rfl 0 rfl ?_
    refine g_goto (tgt := 44) E dX8_find_34 (by decide) ?_
    refine g_iast (ws' := [(r, .inl (gy G 0, 271, .inl (upd u1 (15 + 6 * p + 2) (nI (sN S 0 + 1 + (sS S 3))))))]) (j := 15 + 6 * p + 2) (y := nI (sN S 0 + 1 + (sS S 3))) E 0 rfl (g_in (e := 15 + 6 * p + 2) (by omega) rfl) (nI_clamp (n := 15 + 6 * p + 2) (by omega)) rfl rfl dX8_find_44 ?_
    have hRR6 : RR (gTake S1 p) (upd u1 (15 + 6 * p + 2) (nI (sN S 0 + 1 + (sS S 3)))) := (by rw [gTake, if_neg ((show nI (sN S1 0 + 1 + sS S1 3) = nI (sN S 0 + 1 + sS S 3) by rw [xE1, gBan_0, gBan_S]) ▸ c3), (show nI (sN S1 0 + 1 + sS S1 3) = nI (sN S 0 + 1 + sS S 3) by rw [xE1, gBan_0, gBan_S])]; exact RR_uP hRR1 hp (by decide))
    refine g_aload_n E dX8_find_45 rfl 1 rfl ?_
    refine g_iload_n E dX8_find_46 rfl 3 rfl ?_
    refine g_iconst (v := 2) E dX8_find_47 (by decide) ?_
    refine g_callSIe (F := [(r, .inl (gy G 0, 271, .inl (upd u1 (15 + 6 * p + 2) (nI (sN S 0 + 1 + (sS S 3))))))]) (ws2 := [(r, .inl (gy G 0, 271, .inl (upd u1 (15 + 6 * p + 2) (nI (sN S 0 + 1 + (sS S 3))))))]) E (mX8_visitorAt G v 2 (by omega) (by omega)) gX8_find_X8_visitorAt rfl hnX8_visitorAt ⟨Nat.le_of_ble_eq_true rfl, Nat.le_of_ble_eq_true rfl⟩ (gPerm_ix [0] rfl rfl) rfl rfl (Nat.le_of_ble_eq_true rfl) dX8_find_48 ⟨Nat.le_of_ble_eq_true rfl, Nat.le_of_ble_eq_true rfl⟩ (gPerm_ix [0] rfl rfl) ?_
    refine g_iconst (v := 0) E dX8_find_51 (by decide) ?_
    refine g_iast (ws' := [(r, .inl (gy G 0, 271, .inl (upd (upd u1 (15 + 6 * p + 2) (nI (sN S 0 + 1 + (sS S 3)))) (63 + 3 * v + 2) 0)))]) (j := 63 + 3 * v + 2) (y := 0) E 0 rfl (g_in (e := 63 + 3 * v + 2) (by omega) rfl) (nI_clamp (n := 63 + 3 * v + 2) (by omega)) rfl rfl dX8_find_52 ?_
    have hRR7 : RR (uI (gTake S1 p) 9 (fun _ => gWb (sI (gTake S1 p) 9 0) (nI v) 0)) (upd (upd u1 (15 + 6 * p + 2) (nI (sN S 0 + 1 + (sS S 3)))) (63 + 3 * v + 2) 0) := RR_uV2 (b := 0) hRR6 hv
    exact RET _ _ _ (by rw [← gFind_eq, ← xE1]; exact hRR7) dX8_find_53

set_option maxHeartbeats 4000000 in
set_option maxRecDepth 100000 in
theorem mX8_clean (G : gG) (r : Nat) (f : Nat → Int32)  : CV G yX8_clean wsX8_clean 0 0 [.ref r] [(r, .inl (gy G 0, 271, .inl f))] (fun u : Nat → Int32 => RR gSt0 u) (fun (u : Nat → Int32) => [(r, .inl (gy G 0, 271, .inl u))]) 0 0 := by
  refine g_enterV RX8 rfl (by decide) rfl (Nat.le_of_ble_eq_true rfl) ?_
  intro V E RET
  refine g_iconst (v := 0) E dX8_clean_0 (by decide) ?_
  refine g_istore_n (lv' := [(1, .int 0), (0, .ref r)]) E dX8_clean_1 rfl (by decide) rfl ?_
  have loop1 : ∀ (n2 : Nat) (k : Nat) (g : Nat → Int32), (k ≤ 271) → (∀ j, j < k → g j = 0) → 271 - k < n2 → gW V 2 0 0 [(r, .inl (gy G 0, 271, .inl g))] [(0, .ref r), (1, .int (nI k))] 2 [] := by
    intro n2
    induction n2 with
    | zero => intro k g hk hg hm4; exact absurd hm4 (Nat.not_lt_zero _)
    | succ n2 ih3 =>
      intro k g hk hg hm4
      refine g_iload_n E dX8_clean_2 rfl 1 rfl ?_
      refine g_sipush (v := 271) E dX8_clean_3 (by decide) ?_
      refine g_icmp_geN (tgt := 19) (a := k) (b := 271) E dX8_clean_6 (by decide) (by omega) (by omega) (fun c5 => ?_) (fun c5 => ?_)
      · skip
        obtain rfl : k = 271 := by omega
        refine g_aload_n E dX8_clean_19 rfl 0 rfl ?_
        refine g_bipush (v := 9) E dX8_clean_20 (by decide) ?_
        refine g_iconst (v := 2) E dX8_clean_22 (by decide) ?_
        refine g_iast (ws' := [(r, .inl (gy G 0, 271, .inl (upd g 9 2)))]) (j := 9) (y := 2) E 0 rfl (g_in (e := 9) (by omega) rfl) (nI_clamp (n := 9) (by omega)) rfl rfl dX8_clean_23 ?_
        refine g_aload_n E dX8_clean_24 rfl 0 rfl ?_
        refine g_bipush (v := 10) E dX8_clean_25 (by decide) ?_
        refine g_iconst (v := 3) E dX8_clean_27 (by decide) ?_
        refine g_iast (ws' := [(r, .inl (gy G 0, 271, .inl (upd (upd g 9 2) 10 3)))]) (j := 10) (y := 3) E 0 rfl (g_in (e := 10) (by omega) rfl) (nI_clamp (n := 10) (by omega)) rfl rfl dX8_clean_28 ?_
        refine g_aload_n E dX8_clean_29 rfl 0 rfl ?_
        refine g_bipush (v := 11) E dX8_clean_30 (by decide) ?_
        refine g_bipush (v := 14) E dX8_clean_32 (by decide) ?_
        refine g_iast (ws' := [(r, .inl (gy G 0, 271, .inl (upd (upd (upd g 9 2) 10 3) 11 14)))]) (j := 11) (y := 14) E 0 rfl (g_in (e := 11) (by omega) rfl) (nI_clamp (n := 11) (by omega)) rfl rfl dX8_clean_34 ?_
        refine g_aload_n E dX8_clean_35 rfl 0 rfl ?_
        refine g_bipush (v := 12) E dX8_clean_36 (by decide) ?_
        refine g_bipush (v := 7) E dX8_clean_38 (by decide) ?_
        refine g_iast (ws' := [(r, .inl (gy G 0, 271, .inl (upd (upd (upd (upd g 9 2) 10 3) 11 14) 12 7)))]) (j := 12) (y := 7) E 0 rfl (g_in (e := 12) (by omega) rfl) (nI_clamp (n := 12) (by omega)) rfl rfl dX8_clean_40 ?_
        refine g_aload_n E dX8_clean_41 rfl 0 rfl ?_
        refine g_bipush (v := 13) E dX8_clean_42 (by decide) ?_
        refine g_bipush (v := 10) E dX8_clean_44 (by decide) ?_
        refine g_iast (ws' := [(r, .inl (gy G 0, 271, .inl (upd (upd (upd (upd (upd g 9 2) 10 3) 11 14) 12 7) 13 10)))]) (j := 13) (y := 10) E 0 rfl (g_in (e := 13) (by omega) rfl) (nI_clamp (n := 13) (by omega)) rfl rfl dX8_clean_46 ?_
        refine g_aload_n E dX8_clean_47 rfl 0 rfl ?_
        refine g_bipush (v := 14) E dX8_clean_48 (by decide) ?_
        refine g_bipush (v := 15) E dX8_clean_50 (by decide) ?_
        refine g_iast (ws' := [(r, .inl (gy G 0, 271, .inl (upd (upd (upd (upd (upd (upd g 9 2) 10 3) 11 14) 12 7) 13 10) 14 15)))]) (j := 14) (y := 15) E 0 rfl (g_in (e := 14) (by omega) rfl) (nI_clamp (n := 14) (by omega)) rfl rfl dX8_clean_52 ?_
        exact RET _ _ _ (RR_clean hg) dX8_clean_53
      · skip
        have hk271 : k < 271 := by omega
        refine g_aload_n E dX8_clean_9 rfl 0 rfl ?_
        refine g_iload_n E dX8_clean_10 rfl 1 rfl ?_
        refine g_iconst (v := 0) E dX8_clean_11 (by decide) ?_
        refine g_iast (ws' := [(r, .inl (gy G 0, 271, .inl (upd g k 0)))]) (j := k) (y := 0) E 0 rfl (g_in (e := k) (by omega) rfl) (nI_clamp (n := k) (by omega)) rfl rfl dX8_clean_12 ?_
        refine g_iinc (lv' := [(1, .int (nI (k + 1))), (0, .ref r)]) E dX8_clean_13 1 rfl (g_inc _ 1 (by decide)) (by decide) rfl ?_
        refine g_goto (tgt := 2) E dX8_clean_16 (by decide) ?_
        refine g_lv [1, 0] rfl ?_
        exact ih3  (k + 1) _ (by omega) (fun j hj => if c9 : j = k then upd_eq c9 else (upd_ne c9).trans (hg j (by omega))) (by omega)
  refine g_lv [1, 0] rfl ?_
  exact loop1 _ 0 _ (Nat.zero_le _) (fun j hj => absurd hj (Nat.not_lt_zero j)) (Nat.lt_succ_self _)
