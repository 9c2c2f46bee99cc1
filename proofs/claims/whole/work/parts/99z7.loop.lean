/-! ===== the law's loop, its entry ===== -/
section
variable {L i : Nat}
theorem law_lt (hi : ¬ i + 5 ≤ L) (hL : L ≤ 2560) (h2 : i ≤ 2565) : nI L - nI 5 < nI i := by
  rcases Nat.lt_or_ge L 5 with h | h
  · have h0 : (nI L - nI 5).toInt < 0 := by
      rcases (show L = 0 ∨ L = 1 ∨ L = 2 ∨ L = 3 ∨ L = 4 by omega) with rfl | rfl | rfl | rfl | rfl <;> decide
    rw [Int32.lt_iff_toInt_lt, nI_toInt (n := i) (by omega)]
    omega
  · rw [pk_sub h]
    exact (nI_ltI (by omega) (by omega)).mpr (by omega)
theorem law_nlt (hi : i + 5 ≤ L) (hL : L ≤ 2560) : ¬ nI L - nI 5 < nI i := by
  rw [pk_sub (by omega)]
  intro c
  have := (nI_ltI (by omega) (by omega)).mp c
  omega
end
theorem law_exit {V : gV} {G : gG} {b0 L : Nat} {xs : Nat → Int32} (E : gE V G cL_law 7 RL wsL_law room_1) (hX : va_X b0 L xs (gvS V) (gvH V)) (hbl : b0 < (gvH V).size) (hbA : ¬ gvO V b0) (hST : (gl G).stackTraces = false) (hL : L ≤ 2560) (RET : ∀ (ws : va_W) (lv : List (Nat × Value)) (cells slots : Nat), cells ≤ 601024 → slots ≤ 7293034 → gW V 7 cells slots ws lv 2269 [.int 1]) {i : Nat} (hi : ¬ i + 5 ≤ L) (h2 : i ≤ 2565) {x : gVa} {m : Nat → Nat} {o : Nat} {f : Nat → Int64} {u : gVu} {w : gRu} {cells slots : Nat} (hc : cells ≤ 601024) (hs : slots ≤ 7293034) : gW V 7 cells slots (gLW G o f x u m w) (gLoc b0 x m o i) 23 [] := by
  refine g_iload E dL_law_23 4 rfl ?_
  refine g_aload_n E dL_law_25 rfl 0 rfl ?_
  refine g_slen E hX hbl hbA dL_law_26 ?_
  refine g_iconst (v := nI 5) E dL_law_27 (by decide) ?_
  refine g_isub E dL_law_28 ?_
  refine g_icmp_gt (tgt := 2268) E dL_law_29 (by decide) (fun _ => ?_) (fun c => absurd (law_lt hi hL h2) c)
  refine g_iconst (v := 1) E dL_law_2268 (by decide) ?_
  exact RET _ _ _ _ hc hs
set_option maxHeartbeats 4000000 in
set_option maxRecDepth 100000 in
theorem law_step {V : gV} {G : gG} {b0 L : Nat} {xs : Nat → Int32} (E : gE V G cL_law 7 RL wsL_law room_1) (hX : va_X b0 L xs (gvS V) (gvH V)) (hbl : b0 < (gvH V).size) (hbA : ¬ gvO V b0) (hST : (gl G).stackTraces = false) (hL : L ≤ 2560) {i : Nat} (hi : i + 5 ≤ L) {A : gA} {bd : Nat} {x : gVa} {m : Nat → Nat} {o : Nat} {f : Nat → Int64} {u : gVu} {w : gRu} {cells slots : Nat} (hA : gAok bd A) (hb3 : 3600 ≤ bd) (hb : bd ≤ 40000) (hC : gClsI A u) (hR : gRefI A w) (hc : cells ≤ 20000) (hs : slots ≤ 400000)
    (ih : ∀ (A' : gA) (f' : Nat → Int64) (u' : gVu) (w' : gRu), gAok (bd + 30) A' → gClsI A' u' → gRefI A' w' → gW V 7 (cells + 15) (slots + 430) (gLW G o f' x u' m w') (gLoc b0 x m o (i + 5)) 23 []) : gW V 7 cells slots (gLW G o f x u m w) (gLoc b0 x m o i) 23 [] := by
  have next : ∀ (A' : gA) (f' : Nat → Int64) (u' : gVu) (w' : gRu), gAok (bd + 30) A' → gClsI A' u' → gRefI A' w' → gW V 7 (cells + 15) (slots + 430) (gLW G o f' x u' m w') (gLoc b0 x m o i) 2262 [] := by
    intro A' f' u' w' h1 h2 h3
    refine g_iinc (v := nI (i + 5)) (lv' := [(4, .int (nI (i + 5))), (0, .ref b0), (1, .ref (x.1 0)), (2, .ref (m 0)), (3, .ref o)]) E dL_law_2262 4 rfl (g_inc _ 5 (by decide)) (by decide) rfl ?_
    refine g_goto (tgt := 23) E dL_law_2265 (by decide) ?_
    exact g_lv [1, 2, 3, 4, 0] rfl (ih A' f' u' w' h1 h2 h3)
  refine g_iload E dL_law_23 4 rfl ?_
  refine g_aload_n E dL_law_25 rfl 0 rfl ?_
  refine g_slen E hX hbl hbA dL_law_26 ?_
  refine g_iconst (v := nI 5) E dL_law_27 (by decide) ?_
  refine g_isub E dL_law_28 ?_
  refine g_icmp_gt (tgt := 2268) E dL_law_29 (by decide) (fun c => absurd c (law_nlt hi hL)) (fun _ => ?_)
  refine g_aload_n E dL_law_32 rfl 0 rfl ?_
  refine g_iload E dL_law_33 4 rfl ?_
  refine g_sldN E hX hbl hbA (by omega) hL dL_law_35 ?_
  refine g_bipush (v := 31) E dL_law_36 (by decide) ?_
  refine g_iand E dL_law_38 ?_
  obtain ⟨k, hk, ek⟩ := law_31 (xs i)
  refine g_top (y := nI k) ek ?_
  rcases (show k = 0 ∨ k = 1 ∨ k = 2 ∨ k = 3 ∨ k = 4 ∨ k = 5 ∨ k = 6 ∨ k = 7 ∨ k = 8 ∨ k = 9 ∨ k = 10 ∨ k = 11 ∨ k = 12 ∨ k = 13 ∨ k = 14 ∨ k = 15 ∨ k = 16 ∨ k = 17 ∨ k = 18 ∨ k = 19 ∨ k = 20 ∨ k = 21 ∨ k = 22 ∨ k = 23 ∨ k = 24 ∨ k = 25 ∨ k = 26 ∨ k = 27 ∨ k = 28 ∨ k = 29 ∨ k = 30 ∨ k = 31 by omega) with rfl | rfl | rfl | rfl | rfl | rfl | rfl | rfl | rfl | rfl | rfl | rfl | rfl | rfl | rfl | rfl | rfl | rfl | rfl | rfl | rfl | rfl | rfl | rfl | rfl | rfl | rfl | rfl | rfl | rfl | rfl | rfl
  · exact g_tableIn (tgt := 180) E dL_law_39 (by decide) (by decide) rfl (by decide) (law_c0 E hX hbl hbA hST hL hi hA hb3 hb hC hR hc hs next)
  · exact g_tableIn (tgt := 236) E dL_law_39 (by decide) (by decide) rfl (by decide) (law_c1 E hX hbl hbA hST hL hi hA hb3 hb hC hR hc hs next)
  · exact g_tableIn (tgt := 249) E dL_law_39 (by decide) (by decide) rfl (by decide) (law_c2 E hX hbl hbA hST hL hi hA hb3 hb hC hR hc hs next)
  · exact g_tableIn (tgt := 262) E dL_law_39 (by decide) (by decide) rfl (by decide) (law_c3 E hX hbl hbA hST hL hi hA hb3 hb hC hR hc hs next)
  · exact g_tableIn (tgt := 306) E dL_law_39 (by decide) (by decide) rfl (by decide) (law_c4 E hX hbl hbA hST hL hi hA hb3 hb hC hR hc hs next)
  · exact g_tableIn (tgt := 362) E dL_law_39 (by decide) (by decide) rfl (by decide) (law_c5 E hX hbl hbA hST hL hi hA hb3 hb hC hR hc hs next)
  · exact g_tableIn (tgt := 430) E dL_law_39 (by decide) (by decide) rfl (by decide) (law_c6 E hX hbl hbA hST hL hi hA hb3 hb hC hR hc hs next)
  · exact g_tableIn (tgt := 498) E dL_law_39 (by decide) (by decide) rfl (by decide) (law_c7 E hX hbl hbA hST hL hi hA hb3 hb hC hR hc hs next)
  · exact g_tableIn (tgt := 566) E dL_law_39 (by decide) (by decide) rfl (by decide) (law_c8 E hX hbl hbA hST hL hi hA hb3 hb hC hR hc hs next)
  · exact g_tableIn (tgt := 634) E dL_law_39 (by decide) (by decide) rfl (by decide) (law_c9 E hX hbl hbA hST hL hi hA hb3 hb hC hR hc hs next)
  · exact g_tableIn (tgt := 690) E dL_law_39 (by decide) (by decide) rfl (by decide) (law_c10 E hX hbl hbA hST hL hi hA hb3 hb hC hR hc hs next)
  · exact g_tableIn (tgt := 746) E dL_law_39 (by decide) (by decide) rfl (by decide) (law_c11 E hX hbl hbA hST hL hi hA hb3 hb hC hR hc hs next)
  · exact g_tableIn (tgt := 802) E dL_law_39 (by decide) (by decide) rfl (by decide) (law_c12 E hX hbl hbA hST hL hi hA hb3 hb hC hR hc hs next)
  · exact g_tableIn (tgt := 870) E dL_law_39 (by decide) (by decide) rfl (by decide) (law_c13 E hX hbl hbA hST hL hi hA hb3 hb hC hR hc hs next)
  · exact g_tableIn (tgt := 966) E dL_law_39 (by decide) (by decide) rfl (by decide) (law_c14 E hX hbl hbA hST hL hi hA hb3 hb hC hR hc hs next)
  · exact g_tableIn (tgt := 1062) E dL_law_39 (by decide) (by decide) rfl (by decide) (law_c15 E hX hbl hbA hST hL hi hA hb3 hb hC hR hc hs next)
  · exact g_tableIn (tgt := 1154) E dL_law_39 (by decide) (by decide) rfl (by decide) (law_c16 E hX hbl hbA hST hL hi hA hb3 hb hC hR hc hs next)
  · exact g_tableIn (tgt := 1210) E dL_law_39 (by decide) (by decide) rfl (by decide) (law_c17 E hX hbl hbA hST hL hi hA hb3 hb hC hR hc hs next)
  · exact g_tableIn (tgt := 1278) E dL_law_39 (by decide) (by decide) rfl (by decide) (law_c18 E hX hbl hbA hST hL hi hA hb3 hb hC hR hc hs next)
  · exact g_tableIn (tgt := 1362) E dL_law_39 (by decide) (by decide) rfl (by decide) (law_c19 E hX hbl hbA hST hL hi hA hb3 hb hC hR hc hs next)
  · exact g_tableIn (tgt := 1430) E dL_law_39 (by decide) (by decide) rfl (by decide) (law_c20 E hX hbl hbA hST hL hi hA hb3 hb hC hR hc hs next)
  · exact g_tableIn (tgt := 1498) E dL_law_39 (by decide) (by decide) rfl (by decide) (law_c21 E hX hbl hbA hST hL hi hA hb3 hb hC hR hc hs next)
  · exact g_tableIn (tgt := 1554) E dL_law_39 (by decide) (by decide) rfl (by decide) (law_c22 E hX hbl hbA hST hL hi hA hb3 hb hC hR hc hs next)
  · exact g_tableIn (tgt := 1622) E dL_law_39 (by decide) (by decide) rfl (by decide) (law_c23 E hX hbl hbA hST hL hi hA hb3 hb hC hR hc hs next)
  · exact g_tableIn (tgt := 1666) E dL_law_39 (by decide) (by decide) rfl (by decide) (law_c24 E hX hbl hbA hST hL hi hA hb3 hb hC hR hc hs next)
  · exact g_tableIn (tgt := 1758) E dL_law_39 (by decide) (by decide) rfl (by decide) (law_c25 E hX hbl hbA hST hL hi hA hb3 hb hC hR hc hs next)
  · exact g_tableIn (tgt := 1826) E dL_law_39 (by decide) (by decide) rfl (by decide) (law_c26 E hX hbl hbA hST hL hi hA hb3 hb hC hR hc hs next)
  · exact g_tableIn (tgt := 1894) E dL_law_39 (by decide) (by decide) rfl (by decide) (law_c27 E hX hbl hbA hST hL hi hA hb3 hb hC hR hc hs next)
  · exact g_tableIn (tgt := 1950) E dL_law_39 (by decide) (by decide) rfl (by decide) (law_c28 E hX hbl hbA hST hL hi hA hb3 hb hC hR hc hs next)
  · exact g_tableIn (tgt := 2050) E dL_law_39 (by decide) (by decide) rfl (by decide) (law_c29 E hX hbl hbA hST hL hi hA hb3 hb hC hR hc hs next)
  · exact g_tableIn (tgt := 2150) E dL_law_39 (by decide) (by decide) rfl (by decide) (law_c30 E hX hbl hbA hST hL hi hA hb3 hb hC hR hc hs next)
  · exact g_tableIn (tgt := 2206) E dL_law_39 (by decide) (by decide) rfl (by decide) (law_c31 E hX hbl hbA hST hL hi hA hb3 hb hC hR hc hs next)
theorem law_loop {V : gV} {G : gG} {b0 L : Nat} {xs : Nat → Int32} (E : gE V G cL_law 7 RL wsL_law room_1) (hX : va_X b0 L xs (gvS V) (gvH V)) (hbl : b0 < (gvH V).size) (hbA : ¬ gvO V b0) (hST : (gl G).stackTraces = false) (hL : L ≤ 2560) (RET : ∀ (ws : va_W) (lv : List (Nat × Value)) (cells slots : Nat), cells ≤ 601024 → slots ≤ 7293034 → gW V 7 cells slots ws lv 2269 [.int 1]) : ∀ (n i : Nat), L ≤ i + 5 * n → i ≤ 2560 → ∀ (A : gA) (bd : Nat) (x : gVa) (m : Nat → Nat) (o : Nat) (f : Nat → Int64) (u : gVu) (w : gRu) (cells slots : Nat), gAok bd A → 3600 ≤ bd → bd ≤ 3600 + 6 * i → gClsI A u → gRefI A w → cells ≤ 400 + 3 * i → slots ≤ 20000 + 86 * i → gW V 7 cells slots (gLW G o f x u m w) (gLoc b0 x m o i) 23 [] := by
  intro n
  induction n with
  | zero =>
    intro i h1 h2 A bd x m o f u w cells slots hA hb3 hb hC hR hc hs
    exact law_exit E hX hbl hbA hST hL RET (by omega) (by omega) (by omega) (by omega)
  | succ n ih =>
    intro i h1 h2 A bd x m o f u w cells slots hA hb3 hb hC hR hc hs
    by_cases hi : i + 5 ≤ L
    · refine law_step E hX hbl hbA hST hL hi hA hb3 (by omega) hC hR (by omega) (by omega) (fun A' f' u' w' k1 k2 k3 => ?_)
      exact ih (i + 5) (by omega) (by omega) A' (bd + 30) x m o f' u' w' (cells + 15) (slots + 430) k1 (by omega) (by omega) k2 k3 (by omega) (by omega)
    · exact law_exit E hX hbl hbA hST hL RET hi (by omega) (by omega) (by omega)
set_option maxHeartbeats 4000000 in
set_option maxRecDepth 100000 in
theorem law_start {V : gV} {G : gG} {b0 L : Nat} {xs : Nat → Int32} (E : gE V G cL_law 7 RL wsL_law room_1) (hX : va_X b0 L xs (gvS V) (gvH V)) (hbl : b0 < (gvH V).size) (hbA : ¬ gvO V b0) (hST : (gl G).stackTraces = false) (hL : L ≤ 2560) (RET : ∀ (ws : va_W) (lv : List (Nat × Value)) (cells slots : Nat), cells ≤ 601024 → slots ≤ 7293034 → gW V 7 cells slots ws lv 2269 [.int 1]) : gW V 7 0 0 [] [(0, .ref b0)] 0 [] := by
  refine g_new (fs := [.null, .null, .null, .null, .null, .null, .null]) E 7 inlX7 tyX7 tyX7_ok (by decide +kernel) (by decide +kernel) (by decide +kernel) rfl (by decide +kernel) (Nat.le_of_ble_eq_true rfl) (Nat.le_of_ble_eq_true rfl) dL_law_0 (fun a0 => ?_)
  refine g_ws (ws' := [(a0, .inr (7, [.null, .null, .null, .null, .null, .null, .null]))]) rfl ?_
  refine g_dup E dL_law_3 rfl ?_
  refine g_callIV (As := []) (F := []) E (mX7_init G a0) gL_law_X7_init (by decide +kernel) (by decide +kernel) (by decide +kernel) rfl rfl hnX7_init ⟨Nat.le_of_ble_eq_true rfl, Nat.le_of_ble_eq_true rfl⟩ (gPerm_rfl [(a0, .inr (7, [.null, .null, .null, .null, .null, .null, .null]))]) rfl rfl ?_ dL_law_4 ?_ (fun x hx => ?_)
  · exact Nat.le_of_ble_eq_true rfl
  · exact ⟨Nat.le_of_ble_eq_true rfl, Nat.le_of_ble_eq_true rfl⟩
  refine g_ws (ws' := wV G x gV0) (List.append_nil _) ?_
  have hx' : a0 = x.1 0 := Eq.symm hx
  subst hx'
  refine g_astore_n (lv' := [(1, .ref (x.1 0)), (0, .ref b0)]) E dL_law_7 rfl (by decide) rfl ?_
  refine g_new (fs := [.int 0, .null, .int 0, .int 0, .int 0, .int 0, .null, .null, .null, .null, .int 0, .null, .null, .null, .int 0, .int 0, .int 0]) E 8 inlX8 tyX8 tyX8_ok (by decide +kernel) (by decide +kernel) (by decide +kernel) rfl (by decide +kernel) (Nat.le_of_ble_eq_true rfl) (Nat.le_of_ble_eq_true rfl) dL_law_8 (fun m0 => ?_)
  refine g_dup E dL_law_11 rfl ?_
  refine g_callIV (As := []) (F := wV G x gV0) E (mX8_init G m0) gL_law_X8_init (by decide +kernel) (by decide +kernel) (by decide +kernel) rfl rfl hnX8_init ⟨Nat.le_of_ble_eq_true rfl, Nat.le_of_ble_eq_true rfl⟩ (gPerm_cm (A := wV G x gV0) (B := [(m0, .inr (8, [.int 0, .null, .int 0, .int 0, .int 0, .int 0, .null, .null, .null, .null, .int 0, .null, .null, .null, .int 0, .int 0, .int 0]))])) rfl rfl ?_ dL_law_12 ?_ (fun mu hx2 => ?_)
  · exact Nat.le_of_ble_eq_true rfl
  · exact ⟨Nat.le_of_ble_eq_true rfl, Nat.le_of_ble_eq_true rfl⟩
  obtain ⟨m, w⟩ := mu
  obtain ⟨hm0, hR⟩ := hx2
  have hm : m0 = m 0 := Eq.symm hm0
  subst hm
  refine g_perm (gPerm_cm (A := wR G m w) (B := wV G x gV0)) ?_
  refine g_astore_n (lv' := [(2, .ref (m 0)), (1, .ref (x.1 0)), (0, .ref b0)]) E dL_law_15 rfl (by decide) rfl ?_
  refine g_iconst (v := 1) E dL_law_16 (by decide) ?_
  refine g_newa (atype := .long) (ty := .long) (a0 := (1, .inr (.inl (fun _ => 0)))) (N := 1) E 3 rfl rfl (by decide +kernel) (fun _ => rfl) (by decide) (by decide) (by decide) (Nat.le_of_ble_eq_true rfl) (Nat.le_of_ble_eq_true rfl) dL_law_17 (fun o => ?_)
  refine g_perm (gPerm_rot2 (c := (o, .inl (gy G 3, 1, .inr (.inl (fun _ => 0))))) (W := wV G x gV0 ++ wR G m w)) ?_
  refine g_astore_n (lv' := [(3, .ref o), (2, .ref (m 0)), (1, .ref (x.1 0)), (0, .ref b0)]) E dL_law_19 rfl (by decide) rfl ?_
  refine g_iconst (v := nI 0) E dL_law_20 (by decide) ?_
  refine g_istore (lv' := [(4, .int (nI 0)), (3, .ref o), (2, .ref (m 0)), (1, .ref (x.1 0)), (0, .ref b0)]) E dL_law_21 (by decide) rfl ?_
  refine g_lv (lv' := gLoc b0 x m o 0) [4, 3, 2, 1, 0] rfl ?_
  exact law_loop E hX hbl hbA hST hL RET 600 0 (by omega) (by omega) gA0 3600 x m o (fun _ => 0) gV0 w _ _ gAok_0 (Nat.le_refl _) (by omega) gClsI_0 hR (Nat.le_of_ble_eq_true rfl) (Nat.le_of_ble_eq_true rfl)
theorem gTy_prim {args : Array Value} {s : State} {ty : FieldType} (h : (Cond.arrayClass ty).before args s = true) (hp : ∀ C, ty ≠ .object C) : ∃ cA : ClassId, ArrOfT s cA ty ∧ va_RA s cA ty := by
  obtain ⟨c, k, comp, h1, h2, h3⟩ := Cond.arrayClass_spec h
  refine ⟨c, fun n z => ⟨fun k h => (by cases h), k, h2, comp, h3⟩, ?_⟩
  cases ty with
  | object C => exact absurd rfl (hp C)
  | _ => exact h1
theorem gTy_obj {args : Array Value} {s : State} {C : String} (h : (Cond.arrayOver (.object C)).before args s = true) : ∃ cA : ClassId, ArrOfT s cA (.object C) ∧ va_RA s cA (.object C) := by
  obtain ⟨comp, c, k, h1, -, h2, h3, h4⟩ := Cond.arrayOver_spec h
  exact ⟨c, fun n z => ⟨fun k h => (by cases h), k, h2, comp, h3⟩, k, comp, h2, h3, h1, h4⟩
