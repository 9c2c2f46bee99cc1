/-! ===== the law's entry: two objects ===== -/
set_option maxHeartbeats 4000000 in
set_option maxRecDepth 100000 in
theorem law_start {V : gV} {G : gG} {b0 L : Nat} {xs : Nat → Int32} (E : gE V G cL_law 7 RL wsL_law room_1) (hX : va_X b0 L xs (gvS V) (gvH V)) (hbl : b0 < (gvH V).size) (hbA : ¬ gvO V b0) (hST : (gl G).stackTraces = false) (hL : L ≤ 260) (RET : ∀ (ws : va_W) (lv : List (Nat × Value)) (cells slots : Nat), cells ≤ 400000 → slots ≤ 5000000 → gW V 7 cells slots ws lv 298 [.int 1]) : gW V 7 0 0 [] [(0, .ref b0)] 0 [] := by
  refine g_new (fs := [.null, .null, .null, .null, .null, .null, .null]) E 7 inlX7 tyX7 tyX7_ok (by decide +kernel) (by decide +kernel) (by decide +kernel) rfl (by decide +kernel) (Nat.le_of_ble_eq_true rfl) (Nat.le_of_ble_eq_true rfl) dL_law_0 (fun a0 => ?_)
  refine g_ws (ws' := [(a0, .inr (7, [.null, .null, .null, .null, .null, .null, .null]))]) rfl ?_
  refine g_dup E dL_law_3 rfl ?_
  refine g_callIV (As := []) (F := []) E (mX7_init G a0) gL_law_X7_init (by decide +kernel) (by decide +kernel) (by decide +kernel) rfl rfl hnX7_init ⟨Nat.le_of_ble_eq_true rfl, Nat.le_of_ble_eq_true rfl⟩ (gPerm_rfl [(a0, .inr (7, [.null, .null, .null, .null, .null, .null, .null]))]) rfl rfl ?_ dL_law_4 ?_ (fun x hx => ?_)
  · exact Nat.le_of_ble_eq_true rfl
  · exact ⟨Nat.le_of_ble_eq_true rfl, Nat.le_of_ble_eq_true rfl⟩
  refine g_ws (ws' := wV G x gV0) (List.append_nil _) ?_
  have hx' : a0 = x.1 0 := Eq.symm hx
  subst hx'
  refine g_astore_n (lv' := [(1, .ref (x.1 0)), (0, .ref b0)]) E dL_law_7 rfl (by decide) rfl ?_
  refine g_new (fs := [.null, .null, .null, .null, .null, .null, .null]) E 7 inlX7 tyX7 tyX7_ok (by decide +kernel) (by decide +kernel) (by decide +kernel) rfl (by decide +kernel) (Nat.le_of_ble_eq_true rfl) (Nat.le_of_ble_eq_true rfl) dL_law_8 (fun m0 => ?_)
  refine g_dup E dL_law_11 rfl ?_
  refine g_callIV (As := []) (F := wV G x gV0) E (mX7_init G m0) gL_law_X7_init (by decide +kernel) (by decide +kernel) (by decide +kernel) rfl rfl hnX7_init ⟨Nat.le_of_ble_eq_true rfl, Nat.le_of_ble_eq_true rfl⟩ (gPerm_cm (A := wV G x gV0) (B := [(m0, .inr (7, [.null, .null, .null, .null, .null, .null, .null]))])) rfl rfl ?_ dL_law_12 ?_ (fun y hy => ?_)
  · exact Nat.le_of_ble_eq_true rfl
  · exact ⟨Nat.le_of_ble_eq_true rfl, Nat.le_of_ble_eq_true rfl⟩
  have hy' : m0 = y.1 0 := Eq.symm hy
  subst hy'
  refine g_perm (gPerm_cm (A := wV G y gV0) (B := wV G x gV0)) ?_
  refine g_astore_n (lv' := [(2, .ref (y.1 0)), (1, .ref (x.1 0)), (0, .ref b0)]) E dL_law_15 rfl (by decide) rfl ?_
  refine g_lv (lv' := [(0, .ref b0), (1, .ref (x.1 0)), (2, .ref (y.1 0))]) [2, 1, 0] rfl ?_
  exact law_main E hX hbl hbA hST hL RET (Nat.le_of_ble_eq_true rfl) (Nat.le_of_ble_eq_true rfl)
theorem gTy_prim {args : Array Value} {s : State} {ty : FieldType} (h : (Cond.arrayClass ty).before args s = true) (hp : ∀ C, ty ≠ .object C) : ∃ cA : ClassId, ArrOfT s cA ty ∧ va_RA s cA ty := by
  obtain ⟨c, k, comp, h1, h2, h3⟩ := Cond.arrayClass_spec h
  refine ⟨c, fun n z => ⟨fun k h => (by cases h), k, h2, comp, h3⟩, ?_⟩
  cases ty with
  | object C => exact absurd rfl (hp C)
  | _ => exact h1
theorem gTy_obj {args : Array Value} {s : State} {C : String} (h : (Cond.arrayOver (.object C)).before args s = true) : ∃ cA : ClassId, ArrOfT s cA (.object C) ∧ va_RA s cA (.object C) := by
  obtain ⟨comp, c, k, h1, -, h2, h3, h4⟩ := Cond.arrayOver_spec h
  exact ⟨c, fun n z => ⟨fun k h => (by cases h), k, h2, comp, h3⟩, k, comp, h2, h3, h1, h4⟩
