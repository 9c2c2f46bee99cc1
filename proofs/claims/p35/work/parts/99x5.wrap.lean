/-! ===== the law's calls with their exceptions caught ===== -/
set_option maxHeartbeats 4000000 in
set_option maxRecDepth 100000 in
theorem wL_append {G : gG} {x : gVa} {u : gVu} {A : gA} {b : Nat} (hST : (gl G).stackTraces = false) (hA : gAok b A) (hb : b ≤ 50000) (hC : gClsI A u) (z : Int32) : CL G yL_append wsL_append 7 131 [.ref (x.1 0), .int z] (wV G x u) (fun (r : Int64) (w : gVu) => r = gCd [(-9000000000000000002), (-9000000000000000003)] (fAppend A z) ∧ gClsI (fAppend A z).2.2 w) (fun w : gVu => wV G x w) 1 6 := by
  refine g_enterLH RL rfl (by decide) rfl (Nat.le_of_ble_eq_true rfl) ?_
  intro V E hT RET
  refine g_aload_n E dL_append_0 rfl 0 rfl ?_
  refine g_iload_n E dL_append_1 rfl 1 rfl ?_
  refine g_callVX (F := []) E (lX7_append (x := x) hST hA hb hC z) gL_append_X7_append rfl hdX7_append ⟨Nat.le_of_ble_eq_true rfl, Nat.le_of_ble_eq_true rfl⟩ 7 0 rfl rfl rfl gPerm_n rfl rfl ?_ dL_append_2 ?_ (fun cls w hx => ?_) (fun r w hx => ?_)
  · exact Nat.le_of_ble_eq_true rfl
  · exact ⟨Nat.le_of_ble_eq_true rfl, Nat.le_of_ble_eq_true rfl⟩
  · obtain ⟨k, hk1, hk2, hk3⟩ := hx
    refine gWX_perm gPerm_n' ?_
    rcases (show k = 0 ∨ k = 1 ∨ 2 ≤ k by omega) with rfl | rfl | h9
    · obtain rfl : "java/lang/IllegalArgumentException" = cls := Option.some.inj hk2
      refine g_catch E hT "java/lang/IllegalArgumentException" [] [(0, 6, 12, 19)] (0, 6, 7, 15) rfl (fun z hz => by cases hz) (by decide) (by decide) cL_append_15 (by decide) (h := 7) rfl (fun qx => ?_)
      refine g_astore_n (lv' := [(2, .ref qx), (0, .ref (x.1 0)), (1, .int z)]) E dL_append_7 rfl (by decide) rfl ?_
      refine g_ldc2 (v := (-9000000000000000002)) E kL_append_17 dL_append_8 ?_
      exact RET _ _ _ w ⟨(gCd_k hk1 rfl).symm, hk3⟩ dL_append_11
    · obtain rfl : "java/lang/IllegalStateException" = cls := Option.some.inj hk2
      refine g_catch E hT "java/lang/IllegalStateException" [(0, 6, 7, 15)] [] (0, 6, 12, 19) rfl (List.forall_mem_cons.mpr ⟨⟨"java/lang/IllegalArgumentException", cL_append_15, by decide, by decide⟩, fun z hz => by cases hz⟩) (by decide) (by decide) cL_append_19 (by decide) (h := 12) rfl (fun qx => ?_)
      refine g_astore_n (lv' := [(2, .ref qx), (0, .ref (x.1 0)), (1, .int z)]) E dL_append_12 rfl (by decide) rfl ?_
      refine g_ldc2 (v := (-9000000000000000003)) E kL_append_21 dL_append_13 ?_
      exact RET _ _ _ w ⟨(gCd_k hk1 rfl).symm, hk3⟩ dL_append_16
    · exfalso
      rw [List.getElem?_eq_none (by show 2 ≤ k; exact h9)] at hk2
      cases hk2
  · obtain ⟨h1, h2, h3⟩ := hx
    refine g_perm gPerm_n' ?_
    refine g_i2l (v := r.toInt64) E dL_append_5 rfl ?_
    exact RET _ _ _ w ⟨by rw [gCd_0 h1, h2], h3⟩ dL_append_6

set_option maxHeartbeats 4000000 in
set_option maxRecDepth 100000 in
theorem wL_load {G : gG} {x : gVa} {u : gVu} {A : gA} {b : Nat} (hST : (gl G).stackTraces = false) (hA : gAok b A) (hb : b ≤ 50000) (hC : gClsI A u)  : CL G yL_load wsL_load 11 277 [.ref (x.1 0)] (wV G x u) (fun (r : Int64) (w : gVu) => r = gCd [(-9000000000000000003)] (fLoad A) ∧ gClsI (fLoad A).2.2 w) (fun w : gVu => wV G x w) 1 6 := by
  refine g_enterLH RL rfl (by decide) rfl (Nat.le_of_ble_eq_true rfl) ?_
  intro V E hT RET
  refine g_aload_n E dL_load_0 rfl 0 rfl ?_
  refine g_callVX (F := []) E (lX7_load (x := x) hST hA hb hC ) gL_load_X7_load rfl hdX7_load ⟨Nat.le_of_ble_eq_true rfl, Nat.le_of_ble_eq_true rfl⟩ 7 0 rfl rfl rfl gPerm_n rfl rfl ?_ dL_load_1 ?_ (fun cls w hx => ?_) (fun r w hx => ?_)
  · exact Nat.le_of_ble_eq_true rfl
  · exact ⟨Nat.le_of_ble_eq_true rfl, Nat.le_of_ble_eq_true rfl⟩
  · obtain ⟨k, hk1, hk2, hk3⟩ := hx
    refine gWX_perm gPerm_n' ?_
    rcases (show k = 0 ∨ 1 ≤ k by omega) with rfl | h9
    · obtain rfl : "java/lang/IllegalStateException" = cls := Option.some.inj hk2
      refine g_catch E hT "java/lang/IllegalStateException" [] [] (0, 5, 6, 19) rfl (fun z hz => by cases hz) (by decide) (by decide) cL_load_19 (by decide) (h := 6) rfl (fun qx => ?_)
      refine g_astore_n (lv' := [(1, .ref qx), (0, .ref (x.1 0))]) E dL_load_6 rfl (by decide) rfl ?_
      refine g_ldc2 (v := (-9000000000000000003)) E kL_load_21 dL_load_7 ?_
      exact RET _ _ _ w ⟨(gCd_k hk1 rfl).symm, hk3⟩ dL_load_10
    · exfalso
      rw [List.getElem?_eq_none (by show 1 ≤ k; exact h9)] at hk2
      cases hk2
  · obtain ⟨h1, h2, h3⟩ := hx
    refine g_perm gPerm_n' ?_
    refine g_i2l (v := r.toInt64) E dL_load_4 rfl ?_
    exact RET _ _ _ w ⟨by rw [gCd_0 h1, h2], h3⟩ dL_load_5

set_option maxHeartbeats 4000000 in
set_option maxRecDepth 100000 in
theorem wL_about {G : gG} {x : gVa} {u : gVu} {A : gA} {b : Nat} (hST : (gl G).stackTraces = false) (hA : gAok b A) (hb : b ≤ 50000) (hC : gClsI A u) (y : Int32) : CL G yL_about wsL_about 7 131 [.ref (x.1 0), .int y] (wV G x u) (fun (r : Int64) (w : gVu) => r = gCd [(-9000000000000000002)] (fAbout A y) ∧ gClsI (fAbout A y).2.2 w) (fun w : gVu => wV G x w) 1 6 := by
  refine g_enterLH RL rfl (by decide) rfl (Nat.le_of_ble_eq_true rfl) ?_
  intro V E hT RET
  refine g_aload_n E dL_about_0 rfl 0 rfl ?_
  refine g_iload_n E dL_about_1 rfl 1 rfl ?_
  refine g_callVX (F := []) E (lX7_about (x := x) hST hA hb hC y) gL_about_X7_about rfl hdX7_about ⟨Nat.le_of_ble_eq_true rfl, Nat.le_of_ble_eq_true rfl⟩ 7 0 rfl rfl rfl gPerm_n rfl rfl ?_ dL_about_2 ?_ (fun cls w hx => ?_) (fun r w hx => ?_)
  · exact Nat.le_of_ble_eq_true rfl
  · exact ⟨Nat.le_of_ble_eq_true rfl, Nat.le_of_ble_eq_true rfl⟩
  · obtain ⟨k, hk1, hk2, hk3⟩ := hx
    refine gWX_perm gPerm_n' ?_
    rcases (show k = 0 ∨ 1 ≤ k by omega) with rfl | h9
    · obtain rfl : "java/lang/IllegalArgumentException" = cls := Option.some.inj hk2
      refine g_catch E hT "java/lang/IllegalArgumentException" [] [] (0, 6, 7, 15) rfl (fun z hz => by cases hz) (by decide) (by decide) cL_about_15 (by decide) (h := 7) rfl (fun qx => ?_)
      refine g_astore_n (lv' := [(2, .ref qx), (0, .ref (x.1 0)), (1, .int y)]) E dL_about_7 rfl (by decide) rfl ?_
      refine g_ldc2 (v := (-9000000000000000002)) E kL_about_17 dL_about_8 ?_
      exact RET _ _ _ w ⟨(gCd_k hk1 rfl).symm, hk3⟩ dL_about_11
    · exfalso
      rw [List.getElem?_eq_none (by show 1 ≤ k; exact h9)] at hk2
      cases hk2
  · obtain ⟨h1, h2, h3⟩ := hx
    refine g_perm gPerm_n' ?_
    refine g_i2l (v := r.toInt64) E dL_about_5 rfl ?_
    exact RET _ _ _ w ⟨by rw [gCd_0 h1, h2], h3⟩ dL_about_6

set_option maxHeartbeats 4000000 in
set_option maxRecDepth 100000 in
theorem wL_prisoner {G : gG} {x : gVa} {u : gVu} {A : gA} {b : Nat} (hST : (gl G).stackTraces = false) (hA : gAok b A) (hb : b ≤ 50000) (hC : gClsI A u) (p : Int32) (y : Int32) : CL G yL_prisoner wsL_prisoner 7 132 [.ref (x.1 0), .int p, .int y] (wV G x u) (fun (r : Int64) (w : gVu) => r = gCd [(-9000000000000000001), (-9000000000000000002)] (fPris A p y) ∧ gClsI (fPris A p y).2.2 w) (fun w : gVu => wV G x w) 1 6 := by
  refine g_enterLH RL rfl (by decide) rfl (Nat.le_of_ble_eq_true rfl) ?_
  intro V E hT RET
  refine g_aload_n E dL_prisoner_0 rfl 0 rfl ?_
  refine g_iload_n E dL_prisoner_1 rfl 1 rfl ?_
  refine g_iload_n E dL_prisoner_2 rfl 2 rfl ?_
  refine g_callVX (F := []) E (lX7_prisoner (x := x) hST hA hb hC p y) gL_prisoner_X7_prisoner rfl hdX7_prisoner ⟨Nat.le_of_ble_eq_true rfl, Nat.le_of_ble_eq_true rfl⟩ 7 0 rfl rfl rfl gPerm_n rfl rfl ?_ dL_prisoner_3 ?_ (fun cls w hx => ?_) (fun r w hx => ?_)
  · exact Nat.le_of_ble_eq_true rfl
  · exact ⟨Nat.le_of_ble_eq_true rfl, Nat.le_of_ble_eq_true rfl⟩
  · obtain ⟨k, hk1, hk2, hk3⟩ := hx
    refine gWX_perm gPerm_n' ?_
    rcases (show k = 0 ∨ k = 1 ∨ 2 ≤ k by omega) with rfl | rfl | h9
    · obtain rfl : "java/lang/IndexOutOfBoundsException" = cls := Option.some.inj hk2
      refine g_catch E hT "java/lang/IndexOutOfBoundsException" [] [(0, 7, 13, 15)] (0, 7, 8, 34) rfl (fun z hz => by cases hz) (by decide) (by decide) cL_prisoner_34 (by decide) (h := 8) rfl (fun qx => ?_)
      refine g_astore_n (lv' := [(3, .ref qx), (0, .ref (x.1 0)), (1, .int p), (2, .int y)]) E dL_prisoner_8 rfl (by decide) rfl ?_
      refine g_ldc2 (v := (-9000000000000000001)) E kL_prisoner_36 dL_prisoner_9 ?_
      exact RET _ _ _ w ⟨(gCd_k hk1 rfl).symm, hk3⟩ dL_prisoner_12
    · obtain rfl : "java/lang/IllegalArgumentException" = cls := Option.some.inj hk2
      refine g_catch E hT "java/lang/IllegalArgumentException" [(0, 7, 8, 34)] [] (0, 7, 13, 15) rfl (List.forall_mem_cons.mpr ⟨⟨"java/lang/IndexOutOfBoundsException", cL_prisoner_34, by decide, by decide⟩, fun z hz => by cases hz⟩) (by decide) (by decide) cL_prisoner_15 (by decide) (h := 13) rfl (fun qx => ?_)
      refine g_astore_n (lv' := [(3, .ref qx), (0, .ref (x.1 0)), (1, .int p), (2, .int y)]) E dL_prisoner_13 rfl (by decide) rfl ?_
      refine g_ldc2 (v := (-9000000000000000002)) E kL_prisoner_17 dL_prisoner_14 ?_
      exact RET _ _ _ w ⟨(gCd_k hk1 rfl).symm, hk3⟩ dL_prisoner_17
    · exfalso
      rw [List.getElem?_eq_none (by show 2 ≤ k; exact h9)] at hk2
      cases hk2
  · obtain ⟨h1, h2, h3⟩ := hx
    refine g_perm gPerm_n' ?_
    refine g_i2l (v := r.toInt64) E dL_prisoner_6 rfl ?_
    exact RET _ _ _ w ⟨by rw [gCd_0 h1, h2], h3⟩ dL_prisoner_7

set_option maxHeartbeats 4000000 in
set_option maxRecDepth 100000 in
theorem wL_visitor {G : gG} {x : gVa} {u : gVu} {A : gA} {b : Nat} (hST : (gl G).stackTraces = false) (hA : gAok b A) (hb : b ≤ 50000) (hC : gClsI A u) (p : Int32) (y : Int32) : CL G yL_visitor wsL_visitor 7 132 [.ref (x.1 0), .int p, .int y] (wV G x u) (fun (r : Int64) (w : gVu) => r = gCd [(-9000000000000000001), (-9000000000000000002)] (fVisr A p y) ∧ gClsI (fVisr A p y).2.2 w) (fun w : gVu => wV G x w) 1 6 := by
  refine g_enterLH RL rfl (by decide) rfl (Nat.le_of_ble_eq_true rfl) ?_
  intro V E hT RET
  refine g_aload_n E dL_visitor_0 rfl 0 rfl ?_
  refine g_iload_n E dL_visitor_1 rfl 1 rfl ?_
  refine g_iload_n E dL_visitor_2 rfl 2 rfl ?_
  refine g_callVX (F := []) E (lX7_visitor (x := x) hST hA hb hC p y) gL_visitor_X7_visitor rfl hdX7_visitor ⟨Nat.le_of_ble_eq_true rfl, Nat.le_of_ble_eq_true rfl⟩ 7 0 rfl rfl rfl gPerm_n rfl rfl ?_ dL_visitor_3 ?_ (fun cls w hx => ?_) (fun r w hx => ?_)
  · exact Nat.le_of_ble_eq_true rfl
  · exact ⟨Nat.le_of_ble_eq_true rfl, Nat.le_of_ble_eq_true rfl⟩
  · obtain ⟨k, hk1, hk2, hk3⟩ := hx
    refine gWX_perm gPerm_n' ?_
    rcases (show k = 0 ∨ k = 1 ∨ 2 ≤ k by omega) with rfl | rfl | h9
    · obtain rfl : "java/lang/IndexOutOfBoundsException" = cls := Option.some.inj hk2
      refine g_catch E hT "java/lang/IndexOutOfBoundsException" [] [(0, 7, 13, 15)] (0, 7, 8, 34) rfl (fun z hz => by cases hz) (by decide) (by decide) cL_visitor_34 (by decide) (h := 8) rfl (fun qx => ?_)
      refine g_astore_n (lv' := [(3, .ref qx), (0, .ref (x.1 0)), (1, .int p), (2, .int y)]) E dL_visitor_8 rfl (by decide) rfl ?_
      refine g_ldc2 (v := (-9000000000000000001)) E kL_visitor_36 dL_visitor_9 ?_
      exact RET _ _ _ w ⟨(gCd_k hk1 rfl).symm, hk3⟩ dL_visitor_12
    · obtain rfl : "java/lang/IllegalArgumentException" = cls := Option.some.inj hk2
      refine g_catch E hT "java/lang/IllegalArgumentException" [(0, 7, 8, 34)] [] (0, 7, 13, 15) rfl (List.forall_mem_cons.mpr ⟨⟨"java/lang/IndexOutOfBoundsException", cL_visitor_34, by decide, by decide⟩, fun z hz => by cases hz⟩) (by decide) (by decide) cL_visitor_15 (by decide) (h := 13) rfl (fun qx => ?_)
      refine g_astore_n (lv' := [(3, .ref qx), (0, .ref (x.1 0)), (1, .int p), (2, .int y)]) E dL_visitor_13 rfl (by decide) rfl ?_
      refine g_ldc2 (v := (-9000000000000000002)) E kL_visitor_17 dL_visitor_14 ?_
      exact RET _ _ _ w ⟨(gCd_k hk1 rfl).symm, hk3⟩ dL_visitor_17
    · exfalso
      rw [List.getElem?_eq_none (by show 2 ≤ k; exact h9)] at hk2
      cases hk2
  · obtain ⟨h1, h2, h3⟩ := hx
    refine g_perm gPerm_n' ?_
    refine g_i2l (v := r.toInt64) E dL_visitor_6 rfl ?_
    exact RET _ _ _ w ⟨by rw [gCd_0 h1, h2], h3⟩ dL_visitor_7

set_option maxHeartbeats 4000000 in
set_option maxRecDepth 100000 in
theorem wL_booking {G : gG} {x : gVa} {u : gVu} {A : gA} {b : Nat} (hST : (gl G).stackTraces = false) (hA : gAok b A) (hb : b ≤ 50000) (hC : gClsI A u) (p : Int32) (y : Int32) : CL G yL_booking wsL_booking 7 132 [.ref (x.1 0), .int p, .int y] (wV G x u) (fun (r : Int64) (w : gVu) => r = gCd [(-9000000000000000001), (-9000000000000000002)] (fBkng A p y) ∧ gClsI (fBkng A p y).2.2 w) (fun w : gVu => wV G x w) 1 6 := by
  refine g_enterLH RL rfl (by decide) rfl (Nat.le_of_ble_eq_true rfl) ?_
  intro V E hT RET
  refine g_aload_n E dL_booking_0 rfl 0 rfl ?_
  refine g_iload_n E dL_booking_1 rfl 1 rfl ?_
  refine g_iload_n E dL_booking_2 rfl 2 rfl ?_
  refine g_callVX (F := []) E (lX7_booking (x := x) hST hA hb hC p y) gL_booking_X7_booking rfl hdX7_booking ⟨Nat.le_of_ble_eq_true rfl, Nat.le_of_ble_eq_true rfl⟩ 7 0 rfl rfl rfl gPerm_n rfl rfl ?_ dL_booking_3 ?_ (fun cls w hx => ?_) (fun r w hx => ?_)
  · exact Nat.le_of_ble_eq_true rfl
  · exact ⟨Nat.le_of_ble_eq_true rfl, Nat.le_of_ble_eq_true rfl⟩
  · obtain ⟨k, hk1, hk2, hk3⟩ := hx
    refine gWX_perm gPerm_n' ?_
    rcases (show k = 0 ∨ k = 1 ∨ 2 ≤ k by omega) with rfl | rfl | h9
    · obtain rfl : "java/lang/IndexOutOfBoundsException" = cls := Option.some.inj hk2
      refine g_catch E hT "java/lang/IndexOutOfBoundsException" [] [(0, 7, 13, 15)] (0, 7, 8, 34) rfl (fun z hz => by cases hz) (by decide) (by decide) cL_booking_34 (by decide) (h := 8) rfl (fun qx => ?_)
      refine g_astore_n (lv' := [(3, .ref qx), (0, .ref (x.1 0)), (1, .int p), (2, .int y)]) E dL_booking_8 rfl (by decide) rfl ?_
      refine g_ldc2 (v := (-9000000000000000001)) E kL_booking_36 dL_booking_9 ?_
      exact RET _ _ _ w ⟨(gCd_k hk1 rfl).symm, hk3⟩ dL_booking_12
    · obtain rfl : "java/lang/IllegalArgumentException" = cls := Option.some.inj hk2
      refine g_catch E hT "java/lang/IllegalArgumentException" [(0, 7, 8, 34)] [] (0, 7, 13, 15) rfl (List.forall_mem_cons.mpr ⟨⟨"java/lang/IndexOutOfBoundsException", cL_booking_34, by decide, by decide⟩, fun z hz => by cases hz⟩) (by decide) (by decide) cL_booking_15 (by decide) (h := 13) rfl (fun qx => ?_)
      refine g_astore_n (lv' := [(3, .ref qx), (0, .ref (x.1 0)), (1, .int p), (2, .int y)]) E dL_booking_13 rfl (by decide) rfl ?_
      refine g_ldc2 (v := (-9000000000000000002)) E kL_booking_17 dL_booking_14 ?_
      exact RET _ _ _ w ⟨(gCd_k hk1 rfl).symm, hk3⟩ dL_booking_17
    · exfalso
      rw [List.getElem?_eq_none (by show 2 ≤ k; exact h9)] at hk2
      cases hk2
  · obtain ⟨h1, h2, h3⟩ := hx
    refine g_perm gPerm_n' ?_
    refine g_i2l (v := r.toInt64) E dL_booking_6 rfl ?_
    exact RET _ _ _ w ⟨by rw [gCd_0 h1, h2], h3⟩ dL_booking_7

set_option maxHeartbeats 4000000 in
set_option maxRecDepth 100000 in
theorem wL_line {G : gG} {x : gVa} {u : gVu} {A : gA} {b : Nat} (hST : (gl G).stackTraces = false) (hA : gAok b A) (hb : b ≤ 50000) (hC : gClsI A u) (k : Int32) (z : Int32) : CL G yL_line wsL_line 13 332 [.ref (x.1 0), .int k, .int z] (wV G x u) (fun (r : Int64) (w : gVu) => r = gCd [(-9000000000000000001), (-9000000000000000002)] (fLine A k z) ∧ gClsI (fLine A k z).2.2 w) (fun w : gVu => wV G x w) 14 428 := by
  refine g_enterLH RL rfl (by decide) rfl (Nat.le_of_ble_eq_true rfl) ?_
  intro V E hT RET
  refine g_aload_n E dL_line_0 rfl 0 rfl ?_
  refine g_iload_n E dL_line_1 rfl 1 rfl ?_
  refine g_iload_n E dL_line_2 rfl 2 rfl ?_
  refine g_callVX (F := []) E (lX7_line (x := x) hST hA hb hC k z) gL_line_X7_line rfl hdX7_line ⟨Nat.le_of_ble_eq_true rfl, Nat.le_of_ble_eq_true rfl⟩ 7 0 rfl rfl rfl gPerm_n rfl rfl ?_ dL_line_3 ?_ (fun cls w hx => ?_) (fun r w hx => ?_)
  · exact Nat.le_of_ble_eq_true rfl
  · exact ⟨Nat.le_of_ble_eq_true rfl, Nat.le_of_ble_eq_true rfl⟩
  · obtain ⟨k, hk1, hk2, hk3⟩ := hx
    refine gWX_perm gPerm_n' ?_
    rcases (show k = 0 ∨ k = 1 ∨ 2 ≤ k by omega) with rfl | rfl | h9
    · obtain rfl : "java/lang/IndexOutOfBoundsException" = cls := Option.some.inj hk2
      refine g_catch E hT "java/lang/IndexOutOfBoundsException" [] [(0, 7, 13, 15)] (0, 7, 8, 34) rfl (fun z hz => by cases hz) (by decide) (by decide) cL_line_34 (by decide) (h := 8) rfl (fun qx => ?_)
      refine g_astore_n (lv' := [(3, .ref qx), (0, .ref (x.1 0)), (1, .int k), (2, .int z)]) E dL_line_8 rfl (by decide) rfl ?_
      refine g_ldc2 (v := (-9000000000000000001)) E kL_line_36 dL_line_9 ?_
      exact RET _ _ _ w ⟨(gCd_k hk1 rfl).symm, hk3⟩ dL_line_12
    · obtain rfl : "java/lang/IllegalArgumentException" = cls := Option.some.inj hk2
      refine g_catch E hT "java/lang/IllegalArgumentException" [(0, 7, 8, 34)] [] (0, 7, 13, 15) rfl (List.forall_mem_cons.mpr ⟨⟨"java/lang/IndexOutOfBoundsException", cL_line_34, by decide, by decide⟩, fun z hz => by cases hz⟩) (by decide) (by decide) cL_line_15 (by decide) (h := 13) rfl (fun qx => ?_)
      refine g_astore_n (lv' := [(3, .ref qx), (0, .ref (x.1 0)), (1, .int k), (2, .int z)]) E dL_line_13 rfl (by decide) rfl ?_
      refine g_ldc2 (v := (-9000000000000000002)) E kL_line_17 dL_line_14 ?_
      exact RET _ _ _ w ⟨(gCd_k hk1 rfl).symm, hk3⟩ dL_line_17
    · exfalso
      rw [List.getElem?_eq_none (by show 2 ≤ k; exact h9)] at hk2
      cases hk2
  · obtain ⟨h1, h2, h3⟩ := hx
    refine g_perm gPerm_n' ?_
    refine g_i2l (v := r.toInt64) E dL_line_6 rfl ?_
    exact RET _ _ _ w ⟨by rw [gCd_0 h1, h2], h3⟩ dL_line_7

set_option maxHeartbeats 4000000 in
set_option maxRecDepth 100000 in
theorem wL_wishAt {G : gG} {x : gVa} {u : gVu} {A : gA} {b : Nat} (hST : (gl G).stackTraces = false) (hA : gAok b A) (hb : b ≤ 50000) (hC : gClsI A u) (k : Int32) : CL G yL_wishAt wsL_wishAt 7 131 [.ref (x.1 0), .int k] (wV G x u) (fun (r : Int64) (w : gVu) => r = gCd [(-9000000000000000002)] (fWish A k) ∧ gClsI (fWish A k).2.2 w) (fun w : gVu => wV G x w) 1 6 := by
  refine g_enterLH RL rfl (by decide) rfl (Nat.le_of_ble_eq_true rfl) ?_
  intro V E hT RET
  refine g_aload_n E dL_wishAt_0 rfl 0 rfl ?_
  refine g_iload_n E dL_wishAt_1 rfl 1 rfl ?_
  refine g_callVX (F := []) E (lX7_wishAt (x := x) hST hA hb hC k) gL_wishAt_X7_wishAt rfl hdX7_wishAt ⟨Nat.le_of_ble_eq_true rfl, Nat.le_of_ble_eq_true rfl⟩ 7 0 rfl rfl rfl gPerm_n rfl rfl ?_ dL_wishAt_2 ?_ (fun cls w hx => ?_) (fun r w hx => ?_)
  · exact Nat.le_of_ble_eq_true rfl
  · exact ⟨Nat.le_of_ble_eq_true rfl, Nat.le_of_ble_eq_true rfl⟩
  · obtain ⟨k, hk1, hk2, hk3⟩ := hx
    refine gWX_perm gPerm_n' ?_
    rcases (show k = 0 ∨ 1 ≤ k by omega) with rfl | h9
    · obtain rfl : "java/lang/IllegalArgumentException" = cls := Option.some.inj hk2
      refine g_catch E hT "java/lang/IllegalArgumentException" [] [] (0, 6, 7, 15) rfl (fun z hz => by cases hz) (by decide) (by decide) cL_wishAt_15 (by decide) (h := 7) rfl (fun qx => ?_)
      refine g_astore_n (lv' := [(2, .ref qx), (0, .ref (x.1 0)), (1, .int k)]) E dL_wishAt_7 rfl (by decide) rfl ?_
      refine g_ldc2 (v := (-9000000000000000002)) E kL_wishAt_17 dL_wishAt_8 ?_
      exact RET _ _ _ w ⟨(gCd_k hk1 rfl).symm, hk3⟩ dL_wishAt_11
    · exfalso
      rw [List.getElem?_eq_none (by show 1 ≤ k; exact h9)] at hk2
      cases hk2
  · obtain ⟨h1, h2, h3⟩ := hx
    refine g_perm gPerm_n' ?_
    refine g_i2l (v := r.toInt64) E dL_wishAt_5 rfl ?_
    exact RET _ _ _ w ⟨by rw [gCd_0 h1, h2], h3⟩ dL_wishAt_6

set_option maxHeartbeats 4000000 in
set_option maxRecDepth 100000 in
theorem wL_setting {G : gG} {x : gVa} {u : gVu} {A : gA} {b : Nat} (hST : (gl G).stackTraces = false) (hA : gAok b A) (hb : b ≤ 50000) (hC : gClsI A u) (y : Int32) : CL G yL_setting wsL_setting 7 131 [.ref (x.1 0), .int y] (wV G x u) (fun (r : Int64) (w : gVu) => r = gCd [(-9000000000000000002)] (fSett A y) ∧ gClsI (fSett A y).2.2 w) (fun w : gVu => wV G x w) 1 6 := by
  refine g_enterLH RL rfl (by decide) rfl (Nat.le_of_ble_eq_true rfl) ?_
  intro V E hT RET
  refine g_aload_n E dL_setting_0 rfl 0 rfl ?_
  refine g_iload_n E dL_setting_1 rfl 1 rfl ?_
  refine g_callVX (F := []) E (lX7_setting (x := x) hST hA hb hC y) gL_setting_X7_setting rfl hdX7_setting ⟨Nat.le_of_ble_eq_true rfl, Nat.le_of_ble_eq_true rfl⟩ 7 0 rfl rfl rfl gPerm_n rfl rfl ?_ dL_setting_2 ?_ (fun cls w hx => ?_) (fun r w hx => ?_)
  · exact Nat.le_of_ble_eq_true rfl
  · exact ⟨Nat.le_of_ble_eq_true rfl, Nat.le_of_ble_eq_true rfl⟩
  · obtain ⟨k, hk1, hk2, hk3⟩ := hx
    refine gWX_perm gPerm_n' ?_
    rcases (show k = 0 ∨ 1 ≤ k by omega) with rfl | h9
    · obtain rfl : "java/lang/IllegalArgumentException" = cls := Option.some.inj hk2
      refine g_catch E hT "java/lang/IllegalArgumentException" [] [] (0, 6, 7, 15) rfl (fun z hz => by cases hz) (by decide) (by decide) cL_setting_15 (by decide) (h := 7) rfl (fun qx => ?_)
      refine g_astore_n (lv' := [(2, .ref qx), (0, .ref (x.1 0)), (1, .int y)]) E dL_setting_7 rfl (by decide) rfl ?_
      refine g_ldc2 (v := (-9000000000000000002)) E kL_setting_17 dL_setting_8 ?_
      exact RET _ _ _ w ⟨(gCd_k hk1 rfl).symm, hk3⟩ dL_setting_11
    · exfalso
      rw [List.getElem?_eq_none (by show 1 ≤ k; exact h9)] at hk2
      cases hk2
  · obtain ⟨h1, h2, h3⟩ := hx
    refine g_perm gPerm_n' ?_
    refine g_i2l (v := r.toInt64) E dL_setting_5 rfl ?_
    exact RET _ _ _ w ⟨by rw [gCd_0 h1, h2], h3⟩ dL_setting_6

set_option maxHeartbeats 4000000 in
set_option maxRecDepth 100000 in
theorem wL_addPrisoner {G : gG} {x : gVa} {u : gVu} {A : gA} {b : Nat} (hST : (gl G).stackTraces = false) (hA : gAok b A) (hb : b ≤ 50000) (hC : gClsI A u) (z : Int32) : CL G yL_addPrisoner wsL_addPrisoner 8 152 [.ref (x.1 0), .int z] (wV G x u) (fun (r : Int64) (w : gVu) => r = gCd [(-9000000000000000002), (-9000000000000000003)] (aAct 0 1 2 A (gTryAdd (aS A) z)) ∧ gClsI (aAct 0 1 2 A (gTryAdd (aS A) z)).2.2 w) (fun w : gVu => wV G x w) 1 6 := by
  refine g_enterLH RL rfl (by decide) rfl (Nat.le_of_ble_eq_true rfl) ?_
  intro V E hT RET
  refine g_aload_n E dL_addPrisoner_0 rfl 0 rfl ?_
  refine g_iload_n E dL_addPrisoner_1 rfl 1 rfl ?_
  refine g_callVX (F := []) E (lX7_addPrisoner (x := x) hST hA hb hC z) gL_addPrisoner_X7_addPrisoner rfl hdX7_addPrisoner ⟨Nat.le_of_ble_eq_true rfl, Nat.le_of_ble_eq_true rfl⟩ 7 0 rfl rfl rfl gPerm_n rfl rfl ?_ dL_addPrisoner_2 ?_ (fun cls w hx => ?_) (fun r w hx => ?_)
  · exact Nat.le_of_ble_eq_true rfl
  · exact ⟨Nat.le_of_ble_eq_true rfl, Nat.le_of_ble_eq_true rfl⟩
  · obtain ⟨k, hk1, hk2, hk3⟩ := hx
    refine gWX_perm gPerm_n' ?_
    rcases (show k = 0 ∨ k = 1 ∨ 2 ≤ k by omega) with rfl | rfl | h9
    · obtain rfl : "java/lang/IllegalArgumentException" = cls := Option.some.inj hk2
      refine g_catch E hT "java/lang/IllegalArgumentException" [] [(0, 6, 12, 19)] (0, 6, 7, 15) rfl (fun z hz => by cases hz) (by decide) (by decide) cL_addPrisoner_15 (by decide) (h := 7) rfl (fun qx => ?_)
      refine g_astore_n (lv' := [(2, .ref qx), (0, .ref (x.1 0)), (1, .int z)]) E dL_addPrisoner_7 rfl (by decide) rfl ?_
      refine g_ldc2 (v := (-9000000000000000002)) E kL_addPrisoner_17 dL_addPrisoner_8 ?_
      exact RET _ _ _ w ⟨(gCd_k hk1 rfl).symm, hk3⟩ dL_addPrisoner_11
    · obtain rfl : "java/lang/IllegalStateException" = cls := Option.some.inj hk2
      refine g_catch E hT "java/lang/IllegalStateException" [(0, 6, 7, 15)] [] (0, 6, 12, 19) rfl (List.forall_mem_cons.mpr ⟨⟨"java/lang/IllegalArgumentException", cL_addPrisoner_15, by decide, by decide⟩, fun z hz => by cases hz⟩) (by decide) (by decide) cL_addPrisoner_19 (by decide) (h := 12) rfl (fun qx => ?_)
      refine g_astore_n (lv' := [(2, .ref qx), (0, .ref (x.1 0)), (1, .int z)]) E dL_addPrisoner_12 rfl (by decide) rfl ?_
      refine g_ldc2 (v := (-9000000000000000003)) E kL_addPrisoner_21 dL_addPrisoner_13 ?_
      exact RET _ _ _ w ⟨(gCd_k hk1 rfl).symm, hk3⟩ dL_addPrisoner_16
    · exfalso
      rw [List.getElem?_eq_none (by show 2 ≤ k; exact h9)] at hk2
      cases hk2
  · obtain ⟨h1, h2, h3⟩ := hx
    refine g_perm gPerm_n' ?_
    refine g_i2l (v := r.toInt64) E dL_addPrisoner_5 rfl ?_
    exact RET _ _ _ w ⟨by rw [gCd_0 h1, h2], h3⟩ dL_addPrisoner_6

set_option maxHeartbeats 4000000 in
set_option maxRecDepth 100000 in
theorem wL_promote {G : gG} {x : gVa} {u : gVu} {A : gA} {b : Nat} (hST : (gl G).stackTraces = false) (hA : gAok b A) (hb : b ≤ 50000) (hC : gClsI A u) (p : Int32) (z : Int32) : CL G yL_promote wsL_promote 8 153 [.ref (x.1 0), .int p, .int z] (wV G x u) (fun (r : Int64) (w : gVu) => r = gCd [(-9000000000000000001), (-9000000000000000002)] (aAct 1 2 0 A (gTryPromote (aS A) p z)) ∧ gClsI (aAct 1 2 0 A (gTryPromote (aS A) p z)).2.2 w) (fun w : gVu => wV G x w) 1 6 := by
  refine g_enterLH RL rfl (by decide) rfl (Nat.le_of_ble_eq_true rfl) ?_
  intro V E hT RET
  refine g_aload_n E dL_promote_0 rfl 0 rfl ?_
  refine g_iload_n E dL_promote_1 rfl 1 rfl ?_
  refine g_iload_n E dL_promote_2 rfl 2 rfl ?_
  refine g_callVX (F := []) E (lX7_promote (x := x) hST hA hb hC p z) gL_promote_X7_promote rfl hdX7_promote ⟨Nat.le_of_ble_eq_true rfl, Nat.le_of_ble_eq_true rfl⟩ 7 0 rfl rfl rfl gPerm_n rfl rfl ?_ dL_promote_3 ?_ (fun cls w hx => ?_) (fun r w hx => ?_)
  · exact Nat.le_of_ble_eq_true rfl
  · exact ⟨Nat.le_of_ble_eq_true rfl, Nat.le_of_ble_eq_true rfl⟩
  · obtain ⟨k, hk1, hk2, hk3⟩ := hx
    refine gWX_perm gPerm_n' ?_
    rcases (show k = 0 ∨ k = 1 ∨ 2 ≤ k by omega) with rfl | rfl | h9
    · obtain rfl : "java/lang/IndexOutOfBoundsException" = cls := Option.some.inj hk2
      refine g_catch E hT "java/lang/IndexOutOfBoundsException" [] [(0, 7, 13, 15)] (0, 7, 8, 34) rfl (fun z hz => by cases hz) (by decide) (by decide) cL_promote_34 (by decide) (h := 8) rfl (fun qx => ?_)
      refine g_astore_n (lv' := [(3, .ref qx), (0, .ref (x.1 0)), (1, .int p), (2, .int z)]) E dL_promote_8 rfl (by decide) rfl ?_
      refine g_ldc2 (v := (-9000000000000000001)) E kL_promote_36 dL_promote_9 ?_
      exact RET _ _ _ w ⟨(gCd_k hk1 rfl).symm, hk3⟩ dL_promote_12
    · obtain rfl : "java/lang/IllegalArgumentException" = cls := Option.some.inj hk2
      refine g_catch E hT "java/lang/IllegalArgumentException" [(0, 7, 8, 34)] [] (0, 7, 13, 15) rfl (List.forall_mem_cons.mpr ⟨⟨"java/lang/IndexOutOfBoundsException", cL_promote_34, by decide, by decide⟩, fun z hz => by cases hz⟩) (by decide) (by decide) cL_promote_15 (by decide) (h := 13) rfl (fun qx => ?_)
      refine g_astore_n (lv' := [(3, .ref qx), (0, .ref (x.1 0)), (1, .int p), (2, .int z)]) E dL_promote_13 rfl (by decide) rfl ?_
      refine g_ldc2 (v := (-9000000000000000002)) E kL_promote_17 dL_promote_14 ?_
      exact RET _ _ _ w ⟨(gCd_k hk1 rfl).symm, hk3⟩ dL_promote_17
    · exfalso
      rw [List.getElem?_eq_none (by show 2 ≤ k; exact h9)] at hk2
      cases hk2
  · obtain ⟨h1, h2, h3⟩ := hx
    refine g_perm gPerm_n' ?_
    refine g_i2l (v := r.toInt64) E dL_promote_6 rfl ?_
    exact RET _ _ _ w ⟨by rw [gCd_0 h1, h2], h3⟩ dL_promote_7

set_option maxHeartbeats 4000000 in
set_option maxRecDepth 100000 in
theorem wL_list {G : gG} {x : gVa} {u : gVu} {A : gA} {b : Nat} (hST : (gl G).stackTraces = false) (hA : gAok b A) (hb : b ≤ 50000) (hC : gClsI A u) (p : Int32) (q : Int32) (z : Int32) : CL G yL_list wsL_list 8 154 [.ref (x.1 0), .int p, .int q, .int z] (wV G x u) (fun (r : Int64) (w : gVu) => r = gCd [(-9000000000000000001)] (aAct 1 0 0 A (gTryList (aS A) p q z)) ∧ gClsI (aAct 1 0 0 A (gTryList (aS A) p q z)).2.2 w) (fun w : gVu => wV G x w) 1 6 := by
  refine g_enterLH RL rfl (by decide) rfl (Nat.le_of_ble_eq_true rfl) ?_
  intro V E hT RET
  refine g_aload_n E dL_list_0 rfl 0 rfl ?_
  refine g_iload_n E dL_list_1 rfl 1 rfl ?_
  refine g_iload_n E dL_list_2 rfl 2 rfl ?_
  refine g_iload_n E dL_list_3 rfl 3 rfl ?_
  refine g_callVX (F := []) E (lX7_list (x := x) hST hA hb hC p q z) gL_list_X7_list rfl hdX7_list ⟨Nat.le_of_ble_eq_true rfl, Nat.le_of_ble_eq_true rfl⟩ 7 0 rfl rfl rfl gPerm_n rfl rfl ?_ dL_list_4 ?_ (fun cls w hx => ?_) (fun r w hx => ?_)
  · exact Nat.le_of_ble_eq_true rfl
  · exact ⟨Nat.le_of_ble_eq_true rfl, Nat.le_of_ble_eq_true rfl⟩
  · obtain ⟨k, hk1, hk2, hk3⟩ := hx
    refine gWX_perm gPerm_n' ?_
    rcases (show k = 0 ∨ 1 ≤ k by omega) with rfl | h9
    · obtain rfl : "java/lang/IndexOutOfBoundsException" = cls := Option.some.inj hk2
      refine g_catch E hT "java/lang/IndexOutOfBoundsException" [] [] (0, 8, 9, 34) rfl (fun z hz => by cases hz) (by decide) (by decide) cL_list_34 (by decide) (h := 9) rfl (fun qx => ?_)
      refine g_astore (lv' := [(4, .ref qx), (0, .ref (x.1 0)), (1, .int p), (2, .int q), (3, .int z)]) E dL_list_9 (by decide) rfl ?_
      refine g_ldc2 (v := (-9000000000000000001)) E kL_list_36 dL_list_11 ?_
      exact RET _ _ _ w ⟨(gCd_k hk1 rfl).symm, hk3⟩ dL_list_14
    · exfalso
      rw [List.getElem?_eq_none (by show 1 ≤ k; exact h9)] at hk2
      cases hk2
  · obtain ⟨h1, h2, h3⟩ := hx
    refine g_perm gPerm_n' ?_
    refine g_i2l (v := r.toInt64) E dL_list_7 rfl ?_
    exact RET _ _ _ w ⟨by rw [gCd_0 h1, h2], h3⟩ dL_list_8

set_option maxHeartbeats 4000000 in
set_option maxRecDepth 100000 in
theorem wL_keepApart {G : gG} {x : gVa} {u : gVu} {A : gA} {b : Nat} (hST : (gl G).stackTraces = false) (hA : gAok b A) (hb : b ≤ 50000) (hC : gClsI A u) (p : Int32) (q : Int32) (z : Int32) : CL G yL_keepApart wsL_keepApart 8 154 [.ref (x.1 0), .int p, .int q, .int z] (wV G x u) (fun (r : Int64) (w : gVu) => r = gCd [(-9000000000000000001), (-9000000000000000003)] (aAct 1 0 2 A (gTryApart (aS A) p q z)) ∧ gClsI (aAct 1 0 2 A (gTryApart (aS A) p q z)).2.2 w) (fun w : gVu => wV G x w) 1 6 := by
  refine g_enterLH RL rfl (by decide) rfl (Nat.le_of_ble_eq_true rfl) ?_
  intro V E hT RET
  refine g_aload_n E dL_keepApart_0 rfl 0 rfl ?_
  refine g_iload_n E dL_keepApart_1 rfl 1 rfl ?_
  refine g_iload_n E dL_keepApart_2 rfl 2 rfl ?_
  refine g_iload_n E dL_keepApart_3 rfl 3 rfl ?_
  refine g_callVX (F := []) E (lX7_keepApart (x := x) hST hA hb hC p q z) gL_keepApart_X7_keepApart rfl hdX7_keepApart ⟨Nat.le_of_ble_eq_true rfl, Nat.le_of_ble_eq_true rfl⟩ 7 0 rfl rfl rfl gPerm_n rfl rfl ?_ dL_keepApart_4 ?_ (fun cls w hx => ?_) (fun r w hx => ?_)
  · exact Nat.le_of_ble_eq_true rfl
  · exact ⟨Nat.le_of_ble_eq_true rfl, Nat.le_of_ble_eq_true rfl⟩
  · obtain ⟨k, hk1, hk2, hk3⟩ := hx
    refine gWX_perm gPerm_n' ?_
    rcases (show k = 0 ∨ k = 1 ∨ 2 ≤ k by omega) with rfl | rfl | h9
    · obtain rfl : "java/lang/IndexOutOfBoundsException" = cls := Option.some.inj hk2
      refine g_catch E hT "java/lang/IndexOutOfBoundsException" [] [(0, 8, 15, 19)] (0, 8, 9, 34) rfl (fun z hz => by cases hz) (by decide) (by decide) cL_keepApart_34 (by decide) (h := 9) rfl (fun qx => ?_)
      refine g_astore (lv' := [(4, .ref qx), (0, .ref (x.1 0)), (1, .int p), (2, .int q), (3, .int z)]) E dL_keepApart_9 (by decide) rfl ?_
      refine g_ldc2 (v := (-9000000000000000001)) E kL_keepApart_36 dL_keepApart_11 ?_
      exact RET _ _ _ w ⟨(gCd_k hk1 rfl).symm, hk3⟩ dL_keepApart_14
    · obtain rfl : "java/lang/IllegalStateException" = cls := Option.some.inj hk2
      refine g_catch E hT "java/lang/IllegalStateException" [(0, 8, 9, 34)] [] (0, 8, 15, 19) rfl (List.forall_mem_cons.mpr ⟨⟨"java/lang/IndexOutOfBoundsException", cL_keepApart_34, by decide, by decide⟩, fun z hz => by cases hz⟩) (by decide) (by decide) cL_keepApart_19 (by decide) (h := 15) rfl (fun qx => ?_)
      refine g_astore (lv' := [(4, .ref qx), (0, .ref (x.1 0)), (1, .int p), (2, .int q), (3, .int z)]) E dL_keepApart_15 (by decide) rfl ?_
      refine g_ldc2 (v := (-9000000000000000003)) E kL_keepApart_21 dL_keepApart_17 ?_
      exact RET _ _ _ w ⟨(gCd_k hk1 rfl).symm, hk3⟩ dL_keepApart_20
    · exfalso
      rw [List.getElem?_eq_none (by show 2 ≤ k; exact h9)] at hk2
      cases hk2
  · obtain ⟨h1, h2, h3⟩ := hx
    refine g_perm gPerm_n' ?_
    refine g_i2l (v := r.toInt64) E dL_keepApart_7 rfl ?_
    exact RET _ _ _ w ⟨by rw [gCd_0 h1, h2], h3⟩ dL_keepApart_8

set_option maxHeartbeats 4000000 in
set_option maxRecDepth 100000 in
theorem wL_book {G : gG} {x : gVa} {u : gVu} {A : gA} {b : Nat} (hST : (gl G).stackTraces = false) (hA : gAok b A) (hb : b ≤ 50000) (hC : gClsI A u) (p : Int32) (q : Int32) (d : Int32) (h : Int32) : CL G yL_book wsL_book 8 160 [.ref (x.1 0), .int p, .int q, .int d, .int h] (wV G x u) (fun (r : Int64) (w : gVu) => r = gCd [(-9000000000000000001), (-9000000000000000002), (-9000000000000000003)] (aAct 1 2 3 A (gTryBook (aS A) p q d h)) ∧ gClsI (aAct 1 2 3 A (gTryBook (aS A) p q d h)).2.2 w) (fun w : gVu => wV G x w) 1 6 := by
  refine g_enterLH RL rfl (by decide) rfl (Nat.le_of_ble_eq_true rfl) ?_
  intro V E hT RET
  refine g_aload_n E dL_book_0 rfl 0 rfl ?_
  refine g_iload_n E dL_book_1 rfl 1 rfl ?_
  refine g_iload_n E dL_book_2 rfl 2 rfl ?_
  refine g_iload_n E dL_book_3 rfl 3 rfl ?_
  refine g_iload E dL_book_4 4 rfl ?_
  refine g_callVX (F := []) E (lX7_book (x := x) hST hA hb hC p q d h) gL_book_X7_book rfl hdX7_book ⟨Nat.le_of_ble_eq_true rfl, Nat.le_of_ble_eq_true rfl⟩ 7 0 rfl rfl rfl gPerm_n rfl rfl ?_ dL_book_6 ?_ (fun cls w hx => ?_) (fun r w hx => ?_)
  · exact Nat.le_of_ble_eq_true rfl
  · exact ⟨Nat.le_of_ble_eq_true rfl, Nat.le_of_ble_eq_true rfl⟩
  · obtain ⟨k, hk1, hk2, hk3⟩ := hx
    refine gWX_perm gPerm_n' ?_
    rcases (show k = 0 ∨ k = 1 ∨ k = 2 ∨ 3 ≤ k by omega) with rfl | rfl | rfl | h9
    · obtain rfl : "java/lang/IndexOutOfBoundsException" = cls := Option.some.inj hk2
      refine g_catch E hT "java/lang/IndexOutOfBoundsException" [] [(0, 10, 17, 15), (0, 10, 23, 19)] (0, 10, 11, 34) rfl (fun z hz => by cases hz) (by decide) (by decide) cL_book_34 (by decide) (h := 11) rfl (fun qx => ?_)
      refine g_astore (lv' := [(5, .ref qx), (0, .ref (x.1 0)), (1, .int p), (2, .int q), (3, .int d), (4, .int h)]) E dL_book_11 (by decide) rfl ?_
      refine g_ldc2 (v := (-9000000000000000001)) E kL_book_36 dL_book_13 ?_
      exact RET _ _ _ w ⟨(gCd_k hk1 rfl).symm, hk3⟩ dL_book_16
    · obtain rfl : "java/lang/IllegalArgumentException" = cls := Option.some.inj hk2
      refine g_catch E hT "java/lang/IllegalArgumentException" [(0, 10, 11, 34)] [(0, 10, 23, 19)] (0, 10, 17, 15) rfl (List.forall_mem_cons.mpr ⟨⟨"java/lang/IndexOutOfBoundsException", cL_book_34, by decide, by decide⟩, fun z hz => by cases hz⟩) (by decide) (by decide) cL_book_15 (by decide) (h := 17) rfl (fun qx => ?_)
      refine g_astore (lv' := [(5, .ref qx), (0, .ref (x.1 0)), (1, .int p), (2, .int q), (3, .int d), (4, .int h)]) E dL_book_17 (by decide) rfl ?_
      refine g_ldc2 (v := (-9000000000000000002)) E kL_book_17 dL_book_19 ?_
      exact RET _ _ _ w ⟨(gCd_k hk1 rfl).symm, hk3⟩ dL_book_22
    · obtain rfl : "java/lang/IllegalStateException" = cls := Option.some.inj hk2
      refine g_catch E hT "java/lang/IllegalStateException" [(0, 10, 11, 34), (0, 10, 17, 15)] [] (0, 10, 23, 19) rfl (List.forall_mem_cons.mpr ⟨⟨"java/lang/IndexOutOfBoundsException", cL_book_34, by decide, by decide⟩, List.forall_mem_cons.mpr ⟨⟨"java/lang/IllegalArgumentException", cL_book_15, by decide, by decide⟩, fun z hz => by cases hz⟩⟩) (by decide) (by decide) cL_book_19 (by decide) (h := 23) rfl (fun qx => ?_)
      refine g_astore (lv' := [(5, .ref qx), (0, .ref (x.1 0)), (1, .int p), (2, .int q), (3, .int d), (4, .int h)]) E dL_book_23 (by decide) rfl ?_
      refine g_ldc2 (v := (-9000000000000000003)) E kL_book_21 dL_book_25 ?_
      exact RET _ _ _ w ⟨(gCd_k hk1 rfl).symm, hk3⟩ dL_book_28
    · exfalso
      rw [List.getElem?_eq_none (by show 3 ≤ k; exact h9)] at hk2
      cases hk2
  · obtain ⟨h1, h2, h3⟩ := hx
    refine g_perm gPerm_n' ?_
    refine g_i2l (v := r.toInt64) E dL_book_9 rfl ?_
    exact RET _ _ _ w ⟨by rw [gCd_0 h1, h2], h3⟩ dL_book_10

set_option maxHeartbeats 4000000 in
set_option maxRecDepth 100000 in
theorem wL_cancel {G : gG} {x : gVa} {u : gVu} {A : gA} {b : Nat} (hST : (gl G).stackTraces = false) (hA : gAok b A) (hb : b ≤ 50000) (hC : gClsI A u) (k : Int32) : CL G yL_cancel wsL_cancel 8 152 [.ref (x.1 0), .int k] (wV G x u) (fun (r : Int64) (w : gVu) => r = gCd [(-9000000000000000001)] (aAct 1 0 0 A (gTryCancel (aS A) k)) ∧ gClsI (aAct 1 0 0 A (gTryCancel (aS A) k)).2.2 w) (fun w : gVu => wV G x w) 1 6 := by
  refine g_enterLH RL rfl (by decide) rfl (Nat.le_of_ble_eq_true rfl) ?_
  intro V E hT RET
  refine g_aload_n E dL_cancel_0 rfl 0 rfl ?_
  refine g_iload_n E dL_cancel_1 rfl 1 rfl ?_
  refine g_callVX (F := []) E (lX7_cancel (x := x) hST hA hb hC k) gL_cancel_X7_cancel rfl hdX7_cancel ⟨Nat.le_of_ble_eq_true rfl, Nat.le_of_ble_eq_true rfl⟩ 7 0 rfl rfl rfl gPerm_n rfl rfl ?_ dL_cancel_2 ?_ (fun cls w hx => ?_) (fun r w hx => ?_)
  · exact Nat.le_of_ble_eq_true rfl
  · exact ⟨Nat.le_of_ble_eq_true rfl, Nat.le_of_ble_eq_true rfl⟩
  · obtain ⟨k, hk1, hk2, hk3⟩ := hx
    refine gWX_perm gPerm_n' ?_
    rcases (show k = 0 ∨ 1 ≤ k by omega) with rfl | h9
    · obtain rfl : "java/lang/IndexOutOfBoundsException" = cls := Option.some.inj hk2
      refine g_catch E hT "java/lang/IndexOutOfBoundsException" [] [] (0, 6, 7, 34) rfl (fun z hz => by cases hz) (by decide) (by decide) cL_cancel_34 (by decide) (h := 7) rfl (fun qx => ?_)
      refine g_astore_n (lv' := [(2, .ref qx), (0, .ref (x.1 0)), (1, .int k)]) E dL_cancel_7 rfl (by decide) rfl ?_
      refine g_ldc2 (v := (-9000000000000000001)) E kL_cancel_36 dL_cancel_8 ?_
      exact RET _ _ _ w ⟨(gCd_k hk1 rfl).symm, hk3⟩ dL_cancel_11
    · exfalso
      rw [List.getElem?_eq_none (by show 1 ≤ k; exact h9)] at hk2
      cases hk2
  · obtain ⟨h1, h2, h3⟩ := hx
    refine g_perm gPerm_n' ?_
    refine g_i2l (v := r.toInt64) E dL_cancel_5 rfl ?_
    exact RET _ _ _ w ⟨by rw [gCd_0 h1, h2], h3⟩ dL_cancel_6

set_option maxHeartbeats 4000000 in
set_option maxRecDepth 100000 in
theorem wL_late {G : gG} {x : gVa} {u : gVu} {A : gA} {b : Nat} (hST : (gl G).stackTraces = false) (hA : gAok b A) (hb : b ≤ 50000) (hC : gClsI A u) (k : Int32) (z : Int32) : CL G yL_late wsL_late 8 153 [.ref (x.1 0), .int k, .int z] (wV G x u) (fun (r : Int64) (w : gVu) => r = gCd [(-9000000000000000001), (-9000000000000000002)] (aAct 1 2 0 A (gTryLate (aS A) k z)) ∧ gClsI (aAct 1 2 0 A (gTryLate (aS A) k z)).2.2 w) (fun w : gVu => wV G x w) 1 6 := by
  refine g_enterLH RL rfl (by decide) rfl (Nat.le_of_ble_eq_true rfl) ?_
  intro V E hT RET
  refine g_aload_n E dL_late_0 rfl 0 rfl ?_
  refine g_iload_n E dL_late_1 rfl 1 rfl ?_
  refine g_iload_n E dL_late_2 rfl 2 rfl ?_
  refine g_callVX (F := []) E (lX7_late (x := x) hST hA hb hC k z) gL_late_X7_late rfl hdX7_late ⟨Nat.le_of_ble_eq_true rfl, Nat.le_of_ble_eq_true rfl⟩ 7 0 rfl rfl rfl gPerm_n rfl rfl ?_ dL_late_3 ?_ (fun cls w hx => ?_) (fun r w hx => ?_)
  · exact Nat.le_of_ble_eq_true rfl
  · exact ⟨Nat.le_of_ble_eq_true rfl, Nat.le_of_ble_eq_true rfl⟩
  · obtain ⟨k, hk1, hk2, hk3⟩ := hx
    refine gWX_perm gPerm_n' ?_
    rcases (show k = 0 ∨ k = 1 ∨ 2 ≤ k by omega) with rfl | rfl | h9
    · obtain rfl : "java/lang/IndexOutOfBoundsException" = cls := Option.some.inj hk2
      refine g_catch E hT "java/lang/IndexOutOfBoundsException" [] [(0, 7, 13, 15)] (0, 7, 8, 34) rfl (fun z hz => by cases hz) (by decide) (by decide) cL_late_34 (by decide) (h := 8) rfl (fun qx => ?_)
      refine g_astore_n (lv' := [(3, .ref qx), (0, .ref (x.1 0)), (1, .int k), (2, .int z)]) E dL_late_8 rfl (by decide) rfl ?_
      refine g_ldc2 (v := (-9000000000000000001)) E kL_late_36 dL_late_9 ?_
      exact RET _ _ _ w ⟨(gCd_k hk1 rfl).symm, hk3⟩ dL_late_12
    · obtain rfl : "java/lang/IllegalArgumentException" = cls := Option.some.inj hk2
      refine g_catch E hT "java/lang/IllegalArgumentException" [(0, 7, 8, 34)] [] (0, 7, 13, 15) rfl (List.forall_mem_cons.mpr ⟨⟨"java/lang/IndexOutOfBoundsException", cL_late_34, by decide, by decide⟩, fun z hz => by cases hz⟩) (by decide) (by decide) cL_late_15 (by decide) (h := 13) rfl (fun qx => ?_)
      refine g_astore_n (lv' := [(3, .ref qx), (0, .ref (x.1 0)), (1, .int k), (2, .int z)]) E dL_late_13 rfl (by decide) rfl ?_
      refine g_ldc2 (v := (-9000000000000000002)) E kL_late_17 dL_late_14 ?_
      exact RET _ _ _ w ⟨(gCd_k hk1 rfl).symm, hk3⟩ dL_late_17
    · exfalso
      rw [List.getElem?_eq_none (by show 2 ≤ k; exact h9)] at hk2
      cases hk2
  · obtain ⟨h1, h2, h3⟩ := hx
    refine g_perm gPerm_n' ?_
    refine g_i2l (v := r.toInt64) E dL_late_6 rfl ?_
    exact RET _ _ _ w ⟨by rw [gCd_0 h1, h2], h3⟩ dL_late_7

set_option maxHeartbeats 4000000 in
set_option maxRecDepth 100000 in
theorem wL_carries {G : gG} {x : gVa} {u : gVu} {A : gA} {b : Nat} (hST : (gl G).stackTraces = false) (hA : gAok b A) (hb : b ≤ 50000) (hC : gClsI A u) (q : Int32) (z : Int32) : CL G yL_carries wsL_carries 8 153 [.ref (x.1 0), .int q, .int z] (wV G x u) (fun (r : Int64) (w : gVu) => r = gCd [(-9000000000000000001)] (aAct 1 0 0 A (gTryCarry (aS A) q z)) ∧ gClsI (aAct 1 0 0 A (gTryCarry (aS A) q z)).2.2 w) (fun w : gVu => wV G x w) 1 6 := by
  refine g_enterLH RL rfl (by decide) rfl (Nat.le_of_ble_eq_true rfl) ?_
  intro V E hT RET
  refine g_aload_n E dL_carries_0 rfl 0 rfl ?_
  refine g_iload_n E dL_carries_1 rfl 1 rfl ?_
  refine g_iload_n E dL_carries_2 rfl 2 rfl ?_
  refine g_callVX (F := []) E (lX7_carry (x := x) hST hA hb hC q z) gL_carries_X7_carry rfl hdX7_carry ⟨Nat.le_of_ble_eq_true rfl, Nat.le_of_ble_eq_true rfl⟩ 7 0 rfl rfl rfl gPerm_n rfl rfl ?_ dL_carries_3 ?_ (fun cls w hx => ?_) (fun r w hx => ?_)
  · exact Nat.le_of_ble_eq_true rfl
  · exact ⟨Nat.le_of_ble_eq_true rfl, Nat.le_of_ble_eq_true rfl⟩
  · obtain ⟨k, hk1, hk2, hk3⟩ := hx
    refine gWX_perm gPerm_n' ?_
    rcases (show k = 0 ∨ 1 ≤ k by omega) with rfl | h9
    · obtain rfl : "java/lang/IndexOutOfBoundsException" = cls := Option.some.inj hk2
      refine g_catch E hT "java/lang/IndexOutOfBoundsException" [] [] (0, 7, 8, 34) rfl (fun z hz => by cases hz) (by decide) (by decide) cL_carries_34 (by decide) (h := 8) rfl (fun qx => ?_)
      refine g_astore_n (lv' := [(3, .ref qx), (0, .ref (x.1 0)), (1, .int q), (2, .int z)]) E dL_carries_8 rfl (by decide) rfl ?_
      refine g_ldc2 (v := (-9000000000000000001)) E kL_carries_36 dL_carries_9 ?_
      exact RET _ _ _ w ⟨(gCd_k hk1 rfl).symm, hk3⟩ dL_carries_12
    · exfalso
      rw [List.getElem?_eq_none (by show 1 ≤ k; exact h9)] at hk2
      cases hk2
  · obtain ⟨h1, h2, h3⟩ := hx
    refine g_perm gPerm_n' ?_
    refine g_i2l (v := r.toInt64) E dL_carries_6 rfl ?_
    exact RET _ _ _ w ⟨by rw [gCd_0 h1, h2], h3⟩ dL_carries_7

set_option maxHeartbeats 4000000 in
set_option maxRecDepth 100000 in
theorem wL_punish {G : gG} {x : gVa} {u : gVu} {A : gA} {b : Nat} (hST : (gl G).stackTraces = false) (hA : gAok b A) (hb : b ≤ 50000) (hC : gClsI A u) (p : Int32) (z : Int32) : CL G yL_punish wsL_punish 8 153 [.ref (x.1 0), .int p, .int z] (wV G x u) (fun (r : Int64) (w : gVu) => r = gCd [(-9000000000000000001), (-9000000000000000002)] (aAct 1 2 0 A (gTryPunish (aS A) p z)) ∧ gClsI (aAct 1 2 0 A (gTryPunish (aS A) p z)).2.2 w) (fun w : gVu => wV G x w) 1 6 := by
  refine g_enterLH RL rfl (by decide) rfl (Nat.le_of_ble_eq_true rfl) ?_
  intro V E hT RET
  refine g_aload_n E dL_punish_0 rfl 0 rfl ?_
  refine g_iload_n E dL_punish_1 rfl 1 rfl ?_
  refine g_iload_n E dL_punish_2 rfl 2 rfl ?_
  refine g_callVX (F := []) E (lX7_punish (x := x) hST hA hb hC p z) gL_punish_X7_punish rfl hdX7_punish ⟨Nat.le_of_ble_eq_true rfl, Nat.le_of_ble_eq_true rfl⟩ 7 0 rfl rfl rfl gPerm_n rfl rfl ?_ dL_punish_3 ?_ (fun cls w hx => ?_) (fun r w hx => ?_)
  · exact Nat.le_of_ble_eq_true rfl
  · exact ⟨Nat.le_of_ble_eq_true rfl, Nat.le_of_ble_eq_true rfl⟩
  · obtain ⟨k, hk1, hk2, hk3⟩ := hx
    refine gWX_perm gPerm_n' ?_
    rcases (show k = 0 ∨ k = 1 ∨ 2 ≤ k by omega) with rfl | rfl | h9
    · obtain rfl : "java/lang/IndexOutOfBoundsException" = cls := Option.some.inj hk2
      refine g_catch E hT "java/lang/IndexOutOfBoundsException" [] [(0, 7, 13, 15)] (0, 7, 8, 34) rfl (fun z hz => by cases hz) (by decide) (by decide) cL_punish_34 (by decide) (h := 8) rfl (fun qx => ?_)
      refine g_astore_n (lv' := [(3, .ref qx), (0, .ref (x.1 0)), (1, .int p), (2, .int z)]) E dL_punish_8 rfl (by decide) rfl ?_
      refine g_ldc2 (v := (-9000000000000000001)) E kL_punish_36 dL_punish_9 ?_
      exact RET _ _ _ w ⟨(gCd_k hk1 rfl).symm, hk3⟩ dL_punish_12
    · obtain rfl : "java/lang/IllegalArgumentException" = cls := Option.some.inj hk2
      refine g_catch E hT "java/lang/IllegalArgumentException" [(0, 7, 8, 34)] [] (0, 7, 13, 15) rfl (List.forall_mem_cons.mpr ⟨⟨"java/lang/IndexOutOfBoundsException", cL_punish_34, by decide, by decide⟩, fun z hz => by cases hz⟩) (by decide) (by decide) cL_punish_15 (by decide) (h := 13) rfl (fun qx => ?_)
      refine g_astore_n (lv' := [(3, .ref qx), (0, .ref (x.1 0)), (1, .int p), (2, .int z)]) E dL_punish_13 rfl (by decide) rfl ?_
      refine g_ldc2 (v := (-9000000000000000002)) E kL_punish_17 dL_punish_14 ?_
      exact RET _ _ _ w ⟨(gCd_k hk1 rfl).symm, hk3⟩ dL_punish_17
    · exfalso
      rw [List.getElem?_eq_none (by show 2 ≤ k; exact h9)] at hk2
      cases hk2
  · obtain ⟨h1, h2, h3⟩ := hx
    refine g_perm gPerm_n' ?_
    refine g_i2l (v := r.toInt64) E dL_punish_6 rfl ?_
    exact RET _ _ _ w ⟨by rw [gCd_0 h1, h2], h3⟩ dL_punish_7

set_option maxHeartbeats 4000000 in
set_option maxRecDepth 100000 in
theorem wL_wish {G : gG} {x : gVa} {u : gVu} {A : gA} {b : Nat} (hST : (gl G).stackTraces = false) (hA : gAok b A) (hb : b ≤ 50000) (hC : gClsI A u) (p : Int32) (q : Int32) : CL G yL_wish wsL_wish 8 153 [.ref (x.1 0), .int p, .int q] (wV G x u) (fun (r : Int64) (w : gVu) => r = gCd [(-9000000000000000001), (-9000000000000000003)] (aAct 1 0 2 A (gTryWish (aS A) p q)) ∧ gClsI (aAct 1 0 2 A (gTryWish (aS A) p q)).2.2 w) (fun w : gVu => wV G x w) 1 6 := by
  refine g_enterLH RL rfl (by decide) rfl (Nat.le_of_ble_eq_true rfl) ?_
  intro V E hT RET
  refine g_aload_n E dL_wish_0 rfl 0 rfl ?_
  refine g_iload_n E dL_wish_1 rfl 1 rfl ?_
  refine g_iload_n E dL_wish_2 rfl 2 rfl ?_
  refine g_callVX (F := []) E (lX7_wish (x := x) hST hA hb hC p q) gL_wish_X7_wish rfl hdX7_wish ⟨Nat.le_of_ble_eq_true rfl, Nat.le_of_ble_eq_true rfl⟩ 7 0 rfl rfl rfl gPerm_n rfl rfl ?_ dL_wish_3 ?_ (fun cls w hx => ?_) (fun r w hx => ?_)
  · exact Nat.le_of_ble_eq_true rfl
  · exact ⟨Nat.le_of_ble_eq_true rfl, Nat.le_of_ble_eq_true rfl⟩
  · obtain ⟨k, hk1, hk2, hk3⟩ := hx
    refine gWX_perm gPerm_n' ?_
    rcases (show k = 0 ∨ k = 1 ∨ 2 ≤ k by omega) with rfl | rfl | h9
    · obtain rfl : "java/lang/IndexOutOfBoundsException" = cls := Option.some.inj hk2
      refine g_catch E hT "java/lang/IndexOutOfBoundsException" [] [(0, 7, 13, 19)] (0, 7, 8, 34) rfl (fun z hz => by cases hz) (by decide) (by decide) cL_wish_34 (by decide) (h := 8) rfl (fun qx => ?_)
      refine g_astore_n (lv' := [(3, .ref qx), (0, .ref (x.1 0)), (1, .int p), (2, .int q)]) E dL_wish_8 rfl (by decide) rfl ?_
      refine g_ldc2 (v := (-9000000000000000001)) E kL_wish_36 dL_wish_9 ?_
      exact RET _ _ _ w ⟨(gCd_k hk1 rfl).symm, hk3⟩ dL_wish_12
    · obtain rfl : "java/lang/IllegalStateException" = cls := Option.some.inj hk2
      refine g_catch E hT "java/lang/IllegalStateException" [(0, 7, 8, 34)] [] (0, 7, 13, 19) rfl (List.forall_mem_cons.mpr ⟨⟨"java/lang/IndexOutOfBoundsException", cL_wish_34, by decide, by decide⟩, fun z hz => by cases hz⟩) (by decide) (by decide) cL_wish_19 (by decide) (h := 13) rfl (fun qx => ?_)
      refine g_astore_n (lv' := [(3, .ref qx), (0, .ref (x.1 0)), (1, .int p), (2, .int q)]) E dL_wish_13 rfl (by decide) rfl ?_
      refine g_ldc2 (v := (-9000000000000000003)) E kL_wish_21 dL_wish_14 ?_
      exact RET _ _ _ w ⟨(gCd_k hk1 rfl).symm, hk3⟩ dL_wish_17
    · exfalso
      rw [List.getElem?_eq_none (by show 2 ≤ k; exact h9)] at hk2
      cases hk2
  · obtain ⟨h1, h2, h3⟩ := hx
    refine g_perm gPerm_n' ?_
    refine g_i2l (v := r.toInt64) E dL_wish_6 rfl ?_
    exact RET _ _ _ w ⟨by rw [gCd_0 h1, h2], h3⟩ dL_wish_7

set_option maxHeartbeats 4000000 in
set_option maxRecDepth 100000 in
theorem wL_set {G : gG} {x : gVa} {u : gVu} {A : gA} {b : Nat} (hST : (gl G).stackTraces = false) (hA : gAok b A) (hb : b ≤ 50000) (hC : gClsI A u) (p : Int32) (z : Int32) : CL G yL_set wsL_set 8 153 [.ref (x.1 0), .int p, .int z] (wV G x u) (fun (r : Int64) (w : gVu) => r = gCd [(-9000000000000000002)] (aAct 0 1 0 A (gTrySet (aS A) p z)) ∧ gClsI (aAct 0 1 0 A (gTrySet (aS A) p z)).2.2 w) (fun w : gVu => wV G x w) 1 6 := by
  refine g_enterLH RL rfl (by decide) rfl (Nat.le_of_ble_eq_true rfl) ?_
  intro V E hT RET
  refine g_aload_n E dL_set_0 rfl 0 rfl ?_
  refine g_iload_n E dL_set_1 rfl 1 rfl ?_
  refine g_iload_n E dL_set_2 rfl 2 rfl ?_
  refine g_callVX (F := []) E (lX7_set (x := x) hST hA hb hC p z) gL_set_X7_set rfl hdX7_set ⟨Nat.le_of_ble_eq_true rfl, Nat.le_of_ble_eq_true rfl⟩ 7 0 rfl rfl rfl gPerm_n rfl rfl ?_ dL_set_3 ?_ (fun cls w hx => ?_) (fun r w hx => ?_)
  · exact Nat.le_of_ble_eq_true rfl
  · exact ⟨Nat.le_of_ble_eq_true rfl, Nat.le_of_ble_eq_true rfl⟩
  · obtain ⟨k, hk1, hk2, hk3⟩ := hx
    refine gWX_perm gPerm_n' ?_
    rcases (show k = 0 ∨ 1 ≤ k by omega) with rfl | h9
    · obtain rfl : "java/lang/IllegalArgumentException" = cls := Option.some.inj hk2
      refine g_catch E hT "java/lang/IllegalArgumentException" [] [] (0, 7, 8, 15) rfl (fun z hz => by cases hz) (by decide) (by decide) cL_set_15 (by decide) (h := 8) rfl (fun qx => ?_)
      refine g_astore_n (lv' := [(3, .ref qx), (0, .ref (x.1 0)), (1, .int p), (2, .int z)]) E dL_set_8 rfl (by decide) rfl ?_
      refine g_ldc2 (v := (-9000000000000000002)) E kL_set_17 dL_set_9 ?_
      exact RET _ _ _ w ⟨(gCd_k hk1 rfl).symm, hk3⟩ dL_set_12
    · exfalso
      rw [List.getElem?_eq_none (by show 1 ≤ k; exact h9)] at hk2
      cases hk2
  · obtain ⟨h1, h2, h3⟩ := hx
    refine g_perm gPerm_n' ?_
    refine g_i2l (v := r.toInt64) E dL_set_6 rfl ?_
    exact RET _ _ _ w ⟨by rw [gCd_0 h1, h2], h3⟩ dL_set_7

set_option maxHeartbeats 4000000 in
set_option maxRecDepth 100000 in
theorem wL_run {G : gG} {x : gVa} {u : gVu} {A : gA} {b : Nat} (hST : (gl G).stackTraces = false) (hA : gAok b A) (hb : b ≤ 50000) (hC : gClsI A u) (z : Int32) : CL G yL_run wsL_run 8 184 [.ref (x.1 0), .int z] (wV G x u) (fun (r : Int64) (w : gVu) => r = gCd [(-9000000000000000002)] (fRun A z) ∧ gClsI (fRun A z).2.2 w) (fun w : gVu => wV G x w) 1 6 := by
  refine g_enterLH RL rfl (by decide) rfl (Nat.le_of_ble_eq_true rfl) ?_
  intro V E hT RET
  refine g_aload_n E dL_run_0 rfl 0 rfl ?_
  refine g_iload_n E dL_run_1 rfl 1 rfl ?_
  refine g_callVX (F := []) E (lX7_run (x := x) hST hA hb hC z) gL_run_X7_run rfl hdX7_run ⟨Nat.le_of_ble_eq_true rfl, Nat.le_of_ble_eq_true rfl⟩ 7 0 rfl rfl rfl gPerm_n rfl rfl ?_ dL_run_2 ?_ (fun cls w hx => ?_) (fun r w hx => ?_)
  · exact Nat.le_of_ble_eq_true rfl
  · exact ⟨Nat.le_of_ble_eq_true rfl, Nat.le_of_ble_eq_true rfl⟩
  · obtain ⟨k, hk1, hk2, hk3⟩ := hx
    refine gWX_perm gPerm_n' ?_
    rcases (show k = 0 ∨ 1 ≤ k by omega) with rfl | h9
    · obtain rfl : "java/lang/IllegalArgumentException" = cls := Option.some.inj hk2
      refine g_catch E hT "java/lang/IllegalArgumentException" [] [] (0, 6, 7, 15) rfl (fun z hz => by cases hz) (by decide) (by decide) cL_run_15 (by decide) (h := 7) rfl (fun qx => ?_)
      refine g_astore_n (lv' := [(2, .ref qx), (0, .ref (x.1 0)), (1, .int z)]) E dL_run_7 rfl (by decide) rfl ?_
      refine g_ldc2 (v := (-9000000000000000002)) E kL_run_17 dL_run_8 ?_
      exact RET _ _ _ w ⟨(gCd_k hk1 rfl).symm, hk3⟩ dL_run_11
    · exfalso
      rw [List.getElem?_eq_none (by show 1 ≤ k; exact h9)] at hk2
      cases hk2
  · obtain ⟨h1, h2, h3⟩ := hx
    refine g_perm gPerm_n' ?_
    refine g_i2l (v := r.toInt64) E dL_run_5 rfl ?_
    exact RET _ _ _ w ⟨by rw [gCd_0 h1, h2], h3⟩ dL_run_6

set_option maxHeartbeats 4000000 in
set_option maxRecDepth 100000 in
theorem wL_undo {G : gG} {x : gVa} {u : gVu} {A : gA} {b : Nat} (hST : (gl G).stackTraces = false) (hA : gAok b A) (hb : b ≤ 50000) (hC : gClsI A u)  : CL G yL_undo wsL_undo 7 145 [.ref (x.1 0)] (wV G x u) (fun (r : Int64) (w : gVu) => r = gCd [(-9000000000000000003)] (fUndo A) ∧ gClsI (fUndo A).2.2 w) (fun w : gVu => wV G x w) 1 6 := by
  refine g_enterLH RL rfl (by decide) rfl (Nat.le_of_ble_eq_true rfl) ?_
  intro V E hT RET
  refine g_aload_n E dL_undo_0 rfl 0 rfl ?_
  refine g_callVX (F := []) E (lX7_undo (x := x) hST hA hb hC ) gL_undo_X7_undo rfl hdX7_undo ⟨Nat.le_of_ble_eq_true rfl, Nat.le_of_ble_eq_true rfl⟩ 7 0 rfl rfl rfl gPerm_n rfl rfl ?_ dL_undo_1 ?_ (fun cls w hx => ?_) (fun r w hx => ?_)
  · exact Nat.le_of_ble_eq_true rfl
  · exact ⟨Nat.le_of_ble_eq_true rfl, Nat.le_of_ble_eq_true rfl⟩
  · obtain ⟨k, hk1, hk2, hk3⟩ := hx
    refine gWX_perm gPerm_n' ?_
    rcases (show k = 0 ∨ 1 ≤ k by omega) with rfl | h9
    · obtain rfl : "java/lang/IllegalStateException" = cls := Option.some.inj hk2
      refine g_catch E hT "java/lang/IllegalStateException" [] [] (0, 5, 6, 19) rfl (fun z hz => by cases hz) (by decide) (by decide) cL_undo_19 (by decide) (h := 6) rfl (fun qx => ?_)
      refine g_astore_n (lv' := [(1, .ref qx), (0, .ref (x.1 0))]) E dL_undo_6 rfl (by decide) rfl ?_
      refine g_ldc2 (v := (-9000000000000000003)) E kL_undo_21 dL_undo_7 ?_
      exact RET _ _ _ w ⟨(gCd_k hk1 rfl).symm, hk3⟩ dL_undo_10
    · exfalso
      rw [List.getElem?_eq_none (by show 1 ≤ k; exact h9)] at hk2
      cases hk2
  · obtain ⟨h1, h2, h3⟩ := hx
    refine g_perm gPerm_n' ?_
    refine g_i2l (v := r.toInt64) E dL_undo_4 rfl ?_
    exact RET _ _ _ w ⟨by rw [gCd_0 h1, h2], h3⟩ dL_undo_5

set_option maxHeartbeats 4000000 in
set_option maxRecDepth 100000 in
theorem wL_whyNot {G : gG} {x : gVa} {u : gVu} {A : gA} {b : Nat} (hST : (gl G).stackTraces = false) (hA : gAok b A) (hb : b ≤ 50000) (hC : gClsI A u) (p : Int32) (q : Int32) (d : Int32) (h : Int32) : CL G yL_whyNot wsL_whyNot 7 136 [.ref (x.1 0), .int p, .int q, .int d, .int h] (wV G x u) (fun (r : Int64) (w : gVu) => r = gCd [(-9000000000000000001), (-9000000000000000002)] (fWhy A p q d h) ∧ gClsI (fWhy A p q d h).2.2 w) (fun w : gVu => wV G x w) 1 6 := by
  refine g_enterLH RL rfl (by decide) rfl (Nat.le_of_ble_eq_true rfl) ?_
  intro V E hT RET
  refine g_aload_n E dL_whyNot_0 rfl 0 rfl ?_
  refine g_iload_n E dL_whyNot_1 rfl 1 rfl ?_
  refine g_iload_n E dL_whyNot_2 rfl 2 rfl ?_
  refine g_iload_n E dL_whyNot_3 rfl 3 rfl ?_
  refine g_iload E dL_whyNot_4 4 rfl ?_
  refine g_callVX (F := []) E (lX7_whyNot (x := x) hST hA hb hC p q d h) gL_whyNot_X7_whyNot rfl hdX7_whyNot ⟨Nat.le_of_ble_eq_true rfl, Nat.le_of_ble_eq_true rfl⟩ 7 0 rfl rfl rfl gPerm_n rfl rfl ?_ dL_whyNot_6 ?_ (fun cls w hx => ?_) (fun r w hx => ?_)
  · exact Nat.le_of_ble_eq_true rfl
  · exact ⟨Nat.le_of_ble_eq_true rfl, Nat.le_of_ble_eq_true rfl⟩
  · obtain ⟨k, hk1, hk2, hk3⟩ := hx
    refine gWX_perm gPerm_n' ?_
    rcases (show k = 0 ∨ k = 1 ∨ 2 ≤ k by omega) with rfl | rfl | h9
    · obtain rfl : "java/lang/IndexOutOfBoundsException" = cls := Option.some.inj hk2
      refine g_catch E hT "java/lang/IndexOutOfBoundsException" [] [(0, 10, 17, 15)] (0, 10, 11, 34) rfl (fun z hz => by cases hz) (by decide) (by decide) cL_whyNot_34 (by decide) (h := 11) rfl (fun qx => ?_)
      refine g_astore (lv' := [(5, .ref qx), (0, .ref (x.1 0)), (1, .int p), (2, .int q), (3, .int d), (4, .int h)]) E dL_whyNot_11 (by decide) rfl ?_
      refine g_ldc2 (v := (-9000000000000000001)) E kL_whyNot_36 dL_whyNot_13 ?_
      exact RET _ _ _ w ⟨(gCd_k hk1 rfl).symm, hk3⟩ dL_whyNot_16
    · obtain rfl : "java/lang/IllegalArgumentException" = cls := Option.some.inj hk2
      refine g_catch E hT "java/lang/IllegalArgumentException" [(0, 10, 11, 34)] [] (0, 10, 17, 15) rfl (List.forall_mem_cons.mpr ⟨⟨"java/lang/IndexOutOfBoundsException", cL_whyNot_34, by decide, by decide⟩, fun z hz => by cases hz⟩) (by decide) (by decide) cL_whyNot_15 (by decide) (h := 17) rfl (fun qx => ?_)
      refine g_astore (lv' := [(5, .ref qx), (0, .ref (x.1 0)), (1, .int p), (2, .int q), (3, .int d), (4, .int h)]) E dL_whyNot_17 (by decide) rfl ?_
      refine g_ldc2 (v := (-9000000000000000002)) E kL_whyNot_17 dL_whyNot_19 ?_
      exact RET _ _ _ w ⟨(gCd_k hk1 rfl).symm, hk3⟩ dL_whyNot_22
    · exfalso
      rw [List.getElem?_eq_none (by show 2 ≤ k; exact h9)] at hk2
      cases hk2
  · obtain ⟨h1, h2, h3⟩ := hx
    refine g_perm gPerm_n' ?_
    refine g_i2l (v := r.toInt64) E dL_whyNot_9 rfl ?_
    exact RET _ _ _ w ⟨by rw [gCd_0 h1, h2], h3⟩ dL_whyNot_10

set_option maxHeartbeats 4000000 in
set_option maxRecDepth 100000 in
theorem wL_firstTime {G : gG} {x : gVa} {u : gVu} {A : gA} {b : Nat} (hST : (gl G).stackTraces = false) (hA : gAok b A) (hb : b ≤ 50000) (hC : gClsI A u) (p : Int32) (q : Int32) : CL G yL_firstTime wsL_firstTime 7 135 [.ref (x.1 0), .int p, .int q] (wV G x u) (fun (r : Int64) (w : gVu) => r = gCd [(-9000000000000000001)] (fFirst A p q) ∧ gClsI (fFirst A p q).2.2 w) (fun w : gVu => wV G x w) 1 6 := by
  refine g_enterLH RL rfl (by decide) rfl (Nat.le_of_ble_eq_true rfl) ?_
  intro V E hT RET
  refine g_aload_n E dL_firstTime_0 rfl 0 rfl ?_
  refine g_iload_n E dL_firstTime_1 rfl 1 rfl ?_
  refine g_iload_n E dL_firstTime_2 rfl 2 rfl ?_
  refine g_callVX (F := []) E (lX7_firstTime (x := x) hST hA hb hC p q) gL_firstTime_X7_firstTime rfl hdX7_firstTime ⟨Nat.le_of_ble_eq_true rfl, Nat.le_of_ble_eq_true rfl⟩ 7 0 rfl rfl rfl gPerm_n rfl rfl ?_ dL_firstTime_3 ?_ (fun cls w hx => ?_) (fun r w hx => ?_)
  · exact Nat.le_of_ble_eq_true rfl
  · exact ⟨Nat.le_of_ble_eq_true rfl, Nat.le_of_ble_eq_true rfl⟩
  · obtain ⟨k, hk1, hk2, hk3⟩ := hx
    refine gWX_perm gPerm_n' ?_
    rcases (show k = 0 ∨ 1 ≤ k by omega) with rfl | h9
    · obtain rfl : "java/lang/IndexOutOfBoundsException" = cls := Option.some.inj hk2
      refine g_catch E hT "java/lang/IndexOutOfBoundsException" [] [] (0, 7, 8, 34) rfl (fun z hz => by cases hz) (by decide) (by decide) cL_firstTime_34 (by decide) (h := 8) rfl (fun qx => ?_)
      refine g_astore_n (lv' := [(3, .ref qx), (0, .ref (x.1 0)), (1, .int p), (2, .int q)]) E dL_firstTime_8 rfl (by decide) rfl ?_
      refine g_ldc2 (v := (-9000000000000000001)) E kL_firstTime_36 dL_firstTime_9 ?_
      exact RET _ _ _ w ⟨(gCd_k hk1 rfl).symm, hk3⟩ dL_firstTime_12
    · exfalso
      rw [List.getElem?_eq_none (by show 1 ≤ k; exact h9)] at hk2
      cases hk2
  · obtain ⟨h1, h2, h3⟩ := hx
    refine g_perm gPerm_n' ?_
    refine g_i2l (v := r.toInt64) E dL_firstTime_6 rfl ?_
    exact RET _ _ _ w ⟨by rw [gCd_0 h1, h2], h3⟩ dL_firstTime_7

set_option maxHeartbeats 4000000 in
set_option maxRecDepth 100000 in
theorem wL_coming {G : gG} {x : gVa} {u : gVu} {A : gA} {b : Nat} (hST : (gl G).stackTraces = false) (hA : gAok b A) (hb : b ≤ 50000) (hC : gClsI A u) (p : Int32) (y : Int32) : CL G yL_coming wsL_coming 7 185 [.ref (x.1 0), .int p, .int y] (wV G x u) (fun (r : Int64) (w : gVu) => r = gCd [(-9000000000000000002)] (fComing A p y) ∧ gClsI (fComing A p y).2.2 w) (fun w : gVu => wV G x w) 1 6 := by
  refine g_enterLH RL rfl (by decide) rfl (Nat.le_of_ble_eq_true rfl) ?_
  intro V E hT RET
  refine g_aload_n E dL_coming_0 rfl 0 rfl ?_
  refine g_iload_n E dL_coming_1 rfl 1 rfl ?_
  refine g_iload_n E dL_coming_2 rfl 2 rfl ?_
  refine g_callVX (F := []) E (lX7_coming (x := x) hST hA hb hC p y) gL_coming_X7_coming rfl hdX7_coming ⟨Nat.le_of_ble_eq_true rfl, Nat.le_of_ble_eq_true rfl⟩ 7 0 rfl rfl rfl gPerm_n rfl rfl ?_ dL_coming_3 ?_ (fun cls w hx => ?_) (fun r w hx => ?_)
  · exact Nat.le_of_ble_eq_true rfl
  · exact ⟨Nat.le_of_ble_eq_true rfl, Nat.le_of_ble_eq_true rfl⟩
  · obtain ⟨k, hk1, hk2, hk3⟩ := hx
    refine gWX_perm gPerm_n' ?_
    rcases (show k = 0 ∨ 1 ≤ k by omega) with rfl | h9
    · obtain rfl : "java/lang/IllegalArgumentException" = cls := Option.some.inj hk2
      refine g_catch E hT "java/lang/IllegalArgumentException" [] [] (0, 7, 8, 15) rfl (fun z hz => by cases hz) (by decide) (by decide) cL_coming_15 (by decide) (h := 8) rfl (fun qx => ?_)
      refine g_astore_n (lv' := [(3, .ref qx), (0, .ref (x.1 0)), (1, .int p), (2, .int y)]) E dL_coming_8 rfl (by decide) rfl ?_
      refine g_ldc2 (v := (-9000000000000000002)) E kL_coming_17 dL_coming_9 ?_
      exact RET _ _ _ w ⟨(gCd_k hk1 rfl).symm, hk3⟩ dL_coming_12
    · exfalso
      rw [List.getElem?_eq_none (by show 1 ≤ k; exact h9)] at hk2
      cases hk2
  · obtain ⟨h1, h2, h3⟩ := hx
    refine g_perm gPerm_n' ?_
    refine g_i2l (v := r.toInt64) E dL_coming_6 rfl ?_
    exact RET _ _ _ w ⟨by rw [gCd_0 h1, h2], h3⟩ dL_coming_7

set_option maxHeartbeats 4000000 in
set_option maxRecDepth 100000 in
theorem wL_becomes {G : gG} {x : gVa} {u : gVu} {A : gA} {b : Nat} (hST : (gl G).stackTraces = false) (hA : gAok b A) (hb : b ≤ 50000) (hC : gClsI A u) (k : Int32) : CL G yL_becomes wsL_becomes 7 211 [.ref (x.1 0), .int k] (wV G x u) (fun (r : Int64) (w : gVu) => r = gCd [(-9000000000000000001), (-9000000000000000003)] (fBecomes A k) ∧ gClsI (fBecomes A k).2.2 w) (fun w : gVu => wV G x w) 1 6 := by
  refine g_enterLH RL rfl (by decide) rfl (Nat.le_of_ble_eq_true rfl) ?_
  intro V E hT RET
  refine g_aload_n E dL_becomes_0 rfl 0 rfl ?_
  refine g_iload_n E dL_becomes_1 rfl 1 rfl ?_
  refine g_callVX (F := []) E (lX7_becomes (x := x) hST hA hb hC k) gL_becomes_X7_becomes rfl hdX7_becomes ⟨Nat.le_of_ble_eq_true rfl, Nat.le_of_ble_eq_true rfl⟩ 7 0 rfl rfl rfl gPerm_n rfl rfl ?_ dL_becomes_2 ?_ (fun cls w hx => ?_) (fun r w hx => ?_)
  · exact Nat.le_of_ble_eq_true rfl
  · exact ⟨Nat.le_of_ble_eq_true rfl, Nat.le_of_ble_eq_true rfl⟩
  · obtain ⟨k, hk1, hk2, hk3⟩ := hx
    refine gWX_perm gPerm_n' ?_
    rcases (show k = 0 ∨ k = 1 ∨ 2 ≤ k by omega) with rfl | rfl | h9
    · obtain rfl : "java/lang/IndexOutOfBoundsException" = cls := Option.some.inj hk2
      refine g_catch E hT "java/lang/IndexOutOfBoundsException" [] [(0, 6, 12, 19)] (0, 6, 7, 34) rfl (fun z hz => by cases hz) (by decide) (by decide) cL_becomes_34 (by decide) (h := 7) rfl (fun qx => ?_)
      refine g_astore_n (lv' := [(2, .ref qx), (0, .ref (x.1 0)), (1, .int k)]) E dL_becomes_7 rfl (by decide) rfl ?_
      refine g_ldc2 (v := (-9000000000000000001)) E kL_becomes_36 dL_becomes_8 ?_
      exact RET _ _ _ w ⟨(gCd_k hk1 rfl).symm, hk3⟩ dL_becomes_11
    · obtain rfl : "java/lang/IllegalStateException" = cls := Option.some.inj hk2
      refine g_catch E hT "java/lang/IllegalStateException" [(0, 6, 7, 34)] [] (0, 6, 12, 19) rfl (List.forall_mem_cons.mpr ⟨⟨"java/lang/IndexOutOfBoundsException", cL_becomes_34, by decide, by decide⟩, fun z hz => by cases hz⟩) (by decide) (by decide) cL_becomes_19 (by decide) (h := 12) rfl (fun qx => ?_)
      refine g_astore_n (lv' := [(2, .ref qx), (0, .ref (x.1 0)), (1, .int k)]) E dL_becomes_12 rfl (by decide) rfl ?_
      refine g_ldc2 (v := (-9000000000000000003)) E kL_becomes_21 dL_becomes_13 ?_
      exact RET _ _ _ w ⟨(gCd_k hk1 rfl).symm, hk3⟩ dL_becomes_16
    · exfalso
      rw [List.getElem?_eq_none (by show 2 ≤ k; exact h9)] at hk2
      cases hk2
  · obtain ⟨h1, h2, h3⟩ := hx
    refine g_perm gPerm_n' ?_
    refine g_i2l (v := r.toInt64) E dL_becomes_5 rfl ?_
    exact RET _ _ _ w ⟨by rw [gCd_0 h1, h2], h3⟩ dL_becomes_6

set_option maxHeartbeats 4000000 in
set_option maxRecDepth 100000 in
theorem wL_script {G : gG} {x : gVa} {u : gVu} {A : gA} {b : Nat} (hST : (gl G).stackTraces = false) (hA : gAok b A) (hb : b ≤ 50000) (hC : gClsI A u) (p : Int32) (y : Int64) : CL G yL_script wsL_script 7 214 [.ref (x.1 0), .int p, .long y] (wV G x u) (fun (r : Int64) (w : gVu) => r = gCd [(-9000000000000000002)] (fScript A p y) ∧ gClsI (fScript A p y).2.2 w) (fun w : gVu => wV G x w) 1 6 := by
  refine g_enterLH RL rfl (by decide) rfl (Nat.le_of_ble_eq_true rfl) ?_
  intro V E hT RET
  refine g_aload_n E dL_script_0 rfl 0 rfl ?_
  refine g_iload_n E dL_script_1 rfl 1 rfl ?_
  refine g_lload_n E dL_script_2 rfl 2 rfl ?_
  refine g_callVX (F := []) E (lX7_runScript (x := x) hST hA hb hC p y) gL_script_X7_runScript rfl hdX7_runScript ⟨Nat.le_of_ble_eq_true rfl, Nat.le_of_ble_eq_true rfl⟩ 7 0 rfl rfl rfl gPerm_n rfl rfl ?_ dL_script_3 ?_ (fun cls w hx => ?_) (fun r w hx => ?_)
  · exact Nat.le_of_ble_eq_true rfl
  · exact ⟨Nat.le_of_ble_eq_true rfl, Nat.le_of_ble_eq_true rfl⟩
  · obtain ⟨k, hk1, hk2, hk3⟩ := hx
    refine gWX_perm gPerm_n' ?_
    rcases (show k = 0 ∨ 1 ≤ k by omega) with rfl | h9
    · obtain rfl : "java/lang/IllegalArgumentException" = cls := Option.some.inj hk2
      refine g_catch E hT "java/lang/IllegalArgumentException" [] [] (0, 7, 8, 15) rfl (fun z hz => by cases hz) (by decide) (by decide) cL_script_15 (by decide) (h := 8) rfl (fun qx => ?_)
      refine g_astore (lv' := [(4, .ref qx), (0, .ref (x.1 0)), (1, .int p), (2, .long y)]) E dL_script_8 (by decide) rfl ?_
      refine g_ldc2 (v := (-9000000000000000002)) E kL_script_17 dL_script_10 ?_
      exact RET _ _ _ w ⟨(gCd_k hk1 rfl).symm, hk3⟩ dL_script_13
    · exfalso
      rw [List.getElem?_eq_none (by show 1 ≤ k; exact h9)] at hk2
      cases hk2
  · obtain ⟨h1, h2, h3⟩ := hx
    refine g_perm gPerm_n' ?_
    refine g_i2l (v := r.toInt64) E dL_script_6 rfl ?_
    exact RET _ _ _ w ⟨by rw [gCd_0 h1, h2], h3⟩ dL_script_7

set_option maxHeartbeats 4000000 in
set_option maxRecDepth 100000 in
theorem wL_simulate {G : gG} {x : gVa} {u : gVu} {A : gA} {b : Nat} (hST : (gl G).stackTraces = false) (hA : gAok b A) (hb : b ≤ 50000) (hC : gClsI A u) (y : Int64) (p : Int32) : CL G yL_simulate wsL_simulate 7 212 [.ref (x.1 0), .long y, .int p] (wV G x u) (fun (r : Int64) (w : gVu) => r = gCd [(-9000000000000000002)] (fSim A y p) ∧ gClsI (fSim A y p).2.2 w) (fun w : gVu => wV G x w) 1 6 := by
  refine g_enterLH RL rfl (by decide) rfl (Nat.le_of_ble_eq_true rfl) ?_
  intro V E hT RET
  refine g_aload_n E dL_simulate_0 rfl 0 rfl ?_
  refine g_lload_n E dL_simulate_1 rfl 1 rfl ?_
  refine g_iload_n E dL_simulate_2 rfl 2 rfl ?_
  refine g_callVX (F := []) E (lX7_simulate (x := x) hST hA hb hC y p) gL_simulate_X7_simulate rfl hdX7_simulate ⟨Nat.le_of_ble_eq_true rfl, Nat.le_of_ble_eq_true rfl⟩ 7 0 rfl rfl rfl gPerm_n rfl rfl ?_ dL_simulate_3 ?_ (fun cls w hx => ?_) (fun r w hx => ?_)
  · exact Nat.le_of_ble_eq_true rfl
  · exact ⟨Nat.le_of_ble_eq_true rfl, Nat.le_of_ble_eq_true rfl⟩
  · obtain ⟨k, hk1, hk2, hk3⟩ := hx
    refine gWX_perm gPerm_n' ?_
    rcases (show k = 0 ∨ 1 ≤ k by omega) with rfl | h9
    · obtain rfl : "java/lang/IllegalArgumentException" = cls := Option.some.inj hk2
      refine g_catch E hT "java/lang/IllegalArgumentException" [] [] (0, 7, 8, 15) rfl (fun z hz => by cases hz) (by decide) (by decide) cL_simulate_15 (by decide) (h := 8) rfl (fun qx => ?_)
      refine g_astore (lv' := [(4, .ref qx), (0, .ref (x.1 0)), (1, .long y), (3, .int p)]) E dL_simulate_8 (by decide) rfl ?_
      refine g_ldc2 (v := (-9000000000000000002)) E kL_simulate_17 dL_simulate_10 ?_
      exact RET _ _ _ w ⟨(gCd_k hk1 rfl).symm, hk3⟩ dL_simulate_13
    · exfalso
      rw [List.getElem?_eq_none (by show 1 ≤ k; exact h9)] at hk2
      cases hk2
  · obtain ⟨h1, h2, h3⟩ := hx
    refine g_perm gPerm_n' ?_
    refine g_i2l (v := r.toInt64) E dL_simulate_6 rfl ?_
    exact RET _ _ _ w ⟨by rw [gCd_0 h1, h2], h3⟩ dL_simulate_7

set_option maxHeartbeats 4000000 in
set_option maxRecDepth 100000 in
theorem wL_save {G : gG} {x : gVa} {u : gVu} {A : gA} {b : Nat} (hST : (gl G).stackTraces = false) (hA : gAok b A) (hb : b ≤ 50000) (hC : gClsI A u) (z : Int32) : CL G yL_save wsL_save 7 132 [.ref (x.1 0), .int z] (wV G x u) (fun (r : Int64) (w : gVu) => r = gCd [(-9000000000000000001)] (fSave A z) ∧ gClsI (fSave A z).2.2 w) (fun w : gVu => wV G x w) 1 6 := by
  refine g_enterLH RL rfl (by decide) rfl (Nat.le_of_ble_eq_true rfl) ?_
  intro V E hT RET
  refine g_aload_n E dL_save_0 rfl 0 rfl ?_
  refine g_iload_n E dL_save_1 rfl 1 rfl ?_
  refine g_callVX (F := []) E (lX7_save (x := x) hST hA hb hC z) gL_save_X7_save rfl hdX7_save ⟨Nat.le_of_ble_eq_true rfl, Nat.le_of_ble_eq_true rfl⟩ 7 0 rfl rfl rfl gPerm_n rfl rfl ?_ dL_save_2 ?_ (fun cls w hx => ?_) (fun r w hx => ?_)
  · exact Nat.le_of_ble_eq_true rfl
  · exact ⟨Nat.le_of_ble_eq_true rfl, Nat.le_of_ble_eq_true rfl⟩
  · obtain ⟨k, hk1, hk2, hk3⟩ := hx
    refine gWX_perm gPerm_n' ?_
    rcases (show k = 0 ∨ 1 ≤ k by omega) with rfl | h9
    · obtain rfl : "java/lang/IndexOutOfBoundsException" = cls := Option.some.inj hk2
      refine g_catch E hT "java/lang/IndexOutOfBoundsException" [] [] (0, 6, 7, 34) rfl (fun z hz => by cases hz) (by decide) (by decide) cL_save_34 (by decide) (h := 7) rfl (fun qx => ?_)
      refine g_astore_n (lv' := [(2, .ref qx), (0, .ref (x.1 0)), (1, .int z)]) E dL_save_7 rfl (by decide) rfl ?_
      refine g_ldc2 (v := (-9000000000000000001)) E kL_save_36 dL_save_8 ?_
      exact RET _ _ _ w ⟨(gCd_k hk1 rfl).symm, hk3⟩ dL_save_11
    · exfalso
      rw [List.getElem?_eq_none (by show 1 ≤ k; exact h9)] at hk2
      cases hk2
  · obtain ⟨h1, h2, h3⟩ := hx
    refine g_perm gPerm_n' ?_
    refine g_i2l (v := r.toInt64) E dL_save_5 rfl ?_
    exact RET _ _ _ w ⟨by rw [gCd_0 h1, h2], h3⟩ dL_save_6

set_option maxHeartbeats 4000000 in
set_option maxRecDepth 100000 in
theorem wL_restore {G : gG} {x : gVa} {u : gVu} {A : gA} {b : Nat} (hST : (gl G).stackTraces = false) (hA : gAok b A) (hb : b ≤ 50000) (hC : gClsI A u) (z : Int32) : CL G yL_restore wsL_restore 7 132 [.ref (x.1 0), .int z] (wV G x u) (fun (r : Int64) (w : gVu) => r = gCd [(-9000000000000000001), (-9000000000000000003)] (fRest A z) ∧ gClsI (fRest A z).2.2 w) (fun w : gVu => wV G x w) 1 6 := by
  refine g_enterLH RL rfl (by decide) rfl (Nat.le_of_ble_eq_true rfl) ?_
  intro V E hT RET
  refine g_aload_n E dL_restore_0 rfl 0 rfl ?_
  refine g_iload_n E dL_restore_1 rfl 1 rfl ?_
  refine g_callVX (F := []) E (lX7_restore (x := x) hST hA hb hC z) gL_restore_X7_restore rfl hdX7_restore ⟨Nat.le_of_ble_eq_true rfl, Nat.le_of_ble_eq_true rfl⟩ 7 0 rfl rfl rfl gPerm_n rfl rfl ?_ dL_restore_2 ?_ (fun cls w hx => ?_) (fun r w hx => ?_)
  · exact Nat.le_of_ble_eq_true rfl
  · exact ⟨Nat.le_of_ble_eq_true rfl, Nat.le_of_ble_eq_true rfl⟩
  · obtain ⟨k, hk1, hk2, hk3⟩ := hx
    refine gWX_perm gPerm_n' ?_
    rcases (show k = 0 ∨ k = 1 ∨ 2 ≤ k by omega) with rfl | rfl | h9
    · obtain rfl : "java/lang/IndexOutOfBoundsException" = cls := Option.some.inj hk2
      refine g_catch E hT "java/lang/IndexOutOfBoundsException" [] [(0, 6, 12, 19)] (0, 6, 7, 34) rfl (fun z hz => by cases hz) (by decide) (by decide) cL_restore_34 (by decide) (h := 7) rfl (fun qx => ?_)
      refine g_astore_n (lv' := [(2, .ref qx), (0, .ref (x.1 0)), (1, .int z)]) E dL_restore_7 rfl (by decide) rfl ?_
      refine g_ldc2 (v := (-9000000000000000001)) E kL_restore_36 dL_restore_8 ?_
      exact RET _ _ _ w ⟨(gCd_k hk1 rfl).symm, hk3⟩ dL_restore_11
    · obtain rfl : "java/lang/IllegalStateException" = cls := Option.some.inj hk2
      refine g_catch E hT "java/lang/IllegalStateException" [(0, 6, 7, 34)] [] (0, 6, 12, 19) rfl (List.forall_mem_cons.mpr ⟨⟨"java/lang/IndexOutOfBoundsException", cL_restore_34, by decide, by decide⟩, fun z hz => by cases hz⟩) (by decide) (by decide) cL_restore_19 (by decide) (h := 12) rfl (fun qx => ?_)
      refine g_astore_n (lv' := [(2, .ref qx), (0, .ref (x.1 0)), (1, .int z)]) E dL_restore_12 rfl (by decide) rfl ?_
      refine g_ldc2 (v := (-9000000000000000003)) E kL_restore_21 dL_restore_13 ?_
      exact RET _ _ _ w ⟨(gCd_k hk1 rfl).symm, hk3⟩ dL_restore_16
    · exfalso
      rw [List.getElem?_eq_none (by show 2 ≤ k; exact h9)] at hk2
      cases hk2
  · obtain ⟨h1, h2, h3⟩ := hx
    refine g_perm gPerm_n' ?_
    refine g_i2l (v := r.toInt64) E dL_restore_5 rfl ?_
    exact RET _ _ _ w ⟨by rw [gCd_0 h1, h2], h3⟩ dL_restore_6
