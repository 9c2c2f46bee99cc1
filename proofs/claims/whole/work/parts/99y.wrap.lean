/-! ===== the law's methods with a table: entry, handlers, calls ===== -/
theorem gPerm_rot {c : Nat × va_E} {W : va_W} : gPerm (c :: W) (W ++ [c]) := gPerm_of (List.perm_append_comm (l₁ := [c]) (l₂ := W))
theorem gPerm_rot2 {c : Nat × va_E} {W : va_W} : gPerm (W ++ [c]) (c :: W) := gPerm_of (List.perm_append_comm (l₁ := W) (l₂ := [c]))
theorem g_enterIH {S : Type} {G : gG} {y : MethodName} {ws ws' : List Cond} {fr lo mc ms maxL : Nat} {av : List Value} {w : va_W} {post : Int32 → S → Prop} {w' : S → va_W} {cc : ByteArray} {ty : FieldType} {hh : List (Nat × Nat × Nat × Nat)} (own : String) (hown : y.cls = own) (hy : plainName y.cls = true) (hw : ws = Cond.codeWith y cc maxL (some ty) hh :: ws') (hn : (lg_sl av).length ≤ maxL)
    (body : ∀ V : gV, gE V G cc maxL own ws { frames := fr, cells := mc, slots := ms, locals := lo } → (gvC V).exceptionTable.toList = tableOf hh → (∀ (lv : List (Nat × Value)) (pc : Nat) (r : Int32) (u : S), post r u → narrow ty (.int r) = .int r → decode cc pc = .ok (.ireturn, 1) → gW V maxL mc ms (w' u) lv pc [.int r]) → gW V maxL 0 0 w (lv_args 0 av) 0 []) : CI G y ws fr lo av w post w' mc ms := by
  intro sz
  refine va_MetW (cc := cc) (maxL := maxL) (ret := (some ty)) (hh := hh) hy hw ?_
  intro p e s m args below meth c s₁ B hml hv
  obtain ⟨rfl, hsz, hP, hK, hD0, hZ⟩ := hv
  subst hsz
  subst hown
  have hts := atoms_spec (ws := ws) B.pre
  have hD := hD0.self (sz := s.heap.size)
  have hT := vx_table (x := y) (bytes := cc) (maxL' := maxL) (ret' := some ty) (hh := hh) B (hts _ (by rw [hw]; exact List.mem_cons_self))
  rw [lg_entry_eq]
  exact body (p, gl G, e, (headSpec ws { frames := fr, cells := mc, slots := ms, locals := lo }).room, s, m, av.toArray, below, meth, c, gd G, va_A w s.heap.size, s.heap, MQ below (va_Qi post (fun u t => gB G w s.heap.size (w' u) t) (va_A w s.heap.size)) av.toArray s mc ms (va_A w s.heap.size))
    ⟨B.exec, B.bytes, hml, findClass_of_methodNamed B.named, hts, hK, fun q h => Or.inr h, rfl, rfl, rfl, rfl, hZ⟩ hT
    (fun lv pc r u hp hn d H locs ls hP hD hS hl => W.zret B.exec B.bytes B.returns hn (fun t ht hW => ⟨⟨r, u, rfl, hp, by rw [ht]; exact hP, va_K.moved hW.alike hK, hD⟩, hS.F ht⟩) hS.2.2 d B.notSynchronized) s.heap [] _ hP hD va_S.rf (lv_entry av hn)
section
variable {V : gV} {G : gG} {cc : ByteArray} {nL : Nat} {own : String} {Ts : List Cond} {rm : Room} {cells slots : Nat} {ws : va_W} {lv : List (Nat × Value)} {pc : Nat} {rest : List Value}
theorem g_catch (E : gE V G cc nL own Ts rm) {hh : List (Nat × Nat × Nat × Nat)} (hT : (gvC V).exceptionTable.toList = tableOf hh) (cls : String) (pre suf : List (Nat × Nat × Nat × Nat)) (x : Nat × Nat × Nat × Nat) (hsp : hh = pre ++ x :: suf)
    (hpass : ∀ z ∈ pre, ∃ nm : String, Cond.classLink own z.2.2.2 nm ∈ Ts ∧ (cls, nm) ∈ gNcs ∧ z.2.2.2 ≠ 0) (hx : x.1 ≤ pc ∧ pc < x.2.1) (h0 : x.2.2.2 ≠ 0) (hlink : Cond.classLink own x.2.2.2 cls ∈ Ts) (hc : cls ∈ gCas) {h : Nat} (hh0 : x.2.2.1 = h) (k : ∀ q : Nat, gW V nL cells slots ws lv h [.ref q]) : gWX V nL cells slots ws lv pc rest cls := by
  intro H locs ls q ce hP hD hS hl h1 h2 h3
  subst hh0
  have hsp' : (gvC V).exceptionTable.toList = tableOf pre ++ (⟨x.1, x.2.1, x.2.2.1, x.2.2.2⟩ : ExceptionTableEntry) :: tableOf suf := by
    rw [hT, hsp]
    simp [tableOf]
  refine vx_catch E.ow (tableOf pre) _ (tableOf suf) hsp' (fun z hz => ?_) ?_ h0 (E.ts _ hlink) (va_Nw.use (A := gvA V) rfl (E.z.1.2.2.2.2.2 cls hc)) h1 h2 h3 (k q H locs ls hP hD hS hl)
  · obtain ⟨z0, hz0, rfl⟩ := List.mem_map.mp hz
    obtain ⟨nm, a1, a2, a3⟩ := hpass z0 hz0
    exact Or.inr ⟨a3, nm, E.ts _ a1, E.z.1.2.2.2.1 _ a2⟩
  · show (decide (x.1 ≤ pc) && decide (pc < x.2.1)) = true
    rw [decide_eq_true hx.1, decide_eq_true hx.2]
    rfl
theorem g_callSWI (E : gE V G cc nL own Ts rm) {S : Type} {y : MethodName} {wsY wsY' : List Cond} {fr lo mc ms mL : Nat} {As : List Value} {w : va_W} {post : Int32 → S → Prop} {w' : S → va_W} {bytes : ByteArray} {ty : FieldType} {hh : List (Nat × Nat × Nat × Nat)} {index n : Nat} (hM : CI G y wsY fr lo As w post w' mc ms) (hG : GoodIn Ts (va_wsS own index y wsY)) (hwY : wsY = Cond.codeWith y bytes mL (some ty) hh :: wsY') (hd : y.cls ≠ "java/lang/invoke/MethodHandle" ∧ y.cls ≠ "java/lang/invoke/VarHandle" ∧ (parseMethodDescriptor y.desc).map (fun d => d.parameters.length) = some n) (hR : fr + 1 ≤ rm.frames ∧ 8 + (mL + 11) + lo ≤ rm.locals) {F : va_W} (hp : gPerm ws (w ++ F)) (hn : As.length = n) {st : List Value} (hst : st = As.reverse ++ rest) (hr : (rest.map fun v => v.category).sum ≤ 8) (d : decode cc pc = .ok (.invokestatic index, 3)) (hf : cells + mc ≤ rm.cells ∧ slots + ms ≤ rm.slots)
    (k : ∀ (r : Int32) (u : S), post r u → gW V nL (cells + mc) (slots + ms) (w' u ++ F) lv (pc + 3) (.int r :: rest)) : gW V nL cells slots ws lv pc st := by
  intro H locs ls hP hD hS hl
  subst hst
  have hd' := E.d
  have hSs : va_S (gvO V) (gvS V).heap H locs := E.h ▸ hS
  have hl' := E.la
  obtain rfl := E.r
  have hKc := E.k
  have hM' := hM H.size
  rw [hd'] at hKc
  rw [← hl'] at hM'
  have hPa := (hp (gvD V) H (gvO V)).1 hP
  have hDa := (hp (gvD V) H (gvO V)).2 hD
  have hPc : va_P (gvD V) vwCl w H := fun k q hk => hPa k q (g_app_l hk)
  have hPg : va_P (gd G) vwCl w H := by rw [← hd']; exact hPc
  have hDc : va_D (gvO V) w := ⟨fun i j p q hi hj he => hDa.1 i j p q (g_app_l hi) (g_app_l hj) he, fun k q hk => hDa.2 k q (g_app_l hk)⟩
  have hFc : ∀ q, va_A w H.size q → gvO V q := by
    rintro q (⟨k, e, hk⟩ | h)
    · exact hDc.2 k _ hk
    · exact E.o q (Nat.le_trans hS.1 h)
  refine va_calli (vx_runSW (As := As) (rest := rest) ⟨E.x, E.b, E.ml, E.ow, E.ts⟩ hM' (vx_cwSW n E.ts hG hwY rfl rfl hd hR) ⟨gPre_blind, fun U hU hW => gPre_at hU hW hPg hKc hDc E.z hSs hFc⟩ rfl hn hl.1 rfl (lv_room hr) d hf) hS (fun q _ h => hFc q h) hFc (fun r u t H1 locs1 ht hvm hw hB hz1 hk1 hS1 => ?_)
  obtain ⟨hP1, hK1, hD1⟩ := hB
  rw [ht] at hP1
  rw [← hd'] at hP1
  have hJ := g_join hPa hDa hk1 hFc hP1 hD1
  exact k r u hw H1 locs1 ls hJ.1 hJ.2 hS1 hl
end
theorem cL_append_13 : Cond.classLink RL 13 "java/lang/IllegalArgumentException" ∈ wsL_append := by decide +kernel
theorem cL_append_15 : Cond.classLink RL 15 "java/lang/IllegalStateException" ∈ wsL_append := by decide +kernel
theorem cL_load_15 : Cond.classLink RL 15 "java/lang/IllegalStateException" ∈ wsL_load := by decide +kernel
theorem cL_about_13 : Cond.classLink RL 13 "java/lang/IllegalArgumentException" ∈ wsL_about := by decide +kernel
theorem cL_prisoner_28 : Cond.classLink RL 28 "java/lang/IndexOutOfBoundsException" ∈ wsL_prisoner := by decide +kernel
theorem cL_prisoner_13 : Cond.classLink RL 13 "java/lang/IllegalArgumentException" ∈ wsL_prisoner := by decide +kernel
theorem cL_visitor_28 : Cond.classLink RL 28 "java/lang/IndexOutOfBoundsException" ∈ wsL_visitor := by decide +kernel
theorem cL_visitor_13 : Cond.classLink RL 13 "java/lang/IllegalArgumentException" ∈ wsL_visitor := by decide +kernel
theorem cL_booking_28 : Cond.classLink RL 28 "java/lang/IndexOutOfBoundsException" ∈ wsL_booking := by decide +kernel
theorem cL_booking_13 : Cond.classLink RL 13 "java/lang/IllegalArgumentException" ∈ wsL_booking := by decide +kernel
theorem cL_line_28 : Cond.classLink RL 28 "java/lang/IndexOutOfBoundsException" ∈ wsL_line := by decide +kernel
theorem cL_line_13 : Cond.classLink RL 13 "java/lang/IllegalArgumentException" ∈ wsL_line := by decide +kernel
theorem cL_wishAt_13 : Cond.classLink RL 13 "java/lang/IllegalArgumentException" ∈ wsL_wishAt := by decide +kernel
theorem cL_setting_13 : Cond.classLink RL 13 "java/lang/IllegalArgumentException" ∈ wsL_setting := by decide +kernel
theorem cL_addPrisoner_13 : Cond.classLink RL 13 "java/lang/IllegalArgumentException" ∈ wsL_addPrisoner := by decide +kernel
theorem cL_addPrisoner_15 : Cond.classLink RL 15 "java/lang/IllegalStateException" ∈ wsL_addPrisoner := by decide +kernel
theorem cL_promote_28 : Cond.classLink RL 28 "java/lang/IndexOutOfBoundsException" ∈ wsL_promote := by decide +kernel
theorem cL_promote_13 : Cond.classLink RL 13 "java/lang/IllegalArgumentException" ∈ wsL_promote := by decide +kernel
theorem cL_list_28 : Cond.classLink RL 28 "java/lang/IndexOutOfBoundsException" ∈ wsL_list := by decide +kernel
theorem cL_keepApart_28 : Cond.classLink RL 28 "java/lang/IndexOutOfBoundsException" ∈ wsL_keepApart := by decide +kernel
theorem cL_keepApart_15 : Cond.classLink RL 15 "java/lang/IllegalStateException" ∈ wsL_keepApart := by decide +kernel
theorem cL_book_28 : Cond.classLink RL 28 "java/lang/IndexOutOfBoundsException" ∈ wsL_book := by decide +kernel
theorem cL_book_13 : Cond.classLink RL 13 "java/lang/IllegalArgumentException" ∈ wsL_book := by decide +kernel
theorem cL_book_15 : Cond.classLink RL 15 "java/lang/IllegalStateException" ∈ wsL_book := by decide +kernel
theorem cL_cancel_28 : Cond.classLink RL 28 "java/lang/IndexOutOfBoundsException" ∈ wsL_cancel := by decide +kernel
theorem cL_late_28 : Cond.classLink RL 28 "java/lang/IndexOutOfBoundsException" ∈ wsL_late := by decide +kernel
theorem cL_late_13 : Cond.classLink RL 13 "java/lang/IllegalArgumentException" ∈ wsL_late := by decide +kernel
theorem cL_carry_28 : Cond.classLink RL 28 "java/lang/IndexOutOfBoundsException" ∈ wsL_carry := by decide +kernel
theorem cL_punish_28 : Cond.classLink RL 28 "java/lang/IndexOutOfBoundsException" ∈ wsL_punish := by decide +kernel
theorem cL_punish_13 : Cond.classLink RL 13 "java/lang/IllegalArgumentException" ∈ wsL_punish := by decide +kernel
theorem cL_wish_28 : Cond.classLink RL 28 "java/lang/IndexOutOfBoundsException" ∈ wsL_wish := by decide +kernel
theorem cL_wish_15 : Cond.classLink RL 15 "java/lang/IllegalStateException" ∈ wsL_wish := by decide +kernel
theorem cL_set_13 : Cond.classLink RL 13 "java/lang/IllegalArgumentException" ∈ wsL_set := by decide +kernel
theorem cL_run_13 : Cond.classLink RL 13 "java/lang/IllegalArgumentException" ∈ wsL_run := by decide +kernel
theorem cL_undo_15 : Cond.classLink RL 15 "java/lang/IllegalStateException" ∈ wsL_undo := by decide +kernel
theorem cL_whyNot_28 : Cond.classLink RL 28 "java/lang/IndexOutOfBoundsException" ∈ wsL_whyNot := by decide +kernel
theorem cL_whyNot_13 : Cond.classLink RL 13 "java/lang/IllegalArgumentException" ∈ wsL_whyNot := by decide +kernel
theorem cL_firstTime_28 : Cond.classLink RL 28 "java/lang/IndexOutOfBoundsException" ∈ wsL_firstTime := by decide +kernel
theorem cL_coming_13 : Cond.classLink RL 13 "java/lang/IllegalArgumentException" ∈ wsL_coming := by decide +kernel
theorem cL_becomes_28 : Cond.classLink RL 28 "java/lang/IndexOutOfBoundsException" ∈ wsL_becomes := by decide +kernel
theorem cL_becomes_15 : Cond.classLink RL 15 "java/lang/IllegalStateException" ∈ wsL_becomes := by decide +kernel
theorem cL_save_28 : Cond.classLink RL 28 "java/lang/IndexOutOfBoundsException" ∈ wsL_save := by decide +kernel
theorem cL_restore_28 : Cond.classLink RL 28 "java/lang/IndexOutOfBoundsException" ∈ wsL_restore := by decide +kernel
theorem cL_restore_15 : Cond.classLink RL 15 "java/lang/IllegalStateException" ∈ wsL_restore := by decide +kernel
theorem cL_runScript_13 : Cond.classLink RL 13 "java/lang/IllegalArgumentException" ∈ wsL_runScript := by decide +kernel
theorem cL_simulate_13 : Cond.classLink RL 13 "java/lang/IllegalArgumentException" ∈ wsL_simulate := by decide +kernel
set_option maxHeartbeats 4000000 in
set_option maxRecDepth 100000 in
theorem wL_append {G : gG} {x : gVa} {u : gVu} {A : gA} {b o : Nat} {f : Nat → Int64} (hST : (gl G).stackTraces = false) (hA : gAok b A) (hb : b ≤ 50000) (hC : gClsI A u) (z : Int32) : CI G yL_append wsL_append 7 131 [.ref (x.1 0), .int z, .ref o] ((o, .inl (gy G 3, 1, .inr (.inl f))) :: wV G x u) (fun (r : Int32) (w : (Nat → Int64) × gVu) => r = nI (fAppend A z).1 ∧ (r = 0 → (fAppend A z).1 = 0) ∧ ((fAppend A z).1 = 0 → w.1 0 = (fAppend A z).2.1.toInt64) ∧ gClsI (fAppend A z).2.2 w.2) (fun w : (Nat → Int64) × gVu => (o, .inl (gy G 3, 1, .inr (.inl w.1))) :: wV G x w.2) 1 6 := by
  refine g_enterIH (ty := .int) RL rfl (by decide) rfl (Nat.le_of_ble_eq_true rfl) ?_
  intro V E hT RET
  refine g_aload_n E dL_append_0 rfl 2 rfl ?_
  refine g_iconst (v := 0) E dL_append_1 (by decide) ?_
  refine g_aload_n E dL_append_2 rfl 0 rfl ?_
  refine g_iload_n E dL_append_3 rfl 1 rfl ?_
  refine g_callVX (F := [(o, .inl (gy G 3, 1, .inr (.inl f)))]) E (lX7_append (x := x) hST hA hb hC z) gL_append_X7_append rfl hdX7_append ⟨Nat.le_of_ble_eq_true rfl, Nat.le_of_ble_eq_true rfl⟩ 7 0 rfl rfl rfl (gPerm_rot (c := (o, .inl (gy G 3, 1, .inr (.inl f)))) (W := wV G x u)) rfl rfl ?_ dL_append_4 ?_ (fun cls w hx => ?_) (fun r w hx => ?_)
  · exact Nat.le_of_ble_eq_true rfl
  · exact ⟨Nat.le_of_ble_eq_true rfl, Nat.le_of_ble_eq_true rfl⟩
  · obtain ⟨k, hk1, hk2, hk3⟩ := hx
    refine gWX_perm gPerm_rot2 ?_
    rcases (show k = 0 ∨ k = 1 ∨ 2 ≤ k by omega) with rfl | rfl | h9
    · obtain rfl : "java/lang/IllegalArgumentException" = cls := Option.some.inj hk2
      refine g_catch E hT "java/lang/IllegalArgumentException" [] [(0, 9, 15, 15)] (0, 9, 12, 13) rfl (fun z hz => by cases hz) (by decide) (by decide) cL_append_13 (by decide) (h := 12) rfl (fun qx => ?_)
      refine g_astore_n (lv' := [(3, .ref qx), (0, .ref (x.1 0)), (1, .int z), (2, .ref o)]) E dL_append_12 rfl (by decide) rfl ?_
      refine g_iconst (v := 1) E dL_append_13 (by decide) ?_
      exact RET _ _ _ (f, w) ⟨by rw [hk1]; rfl, fun q => absurd q (by decide), fun q => absurd (hk1.symm.trans q) (by decide), hk3⟩ rfl dL_append_14
    · obtain rfl : "java/lang/IllegalStateException" = cls := Option.some.inj hk2
      refine g_catch E hT "java/lang/IllegalStateException" [(0, 9, 12, 13)] [] (0, 9, 15, 15) rfl (List.forall_mem_cons.mpr ⟨⟨"java/lang/IllegalArgumentException", cL_append_13, by decide, by decide⟩, fun z hz => by cases hz⟩) (by decide) (by decide) cL_append_15 (by decide) (h := 15) rfl (fun qx => ?_)
      refine g_astore_n (lv' := [(3, .ref qx), (0, .ref (x.1 0)), (1, .int z), (2, .ref o)]) E dL_append_15 rfl (by decide) rfl ?_
      refine g_iconst (v := 2) E dL_append_16 (by decide) ?_
      exact RET _ _ _ (f, w) ⟨by rw [hk1]; rfl, fun q => absurd q (by decide), fun q => absurd (hk1.symm.trans q) (by decide), hk3⟩ rfl dL_append_17
    · exfalso
      rw [List.getElem?_eq_none (by show 2 ≤ k; exact h9)] at hk2
      cases hk2
  · obtain ⟨h1, h2, h3⟩ := hx
    refine g_perm gPerm_rot2 ?_
    refine g_i2l (v := r.toInt64) E dL_append_7 rfl ?_
    refine g_last (ws' := (o, .inl (gy G 3, 1, .inr (.inl (vp_updL f 0 r.toInt64)))) :: wV G x w) (j := 0) E 0 rfl (g_in (e := 0) (by decide) rfl) (nI_clamp (n := 0) (by decide)) rfl dL_append_8 ?_
    refine g_goto (tgt := 18) E dL_append_9 (by decide) ?_
    refine g_iconst (v := 0) E dL_append_18 (by decide) ?_
    exact RET _ _ _ (vp_updL f 0 r.toInt64, w) ⟨by rw [h1]; rfl, fun _ => h1, fun _ => by rw [← h2]; rfl, h3⟩ rfl dL_append_19

set_option maxHeartbeats 4000000 in
set_option maxRecDepth 100000 in
theorem wL_load {G : gG} {x : gVa} {u : gVu} {A : gA} {b o : Nat} {f : Nat → Int64} (hST : (gl G).stackTraces = false) (hA : gAok b A) (hb : b ≤ 50000) (hC : gClsI A u)  : CI G yL_load wsL_load 11 277 [.ref (x.1 0), .ref o] ((o, .inl (gy G 3, 1, .inr (.inl f))) :: wV G x u) (fun (r : Int32) (w : (Nat → Int64) × gVu) => r = nI (fLoad A).1 ∧ (r = 0 → (fLoad A).1 = 0) ∧ ((fLoad A).1 = 0 → w.1 0 = (fLoad A).2.1.toInt64) ∧ gClsI (fLoad A).2.2 w.2) (fun w : (Nat → Int64) × gVu => (o, .inl (gy G 3, 1, .inr (.inl w.1))) :: wV G x w.2) 1 6 := by
  refine g_enterIH (ty := .int) RL rfl (by decide) rfl (Nat.le_of_ble_eq_true rfl) ?_
  intro V E hT RET
  refine g_aload_n E dL_load_0 rfl 1 rfl ?_
  refine g_iconst (v := 0) E dL_load_1 (by decide) ?_
  refine g_aload_n E dL_load_2 rfl 0 rfl ?_
  refine g_callVX (F := [(o, .inl (gy G 3, 1, .inr (.inl f)))]) E (lX7_load (x := x) hST hA hb hC ) gL_load_X7_load rfl hdX7_load ⟨Nat.le_of_ble_eq_true rfl, Nat.le_of_ble_eq_true rfl⟩ 7 0 rfl rfl rfl (gPerm_rot (c := (o, .inl (gy G 3, 1, .inr (.inl f)))) (W := wV G x u)) rfl rfl ?_ dL_load_3 ?_ (fun cls w hx => ?_) (fun r w hx => ?_)
  · exact Nat.le_of_ble_eq_true rfl
  · exact ⟨Nat.le_of_ble_eq_true rfl, Nat.le_of_ble_eq_true rfl⟩
  · obtain ⟨k, hk1, hk2, hk3⟩ := hx
    refine gWX_perm gPerm_rot2 ?_
    rcases (show k = 0 ∨ 1 ≤ k by omega) with rfl | h9
    · obtain rfl : "java/lang/IllegalStateException" = cls := Option.some.inj hk2
      refine g_catch E hT "java/lang/IllegalStateException" [] [] (0, 8, 11, 15) rfl (fun z hz => by cases hz) (by decide) (by decide) cL_load_15 (by decide) (h := 11) rfl (fun qx => ?_)
      refine g_astore_n (lv' := [(2, .ref qx), (0, .ref (x.1 0)), (1, .ref o)]) E dL_load_11 rfl (by decide) rfl ?_
      refine g_iconst (v := 1) E dL_load_12 (by decide) ?_
      exact RET _ _ _ (f, w) ⟨by rw [hk1]; rfl, fun q => absurd q (by decide), fun q => absurd (hk1.symm.trans q) (by decide), hk3⟩ rfl dL_load_13
    · exfalso
      rw [List.getElem?_eq_none (by show 1 ≤ k; exact h9)] at hk2
      cases hk2
  · obtain ⟨h1, h2, h3⟩ := hx
    refine g_perm gPerm_rot2 ?_
    refine g_i2l (v := r.toInt64) E dL_load_6 rfl ?_
    refine g_last (ws' := (o, .inl (gy G 3, 1, .inr (.inl (vp_updL f 0 r.toInt64)))) :: wV G x w) (j := 0) E 0 rfl (g_in (e := 0) (by decide) rfl) (nI_clamp (n := 0) (by decide)) rfl dL_load_7 ?_
    refine g_goto (tgt := 14) E dL_load_8 (by decide) ?_
    refine g_iconst (v := 0) E dL_load_14 (by decide) ?_
    exact RET _ _ _ (vp_updL f 0 r.toInt64, w) ⟨by rw [h1]; rfl, fun _ => h1, fun _ => by rw [← h2]; rfl, h3⟩ rfl dL_load_15

set_option maxHeartbeats 4000000 in
set_option maxRecDepth 100000 in
theorem wL_about {G : gG} {x : gVa} {u : gVu} {A : gA} {b o : Nat} {f : Nat → Int64} (hST : (gl G).stackTraces = false) (hA : gAok b A) (hb : b ≤ 50000) (hC : gClsI A u) (y : Int32) : CI G yL_about wsL_about 7 131 [.ref (x.1 0), .int y, .ref o] ((o, .inl (gy G 3, 1, .inr (.inl f))) :: wV G x u) (fun (r : Int32) (w : (Nat → Int64) × gVu) => r = nI (fAbout A y).1 ∧ (r = 0 → (fAbout A y).1 = 0) ∧ ((fAbout A y).1 = 0 → w.1 0 = (fAbout A y).2.1.toInt64) ∧ gClsI (fAbout A y).2.2 w.2) (fun w : (Nat → Int64) × gVu => (o, .inl (gy G 3, 1, .inr (.inl w.1))) :: wV G x w.2) 1 6 := by
  refine g_enterIH (ty := .int) RL rfl (by decide) rfl (Nat.le_of_ble_eq_true rfl) ?_
  intro V E hT RET
  refine g_aload_n E dL_about_0 rfl 2 rfl ?_
  refine g_iconst (v := 0) E dL_about_1 (by decide) ?_
  refine g_aload_n E dL_about_2 rfl 0 rfl ?_
  refine g_iload_n E dL_about_3 rfl 1 rfl ?_
  refine g_callVX (F := [(o, .inl (gy G 3, 1, .inr (.inl f)))]) E (lX7_about (x := x) hST hA hb hC y) gL_about_X7_about rfl hdX7_about ⟨Nat.le_of_ble_eq_true rfl, Nat.le_of_ble_eq_true rfl⟩ 7 0 rfl rfl rfl (gPerm_rot (c := (o, .inl (gy G 3, 1, .inr (.inl f)))) (W := wV G x u)) rfl rfl ?_ dL_about_4 ?_ (fun cls w hx => ?_) (fun r w hx => ?_)
  · exact Nat.le_of_ble_eq_true rfl
  · exact ⟨Nat.le_of_ble_eq_true rfl, Nat.le_of_ble_eq_true rfl⟩
  · obtain ⟨k, hk1, hk2, hk3⟩ := hx
    refine gWX_perm gPerm_rot2 ?_
    rcases (show k = 0 ∨ 1 ≤ k by omega) with rfl | h9
    · obtain rfl : "java/lang/IllegalArgumentException" = cls := Option.some.inj hk2
      refine g_catch E hT "java/lang/IllegalArgumentException" [] [] (0, 9, 12, 13) rfl (fun z hz => by cases hz) (by decide) (by decide) cL_about_13 (by decide) (h := 12) rfl (fun qx => ?_)
      refine g_astore_n (lv' := [(3, .ref qx), (0, .ref (x.1 0)), (1, .int y), (2, .ref o)]) E dL_about_12 rfl (by decide) rfl ?_
      refine g_iconst (v := 1) E dL_about_13 (by decide) ?_
      exact RET _ _ _ (f, w) ⟨by rw [hk1]; rfl, fun q => absurd q (by decide), fun q => absurd (hk1.symm.trans q) (by decide), hk3⟩ rfl dL_about_14
    · exfalso
      rw [List.getElem?_eq_none (by show 1 ≤ k; exact h9)] at hk2
      cases hk2
  · obtain ⟨h1, h2, h3⟩ := hx
    refine g_perm gPerm_rot2 ?_
    refine g_i2l (v := r.toInt64) E dL_about_7 rfl ?_
    refine g_last (ws' := (o, .inl (gy G 3, 1, .inr (.inl (vp_updL f 0 r.toInt64)))) :: wV G x w) (j := 0) E 0 rfl (g_in (e := 0) (by decide) rfl) (nI_clamp (n := 0) (by decide)) rfl dL_about_8 ?_
    refine g_goto (tgt := 15) E dL_about_9 (by decide) ?_
    refine g_iconst (v := 0) E dL_about_15 (by decide) ?_
    exact RET _ _ _ (vp_updL f 0 r.toInt64, w) ⟨by rw [h1]; rfl, fun _ => h1, fun _ => by rw [← h2]; rfl, h3⟩ rfl dL_about_16

set_option maxHeartbeats 4000000 in
set_option maxRecDepth 100000 in
theorem wL_prisoner {G : gG} {x : gVa} {u : gVu} {A : gA} {b o : Nat} {f : Nat → Int64} (hST : (gl G).stackTraces = false) (hA : gAok b A) (hb : b ≤ 50000) (hC : gClsI A u) (p y : Int32) : CI G yL_prisoner wsL_prisoner 7 132 [.ref (x.1 0), .int p, .int y, .ref o] ((o, .inl (gy G 3, 1, .inr (.inl f))) :: wV G x u) (fun (r : Int32) (w : (Nat → Int64) × gVu) => r = nI (fPris A p y).1 ∧ (r = 0 → (fPris A p y).1 = 0) ∧ ((fPris A p y).1 = 0 → w.1 0 = (fPris A p y).2.1.toInt64) ∧ gClsI (fPris A p y).2.2 w.2) (fun w : (Nat → Int64) × gVu => (o, .inl (gy G 3, 1, .inr (.inl w.1))) :: wV G x w.2) 1 6 := by
  refine g_enterIH (ty := .int) RL rfl (by decide) rfl (Nat.le_of_ble_eq_true rfl) ?_
  intro V E hT RET
  refine g_aload_n E dL_prisoner_0 rfl 3 rfl ?_
  refine g_iconst (v := 0) E dL_prisoner_1 (by decide) ?_
  refine g_aload_n E dL_prisoner_2 rfl 0 rfl ?_
  refine g_iload_n E dL_prisoner_3 rfl 1 rfl ?_
  refine g_iload_n E dL_prisoner_4 rfl 2 rfl ?_
  refine g_callVX (F := [(o, .inl (gy G 3, 1, .inr (.inl f)))]) E (lX7_prisoner (x := x) hST hA hb hC p y) gL_prisoner_X7_prisoner rfl hdX7_prisoner ⟨Nat.le_of_ble_eq_true rfl, Nat.le_of_ble_eq_true rfl⟩ 7 0 rfl rfl rfl (gPerm_rot (c := (o, .inl (gy G 3, 1, .inr (.inl f)))) (W := wV G x u)) rfl rfl ?_ dL_prisoner_5 ?_ (fun cls w hx => ?_) (fun r w hx => ?_)
  · exact Nat.le_of_ble_eq_true rfl
  · exact ⟨Nat.le_of_ble_eq_true rfl, Nat.le_of_ble_eq_true rfl⟩
  · obtain ⟨k, hk1, hk2, hk3⟩ := hx
    refine gWX_perm gPerm_rot2 ?_
    rcases (show k = 0 ∨ k = 1 ∨ 2 ≤ k by omega) with rfl | rfl | h9
    · obtain rfl : "java/lang/IndexOutOfBoundsException" = cls := Option.some.inj hk2
      refine g_catch E hT "java/lang/IndexOutOfBoundsException" [] [(0, 10, 17, 13)] (0, 10, 13, 28) rfl (fun z hz => by cases hz) (by decide) (by decide) cL_prisoner_28 (by decide) (h := 13) rfl (fun qx => ?_)
      refine g_astore (lv' := [(4, .ref qx), (0, .ref (x.1 0)), (1, .int p), (2, .int y), (3, .ref o)]) E dL_prisoner_13 (by decide) rfl ?_
      refine g_iconst (v := 1) E dL_prisoner_15 (by decide) ?_
      exact RET _ _ _ (f, w) ⟨by rw [hk1]; rfl, fun q => absurd q (by decide), fun q => absurd (hk1.symm.trans q) (by decide), hk3⟩ rfl dL_prisoner_16
    · obtain rfl : "java/lang/IllegalArgumentException" = cls := Option.some.inj hk2
      refine g_catch E hT "java/lang/IllegalArgumentException" [(0, 10, 13, 28)] [] (0, 10, 17, 13) rfl (List.forall_mem_cons.mpr ⟨⟨"java/lang/IndexOutOfBoundsException", cL_prisoner_28, by decide, by decide⟩, fun z hz => by cases hz⟩) (by decide) (by decide) cL_prisoner_13 (by decide) (h := 17) rfl (fun qx => ?_)
      refine g_astore (lv' := [(4, .ref qx), (0, .ref (x.1 0)), (1, .int p), (2, .int y), (3, .ref o)]) E dL_prisoner_17 (by decide) rfl ?_
      refine g_iconst (v := 2) E dL_prisoner_19 (by decide) ?_
      exact RET _ _ _ (f, w) ⟨by rw [hk1]; rfl, fun q => absurd q (by decide), fun q => absurd (hk1.symm.trans q) (by decide), hk3⟩ rfl dL_prisoner_20
    · exfalso
      rw [List.getElem?_eq_none (by show 2 ≤ k; exact h9)] at hk2
      cases hk2
  · obtain ⟨h1, h2, h3⟩ := hx
    refine g_perm gPerm_rot2 ?_
    refine g_i2l (v := r.toInt64) E dL_prisoner_8 rfl ?_
    refine g_last (ws' := (o, .inl (gy G 3, 1, .inr (.inl (vp_updL f 0 r.toInt64)))) :: wV G x w) (j := 0) E 0 rfl (g_in (e := 0) (by decide) rfl) (nI_clamp (n := 0) (by decide)) rfl dL_prisoner_9 ?_
    refine g_goto (tgt := 21) E dL_prisoner_10 (by decide) ?_
    refine g_iconst (v := 0) E dL_prisoner_21 (by decide) ?_
    exact RET _ _ _ (vp_updL f 0 r.toInt64, w) ⟨by rw [h1]; rfl, fun _ => h1, fun _ => by rw [← h2]; rfl, h3⟩ rfl dL_prisoner_22

set_option maxHeartbeats 4000000 in
set_option maxRecDepth 100000 in
theorem wL_visitor {G : gG} {x : gVa} {u : gVu} {A : gA} {b o : Nat} {f : Nat → Int64} (hST : (gl G).stackTraces = false) (hA : gAok b A) (hb : b ≤ 50000) (hC : gClsI A u) (p y : Int32) : CI G yL_visitor wsL_visitor 7 132 [.ref (x.1 0), .int p, .int y, .ref o] ((o, .inl (gy G 3, 1, .inr (.inl f))) :: wV G x u) (fun (r : Int32) (w : (Nat → Int64) × gVu) => r = nI (fVisr A p y).1 ∧ (r = 0 → (fVisr A p y).1 = 0) ∧ ((fVisr A p y).1 = 0 → w.1 0 = (fVisr A p y).2.1.toInt64) ∧ gClsI (fVisr A p y).2.2 w.2) (fun w : (Nat → Int64) × gVu => (o, .inl (gy G 3, 1, .inr (.inl w.1))) :: wV G x w.2) 1 6 := by
  refine g_enterIH (ty := .int) RL rfl (by decide) rfl (Nat.le_of_ble_eq_true rfl) ?_
  intro V E hT RET
  refine g_aload_n E dL_visitor_0 rfl 3 rfl ?_
  refine g_iconst (v := 0) E dL_visitor_1 (by decide) ?_
  refine g_aload_n E dL_visitor_2 rfl 0 rfl ?_
  refine g_iload_n E dL_visitor_3 rfl 1 rfl ?_
  refine g_iload_n E dL_visitor_4 rfl 2 rfl ?_
  refine g_callVX (F := [(o, .inl (gy G 3, 1, .inr (.inl f)))]) E (lX7_visitor (x := x) hST hA hb hC p y) gL_visitor_X7_visitor rfl hdX7_visitor ⟨Nat.le_of_ble_eq_true rfl, Nat.le_of_ble_eq_true rfl⟩ 7 0 rfl rfl rfl (gPerm_rot (c := (o, .inl (gy G 3, 1, .inr (.inl f)))) (W := wV G x u)) rfl rfl ?_ dL_visitor_5 ?_ (fun cls w hx => ?_) (fun r w hx => ?_)
  · exact Nat.le_of_ble_eq_true rfl
  · exact ⟨Nat.le_of_ble_eq_true rfl, Nat.le_of_ble_eq_true rfl⟩
  · obtain ⟨k, hk1, hk2, hk3⟩ := hx
    refine gWX_perm gPerm_rot2 ?_
    rcases (show k = 0 ∨ k = 1 ∨ 2 ≤ k by omega) with rfl | rfl | h9
    · obtain rfl : "java/lang/IndexOutOfBoundsException" = cls := Option.some.inj hk2
      refine g_catch E hT "java/lang/IndexOutOfBoundsException" [] [(0, 10, 17, 13)] (0, 10, 13, 28) rfl (fun z hz => by cases hz) (by decide) (by decide) cL_visitor_28 (by decide) (h := 13) rfl (fun qx => ?_)
      refine g_astore (lv' := [(4, .ref qx), (0, .ref (x.1 0)), (1, .int p), (2, .int y), (3, .ref o)]) E dL_visitor_13 (by decide) rfl ?_
      refine g_iconst (v := 1) E dL_visitor_15 (by decide) ?_
      exact RET _ _ _ (f, w) ⟨by rw [hk1]; rfl, fun q => absurd q (by decide), fun q => absurd (hk1.symm.trans q) (by decide), hk3⟩ rfl dL_visitor_16
    · obtain rfl : "java/lang/IllegalArgumentException" = cls := Option.some.inj hk2
      refine g_catch E hT "java/lang/IllegalArgumentException" [(0, 10, 13, 28)] [] (0, 10, 17, 13) rfl (List.forall_mem_cons.mpr ⟨⟨"java/lang/IndexOutOfBoundsException", cL_visitor_28, by decide, by decide⟩, fun z hz => by cases hz⟩) (by decide) (by decide) cL_visitor_13 (by decide) (h := 17) rfl (fun qx => ?_)
      refine g_astore (lv' := [(4, .ref qx), (0, .ref (x.1 0)), (1, .int p), (2, .int y), (3, .ref o)]) E dL_visitor_17 (by decide) rfl ?_
      refine g_iconst (v := 2) E dL_visitor_19 (by decide) ?_
      exact RET _ _ _ (f, w) ⟨by rw [hk1]; rfl, fun q => absurd q (by decide), fun q => absurd (hk1.symm.trans q) (by decide), hk3⟩ rfl dL_visitor_20
    · exfalso
      rw [List.getElem?_eq_none (by show 2 ≤ k; exact h9)] at hk2
      cases hk2
  · obtain ⟨h1, h2, h3⟩ := hx
    refine g_perm gPerm_rot2 ?_
    refine g_i2l (v := r.toInt64) E dL_visitor_8 rfl ?_
    refine g_last (ws' := (o, .inl (gy G 3, 1, .inr (.inl (vp_updL f 0 r.toInt64)))) :: wV G x w) (j := 0) E 0 rfl (g_in (e := 0) (by decide) rfl) (nI_clamp (n := 0) (by decide)) rfl dL_visitor_9 ?_
    refine g_goto (tgt := 21) E dL_visitor_10 (by decide) ?_
    refine g_iconst (v := 0) E dL_visitor_21 (by decide) ?_
    exact RET _ _ _ (vp_updL f 0 r.toInt64, w) ⟨by rw [h1]; rfl, fun _ => h1, fun _ => by rw [← h2]; rfl, h3⟩ rfl dL_visitor_22

set_option maxHeartbeats 4000000 in
set_option maxRecDepth 100000 in
theorem wL_booking {G : gG} {x : gVa} {u : gVu} {A : gA} {b o : Nat} {f : Nat → Int64} (hST : (gl G).stackTraces = false) (hA : gAok b A) (hb : b ≤ 50000) (hC : gClsI A u) (p y : Int32) : CI G yL_booking wsL_booking 7 132 [.ref (x.1 0), .int p, .int y, .ref o] ((o, .inl (gy G 3, 1, .inr (.inl f))) :: wV G x u) (fun (r : Int32) (w : (Nat → Int64) × gVu) => r = nI (fBkng A p y).1 ∧ (r = 0 → (fBkng A p y).1 = 0) ∧ ((fBkng A p y).1 = 0 → w.1 0 = (fBkng A p y).2.1.toInt64) ∧ gClsI (fBkng A p y).2.2 w.2) (fun w : (Nat → Int64) × gVu => (o, .inl (gy G 3, 1, .inr (.inl w.1))) :: wV G x w.2) 1 6 := by
  refine g_enterIH (ty := .int) RL rfl (by decide) rfl (Nat.le_of_ble_eq_true rfl) ?_
  intro V E hT RET
  refine g_aload_n E dL_booking_0 rfl 3 rfl ?_
  refine g_iconst (v := 0) E dL_booking_1 (by decide) ?_
  refine g_aload_n E dL_booking_2 rfl 0 rfl ?_
  refine g_iload_n E dL_booking_3 rfl 1 rfl ?_
  refine g_iload_n E dL_booking_4 rfl 2 rfl ?_
  refine g_callVX (F := [(o, .inl (gy G 3, 1, .inr (.inl f)))]) E (lX7_booking (x := x) hST hA hb hC p y) gL_booking_X7_booking rfl hdX7_booking ⟨Nat.le_of_ble_eq_true rfl, Nat.le_of_ble_eq_true rfl⟩ 7 0 rfl rfl rfl (gPerm_rot (c := (o, .inl (gy G 3, 1, .inr (.inl f)))) (W := wV G x u)) rfl rfl ?_ dL_booking_5 ?_ (fun cls w hx => ?_) (fun r w hx => ?_)
  · exact Nat.le_of_ble_eq_true rfl
  · exact ⟨Nat.le_of_ble_eq_true rfl, Nat.le_of_ble_eq_true rfl⟩
  · obtain ⟨k, hk1, hk2, hk3⟩ := hx
    refine gWX_perm gPerm_rot2 ?_
    rcases (show k = 0 ∨ k = 1 ∨ 2 ≤ k by omega) with rfl | rfl | h9
    · obtain rfl : "java/lang/IndexOutOfBoundsException" = cls := Option.some.inj hk2
      refine g_catch E hT "java/lang/IndexOutOfBoundsException" [] [(0, 10, 17, 13)] (0, 10, 13, 28) rfl (fun z hz => by cases hz) (by decide) (by decide) cL_booking_28 (by decide) (h := 13) rfl (fun qx => ?_)
      refine g_astore (lv' := [(4, .ref qx), (0, .ref (x.1 0)), (1, .int p), (2, .int y), (3, .ref o)]) E dL_booking_13 (by decide) rfl ?_
      refine g_iconst (v := 1) E dL_booking_15 (by decide) ?_
      exact RET _ _ _ (f, w) ⟨by rw [hk1]; rfl, fun q => absurd q (by decide), fun q => absurd (hk1.symm.trans q) (by decide), hk3⟩ rfl dL_booking_16
    · obtain rfl : "java/lang/IllegalArgumentException" = cls := Option.some.inj hk2
      refine g_catch E hT "java/lang/IllegalArgumentException" [(0, 10, 13, 28)] [] (0, 10, 17, 13) rfl (List.forall_mem_cons.mpr ⟨⟨"java/lang/IndexOutOfBoundsException", cL_booking_28, by decide, by decide⟩, fun z hz => by cases hz⟩) (by decide) (by decide) cL_booking_13 (by decide) (h := 17) rfl (fun qx => ?_)
      refine g_astore (lv' := [(4, .ref qx), (0, .ref (x.1 0)), (1, .int p), (2, .int y), (3, .ref o)]) E dL_booking_17 (by decide) rfl ?_
      refine g_iconst (v := 2) E dL_booking_19 (by decide) ?_
      exact RET _ _ _ (f, w) ⟨by rw [hk1]; rfl, fun q => absurd q (by decide), fun q => absurd (hk1.symm.trans q) (by decide), hk3⟩ rfl dL_booking_20
    · exfalso
      rw [List.getElem?_eq_none (by show 2 ≤ k; exact h9)] at hk2
      cases hk2
  · obtain ⟨h1, h2, h3⟩ := hx
    refine g_perm gPerm_rot2 ?_
    refine g_i2l (v := r.toInt64) E dL_booking_8 rfl ?_
    refine g_last (ws' := (o, .inl (gy G 3, 1, .inr (.inl (vp_updL f 0 r.toInt64)))) :: wV G x w) (j := 0) E 0 rfl (g_in (e := 0) (by decide) rfl) (nI_clamp (n := 0) (by decide)) rfl dL_booking_9 ?_
    refine g_goto (tgt := 21) E dL_booking_10 (by decide) ?_
    refine g_iconst (v := 0) E dL_booking_21 (by decide) ?_
    exact RET _ _ _ (vp_updL f 0 r.toInt64, w) ⟨by rw [h1]; rfl, fun _ => h1, fun _ => by rw [← h2]; rfl, h3⟩ rfl dL_booking_22

set_option maxHeartbeats 4000000 in
set_option maxRecDepth 100000 in
theorem wL_line {G : gG} {x : gVa} {u : gVu} {A : gA} {b o : Nat} {f : Nat → Int64} (hST : (gl G).stackTraces = false) (hA : gAok b A) (hb : b ≤ 50000) (hC : gClsI A u) (k z : Int32) : CI G yL_line wsL_line 13 332 [.ref (x.1 0), .int k, .int z, .ref o] ((o, .inl (gy G 3, 1, .inr (.inl f))) :: wV G x u) (fun (r : Int32) (w : (Nat → Int64) × gVu) => r = nI (fLine A k z).1 ∧ (r = 0 → (fLine A k z).1 = 0) ∧ ((fLine A k z).1 = 0 → w.1 0 = (fLine A k z).2.1.toInt64) ∧ gClsI (fLine A k z).2.2 w.2) (fun w : (Nat → Int64) × gVu => (o, .inl (gy G 3, 1, .inr (.inl w.1))) :: wV G x w.2) 14 428 := by
  refine g_enterIH (ty := .int) RL rfl (by decide) rfl (Nat.le_of_ble_eq_true rfl) ?_
  intro V E hT RET
  refine g_aload_n E dL_line_0 rfl 3 rfl ?_
  refine g_iconst (v := 0) E dL_line_1 (by decide) ?_
  refine g_aload_n E dL_line_2 rfl 0 rfl ?_
  refine g_iload_n E dL_line_3 rfl 1 rfl ?_
  refine g_iload_n E dL_line_4 rfl 2 rfl ?_
  refine g_callVX (F := [(o, .inl (gy G 3, 1, .inr (.inl f)))]) E (lX7_line (x := x) hST hA hb hC k z) gL_line_X7_line rfl hdX7_line ⟨Nat.le_of_ble_eq_true rfl, Nat.le_of_ble_eq_true rfl⟩ 7 0 rfl rfl rfl (gPerm_rot (c := (o, .inl (gy G 3, 1, .inr (.inl f)))) (W := wV G x u)) rfl rfl ?_ dL_line_5 ?_ (fun cls w hx => ?_) (fun r w hx => ?_)
  · exact Nat.le_of_ble_eq_true rfl
  · exact ⟨Nat.le_of_ble_eq_true rfl, Nat.le_of_ble_eq_true rfl⟩
  · obtain ⟨k, hk1, hk2, hk3⟩ := hx
    refine gWX_perm gPerm_rot2 ?_
    rcases (show k = 0 ∨ k = 1 ∨ 2 ≤ k by omega) with rfl | rfl | h9
    · obtain rfl : "java/lang/IndexOutOfBoundsException" = cls := Option.some.inj hk2
      refine g_catch E hT "java/lang/IndexOutOfBoundsException" [] [(0, 10, 17, 13)] (0, 10, 13, 28) rfl (fun z hz => by cases hz) (by decide) (by decide) cL_line_28 (by decide) (h := 13) rfl (fun qx => ?_)
      refine g_astore (lv' := [(4, .ref qx), (0, .ref (x.1 0)), (1, .int k), (2, .int z), (3, .ref o)]) E dL_line_13 (by decide) rfl ?_
      refine g_iconst (v := 1) E dL_line_15 (by decide) ?_
      exact RET _ _ _ (f, w) ⟨by rw [hk1]; rfl, fun q => absurd q (by decide), fun q => absurd (hk1.symm.trans q) (by decide), hk3⟩ rfl dL_line_16
    · obtain rfl : "java/lang/IllegalArgumentException" = cls := Option.some.inj hk2
      refine g_catch E hT "java/lang/IllegalArgumentException" [(0, 10, 13, 28)] [] (0, 10, 17, 13) rfl (List.forall_mem_cons.mpr ⟨⟨"java/lang/IndexOutOfBoundsException", cL_line_28, by decide, by decide⟩, fun z hz => by cases hz⟩) (by decide) (by decide) cL_line_13 (by decide) (h := 17) rfl (fun qx => ?_)
      refine g_astore (lv' := [(4, .ref qx), (0, .ref (x.1 0)), (1, .int k), (2, .int z), (3, .ref o)]) E dL_line_17 (by decide) rfl ?_
      refine g_iconst (v := 2) E dL_line_19 (by decide) ?_
      exact RET _ _ _ (f, w) ⟨by rw [hk1]; rfl, fun q => absurd q (by decide), fun q => absurd (hk1.symm.trans q) (by decide), hk3⟩ rfl dL_line_20
    · exfalso
      rw [List.getElem?_eq_none (by show 2 ≤ k; exact h9)] at hk2
      cases hk2
  · obtain ⟨h1, h2, h3⟩ := hx
    refine g_perm gPerm_rot2 ?_
    refine g_i2l (v := r.toInt64) E dL_line_8 rfl ?_
    refine g_last (ws' := (o, .inl (gy G 3, 1, .inr (.inl (vp_updL f 0 r.toInt64)))) :: wV G x w) (j := 0) E 0 rfl (g_in (e := 0) (by decide) rfl) (nI_clamp (n := 0) (by decide)) rfl dL_line_9 ?_
    refine g_goto (tgt := 21) E dL_line_10 (by decide) ?_
    refine g_iconst (v := 0) E dL_line_21 (by decide) ?_
    exact RET _ _ _ (vp_updL f 0 r.toInt64, w) ⟨by rw [h1]; rfl, fun _ => h1, fun _ => by rw [← h2]; rfl, h3⟩ rfl dL_line_22

set_option maxHeartbeats 4000000 in
set_option maxRecDepth 100000 in
theorem wL_wishAt {G : gG} {x : gVa} {u : gVu} {A : gA} {b o : Nat} {f : Nat → Int64} (hST : (gl G).stackTraces = false) (hA : gAok b A) (hb : b ≤ 50000) (hC : gClsI A u) (k : Int32) : CI G yL_wishAt wsL_wishAt 7 131 [.ref (x.1 0), .int k, .ref o] ((o, .inl (gy G 3, 1, .inr (.inl f))) :: wV G x u) (fun (r : Int32) (w : (Nat → Int64) × gVu) => r = nI (fWish A k).1 ∧ (r = 0 → (fWish A k).1 = 0) ∧ ((fWish A k).1 = 0 → w.1 0 = (fWish A k).2.1.toInt64) ∧ gClsI (fWish A k).2.2 w.2) (fun w : (Nat → Int64) × gVu => (o, .inl (gy G 3, 1, .inr (.inl w.1))) :: wV G x w.2) 1 6 := by
  refine g_enterIH (ty := .int) RL rfl (by decide) rfl (Nat.le_of_ble_eq_true rfl) ?_
  intro V E hT RET
  refine g_aload_n E dL_wishAt_0 rfl 2 rfl ?_
  refine g_iconst (v := 0) E dL_wishAt_1 (by decide) ?_
  refine g_aload_n E dL_wishAt_2 rfl 0 rfl ?_
  refine g_iload_n E dL_wishAt_3 rfl 1 rfl ?_
  refine g_callVX (F := [(o, .inl (gy G 3, 1, .inr (.inl f)))]) E (lX7_wishAt (x := x) hST hA hb hC k) gL_wishAt_X7_wishAt rfl hdX7_wishAt ⟨Nat.le_of_ble_eq_true rfl, Nat.le_of_ble_eq_true rfl⟩ 7 0 rfl rfl rfl (gPerm_rot (c := (o, .inl (gy G 3, 1, .inr (.inl f)))) (W := wV G x u)) rfl rfl ?_ dL_wishAt_4 ?_ (fun cls w hx => ?_) (fun r w hx => ?_)
  · exact Nat.le_of_ble_eq_true rfl
  · exact ⟨Nat.le_of_ble_eq_true rfl, Nat.le_of_ble_eq_true rfl⟩
  · obtain ⟨k, hk1, hk2, hk3⟩ := hx
    refine gWX_perm gPerm_rot2 ?_
    rcases (show k = 0 ∨ 1 ≤ k by omega) with rfl | h9
    · obtain rfl : "java/lang/IllegalArgumentException" = cls := Option.some.inj hk2
      refine g_catch E hT "java/lang/IllegalArgumentException" [] [] (0, 9, 12, 13) rfl (fun z hz => by cases hz) (by decide) (by decide) cL_wishAt_13 (by decide) (h := 12) rfl (fun qx => ?_)
      refine g_astore_n (lv' := [(3, .ref qx), (0, .ref (x.1 0)), (1, .int k), (2, .ref o)]) E dL_wishAt_12 rfl (by decide) rfl ?_
      refine g_iconst (v := 1) E dL_wishAt_13 (by decide) ?_
      exact RET _ _ _ (f, w) ⟨by rw [hk1]; rfl, fun q => absurd q (by decide), fun q => absurd (hk1.symm.trans q) (by decide), hk3⟩ rfl dL_wishAt_14
    · exfalso
      rw [List.getElem?_eq_none (by show 1 ≤ k; exact h9)] at hk2
      cases hk2
  · obtain ⟨h1, h2, h3⟩ := hx
    refine g_perm gPerm_rot2 ?_
    refine g_i2l (v := r.toInt64) E dL_wishAt_7 rfl ?_
    refine g_last (ws' := (o, .inl (gy G 3, 1, .inr (.inl (vp_updL f 0 r.toInt64)))) :: wV G x w) (j := 0) E 0 rfl (g_in (e := 0) (by decide) rfl) (nI_clamp (n := 0) (by decide)) rfl dL_wishAt_8 ?_
    refine g_goto (tgt := 15) E dL_wishAt_9 (by decide) ?_
    refine g_iconst (v := 0) E dL_wishAt_15 (by decide) ?_
    exact RET _ _ _ (vp_updL f 0 r.toInt64, w) ⟨by rw [h1]; rfl, fun _ => h1, fun _ => by rw [← h2]; rfl, h3⟩ rfl dL_wishAt_16

set_option maxHeartbeats 4000000 in
set_option maxRecDepth 100000 in
theorem wL_setting {G : gG} {x : gVa} {u : gVu} {A : gA} {b o : Nat} {f : Nat → Int64} (hST : (gl G).stackTraces = false) (hA : gAok b A) (hb : b ≤ 50000) (hC : gClsI A u) (y : Int32) : CI G yL_setting wsL_setting 7 131 [.ref (x.1 0), .int y, .ref o] ((o, .inl (gy G 3, 1, .inr (.inl f))) :: wV G x u) (fun (r : Int32) (w : (Nat → Int64) × gVu) => r = nI (fSett A y).1 ∧ (r = 0 → (fSett A y).1 = 0) ∧ ((fSett A y).1 = 0 → w.1 0 = (fSett A y).2.1.toInt64) ∧ gClsI (fSett A y).2.2 w.2) (fun w : (Nat → Int64) × gVu => (o, .inl (gy G 3, 1, .inr (.inl w.1))) :: wV G x w.2) 1 6 := by
  refine g_enterIH (ty := .int) RL rfl (by decide) rfl (Nat.le_of_ble_eq_true rfl) ?_
  intro V E hT RET
  refine g_aload_n E dL_setting_0 rfl 2 rfl ?_
  refine g_iconst (v := 0) E dL_setting_1 (by decide) ?_
  refine g_aload_n E dL_setting_2 rfl 0 rfl ?_
  refine g_iload_n E dL_setting_3 rfl 1 rfl ?_
  refine g_callVX (F := [(o, .inl (gy G 3, 1, .inr (.inl f)))]) E (lX7_setting (x := x) hST hA hb hC y) gL_setting_X7_setting rfl hdX7_setting ⟨Nat.le_of_ble_eq_true rfl, Nat.le_of_ble_eq_true rfl⟩ 7 0 rfl rfl rfl (gPerm_rot (c := (o, .inl (gy G 3, 1, .inr (.inl f)))) (W := wV G x u)) rfl rfl ?_ dL_setting_4 ?_ (fun cls w hx => ?_) (fun r w hx => ?_)
  · exact Nat.le_of_ble_eq_true rfl
  · exact ⟨Nat.le_of_ble_eq_true rfl, Nat.le_of_ble_eq_true rfl⟩
  · obtain ⟨k, hk1, hk2, hk3⟩ := hx
    refine gWX_perm gPerm_rot2 ?_
    rcases (show k = 0 ∨ 1 ≤ k by omega) with rfl | h9
    · obtain rfl : "java/lang/IllegalArgumentException" = cls := Option.some.inj hk2
      refine g_catch E hT "java/lang/IllegalArgumentException" [] [] (0, 9, 12, 13) rfl (fun z hz => by cases hz) (by decide) (by decide) cL_setting_13 (by decide) (h := 12) rfl (fun qx => ?_)
      refine g_astore_n (lv' := [(3, .ref qx), (0, .ref (x.1 0)), (1, .int y), (2, .ref o)]) E dL_setting_12 rfl (by decide) rfl ?_
      refine g_iconst (v := 1) E dL_setting_13 (by decide) ?_
      exact RET _ _ _ (f, w) ⟨by rw [hk1]; rfl, fun q => absurd q (by decide), fun q => absurd (hk1.symm.trans q) (by decide), hk3⟩ rfl dL_setting_14
    · exfalso
      rw [List.getElem?_eq_none (by show 1 ≤ k; exact h9)] at hk2
      cases hk2
  · obtain ⟨h1, h2, h3⟩ := hx
    refine g_perm gPerm_rot2 ?_
    refine g_i2l (v := r.toInt64) E dL_setting_7 rfl ?_
    refine g_last (ws' := (o, .inl (gy G 3, 1, .inr (.inl (vp_updL f 0 r.toInt64)))) :: wV G x w) (j := 0) E 0 rfl (g_in (e := 0) (by decide) rfl) (nI_clamp (n := 0) (by decide)) rfl dL_setting_8 ?_
    refine g_goto (tgt := 15) E dL_setting_9 (by decide) ?_
    refine g_iconst (v := 0) E dL_setting_15 (by decide) ?_
    exact RET _ _ _ (vp_updL f 0 r.toInt64, w) ⟨by rw [h1]; rfl, fun _ => h1, fun _ => by rw [← h2]; rfl, h3⟩ rfl dL_setting_16

set_option maxHeartbeats 4000000 in
set_option maxRecDepth 100000 in
theorem wL_addPrisoner {G : gG} {x : gVa} {u : gVu} {A : gA} {b o : Nat} {f : Nat → Int64} (hST : (gl G).stackTraces = false) (hA : gAok b A) (hb : b ≤ 50000) (hC : gClsI A u) (z : Int32) : CI G yL_addPrisoner wsL_addPrisoner 8 152 [.ref (x.1 0), .int z, .ref o] ((o, .inl (gy G 3, 1, .inr (.inl f))) :: wV G x u) (fun (r : Int32) (w : (Nat → Int64) × gVu) => r = nI (aAct 0 1 2 A (gTryAdd (aS A) z)).1 ∧ (r = 0 → (aAct 0 1 2 A (gTryAdd (aS A) z)).1 = 0) ∧ ((aAct 0 1 2 A (gTryAdd (aS A) z)).1 = 0 → w.1 0 = (aAct 0 1 2 A (gTryAdd (aS A) z)).2.1.toInt64) ∧ gClsI (aAct 0 1 2 A (gTryAdd (aS A) z)).2.2 w.2) (fun w : (Nat → Int64) × gVu => (o, .inl (gy G 3, 1, .inr (.inl w.1))) :: wV G x w.2) 1 6 := by
  refine g_enterIH (ty := .int) RL rfl (by decide) rfl (Nat.le_of_ble_eq_true rfl) ?_
  intro V E hT RET
  refine g_aload_n E dL_addPrisoner_0 rfl 2 rfl ?_
  refine g_iconst (v := 0) E dL_addPrisoner_1 (by decide) ?_
  refine g_aload_n E dL_addPrisoner_2 rfl 0 rfl ?_
  refine g_iload_n E dL_addPrisoner_3 rfl 1 rfl ?_
  refine g_callVX (F := [(o, .inl (gy G 3, 1, .inr (.inl f)))]) E (lX7_addPrisoner (x := x) hST hA hb hC z) gL_addPrisoner_X7_addPrisoner rfl hdX7_addPrisoner ⟨Nat.le_of_ble_eq_true rfl, Nat.le_of_ble_eq_true rfl⟩ 7 0 rfl rfl rfl (gPerm_rot (c := (o, .inl (gy G 3, 1, .inr (.inl f)))) (W := wV G x u)) rfl rfl ?_ dL_addPrisoner_4 ?_ (fun cls w hx => ?_) (fun r w hx => ?_)
  · exact Nat.le_of_ble_eq_true rfl
  · exact ⟨Nat.le_of_ble_eq_true rfl, Nat.le_of_ble_eq_true rfl⟩
  · obtain ⟨k, hk1, hk2, hk3⟩ := hx
    refine gWX_perm gPerm_rot2 ?_
    rcases (show k = 0 ∨ k = 1 ∨ 2 ≤ k by omega) with rfl | rfl | h9
    · obtain rfl : "java/lang/IllegalArgumentException" = cls := Option.some.inj hk2
      refine g_catch E hT "java/lang/IllegalArgumentException" [] [(0, 9, 15, 15)] (0, 9, 12, 13) rfl (fun z hz => by cases hz) (by decide) (by decide) cL_addPrisoner_13 (by decide) (h := 12) rfl (fun qx => ?_)
      refine g_astore_n (lv' := [(3, .ref qx), (0, .ref (x.1 0)), (1, .int z), (2, .ref o)]) E dL_addPrisoner_12 rfl (by decide) rfl ?_
      refine g_iconst (v := 1) E dL_addPrisoner_13 (by decide) ?_
      exact RET _ _ _ (f, w) ⟨by rw [hk1]; rfl, fun q => absurd q (by decide), fun q => absurd (hk1.symm.trans q) (by decide), hk3⟩ rfl dL_addPrisoner_14
    · obtain rfl : "java/lang/IllegalStateException" = cls := Option.some.inj hk2
      refine g_catch E hT "java/lang/IllegalStateException" [(0, 9, 12, 13)] [] (0, 9, 15, 15) rfl (List.forall_mem_cons.mpr ⟨⟨"java/lang/IllegalArgumentException", cL_addPrisoner_13, by decide, by decide⟩, fun z hz => by cases hz⟩) (by decide) (by decide) cL_addPrisoner_15 (by decide) (h := 15) rfl (fun qx => ?_)
      refine g_astore_n (lv' := [(3, .ref qx), (0, .ref (x.1 0)), (1, .int z), (2, .ref o)]) E dL_addPrisoner_15 rfl (by decide) rfl ?_
      refine g_iconst (v := 2) E dL_addPrisoner_16 (by decide) ?_
      exact RET _ _ _ (f, w) ⟨by rw [hk1]; rfl, fun q => absurd q (by decide), fun q => absurd (hk1.symm.trans q) (by decide), hk3⟩ rfl dL_addPrisoner_17
    · exfalso
      rw [List.getElem?_eq_none (by show 2 ≤ k; exact h9)] at hk2
      cases hk2
  · obtain ⟨h1, h2, h3⟩ := hx
    refine g_perm gPerm_rot2 ?_
    refine g_i2l (v := r.toInt64) E dL_addPrisoner_7 rfl ?_
    refine g_last (ws' := (o, .inl (gy G 3, 1, .inr (.inl (vp_updL f 0 r.toInt64)))) :: wV G x w) (j := 0) E 0 rfl (g_in (e := 0) (by decide) rfl) (nI_clamp (n := 0) (by decide)) rfl dL_addPrisoner_8 ?_
    refine g_goto (tgt := 18) E dL_addPrisoner_9 (by decide) ?_
    refine g_iconst (v := 0) E dL_addPrisoner_18 (by decide) ?_
    exact RET _ _ _ (vp_updL f 0 r.toInt64, w) ⟨by rw [h1]; rfl, fun _ => h1, fun _ => by rw [← h2]; rfl, h3⟩ rfl dL_addPrisoner_19

set_option maxHeartbeats 4000000 in
set_option maxRecDepth 100000 in
theorem wL_promote {G : gG} {x : gVa} {u : gVu} {A : gA} {b o : Nat} {f : Nat → Int64} (hST : (gl G).stackTraces = false) (hA : gAok b A) (hb : b ≤ 50000) (hC : gClsI A u) (p z : Int32) : CI G yL_promote wsL_promote 8 153 [.ref (x.1 0), .int p, .int z, .ref o] ((o, .inl (gy G 3, 1, .inr (.inl f))) :: wV G x u) (fun (r : Int32) (w : (Nat → Int64) × gVu) => r = nI (aAct 1 2 0 A (gTryPromote (aS A) p z)).1 ∧ (r = 0 → (aAct 1 2 0 A (gTryPromote (aS A) p z)).1 = 0) ∧ ((aAct 1 2 0 A (gTryPromote (aS A) p z)).1 = 0 → w.1 0 = (aAct 1 2 0 A (gTryPromote (aS A) p z)).2.1.toInt64) ∧ gClsI (aAct 1 2 0 A (gTryPromote (aS A) p z)).2.2 w.2) (fun w : (Nat → Int64) × gVu => (o, .inl (gy G 3, 1, .inr (.inl w.1))) :: wV G x w.2) 1 6 := by
  refine g_enterIH (ty := .int) RL rfl (by decide) rfl (Nat.le_of_ble_eq_true rfl) ?_
  intro V E hT RET
  refine g_aload_n E dL_promote_0 rfl 3 rfl ?_
  refine g_iconst (v := 0) E dL_promote_1 (by decide) ?_
  refine g_aload_n E dL_promote_2 rfl 0 rfl ?_
  refine g_iload_n E dL_promote_3 rfl 1 rfl ?_
  refine g_iload_n E dL_promote_4 rfl 2 rfl ?_
  refine g_callVX (F := [(o, .inl (gy G 3, 1, .inr (.inl f)))]) E (lX7_promote (x := x) hST hA hb hC p z) gL_promote_X7_promote rfl hdX7_promote ⟨Nat.le_of_ble_eq_true rfl, Nat.le_of_ble_eq_true rfl⟩ 7 0 rfl rfl rfl (gPerm_rot (c := (o, .inl (gy G 3, 1, .inr (.inl f)))) (W := wV G x u)) rfl rfl ?_ dL_promote_5 ?_ (fun cls w hx => ?_) (fun r w hx => ?_)
  · exact Nat.le_of_ble_eq_true rfl
  · exact ⟨Nat.le_of_ble_eq_true rfl, Nat.le_of_ble_eq_true rfl⟩
  · obtain ⟨k, hk1, hk2, hk3⟩ := hx
    refine gWX_perm gPerm_rot2 ?_
    rcases (show k = 0 ∨ k = 1 ∨ 2 ≤ k by omega) with rfl | rfl | h9
    · obtain rfl : "java/lang/IndexOutOfBoundsException" = cls := Option.some.inj hk2
      refine g_catch E hT "java/lang/IndexOutOfBoundsException" [] [(0, 10, 17, 13)] (0, 10, 13, 28) rfl (fun z hz => by cases hz) (by decide) (by decide) cL_promote_28 (by decide) (h := 13) rfl (fun qx => ?_)
      refine g_astore (lv' := [(4, .ref qx), (0, .ref (x.1 0)), (1, .int p), (2, .int z), (3, .ref o)]) E dL_promote_13 (by decide) rfl ?_
      refine g_iconst (v := 1) E dL_promote_15 (by decide) ?_
      exact RET _ _ _ (f, w) ⟨by rw [hk1]; rfl, fun q => absurd q (by decide), fun q => absurd (hk1.symm.trans q) (by decide), hk3⟩ rfl dL_promote_16
    · obtain rfl : "java/lang/IllegalArgumentException" = cls := Option.some.inj hk2
      refine g_catch E hT "java/lang/IllegalArgumentException" [(0, 10, 13, 28)] [] (0, 10, 17, 13) rfl (List.forall_mem_cons.mpr ⟨⟨"java/lang/IndexOutOfBoundsException", cL_promote_28, by decide, by decide⟩, fun z hz => by cases hz⟩) (by decide) (by decide) cL_promote_13 (by decide) (h := 17) rfl (fun qx => ?_)
      refine g_astore (lv' := [(4, .ref qx), (0, .ref (x.1 0)), (1, .int p), (2, .int z), (3, .ref o)]) E dL_promote_17 (by decide) rfl ?_
      refine g_iconst (v := 2) E dL_promote_19 (by decide) ?_
      exact RET _ _ _ (f, w) ⟨by rw [hk1]; rfl, fun q => absurd q (by decide), fun q => absurd (hk1.symm.trans q) (by decide), hk3⟩ rfl dL_promote_20
    · exfalso
      rw [List.getElem?_eq_none (by show 2 ≤ k; exact h9)] at hk2
      cases hk2
  · obtain ⟨h1, h2, h3⟩ := hx
    refine g_perm gPerm_rot2 ?_
    refine g_i2l (v := r.toInt64) E dL_promote_8 rfl ?_
    refine g_last (ws' := (o, .inl (gy G 3, 1, .inr (.inl (vp_updL f 0 r.toInt64)))) :: wV G x w) (j := 0) E 0 rfl (g_in (e := 0) (by decide) rfl) (nI_clamp (n := 0) (by decide)) rfl dL_promote_9 ?_
    refine g_goto (tgt := 21) E dL_promote_10 (by decide) ?_
    refine g_iconst (v := 0) E dL_promote_21 (by decide) ?_
    exact RET _ _ _ (vp_updL f 0 r.toInt64, w) ⟨by rw [h1]; rfl, fun _ => h1, fun _ => by rw [← h2]; rfl, h3⟩ rfl dL_promote_22

set_option maxHeartbeats 4000000 in
set_option maxRecDepth 100000 in
theorem wL_list {G : gG} {x : gVa} {u : gVu} {A : gA} {b o : Nat} {f : Nat → Int64} (hST : (gl G).stackTraces = false) (hA : gAok b A) (hb : b ≤ 50000) (hC : gClsI A u) (p q z : Int32) : CI G yL_list wsL_list 8 154 [.ref (x.1 0), .int p, .int q, .int z, .ref o] ((o, .inl (gy G 3, 1, .inr (.inl f))) :: wV G x u) (fun (r : Int32) (w : (Nat → Int64) × gVu) => r = nI (aAct 1 0 0 A (gTryList (aS A) p q z)).1 ∧ (r = 0 → (aAct 1 0 0 A (gTryList (aS A) p q z)).1 = 0) ∧ ((aAct 1 0 0 A (gTryList (aS A) p q z)).1 = 0 → w.1 0 = (aAct 1 0 0 A (gTryList (aS A) p q z)).2.1.toInt64) ∧ gClsI (aAct 1 0 0 A (gTryList (aS A) p q z)).2.2 w.2) (fun w : (Nat → Int64) × gVu => (o, .inl (gy G 3, 1, .inr (.inl w.1))) :: wV G x w.2) 1 6 := by
  refine g_enterIH (ty := .int) RL rfl (by decide) rfl (Nat.le_of_ble_eq_true rfl) ?_
  intro V E hT RET
  refine g_aload E dL_list_0 4 rfl ?_
  refine g_iconst (v := 0) E dL_list_2 (by decide) ?_
  refine g_aload_n E dL_list_3 rfl 0 rfl ?_
  refine g_iload_n E dL_list_4 rfl 1 rfl ?_
  refine g_iload_n E dL_list_5 rfl 2 rfl ?_
  refine g_iload_n E dL_list_6 rfl 3 rfl ?_
  refine g_callVX (F := [(o, .inl (gy G 3, 1, .inr (.inl f)))]) E (lX7_list (x := x) hST hA hb hC p q z) gL_list_X7_list rfl hdX7_list ⟨Nat.le_of_ble_eq_true rfl, Nat.le_of_ble_eq_true rfl⟩ 7 0 rfl rfl rfl (gPerm_rot (c := (o, .inl (gy G 3, 1, .inr (.inl f)))) (W := wV G x u)) rfl rfl ?_ dL_list_7 ?_ (fun cls w hx => ?_) (fun r w hx => ?_)
  · exact Nat.le_of_ble_eq_true rfl
  · exact ⟨Nat.le_of_ble_eq_true rfl, Nat.le_of_ble_eq_true rfl⟩
  · obtain ⟨k, hk1, hk2, hk3⟩ := hx
    refine gWX_perm gPerm_rot2 ?_
    rcases (show k = 0 ∨ 1 ≤ k by omega) with rfl | h9
    · obtain rfl : "java/lang/IndexOutOfBoundsException" = cls := Option.some.inj hk2
      refine g_catch E hT "java/lang/IndexOutOfBoundsException" [] [] (0, 12, 15, 28) rfl (fun z hz => by cases hz) (by decide) (by decide) cL_list_28 (by decide) (h := 15) rfl (fun qx => ?_)
      refine g_astore (lv' := [(5, .ref qx), (0, .ref (x.1 0)), (1, .int p), (2, .int q), (3, .int z), (4, .ref o)]) E dL_list_15 (by decide) rfl ?_
      refine g_iconst (v := 1) E dL_list_17 (by decide) ?_
      exact RET _ _ _ (f, w) ⟨by rw [hk1]; rfl, fun q => absurd q (by decide), fun q => absurd (hk1.symm.trans q) (by decide), hk3⟩ rfl dL_list_18
    · exfalso
      rw [List.getElem?_eq_none (by show 1 ≤ k; exact h9)] at hk2
      cases hk2
  · obtain ⟨h1, h2, h3⟩ := hx
    refine g_perm gPerm_rot2 ?_
    refine g_i2l (v := r.toInt64) E dL_list_10 rfl ?_
    refine g_last (ws' := (o, .inl (gy G 3, 1, .inr (.inl (vp_updL f 0 r.toInt64)))) :: wV G x w) (j := 0) E 0 rfl (g_in (e := 0) (by decide) rfl) (nI_clamp (n := 0) (by decide)) rfl dL_list_11 ?_
    refine g_goto (tgt := 19) E dL_list_12 (by decide) ?_
    refine g_iconst (v := 0) E dL_list_19 (by decide) ?_
    exact RET _ _ _ (vp_updL f 0 r.toInt64, w) ⟨by rw [h1]; rfl, fun _ => h1, fun _ => by rw [← h2]; rfl, h3⟩ rfl dL_list_20

set_option maxHeartbeats 4000000 in
set_option maxRecDepth 100000 in
theorem wL_keepApart {G : gG} {x : gVa} {u : gVu} {A : gA} {b o : Nat} {f : Nat → Int64} (hST : (gl G).stackTraces = false) (hA : gAok b A) (hb : b ≤ 50000) (hC : gClsI A u) (p q z : Int32) : CI G yL_keepApart wsL_keepApart 8 154 [.ref (x.1 0), .int p, .int q, .int z, .ref o] ((o, .inl (gy G 3, 1, .inr (.inl f))) :: wV G x u) (fun (r : Int32) (w : (Nat → Int64) × gVu) => r = nI (aAct 1 0 2 A (gTryApart (aS A) p q z)).1 ∧ (r = 0 → (aAct 1 0 2 A (gTryApart (aS A) p q z)).1 = 0) ∧ ((aAct 1 0 2 A (gTryApart (aS A) p q z)).1 = 0 → w.1 0 = (aAct 1 0 2 A (gTryApart (aS A) p q z)).2.1.toInt64) ∧ gClsI (aAct 1 0 2 A (gTryApart (aS A) p q z)).2.2 w.2) (fun w : (Nat → Int64) × gVu => (o, .inl (gy G 3, 1, .inr (.inl w.1))) :: wV G x w.2) 1 6 := by
  refine g_enterIH (ty := .int) RL rfl (by decide) rfl (Nat.le_of_ble_eq_true rfl) ?_
  intro V E hT RET
  refine g_aload E dL_keepApart_0 4 rfl ?_
  refine g_iconst (v := 0) E dL_keepApart_2 (by decide) ?_
  refine g_aload_n E dL_keepApart_3 rfl 0 rfl ?_
  refine g_iload_n E dL_keepApart_4 rfl 1 rfl ?_
  refine g_iload_n E dL_keepApart_5 rfl 2 rfl ?_
  refine g_iload_n E dL_keepApart_6 rfl 3 rfl ?_
  refine g_callVX (F := [(o, .inl (gy G 3, 1, .inr (.inl f)))]) E (lX7_keepApart (x := x) hST hA hb hC p q z) gL_keepApart_X7_keepApart rfl hdX7_keepApart ⟨Nat.le_of_ble_eq_true rfl, Nat.le_of_ble_eq_true rfl⟩ 7 0 rfl rfl rfl (gPerm_rot (c := (o, .inl (gy G 3, 1, .inr (.inl f)))) (W := wV G x u)) rfl rfl ?_ dL_keepApart_7 ?_ (fun cls w hx => ?_) (fun r w hx => ?_)
  · exact Nat.le_of_ble_eq_true rfl
  · exact ⟨Nat.le_of_ble_eq_true rfl, Nat.le_of_ble_eq_true rfl⟩
  · obtain ⟨k, hk1, hk2, hk3⟩ := hx
    refine gWX_perm gPerm_rot2 ?_
    rcases (show k = 0 ∨ k = 1 ∨ 2 ≤ k by omega) with rfl | rfl | h9
    · obtain rfl : "java/lang/IndexOutOfBoundsException" = cls := Option.some.inj hk2
      refine g_catch E hT "java/lang/IndexOutOfBoundsException" [] [(0, 12, 19, 15)] (0, 12, 15, 28) rfl (fun z hz => by cases hz) (by decide) (by decide) cL_keepApart_28 (by decide) (h := 15) rfl (fun qx => ?_)
      refine g_astore (lv' := [(5, .ref qx), (0, .ref (x.1 0)), (1, .int p), (2, .int q), (3, .int z), (4, .ref o)]) E dL_keepApart_15 (by decide) rfl ?_
      refine g_iconst (v := 1) E dL_keepApart_17 (by decide) ?_
      exact RET _ _ _ (f, w) ⟨by rw [hk1]; rfl, fun q => absurd q (by decide), fun q => absurd (hk1.symm.trans q) (by decide), hk3⟩ rfl dL_keepApart_18
    · obtain rfl : "java/lang/IllegalStateException" = cls := Option.some.inj hk2
      refine g_catch E hT "java/lang/IllegalStateException" [(0, 12, 15, 28)] [] (0, 12, 19, 15) rfl (List.forall_mem_cons.mpr ⟨⟨"java/lang/IndexOutOfBoundsException", cL_keepApart_28, by decide, by decide⟩, fun z hz => by cases hz⟩) (by decide) (by decide) cL_keepApart_15 (by decide) (h := 19) rfl (fun qx => ?_)
      refine g_astore (lv' := [(5, .ref qx), (0, .ref (x.1 0)), (1, .int p), (2, .int q), (3, .int z), (4, .ref o)]) E dL_keepApart_19 (by decide) rfl ?_
      refine g_iconst (v := 2) E dL_keepApart_21 (by decide) ?_
      exact RET _ _ _ (f, w) ⟨by rw [hk1]; rfl, fun q => absurd q (by decide), fun q => absurd (hk1.symm.trans q) (by decide), hk3⟩ rfl dL_keepApart_22
    · exfalso
      rw [List.getElem?_eq_none (by show 2 ≤ k; exact h9)] at hk2
      cases hk2
  · obtain ⟨h1, h2, h3⟩ := hx
    refine g_perm gPerm_rot2 ?_
    refine g_i2l (v := r.toInt64) E dL_keepApart_10 rfl ?_
    refine g_last (ws' := (o, .inl (gy G 3, 1, .inr (.inl (vp_updL f 0 r.toInt64)))) :: wV G x w) (j := 0) E 0 rfl (g_in (e := 0) (by decide) rfl) (nI_clamp (n := 0) (by decide)) rfl dL_keepApart_11 ?_
    refine g_goto (tgt := 23) E dL_keepApart_12 (by decide) ?_
    refine g_iconst (v := 0) E dL_keepApart_23 (by decide) ?_
    exact RET _ _ _ (vp_updL f 0 r.toInt64, w) ⟨by rw [h1]; rfl, fun _ => h1, fun _ => by rw [← h2]; rfl, h3⟩ rfl dL_keepApart_24

set_option maxHeartbeats 4000000 in
set_option maxRecDepth 100000 in
theorem wL_book {G : gG} {x : gVa} {u : gVu} {A : gA} {b o : Nat} {f : Nat → Int64} (hST : (gl G).stackTraces = false) (hA : gAok b A) (hb : b ≤ 50000) (hC : gClsI A u) (p q d h : Int32) : CI G yL_book wsL_book 8 160 [.ref (x.1 0), .int p, .int q, .int d, .int h, .ref o] ((o, .inl (gy G 3, 1, .inr (.inl f))) :: wV G x u) (fun (r : Int32) (w : (Nat → Int64) × gVu) => r = nI (aAct 1 2 3 A (gTryBook (aS A) p q d h)).1 ∧ (r = 0 → (aAct 1 2 3 A (gTryBook (aS A) p q d h)).1 = 0) ∧ ((aAct 1 2 3 A (gTryBook (aS A) p q d h)).1 = 0 → w.1 0 = (aAct 1 2 3 A (gTryBook (aS A) p q d h)).2.1.toInt64) ∧ gClsI (aAct 1 2 3 A (gTryBook (aS A) p q d h)).2.2 w.2) (fun w : (Nat → Int64) × gVu => (o, .inl (gy G 3, 1, .inr (.inl w.1))) :: wV G x w.2) 1 6 := by
  refine g_enterIH (ty := .int) RL rfl (by decide) rfl (Nat.le_of_ble_eq_true rfl) ?_
  intro V E hT RET
  refine g_aload E dL_book_0 5 rfl ?_
  refine g_iconst (v := 0) E dL_book_2 (by decide) ?_
  refine g_aload_n E dL_book_3 rfl 0 rfl ?_
  refine g_iload_n E dL_book_4 rfl 1 rfl ?_
  refine g_iload_n E dL_book_5 rfl 2 rfl ?_
  refine g_iload_n E dL_book_6 rfl 3 rfl ?_
  refine g_iload E dL_book_7 4 rfl ?_
  refine g_callVX (F := [(o, .inl (gy G 3, 1, .inr (.inl f)))]) E (lX7_book (x := x) hST hA hb hC p q d h) gL_book_X7_book rfl hdX7_book ⟨Nat.le_of_ble_eq_true rfl, Nat.le_of_ble_eq_true rfl⟩ 7 0 rfl rfl rfl (gPerm_rot (c := (o, .inl (gy G 3, 1, .inr (.inl f)))) (W := wV G x u)) rfl rfl ?_ dL_book_9 ?_ (fun cls w hx => ?_) (fun r w hx => ?_)
  · exact Nat.le_of_ble_eq_true rfl
  · exact ⟨Nat.le_of_ble_eq_true rfl, Nat.le_of_ble_eq_true rfl⟩
  · obtain ⟨k, hk1, hk2, hk3⟩ := hx
    refine gWX_perm gPerm_rot2 ?_
    rcases (show k = 0 ∨ k = 1 ∨ k = 2 ∨ 3 ≤ k by omega) with rfl | rfl | rfl | h9
    · obtain rfl : "java/lang/IndexOutOfBoundsException" = cls := Option.some.inj hk2
      refine g_catch E hT "java/lang/IndexOutOfBoundsException" [] [(0, 14, 21, 13), (0, 14, 25, 15)] (0, 14, 17, 28) rfl (fun z hz => by cases hz) (by decide) (by decide) cL_book_28 (by decide) (h := 17) rfl (fun qx => ?_)
      refine g_astore (lv' := [(6, .ref qx), (0, .ref (x.1 0)), (1, .int p), (2, .int q), (3, .int d), (4, .int h), (5, .ref o)]) E dL_book_17 (by decide) rfl ?_
      refine g_iconst (v := 1) E dL_book_19 (by decide) ?_
      exact RET _ _ _ (f, w) ⟨by rw [hk1]; rfl, fun q => absurd q (by decide), fun q => absurd (hk1.symm.trans q) (by decide), hk3⟩ rfl dL_book_20
    · obtain rfl : "java/lang/IllegalArgumentException" = cls := Option.some.inj hk2
      refine g_catch E hT "java/lang/IllegalArgumentException" [(0, 14, 17, 28)] [(0, 14, 25, 15)] (0, 14, 21, 13) rfl (List.forall_mem_cons.mpr ⟨⟨"java/lang/IndexOutOfBoundsException", cL_book_28, by decide, by decide⟩, fun z hz => by cases hz⟩) (by decide) (by decide) cL_book_13 (by decide) (h := 21) rfl (fun qx => ?_)
      refine g_astore (lv' := [(6, .ref qx), (0, .ref (x.1 0)), (1, .int p), (2, .int q), (3, .int d), (4, .int h), (5, .ref o)]) E dL_book_21 (by decide) rfl ?_
      refine g_iconst (v := 2) E dL_book_23 (by decide) ?_
      exact RET _ _ _ (f, w) ⟨by rw [hk1]; rfl, fun q => absurd q (by decide), fun q => absurd (hk1.symm.trans q) (by decide), hk3⟩ rfl dL_book_24
    · obtain rfl : "java/lang/IllegalStateException" = cls := Option.some.inj hk2
      refine g_catch E hT "java/lang/IllegalStateException" [(0, 14, 17, 28), (0, 14, 21, 13)] [] (0, 14, 25, 15) rfl (List.forall_mem_cons.mpr ⟨⟨"java/lang/IndexOutOfBoundsException", cL_book_28, by decide, by decide⟩, List.forall_mem_cons.mpr ⟨⟨"java/lang/IllegalArgumentException", cL_book_13, by decide, by decide⟩, fun z hz => by cases hz⟩⟩) (by decide) (by decide) cL_book_15 (by decide) (h := 25) rfl (fun qx => ?_)
      refine g_astore (lv' := [(6, .ref qx), (0, .ref (x.1 0)), (1, .int p), (2, .int q), (3, .int d), (4, .int h), (5, .ref o)]) E dL_book_25 (by decide) rfl ?_
      refine g_iconst (v := 3) E dL_book_27 (by decide) ?_
      exact RET _ _ _ (f, w) ⟨by rw [hk1]; rfl, fun q => absurd q (by decide), fun q => absurd (hk1.symm.trans q) (by decide), hk3⟩ rfl dL_book_28
    · exfalso
      rw [List.getElem?_eq_none (by show 3 ≤ k; exact h9)] at hk2
      cases hk2
  · obtain ⟨h1, h2, h3⟩ := hx
    refine g_perm gPerm_rot2 ?_
    refine g_i2l (v := r.toInt64) E dL_book_12 rfl ?_
    refine g_last (ws' := (o, .inl (gy G 3, 1, .inr (.inl (vp_updL f 0 r.toInt64)))) :: wV G x w) (j := 0) E 0 rfl (g_in (e := 0) (by decide) rfl) (nI_clamp (n := 0) (by decide)) rfl dL_book_13 ?_
    refine g_goto (tgt := 29) E dL_book_14 (by decide) ?_
    refine g_iconst (v := 0) E dL_book_29 (by decide) ?_
    exact RET _ _ _ (vp_updL f 0 r.toInt64, w) ⟨by rw [h1]; rfl, fun _ => h1, fun _ => by rw [← h2]; rfl, h3⟩ rfl dL_book_30

set_option maxHeartbeats 4000000 in
set_option maxRecDepth 100000 in
theorem wL_cancel {G : gG} {x : gVa} {u : gVu} {A : gA} {b o : Nat} {f : Nat → Int64} (hST : (gl G).stackTraces = false) (hA : gAok b A) (hb : b ≤ 50000) (hC : gClsI A u) (k : Int32) : CI G yL_cancel wsL_cancel 8 152 [.ref (x.1 0), .int k, .ref o] ((o, .inl (gy G 3, 1, .inr (.inl f))) :: wV G x u) (fun (r : Int32) (w : (Nat → Int64) × gVu) => r = nI (aAct 1 0 0 A (gTryCancel (aS A) k)).1 ∧ (r = 0 → (aAct 1 0 0 A (gTryCancel (aS A) k)).1 = 0) ∧ ((aAct 1 0 0 A (gTryCancel (aS A) k)).1 = 0 → w.1 0 = (aAct 1 0 0 A (gTryCancel (aS A) k)).2.1.toInt64) ∧ gClsI (aAct 1 0 0 A (gTryCancel (aS A) k)).2.2 w.2) (fun w : (Nat → Int64) × gVu => (o, .inl (gy G 3, 1, .inr (.inl w.1))) :: wV G x w.2) 1 6 := by
  refine g_enterIH (ty := .int) RL rfl (by decide) rfl (Nat.le_of_ble_eq_true rfl) ?_
  intro V E hT RET
  refine g_aload_n E dL_cancel_0 rfl 2 rfl ?_
  refine g_iconst (v := 0) E dL_cancel_1 (by decide) ?_
  refine g_aload_n E dL_cancel_2 rfl 0 rfl ?_
  refine g_iload_n E dL_cancel_3 rfl 1 rfl ?_
  refine g_callVX (F := [(o, .inl (gy G 3, 1, .inr (.inl f)))]) E (lX7_cancel (x := x) hST hA hb hC k) gL_cancel_X7_cancel rfl hdX7_cancel ⟨Nat.le_of_ble_eq_true rfl, Nat.le_of_ble_eq_true rfl⟩ 7 0 rfl rfl rfl (gPerm_rot (c := (o, .inl (gy G 3, 1, .inr (.inl f)))) (W := wV G x u)) rfl rfl ?_ dL_cancel_4 ?_ (fun cls w hx => ?_) (fun r w hx => ?_)
  · exact Nat.le_of_ble_eq_true rfl
  · exact ⟨Nat.le_of_ble_eq_true rfl, Nat.le_of_ble_eq_true rfl⟩
  · obtain ⟨k, hk1, hk2, hk3⟩ := hx
    refine gWX_perm gPerm_rot2 ?_
    rcases (show k = 0 ∨ 1 ≤ k by omega) with rfl | h9
    · obtain rfl : "java/lang/IndexOutOfBoundsException" = cls := Option.some.inj hk2
      refine g_catch E hT "java/lang/IndexOutOfBoundsException" [] [] (0, 9, 12, 28) rfl (fun z hz => by cases hz) (by decide) (by decide) cL_cancel_28 (by decide) (h := 12) rfl (fun qx => ?_)
      refine g_astore_n (lv' := [(3, .ref qx), (0, .ref (x.1 0)), (1, .int k), (2, .ref o)]) E dL_cancel_12 rfl (by decide) rfl ?_
      refine g_iconst (v := 1) E dL_cancel_13 (by decide) ?_
      exact RET _ _ _ (f, w) ⟨by rw [hk1]; rfl, fun q => absurd q (by decide), fun q => absurd (hk1.symm.trans q) (by decide), hk3⟩ rfl dL_cancel_14
    · exfalso
      rw [List.getElem?_eq_none (by show 1 ≤ k; exact h9)] at hk2
      cases hk2
  · obtain ⟨h1, h2, h3⟩ := hx
    refine g_perm gPerm_rot2 ?_
    refine g_i2l (v := r.toInt64) E dL_cancel_7 rfl ?_
    refine g_last (ws' := (o, .inl (gy G 3, 1, .inr (.inl (vp_updL f 0 r.toInt64)))) :: wV G x w) (j := 0) E 0 rfl (g_in (e := 0) (by decide) rfl) (nI_clamp (n := 0) (by decide)) rfl dL_cancel_8 ?_
    refine g_goto (tgt := 15) E dL_cancel_9 (by decide) ?_
    refine g_iconst (v := 0) E dL_cancel_15 (by decide) ?_
    exact RET _ _ _ (vp_updL f 0 r.toInt64, w) ⟨by rw [h1]; rfl, fun _ => h1, fun _ => by rw [← h2]; rfl, h3⟩ rfl dL_cancel_16

set_option maxHeartbeats 4000000 in
set_option maxRecDepth 100000 in
theorem wL_late {G : gG} {x : gVa} {u : gVu} {A : gA} {b o : Nat} {f : Nat → Int64} (hST : (gl G).stackTraces = false) (hA : gAok b A) (hb : b ≤ 50000) (hC : gClsI A u) (k z : Int32) : CI G yL_late wsL_late 8 153 [.ref (x.1 0), .int k, .int z, .ref o] ((o, .inl (gy G 3, 1, .inr (.inl f))) :: wV G x u) (fun (r : Int32) (w : (Nat → Int64) × gVu) => r = nI (aAct 1 2 0 A (gTryLate (aS A) k z)).1 ∧ (r = 0 → (aAct 1 2 0 A (gTryLate (aS A) k z)).1 = 0) ∧ ((aAct 1 2 0 A (gTryLate (aS A) k z)).1 = 0 → w.1 0 = (aAct 1 2 0 A (gTryLate (aS A) k z)).2.1.toInt64) ∧ gClsI (aAct 1 2 0 A (gTryLate (aS A) k z)).2.2 w.2) (fun w : (Nat → Int64) × gVu => (o, .inl (gy G 3, 1, .inr (.inl w.1))) :: wV G x w.2) 1 6 := by
  refine g_enterIH (ty := .int) RL rfl (by decide) rfl (Nat.le_of_ble_eq_true rfl) ?_
  intro V E hT RET
  refine g_aload_n E dL_late_0 rfl 3 rfl ?_
  refine g_iconst (v := 0) E dL_late_1 (by decide) ?_
  refine g_aload_n E dL_late_2 rfl 0 rfl ?_
  refine g_iload_n E dL_late_3 rfl 1 rfl ?_
  refine g_iload_n E dL_late_4 rfl 2 rfl ?_
  refine g_callVX (F := [(o, .inl (gy G 3, 1, .inr (.inl f)))]) E (lX7_late (x := x) hST hA hb hC k z) gL_late_X7_late rfl hdX7_late ⟨Nat.le_of_ble_eq_true rfl, Nat.le_of_ble_eq_true rfl⟩ 7 0 rfl rfl rfl (gPerm_rot (c := (o, .inl (gy G 3, 1, .inr (.inl f)))) (W := wV G x u)) rfl rfl ?_ dL_late_5 ?_ (fun cls w hx => ?_) (fun r w hx => ?_)
  · exact Nat.le_of_ble_eq_true rfl
  · exact ⟨Nat.le_of_ble_eq_true rfl, Nat.le_of_ble_eq_true rfl⟩
  · obtain ⟨k, hk1, hk2, hk3⟩ := hx
    refine gWX_perm gPerm_rot2 ?_
    rcases (show k = 0 ∨ k = 1 ∨ 2 ≤ k by omega) with rfl | rfl | h9
    · obtain rfl : "java/lang/IndexOutOfBoundsException" = cls := Option.some.inj hk2
      refine g_catch E hT "java/lang/IndexOutOfBoundsException" [] [(0, 10, 17, 13)] (0, 10, 13, 28) rfl (fun z hz => by cases hz) (by decide) (by decide) cL_late_28 (by decide) (h := 13) rfl (fun qx => ?_)
      refine g_astore (lv' := [(4, .ref qx), (0, .ref (x.1 0)), (1, .int k), (2, .int z), (3, .ref o)]) E dL_late_13 (by decide) rfl ?_
      refine g_iconst (v := 1) E dL_late_15 (by decide) ?_
      exact RET _ _ _ (f, w) ⟨by rw [hk1]; rfl, fun q => absurd q (by decide), fun q => absurd (hk1.symm.trans q) (by decide), hk3⟩ rfl dL_late_16
    · obtain rfl : "java/lang/IllegalArgumentException" = cls := Option.some.inj hk2
      refine g_catch E hT "java/lang/IllegalArgumentException" [(0, 10, 13, 28)] [] (0, 10, 17, 13) rfl (List.forall_mem_cons.mpr ⟨⟨"java/lang/IndexOutOfBoundsException", cL_late_28, by decide, by decide⟩, fun z hz => by cases hz⟩) (by decide) (by decide) cL_late_13 (by decide) (h := 17) rfl (fun qx => ?_)
      refine g_astore (lv' := [(4, .ref qx), (0, .ref (x.1 0)), (1, .int k), (2, .int z), (3, .ref o)]) E dL_late_17 (by decide) rfl ?_
      refine g_iconst (v := 2) E dL_late_19 (by decide) ?_
      exact RET _ _ _ (f, w) ⟨by rw [hk1]; rfl, fun q => absurd q (by decide), fun q => absurd (hk1.symm.trans q) (by decide), hk3⟩ rfl dL_late_20
    · exfalso
      rw [List.getElem?_eq_none (by show 2 ≤ k; exact h9)] at hk2
      cases hk2
  · obtain ⟨h1, h2, h3⟩ := hx
    refine g_perm gPerm_rot2 ?_
    refine g_i2l (v := r.toInt64) E dL_late_8 rfl ?_
    refine g_last (ws' := (o, .inl (gy G 3, 1, .inr (.inl (vp_updL f 0 r.toInt64)))) :: wV G x w) (j := 0) E 0 rfl (g_in (e := 0) (by decide) rfl) (nI_clamp (n := 0) (by decide)) rfl dL_late_9 ?_
    refine g_goto (tgt := 21) E dL_late_10 (by decide) ?_
    refine g_iconst (v := 0) E dL_late_21 (by decide) ?_
    exact RET _ _ _ (vp_updL f 0 r.toInt64, w) ⟨by rw [h1]; rfl, fun _ => h1, fun _ => by rw [← h2]; rfl, h3⟩ rfl dL_late_22

set_option maxHeartbeats 4000000 in
set_option maxRecDepth 100000 in
theorem wL_carry {G : gG} {x : gVa} {u : gVu} {A : gA} {b o : Nat} {f : Nat → Int64} (hST : (gl G).stackTraces = false) (hA : gAok b A) (hb : b ≤ 50000) (hC : gClsI A u) (q z : Int32) : CI G yL_carry wsL_carry 8 153 [.ref (x.1 0), .int q, .int z, .ref o] ((o, .inl (gy G 3, 1, .inr (.inl f))) :: wV G x u) (fun (r : Int32) (w : (Nat → Int64) × gVu) => r = nI (aAct 1 0 0 A (gTryCarry (aS A) q z)).1 ∧ (r = 0 → (aAct 1 0 0 A (gTryCarry (aS A) q z)).1 = 0) ∧ ((aAct 1 0 0 A (gTryCarry (aS A) q z)).1 = 0 → w.1 0 = (aAct 1 0 0 A (gTryCarry (aS A) q z)).2.1.toInt64) ∧ gClsI (aAct 1 0 0 A (gTryCarry (aS A) q z)).2.2 w.2) (fun w : (Nat → Int64) × gVu => (o, .inl (gy G 3, 1, .inr (.inl w.1))) :: wV G x w.2) 1 6 := by
  refine g_enterIH (ty := .int) RL rfl (by decide) rfl (Nat.le_of_ble_eq_true rfl) ?_
  intro V E hT RET
  refine g_aload_n E dL_carry_0 rfl 3 rfl ?_
  refine g_iconst (v := 0) E dL_carry_1 (by decide) ?_
  refine g_aload_n E dL_carry_2 rfl 0 rfl ?_
  refine g_iload_n E dL_carry_3 rfl 1 rfl ?_
  refine g_iload_n E dL_carry_4 rfl 2 rfl ?_
  refine g_callVX (F := [(o, .inl (gy G 3, 1, .inr (.inl f)))]) E (lX7_carry (x := x) hST hA hb hC q z) gL_carry_X7_carry rfl hdX7_carry ⟨Nat.le_of_ble_eq_true rfl, Nat.le_of_ble_eq_true rfl⟩ 7 0 rfl rfl rfl (gPerm_rot (c := (o, .inl (gy G 3, 1, .inr (.inl f)))) (W := wV G x u)) rfl rfl ?_ dL_carry_5 ?_ (fun cls w hx => ?_) (fun r w hx => ?_)
  · exact Nat.le_of_ble_eq_true rfl
  · exact ⟨Nat.le_of_ble_eq_true rfl, Nat.le_of_ble_eq_true rfl⟩
  · obtain ⟨k, hk1, hk2, hk3⟩ := hx
    refine gWX_perm gPerm_rot2 ?_
    rcases (show k = 0 ∨ 1 ≤ k by omega) with rfl | h9
    · obtain rfl : "java/lang/IndexOutOfBoundsException" = cls := Option.some.inj hk2
      refine g_catch E hT "java/lang/IndexOutOfBoundsException" [] [] (0, 10, 13, 28) rfl (fun z hz => by cases hz) (by decide) (by decide) cL_carry_28 (by decide) (h := 13) rfl (fun qx => ?_)
      refine g_astore (lv' := [(4, .ref qx), (0, .ref (x.1 0)), (1, .int q), (2, .int z), (3, .ref o)]) E dL_carry_13 (by decide) rfl ?_
      refine g_iconst (v := 1) E dL_carry_15 (by decide) ?_
      exact RET _ _ _ (f, w) ⟨by rw [hk1]; rfl, fun q => absurd q (by decide), fun q => absurd (hk1.symm.trans q) (by decide), hk3⟩ rfl dL_carry_16
    · exfalso
      rw [List.getElem?_eq_none (by show 1 ≤ k; exact h9)] at hk2
      cases hk2
  · obtain ⟨h1, h2, h3⟩ := hx
    refine g_perm gPerm_rot2 ?_
    refine g_i2l (v := r.toInt64) E dL_carry_8 rfl ?_
    refine g_last (ws' := (o, .inl (gy G 3, 1, .inr (.inl (vp_updL f 0 r.toInt64)))) :: wV G x w) (j := 0) E 0 rfl (g_in (e := 0) (by decide) rfl) (nI_clamp (n := 0) (by decide)) rfl dL_carry_9 ?_
    refine g_goto (tgt := 17) E dL_carry_10 (by decide) ?_
    refine g_iconst (v := 0) E dL_carry_17 (by decide) ?_
    exact RET _ _ _ (vp_updL f 0 r.toInt64, w) ⟨by rw [h1]; rfl, fun _ => h1, fun _ => by rw [← h2]; rfl, h3⟩ rfl dL_carry_18

set_option maxHeartbeats 4000000 in
set_option maxRecDepth 100000 in
theorem wL_punish {G : gG} {x : gVa} {u : gVu} {A : gA} {b o : Nat} {f : Nat → Int64} (hST : (gl G).stackTraces = false) (hA : gAok b A) (hb : b ≤ 50000) (hC : gClsI A u) (p z : Int32) : CI G yL_punish wsL_punish 8 153 [.ref (x.1 0), .int p, .int z, .ref o] ((o, .inl (gy G 3, 1, .inr (.inl f))) :: wV G x u) (fun (r : Int32) (w : (Nat → Int64) × gVu) => r = nI (aAct 1 2 0 A (gTryPunish (aS A) p z)).1 ∧ (r = 0 → (aAct 1 2 0 A (gTryPunish (aS A) p z)).1 = 0) ∧ ((aAct 1 2 0 A (gTryPunish (aS A) p z)).1 = 0 → w.1 0 = (aAct 1 2 0 A (gTryPunish (aS A) p z)).2.1.toInt64) ∧ gClsI (aAct 1 2 0 A (gTryPunish (aS A) p z)).2.2 w.2) (fun w : (Nat → Int64) × gVu => (o, .inl (gy G 3, 1, .inr (.inl w.1))) :: wV G x w.2) 1 6 := by
  refine g_enterIH (ty := .int) RL rfl (by decide) rfl (Nat.le_of_ble_eq_true rfl) ?_
  intro V E hT RET
  refine g_aload_n E dL_punish_0 rfl 3 rfl ?_
  refine g_iconst (v := 0) E dL_punish_1 (by decide) ?_
  refine g_aload_n E dL_punish_2 rfl 0 rfl ?_
  refine g_iload_n E dL_punish_3 rfl 1 rfl ?_
  refine g_iload_n E dL_punish_4 rfl 2 rfl ?_
  refine g_callVX (F := [(o, .inl (gy G 3, 1, .inr (.inl f)))]) E (lX7_punish (x := x) hST hA hb hC p z) gL_punish_X7_punish rfl hdX7_punish ⟨Nat.le_of_ble_eq_true rfl, Nat.le_of_ble_eq_true rfl⟩ 7 0 rfl rfl rfl (gPerm_rot (c := (o, .inl (gy G 3, 1, .inr (.inl f)))) (W := wV G x u)) rfl rfl ?_ dL_punish_5 ?_ (fun cls w hx => ?_) (fun r w hx => ?_)
  · exact Nat.le_of_ble_eq_true rfl
  · exact ⟨Nat.le_of_ble_eq_true rfl, Nat.le_of_ble_eq_true rfl⟩
  · obtain ⟨k, hk1, hk2, hk3⟩ := hx
    refine gWX_perm gPerm_rot2 ?_
    rcases (show k = 0 ∨ k = 1 ∨ 2 ≤ k by omega) with rfl | rfl | h9
    · obtain rfl : "java/lang/IndexOutOfBoundsException" = cls := Option.some.inj hk2
      refine g_catch E hT "java/lang/IndexOutOfBoundsException" [] [(0, 10, 17, 13)] (0, 10, 13, 28) rfl (fun z hz => by cases hz) (by decide) (by decide) cL_punish_28 (by decide) (h := 13) rfl (fun qx => ?_)
      refine g_astore (lv' := [(4, .ref qx), (0, .ref (x.1 0)), (1, .int p), (2, .int z), (3, .ref o)]) E dL_punish_13 (by decide) rfl ?_
      refine g_iconst (v := 1) E dL_punish_15 (by decide) ?_
      exact RET _ _ _ (f, w) ⟨by rw [hk1]; rfl, fun q => absurd q (by decide), fun q => absurd (hk1.symm.trans q) (by decide), hk3⟩ rfl dL_punish_16
    · obtain rfl : "java/lang/IllegalArgumentException" = cls := Option.some.inj hk2
      refine g_catch E hT "java/lang/IllegalArgumentException" [(0, 10, 13, 28)] [] (0, 10, 17, 13) rfl (List.forall_mem_cons.mpr ⟨⟨"java/lang/IndexOutOfBoundsException", cL_punish_28, by decide, by decide⟩, fun z hz => by cases hz⟩) (by decide) (by decide) cL_punish_13 (by decide) (h := 17) rfl (fun qx => ?_)
      refine g_astore (lv' := [(4, .ref qx), (0, .ref (x.1 0)), (1, .int p), (2, .int z), (3, .ref o)]) E dL_punish_17 (by decide) rfl ?_
      refine g_iconst (v := 2) E dL_punish_19 (by decide) ?_
      exact RET _ _ _ (f, w) ⟨by rw [hk1]; rfl, fun q => absurd q (by decide), fun q => absurd (hk1.symm.trans q) (by decide), hk3⟩ rfl dL_punish_20
    · exfalso
      rw [List.getElem?_eq_none (by show 2 ≤ k; exact h9)] at hk2
      cases hk2
  · obtain ⟨h1, h2, h3⟩ := hx
    refine g_perm gPerm_rot2 ?_
    refine g_i2l (v := r.toInt64) E dL_punish_8 rfl ?_
    refine g_last (ws' := (o, .inl (gy G 3, 1, .inr (.inl (vp_updL f 0 r.toInt64)))) :: wV G x w) (j := 0) E 0 rfl (g_in (e := 0) (by decide) rfl) (nI_clamp (n := 0) (by decide)) rfl dL_punish_9 ?_
    refine g_goto (tgt := 21) E dL_punish_10 (by decide) ?_
    refine g_iconst (v := 0) E dL_punish_21 (by decide) ?_
    exact RET _ _ _ (vp_updL f 0 r.toInt64, w) ⟨by rw [h1]; rfl, fun _ => h1, fun _ => by rw [← h2]; rfl, h3⟩ rfl dL_punish_22

set_option maxHeartbeats 4000000 in
set_option maxRecDepth 100000 in
theorem wL_wish {G : gG} {x : gVa} {u : gVu} {A : gA} {b o : Nat} {f : Nat → Int64} (hST : (gl G).stackTraces = false) (hA : gAok b A) (hb : b ≤ 50000) (hC : gClsI A u) (p q : Int32) : CI G yL_wish wsL_wish 8 153 [.ref (x.1 0), .int p, .int q, .ref o] ((o, .inl (gy G 3, 1, .inr (.inl f))) :: wV G x u) (fun (r : Int32) (w : (Nat → Int64) × gVu) => r = nI (aAct 1 0 2 A (gTryWish (aS A) p q)).1 ∧ (r = 0 → (aAct 1 0 2 A (gTryWish (aS A) p q)).1 = 0) ∧ ((aAct 1 0 2 A (gTryWish (aS A) p q)).1 = 0 → w.1 0 = (aAct 1 0 2 A (gTryWish (aS A) p q)).2.1.toInt64) ∧ gClsI (aAct 1 0 2 A (gTryWish (aS A) p q)).2.2 w.2) (fun w : (Nat → Int64) × gVu => (o, .inl (gy G 3, 1, .inr (.inl w.1))) :: wV G x w.2) 1 6 := by
  refine g_enterIH (ty := .int) RL rfl (by decide) rfl (Nat.le_of_ble_eq_true rfl) ?_
  intro V E hT RET
  refine g_aload_n E dL_wish_0 rfl 3 rfl ?_
  refine g_iconst (v := 0) E dL_wish_1 (by decide) ?_
  refine g_aload_n E dL_wish_2 rfl 0 rfl ?_
  refine g_iload_n E dL_wish_3 rfl 1 rfl ?_
  refine g_iload_n E dL_wish_4 rfl 2 rfl ?_
  refine g_callVX (F := [(o, .inl (gy G 3, 1, .inr (.inl f)))]) E (lX7_wish (x := x) hST hA hb hC p q) gL_wish_X7_wish rfl hdX7_wish ⟨Nat.le_of_ble_eq_true rfl, Nat.le_of_ble_eq_true rfl⟩ 7 0 rfl rfl rfl (gPerm_rot (c := (o, .inl (gy G 3, 1, .inr (.inl f)))) (W := wV G x u)) rfl rfl ?_ dL_wish_5 ?_ (fun cls w hx => ?_) (fun r w hx => ?_)
  · exact Nat.le_of_ble_eq_true rfl
  · exact ⟨Nat.le_of_ble_eq_true rfl, Nat.le_of_ble_eq_true rfl⟩
  · obtain ⟨k, hk1, hk2, hk3⟩ := hx
    refine gWX_perm gPerm_rot2 ?_
    rcases (show k = 0 ∨ k = 1 ∨ 2 ≤ k by omega) with rfl | rfl | h9
    · obtain rfl : "java/lang/IndexOutOfBoundsException" = cls := Option.some.inj hk2
      refine g_catch E hT "java/lang/IndexOutOfBoundsException" [] [(0, 10, 17, 15)] (0, 10, 13, 28) rfl (fun z hz => by cases hz) (by decide) (by decide) cL_wish_28 (by decide) (h := 13) rfl (fun qx => ?_)
      refine g_astore (lv' := [(4, .ref qx), (0, .ref (x.1 0)), (1, .int p), (2, .int q), (3, .ref o)]) E dL_wish_13 (by decide) rfl ?_
      refine g_iconst (v := 1) E dL_wish_15 (by decide) ?_
      exact RET _ _ _ (f, w) ⟨by rw [hk1]; rfl, fun q => absurd q (by decide), fun q => absurd (hk1.symm.trans q) (by decide), hk3⟩ rfl dL_wish_16
    · obtain rfl : "java/lang/IllegalStateException" = cls := Option.some.inj hk2
      refine g_catch E hT "java/lang/IllegalStateException" [(0, 10, 13, 28)] [] (0, 10, 17, 15) rfl (List.forall_mem_cons.mpr ⟨⟨"java/lang/IndexOutOfBoundsException", cL_wish_28, by decide, by decide⟩, fun z hz => by cases hz⟩) (by decide) (by decide) cL_wish_15 (by decide) (h := 17) rfl (fun qx => ?_)
      refine g_astore (lv' := [(4, .ref qx), (0, .ref (x.1 0)), (1, .int p), (2, .int q), (3, .ref o)]) E dL_wish_17 (by decide) rfl ?_
      refine g_iconst (v := 2) E dL_wish_19 (by decide) ?_
      exact RET _ _ _ (f, w) ⟨by rw [hk1]; rfl, fun q => absurd q (by decide), fun q => absurd (hk1.symm.trans q) (by decide), hk3⟩ rfl dL_wish_20
    · exfalso
      rw [List.getElem?_eq_none (by show 2 ≤ k; exact h9)] at hk2
      cases hk2
  · obtain ⟨h1, h2, h3⟩ := hx
    refine g_perm gPerm_rot2 ?_
    refine g_i2l (v := r.toInt64) E dL_wish_8 rfl ?_
    refine g_last (ws' := (o, .inl (gy G 3, 1, .inr (.inl (vp_updL f 0 r.toInt64)))) :: wV G x w) (j := 0) E 0 rfl (g_in (e := 0) (by decide) rfl) (nI_clamp (n := 0) (by decide)) rfl dL_wish_9 ?_
    refine g_goto (tgt := 21) E dL_wish_10 (by decide) ?_
    refine g_iconst (v := 0) E dL_wish_21 (by decide) ?_
    exact RET _ _ _ (vp_updL f 0 r.toInt64, w) ⟨by rw [h1]; rfl, fun _ => h1, fun _ => by rw [← h2]; rfl, h3⟩ rfl dL_wish_22

set_option maxHeartbeats 4000000 in
set_option maxRecDepth 100000 in
theorem wL_set {G : gG} {x : gVa} {u : gVu} {A : gA} {b o : Nat} {f : Nat → Int64} (hST : (gl G).stackTraces = false) (hA : gAok b A) (hb : b ≤ 50000) (hC : gClsI A u) (p z : Int32) : CI G yL_set wsL_set 8 153 [.ref (x.1 0), .int p, .int z, .ref o] ((o, .inl (gy G 3, 1, .inr (.inl f))) :: wV G x u) (fun (r : Int32) (w : (Nat → Int64) × gVu) => r = nI (aAct 0 1 0 A (gTrySet (aS A) p z)).1 ∧ (r = 0 → (aAct 0 1 0 A (gTrySet (aS A) p z)).1 = 0) ∧ ((aAct 0 1 0 A (gTrySet (aS A) p z)).1 = 0 → w.1 0 = (aAct 0 1 0 A (gTrySet (aS A) p z)).2.1.toInt64) ∧ gClsI (aAct 0 1 0 A (gTrySet (aS A) p z)).2.2 w.2) (fun w : (Nat → Int64) × gVu => (o, .inl (gy G 3, 1, .inr (.inl w.1))) :: wV G x w.2) 1 6 := by
  refine g_enterIH (ty := .int) RL rfl (by decide) rfl (Nat.le_of_ble_eq_true rfl) ?_
  intro V E hT RET
  refine g_aload_n E dL_set_0 rfl 3 rfl ?_
  refine g_iconst (v := 0) E dL_set_1 (by decide) ?_
  refine g_aload_n E dL_set_2 rfl 0 rfl ?_
  refine g_iload_n E dL_set_3 rfl 1 rfl ?_
  refine g_iload_n E dL_set_4 rfl 2 rfl ?_
  refine g_callVX (F := [(o, .inl (gy G 3, 1, .inr (.inl f)))]) E (lX7_set (x := x) hST hA hb hC p z) gL_set_X7_set rfl hdX7_set ⟨Nat.le_of_ble_eq_true rfl, Nat.le_of_ble_eq_true rfl⟩ 7 0 rfl rfl rfl (gPerm_rot (c := (o, .inl (gy G 3, 1, .inr (.inl f)))) (W := wV G x u)) rfl rfl ?_ dL_set_5 ?_ (fun cls w hx => ?_) (fun r w hx => ?_)
  · exact Nat.le_of_ble_eq_true rfl
  · exact ⟨Nat.le_of_ble_eq_true rfl, Nat.le_of_ble_eq_true rfl⟩
  · obtain ⟨k, hk1, hk2, hk3⟩ := hx
    refine gWX_perm gPerm_rot2 ?_
    rcases (show k = 0 ∨ 1 ≤ k by omega) with rfl | h9
    · obtain rfl : "java/lang/IllegalArgumentException" = cls := Option.some.inj hk2
      refine g_catch E hT "java/lang/IllegalArgumentException" [] [] (0, 10, 13, 13) rfl (fun z hz => by cases hz) (by decide) (by decide) cL_set_13 (by decide) (h := 13) rfl (fun qx => ?_)
      refine g_astore (lv' := [(4, .ref qx), (0, .ref (x.1 0)), (1, .int p), (2, .int z), (3, .ref o)]) E dL_set_13 (by decide) rfl ?_
      refine g_iconst (v := 1) E dL_set_15 (by decide) ?_
      exact RET _ _ _ (f, w) ⟨by rw [hk1]; rfl, fun q => absurd q (by decide), fun q => absurd (hk1.symm.trans q) (by decide), hk3⟩ rfl dL_set_16
    · exfalso
      rw [List.getElem?_eq_none (by show 1 ≤ k; exact h9)] at hk2
      cases hk2
  · obtain ⟨h1, h2, h3⟩ := hx
    refine g_perm gPerm_rot2 ?_
    refine g_i2l (v := r.toInt64) E dL_set_8 rfl ?_
    refine g_last (ws' := (o, .inl (gy G 3, 1, .inr (.inl (vp_updL f 0 r.toInt64)))) :: wV G x w) (j := 0) E 0 rfl (g_in (e := 0) (by decide) rfl) (nI_clamp (n := 0) (by decide)) rfl dL_set_9 ?_
    refine g_goto (tgt := 17) E dL_set_10 (by decide) ?_
    refine g_iconst (v := 0) E dL_set_17 (by decide) ?_
    exact RET _ _ _ (vp_updL f 0 r.toInt64, w) ⟨by rw [h1]; rfl, fun _ => h1, fun _ => by rw [← h2]; rfl, h3⟩ rfl dL_set_18

set_option maxHeartbeats 4000000 in
set_option maxRecDepth 100000 in
theorem wL_run {G : gG} {x : gVa} {u : gVu} {A : gA} {b o : Nat} {f : Nat → Int64} (hST : (gl G).stackTraces = false) (hA : gAok b A) (hb : b ≤ 50000) (hC : gClsI A u) (z : Int32) : CI G yL_run wsL_run 8 184 [.ref (x.1 0), .int z, .ref o] ((o, .inl (gy G 3, 1, .inr (.inl f))) :: wV G x u) (fun (r : Int32) (w : (Nat → Int64) × gVu) => r = nI (fRun A z).1 ∧ (r = 0 → (fRun A z).1 = 0) ∧ ((fRun A z).1 = 0 → w.1 0 = (fRun A z).2.1.toInt64) ∧ gClsI (fRun A z).2.2 w.2) (fun w : (Nat → Int64) × gVu => (o, .inl (gy G 3, 1, .inr (.inl w.1))) :: wV G x w.2) 1 6 := by
  refine g_enterIH (ty := .int) RL rfl (by decide) rfl (Nat.le_of_ble_eq_true rfl) ?_
  intro V E hT RET
  refine g_aload_n E dL_run_0 rfl 2 rfl ?_
  refine g_iconst (v := 0) E dL_run_1 (by decide) ?_
  refine g_aload_n E dL_run_2 rfl 0 rfl ?_
  refine g_iload_n E dL_run_3 rfl 1 rfl ?_
  refine g_callVX (F := [(o, .inl (gy G 3, 1, .inr (.inl f)))]) E (lX7_run (x := x) hST hA hb hC z) gL_run_X7_run rfl hdX7_run ⟨Nat.le_of_ble_eq_true rfl, Nat.le_of_ble_eq_true rfl⟩ 7 0 rfl rfl rfl (gPerm_rot (c := (o, .inl (gy G 3, 1, .inr (.inl f)))) (W := wV G x u)) rfl rfl ?_ dL_run_4 ?_ (fun cls w hx => ?_) (fun r w hx => ?_)
  · exact Nat.le_of_ble_eq_true rfl
  · exact ⟨Nat.le_of_ble_eq_true rfl, Nat.le_of_ble_eq_true rfl⟩
  · obtain ⟨k, hk1, hk2, hk3⟩ := hx
    refine gWX_perm gPerm_rot2 ?_
    rcases (show k = 0 ∨ 1 ≤ k by omega) with rfl | h9
    · obtain rfl : "java/lang/IllegalArgumentException" = cls := Option.some.inj hk2
      refine g_catch E hT "java/lang/IllegalArgumentException" [] [] (0, 9, 12, 13) rfl (fun z hz => by cases hz) (by decide) (by decide) cL_run_13 (by decide) (h := 12) rfl (fun qx => ?_)
      refine g_astore_n (lv' := [(3, .ref qx), (0, .ref (x.1 0)), (1, .int z), (2, .ref o)]) E dL_run_12 rfl (by decide) rfl ?_
      refine g_iconst (v := 1) E dL_run_13 (by decide) ?_
      exact RET _ _ _ (f, w) ⟨by rw [hk1]; rfl, fun q => absurd q (by decide), fun q => absurd (hk1.symm.trans q) (by decide), hk3⟩ rfl dL_run_14
    · exfalso
      rw [List.getElem?_eq_none (by show 1 ≤ k; exact h9)] at hk2
      cases hk2
  · obtain ⟨h1, h2, h3⟩ := hx
    refine g_perm gPerm_rot2 ?_
    refine g_i2l (v := r.toInt64) E dL_run_7 rfl ?_
    refine g_last (ws' := (o, .inl (gy G 3, 1, .inr (.inl (vp_updL f 0 r.toInt64)))) :: wV G x w) (j := 0) E 0 rfl (g_in (e := 0) (by decide) rfl) (nI_clamp (n := 0) (by decide)) rfl dL_run_8 ?_
    refine g_goto (tgt := 15) E dL_run_9 (by decide) ?_
    refine g_iconst (v := 0) E dL_run_15 (by decide) ?_
    exact RET _ _ _ (vp_updL f 0 r.toInt64, w) ⟨by rw [h1]; rfl, fun _ => h1, fun _ => by rw [← h2]; rfl, h3⟩ rfl dL_run_16

set_option maxHeartbeats 4000000 in
set_option maxRecDepth 100000 in
theorem wL_undo {G : gG} {x : gVa} {u : gVu} {A : gA} {b o : Nat} {f : Nat → Int64} (hST : (gl G).stackTraces = false) (hA : gAok b A) (hb : b ≤ 50000) (hC : gClsI A u)  : CI G yL_undo wsL_undo 7 145 [.ref (x.1 0), .ref o] ((o, .inl (gy G 3, 1, .inr (.inl f))) :: wV G x u) (fun (r : Int32) (w : (Nat → Int64) × gVu) => r = nI (fUndo A).1 ∧ (r = 0 → (fUndo A).1 = 0) ∧ ((fUndo A).1 = 0 → w.1 0 = (fUndo A).2.1.toInt64) ∧ gClsI (fUndo A).2.2 w.2) (fun w : (Nat → Int64) × gVu => (o, .inl (gy G 3, 1, .inr (.inl w.1))) :: wV G x w.2) 1 6 := by
  refine g_enterIH (ty := .int) RL rfl (by decide) rfl (Nat.le_of_ble_eq_true rfl) ?_
  intro V E hT RET
  refine g_aload_n E dL_undo_0 rfl 1 rfl ?_
  refine g_iconst (v := 0) E dL_undo_1 (by decide) ?_
  refine g_aload_n E dL_undo_2 rfl 0 rfl ?_
  refine g_callVX (F := [(o, .inl (gy G 3, 1, .inr (.inl f)))]) E (lX7_undo (x := x) hST hA hb hC ) gL_undo_X7_undo rfl hdX7_undo ⟨Nat.le_of_ble_eq_true rfl, Nat.le_of_ble_eq_true rfl⟩ 7 0 rfl rfl rfl (gPerm_rot (c := (o, .inl (gy G 3, 1, .inr (.inl f)))) (W := wV G x u)) rfl rfl ?_ dL_undo_3 ?_ (fun cls w hx => ?_) (fun r w hx => ?_)
  · exact Nat.le_of_ble_eq_true rfl
  · exact ⟨Nat.le_of_ble_eq_true rfl, Nat.le_of_ble_eq_true rfl⟩
  · obtain ⟨k, hk1, hk2, hk3⟩ := hx
    refine gWX_perm gPerm_rot2 ?_
    rcases (show k = 0 ∨ 1 ≤ k by omega) with rfl | h9
    · obtain rfl : "java/lang/IllegalStateException" = cls := Option.some.inj hk2
      refine g_catch E hT "java/lang/IllegalStateException" [] [] (0, 8, 11, 15) rfl (fun z hz => by cases hz) (by decide) (by decide) cL_undo_15 (by decide) (h := 11) rfl (fun qx => ?_)
      refine g_astore_n (lv' := [(2, .ref qx), (0, .ref (x.1 0)), (1, .ref o)]) E dL_undo_11 rfl (by decide) rfl ?_
      refine g_iconst (v := 1) E dL_undo_12 (by decide) ?_
      exact RET _ _ _ (f, w) ⟨by rw [hk1]; rfl, fun q => absurd q (by decide), fun q => absurd (hk1.symm.trans q) (by decide), hk3⟩ rfl dL_undo_13
    · exfalso
      rw [List.getElem?_eq_none (by show 1 ≤ k; exact h9)] at hk2
      cases hk2
  · obtain ⟨h1, h2, h3⟩ := hx
    refine g_perm gPerm_rot2 ?_
    refine g_i2l (v := r.toInt64) E dL_undo_6 rfl ?_
    refine g_last (ws' := (o, .inl (gy G 3, 1, .inr (.inl (vp_updL f 0 r.toInt64)))) :: wV G x w) (j := 0) E 0 rfl (g_in (e := 0) (by decide) rfl) (nI_clamp (n := 0) (by decide)) rfl dL_undo_7 ?_
    refine g_goto (tgt := 14) E dL_undo_8 (by decide) ?_
    refine g_iconst (v := 0) E dL_undo_14 (by decide) ?_
    exact RET _ _ _ (vp_updL f 0 r.toInt64, w) ⟨by rw [h1]; rfl, fun _ => h1, fun _ => by rw [← h2]; rfl, h3⟩ rfl dL_undo_15

set_option maxHeartbeats 4000000 in
set_option maxRecDepth 100000 in
theorem wL_whyNot {G : gG} {x : gVa} {u : gVu} {A : gA} {b o : Nat} {f : Nat → Int64} (hST : (gl G).stackTraces = false) (hA : gAok b A) (hb : b ≤ 50000) (hC : gClsI A u) (p q d h : Int32) : CI G yL_whyNot wsL_whyNot 7 136 [.ref (x.1 0), .int p, .int q, .int d, .int h, .ref o] ((o, .inl (gy G 3, 1, .inr (.inl f))) :: wV G x u) (fun (r : Int32) (w : (Nat → Int64) × gVu) => r = nI (fWhy A p q d h).1 ∧ (r = 0 → (fWhy A p q d h).1 = 0) ∧ ((fWhy A p q d h).1 = 0 → w.1 0 = (fWhy A p q d h).2.1.toInt64) ∧ gClsI (fWhy A p q d h).2.2 w.2) (fun w : (Nat → Int64) × gVu => (o, .inl (gy G 3, 1, .inr (.inl w.1))) :: wV G x w.2) 1 6 := by
  refine g_enterIH (ty := .int) RL rfl (by decide) rfl (Nat.le_of_ble_eq_true rfl) ?_
  intro V E hT RET
  refine g_aload E dL_whyNot_0 5 rfl ?_
  refine g_iconst (v := 0) E dL_whyNot_2 (by decide) ?_
  refine g_aload_n E dL_whyNot_3 rfl 0 rfl ?_
  refine g_iload_n E dL_whyNot_4 rfl 1 rfl ?_
  refine g_iload_n E dL_whyNot_5 rfl 2 rfl ?_
  refine g_iload_n E dL_whyNot_6 rfl 3 rfl ?_
  refine g_iload E dL_whyNot_7 4 rfl ?_
  refine g_callVX (F := [(o, .inl (gy G 3, 1, .inr (.inl f)))]) E (lX7_whyNot (x := x) hST hA hb hC p q d h) gL_whyNot_X7_whyNot rfl hdX7_whyNot ⟨Nat.le_of_ble_eq_true rfl, Nat.le_of_ble_eq_true rfl⟩ 7 0 rfl rfl rfl (gPerm_rot (c := (o, .inl (gy G 3, 1, .inr (.inl f)))) (W := wV G x u)) rfl rfl ?_ dL_whyNot_9 ?_ (fun cls w hx => ?_) (fun r w hx => ?_)
  · exact Nat.le_of_ble_eq_true rfl
  · exact ⟨Nat.le_of_ble_eq_true rfl, Nat.le_of_ble_eq_true rfl⟩
  · obtain ⟨k, hk1, hk2, hk3⟩ := hx
    refine gWX_perm gPerm_rot2 ?_
    rcases (show k = 0 ∨ k = 1 ∨ 2 ≤ k by omega) with rfl | rfl | h9
    · obtain rfl : "java/lang/IndexOutOfBoundsException" = cls := Option.some.inj hk2
      refine g_catch E hT "java/lang/IndexOutOfBoundsException" [] [(0, 14, 21, 13)] (0, 14, 17, 28) rfl (fun z hz => by cases hz) (by decide) (by decide) cL_whyNot_28 (by decide) (h := 17) rfl (fun qx => ?_)
      refine g_astore (lv' := [(6, .ref qx), (0, .ref (x.1 0)), (1, .int p), (2, .int q), (3, .int d), (4, .int h), (5, .ref o)]) E dL_whyNot_17 (by decide) rfl ?_
      refine g_iconst (v := 1) E dL_whyNot_19 (by decide) ?_
      exact RET _ _ _ (f, w) ⟨by rw [hk1]; rfl, fun q => absurd q (by decide), fun q => absurd (hk1.symm.trans q) (by decide), hk3⟩ rfl dL_whyNot_20
    · obtain rfl : "java/lang/IllegalArgumentException" = cls := Option.some.inj hk2
      refine g_catch E hT "java/lang/IllegalArgumentException" [(0, 14, 17, 28)] [] (0, 14, 21, 13) rfl (List.forall_mem_cons.mpr ⟨⟨"java/lang/IndexOutOfBoundsException", cL_whyNot_28, by decide, by decide⟩, fun z hz => by cases hz⟩) (by decide) (by decide) cL_whyNot_13 (by decide) (h := 21) rfl (fun qx => ?_)
      refine g_astore (lv' := [(6, .ref qx), (0, .ref (x.1 0)), (1, .int p), (2, .int q), (3, .int d), (4, .int h), (5, .ref o)]) E dL_whyNot_21 (by decide) rfl ?_
      refine g_iconst (v := 2) E dL_whyNot_23 (by decide) ?_
      exact RET _ _ _ (f, w) ⟨by rw [hk1]; rfl, fun q => absurd q (by decide), fun q => absurd (hk1.symm.trans q) (by decide), hk3⟩ rfl dL_whyNot_24
    · exfalso
      rw [List.getElem?_eq_none (by show 2 ≤ k; exact h9)] at hk2
      cases hk2
  · obtain ⟨h1, h2, h3⟩ := hx
    refine g_perm gPerm_rot2 ?_
    refine g_i2l (v := r.toInt64) E dL_whyNot_12 rfl ?_
    refine g_last (ws' := (o, .inl (gy G 3, 1, .inr (.inl (vp_updL f 0 r.toInt64)))) :: wV G x w) (j := 0) E 0 rfl (g_in (e := 0) (by decide) rfl) (nI_clamp (n := 0) (by decide)) rfl dL_whyNot_13 ?_
    refine g_goto (tgt := 25) E dL_whyNot_14 (by decide) ?_
    refine g_iconst (v := 0) E dL_whyNot_25 (by decide) ?_
    exact RET _ _ _ (vp_updL f 0 r.toInt64, w) ⟨by rw [h1]; rfl, fun _ => h1, fun _ => by rw [← h2]; rfl, h3⟩ rfl dL_whyNot_26

set_option maxHeartbeats 4000000 in
set_option maxRecDepth 100000 in
theorem wL_firstTime {G : gG} {x : gVa} {u : gVu} {A : gA} {b o : Nat} {f : Nat → Int64} (hST : (gl G).stackTraces = false) (hA : gAok b A) (hb : b ≤ 50000) (hC : gClsI A u) (p q : Int32) : CI G yL_firstTime wsL_firstTime 7 135 [.ref (x.1 0), .int p, .int q, .ref o] ((o, .inl (gy G 3, 1, .inr (.inl f))) :: wV G x u) (fun (r : Int32) (w : (Nat → Int64) × gVu) => r = nI (fFirst A p q).1 ∧ (r = 0 → (fFirst A p q).1 = 0) ∧ ((fFirst A p q).1 = 0 → w.1 0 = (fFirst A p q).2.1.toInt64) ∧ gClsI (fFirst A p q).2.2 w.2) (fun w : (Nat → Int64) × gVu => (o, .inl (gy G 3, 1, .inr (.inl w.1))) :: wV G x w.2) 1 6 := by
  refine g_enterIH (ty := .int) RL rfl (by decide) rfl (Nat.le_of_ble_eq_true rfl) ?_
  intro V E hT RET
  refine g_aload_n E dL_firstTime_0 rfl 3 rfl ?_
  refine g_iconst (v := 0) E dL_firstTime_1 (by decide) ?_
  refine g_aload_n E dL_firstTime_2 rfl 0 rfl ?_
  refine g_iload_n E dL_firstTime_3 rfl 1 rfl ?_
  refine g_iload_n E dL_firstTime_4 rfl 2 rfl ?_
  refine g_callVX (F := [(o, .inl (gy G 3, 1, .inr (.inl f)))]) E (lX7_firstTime (x := x) hST hA hb hC p q) gL_firstTime_X7_firstTime rfl hdX7_firstTime ⟨Nat.le_of_ble_eq_true rfl, Nat.le_of_ble_eq_true rfl⟩ 7 0 rfl rfl rfl (gPerm_rot (c := (o, .inl (gy G 3, 1, .inr (.inl f)))) (W := wV G x u)) rfl rfl ?_ dL_firstTime_5 ?_ (fun cls w hx => ?_) (fun r w hx => ?_)
  · exact Nat.le_of_ble_eq_true rfl
  · exact ⟨Nat.le_of_ble_eq_true rfl, Nat.le_of_ble_eq_true rfl⟩
  · obtain ⟨k, hk1, hk2, hk3⟩ := hx
    refine gWX_perm gPerm_rot2 ?_
    rcases (show k = 0 ∨ 1 ≤ k by omega) with rfl | h9
    · obtain rfl : "java/lang/IndexOutOfBoundsException" = cls := Option.some.inj hk2
      refine g_catch E hT "java/lang/IndexOutOfBoundsException" [] [] (0, 10, 13, 28) rfl (fun z hz => by cases hz) (by decide) (by decide) cL_firstTime_28 (by decide) (h := 13) rfl (fun qx => ?_)
      refine g_astore (lv' := [(4, .ref qx), (0, .ref (x.1 0)), (1, .int p), (2, .int q), (3, .ref o)]) E dL_firstTime_13 (by decide) rfl ?_
      refine g_iconst (v := 1) E dL_firstTime_15 (by decide) ?_
      exact RET _ _ _ (f, w) ⟨by rw [hk1]; rfl, fun q => absurd q (by decide), fun q => absurd (hk1.symm.trans q) (by decide), hk3⟩ rfl dL_firstTime_16
    · exfalso
      rw [List.getElem?_eq_none (by show 1 ≤ k; exact h9)] at hk2
      cases hk2
  · obtain ⟨h1, h2, h3⟩ := hx
    refine g_perm gPerm_rot2 ?_
    refine g_i2l (v := r.toInt64) E dL_firstTime_8 rfl ?_
    refine g_last (ws' := (o, .inl (gy G 3, 1, .inr (.inl (vp_updL f 0 r.toInt64)))) :: wV G x w) (j := 0) E 0 rfl (g_in (e := 0) (by decide) rfl) (nI_clamp (n := 0) (by decide)) rfl dL_firstTime_9 ?_
    refine g_goto (tgt := 17) E dL_firstTime_10 (by decide) ?_
    refine g_iconst (v := 0) E dL_firstTime_17 (by decide) ?_
    exact RET _ _ _ (vp_updL f 0 r.toInt64, w) ⟨by rw [h1]; rfl, fun _ => h1, fun _ => by rw [← h2]; rfl, h3⟩ rfl dL_firstTime_18

set_option maxHeartbeats 4000000 in
set_option maxRecDepth 100000 in
theorem wL_coming {G : gG} {x : gVa} {u : gVu} {A : gA} {b o : Nat} {f : Nat → Int64} (hST : (gl G).stackTraces = false) (hA : gAok b A) (hb : b ≤ 50000) (hC : gClsI A u) (p y : Int32) : CI G yL_coming wsL_coming 7 185 [.ref (x.1 0), .int p, .int y, .ref o] ((o, .inl (gy G 3, 1, .inr (.inl f))) :: wV G x u) (fun (r : Int32) (w : (Nat → Int64) × gVu) => r = nI (fComing A p y).1 ∧ (r = 0 → (fComing A p y).1 = 0) ∧ ((fComing A p y).1 = 0 → w.1 0 = (fComing A p y).2.1.toInt64) ∧ gClsI (fComing A p y).2.2 w.2) (fun w : (Nat → Int64) × gVu => (o, .inl (gy G 3, 1, .inr (.inl w.1))) :: wV G x w.2) 1 6 := by
  refine g_enterIH (ty := .int) RL rfl (by decide) rfl (Nat.le_of_ble_eq_true rfl) ?_
  intro V E hT RET
  refine g_aload_n E dL_coming_0 rfl 3 rfl ?_
  refine g_iconst (v := 0) E dL_coming_1 (by decide) ?_
  refine g_aload_n E dL_coming_2 rfl 0 rfl ?_
  refine g_iload_n E dL_coming_3 rfl 1 rfl ?_
  refine g_iload_n E dL_coming_4 rfl 2 rfl ?_
  refine g_callVX (F := [(o, .inl (gy G 3, 1, .inr (.inl f)))]) E (lX7_coming (x := x) hST hA hb hC p y) gL_coming_X7_coming rfl hdX7_coming ⟨Nat.le_of_ble_eq_true rfl, Nat.le_of_ble_eq_true rfl⟩ 7 0 rfl rfl rfl (gPerm_rot (c := (o, .inl (gy G 3, 1, .inr (.inl f)))) (W := wV G x u)) rfl rfl ?_ dL_coming_5 ?_ (fun cls w hx => ?_) (fun r w hx => ?_)
  · exact Nat.le_of_ble_eq_true rfl
  · exact ⟨Nat.le_of_ble_eq_true rfl, Nat.le_of_ble_eq_true rfl⟩
  · obtain ⟨k, hk1, hk2, hk3⟩ := hx
    refine gWX_perm gPerm_rot2 ?_
    rcases (show k = 0 ∨ 1 ≤ k by omega) with rfl | h9
    · obtain rfl : "java/lang/IllegalArgumentException" = cls := Option.some.inj hk2
      refine g_catch E hT "java/lang/IllegalArgumentException" [] [] (0, 10, 13, 13) rfl (fun z hz => by cases hz) (by decide) (by decide) cL_coming_13 (by decide) (h := 13) rfl (fun qx => ?_)
      refine g_astore (lv' := [(4, .ref qx), (0, .ref (x.1 0)), (1, .int p), (2, .int y), (3, .ref o)]) E dL_coming_13 (by decide) rfl ?_
      refine g_iconst (v := 1) E dL_coming_15 (by decide) ?_
      exact RET _ _ _ (f, w) ⟨by rw [hk1]; rfl, fun q => absurd q (by decide), fun q => absurd (hk1.symm.trans q) (by decide), hk3⟩ rfl dL_coming_16
    · exfalso
      rw [List.getElem?_eq_none (by show 1 ≤ k; exact h9)] at hk2
      cases hk2
  · obtain ⟨h1, h2, h3⟩ := hx
    refine g_perm gPerm_rot2 ?_
    refine g_i2l (v := r.toInt64) E dL_coming_8 rfl ?_
    refine g_last (ws' := (o, .inl (gy G 3, 1, .inr (.inl (vp_updL f 0 r.toInt64)))) :: wV G x w) (j := 0) E 0 rfl (g_in (e := 0) (by decide) rfl) (nI_clamp (n := 0) (by decide)) rfl dL_coming_9 ?_
    refine g_goto (tgt := 17) E dL_coming_10 (by decide) ?_
    refine g_iconst (v := 0) E dL_coming_17 (by decide) ?_
    exact RET _ _ _ (vp_updL f 0 r.toInt64, w) ⟨by rw [h1]; rfl, fun _ => h1, fun _ => by rw [← h2]; rfl, h3⟩ rfl dL_coming_18

set_option maxHeartbeats 4000000 in
set_option maxRecDepth 100000 in
theorem wL_becomes {G : gG} {x : gVa} {u : gVu} {A : gA} {b o : Nat} {f : Nat → Int64} (hST : (gl G).stackTraces = false) (hA : gAok b A) (hb : b ≤ 50000) (hC : gClsI A u) (k : Int32) : CI G yL_becomes wsL_becomes 7 211 [.ref (x.1 0), .int k, .ref o] ((o, .inl (gy G 3, 1, .inr (.inl f))) :: wV G x u) (fun (r : Int32) (w : (Nat → Int64) × gVu) => r = nI (fBecomes A k).1 ∧ (r = 0 → (fBecomes A k).1 = 0) ∧ ((fBecomes A k).1 = 0 → w.1 0 = (fBecomes A k).2.1.toInt64) ∧ gClsI (fBecomes A k).2.2 w.2) (fun w : (Nat → Int64) × gVu => (o, .inl (gy G 3, 1, .inr (.inl w.1))) :: wV G x w.2) 1 6 := by
  refine g_enterIH (ty := .int) RL rfl (by decide) rfl (Nat.le_of_ble_eq_true rfl) ?_
  intro V E hT RET
  refine g_aload_n E dL_becomes_0 rfl 2 rfl ?_
  refine g_iconst (v := 0) E dL_becomes_1 (by decide) ?_
  refine g_aload_n E dL_becomes_2 rfl 0 rfl ?_
  refine g_iload_n E dL_becomes_3 rfl 1 rfl ?_
  refine g_callVX (F := [(o, .inl (gy G 3, 1, .inr (.inl f)))]) E (lX7_becomes (x := x) hST hA hb hC k) gL_becomes_X7_becomes rfl hdX7_becomes ⟨Nat.le_of_ble_eq_true rfl, Nat.le_of_ble_eq_true rfl⟩ 7 0 rfl rfl rfl (gPerm_rot (c := (o, .inl (gy G 3, 1, .inr (.inl f)))) (W := wV G x u)) rfl rfl ?_ dL_becomes_4 ?_ (fun cls w hx => ?_) (fun r w hx => ?_)
  · exact Nat.le_of_ble_eq_true rfl
  · exact ⟨Nat.le_of_ble_eq_true rfl, Nat.le_of_ble_eq_true rfl⟩
  · obtain ⟨k, hk1, hk2, hk3⟩ := hx
    refine gWX_perm gPerm_rot2 ?_
    rcases (show k = 0 ∨ k = 1 ∨ 2 ≤ k by omega) with rfl | rfl | h9
    · obtain rfl : "java/lang/IndexOutOfBoundsException" = cls := Option.some.inj hk2
      refine g_catch E hT "java/lang/IndexOutOfBoundsException" [] [(0, 9, 15, 15)] (0, 9, 12, 28) rfl (fun z hz => by cases hz) (by decide) (by decide) cL_becomes_28 (by decide) (h := 12) rfl (fun qx => ?_)
      refine g_astore_n (lv' := [(3, .ref qx), (0, .ref (x.1 0)), (1, .int k), (2, .ref o)]) E dL_becomes_12 rfl (by decide) rfl ?_
      refine g_iconst (v := 1) E dL_becomes_13 (by decide) ?_
      exact RET _ _ _ (f, w) ⟨by rw [hk1]; rfl, fun q => absurd q (by decide), fun q => absurd (hk1.symm.trans q) (by decide), hk3⟩ rfl dL_becomes_14
    · obtain rfl : "java/lang/IllegalStateException" = cls := Option.some.inj hk2
      refine g_catch E hT "java/lang/IllegalStateException" [(0, 9, 12, 28)] [] (0, 9, 15, 15) rfl (List.forall_mem_cons.mpr ⟨⟨"java/lang/IndexOutOfBoundsException", cL_becomes_28, by decide, by decide⟩, fun z hz => by cases hz⟩) (by decide) (by decide) cL_becomes_15 (by decide) (h := 15) rfl (fun qx => ?_)
      refine g_astore_n (lv' := [(3, .ref qx), (0, .ref (x.1 0)), (1, .int k), (2, .ref o)]) E dL_becomes_15 rfl (by decide) rfl ?_
      refine g_iconst (v := 2) E dL_becomes_16 (by decide) ?_
      exact RET _ _ _ (f, w) ⟨by rw [hk1]; rfl, fun q => absurd q (by decide), fun q => absurd (hk1.symm.trans q) (by decide), hk3⟩ rfl dL_becomes_17
    · exfalso
      rw [List.getElem?_eq_none (by show 2 ≤ k; exact h9)] at hk2
      cases hk2
  · obtain ⟨h1, h2, h3⟩ := hx
    refine g_perm gPerm_rot2 ?_
    refine g_i2l (v := r.toInt64) E dL_becomes_7 rfl ?_
    refine g_last (ws' := (o, .inl (gy G 3, 1, .inr (.inl (vp_updL f 0 r.toInt64)))) :: wV G x w) (j := 0) E 0 rfl (g_in (e := 0) (by decide) rfl) (nI_clamp (n := 0) (by decide)) rfl dL_becomes_8 ?_
    refine g_goto (tgt := 18) E dL_becomes_9 (by decide) ?_
    refine g_iconst (v := 0) E dL_becomes_18 (by decide) ?_
    exact RET _ _ _ (vp_updL f 0 r.toInt64, w) ⟨by rw [h1]; rfl, fun _ => h1, fun _ => by rw [← h2]; rfl, h3⟩ rfl dL_becomes_19

set_option maxHeartbeats 4000000 in
set_option maxRecDepth 100000 in
theorem wL_save {G : gG} {x : gVa} {u : gVu} {A : gA} {b o : Nat} {f : Nat → Int64} (hST : (gl G).stackTraces = false) (hA : gAok b A) (hb : b ≤ 50000) (hC : gClsI A u) (z : Int32) : CI G yL_save wsL_save 7 132 [.ref (x.1 0), .int z, .ref o] ((o, .inl (gy G 3, 1, .inr (.inl f))) :: wV G x u) (fun (r : Int32) (w : (Nat → Int64) × gVu) => r = nI (fSave A z).1 ∧ (r = 0 → (fSave A z).1 = 0) ∧ ((fSave A z).1 = 0 → w.1 0 = (fSave A z).2.1.toInt64) ∧ gClsI (fSave A z).2.2 w.2) (fun w : (Nat → Int64) × gVu => (o, .inl (gy G 3, 1, .inr (.inl w.1))) :: wV G x w.2) 1 6 := by
  refine g_enterIH (ty := .int) RL rfl (by decide) rfl (Nat.le_of_ble_eq_true rfl) ?_
  intro V E hT RET
  refine g_aload_n E dL_save_0 rfl 2 rfl ?_
  refine g_iconst (v := 0) E dL_save_1 (by decide) ?_
  refine g_aload_n E dL_save_2 rfl 0 rfl ?_
  refine g_iload_n E dL_save_3 rfl 1 rfl ?_
  refine g_callVX (F := [(o, .inl (gy G 3, 1, .inr (.inl f)))]) E (lX7_save (x := x) hST hA hb hC z) gL_save_X7_save rfl hdX7_save ⟨Nat.le_of_ble_eq_true rfl, Nat.le_of_ble_eq_true rfl⟩ 7 0 rfl rfl rfl (gPerm_rot (c := (o, .inl (gy G 3, 1, .inr (.inl f)))) (W := wV G x u)) rfl rfl ?_ dL_save_4 ?_ (fun cls w hx => ?_) (fun r w hx => ?_)
  · exact Nat.le_of_ble_eq_true rfl
  · exact ⟨Nat.le_of_ble_eq_true rfl, Nat.le_of_ble_eq_true rfl⟩
  · obtain ⟨k, hk1, hk2, hk3⟩ := hx
    refine gWX_perm gPerm_rot2 ?_
    rcases (show k = 0 ∨ 1 ≤ k by omega) with rfl | h9
    · obtain rfl : "java/lang/IndexOutOfBoundsException" = cls := Option.some.inj hk2
      refine g_catch E hT "java/lang/IndexOutOfBoundsException" [] [] (0, 9, 12, 28) rfl (fun z hz => by cases hz) (by decide) (by decide) cL_save_28 (by decide) (h := 12) rfl (fun qx => ?_)
      refine g_astore_n (lv' := [(3, .ref qx), (0, .ref (x.1 0)), (1, .int z), (2, .ref o)]) E dL_save_12 rfl (by decide) rfl ?_
      refine g_iconst (v := 1) E dL_save_13 (by decide) ?_
      exact RET _ _ _ (f, w) ⟨by rw [hk1]; rfl, fun q => absurd q (by decide), fun q => absurd (hk1.symm.trans q) (by decide), hk3⟩ rfl dL_save_14
    · exfalso
      rw [List.getElem?_eq_none (by show 1 ≤ k; exact h9)] at hk2
      cases hk2
  · obtain ⟨h1, h2, h3⟩ := hx
    refine g_perm gPerm_rot2 ?_
    refine g_i2l (v := r.toInt64) E dL_save_7 rfl ?_
    refine g_last (ws' := (o, .inl (gy G 3, 1, .inr (.inl (vp_updL f 0 r.toInt64)))) :: wV G x w) (j := 0) E 0 rfl (g_in (e := 0) (by decide) rfl) (nI_clamp (n := 0) (by decide)) rfl dL_save_8 ?_
    refine g_goto (tgt := 15) E dL_save_9 (by decide) ?_
    refine g_iconst (v := 0) E dL_save_15 (by decide) ?_
    exact RET _ _ _ (vp_updL f 0 r.toInt64, w) ⟨by rw [h1]; rfl, fun _ => h1, fun _ => by rw [← h2]; rfl, h3⟩ rfl dL_save_16

set_option maxHeartbeats 4000000 in
set_option maxRecDepth 100000 in
theorem wL_restore {G : gG} {x : gVa} {u : gVu} {A : gA} {b o : Nat} {f : Nat → Int64} (hST : (gl G).stackTraces = false) (hA : gAok b A) (hb : b ≤ 50000) (hC : gClsI A u) (z : Int32) : CI G yL_restore wsL_restore 7 132 [.ref (x.1 0), .int z, .ref o] ((o, .inl (gy G 3, 1, .inr (.inl f))) :: wV G x u) (fun (r : Int32) (w : (Nat → Int64) × gVu) => r = nI (fRest A z).1 ∧ (r = 0 → (fRest A z).1 = 0) ∧ ((fRest A z).1 = 0 → w.1 0 = (fRest A z).2.1.toInt64) ∧ gClsI (fRest A z).2.2 w.2) (fun w : (Nat → Int64) × gVu => (o, .inl (gy G 3, 1, .inr (.inl w.1))) :: wV G x w.2) 1 6 := by
  refine g_enterIH (ty := .int) RL rfl (by decide) rfl (Nat.le_of_ble_eq_true rfl) ?_
  intro V E hT RET
  refine g_aload_n E dL_restore_0 rfl 2 rfl ?_
  refine g_iconst (v := 0) E dL_restore_1 (by decide) ?_
  refine g_aload_n E dL_restore_2 rfl 0 rfl ?_
  refine g_iload_n E dL_restore_3 rfl 1 rfl ?_
  refine g_callVX (F := [(o, .inl (gy G 3, 1, .inr (.inl f)))]) E (lX7_restore (x := x) hST hA hb hC z) gL_restore_X7_restore rfl hdX7_restore ⟨Nat.le_of_ble_eq_true rfl, Nat.le_of_ble_eq_true rfl⟩ 7 0 rfl rfl rfl (gPerm_rot (c := (o, .inl (gy G 3, 1, .inr (.inl f)))) (W := wV G x u)) rfl rfl ?_ dL_restore_4 ?_ (fun cls w hx => ?_) (fun r w hx => ?_)
  · exact Nat.le_of_ble_eq_true rfl
  · exact ⟨Nat.le_of_ble_eq_true rfl, Nat.le_of_ble_eq_true rfl⟩
  · obtain ⟨k, hk1, hk2, hk3⟩ := hx
    refine gWX_perm gPerm_rot2 ?_
    rcases (show k = 0 ∨ k = 1 ∨ 2 ≤ k by omega) with rfl | rfl | h9
    · obtain rfl : "java/lang/IndexOutOfBoundsException" = cls := Option.some.inj hk2
      refine g_catch E hT "java/lang/IndexOutOfBoundsException" [] [(0, 9, 15, 15)] (0, 9, 12, 28) rfl (fun z hz => by cases hz) (by decide) (by decide) cL_restore_28 (by decide) (h := 12) rfl (fun qx => ?_)
      refine g_astore_n (lv' := [(3, .ref qx), (0, .ref (x.1 0)), (1, .int z), (2, .ref o)]) E dL_restore_12 rfl (by decide) rfl ?_
      refine g_iconst (v := 1) E dL_restore_13 (by decide) ?_
      exact RET _ _ _ (f, w) ⟨by rw [hk1]; rfl, fun q => absurd q (by decide), fun q => absurd (hk1.symm.trans q) (by decide), hk3⟩ rfl dL_restore_14
    · obtain rfl : "java/lang/IllegalStateException" = cls := Option.some.inj hk2
      refine g_catch E hT "java/lang/IllegalStateException" [(0, 9, 12, 28)] [] (0, 9, 15, 15) rfl (List.forall_mem_cons.mpr ⟨⟨"java/lang/IndexOutOfBoundsException", cL_restore_28, by decide, by decide⟩, fun z hz => by cases hz⟩) (by decide) (by decide) cL_restore_15 (by decide) (h := 15) rfl (fun qx => ?_)
      refine g_astore_n (lv' := [(3, .ref qx), (0, .ref (x.1 0)), (1, .int z), (2, .ref o)]) E dL_restore_15 rfl (by decide) rfl ?_
      refine g_iconst (v := 2) E dL_restore_16 (by decide) ?_
      exact RET _ _ _ (f, w) ⟨by rw [hk1]; rfl, fun q => absurd q (by decide), fun q => absurd (hk1.symm.trans q) (by decide), hk3⟩ rfl dL_restore_17
    · exfalso
      rw [List.getElem?_eq_none (by show 2 ≤ k; exact h9)] at hk2
      cases hk2
  · obtain ⟨h1, h2, h3⟩ := hx
    refine g_perm gPerm_rot2 ?_
    refine g_i2l (v := r.toInt64) E dL_restore_7 rfl ?_
    refine g_last (ws' := (o, .inl (gy G 3, 1, .inr (.inl (vp_updL f 0 r.toInt64)))) :: wV G x w) (j := 0) E 0 rfl (g_in (e := 0) (by decide) rfl) (nI_clamp (n := 0) (by decide)) rfl dL_restore_8 ?_
    refine g_goto (tgt := 18) E dL_restore_9 (by decide) ?_
    refine g_iconst (v := 0) E dL_restore_18 (by decide) ?_
    exact RET _ _ _ (vp_updL f 0 r.toInt64, w) ⟨by rw [h1]; rfl, fun _ => h1, fun _ => by rw [← h2]; rfl, h3⟩ rfl dL_restore_19

set_option maxHeartbeats 4000000 in
set_option maxRecDepth 100000 in
theorem wL_runScript {G : gG} {x : gVa} {u : gVu} {A : gA} {b o : Nat} {f : Nat → Int64} (hST : (gl G).stackTraces = false) (hA : gAok b A) (hb : b ≤ 50000) (hC : gClsI A u) (p : Int32) (y : Int64) : CI G yL_runScript wsL_runScript 7 214 [.ref (x.1 0), .int p, .long y, .ref o] ((o, .inl (gy G 3, 1, .inr (.inl f))) :: wV G x u) (fun (r : Int32) (w : (Nat → Int64) × gVu) => r = nI (fScript A p y).1 ∧ (r = 0 → (fScript A p y).1 = 0) ∧ ((fScript A p y).1 = 0 → w.1 0 = (fScript A p y).2.1.toInt64) ∧ gClsI (fScript A p y).2.2 w.2) (fun w : (Nat → Int64) × gVu => (o, .inl (gy G 3, 1, .inr (.inl w.1))) :: wV G x w.2) 1 6 := by
  refine g_enterIH (ty := .int) RL rfl (by decide) rfl (Nat.le_of_ble_eq_true rfl) ?_
  intro V E hT RET
  refine g_aload E dL_runScript_0 3 rfl ?_
  refine g_iconst (v := 0) E dL_runScript_2 (by decide) ?_
  refine g_aload_n E dL_runScript_3 rfl 0 rfl ?_
  refine g_iload_n E dL_runScript_4 rfl 1 rfl ?_
  refine g_lload_n E dL_runScript_5 rfl 2 rfl ?_
  refine g_callVX (F := [(o, .inl (gy G 3, 1, .inr (.inl f)))]) E (lX7_runScript (x := x) hST hA hb hC p y) gL_runScript_X7_runScript rfl hdX7_runScript ⟨Nat.le_of_ble_eq_true rfl, Nat.le_of_ble_eq_true rfl⟩ 7 0 rfl rfl rfl (gPerm_rot (c := (o, .inl (gy G 3, 1, .inr (.inl f)))) (W := wV G x u)) rfl rfl ?_ dL_runScript_6 ?_ (fun cls w hx => ?_) (fun r w hx => ?_)
  · exact Nat.le_of_ble_eq_true rfl
  · exact ⟨Nat.le_of_ble_eq_true rfl, Nat.le_of_ble_eq_true rfl⟩
  · obtain ⟨k, hk1, hk2, hk3⟩ := hx
    refine gWX_perm gPerm_rot2 ?_
    rcases (show k = 0 ∨ 1 ≤ k by omega) with rfl | h9
    · obtain rfl : "java/lang/IllegalArgumentException" = cls := Option.some.inj hk2
      refine g_catch E hT "java/lang/IllegalArgumentException" [] [] (0, 11, 14, 13) rfl (fun z hz => by cases hz) (by decide) (by decide) cL_runScript_13 (by decide) (h := 14) rfl (fun qx => ?_)
      refine g_astore (lv' := [(5, .ref qx), (0, .ref (x.1 0)), (1, .int p), (2, .long y), (4, .ref o)]) E dL_runScript_14 (by decide) rfl ?_
      refine g_iconst (v := 1) E dL_runScript_16 (by decide) ?_
      exact RET _ _ _ (f, w) ⟨by rw [hk1]; rfl, fun q => absurd q (by decide), fun q => absurd (hk1.symm.trans q) (by decide), hk3⟩ rfl dL_runScript_17
    · exfalso
      rw [List.getElem?_eq_none (by show 1 ≤ k; exact h9)] at hk2
      cases hk2
  · obtain ⟨h1, h2, h3⟩ := hx
    refine g_perm gPerm_rot2 ?_
    refine g_i2l (v := r.toInt64) E dL_runScript_9 rfl ?_
    refine g_last (ws' := (o, .inl (gy G 3, 1, .inr (.inl (vp_updL f 0 r.toInt64)))) :: wV G x w) (j := 0) E 0 rfl (g_in (e := 0) (by decide) rfl) (nI_clamp (n := 0) (by decide)) rfl dL_runScript_10 ?_
    refine g_goto (tgt := 18) E dL_runScript_11 (by decide) ?_
    refine g_iconst (v := 0) E dL_runScript_18 (by decide) ?_
    exact RET _ _ _ (vp_updL f 0 r.toInt64, w) ⟨by rw [h1]; rfl, fun _ => h1, fun _ => by rw [← h2]; rfl, h3⟩ rfl dL_runScript_19

set_option maxHeartbeats 4000000 in
set_option maxRecDepth 100000 in
theorem wL_simulate {G : gG} {x : gVa} {u : gVu} {A : gA} {b o : Nat} {f : Nat → Int64} (hST : (gl G).stackTraces = false) (hA : gAok b A) (hb : b ≤ 50000) (hC : gClsI A u) (y : Int64) (p : Int32) : CI G yL_simulate wsL_simulate 7 212 [.ref (x.1 0), .long y, .int p, .ref o] ((o, .inl (gy G 3, 1, .inr (.inl f))) :: wV G x u) (fun (r : Int32) (w : (Nat → Int64) × gVu) => r = nI (fSim A y p).1 ∧ (r = 0 → (fSim A y p).1 = 0) ∧ ((fSim A y p).1 = 0 → w.1 0 = (fSim A y p).2.1.toInt64) ∧ gClsI (fSim A y p).2.2 w.2) (fun w : (Nat → Int64) × gVu => (o, .inl (gy G 3, 1, .inr (.inl w.1))) :: wV G x w.2) 1 6 := by
  refine g_enterIH (ty := .int) RL rfl (by decide) rfl (Nat.le_of_ble_eq_true rfl) ?_
  intro V E hT RET
  refine g_aload E dL_simulate_0 3 rfl ?_
  refine g_iconst (v := 0) E dL_simulate_2 (by decide) ?_
  refine g_aload_n E dL_simulate_3 rfl 0 rfl ?_
  refine g_lload_n E dL_simulate_4 rfl 1 rfl ?_
  refine g_iload_n E dL_simulate_5 rfl 2 rfl ?_
  refine g_callVX (F := [(o, .inl (gy G 3, 1, .inr (.inl f)))]) E (lX7_simulate (x := x) hST hA hb hC y p) gL_simulate_X7_simulate rfl hdX7_simulate ⟨Nat.le_of_ble_eq_true rfl, Nat.le_of_ble_eq_true rfl⟩ 7 0 rfl rfl rfl (gPerm_rot (c := (o, .inl (gy G 3, 1, .inr (.inl f)))) (W := wV G x u)) rfl rfl ?_ dL_simulate_6 ?_ (fun cls w hx => ?_) (fun r w hx => ?_)
  · exact Nat.le_of_ble_eq_true rfl
  · exact ⟨Nat.le_of_ble_eq_true rfl, Nat.le_of_ble_eq_true rfl⟩
  · obtain ⟨k, hk1, hk2, hk3⟩ := hx
    refine gWX_perm gPerm_rot2 ?_
    rcases (show k = 0 ∨ 1 ≤ k by omega) with rfl | h9
    · obtain rfl : "java/lang/IllegalArgumentException" = cls := Option.some.inj hk2
      refine g_catch E hT "java/lang/IllegalArgumentException" [] [] (0, 11, 14, 13) rfl (fun z hz => by cases hz) (by decide) (by decide) cL_simulate_13 (by decide) (h := 14) rfl (fun qx => ?_)
      refine g_astore (lv' := [(5, .ref qx), (0, .ref (x.1 0)), (1, .long y), (3, .int p), (4, .ref o)]) E dL_simulate_14 (by decide) rfl ?_
      refine g_iconst (v := 1) E dL_simulate_16 (by decide) ?_
      exact RET _ _ _ (f, w) ⟨by rw [hk1]; rfl, fun q => absurd q (by decide), fun q => absurd (hk1.symm.trans q) (by decide), hk3⟩ rfl dL_simulate_17
    · exfalso
      rw [List.getElem?_eq_none (by show 1 ≤ k; exact h9)] at hk2
      cases hk2
  · obtain ⟨h1, h2, h3⟩ := hx
    refine g_perm gPerm_rot2 ?_
    refine g_i2l (v := r.toInt64) E dL_simulate_9 rfl ?_
    refine g_last (ws' := (o, .inl (gy G 3, 1, .inr (.inl (vp_updL f 0 r.toInt64)))) :: wV G x w) (j := 0) E 0 rfl (g_in (e := 0) (by decide) rfl) (nI_clamp (n := 0) (by decide)) rfl dL_simulate_10 ?_
    refine g_goto (tgt := 18) E dL_simulate_11 (by decide) ?_
    refine g_iconst (v := 0) E dL_simulate_18 (by decide) ?_
    exact RET _ _ _ (vp_updL f 0 r.toInt64, w) ⟨by rw [h1]; rfl, fun _ => h1, fun _ => by rw [← h2]; rfl, h3⟩ rfl dL_simulate_19
