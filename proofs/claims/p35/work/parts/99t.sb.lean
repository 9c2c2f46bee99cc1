section GU
variable {V : gV} {G : gG} {cc : ByteArray} {nL : Nat} {own : String} {Ts : List Cond} {rm : Room} {cells slots : Nat} {ws : va_W} {lv : List (Nat × Value)} {pc : Nat} {rest : List Value}
theorem g_callUV (E : gE V G cc nL own Ts rm) {S : Type} {y : MethodName} {wsY wsY' : List Cond} {fr lo mc ms mL : Nat} {b : Nat} {As : List Value} {w : va_W} {post : S → Prop} {w' : S → va_W} {bytes : ByteArray}  {C : String} {index n : Nat} (hM : CV G y wsY fr lo (.ref b :: As) w post w' mc ms) {owner : String} {x : MethodName} (hG : GoodIn Ts (va_wsU own index C owner x y wsY)) (hwY : wsY = Cond.code y bytes mL none :: wsY') (hyx : y = ⟨owner, x.name, x.desc⟩) (hd : owner ≠ "java/lang/invoke/MethodHandle" ∧ owner ≠ "java/lang/invoke/VarHandle" ∧ (parseMethodDescriptor x.desc).map (fun d => d.parameters.length) = some n) (hR : fr + 1 ≤ rm.frames ∧ 8 + (mL + 11) + lo ≤ rm.locals) (ci q0 : Nat) {q : vw_C} {fs : List Value} (hc : vwCl[ci]? = some q) (hq : q.1 = C) (he : w[q0]? = some (b, .inr (ci, fs))) {F : va_W} (hp : gPerm ws (w ++ F)) (hn : As.length = n) {st : List Value} (hst : st = As.reverse ++ .ref b :: rest) (hr : (rest.map fun v => v.category).sum ≤ 8) (d : decode cc pc = .ok (.invokevirtual index, 3)) (hf : cells + mc ≤ rm.cells ∧ slots + ms ≤ rm.slots)
    (k : ∀ u : S, post u → gW V nL (cells + mc) (slots + ms) (w' u ++ F) lv (pc + 3) rest) : gW V nL cells slots ws lv pc st := by
  intro H locs ls hP hD hS hl
  subst hst
  have hd' := E.d
  have hSs : va_S (gvO V) (gvS V).heap H locs := E.h ▸ hS
  have hl' := E.la
  obtain rfl := E.r
  have hKc := E.k
  have hM' := hM H.size
  rw [hd'] at hKc
  rw [← hl'] at hM'
  have hPa := (hp (gvD V) H (gvO V)).1 hP
  have hDa := (hp (gvD V) H (gvO V)).2 hD
  have hPc : va_P (gvD V) vwCl w H := fun k q hk => hPa k q (g_app_l hk)
  have hPg : va_P (gd G) vwCl w H := by rw [← hd']; exact hPc
  have hDc : va_D (gvO V) w := ⟨fun i j p q hi hj he => hDa.1 i j p q (g_app_l hi) (g_app_l hj) he, fun k q hk => hDa.2 k q (g_app_l hk)⟩
  have hFc : ∀ q, va_A w H.size q → gvO V q := by
    rintro q (⟨k, e, hk⟩ | h)
    · exact hDc.2 k _ hk
    · exact E.o q (Nat.le_trans hS.1 h)
  refine va_callv (va_runU (As := As) (rest := rest) ⟨E.x, E.b, E.ml, E.ow, E.ts⟩ hM' (va_cwU n E.ts hG hwY rfl rfl hyx hd hR) ⟨gPre_blind, hq ▸ va_recv E.k hPc hc he, fun U hU hW => gPre_at hU hW hPg hKc hDc E.z hSs hFc⟩ rfl hn hl.1 rfl (lv_room hr) d hf) hS (fun q _ h => hFc q h) hFc (fun u t H1 locs1 ht hvm hw hB hz1 hk1 hS1 => ?_)
  obtain ⟨hP1, hK1, hD1⟩ := hB
  rw [ht] at hP1
  rw [← hd'] at hP1
  have hJ := g_join hPa hDa hk1 hFc hP1 hD1
  exact k u hw H1 locs1 ls hJ.1 hJ.2 hS1 hl
theorem g_callUVe (E : gE V G cc nL own Ts rm) {y : MethodName} {wsY wsY' : List Cond} {fr lo mc ms mL : Nat} {b : Nat} {As : List Value} {w w' : va_W} {bytes : ByteArray}  {C : String} {index n : Nat} (hM : CVe G y wsY fr lo (.ref b :: As) w w' mc ms) {owner : String} {x : MethodName} (hG : GoodIn Ts (va_wsU own index C owner x y wsY)) (hwY : wsY = Cond.code y bytes mL none :: wsY') (hyx : y = ⟨owner, x.name, x.desc⟩) (hd : owner ≠ "java/lang/invoke/MethodHandle" ∧ owner ≠ "java/lang/invoke/VarHandle" ∧ (parseMethodDescriptor x.desc).map (fun d => d.parameters.length) = some n) (hR : fr + 1 ≤ rm.frames ∧ 8 + (mL + 11) + lo ≤ rm.locals) (ci q0 : Nat) {q : vw_C} {fs : List Value} (hc : vwCl[ci]? = some q) (hq : q.1 = C) (he : w[q0]? = some (b, .inr (ci, fs))) {F : va_W} (hp : gPerm ws (w ++ F)) (hn : As.length = n) {st : List Value} (hst : st = As.reverse ++ .ref b :: rest) (hr : (rest.map fun v => v.category).sum ≤ 8) (d : decode cc pc = .ok (.invokevirtual index, 3)) (hf : cells + mc ≤ rm.cells ∧ slots + ms ≤ rm.slots) {ws2 : va_W} (hp2 : gPerm (w' ++ F) ws2)
    (k : gW V nL (cells + mc) (slots + ms) ws2 lv (pc + 3) rest) : gW V nL cells slots ws lv pc st := g_callUV E hM hG hwY hyx hd hR ci q0 hc hq he hp hn hst hr d hf (fun u h => g_perm hp2 k)
theorem g_callUI (E : gE V G cc nL own Ts rm) {S : Type} {y : MethodName} {wsY wsY' : List Cond} {fr lo mc ms mL : Nat} {b : Nat} {As : List Value} {w : va_W} {post : Int32 → S → Prop} {w' : S → va_W} {bytes : ByteArray} {ty : FieldType} {C : String} {index n : Nat} (hM : CI G y wsY fr lo (.ref b :: As) w post w' mc ms) {owner : String} {x : MethodName} (hG : GoodIn Ts (va_wsU own index C owner x y wsY)) (hwY : wsY = Cond.code y bytes mL (some ty) :: wsY') (hyx : y = ⟨owner, x.name, x.desc⟩) (hd : owner ≠ "java/lang/invoke/MethodHandle" ∧ owner ≠ "java/lang/invoke/VarHandle" ∧ (parseMethodDescriptor x.desc).map (fun d => d.parameters.length) = some n) (hR : fr + 1 ≤ rm.frames ∧ 8 + (mL + 11) + lo ≤ rm.locals) (ci q0 : Nat) {q : vw_C} {fs : List Value} (hc : vwCl[ci]? = some q) (hq : q.1 = C) (he : w[q0]? = some (b, .inr (ci, fs))) {F : va_W} (hp : gPerm ws (w ++ F)) (hn : As.length = n) {st : List Value} (hst : st = As.reverse ++ .ref b :: rest) (hr : (rest.map fun v => v.category).sum ≤ 8) (d : decode cc pc = .ok (.invokevirtual index, 3)) (hf : cells + mc ≤ rm.cells ∧ slots + ms ≤ rm.slots)
    (k : ∀ (r : Int32) (u : S), post r u → gW V nL (cells + mc) (slots + ms) (w' u ++ F) lv (pc + 3) (.int r :: rest)) : gW V nL cells slots ws lv pc st := by
  intro H locs ls hP hD hS hl
  subst hst
  have hd' := E.d
  have hSs : va_S (gvO V) (gvS V).heap H locs := E.h ▸ hS
  have hl' := E.la
  obtain rfl := E.r
  have hKc := E.k
  have hM' := hM H.size
  rw [hd'] at hKc
  rw [← hl'] at hM'
  have hPa := (hp (gvD V) H (gvO V)).1 hP
  have hDa := (hp (gvD V) H (gvO V)).2 hD
  have hPc : va_P (gvD V) vwCl w H := fun k q hk => hPa k q (g_app_l hk)
  have hPg : va_P (gd G) vwCl w H := by rw [← hd']; exact hPc
  have hDc : va_D (gvO V) w := ⟨fun i j p q hi hj he => hDa.1 i j p q (g_app_l hi) (g_app_l hj) he, fun k q hk => hDa.2 k q (g_app_l hk)⟩
  have hFc : ∀ q, va_A w H.size q → gvO V q := by
    rintro q (⟨k, e, hk⟩ | h)
    · exact hDc.2 k _ hk
    · exact E.o q (Nat.le_trans hS.1 h)
  refine va_calli (va_runU (As := As) (rest := rest) ⟨E.x, E.b, E.ml, E.ow, E.ts⟩ hM' (va_cwU n E.ts hG hwY rfl rfl hyx hd hR) ⟨gPre_blind, hq ▸ va_recv E.k hPc hc he, fun U hU hW => gPre_at hU hW hPg hKc hDc E.z hSs hFc⟩ rfl hn hl.1 rfl (lv_room hr) d hf) hS (fun q _ h => hFc q h) hFc (fun r u t H1 locs1 ht hvm hw hB hz1 hk1 hS1 => ?_)
  obtain ⟨hP1, hK1, hD1⟩ := hB
  rw [ht] at hP1
  rw [← hd'] at hP1
  have hJ := g_join hPa hDa hk1 hFc hP1 hD1
  exact k r u hw H1 locs1 ls hJ.1 hJ.2 hS1 hl
theorem g_callUIe (E : gE V G cc nL own Ts rm) {y : MethodName} {wsY wsY' : List Cond} {fr lo mc ms mL : Nat} {b : Nat} {As : List Value} {w w' : va_W} {r : Int32} {bytes : ByteArray} {ty : FieldType} {C : String} {index n : Nat} (hM : CIe G y wsY fr lo (.ref b :: As) w r w' mc ms) {owner : String} {x : MethodName} (hG : GoodIn Ts (va_wsU own index C owner x y wsY)) (hwY : wsY = Cond.code y bytes mL (some ty) :: wsY') (hyx : y = ⟨owner, x.name, x.desc⟩) (hd : owner ≠ "java/lang/invoke/MethodHandle" ∧ owner ≠ "java/lang/invoke/VarHandle" ∧ (parseMethodDescriptor x.desc).map (fun d => d.parameters.length) = some n) (hR : fr + 1 ≤ rm.frames ∧ 8 + (mL + 11) + lo ≤ rm.locals) (ci q0 : Nat) {q : vw_C} {fs : List Value} (hc : vwCl[ci]? = some q) (hq : q.1 = C) (he : w[q0]? = some (b, .inr (ci, fs))) {F : va_W} (hp : gPerm ws (w ++ F)) (hn : As.length = n) {st : List Value} (hst : st = As.reverse ++ .ref b :: rest) (hr : (rest.map fun v => v.category).sum ≤ 8) (d : decode cc pc = .ok (.invokevirtual index, 3)) (hf : cells + mc ≤ rm.cells ∧ slots + ms ≤ rm.slots) {ws2 : va_W} (hp2 : gPerm (w' ++ F) ws2)
    (k : gW V nL (cells + mc) (slots + ms) ws2 lv (pc + 3) (.int r :: rest)) : gW V nL cells slots ws lv pc st := g_callUI E hM hG hwY hyx hd hR ci q0 hc hq he hp hn hst hr d hf (fun r u h => by cases h; exact g_perm hp2 k)
theorem g_callSUR (E : gE V G cc nL own Ts rm) {S : Type} {y : MethodName} {wsY wsY' : List Cond} {fr lo mc ms mL : Nat} {b : Nat} {As : List Value} {w : va_W} {post : Nat → S → Prop} {w' : S → va_W} {bytes : ByteArray} {ty : FieldType} {C : String} {index n : Nat} (hM : CR G y wsY fr lo (.ref b :: As) w post w' mc ms) (hG : GoodIn Ts (va_wsSU own index y wsY)) (hwY : wsY = Cond.code y bytes mL (some ty) :: wsY') (hd : y.name ≠ "<init>" ∧ (parseMethodDescriptor y.desc).map (fun d => d.parameters.length) = some n) (hR : fr + 1 ≤ rm.frames ∧ 8 + (mL + 11) + lo ≤ rm.locals) (ci q0 : Nat) {q : vw_C} {fs : List Value} (hc : vwCl[ci]? = some q) (hq : q.1 = C) (he : w[q0]? = some (b, .inr (ci, fs))) {F : va_W} (hp : gPerm ws (w ++ F)) (hn : As.length = n) {st : List Value} (hst : st = As.reverse ++ .ref b :: rest) (hr : (rest.map fun v => v.category).sum ≤ 8) (d : decode cc pc = .ok (.invokespecial index, 3)) (hf : cells + mc ≤ rm.cells ∧ slots + ms ≤ rm.slots)
    (k : ∀ (r : Nat) (u : S), post r u → gW V nL (cells + mc) (slots + ms) (w' u ++ F) lv (pc + 3) (.ref r :: rest)) : gW V nL cells slots ws lv pc st := by
  intro H locs ls hP hD hS hl
  subst hst
  have hd' := E.d
  have hSs : va_S (gvO V) (gvS V).heap H locs := E.h ▸ hS
  have hl' := E.la
  obtain rfl := E.r
  have hKc := E.k
  have hM' := hM H.size
  rw [hd'] at hKc
  rw [← hl'] at hM'
  have hPa := (hp (gvD V) H (gvO V)).1 hP
  have hDa := (hp (gvD V) H (gvO V)).2 hD
  have hPc : va_P (gvD V) vwCl w H := fun k q hk => hPa k q (g_app_l hk)
  have hPg : va_P (gd G) vwCl w H := by rw [← hd']; exact hPc
  have hDc : va_D (gvO V) w := ⟨fun i j p q hi hj he => hDa.1 i j p q (g_app_l hi) (g_app_l hj) he, fun k q hk => hDa.2 k q (g_app_l hk)⟩
  have hFc : ∀ q, va_A w H.size q → gvO V q := by
    rintro q (⟨k, e, hk⟩ | h)
    · exact hDc.2 k _ hk
    · exact E.o q (Nat.le_trans hS.1 h)
  refine va_callr (va_runSU (hq ▸ (E.k.1 ci q hc).2) (As := As) (rest := rest) ⟨E.x, E.b, E.ml, E.ow, E.ts⟩ hM' (va_cwSU n E.ts hG hwY rfl rfl hd hR) ⟨gPre_blind, hq ▸ va_recv E.k hPc hc he, fun U hU hW => gPre_at hU hW hPg hKc hDc E.z hSs hFc⟩ rfl hn hl.1 rfl (lv_room hr) d hf) hS (fun q _ h => hFc q h) hFc (fun u ra t H1 locs1 ht hvm hw hB hz1 hk1 hS1 => ?_)
  obtain ⟨rfl, hP1, hK1, hD1⟩ := hB
  rw [ht] at hP1
  rw [← hd'] at hP1
  have hJ := g_join hPa hDa hk1 hFc hP1 hD1
  exact k u.1 u.2 hw H1 locs1 ls hJ.1 hJ.2 hS1 hl
theorem g_callSUI (E : gE V G cc nL own Ts rm) {S : Type} {y : MethodName} {wsY wsY' : List Cond} {fr lo mc ms mL : Nat} {b : Nat} {As : List Value} {w : va_W} {post : Int32 → S → Prop} {w' : S → va_W} {bytes : ByteArray} {ty : FieldType} {C : String} {index n : Nat} (hM : CI G y wsY fr lo (.ref b :: As) w post w' mc ms) (hG : GoodIn Ts (va_wsSU own index y wsY)) (hwY : wsY = Cond.code y bytes mL (some ty) :: wsY') (hd : y.name ≠ "<init>" ∧ (parseMethodDescriptor y.desc).map (fun d => d.parameters.length) = some n) (hR : fr + 1 ≤ rm.frames ∧ 8 + (mL + 11) + lo ≤ rm.locals) (ci q0 : Nat) {q : vw_C} {fs : List Value} (hc : vwCl[ci]? = some q) (hq : q.1 = C) (he : w[q0]? = some (b, .inr (ci, fs))) {F : va_W} (hp : gPerm ws (w ++ F)) (hn : As.length = n) {st : List Value} (hst : st = As.reverse ++ .ref b :: rest) (hr : (rest.map fun v => v.category).sum ≤ 8) (d : decode cc pc = .ok (.invokespecial index, 3)) (hf : cells + mc ≤ rm.cells ∧ slots + ms ≤ rm.slots)
    (k : ∀ (r : Int32) (u : S), post r u → gW V nL (cells + mc) (slots + ms) (w' u ++ F) lv (pc + 3) (.int r :: rest)) : gW V nL cells slots ws lv pc st := by
  intro H locs ls hP hD hS hl
  subst hst
  have hd' := E.d
  have hSs : va_S (gvO V) (gvS V).heap H locs := E.h ▸ hS
  have hl' := E.la
  obtain rfl := E.r
  have hKc := E.k
  have hM' := hM H.size
  rw [hd'] at hKc
  rw [← hl'] at hM'
  have hPa := (hp (gvD V) H (gvO V)).1 hP
  have hDa := (hp (gvD V) H (gvO V)).2 hD
  have hPc : va_P (gvD V) vwCl w H := fun k q hk => hPa k q (g_app_l hk)
  have hPg : va_P (gd G) vwCl w H := by rw [← hd']; exact hPc
  have hDc : va_D (gvO V) w := ⟨fun i j p q hi hj he => hDa.1 i j p q (g_app_l hi) (g_app_l hj) he, fun k q hk => hDa.2 k q (g_app_l hk)⟩
  have hFc : ∀ q, va_A w H.size q → gvO V q := by
    rintro q (⟨k, e, hk⟩ | h)
    · exact hDc.2 k _ hk
    · exact E.o q (Nat.le_trans hS.1 h)
  refine va_calli (va_runSU (hq ▸ (E.k.1 ci q hc).2) (As := As) (rest := rest) ⟨E.x, E.b, E.ml, E.ow, E.ts⟩ hM' (va_cwSU n E.ts hG hwY rfl rfl hd hR) ⟨gPre_blind, hq ▸ va_recv E.k hPc hc he, fun U hU hW => gPre_at hU hW hPg hKc hDc E.z hSs hFc⟩ rfl hn hl.1 rfl (lv_room hr) d hf) hS (fun q _ h => hFc q h) hFc (fun r u t H1 locs1 ht hvm hw hB hz1 hk1 hS1 => ?_)
  obtain ⟨hP1, hK1, hD1⟩ := hB
  rw [ht] at hP1
  rw [← hd'] at hP1
  have hJ := g_join hPa hDa hk1 hFc hP1 hD1
  exact k r u hw H1 locs1 ls hJ.1 hJ.2 hS1 hl
theorem g_callSUIe (E : gE V G cc nL own Ts rm) {y : MethodName} {wsY wsY' : List Cond} {fr lo mc ms mL : Nat} {b : Nat} {As : List Value} {w w' : va_W} {r : Int32} {bytes : ByteArray} {ty : FieldType} {C : String} {index n : Nat} (hM : CIe G y wsY fr lo (.ref b :: As) w r w' mc ms) (hG : GoodIn Ts (va_wsSU own index y wsY)) (hwY : wsY = Cond.code y bytes mL (some ty) :: wsY') (hd : y.name ≠ "<init>" ∧ (parseMethodDescriptor y.desc).map (fun d => d.parameters.length) = some n) (hR : fr + 1 ≤ rm.frames ∧ 8 + (mL + 11) + lo ≤ rm.locals) (ci q0 : Nat) {q : vw_C} {fs : List Value} (hc : vwCl[ci]? = some q) (hq : q.1 = C) (he : w[q0]? = some (b, .inr (ci, fs))) {F : va_W} (hp : gPerm ws (w ++ F)) (hn : As.length = n) {st : List Value} (hst : st = As.reverse ++ .ref b :: rest) (hr : (rest.map fun v => v.category).sum ≤ 8) (d : decode cc pc = .ok (.invokespecial index, 3)) (hf : cells + mc ≤ rm.cells ∧ slots + ms ≤ rm.slots) {ws2 : va_W} (hp2 : gPerm (w' ++ F) ws2)
    (k : gW V nL (cells + mc) (slots + ms) ws2 lv (pc + 3) (.int r :: rest)) : gW V nL cells slots ws lv pc st := g_callSUI E hM hG hwY hd hR ci q0 hc hq he hp hn hst hr d hf (fun r u h => by cases h; exact g_perm hp2 k)
theorem g_dup_x1 (E : gE V G cc nL own Ts rm) {x y : Value} (d : decode cc pc = .ok (.dup_x1, 1)) (hx : x.category = 1) (hy : y.category = 1) (k : gW V nL cells slots ws lv (pc + 1) (x :: y :: x :: rest)) : gW V nL cells slots ws lv pc (x :: y :: rest) := fun H locs ls hP hD hS hl => lv_dup_x1 E.x E.b d hx hy (k H locs ls hP hD hS hl)
theorem g_i2b (E : gE V G cc nL own Ts rm) {x v : Int32} (d : decode cc pc = .ok (.i2b, 1)) (hv : x.toInt8.toInt32 = v) (k : gW V nL cells slots ws lv (pc + 1) (.int v :: rest)) : gW V nL cells slots ws lv pc (.int x :: rest) := fun H locs ls hP hD hS hl => lv_i2b E.x E.b d hv (k H locs ls hP hD hS hl)
theorem g_ifnonnull (E : gE V G cc nL own Ts rm) {x : Nat} {off : Int} {tgt : Nat} (d : decode cc pc = .ok (.ifnonnull off, 3)) (ht : (pc : Int) + off = (tgt : Int)) (k : gW V nL cells slots ws lv tgt rest) : gW V nL cells slots ws lv pc (.ref x :: rest) := fun H locs ls hP hD hS hl => lv_ifnonnull E.x E.b d ht (k H locs ls hP hD hS hl)
theorem g_bast (E : gE V G cc nL own Ts rm) (q0 : Nat) {a n : Nat} {f : Nat → Int32} (ha : ws[q0]? = some (a, .inl (gy G 5, n, .inl f))) {i x : Int32} (hin : vp_in i n) {j : Nat} (hj : i.toNatClampNeg = j) {y : Int32} (hy : (vp_nar .byte x) = y) {ws' : va_W} (hw : ws.set q0 (a, .inl (gy G 5, n, .inl (upd f j y))) = ws') (d : decode cc pc = .ok (.bastore, 1)) (kk : gW V nL cells slots ws' lv (pc + 1) rest) : gW V nL cells slots ws lv pc (.int x :: .int i :: .ref a :: rest) := fun H locs ls hP hD hS hl => va_bast E.x E.b E.k hP hD hS q0 5 ha rfl hin d (fun H1 locs1 h1 h2 h3 => kk H1 locs1 ls (by rw [← hw, ← hj, ← hy]; exact h1) (by rw [← hw, ← hj, ← hy]; exact h2) h3 hl)
theorem g_bald (E : gE V G cc nL own Ts rm) (q0 : Nat) {a n : Nat} {f : Nat → Int32} (ha : ws[q0]? = some (a, .inl (gy G 5, n, .inl f))) {i : Int32} (hin : vp_in i n) {v : Int32} (hv : f i.toNatClampNeg = v) (d : decode cc pc = .ok (.baload, 1)) (kk : gW V nL cells slots ws lv (pc + 1) (.int v :: rest)) : gW V nL cells slots ws lv pc (.int i :: .ref a :: rest) := fun H locs ls hP hD hS hl => va_bald E.x E.b E.k hP q0 5 ha rfl hin d (hv ▸ kk H locs ls hP hD hS hl)
theorem g_tib {i : Nat} {C n ds : String} {l : List Int32} {e : Nat} {v : Int32} (E : gE V G cc nL own Ts rm) (hq : gArr[i]? = some (C, n, ds, .byte, l)) (he : e < l.length) (hn : Nat.ble l.length 2147483647 = true) (hv : l.getD e 0 = v) (d : decode cc pc = .ok (.baload, 1)) (k : gW V nL cells slots ws lv (pc + 1) (.int v :: rest)) : gW V nL cells slots ws lv pc (.int (nI e) :: .ref (gz G i) :: rest) := fun H locs ls hP hD hS hl =>
  va_tb E.x E.b (E.z.2.2.1 i _ hq).2 (E.h ▸ hS) (g_in he hn) (v := .int v) (by rw [nI_clamp (Nat.lt_trans he (g_le31 hn)), hv]) d (k H locs ls hP hD hS hl)
theorem g_copyb (E : gE V G cc nL own Ts rm) {index : Nat} (hlink : Cond.methodLink own index arraycopyName ∈ Ts) (hnat : Cond.native arraycopyName ∈ Ts) (hstat : Cond.static arraycopyName ∈ Ts) (hini : Cond.initialized "java/lang/System" ∈ Ts) (q0 q1 : Nat) {a0 a n0 n1 : Nat} {f g : Nat → Int32} (ha0 : ws[q0]? = some (a0, .inl (gy G 5, n0, .inl f))) (ha1 : ws[q1]? = some (a, .inl (gy G 5, n1, .inl g))) (hf : sb_Fit f) {sp dp n : Nat} (h1 : sp < 2 ^ 31) (h2 : dp < 2 ^ 31) (h3 : n < 2 ^ 31) (h4 : sp + n ≤ n0) (h5 : dp + n ≤ n1) (hfr : 1 ≤ rm.frames) (hlo : 8 + (nativeFrameWords "java/lang/System" "arraycopy" 5 + 11) ≤ rm.locals) (hr : (rest.map fun v => v.category).sum ≤ 8) {ws' : va_W} (hw : ws.set q1 (a, .inl (gy G 5, n1, .inl (va_cpy f g sp dp n))) = ws') (d : decode cc pc = .ok (.invokestatic index, 3)) (kk : gW V nL cells slots ws' lv (pc + 3) rest) : gW V nL cells slots ws lv pc (.int (nI n) :: .int (nI dp) :: .ref a :: .int (nI sp) :: .ref a0 :: rest) := fun H locs ls hP hD hS hl => by
  have hR := E.r
  refine va_copyi E.x E.b (E.ml.trans hl.1.symm) E.ow (E.ts _ hlink) (E.ts _ hnat) (E.ts _ hstat) (E.ts _ hini) E.k hP hD hS q0 q1 5 5 ha0 ha1 rfl rfl rfl (nI_pos h1) (nI_pos h2) (nI_pos h3) (by rw [nI_clamp h1, nI_clamp h3]; exact h4) (by rw [nI_clamp h2, nI_clamp h3]; exact h5) (fun _ _ => hf _) (by rw [hR]; exact hfr) (by rw [hR]; omega) d (fun H1 locs1 p1 p2 p3 => ?_)
  rw [nI_clamp h1, nI_clamp h2, nI_clamp h3, hw] at p1 p2
  exact kk H1 locs1 ls p1 p2 p3 hl
theorem g_copyt {i : Nat} {z : String × Nat × String × List Int32} (E : gE V G cc nL own Ts rm) (hq : gStr[i]? = some z) {index : Nat} (hlink : Cond.methodLink own index arraycopyName ∈ Ts) (hnat : Cond.native arraycopyName ∈ Ts) (hstat : Cond.static arraycopyName ∈ Ts) (hini : Cond.initialized "java/lang/System" ∈ Ts) (q1 : Nat) {a n1 : Nat} {g : Nat → Int32} (ha1 : ws[q1]? = some (a, .inl (gy G 5, n1, .inl g))) (hf : ∀ j, fits .byte (.int (z.2.2.2.getD j 0)) = true) {sp dp n : Nat} (h1 : sp < 2 ^ 31) (h2 : dp < 2 ^ 31) (h3 : n < 2 ^ 31) (h4 : sp + n ≤ z.2.2.2.length) (h5 : dp + n ≤ n1) (hfr : 1 ≤ rm.frames) (hlo : 8 + (nativeFrameWords "java/lang/System" "arraycopy" 5 + 11) ≤ rm.locals) (hr : (rest.map fun v => v.category).sum ≤ 8) {ws' : va_W} (hw : ws.set q1 (a, .inl (gy G 5, n1, .inl (va_cpy (fun j => z.2.2.2.getD j 0) g sp dp n))) = ws') (d : decode cc pc = .ok (.invokestatic index, 3)) (kk : gW V nL cells slots ws' lv (pc + 3) rest) : gW V nL cells slots ws lv pc (.int (nI n) :: .int (nI dp) :: .ref a :: .int (nI sp) :: .ref (gz G (101 + 2 * i)) :: rest) := fun H locs ls hP hD hS hl => by
  have hR := E.r
  refine vk_copyt E.x E.b (E.ml.trans hl.1.symm) E.ow (E.ts _ hlink) (E.ts _ hnat) (E.ts _ hstat) (E.ts _ hini) E.k hP hD (E.h ▸ hS) (E.z.2.2.2 i _ hq).2.2.2.2 q1 5 ha1 rfl (nI_pos h1) (nI_pos h2) (nI_pos h3) (by rw [nI_clamp h1, nI_clamp h3]; exact h4) (by rw [nI_clamp h2, nI_clamp h3]; exact h5) (fun _ _ => hf _) (by rw [hR]; exact hfr) (by rw [hR]; omega) d (fun H1 locs1 p1 p2 p3 => ?_)
  rw [nI_clamp h1, nI_clamp h2, nI_clamp h3, hw] at p1 p2
  exact kk H1 locs1 ls p1 p2 (by rw [E.h]; exact p3) hl
end GU
/-! ===== StringBuilder: numbers, digits, bytes ===== -/
theorem g_shl0 (x : Int32) : x <<< ((0 : Int32) &&& 31) = x := by
  rw [show ((0 : Int32) &&& 31) = 0 by decide]
  simp
theorem gSub_le {a b : Nat} (ha : a < 1073741824) (hb : b < 1073741824) : nI a - nI b ≤ 0 ↔ a ≤ b := by
  rw [Int32.le_iff_toInt_le, Int32.toInt_sub, nI_toInt (by omega), nI_toInt (by omega), show (0 : Int32).toInt = 0 by decide, Int.bmod_eq_of_le (by omega) (by omega)]
  omega
theorem gNeg_int {a : Nat} (ha : a < 1073741824) : (-(nI a)).toInt = -(a : Int) := by
  rw [Int32.toInt_neg, nI_toInt (by omega), Int.bmod_eq_of_le (by omega) (by omega)]
theorem gNeg_le {a b : Nat} (ha : a < 1073741824) (hb : b < 1073741824) : -(nI a) ≤ -(nI b) ↔ b ≤ a := by
  rw [Int32.le_iff_toInt_le, gNeg_int ha, gNeg_int hb]
  omega
theorem gNeg_lt {a b : Nat} (ha : a < 1073741824) (hb : b < 1073741824) : -(nI a) < -(nI b) ↔ b < a := by
  rw [Int32.lt_iff_toInt_lt, gNeg_int ha, gNeg_int hb]
  omega
theorem gNeg_mul {b : Nat} (hb : b < 100000000) : 10 * -(nI b) = -(nI (10 * b)) := by
  apply Int32.toInt_inj.mp
  rw [Int32.toInt_mul, gNeg_int (by omega), gNeg_int (by omega), show (10 : Int32).toInt = 10 by decide, Int.bmod_eq_of_le (by omega) (by omega)]
  omega
theorem gNeg_div {a : Nat} (ha : a < 1073741824) : -(nI a) / 100 = -(nI (a / 100)) := by
  have h1 : (-(a : Int)).tdiv 100 = -((a / 100 : Nat) : Int) := by
    rw [Int.neg_tdiv, Int.tdiv_eq_ediv_of_nonneg (by omega)]
    omega
  apply Int32.toInt_inj.mp
  rw [Int32.toInt_div, gNeg_int ha, gNeg_int (by omega), show (100 : Int32).toInt = 100 by decide, h1, Int.bmod_eq_of_le (by omega) (by omega)]
theorem gNeg_rem {a : Nat} (ha : a < 1073741824) : -(nI (a / 100)) * 100 - -(nI a) = nI (a % 100) := by
  apply Int32.toInt_inj.mp
  have h1 : (-(nI (a / 100)) * 100).toInt = -((a / 100 : Nat) : Int) * 100 := by
    rw [Int32.toInt_mul, gNeg_int (by omega), show (100 : Int32).toInt = 100 by decide, Int.bmod_eq_of_le (by omega) (by omega)]
  rw [Int32.toInt_sub, h1, gNeg_int ha, nI_toInt (by omega), Int.bmod_eq_of_le (by omega) (by omega)]
  omega
theorem gNegNeg (a : Nat) : -(-(nI a)) = nI a := Int32.neg_neg
theorem gOnes : ∀ r, r < 100 → ([48, 49, 50, 51, 52, 53, 54, 55, 56, 57, 48, 49, 50, 51, 52, 53, 54, 55, 56, 57, 48, 49, 50, 51, 52, 53, 54, 55, 56, 57, 48, 49, 50, 51, 52, 53, 54, 55, 56, 57, 48, 49, 50, 51, 52, 53, 54, 55, 56, 57, 48, 49, 50, 51, 52, 53, 54, 55, 56, 57, 48, 49, 50, 51, 52, 53, 54, 55, 56, 57, 48, 49, 50, 51, 52, 53, 54, 55, 56, 57, 48, 49, 50, 51, 52, 53, 54, 55, 56, 57, 48, 49, 50, 51, 52, 53, 54, 55, 56, 57] : List Int32).getD r 0 = nI (48 + r % 10) := by decide +kernel
theorem gTens : ∀ r, r < 100 → ([48, 48, 48, 48, 48, 48, 48, 48, 48, 48, 49, 49, 49, 49, 49, 49, 49, 49, 49, 49, 50, 50, 50, 50, 50, 50, 50, 50, 50, 50, 51, 51, 51, 51, 51, 51, 51, 51, 51, 51, 52, 52, 52, 52, 52, 52, 52, 52, 52, 52, 53, 53, 53, 53, 53, 53, 53, 53, 53, 53, 54, 54, 54, 54, 54, 54, 54, 54, 54, 54, 55, 55, 55, 55, 55, 55, 55, 55, 55, 55, 56, 56, 56, 56, 56, 56, 56, 56, 56, 56, 57, 57, 57, 57, 57, 57, 57, 57, 57, 57] : List Int32).getD r 0 = nI (48 + r / 10) := by decide +kernel
theorem gBy : ∀ c, c < 128 → (nI c).toInt8.toInt32 = nI c ∧ vp_nar .byte (nI c) = nI c ∧ fits .byte (.int (nI c)) = true ∧ ((nI c &&& 255).toUInt32 % 65536).toInt32 = nI c ∧ vp_nar .char (nI c) = nI c := by decide +kernel
/-- the digits of x, written backwards from e as far as p -/
def gDq (x e p : Nat) (f u : Nat → Int32) : Prop := ∀ j, u j = if p ≤ j ∧ j < e then nI (48 + x / 10 ^ (e - 1 - j) % 10) else f j
theorem gDq_0 (x e : Nat) (f : Nat → Int32) : gDq x e e f f := fun j => (if_neg (by omega)).symm
theorem gDq_st {x e p : Nat} {f u : Nat → Int32} {v : Int32} (h : gDq x e p f u) (hp : 0 < p) (hpe : p ≤ e) (hv : v = nI (48 + x / 10 ^ (e - p) % 10)) : gDq x e (p - 1) f (upd u (p - 1) v) := by
  intro j
  by_cases c : j = p - 1
  · rw [c, upd_eq rfl, if_pos (by omega), hv, show e - 1 - (p - 1) = e - p by omega]
  · rw [upd_ne c, h j]
    by_cases c2 : p ≤ j ∧ j < e
    · rw [if_pos c2, if_pos (by omega)]
    · rw [if_neg c2, if_neg (by omega)]
theorem gDiv10 (x t : Nat) : x / 10 ^ t / 10 = x / 10 ^ (t + 1) := by rw [Nat.div_div_eq_div_mul, Nat.pow_succ]
theorem gDiv100 (x t : Nat) : x / 10 ^ t / 100 = x / 10 ^ (t + 2) := by rw [Nat.div_div_eq_div_mul, Nat.pow_succ, Nat.pow_succ, Nat.mul_assoc]
theorem gMod100a (y : Nat) : y % 100 % 10 = y % 10 := by omega
theorem gMod100b (y : Nat) : y % 100 / 10 = y / 10 % 10 := by omega
theorem gDc_of {x t y : Nat} (hx : x < 100000) (hy : y = x / 10 ^ t) (h9 : y < 10) (h0 : t = 0 ∨ 1 ≤ y) : gDc x = t + 1 := by
  have e1 : (10 : Nat) ^ 1 = 10 := rfl
  have e2 : (10 : Nat) ^ 2 = 100 := rfl
  have e3 : (10 : Nat) ^ 3 = 1000 := rfl
  have e4 : (10 : Nat) ^ 4 = 10000 := rfl
  have e5 : (10 : Nat) ^ 5 = 100000 := rfl
  have ht : t < 5 := by
    rcases Nat.lt_or_ge t 5 with q | q
    · exact q
    · exfalso
      have h1 : 10 ^ 5 ≤ 10 ^ t := Nat.pow_le_pow_right (by decide) q
      have h2 : x / 10 ^ t = 0 := Nat.div_eq_of_lt (by omega)
      omega
  unfold gDc
  rcases (show t = 0 ∨ t = 1 ∨ t = 2 ∨ t = 3 ∨ t = 4 by omega) with rfl | rfl | rfl | rfl | rfl
  · rw [Nat.pow_zero, Nat.div_one] at hy
    rw [if_pos (by omega)]
  · rw [e1] at hy
    rw [if_neg (by omega), if_pos (by omega)]
  · rw [e2] at hy
    rw [if_neg (by omega), if_neg (by omega), if_pos (by omega)]
  · rw [e3] at hy
    rw [if_neg (by omega), if_neg (by omega), if_neg (by omega), if_pos (by omega)]
  · rw [e4] at hy
    rw [if_neg (by omega), if_neg (by omega), if_neg (by omega), if_neg (by omega)]
theorem gDk_get (v : Nat) : ∀ k i, i < k → (gDk v k).getD i 0 = nI (48 + v / 10 ^ (k - 1 - i) % 10)
  | 0, _, h => absurd h (Nat.not_lt_zero _)
  | k + 1, 0, _ => by
    rw [gDk]
    rfl
  | k + 1, i + 1, h => by
    rw [gDk, List.getD_cons_succ, gDk_get v k i (by omega)]
    rw [show k + 1 - 1 - (i + 1) = k - 1 - i by omega]
/-- a builder's bytes: a text of n letters in m bytes -/
def gBt (n : Nat) (L : List Int32) (m : Nat) (f : Nat → Int32) : Prop := (m = 16 ∨ m = 34) ∧ n ≤ m ∧ sb_Fit f ∧ L.length = n ∧ ∀ j, j < n → f j = L.getD j 0
theorem gBt_0 : gBt 0 [] 16 (fun _ => 0) := ⟨Or.inl rfl, Nat.zero_le _, sb_fit0, rfl, fun _ h => absurd h (Nat.not_lt_zero _)⟩
theorem gBt_put {n k m m' : Nat} {L A : List Int32} {f f' : Nat → Int32} (h : gBt n L m f) (hm : m' = 16 ∨ m' = 34) (hk : n + k ≤ m') (hA : A.length = k) (hf : sb_Fit f') (h1 : ∀ j, j < n → f' j = f j) (h2 : ∀ i, i < k → f' (n + i) = A.getD i 0) : gBt (n + k) (L ++ A) m' f' := by
  obtain ⟨-, h3, h4, h5, h6⟩ := h
  refine ⟨hm, hk, hf, by rw [List.length_append, h5, hA], fun j hj => ?_⟩
  by_cases c : j < n
  · rw [h1 j c, h6 j c, List.getD_eq_getElem?_getD, List.getD_eq_getElem?_getD, List.getElem?_append_left (by omega)]
  · have e := h2 (j - n) (by omega)
    rw [show n + (j - n) = j by omega] at e
    rw [e, List.getD_eq_getElem?_getD, List.getD_eq_getElem?_getD, List.getElem?_append_right (by omega), h5]
/-- behind ensureCapacity: at least q bytes, the first n as they were -/
def gCp (n q : Nat) (f : Nat → Int32) (m' : Nat) (f' : Nat → Int32) : Prop := (m' = 16 ∨ m' = 34) ∧ q ≤ m' ∧ sb_Fit f' ∧ ∀ j, j < n → f' j = f j
theorem gBt_dig {n x m m1 : Nat} {L : List Int32} {f f1 u : Nat → Int32} (h : gBt n L m f) (hc : gCp n (n + gDc x) f m1 f1) (hd : gDq x (n + gDc x) (n + gDc x - gDc x) f1 u) (hf : sb_Fit u) : gBt (n + gDc x) (L ++ gDgs x) m1 u := by
  obtain ⟨c1, c2, c3, c4⟩ := hc
  have e : n + gDc x - gDc x = n := by omega
  rw [e] at hd
  refine gBt_put h c1 c2 (gDk_len x _) hf (fun j hj => ?_) (fun i hi => ?_)
  · rw [hd j, if_neg (by omega)]
    exact c4 j hj
  · rw [hd (n + i), if_pos (by omega)]
    unfold gDgs
    rw [gDk_get x _ i hi, show n + gDc x - 1 - (n + i) = gDc x - 1 - i by omega]
theorem gFit_dig {x e p : Nat} {f u : Nat → Int32} (h : gDq x e p f u) (hf : sb_Fit f) : sb_Fit u := by
  intro j
  rw [h j]
  split
  · exact (gBy _ (by omega)).2.2.1
  · exact hf j
theorem gStr_fit : ∀ q ∈ gStr, ∀ v ∈ q.2.2.2, fits .byte (.int v) = true := by decide +kernel
theorem gStr_fitj {i : Nat} {z : String × Nat × String × List Int32} (hq : gStr[i]? = some z) (j : Nat) : fits .byte (.int (z.2.2.2.getD j 0)) = true := by
  by_cases c : j < z.2.2.2.length
  · rw [List.getD_eq_getElem?_getD, List.getElem?_eq_getElem c]
    exact gStr_fit z (List.mem_of_getElem? hq) _ (List.getElem_mem c)
  · rw [List.getD_eq_getElem?_getD, List.getElem?_eq_none (by omega)]
    show fits .byte (.int 0) = true
    decide
theorem gDc_ge {x k : Nat} (hx : x < 100000) (h : 10 ^ k ≤ x) : k + 1 ≤ gDc x := by
  have e1 : (10 : Nat) ^ 1 = 10 := rfl
  have e2 : (10 : Nat) ^ 2 = 100 := rfl
  have e3 : (10 : Nat) ^ 3 = 1000 := rfl
  have e4 : (10 : Nat) ^ 4 = 10000 := rfl
  have e5 : (10 : Nat) ^ 5 = 100000 := rfl
  have hk : k < 5 := by
    rcases Nat.lt_or_ge k 5 with q | q
    · exact q
    · have h1 : 10 ^ 5 ≤ 10 ^ k := Nat.pow_le_pow_right (by decide) q
      omega
  unfold gDc
  rcases (show k = 0 ∨ k = 1 ∨ k = 2 ∨ k = 3 ∨ k = 4 by omega) with rfl | rfl | rfl | rfl | rfl
  · repeat' split
    all_goals omega
  · rw [e1] at h
    repeat' split
    all_goals omega
  · rw [e2] at h
    repeat' split
    all_goals omega
  · rw [e3] at h
    repeat' split
    all_goals omega
  · rw [e4] at h
    repeat' split
    all_goals omega
theorem gDc_pos {x t y e p : Nat} (hx : x < 100000) (hy : y = x / 10 ^ t) (h0 : t = 0 ∨ 1 ≤ y) (he : gDc x ≤ e) (ht : p + t = e) : 0 < p := by
  have h1 := (gDc_le x).1
  rcases h0 with h | h
  · omega
  · rw [hy, Nat.le_div_iff_mul_le (Nat.pow_pos (by decide)), Nat.one_mul] at h
    have := gDc_ge hx h
    omega
theorem gDc_big {x t y e p : Nat} (hx : x < 100000) (hy : y = x / 10 ^ t) (h : 100 ≤ y) (he : gDc x ≤ e) (ht : p + t = e) : 2 < p := by
  rw [hy, Nat.le_div_iff_mul_le (Nat.pow_pos (by decide))] at h
  have h2 : 10 ^ (t + 2) ≤ x := by
    rw [Nat.pow_succ, Nat.pow_succ]
    omega
  have := gDc_ge hx h2
  omega
theorem gDc_1 {v : Nat} (h : v < 10) : gDc v = 1 := if_pos h
theorem gDc_2 {v : Nat} (h : v < 100) : 1 ≤ gDc v ∧ gDc v ≤ 2 := by
  unfold gDc
  repeat' split
  all_goals omega
theorem gGetD {L : List Int32} {i : Nat} {a b : Int32} (h : i < L.length) : L.getD i a = L.getD i b := by
  rw [List.getD_eq_getElem?_getD, List.getD_eq_getElem?_getD, List.getElem?_eq_getElem h]
  rfl
theorem gDk_asc (v : Nat) : ∀ k, ∀ x ∈ gDk v k, ∃ c, c < 128 ∧ x = nI c
  | 0, x, h => by cases h
  | k + 1, x, h => by
    rw [gDk] at h
    rcases List.mem_cons.mp h with h | h
    · exact ⟨48 + v / 10 ^ k % 10, by omega, h⟩
    · exact gDk_asc v k x h
theorem gLine_mem (S : gSt) (k : Nat) : ∀ x ∈ gLine S k, ∃ c, c < 128 ∧ x = nI c := by
  intro x h
  have lit : ∀ L : List Nat, (∀ c ∈ L, c < 128) → ∀ x ∈ L.map nI, ∃ c, c < 128 ∧ x = nI c := by
    intro L hL x hx
    obtain ⟨c, hc, rfl⟩ := List.mem_map.mp hx
    exact ⟨c, hL c hc, rfl⟩
  have l1 := lit [100] (by decide)
  have l2 := lit [104] (by decide)
  have l3 := lit [32, 112] (by decide)
  have l4 := lit [32, 118] (by decide)
  have l5 := lit [43] (by decide)
  have l6 := lit [33] (by decide)
  unfold gLine at h
  simp only [List.mem_append] at h
  rcases h with (((((((((((h | h) | h) | h) | h) | h) | h) | h) | h) | h) | h))
  · exact gDk_asc _ _ x h
  · exact l1 x h
  · exact gDk_asc _ _ x h
  · exact l2 x h
  · exact gDk_asc _ _ x h
  · exact l3 x h
  · exact gDk_asc _ _ x h
  · exact l4 x h
  · exact gDk_asc _ _ x h
  · split at h
    · rcases List.mem_append.mp h with h | h
      · exact l5 x h
      · exact gDk_asc _ _ x h
    · cases h
  · split at h
    · exact l6 x h
    · cases h
theorem gLine_asc (S : gSt) (k i : Nat) (h : i < (gLine S k).length) : ∃ c, c < 128 ∧ (gLine S k).getD i 0 = nI c := by
  have e : (gLine S k).getD i 0 = (gLine S k)[i] := by
    rw [List.getD_eq_getElem?_getD, List.getElem?_eq_getElem h]
    rfl
  rw [e]
  exact gLine_mem S k _ (List.getElem_mem h)
section
variable {V : gV} {G : gG} {cc : ByteArray} {nL : Nat} {own : String} {Ts : List Cond} {rm : Room} {cells slots : Nat} {ws : va_W} {lv : List (Nat × Value)} {pc : Nat} {rest : List Value}
theorem g_callOV (E : gE V G cc nL own Ts rm) {S : Type} {y : MethodName} {wsY wsY' : List Cond} {fr lo mc ms mL : Nat} {As : List Value} {w : va_W} {post : S → Prop} {w' : S → va_W} {bytes : ByteArray} {index n : Nat} {i : Nat} {z : String × Nat × String × List Int32} (hM : CV G y wsY fr lo (.ref (gz G (100 + 2 * i)) :: As) w post w' mc ms) (hG : GoodIn Ts (wsV own index "java/lang/String" y wsY)) (hwY : wsY = Cond.code y bytes mL none :: wsY') (hd : y.cls = "java/lang/String" ∧ y.cls ≠ "java/lang/invoke/MethodHandle" ∧ y.cls ≠ "java/lang/invoke/VarHandle" ∧ (parseMethodDescriptor y.desc).map (fun d => d.parameters.length) = some n) (hR : fr + 1 ≤ rm.frames ∧ 8 + (mL + 11) + lo ≤ rm.locals) (hq : gStr[i]? = some z) {F : va_W} (hp : gPerm ws (w ++ F)) (hn : As.length = n) {st : List Value} (hst : st = As.reverse ++ .ref (gz G (100 + 2 * i)) :: rest) (hr : (rest.map fun v => v.category).sum ≤ 8) (d : decode cc pc = .ok (.invokevirtual index, 3)) (hf : cells + mc ≤ rm.cells ∧ slots + ms ≤ rm.slots)
    (k : ∀ u : S, post u → gW V nL (cells + mc) (slots + ms) (w' u ++ F) lv (pc + 3) rest) : gW V nL cells slots ws lv pc st := by
  intro H locs ls hP hD hS hl
  subst hst
  have hd' := E.d
  have hSs : va_S (gvO V) (gvS V).heap H locs := E.h ▸ hS
  have hl' := E.la
  obtain rfl := E.r
  have hKc := E.k
  have hM' := hM H.size
  rw [hd'] at hKc
  rw [← hl'] at hM'
  have hPa := (hp (gvD V) H (gvO V)).1 hP
  have hDa := (hp (gvD V) H (gvO V)).2 hD
  have hPc : va_P (gvD V) vwCl w H := fun k q hk => hPa k q (g_app_l hk)
  have hPg : va_P (gd G) vwCl w H := by rw [← hd']; exact hPc
  have hDc : va_D (gvO V) w := ⟨fun i j p q hi hj he => hDa.1 i j p q (g_app_l hi) (g_app_l hj) he, fun k q hk => hDa.2 k q (g_app_l hk)⟩
  have hFc : ∀ q, va_A w H.size q → gvO V q := by
    rintro q (⟨k, e, hk⟩ | h)
    · exact hDc.2 k _ hk
    · exact E.o q (Nat.le_trans hS.1 h)
  refine va_callv (va_runV (As := As) (rest := rest) ⟨E.x, E.b, E.ml, E.ow, E.ts⟩ hM' (cwV n E.ts hG hwY rfl rfl hd hR) ⟨gPre_blind, va_Orecv (E.z.2.2.2 i _ hq).2.1 hSs, fun U hU hW => gPre_at hU hW hPg hKc hDc E.z hSs hFc⟩ rfl hn hl.1 rfl (lv_room hr) d hf) hS (fun q _ h => hFc q h) hFc (fun u t H1 locs1 ht hvm hw hB hz1 hk1 hS1 => ?_)
  obtain ⟨hP1, hK1, hD1⟩ := hB
  rw [ht] at hP1
  rw [← hd'] at hP1
  have hJ := g_join hPa hDa hk1 hFc hP1 hD1
  exact k u hw H1 locs1 ls hJ.1 hJ.2 hS1 hl
theorem g_callOVe (E : gE V G cc nL own Ts rm) {y : MethodName} {wsY wsY' : List Cond} {fr lo mc ms mL : Nat} {As : List Value} {w : va_W} {w' : va_W} {bytes : ByteArray} {index n : Nat} {i : Nat} {z : String × Nat × String × List Int32} (hM : CVe G y wsY fr lo (.ref (gz G (100 + 2 * i)) :: As) w w' mc ms) (hG : GoodIn Ts (wsV own index "java/lang/String" y wsY)) (hwY : wsY = Cond.code y bytes mL none :: wsY') (hd : y.cls = "java/lang/String" ∧ y.cls ≠ "java/lang/invoke/MethodHandle" ∧ y.cls ≠ "java/lang/invoke/VarHandle" ∧ (parseMethodDescriptor y.desc).map (fun d => d.parameters.length) = some n) (hR : fr + 1 ≤ rm.frames ∧ 8 + (mL + 11) + lo ≤ rm.locals) (hq : gStr[i]? = some z) {F : va_W} (hp : gPerm ws (w ++ F)) (hn : As.length = n) {st : List Value} (hst : st = As.reverse ++ .ref (gz G (100 + 2 * i)) :: rest) (hr : (rest.map fun v => v.category).sum ≤ 8) (d : decode cc pc = .ok (.invokevirtual index, 3)) (hf : cells + mc ≤ rm.cells ∧ slots + ms ≤ rm.slots) {ws2 : va_W} (hp2 : gPerm (w' ++ F) ws2)
    (k : gW V nL (cells + mc) (slots + ms) ws2 lv (pc + 3) rest) : gW V nL cells slots ws lv pc st := g_callOV E hM hG hwY hd hR hq hp hn hst hr d hf (fun u h => g_perm hp2 k)
end
theorem hqUJ5_newCapacity_0f7a4 : yJ5_newCapacity_0f7a4.cls ≠ "java/lang/invoke/MethodHandle" ∧ yJ5_newCapacity_0f7a4.cls ≠ "java/lang/invoke/VarHandle" ∧ (parseMethodDescriptor yJ5_newCapacity_0f7a4.desc).map (fun d => d.parameters.length) = some 1 := by decide +kernel
theorem hqUJ5_ensureCapacityInternal_d00df : yJ5_ensureCapacityInternal_d00df.cls ≠ "java/lang/invoke/MethodHandle" ∧ yJ5_ensureCapacityInternal_d00df.cls ≠ "java/lang/invoke/VarHandle" ∧ (parseMethodDescriptor yJ5_ensureCapacityInternal_d00df.desc).map (fun d => d.parameters.length) = some 1 := by decide +kernel
theorem hqUJ5_isLatin1_aae02 : yJ5_isLatin1_aae02.cls ≠ "java/lang/invoke/MethodHandle" ∧ yJ5_isLatin1_aae02.cls ≠ "java/lang/invoke/VarHandle" ∧ (parseMethodDescriptor yJ5_isLatin1_aae02.desc).map (fun d => d.parameters.length) = some 0 := by decide +kernel
theorem hqSUJ5_append_3fe6f : yJ5_append_3fe6f.name ≠ "<init>" ∧ (parseMethodDescriptor yJ5_append_3fe6f.desc).map (fun d => d.parameters.length) = some 1 := by decide +kernel
theorem hqSUJ5_append_c97b9 : yJ5_append_c97b9.name ≠ "<init>" ∧ (parseMethodDescriptor yJ5_append_c97b9.desc).map (fun d => d.parameters.length) = some 1 := by decide +kernel
theorem hqUJ5_inflateIfNeededFor_a7421 : yJ5_inflateIfNeededFor_a7421.cls ≠ "java/lang/invoke/MethodHandle" ∧ yJ5_inflateIfNeededFor_a7421.cls ≠ "java/lang/invoke/VarHandle" ∧ (parseMethodDescriptor yJ5_inflateIfNeededFor_a7421.desc).map (fun d => d.parameters.length) = some 1 := by decide +kernel
theorem hqUJ5_putStringAt_47b60 : yJ5_putStringAt_47b60.cls ≠ "java/lang/invoke/MethodHandle" ∧ yJ5_putStringAt_47b60.cls ≠ "java/lang/invoke/VarHandle" ∧ (parseMethodDescriptor yJ5_putStringAt_47b60.desc).map (fun d => d.parameters.length) = some 2 := by decide +kernel
theorem hqSUJ5_append_cf1ce : yJ5_append_cf1ce.name ≠ "<init>" ∧ (parseMethodDescriptor yJ5_append_cf1ce.desc).map (fun d => d.parameters.length) = some 1 := by decide +kernel
theorem hqSUJ5_length_8abf5 : yJ5_length_8abf5.name ≠ "<init>" ∧ (parseMethodDescriptor yJ5_length_8abf5.desc).map (fun d => d.parameters.length) = some 0 := by decide +kernel
theorem hqSUJ5_charAt_5068e : yJ5_charAt_5068e.name ≠ "<init>" ∧ (parseMethodDescriptor yJ5_charAt_5068e.desc).map (fun d => d.parameters.length) = some 1 := by decide +kernel
set_option maxHeartbeats 4000000 in
set_option maxRecDepth 100000 in
theorem mJ8_newLength_cabcc (G : gG) (x : Nat) (hx : x ≤ 18) : CIe G yJ8_newLength_cabcc wsJ8_newLength_cabcc 2 82 [.int 16, .int (nI x), .int 18] [] (34) [] 0 0 := by
  refine g_enterIe (ty := .int) RJ8 rfl (by decide) rfl (Nat.le_of_ble_eq_true rfl) ?_
  intro V E RET
  refine g_iload_n E dJ8_newLength_cabcc_0 rfl 0 rfl ?_
  refine g_iload_n E dJ8_newLength_cabcc_1 rfl 1 rfl ?_
  refine g_iload_n E dJ8_newLength_cabcc_2 rfl 2 rfl ?_
  refine g_mmax E (by decide +kernel) (by decide +kernel) (by decide +kernel) (by decide +kernel) (Nat.le_of_ble_eq_true rfl) (Nat.le_of_ble_eq_true rfl) (Nat.le_of_ble_eq_true rfl) (Nat.le_of_ble_eq_true rfl) (Nat.le_of_ble_eq_true rfl) dJ8_newLength_cabcc_3 ?_
  refine g_top (y := nI (max x 18)) (g_max_N (a := x) (b := 18) (by omega) (by omega)) ?_
  refine g_iaddN (a := 16) (b := max x 18) E dJ8_newLength_cabcc_6 ?_
  refine g_istore_n (lv' := [(3, .int (nI (16 + (max x 18)))), (0, .int 16), (1, .int (nI x)), (2, .int 18)]) E dJ8_newLength_cabcc_7 rfl (by decide) rfl ?_
  refine g_iconst (v := 0) E dJ8_newLength_cabcc_8 (by decide) ?_
  refine g_iload_n E dJ8_newLength_cabcc_9 rfl 0 rfl ?_
  refine g_icmp_geN (tgt := 21) (a := 0) (b := 16 + (max x 18)) E dJ8_newLength_cabcc_10 (by decide) (by omega) (by omega) (fun c1 => ?_) (fun c1 => ?_)
  · exfalso
    omega
  · skip
    refine g_iload_n E dJ8_newLength_cabcc_13 rfl 0 rfl ?_
    refine g_ldc (v := 2147483639) E kJ8_newLength_cabcc_200 dJ8_newLength_cabcc_14 ?_
    refine g_icmp_gtN (tgt := 21) (a := 16 + (max x 18)) (b := 2147483639) E dJ8_newLength_cabcc_16 (by decide) (by omega) (by omega) (fun c2 => ?_) (fun c2 => ?_)
    · exfalso
      omega
    · skip
      refine g_iload_n E dJ8_newLength_cabcc_19 rfl 0 rfl ?_
      exact RET _ _ _ () (by rw [show 16 + max x 18 = 34 by omega]; rfl) rfl dJ8_newLength_cabcc_20
set_option maxHeartbeats 4000000 in
set_option maxRecDepth 100000 in
theorem mJ5_newCapacity_0f7a4 (G : gG) (b v n : Nat) (f : Nat → Int32) (q : Nat) (hq : 16 < q) (hq34 : q ≤ 34) : CIe G yJ5_newCapacity_0f7a4 wsJ5_newCapacity_0f7a4 3 105 [.ref b, .int (nI q)] [(b, .inr (0, [.ref v, .int 0, .int 0, .int (nI n)])), (v, .inl (gy G 5, 16, .inl f))] (34) [(b, .inr (0, [.ref v, .int 0, .int 0, .int (nI n)])), (v, .inl (gy G 5, 16, .inl f))] 0 0 := by
  refine g_enterIe (ty := .int) RJ5 rfl (by decide) rfl (Nat.le_of_ble_eq_true rfl) ?_
  intro V E RET
  refine g_aload_n E dJ5_newCapacity_0f7a4_0 rfl 0 rfl ?_
  refine g_get E uJ5_newCapacity_0f7a4_RJ4 0 rfl rfl 0 (by decide) kJ5_newCapacity_0f7a4_15 rfl rfl dJ5_newCapacity_0f7a4_1 ?_
  refine g_alen (v := 16) E 1 5 rfl rfl (by first | rfl | decide) dJ5_newCapacity_0f7a4_4 ?_
  refine g_istore_n (lv' := [(2, .int 16), (0, .ref b), (1, .int (nI q))]) E dJ5_newCapacity_0f7a4_5 rfl (by decide) rfl ?_
  refine g_iload_n E dJ5_newCapacity_0f7a4_6 rfl 2 rfl ?_
  refine g_aload_n E dJ5_newCapacity_0f7a4_7 rfl 1 rfl ?_
  refine g_get E uJ5_newCapacity_0f7a4_RJ4 0 rfl rfl 1 (by decide) kJ5_newCapacity_0f7a4_22 rfl rfl dJ5_newCapacity_0f7a4_8 ?_
  refine g_ishl E dJ5_newCapacity_0f7a4_11 ?_
  refine g_top (y := nI q) (g_shl0 _) ?_
  refine g_istore_n (lv' := [(3, .int (nI q)), (2, .int 16), (0, .ref b), (1, .int (nI q))]) E dJ5_newCapacity_0f7a4_12 rfl (by decide) rfl ?_
  refine g_iload_n E dJ5_newCapacity_0f7a4_13 rfl 0 rfl ?_
  refine g_iload_n E dJ5_newCapacity_0f7a4_14 rfl 1 rfl ?_
  refine g_isubN (a := q) (b := 16) E dJ5_newCapacity_0f7a4_15 (by omega) ?_
  refine g_istore (lv' := [(4, .int (nI (q - 16))), (3, .int (nI q)), (2, .int 16), (0, .ref b), (1, .int (nI q))]) E dJ5_newCapacity_0f7a4_16 (by decide) rfl ?_
  refine g_iload_n E dJ5_newCapacity_0f7a4_18 rfl 2 rfl ?_
  refine g_iload E dJ5_newCapacity_0f7a4_19 0 rfl ?_
  refine g_iload_n E dJ5_newCapacity_0f7a4_21 rfl 2 rfl ?_
  refine g_iconst (v := 2) E dJ5_newCapacity_0f7a4_22 (by decide) ?_
  refine g_aload_n E dJ5_newCapacity_0f7a4_23 rfl 3 rfl ?_
  refine g_get E uJ5_newCapacity_0f7a4_RJ4 0 rfl rfl 1 (by decide) kJ5_newCapacity_0f7a4_22 rfl rfl dJ5_newCapacity_0f7a4_24 ?_
  refine g_ishl E dJ5_newCapacity_0f7a4_27 ?_
  refine g_top (y := 2) (g_shl0 _) ?_
  refine g_iaddN (a := 16) (b := 2) E dJ5_newCapacity_0f7a4_28 ?_
  refine g_callSIe (F := [(b, .inr (0, [.ref v, .int 0, .int 0, .int (nI n)])), (v, .inl (gy G 5, 16, .inl f))]) (ws2 := [(b, .inr (0, [.ref v, .int 0, .int 0, .int (nI n)])), (v, .inl (gy G 5, 16, .inl f))]) E (mJ8_newLength_cabcc G (q - 16) (by omega)) gJ5_newCapacity_0f7a4_J8_newLength_cabcc rfl hnJ8_newLength_cabcc ⟨Nat.le_of_ble_eq_true rfl, Nat.le_of_ble_eq_true rfl⟩ (gPerm_ix [0, 1] rfl rfl) rfl rfl (Nat.le_of_ble_eq_true rfl) dJ5_newCapacity_0f7a4_29 ⟨Nat.le_of_ble_eq_true rfl, Nat.le_of_ble_eq_true rfl⟩ (gPerm_ix [0, 1] rfl rfl) ?_
  refine g_istore (lv' := [(5, .int 34), (4, .int (nI (q - 16))), (3, .int (nI q)), (2, .int 16), (0, .ref b), (1, .int (nI q))]) E dJ5_newCapacity_0f7a4_32 (by decide) rfl ?_
  refine g_iload E dJ5_newCapacity_0f7a4_34 0 rfl ?_
  refine g_ldc (v := 2147483647) E kJ5_newCapacity_0f7a4_39 dJ5_newCapacity_0f7a4_36 ?_
  refine g_icmp_ne (tgt := 51) E dJ5_newCapacity_0f7a4_38 (by decide) (fun _ => ?_) (fun c => absurd c (by decide))
  refine g_iload E dJ5_newCapacity_0f7a4_51 0 rfl ?_
  refine g_aload_n E dJ5_newCapacity_0f7a4_53 rfl 4 rfl ?_
  refine g_get E uJ5_newCapacity_0f7a4_RJ4 0 rfl rfl 1 (by decide) kJ5_newCapacity_0f7a4_22 rfl rfl dJ5_newCapacity_0f7a4_54 ?_
  refine g_ishr E dJ5_newCapacity_0f7a4_57 ?_
  refine g_top (y := 34) (g_shr0 _) ?_
  exact RET _ _ _ () (rfl) rfl dJ5_newCapacity_0f7a4_58
set_option maxHeartbeats 4000000 in
set_option maxRecDepth 100000 in
theorem mJ7_copyOf_9075b (G : gG) (v : Nat) (f : Nat → Int32) (hf : sb_Fit f) : CR G yJ7_copyOf_9075b wsJ7_copyOf_9075b 1 60 [.ref v, .int 34] [(v, .inl (gy G 5, 16, .inl f))] (fun (r : Nat) (u : Nat) => r = u) (fun u : Nat => [(v, .inl (gy G 5, 16, .inl f)), (u, .inl (gy G 5, 34, .inl (va_cpy f (fun _ => 0) 0 0 16)))]) 1 34 := by
  refine g_enterR (ty := (.array .byte)) RJ7 rfl (by decide) rfl (Nat.le_of_ble_eq_true rfl) (by first | exact Or.inl ⟨_, rfl⟩ | exact Or.inr ⟨_, rfl⟩) ?_
  intro V E RET
  refine g_iload_n E dJ7_copyOf_9075b_0 rfl 1 rfl ?_
  refine g_aload_n E dJ7_copyOf_9075b_1 rfl 0 rfl ?_
  refine g_alen (v := 16) E 0 5 rfl rfl (by first | rfl | decide) dJ7_copyOf_9075b_2 ?_
  refine g_icmp_ne (tgt := 14) E dJ7_copyOf_9075b_3 (by decide) (fun _ => ?_) (fun c => absurd c (by decide))
  refine g_iload_n E dJ7_copyOf_9075b_14 rfl 1 rfl ?_
  refine g_newa (atype := .byte) (ty := .byte) (a0 := (34, .inl (fun _ => 0))) (N := 34) E 5 rfl rfl (by decide +kernel) (fun _ => rfl) (by decide) (by decide) (by decide) (Nat.le_of_ble_eq_true rfl) (Nat.le_of_ble_eq_true rfl) dJ7_copyOf_9075b_15 (fun q1 => ?_)
  refine g_ws (ws' := [(v, .inl (gy G 5, 16, .inl f)), (q1, .inl (gy G 5, 34, .inl (fun _ => 0)))]) rfl ?_
  refine g_astore_n (lv' := [(2, .ref q1), (0, .ref v), (1, .int 34)]) E dJ7_copyOf_9075b_17 rfl (by decide) rfl ?_
  refine g_aload_n E dJ7_copyOf_9075b_18 rfl 1 rfl ?_
  refine g_iconst (v := 0) E dJ7_copyOf_9075b_19 (by decide) ?_
  refine g_aload_n E dJ7_copyOf_9075b_20 rfl 0 rfl ?_
  refine g_iconst (v := 0) E dJ7_copyOf_9075b_21 (by decide) ?_
  refine g_aload_n E dJ7_copyOf_9075b_22 rfl 1 rfl ?_
  refine g_alen (v := 16) E 0 5 rfl rfl (by first | rfl | decide) dJ7_copyOf_9075b_23 ?_
  refine g_iload_n E dJ7_copyOf_9075b_24 rfl 2 rfl ?_
  refine g_mmin E (by decide +kernel) (by decide +kernel) (by decide +kernel) (by decide +kernel) (Nat.le_of_ble_eq_true rfl) (Nat.le_of_ble_eq_true rfl) (Nat.le_of_ble_eq_true rfl) (Nat.le_of_ble_eq_true rfl) (Nat.le_of_ble_eq_true rfl) dJ7_copyOf_9075b_25 ?_
  refine g_top (y := nI (min 16 34)) (g_min_N (a := 16) (b := 34) (by omega) (by omega)) ?_
  refine g_top (y := 16) rfl ?_
  refine g_copyb (ws' := [(v, .inl (gy G 5, 16, .inl f)), (q1, .inl (gy G 5, 34, .inl (va_cpy f (fun _ => 0) 0 0 16)))]) (sp := 0) (dp := 0) (n := 16) E (by decide +kernel) (by decide +kernel) (by decide +kernel) (by decide +kernel) 0 1 rfl rfl hf (by omega) (by omega) (by omega) (by omega) (by omega) (Nat.le_of_ble_eq_true rfl) (Nat.le_of_ble_eq_true rfl) (Nat.le_of_ble_eq_true rfl) rfl dJ7_copyOf_9075b_28 ?_
  refine g_aload_n E dJ7_copyOf_9075b_31 rfl 0 rfl ?_
  exact RET _ _ _ q1 (rfl) dJ7_copyOf_9075b_32
set_option maxHeartbeats 4000000 in
set_option maxRecDepth 100000 in
theorem mJ5_ensureCapacityInternal_d00df (G : gG) (b v n m : Nat) (f : Nat → Int32) (q : Nat) (hm : m = 16 ∨ m = 34) (hnm : n ≤ m) (hf : sb_Fit f) (hq34 : q ≤ 34) : CV G yJ5_ensureCapacityInternal_d00df wsJ5_ensureCapacityInternal_d00df 4 130 [.ref b, .int (nI q)] [(b, .inr (0, [.ref v, .int 0, .int 0, .int (nI n)])), (v, .inl (gy G 5, m, .inl f))] (fun u : Nat × Nat × (Nat → Int32) => gCp n q f u.2.1 u.2.2) (fun u : Nat × Nat × (Nat → Int32) => [(b, .inr (0, [.ref u.1, .int 0, .int 0, .int (nI n)])), (u.1, .inl (gy G 5, u.2.1, .inl u.2.2))]) 1 34 := by
  refine g_enterV RJ5 rfl (by decide) rfl (Nat.le_of_ble_eq_true rfl) ?_
  intro V E RET
  refine g_aload_n E dJ5_ensureCapacityInternal_d00df_0 rfl 0 rfl ?_
  refine g_get E uJ5_ensureCapacityInternal_d00df_RJ4 0 rfl rfl 0 (by decide) kJ5_ensureCapacityInternal_d00df_15 rfl rfl dJ5_ensureCapacityInternal_d00df_1 ?_
  refine g_alen (v := nI m) E 1 5 rfl rfl (by first | rfl | decide) dJ5_ensureCapacityInternal_d00df_4 ?_
  refine g_aload_n E dJ5_ensureCapacityInternal_d00df_5 rfl 0 rfl ?_
  refine g_get E uJ5_ensureCapacityInternal_d00df_RJ4 0 rfl rfl 1 (by decide) kJ5_ensureCapacityInternal_d00df_22 rfl rfl dJ5_ensureCapacityInternal_d00df_6 ?_
  refine g_ishr E dJ5_ensureCapacityInternal_d00df_9 ?_
  refine g_top (y := nI m) (g_shr0 _) ?_
  refine g_istore_n (lv' := [(2, .int (nI m)), (0, .ref b), (1, .int (nI q))]) E dJ5_ensureCapacityInternal_d00df_10 rfl (by decide) rfl ?_
  refine g_iload_n E dJ5_ensureCapacityInternal_d00df_11 rfl 2 rfl ?_
  refine g_iload_n E dJ5_ensureCapacityInternal_d00df_12 rfl 0 rfl ?_
  refine g_isub E dJ5_ensureCapacityInternal_d00df_13 ?_
  refine g_if_le (tgt := 38) E dJ5_ensureCapacityInternal_d00df_14 (by decide) (fun c1 => ?_) (fun c1 => ?_)
  · skip
    have hle : q ≤ m := (gSub_le (by omega) (by omega)).mp c1
    refine g_widen (k := 1) (n := 34) (by decide) (by decide) ?_
    exact RET _ _ (v, m, f) (⟨hm, hle, hf, fun _ _ => rfl⟩) dJ5_ensureCapacityInternal_d00df_38
  · skip
    have hlt : ¬ q ≤ m := fun z => c1 ((gSub_le (by omega) (by omega)).mpr z)
    obtain rfl : m = 16 := by omega
    refine g_aload_n E dJ5_ensureCapacityInternal_d00df_17 rfl 1 rfl ?_
    refine g_aload_n E dJ5_ensureCapacityInternal_d00df_18 rfl 1 rfl ?_
    refine g_get E uJ5_ensureCapacityInternal_d00df_RJ4 0 rfl rfl 0 (by decide) kJ5_ensureCapacityInternal_d00df_15 rfl rfl dJ5_ensureCapacityInternal_d00df_19 ?_
    refine g_aload_n E dJ5_ensureCapacityInternal_d00df_22 rfl 1 rfl ?_
    refine g_iload_n E dJ5_ensureCapacityInternal_d00df_23 rfl 2 rfl ?_
    refine g_callUIe (F := []) (ws2 := [(b, .inr (0, [.ref v, .int 0, .int 0, .int (nI n)])), (v, .inl (gy G 5, 16, .inl f))]) E (mJ5_newCapacity_0f7a4 G b v n f q (by omega) (by omega)) gJ5_ensureCapacityInternal_d00df_J5_newCapacity_0f7a4_u104J4 rfl rfl hqUJ5_newCapacity_0f7a4 ⟨Nat.le_of_ble_eq_true rfl, Nat.le_of_ble_eq_true rfl⟩ 0 0 rfl rfl rfl (gPerm_ix [0, 1] rfl rfl) rfl rfl (Nat.le_of_ble_eq_true rfl) dJ5_ensureCapacityInternal_d00df_24 ⟨Nat.le_of_ble_eq_true rfl, Nat.le_of_ble_eq_true rfl⟩ (gPerm_ix [0, 1] rfl rfl) ?_
    refine g_aload_n E dJ5_ensureCapacityInternal_d00df_27 rfl 1 rfl ?_
    refine g_get E uJ5_ensureCapacityInternal_d00df_RJ4 0 rfl rfl 1 (by decide) kJ5_ensureCapacityInternal_d00df_22 rfl rfl dJ5_ensureCapacityInternal_d00df_28 ?_
    refine g_ishl E dJ5_ensureCapacityInternal_d00df_31 ?_
    refine g_top (y := 34) (g_shl0 _) ?_
    refine g_callSR (F := [(b, .inr (0, [.ref v, .int 0, .int 0, .int (nI n)]))]) E (mJ7_copyOf_9075b G v f hf) gJ5_ensureCapacityInternal_d00df_J7_copyOf_9075b rfl hnJ7_copyOf_9075b ⟨Nat.le_of_ble_eq_true rfl, Nat.le_of_ble_eq_true rfl⟩ (gPerm_ix [1, 0] rfl rfl) rfl rfl (Nat.le_of_ble_eq_true rfl) dJ5_ensureCapacityInternal_d00df_32 ⟨Nat.le_of_ble_eq_true rfl, Nat.le_of_ble_eq_true rfl⟩ (fun r2 v9 hv9 => ?_)
    rw [hv9]
    refine g_ws (ws' := [(v, .inl (gy G 5, 16, .inl f)), (v9, .inl (gy G 5, 34, .inl (va_cpy f (fun _ => 0) 0 0 16))), (b, .inr (0, [.ref v, .int 0, .int 0, .int (nI n)]))]) rfl ?_
    refine g_put (ws' := [(v, .inl (gy G 5, 16, .inl f)), (v9, .inl (gy G 5, 34, .inl (va_cpy f (fun _ => 0) 0 0 16))), (b, .inr (0, [.ref v9, .int 0, .int 0, .int (nI n)]))]) E uJ5_ensureCapacityInternal_d00df_RJ4 tyJ4 tyJ4_ok nmJ4 2 rfl rfl 0 (by decide) kJ5_ensureCapacityInternal_d00df_15 rfl rfl rfl rfl (Nat.le_of_ble_eq_true rfl) rfl dJ5_ensureCapacityInternal_d00df_35 ?_
    refine g_perm (ws1 := [(b, .inr (0, [.ref v9, .int 0, .int 0, .int (nI n)])), (v9, .inl (gy G 5, 34, .inl (va_cpy f (fun _ => 0) 0 0 16)))]) (gPerm_ix [2, 1] rfl rfl) ?_
    exact RET _ _ (v9, 34, va_cpy f (fun _ => 0) 0 0 16) (⟨Or.inr rfl, hq34, sb_fitC hf sb_fit0, fun j hj => (by show va_cpy f (fun _ => 0) 0 0 16 j = f j; exact sb_cpy0 (by omega))⟩) dJ5_ensureCapacityInternal_d00df_38
set_option maxHeartbeats 4000000 in
set_option maxRecDepth 100000 in
theorem mJ5_isLatin1_aae02 (G : gG) (b v n m : Nat) (f : Nat → Int32)  : CIe G yJ5_isLatin1_aae02 wsJ5_isLatin1_aae02 0 0 [.ref b] [(b, .inr (0, [.ref v, .int 0, .int 0, .int (nI n)])), (v, .inl (gy G 5, m, .inl f))] (1) [(b, .inr (0, [.ref v, .int 0, .int 0, .int (nI n)])), (v, .inl (gy G 5, m, .inl f))] 0 0 := by
  refine g_enterIe (ty := .boolean) RJ5 rfl (by decide) rfl (Nat.le_of_ble_eq_true rfl) ?_
  intro V E RET
  refine g_compact E kJ5_isLatin1_aae02_18 dJ5_isLatin1_aae02_0 ?_
  refine g_if_eq (tgt := 17) E dJ5_isLatin1_aae02_3 (by decide) (fun c => absurd c (by decide)) (fun _ => ?_)
  refine g_aload_n E dJ5_isLatin1_aae02_6 rfl 0 rfl ?_
  refine g_get E uJ5_isLatin1_aae02_RJ4 0 rfl rfl 1 (by decide) kJ5_isLatin1_aae02_22 rfl rfl dJ5_isLatin1_aae02_7 ?_
  refine g_if_ne (tgt := 17) E dJ5_isLatin1_aae02_10 (by decide) (fun c => absurd c (by decide)) (fun _ => ?_)
  refine g_iconst (v := 1) E dJ5_isLatin1_aae02_13 (by decide) ?_
  refine g_goto (tgt := 18) E dJ5_isLatin1_aae02_14 (by decide) ?_
  exact RET _ _ _ () (rfl) rfl dJ5_isLatin1_aae02_18
set_option maxHeartbeats 4000000 in
set_option maxRecDepth 100000 in
theorem mJ1_canEncode_fc78d (G : gG) (c : Nat) (hc : c < 128) : CIe G yJ1_canEncode_fc78d wsJ1_canEncode_fc78d 0 0 [.int (nI c)] [] (1) [] 0 0 := by
  refine g_enterIe (ty := .boolean) RJ1 rfl (by decide) rfl (Nat.le_of_ble_eq_true rfl) ?_
  intro V E RET
  refine g_iload_n E dJ1_canEncode_fc78d_0 rfl 0 rfl ?_
  refine g_sipush (v := 255) E dJ1_canEncode_fc78d_1 (by decide) ?_
  refine g_icmp_gtN (tgt := 11) (a := c) (b := 255) E dJ1_canEncode_fc78d_4 (by decide) (by omega) (by omega) (fun c1 => ?_) (fun c1 => ?_)
  · exfalso
    omega
  · skip
    refine g_iconst (v := 1) E dJ1_canEncode_fc78d_7 (by decide) ?_
    refine g_goto (tgt := 12) E dJ1_canEncode_fc78d_8 (by decide) ?_
    exact RET _ _ _ () (rfl) rfl dJ1_canEncode_fc78d_12
set_option maxHeartbeats 4000000 in
set_option maxRecDepth 100000 in
theorem mJ5_append_3fe6f (G : gG) (b v n m : Nat) (f : Nat → Int32) (L : List Int32) (c : Nat) (hB : gBt n L m f) (hn34 : n + 1 ≤ 34) (hc : c < 128) : CR G yJ5_append_3fe6f wsJ5_append_3fe6f 7 197 [.ref b, .int (nI c)] [(b, .inr (0, [.ref v, .int 0, .int 0, .int (nI n)])), (v, .inl (gy G 5, m, .inl f))] (fun (r : Nat) (u : Nat × Nat × (Nat → Int32)) => r = b ∧ gBt (n + 1) (L ++ [nI c]) u.2.1 u.2.2) (fun u : Nat × Nat × (Nat → Int32) => [(b, .inr (0, [.ref u.1, .int 0, .int 0, .int (nI (n + 1))])), (u.1, .inl (gy G 5, u.2.1, .inl u.2.2))]) 1 34 := by
  refine g_enterR (ty := (.object "java/lang/AbstractStringBuilder")) RJ5 rfl (by decide) rfl (Nat.le_of_ble_eq_true rfl) (by first | exact Or.inl ⟨_, rfl⟩ | exact Or.inr ⟨_, rfl⟩) ?_
  intro V E RET
  refine g_aload_n E dJ5_append_3fe6f_0 rfl 0 rfl ?_
  refine g_aload_n E dJ5_append_3fe6f_1 rfl 0 rfl ?_
  refine g_get E uJ5_append_3fe6f_RJ4 0 rfl rfl 3 (by decide) kJ5_append_3fe6f_79 rfl rfl dJ5_append_3fe6f_2 ?_
  refine g_iconst (v := 1) E dJ5_append_3fe6f_5 (by decide) ?_
  refine g_iaddN (a := n) (b := 1) E dJ5_append_3fe6f_6 ?_
  refine g_callUV (F := []) E (mJ5_ensureCapacityInternal_d00df G b v n m f (n + 1) hB.1 hB.2.1 hB.2.2.1 (by omega)) gJ5_append_3fe6f_J5_ensureCapacityInternal_d00df_u100J4 rfl rfl hqUJ5_ensureCapacityInternal_d00df ⟨Nat.le_of_ble_eq_true rfl, Nat.le_of_ble_eq_true rfl⟩ 0 0 rfl rfl rfl (gPerm_ix [0, 1] rfl rfl) rfl rfl (Nat.le_of_ble_eq_true rfl) dJ5_append_3fe6f_7 ⟨Nat.le_of_ble_eq_true rfl, Nat.le_of_ble_eq_true rfl⟩ (fun u1 hC1 => ?_)
  obtain ⟨v1, m1, f1⟩ := u1
  have hm1 : m1 = 16 ∨ m1 = 34 := hC1.1
  have hq1 : n + 1 ≤ m1 := hC1.2.1
  refine g_perm (ws1 := [(b, .inr (0, [.ref v1, .int 0, .int 0, .int (nI n)])), (v1, .inl (gy G 5, m1, .inl f1))]) (gPerm_ix [0, 1] rfl rfl) ?_
  refine g_aload_n E dJ5_append_3fe6f_10 rfl 0 rfl ?_
  refine g_callUIe (F := []) (ws2 := [(b, .inr (0, [.ref v1, .int 0, .int 0, .int (nI n)])), (v1, .inl (gy G 5, m1, .inl f1))]) E (mJ5_isLatin1_aae02 G b v1 n m1 f1) gJ5_append_3fe6f_J5_isLatin1_aae02_u83J4 rfl rfl hqUJ5_isLatin1_aae02 ⟨Nat.le_of_ble_eq_true rfl, Nat.le_of_ble_eq_true rfl⟩ 0 0 rfl rfl rfl (gPerm_ix [0, 1] rfl rfl) rfl rfl (Nat.le_of_ble_eq_true rfl) dJ5_append_3fe6f_11 ⟨Nat.le_of_ble_eq_true rfl, Nat.le_of_ble_eq_true rfl⟩ (gPerm_ix [0, 1] rfl rfl) ?_
  refine g_if_eq (tgt := 45) E dJ5_append_3fe6f_14 (by decide) (fun c => absurd c (by decide)) (fun _ => ?_)
  refine g_iload_n E dJ5_append_3fe6f_17 rfl 1 rfl ?_
  refine g_callSIe (F := [(b, .inr (0, [.ref v1, .int 0, .int 0, .int (nI n)])), (v1, .inl (gy G 5, m1, .inl f1))]) (ws2 := [(b, .inr (0, [.ref v1, .int 0, .int 0, .int (nI n)])), (v1, .inl (gy G 5, m1, .inl f1))]) E (mJ1_canEncode_fc78d G c (by omega)) gJ5_append_3fe6f_J1_canEncode_fc78d rfl hnJ1_canEncode_fc78d ⟨Nat.le_of_ble_eq_true rfl, Nat.le_of_ble_eq_true rfl⟩ (gPerm_ix [0, 1] rfl rfl) rfl rfl (Nat.le_of_ble_eq_true rfl) dJ5_append_3fe6f_18 ⟨Nat.le_of_ble_eq_true rfl, Nat.le_of_ble_eq_true rfl⟩ (gPerm_ix [0, 1] rfl rfl) ?_
  refine g_if_eq (tgt := 45) E dJ5_append_3fe6f_21 (by decide) (fun c => absurd c (by decide)) (fun _ => ?_)
  refine g_aload_n E dJ5_append_3fe6f_24 rfl 0 rfl ?_
  refine g_get E uJ5_append_3fe6f_RJ4 0 rfl rfl 0 (by decide) kJ5_append_3fe6f_15 rfl rfl dJ5_append_3fe6f_25 ?_
  refine g_aload_n E dJ5_append_3fe6f_28 rfl 0 rfl ?_
  refine g_dup E dJ5_append_3fe6f_29 rfl ?_
  refine g_get E uJ5_append_3fe6f_RJ4 0 rfl rfl 3 (by decide) kJ5_append_3fe6f_79 rfl rfl dJ5_append_3fe6f_30 ?_
  refine g_dup_x1 E dJ5_append_3fe6f_33 rfl rfl ?_
  refine g_iconst (v := 1) E dJ5_append_3fe6f_34 (by decide) ?_
  refine g_iaddN (a := n) (b := 1) E dJ5_append_3fe6f_35 ?_
  refine g_put (ws' := [(b, .inr (0, [.ref v1, .int 0, .int 0, .int (nI (n + 1))])), (v1, .inl (gy G 5, m1, .inl f1))]) E uJ5_append_3fe6f_RJ4 tyJ4 tyJ4_ok nmJ4 0 rfl rfl 3 (by decide) kJ5_append_3fe6f_79 rfl rfl rfl rfl (Nat.le_of_ble_eq_true rfl) rfl dJ5_append_3fe6f_36 ?_
  refine g_iload_n E dJ5_append_3fe6f_39 rfl 1 rfl ?_
  refine g_i2b (v := nI c) E dJ5_append_3fe6f_40 (gBy c hc).1 ?_
  refine g_bast (ws' := [(b, .inr (0, [.ref v1, .int 0, .int 0, .int (nI (n + 1))])), (v1, .inl (gy G 5, m1, .inl (upd f1 n (nI c))))]) (j := n) (y := nI c) E 1 rfl (g_in (e := n) (by omega) (Nat.ble_eq.mpr (by omega))) (nI_clamp (n := n) (by omega)) (gBy c hc).2.1 rfl dJ5_append_3fe6f_41 ?_
  refine g_goto (tgt := 75) E dJ5_append_3fe6f_42 (by decide) ?_
  refine g_aload_n E dJ5_append_3fe6f_75 rfl 0 rfl ?_
  exact RET _ _ _ (v1, m1, upd f1 n (nI c)) (⟨rfl, gBt_put hB hC1.1 hC1.2.1 rfl (sb_fitU hC1.2.2.1 (gBy c hc).2.2.1) (fun j hj => by show upd _ _ _ j = f j; rw [upd_ne (by omega)]; exact hC1.2.2.2 j hj) (fun i hi => by rw [show i = 0 by omega]; exact upd_eq rfl)⟩) dJ5_append_3fe6f_76
set_option maxHeartbeats 4000000 in
set_option maxRecDepth 100000 in
theorem mJ4_append_cf468 (G : gG) (b v n m : Nat) (f : Nat → Int32) (L : List Int32) (c : Nat) (hB : gBt n L m f) (hn34 : n + 1 ≤ 34) (hc : c < 128) : CR G yJ4_append_cf468 wsJ4_append_cf468 8 218 [.ref b, .int (nI c)] [(b, .inr (0, [.ref v, .int 0, .int 0, .int (nI n)])), (v, .inl (gy G 5, m, .inl f))] (fun (r : Nat) (u : Nat × Nat × (Nat → Int32)) => r = b ∧ gBt (n + 1) (L ++ [nI c]) u.2.1 u.2.2) (fun u : Nat × Nat × (Nat → Int32) => [(b, .inr (0, [.ref u.1, .int 0, .int 0, .int (nI (n + 1))])), (u.1, .inl (gy G 5, u.2.1, .inl u.2.2))]) 1 34 := by
  refine g_enterR (ty := (.object "java/lang/StringBuilder")) RJ4 rfl (by decide) rfl (Nat.le_of_ble_eq_true rfl) (by first | exact Or.inl ⟨_, rfl⟩ | exact Or.inr ⟨_, rfl⟩) ?_
  intro V E RET
  refine g_aload_n E dJ4_append_cf468_0 rfl 0 rfl ?_
  refine g_iload_n E dJ4_append_cf468_1 rfl 1 rfl ?_
  refine g_callSUR (F := []) E (mJ5_append_3fe6f G b v n m f L c hB (by omega) hc) gJ4_append_cf468_J5_append_3fe6f_s50 rfl hqSUJ5_append_3fe6f ⟨Nat.le_of_ble_eq_true rfl, Nat.le_of_ble_eq_true rfl⟩ 0 0 rfl rfl rfl (gPerm_ix [0, 1] rfl rfl) rfl rfl (Nat.le_of_ble_eq_true rfl) dJ4_append_cf468_2 ⟨Nat.le_of_ble_eq_true rfl, Nat.le_of_ble_eq_true rfl⟩ (fun r2 u1 hA1 => ?_)
  obtain ⟨v1, m1, f1⟩ := u1
  obtain ⟨hr1, hB1⟩ := hA1
  rw [hr1]
  refine g_perm (ws1 := [(b, .inr (0, [.ref v1, .int 0, .int 0, .int (nI (n + 1))])), (v1, .inl (gy G 5, m1, .inl f1))]) (gPerm_ix [0, 1] rfl rfl) ?_
  refine g_pop E dJ4_append_cf468_5 rfl ?_
  refine g_aload_n E dJ4_append_cf468_6 rfl 0 rfl ?_
  exact RET _ _ _ (v1, m1, f1) (⟨rfl, hB1⟩) dJ4_append_cf468_7
set_option maxHeartbeats 4000000 in
set_option maxRecDepth 100000 in
theorem mJ6_stringSize_0f7a4 (G : gG) (x : Nat) (hx : x < 100000) : CIe G yJ6_stringSize_0f7a4 wsJ6_stringSize_0f7a4 0 0 [.int (nI x)] [] (nI (gDc x)) [] 0 0 := by
  refine g_enterIe (ty := .int) RJ6 rfl (by decide) rfl (Nat.le_of_ble_eq_true rfl) ?_
  intro V E RET
  have hd := gDc_le x
  refine g_iconst (v := 1) E dJ6_stringSize_0f7a4_0 (by decide) ?_
  refine g_istore_n (lv' := [(1, .int 1), (0, .int (nI x))]) E dJ6_stringSize_0f7a4_1 rfl (by decide) rfl ?_
  refine g_iload_n E dJ6_stringSize_0f7a4_2 rfl 1 rfl ?_
  refine g_if_ltN (tgt := 11) (a := x) E dJ6_stringSize_0f7a4_3 (by decide) (by omega) ?_
  refine g_iconst (v := 0) E dJ6_stringSize_0f7a4_6 (by decide) ?_
  refine g_istore_n (lv' := [(1, .int 0), (0, .int (nI x))]) E dJ6_stringSize_0f7a4_7 rfl (by decide) rfl ?_
  refine g_iload_n E dJ6_stringSize_0f7a4_8 rfl 1 rfl ?_
  refine g_ineg E dJ6_stringSize_0f7a4_9 ?_
  refine g_istore_n (lv' := [(0, .int (-(nI x))), (1, .int 0)]) E dJ6_stringSize_0f7a4_10 rfl (by decide) rfl ?_
  refine g_bipush (v := (-10)) E dJ6_stringSize_0f7a4_11 (by decide) ?_
  refine g_istore_n (lv' := [(2, .int (-10)), (0, .int (-(nI x))), (1, .int 0)]) E dJ6_stringSize_0f7a4_13 rfl (by decide) rfl ?_
  refine g_iconst (v := 1) E dJ6_stringSize_0f7a4_14 (by decide) ?_
  refine g_istore_n (lv' := [(3, .int 1), (2, .int (-10)), (0, .int (-(nI x))), (1, .int 0)]) E dJ6_stringSize_0f7a4_15 rfl (by decide) rfl ?_
  have loop1 : ∀ (n2 : Nat) (k : Nat) (p : Int32), (1 ≤ k) → (k ≤ gDc x) → (p = -(nI (10 ^ k))) → 6 - k < n2 → gW V 4 0 0 [] [(0, .int (-(nI x))), (1, .int 0), (2, .int p), (3, .int (nI k))] 16 [] := by
    intro n2
    induction n2 with
    | zero => intro k p hk1 hk5 hp hm4; exact absurd hm4 (Nat.not_lt_zero _)
    | succ n2 ih3 =>
      intro k p hk1 hk5 hp hm4
      have hk6 : 10 ^ k ≤ 10 ^ 5 := Nat.pow_le_pow_right (by decide) (by omega)
      have e5 : (10 : Nat) ^ 5 = 100000 := rfl
      refine g_iload_n E dJ6_stringSize_0f7a4_16 rfl 3 rfl ?_
      refine g_bipush (v := 10) E dJ6_stringSize_0f7a4_17 (by decide) ?_
      refine g_icmp_geN (tgt := 42) (a := k) (b := 10) E dJ6_stringSize_0f7a4_19 (by decide) (by omega) (by omega) (fun c5 => ?_) (fun c5 => ?_)
      · exfalso
        omega
      · skip
        refine g_iload_n E dJ6_stringSize_0f7a4_22 rfl 0 rfl ?_
        refine g_iload_n E dJ6_stringSize_0f7a4_23 rfl 2 rfl ?_
        refine g_icmp_le (tgt := 31) E dJ6_stringSize_0f7a4_24 (by decide) (fun c6 => ?_) (fun c6 => ?_)
        · skip
          have hge : 10 ^ k ≤ x := by rw [hp] at c6; exact (gNeg_le (by omega) (by omega)).mp c6
          refine g_bipush (v := 10) E dJ6_stringSize_0f7a4_31 (by decide) ?_
          refine g_iload_n E dJ6_stringSize_0f7a4_33 rfl 2 rfl ?_
          refine g_imul E dJ6_stringSize_0f7a4_34 ?_
          refine g_istore_n (lv' := [(2, .int (10 * p)), (0, .int (-(nI x))), (1, .int 0), (3, .int (nI k))]) E dJ6_stringSize_0f7a4_35 rfl (by decide) rfl ?_
          refine g_iinc (lv' := [(3, .int (nI (k + 1))), (2, .int (10 * p)), (0, .int (-(nI x))), (1, .int 0)]) E dJ6_stringSize_0f7a4_36 3 rfl (g_inc _ 1 (by decide)) (by decide) rfl ?_
          refine g_goto (tgt := 16) E dJ6_stringSize_0f7a4_39 (by decide) ?_
          refine g_lv [2, 3, 1, 0] rfl ?_
          exact ih3  (k + 1) _ (by omega) (by have q := (gDc_lt hx hk1 hk5); omega) (by rw [hp, gNeg_mul (by omega), Nat.pow_succ, Nat.mul_comm]) (by omega)
        · skip
          have hlt : x < 10 ^ k := by rw [hp] at c6; exact Nat.not_le.mp (fun z => c6 ((gNeg_le (by omega) (by omega)).mpr z))
          refine g_iload_n E dJ6_stringSize_0f7a4_27 rfl 3 rfl ?_
          refine g_iload_n E dJ6_stringSize_0f7a4_28 rfl 1 rfl ?_
          refine g_iaddN (a := k) (b := 0) E dJ6_stringSize_0f7a4_29 ?_
          exact RET _ _ _ () (by rw [(gDc_lt hx hk1 hk5).mp hlt] <;> rfl) rfl dJ6_stringSize_0f7a4_30
  refine g_lv [2, 3, 1, 0] rfl ?_
  exact loop1 _ 1 _ (by decide) hd.1 rfl (Nat.lt_succ_self _)
set_option maxHeartbeats 4000000 in
set_option maxRecDepth 100000 in
theorem mJ6_getChars_ba4f3 (G : gG) (x e v m : Nat) (f : Nat → Int32) (hx : x < 100000) (he : gDc x ≤ e) (hem : e ≤ m) (hm : m ≤ 1000) : CI G yJ6_getChars_ba4f3 wsJ6_getChars_ba4f3 0 0 [.int (nI x), .int (nI e), .ref v] [(v, .inl (gy G 5, m, .inl f))] (fun (_ : Int32) (u : Nat → Int32) => gDq x e (e - gDc x) f u) (fun u : Nat → Int32 => [(v, .inl (gy G 5, m, .inl u))]) 0 0 := by
  refine g_enterI (ty := .int) RJ6 rfl (by decide) rfl (Nat.le_of_ble_eq_true rfl) ?_
  intro V E RET
  have hd := gDc_le x
  refine g_iload_n E dJ6_getChars_ba4f3_0 rfl 1 rfl ?_
  refine g_istore (lv' := [(5, .int (nI e)), (0, .int (nI x)), (1, .int (nI e)), (2, .ref v)]) E dJ6_getChars_ba4f3_1 (by decide) rfl ?_
  refine g_iload_n E dJ6_getChars_ba4f3_3 rfl 1 rfl ?_
  refine g_if_geN (tgt := 11) (a := x) E dJ6_getChars_ba4f3_4 (by decide) (by omega) ?_
  refine g_iconst (v := 0) E dJ6_getChars_ba4f3_11 (by decide) ?_
  refine g_istore (lv' := [(6, .int 0), (5, .int (nI e)), (0, .int (nI x)), (1, .int (nI e)), (2, .ref v)]) E dJ6_getChars_ba4f3_12 (by decide) rfl ?_
  refine g_iload E dJ6_getChars_ba4f3_14 0 rfl ?_
  refine g_if_ne (tgt := 22) E dJ6_getChars_ba4f3_16 (by decide) (fun c => absurd c (by decide)) (fun _ => ?_)
  refine g_iload_n E dJ6_getChars_ba4f3_19 rfl 2 rfl ?_
  refine g_ineg E dJ6_getChars_ba4f3_20 ?_
  refine g_istore_n (lv' := [(0, .int (-(nI x))), (6, .int 0), (5, .int (nI e)), (1, .int (nI e)), (2, .ref v)]) E dJ6_getChars_ba4f3_21 rfl (by decide) rfl ?_
  have loop1 : ∀ (n2 : Nat) (t y p : Nat) (g : Nat → Int32), (p + t = e) → (y = x / 10 ^ t) → (t = 0 ∨ 1 ≤ y) → (y ≤ x) → (gDq x e p f g) → y < n2 → gW V 7 0 0 [(v, .inl (gy G 5, m, .inl g))] [(0, .int (-(nI y))), (1, .int (nI e)), (2, .ref v), (5, .int (nI p)), (6, .int 0)] 22 [] := by
    intro n2
    induction n2 with
    | zero => intro t y p g ht hty hy0 hyx hG hm4; exact absurd hm4 (Nat.not_lt_zero _)
    | succ n2 ih3 =>
      intro t y p g ht hty hy0 hyx hG hm4
      refine g_iload_n E dJ6_getChars_ba4f3_22 rfl 0 rfl ?_
      refine g_bipush (v := (-100)) E dJ6_getChars_ba4f3_23 (by decide) ?_
      refine g_icmp_gt (tgt := 72) E dJ6_getChars_ba4f3_25 (by decide) (fun c5 => ?_) (fun c5 => ?_)
      · skip
        have hy : y < 100 := (gNeg_lt (a := 100) (by omega) (by omega)).mp c5
        have hp0 : 0 < p := gDc_pos hx hty hy0 he ht
        refine g_aload_n E dJ6_getChars_ba4f3_72 rfl 2 rfl ?_
        refine g_iinc (lv' := [(5, .int (nI (p - 1))), (0, .int (-(nI y))), (1, .int (nI e)), (2, .ref v), (6, .int 0)]) E dJ6_getChars_ba4f3_73 3 rfl (g_dec _ (by omega)) (by decide) rfl ?_
        refine g_iload E dJ6_getChars_ba4f3_76 0 rfl ?_
        refine g_gets (i := 3) E rfl kJ6_getChars_ba4f3_83 dJ6_getChars_ba4f3_78 ?_
        refine g_iload_n E dJ6_getChars_ba4f3_81 rfl 1 rfl ?_
        refine g_ineg E dJ6_getChars_ba4f3_82 ?_
        refine g_top (y := nI y) (gNegNeg _) ?_
        refine g_tib (i := 3) (e := y) (v := nI (48 + y % 10)) E rfl (by show _ < 100; omega) rfl (gOnes _ (by omega)) dJ6_getChars_ba4f3_83 ?_
        refine g_bast (ws' := [(v, .inl (gy G 5, m, .inl (upd g (p - 1) (nI (48 + y % 10)))))]) (j := p - 1) (y := nI (48 + y % 10)) E 0 rfl (g_in (e := p - 1) (by omega) (Nat.ble_eq.mpr (by omega))) (nI_clamp (n := p - 1) (by omega)) (gBy _ (by omega)).2.1 rfl dJ6_getChars_ba4f3_84 ?_
        have hG1 := gDq_st (v := nI (48 + y % 10)) hG (by omega) (by omega) (by rw [hty, show e - p = t by omega])
        refine g_iload_n E dJ6_getChars_ba4f3_85 rfl 1 rfl ?_
        refine g_bipush (v := (-9)) E dJ6_getChars_ba4f3_86 (by decide) ?_
        refine g_icmp_ge (tgt := 104) E dJ6_getChars_ba4f3_88 (by decide) (fun c6 => ?_) (fun c6 => ?_)
        · skip
          have hy9 : y ≤ 9 := (gNeg_le (a := 9) (by omega) (by omega)).mp c6
          have hdc : gDc x = t + 1 := gDc_of hx hty (by omega) hy0
          refine g_iload E dJ6_getChars_ba4f3_104 4 rfl ?_
          refine g_if_eq (tgt := 118) E dJ6_getChars_ba4f3_106 (by decide) (fun _ => ?_) (fun c => absurd c (by decide))
          refine g_iload E dJ6_getChars_ba4f3_118 0 rfl ?_
          exact RET _ _ _ _ (by first | (rw [show e - gDc x = p - 1 - 1 by omega]; exact hG2) | (rw [show e - gDc x = p - 1 by omega]; exact hG1)) rfl dJ6_getChars_ba4f3_120
        · skip
          have hy9 : ¬ y ≤ 9 := fun z => c6 ((gNeg_le (a := 9) (by omega) (by omega)).mpr z)
          have hdc : gDc x = t + 1 + 1 := gDc_of hx (y := y / 10) (t := t + 1) (by rw [hty, gDiv10]) (by omega) (Or.inr (by omega))
          refine g_aload_n E dJ6_getChars_ba4f3_91 rfl 3 rfl ?_
          refine g_iinc (lv' := [(5, .int (nI (p - 1 - 1))), (0, .int (-(nI y))), (1, .int (nI e)), (2, .ref v), (6, .int 0)]) E dJ6_getChars_ba4f3_92 0 rfl (g_dec _ (by omega)) (by decide) rfl ?_
          refine g_iload E dJ6_getChars_ba4f3_95 0 rfl ?_
          refine g_gets (i := 4) E rfl kJ6_getChars_ba4f3_87 dJ6_getChars_ba4f3_97 ?_
          refine g_iload_n E dJ6_getChars_ba4f3_100 rfl 1 rfl ?_
          refine g_ineg E dJ6_getChars_ba4f3_101 ?_
          refine g_top (y := nI y) (gNegNeg _) ?_
          refine g_tib (i := 4) (e := y) (v := nI (48 + y / 10)) E rfl (by show _ < 100; omega) rfl (gTens _ (by omega)) dJ6_getChars_ba4f3_102 ?_
          refine g_bast (ws' := [(v, .inl (gy G 5, m, .inl (upd (upd g (p - 1) (nI (48 + y % 10))) (p - 1 - 1) (nI (48 + y / 10)))))]) (j := p - 1 - 1) (y := nI (48 + y / 10)) E 0 rfl (g_in (e := p - 1 - 1) (by omega) (Nat.ble_eq.mpr (by omega))) (nI_clamp (n := p - 1 - 1) (by omega)) (gBy _ (by omega)).2.1 rfl dJ6_getChars_ba4f3_103 ?_
          have hG2 := gDq_st (v := nI (48 + y / 10)) hG1 (by omega) (by omega) (by rw [show e - (p - 1) = t + 1 by omega, ← gDiv10, ← hty]; exact congrArg nI (by omega))
          refine g_iload E dJ6_getChars_ba4f3_104 4 rfl ?_
          refine g_if_eq (tgt := 118) E dJ6_getChars_ba4f3_106 (by decide) (fun _ => ?_) (fun c => absurd c (by decide))
          refine g_iload E dJ6_getChars_ba4f3_118 0 rfl ?_
          exact RET _ _ _ _ (by first | (rw [show e - gDc x = p - 1 - 1 by omega]; exact hG2) | (rw [show e - gDc x = p - 1 by omega]; exact hG1)) rfl dJ6_getChars_ba4f3_120
      · skip
        have hy : ¬ y < 100 := fun z => c5 ((gNeg_lt (a := 100) (by omega) (by omega)).mpr z)
        have hp2 : 2 < p := gDc_big hx hty (by omega) he ht
        refine g_iload_n E dJ6_getChars_ba4f3_28 rfl 0 rfl ?_
        refine g_bipush (v := 100) E dJ6_getChars_ba4f3_29 (by decide) ?_
        refine g_idiv E dJ6_getChars_ba4f3_31 (by decide) ?_
        refine g_top (y := -(nI (y / 100))) (gNeg_div (by omega)) ?_
        refine g_istore_n (lv' := [(3, .int (-(nI (y / 100)))), (0, .int (-(nI y))), (1, .int (nI e)), (2, .ref v), (5, .int (nI p)), (6, .int 0)]) E dJ6_getChars_ba4f3_32 rfl (by decide) rfl ?_
        refine g_iload_n E dJ6_getChars_ba4f3_33 rfl 0 rfl ?_
        refine g_bipush (v := 100) E dJ6_getChars_ba4f3_34 (by decide) ?_
        refine g_imul E dJ6_getChars_ba4f3_36 ?_
        refine g_iload_n E dJ6_getChars_ba4f3_37 rfl 1 rfl ?_
        refine g_isub E dJ6_getChars_ba4f3_38 ?_
        refine g_top (y := nI (y % 100)) (gNeg_rem (by omega)) ?_
        refine g_istore (lv' := [(4, .int (nI (y % 100))), (3, .int (-(nI (y / 100)))), (0, .int (-(nI y))), (1, .int (nI e)), (2, .ref v), (5, .int (nI p)), (6, .int 0)]) E dJ6_getChars_ba4f3_39 (by decide) rfl ?_
        refine g_iload_n E dJ6_getChars_ba4f3_41 rfl 1 rfl ?_
        refine g_istore_n (lv' := [(0, .int (-(nI (y / 100)))), (4, .int (nI (y % 100))), (3, .int (-(nI (y / 100)))), (1, .int (nI e)), (2, .ref v), (5, .int (nI p)), (6, .int 0)]) E dJ6_getChars_ba4f3_42 rfl (by decide) rfl ?_
        refine g_aload_n E dJ6_getChars_ba4f3_43 rfl 4 rfl ?_
        refine g_iinc (lv' := [(5, .int (nI (p - 1))), (0, .int (-(nI (y / 100)))), (4, .int (nI (y % 100))), (3, .int (-(nI (y / 100)))), (1, .int (nI e)), (2, .ref v), (6, .int 0)]) E dJ6_getChars_ba4f3_44 5 rfl (g_dec _ (by omega)) (by decide) rfl ?_
        refine g_iload E dJ6_getChars_ba4f3_47 0 rfl ?_
        refine g_gets (i := 3) E rfl kJ6_getChars_ba4f3_83 dJ6_getChars_ba4f3_49 ?_
        refine g_iload E dJ6_getChars_ba4f3_52 2 rfl ?_
        refine g_tib (i := 3) (e := y % 100) (v := nI (48 + y % 100 % 10)) E rfl (by show _ < 100; omega) rfl (gOnes _ (by omega)) dJ6_getChars_ba4f3_54 ?_
        refine g_bast (ws' := [(v, .inl (gy G 5, m, .inl (upd g (p - 1) (nI (48 + y % 100 % 10)))))]) (j := p - 1) (y := nI (48 + y % 100 % 10)) E 0 rfl (g_in (e := p - 1) (by omega) (Nat.ble_eq.mpr (by omega))) (nI_clamp (n := p - 1) (by omega)) (gBy _ (by omega)).2.1 rfl dJ6_getChars_ba4f3_55 ?_
        have hG1 := gDq_st (v := nI (48 + y % 100 % 10)) hG (by omega) (by omega) (by rw [gMod100a, hty, show e - p = t by omega])
        refine g_aload_n E dJ6_getChars_ba4f3_56 rfl 5 rfl ?_
        refine g_iinc (lv' := [(5, .int (nI (p - 1 - 1))), (0, .int (-(nI (y / 100)))), (4, .int (nI (y % 100))), (3, .int (-(nI (y / 100)))), (1, .int (nI e)), (2, .ref v), (6, .int 0)]) E dJ6_getChars_ba4f3_57 0 rfl (g_dec _ (by omega)) (by decide) rfl ?_
        refine g_iload E dJ6_getChars_ba4f3_60 0 rfl ?_
        refine g_gets (i := 4) E rfl kJ6_getChars_ba4f3_87 dJ6_getChars_ba4f3_62 ?_
        refine g_iload E dJ6_getChars_ba4f3_65 2 rfl ?_
        refine g_tib (i := 4) (e := y % 100) (v := nI (48 + y % 100 / 10)) E rfl (by show _ < 100; omega) rfl (gTens _ (by omega)) dJ6_getChars_ba4f3_67 ?_
        refine g_bast (ws' := [(v, .inl (gy G 5, m, .inl (upd (upd g (p - 1) (nI (48 + y % 100 % 10))) (p - 1 - 1) (nI (48 + y % 100 / 10)))))]) (j := p - 1 - 1) (y := nI (48 + y % 100 / 10)) E 0 rfl (g_in (e := p - 1 - 1) (by omega) (Nat.ble_eq.mpr (by omega))) (nI_clamp (n := p - 1 - 1) (by omega)) (gBy _ (by omega)).2.1 rfl dJ6_getChars_ba4f3_68 ?_
        have hG2 := gDq_st (v := nI (48 + y % 100 / 10)) hG1 (by omega) (by omega) (by rw [gMod100b, hty, gDiv10, show e - (p - 1) = t + 1 by omega])
        refine g_goto (tgt := 22) E dJ6_getChars_ba4f3_69 (by decide) ?_
        refine g_lv [1, 4, 5, 0, 6] rfl ?_
        exact ih3  (t + 2) (y / 100) (p - 1 - 1) _ (by omega) (by rw [hty, gDiv100]) (Or.inr (by omega)) (by omega) hG2 (by omega)
  refine g_lv [0, 3, 4, 2, 1] rfl ?_
  exact loop1 _ 0 x e f rfl (by rw [Nat.pow_zero, Nat.div_one]) (Or.inl rfl) (Nat.le_refl _) (gDq_0 x e f) (Nat.lt_succ_self _)
set_option maxHeartbeats 4000000 in
set_option maxRecDepth 100000 in
theorem mJ5_append_c97b9 (G : gG) (b v n m : Nat) (f : Nat → Int32) (L : List Int32) (x : Nat) (hB : gBt n L m f) (hn34 : n + gDc x ≤ 34) (hx : x < 100000) : CR G yJ5_append_c97b9 wsJ5_append_c97b9 5 152 [.ref b, .int (nI x)] [(b, .inr (0, [.ref v, .int 0, .int 0, .int (nI n)])), (v, .inl (gy G 5, m, .inl f))] (fun (r : Nat) (u : Nat × Nat × (Nat → Int32)) => r = b ∧ gBt (n + gDc x) (L ++ gDgs x) u.2.1 u.2.2) (fun u : Nat × Nat × (Nat → Int32) => [(b, .inr (0, [.ref u.1, .int 0, .int 0, .int (nI (n + gDc x))])), (u.1, .inl (gy G 5, u.2.1, .inl u.2.2))]) 1 34 := by
  refine g_enterR (ty := (.object "java/lang/AbstractStringBuilder")) RJ5 rfl (by decide) rfl (Nat.le_of_ble_eq_true rfl) (by first | exact Or.inl ⟨_, rfl⟩ | exact Or.inr ⟨_, rfl⟩) ?_
  intro V E RET
  have hd := gDc_le x
  refine g_aload_n E dJ5_append_c97b9_0 rfl 0 rfl ?_
  refine g_get E uJ5_append_c97b9_RJ4 0 rfl rfl 3 (by decide) kJ5_append_c97b9_79 rfl rfl dJ5_append_c97b9_1 ?_
  refine g_istore_n (lv' := [(2, .int (nI n)), (0, .ref b), (1, .int (nI x))]) E dJ5_append_c97b9_4 rfl (by decide) rfl ?_
  refine g_iload_n E dJ5_append_c97b9_5 rfl 0 rfl ?_
  refine g_iload_n E dJ5_append_c97b9_6 rfl 2 rfl ?_
  refine g_callSIe (F := [(b, .inr (0, [.ref v, .int 0, .int 0, .int (nI n)])), (v, .inl (gy G 5, m, .inl f))]) (ws2 := [(b, .inr (0, [.ref v, .int 0, .int 0, .int (nI n)])), (v, .inl (gy G 5, m, .inl f))]) E (mJ6_stringSize_0f7a4 G x (by omega)) gJ5_append_c97b9_J6_stringSize_0f7a4 rfl hnJ6_stringSize_0f7a4 ⟨Nat.le_of_ble_eq_true rfl, Nat.le_of_ble_eq_true rfl⟩ (gPerm_ix [0, 1] rfl rfl) rfl rfl (Nat.le_of_ble_eq_true rfl) dJ5_append_c97b9_7 ⟨Nat.le_of_ble_eq_true rfl, Nat.le_of_ble_eq_true rfl⟩ (gPerm_ix [0, 1] rfl rfl) ?_
  refine g_iaddN (a := n) (b := gDc x) E dJ5_append_c97b9_10 ?_
  refine g_istore_n (lv' := [(3, .int (nI (n + (gDc x)))), (2, .int (nI n)), (0, .ref b), (1, .int (nI x))]) E dJ5_append_c97b9_11 rfl (by decide) rfl ?_
  refine g_aload_n E dJ5_append_c97b9_12 rfl 2 rfl ?_
  refine g_iload_n E dJ5_append_c97b9_13 rfl 0 rfl ?_
  refine g_callUV (F := []) E (mJ5_ensureCapacityInternal_d00df G b v n m f (n + (gDc x)) hB.1 hB.2.1 hB.2.2.1 (by omega)) gJ5_append_c97b9_J5_ensureCapacityInternal_d00df_u100J4 rfl rfl hqUJ5_ensureCapacityInternal_d00df ⟨Nat.le_of_ble_eq_true rfl, Nat.le_of_ble_eq_true rfl⟩ 0 0 rfl rfl rfl (gPerm_ix [0, 1] rfl rfl) rfl rfl (Nat.le_of_ble_eq_true rfl) dJ5_append_c97b9_14 ⟨Nat.le_of_ble_eq_true rfl, Nat.le_of_ble_eq_true rfl⟩ (fun u1 hC1 => ?_)
  obtain ⟨v1, m1, f1⟩ := u1
  have hm1 : m1 = 16 ∨ m1 = 34 := hC1.1
  have hq1 : n + (gDc x) ≤ m1 := hC1.2.1
  refine g_perm (ws1 := [(b, .inr (0, [.ref v1, .int 0, .int 0, .int (nI n)])), (v1, .inl (gy G 5, m1, .inl f1))]) (gPerm_ix [0, 1] rfl rfl) ?_
  refine g_aload_n E dJ5_append_c97b9_17 rfl 2 rfl ?_
  refine g_callUIe (F := []) (ws2 := [(b, .inr (0, [.ref v1, .int 0, .int 0, .int (nI n)])), (v1, .inl (gy G 5, m1, .inl f1))]) E (mJ5_isLatin1_aae02 G b v1 n m1 f1) gJ5_append_c97b9_J5_isLatin1_aae02_u83J4 rfl rfl hqUJ5_isLatin1_aae02 ⟨Nat.le_of_ble_eq_true rfl, Nat.le_of_ble_eq_true rfl⟩ 0 0 rfl rfl rfl (gPerm_ix [0, 1] rfl rfl) rfl rfl (Nat.le_of_ble_eq_true rfl) dJ5_append_c97b9_18 ⟨Nat.le_of_ble_eq_true rfl, Nat.le_of_ble_eq_true rfl⟩ (gPerm_ix [0, 1] rfl rfl) ?_
  refine g_if_eq (tgt := 37) E dJ5_append_c97b9_21 (by decide) (fun c => absurd c (by decide)) (fun _ => ?_)
  refine g_iload_n E dJ5_append_c97b9_24 rfl 3 rfl ?_
  refine g_iload_n E dJ5_append_c97b9_25 rfl 0 rfl ?_
  refine g_aload_n E dJ5_append_c97b9_26 rfl 2 rfl ?_
  refine g_get E uJ5_append_c97b9_RJ4 0 rfl rfl 0 (by decide) kJ5_append_c97b9_15 rfl rfl dJ5_append_c97b9_27 ?_
  refine g_callSI (F := [(b, .inr (0, [.ref v1, .int 0, .int 0, .int (nI n)]))]) E (mJ6_getChars_ba4f3 G x (n + (gDc x)) v1 m1 f1 (by omega) (by omega) (by omega) (by omega)) gJ5_append_c97b9_J6_getChars_ba4f3 rfl hnJ6_getChars_ba4f3 ⟨Nat.le_of_ble_eq_true rfl, Nat.le_of_ble_eq_true rfl⟩ (gPerm_ix [1, 0] rfl rfl) rfl rfl (Nat.le_of_ble_eq_true rfl) dJ5_append_c97b9_30 ⟨Nat.le_of_ble_eq_true rfl, Nat.le_of_ble_eq_true rfl⟩ (fun r3 g3 hD3 => ?_)
  refine g_perm (ws1 := [(b, .inr (0, [.ref v1, .int 0, .int 0, .int (nI n)])), (v1, .inl (gy G 5, m1, .inl g3))]) (gPerm_ix [1, 0] rfl rfl) ?_
  refine g_pop E dJ5_append_c97b9_33 rfl ?_
  refine g_goto (tgt := 48) E dJ5_append_c97b9_34 (by decide) ?_
  refine g_aload_n E dJ5_append_c97b9_48 rfl 2 rfl ?_
  refine g_iload_n E dJ5_append_c97b9_49 rfl 0 rfl ?_
  refine g_put (ws' := [(b, .inr (0, [.ref v1, .int 0, .int 0, .int (nI (n + (gDc x)))])), (v1, .inl (gy G 5, m1, .inl g3))]) E uJ5_append_c97b9_RJ4 tyJ4 tyJ4_ok nmJ4 0 rfl rfl 3 (by decide) kJ5_append_c97b9_79 rfl rfl rfl rfl (Nat.le_of_ble_eq_true rfl) rfl dJ5_append_c97b9_50 ?_
  refine g_aload_n E dJ5_append_c97b9_53 rfl 2 rfl ?_
  exact RET _ _ _ (v1, m1, g3) (⟨rfl, gBt_dig hB hC1 hD3 (gFit_dig hD3 hC1.2.2.1)⟩) dJ5_append_c97b9_54
set_option maxHeartbeats 4000000 in
set_option maxRecDepth 100000 in
theorem mJ4_append_bf812 (G : gG) (b v n m : Nat) (f : Nat → Int32) (L : List Int32) (x : Nat) (hB : gBt n L m f) (hn34 : n + gDc x ≤ 34) (hx : x < 100000) : CR G yJ4_append_bf812 wsJ4_append_bf812 6 175 [.ref b, .int (nI x)] [(b, .inr (0, [.ref v, .int 0, .int 0, .int (nI n)])), (v, .inl (gy G 5, m, .inl f))] (fun (r : Nat) (u : Nat × Nat × (Nat → Int32)) => r = b ∧ gBt (n + gDc x) (L ++ gDgs x) u.2.1 u.2.2) (fun u : Nat × Nat × (Nat → Int32) => [(b, .inr (0, [.ref u.1, .int 0, .int 0, .int (nI (n + gDc x))])), (u.1, .inl (gy G 5, u.2.1, .inl u.2.2))]) 1 34 := by
  refine g_enterR (ty := (.object "java/lang/StringBuilder")) RJ4 rfl (by decide) rfl (Nat.le_of_ble_eq_true rfl) (by first | exact Or.inl ⟨_, rfl⟩ | exact Or.inr ⟨_, rfl⟩) ?_
  intro V E RET
  refine g_aload_n E dJ4_append_bf812_0 rfl 0 rfl ?_
  refine g_iload_n E dJ4_append_bf812_1 rfl 1 rfl ?_
  refine g_callSUR (F := []) E (mJ5_append_c97b9 G b v n m f L x hB (by omega) (by omega)) gJ4_append_bf812_J5_append_c97b9_s53 rfl hqSUJ5_append_c97b9 ⟨Nat.le_of_ble_eq_true rfl, Nat.le_of_ble_eq_true rfl⟩ 0 0 rfl rfl rfl (gPerm_ix [0, 1] rfl rfl) rfl rfl (Nat.le_of_ble_eq_true rfl) dJ4_append_bf812_2 ⟨Nat.le_of_ble_eq_true rfl, Nat.le_of_ble_eq_true rfl⟩ (fun r2 u1 hA1 => ?_)
  obtain ⟨v1, m1, f1⟩ := u1
  obtain ⟨hr1, hB1⟩ := hA1
  rw [hr1]
  refine g_perm (ws1 := [(b, .inr (0, [.ref v1, .int 0, .int 0, .int (nI (n + (gDc x)))])), (v1, .inl (gy G 5, m1, .inl f1))]) (gPerm_ix [0, 1] rfl rfl) ?_
  refine g_pop E dJ4_append_bf812_5 rfl ?_
  refine g_aload_n E dJ4_append_bf812_6 rfl 0 rfl ?_
  exact RET _ _ _ (v1, m1, f1) (⟨rfl, hB1⟩) dJ4_append_bf812_7
set_option maxHeartbeats 4000000 in
set_option maxRecDepth 100000 in
theorem mJ5_inflateIfNeededFor_a7421 (G : gG) (b v n m : Nat) (f : Nat → Int32) (i : Nat) (z : String × Nat × String × List Int32) (hq : gStr[i]? = some z)  : CVe G yJ5_inflateIfNeededFor_a7421 wsJ5_inflateIfNeededFor_a7421 7 197 [.ref b, .ref (gz G (100 + 2 * i))] [(b, .inr (0, [.ref v, .int 0, .int 0, .int (nI n)])), (v, .inl (gy G 5, m, .inl f))]  [(b, .inr (0, [.ref v, .int 0, .int 0, .int (nI n)])), (v, .inl (gy G 5, m, .inl f))] 0 0 := by
  refine g_enterVe RJ5 rfl (by decide) rfl (Nat.le_of_ble_eq_true rfl) ?_
  intro V E RET
  refine g_compact E kJ5_inflateIfNeededFor_a7421_18 dJ5_inflateIfNeededFor_a7421_0 ?_
  refine g_if_eq (tgt := 21) E dJ5_inflateIfNeededFor_a7421_3 (by decide) (fun c => absurd c (by decide)) (fun _ => ?_)
  refine g_aload_n E dJ5_inflateIfNeededFor_a7421_6 rfl 0 rfl ?_
  refine g_get E uJ5_inflateIfNeededFor_a7421_RJ4 0 rfl rfl 1 (by decide) kJ5_inflateIfNeededFor_a7421_22 rfl rfl dJ5_inflateIfNeededFor_a7421_7 ?_
  refine g_aload_n E dJ5_inflateIfNeededFor_a7421_10 rfl 1 rfl ?_
  refine g_callOIe (F := [(b, .inr (0, [.ref v, .int 0, .int 0, .int (nI n)])), (v, .inl (gy G 5, m, .inl f))]) (ws2 := [(b, .inr (0, [.ref v, .int 0, .int 0, .int (nI n)])), (v, .inl (gy G 5, m, .inl f))]) E (mJ0_coder_7d493 G i z hq) gJ5_inflateIfNeededFor_a7421_J0_coder_7d493 rfl hdJ0_coder_7d493 ⟨Nat.le_of_ble_eq_true rfl, Nat.le_of_ble_eq_true rfl⟩ hq (gPerm_ix [0, 1] rfl rfl) rfl rfl (Nat.le_of_ble_eq_true rfl) dJ5_inflateIfNeededFor_a7421_11 ⟨Nat.le_of_ble_eq_true rfl, Nat.le_of_ble_eq_true rfl⟩ (gPerm_ix [0, 1] rfl rfl) ?_
  refine g_icmp_eq (tgt := 21) E dJ5_inflateIfNeededFor_a7421_14 (by decide) (fun _ => ?_) (fun c => absurd c (by decide))
  exact RET _ _ () (trivial) dJ5_inflateIfNeededFor_a7421_21
set_option maxHeartbeats 4000000 in
set_option maxRecDepth 100000 in
theorem mJ0_getBytes_840e7 (G : gG) (i : Nat) (z : String × Nat × String × List Int32) (hq : gStr[i]? = some z) (v m d : Nat) (f : Nat → Int32) (hd : d + z.2.2.2.length ≤ m) (hm : m ≤ 1000) : CVe G yJ0_getBytes_840e7 wsJ0_getBytes_840e7 6 176 [.ref (gz G (100 + 2 * i)), .ref v, .int (nI d), .int 0] [(v, .inl (gy G 5, m, .inl f))]  [(v, .inl (gy G 5, m, .inl (va_cpy (fun j => z.2.2.2.getD j 0) f 0 d z.2.2.2.length)))] 0 0 := by
  refine g_enterVe RJ0 rfl (by decide) rfl (Nat.le_of_ble_eq_true rfl) ?_
  intro V E RET
  have hl9 := gStr_len hq
  refine g_aload_n E dJ0_getBytes_840e7_0 rfl 0 rfl ?_
  refine g_callOIe (F := [(v, .inl (gy G 5, m, .inl f))]) (ws2 := [(v, .inl (gy G 5, m, .inl f))]) E (mJ0_coder_7d493 G i z hq) gJ0_getBytes_840e7_J0_coder_7d493 rfl hdJ0_coder_7d493 ⟨Nat.le_of_ble_eq_true rfl, Nat.le_of_ble_eq_true rfl⟩ hq (gPerm_ix [0] rfl rfl) rfl rfl (Nat.le_of_ble_eq_true rfl) dJ0_getBytes_840e7_1 ⟨Nat.le_of_ble_eq_true rfl, Nat.le_of_ble_eq_true rfl⟩ (gPerm_ix [0] rfl rfl) ?_
  refine g_iload_n E dJ0_getBytes_840e7_4 rfl 3 rfl ?_
  refine g_icmp_ne (tgt := 28) E dJ0_getBytes_840e7_5 (by decide) (fun c => absurd c (by decide)) (fun _ => ?_)
  refine g_aload_n E dJ0_getBytes_840e7_8 rfl 0 rfl ?_
  refine g_strval (i := i) (q := z) E hq kJ0_getBytes_840e7_9 dJ0_getBytes_840e7_9 ?_
  refine g_iconst (v := 0) E dJ0_getBytes_840e7_12 (by decide) ?_
  refine g_aload_n E dJ0_getBytes_840e7_13 rfl 1 rfl ?_
  refine g_iload_n E dJ0_getBytes_840e7_14 rfl 2 rfl ?_
  refine g_iload_n E dJ0_getBytes_840e7_15 rfl 3 rfl ?_
  refine g_ishl E dJ0_getBytes_840e7_16 ?_
  refine g_top (y := nI d) (g_shl0 _) ?_
  refine g_aload_n E dJ0_getBytes_840e7_17 rfl 0 rfl ?_
  refine g_strval (i := i) (q := z) E hq kJ0_getBytes_840e7_9 dJ0_getBytes_840e7_18 ?_
  refine g_strlen (i := i) (q := z) E hq dJ0_getBytes_840e7_21 ?_
  refine g_copyt (ws' := [(v, .inl (gy G 5, m, .inl (va_cpy (fun j => z.2.2.2.getD j 0) f 0 d z.2.2.2.length)))]) (sp := 0) (dp := d) (n := z.2.2.2.length) E hq (by decide +kernel) (by decide +kernel) (by decide +kernel) (by decide +kernel) 0 rfl (gStr_fitj hq) (by omega) (by omega) (by omega) (by omega) (by omega) (Nat.le_of_ble_eq_true rfl) (Nat.le_of_ble_eq_true rfl) (Nat.le_of_ble_eq_true rfl) rfl dJ0_getBytes_840e7_22 ?_
  refine g_goto (tgt := 43) E dJ0_getBytes_840e7_25 (by decide) ?_
  exact RET _ _ () (trivial) dJ0_getBytes_840e7_43
set_option maxHeartbeats 4000000 in
set_option maxRecDepth 100000 in
theorem mJ5_putStringAt_47b60 (G : gG) (b v n m : Nat) (f : Nat → Int32) (d : Nat) (i : Nat) (z : String × Nat × String × List Int32) (hq : gStr[i]? = some z) (hd : d + z.2.2.2.length ≤ m) (hm : m ≤ 1000) : CVe G yJ5_putStringAt_47b60 wsJ5_putStringAt_47b60 8 218 [.ref b, .int (nI d), .ref (gz G (100 + 2 * i))] [(b, .inr (0, [.ref v, .int 0, .int 0, .int (nI n)])), (v, .inl (gy G 5, m, .inl f))]  [(b, .inr (0, [.ref v, .int 0, .int 0, .int (nI n)])), (v, .inl (gy G 5, m, .inl (va_cpy (fun j => z.2.2.2.getD j 0) f 0 d z.2.2.2.length)))] 0 0 := by
  refine g_enterVe RJ5 rfl (by decide) rfl (Nat.le_of_ble_eq_true rfl) ?_
  intro V E RET
  refine g_aload_n E dJ5_putStringAt_47b60_0 rfl 0 rfl ?_
  refine g_aload_n E dJ5_putStringAt_47b60_1 rfl 2 rfl ?_
  refine g_callUVe (F := []) (ws2 := [(b, .inr (0, [.ref v, .int 0, .int 0, .int (nI n)])), (v, .inl (gy G 5, m, .inl f))]) E (mJ5_inflateIfNeededFor_a7421 G b v n m f i z hq) gJ5_putStringAt_47b60_J5_inflateIfNeededFor_a7421_u397J4 rfl rfl hqUJ5_inflateIfNeededFor_a7421 ⟨Nat.le_of_ble_eq_true rfl, Nat.le_of_ble_eq_true rfl⟩ 0 0 rfl rfl rfl (gPerm_ix [0, 1] rfl rfl) rfl rfl (Nat.le_of_ble_eq_true rfl) dJ5_putStringAt_47b60_2 ⟨Nat.le_of_ble_eq_true rfl, Nat.le_of_ble_eq_true rfl⟩ (gPerm_ix [0, 1] rfl rfl) ?_
  refine g_aload_n E dJ5_putStringAt_47b60_5 rfl 2 rfl ?_
  refine g_aload_n E dJ5_putStringAt_47b60_6 rfl 0 rfl ?_
  refine g_get E uJ5_putStringAt_47b60_RJ4 0 rfl rfl 0 (by decide) kJ5_putStringAt_47b60_15 rfl rfl dJ5_putStringAt_47b60_7 ?_
  refine g_iload_n E dJ5_putStringAt_47b60_10 rfl 1 rfl ?_
  refine g_aload_n E dJ5_putStringAt_47b60_11 rfl 0 rfl ?_
  refine g_get E uJ5_putStringAt_47b60_RJ4 0 rfl rfl 1 (by decide) kJ5_putStringAt_47b60_22 rfl rfl dJ5_putStringAt_47b60_12 ?_
  refine g_callOVe (F := [(b, .inr (0, [.ref v, .int 0, .int 0, .int (nI n)]))]) (ws2 := [(b, .inr (0, [.ref v, .int 0, .int 0, .int (nI n)])), (v, .inl (gy G 5, m, .inl (va_cpy (fun j => z.2.2.2.getD j 0) f 0 d z.2.2.2.length)))]) E (mJ0_getBytes_840e7 G i z hq v m d f (by omega) (by omega)) gJ5_putStringAt_47b60_J0_getBytes_840e7 rfl hdJ0_getBytes_840e7 ⟨Nat.le_of_ble_eq_true rfl, Nat.le_of_ble_eq_true rfl⟩ hq (gPerm_ix [1, 0] rfl rfl) rfl rfl (Nat.le_of_ble_eq_true rfl) dJ5_putStringAt_47b60_15 ⟨Nat.le_of_ble_eq_true rfl, Nat.le_of_ble_eq_true rfl⟩ (gPerm_ix [1, 0] rfl rfl) ?_
  exact RET _ _ () (trivial) dJ5_putStringAt_47b60_18
set_option maxHeartbeats 4000000 in
set_option maxRecDepth 100000 in
theorem mJ5_append_cf1ce (G : gG) (b v n m : Nat) (f : Nat → Int32) (L : List Int32) (i : Nat) (z : String × Nat × String × List Int32) (hq : gStr[i]? = some z) (hB : gBt n L m f) (hn34 : n + z.2.2.2.length ≤ 34) : CR G yJ5_append_cf1ce wsJ5_append_cf1ce 9 240 [.ref b, .ref (gz G (100 + 2 * i))] [(b, .inr (0, [.ref v, .int 0, .int 0, .int (nI n)])), (v, .inl (gy G 5, m, .inl f))] (fun (r : Nat) (u : Nat × Nat × (Nat → Int32)) => r = b ∧ gBt (n + z.2.2.2.length) (L ++ z.2.2.2) u.2.1 u.2.2) (fun u : Nat × Nat × (Nat → Int32) => [(b, .inr (0, [.ref u.1, .int 0, .int 0, .int (nI (n + z.2.2.2.length))])), (u.1, .inl (gy G 5, u.2.1, .inl u.2.2))]) 1 34 := by
  refine g_enterR (ty := (.object "java/lang/AbstractStringBuilder")) RJ5 rfl (by decide) rfl (Nat.le_of_ble_eq_true rfl) (by first | exact Or.inl ⟨_, rfl⟩ | exact Or.inr ⟨_, rfl⟩) ?_
  intro V E RET
  refine g_aload_n E dJ5_append_cf1ce_0 rfl 1 rfl ?_
  refine g_ifnonnull (tgt := 9) E dJ5_append_cf1ce_1 (by decide) ?_
  refine g_aload_n E dJ5_append_cf1ce_9 rfl 1 rfl ?_
  refine g_callOIe (F := [(b, .inr (0, [.ref v, .int 0, .int 0, .int (nI n)])), (v, .inl (gy G 5, m, .inl f))]) (ws2 := [(b, .inr (0, [.ref v, .int 0, .int 0, .int (nI n)])), (v, .inl (gy G 5, m, .inl f))]) E (mJ0_length_8abf5 G i z hq) gJ5_append_cf1ce_J0_length_8abf5 rfl hdJ0_length_8abf5 ⟨Nat.le_of_ble_eq_true rfl, Nat.le_of_ble_eq_true rfl⟩ hq (gPerm_ix [0, 1] rfl rfl) rfl rfl (Nat.le_of_ble_eq_true rfl) dJ5_append_cf1ce_10 ⟨Nat.le_of_ble_eq_true rfl, Nat.le_of_ble_eq_true rfl⟩ (gPerm_ix [0, 1] rfl rfl) ?_
  refine g_istore_n (lv' := [(2, .int (nI z.2.2.2.length)), (0, .ref b), (1, .ref (gz G (100 + 2 * i)))]) E dJ5_append_cf1ce_13 rfl (by decide) rfl ?_
  refine g_aload_n E dJ5_append_cf1ce_14 rfl 1 rfl ?_
  refine g_aload_n E dJ5_append_cf1ce_15 rfl 1 rfl ?_
  refine g_get E uJ5_append_cf1ce_RJ4 0 rfl rfl 3 (by decide) kJ5_append_cf1ce_79 rfl rfl dJ5_append_cf1ce_16 ?_
  refine g_iload_n E dJ5_append_cf1ce_19 rfl 0 rfl ?_
  refine g_iaddN (a := n) (b := z.2.2.2.length) E dJ5_append_cf1ce_20 ?_
  refine g_callUV (F := []) E (mJ5_ensureCapacityInternal_d00df G b v n m f (n + z.2.2.2.length) hB.1 hB.2.1 hB.2.2.1 (by omega)) gJ5_append_cf1ce_J5_ensureCapacityInternal_d00df_u100J4 rfl rfl hqUJ5_ensureCapacityInternal_d00df ⟨Nat.le_of_ble_eq_true rfl, Nat.le_of_ble_eq_true rfl⟩ 0 0 rfl rfl rfl (gPerm_ix [0, 1] rfl rfl) rfl rfl (Nat.le_of_ble_eq_true rfl) dJ5_append_cf1ce_21 ⟨Nat.le_of_ble_eq_true rfl, Nat.le_of_ble_eq_true rfl⟩ (fun u1 hC1 => ?_)
  obtain ⟨v1, m1, f1⟩ := u1
  have hm1 : m1 = 16 ∨ m1 = 34 := hC1.1
  have hq1 : n + z.2.2.2.length ≤ m1 := hC1.2.1
  refine g_perm (ws1 := [(b, .inr (0, [.ref v1, .int 0, .int 0, .int (nI n)])), (v1, .inl (gy G 5, m1, .inl f1))]) (gPerm_ix [0, 1] rfl rfl) ?_
  refine g_aload_n E dJ5_append_cf1ce_24 rfl 1 rfl ?_
  refine g_aload_n E dJ5_append_cf1ce_25 rfl 1 rfl ?_
  refine g_get E uJ5_append_cf1ce_RJ4 0 rfl rfl 3 (by decide) kJ5_append_cf1ce_79 rfl rfl dJ5_append_cf1ce_26 ?_
  refine g_aload_n E dJ5_append_cf1ce_29 rfl 2 rfl ?_
  refine g_callUVe (F := []) (ws2 := [(b, .inr (0, [.ref v1, .int 0, .int 0, .int (nI n)])), (v1, .inl (gy G 5, m1, .inl (va_cpy (fun j => z.2.2.2.getD j 0) f1 0 n z.2.2.2.length)))]) E (mJ5_putStringAt_47b60 G b v1 n m1 f1 n i z hq (by omega) (by omega)) gJ5_append_cf1ce_J5_putStringAt_47b60_u208J4 rfl rfl hqUJ5_putStringAt_47b60 ⟨Nat.le_of_ble_eq_true rfl, Nat.le_of_ble_eq_true rfl⟩ 0 0 rfl rfl rfl (gPerm_ix [0, 1] rfl rfl) rfl rfl (Nat.le_of_ble_eq_true rfl) dJ5_append_cf1ce_30 ⟨Nat.le_of_ble_eq_true rfl, Nat.le_of_ble_eq_true rfl⟩ (gPerm_ix [0, 1] rfl rfl) ?_
  refine g_aload_n E dJ5_append_cf1ce_33 rfl 1 rfl ?_
  refine g_dup E dJ5_append_cf1ce_34 rfl ?_
  refine g_get E uJ5_append_cf1ce_RJ4 0 rfl rfl 3 (by decide) kJ5_append_cf1ce_79 rfl rfl dJ5_append_cf1ce_35 ?_
  refine g_iload_n E dJ5_append_cf1ce_38 rfl 0 rfl ?_
  refine g_iaddN (a := n) (b := z.2.2.2.length) E dJ5_append_cf1ce_39 ?_
  refine g_put (ws' := [(b, .inr (0, [.ref v1, .int 0, .int 0, .int (nI (n + z.2.2.2.length))])), (v1, .inl (gy G 5, m1, .inl (va_cpy (fun j => z.2.2.2.getD j 0) f1 0 n z.2.2.2.length)))]) E uJ5_append_cf1ce_RJ4 tyJ4 tyJ4_ok nmJ4 0 rfl rfl 3 (by decide) kJ5_append_cf1ce_79 rfl rfl rfl rfl (Nat.le_of_ble_eq_true rfl) rfl dJ5_append_cf1ce_40 ?_
  refine g_aload_n E dJ5_append_cf1ce_43 rfl 1 rfl ?_
  exact RET _ _ _ (v1, m1, va_cpy (fun j => z.2.2.2.getD j 0) f1 0 n z.2.2.2.length) (⟨rfl, gBt_put hB hC1.1 hC1.2.1 rfl (sb_fitC (gStr_fitj hq) hC1.2.2.1) (fun j hj => by show va_cpy (fun j => z.2.2.2.getD j 0) f1 0 n z.2.2.2.length j = f j; rw [pk_cpy_out (by omega)]; exact hC1.2.2.2 j hj) (fun i hi => by show va_cpy (fun j => z.2.2.2.getD j 0) _ 0 n z.2.2.2.length (n + i) = _; rw [pk_cpy_in (by omega) (by omega)]; exact congrArg (fun k => z.2.2.2.getD k 0) (by omega))⟩) dJ5_append_cf1ce_44
set_option maxHeartbeats 4000000 in
set_option maxRecDepth 100000 in
theorem mJ4_append_15ec4 (G : gG) (b v n m : Nat) (f : Nat → Int32) (L : List Int32) (i : Nat) (z : String × Nat × String × List Int32) (hq : gStr[i]? = some z) (hB : gBt n L m f) (hn34 : n + z.2.2.2.length ≤ 34) : CR G yJ4_append_15ec4 wsJ4_append_15ec4 10 262 [.ref b, .ref (gz G (100 + 2 * i))] [(b, .inr (0, [.ref v, .int 0, .int 0, .int (nI n)])), (v, .inl (gy G 5, m, .inl f))] (fun (r : Nat) (u : Nat × Nat × (Nat → Int32)) => r = b ∧ gBt (n + z.2.2.2.length) (L ++ z.2.2.2) u.2.1 u.2.2) (fun u : Nat × Nat × (Nat → Int32) => [(b, .inr (0, [.ref u.1, .int 0, .int 0, .int (nI (n + z.2.2.2.length))])), (u.1, .inl (gy G 5, u.2.1, .inl u.2.2))]) 1 34 := by
  refine g_enterR (ty := (.object "java/lang/StringBuilder")) RJ4 rfl (by decide) rfl (Nat.le_of_ble_eq_true rfl) (by first | exact Or.inl ⟨_, rfl⟩ | exact Or.inr ⟨_, rfl⟩) ?_
  intro V E RET
  refine g_aload_n E dJ4_append_15ec4_0 rfl 0 rfl ?_
  refine g_aload_n E dJ4_append_15ec4_1 rfl 1 rfl ?_
  refine g_callSUR (F := []) E (mJ5_append_cf1ce G b v n m f L i z hq hB (by omega) ) gJ4_append_15ec4_J5_append_cf1ce_s29 rfl hqSUJ5_append_cf1ce ⟨Nat.le_of_ble_eq_true rfl, Nat.le_of_ble_eq_true rfl⟩ 0 0 rfl rfl rfl (gPerm_ix [0, 1] rfl rfl) rfl rfl (Nat.le_of_ble_eq_true rfl) dJ4_append_15ec4_2 ⟨Nat.le_of_ble_eq_true rfl, Nat.le_of_ble_eq_true rfl⟩ (fun r2 u1 hA1 => ?_)
  obtain ⟨v1, m1, f1⟩ := u1
  obtain ⟨hr1, hB1⟩ := hA1
  rw [hr1]
  refine g_perm (ws1 := [(b, .inr (0, [.ref v1, .int 0, .int 0, .int (nI (n + z.2.2.2.length))])), (v1, .inl (gy G 5, m1, .inl f1))]) (gPerm_ix [0, 1] rfl rfl) ?_
  refine g_pop E dJ4_append_15ec4_5 rfl ?_
  refine g_aload_n E dJ4_append_15ec4_6 rfl 0 rfl ?_
  exact RET _ _ _ (v1, m1, f1) (⟨rfl, hB1⟩) dJ4_append_15ec4_7
set_option maxHeartbeats 4000000 in
set_option maxRecDepth 100000 in
theorem mJ5_init_d00df (G : gG) (b : Nat)  : CV G yJ5_init_d00df wsJ5_init_d00df 3 100 [.ref b, .int 16] [(b, .inr (0, [.null, .int 0, .int 0, .int 0]))] (fun _ : Nat => True) (fun u : Nat => [(b, .inr (0, [.ref u, .int 0, .int 0, .int 0])), (u, .inl (gy G 5, 16, .inl (fun _ => 0)))]) 1 16 := by
  refine g_enterV RJ5 rfl (by decide) rfl (Nat.le_of_ble_eq_true rfl) ?_
  intro V E RET
  refine g_aload_n E dJ5_init_d00df_0 rfl 0 rfl ?_
  refine g_oinit E (by decide +kernel) (by decide +kernel) (by decide +kernel) (Nat.le_of_ble_eq_true rfl) (Nat.le_of_ble_eq_true rfl) (Nat.le_of_ble_eq_true rfl) dJ5_init_d00df_1 ?_
  refine g_compact E kJ5_init_d00df_18 dJ5_init_d00df_4 ?_
  refine g_if_eq (tgt := 25) E dJ5_init_d00df_7 (by decide) (fun c => absurd c (by decide)) (fun _ => ?_)
  refine g_aload_n E dJ5_init_d00df_10 rfl 0 rfl ?_
  refine g_iload_n E dJ5_init_d00df_11 rfl 1 rfl ?_
  refine g_newa (atype := .byte) (ty := .byte) (a0 := (16, .inl (fun _ => 0))) (N := 16) E 5 rfl rfl (by decide +kernel) (fun _ => rfl) (by decide) (by decide) (by decide) (Nat.le_of_ble_eq_true rfl) (Nat.le_of_ble_eq_true rfl) dJ5_init_d00df_12 (fun q1 => ?_)
  refine g_ws (ws' := [(b, .inr (0, [.null, .int 0, .int 0, .int 0])), (q1, .inl (gy G 5, 16, .inl (fun _ => 0)))]) rfl ?_
  refine g_put (ws' := [(b, .inr (0, [.ref q1, .int 0, .int 0, .int 0])), (q1, .inl (gy G 5, 16, .inl (fun _ => 0)))]) E uJ5_init_d00df_RJ4 tyJ4 tyJ4_ok nmJ4 0 rfl rfl 0 (by decide) kJ5_init_d00df_15 rfl rfl rfl rfl (Nat.le_of_ble_eq_true rfl) rfl dJ5_init_d00df_14 ?_
  refine g_aload_n E dJ5_init_d00df_17 rfl 0 rfl ?_
  refine g_iconst (v := 0) E dJ5_init_d00df_18 (by decide) ?_
  refine g_put (ws' := [(b, .inr (0, [.ref q1, .int 0, .int 0, .int 0])), (q1, .inl (gy G 5, 16, .inl (fun _ => 0)))]) E uJ5_init_d00df_RJ4 tyJ4 tyJ4_ok nmJ4 0 rfl rfl 1 (by decide) kJ5_init_d00df_22 rfl rfl rfl rfl (Nat.le_of_ble_eq_true rfl) rfl dJ5_init_d00df_19 ?_
  refine g_goto (tgt := 38) E dJ5_init_d00df_22 (by decide) ?_
  exact RET _ _ q1 (trivial) dJ5_init_d00df_38
set_option maxHeartbeats 4000000 in
set_option maxRecDepth 100000 in
theorem mJ4_init_da8c8 (G : gG) (b : Nat)  : CV G yJ4_init_da8c8 wsJ4_init_da8c8 4 121 [.ref b] [(b, .inr (0, [.null, .int 0, .int 0, .int 0]))] (fun _ : Nat => True) (fun u : Nat => [(b, .inr (0, [.ref u, .int 0, .int 0, .int 0])), (u, .inl (gy G 5, 16, .inl (fun _ => 0)))]) 1 16 := by
  refine g_enterV RJ4 rfl (by decide) rfl (Nat.le_of_ble_eq_true rfl) ?_
  intro V E RET
  refine g_aload_n E dJ4_init_da8c8_0 rfl 0 rfl ?_
  refine g_bipush (v := 16) E dJ4_init_da8c8_1 (by decide) ?_
  refine g_callIV (F := []) E (mJ5_init_d00df G b) gJ4_init_da8c8_J5_init_d00df (by decide +kernel) (by decide +kernel) (by decide +kernel) rfl rfl hnJ5_init_d00df ⟨Nat.le_of_ble_eq_true rfl, Nat.le_of_ble_eq_true rfl⟩ (gPerm_ix [0] rfl rfl) rfl rfl (Nat.le_of_ble_eq_true rfl) dJ4_init_da8c8_3 ⟨Nat.le_of_ble_eq_true rfl, Nat.le_of_ble_eq_true rfl⟩ (fun q1 _ => ?_)
  refine g_ws (ws' := [(b, .inr (0, [.ref q1, .int 0, .int 0, .int 0])), (q1, .inl (gy G 5, 16, .inl (fun _ => 0)))]) rfl ?_
  exact RET _ _ q1 (trivial) dJ4_init_da8c8_6
set_option maxHeartbeats 4000000 in
set_option maxRecDepth 100000 in
theorem mJ5_length_8abf5 (G : gG) (b v n m : Nat) (f : Nat → Int32)  : CIe G yJ5_length_8abf5 wsJ5_length_8abf5 0 0 [.ref b] [(b, .inr (0, [.ref v, .int 0, .int 0, .int (nI n)])), (v, .inl (gy G 5, m, .inl f))] (nI n) [(b, .inr (0, [.ref v, .int 0, .int 0, .int (nI n)])), (v, .inl (gy G 5, m, .inl f))] 0 0 := by
  refine g_enterIe (ty := .int) RJ5 rfl (by decide) rfl (Nat.le_of_ble_eq_true rfl) ?_
  intro V E RET
  refine g_aload_n E dJ5_length_8abf5_0 rfl 0 rfl ?_
  refine g_get E uJ5_length_8abf5_RJ4 0 rfl rfl 3 (by decide) kJ5_length_8abf5_79 rfl rfl dJ5_length_8abf5_1 ?_
  exact RET _ _ _ () (rfl) rfl dJ5_length_8abf5_4
set_option maxHeartbeats 4000000 in
set_option maxRecDepth 100000 in
theorem mJ4_length_8abf5 (G : gG) (b v n m : Nat) (f : Nat → Int32)  : CIe G yJ4_length_8abf5 wsJ4_length_8abf5 1 20 [.ref b] [(b, .inr (0, [.ref v, .int 0, .int 0, .int (nI n)])), (v, .inl (gy G 5, m, .inl f))] (nI n) [(b, .inr (0, [.ref v, .int 0, .int 0, .int (nI n)])), (v, .inl (gy G 5, m, .inl f))] 0 0 := by
  refine g_enterIe (ty := .int) RJ4 rfl (by decide) rfl (Nat.le_of_ble_eq_true rfl) ?_
  intro V E RET
  refine g_aload_n E dJ4_length_8abf5_0 rfl 0 rfl ?_
  refine g_callSUIe (F := []) (ws2 := [(b, .inr (0, [.ref v, .int 0, .int 0, .int (nI n)])), (v, .inl (gy G 5, m, .inl f))]) E (mJ5_length_8abf5 G b v n m f) gJ4_length_8abf5_J5_length_8abf5_s343 rfl hqSUJ5_length_8abf5 ⟨Nat.le_of_ble_eq_true rfl, Nat.le_of_ble_eq_true rfl⟩ 0 0 rfl rfl rfl (gPerm_ix [0, 1] rfl rfl) rfl rfl (Nat.le_of_ble_eq_true rfl) dJ4_length_8abf5_1 ⟨Nat.le_of_ble_eq_true rfl, Nat.le_of_ble_eq_true rfl⟩ (gPerm_ix [0, 1] rfl rfl) ?_
  exact RET _ _ _ () (rfl) rfl dJ4_length_8abf5_4
set_option maxHeartbeats 4000000 in
set_option maxRecDepth 100000 in
theorem mJ5_charAt_5068e (G : gG) (b v n m : Nat) (f : Nat → Int32) (L : List Int32) (i : Nat) (hB : gBt n L m f) (hi : i < n) (hL : ∃ c, c < 128 ∧ L.getD i 0 = nI c) : CIe G yJ5_charAt_5068e wsJ5_charAt_5068e 3 103 [.ref b, .int (nI i)] [(b, .inr (0, [.ref v, .int 0, .int 0, .int (nI n)])), (v, .inl (gy G 5, m, .inl f))] (L.getD i 0) [(b, .inr (0, [.ref v, .int 0, .int 0, .int (nI n)])), (v, .inl (gy G 5, m, .inl f))] 0 0 := by
  refine g_enterIe (ty := .char) RJ5 rfl (by decide) rfl (Nat.le_of_ble_eq_true rfl) ?_
  intro V E RET
  obtain ⟨c, hc, eC⟩ := hL
  have hm := hB.1
  have hnm := hB.2.1
  have hfi : f i = nI c := (hB.2.2.2.2 i hi).trans eC
  refine g_aload_n E dJ5_charAt_5068e_0 rfl 0 rfl ?_
  refine g_get E uJ5_charAt_5068e_RJ4 0 rfl rfl 1 (by decide) kJ5_charAt_5068e_22 rfl rfl dJ5_charAt_5068e_1 ?_
  refine g_istore_n (lv' := [(2, .int 0), (0, .ref b), (1, .int (nI i))]) E dJ5_charAt_5068e_4 rfl (by decide) rfl ?_
  refine g_aload_n E dJ5_charAt_5068e_5 rfl 1 rfl ?_
  refine g_get E uJ5_charAt_5068e_RJ4 0 rfl rfl 0 (by decide) kJ5_charAt_5068e_15 rfl rfl dJ5_charAt_5068e_6 ?_
  refine g_astore_n (lv' := [(3, .ref v), (2, .int 0), (0, .ref b), (1, .int (nI i))]) E dJ5_charAt_5068e_9 rfl (by decide) rfl ?_
  refine g_aload_n E dJ5_charAt_5068e_10 rfl 2 rfl ?_
  refine g_get E uJ5_charAt_5068e_RJ4 0 rfl rfl 3 (by decide) kJ5_charAt_5068e_79 rfl rfl dJ5_charAt_5068e_11 ?_
  refine g_aload_n E dJ5_charAt_5068e_14 rfl 0 rfl ?_
  refine g_alen (v := nI m) E 1 5 rfl rfl (by first | rfl | decide) dJ5_charAt_5068e_15 ?_
  refine g_iload_n E dJ5_charAt_5068e_16 rfl 1 rfl ?_
  refine g_ishr E dJ5_charAt_5068e_17 ?_
  refine g_top (y := nI m) (g_shr0 _) ?_
  refine g_mmin E (by decide +kernel) (by decide +kernel) (by decide +kernel) (by decide +kernel) (Nat.le_of_ble_eq_true rfl) (Nat.le_of_ble_eq_true rfl) (Nat.le_of_ble_eq_true rfl) (Nat.le_of_ble_eq_true rfl) (Nat.le_of_ble_eq_true rfl) dJ5_charAt_5068e_18 ?_
  refine g_top (y := nI (min n m)) (g_min_N (a := n) (b := m) (by omega) (by omega)) ?_
  refine g_istore (lv' := [(4, .int (nI (min n m))), (3, .ref v), (2, .int 0), (0, .ref b), (1, .int (nI i))]) E dJ5_charAt_5068e_21 (by decide) rfl ?_
  refine g_iload_n E dJ5_charAt_5068e_23 rfl 4 rfl ?_
  refine g_iload E dJ5_charAt_5068e_24 0 rfl ?_
  refine g_callSVe (F := [(b, .inr (0, [.ref v, .int 0, .int 0, .int (nI n)])), (v, .inl (gy G 5, m, .inl f))]) (ws2 := [(b, .inr (0, [.ref v, .int 0, .int 0, .int (nI n)])), (v, .inl (gy G 5, m, .inl f))]) E (mJ0_checkIndex_df160 G i (min n m) (by omega) (by omega)) gJ5_charAt_5068e_J0_checkIndex_df160 rfl hnJ0_checkIndex_df160 ⟨Nat.le_of_ble_eq_true rfl, Nat.le_of_ble_eq_true rfl⟩ (gPerm_ix [0, 1] rfl rfl) rfl rfl (Nat.le_of_ble_eq_true rfl) dJ5_charAt_5068e_26 ⟨Nat.le_of_ble_eq_true rfl, Nat.le_of_ble_eq_true rfl⟩ (gPerm_ix [0, 1] rfl rfl) ?_
  refine g_iload_n E dJ5_charAt_5068e_29 rfl 2 rfl ?_
  refine g_if_ne (tgt := 42) E dJ5_charAt_5068e_30 (by decide) (fun c => absurd c (by decide)) (fun _ => ?_)
  refine g_aload_n E dJ5_charAt_5068e_33 rfl 1 rfl ?_
  refine g_iload_n E dJ5_charAt_5068e_34 rfl 4 rfl ?_
  refine g_bald E 1 rfl (g_in (e := i) (by omega) (Nat.ble_eq.mpr (by omega))) (v := nI c) (by rw [nI_clamp (by omega)]; exact hfi) dJ5_charAt_5068e_35 ?_
  refine g_sipush (v := 255) E dJ5_charAt_5068e_36 (by decide) ?_
  refine g_iand E dJ5_charAt_5068e_39 ?_
  refine g_i2c (v := (((nI c) &&& 255).toUInt32 % 65536).toInt32) E dJ5_charAt_5068e_40 rfl ?_
  refine g_top (y := nI c) (gBy c hc).2.2.2.1 ?_
  exact RET _ _ _ () (eC.symm) (by exact congrArg Value.int (gBy c hc).2.2.2.2) dJ5_charAt_5068e_41
set_option maxHeartbeats 4000000 in
set_option maxRecDepth 100000 in
theorem mJ4_charAt_5068e (G : gG) (b v n m : Nat) (f : Nat → Int32) (L : List Int32) (i : Nat) (hB : gBt n L m f) (hi : i < n) (hL : ∃ c, c < 128 ∧ L.getD i 0 = nI c) : CIe G yJ4_charAt_5068e wsJ4_charAt_5068e 4 127 [.ref b, .int (nI i)] [(b, .inr (0, [.ref v, .int 0, .int 0, .int (nI n)])), (v, .inl (gy G 5, m, .inl f))] (L.getD i 0) [(b, .inr (0, [.ref v, .int 0, .int 0, .int (nI n)])), (v, .inl (gy G 5, m, .inl f))] 0 0 := by
  refine g_enterIe (ty := .char) RJ4 rfl (by decide) rfl (Nat.le_of_ble_eq_true rfl) ?_
  intro V E RET
  have hm := hB.1
  refine g_aload_n E dJ4_charAt_5068e_0 rfl 0 rfl ?_
  refine g_iload_n E dJ4_charAt_5068e_1 rfl 1 rfl ?_
  refine g_callSUIe (F := []) (ws2 := [(b, .inr (0, [.ref v, .int 0, .int 0, .int (nI n)])), (v, .inl (gy G 5, m, .inl f))]) E (mJ5_charAt_5068e G b v n m f L i hB (by omega) hL) gJ4_charAt_5068e_J5_charAt_5068e_s329 rfl hqSUJ5_charAt_5068e ⟨Nat.le_of_ble_eq_true rfl, Nat.le_of_ble_eq_true rfl⟩ 0 0 rfl rfl rfl (gPerm_ix [0, 1] rfl rfl) rfl rfl (Nat.le_of_ble_eq_true rfl) dJ4_charAt_5068e_2 ⟨Nat.le_of_ble_eq_true rfl, Nat.le_of_ble_eq_true rfl⟩ (gPerm_ix [0, 1] rfl rfl) ?_
  exact RET _ _ _ () (rfl) (by obtain ⟨c, hc, eC⟩ := hL; rw [eC]; exact congrArg Value.int (gBy c hc).2.2.2.2) dJ4_charAt_5068e_5
set_option maxHeartbeats 4000000 in
set_option maxRecDepth 100000 in
theorem mX2_lineOf (G : gG) (a : Nat → Nat) (S : gSt) (gb gw : Nat → Int32) (k : Nat) (hI : gI1 S) (hT : sN S 0 < 1000000000) (hR : RB (sB S) gb) (hQ : RW (sW S) gw) (hK : gI3 S) (hT5 : sN S 0 ≤ 50000) (hk : k < (sB S).length) : CR G yX2_lineOf wsX2_lineOf 11 283 [.ref (a 0), .int (nI k)] [(a 0, .inr (3, [.int (nI (sN S 0)), .int (nI (sN S 1)), .ref (a 1), .ref (a 2), .ref (a 3), .ref (a 4), .ref (a 5), .ref (a 6), .ref (a 7), .ref (a 8), .int (sI S 9 0), .ref (a 9), .ref (a 11), .ref (a 13), .ref (a 14)])), (a 1, .inl (gy G 0, 8, .inl (sI S 0))), (a 2, .inl (gy G 0, 8, .inl (sI S 1))), (a 3, .inl (gy G 0, 8, .inl (sI S 2))), (a 4, .inl (gy G 0, 8, .inl (sI S 3))), (a 5, .inl (gy G 0, 8, .inl (sI S 4))), (a 6, .inl (gy G 0, 8, .inl (sI S 5))), (a 7, .inl (gy G 0, 10, .inl (sI S 6))), (a 8, .inl (gy G 0, 10, .inl (sI S 7))), (a 9, .inr (1, [.int (nI ((sB S).length)), .ref (a 10)])), (a 10, .inl (gy G 0, 144, .inl gb)), (a 11, .inr (6, [.int (nI ((sW S).length)), .ref (a 12)])), (a 12, .inl (gy G 0, 10, .inl gw)), (a 13, .inl (gy G 0, 5, .inl (sI S 8))), (a 14, .inl (gy G 0, 6, .inl (fun j => nI (sS S j))))] (fun (r : Nat) (u : Nat × Nat × Nat × (Nat → Int32)) => r = u.1 ∧ gBt (gLine S k).length (gLine S k) u.2.2.1 u.2.2.2) (fun u : Nat × Nat × Nat × (Nat → Int32) => [(u.1, .inr (0, [.ref u.2.1, .int 0, .int 0, .int (nI ((gLine S k).length))])), (u.2.1, .inl (gy G 5, u.2.2.1, .inl u.2.2.2)), (a 0, .inr (3, [.int (nI (sN S 0)), .int (nI (sN S 1)), .ref (a 1), .ref (a 2), .ref (a 3), .ref (a 4), .ref (a 5), .ref (a 6), .ref (a 7), .ref (a 8), .int (sI S 9 0), .ref (a 9), .ref (a 11), .ref (a 13), .ref (a 14)])), (a 1, .inl (gy G 0, 8, .inl (sI S 0))), (a 2, .inl (gy G 0, 8, .inl (sI S 1))), (a 3, .inl (gy G 0, 8, .inl (sI S 2))), (a 4, .inl (gy G 0, 8, .inl (sI S 3))), (a 5, .inl (gy G 0, 8, .inl (sI S 4))), (a 6, .inl (gy G 0, 8, .inl (sI S 5))), (a 7, .inl (gy G 0, 10, .inl (sI S 6))), (a 8, .inl (gy G 0, 10, .inl (sI S 7))), (a 9, .inr (1, [.int (nI ((sB S).length)), .ref (a 10)])), (a 10, .inl (gy G 0, 144, .inl gb)), (a 11, .inr (6, [.int (nI ((sW S).length)), .ref (a 12)])), (a 12, .inl (gy G 0, 10, .inl gw)), (a 13, .inl (gy G 0, 5, .inl (sI S 8))), (a 14, .inl (gy G 0, 6, .inl (fun j => nI (sS S j))))]) 14 428 := by
  refine g_enterR (ty := (.object "java/lang/StringBuilder")) RX2 rfl (by decide) rfl (Nat.le_of_ble_eq_true rfl) (by first | exact Or.inl ⟨_, rfl⟩ | exact Or.inr ⟨_, rfl⟩) ?_
  intro V E RET
  have hX := hI
  obtain ⟨hP8, hn, hw, hW8, hs3, hs4, hs5, hs6, hs7, hs8, hb34⟩ := hX
  have h8 : ∀ j, j < (sW S).length → wq (sW S) j < 80 := fun j hj => (hW8 j hj).1
  have hF := hK.1.2.2.1 k hk
  obtain ⟨hf1, hf2, hf0, hf00, hf5, hf6⟩ := hF
  have hf34 := hb34 k hk
  have e1 := gDc_1 (show bk (sB S) k 1 < 10 by omega)
  have e2 := gDc_1 (show bk (sB S) k 2 < 10 by omega)
  have e3 := gDc_1 (show bk (sB S) k 3 < 10 by omega)
  have e4 := gDc_1 (show bk (sB S) k 4 < 10 by omega)
  have e5 := gDc_2 (show bk (sB S) k 5 < 100 by omega)
  have e0 := gDc_le (bk (sB S) k 0)
  refine g_new (fs := [.null, .int 0, .int 0, .int 0]) E 0 uX2_lineOf_RJ4 tyJ4 tyJ4_ok (by decide +kernel) (by decide +kernel) (by decide +kernel) rfl (by decide +kernel) (Nat.le_of_ble_eq_true rfl) (Nat.le_of_ble_eq_true rfl) dX2_lineOf_0 (fun b9 => ?_)
  refine g_ws (ws' := [(a 0, .inr (3, [.int (nI (sN S 0)), .int (nI (sN S 1)), .ref (a 1), .ref (a 2), .ref (a 3), .ref (a 4), .ref (a 5), .ref (a 6), .ref (a 7), .ref (a 8), .int (sI S 9 0), .ref (a 9), .ref (a 11), .ref (a 13), .ref (a 14)])), (a 1, .inl (gy G 0, 8, .inl (sI S 0))), (a 2, .inl (gy G 0, 8, .inl (sI S 1))), (a 3, .inl (gy G 0, 8, .inl (sI S 2))), (a 4, .inl (gy G 0, 8, .inl (sI S 3))), (a 5, .inl (gy G 0, 8, .inl (sI S 4))), (a 6, .inl (gy G 0, 8, .inl (sI S 5))), (a 7, .inl (gy G 0, 10, .inl (sI S 6))), (a 8, .inl (gy G 0, 10, .inl (sI S 7))), (a 9, .inr (1, [.int (nI ((sB S).length)), .ref (a 10)])), (a 10, .inl (gy G 0, 144, .inl gb)), (a 11, .inr (6, [.int (nI ((sW S).length)), .ref (a 12)])), (a 12, .inl (gy G 0, 10, .inl gw)), (a 13, .inl (gy G 0, 5, .inl (sI S 8))), (a 14, .inl (gy G 0, 6, .inl (fun j => nI (sS S j)))), (b9, .inr (0, [.null, .int 0, .int 0, .int 0]))]) rfl ?_
  refine g_dup E dX2_lineOf_3 rfl ?_
  refine g_callIV (F := [(a 0, .inr (3, [.int (nI (sN S 0)), .int (nI (sN S 1)), .ref (a 1), .ref (a 2), .ref (a 3), .ref (a 4), .ref (a 5), .ref (a 6), .ref (a 7), .ref (a 8), .int (sI S 9 0), .ref (a 9), .ref (a 11), .ref (a 13), .ref (a 14)])), (a 1, .inl (gy G 0, 8, .inl (sI S 0))), (a 2, .inl (gy G 0, 8, .inl (sI S 1))), (a 3, .inl (gy G 0, 8, .inl (sI S 2))), (a 4, .inl (gy G 0, 8, .inl (sI S 3))), (a 5, .inl (gy G 0, 8, .inl (sI S 4))), (a 6, .inl (gy G 0, 8, .inl (sI S 5))), (a 7, .inl (gy G 0, 10, .inl (sI S 6))), (a 8, .inl (gy G 0, 10, .inl (sI S 7))), (a 9, .inr (1, [.int (nI ((sB S).length)), .ref (a 10)])), (a 10, .inl (gy G 0, 144, .inl gb)), (a 11, .inr (6, [.int (nI ((sW S).length)), .ref (a 12)])), (a 12, .inl (gy G 0, 10, .inl gw)), (a 13, .inl (gy G 0, 5, .inl (sI S 8))), (a 14, .inl (gy G 0, 6, .inl (fun j => nI (sS S j))))]) E (mJ4_init_da8c8 G b9) gX2_lineOf_J4_init_da8c8 (by decide +kernel) (by decide +kernel) (by decide +kernel) rfl rfl hnJ4_init_da8c8 ⟨Nat.le_of_ble_eq_true rfl, Nat.le_of_ble_eq_true rfl⟩ (gPerm_ix [15, 0, 1, 2, 3, 4, 5, 6, 7, 8, 9, 10, 11, 12, 13, 14] rfl rfl) rfl rfl (Nat.le_of_ble_eq_true rfl) dX2_lineOf_4 ⟨Nat.le_of_ble_eq_true rfl, Nat.le_of_ble_eq_true rfl⟩ (fun q1 _ => ?_)
  refine g_ws (ws' := [(b9, .inr (0, [.ref q1, .int 0, .int 0, .int (nI 0)])), (q1, .inl (gy G 5, 16, .inl (fun _ => 0))), (a 0, .inr (3, [.int (nI (sN S 0)), .int (nI (sN S 1)), .ref (a 1), .ref (a 2), .ref (a 3), .ref (a 4), .ref (a 5), .ref (a 6), .ref (a 7), .ref (a 8), .int (sI S 9 0), .ref (a 9), .ref (a 11), .ref (a 13), .ref (a 14)])), (a 1, .inl (gy G 0, 8, .inl (sI S 0))), (a 2, .inl (gy G 0, 8, .inl (sI S 1))), (a 3, .inl (gy G 0, 8, .inl (sI S 2))), (a 4, .inl (gy G 0, 8, .inl (sI S 3))), (a 5, .inl (gy G 0, 8, .inl (sI S 4))), (a 6, .inl (gy G 0, 8, .inl (sI S 5))), (a 7, .inl (gy G 0, 10, .inl (sI S 6))), (a 8, .inl (gy G 0, 10, .inl (sI S 7))), (a 9, .inr (1, [.int (nI ((sB S).length)), .ref (a 10)])), (a 10, .inl (gy G 0, 144, .inl gb)), (a 11, .inr (6, [.int (nI ((sW S).length)), .ref (a 12)])), (a 12, .inl (gy G 0, 10, .inl gw)), (a 13, .inl (gy G 0, 5, .inl (sI S 8))), (a 14, .inl (gy G 0, 6, .inl (fun j => nI (sS S j))))]) rfl ?_
  refine g_astore_n (lv' := [(2, .ref b9), (0, .ref (a 0)), (1, .int (nI k))]) E dX2_lineOf_7 rfl (by decide) rfl ?_
  refine g_aload_n E dX2_lineOf_8 rfl 1 rfl ?_
  refine g_get E uX2_lineOf_RX2 2 rfl rfl 11 (by decide) kX2_lineOf_39 rfl rfl dX2_lineOf_9 ?_
  refine g_iload_n E dX2_lineOf_12 rfl 2 rfl ?_
  refine g_iconst (v := 0) E dX2_lineOf_13 (by decide) ?_
  refine g_callVIe (F := [(b9, .inr (0, [.ref q1, .int 0, .int 0, .int (nI 0)])), (q1, .inl (gy G 5, 16, .inl (fun _ => 0))), (a 0, .inr (3, [.int (nI (sN S 0)), .int (nI (sN S 1)), .ref (a 1), .ref (a 2), .ref (a 3), .ref (a 4), .ref (a 5), .ref (a 6), .ref (a 7), .ref (a 8), .int (sI S 9 0), .ref (a 9), .ref (a 11), .ref (a 13), .ref (a 14)])), (a 1, .inl (gy G 0, 8, .inl (sI S 0))), (a 2, .inl (gy G 0, 8, .inl (sI S 1))), (a 3, .inl (gy G 0, 8, .inl (sI S 2))), (a 4, .inl (gy G 0, 8, .inl (sI S 3))), (a 5, .inl (gy G 0, 8, .inl (sI S 4))), (a 6, .inl (gy G 0, 8, .inl (sI S 5))), (a 7, .inl (gy G 0, 10, .inl (sI S 6))), (a 8, .inl (gy G 0, 10, .inl (sI S 7))), (a 11, .inr (6, [.int (nI ((sW S).length)), .ref (a 12)])), (a 12, .inl (gy G 0, 10, .inl gw)), (a 13, .inl (gy G 0, 5, .inl (sI S 8))), (a 14, .inl (gy G 0, 6, .inl (fun j => nI (sS S j))))]) (ws2 := [(b9, .inr (0, [.ref q1, .int 0, .int 0, .int (nI 0)])), (q1, .inl (gy G 5, 16, .inl (fun _ => 0))), (a 0, .inr (3, [.int (nI (sN S 0)), .int (nI (sN S 1)), .ref (a 1), .ref (a 2), .ref (a 3), .ref (a 4), .ref (a 5), .ref (a 6), .ref (a 7), .ref (a 8), .int (sI S 9 0), .ref (a 9), .ref (a 11), .ref (a 13), .ref (a 14)])), (a 1, .inl (gy G 0, 8, .inl (sI S 0))), (a 2, .inl (gy G 0, 8, .inl (sI S 1))), (a 3, .inl (gy G 0, 8, .inl (sI S 2))), (a 4, .inl (gy G 0, 8, .inl (sI S 3))), (a 5, .inl (gy G 0, 8, .inl (sI S 4))), (a 6, .inl (gy G 0, 8, .inl (sI S 5))), (a 7, .inl (gy G 0, 10, .inl (sI S 6))), (a 8, .inl (gy G 0, 10, .inl (sI S 7))), (a 9, .inr (1, [.int (nI ((sB S).length)), .ref (a 10)])), (a 10, .inl (gy G 0, 144, .inl gb)), (a 11, .inr (6, [.int (nI ((sW S).length)), .ref (a 12)])), (a 12, .inl (gy G 0, 10, .inl gw)), (a 13, .inl (gy G 0, 5, .inl (sI S 8))), (a 14, .inl (gy G 0, 6, .inl (fun j => nI (sS S j))))]) E (mX0_at G (a 9) (a 10) (sB S) gb k 0 hn hR (by omega) (by omega)) gX2_lineOf_X0_at rfl hdX0_at ⟨Nat.le_of_ble_eq_true rfl, Nat.le_of_ble_eq_true rfl⟩ 1 0 rfl rfl rfl (gPerm_ix [11, 12, 0, 1, 2, 3, 4, 5, 6, 7, 8, 9, 10, 13, 14, 15, 16] rfl rfl) rfl rfl (Nat.le_of_ble_eq_true rfl) dX2_lineOf_14 ⟨Nat.le_of_ble_eq_true rfl, Nat.le_of_ble_eq_true rfl⟩ (gPerm_ix [2, 3, 4, 5, 6, 7, 8, 9, 10, 11, 12, 0, 1, 13, 14, 15, 16] rfl rfl) ?_
  refine g_istore_n (lv' := [(3, .int (nI (bk (sB S) k 0))), (2, .ref b9), (0, .ref (a 0)), (1, .int (nI k))]) E dX2_lineOf_17 rfl (by decide) rfl ?_
  refine g_aload_n E dX2_lineOf_18 rfl 2 rfl ?_
  refine g_get E uX2_lineOf_RX2 2 rfl rfl 11 (by decide) kX2_lineOf_39 rfl rfl dX2_lineOf_19 ?_
  refine g_iload_n E dX2_lineOf_22 rfl 3 rfl ?_
  refine g_iconst (v := 3) E dX2_lineOf_23 (by decide) ?_
  refine g_callVIe (F := [(b9, .inr (0, [.ref q1, .int 0, .int 0, .int (nI 0)])), (q1, .inl (gy G 5, 16, .inl (fun _ => 0))), (a 0, .inr (3, [.int (nI (sN S 0)), .int (nI (sN S 1)), .ref (a 1), .ref (a 2), .ref (a 3), .ref (a 4), .ref (a 5), .ref (a 6), .ref (a 7), .ref (a 8), .int (sI S 9 0), .ref (a 9), .ref (a 11), .ref (a 13), .ref (a 14)])), (a 1, .inl (gy G 0, 8, .inl (sI S 0))), (a 2, .inl (gy G 0, 8, .inl (sI S 1))), (a 3, .inl (gy G 0, 8, .inl (sI S 2))), (a 4, .inl (gy G 0, 8, .inl (sI S 3))), (a 5, .inl (gy G 0, 8, .inl (sI S 4))), (a 6, .inl (gy G 0, 8, .inl (sI S 5))), (a 7, .inl (gy G 0, 10, .inl (sI S 6))), (a 8, .inl (gy G 0, 10, .inl (sI S 7))), (a 11, .inr (6, [.int (nI ((sW S).length)), .ref (a 12)])), (a 12, .inl (gy G 0, 10, .inl gw)), (a 13, .inl (gy G 0, 5, .inl (sI S 8))), (a 14, .inl (gy G 0, 6, .inl (fun j => nI (sS S j))))]) (ws2 := [(b9, .inr (0, [.ref q1, .int 0, .int 0, .int (nI 0)])), (q1, .inl (gy G 5, 16, .inl (fun _ => 0))), (a 0, .inr (3, [.int (nI (sN S 0)), .int (nI (sN S 1)), .ref (a 1), .ref (a 2), .ref (a 3), .ref (a 4), .ref (a 5), .ref (a 6), .ref (a 7), .ref (a 8), .int (sI S 9 0), .ref (a 9), .ref (a 11), .ref (a 13), .ref (a 14)])), (a 1, .inl (gy G 0, 8, .inl (sI S 0))), (a 2, .inl (gy G 0, 8, .inl (sI S 1))), (a 3, .inl (gy G 0, 8, .inl (sI S 2))), (a 4, .inl (gy G 0, 8, .inl (sI S 3))), (a 5, .inl (gy G 0, 8, .inl (sI S 4))), (a 6, .inl (gy G 0, 8, .inl (sI S 5))), (a 7, .inl (gy G 0, 10, .inl (sI S 6))), (a 8, .inl (gy G 0, 10, .inl (sI S 7))), (a 9, .inr (1, [.int (nI ((sB S).length)), .ref (a 10)])), (a 10, .inl (gy G 0, 144, .inl gb)), (a 11, .inr (6, [.int (nI ((sW S).length)), .ref (a 12)])), (a 12, .inl (gy G 0, 10, .inl gw)), (a 13, .inl (gy G 0, 5, .inl (sI S 8))), (a 14, .inl (gy G 0, 6, .inl (fun j => nI (sS S j))))]) E (mX0_at G (a 9) (a 10) (sB S) gb k 3 hn hR (by omega) (by omega)) gX2_lineOf_X0_at rfl hdX0_at ⟨Nat.le_of_ble_eq_true rfl, Nat.le_of_ble_eq_true rfl⟩ 1 0 rfl rfl rfl (gPerm_ix [11, 12, 0, 1, 2, 3, 4, 5, 6, 7, 8, 9, 10, 13, 14, 15, 16] rfl rfl) rfl rfl (Nat.le_of_ble_eq_true rfl) dX2_lineOf_24 ⟨Nat.le_of_ble_eq_true rfl, Nat.le_of_ble_eq_true rfl⟩ (gPerm_ix [2, 3, 4, 5, 6, 7, 8, 9, 10, 11, 12, 0, 1, 13, 14, 15, 16] rfl rfl) ?_
  refine g_istore (lv' := [(4, .int (nI (bk (sB S) k 3))), (3, .int (nI (bk (sB S) k 0))), (2, .ref b9), (0, .ref (a 0)), (1, .int (nI k))]) E dX2_lineOf_27 (by decide) rfl ?_
  refine g_aload_n E dX2_lineOf_29 rfl 3 rfl ?_
  refine g_get E uX2_lineOf_RX2 2 rfl rfl 11 (by decide) kX2_lineOf_39 rfl rfl dX2_lineOf_30 ?_
  refine g_iload_n E dX2_lineOf_33 rfl 4 rfl ?_
  refine g_iconst (v := 4) E dX2_lineOf_34 (by decide) ?_
  refine g_callVIe (F := [(b9, .inr (0, [.ref q1, .int 0, .int 0, .int (nI 0)])), (q1, .inl (gy G 5, 16, .inl (fun _ => 0))), (a 0, .inr (3, [.int (nI (sN S 0)), .int (nI (sN S 1)), .ref (a 1), .ref (a 2), .ref (a 3), .ref (a 4), .ref (a 5), .ref (a 6), .ref (a 7), .ref (a 8), .int (sI S 9 0), .ref (a 9), .ref (a 11), .ref (a 13), .ref (a 14)])), (a 1, .inl (gy G 0, 8, .inl (sI S 0))), (a 2, .inl (gy G 0, 8, .inl (sI S 1))), (a 3, .inl (gy G 0, 8, .inl (sI S 2))), (a 4, .inl (gy G 0, 8, .inl (sI S 3))), (a 5, .inl (gy G 0, 8, .inl (sI S 4))), (a 6, .inl (gy G 0, 8, .inl (sI S 5))), (a 7, .inl (gy G 0, 10, .inl (sI S 6))), (a 8, .inl (gy G 0, 10, .inl (sI S 7))), (a 11, .inr (6, [.int (nI ((sW S).length)), .ref (a 12)])), (a 12, .inl (gy G 0, 10, .inl gw)), (a 13, .inl (gy G 0, 5, .inl (sI S 8))), (a 14, .inl (gy G 0, 6, .inl (fun j => nI (sS S j))))]) (ws2 := [(b9, .inr (0, [.ref q1, .int 0, .int 0, .int (nI 0)])), (q1, .inl (gy G 5, 16, .inl (fun _ => 0))), (a 0, .inr (3, [.int (nI (sN S 0)), .int (nI (sN S 1)), .ref (a 1), .ref (a 2), .ref (a 3), .ref (a 4), .ref (a 5), .ref (a 6), .ref (a 7), .ref (a 8), .int (sI S 9 0), .ref (a 9), .ref (a 11), .ref (a 13), .ref (a 14)])), (a 1, .inl (gy G 0, 8, .inl (sI S 0))), (a 2, .inl (gy G 0, 8, .inl (sI S 1))), (a 3, .inl (gy G 0, 8, .inl (sI S 2))), (a 4, .inl (gy G 0, 8, .inl (sI S 3))), (a 5, .inl (gy G 0, 8, .inl (sI S 4))), (a 6, .inl (gy G 0, 8, .inl (sI S 5))), (a 7, .inl (gy G 0, 10, .inl (sI S 6))), (a 8, .inl (gy G 0, 10, .inl (sI S 7))), (a 9, .inr (1, [.int (nI ((sB S).length)), .ref (a 10)])), (a 10, .inl (gy G 0, 144, .inl gb)), (a 11, .inr (6, [.int (nI ((sW S).length)), .ref (a 12)])), (a 12, .inl (gy G 0, 10, .inl gw)), (a 13, .inl (gy G 0, 5, .inl (sI S 8))), (a 14, .inl (gy G 0, 6, .inl (fun j => nI (sS S j))))]) E (mX0_at G (a 9) (a 10) (sB S) gb k 4 hn hR (by omega) (by omega)) gX2_lineOf_X0_at rfl hdX0_at ⟨Nat.le_of_ble_eq_true rfl, Nat.le_of_ble_eq_true rfl⟩ 1 0 rfl rfl rfl (gPerm_ix [11, 12, 0, 1, 2, 3, 4, 5, 6, 7, 8, 9, 10, 13, 14, 15, 16] rfl rfl) rfl rfl (Nat.le_of_ble_eq_true rfl) dX2_lineOf_35 ⟨Nat.le_of_ble_eq_true rfl, Nat.le_of_ble_eq_true rfl⟩ (gPerm_ix [2, 3, 4, 5, 6, 7, 8, 9, 10, 11, 12, 0, 1, 13, 14, 15, 16] rfl rfl) ?_
  refine g_istore (lv' := [(5, .int (nI (bk (sB S) k 4))), (4, .int (nI (bk (sB S) k 3))), (3, .int (nI (bk (sB S) k 0))), (2, .ref b9), (0, .ref (a 0)), (1, .int (nI k))]) E dX2_lineOf_38 (by decide) rfl ?_
  refine g_aload_n E dX2_lineOf_40 rfl 4 rfl ?_
  refine g_get E uX2_lineOf_RX2 2 rfl rfl 11 (by decide) kX2_lineOf_39 rfl rfl dX2_lineOf_41 ?_
  refine g_iload_n E dX2_lineOf_44 rfl 5 rfl ?_
  refine g_iconst (v := 5) E dX2_lineOf_45 (by decide) ?_
  refine g_callVIe (F := [(b9, .inr (0, [.ref q1, .int 0, .int 0, .int (nI 0)])), (q1, .inl (gy G 5, 16, .inl (fun _ => 0))), (a 0, .inr (3, [.int (nI (sN S 0)), .int (nI (sN S 1)), .ref (a 1), .ref (a 2), .ref (a 3), .ref (a 4), .ref (a 5), .ref (a 6), .ref (a 7), .ref (a 8), .int (sI S 9 0), .ref (a 9), .ref (a 11), .ref (a 13), .ref (a 14)])), (a 1, .inl (gy G 0, 8, .inl (sI S 0))), (a 2, .inl (gy G 0, 8, .inl (sI S 1))), (a 3, .inl (gy G 0, 8, .inl (sI S 2))), (a 4, .inl (gy G 0, 8, .inl (sI S 3))), (a 5, .inl (gy G 0, 8, .inl (sI S 4))), (a 6, .inl (gy G 0, 8, .inl (sI S 5))), (a 7, .inl (gy G 0, 10, .inl (sI S 6))), (a 8, .inl (gy G 0, 10, .inl (sI S 7))), (a 11, .inr (6, [.int (nI ((sW S).length)), .ref (a 12)])), (a 12, .inl (gy G 0, 10, .inl gw)), (a 13, .inl (gy G 0, 5, .inl (sI S 8))), (a 14, .inl (gy G 0, 6, .inl (fun j => nI (sS S j))))]) (ws2 := [(b9, .inr (0, [.ref q1, .int 0, .int 0, .int (nI 0)])), (q1, .inl (gy G 5, 16, .inl (fun _ => 0))), (a 0, .inr (3, [.int (nI (sN S 0)), .int (nI (sN S 1)), .ref (a 1), .ref (a 2), .ref (a 3), .ref (a 4), .ref (a 5), .ref (a 6), .ref (a 7), .ref (a 8), .int (sI S 9 0), .ref (a 9), .ref (a 11), .ref (a 13), .ref (a 14)])), (a 1, .inl (gy G 0, 8, .inl (sI S 0))), (a 2, .inl (gy G 0, 8, .inl (sI S 1))), (a 3, .inl (gy G 0, 8, .inl (sI S 2))), (a 4, .inl (gy G 0, 8, .inl (sI S 3))), (a 5, .inl (gy G 0, 8, .inl (sI S 4))), (a 6, .inl (gy G 0, 8, .inl (sI S 5))), (a 7, .inl (gy G 0, 10, .inl (sI S 6))), (a 8, .inl (gy G 0, 10, .inl (sI S 7))), (a 9, .inr (1, [.int (nI ((sB S).length)), .ref (a 10)])), (a 10, .inl (gy G 0, 144, .inl gb)), (a 11, .inr (6, [.int (nI ((sW S).length)), .ref (a 12)])), (a 12, .inl (gy G 0, 10, .inl gw)), (a 13, .inl (gy G 0, 5, .inl (sI S 8))), (a 14, .inl (gy G 0, 6, .inl (fun j => nI (sS S j))))]) E (mX0_at G (a 9) (a 10) (sB S) gb k 5 hn hR (by omega) (by omega)) gX2_lineOf_X0_at rfl hdX0_at ⟨Nat.le_of_ble_eq_true rfl, Nat.le_of_ble_eq_true rfl⟩ 1 0 rfl rfl rfl (gPerm_ix [11, 12, 0, 1, 2, 3, 4, 5, 6, 7, 8, 9, 10, 13, 14, 15, 16] rfl rfl) rfl rfl (Nat.le_of_ble_eq_true rfl) dX2_lineOf_46 ⟨Nat.le_of_ble_eq_true rfl, Nat.le_of_ble_eq_true rfl⟩ (gPerm_ix [2, 3, 4, 5, 6, 7, 8, 9, 10, 11, 12, 0, 1, 13, 14, 15, 16] rfl rfl) ?_
  refine g_istore (lv' := [(6, .int (nI (bk (sB S) k 5))), (5, .int (nI (bk (sB S) k 4))), (4, .int (nI (bk (sB S) k 3))), (3, .int (nI (bk (sB S) k 0))), (2, .ref b9), (0, .ref (a 0)), (1, .int (nI k))]) E dX2_lineOf_49 (by decide) rfl ?_
  refine g_aload_n E dX2_lineOf_51 rfl 4 rfl ?_
  refine g_iload_n E dX2_lineOf_52 rfl 3 rfl ?_
  refine g_callVR (F := [(a 0, .inr (3, [.int (nI (sN S 0)), .int (nI (sN S 1)), .ref (a 1), .ref (a 2), .ref (a 3), .ref (a 4), .ref (a 5), .ref (a 6), .ref (a 7), .ref (a 8), .int (sI S 9 0), .ref (a 9), .ref (a 11), .ref (a 13), .ref (a 14)])), (a 1, .inl (gy G 0, 8, .inl (sI S 0))), (a 2, .inl (gy G 0, 8, .inl (sI S 1))), (a 3, .inl (gy G 0, 8, .inl (sI S 2))), (a 4, .inl (gy G 0, 8, .inl (sI S 3))), (a 5, .inl (gy G 0, 8, .inl (sI S 4))), (a 6, .inl (gy G 0, 8, .inl (sI S 5))), (a 7, .inl (gy G 0, 10, .inl (sI S 6))), (a 8, .inl (gy G 0, 10, .inl (sI S 7))), (a 9, .inr (1, [.int (nI ((sB S).length)), .ref (a 10)])), (a 10, .inl (gy G 0, 144, .inl gb)), (a 11, .inr (6, [.int (nI ((sW S).length)), .ref (a 12)])), (a 12, .inl (gy G 0, 10, .inl gw)), (a 13, .inl (gy G 0, 5, .inl (sI S 8))), (a 14, .inl (gy G 0, 6, .inl (fun j => nI (sS S j))))]) E (mJ4_append_bf812 G b9 q1 0 16 (fun _ => 0) ([] : List Int32) (bk (sB S) k 0) gBt_0 (by omega) (by omega)) gX2_lineOf_J4_append_bf812 rfl hdJ4_append_bf812 ⟨Nat.le_of_ble_eq_true rfl, Nat.le_of_ble_eq_true rfl⟩ 0 0 rfl rfl rfl (gPerm_ix [0, 1, 2, 3, 4, 5, 6, 7, 8, 9, 10, 11, 12, 13, 14, 15, 16] rfl rfl) rfl rfl (Nat.le_of_ble_eq_true rfl) dX2_lineOf_53 ⟨Nat.le_of_ble_eq_true rfl, Nat.le_of_ble_eq_true rfl⟩ (fun r3 u2 hA2 => ?_)
  obtain ⟨v2, m2, f2⟩ := u2
  obtain ⟨hr2, hB2⟩ := hA2
  rw [hr2]
  refine g_perm (ws1 := [(b9, .inr (0, [.ref v2, .int 0, .int 0, .int (nI (0 + (gDc (bk (sB S) k 0))))])), (v2, .inl (gy G 5, m2, .inl f2)), (a 0, .inr (3, [.int (nI (sN S 0)), .int (nI (sN S 1)), .ref (a 1), .ref (a 2), .ref (a 3), .ref (a 4), .ref (a 5), .ref (a 6), .ref (a 7), .ref (a 8), .int (sI S 9 0), .ref (a 9), .ref (a 11), .ref (a 13), .ref (a 14)])), (a 1, .inl (gy G 0, 8, .inl (sI S 0))), (a 2, .inl (gy G 0, 8, .inl (sI S 1))), (a 3, .inl (gy G 0, 8, .inl (sI S 2))), (a 4, .inl (gy G 0, 8, .inl (sI S 3))), (a 5, .inl (gy G 0, 8, .inl (sI S 4))), (a 6, .inl (gy G 0, 8, .inl (sI S 5))), (a 7, .inl (gy G 0, 10, .inl (sI S 6))), (a 8, .inl (gy G 0, 10, .inl (sI S 7))), (a 9, .inr (1, [.int (nI ((sB S).length)), .ref (a 10)])), (a 10, .inl (gy G 0, 144, .inl gb)), (a 11, .inr (6, [.int (nI ((sW S).length)), .ref (a 12)])), (a 12, .inl (gy G 0, 10, .inl gw)), (a 13, .inl (gy G 0, 5, .inl (sI S 8))), (a 14, .inl (gy G 0, 6, .inl (fun j => nI (sS S j))))]) (gPerm_ix [0, 1, 2, 3, 4, 5, 6, 7, 8, 9, 10, 11, 12, 13, 14, 15, 16] rfl rfl) ?_
  refine g_bipush (v := 100) E dX2_lineOf_56 (by decide) ?_
  refine g_callVR (F := [(a 0, .inr (3, [.int (nI (sN S 0)), .int (nI (sN S 1)), .ref (a 1), .ref (a 2), .ref (a 3), .ref (a 4), .ref (a 5), .ref (a 6), .ref (a 7), .ref (a 8), .int (sI S 9 0), .ref (a 9), .ref (a 11), .ref (a 13), .ref (a 14)])), (a 1, .inl (gy G 0, 8, .inl (sI S 0))), (a 2, .inl (gy G 0, 8, .inl (sI S 1))), (a 3, .inl (gy G 0, 8, .inl (sI S 2))), (a 4, .inl (gy G 0, 8, .inl (sI S 3))), (a 5, .inl (gy G 0, 8, .inl (sI S 4))), (a 6, .inl (gy G 0, 8, .inl (sI S 5))), (a 7, .inl (gy G 0, 10, .inl (sI S 6))), (a 8, .inl (gy G 0, 10, .inl (sI S 7))), (a 9, .inr (1, [.int (nI ((sB S).length)), .ref (a 10)])), (a 10, .inl (gy G 0, 144, .inl gb)), (a 11, .inr (6, [.int (nI ((sW S).length)), .ref (a 12)])), (a 12, .inl (gy G 0, 10, .inl gw)), (a 13, .inl (gy G 0, 5, .inl (sI S 8))), (a 14, .inl (gy G 0, 6, .inl (fun j => nI (sS S j))))]) E (mJ4_append_cf468 G b9 v2 (0 + (gDc (bk (sB S) k 0))) m2 f2 (([] : List Int32) ++ gDgs (bk (sB S) k 0)) 100 hB2 (by omega) (by decide)) gX2_lineOf_J4_append_cf468 rfl hdJ4_append_cf468 ⟨Nat.le_of_ble_eq_true rfl, Nat.le_of_ble_eq_true rfl⟩ 0 0 rfl rfl rfl (gPerm_ix [0, 1, 2, 3, 4, 5, 6, 7, 8, 9, 10, 11, 12, 13, 14, 15, 16] rfl rfl) rfl rfl (Nat.le_of_ble_eq_true rfl) dX2_lineOf_58 ⟨Nat.le_of_ble_eq_true rfl, Nat.le_of_ble_eq_true rfl⟩ (fun r5 u4 hA4 => ?_)
  obtain ⟨v4, m4, f4⟩ := u4
  obtain ⟨hr4, hB4⟩ := hA4
  rw [hr4]
  refine g_perm (ws1 := [(b9, .inr (0, [.ref v4, .int 0, .int 0, .int (nI (0 + (gDc (bk (sB S) k 0)) + 1))])), (v4, .inl (gy G 5, m4, .inl f4)), (a 0, .inr (3, [.int (nI (sN S 0)), .int (nI (sN S 1)), .ref (a 1), .ref (a 2), .ref (a 3), .ref (a 4), .ref (a 5), .ref (a 6), .ref (a 7), .ref (a 8), .int (sI S 9 0), .ref (a 9), .ref (a 11), .ref (a 13), .ref (a 14)])), (a 1, .inl (gy G 0, 8, .inl (sI S 0))), (a 2, .inl (gy G 0, 8, .inl (sI S 1))), (a 3, .inl (gy G 0, 8, .inl (sI S 2))), (a 4, .inl (gy G 0, 8, .inl (sI S 3))), (a 5, .inl (gy G 0, 8, .inl (sI S 4))), (a 6, .inl (gy G 0, 8, .inl (sI S 5))), (a 7, .inl (gy G 0, 10, .inl (sI S 6))), (a 8, .inl (gy G 0, 10, .inl (sI S 7))), (a 9, .inr (1, [.int (nI ((sB S).length)), .ref (a 10)])), (a 10, .inl (gy G 0, 144, .inl gb)), (a 11, .inr (6, [.int (nI ((sW S).length)), .ref (a 12)])), (a 12, .inl (gy G 0, 10, .inl gw)), (a 13, .inl (gy G 0, 5, .inl (sI S 8))), (a 14, .inl (gy G 0, 6, .inl (fun j => nI (sS S j))))]) (gPerm_ix [0, 1, 2, 3, 4, 5, 6, 7, 8, 9, 10, 11, 12, 13, 14, 15, 16] rfl rfl) ?_
  refine g_pop E dX2_lineOf_61 rfl ?_
  refine g_aload_n E dX2_lineOf_62 rfl 4 rfl ?_
  refine g_aload_n E dX2_lineOf_63 rfl 5 rfl ?_
  refine g_get E uX2_lineOf_RX2 2 rfl rfl 11 (by decide) kX2_lineOf_39 rfl rfl dX2_lineOf_64 ?_
  refine g_iload_n E dX2_lineOf_67 rfl 6 rfl ?_
  refine g_iconst (v := 1) E dX2_lineOf_68 (by decide) ?_
  refine g_callVIe (F := [(b9, .inr (0, [.ref v4, .int 0, .int 0, .int (nI (0 + (gDc (bk (sB S) k 0)) + 1))])), (v4, .inl (gy G 5, m4, .inl f4)), (a 0, .inr (3, [.int (nI (sN S 0)), .int (nI (sN S 1)), .ref (a 1), .ref (a 2), .ref (a 3), .ref (a 4), .ref (a 5), .ref (a 6), .ref (a 7), .ref (a 8), .int (sI S 9 0), .ref (a 9), .ref (a 11), .ref (a 13), .ref (a 14)])), (a 1, .inl (gy G 0, 8, .inl (sI S 0))), (a 2, .inl (gy G 0, 8, .inl (sI S 1))), (a 3, .inl (gy G 0, 8, .inl (sI S 2))), (a 4, .inl (gy G 0, 8, .inl (sI S 3))), (a 5, .inl (gy G 0, 8, .inl (sI S 4))), (a 6, .inl (gy G 0, 8, .inl (sI S 5))), (a 7, .inl (gy G 0, 10, .inl (sI S 6))), (a 8, .inl (gy G 0, 10, .inl (sI S 7))), (a 11, .inr (6, [.int (nI ((sW S).length)), .ref (a 12)])), (a 12, .inl (gy G 0, 10, .inl gw)), (a 13, .inl (gy G 0, 5, .inl (sI S 8))), (a 14, .inl (gy G 0, 6, .inl (fun j => nI (sS S j))))]) (ws2 := [(b9, .inr (0, [.ref v4, .int 0, .int 0, .int (nI (0 + (gDc (bk (sB S) k 0)) + 1))])), (v4, .inl (gy G 5, m4, .inl f4)), (a 0, .inr (3, [.int (nI (sN S 0)), .int (nI (sN S 1)), .ref (a 1), .ref (a 2), .ref (a 3), .ref (a 4), .ref (a 5), .ref (a 6), .ref (a 7), .ref (a 8), .int (sI S 9 0), .ref (a 9), .ref (a 11), .ref (a 13), .ref (a 14)])), (a 1, .inl (gy G 0, 8, .inl (sI S 0))), (a 2, .inl (gy G 0, 8, .inl (sI S 1))), (a 3, .inl (gy G 0, 8, .inl (sI S 2))), (a 4, .inl (gy G 0, 8, .inl (sI S 3))), (a 5, .inl (gy G 0, 8, .inl (sI S 4))), (a 6, .inl (gy G 0, 8, .inl (sI S 5))), (a 7, .inl (gy G 0, 10, .inl (sI S 6))), (a 8, .inl (gy G 0, 10, .inl (sI S 7))), (a 9, .inr (1, [.int (nI ((sB S).length)), .ref (a 10)])), (a 10, .inl (gy G 0, 144, .inl gb)), (a 11, .inr (6, [.int (nI ((sW S).length)), .ref (a 12)])), (a 12, .inl (gy G 0, 10, .inl gw)), (a 13, .inl (gy G 0, 5, .inl (sI S 8))), (a 14, .inl (gy G 0, 6, .inl (fun j => nI (sS S j))))]) E (mX0_at G (a 9) (a 10) (sB S) gb k 1 hn hR (by omega) (by omega)) gX2_lineOf_X0_at rfl hdX0_at ⟨Nat.le_of_ble_eq_true rfl, Nat.le_of_ble_eq_true rfl⟩ 1 0 rfl rfl rfl (gPerm_ix [11, 12, 0, 1, 2, 3, 4, 5, 6, 7, 8, 9, 10, 13, 14, 15, 16] rfl rfl) rfl rfl (Nat.le_of_ble_eq_true rfl) dX2_lineOf_69 ⟨Nat.le_of_ble_eq_true rfl, Nat.le_of_ble_eq_true rfl⟩ (gPerm_ix [2, 3, 4, 5, 6, 7, 8, 9, 10, 11, 12, 0, 1, 13, 14, 15, 16] rfl rfl) ?_
  refine g_callVR (F := [(a 0, .inr (3, [.int (nI (sN S 0)), .int (nI (sN S 1)), .ref (a 1), .ref (a 2), .ref (a 3), .ref (a 4), .ref (a 5), .ref (a 6), .ref (a 7), .ref (a 8), .int (sI S 9 0), .ref (a 9), .ref (a 11), .ref (a 13), .ref (a 14)])), (a 1, .inl (gy G 0, 8, .inl (sI S 0))), (a 2, .inl (gy G 0, 8, .inl (sI S 1))), (a 3, .inl (gy G 0, 8, .inl (sI S 2))), (a 4, .inl (gy G 0, 8, .inl (sI S 3))), (a 5, .inl (gy G 0, 8, .inl (sI S 4))), (a 6, .inl (gy G 0, 8, .inl (sI S 5))), (a 7, .inl (gy G 0, 10, .inl (sI S 6))), (a 8, .inl (gy G 0, 10, .inl (sI S 7))), (a 9, .inr (1, [.int (nI ((sB S).length)), .ref (a 10)])), (a 10, .inl (gy G 0, 144, .inl gb)), (a 11, .inr (6, [.int (nI ((sW S).length)), .ref (a 12)])), (a 12, .inl (gy G 0, 10, .inl gw)), (a 13, .inl (gy G 0, 5, .inl (sI S 8))), (a 14, .inl (gy G 0, 6, .inl (fun j => nI (sS S j))))]) E (mJ4_append_bf812 G b9 v4 (0 + (gDc (bk (sB S) k 0)) + 1) m4 f4 ((([] : List Int32) ++ gDgs (bk (sB S) k 0)) ++ [nI 100]) (bk (sB S) k 1) hB4 (by omega) (by omega)) gX2_lineOf_J4_append_bf812 rfl hdJ4_append_bf812 ⟨Nat.le_of_ble_eq_true rfl, Nat.le_of_ble_eq_true rfl⟩ 0 0 rfl rfl rfl (gPerm_ix [0, 1, 2, 3, 4, 5, 6, 7, 8, 9, 10, 11, 12, 13, 14, 15, 16] rfl rfl) rfl rfl (Nat.le_of_ble_eq_true rfl) dX2_lineOf_72 ⟨Nat.le_of_ble_eq_true rfl, Nat.le_of_ble_eq_true rfl⟩ (fun r7 u6 hA6 => ?_)
  obtain ⟨v6, m6, f6⟩ := u6
  obtain ⟨hr6, hB6⟩ := hA6
  rw [hr6]
  refine g_perm (ws1 := [(b9, .inr (0, [.ref v6, .int 0, .int 0, .int (nI (0 + (gDc (bk (sB S) k 0)) + 1 + (gDc (bk (sB S) k 1))))])), (v6, .inl (gy G 5, m6, .inl f6)), (a 0, .inr (3, [.int (nI (sN S 0)), .int (nI (sN S 1)), .ref (a 1), .ref (a 2), .ref (a 3), .ref (a 4), .ref (a 5), .ref (a 6), .ref (a 7), .ref (a 8), .int (sI S 9 0), .ref (a 9), .ref (a 11), .ref (a 13), .ref (a 14)])), (a 1, .inl (gy G 0, 8, .inl (sI S 0))), (a 2, .inl (gy G 0, 8, .inl (sI S 1))), (a 3, .inl (gy G 0, 8, .inl (sI S 2))), (a 4, .inl (gy G 0, 8, .inl (sI S 3))), (a 5, .inl (gy G 0, 8, .inl (sI S 4))), (a 6, .inl (gy G 0, 8, .inl (sI S 5))), (a 7, .inl (gy G 0, 10, .inl (sI S 6))), (a 8, .inl (gy G 0, 10, .inl (sI S 7))), (a 9, .inr (1, [.int (nI ((sB S).length)), .ref (a 10)])), (a 10, .inl (gy G 0, 144, .inl gb)), (a 11, .inr (6, [.int (nI ((sW S).length)), .ref (a 12)])), (a 12, .inl (gy G 0, 10, .inl gw)), (a 13, .inl (gy G 0, 5, .inl (sI S 8))), (a 14, .inl (gy G 0, 6, .inl (fun j => nI (sS S j))))]) (gPerm_ix [0, 1, 2, 3, 4, 5, 6, 7, 8, 9, 10, 11, 12, 13, 14, 15, 16] rfl rfl) ?_
  refine g_bipush (v := 104) E dX2_lineOf_75 (by decide) ?_
  refine g_callVR (F := [(a 0, .inr (3, [.int (nI (sN S 0)), .int (nI (sN S 1)), .ref (a 1), .ref (a 2), .ref (a 3), .ref (a 4), .ref (a 5), .ref (a 6), .ref (a 7), .ref (a 8), .int (sI S 9 0), .ref (a 9), .ref (a 11), .ref (a 13), .ref (a 14)])), (a 1, .inl (gy G 0, 8, .inl (sI S 0))), (a 2, .inl (gy G 0, 8, .inl (sI S 1))), (a 3, .inl (gy G 0, 8, .inl (sI S 2))), (a 4, .inl (gy G 0, 8, .inl (sI S 3))), (a 5, .inl (gy G 0, 8, .inl (sI S 4))), (a 6, .inl (gy G 0, 8, .inl (sI S 5))), (a 7, .inl (gy G 0, 10, .inl (sI S 6))), (a 8, .inl (gy G 0, 10, .inl (sI S 7))), (a 9, .inr (1, [.int (nI ((sB S).length)), .ref (a 10)])), (a 10, .inl (gy G 0, 144, .inl gb)), (a 11, .inr (6, [.int (nI ((sW S).length)), .ref (a 12)])), (a 12, .inl (gy G 0, 10, .inl gw)), (a 13, .inl (gy G 0, 5, .inl (sI S 8))), (a 14, .inl (gy G 0, 6, .inl (fun j => nI (sS S j))))]) E (mJ4_append_cf468 G b9 v6 (0 + (gDc (bk (sB S) k 0)) + 1 + (gDc (bk (sB S) k 1))) m6 f6 (((([] : List Int32) ++ gDgs (bk (sB S) k 0)) ++ [nI 100]) ++ gDgs (bk (sB S) k 1)) 104 hB6 (by omega) (by decide)) gX2_lineOf_J4_append_cf468 rfl hdJ4_append_cf468 ⟨Nat.le_of_ble_eq_true rfl, Nat.le_of_ble_eq_true rfl⟩ 0 0 rfl rfl rfl (gPerm_ix [0, 1, 2, 3, 4, 5, 6, 7, 8, 9, 10, 11, 12, 13, 14, 15, 16] rfl rfl) rfl rfl (Nat.le_of_ble_eq_true rfl) dX2_lineOf_77 ⟨Nat.le_of_ble_eq_true rfl, Nat.le_of_ble_eq_true rfl⟩ (fun r9 u8 hA8 => ?_)
  obtain ⟨v8, m8, f8⟩ := u8
  obtain ⟨hr8, hB8⟩ := hA8
  rw [hr8]
  refine g_perm (ws1 := [(b9, .inr (0, [.ref v8, .int 0, .int 0, .int (nI (0 + (gDc (bk (sB S) k 0)) + 1 + (gDc (bk (sB S) k 1)) + 1))])), (v8, .inl (gy G 5, m8, .inl f8)), (a 0, .inr (3, [.int (nI (sN S 0)), .int (nI (sN S 1)), .ref (a 1), .ref (a 2), .ref (a 3), .ref (a 4), .ref (a 5), .ref (a 6), .ref (a 7), .ref (a 8), .int (sI S 9 0), .ref (a 9), .ref (a 11), .ref (a 13), .ref (a 14)])), (a 1, .inl (gy G 0, 8, .inl (sI S 0))), (a 2, .inl (gy G 0, 8, .inl (sI S 1))), (a 3, .inl (gy G 0, 8, .inl (sI S 2))), (a 4, .inl (gy G 0, 8, .inl (sI S 3))), (a 5, .inl (gy G 0, 8, .inl (sI S 4))), (a 6, .inl (gy G 0, 8, .inl (sI S 5))), (a 7, .inl (gy G 0, 10, .inl (sI S 6))), (a 8, .inl (gy G 0, 10, .inl (sI S 7))), (a 9, .inr (1, [.int (nI ((sB S).length)), .ref (a 10)])), (a 10, .inl (gy G 0, 144, .inl gb)), (a 11, .inr (6, [.int (nI ((sW S).length)), .ref (a 12)])), (a 12, .inl (gy G 0, 10, .inl gw)), (a 13, .inl (gy G 0, 5, .inl (sI S 8))), (a 14, .inl (gy G 0, 6, .inl (fun j => nI (sS S j))))]) (gPerm_ix [0, 1, 2, 3, 4, 5, 6, 7, 8, 9, 10, 11, 12, 13, 14, 15, 16] rfl rfl) ?_
  refine g_pop E dX2_lineOf_80 rfl ?_
  refine g_aload_n E dX2_lineOf_81 rfl 4 rfl ?_
  refine g_aload_n E dX2_lineOf_82 rfl 5 rfl ?_
  refine g_get E uX2_lineOf_RX2 2 rfl rfl 11 (by decide) kX2_lineOf_39 rfl rfl dX2_lineOf_83 ?_
  refine g_iload_n E dX2_lineOf_86 rfl 6 rfl ?_
  refine g_iconst (v := 2) E dX2_lineOf_87 (by decide) ?_
  refine g_callVIe (F := [(b9, .inr (0, [.ref v8, .int 0, .int 0, .int (nI (0 + (gDc (bk (sB S) k 0)) + 1 + (gDc (bk (sB S) k 1)) + 1))])), (v8, .inl (gy G 5, m8, .inl f8)), (a 0, .inr (3, [.int (nI (sN S 0)), .int (nI (sN S 1)), .ref (a 1), .ref (a 2), .ref (a 3), .ref (a 4), .ref (a 5), .ref (a 6), .ref (a 7), .ref (a 8), .int (sI S 9 0), .ref (a 9), .ref (a 11), .ref (a 13), .ref (a 14)])), (a 1, .inl (gy G 0, 8, .inl (sI S 0))), (a 2, .inl (gy G 0, 8, .inl (sI S 1))), (a 3, .inl (gy G 0, 8, .inl (sI S 2))), (a 4, .inl (gy G 0, 8, .inl (sI S 3))), (a 5, .inl (gy G 0, 8, .inl (sI S 4))), (a 6, .inl (gy G 0, 8, .inl (sI S 5))), (a 7, .inl (gy G 0, 10, .inl (sI S 6))), (a 8, .inl (gy G 0, 10, .inl (sI S 7))), (a 11, .inr (6, [.int (nI ((sW S).length)), .ref (a 12)])), (a 12, .inl (gy G 0, 10, .inl gw)), (a 13, .inl (gy G 0, 5, .inl (sI S 8))), (a 14, .inl (gy G 0, 6, .inl (fun j => nI (sS S j))))]) (ws2 := [(b9, .inr (0, [.ref v8, .int 0, .int 0, .int (nI (0 + (gDc (bk (sB S) k 0)) + 1 + (gDc (bk (sB S) k 1)) + 1))])), (v8, .inl (gy G 5, m8, .inl f8)), (a 0, .inr (3, [.int (nI (sN S 0)), .int (nI (sN S 1)), .ref (a 1), .ref (a 2), .ref (a 3), .ref (a 4), .ref (a 5), .ref (a 6), .ref (a 7), .ref (a 8), .int (sI S 9 0), .ref (a 9), .ref (a 11), .ref (a 13), .ref (a 14)])), (a 1, .inl (gy G 0, 8, .inl (sI S 0))), (a 2, .inl (gy G 0, 8, .inl (sI S 1))), (a 3, .inl (gy G 0, 8, .inl (sI S 2))), (a 4, .inl (gy G 0, 8, .inl (sI S 3))), (a 5, .inl (gy G 0, 8, .inl (sI S 4))), (a 6, .inl (gy G 0, 8, .inl (sI S 5))), (a 7, .inl (gy G 0, 10, .inl (sI S 6))), (a 8, .inl (gy G 0, 10, .inl (sI S 7))), (a 9, .inr (1, [.int (nI ((sB S).length)), .ref (a 10)])), (a 10, .inl (gy G 0, 144, .inl gb)), (a 11, .inr (6, [.int (nI ((sW S).length)), .ref (a 12)])), (a 12, .inl (gy G 0, 10, .inl gw)), (a 13, .inl (gy G 0, 5, .inl (sI S 8))), (a 14, .inl (gy G 0, 6, .inl (fun j => nI (sS S j))))]) E (mX0_at G (a 9) (a 10) (sB S) gb k 2 hn hR (by omega) (by omega)) gX2_lineOf_X0_at rfl hdX0_at ⟨Nat.le_of_ble_eq_true rfl, Nat.le_of_ble_eq_true rfl⟩ 1 0 rfl rfl rfl (gPerm_ix [11, 12, 0, 1, 2, 3, 4, 5, 6, 7, 8, 9, 10, 13, 14, 15, 16] rfl rfl) rfl rfl (Nat.le_of_ble_eq_true rfl) dX2_lineOf_88 ⟨Nat.le_of_ble_eq_true rfl, Nat.le_of_ble_eq_true rfl⟩ (gPerm_ix [2, 3, 4, 5, 6, 7, 8, 9, 10, 11, 12, 0, 1, 13, 14, 15, 16] rfl rfl) ?_
  refine g_callVR (F := [(a 0, .inr (3, [.int (nI (sN S 0)), .int (nI (sN S 1)), .ref (a 1), .ref (a 2), .ref (a 3), .ref (a 4), .ref (a 5), .ref (a 6), .ref (a 7), .ref (a 8), .int (sI S 9 0), .ref (a 9), .ref (a 11), .ref (a 13), .ref (a 14)])), (a 1, .inl (gy G 0, 8, .inl (sI S 0))), (a 2, .inl (gy G 0, 8, .inl (sI S 1))), (a 3, .inl (gy G 0, 8, .inl (sI S 2))), (a 4, .inl (gy G 0, 8, .inl (sI S 3))), (a 5, .inl (gy G 0, 8, .inl (sI S 4))), (a 6, .inl (gy G 0, 8, .inl (sI S 5))), (a 7, .inl (gy G 0, 10, .inl (sI S 6))), (a 8, .inl (gy G 0, 10, .inl (sI S 7))), (a 9, .inr (1, [.int (nI ((sB S).length)), .ref (a 10)])), (a 10, .inl (gy G 0, 144, .inl gb)), (a 11, .inr (6, [.int (nI ((sW S).length)), .ref (a 12)])), (a 12, .inl (gy G 0, 10, .inl gw)), (a 13, .inl (gy G 0, 5, .inl (sI S 8))), (a 14, .inl (gy G 0, 6, .inl (fun j => nI (sS S j))))]) E (mJ4_append_bf812 G b9 v8 (0 + (gDc (bk (sB S) k 0)) + 1 + (gDc (bk (sB S) k 1)) + 1) m8 f8 ((((([] : List Int32) ++ gDgs (bk (sB S) k 0)) ++ [nI 100]) ++ gDgs (bk (sB S) k 1)) ++ [nI 104]) (bk (sB S) k 2) hB8 (by omega) (by omega)) gX2_lineOf_J4_append_bf812 rfl hdJ4_append_bf812 ⟨Nat.le_of_ble_eq_true rfl, Nat.le_of_ble_eq_true rfl⟩ 0 0 rfl rfl rfl (gPerm_ix [0, 1, 2, 3, 4, 5, 6, 7, 8, 9, 10, 11, 12, 13, 14, 15, 16] rfl rfl) rfl rfl (Nat.le_of_ble_eq_true rfl) dX2_lineOf_91 ⟨Nat.le_of_ble_eq_true rfl, Nat.le_of_ble_eq_true rfl⟩ (fun r11 u10 hA10 => ?_)
  obtain ⟨v10, m10, f10⟩ := u10
  obtain ⟨hr10, hB10⟩ := hA10
  rw [hr10]
  refine g_perm (ws1 := [(b9, .inr (0, [.ref v10, .int 0, .int 0, .int (nI (0 + (gDc (bk (sB S) k 0)) + 1 + (gDc (bk (sB S) k 1)) + 1 + (gDc (bk (sB S) k 2))))])), (v10, .inl (gy G 5, m10, .inl f10)), (a 0, .inr (3, [.int (nI (sN S 0)), .int (nI (sN S 1)), .ref (a 1), .ref (a 2), .ref (a 3), .ref (a 4), .ref (a 5), .ref (a 6), .ref (a 7), .ref (a 8), .int (sI S 9 0), .ref (a 9), .ref (a 11), .ref (a 13), .ref (a 14)])), (a 1, .inl (gy G 0, 8, .inl (sI S 0))), (a 2, .inl (gy G 0, 8, .inl (sI S 1))), (a 3, .inl (gy G 0, 8, .inl (sI S 2))), (a 4, .inl (gy G 0, 8, .inl (sI S 3))), (a 5, .inl (gy G 0, 8, .inl (sI S 4))), (a 6, .inl (gy G 0, 8, .inl (sI S 5))), (a 7, .inl (gy G 0, 10, .inl (sI S 6))), (a 8, .inl (gy G 0, 10, .inl (sI S 7))), (a 9, .inr (1, [.int (nI ((sB S).length)), .ref (a 10)])), (a 10, .inl (gy G 0, 144, .inl gb)), (a 11, .inr (6, [.int (nI ((sW S).length)), .ref (a 12)])), (a 12, .inl (gy G 0, 10, .inl gw)), (a 13, .inl (gy G 0, 5, .inl (sI S 8))), (a 14, .inl (gy G 0, 6, .inl (fun j => nI (sS S j))))]) (gPerm_ix [0, 1, 2, 3, 4, 5, 6, 7, 8, 9, 10, 11, 12, 13, 14, 15, 16] rfl rfl) ?_
  refine g_pop E dX2_lineOf_94 rfl ?_
  refine g_aload_n E dX2_lineOf_95 rfl 4 rfl ?_
  refine g_ldcs 22 E rfl dX2_lineOf_96 ?_
  refine g_callVR (F := [(a 0, .inr (3, [.int (nI (sN S 0)), .int (nI (sN S 1)), .ref (a 1), .ref (a 2), .ref (a 3), .ref (a 4), .ref (a 5), .ref (a 6), .ref (a 7), .ref (a 8), .int (sI S 9 0), .ref (a 9), .ref (a 11), .ref (a 13), .ref (a 14)])), (a 1, .inl (gy G 0, 8, .inl (sI S 0))), (a 2, .inl (gy G 0, 8, .inl (sI S 1))), (a 3, .inl (gy G 0, 8, .inl (sI S 2))), (a 4, .inl (gy G 0, 8, .inl (sI S 3))), (a 5, .inl (gy G 0, 8, .inl (sI S 4))), (a 6, .inl (gy G 0, 8, .inl (sI S 5))), (a 7, .inl (gy G 0, 10, .inl (sI S 6))), (a 8, .inl (gy G 0, 10, .inl (sI S 7))), (a 9, .inr (1, [.int (nI ((sB S).length)), .ref (a 10)])), (a 10, .inl (gy G 0, 144, .inl gb)), (a 11, .inr (6, [.int (nI ((sW S).length)), .ref (a 12)])), (a 12, .inl (gy G 0, 10, .inl gw)), (a 13, .inl (gy G 0, 5, .inl (sI S 8))), (a 14, .inl (gy G 0, 6, .inl (fun j => nI (sS S j))))]) E (mJ4_append_15ec4 G b9 v10 (0 + (gDc (bk (sB S) k 0)) + 1 + (gDc (bk (sB S) k 1)) + 1 + (gDc (bk (sB S) k 2))) m10 f10 (((((([] : List Int32) ++ gDgs (bk (sB S) k 0)) ++ [nI 100]) ++ gDgs (bk (sB S) k 1)) ++ [nI 104]) ++ gDgs (bk (sB S) k 2)) 22 ("VisitHours$Prison", 139, " p", [32, 112]) (show gStr[22]? = some ("VisitHours$Prison", 139, " p", [32, 112]) from rfl) hB10 (by show (0 + (gDc (bk (sB S) k 0)) + 1 + (gDc (bk (sB S) k 1)) + 1 + (gDc (bk (sB S) k 2))) + 2 ≤ 34; omega)) gX2_lineOf_J4_append_15ec4 rfl hdJ4_append_15ec4 ⟨Nat.le_of_ble_eq_true rfl, Nat.le_of_ble_eq_true rfl⟩ 0 0 rfl rfl rfl (gPerm_ix [0, 1, 2, 3, 4, 5, 6, 7, 8, 9, 10, 11, 12, 13, 14, 15, 16] rfl rfl) rfl rfl (Nat.le_of_ble_eq_true rfl) dX2_lineOf_98 ⟨Nat.le_of_ble_eq_true rfl, Nat.le_of_ble_eq_true rfl⟩ (fun r13 u12 hA12 => ?_)
  obtain ⟨v12, m12, f12⟩ := u12
  obtain ⟨hr12, hB12⟩ := hA12
  rw [hr12]
  refine g_perm (ws1 := [(b9, .inr (0, [.ref v12, .int 0, .int 0, .int (nI (0 + (gDc (bk (sB S) k 0)) + 1 + (gDc (bk (sB S) k 1)) + 1 + (gDc (bk (sB S) k 2)) + 2))])), (v12, .inl (gy G 5, m12, .inl f12)), (a 0, .inr (3, [.int (nI (sN S 0)), .int (nI (sN S 1)), .ref (a 1), .ref (a 2), .ref (a 3), .ref (a 4), .ref (a 5), .ref (a 6), .ref (a 7), .ref (a 8), .int (sI S 9 0), .ref (a 9), .ref (a 11), .ref (a 13), .ref (a 14)])), (a 1, .inl (gy G 0, 8, .inl (sI S 0))), (a 2, .inl (gy G 0, 8, .inl (sI S 1))), (a 3, .inl (gy G 0, 8, .inl (sI S 2))), (a 4, .inl (gy G 0, 8, .inl (sI S 3))), (a 5, .inl (gy G 0, 8, .inl (sI S 4))), (a 6, .inl (gy G 0, 8, .inl (sI S 5))), (a 7, .inl (gy G 0, 10, .inl (sI S 6))), (a 8, .inl (gy G 0, 10, .inl (sI S 7))), (a 9, .inr (1, [.int (nI ((sB S).length)), .ref (a 10)])), (a 10, .inl (gy G 0, 144, .inl gb)), (a 11, .inr (6, [.int (nI ((sW S).length)), .ref (a 12)])), (a 12, .inl (gy G 0, 10, .inl gw)), (a 13, .inl (gy G 0, 5, .inl (sI S 8))), (a 14, .inl (gy G 0, 6, .inl (fun j => nI (sS S j))))]) (gPerm_ix [0, 1, 2, 3, 4, 5, 6, 7, 8, 9, 10, 11, 12, 13, 14, 15, 16] rfl rfl) ?_
  refine g_iload E dX2_lineOf_101 2 rfl ?_
  refine g_callVR (F := [(a 0, .inr (3, [.int (nI (sN S 0)), .int (nI (sN S 1)), .ref (a 1), .ref (a 2), .ref (a 3), .ref (a 4), .ref (a 5), .ref (a 6), .ref (a 7), .ref (a 8), .int (sI S 9 0), .ref (a 9), .ref (a 11), .ref (a 13), .ref (a 14)])), (a 1, .inl (gy G 0, 8, .inl (sI S 0))), (a 2, .inl (gy G 0, 8, .inl (sI S 1))), (a 3, .inl (gy G 0, 8, .inl (sI S 2))), (a 4, .inl (gy G 0, 8, .inl (sI S 3))), (a 5, .inl (gy G 0, 8, .inl (sI S 4))), (a 6, .inl (gy G 0, 8, .inl (sI S 5))), (a 7, .inl (gy G 0, 10, .inl (sI S 6))), (a 8, .inl (gy G 0, 10, .inl (sI S 7))), (a 9, .inr (1, [.int (nI ((sB S).length)), .ref (a 10)])), (a 10, .inl (gy G 0, 144, .inl gb)), (a 11, .inr (6, [.int (nI ((sW S).length)), .ref (a 12)])), (a 12, .inl (gy G 0, 10, .inl gw)), (a 13, .inl (gy G 0, 5, .inl (sI S 8))), (a 14, .inl (gy G 0, 6, .inl (fun j => nI (sS S j))))]) E (mJ4_append_bf812 G b9 v12 (0 + (gDc (bk (sB S) k 0)) + 1 + (gDc (bk (sB S) k 1)) + 1 + (gDc (bk (sB S) k 2)) + 2) m12 f12 ((((((([] : List Int32) ++ gDgs (bk (sB S) k 0)) ++ [nI 100]) ++ gDgs (bk (sB S) k 1)) ++ [nI 104]) ++ gDgs (bk (sB S) k 2)) ++ [32, 112]) (bk (sB S) k 3) hB12 (by omega) (by omega)) gX2_lineOf_J4_append_bf812 rfl hdJ4_append_bf812 ⟨Nat.le_of_ble_eq_true rfl, Nat.le_of_ble_eq_true rfl⟩ 0 0 rfl rfl rfl (gPerm_ix [0, 1, 2, 3, 4, 5, 6, 7, 8, 9, 10, 11, 12, 13, 14, 15, 16] rfl rfl) rfl rfl (Nat.le_of_ble_eq_true rfl) dX2_lineOf_103 ⟨Nat.le_of_ble_eq_true rfl, Nat.le_of_ble_eq_true rfl⟩ (fun r15 u14 hA14 => ?_)
  obtain ⟨v14, m14, f14⟩ := u14
  obtain ⟨hr14, hB14⟩ := hA14
  rw [hr14]
  refine g_perm (ws1 := [(b9, .inr (0, [.ref v14, .int 0, .int 0, .int (nI (0 + (gDc (bk (sB S) k 0)) + 1 + (gDc (bk (sB S) k 1)) + 1 + (gDc (bk (sB S) k 2)) + 2 + (gDc (bk (sB S) k 3))))])), (v14, .inl (gy G 5, m14, .inl f14)), (a 0, .inr (3, [.int (nI (sN S 0)), .int (nI (sN S 1)), .ref (a 1), .ref (a 2), .ref (a 3), .ref (a 4), .ref (a 5), .ref (a 6), .ref (a 7), .ref (a 8), .int (sI S 9 0), .ref (a 9), .ref (a 11), .ref (a 13), .ref (a 14)])), (a 1, .inl (gy G 0, 8, .inl (sI S 0))), (a 2, .inl (gy G 0, 8, .inl (sI S 1))), (a 3, .inl (gy G 0, 8, .inl (sI S 2))), (a 4, .inl (gy G 0, 8, .inl (sI S 3))), (a 5, .inl (gy G 0, 8, .inl (sI S 4))), (a 6, .inl (gy G 0, 8, .inl (sI S 5))), (a 7, .inl (gy G 0, 10, .inl (sI S 6))), (a 8, .inl (gy G 0, 10, .inl (sI S 7))), (a 9, .inr (1, [.int (nI ((sB S).length)), .ref (a 10)])), (a 10, .inl (gy G 0, 144, .inl gb)), (a 11, .inr (6, [.int (nI ((sW S).length)), .ref (a 12)])), (a 12, .inl (gy G 0, 10, .inl gw)), (a 13, .inl (gy G 0, 5, .inl (sI S 8))), (a 14, .inl (gy G 0, 6, .inl (fun j => nI (sS S j))))]) (gPerm_ix [0, 1, 2, 3, 4, 5, 6, 7, 8, 9, 10, 11, 12, 13, 14, 15, 16] rfl rfl) ?_
  refine g_ldcs 23 E rfl dX2_lineOf_106 ?_
  refine g_callVR (F := [(a 0, .inr (3, [.int (nI (sN S 0)), .int (nI (sN S 1)), .ref (a 1), .ref (a 2), .ref (a 3), .ref (a 4), .ref (a 5), .ref (a 6), .ref (a 7), .ref (a 8), .int (sI S 9 0), .ref (a 9), .ref (a 11), .ref (a 13), .ref (a 14)])), (a 1, .inl (gy G 0, 8, .inl (sI S 0))), (a 2, .inl (gy G 0, 8, .inl (sI S 1))), (a 3, .inl (gy G 0, 8, .inl (sI S 2))), (a 4, .inl (gy G 0, 8, .inl (sI S 3))), (a 5, .inl (gy G 0, 8, .inl (sI S 4))), (a 6, .inl (gy G 0, 8, .inl (sI S 5))), (a 7, .inl (gy G 0, 10, .inl (sI S 6))), (a 8, .inl (gy G 0, 10, .inl (sI S 7))), (a 9, .inr (1, [.int (nI ((sB S).length)), .ref (a 10)])), (a 10, .inl (gy G 0, 144, .inl gb)), (a 11, .inr (6, [.int (nI ((sW S).length)), .ref (a 12)])), (a 12, .inl (gy G 0, 10, .inl gw)), (a 13, .inl (gy G 0, 5, .inl (sI S 8))), (a 14, .inl (gy G 0, 6, .inl (fun j => nI (sS S j))))]) E (mJ4_append_15ec4 G b9 v14 (0 + (gDc (bk (sB S) k 0)) + 1 + (gDc (bk (sB S) k 1)) + 1 + (gDc (bk (sB S) k 2)) + 2 + (gDc (bk (sB S) k 3))) m14 f14 (((((((([] : List Int32) ++ gDgs (bk (sB S) k 0)) ++ [nI 100]) ++ gDgs (bk (sB S) k 1)) ++ [nI 104]) ++ gDgs (bk (sB S) k 2)) ++ [32, 112]) ++ gDgs (bk (sB S) k 3)) 23 ("VisitHours$Prison", 144, " v", [32, 118]) (show gStr[23]? = some ("VisitHours$Prison", 144, " v", [32, 118]) from rfl) hB14 (by show (0 + (gDc (bk (sB S) k 0)) + 1 + (gDc (bk (sB S) k 1)) + 1 + (gDc (bk (sB S) k 2)) + 2 + (gDc (bk (sB S) k 3))) + 2 ≤ 34; omega)) gX2_lineOf_J4_append_15ec4 rfl hdJ4_append_15ec4 ⟨Nat.le_of_ble_eq_true rfl, Nat.le_of_ble_eq_true rfl⟩ 0 0 rfl rfl rfl (gPerm_ix [0, 1, 2, 3, 4, 5, 6, 7, 8, 9, 10, 11, 12, 13, 14, 15, 16] rfl rfl) rfl rfl (Nat.le_of_ble_eq_true rfl) dX2_lineOf_108 ⟨Nat.le_of_ble_eq_true rfl, Nat.le_of_ble_eq_true rfl⟩ (fun r17 u16 hA16 => ?_)
  obtain ⟨v16, m16, f16⟩ := u16
  obtain ⟨hr16, hB16⟩ := hA16
  rw [hr16]
  refine g_perm (ws1 := [(b9, .inr (0, [.ref v16, .int 0, .int 0, .int (nI (0 + (gDc (bk (sB S) k 0)) + 1 + (gDc (bk (sB S) k 1)) + 1 + (gDc (bk (sB S) k 2)) + 2 + (gDc (bk (sB S) k 3)) + 2))])), (v16, .inl (gy G 5, m16, .inl f16)), (a 0, .inr (3, [.int (nI (sN S 0)), .int (nI (sN S 1)), .ref (a 1), .ref (a 2), .ref (a 3), .ref (a 4), .ref (a 5), .ref (a 6), .ref (a 7), .ref (a 8), .int (sI S 9 0), .ref (a 9), .ref (a 11), .ref (a 13), .ref (a 14)])), (a 1, .inl (gy G 0, 8, .inl (sI S 0))), (a 2, .inl (gy G 0, 8, .inl (sI S 1))), (a 3, .inl (gy G 0, 8, .inl (sI S 2))), (a 4, .inl (gy G 0, 8, .inl (sI S 3))), (a 5, .inl (gy G 0, 8, .inl (sI S 4))), (a 6, .inl (gy G 0, 8, .inl (sI S 5))), (a 7, .inl (gy G 0, 10, .inl (sI S 6))), (a 8, .inl (gy G 0, 10, .inl (sI S 7))), (a 9, .inr (1, [.int (nI ((sB S).length)), .ref (a 10)])), (a 10, .inl (gy G 0, 144, .inl gb)), (a 11, .inr (6, [.int (nI ((sW S).length)), .ref (a 12)])), (a 12, .inl (gy G 0, 10, .inl gw)), (a 13, .inl (gy G 0, 5, .inl (sI S 8))), (a 14, .inl (gy G 0, 6, .inl (fun j => nI (sS S j))))]) (gPerm_ix [0, 1, 2, 3, 4, 5, 6, 7, 8, 9, 10, 11, 12, 13, 14, 15, 16] rfl rfl) ?_
  refine g_iload E dX2_lineOf_111 1 rfl ?_
  refine g_callVR (F := [(a 0, .inr (3, [.int (nI (sN S 0)), .int (nI (sN S 1)), .ref (a 1), .ref (a 2), .ref (a 3), .ref (a 4), .ref (a 5), .ref (a 6), .ref (a 7), .ref (a 8), .int (sI S 9 0), .ref (a 9), .ref (a 11), .ref (a 13), .ref (a 14)])), (a 1, .inl (gy G 0, 8, .inl (sI S 0))), (a 2, .inl (gy G 0, 8, .inl (sI S 1))), (a 3, .inl (gy G 0, 8, .inl (sI S 2))), (a 4, .inl (gy G 0, 8, .inl (sI S 3))), (a 5, .inl (gy G 0, 8, .inl (sI S 4))), (a 6, .inl (gy G 0, 8, .inl (sI S 5))), (a 7, .inl (gy G 0, 10, .inl (sI S 6))), (a 8, .inl (gy G 0, 10, .inl (sI S 7))), (a 9, .inr (1, [.int (nI ((sB S).length)), .ref (a 10)])), (a 10, .inl (gy G 0, 144, .inl gb)), (a 11, .inr (6, [.int (nI ((sW S).length)), .ref (a 12)])), (a 12, .inl (gy G 0, 10, .inl gw)), (a 13, .inl (gy G 0, 5, .inl (sI S 8))), (a 14, .inl (gy G 0, 6, .inl (fun j => nI (sS S j))))]) E (mJ4_append_bf812 G b9 v16 (0 + (gDc (bk (sB S) k 0)) + 1 + (gDc (bk (sB S) k 1)) + 1 + (gDc (bk (sB S) k 2)) + 2 + (gDc (bk (sB S) k 3)) + 2) m16 f16 ((((((((([] : List Int32) ++ gDgs (bk (sB S) k 0)) ++ [nI 100]) ++ gDgs (bk (sB S) k 1)) ++ [nI 104]) ++ gDgs (bk (sB S) k 2)) ++ [32, 112]) ++ gDgs (bk (sB S) k 3)) ++ [32, 118]) (bk (sB S) k 4) hB16 (by omega) (by omega)) gX2_lineOf_J4_append_bf812 rfl hdJ4_append_bf812 ⟨Nat.le_of_ble_eq_true rfl, Nat.le_of_ble_eq_true rfl⟩ 0 0 rfl rfl rfl (gPerm_ix [0, 1, 2, 3, 4, 5, 6, 7, 8, 9, 10, 11, 12, 13, 14, 15, 16] rfl rfl) rfl rfl (Nat.le_of_ble_eq_true rfl) dX2_lineOf_113 ⟨Nat.le_of_ble_eq_true rfl, Nat.le_of_ble_eq_true rfl⟩ (fun r19 u18 hA18 => ?_)
  obtain ⟨v18, m18, f18⟩ := u18
  obtain ⟨hr18, hB18⟩ := hA18
  rw [hr18]
  refine g_perm (ws1 := [(b9, .inr (0, [.ref v18, .int 0, .int 0, .int (nI (0 + (gDc (bk (sB S) k 0)) + 1 + (gDc (bk (sB S) k 1)) + 1 + (gDc (bk (sB S) k 2)) + 2 + (gDc (bk (sB S) k 3)) + 2 + (gDc (bk (sB S) k 4))))])), (v18, .inl (gy G 5, m18, .inl f18)), (a 0, .inr (3, [.int (nI (sN S 0)), .int (nI (sN S 1)), .ref (a 1), .ref (a 2), .ref (a 3), .ref (a 4), .ref (a 5), .ref (a 6), .ref (a 7), .ref (a 8), .int (sI S 9 0), .ref (a 9), .ref (a 11), .ref (a 13), .ref (a 14)])), (a 1, .inl (gy G 0, 8, .inl (sI S 0))), (a 2, .inl (gy G 0, 8, .inl (sI S 1))), (a 3, .inl (gy G 0, 8, .inl (sI S 2))), (a 4, .inl (gy G 0, 8, .inl (sI S 3))), (a 5, .inl (gy G 0, 8, .inl (sI S 4))), (a 6, .inl (gy G 0, 8, .inl (sI S 5))), (a 7, .inl (gy G 0, 10, .inl (sI S 6))), (a 8, .inl (gy G 0, 10, .inl (sI S 7))), (a 9, .inr (1, [.int (nI ((sB S).length)), .ref (a 10)])), (a 10, .inl (gy G 0, 144, .inl gb)), (a 11, .inr (6, [.int (nI ((sW S).length)), .ref (a 12)])), (a 12, .inl (gy G 0, 10, .inl gw)), (a 13, .inl (gy G 0, 5, .inl (sI S 8))), (a 14, .inl (gy G 0, 6, .inl (fun j => nI (sS S j))))]) (gPerm_ix [0, 1, 2, 3, 4, 5, 6, 7, 8, 9, 10, 11, 12, 13, 14, 15, 16] rfl rfl) ?_
  refine g_pop E dX2_lineOf_116 rfl ?_
  refine g_iload E dX2_lineOf_117 0 rfl ?_
  refine g_if_leN (tgt := 134) (a := bk (sB S) k 5) E dX2_lineOf_119 (by decide) (by omega) (fun c20 => ?_) (fun c20 => ?_)
  · skip
    refine g_aload_n E dX2_lineOf_134 rfl 5 rfl ?_
    refine g_iload E dX2_lineOf_135 2 rfl ?_
    refine g_iload_n E dX2_lineOf_137 rfl 3 rfl ?_
    refine g_callVIe (F := [(b9, .inr (0, [.ref v18, .int 0, .int 0, .int (nI (0 + (gDc (bk (sB S) k 0)) + 1 + (gDc (bk (sB S) k 1)) + 1 + (gDc (bk (sB S) k 2)) + 2 + (gDc (bk (sB S) k 3)) + 2 + (gDc (bk (sB S) k 4))))])), (v18, .inl (gy G 5, m18, .inl f18))]) (ws2 := [(b9, .inr (0, [.ref v18, .int 0, .int 0, .int (nI (0 + (gDc (bk (sB S) k 0)) + 1 + (gDc (bk (sB S) k 1)) + 1 + (gDc (bk (sB S) k 2)) + 2 + (gDc (bk (sB S) k 3)) + 2 + (gDc (bk (sB S) k 4))))])), (v18, .inl (gy G 5, m18, .inl f18)), (a 0, .inr (3, [.int (nI (sN S 0)), .int (nI (sN S 1)), .ref (a 1), .ref (a 2), .ref (a 3), .ref (a 4), .ref (a 5), .ref (a 6), .ref (a 7), .ref (a 8), .int (sI S 9 0), .ref (a 9), .ref (a 11), .ref (a 13), .ref (a 14)])), (a 1, .inl (gy G 0, 8, .inl (sI S 0))), (a 2, .inl (gy G 0, 8, .inl (sI S 1))), (a 3, .inl (gy G 0, 8, .inl (sI S 2))), (a 4, .inl (gy G 0, 8, .inl (sI S 3))), (a 5, .inl (gy G 0, 8, .inl (sI S 4))), (a 6, .inl (gy G 0, 8, .inl (sI S 5))), (a 7, .inl (gy G 0, 10, .inl (sI S 6))), (a 8, .inl (gy G 0, 10, .inl (sI S 7))), (a 9, .inr (1, [.int (nI ((sB S).length)), .ref (a 10)])), (a 10, .inl (gy G 0, 144, .inl gb)), (a 11, .inr (6, [.int (nI ((sW S).length)), .ref (a 12)])), (a 12, .inl (gy G 0, 10, .inl gw)), (a 13, .inl (gy G 0, 5, .inl (sI S 8))), (a 14, .inl (gy G 0, 6, .inl (fun j => nI (sS S j))))]) E (mX2_isLost G a S gb gw (bk (sB S) k 3) (bk (sB S) k 0) hI hT hR hQ (by omega)) gX2_lineOf_X2_isLost rfl hdX2_isLost ⟨Nat.le_of_ble_eq_true rfl, Nat.le_of_ble_eq_true rfl⟩ 3 0 rfl rfl rfl (gPerm_ix [2, 3, 4, 5, 6, 7, 8, 9, 10, 11, 12, 13, 14, 15, 16, 0, 1] rfl rfl) rfl rfl (Nat.le_of_ble_eq_true rfl) dX2_lineOf_138 ⟨Nat.le_of_ble_eq_true rfl, Nat.le_of_ble_eq_true rfl⟩ (gPerm_ix [15, 16, 0, 1, 2, 3, 4, 5, 6, 7, 8, 9, 10, 11, 12, 13, 14] rfl rfl) ?_
    refine g_if_neB (tgt := 154) (P := (nI (bk (sB S) k 0) < sI S 2 (bk (sB S) k 3))) E dX2_lineOf_141 (by decide) (fun c21 => ?_) (fun c21 => ?_)
    · skip
      refine g_aload_n E dX2_lineOf_154 rfl 4 rfl ?_
      refine g_bipush (v := 33) E dX2_lineOf_155 (by decide) ?_
      refine g_callVR (F := [(a 0, .inr (3, [.int (nI (sN S 0)), .int (nI (sN S 1)), .ref (a 1), .ref (a 2), .ref (a 3), .ref (a 4), .ref (a 5), .ref (a 6), .ref (a 7), .ref (a 8), .int (sI S 9 0), .ref (a 9), .ref (a 11), .ref (a 13), .ref (a 14)])), (a 1, .inl (gy G 0, 8, .inl (sI S 0))), (a 2, .inl (gy G 0, 8, .inl (sI S 1))), (a 3, .inl (gy G 0, 8, .inl (sI S 2))), (a 4, .inl (gy G 0, 8, .inl (sI S 3))), (a 5, .inl (gy G 0, 8, .inl (sI S 4))), (a 6, .inl (gy G 0, 8, .inl (sI S 5))), (a 7, .inl (gy G 0, 10, .inl (sI S 6))), (a 8, .inl (gy G 0, 10, .inl (sI S 7))), (a 9, .inr (1, [.int (nI ((sB S).length)), .ref (a 10)])), (a 10, .inl (gy G 0, 144, .inl gb)), (a 11, .inr (6, [.int (nI ((sW S).length)), .ref (a 12)])), (a 12, .inl (gy G 0, 10, .inl gw)), (a 13, .inl (gy G 0, 5, .inl (sI S 8))), (a 14, .inl (gy G 0, 6, .inl (fun j => nI (sS S j))))]) E (mJ4_append_cf468 G b9 v18 (0 + (gDc (bk (sB S) k 0)) + 1 + (gDc (bk (sB S) k 1)) + 1 + (gDc (bk (sB S) k 2)) + 2 + (gDc (bk (sB S) k 3)) + 2 + (gDc (bk (sB S) k 4))) m18 f18 (((((((((([] : List Int32) ++ gDgs (bk (sB S) k 0)) ++ [nI 100]) ++ gDgs (bk (sB S) k 1)) ++ [nI 104]) ++ gDgs (bk (sB S) k 2)) ++ [32, 112]) ++ gDgs (bk (sB S) k 3)) ++ [32, 118]) ++ gDgs (bk (sB S) k 4)) 33 hB18 (by omega) (by decide)) gX2_lineOf_J4_append_cf468 rfl hdJ4_append_cf468 ⟨Nat.le_of_ble_eq_true rfl, Nat.le_of_ble_eq_true rfl⟩ 0 0 rfl rfl rfl (gPerm_ix [0, 1, 2, 3, 4, 5, 6, 7, 8, 9, 10, 11, 12, 13, 14, 15, 16] rfl rfl) rfl rfl (Nat.le_of_ble_eq_true rfl) dX2_lineOf_157 ⟨Nat.le_of_ble_eq_true rfl, Nat.le_of_ble_eq_true rfl⟩ (fun r23 u22 hA22 => ?_)
      obtain ⟨v22, m22, f22⟩ := u22
      obtain ⟨hr22, hB22⟩ := hA22
      rw [hr22]
      refine g_perm (ws1 := [(b9, .inr (0, [.ref v22, .int 0, .int 0, .int (nI (0 + (gDc (bk (sB S) k 0)) + 1 + (gDc (bk (sB S) k 1)) + 1 + (gDc (bk (sB S) k 2)) + 2 + (gDc (bk (sB S) k 3)) + 2 + (gDc (bk (sB S) k 4)) + 1))])), (v22, .inl (gy G 5, m22, .inl f22)), (a 0, .inr (3, [.int (nI (sN S 0)), .int (nI (sN S 1)), .ref (a 1), .ref (a 2), .ref (a 3), .ref (a 4), .ref (a 5), .ref (a 6), .ref (a 7), .ref (a 8), .int (sI S 9 0), .ref (a 9), .ref (a 11), .ref (a 13), .ref (a 14)])), (a 1, .inl (gy G 0, 8, .inl (sI S 0))), (a 2, .inl (gy G 0, 8, .inl (sI S 1))), (a 3, .inl (gy G 0, 8, .inl (sI S 2))), (a 4, .inl (gy G 0, 8, .inl (sI S 3))), (a 5, .inl (gy G 0, 8, .inl (sI S 4))), (a 6, .inl (gy G 0, 8, .inl (sI S 5))), (a 7, .inl (gy G 0, 10, .inl (sI S 6))), (a 8, .inl (gy G 0, 10, .inl (sI S 7))), (a 9, .inr (1, [.int (nI ((sB S).length)), .ref (a 10)])), (a 10, .inl (gy G 0, 144, .inl gb)), (a 11, .inr (6, [.int (nI ((sW S).length)), .ref (a 12)])), (a 12, .inl (gy G 0, 10, .inl gw)), (a 13, .inl (gy G 0, 5, .inl (sI S 8))), (a 14, .inl (gy G 0, 6, .inl (fun j => nI (sS S j))))]) (gPerm_ix [0, 1, 2, 3, 4, 5, 6, 7, 8, 9, 10, 11, 12, 13, 14, 15, 16] rfl rfl) ?_
      refine g_pop E dX2_lineOf_160 rfl ?_
      refine g_aload_n E dX2_lineOf_161 rfl 4 rfl ?_
      refine g_widen (k := 14) (n := 428) (by decide) (by decide) ?_
      have eL : ((((((((((([] : List Int32) ++ gDgs (bk (sB S) k 0)) ++ [nI 100]) ++ gDgs (bk (sB S) k 1)) ++ [nI 104]) ++ gDgs (bk (sB S) k 2)) ++ [32, 112]) ++ gDgs (bk (sB S) k 3)) ++ [32, 118]) ++ gDgs (bk (sB S) k 4)) ++ [nI 33]) = gLine S k := by unfold gLine; rw [if_neg (show ¬ 0 < bk (sB S) k 5 by omega), if_pos (show nI (bk (sB S) k 0) < sI S 2 (bk (sB S) k 3) ∨ nI (bk (sB S) k 0) < sI S 7 (bk (sB S) k 4) from Or.inl c21)]; simp only [List.append_assoc, List.nil_append, List.append_nil] <;> rfl
      have en : 0 + (gDc (bk (sB S) k 0)) + 1 + (gDc (bk (sB S) k 1)) + 1 + (gDc (bk (sB S) k 2)) + 2 + (gDc (bk (sB S) k 3)) + 2 + (gDc (bk (sB S) k 4)) + 1 = (gLine S k).length := by rw [← eL]; exact hB22.2.2.2.1.symm
      refine g_perm (ws1 := [(b9, .inr (0, [.ref v22, .int 0, .int 0, .int (nI (0 + (gDc (bk (sB S) k 0)) + 1 + (gDc (bk (sB S) k 1)) + 1 + (gDc (bk (sB S) k 2)) + 2 + (gDc (bk (sB S) k 3)) + 2 + (gDc (bk (sB S) k 4)) + 1))])), (v22, .inl (gy G 5, m22, .inl f22)), (a 0, .inr (3, [.int (nI (sN S 0)), .int (nI (sN S 1)), .ref (a 1), .ref (a 2), .ref (a 3), .ref (a 4), .ref (a 5), .ref (a 6), .ref (a 7), .ref (a 8), .int (sI S 9 0), .ref (a 9), .ref (a 11), .ref (a 13), .ref (a 14)])), (a 1, .inl (gy G 0, 8, .inl (sI S 0))), (a 2, .inl (gy G 0, 8, .inl (sI S 1))), (a 3, .inl (gy G 0, 8, .inl (sI S 2))), (a 4, .inl (gy G 0, 8, .inl (sI S 3))), (a 5, .inl (gy G 0, 8, .inl (sI S 4))), (a 6, .inl (gy G 0, 8, .inl (sI S 5))), (a 7, .inl (gy G 0, 10, .inl (sI S 6))), (a 8, .inl (gy G 0, 10, .inl (sI S 7))), (a 9, .inr (1, [.int (nI ((sB S).length)), .ref (a 10)])), (a 10, .inl (gy G 0, 144, .inl gb)), (a 11, .inr (6, [.int (nI ((sW S).length)), .ref (a 12)])), (a 12, .inl (gy G 0, 10, .inl gw)), (a 13, .inl (gy G 0, 5, .inl (sI S 8))), (a 14, .inl (gy G 0, 6, .inl (fun j => nI (sS S j))))]) (gPerm_ix [0, 1, 2, 3, 4, 5, 6, 7, 8, 9, 10, 11, 12, 13, 14, 15, 16] rfl rfl) ?_
      refine g_ws (ws' := [(b9, .inr (0, [.ref v22, .int 0, .int 0, .int (nI ((gLine S k).length))])), (v22, .inl (gy G 5, m22, .inl f22)), (a 0, .inr (3, [.int (nI (sN S 0)), .int (nI (sN S 1)), .ref (a 1), .ref (a 2), .ref (a 3), .ref (a 4), .ref (a 5), .ref (a 6), .ref (a 7), .ref (a 8), .int (sI S 9 0), .ref (a 9), .ref (a 11), .ref (a 13), .ref (a 14)])), (a 1, .inl (gy G 0, 8, .inl (sI S 0))), (a 2, .inl (gy G 0, 8, .inl (sI S 1))), (a 3, .inl (gy G 0, 8, .inl (sI S 2))), (a 4, .inl (gy G 0, 8, .inl (sI S 3))), (a 5, .inl (gy G 0, 8, .inl (sI S 4))), (a 6, .inl (gy G 0, 8, .inl (sI S 5))), (a 7, .inl (gy G 0, 10, .inl (sI S 6))), (a 8, .inl (gy G 0, 10, .inl (sI S 7))), (a 9, .inr (1, [.int (nI ((sB S).length)), .ref (a 10)])), (a 10, .inl (gy G 0, 144, .inl gb)), (a 11, .inr (6, [.int (nI ((sW S).length)), .ref (a 12)])), (a 12, .inl (gy G 0, 10, .inl gw)), (a 13, .inl (gy G 0, 5, .inl (sI S 8))), (a 14, .inl (gy G 0, 6, .inl (fun j => nI (sS S j))))]) (by rw [en]) ?_
      exact RET _ _ _ (b9, v22, m22, f22) (⟨rfl, by rw [← en, ← eL]; exact hB22⟩) dX2_lineOf_162
    · skip
      refine g_aload_n E dX2_lineOf_144 rfl 5 rfl ?_
      refine g_iload E dX2_lineOf_145 1 rfl ?_
      refine g_iload_n E dX2_lineOf_147 rfl 3 rfl ?_
      refine g_callVIe (F := [(b9, .inr (0, [.ref v18, .int 0, .int 0, .int (nI (0 + (gDc (bk (sB S) k 0)) + 1 + (gDc (bk (sB S) k 1)) + 1 + (gDc (bk (sB S) k 2)) + 2 + (gDc (bk (sB S) k 3)) + 2 + (gDc (bk (sB S) k 4))))])), (v18, .inl (gy G 5, m18, .inl f18))]) (ws2 := [(b9, .inr (0, [.ref v18, .int 0, .int 0, .int (nI (0 + (gDc (bk (sB S) k 0)) + 1 + (gDc (bk (sB S) k 1)) + 1 + (gDc (bk (sB S) k 2)) + 2 + (gDc (bk (sB S) k 3)) + 2 + (gDc (bk (sB S) k 4))))])), (v18, .inl (gy G 5, m18, .inl f18)), (a 0, .inr (3, [.int (nI (sN S 0)), .int (nI (sN S 1)), .ref (a 1), .ref (a 2), .ref (a 3), .ref (a 4), .ref (a 5), .ref (a 6), .ref (a 7), .ref (a 8), .int (sI S 9 0), .ref (a 9), .ref (a 11), .ref (a 13), .ref (a 14)])), (a 1, .inl (gy G 0, 8, .inl (sI S 0))), (a 2, .inl (gy G 0, 8, .inl (sI S 1))), (a 3, .inl (gy G 0, 8, .inl (sI S 2))), (a 4, .inl (gy G 0, 8, .inl (sI S 3))), (a 5, .inl (gy G 0, 8, .inl (sI S 4))), (a 6, .inl (gy G 0, 8, .inl (sI S 5))), (a 7, .inl (gy G 0, 10, .inl (sI S 6))), (a 8, .inl (gy G 0, 10, .inl (sI S 7))), (a 9, .inr (1, [.int (nI ((sB S).length)), .ref (a 10)])), (a 10, .inl (gy G 0, 144, .inl gb)), (a 11, .inr (6, [.int (nI ((sW S).length)), .ref (a 12)])), (a 12, .inl (gy G 0, 10, .inl gw)), (a 13, .inl (gy G 0, 5, .inl (sI S 8))), (a 14, .inl (gy G 0, 6, .inl (fun j => nI (sS S j))))]) E (mX2_isBanned G a S gb gw (bk (sB S) k 4) (bk (sB S) k 0) hI hT hR hQ (by omega)) gX2_lineOf_X2_isBanned rfl hdX2_isBanned ⟨Nat.le_of_ble_eq_true rfl, Nat.le_of_ble_eq_true rfl⟩ 3 0 rfl rfl rfl (gPerm_ix [2, 3, 4, 5, 6, 7, 8, 9, 10, 11, 12, 13, 14, 15, 16, 0, 1] rfl rfl) rfl rfl (Nat.le_of_ble_eq_true rfl) dX2_lineOf_148 ⟨Nat.le_of_ble_eq_true rfl, Nat.le_of_ble_eq_true rfl⟩ (gPerm_ix [15, 16, 0, 1, 2, 3, 4, 5, 6, 7, 8, 9, 10, 11, 12, 13, 14] rfl rfl) ?_
      refine g_if_eqB (tgt := 161) (P := (nI (bk (sB S) k 0) < sI S 7 (bk (sB S) k 4))) E dX2_lineOf_151 (by decide) (fun c24 => ?_) (fun c24 => ?_)
      · skip
        refine g_aload_n E dX2_lineOf_161 rfl 4 rfl ?_
        refine g_widen (k := 14) (n := 428) (by decide) (by decide) ?_
        have eL : (((((((((([] : List Int32) ++ gDgs (bk (sB S) k 0)) ++ [nI 100]) ++ gDgs (bk (sB S) k 1)) ++ [nI 104]) ++ gDgs (bk (sB S) k 2)) ++ [32, 112]) ++ gDgs (bk (sB S) k 3)) ++ [32, 118]) ++ gDgs (bk (sB S) k 4)) = gLine S k := by unfold gLine; rw [if_neg (show ¬ 0 < bk (sB S) k 5 by omega), if_neg (show ¬ (nI (bk (sB S) k 0) < sI S 2 (bk (sB S) k 3) ∨ nI (bk (sB S) k 0) < sI S 7 (bk (sB S) k 4)) from fun q => q.elim c21 c24)]; simp only [List.append_assoc, List.nil_append, List.append_nil] <;> rfl
        have en : 0 + (gDc (bk (sB S) k 0)) + 1 + (gDc (bk (sB S) k 1)) + 1 + (gDc (bk (sB S) k 2)) + 2 + (gDc (bk (sB S) k 3)) + 2 + (gDc (bk (sB S) k 4)) = (gLine S k).length := by rw [← eL]; exact hB18.2.2.2.1.symm
        refine g_perm (ws1 := [(b9, .inr (0, [.ref v18, .int 0, .int 0, .int (nI (0 + (gDc (bk (sB S) k 0)) + 1 + (gDc (bk (sB S) k 1)) + 1 + (gDc (bk (sB S) k 2)) + 2 + (gDc (bk (sB S) k 3)) + 2 + (gDc (bk (sB S) k 4))))])), (v18, .inl (gy G 5, m18, .inl f18)), (a 0, .inr (3, [.int (nI (sN S 0)), .int (nI (sN S 1)), .ref (a 1), .ref (a 2), .ref (a 3), .ref (a 4), .ref (a 5), .ref (a 6), .ref (a 7), .ref (a 8), .int (sI S 9 0), .ref (a 9), .ref (a 11), .ref (a 13), .ref (a 14)])), (a 1, .inl (gy G 0, 8, .inl (sI S 0))), (a 2, .inl (gy G 0, 8, .inl (sI S 1))), (a 3, .inl (gy G 0, 8, .inl (sI S 2))), (a 4, .inl (gy G 0, 8, .inl (sI S 3))), (a 5, .inl (gy G 0, 8, .inl (sI S 4))), (a 6, .inl (gy G 0, 8, .inl (sI S 5))), (a 7, .inl (gy G 0, 10, .inl (sI S 6))), (a 8, .inl (gy G 0, 10, .inl (sI S 7))), (a 9, .inr (1, [.int (nI ((sB S).length)), .ref (a 10)])), (a 10, .inl (gy G 0, 144, .inl gb)), (a 11, .inr (6, [.int (nI ((sW S).length)), .ref (a 12)])), (a 12, .inl (gy G 0, 10, .inl gw)), (a 13, .inl (gy G 0, 5, .inl (sI S 8))), (a 14, .inl (gy G 0, 6, .inl (fun j => nI (sS S j))))]) (gPerm_ix [0, 1, 2, 3, 4, 5, 6, 7, 8, 9, 10, 11, 12, 13, 14, 15, 16] rfl rfl) ?_
        refine g_ws (ws' := [(b9, .inr (0, [.ref v18, .int 0, .int 0, .int (nI ((gLine S k).length))])), (v18, .inl (gy G 5, m18, .inl f18)), (a 0, .inr (3, [.int (nI (sN S 0)), .int (nI (sN S 1)), .ref (a 1), .ref (a 2), .ref (a 3), .ref (a 4), .ref (a 5), .ref (a 6), .ref (a 7), .ref (a 8), .int (sI S 9 0), .ref (a 9), .ref (a 11), .ref (a 13), .ref (a 14)])), (a 1, .inl (gy G 0, 8, .inl (sI S 0))), (a 2, .inl (gy G 0, 8, .inl (sI S 1))), (a 3, .inl (gy G 0, 8, .inl (sI S 2))), (a 4, .inl (gy G 0, 8, .inl (sI S 3))), (a 5, .inl (gy G 0, 8, .inl (sI S 4))), (a 6, .inl (gy G 0, 8, .inl (sI S 5))), (a 7, .inl (gy G 0, 10, .inl (sI S 6))), (a 8, .inl (gy G 0, 10, .inl (sI S 7))), (a 9, .inr (1, [.int (nI ((sB S).length)), .ref (a 10)])), (a 10, .inl (gy G 0, 144, .inl gb)), (a 11, .inr (6, [.int (nI ((sW S).length)), .ref (a 12)])), (a 12, .inl (gy G 0, 10, .inl gw)), (a 13, .inl (gy G 0, 5, .inl (sI S 8))), (a 14, .inl (gy G 0, 6, .inl (fun j => nI (sS S j))))]) (by rw [en]) ?_
        exact RET _ _ _ (b9, v18, m18, f18) (⟨rfl, by rw [← en, ← eL]; exact hB18⟩) dX2_lineOf_162
      · skip
        refine g_aload_n E dX2_lineOf_154 rfl 4 rfl ?_
        refine g_bipush (v := 33) E dX2_lineOf_155 (by decide) ?_
        refine g_callVR (F := [(a 0, .inr (3, [.int (nI (sN S 0)), .int (nI (sN S 1)), .ref (a 1), .ref (a 2), .ref (a 3), .ref (a 4), .ref (a 5), .ref (a 6), .ref (a 7), .ref (a 8), .int (sI S 9 0), .ref (a 9), .ref (a 11), .ref (a 13), .ref (a 14)])), (a 1, .inl (gy G 0, 8, .inl (sI S 0))), (a 2, .inl (gy G 0, 8, .inl (sI S 1))), (a 3, .inl (gy G 0, 8, .inl (sI S 2))), (a 4, .inl (gy G 0, 8, .inl (sI S 3))), (a 5, .inl (gy G 0, 8, .inl (sI S 4))), (a 6, .inl (gy G 0, 8, .inl (sI S 5))), (a 7, .inl (gy G 0, 10, .inl (sI S 6))), (a 8, .inl (gy G 0, 10, .inl (sI S 7))), (a 9, .inr (1, [.int (nI ((sB S).length)), .ref (a 10)])), (a 10, .inl (gy G 0, 144, .inl gb)), (a 11, .inr (6, [.int (nI ((sW S).length)), .ref (a 12)])), (a 12, .inl (gy G 0, 10, .inl gw)), (a 13, .inl (gy G 0, 5, .inl (sI S 8))), (a 14, .inl (gy G 0, 6, .inl (fun j => nI (sS S j))))]) E (mJ4_append_cf468 G b9 v18 (0 + (gDc (bk (sB S) k 0)) + 1 + (gDc (bk (sB S) k 1)) + 1 + (gDc (bk (sB S) k 2)) + 2 + (gDc (bk (sB S) k 3)) + 2 + (gDc (bk (sB S) k 4))) m18 f18 (((((((((([] : List Int32) ++ gDgs (bk (sB S) k 0)) ++ [nI 100]) ++ gDgs (bk (sB S) k 1)) ++ [nI 104]) ++ gDgs (bk (sB S) k 2)) ++ [32, 112]) ++ gDgs (bk (sB S) k 3)) ++ [32, 118]) ++ gDgs (bk (sB S) k 4)) 33 hB18 (by omega) (by decide)) gX2_lineOf_J4_append_cf468 rfl hdJ4_append_cf468 ⟨Nat.le_of_ble_eq_true rfl, Nat.le_of_ble_eq_true rfl⟩ 0 0 rfl rfl rfl (gPerm_ix [0, 1, 2, 3, 4, 5, 6, 7, 8, 9, 10, 11, 12, 13, 14, 15, 16] rfl rfl) rfl rfl (Nat.le_of_ble_eq_true rfl) dX2_lineOf_157 ⟨Nat.le_of_ble_eq_true rfl, Nat.le_of_ble_eq_true rfl⟩ (fun r26 u25 hA25 => ?_)
        obtain ⟨v25, m25, f25⟩ := u25
        obtain ⟨hr25, hB25⟩ := hA25
        rw [hr25]
        refine g_perm (ws1 := [(b9, .inr (0, [.ref v25, .int 0, .int 0, .int (nI (0 + (gDc (bk (sB S) k 0)) + 1 + (gDc (bk (sB S) k 1)) + 1 + (gDc (bk (sB S) k 2)) + 2 + (gDc (bk (sB S) k 3)) + 2 + (gDc (bk (sB S) k 4)) + 1))])), (v25, .inl (gy G 5, m25, .inl f25)), (a 0, .inr (3, [.int (nI (sN S 0)), .int (nI (sN S 1)), .ref (a 1), .ref (a 2), .ref (a 3), .ref (a 4), .ref (a 5), .ref (a 6), .ref (a 7), .ref (a 8), .int (sI S 9 0), .ref (a 9), .ref (a 11), .ref (a 13), .ref (a 14)])), (a 1, .inl (gy G 0, 8, .inl (sI S 0))), (a 2, .inl (gy G 0, 8, .inl (sI S 1))), (a 3, .inl (gy G 0, 8, .inl (sI S 2))), (a 4, .inl (gy G 0, 8, .inl (sI S 3))), (a 5, .inl (gy G 0, 8, .inl (sI S 4))), (a 6, .inl (gy G 0, 8, .inl (sI S 5))), (a 7, .inl (gy G 0, 10, .inl (sI S 6))), (a 8, .inl (gy G 0, 10, .inl (sI S 7))), (a 9, .inr (1, [.int (nI ((sB S).length)), .ref (a 10)])), (a 10, .inl (gy G 0, 144, .inl gb)), (a 11, .inr (6, [.int (nI ((sW S).length)), .ref (a 12)])), (a 12, .inl (gy G 0, 10, .inl gw)), (a 13, .inl (gy G 0, 5, .inl (sI S 8))), (a 14, .inl (gy G 0, 6, .inl (fun j => nI (sS S j))))]) (gPerm_ix [0, 1, 2, 3, 4, 5, 6, 7, 8, 9, 10, 11, 12, 13, 14, 15, 16] rfl rfl) ?_
        refine g_pop E dX2_lineOf_160 rfl ?_
        refine g_aload_n E dX2_lineOf_161 rfl 4 rfl ?_
        refine g_widen (k := 14) (n := 428) (by decide) (by decide) ?_
        have eL : ((((((((((([] : List Int32) ++ gDgs (bk (sB S) k 0)) ++ [nI 100]) ++ gDgs (bk (sB S) k 1)) ++ [nI 104]) ++ gDgs (bk (sB S) k 2)) ++ [32, 112]) ++ gDgs (bk (sB S) k 3)) ++ [32, 118]) ++ gDgs (bk (sB S) k 4)) ++ [nI 33]) = gLine S k := by unfold gLine; rw [if_neg (show ¬ 0 < bk (sB S) k 5 by omega), if_pos (show nI (bk (sB S) k 0) < sI S 2 (bk (sB S) k 3) ∨ nI (bk (sB S) k 0) < sI S 7 (bk (sB S) k 4) from Or.inr c24)]; simp only [List.append_assoc, List.nil_append, List.append_nil] <;> rfl
        have en : 0 + (gDc (bk (sB S) k 0)) + 1 + (gDc (bk (sB S) k 1)) + 1 + (gDc (bk (sB S) k 2)) + 2 + (gDc (bk (sB S) k 3)) + 2 + (gDc (bk (sB S) k 4)) + 1 = (gLine S k).length := by rw [← eL]; exact hB25.2.2.2.1.symm
        refine g_perm (ws1 := [(b9, .inr (0, [.ref v25, .int 0, .int 0, .int (nI (0 + (gDc (bk (sB S) k 0)) + 1 + (gDc (bk (sB S) k 1)) + 1 + (gDc (bk (sB S) k 2)) + 2 + (gDc (bk (sB S) k 3)) + 2 + (gDc (bk (sB S) k 4)) + 1))])), (v25, .inl (gy G 5, m25, .inl f25)), (a 0, .inr (3, [.int (nI (sN S 0)), .int (nI (sN S 1)), .ref (a 1), .ref (a 2), .ref (a 3), .ref (a 4), .ref (a 5), .ref (a 6), .ref (a 7), .ref (a 8), .int (sI S 9 0), .ref (a 9), .ref (a 11), .ref (a 13), .ref (a 14)])), (a 1, .inl (gy G 0, 8, .inl (sI S 0))), (a 2, .inl (gy G 0, 8, .inl (sI S 1))), (a 3, .inl (gy G 0, 8, .inl (sI S 2))), (a 4, .inl (gy G 0, 8, .inl (sI S 3))), (a 5, .inl (gy G 0, 8, .inl (sI S 4))), (a 6, .inl (gy G 0, 8, .inl (sI S 5))), (a 7, .inl (gy G 0, 10, .inl (sI S 6))), (a 8, .inl (gy G 0, 10, .inl (sI S 7))), (a 9, .inr (1, [.int (nI ((sB S).length)), .ref (a 10)])), (a 10, .inl (gy G 0, 144, .inl gb)), (a 11, .inr (6, [.int (nI ((sW S).length)), .ref (a 12)])), (a 12, .inl (gy G 0, 10, .inl gw)), (a 13, .inl (gy G 0, 5, .inl (sI S 8))), (a 14, .inl (gy G 0, 6, .inl (fun j => nI (sS S j))))]) (gPerm_ix [0, 1, 2, 3, 4, 5, 6, 7, 8, 9, 10, 11, 12, 13, 14, 15, 16] rfl rfl) ?_
        refine g_ws (ws' := [(b9, .inr (0, [.ref v25, .int 0, .int 0, .int (nI ((gLine S k).length))])), (v25, .inl (gy G 5, m25, .inl f25)), (a 0, .inr (3, [.int (nI (sN S 0)), .int (nI (sN S 1)), .ref (a 1), .ref (a 2), .ref (a 3), .ref (a 4), .ref (a 5), .ref (a 6), .ref (a 7), .ref (a 8), .int (sI S 9 0), .ref (a 9), .ref (a 11), .ref (a 13), .ref (a 14)])), (a 1, .inl (gy G 0, 8, .inl (sI S 0))), (a 2, .inl (gy G 0, 8, .inl (sI S 1))), (a 3, .inl (gy G 0, 8, .inl (sI S 2))), (a 4, .inl (gy G 0, 8, .inl (sI S 3))), (a 5, .inl (gy G 0, 8, .inl (sI S 4))), (a 6, .inl (gy G 0, 8, .inl (sI S 5))), (a 7, .inl (gy G 0, 10, .inl (sI S 6))), (a 8, .inl (gy G 0, 10, .inl (sI S 7))), (a 9, .inr (1, [.int (nI ((sB S).length)), .ref (a 10)])), (a 10, .inl (gy G 0, 144, .inl gb)), (a 11, .inr (6, [.int (nI ((sW S).length)), .ref (a 12)])), (a 12, .inl (gy G 0, 10, .inl gw)), (a 13, .inl (gy G 0, 5, .inl (sI S 8))), (a 14, .inl (gy G 0, 6, .inl (fun j => nI (sS S j))))]) (by rw [en]) ?_
        exact RET _ _ _ (b9, v25, m25, f25) (⟨rfl, by rw [← en, ← eL]; exact hB25⟩) dX2_lineOf_162
  · skip
    refine g_aload_n E dX2_lineOf_122 rfl 4 rfl ?_
    refine g_bipush (v := 43) E dX2_lineOf_123 (by decide) ?_
    refine g_callVR (F := [(a 0, .inr (3, [.int (nI (sN S 0)), .int (nI (sN S 1)), .ref (a 1), .ref (a 2), .ref (a 3), .ref (a 4), .ref (a 5), .ref (a 6), .ref (a 7), .ref (a 8), .int (sI S 9 0), .ref (a 9), .ref (a 11), .ref (a 13), .ref (a 14)])), (a 1, .inl (gy G 0, 8, .inl (sI S 0))), (a 2, .inl (gy G 0, 8, .inl (sI S 1))), (a 3, .inl (gy G 0, 8, .inl (sI S 2))), (a 4, .inl (gy G 0, 8, .inl (sI S 3))), (a 5, .inl (gy G 0, 8, .inl (sI S 4))), (a 6, .inl (gy G 0, 8, .inl (sI S 5))), (a 7, .inl (gy G 0, 10, .inl (sI S 6))), (a 8, .inl (gy G 0, 10, .inl (sI S 7))), (a 9, .inr (1, [.int (nI ((sB S).length)), .ref (a 10)])), (a 10, .inl (gy G 0, 144, .inl gb)), (a 11, .inr (6, [.int (nI ((sW S).length)), .ref (a 12)])), (a 12, .inl (gy G 0, 10, .inl gw)), (a 13, .inl (gy G 0, 5, .inl (sI S 8))), (a 14, .inl (gy G 0, 6, .inl (fun j => nI (sS S j))))]) E (mJ4_append_cf468 G b9 v18 (0 + (gDc (bk (sB S) k 0)) + 1 + (gDc (bk (sB S) k 1)) + 1 + (gDc (bk (sB S) k 2)) + 2 + (gDc (bk (sB S) k 3)) + 2 + (gDc (bk (sB S) k 4))) m18 f18 (((((((((([] : List Int32) ++ gDgs (bk (sB S) k 0)) ++ [nI 100]) ++ gDgs (bk (sB S) k 1)) ++ [nI 104]) ++ gDgs (bk (sB S) k 2)) ++ [32, 112]) ++ gDgs (bk (sB S) k 3)) ++ [32, 118]) ++ gDgs (bk (sB S) k 4)) 43 hB18 (by omega) (by decide)) gX2_lineOf_J4_append_cf468 rfl hdJ4_append_cf468 ⟨Nat.le_of_ble_eq_true rfl, Nat.le_of_ble_eq_true rfl⟩ 0 0 rfl rfl rfl (gPerm_ix [0, 1, 2, 3, 4, 5, 6, 7, 8, 9, 10, 11, 12, 13, 14, 15, 16] rfl rfl) rfl rfl (Nat.le_of_ble_eq_true rfl) dX2_lineOf_125 ⟨Nat.le_of_ble_eq_true rfl, Nat.le_of_ble_eq_true rfl⟩ (fun r28 u27 hA27 => ?_)
    obtain ⟨v27, m27, f27⟩ := u27
    obtain ⟨hr27, hB27⟩ := hA27
    rw [hr27]
    refine g_perm (ws1 := [(b9, .inr (0, [.ref v27, .int 0, .int 0, .int (nI (0 + (gDc (bk (sB S) k 0)) + 1 + (gDc (bk (sB S) k 1)) + 1 + (gDc (bk (sB S) k 2)) + 2 + (gDc (bk (sB S) k 3)) + 2 + (gDc (bk (sB S) k 4)) + 1))])), (v27, .inl (gy G 5, m27, .inl f27)), (a 0, .inr (3, [.int (nI (sN S 0)), .int (nI (sN S 1)), .ref (a 1), .ref (a 2), .ref (a 3), .ref (a 4), .ref (a 5), .ref (a 6), .ref (a 7), .ref (a 8), .int (sI S 9 0), .ref (a 9), .ref (a 11), .ref (a 13), .ref (a 14)])), (a 1, .inl (gy G 0, 8, .inl (sI S 0))), (a 2, .inl (gy G 0, 8, .inl (sI S 1))), (a 3, .inl (gy G 0, 8, .inl (sI S 2))), (a 4, .inl (gy G 0, 8, .inl (sI S 3))), (a 5, .inl (gy G 0, 8, .inl (sI S 4))), (a 6, .inl (gy G 0, 8, .inl (sI S 5))), (a 7, .inl (gy G 0, 10, .inl (sI S 6))), (a 8, .inl (gy G 0, 10, .inl (sI S 7))), (a 9, .inr (1, [.int (nI ((sB S).length)), .ref (a 10)])), (a 10, .inl (gy G 0, 144, .inl gb)), (a 11, .inr (6, [.int (nI ((sW S).length)), .ref (a 12)])), (a 12, .inl (gy G 0, 10, .inl gw)), (a 13, .inl (gy G 0, 5, .inl (sI S 8))), (a 14, .inl (gy G 0, 6, .inl (fun j => nI (sS S j))))]) (gPerm_ix [0, 1, 2, 3, 4, 5, 6, 7, 8, 9, 10, 11, 12, 13, 14, 15, 16] rfl rfl) ?_
    refine g_iload E dX2_lineOf_128 0 rfl ?_
    refine g_callVR (F := [(a 0, .inr (3, [.int (nI (sN S 0)), .int (nI (sN S 1)), .ref (a 1), .ref (a 2), .ref (a 3), .ref (a 4), .ref (a 5), .ref (a 6), .ref (a 7), .ref (a 8), .int (sI S 9 0), .ref (a 9), .ref (a 11), .ref (a 13), .ref (a 14)])), (a 1, .inl (gy G 0, 8, .inl (sI S 0))), (a 2, .inl (gy G 0, 8, .inl (sI S 1))), (a 3, .inl (gy G 0, 8, .inl (sI S 2))), (a 4, .inl (gy G 0, 8, .inl (sI S 3))), (a 5, .inl (gy G 0, 8, .inl (sI S 4))), (a 6, .inl (gy G 0, 8, .inl (sI S 5))), (a 7, .inl (gy G 0, 10, .inl (sI S 6))), (a 8, .inl (gy G 0, 10, .inl (sI S 7))), (a 9, .inr (1, [.int (nI ((sB S).length)), .ref (a 10)])), (a 10, .inl (gy G 0, 144, .inl gb)), (a 11, .inr (6, [.int (nI ((sW S).length)), .ref (a 12)])), (a 12, .inl (gy G 0, 10, .inl gw)), (a 13, .inl (gy G 0, 5, .inl (sI S 8))), (a 14, .inl (gy G 0, 6, .inl (fun j => nI (sS S j))))]) E (mJ4_append_bf812 G b9 v27 (0 + (gDc (bk (sB S) k 0)) + 1 + (gDc (bk (sB S) k 1)) + 1 + (gDc (bk (sB S) k 2)) + 2 + (gDc (bk (sB S) k 3)) + 2 + (gDc (bk (sB S) k 4)) + 1) m27 f27 ((((((((((([] : List Int32) ++ gDgs (bk (sB S) k 0)) ++ [nI 100]) ++ gDgs (bk (sB S) k 1)) ++ [nI 104]) ++ gDgs (bk (sB S) k 2)) ++ [32, 112]) ++ gDgs (bk (sB S) k 3)) ++ [32, 118]) ++ gDgs (bk (sB S) k 4)) ++ [nI 43]) (bk (sB S) k 5) hB27 (by omega) (by omega)) gX2_lineOf_J4_append_bf812 rfl hdJ4_append_bf812 ⟨Nat.le_of_ble_eq_true rfl, Nat.le_of_ble_eq_true rfl⟩ 0 0 rfl rfl rfl (gPerm_ix [0, 1, 2, 3, 4, 5, 6, 7, 8, 9, 10, 11, 12, 13, 14, 15, 16] rfl rfl) rfl rfl (Nat.le_of_ble_eq_true rfl) dX2_lineOf_130 ⟨Nat.le_of_ble_eq_true rfl, Nat.le_of_ble_eq_true rfl⟩ (fun r30 u29 hA29 => ?_)
    obtain ⟨v29, m29, f29⟩ := u29
    obtain ⟨hr29, hB29⟩ := hA29
    rw [hr29]
    refine g_perm (ws1 := [(b9, .inr (0, [.ref v29, .int 0, .int 0, .int (nI (0 + (gDc (bk (sB S) k 0)) + 1 + (gDc (bk (sB S) k 1)) + 1 + (gDc (bk (sB S) k 2)) + 2 + (gDc (bk (sB S) k 3)) + 2 + (gDc (bk (sB S) k 4)) + 1 + (gDc (bk (sB S) k 5))))])), (v29, .inl (gy G 5, m29, .inl f29)), (a 0, .inr (3, [.int (nI (sN S 0)), .int (nI (sN S 1)), .ref (a 1), .ref (a 2), .ref (a 3), .ref (a 4), .ref (a 5), .ref (a 6), .ref (a 7), .ref (a 8), .int (sI S 9 0), .ref (a 9), .ref (a 11), .ref (a 13), .ref (a 14)])), (a 1, .inl (gy G 0, 8, .inl (sI S 0))), (a 2, .inl (gy G 0, 8, .inl (sI S 1))), (a 3, .inl (gy G 0, 8, .inl (sI S 2))), (a 4, .inl (gy G 0, 8, .inl (sI S 3))), (a 5, .inl (gy G 0, 8, .inl (sI S 4))), (a 6, .inl (gy G 0, 8, .inl (sI S 5))), (a 7, .inl (gy G 0, 10, .inl (sI S 6))), (a 8, .inl (gy G 0, 10, .inl (sI S 7))), (a 9, .inr (1, [.int (nI ((sB S).length)), .ref (a 10)])), (a 10, .inl (gy G 0, 144, .inl gb)), (a 11, .inr (6, [.int (nI ((sW S).length)), .ref (a 12)])), (a 12, .inl (gy G 0, 10, .inl gw)), (a 13, .inl (gy G 0, 5, .inl (sI S 8))), (a 14, .inl (gy G 0, 6, .inl (fun j => nI (sS S j))))]) (gPerm_ix [0, 1, 2, 3, 4, 5, 6, 7, 8, 9, 10, 11, 12, 13, 14, 15, 16] rfl rfl) ?_
    refine g_pop E dX2_lineOf_133 rfl ?_
    refine g_aload_n E dX2_lineOf_134 rfl 5 rfl ?_
    refine g_iload E dX2_lineOf_135 2 rfl ?_
    refine g_iload_n E dX2_lineOf_137 rfl 3 rfl ?_
    refine g_callVIe (F := [(b9, .inr (0, [.ref v29, .int 0, .int 0, .int (nI (0 + (gDc (bk (sB S) k 0)) + 1 + (gDc (bk (sB S) k 1)) + 1 + (gDc (bk (sB S) k 2)) + 2 + (gDc (bk (sB S) k 3)) + 2 + (gDc (bk (sB S) k 4)) + 1 + (gDc (bk (sB S) k 5))))])), (v29, .inl (gy G 5, m29, .inl f29))]) (ws2 := [(b9, .inr (0, [.ref v29, .int 0, .int 0, .int (nI (0 + (gDc (bk (sB S) k 0)) + 1 + (gDc (bk (sB S) k 1)) + 1 + (gDc (bk (sB S) k 2)) + 2 + (gDc (bk (sB S) k 3)) + 2 + (gDc (bk (sB S) k 4)) + 1 + (gDc (bk (sB S) k 5))))])), (v29, .inl (gy G 5, m29, .inl f29)), (a 0, .inr (3, [.int (nI (sN S 0)), .int (nI (sN S 1)), .ref (a 1), .ref (a 2), .ref (a 3), .ref (a 4), .ref (a 5), .ref (a 6), .ref (a 7), .ref (a 8), .int (sI S 9 0), .ref (a 9), .ref (a 11), .ref (a 13), .ref (a 14)])), (a 1, .inl (gy G 0, 8, .inl (sI S 0))), (a 2, .inl (gy G 0, 8, .inl (sI S 1))), (a 3, .inl (gy G 0, 8, .inl (sI S 2))), (a 4, .inl (gy G 0, 8, .inl (sI S 3))), (a 5, .inl (gy G 0, 8, .inl (sI S 4))), (a 6, .inl (gy G 0, 8, .inl (sI S 5))), (a 7, .inl (gy G 0, 10, .inl (sI S 6))), (a 8, .inl (gy G 0, 10, .inl (sI S 7))), (a 9, .inr (1, [.int (nI ((sB S).length)), .ref (a 10)])), (a 10, .inl (gy G 0, 144, .inl gb)), (a 11, .inr (6, [.int (nI ((sW S).length)), .ref (a 12)])), (a 12, .inl (gy G 0, 10, .inl gw)), (a 13, .inl (gy G 0, 5, .inl (sI S 8))), (a 14, .inl (gy G 0, 6, .inl (fun j => nI (sS S j))))]) E (mX2_isLost G a S gb gw (bk (sB S) k 3) (bk (sB S) k 0) hI hT hR hQ (by omega)) gX2_lineOf_X2_isLost rfl hdX2_isLost ⟨Nat.le_of_ble_eq_true rfl, Nat.le_of_ble_eq_true rfl⟩ 3 0 rfl rfl rfl (gPerm_ix [2, 3, 4, 5, 6, 7, 8, 9, 10, 11, 12, 13, 14, 15, 16, 0, 1] rfl rfl) rfl rfl (Nat.le_of_ble_eq_true rfl) dX2_lineOf_138 ⟨Nat.le_of_ble_eq_true rfl, Nat.le_of_ble_eq_true rfl⟩ (gPerm_ix [15, 16, 0, 1, 2, 3, 4, 5, 6, 7, 8, 9, 10, 11, 12, 13, 14] rfl rfl) ?_
    refine g_if_neB (tgt := 154) (P := (nI (bk (sB S) k 0) < sI S 2 (bk (sB S) k 3))) E dX2_lineOf_141 (by decide) (fun c31 => ?_) (fun c31 => ?_)
    · skip
      refine g_aload_n E dX2_lineOf_154 rfl 4 rfl ?_
      refine g_bipush (v := 33) E dX2_lineOf_155 (by decide) ?_
      refine g_callVR (F := [(a 0, .inr (3, [.int (nI (sN S 0)), .int (nI (sN S 1)), .ref (a 1), .ref (a 2), .ref (a 3), .ref (a 4), .ref (a 5), .ref (a 6), .ref (a 7), .ref (a 8), .int (sI S 9 0), .ref (a 9), .ref (a 11), .ref (a 13), .ref (a 14)])), (a 1, .inl (gy G 0, 8, .inl (sI S 0))), (a 2, .inl (gy G 0, 8, .inl (sI S 1))), (a 3, .inl (gy G 0, 8, .inl (sI S 2))), (a 4, .inl (gy G 0, 8, .inl (sI S 3))), (a 5, .inl (gy G 0, 8, .inl (sI S 4))), (a 6, .inl (gy G 0, 8, .inl (sI S 5))), (a 7, .inl (gy G 0, 10, .inl (sI S 6))), (a 8, .inl (gy G 0, 10, .inl (sI S 7))), (a 9, .inr (1, [.int (nI ((sB S).length)), .ref (a 10)])), (a 10, .inl (gy G 0, 144, .inl gb)), (a 11, .inr (6, [.int (nI ((sW S).length)), .ref (a 12)])), (a 12, .inl (gy G 0, 10, .inl gw)), (a 13, .inl (gy G 0, 5, .inl (sI S 8))), (a 14, .inl (gy G 0, 6, .inl (fun j => nI (sS S j))))]) E (mJ4_append_cf468 G b9 v29 (0 + (gDc (bk (sB S) k 0)) + 1 + (gDc (bk (sB S) k 1)) + 1 + (gDc (bk (sB S) k 2)) + 2 + (gDc (bk (sB S) k 3)) + 2 + (gDc (bk (sB S) k 4)) + 1 + (gDc (bk (sB S) k 5))) m29 f29 (((((((((((([] : List Int32) ++ gDgs (bk (sB S) k 0)) ++ [nI 100]) ++ gDgs (bk (sB S) k 1)) ++ [nI 104]) ++ gDgs (bk (sB S) k 2)) ++ [32, 112]) ++ gDgs (bk (sB S) k 3)) ++ [32, 118]) ++ gDgs (bk (sB S) k 4)) ++ [nI 43]) ++ gDgs (bk (sB S) k 5)) 33 hB29 (by omega) (by decide)) gX2_lineOf_J4_append_cf468 rfl hdJ4_append_cf468 ⟨Nat.le_of_ble_eq_true rfl, Nat.le_of_ble_eq_true rfl⟩ 0 0 rfl rfl rfl (gPerm_ix [0, 1, 2, 3, 4, 5, 6, 7, 8, 9, 10, 11, 12, 13, 14, 15, 16] rfl rfl) rfl rfl (Nat.le_of_ble_eq_true rfl) dX2_lineOf_157 ⟨Nat.le_of_ble_eq_true rfl, Nat.le_of_ble_eq_true rfl⟩ (fun r33 u32 hA32 => ?_)
      obtain ⟨v32, m32, f32⟩ := u32
      obtain ⟨hr32, hB32⟩ := hA32
      rw [hr32]
      refine g_perm (ws1 := [(b9, .inr (0, [.ref v32, .int 0, .int 0, .int (nI (0 + (gDc (bk (sB S) k 0)) + 1 + (gDc (bk (sB S) k 1)) + 1 + (gDc (bk (sB S) k 2)) + 2 + (gDc (bk (sB S) k 3)) + 2 + (gDc (bk (sB S) k 4)) + 1 + (gDc (bk (sB S) k 5)) + 1))])), (v32, .inl (gy G 5, m32, .inl f32)), (a 0, .inr (3, [.int (nI (sN S 0)), .int (nI (sN S 1)), .ref (a 1), .ref (a 2), .ref (a 3), .ref (a 4), .ref (a 5), .ref (a 6), .ref (a 7), .ref (a 8), .int (sI S 9 0), .ref (a 9), .ref (a 11), .ref (a 13), .ref (a 14)])), (a 1, .inl (gy G 0, 8, .inl (sI S 0))), (a 2, .inl (gy G 0, 8, .inl (sI S 1))), (a 3, .inl (gy G 0, 8, .inl (sI S 2))), (a 4, .inl (gy G 0, 8, .inl (sI S 3))), (a 5, .inl (gy G 0, 8, .inl (sI S 4))), (a 6, .inl (gy G 0, 8, .inl (sI S 5))), (a 7, .inl (gy G 0, 10, .inl (sI S 6))), (a 8, .inl (gy G 0, 10, .inl (sI S 7))), (a 9, .inr (1, [.int (nI ((sB S).length)), .ref (a 10)])), (a 10, .inl (gy G 0, 144, .inl gb)), (a 11, .inr (6, [.int (nI ((sW S).length)), .ref (a 12)])), (a 12, .inl (gy G 0, 10, .inl gw)), (a 13, .inl (gy G 0, 5, .inl (sI S 8))), (a 14, .inl (gy G 0, 6, .inl (fun j => nI (sS S j))))]) (gPerm_ix [0, 1, 2, 3, 4, 5, 6, 7, 8, 9, 10, 11, 12, 13, 14, 15, 16] rfl rfl) ?_
      refine g_pop E dX2_lineOf_160 rfl ?_
      refine g_aload_n E dX2_lineOf_161 rfl 4 rfl ?_
      have eL : ((((((((((((([] : List Int32) ++ gDgs (bk (sB S) k 0)) ++ [nI 100]) ++ gDgs (bk (sB S) k 1)) ++ [nI 104]) ++ gDgs (bk (sB S) k 2)) ++ [32, 112]) ++ gDgs (bk (sB S) k 3)) ++ [32, 118]) ++ gDgs (bk (sB S) k 4)) ++ [nI 43]) ++ gDgs (bk (sB S) k 5)) ++ [nI 33]) = gLine S k := by unfold gLine; rw [if_pos (show 0 < bk (sB S) k 5 by omega), if_pos (show nI (bk (sB S) k 0) < sI S 2 (bk (sB S) k 3) ∨ nI (bk (sB S) k 0) < sI S 7 (bk (sB S) k 4) from Or.inl c31)]; simp only [List.append_assoc, List.nil_append, List.append_nil] <;> rfl
      have en : 0 + (gDc (bk (sB S) k 0)) + 1 + (gDc (bk (sB S) k 1)) + 1 + (gDc (bk (sB S) k 2)) + 2 + (gDc (bk (sB S) k 3)) + 2 + (gDc (bk (sB S) k 4)) + 1 + (gDc (bk (sB S) k 5)) + 1 = (gLine S k).length := by rw [← eL]; exact hB32.2.2.2.1.symm
      refine g_perm (ws1 := [(b9, .inr (0, [.ref v32, .int 0, .int 0, .int (nI (0 + (gDc (bk (sB S) k 0)) + 1 + (gDc (bk (sB S) k 1)) + 1 + (gDc (bk (sB S) k 2)) + 2 + (gDc (bk (sB S) k 3)) + 2 + (gDc (bk (sB S) k 4)) + 1 + (gDc (bk (sB S) k 5)) + 1))])), (v32, .inl (gy G 5, m32, .inl f32)), (a 0, .inr (3, [.int (nI (sN S 0)), .int (nI (sN S 1)), .ref (a 1), .ref (a 2), .ref (a 3), .ref (a 4), .ref (a 5), .ref (a 6), .ref (a 7), .ref (a 8), .int (sI S 9 0), .ref (a 9), .ref (a 11), .ref (a 13), .ref (a 14)])), (a 1, .inl (gy G 0, 8, .inl (sI S 0))), (a 2, .inl (gy G 0, 8, .inl (sI S 1))), (a 3, .inl (gy G 0, 8, .inl (sI S 2))), (a 4, .inl (gy G 0, 8, .inl (sI S 3))), (a 5, .inl (gy G 0, 8, .inl (sI S 4))), (a 6, .inl (gy G 0, 8, .inl (sI S 5))), (a 7, .inl (gy G 0, 10, .inl (sI S 6))), (a 8, .inl (gy G 0, 10, .inl (sI S 7))), (a 9, .inr (1, [.int (nI ((sB S).length)), .ref (a 10)])), (a 10, .inl (gy G 0, 144, .inl gb)), (a 11, .inr (6, [.int (nI ((sW S).length)), .ref (a 12)])), (a 12, .inl (gy G 0, 10, .inl gw)), (a 13, .inl (gy G 0, 5, .inl (sI S 8))), (a 14, .inl (gy G 0, 6, .inl (fun j => nI (sS S j))))]) (gPerm_ix [0, 1, 2, 3, 4, 5, 6, 7, 8, 9, 10, 11, 12, 13, 14, 15, 16] rfl rfl) ?_
      refine g_ws (ws' := [(b9, .inr (0, [.ref v32, .int 0, .int 0, .int (nI ((gLine S k).length))])), (v32, .inl (gy G 5, m32, .inl f32)), (a 0, .inr (3, [.int (nI (sN S 0)), .int (nI (sN S 1)), .ref (a 1), .ref (a 2), .ref (a 3), .ref (a 4), .ref (a 5), .ref (a 6), .ref (a 7), .ref (a 8), .int (sI S 9 0), .ref (a 9), .ref (a 11), .ref (a 13), .ref (a 14)])), (a 1, .inl (gy G 0, 8, .inl (sI S 0))), (a 2, .inl (gy G 0, 8, .inl (sI S 1))), (a 3, .inl (gy G 0, 8, .inl (sI S 2))), (a 4, .inl (gy G 0, 8, .inl (sI S 3))), (a 5, .inl (gy G 0, 8, .inl (sI S 4))), (a 6, .inl (gy G 0, 8, .inl (sI S 5))), (a 7, .inl (gy G 0, 10, .inl (sI S 6))), (a 8, .inl (gy G 0, 10, .inl (sI S 7))), (a 9, .inr (1, [.int (nI ((sB S).length)), .ref (a 10)])), (a 10, .inl (gy G 0, 144, .inl gb)), (a 11, .inr (6, [.int (nI ((sW S).length)), .ref (a 12)])), (a 12, .inl (gy G 0, 10, .inl gw)), (a 13, .inl (gy G 0, 5, .inl (sI S 8))), (a 14, .inl (gy G 0, 6, .inl (fun j => nI (sS S j))))]) (by rw [en]) ?_
      exact RET _ _ _ (b9, v32, m32, f32) (⟨rfl, by rw [← en, ← eL]; exact hB32⟩) dX2_lineOf_162
    · skip
      refine g_aload_n E dX2_lineOf_144 rfl 5 rfl ?_
      refine g_iload E dX2_lineOf_145 1 rfl ?_
      refine g_iload_n E dX2_lineOf_147 rfl 3 rfl ?_
      refine g_callVIe (F := [(b9, .inr (0, [.ref v29, .int 0, .int 0, .int (nI (0 + (gDc (bk (sB S) k 0)) + 1 + (gDc (bk (sB S) k 1)) + 1 + (gDc (bk (sB S) k 2)) + 2 + (gDc (bk (sB S) k 3)) + 2 + (gDc (bk (sB S) k 4)) + 1 + (gDc (bk (sB S) k 5))))])), (v29, .inl (gy G 5, m29, .inl f29))]) (ws2 := [(b9, .inr (0, [.ref v29, .int 0, .int 0, .int (nI (0 + (gDc (bk (sB S) k 0)) + 1 + (gDc (bk (sB S) k 1)) + 1 + (gDc (bk (sB S) k 2)) + 2 + (gDc (bk (sB S) k 3)) + 2 + (gDc (bk (sB S) k 4)) + 1 + (gDc (bk (sB S) k 5))))])), (v29, .inl (gy G 5, m29, .inl f29)), (a 0, .inr (3, [.int (nI (sN S 0)), .int (nI (sN S 1)), .ref (a 1), .ref (a 2), .ref (a 3), .ref (a 4), .ref (a 5), .ref (a 6), .ref (a 7), .ref (a 8), .int (sI S 9 0), .ref (a 9), .ref (a 11), .ref (a 13), .ref (a 14)])), (a 1, .inl (gy G 0, 8, .inl (sI S 0))), (a 2, .inl (gy G 0, 8, .inl (sI S 1))), (a 3, .inl (gy G 0, 8, .inl (sI S 2))), (a 4, .inl (gy G 0, 8, .inl (sI S 3))), (a 5, .inl (gy G 0, 8, .inl (sI S 4))), (a 6, .inl (gy G 0, 8, .inl (sI S 5))), (a 7, .inl (gy G 0, 10, .inl (sI S 6))), (a 8, .inl (gy G 0, 10, .inl (sI S 7))), (a 9, .inr (1, [.int (nI ((sB S).length)), .ref (a 10)])), (a 10, .inl (gy G 0, 144, .inl gb)), (a 11, .inr (6, [.int (nI ((sW S).length)), .ref (a 12)])), (a 12, .inl (gy G 0, 10, .inl gw)), (a 13, .inl (gy G 0, 5, .inl (sI S 8))), (a 14, .inl (gy G 0, 6, .inl (fun j => nI (sS S j))))]) E (mX2_isBanned G a S gb gw (bk (sB S) k 4) (bk (sB S) k 0) hI hT hR hQ (by omega)) gX2_lineOf_X2_isBanned rfl hdX2_isBanned ⟨Nat.le_of_ble_eq_true rfl, Nat.le_of_ble_eq_true rfl⟩ 3 0 rfl rfl rfl (gPerm_ix [2, 3, 4, 5, 6, 7, 8, 9, 10, 11, 12, 13, 14, 15, 16, 0, 1] rfl rfl) rfl rfl (Nat.le_of_ble_eq_true rfl) dX2_lineOf_148 ⟨Nat.le_of_ble_eq_true rfl, Nat.le_of_ble_eq_true rfl⟩ (gPerm_ix [15, 16, 0, 1, 2, 3, 4, 5, 6, 7, 8, 9, 10, 11, 12, 13, 14] rfl rfl) ?_
      refine g_if_eqB (tgt := 161) (P := (nI (bk (sB S) k 0) < sI S 7 (bk (sB S) k 4))) E dX2_lineOf_151 (by decide) (fun c34 => ?_) (fun c34 => ?_)
      · skip
        refine g_aload_n E dX2_lineOf_161 rfl 4 rfl ?_
        refine g_widen (k := 14) (n := 428) (by decide) (by decide) ?_
        have eL : (((((((((((([] : List Int32) ++ gDgs (bk (sB S) k 0)) ++ [nI 100]) ++ gDgs (bk (sB S) k 1)) ++ [nI 104]) ++ gDgs (bk (sB S) k 2)) ++ [32, 112]) ++ gDgs (bk (sB S) k 3)) ++ [32, 118]) ++ gDgs (bk (sB S) k 4)) ++ [nI 43]) ++ gDgs (bk (sB S) k 5)) = gLine S k := by unfold gLine; rw [if_pos (show 0 < bk (sB S) k 5 by omega), if_neg (show ¬ (nI (bk (sB S) k 0) < sI S 2 (bk (sB S) k 3) ∨ nI (bk (sB S) k 0) < sI S 7 (bk (sB S) k 4)) from fun q => q.elim c31 c34)]; simp only [List.append_assoc, List.nil_append, List.append_nil] <;> rfl
        have en : 0 + (gDc (bk (sB S) k 0)) + 1 + (gDc (bk (sB S) k 1)) + 1 + (gDc (bk (sB S) k 2)) + 2 + (gDc (bk (sB S) k 3)) + 2 + (gDc (bk (sB S) k 4)) + 1 + (gDc (bk (sB S) k 5)) = (gLine S k).length := by rw [← eL]; exact hB29.2.2.2.1.symm
        refine g_perm (ws1 := [(b9, .inr (0, [.ref v29, .int 0, .int 0, .int (nI (0 + (gDc (bk (sB S) k 0)) + 1 + (gDc (bk (sB S) k 1)) + 1 + (gDc (bk (sB S) k 2)) + 2 + (gDc (bk (sB S) k 3)) + 2 + (gDc (bk (sB S) k 4)) + 1 + (gDc (bk (sB S) k 5))))])), (v29, .inl (gy G 5, m29, .inl f29)), (a 0, .inr (3, [.int (nI (sN S 0)), .int (nI (sN S 1)), .ref (a 1), .ref (a 2), .ref (a 3), .ref (a 4), .ref (a 5), .ref (a 6), .ref (a 7), .ref (a 8), .int (sI S 9 0), .ref (a 9), .ref (a 11), .ref (a 13), .ref (a 14)])), (a 1, .inl (gy G 0, 8, .inl (sI S 0))), (a 2, .inl (gy G 0, 8, .inl (sI S 1))), (a 3, .inl (gy G 0, 8, .inl (sI S 2))), (a 4, .inl (gy G 0, 8, .inl (sI S 3))), (a 5, .inl (gy G 0, 8, .inl (sI S 4))), (a 6, .inl (gy G 0, 8, .inl (sI S 5))), (a 7, .inl (gy G 0, 10, .inl (sI S 6))), (a 8, .inl (gy G 0, 10, .inl (sI S 7))), (a 9, .inr (1, [.int (nI ((sB S).length)), .ref (a 10)])), (a 10, .inl (gy G 0, 144, .inl gb)), (a 11, .inr (6, [.int (nI ((sW S).length)), .ref (a 12)])), (a 12, .inl (gy G 0, 10, .inl gw)), (a 13, .inl (gy G 0, 5, .inl (sI S 8))), (a 14, .inl (gy G 0, 6, .inl (fun j => nI (sS S j))))]) (gPerm_ix [0, 1, 2, 3, 4, 5, 6, 7, 8, 9, 10, 11, 12, 13, 14, 15, 16] rfl rfl) ?_
        refine g_ws (ws' := [(b9, .inr (0, [.ref v29, .int 0, .int 0, .int (nI ((gLine S k).length))])), (v29, .inl (gy G 5, m29, .inl f29)), (a 0, .inr (3, [.int (nI (sN S 0)), .int (nI (sN S 1)), .ref (a 1), .ref (a 2), .ref (a 3), .ref (a 4), .ref (a 5), .ref (a 6), .ref (a 7), .ref (a 8), .int (sI S 9 0), .ref (a 9), .ref (a 11), .ref (a 13), .ref (a 14)])), (a 1, .inl (gy G 0, 8, .inl (sI S 0))), (a 2, .inl (gy G 0, 8, .inl (sI S 1))), (a 3, .inl (gy G 0, 8, .inl (sI S 2))), (a 4, .inl (gy G 0, 8, .inl (sI S 3))), (a 5, .inl (gy G 0, 8, .inl (sI S 4))), (a 6, .inl (gy G 0, 8, .inl (sI S 5))), (a 7, .inl (gy G 0, 10, .inl (sI S 6))), (a 8, .inl (gy G 0, 10, .inl (sI S 7))), (a 9, .inr (1, [.int (nI ((sB S).length)), .ref (a 10)])), (a 10, .inl (gy G 0, 144, .inl gb)), (a 11, .inr (6, [.int (nI ((sW S).length)), .ref (a 12)])), (a 12, .inl (gy G 0, 10, .inl gw)), (a 13, .inl (gy G 0, 5, .inl (sI S 8))), (a 14, .inl (gy G 0, 6, .inl (fun j => nI (sS S j))))]) (by rw [en]) ?_
        exact RET _ _ _ (b9, v29, m29, f29) (⟨rfl, by rw [← en, ← eL]; exact hB29⟩) dX2_lineOf_162
      · skip
        refine g_aload_n E dX2_lineOf_154 rfl 4 rfl ?_
        refine g_bipush (v := 33) E dX2_lineOf_155 (by decide) ?_
        refine g_callVR (F := [(a 0, .inr (3, [.int (nI (sN S 0)), .int (nI (sN S 1)), .ref (a 1), .ref (a 2), .ref (a 3), .ref (a 4), .ref (a 5), .ref (a 6), .ref (a 7), .ref (a 8), .int (sI S 9 0), .ref (a 9), .ref (a 11), .ref (a 13), .ref (a 14)])), (a 1, .inl (gy G 0, 8, .inl (sI S 0))), (a 2, .inl (gy G 0, 8, .inl (sI S 1))), (a 3, .inl (gy G 0, 8, .inl (sI S 2))), (a 4, .inl (gy G 0, 8, .inl (sI S 3))), (a 5, .inl (gy G 0, 8, .inl (sI S 4))), (a 6, .inl (gy G 0, 8, .inl (sI S 5))), (a 7, .inl (gy G 0, 10, .inl (sI S 6))), (a 8, .inl (gy G 0, 10, .inl (sI S 7))), (a 9, .inr (1, [.int (nI ((sB S).length)), .ref (a 10)])), (a 10, .inl (gy G 0, 144, .inl gb)), (a 11, .inr (6, [.int (nI ((sW S).length)), .ref (a 12)])), (a 12, .inl (gy G 0, 10, .inl gw)), (a 13, .inl (gy G 0, 5, .inl (sI S 8))), (a 14, .inl (gy G 0, 6, .inl (fun j => nI (sS S j))))]) E (mJ4_append_cf468 G b9 v29 (0 + (gDc (bk (sB S) k 0)) + 1 + (gDc (bk (sB S) k 1)) + 1 + (gDc (bk (sB S) k 2)) + 2 + (gDc (bk (sB S) k 3)) + 2 + (gDc (bk (sB S) k 4)) + 1 + (gDc (bk (sB S) k 5))) m29 f29 (((((((((((([] : List Int32) ++ gDgs (bk (sB S) k 0)) ++ [nI 100]) ++ gDgs (bk (sB S) k 1)) ++ [nI 104]) ++ gDgs (bk (sB S) k 2)) ++ [32, 112]) ++ gDgs (bk (sB S) k 3)) ++ [32, 118]) ++ gDgs (bk (sB S) k 4)) ++ [nI 43]) ++ gDgs (bk (sB S) k 5)) 33 hB29 (by omega) (by decide)) gX2_lineOf_J4_append_cf468 rfl hdJ4_append_cf468 ⟨Nat.le_of_ble_eq_true rfl, Nat.le_of_ble_eq_true rfl⟩ 0 0 rfl rfl rfl (gPerm_ix [0, 1, 2, 3, 4, 5, 6, 7, 8, 9, 10, 11, 12, 13, 14, 15, 16] rfl rfl) rfl rfl (Nat.le_of_ble_eq_true rfl) dX2_lineOf_157 ⟨Nat.le_of_ble_eq_true rfl, Nat.le_of_ble_eq_true rfl⟩ (fun r36 u35 hA35 => ?_)
        obtain ⟨v35, m35, f35⟩ := u35
        obtain ⟨hr35, hB35⟩ := hA35
        rw [hr35]
        refine g_perm (ws1 := [(b9, .inr (0, [.ref v35, .int 0, .int 0, .int (nI (0 + (gDc (bk (sB S) k 0)) + 1 + (gDc (bk (sB S) k 1)) + 1 + (gDc (bk (sB S) k 2)) + 2 + (gDc (bk (sB S) k 3)) + 2 + (gDc (bk (sB S) k 4)) + 1 + (gDc (bk (sB S) k 5)) + 1))])), (v35, .inl (gy G 5, m35, .inl f35)), (a 0, .inr (3, [.int (nI (sN S 0)), .int (nI (sN S 1)), .ref (a 1), .ref (a 2), .ref (a 3), .ref (a 4), .ref (a 5), .ref (a 6), .ref (a 7), .ref (a 8), .int (sI S 9 0), .ref (a 9), .ref (a 11), .ref (a 13), .ref (a 14)])), (a 1, .inl (gy G 0, 8, .inl (sI S 0))), (a 2, .inl (gy G 0, 8, .inl (sI S 1))), (a 3, .inl (gy G 0, 8, .inl (sI S 2))), (a 4, .inl (gy G 0, 8, .inl (sI S 3))), (a 5, .inl (gy G 0, 8, .inl (sI S 4))), (a 6, .inl (gy G 0, 8, .inl (sI S 5))), (a 7, .inl (gy G 0, 10, .inl (sI S 6))), (a 8, .inl (gy G 0, 10, .inl (sI S 7))), (a 9, .inr (1, [.int (nI ((sB S).length)), .ref (a 10)])), (a 10, .inl (gy G 0, 144, .inl gb)), (a 11, .inr (6, [.int (nI ((sW S).length)), .ref (a 12)])), (a 12, .inl (gy G 0, 10, .inl gw)), (a 13, .inl (gy G 0, 5, .inl (sI S 8))), (a 14, .inl (gy G 0, 6, .inl (fun j => nI (sS S j))))]) (gPerm_ix [0, 1, 2, 3, 4, 5, 6, 7, 8, 9, 10, 11, 12, 13, 14, 15, 16] rfl rfl) ?_
        refine g_pop E dX2_lineOf_160 rfl ?_
        refine g_aload_n E dX2_lineOf_161 rfl 4 rfl ?_
        have eL : ((((((((((((([] : List Int32) ++ gDgs (bk (sB S) k 0)) ++ [nI 100]) ++ gDgs (bk (sB S) k 1)) ++ [nI 104]) ++ gDgs (bk (sB S) k 2)) ++ [32, 112]) ++ gDgs (bk (sB S) k 3)) ++ [32, 118]) ++ gDgs (bk (sB S) k 4)) ++ [nI 43]) ++ gDgs (bk (sB S) k 5)) ++ [nI 33]) = gLine S k := by unfold gLine; rw [if_pos (show 0 < bk (sB S) k 5 by omega), if_pos (show nI (bk (sB S) k 0) < sI S 2 (bk (sB S) k 3) ∨ nI (bk (sB S) k 0) < sI S 7 (bk (sB S) k 4) from Or.inr c34)]; simp only [List.append_assoc, List.nil_append, List.append_nil] <;> rfl
        have en : 0 + (gDc (bk (sB S) k 0)) + 1 + (gDc (bk (sB S) k 1)) + 1 + (gDc (bk (sB S) k 2)) + 2 + (gDc (bk (sB S) k 3)) + 2 + (gDc (bk (sB S) k 4)) + 1 + (gDc (bk (sB S) k 5)) + 1 = (gLine S k).length := by rw [← eL]; exact hB35.2.2.2.1.symm
        refine g_perm (ws1 := [(b9, .inr (0, [.ref v35, .int 0, .int 0, .int (nI (0 + (gDc (bk (sB S) k 0)) + 1 + (gDc (bk (sB S) k 1)) + 1 + (gDc (bk (sB S) k 2)) + 2 + (gDc (bk (sB S) k 3)) + 2 + (gDc (bk (sB S) k 4)) + 1 + (gDc (bk (sB S) k 5)) + 1))])), (v35, .inl (gy G 5, m35, .inl f35)), (a 0, .inr (3, [.int (nI (sN S 0)), .int (nI (sN S 1)), .ref (a 1), .ref (a 2), .ref (a 3), .ref (a 4), .ref (a 5), .ref (a 6), .ref (a 7), .ref (a 8), .int (sI S 9 0), .ref (a 9), .ref (a 11), .ref (a 13), .ref (a 14)])), (a 1, .inl (gy G 0, 8, .inl (sI S 0))), (a 2, .inl (gy G 0, 8, .inl (sI S 1))), (a 3, .inl (gy G 0, 8, .inl (sI S 2))), (a 4, .inl (gy G 0, 8, .inl (sI S 3))), (a 5, .inl (gy G 0, 8, .inl (sI S 4))), (a 6, .inl (gy G 0, 8, .inl (sI S 5))), (a 7, .inl (gy G 0, 10, .inl (sI S 6))), (a 8, .inl (gy G 0, 10, .inl (sI S 7))), (a 9, .inr (1, [.int (nI ((sB S).length)), .ref (a 10)])), (a 10, .inl (gy G 0, 144, .inl gb)), (a 11, .inr (6, [.int (nI ((sW S).length)), .ref (a 12)])), (a 12, .inl (gy G 0, 10, .inl gw)), (a 13, .inl (gy G 0, 5, .inl (sI S 8))), (a 14, .inl (gy G 0, 6, .inl (fun j => nI (sS S j))))]) (gPerm_ix [0, 1, 2, 3, 4, 5, 6, 7, 8, 9, 10, 11, 12, 13, 14, 15, 16] rfl rfl) ?_
        refine g_ws (ws' := [(b9, .inr (0, [.ref v35, .int 0, .int 0, .int (nI ((gLine S k).length))])), (v35, .inl (gy G 5, m35, .inl f35)), (a 0, .inr (3, [.int (nI (sN S 0)), .int (nI (sN S 1)), .ref (a 1), .ref (a 2), .ref (a 3), .ref (a 4), .ref (a 5), .ref (a 6), .ref (a 7), .ref (a 8), .int (sI S 9 0), .ref (a 9), .ref (a 11), .ref (a 13), .ref (a 14)])), (a 1, .inl (gy G 0, 8, .inl (sI S 0))), (a 2, .inl (gy G 0, 8, .inl (sI S 1))), (a 3, .inl (gy G 0, 8, .inl (sI S 2))), (a 4, .inl (gy G 0, 8, .inl (sI S 3))), (a 5, .inl (gy G 0, 8, .inl (sI S 4))), (a 6, .inl (gy G 0, 8, .inl (sI S 5))), (a 7, .inl (gy G 0, 10, .inl (sI S 6))), (a 8, .inl (gy G 0, 10, .inl (sI S 7))), (a 9, .inr (1, [.int (nI ((sB S).length)), .ref (a 10)])), (a 10, .inl (gy G 0, 144, .inl gb)), (a 11, .inr (6, [.int (nI ((sW S).length)), .ref (a 12)])), (a 12, .inl (gy G 0, 10, .inl gw)), (a 13, .inl (gy G 0, 5, .inl (sI S 8))), (a 14, .inl (gy G 0, 6, .inl (fun j => nI (sS S j))))]) (by rw [en]) ?_
        exact RET _ _ _ (b9, v35, m35, f35) (⟨rfl, by rw [← en, ← eL]; exact hB35⟩) dX2_lineOf_162
set_option maxHeartbeats 4000000 in
set_option maxRecDepth 100000 in
theorem mX7_line (G : gG) (hST : (gl G).stackTraces = false) (m0 x1 x2 x3 x4 x5 x6 c : Nat) (X : Nat × (Nat → Int32)) (H : Nat → gSt) (sl : Nat → Option gSt) (a : Nat → Nat) (S : gSt) (gb gw : Nat → Int32) (k z : Int32) (hI : gI1 S) (hT : sN S 0 < 1000000000) (hR : RB (sB S) gb) (hQ : RW (sW S) gw) (hK : gI3 S) (hT5 : sN S 0 ≤ 50000) : CX G yX7_line wsX7_line 12 309 [.ref m0, .int k, .int z] [(m0, .inr (7, [.ref x1, .ref (a 0), .ref x2, .ref x3, .ref x4, .ref x5, .ref x6])), (a 0, .inr (3, [.int (nI (sN S 0)), .int (nI (sN S 1)), .ref (a 1), .ref (a 2), .ref (a 3), .ref (a 4), .ref (a 5), .ref (a 6), .ref (a 7), .ref (a 8), .int (sI S 9 0), .ref (a 9), .ref (a 11), .ref (a 13), .ref (a 14)])), (a 1, .inl (gy G 0, 8, .inl (sI S 0))), (a 2, .inl (gy G 0, 8, .inl (sI S 1))), (a 3, .inl (gy G 0, 8, .inl (sI S 2))), (a 4, .inl (gy G 0, 8, .inl (sI S 3))), (a 5, .inl (gy G 0, 8, .inl (sI S 4))), (a 6, .inl (gy G 0, 8, .inl (sI S 5))), (a 7, .inl (gy G 0, 10, .inl (sI S 6))), (a 8, .inl (gy G 0, 10, .inl (sI S 7))), (a 9, .inr (1, [.int (nI ((sB S).length)), .ref (a 10)])), (a 10, .inl (gy G 0, 144, .inl gb)), (a 11, .inr (6, [.int (nI ((sW S).length)), .ref (a 12)])), (a 12, .inl (gy G 0, 10, .inl gw)), (a 13, .inl (gy G 0, 5, .inl (sI S 8))), (a 14, .inl (gy G 0, 6, .inl (fun j => nI (sS S j))))] (fun (r : Int32) (_ : Unit) => (fLine (X, S, (c, H), sl) k z).1 = 0 ∧ r = (fLine (X, S, (c, H), sl) k z).2.1) (fun (cls : String) (_ : Unit) => ∃ z0, (fLine (X, S, (c, H), sl) k z).1 = z0 + 1 ∧ (["java/lang/IndexOutOfBoundsException", "java/lang/IllegalArgumentException"] : List String)[z0]? = some cls) (fun _ : Unit => [(m0, .inr (7, [.ref x1, .ref (a 0), .ref x2, .ref x3, .ref x4, .ref x5, .ref x6])), (a 0, .inr (3, [.int (nI (sN S 0)), .int (nI (sN S 1)), .ref (a 1), .ref (a 2), .ref (a 3), .ref (a 4), .ref (a 5), .ref (a 6), .ref (a 7), .ref (a 8), .int (sI S 9 0), .ref (a 9), .ref (a 11), .ref (a 13), .ref (a 14)])), (a 1, .inl (gy G 0, 8, .inl (sI S 0))), (a 2, .inl (gy G 0, 8, .inl (sI S 1))), (a 3, .inl (gy G 0, 8, .inl (sI S 2))), (a 4, .inl (gy G 0, 8, .inl (sI S 3))), (a 5, .inl (gy G 0, 8, .inl (sI S 4))), (a 6, .inl (gy G 0, 8, .inl (sI S 5))), (a 7, .inl (gy G 0, 10, .inl (sI S 6))), (a 8, .inl (gy G 0, 10, .inl (sI S 7))), (a 9, .inr (1, [.int (nI ((sB S).length)), .ref (a 10)])), (a 10, .inl (gy G 0, 144, .inl gb)), (a 11, .inr (6, [.int (nI ((sW S).length)), .ref (a 12)])), (a 12, .inl (gy G 0, 10, .inl gw)), (a 13, .inl (gy G 0, 5, .inl (sI S 8))), (a 14, .inl (gy G 0, 6, .inl (fun j => nI (sS S j))))]) 14 428 := by
  refine g_enterCX (ty := .int) hST RX7 rfl (by decide) rfl (Nat.le_of_ble_eq_true rfl) ?_
  intro V E RET THR THW OUT
  have hX := hI
  obtain ⟨hP8, hn, hw, hW8, hs3, hs4, hs5, hs6, hs7, hs8, hb34⟩ := hX
  have h8 : ∀ j, j < (sW S).length → wq (sW S) j < 80 := fun j hj => (hW8 j hj).1
  refine g_aload_n E dX7_line_0 rfl 0 rfl ?_
  refine g_get E uX7_line_RX7 0 rfl rfl 1 (by decide) kX7_line_19 rfl rfl dX7_line_1 ?_
  refine g_get E uX7_line_RX2 1 rfl rfl 11 (by decide) kX7_line_134 rfl rfl dX7_line_4 ?_
  refine g_iload_n E dX7_line_7 rfl 1 rfl ?_
  refine g_callVIe (F := [(m0, .inr (7, [.ref x1, .ref (a 0), .ref x2, .ref x3, .ref x4, .ref x5, .ref x6])), (a 0, .inr (3, [.int (nI (sN S 0)), .int (nI (sN S 1)), .ref (a 1), .ref (a 2), .ref (a 3), .ref (a 4), .ref (a 5), .ref (a 6), .ref (a 7), .ref (a 8), .int (sI S 9 0), .ref (a 9), .ref (a 11), .ref (a 13), .ref (a 14)])), (a 1, .inl (gy G 0, 8, .inl (sI S 0))), (a 2, .inl (gy G 0, 8, .inl (sI S 1))), (a 3, .inl (gy G 0, 8, .inl (sI S 2))), (a 4, .inl (gy G 0, 8, .inl (sI S 3))), (a 5, .inl (gy G 0, 8, .inl (sI S 4))), (a 6, .inl (gy G 0, 8, .inl (sI S 5))), (a 7, .inl (gy G 0, 10, .inl (sI S 6))), (a 8, .inl (gy G 0, 10, .inl (sI S 7))), (a 11, .inr (6, [.int (nI ((sW S).length)), .ref (a 12)])), (a 12, .inl (gy G 0, 10, .inl gw)), (a 13, .inl (gy G 0, 5, .inl (sI S 8))), (a 14, .inl (gy G 0, 6, .inl (fun j => nI (sS S j))))]) (ws2 := [(m0, .inr (7, [.ref x1, .ref (a 0), .ref x2, .ref x3, .ref x4, .ref x5, .ref x6])), (a 0, .inr (3, [.int (nI (sN S 0)), .int (nI (sN S 1)), .ref (a 1), .ref (a 2), .ref (a 3), .ref (a 4), .ref (a 5), .ref (a 6), .ref (a 7), .ref (a 8), .int (sI S 9 0), .ref (a 9), .ref (a 11), .ref (a 13), .ref (a 14)])), (a 1, .inl (gy G 0, 8, .inl (sI S 0))), (a 2, .inl (gy G 0, 8, .inl (sI S 1))), (a 3, .inl (gy G 0, 8, .inl (sI S 2))), (a 4, .inl (gy G 0, 8, .inl (sI S 3))), (a 5, .inl (gy G 0, 8, .inl (sI S 4))), (a 6, .inl (gy G 0, 8, .inl (sI S 5))), (a 7, .inl (gy G 0, 10, .inl (sI S 6))), (a 8, .inl (gy G 0, 10, .inl (sI S 7))), (a 9, .inr (1, [.int (nI ((sB S).length)), .ref (a 10)])), (a 10, .inl (gy G 0, 144, .inl gb)), (a 11, .inr (6, [.int (nI ((sW S).length)), .ref (a 12)])), (a 12, .inl (gy G 0, 10, .inl gw)), (a 13, .inl (gy G 0, 5, .inl (sI S 8))), (a 14, .inl (gy G 0, 6, .inl (fun j => nI (sS S j))))]) E (mX0_has G (a 9) (a 10) (sB S) gb k hn) gX7_line_X0_has rfl hdX0_has ⟨Nat.le_of_ble_eq_true rfl, Nat.le_of_ble_eq_true rfl⟩ 1 0 rfl rfl rfl (gPerm_ix [10, 11, 0, 1, 2, 3, 4, 5, 6, 7, 8, 9, 12, 13, 14, 15] rfl rfl) rfl rfl (Nat.le_of_ble_eq_true rfl) dX7_line_8 ⟨Nat.le_of_ble_eq_true rfl, Nat.le_of_ble_eq_true rfl⟩ (gPerm_ix [2, 3, 4, 5, 6, 7, 8, 9, 10, 11, 0, 1, 12, 13, 14, 15] rfl rfl) ?_
  refine g_if_neB (tgt := 24) (P := (¬ k < 0 ∧ ¬ nI (sB S).length ≤ k)) E dX7_line_11 (by decide) (fun c1 => ?_) (fun c1 => ?_)
  · skip
    obtain ⟨j, hj, rfl⟩ := gNat_of c1 (by omega)
    refine g_iload_n E dX7_line_24 rfl 2 rfl ?_
    refine g_if_ge (tgt := 38) E dX7_line_25 (by decide) (fun c2 => ?_) (fun c2 => ?_)
    · skip
      obtain ⟨i, hi, rfl⟩ := nI_of (Int32.not_lt.mpr c2)
      refine g_aload_n E dX7_line_38 rfl 0 rfl ?_
      refine g_get E uX7_line_RX7 0 rfl rfl 1 (by decide) kX7_line_19 rfl rfl dX7_line_39 ?_
      refine g_iload_n E dX7_line_42 rfl 1 rfl ?_
      refine g_callVR (F := [(m0, .inr (7, [.ref x1, .ref (a 0), .ref x2, .ref x3, .ref x4, .ref x5, .ref x6]))]) E (mX2_lineOf G a S gb gw j hI hT hR hQ hK hT5 (by omega)) gX7_line_X2_lineOf rfl hdX2_lineOf ⟨Nat.le_of_ble_eq_true rfl, Nat.le_of_ble_eq_true rfl⟩ 3 0 rfl rfl rfl (gPerm_ix [1, 2, 3, 4, 5, 6, 7, 8, 9, 10, 11, 12, 13, 14, 15, 0] rfl rfl) rfl rfl (Nat.le_of_ble_eq_true rfl) dX7_line_43 ⟨Nat.le_of_ble_eq_true rfl, Nat.le_of_ble_eq_true rfl⟩ (fun r3 u9 h9 => ?_)
      obtain ⟨b9, v9, m9, f9⟩ := u9
      obtain ⟨hr9, hB⟩ := h9
      rw [hr9]
      refine g_ws (ws' := [(b9, .inr (0, [.ref v9, .int 0, .int 0, .int (nI ((gLine S j).length))])), (v9, .inl (gy G 5, m9, .inl f9)), (a 0, .inr (3, [.int (nI (sN S 0)), .int (nI (sN S 1)), .ref (a 1), .ref (a 2), .ref (a 3), .ref (a 4), .ref (a 5), .ref (a 6), .ref (a 7), .ref (a 8), .int (sI S 9 0), .ref (a 9), .ref (a 11), .ref (a 13), .ref (a 14)])), (a 1, .inl (gy G 0, 8, .inl (sI S 0))), (a 2, .inl (gy G 0, 8, .inl (sI S 1))), (a 3, .inl (gy G 0, 8, .inl (sI S 2))), (a 4, .inl (gy G 0, 8, .inl (sI S 3))), (a 5, .inl (gy G 0, 8, .inl (sI S 4))), (a 6, .inl (gy G 0, 8, .inl (sI S 5))), (a 7, .inl (gy G 0, 10, .inl (sI S 6))), (a 8, .inl (gy G 0, 10, .inl (sI S 7))), (a 9, .inr (1, [.int (nI ((sB S).length)), .ref (a 10)])), (a 10, .inl (gy G 0, 144, .inl gb)), (a 11, .inr (6, [.int (nI ((sW S).length)), .ref (a 12)])), (a 12, .inl (gy G 0, 10, .inl gw)), (a 13, .inl (gy G 0, 5, .inl (sI S 8))), (a 14, .inl (gy G 0, 6, .inl (fun j => nI (sS S j)))), (m0, .inr (7, [.ref x1, .ref (a 0), .ref x2, .ref x3, .ref x4, .ref x5, .ref x6]))]) rfl ?_
      refine g_astore_n (lv' := [(3, .ref b9), (0, .ref m0), (1, .int (nI j)), (2, .int (nI i))]) E dX7_line_46 rfl (by decide) rfl ?_
      have hl60 := gLine_len S j
      refine g_iload_n E dX7_line_47 rfl 3 rfl ?_
      refine g_aload_n E dX7_line_48 rfl 0 rfl ?_
      refine g_callVIe (F := [(a 0, .inr (3, [.int (nI (sN S 0)), .int (nI (sN S 1)), .ref (a 1), .ref (a 2), .ref (a 3), .ref (a 4), .ref (a 5), .ref (a 6), .ref (a 7), .ref (a 8), .int (sI S 9 0), .ref (a 9), .ref (a 11), .ref (a 13), .ref (a 14)])), (a 1, .inl (gy G 0, 8, .inl (sI S 0))), (a 2, .inl (gy G 0, 8, .inl (sI S 1))), (a 3, .inl (gy G 0, 8, .inl (sI S 2))), (a 4, .inl (gy G 0, 8, .inl (sI S 3))), (a 5, .inl (gy G 0, 8, .inl (sI S 4))), (a 6, .inl (gy G 0, 8, .inl (sI S 5))), (a 7, .inl (gy G 0, 10, .inl (sI S 6))), (a 8, .inl (gy G 0, 10, .inl (sI S 7))), (a 9, .inr (1, [.int (nI ((sB S).length)), .ref (a 10)])), (a 10, .inl (gy G 0, 144, .inl gb)), (a 11, .inr (6, [.int (nI ((sW S).length)), .ref (a 12)])), (a 12, .inl (gy G 0, 10, .inl gw)), (a 13, .inl (gy G 0, 5, .inl (sI S 8))), (a 14, .inl (gy G 0, 6, .inl (fun j => nI (sS S j)))), (m0, .inr (7, [.ref x1, .ref (a 0), .ref x2, .ref x3, .ref x4, .ref x5, .ref x6]))]) (ws2 := [(b9, .inr (0, [.ref v9, .int 0, .int 0, .int (nI ((gLine S j).length))])), (v9, .inl (gy G 5, m9, .inl f9)), (a 0, .inr (3, [.int (nI (sN S 0)), .int (nI (sN S 1)), .ref (a 1), .ref (a 2), .ref (a 3), .ref (a 4), .ref (a 5), .ref (a 6), .ref (a 7), .ref (a 8), .int (sI S 9 0), .ref (a 9), .ref (a 11), .ref (a 13), .ref (a 14)])), (a 1, .inl (gy G 0, 8, .inl (sI S 0))), (a 2, .inl (gy G 0, 8, .inl (sI S 1))), (a 3, .inl (gy G 0, 8, .inl (sI S 2))), (a 4, .inl (gy G 0, 8, .inl (sI S 3))), (a 5, .inl (gy G 0, 8, .inl (sI S 4))), (a 6, .inl (gy G 0, 8, .inl (sI S 5))), (a 7, .inl (gy G 0, 10, .inl (sI S 6))), (a 8, .inl (gy G 0, 10, .inl (sI S 7))), (a 9, .inr (1, [.int (nI ((sB S).length)), .ref (a 10)])), (a 10, .inl (gy G 0, 144, .inl gb)), (a 11, .inr (6, [.int (nI ((sW S).length)), .ref (a 12)])), (a 12, .inl (gy G 0, 10, .inl gw)), (a 13, .inl (gy G 0, 5, .inl (sI S 8))), (a 14, .inl (gy G 0, 6, .inl (fun j => nI (sS S j)))), (m0, .inr (7, [.ref x1, .ref (a 0), .ref x2, .ref x3, .ref x4, .ref x5, .ref x6]))]) E (mJ4_length_8abf5 G b9 v9 ((gLine S j).length) m9 f9) gX7_line_J4_length_8abf5 rfl hdJ4_length_8abf5 ⟨Nat.le_of_ble_eq_true rfl, Nat.le_of_ble_eq_true rfl⟩ 0 0 rfl rfl rfl (gPerm_ix [0, 1, 2, 3, 4, 5, 6, 7, 8, 9, 10, 11, 12, 13, 14, 15, 16, 17] rfl rfl) rfl rfl (Nat.le_of_ble_eq_true rfl) dX7_line_49 ⟨Nat.le_of_ble_eq_true rfl, Nat.le_of_ble_eq_true rfl⟩ (gPerm_ix [0, 1, 2, 3, 4, 5, 6, 7, 8, 9, 10, 11, 12, 13, 14, 15, 16, 17] rfl rfl) ?_
      refine g_icmp_geN (tgt := 63) (a := i) (b := (gLine S j).length) E dX7_line_52 (by decide) (by omega) (by omega) (fun c4 => ?_) (fun c4 => ?_)
      · skip
        refine g_iconst (v := (-1)) E dX7_line_63 (by decide) ?_
        refine g_perm (ws1 := [(m0, .inr (7, [.ref x1, .ref (a 0), .ref x2, .ref x3, .ref x4, .ref x5, .ref x6])), (a 0, .inr (3, [.int (nI (sN S 0)), .int (nI (sN S 1)), .ref (a 1), .ref (a 2), .ref (a 3), .ref (a 4), .ref (a 5), .ref (a 6), .ref (a 7), .ref (a 8), .int (sI S 9 0), .ref (a 9), .ref (a 11), .ref (a 13), .ref (a 14)])), (a 1, .inl (gy G 0, 8, .inl (sI S 0))), (a 2, .inl (gy G 0, 8, .inl (sI S 1))), (a 3, .inl (gy G 0, 8, .inl (sI S 2))), (a 4, .inl (gy G 0, 8, .inl (sI S 3))), (a 5, .inl (gy G 0, 8, .inl (sI S 4))), (a 6, .inl (gy G 0, 8, .inl (sI S 5))), (a 7, .inl (gy G 0, 10, .inl (sI S 6))), (a 8, .inl (gy G 0, 10, .inl (sI S 7))), (a 9, .inr (1, [.int (nI ((sB S).length)), .ref (a 10)])), (a 10, .inl (gy G 0, 144, .inl gb)), (a 11, .inr (6, [.int (nI ((sW S).length)), .ref (a 12)])), (a 12, .inl (gy G 0, 10, .inl gw)), (a 13, .inl (gy G 0, 5, .inl (sI S 8))), (a 14, .inl (gy G 0, 6, .inl (fun j => nI (sS S j))))]) (gPerm_ix [17, 2, 3, 4, 5, 6, 7, 8, 9, 10, 11, 12, 13, 14, 15, 16] rfl rfl) ?_
        exact RET _ _ _ () (⟨by rw [fLine, if_pos c1, if_neg (Int32.not_lt.mpr c2)], by rw [fLine, if_pos c1, if_neg (Int32.not_lt.mpr c2)]; show _ = (gLine S (nI j).toNatClampNeg).getD (nI i).toNatClampNeg (-1); rw [nI_clamp (n := j) (by omega), nI_clamp (n := i) (by omega), List.getD_eq_getElem?_getD, List.getElem?_eq_none (by omega)]; rfl⟩) rfl dX7_line_64
      · skip
        refine g_aload_n E dX7_line_55 rfl 0 rfl ?_
        refine g_iload_n E dX7_line_56 rfl 3 rfl ?_
        refine g_callVIe (F := [(a 0, .inr (3, [.int (nI (sN S 0)), .int (nI (sN S 1)), .ref (a 1), .ref (a 2), .ref (a 3), .ref (a 4), .ref (a 5), .ref (a 6), .ref (a 7), .ref (a 8), .int (sI S 9 0), .ref (a 9), .ref (a 11), .ref (a 13), .ref (a 14)])), (a 1, .inl (gy G 0, 8, .inl (sI S 0))), (a 2, .inl (gy G 0, 8, .inl (sI S 1))), (a 3, .inl (gy G 0, 8, .inl (sI S 2))), (a 4, .inl (gy G 0, 8, .inl (sI S 3))), (a 5, .inl (gy G 0, 8, .inl (sI S 4))), (a 6, .inl (gy G 0, 8, .inl (sI S 5))), (a 7, .inl (gy G 0, 10, .inl (sI S 6))), (a 8, .inl (gy G 0, 10, .inl (sI S 7))), (a 9, .inr (1, [.int (nI ((sB S).length)), .ref (a 10)])), (a 10, .inl (gy G 0, 144, .inl gb)), (a 11, .inr (6, [.int (nI ((sW S).length)), .ref (a 12)])), (a 12, .inl (gy G 0, 10, .inl gw)), (a 13, .inl (gy G 0, 5, .inl (sI S 8))), (a 14, .inl (gy G 0, 6, .inl (fun j => nI (sS S j)))), (m0, .inr (7, [.ref x1, .ref (a 0), .ref x2, .ref x3, .ref x4, .ref x5, .ref x6]))]) (ws2 := [(b9, .inr (0, [.ref v9, .int 0, .int 0, .int (nI ((gLine S j).length))])), (v9, .inl (gy G 5, m9, .inl f9)), (a 0, .inr (3, [.int (nI (sN S 0)), .int (nI (sN S 1)), .ref (a 1), .ref (a 2), .ref (a 3), .ref (a 4), .ref (a 5), .ref (a 6), .ref (a 7), .ref (a 8), .int (sI S 9 0), .ref (a 9), .ref (a 11), .ref (a 13), .ref (a 14)])), (a 1, .inl (gy G 0, 8, .inl (sI S 0))), (a 2, .inl (gy G 0, 8, .inl (sI S 1))), (a 3, .inl (gy G 0, 8, .inl (sI S 2))), (a 4, .inl (gy G 0, 8, .inl (sI S 3))), (a 5, .inl (gy G 0, 8, .inl (sI S 4))), (a 6, .inl (gy G 0, 8, .inl (sI S 5))), (a 7, .inl (gy G 0, 10, .inl (sI S 6))), (a 8, .inl (gy G 0, 10, .inl (sI S 7))), (a 9, .inr (1, [.int (nI ((sB S).length)), .ref (a 10)])), (a 10, .inl (gy G 0, 144, .inl gb)), (a 11, .inr (6, [.int (nI ((sW S).length)), .ref (a 12)])), (a 12, .inl (gy G 0, 10, .inl gw)), (a 13, .inl (gy G 0, 5, .inl (sI S 8))), (a 14, .inl (gy G 0, 6, .inl (fun j => nI (sS S j)))), (m0, .inr (7, [.ref x1, .ref (a 0), .ref x2, .ref x3, .ref x4, .ref x5, .ref x6]))]) E (mJ4_charAt_5068e G b9 v9 ((gLine S j).length) m9 f9 (gLine S j) i hB (by omega) (gLine_asc S j i (by omega))) gX7_line_J4_charAt_5068e rfl hdJ4_charAt_5068e ⟨Nat.le_of_ble_eq_true rfl, Nat.le_of_ble_eq_true rfl⟩ 0 0 rfl rfl rfl (gPerm_ix [0, 1, 2, 3, 4, 5, 6, 7, 8, 9, 10, 11, 12, 13, 14, 15, 16, 17] rfl rfl) rfl rfl (Nat.le_of_ble_eq_true rfl) dX7_line_57 ⟨Nat.le_of_ble_eq_true rfl, Nat.le_of_ble_eq_true rfl⟩ (gPerm_ix [0, 1, 2, 3, 4, 5, 6, 7, 8, 9, 10, 11, 12, 13, 14, 15, 16, 17] rfl rfl) ?_
        refine g_goto (tgt := 64) E dX7_line_60 (by decide) ?_
        refine g_perm (ws1 := [(m0, .inr (7, [.ref x1, .ref (a 0), .ref x2, .ref x3, .ref x4, .ref x5, .ref x6])), (a 0, .inr (3, [.int (nI (sN S 0)), .int (nI (sN S 1)), .ref (a 1), .ref (a 2), .ref (a 3), .ref (a 4), .ref (a 5), .ref (a 6), .ref (a 7), .ref (a 8), .int (sI S 9 0), .ref (a 9), .ref (a 11), .ref (a 13), .ref (a 14)])), (a 1, .inl (gy G 0, 8, .inl (sI S 0))), (a 2, .inl (gy G 0, 8, .inl (sI S 1))), (a 3, .inl (gy G 0, 8, .inl (sI S 2))), (a 4, .inl (gy G 0, 8, .inl (sI S 3))), (a 5, .inl (gy G 0, 8, .inl (sI S 4))), (a 6, .inl (gy G 0, 8, .inl (sI S 5))), (a 7, .inl (gy G 0, 10, .inl (sI S 6))), (a 8, .inl (gy G 0, 10, .inl (sI S 7))), (a 9, .inr (1, [.int (nI ((sB S).length)), .ref (a 10)])), (a 10, .inl (gy G 0, 144, .inl gb)), (a 11, .inr (6, [.int (nI ((sW S).length)), .ref (a 12)])), (a 12, .inl (gy G 0, 10, .inl gw)), (a 13, .inl (gy G 0, 5, .inl (sI S 8))), (a 14, .inl (gy G 0, 6, .inl (fun j => nI (sS S j))))]) (gPerm_ix [17, 2, 3, 4, 5, 6, 7, 8, 9, 10, 11, 12, 13, 14, 15, 16] rfl rfl) ?_
        exact RET _ _ _ () (⟨by rw [fLine, if_pos c1, if_neg (Int32.not_lt.mpr c2)], by rw [fLine, if_pos c1, if_neg (Int32.not_lt.mpr c2)]; show _ = (gLine S (nI j).toNatClampNeg).getD (nI i).toNatClampNeg (-1); rw [nI_clamp (n := j) (by omega), nI_clamp (n := i) (by omega)]; exact gGetD (by omega)⟩) rfl dX7_line_64
    · skip
      exact THR _ 28 0 0 () "java/lang/IllegalArgumentException" "the index is negative" _ 50 150 54 21 (⟨1, by rw [fLine, if_pos c1, if_pos (Int32.not_le.mp c2)], rfl⟩) tX7_line_50_54 rfl (by decide) (by decide) (by decide) (by decide) dX7_line_28 dX7_line_31 dX7_line_32 dX7_line_34 dX7_line_37
  · skip
    exact THR _ 14 0 0 () "java/lang/IndexOutOfBoundsException" "no such booking" _ 113 143 117 19 (⟨0, by rw [fLine, if_neg c1], rfl⟩) tX7_line_113_117 rfl (by decide) (by decide) (by decide) (by decide) dX7_line_14 dX7_line_17 dX7_line_18 dX7_line_20 dX7_line_23
