/-! ===== new cells ===== -/
section
variable {V : gV} {G : gG} {cc : ByteArray} {nL : Nat} {own : String} {Ts : List Cond} {rm : Room} {cells slots : Nat} {ws : va_W} {lv : List (Nat × Value)} {pc : Nat} {rest : List Value}
theorem g_newa (E : gE V G cc nL own Ts rm) {atype : ArrayType} {ty : FieldType} (t0 : Nat) {a0 : vp_A} {N : Nat} (hty : newarray.typeOf atype = ty) (ht : (gT (gy G))[t0]? = some (gy G t0, ty)) (harr : Cond.arrayClass ty ∈ Ts) {n : Int32} (ha : ∀ cA : ClassId, vp_cell cA a0 = arrV cA N (fun _ => defaultValue ty)) (hn : ¬ n < 0) (hN : n.toNatClampNeg = N) (hb : N * componentBytes ty ≤ 536870912) (hc : cells + 1 ≤ rm.cells) (hs : slots + N ≤ rm.slots) (d : decode cc pc = .ok (.newarray atype, 2))
    (k : ∀ q : Nat, gW V nL (cells + 1) (slots + N) (ws ++ [(q, .inl (gy G t0, a0))]) lv (pc + 2) (.ref q :: rest)) : gW V nL cells slots ws lv pc (.int n :: rest) := fun H locs ls hP hD hS hl => by
  subst hty
  have hR := E.r
  refine va_newaK E.x E.b (E.ts _ harr) rfl d rfl hn hN hb (by rw [hR]; exact hc) (by rw [hR]; exact hs) rfl fun H1 cA e1 z1 o1 hAr hNm => ?_
  have hcA : cA = gy G t0 := by
    have h2 := (E.k.2 t0 _ ht).2
    have h3 : (gvS V).vm.findClass ("[" ++ (newarray.typeOf atype).toString) = some (gy G t0) := by cases atype <;> exact h2
    exact Option.some.inj (hNm.symm.trans h3)
  subst hcA
  have hk : ∀ (k : Nat) (x : Nat × va_E), ws[k]? = some x → H1[x.1]? = H[x.1]? := fun k x hx => o1 x.1 ((hP k x hx).lt)
  refine k H.size H1 locs ls ((hP.kept hk).app (fun k x hx => ?_)) (hD.push hP rfl (E.o _ hS.1)) ⟨Nat.le_trans hS.1 (by omega), fun x h1 h2 => (o1 x (Nat.lt_of_lt_of_le h1 hS.1)).trans (hS.2.1 x h1 h2), hS.2.2⟩ hl
  have hz : k < 1 := (List.getElem?_eq_some_iff.mp hx).1
  rw [show k = 0 by omega] at hx
  cases hx
  show H1[H.size]? = some (vp_cell _ _)
  rw [ha]
  exact e1
theorem g_new (E : gE V G cc nL own Ts rm) {C : String} {T : u_T} {N index : Nat} (ci : Nat) {fs : List Value} (hin : ∀ w ∈ u_ws C T N, w ∈ Ts) (ty : Nat → FieldType) (hty : ∀ k, k < N → parseFieldDescriptor (T k).2.2.1 = some (ty k)) (hcl : Cond.classLink own index C ∈ Ts) (hinst : Cond.instantiable C N ∈ Ts) (hini : Cond.initialized C ∈ Ts) (hc : vwCl[ci]? = some (C, T, N)) (hfs : ∀ j, j < N → defaultValue (ty j) = vp_V fs j) (hcells : cells + 1 ≤ rm.cells) (hslots : slots + N ≤ rm.slots) (d : decode cc pc = .ok (.new index, 3))
    (k : ∀ q : Nat, gW V nL (cells + 1) (slots + N) (ws ++ [(q, .inr (ci, fs))]) lv (pc + 3) (.ref q :: rest)) : gW V nL cells slots ws lv pc rest := fun H locs ls hP hD hS hl => by
  have hR := E.r
  exact va_new E.x E.b E.ts hin ty hty E.ow (E.ts _ hcl) (E.ts _ hinst) (E.ts _ hini) E.k hP hD hS E.o hc hfs (by rw [hR]; exact hcells) (by rw [hR]; exact hslots) d (fun q H1 hP1 hD1 hS1 => k q H1 locs ls hP1 hD1 hS1 hl)
theorem g_newq (E : gE V G cc nL own Ts rm) {index : Nat} {n : Int32} {N : Nat} (hcl : Cond.classLink own index RX2 ∈ Ts) (hn : ¬ n < 0) (hN : n.toNatClampNeg = N) (hb : N * 4 ≤ 536870912) (hc : cells + 1 ≤ rm.cells) (hs : slots + N ≤ rm.slots) (d : decode cc pc = .ok (.anewarray index, 3))
    (k : ∀ q : Nat, gW V nL (cells + 1) (slots + N) (ws ++ [(q, .inl (gy G 4, N, .inr (.inr (.inr (.inr (fun _ => none))))))]) lv (pc + 3) (.ref q :: rest)) : gW V nL cells slots ws lv pc (.int n :: rest) := fun H locs ls hP hD hS hl => by
  have hR := E.r
  refine va_newq E.x E.b E.ow (E.ts _ hcl) E.z.1.2.2.1 E.k hP hD hS E.o hn hN hb (by rw [hR]; exact hc) (by rw [hR]; exact hs) d (fun q cA H1 hK1 hP1 hD1 hS1 => ?_)
  have hcA : cA = gy G 4 := by
    obtain ⟨_, _, _, _, _, h2⟩ := (E.k.2 4 _ rfl).2
    obtain ⟨_, _, _, _, _, h3⟩ := (hK1.2 6 _ rfl).2
    exact Option.some.inj (h3.symm.trans h2)
  subst hcA
  exact k q H1 locs ls hP1 hD1 hS1 hl
end
section
variable {V : gV} {G : gG} {cc : ByteArray} {nL : Nat} {own : String} {Ts : List Cond} {rm : Room} {cells slots : Nat} {ws : va_W} {lv : List (Nat × Value)} {pc : Nat} {rest : List Value}
/-- the first settings are copied into a new row -/
theorem g_clone (E : gE V G cc nL own Ts rm) {index : Nat} (hlink : Cond.methodLink own index ⟨"[I", "clone", "()Ljava/lang/Object;"⟩ ∈ Ts) (hsame : Cond.sameMethod "[I" "java/lang/Object" "clone" "()Ljava/lang/Object;" ∈ Ts) (hnat : Cond.native ⟨"java/lang/Object", "clone", "()Ljava/lang/Object;"⟩ ∈ Ts) (hinst : Cond.instanceMethod ⟨"java/lang/Object", "clone", "()Ljava/lang/Object;"⟩ ∈ Ts) (hsel : Cond.selects "[I" ⟨"[I", "clone", "()Ljava/lang/Object;"⟩ ⟨"java/lang/Object", "clone", "()Ljava/lang/Object;"⟩ ∈ Ts)
    (hfr : 1 ≤ rm.frames) (hlo : 22 ≤ rm.locals) (hr : (rest.map fun v => v.category).sum ≤ 8) (hc : cells + 1 ≤ rm.cells) (hs : slots + 6 ≤ rm.slots) (d : decode cc pc = .ok (.invokevirtual index, 3))
    (k : ∀ q : Nat, gW V nL (cells + 1) (slots + 6) (ws ++ [(q, .inl (gy G 0, 6, .inl (fun j => ([2, 3, 14, 7, 10, 15] : List Int32).getD j 0)))]) lv (pc + 3) (.ref q :: rest)) : gW V nL cells slots ws lv pc (.ref (gz G 0) :: rest) := fun H locs ls hP hD hS hl => by
  have hR := E.r
  obtain ⟨cell, g1, g2, g3, g4, g5, g6⟩ := E.z.2.1.2.2.2.2
  have hcl : cell.cls = gy G 0 := Option.some.inj (g4.symm.trans (E.k.2 0 _ rfl).2)
  have g1H : H[gz G 0]? = some cell := by
    have q1 : (gvH V)[gz G 0]? = some cell := by rw [E.h]; exact g1
    rw [hS.2.1 (gz G 0) (Array.getElem?_eq_some_iff.mp q1).1 g6]
    exact q1
  obtain ⟨c0, t0', f1, f2, f3⟩ := Cond.castable_spec (va_Nw.use (A := gvA V) rfl E.z.1.2.1)
  have hc0 : c0 = cell.cls := Option.some.inj (f1.symm.trans g4)
  rw [hc0] at f3
  have hsz : cell.slots.size = 6 := by rw [g5]; exact arrV_size _ _ _
  have hcellE : ({ cls := cell.cls, slots := cell.slots } : Cell) = vp_cell (gy G 0) (6, .inl (fun j => ([2, 3, 14, 7, 10, 15] : List Int32).getD j 0)) := by
    rw [g5, hcl]
    rfl
  intro T hT X
  obtain ⟨-, kA, hkA, comp, hkind⟩ := State.isArrayOf_alike X.warmed.alike ((E.k.2 0 _ rfl).1 0 (fun _ => .null))
  obtain ⟨-, kS, hkS, compS, hkindS⟩ := (E.k.2 0 _ rfl).1 0 (fun _ => .null)
  obtain ⟨vm', X', st⟩ := X.cloneArray E.x E.ow (E.ts _ hlink) (E.ts _ hsame) (E.ts _ hnat) (E.ts _ hinst) (E.ts _ hsel) (a := gz G 0) (cell := cell) (by rw [hT]; exact g1H) g2 g3 g4 f2 f3
    (fun i v hv => by
      rw [hcl]
      have hk' : T.vm.classes[gy G 0]? = some kA := hkA
      rw [g5] at hv
      have hf : fits .int v = true := va_fit (ty := .int) (fun _ _ => rfl) i v hv
      simpa [State.fitsSlot, State.slotType?, hk', hkind] using hf)
    (g := F0 (gvM V) pc ls (.ref (gz G 0) :: rest)) rfl (by rw [E.ml]; exact hl.1) rfl (by rw [E.b]; exact d) (by rw [hR]; exact hfr) (by rw [hR]; show 2 * 0 + _ + 14 ≤ _; omega) (by rw [hR]; exact hc) (by rw [hR, hsz]; exact hs) (hloader := by rw [hcl]; exact Vm.clonesLoader_of_array hkS hkindS)
  rw [hcellE, hsz] at X'
  generalize hH1 : H.push (vp_cell (gy G 0) (6, .inl (fun j => ([2, 3, 14, 7, 10, 15] : List Int32).getD j 0))) = H1
  have z1 : H1.size = H.size + 1 := by rw [← hH1, Array.size_push]
  have e1 : H1[H.size]? = some (vp_cell (gy G 0) (6, .inl (fun j => ([2, 3, 14, 7, 10, 15] : List Int32).getD j 0))) := by rw [← hH1, Array.getElem?_push_size]
  have o1 : ∀ q : Nat, q < H.size → H1[q]? = H[q]? := fun q hq => by rw [← hH1, Array.getElem?_push, if_neg (Nat.ne_of_lt hq)]
  have hk : ∀ (k : Nat) (y : Nat × va_E), ws[k]? = some y → H1[y.1]? = H[y.1]? := fun k y hy => o1 y.1 ((hP k y hy).lt)
  obtain ⟨t, b1, b2⟩ := k H.size H1 locs ls ((hP.kept hk).app (fun k y hy => by
      have hz : k < 1 := (List.getElem?_eq_some_iff.mp hy).1
      rw [show k = 0 by omega] at hy
      cases hy
      exact e1)) (hD.push hP rfl (E.o _ hS.1)) ⟨Nat.le_trans hS.1 (by omega), fun y h1 h2 => (o1 y (Nat.lt_of_lt_of_le h1 hS.1)).trans (hS.2.1 y h1 h2), hS.2.2⟩ hl
    ((T.setVm vm').pushCell (vp_cell (gy G 0) (6, .inl (fun j => ([2, 3, 14, 7, 10, 15] : List Int32).getD j 0)))) (by rw [← hH1, ← hT]; rfl) X'
  refine ⟨t, st t ?_, b2⟩
  rw [hcellE, hT]
  exact b1
theorem g_castI (E : gE V G cc nL own Ts rm) (q0 : Nat) {a : Nat} {x : vp_A} {index : Nat} (ha : ws[q0]? = some (a, .inl (gy G 0, x))) (hlink : Cond.classLink own index "[I" ∈ Ts) (d : decode cc pc = .ok (.checkcast index, 3)) (k : gW V nL cells slots ws lv (pc + 3) (.ref a :: rest)) : gW V nL cells slots ws lv pc (.ref a :: rest) := fun H locs ls hP hD hS hl =>
  va_castA E.x E.b E.ow (E.ts _ hlink) hP q0 ha (E.k.2 0 _ rfl).2 d (k H locs ls hP hD hS hl)
end
section
variable {V : gV} {nL cells slots : Nat} {ws : va_W} {lv : List (Nat × Value)} {pc : Nat} {rest : List Value}
theorem g_cs {c' s' : Nat} (hc : cells = c') (hs : slots = s') (k : gW V nL c' s' ws lv pc rest) : gW V nL cells slots ws lv pc rest := by
  rw [hc, hs]
  exact k
theorem gPerm_arrq {q a n : Nat} {c : ClassId} {f g : Nat → Option Nat} (hq : ws[q]? = some (a, .inl (c, n, .inr (.inr (.inr (.inr f)))))) (h : ∀ j, j < n → f j = g j) {ws' : va_W} (hw : ws.set q (a, .inl (c, n, .inr (.inr (.inr (.inr g))))) = ws') : gPerm ws ws' := by
  subst hw
  refine fun D H A => ⟨fun hP k r hk => ?_, fun hD => hD.set hq⟩
  by_cases hkq : k = q
  · subst hkq
    rw [List.getElem?_set_self (List.getElem?_eq_some_iff.mp hq).1] at hk
    cases hk
    have h1 : H[a]? = some (vp_cell c (n, .inr (.inr (.inr (.inr f))))) := hP k _ hq
    show H[a]? = some (vp_cell c (n, .inr (.inr (.inr (.inr g)))))
    rw [h1, vp_cell_q, vp_cell_q]
    exact congrArg some (g_arrV_congr (fun j hj => congrArg va_rf (h j hj)))
  · rw [List.getElem?_set_ne (Ne.symm hkq)] at hk
    exact hP k r hk
end
/-- a new prison's cells -/
def gU0 : gU := (gSt0, fun _ => 0, fun _ => 0)
theorem gRows_new {G : gG} {A : va_W} {k : Nat} {ra : Nat → Nat → Nat} {u : Nat → Nat} {x : gU} : gPerm (A ++ (gPW G u x ++ gRowsOf G (List.range k) ra (fun _ => x))) (A ++ gRowsOf G (List.range (k + 1)) (gUpd ra k u) (fun _ => x)) := by
  have e : gRowsOf G (List.range (k + 1)) (gUpd ra k u) (fun _ => x) = gRowsOf G (List.range k) ra (fun _ => x) ++ gPW G u x := by
    unfold gRowsOf
    rw [List.range_succ, List.flatMap_append]
    have e1 : (List.range k).flatMap (fun i => gPW G (gUpd ra k u i) x) = (List.range k).flatMap (fun i => gPW G (ra i) x) := by
      rw [List.flatMap_def, List.flatMap_def]
      congr 1
      refine List.map_congr_left fun i hi => ?_
      have hi' := List.mem_range.mp hi
      unfold gUpd
      rw [if_neg (by omega)]
    rw [e1, List.flatMap_cons, List.flatMap_nil, List.append_nil]
    unfold gUpd
    rw [if_pos rfl]
  rw [e]
  exact gPerm_of (List.perm_append_comm.append_left A)
theorem gPerm_new {A B C : va_W} : gPerm ((A ++ B) ++ C) ((A ++ C) ++ B) := by
  refine gPerm_of ?_
  rw [List.append_assoc, List.append_assoc]
  exact List.perm_append_comm.append_left A
theorem gPerm_swap {A B C : va_W} : gPerm (A ++ (B ++ C)) (B ++ (A ++ C)) := gPerm_of (List.perm_append_comm_assoc A B C)
theorem gPerm_last {A B C : va_W} : gPerm ((A ++ B) ++ C) (B ++ (A ++ C)) := by
  refine gPerm_of ?_
  rw [List.append_assoc]
  exact List.perm_append_comm_assoc A B C
theorem gUp_rows {f : Nat → Option Nat} {ra : Nat → Nat → Nat} {q : Nat → Nat} {k : Nat} (hk : k < 15) (h : ∀ i, i < k → f i = some (ra i 0)) : ∀ i, i < k + 1 → va_up f (nI k).toNatClampNeg (some (q 0)) i = some (gUpd ra k q i 0) := by
  intro i hi
  unfold va_up gUpd
  rw [nI_clamp (by omega)]
  by_cases c : i = k
  · rw [if_pos c, if_pos c]
  · rw [if_neg c, if_neg c]
    exact h i (by omega)
/-- the addresses of the class's cells: object, text and its rows, history and its row, the two slots; the five prisons; the rows of the history -/
abbrev gVa := (Nat → Nat) × (Nat → Nat → Nat) × (Nat → Nat → Nat)
/-- what the class's cells hold: the text (length, place, word; signs, numbers); the history's count and next; whether the slots are filled; the five prisons; the rows -/
abbrev gVu := ((Nat → Int32) × (Nat → Int32) × (Nat → Int32)) × (Nat → Int32) × (Nat → Int32) × (Nat → gU) × (Nat → gU)
def wV (G : gG) (x : gVa) (u : gVu) : va_W := ([(x.1 0, .inr (7, [.ref (x.1 1), .ref (x.2.1 0 0), .ref (x.1 4), .ref (x.1 6), .ref (x.1 7), .ref (x.2.1 3 0), .ref (x.2.1 4 0)])),
  (x.1 1, .inr (5, [.int (u.1.1 0), .ref (x.1 2), .int (u.1.1 1), .int (u.1.1 2), .ref (x.1 3)])), (x.1 2, .inl (gy G 1, 120, .inl u.1.2.1)), (x.1 3, .inl (gy G 0, 4, .inl u.1.2.2))] ++ gPW G (x.2.1 0) (u.2.2.2.1 0) ++
  [(x.1 4, .inr (2, [.int (u.2.1 0), .int (u.2.1 1), .ref (x.1 5)])), (x.1 5, .inl (gy G 4, 15, .inr (.inr (.inr (.inr (fun j => some (x.2.2 j 0)))))))] ++
  [(x.1 6, .inr (4, [.int (u.2.2.1 0), .ref (x.2.1 1 0)]))] ++ gPW G (x.2.1 1) (u.2.2.2.1 1) ++ [(x.1 7, .inr (4, [.int (u.2.2.1 1), .ref (x.2.1 2 0)]))] ++ gPW G (x.2.1 2) (u.2.2.2.1 2) ++ gPW G (x.2.1 3) (u.2.2.2.1 3) ++ gPW G (x.2.1 4) (u.2.2.2.1 4)) ++ gRowsOf G (List.range 15) x.2.2 u.2.2.2.2
def gV0 : gVu := ((fun _ => 0, fun _ => 0, fun _ => 0), fun _ => 0, fun _ => 0, fun _ => gU0, fun _ => gU0)
def gA0 : gA := ((0, fun _ => 0), gSt0, (0, fun _ => gSt0), fun _ => none)
