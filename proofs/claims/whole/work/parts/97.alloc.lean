/-! ===== new cells ===== -/
section
variable {V : gV} {G : gG} {cc : ByteArray} {nL : Nat} {own : String} {Ts : List Cond} {rm : Room} {cells slots : Nat} {ws : va_W} {lv : List (Nat × Value)} {pc : Nat} {rest : List Value}
theorem g_newa (E : gE V G cc nL own Ts rm) {atype : ArrayType} {ty : FieldType} (t0 : Nat) {a0 : vp_A} {N : Nat} (hty : newarray.typeOf atype = ty) (ht : (gT (gy G))[t0]? = some (gy G t0, ty)) (harr : Cond.arrayClass ty ∈ Ts) {n : Int32} (ha : ∀ cA : ClassId, vp_cell cA a0 = arrV cA N (fun _ => defaultValue ty)) (hn : ¬ n < 0) (hN : n.toNatClampNeg = N) (hb : N * componentBytes ty ≤ 536870912) (hc : cells + 1 ≤ rm.cells) (hs : slots + N ≤ rm.slots) (d : decode cc pc = .ok (.newarray atype, 2))
    (k : ∀ q : Nat, gW V nL (cells + 1) (slots + N) (ws ++ [(q, .inl (gy G t0, a0))]) lv (pc + 2) (.ref q :: rest)) : gW V nL cells slots ws lv pc (.int n :: rest) := fun H locs ls hP hD hS hl => by
  subst hty
  have hR := E.r
  refine va_newaK E.x E.b (E.ts _ harr) rfl d rfl hn hN hb (by rw [hR]; exact hc) (by rw [hR]; exact hs) rfl fun H1 cA e1 z1 o1 hAr hNm => ?_
  have hcA : cA = gy G t0 := by
    have h2 := (E.k.2 t0 _ ht).2
    have h3 : (gvS V).vm.findClass ("[" ++ (newarray.typeOf atype).toString) = some (gy G t0) := by cases atype <;> exact h2
    exact Option.some.inj (hNm.symm.trans h3)
  subst hcA
  have hk : ∀ (k : Nat) (x : Nat × va_E), ws[k]? = some x → H1[x.1]? = H[x.1]? := fun k x hx => o1 x.1 ((hP k x hx).lt)
  refine k H.size H1 locs ls ((hP.kept hk).app (fun k x hx => ?_)) (hD.push hP rfl (E.o _ hS.1)) ⟨Nat.le_trans hS.1 (by omega), fun x h1 h2 => (o1 x (Nat.lt_of_lt_of_le h1 hS.1)).trans (hS.2.1 x h1 h2), hS.2.2⟩ hl
  have hz : k < 1 := (List.getElem?_eq_some_iff.mp hx).1
  rw [show k = 0 by omega] at hx
  cases hx
  show H1[H.size]? = some (vp_cell _ _)
  rw [ha]
  exact e1
theorem g_new (E : gE V G cc nL own Ts rm) {C : String} {T : u_T} {N index : Nat} (ci : Nat) {fs : List Value} (hin : ∀ w ∈ u_ws C T N, w ∈ Ts) (ty : Nat → FieldType) (hty : ∀ k, k < N → parseFieldDescriptor (T k).2.2.1 = some (ty k)) (hcl : Cond.classLink own index C ∈ Ts) (hinst : Cond.instantiable C N ∈ Ts) (hini : Cond.initialized C ∈ Ts) (hc : vwCl[ci]? = some (C, T, N)) (hfs : ∀ j, j < N → defaultValue (ty j) = vp_V fs j) (hcells : cells + 1 ≤ rm.cells) (hslots : slots + N ≤ rm.slots) (d : decode cc pc = .ok (.new index, 3))
    (k : ∀ q : Nat, gW V nL (cells + 1) (slots + N) (ws ++ [(q, .inr (ci, fs))]) lv (pc + 3) (.ref q :: rest)) : gW V nL cells slots ws lv pc rest := fun H locs ls hP hD hS hl => by
  have hR := E.r
  exact va_new E.x E.b E.ts hin ty hty E.ow (E.ts _ hcl) (E.ts _ hinst) (E.ts _ hini) E.k hP hD hS E.o hc hfs (by rw [hR]; exact hcells) (by rw [hR]; exact hslots) d (fun q H1 hP1 hD1 hS1 => k q H1 locs ls hP1 hD1 hS1 hl)
theorem g_newq (E : gE V G cc nL own Ts rm) {index : Nat} {n : Int32} {N : Nat} (hcl : Cond.classLink own index RX2 ∈ Ts) (hn : ¬ n < 0) (hN : n.toNatClampNeg = N) (hb : N * 4 ≤ 536870912) (hc : cells + 1 ≤ rm.cells) (hs : slots + N ≤ rm.slots) (d : decode cc pc = .ok (.anewarray index, 3))
    (k : ∀ q : Nat, gW V nL (cells + 1) (slots + N) (ws ++ [(q, .inl (gy G 4, N, .inr (.inr (.inr (.inr (fun _ => none))))))]) lv (pc + 3) (.ref q :: rest)) : gW V nL cells slots ws lv pc (.int n :: rest) := fun H locs ls hP hD hS hl => by
  have hR := E.r
  refine va_newq E.x E.b E.ow (E.ts _ hcl) E.z.1.2.2.1 E.k hP hD hS E.o hn hN hb (by rw [hR]; exact hc) (by rw [hR]; exact hs) d (fun q cA H1 hK1 hP1 hD1 hS1 => ?_)
  have hcA : cA = gy G 4 := by
    obtain ⟨_, _, _, _, _, h2⟩ := (E.k.2 4 _ rfl).2
    obtain ⟨_, _, _, _, _, h3⟩ := (hK1.2 6 _ rfl).2
    exact Option.some.inj (h3.symm.trans h2)
  subst hcA
  exact k q H1 locs ls hP1 hD1 hS1 hl
end
def gA0 : gA := ((0, fun _ => 0), gSt0, (0, fun _ => gSt0), fun _ => none)
