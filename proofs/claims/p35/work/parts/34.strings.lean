/-! ===== texts that the launch gives ===== -/
section GS
variable {V : gV} {G : gG} {cc : ByteArray} {nL : Nat} {own : String} {Ts : List Cond} {rm : Room} {cells slots : Nat} {ws : va_W} {lv : List (Nat × Value)} {pc : Nat} {rest : List Value}
theorem g_strval {i : Nat} {q : String × Nat × String × List Int32} (E : gE V G cc nL own Ts rm) (hq : gStr[i]? = some q) {index : Nat} (hlink : Cond.fieldLink own index "java/lang/String" "value" "[B" ∈ Ts) (d : decode cc pc = .ok (.getfield index, 3)) (k : gW V nL cells slots ws lv (pc + 3) (.ref (gz G (101 + 2 * i)) :: rest)) : gW V nL cells slots ws lv pc (.ref (gz G (100 + 2 * i)) :: rest) := fun H locs ls hP hD hS hl =>
  vk_getf E.x E.b (E.z.2.2.2 i _ hq).2.2.2.1 (E.h ▸ hS) E.ow (E.ts _ hlink) (fun _ h => h) d (k H locs ls hP hD hS hl)
theorem g_strcod {i : Nat} {q : String × Nat × String × List Int32} (E : gE V G cc nL own Ts rm) (hq : gStr[i]? = some q) {index : Nat} (hlink : Cond.fieldLink own index "java/lang/String" "coder" "B" ∈ Ts) (d : decode cc pc = .ok (.getfield index, 3)) (k : gW V nL cells slots ws lv (pc + 3) (.int 0 :: rest)) : gW V nL cells slots ws lv pc (.ref (gz G (100 + 2 * i)) :: rest) := fun H locs ls hP hD hS hl =>
  vk_getf E.x E.b (E.z.2.2.2 i _ hq).2.2.1 (E.h ▸ hS) E.ow (E.ts _ hlink) (fun _ h => h) d (k H locs ls hP hD hS hl)
theorem g_compact (E : gE V G cc nL own Ts rm) {index : Nat} (hlink : Cond.fieldLink own index "java/lang/String" "COMPACT_STRINGS" "Z" ∈ Ts) (d : decode cc pc = .ok (.getstatic index, 3)) (k : gW V nL cells slots ws lv (pc + 3) (.int 1 :: rest)) : gW V nL cells slots ws lv pc rest := fun H locs ls hP hD hS hl =>
  va_gets E.x E.b E.z.2.1.1 (E.h ▸ hS) E.ow (E.ts _ hlink) (fun _ h => h) d (k H locs ls hP hD hS hl)
theorem g_siof (E : gE V G cc nL own Ts rm) {index : Nat} (hlink : Cond.fieldLink own index "jdk/internal/util/Preconditions" "SIOOBE_FORMATTER" "Ljava/util/function/BiFunction;" ∈ Ts) (d : decode cc pc = .ok (.getstatic index, 3)) (kn : gW V nL cells slots ws lv (pc + 3) (.null :: rest)) (kr : ∀ t : Nat, gW V nL cells slots ws lv (pc + 3) (.ref t :: rest)) : gW V nL cells slots ws lv pc rest := by
  intro H locs ls hP hD hS hl
  rcases E.z.2.1.2.1 with h | ⟨t, h⟩
  · exact va_gets E.x E.b h (E.h ▸ hS) E.ow (E.ts _ hlink) (fun _ h => h) d (kn H locs ls hP hD hS hl)
  · exact va_gets E.x E.b h (E.h ▸ hS) E.ow (E.ts _ hlink) (fun _ h => h) d (kr t H locs ls hP hD hS hl)
theorem g_strlen {i : Nat} {q : String × Nat × String × List Int32} (E : gE V G cc nL own Ts rm) (hq : gStr[i]? = some q) (d : decode cc pc = .ok (.arraylength, 1)) (k : gW V nL cells slots ws lv (pc + 1) (.int (nI q.2.2.2.length) :: rest)) : gW V nL cells slots ws lv pc (.ref (gz G (101 + 2 * i)) :: rest) := fun H locs ls hP hD hS hl =>
  va_tlen E.x E.b (E.z.2.2.2 i _ hq).2.2.2.2 (E.h ▸ hS) rfl d (k H locs ls hP hD hS hl)
theorem g_strbyte {i : Nat} {q : String × Nat × String × List Int32} (E : gE V G cc nL own Ts rm) (hq : gStr[i]? = some q) {j : Nat} (hj : j < q.2.2.2.length) (hl : q.2.2.2.length ≤ 1000) (d : decode cc pc = .ok (.baload, 1)) (k : gW V nL cells slots ws lv (pc + 1) (.int (q.2.2.2.getD j 0) :: rest)) : gW V nL cells slots ws lv pc (.int (nI j) :: .ref (gz G (101 + 2 * i)) :: rest) := fun H locs ls hP hD hS hl' =>
  va_tb E.x E.b (E.z.2.2.2 i _ hq).2.2.2.2 (E.h ▸ hS) (g_in hj (Nat.ble_eq.mpr (by omega))) (v := .int (q.2.2.2.getD j 0)) (by rw [nI_clamp (by omega)]) d (k H locs ls hP hD hS hl')
theorem g_ldcs (i : Nat) {tx : String} {l : List Int32} {index : Nat} (E : gE V G cc nL own Ts rm) (hq : gStr[i]? = some (own, index, tx, l)) (d : decode cc pc = .ok (.ldc index, 2)) (k : gW V nL cells slots ws lv (pc + 2) (.ref (gz G (100 + 2 * i)) :: rest)) : gW V nL cells slots ws lv pc rest := fun H locs ls hP hD hS hl =>
  va_ldcS E.x E.b E.ow (E.z.2.2.2 i _ hq).1 d (k H locs ls hP hD hS hl)
/-- a call whose receiver is a text of the launch -/
theorem g_callOI (E : gE V G cc nL own Ts rm) {S : Type} {y : MethodName} {wsY wsY' : List Cond} {fr lo mc ms mL : Nat} {As : List Value} {w : va_W} {post : Int32 → S → Prop} {w' : S → va_W} {bytes : ByteArray} {ty : FieldType} {index n : Nat} {i : Nat} {z : String × Nat × String × List Int32} (hM : CI G y wsY fr lo (.ref (gz G (100 + 2 * i)) :: As) w post w' mc ms) (hG : GoodIn Ts (wsV own index "java/lang/String" y wsY)) (hwY : wsY = Cond.code y bytes mL (some ty) :: wsY') (hd : y.cls = "java/lang/String" ∧ y.cls ≠ "java/lang/invoke/MethodHandle" ∧ y.cls ≠ "java/lang/invoke/VarHandle" ∧ (parseMethodDescriptor y.desc).map (fun d => d.parameters.length) = some n) (hR : fr + 1 ≤ rm.frames ∧ 8 + (mL + 11) + lo ≤ rm.locals) (hq : gStr[i]? = some z) {F : va_W} (hp : gPerm ws (w ++ F)) (hn : As.length = n) {st : List Value} (hst : st = As.reverse ++ .ref (gz G (100 + 2 * i)) :: rest) (hr : (rest.map fun v => v.category).sum ≤ 8) (d : decode cc pc = .ok (.invokevirtual index, 3)) (hf : cells + mc ≤ rm.cells ∧ slots + ms ≤ rm.slots)
    (k : ∀ (r : Int32) (u : S), post r u → gW V nL (cells + mc) (slots + ms) (w' u ++ F) lv (pc + 3) (.int r :: rest)) : gW V nL cells slots ws lv pc st := by
  intro H locs ls hP hD hS hl
  subst hst
  have hd' := E.d
  have hSs : va_S (gvO V) (gvS V).heap H locs := E.h ▸ hS
  have hl' := E.la
  obtain rfl := E.r
  have hKc := E.k
  have hM' := hM H.size
  rw [hd'] at hKc
  rw [← hl'] at hM'
  have hPa := (hp (gvD V) H (gvO V)).1 hP
  have hDa := (hp (gvD V) H (gvO V)).2 hD
  have hPc : va_P (gvD V) vwCl w H := fun k q hk => hPa k q (g_app_l hk)
  have hPg : va_P (gd G) vwCl w H := by rw [← hd']; exact hPc
  have hDc : va_D (gvO V) w := ⟨fun i j p q hi hj he => hDa.1 i j p q (g_app_l hi) (g_app_l hj) he, fun k q hk => hDa.2 k q (g_app_l hk)⟩
  have hFc : ∀ q, va_A w H.size q → gvO V q := by
    rintro q (⟨k, e, hk⟩ | h)
    · exact hDc.2 k _ hk
    · exact E.o q (Nat.le_trans hS.1 h)
  refine va_calli (va_runV (As := As) (rest := rest) ⟨E.x, E.b, E.ml, E.ow, E.ts⟩ hM' (cwV n E.ts hG hwY rfl rfl hd hR) ⟨gPre_blind, va_Orecv (E.z.2.2.2 i _ hq).2.1 hSs, fun U hU hW => gPre_at hU hW hPg hKc hDc E.z hSs hFc⟩ rfl hn hl.1 rfl (lv_room hr) d hf) hS (fun q _ h => hFc q h) hFc (fun r u t H1 locs1 ht hvm hw hB hz1 hk1 hS1 => ?_)
  obtain ⟨hP1, hK1, hD1⟩ := hB
  rw [ht] at hP1
  rw [← hd'] at hP1
  have hJ := g_join hPa hDa hk1 hFc hP1 hD1
  exact k r u hw H1 locs1 ls hJ.1 hJ.2 hS1 hl
end GS
/-- every sign of the texts is one byte, and they are short -/
theorem gStr_ok : ∀ q ∈ gStr, q.2.2.2.length ≤ 1000 ∧ ∀ v ∈ q.2.2.2, vp_nar .char (v &&& 255) = v := by decide +kernel
theorem gStr_len {i : Nat} {q : String × Nat × String × List Int32} (h : gStr[i]? = some q) : q.2.2.2.length ≤ 1000 := (gStr_ok q (List.mem_of_getElem? h)).1
theorem gStr_chr {i j : Nat} {q : String × Nat × String × List Int32} (h : gStr[i]? = some q) (hj : j < q.2.2.2.length) : vp_nar .char (q.2.2.2.getD j 0 &&& 255) = q.2.2.2.getD j 0 :=
  (gStr_ok q (List.mem_of_getElem? h)).2 _ (by rw [List.getD_eq_getElem?_getD, List.getElem?_eq_getElem hj]; exact List.getElem_mem hj)
section GS2
variable {V : gV} {G : gG} {cc : ByteArray} {nL : Nat} {own : String} {Ts : List Cond} {rm : Room} {cells slots : Nat} {ws : va_W} {lv : List (Nat × Value)} {pc : Nat} {rest : List Value}
theorem g_callOIe (E : gE V G cc nL own Ts rm) {y : MethodName} {wsY wsY' : List Cond} {fr lo mc ms mL : Nat} {As : List Value} {w : va_W} {r : Int32} {w' : va_W} {bytes : ByteArray} {ty : FieldType} {index n : Nat} {i : Nat} {z : String × Nat × String × List Int32} (hM : CIe G y wsY fr lo (.ref (gz G (100 + 2 * i)) :: As) w r w' mc ms) (hG : GoodIn Ts (wsV own index "java/lang/String" y wsY)) (hwY : wsY = Cond.code y bytes mL (some ty) :: wsY') (hd : y.cls = "java/lang/String" ∧ y.cls ≠ "java/lang/invoke/MethodHandle" ∧ y.cls ≠ "java/lang/invoke/VarHandle" ∧ (parseMethodDescriptor y.desc).map (fun d => d.parameters.length) = some n) (hR : fr + 1 ≤ rm.frames ∧ 8 + (mL + 11) + lo ≤ rm.locals) (hq : gStr[i]? = some z) {F : va_W} (hp : gPerm ws (w ++ F)) (hn : As.length = n) {st : List Value} (hst : st = As.reverse ++ .ref (gz G (100 + 2 * i)) :: rest) (hr : (rest.map fun v => v.category).sum ≤ 8) (d : decode cc pc = .ok (.invokevirtual index, 3)) (hf : cells + mc ≤ rm.cells ∧ slots + ms ≤ rm.slots) {ws2 : va_W} (hp2 : gPerm (w' ++ F) ws2)
    (k : gW V nL (cells + mc) (slots + ms) ws2 lv (pc + 3) (.int r :: rest)) : gW V nL cells slots ws lv pc st := g_callOI E hM hG hwY hd hR hq hp hn hst hr d hf (fun r u h => by cases h; exact g_perm hp2 k)
end GS2
