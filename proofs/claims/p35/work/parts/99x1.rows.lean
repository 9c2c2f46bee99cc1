/-! ===== rows of the law: methods with a table whose answer is a long; the script ===== -/
theorem gPerm_rot {c : Nat × va_E} {W : va_W} : gPerm (c :: W) (W ++ [c]) := gPerm_of (List.perm_append_comm (l₁ := [c]) (l₂ := W))
theorem gPerm_rot2 {c : Nat × va_E} {W : va_W} : gPerm (W ++ [c]) (c :: W) := gPerm_of (List.perm_append_comm (l₁ := W) (l₂ := [c]))
theorem gPerm_cm {A B : va_W} : gPerm (A ++ B) (B ++ A) := gPerm_of List.perm_append_comm
theorem gPerm_n {A : va_W} : gPerm A (A ++ []) := gPerm_eq (List.append_nil A).symm
theorem gPerm_n' {A : va_W} : gPerm (A ++ []) A := gPerm_eq (List.append_nil A)
/-- the code of what a call gives: its answer, or the number of its exception -/
def gCd (es : List Int64) (K : Nat × Int32 × gA) : Int64 := if K.1 = 0 then K.2.1.toInt64 else es.getD (K.1 - 1) 0
theorem gCd_0 {es : List Int64} {K : Nat × Int32 × gA} (h : K.1 = 0) : gCd es K = K.2.1.toInt64 := if_pos h
theorem gCd_k {es : List Int64} {K : Nat × Int32 × gA} {k : Nat} {v : Int64} (h : K.1 = k + 1) (he : es[k]? = some v) : gCd es K = v := by
  unfold gCd
  rw [if_neg (by omega), h, show k + 1 - 1 = k from rfl, List.getD_eq_getElem?_getD, he]
  rfl
theorem g_enterLH {S : Type} {G : gG} {y : MethodName} {ws ws' : List Cond} {fr lo mc ms maxL : Nat} {av : List Value} {w : va_W} {post : Int64 → S → Prop} {w' : S → va_W} {cc : ByteArray} {hh : List (Nat × Nat × Nat × Nat)} (own : String) (hown : y.cls = own) (hy : plainName y.cls = true) (hw : ws = Cond.codeWith y cc maxL (some .long) hh :: ws') (hn : (lg_sl av).length ≤ maxL)
    (body : ∀ V : gV, gE V G cc maxL own ws { frames := fr, cells := mc, slots := ms, locals := lo } → (gvC V).exceptionTable.toList = tableOf hh → (∀ (lv : List (Nat × Value)) (pc : Nat) (r : Int64) (u : S), post r u → decode cc pc = .ok (.lreturn, 1) → gW V maxL mc ms (w' u) lv pc [.long r]) → gW V maxL 0 0 w (lv_args 0 av) 0 []) : CL G y ws fr lo av w post w' mc ms := by
  intro sz
  refine va_MetW (cc := cc) (maxL := maxL) (ret := (some .long)) (hh := hh) hy hw ?_
  intro p e s m args below meth c s₁ B hml hv
  obtain ⟨rfl, hsz, hP, hK, hD0, hZ⟩ := hv
  subst hsz
  subst hown
  have hts := atoms_spec (ws := ws) B.pre
  have hD := hD0.self (sz := s.heap.size)
  have hT := vx_table (x := y) (bytes := cc) (maxL' := maxL) (ret' := some .long) (hh := hh) B (hts _ (by rw [hw]; exact List.mem_cons_self))
  rw [lg_entry_eq]
  exact body (p, gl G, e, (headSpec ws { frames := fr, cells := mc, slots := ms, locals := lo }).room, s, m, av.toArray, below, meth, c, gd G, va_A w s.heap.size, s.heap, MQ below (va_Ql post (fun u t => gB G w s.heap.size (w' u) t) (va_A w s.heap.size)) av.toArray s mc ms (va_A w s.heap.size))
    ⟨B.exec, B.bytes, hml, findClass_of_methodNamed B.named, hts, hK, fun q h => Or.inr h, rfl, rfl, rfl, rfl, hZ⟩ hT
    (fun lv pc r u hp d H locs ls hP hD hS hl => W.lret B.exec B.bytes B.returns (fun t ht hW => ⟨⟨r, u, rfl, hp, by rw [ht]; exact hP, va_K.moved hW.alike hK, hD⟩, hS.F ht⟩) hS.2.2 d B.notSynchronized) s.heap [] _ hP hD va_S.rf (lv_entry av hn)
def gPreX (G : gG) (av : List Value) (b0 L : Nat) (xs : Nat → Int32) (sz : Nat) : Array Value → State → Prop := va_Pc av (fun U => (U.heap.size = sz ∧ va_P (gd G) vwCl [] U.heap ∧ va_K (gd G) vwCl (gT (gy G)) U ∧ va_D (fun _ => True) [] ∧ gZ (gz G) (va_A [] sz) U U.heap) ∧ va_X b0 L xs U U.heap ∧ b0 < U.heap.size)
/-- a contract over the script alone -/
def CIX (G : gG) (y : MethodName) (ws : List Cond) (fr lo : Nat) (av : List Value) (b0 L : Nat) (xs : Nat → Int32) (post : Int32 → Prop) (mc ms : Nat) : Prop :=
  ∀ sz : Nat, Met (gl G) y ws { frames := fr, cells := mc, slots := ms, locals := lo } (gPreX G av b0 L xs sz) (va_Qi (fun r (_ : Unit) => post r) (fun _ t => gB G [] sz [] t) (va_A [] sz)) mc ms (va_A [] sz)
theorem gPreX_blind {G : gG} {av : List Value} {b0 L : Nat} {xs : Nat → Int32} {sz : Nat} : FrameBlind (gPreX G av b0 L xs sz) := fun a U g mk q => by
  obtain ⟨q0, ⟨q1, qP, qK, qD, qZ⟩, qX, qb⟩ := q
  exact ⟨q0, ⟨q1, qP, va_K.moved (u := U) (U := U.calling g mk a) (Vm.Alike.refl U.vm) qK, qD, gZ.blind (u := U) (U := U.calling g mk a) qZ rfl rfl⟩, va_X.moved (u := U) (U := U.calling g mk a) (Vm.Alike.refl U.vm) qX, qb⟩
theorem gPreX_at {G : gG} {av : List Value} {b0 L : Nat} {xs : Nat → Int32} {H : Heap} {s U : State} {locs : List Loc} {A : Nat → Prop} (hU : U.heap = H) (hW : s.WarmedH U.vm) (hP : va_P (gd G) vwCl [] H) (hK : va_K (gd G) vwCl (gT (gy G)) s) (hD : va_D A []) (hZ : gZ (gz G) A s s.heap) (hS : va_S A s.heap H locs) (hF : ∀ q, va_A [] H.size q → A q) (hX : va_X b0 L xs s s.heap) (hbl : b0 < s.heap.size) (hbA : ¬ A b0) : gPreX G av b0 L xs H.size av.toArray U :=
  ⟨rfl, (gPre_at (av := av) hU hW hP hK hD hZ hS hF).2, va_X.moved hW.alike (by rw [hU]; exact hX.kept (hS.2.1 b0 hbl hbA)), by rw [hU]; exact Nat.lt_of_lt_of_le hbl hS.1⟩
theorem g_enterIX {G : gG} {y : MethodName} {ws ws' : List Cond} {fr lo mc ms maxL : Nat} {av : List Value} {post : Int32 → Prop} {b0 L : Nat} {xs : Nat → Int32} {cc : ByteArray} {ty : FieldType} (own : String) (hown : y.cls = own) (hy : plainName y.cls = true) (hw : ws = Cond.code y cc maxL (some ty) :: ws') (hn : (lg_sl av).length ≤ maxL) 
    (body : ∀ V : gV, gE V G cc maxL own ws { frames := fr, cells := mc, slots := ms, locals := lo } → va_X b0 L xs (gvS V) (gvH V) → b0 < (gvH V).size → ¬ gvO V b0 → (∀ (lv : List (Nat × Value)) (pc : Nat) (r : Int32), post r → narrow ty (.int r) = .int r → decode cc pc = .ok (.ireturn, 1) → gW V maxL mc ms [] lv pc [.int r]) → gW V maxL 0 0 [] (lv_args 0 av) 0 []) : CIX G y ws fr lo av b0 L xs post mc ms := by
  intro sz
  refine Met.ofW (cc := cc) (maxL := maxL) (ret := (some ty)) hy hw ?_
  intro p e s m args below meth c s₁ B hml hv
  obtain ⟨rfl, ⟨hsz, hP, hK, hD0, hZ⟩, hX, hbl⟩ := hv
  subst hsz
  subst hown
  have hts := atoms_spec (ws := ws) B.pre
  have hD := hD0.self (sz := s.heap.size)
  rw [lg_entry_eq]
  exact body (p, gl G, e, (headSpec ws { frames := fr, cells := mc, slots := ms, locals := lo }).room, s, m, av.toArray, below, meth, c, gd G, va_A [] s.heap.size, s.heap, MQ below (va_Qi (fun r (_ : Unit) => post r) (fun _ t => gB G [] s.heap.size [] t) (va_A [] s.heap.size)) av.toArray s mc ms (va_A [] s.heap.size))
    ⟨B.exec, B.bytes, hml, findClass_of_methodNamed B.named, hts, hK, fun q h => Or.inr h, rfl, rfl, rfl, rfl, hZ⟩ hX hbl (fun h => h.elim (fun ⟨k, e, hk⟩ => by simp at hk) (fun h => Nat.not_lt.mpr h hbl))
    (fun lv pc r hp hn d H locs ls hP hD hS hl => W.zret B.exec B.bytes B.returns hn (fun t ht hW => ⟨⟨r, (), rfl, hp, by rw [ht]; exact hP, va_K.moved hW.alike hK, hD⟩, hS.F ht⟩) hS.2.2 d B.notSynchronized) s.heap [] _ hP hD va_S.rf (lv_entry av hn)
section
variable {V : gV} {G : gG} {cc : ByteArray} {nL : Nat} {own : String} {Ts : List Cond} {rm : Room} {cells slots : Nat} {ws : va_W} {lv : List (Nat × Value)} {pc : Nat} {rest : List Value}
theorem g_catch (E : gE V G cc nL own Ts rm) {hh : List (Nat × Nat × Nat × Nat)} (hT : (gvC V).exceptionTable.toList = tableOf hh) (cls : String) (pre suf : List (Nat × Nat × Nat × Nat)) (x : Nat × Nat × Nat × Nat) (hsp : hh = pre ++ x :: suf)
    (hpass : ∀ z ∈ pre, ∃ nm : String, Cond.classLink own z.2.2.2 nm ∈ Ts ∧ (cls, nm) ∈ gNcs ∧ z.2.2.2 ≠ 0) (hx : x.1 ≤ pc ∧ pc < x.2.1) (h0 : x.2.2.2 ≠ 0) (hlink : Cond.classLink own x.2.2.2 cls ∈ Ts) (hc : cls ∈ gCas) {h : Nat} (hh0 : x.2.2.1 = h) (k : ∀ q : Nat, gW V nL cells slots ws lv h [.ref q]) : gWX V nL cells slots ws lv pc rest cls := by
  intro H locs ls q ce hP hD hS hl h1 h2 h3
  subst hh0
  have hsp' : (gvC V).exceptionTable.toList = tableOf pre ++ (⟨x.1, x.2.1, x.2.2.1, x.2.2.2⟩ : ExceptionTableEntry) :: tableOf suf := by
    rw [hT, hsp]
    simp [tableOf]
  refine vx_catch E.ow (tableOf pre) _ (tableOf suf) hsp' (fun z hz => ?_) ?_ h0 (E.ts _ hlink) (va_Nw.use (A := gvA V) rfl (E.z.1.2.2.2.2.2 cls hc)) h1 h2 h3 (k q H locs ls hP hD hS hl)
  · obtain ⟨z0, hz0, rfl⟩ := List.mem_map.mp hz
    obtain ⟨nm, a1, a2, a3⟩ := hpass z0 hz0
    exact Or.inr ⟨a3, nm, E.ts _ a1, E.z.1.2.2.2.1 _ a2⟩
  · show (decide (x.1 ≤ pc) && decide (pc < x.2.1)) = true
    rw [decide_eq_true hx.1, decide_eq_true hx.2]
    rfl
theorem g_callSWL (E : gE V G cc nL own Ts rm) {S : Type} {y : MethodName} {wsY wsY' : List Cond} {fr lo mc ms mL : Nat} {As : List Value} {w : va_W} {post : Int64 → S → Prop} {w' : S → va_W} {bytes : ByteArray} {hh : List (Nat × Nat × Nat × Nat)} {index n : Nat} (hM : CL G y wsY fr lo As w post w' mc ms) (hG : GoodIn Ts (va_wsS own index y wsY)) (hwY : wsY = Cond.codeWith y bytes mL (some .long) hh :: wsY') (hd : y.cls ≠ "java/lang/invoke/MethodHandle" ∧ y.cls ≠ "java/lang/invoke/VarHandle" ∧ (parseMethodDescriptor y.desc).map (fun d => d.parameters.length) = some n) (hR : fr + 1 ≤ rm.frames ∧ 8 + (mL + 11) + lo ≤ rm.locals) {F : va_W} (hp : gPerm ws (w ++ F)) (hn : As.length = n) {st : List Value} (hst : st = As.reverse ++ rest) (hr : (rest.map fun v => v.category).sum ≤ 8) (d : decode cc pc = .ok (.invokestatic index, 3)) (hf : cells + mc ≤ rm.cells ∧ slots + ms ≤ rm.slots)
    (k : ∀ (r : Int64) (u : S), post r u → gW V nL (cells + mc) (slots + ms) (w' u ++ F) lv (pc + 3) (.long r :: rest)) : gW V nL cells slots ws lv pc st := by
  intro H locs ls hP hD hS hl
  subst hst
  have hd' := E.d
  have hSs : va_S (gvO V) (gvS V).heap H locs := E.h ▸ hS
  have hl' := E.la
  obtain rfl := E.r
  have hKc := E.k
  have hM' := hM H.size
  rw [hd'] at hKc
  rw [← hl'] at hM'
  have hPa := (hp (gvD V) H (gvO V)).1 hP
  have hDa := (hp (gvD V) H (gvO V)).2 hD
  have hPc : va_P (gvD V) vwCl w H := fun k q hk => hPa k q (g_app_l hk)
  have hPg : va_P (gd G) vwCl w H := by rw [← hd']; exact hPc
  have hDc : va_D (gvO V) w := ⟨fun i j p q hi hj he => hDa.1 i j p q (g_app_l hi) (g_app_l hj) he, fun k q hk => hDa.2 k q (g_app_l hk)⟩
  have hFc : ∀ q, va_A w H.size q → gvO V q := by
    rintro q (⟨k, e, hk⟩ | h)
    · exact hDc.2 k _ hk
    · exact E.o q (Nat.le_trans hS.1 h)
  refine va_calll (vx_runSW (As := As) (rest := rest) ⟨E.x, E.b, E.ml, E.ow, E.ts⟩ hM' (vx_cwSW n E.ts hG hwY rfl rfl hd hR) ⟨gPre_blind, fun U hU hW => gPre_at hU hW hPg hKc hDc E.z hSs hFc⟩ rfl hn hl.1 rfl (lv_room hr) d hf) hS (fun q _ h => hFc q h) hFc (fun r u t H1 locs1 ht hvm hw hB hz1 hk1 hS1 => ?_)
  obtain ⟨hP1, hK1, hD1⟩ := hB
  rw [ht] at hP1
  rw [← hd'] at hP1
  have hJ := g_join hPa hDa hk1 hFc hP1 hD1
  exact k r u hw H1 locs1 ls hJ.1 hJ.2 hS1 hl
theorem g_callSIX (E : gE V G cc nL own Ts rm) {y : MethodName} {wsY wsY' : List Cond} {fr lo mc ms mL : Nat}  {As : List Value} {post : Int32 → Prop} {b0 L : Nat} {xs : Nat → Int32} (hX : va_X b0 L xs (gvS V) (gvH V)) (hbl : b0 < (gvH V).size) (hbA : ¬ gvO V b0) {bytes : ByteArray} {ty : FieldType}   {index n : Nat} (hM : CIX G y wsY fr lo As b0 L xs post mc ms) (hG : GoodIn Ts (va_wsS own index y wsY)) (hwY : wsY = Cond.code y bytes mL (some ty) :: wsY') (hd : y.cls ≠ "java/lang/invoke/MethodHandle" ∧ y.cls ≠ "java/lang/invoke/VarHandle" ∧ (parseMethodDescriptor y.desc).map (fun d => d.parameters.length) = some n) (hR : fr + 1 ≤ rm.frames ∧ 8 + (mL + 11) + lo ≤ rm.locals)  (hn : As.length = n) {st : List Value} (hst : st = As.reverse ++ rest) (hr : (rest.map fun v => v.category).sum ≤ 8) (d : decode cc pc = .ok (.invokestatic index, 3)) (hf : cells + mc ≤ rm.cells ∧ slots + ms ≤ rm.slots)
    (k : ∀ (r : Int32), post r → gW V nL (cells + mc) (slots + ms) ws lv (pc + 3) (.int r :: rest)) : gW V nL cells slots ws lv pc st := by
  intro H locs ls hP hD hS hl
  subst hst
  have hd' := E.d
  have hSs : va_S (gvO V) (gvS V).heap H locs := E.h ▸ hS
  have hl' := E.la
  obtain rfl := E.r
  have hKc := E.k
  have hM' := hM H.size
  rw [hd'] at hKc
  rw [← hl'] at hM'
  have hPa := hP
  have hDa := hD
  have hp : gPerm ws (([] : va_W) ++ ws) := gPerm_rfl ws
  have hPc : va_P (gvD V) vwCl [] H := fun k q hk => by simp at hk
  have hPg : va_P (gd G) vwCl [] H := by rw [← hd']; exact hPc
  have hDc : va_D (gvO V) [] := ⟨fun i j p q hi hj he => by simp at hi, fun k q hk => by simp at hk⟩
  have hFc : ∀ q, va_A [] H.size q → gvO V q := by
    rintro q (⟨k, e, hk⟩ | h)
    · exact hDc.2 k _ hk
    · exact E.o q (Nat.le_trans hS.1 h)
  refine va_calli (va_runS (As := As) (rest := rest) ⟨E.x, E.b, E.ml, E.ow, E.ts⟩ hM' (va_cwS n E.ts hG hwY rfl rfl hd hR) ⟨gPreX_blind, fun U hU hW => gPreX_at hU hW hPg hKc hDc E.z hSs hFc (E.h ▸ hX) (E.h ▸ hbl) hbA⟩ rfl hn hl.1 rfl (lv_room hr) d hf) hS (fun q _ h => hFc q h) hFc (fun r u t H1 locs1 ht hvm hw hB hz1 hk1 hS1 => ?_)
  obtain ⟨hP1, hK1, hD1⟩ := hB
  rw [ht] at hP1
  rw [← hd'] at hP1
  have hJ := g_join hPa hDa hk1 hFc hP1 hD1
  exact k r hw H1 locs1 ls hJ.1 hJ.2 hS1 hl
theorem g_sldN (E : gE V G cc nL own Ts rm) {b0 L : Nat} {xs : Nat → Int32} (hX : va_X b0 L xs (gvS V) (gvH V)) (hbl : b0 < (gvH V).size) (hbA : ¬ gvO V b0) {a : Nat} (ha : a < L) (hL : L ≤ 2560) (d : decode cc pc = .ok (.iaload, 1)) (k : gW V nL cells slots ws lv (pc + 1) (.int (xs a) :: rest)) : gW V nL cells slots ws lv pc (.int (nI a) :: .ref b0 :: rest) := fun H locs ls hP hD hS hl => va_sld E.x E.b hX hbl hbA hS (vp_in_nI ha (by omega)) d (by rw [nI_clamp (by omega)]; exact k H locs ls hP hD hS hl)
theorem g_slen (E : gE V G cc nL own Ts rm) {b0 L : Nat} {xs : Nat → Int32} (hX : va_X b0 L xs (gvS V) (gvH V)) (hbl : b0 < (gvH V).size) (hbA : ¬ gvO V b0) (d : decode cc pc = .ok (.arraylength, 1)) (k : gW V nL cells slots ws lv (pc + 1) (.int (nI L) :: rest)) : gW V nL cells slots ws lv pc (.ref b0 :: rest) := fun H locs ls hP hD hS hl => va_slen E.x E.b hX hbl hbA hS d (k H locs ls hP hD hS hl)
end
