/-! ===== worlds moved, contracts, methods' entries and ends, calls ===== -/
section GC
/-- what holds of the cells ws holds of ws1 -/
def gPerm (ws ws1 : va_W) : Prop := ∀ (D : va_G) (H : Heap) (A : Nat → Prop), (va_P D vwCl ws H → va_P D vwCl ws1 H) ∧ (va_D A ws → va_D A ws1)
theorem gPerm_rfl (ws : va_W) : gPerm ws ws := fun _ _ _ => ⟨id, id⟩
theorem gPerm_eq {ws ws1 : va_W} (h : ws = ws1) : gPerm ws ws1 := h ▸ gPerm_rfl ws
theorem gPerm_trans {a b c : va_W} (h1 : gPerm a b) (h2 : gPerm b c) : gPerm a c := fun D H A => ⟨fun h => (h2 D H A).1 ((h1 D H A).1 h), fun h => (h2 D H A).2 ((h1 D H A).2 h)⟩
theorem gPerm_ix {ws ws1 : va_W} (is : List Nat) (hn : va_nd is = true) (hs : is.map (fun i => ws[i]?) = ws1.map some) : gPerm ws ws1 := by
  refine fun D H A => ⟨fun h k q hk => ?_, fun h => h.sub is hn hs⟩
  have e : (is.map (fun i => ws[i]?))[k]? = (ws1.map some)[k]? := by rw [hs]
  rw [List.getElem?_map, List.getElem?_map, hk] at e
  cases hi : is[k]? with
  | none => rw [hi] at e; cases e
  | some i =>
    rw [hi] at e
    exact h i q (Option.some.inj e)
theorem g_va_D_iff {A : Nat → Prop} {ws : va_W} : va_D A ws ↔ (ws.map Prod.fst).Pairwise (· ≠ ·) ∧ ∀ q ∈ ws, A q.1 := by
  constructor
  · intro h
    refine ⟨List.pairwise_iff_getElem.mpr fun i j hi hj hij he => ?_, fun q hq => ?_⟩
    · rw [List.length_map] at hi hj
      rw [List.getElem_map, List.getElem_map] at he
      have := h.1 i j ws[i] ws[j] (List.getElem?_eq_getElem hi) (List.getElem?_eq_getElem hj) he
      omega
    · obtain ⟨k, hk⟩ := List.getElem?_of_mem hq
      exact h.2 k q hk
  · intro h
    refine ⟨fun i j p q hi hj he => ?_, fun k q hk => h.2 q (List.mem_of_getElem? hk)⟩
    obtain ⟨hi', ei⟩ := List.getElem?_eq_some_iff.mp hi
    obtain ⟨hj', ej⟩ := List.getElem?_eq_some_iff.mp hj
    have hp := List.pairwise_iff_getElem.mp h.1
    rcases Nat.lt_trichotomy i j with c | c | c
    · exact absurd (by rw [List.getElem_map, List.getElem_map, ei, ej]; exact he) (hp i j (by simpa using hi') (by simpa using hj') c)
    · exact c
    · exact absurd (by rw [List.getElem_map, List.getElem_map, ei, ej]; exact he.symm) (hp j i (by simpa using hj') (by simpa using hi') c)
theorem g_va_P_iff {D : va_G} {ws : va_W} {H : Heap} : va_P D vwCl ws H ↔ ∀ q ∈ ws, va_at D vwCl q H :=
  ⟨fun h q hq => by obtain ⟨k, hk⟩ := List.getElem?_of_mem hq; exact h k q hk, fun h k q hk => h q (List.mem_of_getElem? hk)⟩
theorem gPerm_of {ws ws1 : va_W} (h : ws.Perm ws1) : gPerm ws ws1 := by
  refine fun D H A => ⟨fun hP => g_va_P_iff.mpr fun q hq => g_va_P_iff.mp hP q (h.mem_iff.mpr hq), fun hD => ?_⟩
  obtain ⟨h1, h2⟩ := g_va_D_iff.mp hD
  exact g_va_D_iff.mpr ⟨((h.map Prod.fst).pairwise_iff (fun {a b} (hab : a ≠ b) => hab.symm)).mp h1, fun q hq => h2 q (h.mem_iff.mpr hq)⟩
theorem g_app_l {w F : va_W} {k : Nat} {q : Nat × va_E} (h : w[k]? = some q) : (w ++ F)[k]? = some q := by
  rw [List.getElem?_append_left (List.getElem?_eq_some_iff.mp h).1]
  exact h
theorem g_app_r {w F : va_W} {k : Nat} {q : Nat × va_E} (h : F[k]? = some q) : (w ++ F)[w.length + k]? = some q := by
  rw [List.getElem?_append_right (Nat.le_add_right _ _), Nat.add_sub_cancel_left]
  exact h
theorem g_join {D : va_G} {A0 : Nat → Prop} {w F w1 : va_W} {H H1 : Heap} (hP : va_P D vwCl (w ++ F) H) (hD : va_D A0 (w ++ F)) (hk : ∀ q : Nat, q < H.size → ¬ va_A w H.size q → H1[q]? = H[q]?) (hF : ∀ q, va_A w H.size q → A0 q) (hP1 : va_P D vwCl w1 H1) (hD1 : va_D (va_A w H.size) w1) : va_P D vwCl (w1 ++ F) H1 ∧ va_D A0 (w1 ++ F) := by
  have key : ∀ (k : Nat) (q : Nat × va_E), F[k]? = some q → q.1 < H.size ∧ ¬ va_A w H.size q.1 := by
    intro k q hq
    have hlt : q.1 < H.size := (hP _ q (g_app_r hq)).lt
    refine ⟨hlt, ?_⟩
    rintro (⟨j, e, hj⟩ | h)
    · have := hD.1 j (w.length + k) (q.1, e) q (g_app_l hj) (g_app_r hq) rfl
      have := (List.getElem?_eq_some_iff.mp hj).1
      omega
    · omega
  refine ⟨hP1.app (fun k q hq => (hP _ q (g_app_r hq)).kept (hk q.1 (key k q hq).1 (key k q hq).2)), va_D.app (hD1.weaken fun _ q _ h => hF q.1 h) ?_ ?_⟩
  · refine ⟨fun i j p q hi hj he => ?_, fun k q hk => hD.2 _ q (g_app_r hk)⟩
    have := hD.1 _ _ p q (g_app_r hi) (g_app_r hj) he
    omega
  · intro i j p q hi hj he
    exact (key j q hj).2 (he ▸ hD1.2 i p hi)
theorem g_arrV_congr {c : ClassId} {n : Nat} {f g : Nat → Value} (h : ∀ j, j < n → f j = g j) : arrV c n f = arrV c n g := by
  have e : (fun j : Fin n => f j.val) = (fun j : Fin n => g j.val) := funext fun j => h j.val j.isLt
  unfold arrV
  rw [e]
/-- cells alike below their lengths -/
theorem g_arr_congr {c : ClassId} {n : Nat} {f g : Nat → Int32} (h : ∀ j, j < n → f j = g j) : vp_cell c (n, .inl f) = vp_cell c (n, .inl g) := by
  rw [vp_cell_i, vp_cell_i]
  exact g_arrV_congr fun j hj => by rw [h j hj]
def gPre (G : gG) (av : List Value) (w : va_W) (sz : Nat) : Array Value → State → Prop := va_Pc av (fun U => U.heap.size = sz ∧ va_P (gd G) vwCl w U.heap ∧ va_K (gd G) vwCl (gT (gy G)) U ∧ va_D (fun _ => True) w ∧ gZ (gz G) (va_A w sz) U U.heap)
def gB (G : gG) (w : va_W) (sz : Nat) (w' : va_W) (t : State) : Prop := va_P (gd G) vwCl w' t.heap ∧ va_K (gd G) vwCl (gT (gy G)) t ∧ va_D (va_A w sz) w'
/-- contracts: an int's, a long's, a void, a reference's -/
def CI (G : gG) (y : MethodName) (ws : List Cond) (fr lo : Nat) (av : List Value) (w : va_W) {S : Type} (post : Int32 → S → Prop) (w' : S → va_W) (mc ms : Nat) : Prop :=
  ∀ sz : Nat, Met (gl G) y ws { frames := fr, cells := mc, slots := ms, locals := lo } (gPre G av w sz) (va_Qi post (fun u t => gB G w sz (w' u) t) (va_A w sz)) mc ms (va_A w sz)
def CL (G : gG) (y : MethodName) (ws : List Cond) (fr lo : Nat) (av : List Value) (w : va_W) {S : Type} (post : Int64 → S → Prop) (w' : S → va_W) (mc ms : Nat) : Prop :=
  ∀ sz : Nat, Met (gl G) y ws { frames := fr, cells := mc, slots := ms, locals := lo } (gPre G av w sz) (va_Ql post (fun u t => gB G w sz (w' u) t) (va_A w sz)) mc ms (va_A w sz)
def CV (G : gG) (y : MethodName) (ws : List Cond) (fr lo : Nat) (av : List Value) (w : va_W) {S : Type} (post : S → Prop) (w' : S → va_W) (mc ms : Nat) : Prop :=
  ∀ sz : Nat, Met (gl G) y ws { frames := fr, cells := mc, slots := ms, locals := lo } (gPre G av w sz) (va_Qv post (fun u t => gB G w sz (w' u) t) (va_A w sz)) mc ms (va_A w sz)
def CR (G : gG) (y : MethodName) (ws : List Cond) (fr lo : Nat) (av : List Value) (w : va_W) {S : Type} (post : Nat → S → Prop) (w' : S → va_W) (mc ms : Nat) : Prop :=
  ∀ sz : Nat, Met (gl G) y ws { frames := fr, cells := mc, slots := ms, locals := lo } (gPre G av w sz) (va_Qr (fun u : Nat × S => post u.1 u.2) (fun u a t => a = u.1 ∧ gB G w sz (w' u.2) t) (va_A w sz)) mc ms (va_A w sz)
theorem gPre_blind {G : gG} {av : List Value} {w : va_W} {sz : Nat} : FrameBlind (gPre G av w sz) := fun a U g mk q => by
  obtain ⟨q0, q1, qP, qK, qD, qZ⟩ := q
  exact ⟨q0, q1, qP, va_K.moved (u := U) (U := U.calling g mk a) (Vm.Alike.refl U.vm) qK, qD, gZ.blind (u := U) (U := U.calling g mk a) qZ rfl rfl⟩
theorem gPre_at {G : gG} {av : List Value} {w : va_W} {H : Heap} {s U : State} {locs : List Loc} {A : Nat → Prop} (hU : U.heap = H) (hW : s.WarmedH U.vm) (hP : va_P (gd G) vwCl w H) (hK : va_K (gd G) vwCl (gT (gy G)) s) (hD : va_D A w) (hZ : gZ (gz G) A s s.heap) (hS : va_S A s.heap H locs) (hF : ∀ q, va_A w H.size q → A q) : gPre G av w H.size av.toArray U :=
  ⟨rfl, by rw [hU], by rw [hU]; exact hP, va_K.moved hW.alike hK, hD.weaken (fun _ _ _ _ => trivial), hZ.to hS hW hU hF⟩
end GC
theorem g_enterI {S : Type} {G : gG} {y : MethodName} {ws ws' : List Cond} {fr lo mc ms maxL : Nat} {av : List Value} {w : va_W} {post : Int32 → S → Prop} {w' : S → va_W} {cc : ByteArray} {ty : FieldType} (own : String) (hown : y.cls = own) (hy : plainName y.cls = true) (hw : ws = Cond.code y cc maxL (some ty) :: ws') (hn : (lg_sl av).length ≤ maxL) 
    (body : ∀ V : gV, gE V G cc maxL own ws { frames := fr, cells := mc, slots := ms, locals := lo } → (∀ (lv : List (Nat × Value)) (pc : Nat) (r : Int32) (u : S), post r u → narrow ty (.int r) = .int r → decode cc pc = .ok (.ireturn, 1) → gW V maxL mc ms (w' u) lv pc [.int r]) → gW V maxL 0 0 w (lv_args 0 av) 0 []) : CI G y ws fr lo av w post w' mc ms := by
  intro sz
  refine Met.ofW (cc := cc) (maxL := maxL) (ret := (some ty)) hy hw ?_
  intro p e s m args below meth c s₁ B hml hv
  obtain ⟨rfl, hsz, hP, hK, hD0, hZ⟩ := hv
  subst hsz
  subst hown
  have hts := atoms_spec (ws := ws) B.pre
  have hD := hD0.self (sz := s.heap.size)
  rw [lg_entry_eq]
  exact body (p, gl G, e, (headSpec ws { frames := fr, cells := mc, slots := ms, locals := lo }).room, s, m, av.toArray, below, meth, c, gd G, va_A w s.heap.size, s.heap, MQ below (va_Qi post (fun u t => gB G w s.heap.size (w' u) t) (va_A w s.heap.size)) av.toArray s mc ms (va_A w s.heap.size))
    ⟨B.exec, B.bytes, hml, findClass_of_methodNamed B.named, hts, hK, fun q h => Or.inr h, rfl, rfl, rfl, rfl, hZ⟩
    (fun lv pc r u hp hn d H locs ls hP hD hS hl => W.zret B.exec B.bytes B.returns hn (fun t ht hW => ⟨⟨r, u, rfl, hp, by rw [ht]; exact hP, va_K.moved hW.alike hK, hD⟩, hS.F ht⟩) hS.2.2 d B.notSynchronized) s.heap [] _ hP hD va_S.rf (lv_entry av hn)
theorem g_enterL {S : Type} {G : gG} {y : MethodName} {ws ws' : List Cond} {fr lo mc ms maxL : Nat} {av : List Value} {w : va_W} {post : Int64 → S → Prop} {w' : S → va_W} {cc : ByteArray}  (own : String) (hown : y.cls = own) (hy : plainName y.cls = true) (hw : ws = Cond.code y cc maxL (some .long) :: ws') (hn : (lg_sl av).length ≤ maxL) 
    (body : ∀ V : gV, gE V G cc maxL own ws { frames := fr, cells := mc, slots := ms, locals := lo } → (∀ (lv : List (Nat × Value)) (pc : Nat) (r : Int64) (u : S), post r u → decode cc pc = .ok (.lreturn, 1) → gW V maxL mc ms (w' u) lv pc [.long r]) → gW V maxL 0 0 w (lv_args 0 av) 0 []) : CL G y ws fr lo av w post w' mc ms := by
  intro sz
  refine Met.ofW (cc := cc) (maxL := maxL) (ret := (some .long)) hy hw ?_
  intro p e s m args below meth c s₁ B hml hv
  obtain ⟨rfl, hsz, hP, hK, hD0, hZ⟩ := hv
  subst hsz
  subst hown
  have hts := atoms_spec (ws := ws) B.pre
  have hD := hD0.self (sz := s.heap.size)
  rw [lg_entry_eq]
  exact body (p, gl G, e, (headSpec ws { frames := fr, cells := mc, slots := ms, locals := lo }).room, s, m, av.toArray, below, meth, c, gd G, va_A w s.heap.size, s.heap, MQ below (va_Ql post (fun u t => gB G w s.heap.size (w' u) t) (va_A w s.heap.size)) av.toArray s mc ms (va_A w s.heap.size))
    ⟨B.exec, B.bytes, hml, findClass_of_methodNamed B.named, hts, hK, fun q h => Or.inr h, rfl, rfl, rfl, rfl, hZ⟩
    (fun lv pc r u hp d H locs ls hP hD hS hl => W.lret B.exec B.bytes B.returns (fun t ht hW => ⟨⟨r, u, rfl, hp, by rw [ht]; exact hP, va_K.moved hW.alike hK, hD⟩, hS.F ht⟩) hS.2.2 d B.notSynchronized) s.heap [] _ hP hD va_S.rf (lv_entry av hn)
theorem g_enterV {S : Type} {G : gG} {y : MethodName} {ws ws' : List Cond} {fr lo mc ms maxL : Nat} {av : List Value} {w : va_W} {post : S → Prop} {w' : S → va_W} {cc : ByteArray}  (own : String) (hown : y.cls = own) (hy : plainName y.cls = true) (hw : ws = Cond.code y cc maxL none :: ws') (hn : (lg_sl av).length ≤ maxL) 
    (body : ∀ V : gV, gE V G cc maxL own ws { frames := fr, cells := mc, slots := ms, locals := lo } → (∀ (lv : List (Nat × Value)) (pc : Nat) (u : S), post u → decode cc pc = .ok (.return_, 1) → gW V maxL mc ms (w' u) lv pc []) → gW V maxL 0 0 w (lv_args 0 av) 0 []) : CV G y ws fr lo av w post w' mc ms := by
  intro sz
  refine Met.ofW (cc := cc) (maxL := maxL) (ret := none) hy hw ?_
  intro p e s m args below meth c s₁ B hml hv
  obtain ⟨rfl, hsz, hP, hK, hD0, hZ⟩ := hv
  subst hsz
  subst hown
  have hts := atoms_spec (ws := ws) B.pre
  have hD := hD0.self (sz := s.heap.size)
  rw [lg_entry_eq]
  exact body (p, gl G, e, (headSpec ws { frames := fr, cells := mc, slots := ms, locals := lo }).room, s, m, av.toArray, below, meth, c, gd G, va_A w s.heap.size, s.heap, MQ below (va_Qv post (fun u t => gB G w s.heap.size (w' u) t) (va_A w s.heap.size)) av.toArray s mc ms (va_A w s.heap.size))
    ⟨B.exec, B.bytes, hml, findClass_of_methodNamed B.named, hts, hK, fun q h => Or.inr h, rfl, rfl, rfl, rfl, hZ⟩
    (fun lv pc u hp d H locs ls hP hD hS hl => W.vret B.exec B.bytes B.returns (fun t ht hW => ⟨⟨u, rfl, hp, by rw [ht]; exact hP, va_K.moved hW.alike hK, hD⟩, hS.F ht⟩) hS.2.2 d B.notSynchronized) s.heap [] _ hP hD va_S.rf (lv_entry av hn)
theorem g_enterVX {S : Type} {G : gG} {y : MethodName} {ws ws' : List Cond} {fr lo mc ms maxL : Nat} {av : List Value} {w : va_W} {post : S → Prop} {w' : S → va_W} {cc : ByteArray}  (own : String) (hown : y.cls = own) (hy : plainName y.cls = true) (hw : ws = Cond.code y cc maxL none :: ws') (hn : (lg_sl av).length ≤ maxL)  (hini : y.name = "<init>")
    (body : ∀ V : gV, gE V G cc maxL own ws { frames := fr, cells := mc, slots := ms, locals := lo } → (gvY V).name = "<init>" → (∀ (lv : List (Nat × Value)) (pc : Nat) (u : S), post u → decode cc pc = .ok (.return_, 1) → gW V maxL mc ms (w' u) lv pc []) → gW V maxL 0 0 w (lv_args 0 av) 0 []) : CV G y ws fr lo av w post w' mc ms := by
  intro sz
  refine Met.ofW (cc := cc) (maxL := maxL) (ret := none) hy hw ?_
  intro p e s m args below meth c s₁ B hml hv
  obtain ⟨rfl, hsz, hP, hK, hD0, hZ⟩ := hv
  subst hsz
  subst hown
  have hts := atoms_spec (ws := ws) B.pre
  have hD := hD0.self (sz := s.heap.size)
  rw [lg_entry_eq]
  exact body (p, gl G, e, (headSpec ws { frames := fr, cells := mc, slots := ms, locals := lo }).room, s, m, av.toArray, below, meth, c, gd G, va_A w s.heap.size, s.heap, MQ below (va_Qv post (fun u t => gB G w s.heap.size (w' u) t) (va_A w s.heap.size)) av.toArray s mc ms (va_A w s.heap.size))
    ⟨B.exec, B.bytes, hml, findClass_of_methodNamed B.named, hts, hK, fun q h => Or.inr h, rfl, rfl, rfl, rfl, hZ⟩ (by rw [← hini]; exact (name_of_methodNamed B.named B.method).1)
    (fun lv pc u hp d H locs ls hP hD hS hl => W.vret B.exec B.bytes B.returns (fun t ht hW => ⟨⟨u, rfl, hp, by rw [ht]; exact hP, va_K.moved hW.alike hK, hD⟩, hS.F ht⟩) hS.2.2 d B.notSynchronized) s.heap [] _ hP hD va_S.rf (lv_entry av hn)
theorem g_enterR {S : Type} {G : gG} {y : MethodName} {ws ws' : List Cond} {fr lo mc ms maxL : Nat} {av : List Value} {w : va_W} {post : Nat → S → Prop} {w' : S → va_W} {cc : ByteArray} {ty : FieldType} (own : String) (hown : y.cls = own) (hy : plainName y.cls = true) (hw : ws = Cond.code y cc maxL (some ty) :: ws') (hn : (lg_sl av).length ≤ maxL) (hrt : (∃ n, ty = .object n) ∨ ∃ t, ty = .array t)
    (body : ∀ V : gV, gE V G cc maxL own ws { frames := fr, cells := mc, slots := ms, locals := lo } → (∀ (lv : List (Nat × Value)) (pc : Nat) (r : Nat) (u : S), post r u → decode cc pc = .ok (.areturn, 1) → gW V maxL mc ms (w' u) lv pc [.ref r]) → gW V maxL 0 0 w (lv_args 0 av) 0 []) : CR G y ws fr lo av w post w' mc ms := by
  intro sz
  refine Met.ofW (cc := cc) (maxL := maxL) (ret := (some ty)) hy hw ?_
  intro p e s m args below meth c s₁ B hml hv
  obtain ⟨rfl, hsz, hP, hK, hD0, hZ⟩ := hv
  subst hsz
  subst hown
  have hts := atoms_spec (ws := ws) B.pre
  have hD := hD0.self (sz := s.heap.size)
  rw [lg_entry_eq]
  exact body (p, gl G, e, (headSpec ws { frames := fr, cells := mc, slots := ms, locals := lo }).room, s, m, av.toArray, below, meth, c, gd G, va_A w s.heap.size, s.heap, MQ below (va_Qr (fun u : Nat × S => post u.1 u.2) (fun u a t => a = u.1 ∧ gB G w s.heap.size (w' u.2) t) (va_A w s.heap.size)) av.toArray s mc ms (va_A w s.heap.size))
    ⟨B.exec, B.bytes, hml, findClass_of_methodNamed B.named, hts, hK, fun q h => Or.inr h, rfl, rfl, rfl, rfl, hZ⟩
    (fun lv pc r u hp d H locs ls hP hD hS hl => W.aret B.exec B.bytes B.returns hrt (Or.inr ⟨r, rfl⟩) (fun t ht hW => ⟨⟨(r, u), r, rfl, hp, rfl, by rw [ht]; exact hP, va_K.moved hW.alike hK, hD⟩, hS.F ht⟩) hS.2.2 d B.notSynchronized) s.heap [] _ hP hD va_S.rf (lv_entry av hn)
section GK
variable {V : gV} {G : gG} {cc : ByteArray} {nL : Nat} {own : String} {Ts : List Cond} {rm : Room} {cells slots : Nat} {ws : va_W} {lv : List (Nat × Value)} {pc : Nat} {rest : List Value}
theorem g_callVI (E : gE V G cc nL own Ts rm) {S : Type} {y : MethodName} {wsY wsY' : List Cond} {fr lo mc ms mL : Nat} {b : Nat} {As : List Value} {w : va_W} {post : Int32 → S → Prop} {w' : S → va_W} {bytes : ByteArray} {ty : FieldType} {C : String}  {index n : Nat} (hM : CI G y wsY fr lo (.ref b :: As) w post w' mc ms) (hG : GoodIn Ts (wsV own index C y wsY)) (hwY : wsY = Cond.code y bytes mL (some ty) :: wsY') (hd : y.cls = C ∧ y.cls ≠ "java/lang/invoke/MethodHandle" ∧ y.cls ≠ "java/lang/invoke/VarHandle" ∧ (parseMethodDescriptor y.desc).map (fun d => d.parameters.length) = some n) (hR : fr + 1 ≤ rm.frames ∧ 8 + (mL + 11) + lo ≤ rm.locals) (ci q0 : Nat) {q : vw_C} {fs : List Value} (hc : vwCl[ci]? = some q) (hq : q.1 = C) (he : w[q0]? = some (b, .inr (ci, fs))) {F : va_W} (hp : gPerm ws (w ++ F)) (hn : As.length = n) {st : List Value} (hst : st = As.reverse ++ .ref b :: rest) (hr : (rest.map fun v => v.category).sum ≤ 8) (d : decode cc pc = .ok (.invokevirtual index, 3)) (hf : cells + mc ≤ rm.cells ∧ slots + ms ≤ rm.slots)
    (k : ∀ (r : Int32) (u : S), post r u → gW V nL (cells + mc) (slots + ms) (w' u ++ F) lv (pc + 3) (.int r :: rest)) : gW V nL cells slots ws lv pc st := by
  intro H locs ls hP hD hS hl
  subst hst
  have hd' := E.d
  have hSs : va_S (gvO V) (gvS V).heap H locs := E.h ▸ hS
  have hl' := E.la
  obtain rfl := E.r
  have hKc := E.k
  have hM' := hM H.size
  rw [hd'] at hKc
  rw [← hl'] at hM'
  have hPa := (hp (gvD V) H (gvO V)).1 hP
  have hDa := (hp (gvD V) H (gvO V)).2 hD
  have hPc : va_P (gvD V) vwCl w H := fun k q hk => hPa k q (g_app_l hk)
  have hPg : va_P (gd G) vwCl w H := by rw [← hd']; exact hPc
  have hDc : va_D (gvO V) w := ⟨fun i j p q hi hj he => hDa.1 i j p q (g_app_l hi) (g_app_l hj) he, fun k q hk => hDa.2 k q (g_app_l hk)⟩
  have hFc : ∀ q, va_A w H.size q → gvO V q := by
    rintro q (⟨k, e, hk⟩ | h)
    · exact hDc.2 k _ hk
    · exact E.o q (Nat.le_trans hS.1 h)
  refine va_calli (va_runV (As := As) (rest := rest) ⟨E.x, E.b, E.ml, E.ow, E.ts⟩ hM' (cwV n E.ts hG hwY rfl rfl hd hR) ⟨gPre_blind, hq ▸ va_recv E.k hPc hc he, fun U hU hW => gPre_at hU hW hPg hKc hDc E.z hSs hFc⟩ rfl hn hl.1 rfl (lv_room hr) d hf) hS (fun q _ h => hFc q h) hFc (fun r u t H1 locs1 ht hvm hw hB hz1 hk1 hS1 => ?_)
  obtain ⟨hP1, hK1, hD1⟩ := hB
  rw [ht] at hP1
  rw [← hd'] at hP1
  have hJ := g_join hPa hDa hk1 hFc hP1 hD1
  exact k r u hw H1 locs1 ls hJ.1 hJ.2 hS1 hl
theorem g_callVL (E : gE V G cc nL own Ts rm) {S : Type} {y : MethodName} {wsY wsY' : List Cond} {fr lo mc ms mL : Nat} {b : Nat} {As : List Value} {w : va_W} {post : Int64 → S → Prop} {w' : S → va_W} {bytes : ByteArray}  {C : String}  {index n : Nat} (hM : CL G y wsY fr lo (.ref b :: As) w post w' mc ms) (hG : GoodIn Ts (wsV own index C y wsY)) (hwY : wsY = Cond.code y bytes mL (some .long) :: wsY') (hd : y.cls = C ∧ y.cls ≠ "java/lang/invoke/MethodHandle" ∧ y.cls ≠ "java/lang/invoke/VarHandle" ∧ (parseMethodDescriptor y.desc).map (fun d => d.parameters.length) = some n) (hR : fr + 1 ≤ rm.frames ∧ 8 + (mL + 11) + lo ≤ rm.locals) (ci q0 : Nat) {q : vw_C} {fs : List Value} (hc : vwCl[ci]? = some q) (hq : q.1 = C) (he : w[q0]? = some (b, .inr (ci, fs))) {F : va_W} (hp : gPerm ws (w ++ F)) (hn : As.length = n) {st : List Value} (hst : st = As.reverse ++ .ref b :: rest) (hr : (rest.map fun v => v.category).sum ≤ 8) (d : decode cc pc = .ok (.invokevirtual index, 3)) (hf : cells + mc ≤ rm.cells ∧ slots + ms ≤ rm.slots)
    (k : ∀ (r : Int64) (u : S), post r u → gW V nL (cells + mc) (slots + ms) (w' u ++ F) lv (pc + 3) (.long r :: rest)) : gW V nL cells slots ws lv pc st := by
  intro H locs ls hP hD hS hl
  subst hst
  have hd' := E.d
  have hSs : va_S (gvO V) (gvS V).heap H locs := E.h ▸ hS
  have hl' := E.la
  obtain rfl := E.r
  have hKc := E.k
  have hM' := hM H.size
  rw [hd'] at hKc
  rw [← hl'] at hM'
  have hPa := (hp (gvD V) H (gvO V)).1 hP
  have hDa := (hp (gvD V) H (gvO V)).2 hD
  have hPc : va_P (gvD V) vwCl w H := fun k q hk => hPa k q (g_app_l hk)
  have hPg : va_P (gd G) vwCl w H := by rw [← hd']; exact hPc
  have hDc : va_D (gvO V) w := ⟨fun i j p q hi hj he => hDa.1 i j p q (g_app_l hi) (g_app_l hj) he, fun k q hk => hDa.2 k q (g_app_l hk)⟩
  have hFc : ∀ q, va_A w H.size q → gvO V q := by
    rintro q (⟨k, e, hk⟩ | h)
    · exact hDc.2 k _ hk
    · exact E.o q (Nat.le_trans hS.1 h)
  refine va_calll (va_runV (As := As) (rest := rest) ⟨E.x, E.b, E.ml, E.ow, E.ts⟩ hM' (cwV n E.ts hG hwY rfl rfl hd hR) ⟨gPre_blind, hq ▸ va_recv E.k hPc hc he, fun U hU hW => gPre_at hU hW hPg hKc hDc E.z hSs hFc⟩ rfl hn hl.1 rfl (lv_room hr) d hf) hS (fun q _ h => hFc q h) hFc (fun r u t H1 locs1 ht hvm hw hB hz1 hk1 hS1 => ?_)
  obtain ⟨hP1, hK1, hD1⟩ := hB
  rw [ht] at hP1
  rw [← hd'] at hP1
  have hJ := g_join hPa hDa hk1 hFc hP1 hD1
  exact k r u hw H1 locs1 ls hJ.1 hJ.2 hS1 hl
theorem g_callVV (E : gE V G cc nL own Ts rm) {S : Type} {y : MethodName} {wsY wsY' : List Cond} {fr lo mc ms mL : Nat} {b : Nat} {As : List Value} {w : va_W} {post : S → Prop} {w' : S → va_W} {bytes : ByteArray}  {C : String}  {index n : Nat} (hM : CV G y wsY fr lo (.ref b :: As) w post w' mc ms) (hG : GoodIn Ts (wsV own index C y wsY)) (hwY : wsY = Cond.code y bytes mL none :: wsY') (hd : y.cls = C ∧ y.cls ≠ "java/lang/invoke/MethodHandle" ∧ y.cls ≠ "java/lang/invoke/VarHandle" ∧ (parseMethodDescriptor y.desc).map (fun d => d.parameters.length) = some n) (hR : fr + 1 ≤ rm.frames ∧ 8 + (mL + 11) + lo ≤ rm.locals) (ci q0 : Nat) {q : vw_C} {fs : List Value} (hc : vwCl[ci]? = some q) (hq : q.1 = C) (he : w[q0]? = some (b, .inr (ci, fs))) {F : va_W} (hp : gPerm ws (w ++ F)) (hn : As.length = n) {st : List Value} (hst : st = As.reverse ++ .ref b :: rest) (hr : (rest.map fun v => v.category).sum ≤ 8) (d : decode cc pc = .ok (.invokevirtual index, 3)) (hf : cells + mc ≤ rm.cells ∧ slots + ms ≤ rm.slots)
    (k : ∀ u : S, post u → gW V nL (cells + mc) (slots + ms) (w' u ++ F) lv (pc + 3) rest) : gW V nL cells slots ws lv pc st := by
  intro H locs ls hP hD hS hl
  subst hst
  have hd' := E.d
  have hSs : va_S (gvO V) (gvS V).heap H locs := E.h ▸ hS
  have hl' := E.la
  obtain rfl := E.r
  have hKc := E.k
  have hM' := hM H.size
  rw [hd'] at hKc
  rw [← hl'] at hM'
  have hPa := (hp (gvD V) H (gvO V)).1 hP
  have hDa := (hp (gvD V) H (gvO V)).2 hD
  have hPc : va_P (gvD V) vwCl w H := fun k q hk => hPa k q (g_app_l hk)
  have hPg : va_P (gd G) vwCl w H := by rw [← hd']; exact hPc
  have hDc : va_D (gvO V) w := ⟨fun i j p q hi hj he => hDa.1 i j p q (g_app_l hi) (g_app_l hj) he, fun k q hk => hDa.2 k q (g_app_l hk)⟩
  have hFc : ∀ q, va_A w H.size q → gvO V q := by
    rintro q (⟨k, e, hk⟩ | h)
    · exact hDc.2 k _ hk
    · exact E.o q (Nat.le_trans hS.1 h)
  refine va_callv (va_runV (As := As) (rest := rest) ⟨E.x, E.b, E.ml, E.ow, E.ts⟩ hM' (cwV n E.ts hG hwY rfl rfl hd hR) ⟨gPre_blind, hq ▸ va_recv E.k hPc hc he, fun U hU hW => gPre_at hU hW hPg hKc hDc E.z hSs hFc⟩ rfl hn hl.1 rfl (lv_room hr) d hf) hS (fun q _ h => hFc q h) hFc (fun u t H1 locs1 ht hvm hw hB hz1 hk1 hS1 => ?_)
  obtain ⟨hP1, hK1, hD1⟩ := hB
  rw [ht] at hP1
  rw [← hd'] at hP1
  have hJ := g_join hPa hDa hk1 hFc hP1 hD1
  exact k u hw H1 locs1 ls hJ.1 hJ.2 hS1 hl
theorem g_callVR (E : gE V G cc nL own Ts rm) {S : Type} {y : MethodName} {wsY wsY' : List Cond} {fr lo mc ms mL : Nat} {b : Nat} {As : List Value} {w : va_W} {post : Nat → S → Prop} {w' : S → va_W} {bytes : ByteArray} {ty : FieldType} {C : String}  {index n : Nat} (hM : CR G y wsY fr lo (.ref b :: As) w post w' mc ms) (hG : GoodIn Ts (wsV own index C y wsY)) (hwY : wsY = Cond.code y bytes mL (some ty) :: wsY') (hd : y.cls = C ∧ y.cls ≠ "java/lang/invoke/MethodHandle" ∧ y.cls ≠ "java/lang/invoke/VarHandle" ∧ (parseMethodDescriptor y.desc).map (fun d => d.parameters.length) = some n) (hR : fr + 1 ≤ rm.frames ∧ 8 + (mL + 11) + lo ≤ rm.locals) (ci q0 : Nat) {q : vw_C} {fs : List Value} (hc : vwCl[ci]? = some q) (hq : q.1 = C) (he : w[q0]? = some (b, .inr (ci, fs))) {F : va_W} (hp : gPerm ws (w ++ F)) (hn : As.length = n) {st : List Value} (hst : st = As.reverse ++ .ref b :: rest) (hr : (rest.map fun v => v.category).sum ≤ 8) (d : decode cc pc = .ok (.invokevirtual index, 3)) (hf : cells + mc ≤ rm.cells ∧ slots + ms ≤ rm.slots)
    (k : ∀ (r : Nat) (u : S), post r u → gW V nL (cells + mc) (slots + ms) (w' u ++ F) lv (pc + 3) (.ref r :: rest)) : gW V nL cells slots ws lv pc st := by
  intro H locs ls hP hD hS hl
  subst hst
  have hd' := E.d
  have hSs : va_S (gvO V) (gvS V).heap H locs := E.h ▸ hS
  have hl' := E.la
  obtain rfl := E.r
  have hKc := E.k
  have hM' := hM H.size
  rw [hd'] at hKc
  rw [← hl'] at hM'
  have hPa := (hp (gvD V) H (gvO V)).1 hP
  have hDa := (hp (gvD V) H (gvO V)).2 hD
  have hPc : va_P (gvD V) vwCl w H := fun k q hk => hPa k q (g_app_l hk)
  have hPg : va_P (gd G) vwCl w H := by rw [← hd']; exact hPc
  have hDc : va_D (gvO V) w := ⟨fun i j p q hi hj he => hDa.1 i j p q (g_app_l hi) (g_app_l hj) he, fun k q hk => hDa.2 k q (g_app_l hk)⟩
  have hFc : ∀ q, va_A w H.size q → gvO V q := by
    rintro q (⟨k, e, hk⟩ | h)
    · exact hDc.2 k _ hk
    · exact E.o q (Nat.le_trans hS.1 h)
  refine va_callr (va_runV (As := As) (rest := rest) ⟨E.x, E.b, E.ml, E.ow, E.ts⟩ hM' (cwV n E.ts hG hwY rfl rfl hd hR) ⟨gPre_blind, hq ▸ va_recv E.k hPc hc he, fun U hU hW => gPre_at hU hW hPg hKc hDc E.z hSs hFc⟩ rfl hn hl.1 rfl (lv_room hr) d hf) hS (fun q _ h => hFc q h) hFc (fun u ra t H1 locs1 ht hvm hw hB hz1 hk1 hS1 => ?_)
  obtain ⟨rfl, hP1, hK1, hD1⟩ := hB
  rw [ht] at hP1
  rw [← hd'] at hP1
  have hJ := g_join hPa hDa hk1 hFc hP1 hD1
  exact k u.1 u.2 hw H1 locs1 ls hJ.1 hJ.2 hS1 hl
theorem g_callSI (E : gE V G cc nL own Ts rm) {S : Type} {y : MethodName} {wsY wsY' : List Cond} {fr lo mc ms mL : Nat}  {As : List Value} {w : va_W} {post : Int32 → S → Prop} {w' : S → va_W} {bytes : ByteArray} {ty : FieldType}   {index n : Nat} (hM : CI G y wsY fr lo As w post w' mc ms) (hG : GoodIn Ts (va_wsS own index y wsY)) (hwY : wsY = Cond.code y bytes mL (some ty) :: wsY') (hd : y.cls ≠ "java/lang/invoke/MethodHandle" ∧ y.cls ≠ "java/lang/invoke/VarHandle" ∧ (parseMethodDescriptor y.desc).map (fun d => d.parameters.length) = some n) (hR : fr + 1 ≤ rm.frames ∧ 8 + (mL + 11) + lo ≤ rm.locals)  {F : va_W} (hp : gPerm ws (w ++ F)) (hn : As.length = n) {st : List Value} (hst : st = As.reverse ++ rest) (hr : (rest.map fun v => v.category).sum ≤ 8) (d : decode cc pc = .ok (.invokestatic index, 3)) (hf : cells + mc ≤ rm.cells ∧ slots + ms ≤ rm.slots)
    (k : ∀ (r : Int32) (u : S), post r u → gW V nL (cells + mc) (slots + ms) (w' u ++ F) lv (pc + 3) (.int r :: rest)) : gW V nL cells slots ws lv pc st := by
  intro H locs ls hP hD hS hl
  subst hst
  have hd' := E.d
  have hSs : va_S (gvO V) (gvS V).heap H locs := E.h ▸ hS
  have hl' := E.la
  obtain rfl := E.r
  have hKc := E.k
  have hM' := hM H.size
  rw [hd'] at hKc
  rw [← hl'] at hM'
  have hPa := (hp (gvD V) H (gvO V)).1 hP
  have hDa := (hp (gvD V) H (gvO V)).2 hD
  have hPc : va_P (gvD V) vwCl w H := fun k q hk => hPa k q (g_app_l hk)
  have hPg : va_P (gd G) vwCl w H := by rw [← hd']; exact hPc
  have hDc : va_D (gvO V) w := ⟨fun i j p q hi hj he => hDa.1 i j p q (g_app_l hi) (g_app_l hj) he, fun k q hk => hDa.2 k q (g_app_l hk)⟩
  have hFc : ∀ q, va_A w H.size q → gvO V q := by
    rintro q (⟨k, e, hk⟩ | h)
    · exact hDc.2 k _ hk
    · exact E.o q (Nat.le_trans hS.1 h)
  refine va_calli (va_runS (As := As) (rest := rest) ⟨E.x, E.b, E.ml, E.ow, E.ts⟩ hM' (va_cwS n E.ts hG hwY rfl rfl hd hR) ⟨gPre_blind, fun U hU hW => gPre_at hU hW hPg hKc hDc E.z hSs hFc⟩ rfl hn hl.1 rfl (lv_room hr) d hf) hS (fun q _ h => hFc q h) hFc (fun r u t H1 locs1 ht hvm hw hB hz1 hk1 hS1 => ?_)
  obtain ⟨hP1, hK1, hD1⟩ := hB
  rw [ht] at hP1
  rw [← hd'] at hP1
  have hJ := g_join hPa hDa hk1 hFc hP1 hD1
  exact k r u hw H1 locs1 ls hJ.1 hJ.2 hS1 hl
theorem g_callSL (E : gE V G cc nL own Ts rm) {S : Type} {y : MethodName} {wsY wsY' : List Cond} {fr lo mc ms mL : Nat}  {As : List Value} {w : va_W} {post : Int64 → S → Prop} {w' : S → va_W} {bytes : ByteArray}    {index n : Nat} (hM : CL G y wsY fr lo As w post w' mc ms) (hG : GoodIn Ts (va_wsS own index y wsY)) (hwY : wsY = Cond.code y bytes mL (some .long) :: wsY') (hd : y.cls ≠ "java/lang/invoke/MethodHandle" ∧ y.cls ≠ "java/lang/invoke/VarHandle" ∧ (parseMethodDescriptor y.desc).map (fun d => d.parameters.length) = some n) (hR : fr + 1 ≤ rm.frames ∧ 8 + (mL + 11) + lo ≤ rm.locals)  {F : va_W} (hp : gPerm ws (w ++ F)) (hn : As.length = n) {st : List Value} (hst : st = As.reverse ++ rest) (hr : (rest.map fun v => v.category).sum ≤ 8) (d : decode cc pc = .ok (.invokestatic index, 3)) (hf : cells + mc ≤ rm.cells ∧ slots + ms ≤ rm.slots)
    (k : ∀ (r : Int64) (u : S), post r u → gW V nL (cells + mc) (slots + ms) (w' u ++ F) lv (pc + 3) (.long r :: rest)) : gW V nL cells slots ws lv pc st := by
  intro H locs ls hP hD hS hl
  subst hst
  have hd' := E.d
  have hSs : va_S (gvO V) (gvS V).heap H locs := E.h ▸ hS
  have hl' := E.la
  obtain rfl := E.r
  have hKc := E.k
  have hM' := hM H.size
  rw [hd'] at hKc
  rw [← hl'] at hM'
  have hPa := (hp (gvD V) H (gvO V)).1 hP
  have hDa := (hp (gvD V) H (gvO V)).2 hD
  have hPc : va_P (gvD V) vwCl w H := fun k q hk => hPa k q (g_app_l hk)
  have hPg : va_P (gd G) vwCl w H := by rw [← hd']; exact hPc
  have hDc : va_D (gvO V) w := ⟨fun i j p q hi hj he => hDa.1 i j p q (g_app_l hi) (g_app_l hj) he, fun k q hk => hDa.2 k q (g_app_l hk)⟩
  have hFc : ∀ q, va_A w H.size q → gvO V q := by
    rintro q (⟨k, e, hk⟩ | h)
    · exact hDc.2 k _ hk
    · exact E.o q (Nat.le_trans hS.1 h)
  refine va_calll (va_runS (As := As) (rest := rest) ⟨E.x, E.b, E.ml, E.ow, E.ts⟩ hM' (va_cwS n E.ts hG hwY rfl rfl hd hR) ⟨gPre_blind, fun U hU hW => gPre_at hU hW hPg hKc hDc E.z hSs hFc⟩ rfl hn hl.1 rfl (lv_room hr) d hf) hS (fun q _ h => hFc q h) hFc (fun r u t H1 locs1 ht hvm hw hB hz1 hk1 hS1 => ?_)
  obtain ⟨hP1, hK1, hD1⟩ := hB
  rw [ht] at hP1
  rw [← hd'] at hP1
  have hJ := g_join hPa hDa hk1 hFc hP1 hD1
  exact k r u hw H1 locs1 ls hJ.1 hJ.2 hS1 hl
theorem g_callSV (E : gE V G cc nL own Ts rm) {S : Type} {y : MethodName} {wsY wsY' : List Cond} {fr lo mc ms mL : Nat}  {As : List Value} {w : va_W} {post : S → Prop} {w' : S → va_W} {bytes : ByteArray}    {index n : Nat} (hM : CV G y wsY fr lo As w post w' mc ms) (hG : GoodIn Ts (va_wsS own index y wsY)) (hwY : wsY = Cond.code y bytes mL none :: wsY') (hd : y.cls ≠ "java/lang/invoke/MethodHandle" ∧ y.cls ≠ "java/lang/invoke/VarHandle" ∧ (parseMethodDescriptor y.desc).map (fun d => d.parameters.length) = some n) (hR : fr + 1 ≤ rm.frames ∧ 8 + (mL + 11) + lo ≤ rm.locals)  {F : va_W} (hp : gPerm ws (w ++ F)) (hn : As.length = n) {st : List Value} (hst : st = As.reverse ++ rest) (hr : (rest.map fun v => v.category).sum ≤ 8) (d : decode cc pc = .ok (.invokestatic index, 3)) (hf : cells + mc ≤ rm.cells ∧ slots + ms ≤ rm.slots)
    (k : ∀ u : S, post u → gW V nL (cells + mc) (slots + ms) (w' u ++ F) lv (pc + 3) rest) : gW V nL cells slots ws lv pc st := by
  intro H locs ls hP hD hS hl
  subst hst
  have hd' := E.d
  have hSs : va_S (gvO V) (gvS V).heap H locs := E.h ▸ hS
  have hl' := E.la
  obtain rfl := E.r
  have hKc := E.k
  have hM' := hM H.size
  rw [hd'] at hKc
  rw [← hl'] at hM'
  have hPa := (hp (gvD V) H (gvO V)).1 hP
  have hDa := (hp (gvD V) H (gvO V)).2 hD
  have hPc : va_P (gvD V) vwCl w H := fun k q hk => hPa k q (g_app_l hk)
  have hPg : va_P (gd G) vwCl w H := by rw [← hd']; exact hPc
  have hDc : va_D (gvO V) w := ⟨fun i j p q hi hj he => hDa.1 i j p q (g_app_l hi) (g_app_l hj) he, fun k q hk => hDa.2 k q (g_app_l hk)⟩
  have hFc : ∀ q, va_A w H.size q → gvO V q := by
    rintro q (⟨k, e, hk⟩ | h)
    · exact hDc.2 k _ hk
    · exact E.o q (Nat.le_trans hS.1 h)
  refine va_callv (va_runS (As := As) (rest := rest) ⟨E.x, E.b, E.ml, E.ow, E.ts⟩ hM' (va_cwS n E.ts hG hwY rfl rfl hd hR) ⟨gPre_blind, fun U hU hW => gPre_at hU hW hPg hKc hDc E.z hSs hFc⟩ rfl hn hl.1 rfl (lv_room hr) d hf) hS (fun q _ h => hFc q h) hFc (fun u t H1 locs1 ht hvm hw hB hz1 hk1 hS1 => ?_)
  obtain ⟨hP1, hK1, hD1⟩ := hB
  rw [ht] at hP1
  rw [← hd'] at hP1
  have hJ := g_join hPa hDa hk1 hFc hP1 hD1
  exact k u hw H1 locs1 ls hJ.1 hJ.2 hS1 hl
theorem g_callSR (E : gE V G cc nL own Ts rm) {S : Type} {y : MethodName} {wsY wsY' : List Cond} {fr lo mc ms mL : Nat}  {As : List Value} {w : va_W} {post : Nat → S → Prop} {w' : S → va_W} {bytes : ByteArray} {ty : FieldType}   {index n : Nat} (hM : CR G y wsY fr lo As w post w' mc ms) (hG : GoodIn Ts (va_wsS own index y wsY)) (hwY : wsY = Cond.code y bytes mL (some ty) :: wsY') (hd : y.cls ≠ "java/lang/invoke/MethodHandle" ∧ y.cls ≠ "java/lang/invoke/VarHandle" ∧ (parseMethodDescriptor y.desc).map (fun d => d.parameters.length) = some n) (hR : fr + 1 ≤ rm.frames ∧ 8 + (mL + 11) + lo ≤ rm.locals)  {F : va_W} (hp : gPerm ws (w ++ F)) (hn : As.length = n) {st : List Value} (hst : st = As.reverse ++ rest) (hr : (rest.map fun v => v.category).sum ≤ 8) (d : decode cc pc = .ok (.invokestatic index, 3)) (hf : cells + mc ≤ rm.cells ∧ slots + ms ≤ rm.slots)
    (k : ∀ (r : Nat) (u : S), post r u → gW V nL (cells + mc) (slots + ms) (w' u ++ F) lv (pc + 3) (.ref r :: rest)) : gW V nL cells slots ws lv pc st := by
  intro H locs ls hP hD hS hl
  subst hst
  have hd' := E.d
  have hSs : va_S (gvO V) (gvS V).heap H locs := E.h ▸ hS
  have hl' := E.la
  obtain rfl := E.r
  have hKc := E.k
  have hM' := hM H.size
  rw [hd'] at hKc
  rw [← hl'] at hM'
  have hPa := (hp (gvD V) H (gvO V)).1 hP
  have hDa := (hp (gvD V) H (gvO V)).2 hD
  have hPc : va_P (gvD V) vwCl w H := fun k q hk => hPa k q (g_app_l hk)
  have hPg : va_P (gd G) vwCl w H := by rw [← hd']; exact hPc
  have hDc : va_D (gvO V) w := ⟨fun i j p q hi hj he => hDa.1 i j p q (g_app_l hi) (g_app_l hj) he, fun k q hk => hDa.2 k q (g_app_l hk)⟩
  have hFc : ∀ q, va_A w H.size q → gvO V q := by
    rintro q (⟨k, e, hk⟩ | h)
    · exact hDc.2 k _ hk
    · exact E.o q (Nat.le_trans hS.1 h)
  refine va_callr (va_runS (As := As) (rest := rest) ⟨E.x, E.b, E.ml, E.ow, E.ts⟩ hM' (va_cwS n E.ts hG hwY rfl rfl hd hR) ⟨gPre_blind, fun U hU hW => gPre_at hU hW hPg hKc hDc E.z hSs hFc⟩ rfl hn hl.1 rfl (lv_room hr) d hf) hS (fun q _ h => hFc q h) hFc (fun u ra t H1 locs1 ht hvm hw hB hz1 hk1 hS1 => ?_)
  obtain ⟨rfl, hP1, hK1, hD1⟩ := hB
  rw [ht] at hP1
  rw [← hd'] at hP1
  have hJ := g_join hPa hDa hk1 hFc hP1 hD1
  exact k u.1 u.2 hw H1 locs1 ls hJ.1 hJ.2 hS1 hl
theorem g_callIV (E : gE V G cc nL own Ts rm) {S : Type} {y : MethodName} {wsY wsY' : List Cond} {fr lo mc ms mL : Nat} {b : Nat} {As : List Value} {w : va_W} {post : S → Prop} {w' : S → va_W} {bytes : ByteArray}    {index n : Nat} (hM : CV G y wsY fr lo (.ref b :: As) w post w' mc ms) (hG : GoodIn Ts wsY) (hin : Cond.initialized y.cls ∈ Ts) (hlk : Cond.methodLink own index y ∈ Ts) (him : Cond.instanceMethod y ∈ Ts) (hy1 : y.name = "<init>") (hwY : wsY = Cond.code y bytes mL none :: wsY') (hd : y.cls ≠ "java/lang/invoke/MethodHandle" ∧ y.cls ≠ "java/lang/invoke/VarHandle" ∧ (parseMethodDescriptor y.desc).map (fun d => d.parameters.length) = some n) (hR : fr + 1 ≤ rm.frames ∧ 8 + (mL + 11) + lo ≤ rm.locals)  {F : va_W} (hp : gPerm ws (w ++ F)) (hn : As.length = n) {st : List Value} (hst : st = As.reverse ++ .ref b :: rest) (hr : (rest.map fun v => v.category).sum ≤ 8) (d : decode cc pc = .ok (.invokespecial index, 3)) (hf : cells + mc ≤ rm.cells ∧ slots + ms ≤ rm.slots)
    (k : ∀ u : S, post u → gW V nL (cells + mc) (slots + ms) (w' u ++ F) lv (pc + 3) rest) : gW V nL cells slots ws lv pc st := by
  intro H locs ls hP hD hS hl
  subst hst
  have hd' := E.d
  have hSs : va_S (gvO V) (gvS V).heap H locs := E.h ▸ hS
  have hl' := E.la
  obtain rfl := E.r
  have hKc := E.k
  have hM' := hM H.size
  rw [hd'] at hKc
  rw [← hl'] at hM'
  have hPa := (hp (gvD V) H (gvO V)).1 hP
  have hDa := (hp (gvD V) H (gvO V)).2 hD
  have hPc : va_P (gvD V) vwCl w H := fun k q hk => hPa k q (g_app_l hk)
  have hPg : va_P (gd G) vwCl w H := by rw [← hd']; exact hPc
  have hDc : va_D (gvO V) w := ⟨fun i j p q hi hj he => hDa.1 i j p q (g_app_l hi) (g_app_l hj) he, fun k q hk => hDa.2 k q (g_app_l hk)⟩
  have hFc : ∀ q, va_A w H.size q → gvO V q := by
    rintro q (⟨k, e, hk⟩ | h)
    · exact hDc.2 k _ hk
    · exact E.o q (Nat.le_trans hS.1 h)
  refine va_callv (va_runI (As := As) (rest := rest) ⟨E.x, E.b, E.ml, E.ow, E.ts⟩ hM' (cwI n E.ts hG hwY rfl rfl (E.ts _ hin) (E.ts _ hlk) (E.ts _ him) hy1 hd hR) ⟨gPre_blind, fun U hU hW => gPre_at hU hW hPg hKc hDc E.z hSs hFc⟩ rfl hn hl.1 rfl (lv_room hr) d hf) hS (fun q _ h => hFc q h) hFc (fun u t H1 locs1 ht hvm hw hB hz1 hk1 hS1 => ?_)
  obtain ⟨hP1, hK1, hD1⟩ := hB
  rw [ht] at hP1
  rw [← hd'] at hP1
  have hJ := g_join hPa hDa hk1 hFc hP1 hD1
  exact k u hw H1 locs1 ls hJ.1 hJ.2 hS1 hl
theorem g_callVNI (E : gE V G cc nL own Ts rm) {S : Type} {y : MethodName} {wsY wsY' : List Cond} {fr lo mc ms mL : Nat} {b : Nat} {As : List Value} {w : va_W} {post : Int32 → S → Prop} {w' : S → va_W} {bytes : ByteArray} {ty : FieldType} {C : String} {host : String} {index n : Nat} (hM : CI G y wsY fr lo (.ref b :: As) w post w' mc ms) (hG : GoodIn Ts wsY) (hin : Cond.initialized y.cls ∈ Ts) (hlk : va_Nw (.methodLinkNest own index y host) (gvS V)) (him : Cond.instanceMethod y ∈ Ts) (hse : Cond.selects C y y ∈ Ts) (hwY : wsY = Cond.code y bytes mL (some ty) :: wsY') (hd : y.cls ≠ "java/lang/invoke/MethodHandle" ∧ y.cls ≠ "java/lang/invoke/VarHandle" ∧ (parseMethodDescriptor y.desc).map (fun d => d.parameters.length) = some n) (hR : fr + 1 ≤ rm.frames ∧ 8 + (mL + 11) + lo ≤ rm.locals) (ci q0 : Nat) {q : vw_C} {fs : List Value} (hc : vwCl[ci]? = some q) (hq : q.1 = C) (he : w[q0]? = some (b, .inr (ci, fs))) {F : va_W} (hp : gPerm ws (w ++ F)) (hn : As.length = n) {st : List Value} (hst : st = As.reverse ++ .ref b :: rest) (hr : (rest.map fun v => v.category).sum ≤ 8) (d : decode cc pc = .ok (.invokevirtual index, 3)) (hf : cells + mc ≤ rm.cells ∧ slots + ms ≤ rm.slots)
    (k : ∀ (r : Int32) (u : S), post r u → gW V nL (cells + mc) (slots + ms) (w' u ++ F) lv (pc + 3) (.int r :: rest)) : gW V nL cells slots ws lv pc st := by
  intro H locs ls hP hD hS hl
  subst hst
  have hd' := E.d
  have hSs : va_S (gvO V) (gvS V).heap H locs := E.h ▸ hS
  have hl' := E.la
  obtain rfl := E.r
  have hKc := E.k
  have hM' := hM H.size
  rw [hd'] at hKc
  rw [← hl'] at hM'
  have hPa := (hp (gvD V) H (gvO V)).1 hP
  have hDa := (hp (gvD V) H (gvO V)).2 hD
  have hPc : va_P (gvD V) vwCl w H := fun k q hk => hPa k q (g_app_l hk)
  have hPg : va_P (gd G) vwCl w H := by rw [← hd']; exact hPc
  have hDc : va_D (gvO V) w := ⟨fun i j p q hi hj he => hDa.1 i j p q (g_app_l hi) (g_app_l hj) he, fun k q hk => hDa.2 k q (g_app_l hk)⟩
  have hFc : ∀ q, va_A w H.size q → gvO V q := by
    rintro q (⟨k, e, hk⟩ | h)
    · exact hDc.2 k _ hk
    · exact E.o q (Nat.le_trans hS.1 h)
  refine va_calli (va_runVN (As := As) (rest := rest) ⟨E.x, E.b, E.ml, E.ow, E.ts⟩ hM' ⟨va_cnB n E.ts hG hwY rfl rfl hlk (E.ts _ hin) hd hR, E.ts _ him, E.ts _ hse⟩ ⟨gPre_blind, hq ▸ va_recv E.k hPc hc he, fun U hU hW => gPre_at hU hW hPg hKc hDc E.z hSs hFc⟩ rfl hn hl.1 rfl (lv_room hr) d hf) hS (fun q _ h => hFc q h) hFc (fun r u t H1 locs1 ht hvm hw hB hz1 hk1 hS1 => ?_)
  obtain ⟨hP1, hK1, hD1⟩ := hB
  rw [ht] at hP1
  rw [← hd'] at hP1
  have hJ := g_join hPa hDa hk1 hFc hP1 hD1
  exact k r u hw H1 locs1 ls hJ.1 hJ.2 hS1 hl
theorem g_callVNL (E : gE V G cc nL own Ts rm) {S : Type} {y : MethodName} {wsY wsY' : List Cond} {fr lo mc ms mL : Nat} {b : Nat} {As : List Value} {w : va_W} {post : Int64 → S → Prop} {w' : S → va_W} {bytes : ByteArray}  {C : String} {host : String} {index n : Nat} (hM : CL G y wsY fr lo (.ref b :: As) w post w' mc ms) (hG : GoodIn Ts wsY) (hin : Cond.initialized y.cls ∈ Ts) (hlk : va_Nw (.methodLinkNest own index y host) (gvS V)) (him : Cond.instanceMethod y ∈ Ts) (hse : Cond.selects C y y ∈ Ts) (hwY : wsY = Cond.code y bytes mL (some .long) :: wsY') (hd : y.cls ≠ "java/lang/invoke/MethodHandle" ∧ y.cls ≠ "java/lang/invoke/VarHandle" ∧ (parseMethodDescriptor y.desc).map (fun d => d.parameters.length) = some n) (hR : fr + 1 ≤ rm.frames ∧ 8 + (mL + 11) + lo ≤ rm.locals) (ci q0 : Nat) {q : vw_C} {fs : List Value} (hc : vwCl[ci]? = some q) (hq : q.1 = C) (he : w[q0]? = some (b, .inr (ci, fs))) {F : va_W} (hp : gPerm ws (w ++ F)) (hn : As.length = n) {st : List Value} (hst : st = As.reverse ++ .ref b :: rest) (hr : (rest.map fun v => v.category).sum ≤ 8) (d : decode cc pc = .ok (.invokevirtual index, 3)) (hf : cells + mc ≤ rm.cells ∧ slots + ms ≤ rm.slots)
    (k : ∀ (r : Int64) (u : S), post r u → gW V nL (cells + mc) (slots + ms) (w' u ++ F) lv (pc + 3) (.long r :: rest)) : gW V nL cells slots ws lv pc st := by
  intro H locs ls hP hD hS hl
  subst hst
  have hd' := E.d
  have hSs : va_S (gvO V) (gvS V).heap H locs := E.h ▸ hS
  have hl' := E.la
  obtain rfl := E.r
  have hKc := E.k
  have hM' := hM H.size
  rw [hd'] at hKc
  rw [← hl'] at hM'
  have hPa := (hp (gvD V) H (gvO V)).1 hP
  have hDa := (hp (gvD V) H (gvO V)).2 hD
  have hPc : va_P (gvD V) vwCl w H := fun k q hk => hPa k q (g_app_l hk)
  have hPg : va_P (gd G) vwCl w H := by rw [← hd']; exact hPc
  have hDc : va_D (gvO V) w := ⟨fun i j p q hi hj he => hDa.1 i j p q (g_app_l hi) (g_app_l hj) he, fun k q hk => hDa.2 k q (g_app_l hk)⟩
  have hFc : ∀ q, va_A w H.size q → gvO V q := by
    rintro q (⟨k, e, hk⟩ | h)
    · exact hDc.2 k _ hk
    · exact E.o q (Nat.le_trans hS.1 h)
  refine va_calll (va_runVN (As := As) (rest := rest) ⟨E.x, E.b, E.ml, E.ow, E.ts⟩ hM' ⟨va_cnB n E.ts hG hwY rfl rfl hlk (E.ts _ hin) hd hR, E.ts _ him, E.ts _ hse⟩ ⟨gPre_blind, hq ▸ va_recv E.k hPc hc he, fun U hU hW => gPre_at hU hW hPg hKc hDc E.z hSs hFc⟩ rfl hn hl.1 rfl (lv_room hr) d hf) hS (fun q _ h => hFc q h) hFc (fun r u t H1 locs1 ht hvm hw hB hz1 hk1 hS1 => ?_)
  obtain ⟨hP1, hK1, hD1⟩ := hB
  rw [ht] at hP1
  rw [← hd'] at hP1
  have hJ := g_join hPa hDa hk1 hFc hP1 hD1
  exact k r u hw H1 locs1 ls hJ.1 hJ.2 hS1 hl
theorem g_callVNV (E : gE V G cc nL own Ts rm) {S : Type} {y : MethodName} {wsY wsY' : List Cond} {fr lo mc ms mL : Nat} {b : Nat} {As : List Value} {w : va_W} {post : S → Prop} {w' : S → va_W} {bytes : ByteArray}  {C : String} {host : String} {index n : Nat} (hM : CV G y wsY fr lo (.ref b :: As) w post w' mc ms) (hG : GoodIn Ts wsY) (hin : Cond.initialized y.cls ∈ Ts) (hlk : va_Nw (.methodLinkNest own index y host) (gvS V)) (him : Cond.instanceMethod y ∈ Ts) (hse : Cond.selects C y y ∈ Ts) (hwY : wsY = Cond.code y bytes mL none :: wsY') (hd : y.cls ≠ "java/lang/invoke/MethodHandle" ∧ y.cls ≠ "java/lang/invoke/VarHandle" ∧ (parseMethodDescriptor y.desc).map (fun d => d.parameters.length) = some n) (hR : fr + 1 ≤ rm.frames ∧ 8 + (mL + 11) + lo ≤ rm.locals) (ci q0 : Nat) {q : vw_C} {fs : List Value} (hc : vwCl[ci]? = some q) (hq : q.1 = C) (he : w[q0]? = some (b, .inr (ci, fs))) {F : va_W} (hp : gPerm ws (w ++ F)) (hn : As.length = n) {st : List Value} (hst : st = As.reverse ++ .ref b :: rest) (hr : (rest.map fun v => v.category).sum ≤ 8) (d : decode cc pc = .ok (.invokevirtual index, 3)) (hf : cells + mc ≤ rm.cells ∧ slots + ms ≤ rm.slots)
    (k : ∀ u : S, post u → gW V nL (cells + mc) (slots + ms) (w' u ++ F) lv (pc + 3) rest) : gW V nL cells slots ws lv pc st := by
  intro H locs ls hP hD hS hl
  subst hst
  have hd' := E.d
  have hSs : va_S (gvO V) (gvS V).heap H locs := E.h ▸ hS
  have hl' := E.la
  obtain rfl := E.r
  have hKc := E.k
  have hM' := hM H.size
  rw [hd'] at hKc
  rw [← hl'] at hM'
  have hPa := (hp (gvD V) H (gvO V)).1 hP
  have hDa := (hp (gvD V) H (gvO V)).2 hD
  have hPc : va_P (gvD V) vwCl w H := fun k q hk => hPa k q (g_app_l hk)
  have hPg : va_P (gd G) vwCl w H := by rw [← hd']; exact hPc
  have hDc : va_D (gvO V) w := ⟨fun i j p q hi hj he => hDa.1 i j p q (g_app_l hi) (g_app_l hj) he, fun k q hk => hDa.2 k q (g_app_l hk)⟩
  have hFc : ∀ q, va_A w H.size q → gvO V q := by
    rintro q (⟨k, e, hk⟩ | h)
    · exact hDc.2 k _ hk
    · exact E.o q (Nat.le_trans hS.1 h)
  refine va_callv (va_runVN (As := As) (rest := rest) ⟨E.x, E.b, E.ml, E.ow, E.ts⟩ hM' ⟨va_cnB n E.ts hG hwY rfl rfl hlk (E.ts _ hin) hd hR, E.ts _ him, E.ts _ hse⟩ ⟨gPre_blind, hq ▸ va_recv E.k hPc hc he, fun U hU hW => gPre_at hU hW hPg hKc hDc E.z hSs hFc⟩ rfl hn hl.1 rfl (lv_room hr) d hf) hS (fun q _ h => hFc q h) hFc (fun u t H1 locs1 ht hvm hw hB hz1 hk1 hS1 => ?_)
  obtain ⟨hP1, hK1, hD1⟩ := hB
  rw [ht] at hP1
  rw [← hd'] at hP1
  have hJ := g_join hPa hDa hk1 hFc hP1 hD1
  exact k u hw H1 locs1 ls hJ.1 hJ.2 hS1 hl
theorem g_callVNR (E : gE V G cc nL own Ts rm) {S : Type} {y : MethodName} {wsY wsY' : List Cond} {fr lo mc ms mL : Nat} {b : Nat} {As : List Value} {w : va_W} {post : Nat → S → Prop} {w' : S → va_W} {bytes : ByteArray} {ty : FieldType} {C : String} {host : String} {index n : Nat} (hM : CR G y wsY fr lo (.ref b :: As) w post w' mc ms) (hG : GoodIn Ts wsY) (hin : Cond.initialized y.cls ∈ Ts) (hlk : va_Nw (.methodLinkNest own index y host) (gvS V)) (him : Cond.instanceMethod y ∈ Ts) (hse : Cond.selects C y y ∈ Ts) (hwY : wsY = Cond.code y bytes mL (some ty) :: wsY') (hd : y.cls ≠ "java/lang/invoke/MethodHandle" ∧ y.cls ≠ "java/lang/invoke/VarHandle" ∧ (parseMethodDescriptor y.desc).map (fun d => d.parameters.length) = some n) (hR : fr + 1 ≤ rm.frames ∧ 8 + (mL + 11) + lo ≤ rm.locals) (ci q0 : Nat) {q : vw_C} {fs : List Value} (hc : vwCl[ci]? = some q) (hq : q.1 = C) (he : w[q0]? = some (b, .inr (ci, fs))) {F : va_W} (hp : gPerm ws (w ++ F)) (hn : As.length = n) {st : List Value} (hst : st = As.reverse ++ .ref b :: rest) (hr : (rest.map fun v => v.category).sum ≤ 8) (d : decode cc pc = .ok (.invokevirtual index, 3)) (hf : cells + mc ≤ rm.cells ∧ slots + ms ≤ rm.slots)
    (k : ∀ (r : Nat) (u : S), post r u → gW V nL (cells + mc) (slots + ms) (w' u ++ F) lv (pc + 3) (.ref r :: rest)) : gW V nL cells slots ws lv pc st := by
  intro H locs ls hP hD hS hl
  subst hst
  have hd' := E.d
  have hSs : va_S (gvO V) (gvS V).heap H locs := E.h ▸ hS
  have hl' := E.la
  obtain rfl := E.r
  have hKc := E.k
  have hM' := hM H.size
  rw [hd'] at hKc
  rw [← hl'] at hM'
  have hPa := (hp (gvD V) H (gvO V)).1 hP
  have hDa := (hp (gvD V) H (gvO V)).2 hD
  have hPc : va_P (gvD V) vwCl w H := fun k q hk => hPa k q (g_app_l hk)
  have hPg : va_P (gd G) vwCl w H := by rw [← hd']; exact hPc
  have hDc : va_D (gvO V) w := ⟨fun i j p q hi hj he => hDa.1 i j p q (g_app_l hi) (g_app_l hj) he, fun k q hk => hDa.2 k q (g_app_l hk)⟩
  have hFc : ∀ q, va_A w H.size q → gvO V q := by
    rintro q (⟨k, e, hk⟩ | h)
    · exact hDc.2 k _ hk
    · exact E.o q (Nat.le_trans hS.1 h)
  refine va_callr (va_runVN (As := As) (rest := rest) ⟨E.x, E.b, E.ml, E.ow, E.ts⟩ hM' ⟨va_cnB n E.ts hG hwY rfl rfl hlk (E.ts _ hin) hd hR, E.ts _ him, E.ts _ hse⟩ ⟨gPre_blind, hq ▸ va_recv E.k hPc hc he, fun U hU hW => gPre_at hU hW hPg hKc hDc E.z hSs hFc⟩ rfl hn hl.1 rfl (lv_room hr) d hf) hS (fun q _ h => hFc q h) hFc (fun u ra t H1 locs1 ht hvm hw hB hz1 hk1 hS1 => ?_)
  obtain ⟨rfl, hP1, hK1, hD1⟩ := hB
  rw [ht] at hP1
  rw [← hd'] at hP1
  have hJ := g_join hPa hDa hk1 hFc hP1 hD1
  exact k u.1 u.2 hw H1 locs1 ls hJ.1 hJ.2 hS1 hl
theorem g_callSNI (E : gE V G cc nL own Ts rm) {S : Type} {y : MethodName} {wsY wsY' : List Cond} {fr lo mc ms mL : Nat}  {As : List Value} {w : va_W} {post : Int32 → S → Prop} {w' : S → va_W} {bytes : ByteArray} {ty : FieldType}  {host : String} {index n : Nat} (hM : CI G y wsY fr lo As w post w' mc ms) (hG : GoodIn Ts wsY) (hin : Cond.initialized y.cls ∈ Ts) (hlk : va_Nw (.methodLinkNest own index y host) (gvS V)) (him : Cond.static y ∈ Ts) (hwY : wsY = Cond.code y bytes mL (some ty) :: wsY') (hd : y.cls ≠ "java/lang/invoke/MethodHandle" ∧ y.cls ≠ "java/lang/invoke/VarHandle" ∧ (parseMethodDescriptor y.desc).map (fun d => d.parameters.length) = some n) (hR : fr + 1 ≤ rm.frames ∧ 8 + (mL + 11) + lo ≤ rm.locals)  {F : va_W} (hp : gPerm ws (w ++ F)) (hn : As.length = n) {st : List Value} (hst : st = As.reverse ++ rest) (hr : (rest.map fun v => v.category).sum ≤ 8) (d : decode cc pc = .ok (.invokestatic index, 3)) (hf : cells + mc ≤ rm.cells ∧ slots + ms ≤ rm.slots)
    (k : ∀ (r : Int32) (u : S), post r u → gW V nL (cells + mc) (slots + ms) (w' u ++ F) lv (pc + 3) (.int r :: rest)) : gW V nL cells slots ws lv pc st := by
  intro H locs ls hP hD hS hl
  subst hst
  have hd' := E.d
  have hSs : va_S (gvO V) (gvS V).heap H locs := E.h ▸ hS
  have hl' := E.la
  obtain rfl := E.r
  have hKc := E.k
  have hM' := hM H.size
  rw [hd'] at hKc
  rw [← hl'] at hM'
  have hPa := (hp (gvD V) H (gvO V)).1 hP
  have hDa := (hp (gvD V) H (gvO V)).2 hD
  have hPc : va_P (gvD V) vwCl w H := fun k q hk => hPa k q (g_app_l hk)
  have hPg : va_P (gd G) vwCl w H := by rw [← hd']; exact hPc
  have hDc : va_D (gvO V) w := ⟨fun i j p q hi hj he => hDa.1 i j p q (g_app_l hi) (g_app_l hj) he, fun k q hk => hDa.2 k q (g_app_l hk)⟩
  have hFc : ∀ q, va_A w H.size q → gvO V q := by
    rintro q (⟨k, e, hk⟩ | h)
    · exact hDc.2 k _ hk
    · exact E.o q (Nat.le_trans hS.1 h)
  refine va_calli (va_runSN (As := As) (rest := rest) ⟨E.x, E.b, E.ml, E.ow, E.ts⟩ hM' ⟨va_cnB n E.ts hG hwY rfl rfl hlk (E.ts _ hin) hd hR, E.ts _ him, trivial⟩ ⟨gPre_blind, fun U hU hW => gPre_at hU hW hPg hKc hDc E.z hSs hFc⟩ rfl hn hl.1 rfl (lv_room hr) d hf) hS (fun q _ h => hFc q h) hFc (fun r u t H1 locs1 ht hvm hw hB hz1 hk1 hS1 => ?_)
  obtain ⟨hP1, hK1, hD1⟩ := hB
  rw [ht] at hP1
  rw [← hd'] at hP1
  have hJ := g_join hPa hDa hk1 hFc hP1 hD1
  exact k r u hw H1 locs1 ls hJ.1 hJ.2 hS1 hl
theorem g_callSNL (E : gE V G cc nL own Ts rm) {S : Type} {y : MethodName} {wsY wsY' : List Cond} {fr lo mc ms mL : Nat}  {As : List Value} {w : va_W} {post : Int64 → S → Prop} {w' : S → va_W} {bytes : ByteArray}   {host : String} {index n : Nat} (hM : CL G y wsY fr lo As w post w' mc ms) (hG : GoodIn Ts wsY) (hin : Cond.initialized y.cls ∈ Ts) (hlk : va_Nw (.methodLinkNest own index y host) (gvS V)) (him : Cond.static y ∈ Ts) (hwY : wsY = Cond.code y bytes mL (some .long) :: wsY') (hd : y.cls ≠ "java/lang/invoke/MethodHandle" ∧ y.cls ≠ "java/lang/invoke/VarHandle" ∧ (parseMethodDescriptor y.desc).map (fun d => d.parameters.length) = some n) (hR : fr + 1 ≤ rm.frames ∧ 8 + (mL + 11) + lo ≤ rm.locals)  {F : va_W} (hp : gPerm ws (w ++ F)) (hn : As.length = n) {st : List Value} (hst : st = As.reverse ++ rest) (hr : (rest.map fun v => v.category).sum ≤ 8) (d : decode cc pc = .ok (.invokestatic index, 3)) (hf : cells + mc ≤ rm.cells ∧ slots + ms ≤ rm.slots)
    (k : ∀ (r : Int64) (u : S), post r u → gW V nL (cells + mc) (slots + ms) (w' u ++ F) lv (pc + 3) (.long r :: rest)) : gW V nL cells slots ws lv pc st := by
  intro H locs ls hP hD hS hl
  subst hst
  have hd' := E.d
  have hSs : va_S (gvO V) (gvS V).heap H locs := E.h ▸ hS
  have hl' := E.la
  obtain rfl := E.r
  have hKc := E.k
  have hM' := hM H.size
  rw [hd'] at hKc
  rw [← hl'] at hM'
  have hPa := (hp (gvD V) H (gvO V)).1 hP
  have hDa := (hp (gvD V) H (gvO V)).2 hD
  have hPc : va_P (gvD V) vwCl w H := fun k q hk => hPa k q (g_app_l hk)
  have hPg : va_P (gd G) vwCl w H := by rw [← hd']; exact hPc
  have hDc : va_D (gvO V) w := ⟨fun i j p q hi hj he => hDa.1 i j p q (g_app_l hi) (g_app_l hj) he, fun k q hk => hDa.2 k q (g_app_l hk)⟩
  have hFc : ∀ q, va_A w H.size q → gvO V q := by
    rintro q (⟨k, e, hk⟩ | h)
    · exact hDc.2 k _ hk
    · exact E.o q (Nat.le_trans hS.1 h)
  refine va_calll (va_runSN (As := As) (rest := rest) ⟨E.x, E.b, E.ml, E.ow, E.ts⟩ hM' ⟨va_cnB n E.ts hG hwY rfl rfl hlk (E.ts _ hin) hd hR, E.ts _ him, trivial⟩ ⟨gPre_blind, fun U hU hW => gPre_at hU hW hPg hKc hDc E.z hSs hFc⟩ rfl hn hl.1 rfl (lv_room hr) d hf) hS (fun q _ h => hFc q h) hFc (fun r u t H1 locs1 ht hvm hw hB hz1 hk1 hS1 => ?_)
  obtain ⟨hP1, hK1, hD1⟩ := hB
  rw [ht] at hP1
  rw [← hd'] at hP1
  have hJ := g_join hPa hDa hk1 hFc hP1 hD1
  exact k r u hw H1 locs1 ls hJ.1 hJ.2 hS1 hl
theorem g_callSNV (E : gE V G cc nL own Ts rm) {S : Type} {y : MethodName} {wsY wsY' : List Cond} {fr lo mc ms mL : Nat}  {As : List Value} {w : va_W} {post : S → Prop} {w' : S → va_W} {bytes : ByteArray}   {host : String} {index n : Nat} (hM : CV G y wsY fr lo As w post w' mc ms) (hG : GoodIn Ts wsY) (hin : Cond.initialized y.cls ∈ Ts) (hlk : va_Nw (.methodLinkNest own index y host) (gvS V)) (him : Cond.static y ∈ Ts) (hwY : wsY = Cond.code y bytes mL none :: wsY') (hd : y.cls ≠ "java/lang/invoke/MethodHandle" ∧ y.cls ≠ "java/lang/invoke/VarHandle" ∧ (parseMethodDescriptor y.desc).map (fun d => d.parameters.length) = some n) (hR : fr + 1 ≤ rm.frames ∧ 8 + (mL + 11) + lo ≤ rm.locals)  {F : va_W} (hp : gPerm ws (w ++ F)) (hn : As.length = n) {st : List Value} (hst : st = As.reverse ++ rest) (hr : (rest.map fun v => v.category).sum ≤ 8) (d : decode cc pc = .ok (.invokestatic index, 3)) (hf : cells + mc ≤ rm.cells ∧ slots + ms ≤ rm.slots)
    (k : ∀ u : S, post u → gW V nL (cells + mc) (slots + ms) (w' u ++ F) lv (pc + 3) rest) : gW V nL cells slots ws lv pc st := by
  intro H locs ls hP hD hS hl
  subst hst
  have hd' := E.d
  have hSs : va_S (gvO V) (gvS V).heap H locs := E.h ▸ hS
  have hl' := E.la
  obtain rfl := E.r
  have hKc := E.k
  have hM' := hM H.size
  rw [hd'] at hKc
  rw [← hl'] at hM'
  have hPa := (hp (gvD V) H (gvO V)).1 hP
  have hDa := (hp (gvD V) H (gvO V)).2 hD
  have hPc : va_P (gvD V) vwCl w H := fun k q hk => hPa k q (g_app_l hk)
  have hPg : va_P (gd G) vwCl w H := by rw [← hd']; exact hPc
  have hDc : va_D (gvO V) w := ⟨fun i j p q hi hj he => hDa.1 i j p q (g_app_l hi) (g_app_l hj) he, fun k q hk => hDa.2 k q (g_app_l hk)⟩
  have hFc : ∀ q, va_A w H.size q → gvO V q := by
    rintro q (⟨k, e, hk⟩ | h)
    · exact hDc.2 k _ hk
    · exact E.o q (Nat.le_trans hS.1 h)
  refine va_callv (va_runSN (As := As) (rest := rest) ⟨E.x, E.b, E.ml, E.ow, E.ts⟩ hM' ⟨va_cnB n E.ts hG hwY rfl rfl hlk (E.ts _ hin) hd hR, E.ts _ him, trivial⟩ ⟨gPre_blind, fun U hU hW => gPre_at hU hW hPg hKc hDc E.z hSs hFc⟩ rfl hn hl.1 rfl (lv_room hr) d hf) hS (fun q _ h => hFc q h) hFc (fun u t H1 locs1 ht hvm hw hB hz1 hk1 hS1 => ?_)
  obtain ⟨hP1, hK1, hD1⟩ := hB
  rw [ht] at hP1
  rw [← hd'] at hP1
  have hJ := g_join hPa hDa hk1 hFc hP1 hD1
  exact k u hw H1 locs1 ls hJ.1 hJ.2 hS1 hl
theorem g_callINV (E : gE V G cc nL own Ts rm) {S : Type} {y : MethodName} {wsY wsY' : List Cond} {fr lo mc ms mL : Nat} {b : Nat} {As : List Value} {w : va_W} {post : S → Prop} {w' : S → va_W} {bytes : ByteArray}   {host : String} {index n : Nat} (hM : CV G y wsY fr lo (.ref b :: As) w post w' mc ms) (hG : GoodIn Ts wsY) (hin : Cond.initialized y.cls ∈ Ts) (hlk : va_Nw (.methodLinkNest own index y host) (gvS V)) (him : Cond.instanceMethod y ∈ Ts) (hy1 : y.name = "<init>") (hwY : wsY = Cond.code y bytes mL none :: wsY') (hd : y.cls ≠ "java/lang/invoke/MethodHandle" ∧ y.cls ≠ "java/lang/invoke/VarHandle" ∧ (parseMethodDescriptor y.desc).map (fun d => d.parameters.length) = some n) (hR : fr + 1 ≤ rm.frames ∧ 8 + (mL + 11) + lo ≤ rm.locals)  {F : va_W} (hp : gPerm ws (w ++ F)) (hn : As.length = n) {st : List Value} (hst : st = As.reverse ++ .ref b :: rest) (hr : (rest.map fun v => v.category).sum ≤ 8) (d : decode cc pc = .ok (.invokespecial index, 3)) (hf : cells + mc ≤ rm.cells ∧ slots + ms ≤ rm.slots)
    (k : ∀ u : S, post u → gW V nL (cells + mc) (slots + ms) (w' u ++ F) lv (pc + 3) rest) : gW V nL cells slots ws lv pc st := by
  intro H locs ls hP hD hS hl
  subst hst
  have hd' := E.d
  have hSs : va_S (gvO V) (gvS V).heap H locs := E.h ▸ hS
  have hl' := E.la
  obtain rfl := E.r
  have hKc := E.k
  have hM' := hM H.size
  rw [hd'] at hKc
  rw [← hl'] at hM'
  have hPa := (hp (gvD V) H (gvO V)).1 hP
  have hDa := (hp (gvD V) H (gvO V)).2 hD
  have hPc : va_P (gvD V) vwCl w H := fun k q hk => hPa k q (g_app_l hk)
  have hPg : va_P (gd G) vwCl w H := by rw [← hd']; exact hPc
  have hDc : va_D (gvO V) w := ⟨fun i j p q hi hj he => hDa.1 i j p q (g_app_l hi) (g_app_l hj) he, fun k q hk => hDa.2 k q (g_app_l hk)⟩
  have hFc : ∀ q, va_A w H.size q → gvO V q := by
    rintro q (⟨k, e, hk⟩ | h)
    · exact hDc.2 k _ hk
    · exact E.o q (Nat.le_trans hS.1 h)
  refine va_callv (va_runIN (As := As) (rest := rest) ⟨E.x, E.b, E.ml, E.ow, E.ts⟩ hM' ⟨va_cnB n E.ts hG hwY rfl rfl hlk (E.ts _ hin) hd hR, hy1, E.ts _ him⟩ ⟨gPre_blind, fun U hU hW => gPre_at hU hW hPg hKc hDc E.z hSs hFc⟩ rfl hn hl.1 rfl (lv_room hr) d hf) hS (fun q _ h => hFc q h) hFc (fun u t H1 locs1 ht hvm hw hB hz1 hk1 hS1 => ?_)
  obtain ⟨hP1, hK1, hD1⟩ := hB
  rw [ht] at hP1
  rw [← hd'] at hP1
  have hJ := g_join hPa hDa hk1 hFc hP1 hD1
  exact k u hw H1 locs1 ls hJ.1 hJ.2 hS1 hl
end GK
