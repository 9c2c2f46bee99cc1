/-! ===== methods of the class that return an int or throw ===== -/
/-- a contract: an answer with post and a world, or a throw of a class with px and a world -/
def CX (G : gG) (y : MethodName) (ws : List Cond) (fr lo : Nat) (av : List Value) (w : va_W) {S : Type} (post : Int32 → S → Prop) (px : String → S → Prop) (w' : S → va_W) (mc ms : Nat) : Prop :=
  ∀ sz : Nat, vx_Met (gl G) y ws { frames := fr, cells := mc, slots := ms, locals := lo } (gPre G av w sz) (va_Qi post (fun u t => gB G w sz (w' u) t) (va_A w sz)) (vx_X (fun q : String × S => px q.1 q.2) (fun E q t => E = q.1 ∧ gB G w sz (w' q.2) t) (va_A w sz)) mc ms (va_A w sz)
def gNam : List String := ["java/lang/RuntimeException", "java/lang/Exception"]
/-- the words of a throw that are no good words -/
def gBadW (cls : String) : List Cond := [.declares (Bundle.initS "java/lang/RuntimeException"), .declares (Bundle.initS "java/lang/Exception"), .declares (Bundle.initS "java/lang/Throwable"), .castable cls cls]
/-- what a throw in a method asks of its words -/
def gThW (ws : List Cond) (own cls : String) (ik ic : Nat) : Prop :=
  Bundle.fit cls = true ∧ cls ∈ gCas ∧ Cond.classLink own ik cls ∈ ws ∧ Cond.initialized cls ∈ ws ∧ (∀ x ∈ (vx_atS own ic cls gNam).filter goodWord, x ∈ ws) ∧ (∀ x ∈ (vx_atS own ic cls gNam).filter (fun x => !goodWord x), x ∈ gBadW cls) ∧ ∀ x ∈ Cond.classLink own ik cls :: Cond.initialized cls :: vx_atS own ic cls gNam, vx_ot x = true
section
variable {V : gV} {G : gG} {cc : ByteArray} {nL : Nat} {own : String} {Ts : List Cond} {rm : Room} {cells slots : Nat} {ws : va_W} {lv : List (Nat × Value)} {pc : Nat} {rest : List Value}
/-- a throw of the class cls out of a call at pc -/
def gWX (V : gV) (nL cells slots : Nat) (ws : va_W) (lv : List (Nat × Value)) (pc : Nat) (rest : List Value) (cls : String) : Prop :=
  ∀ (H : Heap) (locs : List Loc) (ls : Array Slot) (q : Nat) (ce : Cell), va_P (gvD V) vwCl ws H → va_D (gvO V) ws → va_S (gvO V) (gvH V) H locs → lv_has ls nL lv → H[q]? = some ce → ce.vm = .none → (gvS V).vm.findClass cls = some ce.cls →
    vx_W (gvP V) (gvL V) (gvE V) (gvR V) (gvS V) (gvM V) (gvA V) (gvB V) (gvY V) (gvC V) H locs cells slots (gvQ V) (F0 (gvM V) pc ls rest) q
theorem gWX_perm {ws1 : va_W} {cls : String} (hp : gPerm ws ws1) (k : gWX V nL cells slots ws1 lv pc rest cls) : gWX V nL cells slots ws lv pc rest cls := fun H locs ls q ce hP hD hS hl h1 h2 h3 => k H locs ls q ce ((hp (gvD V) H (gvO V)).1 hP) ((hp (gvD V) H (gvO V)).2 hD) hS hl h1 h2 h3
end
theorem g_enterCX {S : Type} {G : gG} {y : MethodName} {ws ws' : List Cond} {fr lo mc ms maxL : Nat} {av : List Value} {w : va_W} {post : Int32 → S → Prop} {px : String → S → Prop} {w' : S → va_W} {cc : ByteArray} {ty : FieldType} (hST : (gl G).stackTraces = false) (own : String) (hown : y.cls = own) (hy : plainName y.cls = true) (hw : ws = Cond.code y cc maxL (some ty) :: ws') (hn : (lg_sl av).length ≤ maxL)
    (body : ∀ V : gV, gE V G cc maxL own ws { frames := fr, cells := mc, slots := ms, locals := lo } → (∀ (lv : List (Nat × Value)) (pc : Nat) (r : Int32) (u : S), post r u → narrow ty (.int r) = .int r → decode cc pc = .ok (.ireturn, 1) → gW V maxL mc ms (w' u) lv pc [.int r]) →
      (∀ (lv : List (Nat × Value)) (pc cells slots : Nat) (u : S) (cls text : String) (bs : List Int32) (ik is ic i : Nat), px cls u → gThW ws own cls ik ic → gStr[i]? = some (own, is, text, bs) → 5 < fr → 82 ≤ lo → cells + 1 ≤ mc → slots + 6 ≤ ms → decode cc pc = .ok (.new ik, 3) → decode cc (pc + 3) = .ok (.dup, 1) → decode cc (pc + 4) = .ok (.ldc is, 2) → decode cc (pc + 6) = .ok (.invokespecial ic, 3) → decode cc (pc + 9) = .ok (.athrow, 1) → gW V maxL cells slots (w' u) lv pc []) →
      (∀ (lv : List (Nat × Value)) (pc cells slots : Nat) (u : S) (cls text : String) (bs : List Int32) (ik is ic i : Nat), px cls u → gThW ws own cls ik ic → gStr[i]? = some (own, is, text, bs) → 5 < fr → 82 ≤ lo → cells + 1 ≤ mc → slots + 6 ≤ ms → decode cc pc = .ok (.new ik, 3) → decode cc (pc + 3) = .ok (.dup, 1) → decode cc (pc + 4) = .ok (.ldc_w is, 3) → decode cc (pc + 7) = .ok (.invokespecial ic, 3) → decode cc (pc + 10) = .ok (.athrow, 1) → gW V maxL cells slots (w' u) lv pc []) →
      (∀ (lv : List (Nat × Value)) (pc cells slots : Nat) (rest : List Value) (u : S) (cls : String), px cls u → cells ≤ mc → slots ≤ ms → gWX V maxL cells slots (w' u) lv pc rest cls) →
      gW V maxL 0 0 w (lv_args 0 av) 0 []) : CX G y ws fr lo av w post px w' mc ms := by
  intro sz
  refine vx_ofW (cc := cc) (maxL := maxL) (ret := (some ty)) hy hw ?_
  intro p e s m args below meth c s₁ B hml hno hv
  obtain ⟨rfl, hsz, hP, hK, hD0, hZ⟩ := hv
  subst hsz
  subst hown
  have hts := atoms_spec (ws := ws) B.pre
  have hD := hD0.self (sz := s.heap.size)
  have hfc := findClass_of_methodNamed B.named
  rw [lg_entry_eq]
  have hnam : ∀ n ∈ gNam, Bundle.fit n = true := by decide +kernel
  have hX : ∀ (H : Heap) (locs : List Loc) (u : S) (cls : String), px cls u → va_P (gd G) vwCl (w' u) H → va_D (va_A w s.heap.size) (w' u) → va_S (va_A w s.heap.size) s.heap H locs → ∀ t : State, s.vm.Alike t.vm → H.size ≤ t.heap.size → (∀ q : Nat, q < H.size → t.heap[q]? = H[q]?) →
      vx_X (fun q : String × S => px q.1 q.2) (fun E q t => E = q.1 ∧ gB G w s.heap.size (w' q.2) t) (va_A w s.heap.size) cls s t := by
    intro H locs u cls hpx hP1 hD1 hS t hal hsz hq
    refine ⟨(cls, u), hpx, ⟨rfl, hP1.kept (fun k x hx => hq x.1 ((hP1 k x hx).lt)), va_K.moved hal hK, hD1⟩, ⟨Nat.le_trans hS.1 hsz, fun q h1 h2 => ?_⟩⟩
    rw [hq q (Nat.lt_of_lt_of_le h1 hS.1)]
    exact hS.2.1 q h1 h2
  have hat : ∀ (cls : String) (ik ic : Nat), gThW ws y.cls cls ik ic → ∀ x ∈ vx_atS y.cls ic cls gNam, x.before av.toArray s = true := by
    intro cls ik ic ht
    refine vx_hat (fun x hx => hts x (ht.2.2.2.2.1 x hx)) ht.2.2.2.2.2.1 (fun x hx => ?_)
    have hdec := hZ.1.2.2.2.2.1
    have hcas := hZ.1.2.2.2.2.2 cls ht.2.1
    rcases List.mem_cons.mp hx with rfl | hx
    · exact va_Nw.use rfl (hdec "java/lang/RuntimeException" (by decide))
    · rcases List.mem_cons.mp hx with rfl | hx
      · exact va_Nw.use rfl (hdec "java/lang/Exception" (by decide))
      · rcases List.mem_cons.mp hx with rfl | hx
        · exact va_Nw.use rfl (hdec "java/lang/Throwable" (by decide))
        · rcases List.mem_cons.mp hx with rfl | hx
          · exact va_Nw.use rfl hcas
          · cases hx
  refine body (p, gl G, e, (headSpec ws { frames := fr, cells := mc, slots := ms, locals := lo }).room, s, m, av.toArray, below, meth, c, gd G, va_A w s.heap.size, s.heap, vx_MQ below (va_Qi post (fun u t => gB G w s.heap.size (w' u) t) (va_A w s.heap.size)) (vx_X (fun q : String × S => px q.1 q.2) (fun E q t => E = q.1 ∧ gB G w s.heap.size (w' q.2) t) (va_A w s.heap.size)) av.toArray s mc ms (va_A w s.heap.size))
    ⟨B.exec, B.bytes, hml, hfc, hts, hK, fun q h => Or.inr h, rfl, rfl, rfl, rfl, hZ⟩
    (fun lv pc r u hp hn d H locs ls hP hD hS hl => vx_ret (W.zret B.exec B.bytes B.returns hn (fun t ht hW => ⟨⟨r, u, rfl, hp, by rw [ht]; exact hP, va_K.moved hW.alike hK, hD⟩, hS.F ht⟩) hS.2.2 d B.notSynchronized))
    (fun lv pc cells slots u cls text bs ik is ic i hpx ht hi h5 h82 hc hs d0 d3 d4 d6 d9 H locs ls hP1 hD1 hS hl => ?_) (fun lv pc cells slots u cls text bs ik is ic i hpx ht hi h5 h82 hc hs d0 d3 d4 d6 d9 H locs ls hP1 hD1 hS hl => ?_)
    (fun lv pc cells slots rest u cls hpx hc hs H locs ls q ce hP1 hD1 hS hl h1 h2 h3 => vx_out (fun x hx => (hno x hx).elim) B.notSynchronized h1 h2 h3 (fun t ht hW => hX H locs u cls hpx hP1 hD1 hS t hW (by rw [ht]; exact Nat.le_refl _) (fun q _ => by rw [ht])) hS.2.2 hc hs) s.heap [] _ hP hD va_S.rf (lv_entry av hn)
  · exact vx_throwS B.exec B.bytes hST hfc ht.1 hnam (hts _ ht.2.2.1) (hts _ ht.2.2.2.1) (hZ.2.2.2 i _ hi).1 (hat cls ik ic ht) ht.2.2.2.2.2.2 hZ.2.1.2.2.1 hZ.2.1.2.2.2.1 hS (hl.1.trans hml.symm) d0 d3 d4 d6 d9 (fun x hx => (hno x hx).elim) h5 (by show 0 + (13 * (2 + 1) + 43) ≤ lo; omega) hc hs B.notSynchronized (hX H locs u cls hpx hP1 hD1 hS) hS.2.2 hc hs
  · exact vx_throwSW B.exec B.bytes hST hfc ht.1 hnam (hts _ ht.2.2.1) (hts _ ht.2.2.2.1) (hZ.2.2.2 i _ hi).1 (hat cls ik ic ht) ht.2.2.2.2.2.2 hZ.2.1.2.2.1 hZ.2.1.2.2.2.1 hS (hl.1.trans hml.symm) d0 d3 d4 d6 d9 (fun x hx => (hno x hx).elim) h5 (by show 0 + (13 * (2 + 1) + 43) ≤ lo; omega) hc hs B.notSynchronized (hX H locs u cls hpx hP1 hD1 hS) hS.2.2 hc hs
section
variable {V : gV} {G : gG} {cc : ByteArray} {nL : Nat} {own : String} {Ts : List Cond} {rm : Room} {cells slots : Nat} {ws : va_W} {lv : List (Nat × Value)} {pc : Nat} {rest : List Value}
theorem g_callVX (E : gE V G cc nL own Ts rm) {S : Type} {y : MethodName} {wsY wsY' : List Cond} {fr lo mc ms mL : Nat} {b : Nat} {As : List Value} {w : va_W} {post : Int32 → S → Prop} {px : String → S → Prop} {w' : S → va_W} {bytes : ByteArray} {ty : FieldType} {C : String}  {index n : Nat} (hM : CX G y wsY fr lo (.ref b :: As) w post px w' mc ms) (hG : GoodIn Ts (wsV own index C y wsY)) (hwY : wsY = Cond.code y bytes mL (some ty) :: wsY') (hd : y.cls = C ∧ y.cls ≠ "java/lang/invoke/MethodHandle" ∧ y.cls ≠ "java/lang/invoke/VarHandle" ∧ (parseMethodDescriptor y.desc).map (fun d => d.parameters.length) = some n) (hR : fr + 1 ≤ rm.frames ∧ 8 + (mL + 11) + lo ≤ rm.locals) (ci q0 : Nat) {q : vw_C} {fs : List Value} (hc : vwCl[ci]? = some q) (hq : q.1 = C) (he : w[q0]? = some (b, .inr (ci, fs))) {F : va_W} (hp : gPerm ws (w ++ F)) (hn : As.length = n) {st : List Value} (hst : st = As.reverse ++ .ref b :: rest) (hr : (rest.map fun v => v.category).sum ≤ 8) (d : decode cc pc = .ok (.invokevirtual index, 3)) (hf : cells + mc ≤ rm.cells ∧ slots + ms ≤ rm.slots)
    (kx : ∀ (cls : String) (u : S), px cls u → gWX V nL (cells + mc) (slots + ms) (w' u ++ F) lv pc rest cls) (k : ∀ (r : Int32) (u : S), post r u → gW V nL (cells + mc) (slots + ms) (w' u ++ F) lv (pc + 3) (.int r :: rest)) : gW V nL cells slots ws lv pc st := by
  intro H locs ls hP hD hS hl
  subst hst
  have hd' := E.d
  have hSs : va_S (gvO V) (gvS V).heap H locs := E.h ▸ hS
  have hl' := E.la
  obtain rfl := E.r
  have hKc := E.k
  have hM' := hM H.size
  rw [hd'] at hKc
  rw [← hl'] at hM'
  have hPa := (hp (gvD V) H (gvO V)).1 hP
  have hDa := (hp (gvD V) H (gvO V)).2 hD
  have hPc : va_P (gvD V) vwCl w H := fun k q hk => hPa k q (g_app_l hk)
  have hPg : va_P (gd G) vwCl w H := by rw [← hd']; exact hPc
  have hDc : va_D (gvO V) w := ⟨fun i j p q hi hj he => hDa.1 i j p q (g_app_l hi) (g_app_l hj) he, fun k q hk => hDa.2 k q (g_app_l hk)⟩
  have hFc : ∀ q, va_A w H.size q → gvO V q := by
    rintro q (⟨k, e, hk⟩ | h)
    · exact hDc.2 k _ hk
    · exact E.o q (Nat.le_trans hS.1 h)
  refine vx_calli (vx_runV (As := As) (rest := rest) ⟨E.x, E.b, E.ml, E.ow, E.ts⟩ hM' (cwV n E.ts hG hwY rfl rfl hd hR) ⟨gPre_blind, hq ▸ va_recv E.k hPc hc he, fun U hU hW => gPre_at hU hW hPg hKc hDc E.z hSs hFc⟩ rfl hn hl.1 rfl (lv_room hr) d hf) hS (fun q _ h => hFc q h) hFc (fun q _ h => hFc q h) (fun E1 ce q9 u t H1 locs1 ht hvm hpx hB hz1 hk1 hS1 hce hcv hcl => ?_) (fun r u t H1 locs1 ht hvm hw hB hz1 hk1 hS1 => ?_)
  · obtain ⟨e9, hP1, hK1, hD1⟩ := hB
    rw [ht] at hP1
    rw [← hd'] at hP1
    have hJ := g_join hPa hDa hk1 hFc hP1 hD1
    have hcl' : (gvS V).vm.findClass u.1 = some ce.cls := by rw [← e9]; exact hcl
    exact kx u.1 u.2 hpx H1 locs1 ls q9 ce hJ.1 hJ.2 hS1 hl hce hcv hcl'
  · obtain ⟨hP1, hK1, hD1⟩ := hB
    rw [ht] at hP1
    rw [← hd'] at hP1
    have hJ := g_join hPa hDa hk1 hFc hP1 hD1
    exact k r u hw H1 locs1 ls hJ.1 hJ.2 hS1 hl
end
