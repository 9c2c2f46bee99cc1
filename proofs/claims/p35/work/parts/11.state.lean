/-! ===== the state of a prison, as both sides have it ===== -/
/-- Int32 parts; naturals; settings; bookings (fields day hour booth prisoner visitor minutes mark); wishes -/
abbrev gSt := (Nat → Nat → Int32) × ((Nat → Nat) × (Nat → Nat)) × List (Nat → Nat) × List Nat
abbrev sI (S : gSt) : Nat → Nat → Int32 := S.1
abbrev sN (S : gSt) : Nat → Nat := S.2.1.1
abbrev sS (S : gSt) : Nat → Nat := S.2.1.2
abbrev sB (S : gSt) : List (Nat → Nat) := S.2.2.1
abbrev sW (S : gSt) : List Nat := S.2.2.2
/-- the booking k of a list -/
def bk (bs : List (Nat → Nat)) (k : Nat) : Nat → Nat := bs.getD k (fun _ => 0)
theorem bk_get {bs : List (Nat → Nat)} {k : Nat} (h : k < bs.length) : bk bs k = bs[k] := by simp [bk, h]
theorem bk_mem {bs : List (Nat → Nat)} {k : Nat} (h : k < bs.length) : bk bs k ∈ bs := by rw [bk_get h]; exact List.getElem_mem h
/-- a row of cells of n fields each holds the bookings -/
def RBn (n : Nat) (bs : List (Nat → Nat)) (g : Nat → Int32) : Prop := ∀ k, k < bs.length → ∀ w, w < n → g (n * k + w) = nI (bk bs k w) ∧ bk bs k w < 1073741824
abbrev RB (bs : List (Nat → Nat)) (g : Nat → Int32) : Prop := RBn 6 bs g
/-- the wish k of a list -/
def wq (W : List Nat) (k : Nat) : Nat := W.getD k 0
def RW (ws : List Nat) (g : Nat → Int32) : Prop := ∀ k, k < ws.length → g k = nI (wq ws k) ∧ wq ws k < 1073741824
/-- bit i of x, as both programs ask for it -/
def gHb (x i : Int32) : Bool := decide ((x >>> (i &&& 31)) &&& 1 = 1)
def gWb (x i b : Int32) : Int32 := if b = 0 then x &&& ((1 <<< (i &&& 31)) ^^^ (-1)) else x ||| (1 <<< (i &&& 31))
/-- whether a booking is ahead of a time and a booth -/
def gKlt (d h t : Nat) (b : Nat → Nat) : Bool := decide (b 0 < d) || (decide (b 0 = d) && (decide (b 1 < h) || (decide (b 1 = h) && decide (b 2 < t))))
def gPlc (bs : List (Nat → Nat)) (d h t : Nat) : Nat := (bs.takeWhile (gKlt d h t)).length
theorem gPlc_of {bs : List (Nat → Nat)} {d h t k : Nat} (ha : ∀ j, j < k → gKlt d h t (bk bs j) = true) (hk : k ≤ bs.length) (he : k = bs.length ∨ gKlt d h t (bk bs k) = false) : gPlc bs d h t = k := by
  induction bs generalizing k with
  | nil => simp at hk; subst hk; rfl
  | cons b bs ih =>
    cases k with
    | zero =>
      rcases he with he | he
      · simp at he
      · simp [gPlc, List.takeWhile_cons, show gKlt d h t b = false from he]
    | succ k =>
      have h0 : gKlt d h t b = true := ha 0 (Nat.succ_pos k)
      have h1 := ih (k := k) (fun j hj => ha (j + 1) (Nat.succ_lt_succ hj)) (Nat.le_of_succ_le_succ hk) (he.imp (fun e => Nat.succ.inj e) (fun e => e))
      simp only [gPlc] at h1 ⊢
      rw [List.takeWhile_cons, h0]
      simp [h1]
theorem gPlc_le (bs : List (Nat → Nat)) (d h t : Nat) : gPlc bs d h t ≤ bs.length := by
  unfold gPlc
  exact (List.takeWhile_sublist _).length_le
/-- the values of a field in the bookings of an hour, a bit each -/
def gVih (bs : List (Nat → Nat)) (f d h : Nat) : Nat → Int32
  | 0 => 0
  | k + 1 => if bk bs k 0 = d ∧ bk bs k 1 = h then gVih bs f d h k ||| (1 <<< (nI (bk bs k f) &&& 31)) else gVih bs f d h k
def gCnt (p : Nat → Bool) : Nat → Nat
  | 0 => 0
  | n + 1 => gCnt p n + (if p n then 1 else 0)
theorem gCnt_le (p : Nat → Bool) : ∀ n, gCnt p n ≤ n
  | 0 => Nat.le_refl 0
  | n + 1 => by have := gCnt_le p n; unfold gCnt; split <;> omega
section GB
variable {V : gV} {G : gG} {cc : ByteArray} {nL : Nat} {own : String} {Ts : List Cond} {rm : Room} {cells slots : Nat} {ws : va_W} {lv : List (Nat × Value)} {pc : Nat} {rest : List Value}
theorem g_if_eqB {P : Prop} [Decidable P] {off : Int} {tgt : Nat} (E : gE V G cc nL own Ts rm) (d : decode cc pc = .ok (.ifCond .eq off, 3)) (ht : (pc : Int) + off = (tgt : Int)) (kt : ¬ P → gW V nL cells slots ws lv tgt rest) (kf : P → gW V nL cells slots ws lv (pc + 3) rest) : gW V nL cells slots ws lv pc (.int (if P then 1 else 0) :: rest) := by
  by_cases h : P
  · rw [if_pos h]; exact g_if_eq E d ht (fun c => absurd c (by decide)) (fun _ => kf h)
  · rw [if_neg h]; exact g_if_eq E d ht (fun _ => kt h) (fun c => absurd rfl c)
theorem g_if_neB {P : Prop} [Decidable P] {off : Int} {tgt : Nat} (E : gE V G cc nL own Ts rm) (d : decode cc pc = .ok (.ifCond .ne off, 3)) (ht : (pc : Int) + off = (tgt : Int)) (kt : P → gW V nL cells slots ws lv tgt rest) (kf : ¬ P → gW V nL cells slots ws lv (pc + 3) rest) : gW V nL cells slots ws lv pc (.int (if P then 1 else 0) :: rest) := by
  by_cases h : P
  · rw [if_pos h]; exact g_if_ne E d ht (fun _ => kt h) (fun c => absurd c (by decide))
  · rw [if_neg h]; exact g_if_ne E d ht (fun c => absurd rfl c) (fun _ => kf h)
theorem g_gets {i : Nat} {C n ds : String} {ty : FieldType} {l : List Int32} (E : gE V G cc nL own Ts rm) (hq : gArr[i]? = some (C, n, ds, ty, l)) {index : Nat} (hlink : Cond.fieldLink own index C n ds ∈ Ts) (d : decode cc pc = .ok (.getstatic index, 3)) (k : gW V nL cells slots ws lv (pc + 3) (.ref (gz G i) :: rest)) : gW V nL cells slots ws lv pc rest := fun H locs ls hP hD hS hl =>
  va_gets E.x E.b (E.z.2.2.1 i _ hq).1 (E.h ▸ hS) E.ow (E.ts _ hlink) (fun _ h => h) d (k H locs ls hP hD hS hl)
theorem g_ti {i : Nat} {C n ds : String} {l : List Int32} {e : Nat} {v : Int32} (E : gE V G cc nL own Ts rm) (hq : gArr[i]? = some (C, n, ds, .int, l)) (he : e < l.length) (hn : Nat.ble l.length 2147483647 = true) (hv : l.getD e 0 = v) (d : decode cc pc = .ok (.iaload, 1)) (k : gW V nL cells slots ws lv (pc + 1) (.int v :: rest)) : gW V nL cells slots ws lv pc (.int (nI e) :: .ref (gz G i) :: rest) := fun H locs ls hP hD hS hl =>
  va_ti E.x E.b (E.z.2.2.1 i _ hq).2 (E.h ▸ hS) (g_in he hn) (v := .int v) (by rw [nI_clamp (Nat.lt_trans he (g_le31 hn)), hv]) d (k H locs ls hP hD hS hl)
theorem g_tlen {i : Nat} {C n ds : String} {ty : FieldType} {l : List Int32} {v : Int32} (E : gE V G cc nL own Ts rm) (hq : gArr[i]? = some (C, n, ds, ty, l)) (hv : Int32.ofNat l.length = v) (d : decode cc pc = .ok (.arraylength, 1)) (k : gW V nL cells slots ws lv (pc + 1) (.int v :: rest)) : gW V nL cells slots ws lv pc (.ref (gz G i) :: rest) := fun H locs ls hP hD hS hl =>
  va_tlen E.x E.b (E.z.2.2.1 i _ hq).2 (E.h ▸ hS) hv d (k H locs ls hP hD hS hl)
theorem gPerm_arr {q a n : Nat} {c : ClassId} {f g : Nat → Int32} (hq : ws[q]? = some (a, .inl (c, n, .inl f))) (h : ∀ j, j < n → f j = g j) {ws' : va_W} (hw : ws.set q (a, .inl (c, n, .inl g)) = ws') : gPerm ws ws' := by
  subst hw
  refine fun D H A => ⟨fun hP k r hk => ?_, fun hD => hD.set hq⟩
  by_cases hkq : k = q
  · subst hkq
    rw [List.getElem?_set_self (List.getElem?_eq_some_iff.mp hq).1] at hk
    cases hk
    have h1 : H[a]? = some (vp_cell c (n, .inl f)) := hP k _ hq
    show H[a]? = some (vp_cell c (n, .inl g))
    rw [h1, g_arr_congr h]
  · rw [List.getElem?_set_ne (Ne.symm hkq)] at hk
    exact hP k r hk
theorem g_resI {y : MethodName} {wsY : List Cond} {fr lo mc ms : Nat} {av : List Value} {w w' : va_W} {r r' : Int32} (h : r = r') (k : CIe G y wsY fr lo av w r w' mc ms) : CIe G y wsY fr lo av w r' w' mc ms := h ▸ k
end GB
